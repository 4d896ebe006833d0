set_option maxRecDepth 20000 in
theorem ggX6_needPlace_X6_isPlace : GoodIn wsX6_needPlace wsX6_isPlace := goodIn_r _ [6] (by decide +kernel) (by decide +kernel)
set_option maxRecDepth 20000 in
theorem gX6_needPlace_X6_isPlace : GoodIn wsX6_needPlace (va_wsS RX6 289 yX6_isPlace wsX6_isPlace) := goodIn_app (goodIn_of _ (by decide +kernel)) ggX6_needPlace_X6_isPlace
set_option maxRecDepth 20000 in
theorem ggX6_needExposure_X6_needRange : GoodIn wsX6_needExposure wsX6_needRange := goodIn_ca (goodIn_r _ [4, 5, 6] (by decide +kernel) (by decide +kernel)) (goodIn_sub (fun _ h => List.mem_cons_of_mem _ (List.mem_append_right _ h)) (by decide +kernel))
set_option maxRecDepth 20000 in
theorem gX6_needExposure_X6_needRange : GoodIn wsX6_needExposure (va_wsS RX6 70 yX6_needRange wsX6_needRange) := goodIn_app (goodIn_of _ (by decide +kernel)) ggX6_needExposure_X6_needRange
/-! THE STATE: edits (kinds, numbers, how many), a frame (RAW, edits, TIME, GAIN, GHOSTS), a file (edits, frame, version), a camera -/
abbrev Er : Type := (Nat → Nat) × (Nat → Nat) × Nat
abbrev Fr : Type := (Nat → Nat) × Er × Int32 × Int32 × Int32
abbrev Fi : Type := Er × Nat × Nat
abbrev Pi2 : Type := (Nat → UInt32) × (Nat → Nat)
abbrev St : Type := (Nat → Nat) × (Nat → UInt32) × Nat × (Nat → Nat) × (Nat → Bool) × Nat × Nat × Nat × (Nat → Fr) × (Nat → Fi)
abbrev sSh (S : St) := S.1
abbrev sFac (S : St) := S.2.1
abbrev sGq (S : St) := S.2.2.1
abbrev sHw (S : St) := S.2.2.2.1
abbrev sMp (S : St) := S.2.2.2.2.1
abbrev sDr (S : St) := S.2.2.2.2.2.1
abbrev sFn (S : St) := S.2.2.2.2.2.2.1
abbrev sFl (S : St) := S.2.2.2.2.2.2.2.1
abbrev sFr (S : St) := S.2.2.2.2.2.2.2.2.1
abbrev sFi (S : St) := S.2.2.2.2.2.2.2.2.2
abbrev mkS (sh : Nat → Nat) (fac : Nat → UInt32) (gq : Nat) (hw : Nat → Nat) (mp : Nat → Bool) (dr fn fl : Nat) (fr : Nat → Fr) (fi : Nat → Fi) : St := (sh, fac, gq, hw, mp, dr, fn, fl, fr, fi)
def isEr (G : iG) (ad : Nat → Nat) (C : Nat → va_E) (b : Nat) (E : Er) : Prop := C b = ob 0 [.ref (ad (b + 1)), .ref (ad (b + 2)), .int (nI E.2.2)] ∧ C (b + 1) = ia G 6 (fun i => nI (E.1 i)) ∧ C (b + 2) = ia G 6 (fun i => nI (E.2.1 i))
def isFr (G : iG) (ad : Nat → Nat) (C : Nat → va_E) (b : Nat) (F : Fr) : Prop := C b = ob 1 [.ref (ad (b + 1)), .ref (ad (b + 2)), .int F.2.2.1, .int F.2.2.2.1, .int F.2.2.2.2] ∧ C (b + 1) = ia G 64 (fun i => nI (F.1 i)) ∧ isEr G ad C (b + 2) F.2.1
def isFi (G : iG) (ad : Nat → Nat) (C : Nat → va_E) (b : Nat) (F : Fi) : Prop := C b = ob 5 [.ref (ad (b + 1)), .int (nI F.2.1), .int (nI F.2.2)] ∧ isEr G ad C (b + 1) F.1
def isPi (G : iG) (ad : Nat → Nat) (C : Nat → va_E) (b : Nat) (P : Pi2) : Prop := C b = ob 2 [.ref (ad (b + 1)), .ref (ad (b + 2))] ∧ C (b + 1) = fa G 192 P.1 ∧ C (b + 2) = ia G 64 (fun i => nI (P.2 i))
def okEr (E : Er) : Prop := E.2.2 ≤ 6 ∧ ∀ i, i < E.2.2 → okE (E.1 i) (E.2.1 i)
def okFr (F : Fr) : Prop := (∀ i, i < 64 → F.1 i ≤ 255) ∧ okEr F.2.1
def okFi (F : Fi) : Prop := okEr F.1 ∧ F.2.1 < 6
def okS (S : St) : Prop := (∀ i, i < 192 → sSh S i < 256) ∧ (∀ k, k < 3 → fin32 (sFac S k)) ∧ sGq S < 17 ∧ (∀ i, i < 64 → sHw S i < 3) ∧ sDr S < 61 ∧ sFn S ≤ 6 ∧ sFl S ≤ 6 ∧ (∀ k, k < 6 → okFr (sFr S k)) ∧ (∀ k, k < 6 → okFi (sFi S k))
/-- a camera whose cells are o, o + 1 .. o + 73 -/
def Cam (G : iG) (N : Nat) (ad : Nat → Nat) (C : Nat → va_E) (o : Nat) (S : St) : Prop :=
  o + 74 ≤ N ∧ okS S ∧ C o = ob 6 [.ref (ad (o + 1)), .ref (ad (o + 4)), .ref (ad (o + 7)), .ref (ad (o + 8)), .int (nI (sFn S)), .int (nI (sFl S)), .ref (ad (o + 9)), .ref (ad (o + 14)), .ref (ad (o + 17))] ∧
  (C (o + 1) = ob 3 [.ref (ad (o + 2)), .ref (ad (o + 3)), .int (nI (sGq S))] ∧ C (o + 2) = ia G 192 (fun i => nI (sSh S i)) ∧ C (o + 3) = fa G 3 (sFac S)) ∧
  (C (o + 4) = ob 4 [.ref (ad (o + 5)), .ref (ad (o + 6)), .int (nI (sDr S))] ∧ C (o + 5) = ia G 64 (fun i => nI (sHw S i)) ∧ C (o + 6) = za G 64 (bI (sMp S))) ∧
  (∃ F7 : Nat → Option Nat, C (o + 7) = ra G 3 6 F7 ∧ ∀ k, k < 6 → F7 k = some (ad (o + 20 + 5 * k))) ∧ (∃ F8 : Nat → Option Nat, C (o + 8) = ra G 4 6 F8 ∧ ∀ k, k < 6 → F8 k = some (ad (o + 50 + 4 * k))) ∧
  (∃ F : Fr, isFr G ad C (o + 9) F) ∧ (∃ P : Pi2, isPi G ad C (o + 14) P) ∧ (∃ P : Pi2, isPi G ad C (o + 17) P) ∧
  (∀ k, k < 6 → isFr G ad C (o + 20 + 5 * k) (sFr S k)) ∧ (∀ k, k < 6 → isFi G ad C (o + 50 + 4 * k) (sFi S k))
def same (C u : Nat → va_E) (o : Nat) : Prop := ∀ i, i < o ∨ o + 74 ≤ i → u i = C i
theorem same_rf {C : Nat → va_E} {o : Nat} : same C C o := fun _ _ => rfl
theorem same_up {C u : Nat → va_E} {o j : Nat} (h : same C u o) (e : va_E) (h1 : o ≤ j) (h2 : j < o + 74) : same C (va_up u j e) o := fun i hi => (va_un _ _ (by omega)).trans (h i hi)
theorem isEr_up {G : iG} {ad : Nat → Nat} {C : Nat → va_E} {b : Nat} {E : Er} (h : isEr G ad C b E) {j : Nat} {e : va_E} (hj : j < b ∨ b + 3 ≤ j) : isEr G ad (va_up C j e) b E := ⟨(va_un _ _ (by omega)).trans h.1, (va_un _ _ (by omega)).trans h.2.1, (va_un _ _ (by omega)).trans h.2.2⟩
theorem isFr_up {G : iG} {ad : Nat → Nat} {C : Nat → va_E} {b : Nat} {F : Fr} (h : isFr G ad C b F) {j : Nat} {e : va_E} (hj : j < b ∨ b + 5 ≤ j) : isFr G ad (va_up C j e) b F := ⟨(va_un _ _ (by omega)).trans h.1, (va_un _ _ (by omega)).trans h.2.1, isEr_up h.2.2 (by omega)⟩
theorem isFi_up {G : iG} {ad : Nat → Nat} {C : Nat → va_E} {b : Nat} {F : Fi} (h : isFi G ad C b F) {j : Nat} {e : va_E} (hj : j < b ∨ b + 4 ≤ j) : isFi G ad (va_up C j e) b F := ⟨(va_un _ _ (by omega)).trans h.1, isEr_up h.2 (by omega)⟩
theorem isPi_up {G : iG} {ad : Nat → Nat} {C : Nat → va_E} {b : Nat} {P : Pi2} (h : isPi G ad C b P) {j : Nat} {e : va_E} (hj : j < b ∨ b + 3 ≤ j) : isPi G ad (va_up C j e) b P := ⟨(va_un _ _ (by omega)).trans h.1, (va_un _ _ (by omega)).trans h.2.1, (va_un _ _ (by omega)).trans h.2.2⟩
theorem Cam_same {G : iG} {N : Nat} {ad : Nat → Nat} {C u : Nat → va_E} {o : Nat} {S : St} (h : Cam G N ad C o S) (hs : ∀ i, o ≤ i → i < o + 74 → u i = C i) : Cam G N ad u o S := by
  obtain ⟨hN, hok, h0, ⟨s1, s2, s3⟩, ⟨e1, e2, e3⟩, ⟨F7, h7, hF7⟩, ⟨F8, h8, hF8⟩, ⟨TF, t1, t2, t3, t4, t5⟩, ⟨TD, d1, d2, d3⟩, ⟨TC, c1, c2, c3⟩, hfr, hfi⟩ := h
  refine ⟨hN, hok, (hs _ (by omega) (by omega)).trans h0, ⟨(hs _ (by omega) (by omega)).trans s1, (hs _ (by omega) (by omega)).trans s2, (hs _ (by omega) (by omega)).trans s3⟩, ⟨(hs _ (by omega) (by omega)).trans e1, (hs _ (by omega) (by omega)).trans e2, (hs _ (by omega) (by omega)).trans e3⟩, ⟨F7, (hs _ (by omega) (by omega)).trans h7, hF7⟩, ⟨F8, (hs _ (by omega) (by omega)).trans h8, hF8⟩, ⟨TF, (hs _ (by omega) (by omega)).trans t1, (hs _ (by omega) (by omega)).trans t2, (hs _ (by omega) (by omega)).trans t3, (hs _ (by omega) (by omega)).trans t4, (hs _ (by omega) (by omega)).trans t5⟩, ⟨TD, (hs _ (by omega) (by omega)).trans d1, (hs _ (by omega) (by omega)).trans d2, (hs _ (by omega) (by omega)).trans d3⟩, ⟨TC, (hs _ (by omega) (by omega)).trans c1, (hs _ (by omega) (by omega)).trans c2, (hs _ (by omega) (by omega)).trans c3⟩, fun k hk => ?_, fun k hk => ?_⟩
  · obtain ⟨t1, t2, t3, t4, t5⟩ := hfr k hk
    exact ⟨(hs _ (by omega) (by omega)).trans t1, (hs _ (by omega) (by omega)).trans t2, (hs _ (by omega) (by omega)).trans t3, (hs _ (by omega) (by omega)).trans t4, (hs _ (by omega) (by omega)).trans t5⟩
  · obtain ⟨t1, t2, t3, t4⟩ := hfi k hk
    exact ⟨(hs _ (by omega) (by omega)).trans t1, (hs _ (by omega) (by omega)).trans t2, (hs _ (by omega) (by omega)).trans t3, (hs _ (by omega) (by omega)).trans t4⟩
theorem up_sh {G : iG} {N : Nat} {ad : Nat → Nat} {C : Nat → va_E} {o : Nat} {S : St} (h : Cam G N ad C o S) {sh : Nat → Nat} (hv : ∀ i, i < 192 → sh i < 256) : Cam G N ad (va_up C (o + 2) (ia G 192 (fun i => nI (sh i)))) o (mkS (sh) (sFac S) (sGq S) (sHw S) (sMp S) (sDr S) (sFn S) (sFl S) (sFr S) (sFi S)) := by
  obtain ⟨hN, ⟨ok1, ok2, ok3, ok4, ok5, ok6, ok7, ok8, ok9⟩, h0, ⟨s1, s2, s3⟩, ⟨e1, e2, e3⟩, ⟨F7, h7, hF7⟩, ⟨F8, h8, hF8⟩, ⟨TF, h9⟩, ⟨TD, h14⟩, ⟨TC, h17⟩, hfr, hfi⟩ := h
  exact ⟨hN, ⟨hv, ok2, ok3, ok4, ok5, ok6, ok7, ok8, ok9⟩, (va_un _ _ (by omega)).trans h0, ⟨(va_un _ _ (by omega)).trans s1, va_us _ _ _, (va_un _ _ (by omega)).trans s3⟩, ⟨(va_un _ _ (by omega)).trans e1, (va_un _ _ (by omega)).trans e2, (va_un _ _ (by omega)).trans e3⟩, ⟨F7, (va_un _ _ (by omega)).trans h7, hF7⟩, ⟨F8, (va_un _ _ (by omega)).trans h8, hF8⟩, ⟨TF, isFr_up h9 (by omega)⟩, ⟨TD, isPi_up h14 (by omega)⟩, ⟨TC, isPi_up h17 (by omega)⟩, fun i hi => isFr_up (hfr i hi) (by omega), fun i hi => isFi_up (hfi i hi) (by omega)⟩
theorem up_fac {G : iG} {N : Nat} {ad : Nat → Nat} {C : Nat → va_E} {o : Nat} {S : St} (h : Cam G N ad C o S) {fac : Nat → UInt32} (hv : ∀ k, k < 3 → fin32 (fac k)) : Cam G N ad (va_up C (o + 3) (fa G 3 fac)) o (mkS (sSh S) (fac) (sGq S) (sHw S) (sMp S) (sDr S) (sFn S) (sFl S) (sFr S) (sFi S)) := by
  obtain ⟨hN, ⟨ok1, ok2, ok3, ok4, ok5, ok6, ok7, ok8, ok9⟩, h0, ⟨s1, s2, s3⟩, ⟨e1, e2, e3⟩, ⟨F7, h7, hF7⟩, ⟨F8, h8, hF8⟩, ⟨TF, h9⟩, ⟨TD, h14⟩, ⟨TC, h17⟩, hfr, hfi⟩ := h
  exact ⟨hN, ⟨ok1, hv, ok3, ok4, ok5, ok6, ok7, ok8, ok9⟩, (va_un _ _ (by omega)).trans h0, ⟨(va_un _ _ (by omega)).trans s1, (va_un _ _ (by omega)).trans s2, va_us _ _ _⟩, ⟨(va_un _ _ (by omega)).trans e1, (va_un _ _ (by omega)).trans e2, (va_un _ _ (by omega)).trans e3⟩, ⟨F7, (va_un _ _ (by omega)).trans h7, hF7⟩, ⟨F8, (va_un _ _ (by omega)).trans h8, hF8⟩, ⟨TF, isFr_up h9 (by omega)⟩, ⟨TD, isPi_up h14 (by omega)⟩, ⟨TC, isPi_up h17 (by omega)⟩, fun i hi => isFr_up (hfr i hi) (by omega), fun i hi => isFi_up (hfi i hi) (by omega)⟩
theorem up_gq {G : iG} {N : Nat} {ad : Nat → Nat} {C : Nat → va_E} {o : Nat} {S : St} (h : Cam G N ad C o S) {g : Nat} (hv : g < 17) : Cam G N ad (va_up C (o + 1) (ob 3 [.ref (ad (o + 2)), .ref (ad (o + 3)), .int (nI g)])) o (mkS (sSh S) (sFac S) (g) (sHw S) (sMp S) (sDr S) (sFn S) (sFl S) (sFr S) (sFi S)) := by
  obtain ⟨hN, ⟨ok1, ok2, ok3, ok4, ok5, ok6, ok7, ok8, ok9⟩, h0, ⟨s1, s2, s3⟩, ⟨e1, e2, e3⟩, ⟨F7, h7, hF7⟩, ⟨F8, h8, hF8⟩, ⟨TF, h9⟩, ⟨TD, h14⟩, ⟨TC, h17⟩, hfr, hfi⟩ := h
  exact ⟨hN, ⟨ok1, ok2, hv, ok4, ok5, ok6, ok7, ok8, ok9⟩, (va_un _ _ (by omega)).trans h0, ⟨va_us _ _ _, (va_un _ _ (by omega)).trans s2, (va_un _ _ (by omega)).trans s3⟩, ⟨(va_un _ _ (by omega)).trans e1, (va_un _ _ (by omega)).trans e2, (va_un _ _ (by omega)).trans e3⟩, ⟨F7, (va_un _ _ (by omega)).trans h7, hF7⟩, ⟨F8, (va_un _ _ (by omega)).trans h8, hF8⟩, ⟨TF, isFr_up h9 (by omega)⟩, ⟨TD, isPi_up h14 (by omega)⟩, ⟨TC, isPi_up h17 (by omega)⟩, fun i hi => isFr_up (hfr i hi) (by omega), fun i hi => isFi_up (hfi i hi) (by omega)⟩
theorem up_hw {G : iG} {N : Nat} {ad : Nat → Nat} {C : Nat → va_E} {o : Nat} {S : St} (h : Cam G N ad C o S) {hw : Nat → Nat} (hv : ∀ i, i < 64 → hw i < 3) : Cam G N ad (va_up C (o + 5) (ia G 64 (fun i => nI (hw i)))) o (mkS (sSh S) (sFac S) (sGq S) (hw) (sMp S) (sDr S) (sFn S) (sFl S) (sFr S) (sFi S)) := by
  obtain ⟨hN, ⟨ok1, ok2, ok3, ok4, ok5, ok6, ok7, ok8, ok9⟩, h0, ⟨s1, s2, s3⟩, ⟨e1, e2, e3⟩, ⟨F7, h7, hF7⟩, ⟨F8, h8, hF8⟩, ⟨TF, h9⟩, ⟨TD, h14⟩, ⟨TC, h17⟩, hfr, hfi⟩ := h
  exact ⟨hN, ⟨ok1, ok2, ok3, hv, ok5, ok6, ok7, ok8, ok9⟩, (va_un _ _ (by omega)).trans h0, ⟨(va_un _ _ (by omega)).trans s1, (va_un _ _ (by omega)).trans s2, (va_un _ _ (by omega)).trans s3⟩, ⟨(va_un _ _ (by omega)).trans e1, va_us _ _ _, (va_un _ _ (by omega)).trans e3⟩, ⟨F7, (va_un _ _ (by omega)).trans h7, hF7⟩, ⟨F8, (va_un _ _ (by omega)).trans h8, hF8⟩, ⟨TF, isFr_up h9 (by omega)⟩, ⟨TD, isPi_up h14 (by omega)⟩, ⟨TC, isPi_up h17 (by omega)⟩, fun i hi => isFr_up (hfr i hi) (by omega), fun i hi => isFi_up (hfi i hi) (by omega)⟩
theorem up_mp {G : iG} {N : Nat} {ad : Nat → Nat} {C : Nat → va_E} {o : Nat} {S : St} (h : Cam G N ad C o S) (mp : Nat → Bool) : Cam G N ad (va_up C (o + 6) (za G 64 (bI mp))) o (mkS (sSh S) (sFac S) (sGq S) (sHw S) (mp) (sDr S) (sFn S) (sFl S) (sFr S) (sFi S)) := by
  obtain ⟨hN, ⟨ok1, ok2, ok3, ok4, ok5, ok6, ok7, ok8, ok9⟩, h0, ⟨s1, s2, s3⟩, ⟨e1, e2, e3⟩, ⟨F7, h7, hF7⟩, ⟨F8, h8, hF8⟩, ⟨TF, h9⟩, ⟨TD, h14⟩, ⟨TC, h17⟩, hfr, hfi⟩ := h
  exact ⟨hN, ⟨ok1, ok2, ok3, ok4, ok5, ok6, ok7, ok8, ok9⟩, (va_un _ _ (by omega)).trans h0, ⟨(va_un _ _ (by omega)).trans s1, (va_un _ _ (by omega)).trans s2, (va_un _ _ (by omega)).trans s3⟩, ⟨(va_un _ _ (by omega)).trans e1, (va_un _ _ (by omega)).trans e2, va_us _ _ _⟩, ⟨F7, (va_un _ _ (by omega)).trans h7, hF7⟩, ⟨F8, (va_un _ _ (by omega)).trans h8, hF8⟩, ⟨TF, isFr_up h9 (by omega)⟩, ⟨TD, isPi_up h14 (by omega)⟩, ⟨TC, isPi_up h17 (by omega)⟩, fun i hi => isFr_up (hfr i hi) (by omega), fun i hi => isFi_up (hfi i hi) (by omega)⟩
theorem up_dr {G : iG} {N : Nat} {ad : Nat → Nat} {C : Nat → va_E} {o : Nat} {S : St} (h : Cam G N ad C o S) {d : Nat} (hv : d < 61) : Cam G N ad (va_up C (o + 4) (ob 4 [.ref (ad (o + 5)), .ref (ad (o + 6)), .int (nI d)])) o (mkS (sSh S) (sFac S) (sGq S) (sHw S) (sMp S) (d) (sFn S) (sFl S) (sFr S) (sFi S)) := by
  obtain ⟨hN, ⟨ok1, ok2, ok3, ok4, ok5, ok6, ok7, ok8, ok9⟩, h0, ⟨s1, s2, s3⟩, ⟨e1, e2, e3⟩, ⟨F7, h7, hF7⟩, ⟨F8, h8, hF8⟩, ⟨TF, h9⟩, ⟨TD, h14⟩, ⟨TC, h17⟩, hfr, hfi⟩ := h
  exact ⟨hN, ⟨ok1, ok2, ok3, ok4, hv, ok6, ok7, ok8, ok9⟩, (va_un _ _ (by omega)).trans h0, ⟨(va_un _ _ (by omega)).trans s1, (va_un _ _ (by omega)).trans s2, (va_un _ _ (by omega)).trans s3⟩, ⟨va_us _ _ _, (va_un _ _ (by omega)).trans e2, (va_un _ _ (by omega)).trans e3⟩, ⟨F7, (va_un _ _ (by omega)).trans h7, hF7⟩, ⟨F8, (va_un _ _ (by omega)).trans h8, hF8⟩, ⟨TF, isFr_up h9 (by omega)⟩, ⟨TD, isPi_up h14 (by omega)⟩, ⟨TC, isPi_up h17 (by omega)⟩, fun i hi => isFr_up (hfr i hi) (by omega), fun i hi => isFi_up (hfi i hi) (by omega)⟩
theorem up_fn {G : iG} {N : Nat} {ad : Nat → Nat} {C : Nat → va_E} {o : Nat} {S : St} (h : Cam G N ad C o S) {n : Nat} (hv : n ≤ 6) : Cam G N ad (va_up C (o) (ob 6 [.ref (ad (o + 1)), .ref (ad (o + 4)), .ref (ad (o + 7)), .ref (ad (o + 8)), .int (nI n), .int (nI (sFl S)), .ref (ad (o + 9)), .ref (ad (o + 14)), .ref (ad (o + 17))])) o (mkS (sSh S) (sFac S) (sGq S) (sHw S) (sMp S) (sDr S) (n) (sFl S) (sFr S) (sFi S)) := by
  obtain ⟨hN, ⟨ok1, ok2, ok3, ok4, ok5, ok6, ok7, ok8, ok9⟩, h0, ⟨s1, s2, s3⟩, ⟨e1, e2, e3⟩, ⟨F7, h7, hF7⟩, ⟨F8, h8, hF8⟩, ⟨TF, h9⟩, ⟨TD, h14⟩, ⟨TC, h17⟩, hfr, hfi⟩ := h
  exact ⟨hN, ⟨ok1, ok2, ok3, ok4, ok5, hv, ok7, ok8, ok9⟩, va_us _ _ _, ⟨(va_un _ _ (by omega)).trans s1, (va_un _ _ (by omega)).trans s2, (va_un _ _ (by omega)).trans s3⟩, ⟨(va_un _ _ (by omega)).trans e1, (va_un _ _ (by omega)).trans e2, (va_un _ _ (by omega)).trans e3⟩, ⟨F7, (va_un _ _ (by omega)).trans h7, hF7⟩, ⟨F8, (va_un _ _ (by omega)).trans h8, hF8⟩, ⟨TF, isFr_up h9 (by omega)⟩, ⟨TD, isPi_up h14 (by omega)⟩, ⟨TC, isPi_up h17 (by omega)⟩, fun i hi => isFr_up (hfr i hi) (by omega), fun i hi => isFi_up (hfi i hi) (by omega)⟩
theorem up_fl {G : iG} {N : Nat} {ad : Nat → Nat} {C : Nat → va_E} {o : Nat} {S : St} (h : Cam G N ad C o S) {n : Nat} (hv : n ≤ 6) : Cam G N ad (va_up C (o) (ob 6 [.ref (ad (o + 1)), .ref (ad (o + 4)), .ref (ad (o + 7)), .ref (ad (o + 8)), .int (nI (sFn S)), .int (nI n), .ref (ad (o + 9)), .ref (ad (o + 14)), .ref (ad (o + 17))])) o (mkS (sSh S) (sFac S) (sGq S) (sHw S) (sMp S) (sDr S) (sFn S) (n) (sFr S) (sFi S)) := by
  obtain ⟨hN, ⟨ok1, ok2, ok3, ok4, ok5, ok6, ok7, ok8, ok9⟩, h0, ⟨s1, s2, s3⟩, ⟨e1, e2, e3⟩, ⟨F7, h7, hF7⟩, ⟨F8, h8, hF8⟩, ⟨TF, h9⟩, ⟨TD, h14⟩, ⟨TC, h17⟩, hfr, hfi⟩ := h
  exact ⟨hN, ⟨ok1, ok2, ok3, ok4, ok5, ok6, hv, ok8, ok9⟩, va_us _ _ _, ⟨(va_un _ _ (by omega)).trans s1, (va_un _ _ (by omega)).trans s2, (va_un _ _ (by omega)).trans s3⟩, ⟨(va_un _ _ (by omega)).trans e1, (va_un _ _ (by omega)).trans e2, (va_un _ _ (by omega)).trans e3⟩, ⟨F7, (va_un _ _ (by omega)).trans h7, hF7⟩, ⟨F8, (va_un _ _ (by omega)).trans h8, hF8⟩, ⟨TF, isFr_up h9 (by omega)⟩, ⟨TD, isPi_up h14 (by omega)⟩, ⟨TC, isPi_up h17 (by omega)⟩, fun i hi => isFr_up (hfr i hi) (by omega), fun i hi => isFi_up (hfi i hi) (by omega)⟩
theorem up_fraw {G : iG} {N : Nat} {ad : Nat → Nat} {C : Nat → va_E} {o : Nat} {S : St} (h : Cam G N ad C o S) {k : Nat} (hk : k < 6) {rw : Nat → Nat} (hv : ∀ i, i < 64 → rw i ≤ 255) : Cam G N ad (va_up C (o + 20 + 5 * k + 1) (ia G 64 (fun i => nI (rw i)))) o (mkS (sSh S) (sFac S) (sGq S) (sHw S) (sMp S) (sDr S) (sFn S) (sFl S) (va_up (sFr S) k (rw, (sFr S k).2)) (sFi S)) := by
  obtain ⟨hN, ⟨ok1, ok2, ok3, ok4, ok5, ok6, ok7, ok8, ok9⟩, h0, ⟨s1, s2, s3⟩, ⟨e1, e2, e3⟩, ⟨F7, h7, hF7⟩, ⟨F8, h8, hF8⟩, ⟨TF, h9⟩, ⟨TD, h14⟩, ⟨TC, h17⟩, hfr, hfi⟩ := h
  exact ⟨hN, ⟨ok1, ok2, ok3, ok4, ok5, ok6, ok7, fun i hi => by
    by_cases e : i = k
    · subst e
      show okFr (va_up (sFr S) i _ i)
      rw [va_us]
      obtain ⟨b1, b2, b3⟩ := ok8 i hi
      exact ⟨hv, b2, b3⟩
    · show okFr (va_up (sFr S) k _ i)
      rw [va_un _ _ e]
      exact ok8 i hi, ok9⟩, (va_un _ _ (by omega)).trans h0, ⟨(va_un _ _ (by omega)).trans s1, (va_un _ _ (by omega)).trans s2, (va_un _ _ (by omega)).trans s3⟩, ⟨(va_un _ _ (by omega)).trans e1, (va_un _ _ (by omega)).trans e2, (va_un _ _ (by omega)).trans e3⟩, ⟨F7, (va_un _ _ (by omega)).trans h7, hF7⟩, ⟨F8, (va_un _ _ (by omega)).trans h8, hF8⟩, ⟨TF, isFr_up h9 (by omega)⟩, ⟨TD, isPi_up h14 (by omega)⟩, ⟨TC, isPi_up h17 (by omega)⟩, fun i hi => by
    by_cases e : i = k
    · subst e
      show isFr G ad _ _ (va_up (sFr S) i _ i)
      rw [va_us]
      obtain ⟨a1, a2, a3, a4, a5⟩ := hfr i hi
      exact ⟨(va_un _ _ (by omega)).trans a1, va_us _ _ _, (va_un _ _ (by omega)).trans a3, (va_un _ _ (by omega)).trans a4, (va_un _ _ (by omega)).trans a5⟩
    · show isFr G ad _ _ (va_up (sFr S) k _ i)
      rw [va_un _ _ e]
      exact isFr_up (hfr i hi) (by omega), fun i hi => isFi_up (hfi i hi) (by omega)⟩
theorem up_fobj {G : iG} {N : Nat} {ad : Nat → Nat} {C : Nat → va_E} {o : Nat} {S : St} (h : Cam G N ad C o S) {k : Nat} (hk : k < 6) (t g q : Int32) : Cam G N ad (va_up C (o + 20 + 5 * k) (ob 1 [.ref (ad (o + 20 + 5 * k + 1)), .ref (ad (o + 20 + 5 * k + 2)), .int t, .int g, .int q])) o (mkS (sSh S) (sFac S) (sGq S) (sHw S) (sMp S) (sDr S) (sFn S) (sFl S) (va_up (sFr S) k ((sFr S k).1, (sFr S k).2.1, t, g, q)) (sFi S)) := by
  obtain ⟨hN, ⟨ok1, ok2, ok3, ok4, ok5, ok6, ok7, ok8, ok9⟩, h0, ⟨s1, s2, s3⟩, ⟨e1, e2, e3⟩, ⟨F7, h7, hF7⟩, ⟨F8, h8, hF8⟩, ⟨TF, h9⟩, ⟨TD, h14⟩, ⟨TC, h17⟩, hfr, hfi⟩ := h
  exact ⟨hN, ⟨ok1, ok2, ok3, ok4, ok5, ok6, ok7, fun i hi => by
    by_cases e : i = k
    · subst e
      show okFr (va_up (sFr S) i _ i)
      rw [va_us]
      obtain ⟨b1, b2, b3⟩ := ok8 i hi
      exact ⟨b1, b2, b3⟩
    · show okFr (va_up (sFr S) k _ i)
      rw [va_un _ _ e]
      exact ok8 i hi, ok9⟩, (va_un _ _ (by omega)).trans h0, ⟨(va_un _ _ (by omega)).trans s1, (va_un _ _ (by omega)).trans s2, (va_un _ _ (by omega)).trans s3⟩, ⟨(va_un _ _ (by omega)).trans e1, (va_un _ _ (by omega)).trans e2, (va_un _ _ (by omega)).trans e3⟩, ⟨F7, (va_un _ _ (by omega)).trans h7, hF7⟩, ⟨F8, (va_un _ _ (by omega)).trans h8, hF8⟩, ⟨TF, isFr_up h9 (by omega)⟩, ⟨TD, isPi_up h14 (by omega)⟩, ⟨TC, isPi_up h17 (by omega)⟩, fun i hi => by
    by_cases e : i = k
    · subst e
      show isFr G ad _ _ (va_up (sFr S) i _ i)
      rw [va_us]
      obtain ⟨a1, a2, a3, a4, a5⟩ := hfr i hi
      exact ⟨va_us _ _ _, (va_un _ _ (by omega)).trans a2, (va_un _ _ (by omega)).trans a3, (va_un _ _ (by omega)).trans a4, (va_un _ _ (by omega)).trans a5⟩
    · show isFr G ad _ _ (va_up (sFr S) k _ i)
      rw [va_un _ _ e]
      exact isFr_up (hfr i hi) (by omega), fun i hi => isFi_up (hfi i hi) (by omega)⟩
theorem up_fkin {G : iG} {N : Nat} {ad : Nat → Nat} {C : Nat → va_E} {o : Nat} {S : St} (h : Cam G N ad C o S) {k : Nat} (hk : k < 6) {kk : Nat → Nat} (hv : ∀ i, i < (sFr S k).2.1.2.2 → kk i = (sFr S k).2.1.1 i) : Cam G N ad (va_up C (o + 20 + 5 * k + 2 + 1) (ia G 6 (fun i => nI (kk i)))) o (mkS (sSh S) (sFac S) (sGq S) (sHw S) (sMp S) (sDr S) (sFn S) (sFl S) (va_up (sFr S) k ((sFr S k).1, (kk, (sFr S k).2.1.2), (sFr S k).2.2)) (sFi S)) := by
  obtain ⟨hN, ⟨ok1, ok2, ok3, ok4, ok5, ok6, ok7, ok8, ok9⟩, h0, ⟨s1, s2, s3⟩, ⟨e1, e2, e3⟩, ⟨F7, h7, hF7⟩, ⟨F8, h8, hF8⟩, ⟨TF, h9⟩, ⟨TD, h14⟩, ⟨TC, h17⟩, hfr, hfi⟩ := h
  exact ⟨hN, ⟨ok1, ok2, ok3, ok4, ok5, ok6, ok7, fun i hi => by
    by_cases e : i = k
    · subst e
      show okFr (va_up (sFr S) i _ i)
      rw [va_us]
      obtain ⟨b1, b2, b3⟩ := ok8 i hi
      exact ⟨b1, b2, fun q hq => by show okE (kk q) _; rw [hv q hq]; exact b3 q hq⟩
    · show okFr (va_up (sFr S) k _ i)
      rw [va_un _ _ e]
      exact ok8 i hi, ok9⟩, (va_un _ _ (by omega)).trans h0, ⟨(va_un _ _ (by omega)).trans s1, (va_un _ _ (by omega)).trans s2, (va_un _ _ (by omega)).trans s3⟩, ⟨(va_un _ _ (by omega)).trans e1, (va_un _ _ (by omega)).trans e2, (va_un _ _ (by omega)).trans e3⟩, ⟨F7, (va_un _ _ (by omega)).trans h7, hF7⟩, ⟨F8, (va_un _ _ (by omega)).trans h8, hF8⟩, ⟨TF, isFr_up h9 (by omega)⟩, ⟨TD, isPi_up h14 (by omega)⟩, ⟨TC, isPi_up h17 (by omega)⟩, fun i hi => by
    by_cases e : i = k
    · subst e
      show isFr G ad _ _ (va_up (sFr S) i _ i)
      rw [va_us]
      obtain ⟨a1, a2, a3, a4, a5⟩ := hfr i hi
      exact ⟨(va_un _ _ (by omega)).trans a1, (va_un _ _ (by omega)).trans a2, (va_un _ _ (by omega)).trans a3, va_us _ _ _, (va_un _ _ (by omega)).trans a5⟩
    · show isFr G ad _ _ (va_up (sFr S) k _ i)
      rw [va_un _ _ e]
      exact isFr_up (hfr i hi) (by omega), fun i hi => isFi_up (hfi i hi) (by omega)⟩
theorem up_fnum {G : iG} {N : Nat} {ad : Nat → Nat} {C : Nat → va_E} {o : Nat} {S : St} (h : Cam G N ad C o S) {k : Nat} (hk : k < 6) {nn : Nat → Nat} (hv : ∀ i, i < (sFr S k).2.1.2.2 → nn i = (sFr S k).2.1.2.1 i) : Cam G N ad (va_up C (o + 20 + 5 * k + 2 + 2) (ia G 6 (fun i => nI (nn i)))) o (mkS (sSh S) (sFac S) (sGq S) (sHw S) (sMp S) (sDr S) (sFn S) (sFl S) (va_up (sFr S) k ((sFr S k).1, ((sFr S k).2.1.1, nn, (sFr S k).2.1.2.2), (sFr S k).2.2)) (sFi S)) := by
  obtain ⟨hN, ⟨ok1, ok2, ok3, ok4, ok5, ok6, ok7, ok8, ok9⟩, h0, ⟨s1, s2, s3⟩, ⟨e1, e2, e3⟩, ⟨F7, h7, hF7⟩, ⟨F8, h8, hF8⟩, ⟨TF, h9⟩, ⟨TD, h14⟩, ⟨TC, h17⟩, hfr, hfi⟩ := h
  exact ⟨hN, ⟨ok1, ok2, ok3, ok4, ok5, ok6, ok7, fun i hi => by
    by_cases e : i = k
    · subst e
      show okFr (va_up (sFr S) i _ i)
      rw [va_us]
      obtain ⟨b1, b2, b3⟩ := ok8 i hi
      exact ⟨b1, b2, fun q hq => by show okE _ (nn q); rw [hv q hq]; exact b3 q hq⟩
    · show okFr (va_up (sFr S) k _ i)
      rw [va_un _ _ e]
      exact ok8 i hi, ok9⟩, (va_un _ _ (by omega)).trans h0, ⟨(va_un _ _ (by omega)).trans s1, (va_un _ _ (by omega)).trans s2, (va_un _ _ (by omega)).trans s3⟩, ⟨(va_un _ _ (by omega)).trans e1, (va_un _ _ (by omega)).trans e2, (va_un _ _ (by omega)).trans e3⟩, ⟨F7, (va_un _ _ (by omega)).trans h7, hF7⟩, ⟨F8, (va_un _ _ (by omega)).trans h8, hF8⟩, ⟨TF, isFr_up h9 (by omega)⟩, ⟨TD, isPi_up h14 (by omega)⟩, ⟨TC, isPi_up h17 (by omega)⟩, fun i hi => by
    by_cases e : i = k
    · subst e
      show isFr G ad _ _ (va_up (sFr S) i _ i)
      rw [va_us]
      obtain ⟨a1, a2, a3, a4, a5⟩ := hfr i hi
      exact ⟨(va_un _ _ (by omega)).trans a1, (va_un _ _ (by omega)).trans a2, (va_un _ _ (by omega)).trans a3, (va_un _ _ (by omega)).trans a4, va_us _ _ _⟩
    · show isFr G ad _ _ (va_up (sFr S) k _ i)
      rw [va_un _ _ e]
      exact isFr_up (hfr i hi) (by omega), fun i hi => isFi_up (hfi i hi) (by omega)⟩
theorem up_flen {G : iG} {N : Nat} {ad : Nat → Nat} {C : Nat → va_E} {o : Nat} {S : St} (h : Cam G N ad C o S) {k : Nat} (hk : k < 6) {n : Nat} (hv : okEr ((sFr S k).2.1.1, (sFr S k).2.1.2.1, n)) : Cam G N ad (va_up C (o + 20 + 5 * k + 2) (ob 0 [.ref (ad (o + 20 + 5 * k + 2 + 1)), .ref (ad (o + 20 + 5 * k + 2 + 2)), .int (nI n)])) o (mkS (sSh S) (sFac S) (sGq S) (sHw S) (sMp S) (sDr S) (sFn S) (sFl S) (va_up (sFr S) k ((sFr S k).1, ((sFr S k).2.1.1, (sFr S k).2.1.2.1, n), (sFr S k).2.2)) (sFi S)) := by
  obtain ⟨hN, ⟨ok1, ok2, ok3, ok4, ok5, ok6, ok7, ok8, ok9⟩, h0, ⟨s1, s2, s3⟩, ⟨e1, e2, e3⟩, ⟨F7, h7, hF7⟩, ⟨F8, h8, hF8⟩, ⟨TF, h9⟩, ⟨TD, h14⟩, ⟨TC, h17⟩, hfr, hfi⟩ := h
  exact ⟨hN, ⟨ok1, ok2, ok3, ok4, ok5, ok6, ok7, fun i hi => by
    by_cases e : i = k
    · subst e
      show okFr (va_up (sFr S) i _ i)
      rw [va_us]
      obtain ⟨b1, b2, b3⟩ := ok8 i hi
      exact ⟨b1, hv⟩
    · show okFr (va_up (sFr S) k _ i)
      rw [va_un _ _ e]
      exact ok8 i hi, ok9⟩, (va_un _ _ (by omega)).trans h0, ⟨(va_un _ _ (by omega)).trans s1, (va_un _ _ (by omega)).trans s2, (va_un _ _ (by omega)).trans s3⟩, ⟨(va_un _ _ (by omega)).trans e1, (va_un _ _ (by omega)).trans e2, (va_un _ _ (by omega)).trans e3⟩, ⟨F7, (va_un _ _ (by omega)).trans h7, hF7⟩, ⟨F8, (va_un _ _ (by omega)).trans h8, hF8⟩, ⟨TF, isFr_up h9 (by omega)⟩, ⟨TD, isPi_up h14 (by omega)⟩, ⟨TC, isPi_up h17 (by omega)⟩, fun i hi => by
    by_cases e : i = k
    · subst e
      show isFr G ad _ _ (va_up (sFr S) i _ i)
      rw [va_us]
      obtain ⟨a1, a2, a3, a4, a5⟩ := hfr i hi
      exact ⟨(va_un _ _ (by omega)).trans a1, (va_un _ _ (by omega)).trans a2, va_us _ _ _, (va_un _ _ (by omega)).trans a4, (va_un _ _ (by omega)).trans a5⟩
    · show isFr G ad _ _ (va_up (sFr S) k _ i)
      rw [va_un _ _ e]
      exact isFr_up (hfr i hi) (by omega), fun i hi => isFi_up (hfi i hi) (by omega)⟩
theorem up_iobj {G : iG} {N : Nat} {ad : Nat → Nat} {C : Nat → va_E} {o : Nat} {S : St} (h : Cam G N ad C o S) {k : Nat} (hk : k < 6) {f v : Nat} (hv : f < 6) : Cam G N ad (va_up C (o + 50 + 4 * k) (ob 5 [.ref (ad (o + 50 + 4 * k + 1)), .int (nI f), .int (nI v)])) o (mkS (sSh S) (sFac S) (sGq S) (sHw S) (sMp S) (sDr S) (sFn S) (sFl S) (sFr S) (va_up (sFi S) k ((sFi S k).1, f, v))) := by
  obtain ⟨hN, ⟨ok1, ok2, ok3, ok4, ok5, ok6, ok7, ok8, ok9⟩, h0, ⟨s1, s2, s3⟩, ⟨e1, e2, e3⟩, ⟨F7, h7, hF7⟩, ⟨F8, h8, hF8⟩, ⟨TF, h9⟩, ⟨TD, h14⟩, ⟨TC, h17⟩, hfr, hfi⟩ := h
  exact ⟨hN, ⟨ok1, ok2, ok3, ok4, ok5, ok6, ok7, ok8, fun i hi => by
    by_cases e : i = k
    · subst e
      show okFi (va_up (sFi S) i _ i)
      rw [va_us]
      obtain ⟨⟨b2, b3⟩, b4⟩ := ok9 i hi
      exact ⟨⟨b2, b3⟩, hv⟩
    · show okFi (va_up (sFi S) k _ i)
      rw [va_un _ _ e]
      exact ok9 i hi⟩, (va_un _ _ (by omega)).trans h0, ⟨(va_un _ _ (by omega)).trans s1, (va_un _ _ (by omega)).trans s2, (va_un _ _ (by omega)).trans s3⟩, ⟨(va_un _ _ (by omega)).trans e1, (va_un _ _ (by omega)).trans e2, (va_un _ _ (by omega)).trans e3⟩, ⟨F7, (va_un _ _ (by omega)).trans h7, hF7⟩, ⟨F8, (va_un _ _ (by omega)).trans h8, hF8⟩, ⟨TF, isFr_up h9 (by omega)⟩, ⟨TD, isPi_up h14 (by omega)⟩, ⟨TC, isPi_up h17 (by omega)⟩, fun i hi => isFr_up (hfr i hi) (by omega), fun i hi => by
    by_cases e : i = k
    · subst e
      show isFi G ad _ _ (va_up (sFi S) i _ i)
      rw [va_us]
      obtain ⟨a1, a2, a3, a4⟩ := hfi i hi
      exact ⟨va_us _ _ _, (va_un _ _ (by omega)).trans a2, (va_un _ _ (by omega)).trans a3, (va_un _ _ (by omega)).trans a4⟩
    · show isFi G ad _ _ (va_up (sFi S) k _ i)
      rw [va_un _ _ e]
      exact isFi_up (hfi i hi) (by omega)⟩
theorem up_traw {G : iG} {N : Nat} {ad : Nat → Nat} {C : Nat → va_E} {o : Nat} {S : St} (h : Cam G N ad C o S) (rw : Nat → Nat) : Cam G N ad (va_up C (o + 9 + 1) (ia G 64 (fun i => nI (rw i)))) o (mkS (sSh S) (sFac S) (sGq S) (sHw S) (sMp S) (sDr S) (sFn S) (sFl S) (sFr S) (sFi S)) := by
  obtain ⟨hN, ⟨ok1, ok2, ok3, ok4, ok5, ok6, ok7, ok8, ok9⟩, h0, ⟨s1, s2, s3⟩, ⟨e1, e2, e3⟩, ⟨F7, h7, hF7⟩, ⟨F8, h8, hF8⟩, ⟨TF, h9⟩, ⟨TD, h14⟩, ⟨TC, h17⟩, hfr, hfi⟩ := h
  exact ⟨hN, ⟨ok1, ok2, ok3, ok4, ok5, ok6, ok7, ok8, ok9⟩, (va_un _ _ (by omega)).trans h0, ⟨(va_un _ _ (by omega)).trans s1, (va_un _ _ (by omega)).trans s2, (va_un _ _ (by omega)).trans s3⟩, ⟨(va_un _ _ (by omega)).trans e1, (va_un _ _ (by omega)).trans e2, (va_un _ _ (by omega)).trans e3⟩, ⟨F7, (va_un _ _ (by omega)).trans h7, hF7⟩, ⟨F8, (va_un _ _ (by omega)).trans h8, hF8⟩, ⟨(rw, TF.2), by obtain ⟨a1, a2, a3, a4, a5⟩ := h9; exact ⟨(va_un _ _ (by omega)).trans a1, va_us _ _ _, (va_un _ _ (by omega)).trans a3, (va_un _ _ (by omega)).trans a4, (va_un _ _ (by omega)).trans a5⟩⟩, ⟨TD, isPi_up h14 (by omega)⟩, ⟨TC, isPi_up h17 (by omega)⟩, fun i hi => isFr_up (hfr i hi) (by omega), fun i hi => isFi_up (hfi i hi) (by omega)⟩
theorem up_tobj {G : iG} {N : Nat} {ad : Nat → Nat} {C : Nat → va_E} {o : Nat} {S : St} (h : Cam G N ad C o S) (t g q : Int32) : Cam G N ad (va_up C (o + 9) (ob 1 [.ref (ad (o + 9 + 1)), .ref (ad (o + 9 + 2)), .int t, .int g, .int q])) o (mkS (sSh S) (sFac S) (sGq S) (sHw S) (sMp S) (sDr S) (sFn S) (sFl S) (sFr S) (sFi S)) := by
  obtain ⟨hN, ⟨ok1, ok2, ok3, ok4, ok5, ok6, ok7, ok8, ok9⟩, h0, ⟨s1, s2, s3⟩, ⟨e1, e2, e3⟩, ⟨F7, h7, hF7⟩, ⟨F8, h8, hF8⟩, ⟨TF, h9⟩, ⟨TD, h14⟩, ⟨TC, h17⟩, hfr, hfi⟩ := h
  exact ⟨hN, ⟨ok1, ok2, ok3, ok4, ok5, ok6, ok7, ok8, ok9⟩, (va_un _ _ (by omega)).trans h0, ⟨(va_un _ _ (by omega)).trans s1, (va_un _ _ (by omega)).trans s2, (va_un _ _ (by omega)).trans s3⟩, ⟨(va_un _ _ (by omega)).trans e1, (va_un _ _ (by omega)).trans e2, (va_un _ _ (by omega)).trans e3⟩, ⟨F7, (va_un _ _ (by omega)).trans h7, hF7⟩, ⟨F8, (va_un _ _ (by omega)).trans h8, hF8⟩, ⟨(TF.1, TF.2.1, t, g, q), by obtain ⟨a1, a2, a3, a4, a5⟩ := h9; exact ⟨va_us _ _ _, (va_un _ _ (by omega)).trans a2, (va_un _ _ (by omega)).trans a3, (va_un _ _ (by omega)).trans a4, (va_un _ _ (by omega)).trans a5⟩⟩, ⟨TD, isPi_up h14 (by omega)⟩, ⟨TC, isPi_up h17 (by omega)⟩, fun i hi => isFr_up (hfr i hi) (by omega), fun i hi => isFi_up (hfi i hi) (by omega)⟩
theorem up_dnum {G : iG} {N : Nat} {ad : Nat → Nat} {C : Nat → va_E} {o : Nat} {S : St} (h : Cam G N ad C o S) (nu : Nat → UInt32) : Cam G N ad (va_up C (o + 14 + 1) (fa G 192 nu)) o (mkS (sSh S) (sFac S) (sGq S) (sHw S) (sMp S) (sDr S) (sFn S) (sFl S) (sFr S) (sFi S)) := by
  obtain ⟨hN, ⟨ok1, ok2, ok3, ok4, ok5, ok6, ok7, ok8, ok9⟩, h0, ⟨s1, s2, s3⟩, ⟨e1, e2, e3⟩, ⟨F7, h7, hF7⟩, ⟨F8, h8, hF8⟩, ⟨TF, h9⟩, ⟨TD, h14⟩, ⟨TC, h17⟩, hfr, hfi⟩ := h
  exact ⟨hN, ⟨ok1, ok2, ok3, ok4, ok5, ok6, ok7, ok8, ok9⟩, (va_un _ _ (by omega)).trans h0, ⟨(va_un _ _ (by omega)).trans s1, (va_un _ _ (by omega)).trans s2, (va_un _ _ (by omega)).trans s3⟩, ⟨(va_un _ _ (by omega)).trans e1, (va_un _ _ (by omega)).trans e2, (va_un _ _ (by omega)).trans e3⟩, ⟨F7, (va_un _ _ (by omega)).trans h7, hF7⟩, ⟨F8, (va_un _ _ (by omega)).trans h8, hF8⟩, ⟨TF, isFr_up h9 (by omega)⟩, ⟨(nu, TD.2), by obtain ⟨a1, a2, a3⟩ := h14; exact ⟨(va_un _ _ (by omega)).trans a1, va_us _ _ _, (va_un _ _ (by omega)).trans a3⟩⟩, ⟨TC, isPi_up h17 (by omega)⟩, fun i hi => isFr_up (hfr i hi) (by omega), fun i hi => isFi_up (hfi i hi) (by omega)⟩
theorem up_dmen {G : iG} {N : Nat} {ad : Nat → Nat} {C : Nat → va_E} {o : Nat} {S : St} (h : Cam G N ad C o S) (md : Nat → Nat) : Cam G N ad (va_up C (o + 14 + 2) (ia G 64 (fun i => nI (md i)))) o (mkS (sSh S) (sFac S) (sGq S) (sHw S) (sMp S) (sDr S) (sFn S) (sFl S) (sFr S) (sFi S)) := by
  obtain ⟨hN, ⟨ok1, ok2, ok3, ok4, ok5, ok6, ok7, ok8, ok9⟩, h0, ⟨s1, s2, s3⟩, ⟨e1, e2, e3⟩, ⟨F7, h7, hF7⟩, ⟨F8, h8, hF8⟩, ⟨TF, h9⟩, ⟨TD, h14⟩, ⟨TC, h17⟩, hfr, hfi⟩ := h
  exact ⟨hN, ⟨ok1, ok2, ok3, ok4, ok5, ok6, ok7, ok8, ok9⟩, (va_un _ _ (by omega)).trans h0, ⟨(va_un _ _ (by omega)).trans s1, (va_un _ _ (by omega)).trans s2, (va_un _ _ (by omega)).trans s3⟩, ⟨(va_un _ _ (by omega)).trans e1, (va_un _ _ (by omega)).trans e2, (va_un _ _ (by omega)).trans e3⟩, ⟨F7, (va_un _ _ (by omega)).trans h7, hF7⟩, ⟨F8, (va_un _ _ (by omega)).trans h8, hF8⟩, ⟨TF, isFr_up h9 (by omega)⟩, ⟨(TD.1, md), by obtain ⟨a1, a2, a3⟩ := h14; exact ⟨(va_un _ _ (by omega)).trans a1, (va_un _ _ (by omega)).trans a2, va_us _ _ _⟩⟩, ⟨TC, isPi_up h17 (by omega)⟩, fun i hi => isFr_up (hfr i hi) (by omega), fun i hi => isFi_up (hfi i hi) (by omega)⟩
theorem up_cnum {G : iG} {N : Nat} {ad : Nat → Nat} {C : Nat → va_E} {o : Nat} {S : St} (h : Cam G N ad C o S) (nu : Nat → UInt32) : Cam G N ad (va_up C (o + 17 + 1) (fa G 192 nu)) o (mkS (sSh S) (sFac S) (sGq S) (sHw S) (sMp S) (sDr S) (sFn S) (sFl S) (sFr S) (sFi S)) := by
  obtain ⟨hN, ⟨ok1, ok2, ok3, ok4, ok5, ok6, ok7, ok8, ok9⟩, h0, ⟨s1, s2, s3⟩, ⟨e1, e2, e3⟩, ⟨F7, h7, hF7⟩, ⟨F8, h8, hF8⟩, ⟨TF, h9⟩, ⟨TD, h14⟩, ⟨TC, h17⟩, hfr, hfi⟩ := h
  exact ⟨hN, ⟨ok1, ok2, ok3, ok4, ok5, ok6, ok7, ok8, ok9⟩, (va_un _ _ (by omega)).trans h0, ⟨(va_un _ _ (by omega)).trans s1, (va_un _ _ (by omega)).trans s2, (va_un _ _ (by omega)).trans s3⟩, ⟨(va_un _ _ (by omega)).trans e1, (va_un _ _ (by omega)).trans e2, (va_un _ _ (by omega)).trans e3⟩, ⟨F7, (va_un _ _ (by omega)).trans h7, hF7⟩, ⟨F8, (va_un _ _ (by omega)).trans h8, hF8⟩, ⟨TF, isFr_up h9 (by omega)⟩, ⟨TD, isPi_up h14 (by omega)⟩, ⟨(nu, TC.2), by obtain ⟨a1, a2, a3⟩ := h17; exact ⟨(va_un _ _ (by omega)).trans a1, va_us _ _ _, (va_un _ _ (by omega)).trans a3⟩⟩, fun i hi => isFr_up (hfr i hi) (by omega), fun i hi => isFi_up (hfi i hi) (by omega)⟩
theorem up_cmen {G : iG} {N : Nat} {ad : Nat → Nat} {C : Nat → va_E} {o : Nat} {S : St} (h : Cam G N ad C o S) (md : Nat → Nat) : Cam G N ad (va_up C (o + 17 + 2) (ia G 64 (fun i => nI (md i)))) o (mkS (sSh S) (sFac S) (sGq S) (sHw S) (sMp S) (sDr S) (sFn S) (sFl S) (sFr S) (sFi S)) := by
  obtain ⟨hN, ⟨ok1, ok2, ok3, ok4, ok5, ok6, ok7, ok8, ok9⟩, h0, ⟨s1, s2, s3⟩, ⟨e1, e2, e3⟩, ⟨F7, h7, hF7⟩, ⟨F8, h8, hF8⟩, ⟨TF, h9⟩, ⟨TD, h14⟩, ⟨TC, h17⟩, hfr, hfi⟩ := h
  exact ⟨hN, ⟨ok1, ok2, ok3, ok4, ok5, ok6, ok7, ok8, ok9⟩, (va_un _ _ (by omega)).trans h0, ⟨(va_un _ _ (by omega)).trans s1, (va_un _ _ (by omega)).trans s2, (va_un _ _ (by omega)).trans s3⟩, ⟨(va_un _ _ (by omega)).trans e1, (va_un _ _ (by omega)).trans e2, (va_un _ _ (by omega)).trans e3⟩, ⟨F7, (va_un _ _ (by omega)).trans h7, hF7⟩, ⟨F8, (va_un _ _ (by omega)).trans h8, hF8⟩, ⟨TF, isFr_up h9 (by omega)⟩, ⟨TD, isPi_up h14 (by omega)⟩, ⟨(TC.1, md), by obtain ⟨a1, a2, a3⟩ := h17; exact ⟨(va_un _ _ (by omega)).trans a1, (va_un _ _ (by omega)).trans a2, va_us _ _ _⟩⟩, fun i hi => isFr_up (hfr i hi) (by omega), fun i hi => isFi_up (hfi i hi) (by omega)⟩
abbrev rmX6_needRange : Room := { frames := 0, cells := 0, slots := 0, locals := 0 }
set_option maxHeartbeats 4000000 in
set_option maxRecDepth 100000 in
theorem kX6_needRange (l : Launch) (n1 lo hi : Int32) (h1 : ¬ n1 < lo) (h2 : n1 ≤ hi) : Met l yX6_needRange wsX6_needRange rmX6_needRange (va_Pc [.int n1, .int lo, .int hi] (fun _ => True)) (va_Qv (fun (_ : Unit) => True) (fun _ _ => True) (fun _ => False)) 0 0 (fun _ => False) := by
  refine Met.ofW (cc := cX6_needRange) (maxL := 3) (ret := none) (by decide) rfl ?_
  intro p e s m args below meth c s₁ B hml hv
  obtain ⟨rfl, -⟩ := hv
  have hx := B.exec
  have hb := B.bytes
  have hr := B.returns
  have hts := atoms_spec (ws := wsX6_needRange) B.pre
  have hown : s.vm.findClass RX6 = some m.cls := findClass_of_methodNamed B.named
  have hlocks := B.notSynchronized
  have hS : va_S (fun _ => False) s.heap s.heap [] := va_S.rf
  have hP : va_P (fun _ => 0, fun _ _ => 0) [] [] s.heap := fun k q h => by simp at h
  have hl := lv_entry ([.int n1, .int lo, .int hi]) (n := 3) (Nat.le_of_ble_eq_true rfl)
  rw [lg_entry_eq]
  generalize (lg_sl ([.int n1, .int lo, .int hi]) ++ List.replicate (3 - (lg_sl ([.int n1, .int lo, .int hi])).length) Slot.unset).toArray = ls at hl ⊢
  have hl : lv_has ls 3 [(0, .int n1), (1, .int lo), (2, .int hi)] := hl
  refine lv_iload_n hx hb dX6_needRange_0 rfl (lv_at hl 0 rfl) ?_
  refine lv_iload_n hx hb dX6_needRange_1 rfl (lv_at hl 1 rfl) ?_
  refine lv_icmp_lt (tgt := 10) hx hb dX6_needRange_2 (by decide) (fun c9 => absurd c9 (h1)) (fun _ => ?_)
  refine lv_iload_n hx hb dX6_needRange_5 rfl (lv_at hl 0 rfl) ?_
  refine lv_iload_n hx hb dX6_needRange_6 rfl (lv_at hl 2 rfl) ?_
  refine lv_icmp_le (tgt := 21) hx hb dX6_needRange_7 (by decide) (fun _ => ?_) (fun c9 => absurd (h2) c9)
  exact W.vret hx hb hr (fun t ht hW => ⟨⟨(), rfl, trivial, trivial⟩, hS.F ht⟩) hS.2.2 dX6_needRange_21
abbrev rmX6_needPlace : Room := { frames := 1, cells := 0, slots := 0, locals := 21 }
set_option maxHeartbeats 4000000 in
set_option maxRecDepth 100000 in
theorem kX6_needPlace (l : Launch) (x y : Nat) (hx8 : x < 8) (hy8 : y < 8) : Met l yX6_needPlace wsX6_needPlace rmX6_needPlace (va_Pc [.int (nI x), .int (nI y)] (fun _ => True)) (va_Qv (fun (_ : Unit) => True) (fun _ _ => True) (fun _ => False)) 0 0 (fun _ => False) := by
  refine Met.ofW (cc := cX6_needPlace) (maxL := 2) (ret := none) (by decide) rfl ?_
  intro p e s m args below meth c s₁ B hml hv
  obtain ⟨rfl, -⟩ := hv
  have hx := B.exec
  have hb := B.bytes
  have hr := B.returns
  have hts := atoms_spec (ws := wsX6_needPlace) B.pre
  have hown : s.vm.findClass RX6 = some m.cls := findClass_of_methodNamed B.named
  have hlocks := B.notSynchronized
  have hS : va_S (fun _ => False) s.heap s.heap [] := va_S.rf
  have hP : va_P (fun _ => 0, fun _ _ => 0) [] [] s.heap := fun k q h => by simp at h
  have hl := lv_entry ([.int (nI x), .int (nI y)]) (n := 2) (Nat.le_of_ble_eq_true rfl)
  rw [lg_entry_eq]
  generalize (lg_sl ([.int (nI x), .int (nI y)]) ++ List.replicate (2 - (lg_sl ([.int (nI x), .int (nI y)])).length) Slot.unset).toArray = ls at hl ⊢
  have hl : lv_has ls 2 [(0, .int (nI x)), (1, .int (nI y))] := hl
  refine lv_iload_n hx hb dX6_needPlace_0 rfl (lv_at hl 0 rfl) ?_
  refine lv_iload_n hx hb dX6_needPlace_1 rfl (lv_at hl 1 rfl) ?_
  refine iw_pi (va_runS (As := [.int (nI x), .int (nI y)]) (rest := []) ⟨hx, hb, hml, hown, hts⟩ (kX6_isPlace l (nI x) (nI y)) (va_cwS 2 hts gX6_needPlace_X6_isPlace rfl rfl rfl (by decide +kernel) ⟨Nat.le_of_ble_eq_true rfl, Nat.le_of_ble_eq_true rfl⟩) ⟨fun a U g mk q => q, fun U hU hW => ⟨rfl, trivial⟩⟩ rfl rfl hl.1 rfl (lv_room (Nat.le_of_ble_eq_true rfl)) dX6_needPlace_2 ⟨Nat.le_of_ble_eq_true rfl, Nat.le_of_ble_eq_true rfl⟩) hP hS (fun r8 u8 H locs hw8 hP hS => ?_)
  refine lv_asI hw8 ?_
  refine lv_asI (y := nI 1) (by rw [isPl_in hx8 hy8]; rfl) ?_
  refine lv_if_ne (tgt := 19) hx hb dX6_needPlace_5 (by decide) (fun _ => ?_) (fun c9 => absurd c9 (by decide))
  exact W.vret hx hb hr (fun t ht hW => ⟨⟨(), rfl, trivial, trivial⟩, hS.F ht⟩) hS.2.2 dX6_needPlace_19
abbrev rmX6_needIndex : Room := { frames := 0, cells := 0, slots := 0, locals := 0 }
set_option maxHeartbeats 4000000 in
set_option maxRecDepth 100000 in
theorem kX6_needIndex (l : Launch) (k n : Nat) (hk : k < n) (hn : n < 2 ^ 31) : Met l yX6_needIndex wsX6_needIndex rmX6_needIndex (va_Pc [.int (nI k), .int (nI n)] (fun _ => True)) (va_Qv (fun (_ : Unit) => True) (fun _ _ => True) (fun _ => False)) 0 0 (fun _ => False) := by
  refine Met.ofW (cc := cX6_needIndex) (maxL := 2) (ret := none) (by decide) rfl ?_
  intro p e s m args below meth c s₁ B hml hv
  obtain ⟨rfl, -⟩ := hv
  have hx := B.exec
  have hb := B.bytes
  have hr := B.returns
  have hts := atoms_spec (ws := wsX6_needIndex) B.pre
  have hown : s.vm.findClass RX6 = some m.cls := findClass_of_methodNamed B.named
  have hlocks := B.notSynchronized
  have hS : va_S (fun _ => False) s.heap s.heap [] := va_S.rf
  have hP : va_P (fun _ => 0, fun _ _ => 0) [] [] s.heap := fun k q h => by simp at h
  have hl := lv_entry ([.int (nI k), .int (nI n)]) (n := 2) (Nat.le_of_ble_eq_true rfl)
  rw [lg_entry_eq]
  generalize (lg_sl ([.int (nI k), .int (nI n)]) ++ List.replicate (2 - (lg_sl ([.int (nI k), .int (nI n)])).length) Slot.unset).toArray = ls at hl ⊢
  have hl : lv_has ls 2 [(0, .int (nI k)), (1, .int (nI n))] := hl
  refine lv_iload_n hx hb dX6_needIndex_0 rfl (lv_at hl 0 rfl) ?_
  refine lv_if_lt (tgt := 9) hx hb dX6_needIndex_1 (by decide) (fun c9 => absurd c9 (nI_pos (by omega))) (fun _ => ?_)
  refine lv_iload_n hx hb dX6_needIndex_4 rfl (lv_at hl 0 rfl) ?_
  refine lv_iload_n hx hb dX6_needIndex_5 rfl (lv_at hl 1 rfl) ?_
  refine lv_icmp_lt (tgt := 20) hx hb dX6_needIndex_6 (by decide) (fun _ => ?_) (fun c9 => absurd (nI_lt hk hn) c9)
  exact W.vret hx hb hr (fun t ht hW => ⟨⟨(), rfl, trivial, trivial⟩, hS.F ht⟩) hS.2.2 dX6_needIndex_20
abbrev rmX6_needRoom : Room := { frames := 0, cells := 0, slots := 0, locals := 0 }
set_option maxHeartbeats 4000000 in
set_option maxRecDepth 100000 in
theorem kX6_needRoom (l : Launch) (k n : Nat) (hk : k < n) (hn : n < 2 ^ 31) : Met l yX6_needRoom wsX6_needRoom rmX6_needRoom (va_Pc [.int (nI k), .int (nI n)] (fun _ => True)) (va_Qv (fun (_ : Unit) => True) (fun _ _ => True) (fun _ => False)) 0 0 (fun _ => False) := by
  refine Met.ofW (cc := cX6_needRoom) (maxL := 2) (ret := none) (by decide) rfl ?_
  intro p e s m args below meth c s₁ B hml hv
  obtain ⟨rfl, -⟩ := hv
  have hx := B.exec
  have hb := B.bytes
  have hr := B.returns
  have hts := atoms_spec (ws := wsX6_needRoom) B.pre
  have hown : s.vm.findClass RX6 = some m.cls := findClass_of_methodNamed B.named
  have hlocks := B.notSynchronized
  have hS : va_S (fun _ => False) s.heap s.heap [] := va_S.rf
  have hP : va_P (fun _ => 0, fun _ _ => 0) [] [] s.heap := fun k q h => by simp at h
  have hl := lv_entry ([.int (nI k), .int (nI n)]) (n := 2) (Nat.le_of_ble_eq_true rfl)
  rw [lg_entry_eq]
  generalize (lg_sl ([.int (nI k), .int (nI n)]) ++ List.replicate (2 - (lg_sl ([.int (nI k), .int (nI n)])).length) Slot.unset).toArray = ls at hl ⊢
  have hl : lv_has ls 2 [(0, .int (nI k)), (1, .int (nI n))] := hl
  refine lv_iload_n hx hb dX6_needRoom_0 rfl (lv_at hl 0 rfl) ?_
  refine lv_iload_n hx hb dX6_needRoom_1 rfl (lv_at hl 1 rfl) ?_
  refine lv_icmp_lt (tgt := 16) hx hb dX6_needRoom_2 (by decide) (fun _ => ?_) (fun c9 => absurd (nI_lt hk hn) c9)
  exact W.vret hx hb hr (fun t ht hW => ⟨⟨(), rfl, trivial, trivial⟩, hS.F ht⟩) hS.2.2 dX6_needRoom_16
abbrev rmX6_needExposure : Room := { frames := 1, cells := 0, slots := 0, locals := 22 }
set_option maxHeartbeats 4000000 in
set_option maxRecDepth 100000 in
theorem kX6_needExposure (l : Launch) (t1 g1 : Nat) (ht : 0 < t1 ∧ t1 < 65) (hg : 0 < g1 ∧ g1 < 9) : Met l yX6_needExposure wsX6_needExposure rmX6_needExposure (va_Pc [.int (nI t1), .int (nI g1)] (fun _ => True)) (va_Qv (fun (_ : Unit) => True) (fun _ _ => True) (fun _ => False)) 0 0 (fun _ => False) := by
  refine Met.ofW (cc := cX6_needExposure) (maxL := 2) (ret := none) (by decide) rfl ?_
  intro p e s m args below meth c s₁ B hml hv
  obtain ⟨rfl, -⟩ := hv
  have hx := B.exec
  have hb := B.bytes
  have hr := B.returns
  have hts := atoms_spec (ws := wsX6_needExposure) B.pre
  have hown : s.vm.findClass RX6 = some m.cls := findClass_of_methodNamed B.named
  have hlocks := B.notSynchronized
  have hS : va_S (fun _ => False) s.heap s.heap [] := va_S.rf
  have hP : va_P (fun _ => 0, fun _ _ => 0) [] [] s.heap := fun k q h => by simp at h
  have hl := lv_entry ([.int (nI t1), .int (nI g1)]) (n := 2) (Nat.le_of_ble_eq_true rfl)
  rw [lg_entry_eq]
  generalize (lg_sl ([.int (nI t1), .int (nI g1)]) ++ List.replicate (2 - (lg_sl ([.int (nI t1), .int (nI g1)])).length) Slot.unset).toArray = ls at hl ⊢
  have hl : lv_has ls 2 [(0, .int (nI t1)), (1, .int (nI g1))] := hl
  refine lv_iload_n hx hb dX6_needExposure_0 rfl (lv_at hl 0 rfl) ?_
  refine lv_iconst (v := nI 1) hx hb dX6_needExposure_1 (by decide) ?_
  refine lv_bipush (v := nI 64) hx hb dX6_needExposure_2 (by decide) ?_
  refine iw_pv (va_runS (As := [.int (nI t1), .int (nI 1), .int (nI 64)]) (rest := []) ⟨hx, hb, hml, hown, hts⟩ (kX6_needRange l (nI t1) (nI 1) (nI 64) (nI_nlt (by omega) (by omega)) (nI_le (by omega) (by omega))) (va_cwS 3 hts gX6_needExposure_X6_needRange rfl rfl rfl (by decide +kernel) ⟨Nat.le_of_ble_eq_true rfl, Nat.le_of_ble_eq_true rfl⟩) ⟨fun a U g mk q => q, fun U hU hW => ⟨rfl, trivial⟩⟩ rfl rfl hl.1 rfl (lv_room (Nat.le_of_ble_eq_true rfl)) dX6_needExposure_4 ⟨Nat.le_of_ble_eq_true rfl, Nat.le_of_ble_eq_true rfl⟩) hP hS (fun u8 H locs hw8 hP hS => ?_)
  refine lv_iload_n hx hb dX6_needExposure_7 rfl (lv_at hl 1 rfl) ?_
  refine lv_iconst (v := nI 1) hx hb dX6_needExposure_8 (by decide) ?_
  refine lv_bipush (v := nI 8) hx hb dX6_needExposure_9 (by decide) ?_
  refine iw_pv (va_runS (As := [.int (nI g1), .int (nI 1), .int (nI 8)]) (rest := []) ⟨hx, hb, hml, hown, hts⟩ (kX6_needRange l (nI g1) (nI 1) (nI 8) (nI_nlt (by omega) (by omega)) (nI_le (by omega) (by omega))) (va_cwS 3 hts gX6_needExposure_X6_needRange rfl rfl rfl (by decide +kernel) ⟨Nat.le_of_ble_eq_true rfl, Nat.le_of_ble_eq_true rfl⟩) ⟨fun a U g mk q => q, fun U hU hW => ⟨rfl, trivial⟩⟩ rfl rfl hl.1 rfl (lv_room (Nat.le_of_ble_eq_true rfl)) dX6_needExposure_11 ⟨Nat.le_of_ble_eq_true rfl, Nat.le_of_ble_eq_true rfl⟩) hP hS (fun u8 H locs hw8 hP hS => ?_)
  exact W.vret hx hb hr (fun t ht hW => ⟨⟨(), rfl, trivial, trivial⟩, hS.F ht⟩) hS.2.2 dX6_needExposure_14
