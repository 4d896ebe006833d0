section IWB
/-! THE INDEXED WORLD: a world is N cells, cell j at the address ad j, holding C j; the kinds 0 to 6 are the class's own -/
abbrev vwB : List vw_C := [(RX0, TX0, 3), (RX1, TX1, 5), (RX2, TX2, 2), (RX3, TX3, 3), (RX4, TX4, 3), (RX5, TX5, 3), (RX6, TX6, 9), (RX7, TX7, 12)]
def wl (N : Nat) (ad : Nat → Nat) (C : Nat → va_E) : va_W := (List.range N).map (fun j => (ad j, C j))
theorem wl_get {N : Nat} {ad : Nat → Nat} {C : Nat → va_E} {j : Nat} {e : va_E} (h : j < N) (he : C j = e) : (wl N ad C)[j]? = some (ad j, e) := by
  unfold wl
  rw [List.getElem?_map, List.getElem?_range h]
  simp [he]
theorem wl_at {N : Nat} {ad : Nat → Nat} {C : Nat → va_E} {i : Nat} {p : Nat × va_E} (h : (wl N ad C)[i]? = some p) : i < N ∧ p = (ad i, C i) := by
  unfold wl at h
  rcases Nat.lt_or_ge i N with q | q
  · rw [List.getElem?_map, List.getElem?_range q] at h
    exact ⟨q, (Option.some.inj h).symm⟩
  · rw [List.getElem?_eq_none (by simpa using q)] at h
    cases h
theorem wl_out {N : Nat} {ad : Nat → Nat} {C : Nat → va_E} {i : Nat} (q : N ≤ i) : (wl N ad C)[i]? = none := List.getElem?_eq_none (by simpa [wl] using q)
theorem va_us {α : Type} (f : Nat → α) (k : Nat) (v : α) : va_up f k v k = v := by simp [va_up]
theorem va_un {α : Type} (f : Nat → α) {k j : Nat} (v : α) (h : j ≠ k) : va_up f k v j = f j := by simp [va_up, h]
theorem va_uu {α : Type} (f : Nat → α) (k : Nat) (v w : α) : va_up (va_up f k v) k w = va_up f k w := by
  funext j
  by_cases h : j = k <;> simp [va_up, h]
theorem va_uc {α : Type} (f : Nat → α) {k j : Nat} (v w : α) (h : k ≠ j) : va_up (va_up f k v) j w = va_up (va_up f j w) k v := by
  funext i
  by_cases h1 : i = k
  · subst h1
    simp [va_up, h]
  · by_cases h2 : i = j
    · subst h2
      simp [va_up, h1]
    · simp [va_up, h1, h2]
theorem va_u3 {α : Type} (f : Nat → α) {k j : Nat} (v w x : α) (h : k ≠ j) : va_up (va_up (va_up f k v) j w) k x = va_up (va_up f k x) j w := by
  rw [va_uc (va_up f k v) w x (Ne.symm h), va_uu]
theorem va_self {α : Type} (f : Nat → α) {k : Nat} {v : α} (h : f k = v) : va_up f k v = f := by
  funext i
  by_cases h1 : i = k
  · subst h1
    simp [va_up, h]
  · simp [va_up, h1]
theorem wl_set {N : Nat} {ad : Nat → Nat} {C : Nat → va_E} {j : Nat} {e : va_E} (h : j < N) : (wl N ad C).set j (ad j, e) = wl N ad (va_up C j e) := by
  apply List.ext_getElem?
  intro i
  by_cases hi : i = j
  · subst hi
    rw [List.getElem?_set_self (by simpa [wl] using h), wl_get h (va_us C i e)]
  · rw [List.getElem?_set_ne (Ne.symm hi)]
    rcases Nat.lt_or_ge i N with q | q
    · rw [wl_get q rfl, wl_get q (va_un C e hi)]
    · rw [wl_out q, wl_out q]
theorem wl_D {A : Nat → Prop} {N : Nat} {ad : Nat → Nat} {C : Nat → va_E} (h : va_D A (wl N ad C)) (C' : Nat → va_E) : va_D A (wl N ad C') := by
  refine ⟨fun i j p q hp hq e => ?_, fun k q hq => ?_⟩
  · obtain ⟨h1, rfl⟩ := wl_at hp
    obtain ⟨h2, rfl⟩ := wl_at hq
    exact h.1 i j _ _ (wl_get h1 rfl) (wl_get h2 rfl) e
  · obtain ⟨h1, rfl⟩ := wl_at hq
    show A (ad k)
    exact h.2 k (ad k, C k) (wl_get h1 rfl)
/-- what a method may change: the world's cells, and what it makes -/
def iA (N : Nat) (ad : Nat → Nat) (sz : Nat) : Nat → Prop := fun q => (∃ j, j < N ∧ q = ad j) ∨ sz ≤ q
theorem wl_self {A : Nat → Prop} {N : Nat} {ad : Nat → Nat} {C : Nat → va_E} (h : va_D A (wl N ad C)) (sz : Nat) : va_D (iA N ad sz) (wl N ad C) := by
  refine ⟨h.1, fun k q hq => ?_⟩
  obtain ⟨h1, rfl⟩ := wl_at hq
  exact Or.inl ⟨k, h1, rfl⟩
theorem iA_free {A : Nat → Prop} {N : Nat} {ad : Nat → Nat} {C : Nat → va_E} {H0 H : Heap} {locs : List Loc} (hD : va_D A (wl N ad C)) (hS : va_S A H0 H locs) (hA : ∀ q, H0.size ≤ q → A q) : ∀ q, iA N ad H.size q → A q := by
  intro q hq
  rcases hq with ⟨j, hj, rfl⟩ | hq
  · exact hD.2 j _ (wl_get hj rfl)
  · exact hA q (Nat.le_trans hS.1 hq)
theorem ad_ne {A : Nat → Prop} {N : Nat} {ad : Nat → Nat} {C : Nat → va_E} (hD : va_D A (wl N ad C)) {i j : Nat} (hi : i < N) (hj : j < N) (h : i ≠ j) : ad i ≠ ad j := fun e => h (hD.1 i j _ _ (wl_get hi rfl) (wl_get hj rfl) e)
/-- the tables' part: classes, the arrays' classes (0 int, 1 float, 2 boolean, 3 Frame, 4 StoredFile, 5 int[], 6 double) -/
abbrev iG : Type := va_G × (Nat → ClassId)
abbrev iT (G : iG) : List (ClassId × FieldType) := [(G.2 0, .int), (G.2 1, .float), (G.2 2, .boolean), (G.2 3, .object RX1), (G.2 4, .object RX5), (G.2 5, .array .int), (G.2 6, .double)]
abbrev ia (G : iG) (n : Nat) (f : Nat → Int32) : va_E := .inl (G.2 0, n, .inl f)
abbrev fa (G : iG) (n : Nat) (f : Nat → UInt32) : va_E := .inl (G.2 1, n, .inr (.inr (.inl f)))
abbrev za (G : iG) (n : Nat) (f : Nat → Int32) : va_E := .inl (G.2 2, n, .inl f)
abbrev ob (k : Nat) (fs : List Value) : va_E := .inr (k, fs)
abbrev ra (G : iG) (k n : Nat) (f : Nat → Option Nat) : va_E := .inl (G.2 k, n, .inr (.inr (.inr (.inr f))))
def nestW : List Cond := [.methodLinkNest RX1 17 yX0_init RX6,
  .methodLinkNest RX1 32 yX6_colourSeen RX6,
  .methodLinkNest RX1 36 yX6_placeOf RX6,
  .fieldLinkNest RX2 36 "BayerGate$EditRow" "kinds" "[I" RX6,
  .fieldLinkNest RX2 39 "BayerGate$EditRow" "numbers" "[I" RX6,
  .methodLinkNest RX2 54 yX6_placeOf RX6,
  .methodLinkNest RX2 61 yX6_isPlace RX6,
  .methodLinkNest RX2 65 yX6_colourSeen RX6,
  .methodLinkNest RX4 23 yX6_placeOf RX6,
  .methodLinkNest RX4 27 yX6_colourSeen RX6,
  .fieldLinkNest RX4 36 "BayerGate$Frame" "rawRow" "[I" RX6,
  .fieldLinkNest RX4 45 "BayerGate$Frame" "time" "I" RX6,
  .fieldLinkNest RX4 48 "BayerGate$Frame" "gain" "I" RX6,
  .methodLinkNest RX5 9 yX0_init RX6,
  .methodLinkNest RX6 18 yX4_init RX6,
  .methodLinkNest RX6 42 yX1_init RX6,
  .methodLinkNest RX6 49 yX2_init RX6,
  .methodLinkNest RX6 57 yX5_init RX6,
  .fieldLinkNest RX6 136 "BayerGate$Frame" "edits" "LBayerGate$EditRow;" RX6,
  .fieldLinkNest RX6 158 "BayerGate$Frame" "rawRow" "[I" RX6,
  .fieldLinkNest RX6 166 "BayerGate$Picture" "numbers" "[F" RX6,
  .fieldLinkNest RX6 177 "BayerGate$Frame" "time" "I" RX6,
  .fieldLinkNest RX6 180 "BayerGate$Frame" "gain" "I" RX6,
  .fieldLinkNest RX6 186 "BayerGate$Frame" "ghosts" "I" RX6,
  .fieldLinkNest RX6 211 "BayerGate$StoredFile" "frame" "I" RX6,
  .fieldLinkNest RX6 214 "BayerGate$StoredFile" "version" "I" RX6,
  .fieldLinkNest RX6 217 "BayerGate$StoredFile" "edits" "LBayerGate$EditRow;" RX6,
  .fieldLinkNest RX6 228 "BayerGate$Sensor" "draw" "I" RX6,
  .fieldLinkNest RX6 242 "BayerGate$Sensor" "mapped" "[Z" RX6,
  .methodLinkNest RX7 52 yL_cell RL,
  .methodLinkNest RX7 58 yL_below RL]
def NW (U : State) : Prop := ∀ w ∈ nestW, va_Nw w U
theorem NW_warm {s U : State} (hW : s.WarmedH U.vm) (h : NW s) : NW U := by
  intro w hw
  have h1 := h w hw
  simp only [nestW, List.mem_cons, List.not_mem_nil, or_false] at hw
  rcases hw with rfl | rfl | rfl | rfl | rfl | rfl | rfl | rfl | rfl | rfl | rfl | rfl | rfl | rfl | rfl | rfl | rfl | rfl | rfl | rfl | rfl | rfl | rfl | rfl | rfl | rfl | rfl | rfl | rfl | rfl | rfl
  · exact va_Nw.warmM hW h1
  · exact va_Nw.warmM hW h1
  · exact va_Nw.warmM hW h1
  · exact va_Nw.warmF hW h1
  · exact va_Nw.warmF hW h1
  · exact va_Nw.warmM hW h1
  · exact va_Nw.warmM hW h1
  · exact va_Nw.warmM hW h1
  · exact va_Nw.warmM hW h1
  · exact va_Nw.warmM hW h1
  · exact va_Nw.warmF hW h1
  · exact va_Nw.warmF hW h1
  · exact va_Nw.warmF hW h1
  · exact va_Nw.warmM hW h1
  · exact va_Nw.warmM hW h1
  · exact va_Nw.warmM hW h1
  · exact va_Nw.warmM hW h1
  · exact va_Nw.warmM hW h1
  · exact va_Nw.warmF hW h1
  · exact va_Nw.warmF hW h1
  · exact va_Nw.warmF hW h1
  · exact va_Nw.warmF hW h1
  · exact va_Nw.warmF hW h1
  · exact va_Nw.warmF hW h1
  · exact va_Nw.warmF hW h1
  · exact va_Nw.warmF hW h1
  · exact va_Nw.warmF hW h1
  · exact va_Nw.warmF hW h1
  · exact va_Nw.warmF hW h1
  · exact va_Nw.warmM hW h1
  · exact va_Nw.warmM hW h1
theorem NW_same {u U : State} (hv : u.vm = U.vm) (h : NW u) : NW U := by
  intro w hw
  have h1 := h w hw
  simp only [nestW, List.mem_cons, List.not_mem_nil, or_false] at hw
  rcases hw with rfl | rfl | rfl | rfl | rfl | rfl | rfl | rfl | rfl | rfl | rfl | rfl | rfl | rfl | rfl | rfl | rfl | rfl | rfl | rfl | rfl | rfl | rfl | rfl | rfl | rfl | rfl | rfl | rfl | rfl | rfl <;> exact va_Nw.same rfl hv h1
theorem nw_RX1_17 {U : State} (h : NW U) : va_Nw (.methodLinkNest RX1 17 yX0_init RX6) U := h _ (List.mem_of_getElem? (i := 0) rfl)
theorem nw_RX1_32 {U : State} (h : NW U) : va_Nw (.methodLinkNest RX1 32 yX6_colourSeen RX6) U := h _ (List.mem_of_getElem? (i := 1) rfl)
theorem nw_RX1_36 {U : State} (h : NW U) : va_Nw (.methodLinkNest RX1 36 yX6_placeOf RX6) U := h _ (List.mem_of_getElem? (i := 2) rfl)
theorem nw_RX2_36 {U : State} (h : NW U) : va_Nw (.fieldLinkNest RX2 36 "BayerGate$EditRow" "kinds" "[I" RX6) U := h _ (List.mem_of_getElem? (i := 3) rfl)
theorem nw_RX2_39 {U : State} (h : NW U) : va_Nw (.fieldLinkNest RX2 39 "BayerGate$EditRow" "numbers" "[I" RX6) U := h _ (List.mem_of_getElem? (i := 4) rfl)
theorem nw_RX2_54 {U : State} (h : NW U) : va_Nw (.methodLinkNest RX2 54 yX6_placeOf RX6) U := h _ (List.mem_of_getElem? (i := 5) rfl)
theorem nw_RX2_61 {U : State} (h : NW U) : va_Nw (.methodLinkNest RX2 61 yX6_isPlace RX6) U := h _ (List.mem_of_getElem? (i := 6) rfl)
theorem nw_RX2_65 {U : State} (h : NW U) : va_Nw (.methodLinkNest RX2 65 yX6_colourSeen RX6) U := h _ (List.mem_of_getElem? (i := 7) rfl)
theorem nw_RX4_23 {U : State} (h : NW U) : va_Nw (.methodLinkNest RX4 23 yX6_placeOf RX6) U := h _ (List.mem_of_getElem? (i := 8) rfl)
theorem nw_RX4_27 {U : State} (h : NW U) : va_Nw (.methodLinkNest RX4 27 yX6_colourSeen RX6) U := h _ (List.mem_of_getElem? (i := 9) rfl)
theorem nw_RX4_36 {U : State} (h : NW U) : va_Nw (.fieldLinkNest RX4 36 "BayerGate$Frame" "rawRow" "[I" RX6) U := h _ (List.mem_of_getElem? (i := 10) rfl)
theorem nw_RX4_45 {U : State} (h : NW U) : va_Nw (.fieldLinkNest RX4 45 "BayerGate$Frame" "time" "I" RX6) U := h _ (List.mem_of_getElem? (i := 11) rfl)
theorem nw_RX4_48 {U : State} (h : NW U) : va_Nw (.fieldLinkNest RX4 48 "BayerGate$Frame" "gain" "I" RX6) U := h _ (List.mem_of_getElem? (i := 12) rfl)
theorem nw_RX5_9 {U : State} (h : NW U) : va_Nw (.methodLinkNest RX5 9 yX0_init RX6) U := h _ (List.mem_of_getElem? (i := 13) rfl)
theorem nw_RX6_18 {U : State} (h : NW U) : va_Nw (.methodLinkNest RX6 18 yX4_init RX6) U := h _ (List.mem_of_getElem? (i := 14) rfl)
theorem nw_RX6_42 {U : State} (h : NW U) : va_Nw (.methodLinkNest RX6 42 yX1_init RX6) U := h _ (List.mem_of_getElem? (i := 15) rfl)
theorem nw_RX6_49 {U : State} (h : NW U) : va_Nw (.methodLinkNest RX6 49 yX2_init RX6) U := h _ (List.mem_of_getElem? (i := 16) rfl)
theorem nw_RX6_57 {U : State} (h : NW U) : va_Nw (.methodLinkNest RX6 57 yX5_init RX6) U := h _ (List.mem_of_getElem? (i := 17) rfl)
theorem nw_RX6_136 {U : State} (h : NW U) : va_Nw (.fieldLinkNest RX6 136 "BayerGate$Frame" "edits" "LBayerGate$EditRow;" RX6) U := h _ (List.mem_of_getElem? (i := 18) rfl)
theorem nw_RX6_158 {U : State} (h : NW U) : va_Nw (.fieldLinkNest RX6 158 "BayerGate$Frame" "rawRow" "[I" RX6) U := h _ (List.mem_of_getElem? (i := 19) rfl)
theorem nw_RX6_166 {U : State} (h : NW U) : va_Nw (.fieldLinkNest RX6 166 "BayerGate$Picture" "numbers" "[F" RX6) U := h _ (List.mem_of_getElem? (i := 20) rfl)
theorem nw_RX6_177 {U : State} (h : NW U) : va_Nw (.fieldLinkNest RX6 177 "BayerGate$Frame" "time" "I" RX6) U := h _ (List.mem_of_getElem? (i := 21) rfl)
theorem nw_RX6_180 {U : State} (h : NW U) : va_Nw (.fieldLinkNest RX6 180 "BayerGate$Frame" "gain" "I" RX6) U := h _ (List.mem_of_getElem? (i := 22) rfl)
theorem nw_RX6_186 {U : State} (h : NW U) : va_Nw (.fieldLinkNest RX6 186 "BayerGate$Frame" "ghosts" "I" RX6) U := h _ (List.mem_of_getElem? (i := 23) rfl)
theorem nw_RX6_211 {U : State} (h : NW U) : va_Nw (.fieldLinkNest RX6 211 "BayerGate$StoredFile" "frame" "I" RX6) U := h _ (List.mem_of_getElem? (i := 24) rfl)
theorem nw_RX6_214 {U : State} (h : NW U) : va_Nw (.fieldLinkNest RX6 214 "BayerGate$StoredFile" "version" "I" RX6) U := h _ (List.mem_of_getElem? (i := 25) rfl)
theorem nw_RX6_217 {U : State} (h : NW U) : va_Nw (.fieldLinkNest RX6 217 "BayerGate$StoredFile" "edits" "LBayerGate$EditRow;" RX6) U := h _ (List.mem_of_getElem? (i := 26) rfl)
theorem nw_RX6_228 {U : State} (h : NW U) : va_Nw (.fieldLinkNest RX6 228 "BayerGate$Sensor" "draw" "I" RX6) U := h _ (List.mem_of_getElem? (i := 27) rfl)
theorem nw_RX6_242 {U : State} (h : NW U) : va_Nw (.fieldLinkNest RX6 242 "BayerGate$Sensor" "mapped" "[Z" RX6) U := h _ (List.mem_of_getElem? (i := 28) rfl)
theorem nw_RX7_52 {U : State} (h : NW U) : va_Nw (.methodLinkNest RX7 52 yL_cell RL) U := h _ (List.mem_of_getElem? (i := 29) rfl)
theorem nw_RX7_58 {U : State} (h : NW U) : va_Nw (.methodLinkNest RX7 58 yL_below RL) U := h _ (List.mem_of_getElem? (i := 30) rfl)
abbrev KB (G : iG) (U : State) : Prop := va_K G.1 vwB (iT G) U ∧ NW U
theorem KB_warm {G : iG} {s U : State} (hW : s.WarmedH U.vm) (h : KB G s) : KB G U := ⟨va_K.moved hW.alike h.1, NW_warm hW h.2⟩
/-- a contract's start -/
abbrev iPre (G : iG) (N : Nat) (ad : Nat → Nat) (C : Nat → va_E) (sz : Nat) (av : List Value) : Array Value → State → Prop := va_Pc av (fun U => U.heap.size = sz ∧ va_P G.1 vwB (wl N ad C) U.heap ∧ KB G U ∧ va_D (fun _ => True) (wl N ad C))
/-- the world behind it -/
abbrev iB (G : iG) (N : Nat) (ad : Nat → Nat) : (Nat → va_E) → State → Prop := fun u t => va_P G.1 vwB (wl N ad u) t.heap
theorem iB_of {G : iG} {N : Nat} {ad : Nat → Nat} {C : Nat → va_E} {t : State} {H : Heap} (ht : t.heap = H) (hP : va_P G.1 vwB (wl N ad C) H) : iB G N ad C t := by
  show va_P G.1 vwB (wl N ad C) t.heap
  rw [ht]
  exact hP
theorem iblind {G : iG} {N : Nat} {ad : Nat → Nat} {C : Nat → va_E} {sz : Nat} {av : List Value} : FrameBlind (iPre G N ad C sz av) := fun a U g mk q => by
  obtain ⟨q0, q1, q2, qK, qD⟩ := q
  exact ⟨q0, q1, q2, ⟨va_K.moved (u := U) (U := U.calling g mk a) (Vm.Alike.refl U.vm) qK.1, NW_same (u := U) (U := U.calling g mk a) rfl qK.2⟩, qD⟩
theorem iPS {G : iG} {N : Nat} {ad : Nat → Nat} {C : Nat → va_E} {s : State} {H : Heap} {A : Nat → Prop} (hK : KB G s) (hP : va_P G.1 vwB (wl N ad C) H) (hD : va_D A (wl N ad C)) (As : List Value) : PreS s H (iPre G N ad C H.size As) As := ⟨iblind, fun U hU hW => ⟨rfl, by rw [hU], by rw [hU]; exact hP, KB_warm hW hK, hD.weaken (fun _ _ _ _ => trivial)⟩⟩
theorem iPV {G : iG} {N : Nat} {ad : Nat → Nat} {C : Nat → va_E} {s : State} {H : Heap} {A : Nat → Prop} (hK : KB G s) (hP : va_P G.1 vwB (wl N ad C) H) (hD : va_D A (wl N ad C)) {j ci : Nat} {q : vw_C} {fs : List Value} (hj : j < N) (hc : C j = ob ci fs) (hq : vwB[ci]? = some q) (As : List Value) : PreV s H q.1 (ad j) (iPre G N ad C H.size (.ref (ad j) :: As)) As := ⟨iblind, va_recv hK.1 hP hq (wl_get hj hc), fun U hU hW => ⟨rfl, by rw [hU], by rw [hU]; exact hP, KB_warm hW hK, hD.weaken (fun _ _ _ _ => trivial)⟩⟩
end IWB
section IWC
variable {p : Program} {l : Launch} {e : Env} {R : Room} {s : State} {m : MethodId} {args : Array Value} {below : List Frame} {meth : Method} {c : Code} {H : Heap} {locs : List Loc} {cells slots : Nat} {Q : State → Prop}
variable {pc : Nat} {ls : Array Slot} {rest st0 : List Value} {a : Array Value} {A : Nat → Prop} {H0 : Heap} {G : iG} {N : Nat} {ad : Nat → Nat} {C : Nat → va_E}
theorem iw_i {post : Int32 → (Nat → va_E) → Prop} (hr : va_Run p l e R s m args below meth c H locs cells slots 0 0 (F0 m pc ls st0) rest (va_Qi post (iB G N ad) (iA N ad H.size) a) (iA N ad H.size)) (hD : va_D A (wl N ad C)) (hS : va_S A H0 H locs) (hA : ∀ q, H0.size ≤ q → A q)
    (kk : ∀ (r : Int32) (u : Nat → va_E) (H1 : Heap) (locs1 : List Loc), post r u → va_P G.1 vwB (wl N ad u) H1 → va_D A (wl N ad u) → va_S A H0 H1 locs1 → W p l e R s m args below meth c H1 locs1 cells slots Q (F0 m (pc + 3) ls (.int r :: rest))) : W p l e R s m args below meth c H locs cells slots Q (F0 m pc ls st0) :=
  va_calli hr hS (fun q _ h => iA_free hD hS hA q h) (iA_free hD hS hA) (fun r u t H1 locs1 ht hvm hw hB hz1 hk1 hS => kk r u H1 locs1 hw (by rw [← ht]; exact hB) (wl_D hD u) hS)
theorem iw_l {post : Int64 → (Nat → va_E) → Prop} (hr : va_Run p l e R s m args below meth c H locs cells slots 0 0 (F0 m pc ls st0) rest (va_Ql post (iB G N ad) (iA N ad H.size) a) (iA N ad H.size)) (hD : va_D A (wl N ad C)) (hS : va_S A H0 H locs) (hA : ∀ q, H0.size ≤ q → A q)
    (kk : ∀ (r : Int64) (u : Nat → va_E) (H1 : Heap) (locs1 : List Loc), post r u → va_P G.1 vwB (wl N ad u) H1 → va_D A (wl N ad u) → va_S A H0 H1 locs1 → W p l e R s m args below meth c H1 locs1 cells slots Q (F0 m (pc + 3) ls (.long r :: rest))) : W p l e R s m args below meth c H locs cells slots Q (F0 m pc ls st0) :=
  va_calll hr hS (fun q _ h => iA_free hD hS hA q h) (iA_free hD hS hA) (fun r u t H1 locs1 ht hvm hw hB hz1 hk1 hS => kk r u H1 locs1 hw (by rw [← ht]; exact hB) (wl_D hD u) hS)
theorem iw_f {post : UInt32 → (Nat → va_E) → Prop} (hr : va_Run p l e R s m args below meth c H locs cells slots 0 0 (F0 m pc ls st0) rest (va_Qf post (iB G N ad) (iA N ad H.size) a) (iA N ad H.size)) (hD : va_D A (wl N ad C)) (hS : va_S A H0 H locs) (hA : ∀ q, H0.size ≤ q → A q)
    (kk : ∀ (r : UInt32) (u : Nat → va_E) (H1 : Heap) (locs1 : List Loc), post r u → va_P G.1 vwB (wl N ad u) H1 → va_D A (wl N ad u) → va_S A H0 H1 locs1 → W p l e R s m args below meth c H1 locs1 cells slots Q (F0 m (pc + 3) ls (.float r :: rest))) : W p l e R s m args below meth c H locs cells slots Q (F0 m pc ls st0) :=
  va_callf hr hS (fun q _ h => iA_free hD hS hA q h) (iA_free hD hS hA) (fun r u t H1 locs1 ht hvm hw hB hz1 hk1 hS => kk r u H1 locs1 hw (by rw [← ht]; exact hB) (wl_D hD u) hS)
theorem iw_d {post : UInt64 → (Nat → va_E) → Prop} (hr : va_Run p l e R s m args below meth c H locs cells slots 0 0 (F0 m pc ls st0) rest (va_Qd post (iB G N ad) (iA N ad H.size) a) (iA N ad H.size)) (hD : va_D A (wl N ad C)) (hS : va_S A H0 H locs) (hA : ∀ q, H0.size ≤ q → A q)
    (kk : ∀ (r : UInt64) (u : Nat → va_E) (H1 : Heap) (locs1 : List Loc), post r u → va_P G.1 vwB (wl N ad u) H1 → va_D A (wl N ad u) → va_S A H0 H1 locs1 → W p l e R s m args below meth c H1 locs1 cells slots Q (F0 m (pc + 3) ls (.double r :: rest))) : W p l e R s m args below meth c H locs cells slots Q (F0 m pc ls st0) :=
  va_calld hr hS (fun q _ h => iA_free hD hS hA q h) (iA_free hD hS hA) (fun r u t H1 locs1 ht hvm hw hB hz1 hk1 hS => kk r u H1 locs1 hw (by rw [← ht]; exact hB) (wl_D hD u) hS)
theorem iw_v {post : (Nat → va_E) → Prop} (hr : va_Run p l e R s m args below meth c H locs cells slots 0 0 (F0 m pc ls st0) rest (va_Qv post (iB G N ad) (iA N ad H.size) a) (iA N ad H.size)) (hD : va_D A (wl N ad C)) (hS : va_S A H0 H locs) (hA : ∀ q, H0.size ≤ q → A q)
    (kk : ∀ (u : Nat → va_E) (H1 : Heap) (locs1 : List Loc), post u → va_P G.1 vwB (wl N ad u) H1 → va_D A (wl N ad u) → va_S A H0 H1 locs1 → W p l e R s m args below meth c H1 locs1 cells slots Q (F0 m (pc + 3) ls (rest))) : W p l e R s m args below meth c H locs cells slots Q (F0 m pc ls st0) :=
  va_callv hr hS (fun q _ h => iA_free hD hS hA q h) (iA_free hD hS hA) (fun u t H1 locs1 ht hvm hw hB hz1 hk1 hS => kk u H1 locs1 hw (by rw [← ht]; exact hB) (wl_D hD u) hS)
theorem iw_iald {cc : ByteArray} (hexec : p.tables.exec = Jvm.exec) (hb : c.code = cc) (hK : KB G s) (hP : va_P G.1 vwB (wl N ad C) H) {j n : Nat} {f : Nat → Int32} (hj : j < N) (hc : C j = ia G n f) {i : Int32} {v : Int32} (hin : vp_in i n) (hv : f i.toNatClampNeg = v) (hdg : decode cc pc = .ok (.iaload, 1))
    (kk : W p l e R s m args below meth c H locs cells slots Q (F0 m (pc + 1) ls (.int v :: rest))) : W p l e R s m args below meth c H locs cells slots Q (F0 m pc ls (.int i :: .ref (ad j) :: rest)) := by
  subst hv
  exact va_iald hexec hb hK.1 hP j 0 (wl_get hj hc) rfl hin hdg kk
theorem iw_zald {cc : ByteArray} (hexec : p.tables.exec = Jvm.exec) (hb : c.code = cc) (hK : KB G s) (hP : va_P G.1 vwB (wl N ad C) H) {j n : Nat} {f : Nat → Int32} (hj : j < N) (hc : C j = za G n f) {i : Int32} {v : Int32} (hin : vp_in i n) (hv : f i.toNatClampNeg = v) (hdg : decode cc pc = .ok (.baload, 1))
    (kk : W p l e R s m args below meth c H locs cells slots Q (F0 m (pc + 1) ls (.int v :: rest))) : W p l e R s m args below meth c H locs cells slots Q (F0 m pc ls (.int i :: .ref (ad j) :: rest)) := by
  subst hv
  exact va_zald hexec hb hK.1 hP j 2 (wl_get hj hc) rfl hin hdg kk
theorem iw_fald {cc : ByteArray} (hexec : p.tables.exec = Jvm.exec) (hb : c.code = cc) (hK : KB G s) (hP : va_P G.1 vwB (wl N ad C) H) {j n : Nat} {f : Nat → UInt32} (hj : j < N) (hc : C j = fa G n f) {i : Int32} {v : UInt32} (hin : vp_in i n) (hv : f i.toNatClampNeg = v) (hdg : decode cc pc = .ok (.faload, 1))
    (kk : W p l e R s m args below meth c H locs cells slots Q (F0 m (pc + 1) ls (.float v :: rest))) : W p l e R s m args below meth c H locs cells slots Q (F0 m pc ls (.int i :: .ref (ad j) :: rest)) := by
  subst hv
  exact va_fald hexec hb hK.1 hP j 1 (wl_get hj hc) rfl hin hdg kk
theorem iw_ralM {cc : ByteArray} (hexec : p.tables.exec = Jvm.exec) (hb : c.code = cc) (hK : KB G s) (hP : va_P G.1 vwB (wl N ad C) H) {j n : Nat} {f : Nat → Option Nat} (hj : j < N) (hc : C j = ra G 3 n f) {i : Int32} {v : Nat} (hin : vp_in i n) (hv : f i.toNatClampNeg = some v) (hdg : decode cc pc = .ok (.aaload, 1))
    (kk : W p l e R s m args below meth c H locs cells slots Q (F0 m (pc + 1) ls (.ref v :: rest))) : W p l e R s m args below meth c H locs cells slots Q (F0 m pc ls (.int i :: .ref (ad j) :: rest)) :=
  va_aldq hexec hb hK.1 hP j 3 (wl_get hj hc) rfl hin hdg (by rw [hv]; exact kk)
theorem iw_ralS {cc : ByteArray} (hexec : p.tables.exec = Jvm.exec) (hb : c.code = cc) (hK : KB G s) (hP : va_P G.1 vwB (wl N ad C) H) {j n : Nat} {f : Nat → Option Nat} (hj : j < N) (hc : C j = ra G 4 n f) {i : Int32} {v : Nat} (hin : vp_in i n) (hv : f i.toNatClampNeg = some v) (hdg : decode cc pc = .ok (.aaload, 1))
    (kk : W p l e R s m args below meth c H locs cells slots Q (F0 m (pc + 1) ls (.ref v :: rest))) : W p l e R s m args below meth c H locs cells slots Q (F0 m pc ls (.int i :: .ref (ad j) :: rest)) :=
  va_aldq hexec hb hK.1 hP j 4 (wl_get hj hc) rfl hin hdg (by rw [hv]; exact kk)
theorem iw_iast {cc : ByteArray} (hexec : p.tables.exec = Jvm.exec) (hb : c.code = cc) (hK : KB G s) (hP : va_P G.1 vwB (wl N ad C) H) (hD : va_D A (wl N ad C)) (hS : va_S A H0 H locs) {j n : Nat} {f : Nat → Int32} (hj : j < N) (hc : C j = ia G n f) {i x : Int32} {k : Nat} (hin : vp_in i n) (hk : i.toNatClampNeg = k) (hdg : decode cc pc = .ok (.iastore, 1))
    (kk : ∀ (H1 : Heap) (locs1 : List Loc), va_P G.1 vwB (wl N ad (va_up C j (ia G n (upd f k x)))) H1 → va_D A (wl N ad (va_up C j (ia G n (upd f k x)))) → va_S A H0 H1 locs1 → W p l e R s m args below meth c H1 locs1 cells slots Q (F0 m (pc + 1) ls rest)) : W p l e R s m args below meth c H locs cells slots Q (F0 m pc ls (.int x :: .int i :: .ref (ad j) :: rest)) := by
  subst hk
  exact va_iast hexec hb hK.1 hP hD hS j 0 (wl_get hj hc) rfl hin hdg (fun H1 locs1 h1 h2 h3 => kk H1 locs1 (by rw [← wl_set hj]; exact h1) (by rw [← wl_set hj]; exact h2) h3)
theorem iw_zast {cc : ByteArray} (hexec : p.tables.exec = Jvm.exec) (hb : c.code = cc) (hK : KB G s) (hP : va_P G.1 vwB (wl N ad C) H) (hD : va_D A (wl N ad C)) (hS : va_S A H0 H locs) {j n : Nat} {f : Nat → Int32} (hj : j < N) (hc : C j = za G n f) {i x y : Int32} {k : Nat} (hin : vp_in i n) (hk : i.toNatClampNeg = k) (hy : vp_nar .boolean x = y) (hdg : decode cc pc = .ok (.bastore, 1))
    (kk : ∀ (H1 : Heap) (locs1 : List Loc), va_P G.1 vwB (wl N ad (va_up C j (za G n (upd f k y)))) H1 → va_D A (wl N ad (va_up C j (za G n (upd f k y)))) → va_S A H0 H1 locs1 → W p l e R s m args below meth c H1 locs1 cells slots Q (F0 m (pc + 1) ls rest)) : W p l e R s m args below meth c H locs cells slots Q (F0 m pc ls (.int x :: .int i :: .ref (ad j) :: rest)) := by
  subst hk; subst hy
  exact va_zast hexec hb hK.1 hP hD hS j 2 (wl_get hj hc) rfl hin hdg (fun H1 locs1 h1 h2 h3 => kk H1 locs1 (by rw [← wl_set hj]; exact h1) (by rw [← wl_set hj]; exact h2) h3)
theorem iw_fast {cc : ByteArray} (hexec : p.tables.exec = Jvm.exec) (hb : c.code = cc) (hK : KB G s) (hP : va_P G.1 vwB (wl N ad C) H) (hD : va_D A (wl N ad C)) (hS : va_S A H0 H locs) {j n : Nat} {f : Nat → UInt32} (hj : j < N) (hc : C j = fa G n f) {i : Int32} {x : UInt32} {k : Nat} (hin : vp_in i n) (hk : i.toNatClampNeg = k) (hdg : decode cc pc = .ok (.fastore, 1))
    (kk : ∀ (H1 : Heap) (locs1 : List Loc), va_P G.1 vwB (wl N ad (va_up C j (fa G n (vf_upd f k x)))) H1 → va_D A (wl N ad (va_up C j (fa G n (vf_upd f k x)))) → va_S A H0 H1 locs1 → W p l e R s m args below meth c H1 locs1 cells slots Q (F0 m (pc + 1) ls rest)) : W p l e R s m args below meth c H locs cells slots Q (F0 m pc ls (.float x :: .int i :: .ref (ad j) :: rest)) := by
  subst hk
  exact va_fast hexec hb hK.1 hP hD hS j 1 (wl_get hj hc) rfl hin hdg (fun H1 locs1 h1 h2 h3 => kk H1 locs1 (by rw [← wl_set hj]; exact h1) (by rw [← wl_set hj]; exact h2) h3)
theorem iw_alenI {cc : ByteArray} (hexec : p.tables.exec = Jvm.exec) (hb : c.code = cc) (hK : KB G s) (hP : va_P G.1 vwB (wl N ad C) H) {j n : Nat} {f : Nat → Int32} (hj : j < N) (hc : C j = ia G n f) {v : Int32} (hv : Int32.ofNat n = v) (hdg : decode cc pc = .ok (.arraylength, 1))
    (kk : W p l e R s m args below meth c H locs cells slots Q (F0 m (pc + 1) ls (.int v :: rest))) : W p l e R s m args below meth c H locs cells slots Q (F0 m pc ls (.ref (ad j) :: rest)) :=
  va_alen hexec hb hK.1 hP j 0 (wl_get hj hc) rfl hv hdg kk
theorem iw_alenF {cc : ByteArray} (hexec : p.tables.exec = Jvm.exec) (hb : c.code = cc) (hK : KB G s) (hP : va_P G.1 vwB (wl N ad C) H) {j n : Nat} {f : Nat → UInt32} (hj : j < N) (hc : C j = fa G n f) {v : Int32} (hv : Int32.ofNat n = v) (hdg : decode cc pc = .ok (.arraylength, 1))
    (kk : W p l e R s m args below meth c H locs cells slots Q (F0 m (pc + 1) ls (.int v :: rest))) : W p l e R s m args below meth c H locs cells slots Q (F0 m pc ls (.ref (ad j) :: rest)) :=
  va_alen hexec hb hK.1 hP j 1 (wl_get hj hc) rfl hv hdg kk
/-- a field is read: own class or nest mate, the link as it comes -/
theorem iw_get {cc : ByteArray} (hexec : p.tables.exec = Jvm.exec) (hb : c.code = cc) {own ref Cn : String} {T : u_T} {n ci index : Nat} {Ts : List Cond} (hts : ∀ w ∈ Ts, w.before args s = true) (hin : ∀ w ∈ u_ws Cn T n, w ∈ Ts) (hown : s.vm.findClass own = some m.cls) (hK : KB G s) (hP : va_P G.1 vwB (wl N ad C) H) {j : Nat} (hj : j < N) {fs : List Value} (he : C j = ob ci fs) (hc : vwB[ci]? = some (Cn, T, n)) (k : Nat) (hk : k < n) (hlink : (Cond.fieldLink own index ref (T k).2.1 (T k).2.2.1).before args s = true) (hsame : ∀ x, s.fieldFound? (T k).1 (T k).2.1 (T k).2.2.1 = some x → s.fieldFound? ref (T k).2.1 (T k).2.2.1 = some x) {v : Value} (hv : fs[k]? = some v) (hdg : decode cc pc = .ok (.getfield index, 3))
    (kk : W p l e R s m args below meth c H locs cells slots Q (F0 m (pc + 3) ls (v :: rest))) : W p l e R s m args below meth c H locs cells slots Q (F0 m pc ls (.ref (ad j) :: rest)) :=
  va_get hexec hb hts hin hown hK.1 hP j (wl_get hj he) hc k hk hlink hsame hv hdg kk
theorem iw_getN {cc : ByteArray} (hexec : p.tables.exec = Jvm.exec) (hb : c.code = cc) {own ref Cn host : String} {T : u_T} {n ci index : Nat} {Ts : List Cond} (hts : ∀ w ∈ Ts, w.before args s = true) (hin : ∀ w ∈ u_ws Cn T n, w ∈ Ts) (hown : s.vm.findClass own = some m.cls) (hK : KB G s) (hP : va_P G.1 vwB (wl N ad C) H) {j : Nat} (hj : j < N) {fs : List Value} (he : C j = ob ci fs) (hc : vwB[ci]? = some (Cn, T, n)) (k : Nat) (hk : k < n) (hlink : va_Nw (Cond.fieldLinkNest own index ref (T k).2.1 (T k).2.2.1 host) s) (hsame : ∀ x, s.fieldFound? (T k).1 (T k).2.1 (T k).2.2.1 = some x → s.fieldFound? ref (T k).2.1 (T k).2.2.1 = some x) {v : Value} (hv : fs[k]? = some v) (hdg : decode cc pc = .ok (.getfield index, 3))
    (kk : W p l e R s m args below meth c H locs cells slots Q (F0 m (pc + 3) ls (v :: rest))) : W p l e R s m args below meth c H locs cells slots Q (F0 m pc ls (.ref (ad j) :: rest)) :=
  va_getN hexec hb hts hin hown hK.1 hP j (wl_get hj he) hc k hk (va_Nw.use rfl hlink) hsame hv hdg kk
theorem iw_put {cc : ByteArray} (hexec : p.tables.exec = Jvm.exec) (hb : c.code = cc) {own ref Cn : String} {T : u_T} {n ci index : Nat} {Ts : List Cond} (hts : ∀ w ∈ Ts, w.before args s = true) (hin : ∀ w ∈ u_ws Cn T n, w ∈ Ts) (ty0 : Nat → FieldType) (hty : ∀ k, k < n → parseFieldDescriptor (T k).2.2.1 = some (ty0 k)) (hnm : ∀ a, a < n → ∀ b, b < n → a ≠ b → (T a).2.1 ≠ (T b).2.1) (hown : s.vm.findClass own = some m.cls) (hK : KB G s) (hP : va_P G.1 vwB (wl N ad C) H) (hD : va_D A (wl N ad C)) (hS : va_S A H0 H locs) {j : Nat} (hj : j < N) {fs : List Value} (he : C j = ob ci fs) (hc : vwB[ci]? = some (Cn, T, n)) (k : Nat) (hk : k < n) (hlink : (Cond.fieldLink own index ref (T k).2.1 (T k).2.2.1).before args s = true) (hsame : ∀ x, s.fieldFound? (T k).1 (T k).2.1 (T k).2.2.1 = some x → s.fieldFound? ref (T k).2.1 (T k).2.2.1 = some x) (hfin : (T k).2.2.2 = false) {ty : FieldType} {v : Value} (hd : parseFieldDescriptor (T k).2.2.1 = some ty) (hn : narrow ty v = v) (hfit : fits ty v = true) (hl : k < fs.length) {fs' : List Value} (hfs : fs.set k v = fs')
    (hdg : decode cc pc = .ok (.putfield index, 3)) (kk : ∀ (H1 : Heap) (locs1 : List Loc), va_P G.1 vwB (wl N ad (va_up C j (ob ci fs'))) H1 → va_D A (wl N ad (va_up C j (ob ci fs'))) → va_S A H0 H1 locs1 → W p l e R s m args below meth c H1 locs1 cells slots Q (F0 m (pc + 3) ls rest)) : W p l e R s m args below meth c H locs cells slots Q (F0 m pc ls (v :: .ref (ad j) :: rest)) := by
  subst hfs
  exact va_put hexec hb hts hin ty0 hty hnm hown hK.1 hP hD hS j (wl_get hj he) hc k hk hlink hsame hfin hd hn hfit hl hdg (fun H1 locs1 h1 h2 h3 => kk H1 locs1 (by rw [← wl_set hj]; exact h1) (by rw [← wl_set hj]; exact h2) h3)
theorem iw_putN {cc : ByteArray} (hexec : p.tables.exec = Jvm.exec) (hb : c.code = cc) {own ref Cn host : String} {T : u_T} {n ci index : Nat} {Ts : List Cond} (hts : ∀ w ∈ Ts, w.before args s = true) (hin : ∀ w ∈ u_ws Cn T n, w ∈ Ts) (ty0 : Nat → FieldType) (hty : ∀ k, k < n → parseFieldDescriptor (T k).2.2.1 = some (ty0 k)) (hnm : ∀ a, a < n → ∀ b, b < n → a ≠ b → (T a).2.1 ≠ (T b).2.1) (hown : s.vm.findClass own = some m.cls) (hK : KB G s) (hP : va_P G.1 vwB (wl N ad C) H) (hD : va_D A (wl N ad C)) (hS : va_S A H0 H locs) {j : Nat} (hj : j < N) {fs : List Value} (he : C j = ob ci fs) (hc : vwB[ci]? = some (Cn, T, n)) (k : Nat) (hk : k < n) (hlink : va_Nw (Cond.fieldLinkNest own index ref (T k).2.1 (T k).2.2.1 host) s) (hsame : ∀ x, s.fieldFound? (T k).1 (T k).2.1 (T k).2.2.1 = some x → s.fieldFound? ref (T k).2.1 (T k).2.2.1 = some x) (hfin : (T k).2.2.2 = false) {ty : FieldType} {v : Value} (hd : parseFieldDescriptor (T k).2.2.1 = some ty) (hn : narrow ty v = v) (hfit : fits ty v = true) (hl : k < fs.length) {fs' : List Value} (hfs : fs.set k v = fs')
    (hdg : decode cc pc = .ok (.putfield index, 3)) (kk : ∀ (H1 : Heap) (locs1 : List Loc), va_P G.1 vwB (wl N ad (va_up C j (ob ci fs'))) H1 → va_D A (wl N ad (va_up C j (ob ci fs'))) → va_S A H0 H1 locs1 → W p l e R s m args below meth c H1 locs1 cells slots Q (F0 m (pc + 3) ls rest)) : W p l e R s m args below meth c H locs cells slots Q (F0 m pc ls (v :: .ref (ad j) :: rest)) := by
  subst hfs
  exact va_putN hexec hb hts hin ty0 hty hnm hown hK.1 hP hD hS j (wl_get hj he) hc k hk (va_Nw.use rfl hlink) hsame hfin hd hn hfit hl hdg (fun H1 locs1 h1 h2 h3 => kk H1 locs1 (by rw [← wl_set hj]; exact h1) (by rw [← wl_set hj]; exact h2) h3)
end IWC
theorem iinc_nat (k n : Nat) : nI k + Int32.ofInt (n : Int) = nI (k + n) := by
  have h : Int32.ofInt (n : Int) = nI n := rfl
  rw [h, nI_add]
section IWP
variable {p : Program} {l : Launch} {e : Env} {R : Room} {s : State} {m : MethodId} {args : Array Value} {below : List Frame} {meth : Method} {c : Code} {H : Heap} {locs : List Loc} {cells slots : Nat} {Q : State → Prop}
variable {pc : Nat} {ls : Array Slot} {rest st0 : List Value} {a : Array Value} {A : Nat → Prop} {H0 : Heap} {D : va_G} {cl : List vw_C} {ws : va_W}
theorem lv_asI {x y : Int32} (h : x = y) (k : W p l e R s m args below meth c H locs cells slots Q (F0 m pc ls (.int y :: rest))) : W p l e R s m args below meth c H locs cells slots Q (F0 m pc ls (.int x :: rest)) := by
  subst h
  exact k
theorem lv_asF {x y : UInt32} (h : x = y) (k : W p l e R s m args below meth c H locs cells slots Q (F0 m pc ls (.float y :: rest))) : W p l e R s m args below meth c H locs cells slots Q (F0 m pc ls (.float x :: rest)) := by
  subst h
  exact k
theorem lv_asD {x y : UInt64} (h : x = y) (k : W p l e R s m args below meth c H locs cells slots Q (F0 m pc ls (.double y :: rest))) : W p l e R s m args below meth c H locs cells slots Q (F0 m pc ls (.double x :: rest)) := by
  subst h
  exact k
theorem lv_asL {x y : Int64} (h : x = y) (k : W p l e R s m args below meth c H locs cells slots Q (F0 m pc ls (.long y :: rest))) : W p l e R s m args below meth c H locs cells slots Q (F0 m pc ls (.long x :: rest)) := by
  subst h
  exact k
theorem iw_pi {post : Int32 → Unit → Prop} (hr : va_Run p l e R s m args below meth c H locs cells slots 0 0 (F0 m pc ls st0) rest (va_Qi post (fun _ _ => True) (fun _ => False) a) (fun _ => False)) (hP : va_P D cl ws H) (hS : va_S A H0 H locs)
    (kk : ∀ (r : Int32) (u : Unit) (H1 : Heap) (locs1 : List Loc), post r u → va_P D cl ws H1 → va_S A H0 H1 locs1 → W p l e R s m args below meth c H1 locs1 cells slots Q (F0 m (pc + 3) ls (.int r :: rest))) : W p l e R s m args below meth c H locs cells slots Q (F0 m pc ls st0) :=
  va_calli hr hS (fun q _ h => h.elim) (fun q h => h.elim) (fun r u t H1 locs1 ht hvm hw hB hz1 hk1 hS => kk r u H1 locs1 hw (hP.kept (fun k q hq => hk1 _ ((hP k q hq).lt) id)) hS)
theorem iw_pl {post : Int64 → Unit → Prop} (hr : va_Run p l e R s m args below meth c H locs cells slots 0 0 (F0 m pc ls st0) rest (va_Ql post (fun _ _ => True) (fun _ => False) a) (fun _ => False)) (hP : va_P D cl ws H) (hS : va_S A H0 H locs)
    (kk : ∀ (r : Int64) (u : Unit) (H1 : Heap) (locs1 : List Loc), post r u → va_P D cl ws H1 → va_S A H0 H1 locs1 → W p l e R s m args below meth c H1 locs1 cells slots Q (F0 m (pc + 3) ls (.long r :: rest))) : W p l e R s m args below meth c H locs cells slots Q (F0 m pc ls st0) :=
  va_calll hr hS (fun q _ h => h.elim) (fun q h => h.elim) (fun r u t H1 locs1 ht hvm hw hB hz1 hk1 hS => kk r u H1 locs1 hw (hP.kept (fun k q hq => hk1 _ ((hP k q hq).lt) id)) hS)
theorem iw_pf {post : UInt32 → Unit → Prop} (hr : va_Run p l e R s m args below meth c H locs cells slots 0 0 (F0 m pc ls st0) rest (va_Qf post (fun _ _ => True) (fun _ => False) a) (fun _ => False)) (hP : va_P D cl ws H) (hS : va_S A H0 H locs)
    (kk : ∀ (r : UInt32) (u : Unit) (H1 : Heap) (locs1 : List Loc), post r u → va_P D cl ws H1 → va_S A H0 H1 locs1 → W p l e R s m args below meth c H1 locs1 cells slots Q (F0 m (pc + 3) ls (.float r :: rest))) : W p l e R s m args below meth c H locs cells slots Q (F0 m pc ls st0) :=
  va_callf hr hS (fun q _ h => h.elim) (fun q h => h.elim) (fun r u t H1 locs1 ht hvm hw hB hz1 hk1 hS => kk r u H1 locs1 hw (hP.kept (fun k q hq => hk1 _ ((hP k q hq).lt) id)) hS)
theorem iw_pd {post : UInt64 → Unit → Prop} (hr : va_Run p l e R s m args below meth c H locs cells slots 0 0 (F0 m pc ls st0) rest (va_Qd post (fun _ _ => True) (fun _ => False) a) (fun _ => False)) (hP : va_P D cl ws H) (hS : va_S A H0 H locs)
    (kk : ∀ (r : UInt64) (u : Unit) (H1 : Heap) (locs1 : List Loc), post r u → va_P D cl ws H1 → va_S A H0 H1 locs1 → W p l e R s m args below meth c H1 locs1 cells slots Q (F0 m (pc + 3) ls (.double r :: rest))) : W p l e R s m args below meth c H locs cells slots Q (F0 m pc ls st0) :=
  va_calld hr hS (fun q _ h => h.elim) (fun q h => h.elim) (fun r u t H1 locs1 ht hvm hw hB hz1 hk1 hS => kk r u H1 locs1 hw (hP.kept (fun k q hq => hk1 _ ((hP k q hq).lt) id)) hS)
theorem iw_pv {post : Unit → Prop} (hr : va_Run p l e R s m args below meth c H locs cells slots 0 0 (F0 m pc ls st0) rest (va_Qv post (fun _ _ => True) (fun _ => False) a) (fun _ => False)) (hP : va_P D cl ws H) (hS : va_S A H0 H locs)
    (kk : ∀ (u : Unit) (H1 : Heap) (locs1 : List Loc), post u → va_P D cl ws H1 → va_S A H0 H1 locs1 → W p l e R s m args below meth c H1 locs1 cells slots Q (F0 m (pc + 3) ls (rest))) : W p l e R s m args below meth c H locs cells slots Q (F0 m pc ls st0) :=
  va_callv hr hS (fun q _ h => h.elim) (fun q h => h.elim) (fun u t H1 locs1 ht hvm hw hB hz1 hk1 hS => kk u H1 locs1 hw (hP.kept (fun k q hq => hk1 _ ((hP k q hq).lt) id)) hS)
end IWP
