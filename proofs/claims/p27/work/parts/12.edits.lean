/-- is a MEND among the first n? -/
def hasM (f : Nat → Int32) : Nat → Bool
  | 0 => false
  | n + 1 => hasM f n || decide (f n = nI 5)
theorem hasM_up (f : Nat → Int32) {k : Nat} (h : f k = nI 5) : ∀ n, k < n → hasM f n = true
  | 0, h1 => absurd h1 (Nat.not_lt_zero _)
  | n + 1, h1 => by
    unfold hasM
    rcases Nat.lt_or_ge k n with q | q
    · rw [hasM_up f h n q]; rfl
    · have e : k = n := by omega
      subst e
      simp [h]
/-- the first i from f, the others from g -/
def flI {α : Type} (f g : Nat → α) (i : Nat) : Nat → α := fun k => if k < i then f k else g k
theorem flI_0 {α : Type} (f g : Nat → α) : flI f g 0 = g := by funext k; simp [flI]
theorem flI_s (f g : Nat → Int32) (i : Nat) : upd (flI f g i) i (f i) = flI f g (i + 1) := by
  funext k
  by_cases h : k = i
  · subst h; simp [upd, flI]
  · have h2 : (k < i + 1) = (k < i) := by simp; omega
    simp [upd, flI, h, h2]
abbrev rmX0_count : Room := { frames := 0, cells := 0, slots := 0, locals := 0 }
set_option maxRecDepth 20000 in
theorem iu_X0_count_0 : ∀ w ∈ u_ws RX0 TX0 3, w ∈ wsX0_count := by decide +kernel
set_option maxRecDepth 20000 in
theorem il_X0_count_18 : (Cond.fieldLink RX0 18 "BayerGate$EditRow" "length" "I") ∈ wsX0_count := by decide +kernel
set_option maxHeartbeats 4000000 in
set_option maxRecDepth 100000 in
theorem kX0_count (l : Launch) (G : iG) (N : Nat) (ad : Nat → Nat) (C : Nat → va_E) {eb ek en : Nat} {ekinds enums : Nat → Int32} {n : Nat} (leb : eb < N) (lek : ek < N) (len : en < N) (heb : C eb = ob 0 [.ref (ad ek), .ref (ad en), .int (nI n)]) (hek : C ek = ia G 6 ekinds) (hen : C en = ia G 6 enums) (de : ek ≠ en) (sz : Nat) : Met l yX0_count wsX0_count rmX0_count (iPre G N ad C sz [.ref (ad eb)]) (va_Qi (fun (r : Int32) (u : Nat → va_E) => r = nI n ∧ u = C) (iB G N ad) (iA N ad sz)) 0 0 (iA N ad sz) := by
  refine Met.ofW (cc := cX0_count) (maxL := 1) (ret := (some .int)) (by decide) rfl ?_
  intro p e s m args below meth c s₁ B hml hv
  obtain ⟨rfl, hsz, hP, hK, hD0⟩ := hv
  have hx := B.exec
  have hb := B.bytes
  have hr := B.returns
  have hts := atoms_spec (ws := wsX0_count) B.pre
  have hown : s.vm.findClass RX0 = some m.cls := findClass_of_methodNamed B.named
  have hlocks := B.notSynchronized
  subst hsz
  have hD := wl_self hD0 s.heap.size
  have hA : ∀ q : Nat, s.heap.size ≤ q → iA N ad s.heap.size q := fun q h => Or.inr h
  have hS : va_S (iA N ad s.heap.size) s.heap s.heap [] := va_S.rf
  have hP : va_P G.1 vwB (wl N ad C) s.heap := hP
  have hl := lv_entry ([.ref (ad eb)]) (n := 1) (Nat.le_of_ble_eq_true rfl)
  rw [lg_entry_eq]
  generalize (lg_sl ([.ref (ad eb)]) ++ List.replicate (1 - (lg_sl ([.ref (ad eb)])).length) Slot.unset).toArray = ls at hl ⊢
  have hl : lv_has ls 1 [(0, .ref (ad eb))] := hl
  refine lv_aload_n hx hb dX0_count_0 rfl (lv_at hl 0 rfl) ?_
  refine iw_get hx hb hts iu_X0_count_0 hown hK hP leb (heb) rfl 2 (by decide) (hts _ il_X0_count_18) (fun _ h9 => h9) rfl dX0_count_1 ?_
  exact W.iret (v := (nI n)) hx hb hr (fun t ht hW => ⟨⟨_, _, rfl, ⟨rfl, rfl⟩, iB_of ht hP⟩, hS.F ht⟩) hS.2.2 dX0_count_4
abbrev rmX0_append : Room := { frames := 0, cells := 0, slots := 0, locals := 0 }
set_option maxRecDepth 20000 in
theorem iu_X0_append_0 : ∀ w ∈ u_ws RX0 TX0 3, w ∈ wsX0_append := by decide +kernel
set_option maxRecDepth 20000 in
theorem il_X0_append_18 : (Cond.fieldLink RX0 18 "BayerGate$EditRow" "length" "I") ∈ wsX0_append := by decide +kernel
set_option maxRecDepth 20000 in
theorem il_X0_append_9 : (Cond.fieldLink RX0 9 "BayerGate$EditRow" "kinds" "[I") ∈ wsX0_append := by decide +kernel
set_option maxRecDepth 20000 in
theorem il_X0_append_15 : (Cond.fieldLink RX0 15 "BayerGate$EditRow" "numbers" "[I") ∈ wsX0_append := by decide +kernel
set_option maxHeartbeats 4000000 in
set_option maxRecDepth 100000 in
theorem kX0_append (l : Launch) (G : iG) (N : Nat) (ad : Nat → Nat) (C : Nat → va_E) {eb ek en : Nat} {ekinds enums : Nat → Int32} {n : Nat} (leb : eb < N) (lek : ek < N) (len : en < N) (heb : C eb = ob 0 [.ref (ad ek), .ref (ad en), .int (nI n)]) (hek : C ek = ia G 6 ekinds) (hen : C en = ia G 6 enums) (de : ek ≠ en) (kind number : Int32) (hn6 : n < 6) (sz : Nat) : Met l yX0_append wsX0_append rmX0_append (iPre G N ad C sz [.ref (ad eb), .int kind, .int number]) (va_Qv (fun (u : Nat → va_E) => u = va_up (va_up (va_up C ek (ia G 6 (upd ekinds n kind))) en (ia G 6 (upd enums n number))) eb (ob 0 [.ref (ad ek), .ref (ad en), .int (nI (n + 1))])) (iB G N ad) (iA N ad sz)) 0 0 (iA N ad sz) := by
  refine Met.ofW (cc := cX0_append) (maxL := 3) (ret := none) (by decide) rfl ?_
  intro p e s m args below meth c s₁ B hml hv
  obtain ⟨rfl, hsz, hP, hK, hD0⟩ := hv
  have hx := B.exec
  have hb := B.bytes
  have hr := B.returns
  have hts := atoms_spec (ws := wsX0_append) B.pre
  have hown : s.vm.findClass RX0 = some m.cls := findClass_of_methodNamed B.named
  have hlocks := B.notSynchronized
  subst hsz
  have hD := wl_self hD0 s.heap.size
  have hA : ∀ q : Nat, s.heap.size ≤ q → iA N ad s.heap.size q := fun q h => Or.inr h
  have hS : va_S (iA N ad s.heap.size) s.heap s.heap [] := va_S.rf
  have hP : va_P G.1 vwB (wl N ad C) s.heap := hP
  have hl := lv_entry ([.ref (ad eb), .int kind, .int number]) (n := 3) (Nat.le_of_ble_eq_true rfl)
  rw [lg_entry_eq]
  generalize (lg_sl ([.ref (ad eb), .int kind, .int number]) ++ List.replicate (3 - (lg_sl ([.ref (ad eb), .int kind, .int number])).length) Slot.unset).toArray = ls at hl ⊢
  have hl : lv_has ls 3 [(0, .ref (ad eb)), (1, .int kind), (2, .int number)] := hl
  have nek : eb ≠ ek := fun h => by rw [h, hek] at heb; cases heb
  have nen : eb ≠ en := fun h => by rw [h, hen] at heb; cases heb
  refine lv_aload_n hx hb dX0_append_0 rfl (lv_at hl 0 rfl) ?_
  refine iw_get hx hb hts iu_X0_append_0 hown hK hP leb (heb) rfl 2 (by decide) (hts _ il_X0_append_18) (fun _ h9 => h9) rfl dX0_append_1 ?_
  refine lv_bipush (v := nI 6) hx hb dX0_append_4 (by decide) ?_
  refine lv_icmp_ge (tgt := 39) hx hb dX0_append_6 (by decide) (fun c9 => absurd c9 (nI_ge hn6 (by omega))) (fun _ => ?_)
  refine lv_aload_n hx hb dX0_append_9 rfl (lv_at hl 0 rfl) ?_
  refine iw_get hx hb hts iu_X0_append_0 hown hK hP leb (heb) rfl 0 (by decide) (hts _ il_X0_append_9) (fun _ h9 => h9) rfl dX0_append_10 ?_
  refine lv_aload_n hx hb dX0_append_13 rfl (lv_at hl 0 rfl) ?_
  refine iw_get hx hb hts iu_X0_append_0 hown hK hP leb (heb) rfl 2 (by decide) (hts _ il_X0_append_18) (fun _ h9 => h9) rfl dX0_append_14 ?_
  refine lv_iload_n hx hb dX0_append_17 rfl (lv_at hl 1 rfl) ?_
  refine iw_iast hx hb hK hP hD hS lek (hek) (vp_in_nI (show n < 6 by omega) (by omega)) (nI_clamp (by omega)) dX0_append_18 (fun H locs hP hD hS => ?_)
  refine lv_aload_n hx hb dX0_append_19 rfl (lv_at hl 0 rfl) ?_
  refine iw_get hx hb hts iu_X0_append_0 hown hK hP leb ((va_un _ _ nek).trans (heb)) rfl 1 (by decide) (hts _ il_X0_append_15) (fun _ h9 => h9) rfl dX0_append_20 ?_
  refine lv_aload_n hx hb dX0_append_23 rfl (lv_at hl 0 rfl) ?_
  refine iw_get hx hb hts iu_X0_append_0 hown hK hP leb ((va_un _ _ nek).trans (heb)) rfl 2 (by decide) (hts _ il_X0_append_18) (fun _ h9 => h9) rfl dX0_append_24 ?_
  refine lv_iload_n hx hb dX0_append_27 rfl (lv_at hl 2 rfl) ?_
  refine iw_iast hx hb hK hP hD hS len ((va_un _ _ (Ne.symm de)).trans (hen)) (vp_in_nI (show n < 6 by omega) (by omega)) (nI_clamp (by omega)) dX0_append_28 (fun H locs hP hD hS => ?_)
  refine lv_aload_n hx hb dX0_append_29 rfl (lv_at hl 0 rfl) ?_
  refine lv_dup hx hb dX0_append_30 rfl ?_
  refine iw_get hx hb hts iu_X0_append_0 hown hK hP leb ((va_un _ _ nen).trans ((va_un _ _ nek).trans (heb))) rfl 2 (by decide) (hts _ il_X0_append_18) (fun _ h9 => h9) rfl dX0_append_31 ?_
  refine lv_iconst (v := nI 1) hx hb dX0_append_34 (by decide) ?_
  refine lv_iadd hx hb dX0_append_35 ?_
  refine lv_asI (y := nI (n + 1)) (nI_add _ _) ?_
  refine iw_put (ty := .int) hx hb hts iu_X0_append_0 tyX0 tyX0_ok nmX0 hown hK hP hD hS leb ((va_un _ _ nen).trans ((va_un _ _ nek).trans (heb))) rfl 2 (by decide) (hts _ il_X0_append_18) (fun _ h9 => h9) rfl (by decide +kernel) rfl rfl (Nat.le_of_ble_eq_true rfl) rfl dX0_append_36 (fun H locs hP hD hS => ?_)
  exact W.vret hx hb hr (fun t ht hW => ⟨⟨_, rfl, rfl, iB_of ht hP⟩, hS.F ht⟩) hS.2.2 dX0_append_39
abbrev rmX0_takeBack : Room := { frames := 0, cells := 0, slots := 0, locals := 0 }
set_option maxRecDepth 20000 in
theorem iu_X0_takeBack_0 : ∀ w ∈ u_ws RX0 TX0 3, w ∈ wsX0_takeBack := by decide +kernel
set_option maxRecDepth 20000 in
theorem il_X0_takeBack_18 : (Cond.fieldLink RX0 18 "BayerGate$EditRow" "length" "I") ∈ wsX0_takeBack := by decide +kernel
set_option maxRecDepth 20000 in
theorem il_X0_takeBack_9 : (Cond.fieldLink RX0 9 "BayerGate$EditRow" "kinds" "[I") ∈ wsX0_takeBack := by decide +kernel
set_option maxHeartbeats 4000000 in
set_option maxRecDepth 100000 in
theorem kX0_takeBack (l : Launch) (G : iG) (N : Nat) (ad : Nat → Nat) (C : Nat → va_E) {eb ek en : Nat} {ekinds enums : Nat → Int32} {n : Nat} (leb : eb < N) (lek : ek < N) (len : en < N) (heb : C eb = ob 0 [.ref (ad ek), .ref (ad en), .int (nI n)]) (hek : C ek = ia G 6 ekinds) (hen : C en = ia G 6 enums) (de : ek ≠ en) (hn6 : n ≤ 6) (sz : Nat) : Met l yX0_takeBack wsX0_takeBack rmX0_takeBack (iPre G N ad C sz [.ref (ad eb)]) (va_Qi (fun (r : Int32) (u : Nat → va_E) => r = (if n = 0 then -nI 1 else ekinds (n - 1)) ∧ u = va_up C eb (ob 0 [.ref (ad ek), .ref (ad en), .int (nI (n - 1))])) (iB G N ad) (iA N ad sz)) 0 0 (iA N ad sz) := by
  refine Met.ofW (cc := cX0_takeBack) (maxL := 1) (ret := (some .int)) (by decide) rfl ?_
  intro p e s m args below meth c s₁ B hml hv
  obtain ⟨rfl, hsz, hP, hK, hD0⟩ := hv
  have hx := B.exec
  have hb := B.bytes
  have hr := B.returns
  have hts := atoms_spec (ws := wsX0_takeBack) B.pre
  have hown : s.vm.findClass RX0 = some m.cls := findClass_of_methodNamed B.named
  have hlocks := B.notSynchronized
  subst hsz
  have hD := wl_self hD0 s.heap.size
  have hA : ∀ q : Nat, s.heap.size ≤ q → iA N ad s.heap.size q := fun q h => Or.inr h
  have hS : va_S (iA N ad s.heap.size) s.heap s.heap [] := va_S.rf
  have hP : va_P G.1 vwB (wl N ad C) s.heap := hP
  have hl := lv_entry ([.ref (ad eb)]) (n := 1) (Nat.le_of_ble_eq_true rfl)
  rw [lg_entry_eq]
  generalize (lg_sl ([.ref (ad eb)]) ++ List.replicate (1 - (lg_sl ([.ref (ad eb)])).length) Slot.unset).toArray = ls at hl ⊢
  have hl : lv_has ls 1 [(0, .ref (ad eb))] := hl
  have nek : eb ≠ ek := fun h => by rw [h, hek] at heb; cases heb
  have nen : eb ≠ en := fun h => by rw [h, hen] at heb; cases heb
  refine lv_aload_n hx hb dX0_takeBack_0 rfl (lv_at hl 0 rfl) ?_
  refine iw_get hx hb hts iu_X0_takeBack_0 hown hK hP leb (heb) rfl 2 (by decide) (hts _ il_X0_takeBack_18) (fun _ h9 => h9) rfl dX0_takeBack_1 ?_
  refine lv_if_ne (tgt := 9) hx hb dX0_takeBack_4 (by decide) (fun c4 => ?_) (fun c4 => ?_)
  · rw [← nI_0, nI_eq (by omega) (by omega)] at c4
    refine lv_aload_n hx hb dX0_takeBack_9 rfl (lv_at hl 0 rfl) ?_
    refine lv_dup hx hb dX0_takeBack_10 rfl ?_
    refine iw_get hx hb hts iu_X0_takeBack_0 hown hK hP leb (heb) rfl 2 (by decide) (hts _ il_X0_takeBack_18) (fun _ h9 => h9) rfl dX0_takeBack_11 ?_
    refine lv_iconst (v := nI 1) hx hb dX0_takeBack_14 (by decide) ?_
    refine lv_isub hx hb dX0_takeBack_15 ?_
    refine lv_asI (y := nI (n - 1)) (pk_sub (by omega)) ?_
    refine iw_put (ty := .int) hx hb hts iu_X0_takeBack_0 tyX0 tyX0_ok nmX0 hown hK hP hD hS leb (heb) rfl 2 (by decide) (hts _ il_X0_takeBack_18) (fun _ h9 => h9) rfl (by decide +kernel) rfl rfl (Nat.le_of_ble_eq_true rfl) rfl dX0_takeBack_16 (fun H locs hP hD hS => ?_)
    refine lv_aload_n hx hb dX0_takeBack_19 rfl (lv_at hl 0 rfl) ?_
    refine iw_get hx hb hts iu_X0_takeBack_0 hown hK hP leb (va_us _ _ _) rfl 0 (by decide) (hts _ il_X0_takeBack_9) (fun _ h9 => h9) rfl dX0_takeBack_20 ?_
    refine lv_aload_n hx hb dX0_takeBack_23 rfl (lv_at hl 0 rfl) ?_
    refine iw_get hx hb hts iu_X0_takeBack_0 hown hK hP leb (va_us _ _ _) rfl 2 (by decide) (hts _ il_X0_takeBack_18) (fun _ h9 => h9) rfl dX0_takeBack_24 ?_
    refine iw_iald (v := ekinds (n - 1)) hx hb hK hP lek ((va_un _ _ (Ne.symm nek)).trans (hek)) (vp_in_nI (show n - 1 < 6 by omega) (by omega)) (congrArg ekinds (nI_clamp (by omega))) dX0_takeBack_27 ?_
    exact W.iret (v := (ekinds (n - 1))) hx hb hr (fun t ht hW => ⟨⟨_, _, rfl, ⟨by simp [*], rfl⟩, iB_of ht hP⟩, hS.F ht⟩) hS.2.2 dX0_takeBack_28
  · rw [← nI_0, nI_eq (by omega) (by omega)] at c4
    refine lv_iconst (v := -nI 1) hx hb dX0_takeBack_7 (by decide) ?_
    exact W.iret (v := (-nI 1)) hx hb hr (fun t ht hW => ⟨⟨_, _, rfl, ⟨by simp [*], (va_self C (by subst c4; exact heb)).symm⟩, iB_of ht hP⟩, hS.F ht⟩) hS.2.2 dX0_takeBack_8
abbrev rmX0_hasMend : Room := { frames := 0, cells := 0, slots := 0, locals := 0 }
set_option maxRecDepth 20000 in
theorem iu_X0_hasMend_0 : ∀ w ∈ u_ws RX0 TX0 3, w ∈ wsX0_hasMend := by decide +kernel
set_option maxRecDepth 20000 in
theorem il_X0_hasMend_18 : (Cond.fieldLink RX0 18 "BayerGate$EditRow" "length" "I") ∈ wsX0_hasMend := by decide +kernel
set_option maxRecDepth 20000 in
theorem il_X0_hasMend_9 : (Cond.fieldLink RX0 9 "BayerGate$EditRow" "kinds" "[I") ∈ wsX0_hasMend := by decide +kernel
set_option maxHeartbeats 4000000 in
set_option maxRecDepth 100000 in
theorem lX0_hasMend {p : Program} {l : Launch} {e : Env} {s : State} {m : MethodId} {args : Array Value} {below : List Frame} {meth : Method} {c : Code} {Q : State → Prop} {A : Nat → Prop} {H0 : Heap} {cells slots : Nat} (hx : p.tables.exec = Jvm.exec) (hb : c.code = cX0_hasMend) (hml : c.maxLocals = 2) (hr : meth.sig.returnType = (some .boolean)) (hts : ∀ w ∈ wsX0_hasMend, w.before args s = true) (hown : s.vm.findClass RX0 = some m.cls) {G : iG} (hK : KB G s) (hA : ∀ q, H0.size ≤ q → A q) {N : Nat} {ad : Nat → Nat} {C : Nat → va_E} {H : Heap} {locs : List Loc} (hP : va_P G.1 vwB (wl N ad C) H) (hD : va_D A (wl N ad C)) (hS : va_S A H0 H locs)  (hcc : cells ≤ rmX0_hasMend.cells) (hcs : slots ≤ rmX0_hasMend.slots) {eb ek en : Nat} {ekinds enums : Nat → Int32} {n : Nat} (leb : eb < N) (lek : ek < N) (len : en < N) (heb : C eb = ob 0 [.ref (ad ek), .ref (ad en), .int (nI n)]) (hek : C ek = ia G 6 ekinds) (hen : C en = ia G 6 enums) (de : ek ≠ en) (hn6 : n ≤ 6) (kx : ∀ ls, hasM ekinds n = false → lv_has ls 2 [(0, .ref (ad eb))] → W p l e rmX0_hasMend s m args below meth c H locs cells slots Q (F0 m 28 ls [])) (kt : ∀ ls, hasM ekinds n = true → lv_has ls 2 [(0, .ref (ad eb))] → W p l e rmX0_hasMend s m args below meth c H locs cells slots Q (F0 m 20 ls [])) : ∀ (d : Nat) (k : Nat) (ls : Array Slot), n - k < d → k ≤ n → hasM ekinds k = false → lv_has ls 2 [(1, .int (nI k)), (0, .ref (ad eb))] → W p l e rmX0_hasMend s m args below meth c H locs cells slots Q (F0 m 2 ls []) := by
  intro d
  induction d with
  | zero => intro k ls hd; exact absurd hd (Nat.not_lt_zero _)
  | succ d ih =>
    intro k ls hd h2 h3 hl
    refine lv_iload_n hx hb dX0_hasMend_2 rfl (lv_at hl 0 rfl) ?_
    refine lv_aload_n hx hb dX0_hasMend_3 rfl (lv_at hl 1 rfl) ?_
    refine iw_get hx hb hts iu_X0_hasMend_0 hown hK hP leb (heb) rfl 2 (by decide) (hts _ il_X0_hasMend_18) (fun _ h9 => h9) rfl dX0_hasMend_4 ?_
    refine lv_icmp_ge (tgt := 28) hx hb dX0_hasMend_7 (by decide) (fun c7 => ?_) (fun c7 => ?_)
    · have e7 : k = n := by have := (nI_leI (by omega) (by omega)).mp c7; omega
      subst e7
      exact kx ls h3 (lv_sub hl [1] rfl)
    · have h4 : k < n := by have := mt (nI_leI (by omega) (by omega)).mpr c7; omega
      refine lv_aload_n hx hb dX0_hasMend_10 rfl (lv_at hl 1 rfl) ?_
      refine iw_get hx hb hts iu_X0_hasMend_0 hown hK hP leb (heb) rfl 0 (by decide) (hts _ il_X0_hasMend_9) (fun _ h9 => h9) rfl dX0_hasMend_11 ?_
      refine lv_iload_n hx hb dX0_hasMend_14 rfl (lv_at hl 0 rfl) ?_
      refine iw_iald (v := ekinds k) hx hb hK hP lek (hek) (vp_in_nI (show k < 6 by omega) (by omega)) (congrArg ekinds (nI_clamp (by omega))) dX0_hasMend_15 ?_
      refine lv_iconst (v := nI 5) hx hb dX0_hasMend_16 (by decide) ?_
      refine lv_icmp_ne (tgt := 22) hx hb dX0_hasMend_17 (by decide) (fun c17 => ?_) (fun c17 => ?_)
      · refine lv_iinc (v := nI (k + 1)) (lv' := [(1, .int (nI (k + 1))), (0, .ref (ad eb))]) hx hb dX0_hasMend_22 hl (k := 0) rfl (iinc_nat _ 1) (by decide) rfl (fun ls hl => ?_)
        refine lv_goto (tgt := 2) hx hb dX0_hasMend_25 (by decide) ?_
        exact ih (k + 1) ls (by omega) (by omega) (by simp only [hasM, h3]; simp [c17]) (lv_sub hl [0, 1] rfl)
      · exact kt ls (hasM_up _ c17 n (by have := mt (nI_leI (by omega) (by omega)).mpr c7; omega)) (lv_sub hl [1] rfl)
set_option maxHeartbeats 4000000 in
set_option maxRecDepth 100000 in
theorem kX0_hasMend (l : Launch) (G : iG) (N : Nat) (ad : Nat → Nat) (C : Nat → va_E) {eb ek en : Nat} {ekinds enums : Nat → Int32} {n : Nat} (leb : eb < N) (lek : ek < N) (len : en < N) (heb : C eb = ob 0 [.ref (ad ek), .ref (ad en), .int (nI n)]) (hek : C ek = ia G 6 ekinds) (hen : C en = ia G 6 enums) (de : ek ≠ en) (hn6 : n ≤ 6) (sz : Nat) : Met l yX0_hasMend wsX0_hasMend rmX0_hasMend (iPre G N ad C sz [.ref (ad eb)]) (va_Qi (fun (r : Int32) (u : Nat → va_E) => r = (if hasM ekinds n then nI 1 else nI 0) ∧ u = C) (iB G N ad) (iA N ad sz)) 0 0 (iA N ad sz) := by
  refine Met.ofW (cc := cX0_hasMend) (maxL := 2) (ret := (some .boolean)) (by decide) rfl ?_
  intro p e s m args below meth c s₁ B hml hv
  obtain ⟨rfl, hsz, hP, hK, hD0⟩ := hv
  have hx := B.exec
  have hb := B.bytes
  have hr := B.returns
  have hts := atoms_spec (ws := wsX0_hasMend) B.pre
  have hown : s.vm.findClass RX0 = some m.cls := findClass_of_methodNamed B.named
  have hlocks := B.notSynchronized
  subst hsz
  have hD := wl_self hD0 s.heap.size
  have hA : ∀ q : Nat, s.heap.size ≤ q → iA N ad s.heap.size q := fun q h => Or.inr h
  have hS : va_S (iA N ad s.heap.size) s.heap s.heap [] := va_S.rf
  have hP : va_P G.1 vwB (wl N ad C) s.heap := hP
  have hl := lv_entry ([.ref (ad eb)]) (n := 2) (Nat.le_of_ble_eq_true rfl)
  rw [lg_entry_eq]
  generalize (lg_sl ([.ref (ad eb)]) ++ List.replicate (2 - (lg_sl ([.ref (ad eb)])).length) Slot.unset).toArray = ls at hl ⊢
  have hl : lv_has ls 2 [(0, .ref (ad eb))] := hl
  refine lv_iconst (v := nI 0) hx hb dX0_hasMend_0 (by decide) ?_
  refine lv_istore_n (lv' := [(1, .int (nI 0)), (0, .ref (ad eb))]) hx hb dX0_hasMend_1 rfl hl (by decide) rfl (fun ls hl => ?_)
  refine lX0_hasMend hx hb hml hr hts hown hK hA hP hD hS (Nat.le_refl _) (Nat.le_refl _) leb lek len heb hek hen de hn6 (fun ls hm hl => ?_) (fun ls hm hl => ?_) (n + 1) 0 ls (by omega) (by omega) rfl hl
  · refine lv_iconst (v := nI 0) hx hb dX0_hasMend_28 (by decide) ?_
    exact W.zret (v := (nI 0)) (ty := .boolean) hx hb hr (by decide) (fun t ht hW => ⟨⟨_, _, rfl, ⟨by simp [hm], rfl⟩, iB_of ht hP⟩, hS.F ht⟩) hS.2.2 dX0_hasMend_29
  · refine lv_iconst (v := nI 1) hx hb dX0_hasMend_20 (by decide) ?_
    exact W.zret (v := (nI 1)) (ty := .boolean) hx hb hr (by decide) (fun t ht hW => ⟨⟨_, _, rfl, ⟨by simp [hm], rfl⟩, iB_of ht hP⟩, hS.F ht⟩) hS.2.2 dX0_hasMend_21
