/-! THE GROWING WORLD: cells that a method makes are laid behind the others -/
theorem wl_push {N : Nat} {ad : Nat → Nat} {C : Nat → va_E} {q : Nat} {e : va_E} : wl (N + 1) (va_up ad N q) (va_up C N e) = wl N ad C ++ [(q, e)] := by
  unfold wl
  rw [List.range_succ, List.map_append]
  congr 1
  · apply List.map_congr_left
    intro j hj
    have h := List.mem_range.mp hj
    rw [va_un _ _ (by omega), va_un _ _ (by omega)]
  · simp [va_us]
abbrev iU : Type := (Nat → Nat) × (Nat → va_E)
abbrev iB2 (G : iG) (N : Nat) (A : Nat → Prop) : iU → State → Prop := fun u t => va_P G.1 vwB (wl N u.1 u.2) t.heap ∧ va_D A (wl N u.1 u.2)
abbrev da (G : iG) (n : Nat) (f : Nat → UInt64) : va_E := .inl (G.2 6, n, .inr (.inr (.inr (.inl f))))
section IWG
variable {p : Program} {l : Launch} {e : Env} {R : Room} {s : State} {m : MethodId} {args : Array Value} {below : List Frame} {meth : Method} {c : Code} {H : Heap} {locs : List Loc} {cells slots : Nat} {Q : State → Prop}
variable {pc : Nat} {ls : Array Slot} {rest st0 : List Value} {a : Array Value} {A : Nat → Prop} {H0 : Heap} {G : iG} {N : Nat} {ad : Nat → Nat} {C : Nat → va_E}
theorem iw_new {cc : ByteArray} (hexec : p.tables.exec = Jvm.exec) (hb : c.code = cc) {own Cn : String} {T : u_T} {n ci index : Nat} {Ts : List Cond} (hts : ∀ w ∈ Ts, w.before args s = true) (hin : ∀ w ∈ u_ws Cn T n, w ∈ Ts) (ty : Nat → FieldType) (hty : ∀ k, k < n → parseFieldDescriptor (T k).2.2.1 = some (ty k)) (hown : s.vm.findClass own = some m.cls) (hcl : (Cond.classLink own index Cn).before args s = true) (hinst : (Cond.instantiable Cn n).before args s = true) (hini : (Cond.initialized Cn).before args s = true)
    (hK : KB G s) (hP : va_P G.1 vwB (wl N ad C) H) (hD : va_D A (wl N ad C)) (hS : va_S A H0 H locs) (hA : ∀ q, H0.size ≤ q → A q) (hc : vwB[ci]? = some (Cn, T, n)) {fs : List Value} (hfs : ∀ j, j < n → defaultValue (ty j) = vp_V fs j) (hcells : cells + 1 ≤ R.cells) (hslots : slots + n ≤ R.slots) (hdg : decode cc pc = .ok (.new index, 3))
    (kk : ∀ (ad1 : Nat → Nat) (C1 : Nat → va_E) (H1 : Heap), (∀ j, j < N → ad1 j = ad j) → (∀ j, j < N → C1 j = C j) → C1 N = ob ci fs → va_P G.1 vwB (wl (N + 1) ad1 C1) H1 → va_D A (wl (N + 1) ad1 C1) → va_S A H0 H1 locs →
      W p l e R s m args below meth c H1 locs (cells + 1) (slots + n) Q (F0 m (pc + 3) ls (.ref (ad1 N) :: rest))) : W p l e R s m args below meth c H locs cells slots Q (F0 m pc ls rest) := by
  refine va_new hexec hb hts hin ty hty hown hcl hinst hini hK.1 hP hD hS hA hc hfs hcells hslots hdg (fun q H1 h1 h2 h3 => ?_)
  have h := kk (va_up ad N q) (va_up C N (ob ci fs)) H1 (fun j hj => va_un _ _ (by omega)) (fun j hj => va_un _ _ (by omega)) (va_us _ _ _) (by rw [wl_push]; exact h1) (by rw [wl_push]; exact h2) h3
  rw [va_us] at h
  exact h
theorem iw_newI {cc : ByteArray} (hexec : p.tables.exec = Jvm.exec) (hb : c.code = cc) (harr : (Cond.arrayClass .int).before args s = true) (hK : KB G s) (hP : va_P G.1 vwB (wl N ad C) H) (hD : va_D A (wl N ad C)) (hS : va_S A H0 H locs) (hA : ∀ q, H0.size ≤ q → A q)
    {n : Int32} {N' : Nat} (hn : ¬ n < 0) (hN : n.toNatClampNeg = N') (hbytes : N' * componentBytes .int ≤ 536870912) (hcells : cells + 1 ≤ R.cells) (hslots : slots + N' ≤ R.slots) (hdg : decode cc pc = .ok (.newarray .int, 2))
    (kk : ∀ (ad1 : Nat → Nat) (C1 : Nat → va_E) (H1 : Heap), (∀ j, j < N → ad1 j = ad j) → (∀ j, j < N → C1 j = C j) → C1 N = ia G N' (fun _ => nI 0) → va_P G.1 vwB (wl (N + 1) ad1 C1) H1 → va_D A (wl (N + 1) ad1 C1) → va_S A H0 H1 locs →
      W p l e R s m args below meth c H1 locs (cells + 1) (slots + N') Q (F0 m (pc + 2) ls (.ref (ad1 N) :: rest))) : W p l e R s m args below meth c H locs cells slots Q (F0 m pc ls (.int n :: rest)) := by
  refine va_newa (atype := .int) (ty := .int) (a0 := (N', .inl (fun _ => nI 0))) hexec hb harr rfl hK.1 hP hD hS hA (fun cA => rfl) hn hN hbytes hcells hslots hdg (fun q cA H1 hK9 h1 h2 h3 => ?_)
  have e9 : cA = G.2 0 := by
    have g1 := (hK9.2 7 (cA, .int) rfl).2
    have g2 := (hK.1.2 0 (G.2 0, .int) rfl).2
    exact Option.some.inj ((show s.vm.findClass ("[" ++ FieldType.toString .int) = some cA from g1).symm.trans (show s.vm.findClass ("[" ++ FieldType.toString .int) = some (G.2 0) from g2))
  subst e9
  have h := kk (va_up ad N q) (va_up C N (ia G N' (fun _ => nI 0))) H1 (fun j hj => va_un _ _ (by omega)) (fun j hj => va_un _ _ (by omega)) (va_us _ _ _) (by rw [wl_push]; exact h1) (by rw [wl_push]; exact h2) h3
  rw [va_us] at h
  exact h
theorem iw_newF {cc : ByteArray} (hexec : p.tables.exec = Jvm.exec) (hb : c.code = cc) (harr : (Cond.arrayClass .float).before args s = true) (hK : KB G s) (hP : va_P G.1 vwB (wl N ad C) H) (hD : va_D A (wl N ad C)) (hS : va_S A H0 H locs) (hA : ∀ q, H0.size ≤ q → A q)
    {n : Int32} {N' : Nat} (hn : ¬ n < 0) (hN : n.toNatClampNeg = N') (hbytes : N' * componentBytes .float ≤ 536870912) (hcells : cells + 1 ≤ R.cells) (hslots : slots + N' ≤ R.slots) (hdg : decode cc pc = .ok (.newarray .float, 2))
    (kk : ∀ (ad1 : Nat → Nat) (C1 : Nat → va_E) (H1 : Heap), (∀ j, j < N → ad1 j = ad j) → (∀ j, j < N → C1 j = C j) → C1 N = fa G N' (fun _ => 0) → va_P G.1 vwB (wl (N + 1) ad1 C1) H1 → va_D A (wl (N + 1) ad1 C1) → va_S A H0 H1 locs →
      W p l e R s m args below meth c H1 locs (cells + 1) (slots + N') Q (F0 m (pc + 2) ls (.ref (ad1 N) :: rest))) : W p l e R s m args below meth c H locs cells slots Q (F0 m pc ls (.int n :: rest)) := by
  refine va_newa (atype := .float) (ty := .float) (a0 := (N', .inr (.inr (.inl (fun _ => 0))))) hexec hb harr rfl hK.1 hP hD hS hA (fun cA => rfl) hn hN hbytes hcells hslots hdg (fun q cA H1 hK9 h1 h2 h3 => ?_)
  have e9 : cA = G.2 1 := by
    have g1 := (hK9.2 7 (cA, .float) rfl).2
    have g2 := (hK.1.2 1 (G.2 1, .float) rfl).2
    exact Option.some.inj ((show s.vm.findClass ("[" ++ FieldType.toString .float) = some cA from g1).symm.trans (show s.vm.findClass ("[" ++ FieldType.toString .float) = some (G.2 1) from g2))
  subst e9
  have h := kk (va_up ad N q) (va_up C N (fa G N' (fun _ => 0))) H1 (fun j hj => va_un _ _ (by omega)) (fun j hj => va_un _ _ (by omega)) (va_us _ _ _) (by rw [wl_push]; exact h1) (by rw [wl_push]; exact h2) h3
  rw [va_us] at h
  exact h
theorem iw_newZ {cc : ByteArray} (hexec : p.tables.exec = Jvm.exec) (hb : c.code = cc) (harr : (Cond.arrayClass .boolean).before args s = true) (hK : KB G s) (hP : va_P G.1 vwB (wl N ad C) H) (hD : va_D A (wl N ad C)) (hS : va_S A H0 H locs) (hA : ∀ q, H0.size ≤ q → A q)
    {n : Int32} {N' : Nat} (hn : ¬ n < 0) (hN : n.toNatClampNeg = N') (hbytes : N' * componentBytes .boolean ≤ 536870912) (hcells : cells + 1 ≤ R.cells) (hslots : slots + N' ≤ R.slots) (hdg : decode cc pc = .ok (.newarray .boolean, 2))
    (kk : ∀ (ad1 : Nat → Nat) (C1 : Nat → va_E) (H1 : Heap), (∀ j, j < N → ad1 j = ad j) → (∀ j, j < N → C1 j = C j) → C1 N = za G N' (fun _ => nI 0) → va_P G.1 vwB (wl (N + 1) ad1 C1) H1 → va_D A (wl (N + 1) ad1 C1) → va_S A H0 H1 locs →
      W p l e R s m args below meth c H1 locs (cells + 1) (slots + N') Q (F0 m (pc + 2) ls (.ref (ad1 N) :: rest))) : W p l e R s m args below meth c H locs cells slots Q (F0 m pc ls (.int n :: rest)) := by
  refine va_newa (atype := .boolean) (ty := .boolean) (a0 := (N', .inl (fun _ => nI 0))) hexec hb harr rfl hK.1 hP hD hS hA (fun cA => rfl) hn hN hbytes hcells hslots hdg (fun q cA H1 hK9 h1 h2 h3 => ?_)
  have e9 : cA = G.2 2 := by
    have g1 := (hK9.2 7 (cA, .boolean) rfl).2
    have g2 := (hK.1.2 2 (G.2 2, .boolean) rfl).2
    exact Option.some.inj ((show s.vm.findClass ("[" ++ FieldType.toString .boolean) = some cA from g1).symm.trans (show s.vm.findClass ("[" ++ FieldType.toString .boolean) = some (G.2 2) from g2))
  subst e9
  have h := kk (va_up ad N q) (va_up C N (za G N' (fun _ => nI 0))) H1 (fun j hj => va_un _ _ (by omega)) (fun j hj => va_un _ _ (by omega)) (va_us _ _ _) (by rw [wl_push]; exact h1) (by rw [wl_push]; exact h2) h3
  rw [va_us] at h
  exact h
theorem iw_newD {cc : ByteArray} (hexec : p.tables.exec = Jvm.exec) (hb : c.code = cc) (harr : (Cond.arrayClass .double).before args s = true) (hK : KB G s) (hP : va_P G.1 vwB (wl N ad C) H) (hD : va_D A (wl N ad C)) (hS : va_S A H0 H locs) (hA : ∀ q, H0.size ≤ q → A q)
    {n : Int32} {N' : Nat} (hn : ¬ n < 0) (hN : n.toNatClampNeg = N') (hbytes : N' * componentBytes .double ≤ 536870912) (hcells : cells + 1 ≤ R.cells) (hslots : slots + N' ≤ R.slots) (hdg : decode cc pc = .ok (.newarray .double, 2))
    (kk : ∀ (ad1 : Nat → Nat) (C1 : Nat → va_E) (H1 : Heap), (∀ j, j < N → ad1 j = ad j) → (∀ j, j < N → C1 j = C j) → C1 N = da G N' (fun _ => 0) → va_P G.1 vwB (wl (N + 1) ad1 C1) H1 → va_D A (wl (N + 1) ad1 C1) → va_S A H0 H1 locs →
      W p l e R s m args below meth c H1 locs (cells + 1) (slots + N') Q (F0 m (pc + 2) ls (.ref (ad1 N) :: rest))) : W p l e R s m args below meth c H locs cells slots Q (F0 m pc ls (.int n :: rest)) := by
  refine va_newa (atype := .double) (ty := .double) (a0 := (N', .inr (.inr (.inr (.inl (fun _ => 0)))))) hexec hb harr rfl hK.1 hP hD hS hA (fun cA => rfl) hn hN hbytes hcells hslots hdg (fun q cA H1 hK9 h1 h2 h3 => ?_)
  have e9 : cA = G.2 6 := by
    have g1 := (hK9.2 7 (cA, .double) rfl).2
    have g2 := (hK.1.2 6 (G.2 6, .double) rfl).2
    exact Option.some.inj ((show s.vm.findClass ("[" ++ FieldType.toString .double) = some cA from g1).symm.trans (show s.vm.findClass ("[" ++ FieldType.toString .double) = some (G.2 6) from g2))
  subst e9
  have h := kk (va_up ad N q) (va_up C N (da G N' (fun _ => 0))) H1 (fun j hj => va_un _ _ (by omega)) (fun j hj => va_un _ _ (by omega)) (va_us _ _ _) (by rw [wl_push]; exact h1) (by rw [wl_push]; exact h2) h3
  rw [va_us] at h
  exact h
theorem iw_newq {cc : ByteArray} (hexec : p.tables.exec = Jvm.exec) (hb : c.code = cc) {own Cn : String} {index t : Nat} (hown : s.vm.findClass own = some m.cls) (hclink : (Cond.classLink own index Cn).before args s = true) (hover : va_AO Cn s) (hK : KB G s) (ht : (iT G)[t]? = some (G.2 t, .object Cn)) (hP : va_P G.1 vwB (wl N ad C) H) (hD : va_D A (wl N ad C)) (hS : va_S A H0 H locs) (hA : ∀ q, H0.size ≤ q → A q)
    {n : Int32} {N' : Nat} (hn : ¬ n < 0) (hN : n.toNatClampNeg = N') (hbytes : N' * 4 ≤ 536870912) (hcells : cells + 1 ≤ R.cells) (hslots : slots + N' ≤ R.slots) (hdg : decode cc pc = .ok (.anewarray index, 3))
    (kk : ∀ (ad1 : Nat → Nat) (C1 : Nat → va_E) (H1 : Heap), (∀ j, j < N → ad1 j = ad j) → (∀ j, j < N → C1 j = C j) → C1 N = ra G t N' (fun _ => none) → va_P G.1 vwB (wl (N + 1) ad1 C1) H1 → va_D A (wl (N + 1) ad1 C1) → va_S A H0 H1 locs →
      W p l e R s m args below meth c H1 locs (cells + 1) (slots + N') Q (F0 m (pc + 3) ls (.ref (ad1 N) :: rest))) : W p l e R s m args below meth c H locs cells slots Q (F0 m pc ls (.int n :: rest)) := by
  refine va_newq hexec hb hown hclink hover hK.1 hP hD hS hA hn hN hbytes hcells hslots hdg (fun q cA H1 hK9 h1 h2 h3 => ?_)
  have e9 : cA = G.2 t := by
    obtain ⟨k1, m1, -, -, -, g1⟩ := show ∃ (kA : Class) (comp : ClassId), s.vm.classes[cA]? = some kA ∧ kA.kind = .array comp (.object Cn) ∧ s.vm.findClass Cn = some comp ∧ s.vm.findClass ("[" ++ (FieldType.object Cn).toString) = some cA from (hK9.2 7 (cA, .object Cn) rfl).2
    obtain ⟨k2, m2, -, -, -, g2⟩ := show ∃ (kA : Class) (comp : ClassId), s.vm.classes[G.2 t]? = some kA ∧ kA.kind = .array comp (.object Cn) ∧ s.vm.findClass Cn = some comp ∧ s.vm.findClass ("[" ++ (FieldType.object Cn).toString) = some (G.2 t) from (hK.1.2 t (G.2 t, .object Cn) ht).2
    exact Option.some.inj (g1.symm.trans g2)
  subst e9
  have h := kk (va_up ad N q) (va_up C N (ra G t N' (fun _ => none))) H1 (fun j hj => va_un _ _ (by omega)) (fun j hj => va_un _ _ (by omega)) (va_us _ _ _) (by rw [wl_push]; exact h1) (by rw [wl_push]; exact h2) h3
  rw [va_us] at h
  exact h
theorem iw_aast {cc : ByteArray} (hexec : p.tables.exec = Jvm.exec) (hb : c.code = cc) {t ci : Nat} {r : vw_C} (hK : KB G s) (ht : (iT G)[t]? = some (G.2 t, .object r.1)) (hP : va_P G.1 vwB (wl N ad C) H) (hD : va_D A (wl N ad C)) (hS : va_S A H0 H locs) {j n jv : Nat} {f : Nat → Option Nat} {vs : List Value} (hj : j < N) (hc : C j = ra G t n f) (hv : jv < N) (hcv : C jv = ob ci vs) (hr : vwB[ci]? = some r) {i : Int32} {k : Nat} (hin : vp_in i n) (hk : i.toNatClampNeg = k) (hdg : decode cc pc = .ok (.aastore, 1))
    (kk : ∀ (H1 : Heap) (locs1 : List Loc), va_P G.1 vwB (wl N ad (va_up C j (ra G t n (va_up f k (some (ad jv)))))) H1 → va_D A (wl N ad (va_up C j (ra G t n (va_up f k (some (ad jv)))))) → va_S A H0 H1 locs1 → W p l e R s m args below meth c H1 locs1 cells slots Q (F0 m (pc + 1) ls rest)) : W p l e R s m args below meth c H locs cells slots Q (F0 m pc ls (.ref (ad jv) :: .int i :: .ref (ad j) :: rest)) := by
  subst hk
  exact va_astq hexec hb hK.1 hP hD hS j t jv ci (wl_get hj hc) ht (wl_get hv hcv) hr hin hdg (fun H1 locs1 h1 h2 h3 => kk H1 locs1 (by rw [← wl_set hj]; exact h1) (by rw [← wl_set hj]; exact h2) h3)
theorem iw_putF {cc : ByteArray} (hexec : p.tables.exec = Jvm.exec) (hb : c.code = cc) {own ref Cn : String} {T : u_T} {n ci index : Nat} {Ts : List Cond} (hts : ∀ w ∈ Ts, w.before args s = true) (hin : ∀ w ∈ u_ws Cn T n, w ∈ Ts) (ty0 : Nat → FieldType) (hty : ∀ k, k < n → parseFieldDescriptor (T k).2.2.1 = some (ty0 k)) (hnm : ∀ a, a < n → ∀ b, b < n → a ≠ b → (T a).2.1 ≠ (T b).2.1) (hown : s.vm.findClass own = some m.cls) (hK : KB G s) (hP : va_P G.1 vwB (wl N ad C) H) (hD : va_D A (wl N ad C)) (hS : va_S A H0 H locs) {j : Nat} (hj : j < N) {fs : List Value} (he : C j = ob ci fs) (hc : vwB[ci]? = some (Cn, T, n)) (k : Nat) (hk : k < n) (hlink : (Cond.fieldLink own index ref (T k).2.1 (T k).2.2.1).before args s = true) (hsame : ∀ x, s.fieldFound? (T k).1 (T k).2.1 (T k).2.2.1 = some x → s.fieldFound? ref (T k).2.1 (T k).2.2.1 = some x) (hfin : (T k).2.2.2 = true) (hin2 : meth.name = "<init>") (hdecl : (T k).1 = own) {ty : FieldType} {v : Value} (hd : parseFieldDescriptor (T k).2.2.1 = some ty) (hn : narrow ty v = v) (hfit : fits ty v = true) (hl : k < fs.length) {fs' : List Value} (hfs : fs.set k v = fs')
    (hdg : decode cc pc = .ok (.putfield index, 3)) (kk : ∀ (H1 : Heap) (locs1 : List Loc), va_P G.1 vwB (wl N ad (va_up C j (ob ci fs'))) H1 → va_D A (wl N ad (va_up C j (ob ci fs'))) → va_S A H0 H1 locs1 → W p l e R s m args below meth c H1 locs1 cells slots Q (F0 m (pc + 3) ls rest)) : W p l e R s m args below meth c H locs cells slots Q (F0 m pc ls (v :: .ref (ad j) :: rest)) := by
  subst hfs
  exact va_putF hexec hb hts hin ty0 hty hnm hown hK.1 hP hD hS j (wl_get hj he) hc k hk hlink hsame hfin hin2 hdecl hd hn hfit hl hdg (fun H1 locs1 h1 h2 h3 => kk H1 locs1 (by rw [← wl_set hj]; exact h1) (by rw [← wl_set hj]; exact h2) h3)
theorem iwg_i {post : Int32 → iU → Prop} {N' mc ms : Nat} (hr : va_Run p l e R s m args below meth c H locs cells slots mc ms (F0 m pc ls st0) rest (va_Qi post (iB2 G N' (iA N ad H.size)) (iA N ad H.size) a) (iA N ad H.size)) (hD : va_D A (wl N ad C)) (hS : va_S A H0 H locs) (hA : ∀ q, H0.size ≤ q → A q)
    (kk : ∀ (r : Int32) (ad1 : Nat → Nat) (C1 : Nat → va_E) (H1 : Heap) (locs1 : List Loc), post r (ad1, C1) → va_P G.1 vwB (wl N' ad1 C1) H1 → va_D A (wl N' ad1 C1) → va_S A H0 H1 locs1 → W p l e R s m args below meth c H1 locs1 (cells + mc) (slots + ms) Q (F0 m (pc + 3) ls (.int r :: rest))) : W p l e R s m args below meth c H locs cells slots Q (F0 m pc ls st0) :=
  va_calli hr hS (fun q _ h => iA_free hD hS hA q h) (iA_free hD hS hA) (fun r u t H1 locs1 ht hvm hw hB hz1 hk1 hS9 => kk r u.1 u.2 H1 locs1 hw (by rw [← ht]; exact hB.1) (hB.2.weaken (fun _ _ _ h => iA_free hD hS hA _ h)) hS9)
theorem iwg_l {post : Int64 → iU → Prop} {N' mc ms : Nat} (hr : va_Run p l e R s m args below meth c H locs cells slots mc ms (F0 m pc ls st0) rest (va_Ql post (iB2 G N' (iA N ad H.size)) (iA N ad H.size) a) (iA N ad H.size)) (hD : va_D A (wl N ad C)) (hS : va_S A H0 H locs) (hA : ∀ q, H0.size ≤ q → A q)
    (kk : ∀ (r : Int64) (ad1 : Nat → Nat) (C1 : Nat → va_E) (H1 : Heap) (locs1 : List Loc), post r (ad1, C1) → va_P G.1 vwB (wl N' ad1 C1) H1 → va_D A (wl N' ad1 C1) → va_S A H0 H1 locs1 → W p l e R s m args below meth c H1 locs1 (cells + mc) (slots + ms) Q (F0 m (pc + 3) ls (.long r :: rest))) : W p l e R s m args below meth c H locs cells slots Q (F0 m pc ls st0) :=
  va_calll hr hS (fun q _ h => iA_free hD hS hA q h) (iA_free hD hS hA) (fun r u t H1 locs1 ht hvm hw hB hz1 hk1 hS9 => kk r u.1 u.2 H1 locs1 hw (by rw [← ht]; exact hB.1) (hB.2.weaken (fun _ _ _ h => iA_free hD hS hA _ h)) hS9)
theorem iwg_d {post : UInt64 → iU → Prop} {N' mc ms : Nat} (hr : va_Run p l e R s m args below meth c H locs cells slots mc ms (F0 m pc ls st0) rest (va_Qd post (iB2 G N' (iA N ad H.size)) (iA N ad H.size) a) (iA N ad H.size)) (hD : va_D A (wl N ad C)) (hS : va_S A H0 H locs) (hA : ∀ q, H0.size ≤ q → A q)
    (kk : ∀ (r : UInt64) (ad1 : Nat → Nat) (C1 : Nat → va_E) (H1 : Heap) (locs1 : List Loc), post r (ad1, C1) → va_P G.1 vwB (wl N' ad1 C1) H1 → va_D A (wl N' ad1 C1) → va_S A H0 H1 locs1 → W p l e R s m args below meth c H1 locs1 (cells + mc) (slots + ms) Q (F0 m (pc + 3) ls (.double r :: rest))) : W p l e R s m args below meth c H locs cells slots Q (F0 m pc ls st0) :=
  va_calld hr hS (fun q _ h => iA_free hD hS hA q h) (iA_free hD hS hA) (fun r u t H1 locs1 ht hvm hw hB hz1 hk1 hS9 => kk r u.1 u.2 H1 locs1 hw (by rw [← ht]; exact hB.1) (hB.2.weaken (fun _ _ _ h => iA_free hD hS hA _ h)) hS9)
theorem iwg_v {post : iU → Prop} {N' mc ms : Nat} (hr : va_Run p l e R s m args below meth c H locs cells slots mc ms (F0 m pc ls st0) rest (va_Qv post (iB2 G N' (iA N ad H.size)) (iA N ad H.size) a) (iA N ad H.size)) (hD : va_D A (wl N ad C)) (hS : va_S A H0 H locs) (hA : ∀ q, H0.size ≤ q → A q)
    (kk : ∀ (ad1 : Nat → Nat) (C1 : Nat → va_E) (H1 : Heap) (locs1 : List Loc), post (ad1, C1) → va_P G.1 vwB (wl N' ad1 C1) H1 → va_D A (wl N' ad1 C1) → va_S A H0 H1 locs1 → W p l e R s m args below meth c H1 locs1 (cells + mc) (slots + ms) Q (F0 m (pc + 3) ls (rest))) : W p l e R s m args below meth c H locs cells slots Q (F0 m pc ls st0) :=
  va_callv hr hS (fun q _ h => iA_free hD hS hA q h) (iA_free hD hS hA) (fun u t H1 locs1 ht hvm hw hB hz1 hk1 hS9 => kk u.1 u.2 H1 locs1 hw (by rw [← ht]; exact hB.1) (hB.2.weaken (fun _ _ _ h => iA_free hD hS hA _ h)) hS9)
end IWG
theorem isEr_gr {G : iG} {ad ad1 : Nat → Nat} {C C1 : Nat → va_E} {N M b : Nat} {E : Er} (e : ∀ j, j < N → ad1 j = ad j) (c : ∀ j, j < M → C1 j = C j) (hb : b + 3 ≤ N) (hm : b + 3 ≤ M) (h : isEr G ad C b E) : isEr G ad1 C1 b E :=
  ⟨(c _ (by omega)).trans (h.1.trans (by rw [e (b + 1) (by omega), e (b + 2) (by omega)])), (c _ (by omega)).trans h.2.1, (c _ (by omega)).trans h.2.2⟩
theorem isFr_gr {G : iG} {ad ad1 : Nat → Nat} {C C1 : Nat → va_E} {N M b : Nat} {F : Fr} (e : ∀ j, j < N → ad1 j = ad j) (c : ∀ j, j < M → C1 j = C j) (hb : b + 5 ≤ N) (hm : b + 5 ≤ M) (h : isFr G ad C b F) : isFr G ad1 C1 b F :=
  ⟨(c _ (by omega)).trans (h.1.trans (by rw [e (b + 1) (by omega), e (b + 2) (by omega)])), (c _ (by omega)).trans h.2.1, isEr_gr e c (by omega) (by omega) h.2.2⟩
theorem isFi_gr {G : iG} {ad ad1 : Nat → Nat} {C C1 : Nat → va_E} {N M b : Nat} {F : Fi} (e : ∀ j, j < N → ad1 j = ad j) (c : ∀ j, j < M → C1 j = C j) (hb : b + 4 ≤ N) (hm : b + 4 ≤ M) (h : isFi G ad C b F) : isFi G ad1 C1 b F :=
  ⟨(c _ (by omega)).trans (h.1.trans (by rw [e (b + 1) (by omega)])), isEr_gr e c (by omega) (by omega) h.2⟩
theorem isPi_gr {G : iG} {ad ad1 : Nat → Nat} {C C1 : Nat → va_E} {N M b : Nat} {P : Pi2} (e : ∀ j, j < N → ad1 j = ad j) (c : ∀ j, j < M → C1 j = C j) (hb : b + 3 ≤ N) (hm : b + 3 ≤ M) (h : isPi G ad C b P) : isPi G ad1 C1 b P :=
  ⟨(c _ (by omega)).trans (h.1.trans (by rw [e (b + 1) (by omega), e (b + 2) (by omega)])), (c _ (by omega)).trans h.2.1, (c _ (by omega)).trans h.2.2⟩
/-- scene and sensor, as cells one behind another -/
def isSc (G : iG) (ad : Nat → Nat) (C : Nat → va_E) (b : Nat) (X : (Nat → Nat) × (Nat → UInt32) × Nat) : Prop := C b = ob 3 [.ref (ad (b + 1)), .ref (ad (b + 2)), .int (nI X.2.2)] ∧ C (b + 1) = ia G 192 (fun i => nI (X.1 i)) ∧ C (b + 2) = fa G 3 X.2.1
def isSe (G : iG) (ad : Nat → Nat) (C : Nat → va_E) (b : Nat) (X : (Nat → Nat) × (Nat → Bool) × Nat) : Prop := C b = ob 4 [.ref (ad (b + 1)), .ref (ad (b + 2)), .int (nI X.2.2)] ∧ C (b + 1) = ia G 64 (fun i => nI (X.1 i)) ∧ C (b + 2) = za G 64 (bI X.2.1)
theorem isSc_up {G : iG} {ad : Nat → Nat} {C : Nat → va_E} {b : Nat} {X : (Nat → Nat) × (Nat → UInt32) × Nat} (h : isSc G ad C b X) {j : Nat} {e : va_E} (hj : j < b ∨ b + 3 ≤ j) : isSc G ad (va_up C j e) b X := ⟨(va_un _ _ (by omega)).trans h.1, (va_un _ _ (by omega)).trans h.2.1, (va_un _ _ (by omega)).trans h.2.2⟩
theorem isSe_up {G : iG} {ad : Nat → Nat} {C : Nat → va_E} {b : Nat} {X : (Nat → Nat) × (Nat → Bool) × Nat} (h : isSe G ad C b X) {j : Nat} {e : va_E} (hj : j < b ∨ b + 3 ≤ j) : isSe G ad (va_up C j e) b X := ⟨(va_un _ _ (by omega)).trans h.1, (va_un _ _ (by omega)).trans h.2.1, (va_un _ _ (by omega)).trans h.2.2⟩
theorem isSc_gr {G : iG} {ad ad1 : Nat → Nat} {C C1 : Nat → va_E} {N M b : Nat} {X : (Nat → Nat) × (Nat → UInt32) × Nat} (e : ∀ j, j < N → ad1 j = ad j) (c : ∀ j, j < M → C1 j = C j) (hb : b + 3 ≤ N) (hm : b + 3 ≤ M) (h : isSc G ad C b X) : isSc G ad1 C1 b X :=
  ⟨(c _ (by omega)).trans (h.1.trans (by rw [e (b + 1) (by omega), e (b + 2) (by omega)])), (c _ (by omega)).trans h.2.1, (c _ (by omega)).trans h.2.2⟩
theorem isSe_gr {G : iG} {ad ad1 : Nat → Nat} {C C1 : Nat → va_E} {N M b : Nat} {X : (Nat → Nat) × (Nat → Bool) × Nat} (e : ∀ j, j < N → ad1 j = ad j) (c : ∀ j, j < M → C1 j = C j) (hb : b + 3 ≤ N) (hm : b + 3 ≤ M) (h : isSe G ad C b X) : isSe G ad1 C1 b X :=
  ⟨(c _ (by omega)).trans (h.1.trans (by rw [e (b + 1) (by omega), e (b + 2) (by omega)])), (c _ (by omega)).trans h.2.1, (c _ (by omega)).trans h.2.2⟩
