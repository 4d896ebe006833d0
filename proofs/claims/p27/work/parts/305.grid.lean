/-! ARRAYS OF int[] (kind 5 of the arrays) -/
def va_AG (U : State) : Prop := (Cond.arrayOver (.array .int)).before #[] U = true
theorem ag_sp {U : State} (h : va_AG U) : ∃ (comp cA : ClassId) (k : Class), U.vm.findClass "[I" = some comp ∧ (U.vm.classes.findIdx? fun (x : Class) => match x.kind with | .array component _ => component == comp | _ => false) = some cA ∧ U.vm.classes[cA]? = some k ∧ k.kind = .array comp (.array .int) ∧ U.vm.findClass "[[I" = some cA := by
  obtain ⟨comp, cA, k, h1, h2, h3, h4, h5⟩ := arrayOverA_spec h
  exact ⟨comp, cA, k, h1, h2, h3, h4, h5⟩
theorem va_AG.moved {u U : State} (hvm : u.vm.Alike U.vm) (h : va_AG u) : va_AG U := by
  obtain ⟨comp, cA, k, h1, h2, h3, h4, h5⟩ := ag_sp h
  obtain ⟨k', hk', he⟩ := hvm.2.2 _ _ h3
  have hi : (U.vm.classes.findIdx? fun (x : Class) => match x.kind with | .array component _ => component == comp | _ => false) = some cA := by
    rw [hvm.findIdx?_eq _ (fun _ => rfl)]
    exact h2
  have hkind : k'.kind = .array comp (.array .int) := by rw [he]; exact h4
  have f1 : U.vm.findClass (FieldType.array .int).toString = some comp := by rw [hvm.findClass]; exact h1
  have f2 : U.vm.findClass ("[" ++ (FieldType.array .int).toString) = some cA := by rw [hvm.findClass]; exact h5
  unfold va_AG Cond.before Cond.holds
  simp only [Cond.value]
  rw [f1, Option.bind_some]
  refine (congrArg (fun o : Option Nat => (o.bind (fun c => (U.vm.classes[c]?).map fun (k : Class) => match k.kind with | .array _ ty => decide (ty = FieldType.array .int) && decide (U.vm.findClass ("[" ++ (FieldType.array .int).toString) = some c) | _ => false) == some true)) hi).trans ?_
  simp [hk', hkind, f2]
/-- what the tables say of it, in the words of the world -/
theorem ag_G {G : iG} {s : State} (hK : KB G s) (h : va_AG s) : ∃ k : Class, s.vm.classes[G.2 5]? = some k ∧ k.kind = .array (G.2 0) (.array .int) := by
  obtain ⟨comp, cA, k, h1, h2, h3, h4, h5⟩ := ag_sp h
  have g0 : s.vm.findClass "[I" = some (G.2 0) := (hK.1.2 0 (G.2 0, .int) rfl).2
  have g5 : s.vm.findClass "[[I" = some (G.2 5) := (hK.1.2 5 (G.2 5, .array .int) rfl).2
  cases Option.some.inj (g0.symm.trans h1)
  cases Option.some.inj (g5.symm.trans h5)
  exact ⟨k, h3, h4⟩
section IWGR
variable {p : Program} {l : Launch} {e : Env} {R : Room} {s : State} {m : MethodId} {args : Array Value} {below : List Frame} {meth : Method} {c : Code} {H : Heap} {locs : List Loc} {cells slots : Nat} {Q : State → Prop}
variable {pc : Nat} {ls : Array Slot} {rest st0 : List Value} {a : Array Value} {A : Nat → Prop} {H0 : Heap} {G : iG} {N : Nat} {ad : Nat → Nat} {C : Nat → va_E}
theorem iw_gald {cc : ByteArray} (hexec : p.tables.exec = Jvm.exec) (hb : c.code = cc) (hK : KB G s) (hP : va_P G.1 vwB (wl N ad C) H) {j n : Nat} {f : Nat → Option Nat} (hj : j < N) (hc : C j = ra G 5 n f) {i : Int32} {v : Nat} (hin : vp_in i n) (hv : f i.toNatClampNeg = some v) (hdg : decode cc pc = .ok (.aaload, 1))
    (kk : W p l e R s m args below meth c H locs cells slots Q (F0 m (pc + 1) ls (.ref v :: rest))) : W p l e R s m args below meth c H locs cells slots Q (F0 m pc ls (.int i :: .ref (ad j) :: rest)) := by
  have hlt : i.toNatClampNeg < n := Nat.not_le.mp fun q => hin (Or.inr q)
  have hcell : H[ad j]? = some (arrV (G.2 5) n (fun j => va_rf (f j))) := hP j _ (wl_get hj hc)
  refine W.aald (v := .ref v) (ty := .array .int) hexec hb hcell ((hK.1.2 5 _ rfl).1 n (fun j => va_rf (f j))) rfl (fun q => by cases q) (by rw [arrV_size]; exact hin) ?_ rfl rfl hdg kk
  rw [arrV_read _ _ hlt, hv]
  rfl
theorem iw_gast {cc : ByteArray} (hexec : p.tables.exec = Jvm.exec) (hb : c.code = cc) (hK : KB G s) (hV : va_AG s) (hP : va_P G.1 vwB (wl N ad C) H) (hD : va_D A (wl N ad C)) (hS : va_S A H0 H locs) {j n jv n2 : Nat} {f : Nat → Option Nat} {g : Nat → Int32} (hj : j < N) (hc : C j = ra G 5 n f) (hv : jv < N) (hcv : C jv = ia G n2 g) {i : Int32} {k : Nat} (hin : vp_in i n) (hk : i.toNatClampNeg = k) (hdg : decode cc pc = .ok (.aastore, 1))
    (kk : ∀ (H1 : Heap) (locs1 : List Loc), va_P G.1 vwB (wl N ad (va_up C j (ra G 5 n (va_up f k (some (ad jv)))))) H1 → va_D A (wl N ad (va_up C j (ra G 5 n (va_up f k (some (ad jv)))))) → va_S A H0 H1 locs1 → W p l e R s m args below meth c H1 locs1 cells slots Q (F0 m (pc + 1) ls rest)) : W p l e R s m args below meth c H locs cells slots Q (F0 m pc ls (.ref (ad jv) :: .int i :: .ref (ad j) :: rest)) := by
  subst hk
  have hlt : i.toNatClampNeg < n := Nat.not_le.mp fun q => hin (Or.inr q)
  have h0 : ¬ i < 0 := fun q => hin (Or.inl q)
  have hcell : H[ad j]? = some (arrV (G.2 5) n (fun j => va_rf (f j))) := hP j _ (wl_get hj hc)
  have hcel2 : H[ad jv]? = some (arrV (G.2 0) n2 (fun j => .int (g j))) := hP jv _ (wl_get hv hcv)
  obtain ⟨k5, h5, hk5⟩ := ag_G hK hV
  obtain ⟨-, k0, h00, -, -⟩ := (hK.1.2 0 (G.2 0, .int) rfl).1 n2 (fun j => .int (g j))
  have hq := wl_get (ad := ad) hj hc
  refine W.aast hexec hb hcell (fun q h => by cases h) (fun h => by cases h) h5 hk5 rfl h00 ⟨h0, by rw [arrV_size]; exact hlt⟩ hcel2 (fun q h => by cases h) h00 (va_asg _ _) rfl rfl hdg fun H1 e z oq => ?_
  refine kk H1 _ ?_ ?_ (hS.put z oq (hD.2 j _ hq))
  · rw [← wl_set hj]
    refine hP.set hD hq ?_ oq
    show H1[ad j]? = some (vp_cell _ _)
    rw [e]
    rw [vp_cell_q, arrV_store]
    congr 2
    funext q
    by_cases hq : q = i.toNatClampNeg
    · subst hq
      simp [updV, va_up, va_rf]
    · simp [updV, va_up, hq]
  · rw [← wl_set hj]
    exact hD.set hq
theorem iw_newg {cc : ByteArray} (hexec : p.tables.exec = Jvm.exec) (hb : c.code = cc) {own : String} {index : Nat} (hown : s.vm.findClass own = some m.cls) (hclink : (Cond.classLink own index "[I").before args s = true) (hV : va_AG s) (hK : KB G s) (hP : va_P G.1 vwB (wl N ad C) H) (hD : va_D A (wl N ad C)) (hS : va_S A H0 H locs) (hA : ∀ q, H0.size ≤ q → A q)
    {n : Int32} {N' : Nat} (hn : ¬ n < 0) (hN : n.toNatClampNeg = N') (hbytes : N' * 4 ≤ 536870912) (hcells : cells + 1 ≤ R.cells) (hslots : slots + N' ≤ R.slots) (hdg : decode cc pc = .ok (.anewarray index, 3))
    (kk : ∀ (ad1 : Nat → Nat) (C1 : Nat → va_E) (H1 : Heap), (∀ j, j < N → ad1 j = ad j) → (∀ j, j < N → C1 j = C j) → C1 N = ra G 5 N' (fun _ => none) → va_P G.1 vwB (wl (N + 1) ad1 C1) H1 → va_D A (wl (N + 1) ad1 C1) → va_S A H0 H1 locs →
      W p l e R s m args below meth c H1 locs (cells + 1) (slots + N') Q (F0 m (pc + 3) ls (.ref (ad1 N) :: rest))) : W p l e R s m args below meth c H locs cells slots Q (F0 m pc ls (.int n :: rest)) := by
  subst hN
  refine W.anewA (t := .int) hexec hb hown hclink hV rfl hdg rfl hn hbytes hcells hslots fun cA kA comp f1 f2 f3 f4 => ?_
  have g5 : s.vm.findClass "[[I" = some (G.2 5) := (hK.1.2 5 (G.2 5, .array .int) rfl).2
  cases Option.some.inj ((show s.vm.findClass "[[I" = some cA from f1).symm.trans g5)
  generalize hH1 : H.push ({ cls := G.2 5, slots := Array.replicate n.toNatClampNeg .null, vm := .none } : Cell) = H1
  have z1 : H1.size = H.size + 1 := by rw [← hH1, Array.size_push]
  have e1 : H1[H.size]? = some (arrV (G.2 5) n.toNatClampNeg (fun _ => .null)) := by rw [← hH1, Array.getElem?_push_size, ← arrV_new]
  have o1 : ∀ q : Nat, q < H.size → H1[q]? = H[q]? := fun q hq => by rw [← hH1, Array.getElem?_push, if_neg (Nat.ne_of_lt hq)]
  have hk : ∀ (k : Nat) (x : Nat × va_E), (wl N ad C)[k]? = some x → H1[x.1]? = H[x.1]? := fun k x hx => o1 x.1 ((hP k x hx).lt)
  have h := kk (va_up ad N H.size) (va_up C N (ra G 5 n.toNatClampNeg (fun _ => none))) H1 (fun j hj => va_un _ _ (by omega)) (fun j hj => va_un _ _ (by omega)) (va_us _ _ _) (by
      rw [wl_push]
      refine (hP.kept hk).app (fun k x hx => ?_)
      have hz : k < 1 := (List.getElem?_eq_some_iff.mp hx).1
      rw [show k = 0 by omega] at hx
      cases hx
      show H1[H.size]? = some (vp_cell _ _)
      rw [vp_cell_q]
      exact e1) (by
      rw [wl_push]
      exact hD.push hP rfl (hA _ hS.1)) ⟨Nat.le_trans hS.1 (by omega), fun x h1 h2 => (o1 x (Nat.lt_of_lt_of_le h1 hS.1)).trans (hS.2.1 x h1 h2), hS.2.2⟩
  rw [va_us] at h
  exact h
end IWGR
/-! multianewarray of 64 by 3 -/
def mgS (s : State) (cA comp : ClassId) : Nat → State
  | 0 => s.pushCell (arrV cA 64 (fun _ => .null))
  | i + 1 => ((mgS s cA comp i).pushCell (arrV comp 3 (fun _ => .int 0))).setCell s.heap.size (arrV cA 64 (fun j => if j < i + 1 then .ref (s.heap.size + 1 + j) else .null))
theorem mg_st (cA : ClassId) (h i : Nat) : (arrV cA 64 (fun j => if j < i then .ref (h + 1 + j) else .null)).setSlot i (.ref (h + 1 + i)) = arrV cA 64 (fun j => if j < i + 1 then .ref (h + 1 + j) else .null) := by
  rw [arrV_store]
  congr 1
  funext j
  unfold updV
  by_cases h1 : j = i
  · subst h1
    rw [if_pos rfl, if_pos (by omega)]
  · rw [if_neg h1]
    show (if j < i then Value.ref (h + 1 + j) else Value.null) = _
    by_cases h2 : j < i
    · rw [if_pos h2, if_pos (by omega)]
    · rw [if_neg h2, if_neg (by omega)]
theorem mg_f (s : State) (cA comp : ClassId) : ∀ i, (mgS s cA comp i).heap.size = s.heap.size + 1 + i ∧ (mgS s cA comp i).heap[s.heap.size]? = some (arrV cA 64 (fun j => if j < i then .ref (s.heap.size + 1 + j) else .null)) ∧ (mgS s cA comp i).vm = s.vm ∧ (mgS s cA comp i).slotsUsed = s.slotsUsed + 64 + 3 * i
  | 0 => ⟨by simp [mgS], by simp [mgS], rfl, by simp [mgS, arrV_size]⟩
  | i + 1 => by
    obtain ⟨a, b, d, u⟩ := mg_f s cA comp i
    have hl : s.heap.size < (mgS s cA comp i).heap.size := by omega
    have hb : ((mgS s cA comp i).pushCell (arrV comp 3 (fun _ => .int 0))).heap[s.heap.size]? = some (arrV cA 64 (fun j => if j < i then .ref (s.heap.size + 1 + j) else .null)) := by rw [State.heap_pushCell_of_lt (h := hl)]; exact b
    refine ⟨?_, State.heap_setCell_self hb, by simp [mgS, d], ?_⟩
    · simp [mgS, State.setCell, a]; omega
    · simp [mgS, u, arrV_size]; omega
theorem mg_old (s : State) (cA comp : ClassId) {q : Addr} (hq : q < s.heap.size) : ∀ i, (mgS s cA comp i).heap[q]? = s.heap[q]?
  | 0 => State.heap_pushCell_of_lt _ _ hq
  | i + 1 => by
    have a := (mg_f s cA comp i).1
    have hl : q < (mgS s cA comp i).heap.size := Nat.lt_of_lt_of_le hq (by omega)
    show (((mgS s cA comp i).pushCell _).setCell s.heap.size _).heap[q]? = _
    rw [State.heap_setCell_other (Nat.ne_of_gt hq), State.heap_pushCell_of_lt (h := hl)]
    exact mg_old s cA comp hq i
theorem mg_in (s : State) (cA comp : ClassId) : ∀ i j, j < i → (mgS s cA comp i).heap[s.heap.size + 1 + j]? = some (arrV comp 3 (fun _ => .int 0))
  | 0, _, h => absurd h (Nat.not_lt_zero _)
  | i + 1, j, h => by
    have a := (mg_f s cA comp i).1
    show (((mgS s cA comp i).pushCell _).setCell s.heap.size _).heap[s.heap.size + 1 + j]? = _
    rw [State.heap_setCell_other (show s.heap.size ≠ s.heap.size + 1 + j by omega)]
    rcases Nat.lt_or_ge j i with hj | hj
    · have hl : s.heap.size + 1 + j < (mgS s cA comp i).heap.size := by omega
      rw [State.heap_pushCell_of_lt (h := hl)]
      exact mg_in s cA comp i j hj
    · rw [show s.heap.size + 1 + j = (mgS s cA comp i).heap.size by omega]
      exact State.heap_pushCell_size _ _
theorem mg_top (s : State) (f : JFrame) (cA comp : ClassId) : ∀ i, mgS (s.setTop f) cA comp i = (mgS s cA comp i).setTop f
  | 0 => rfl
  | i + 1 => by simp only [mgS, mg_top s f cA comp i, State.heap_setTop, State.pushCell_setTop, State.setCell_setTop]
section MGW
variable {E : CtlPost} {e : Env} {d : Bool} {acts : List Action} {s : State}
theorem mg_new {cA comp : ClassId} {k : Class} {ty : FieldType} {n : Nat} {v : Value} (hk : s.vm.classes[cA]? = some k) (hkind : k.kind = .array comp ty) (h1 : ¬ n > e.platform.arrayLengthLimit) (h2 : ¬ n * componentBytes ty > e.platform.maxHeapBytes) (hf : fits ty v = true) (hd : v.isDefault = true) {Qp : Addr → Pre}
    (h3 : s.heap.size < e.platform.maxCells) (h4 : s.slotsUsed + n ≤ e.platform.maxSlots) (hq : Qp s.heap.size d acts (s.pushCell (arrV cA n (fun _ => v)))) : wp (Jvm.newArray cA n v) Qp E e d acts s := by
  have hx : ∀ i z, (Array.replicate n v)[i]? = some z → s.fitsSlot cA .none i z = true := fun i z hz => by
    rw [Array.getElem?_replicate] at hz
    split at hz
    · cases hz
      simp [State.fitsSlot, State.slotType?, hk, hkind, hf]
    · cases hz
  have ha : allocActs (Array.replicate n v) s.heap.size acts = acts := by
    unfold allocActs
    rw [if_pos]
    rw [Array.all_replicate]
    split <;> simp [hd]
  rw [← arrV_new] at hq
  simp only [Jvm.newArray, Jvm.arrayFits, wp_bind', _root_.Jvm.W.ask, _root_.Jvm.W.ite, h1, if_false, wp_pure', _root_.Jvm.W.theClass, hk, hkind, h2, _root_.Jvm.W.alloc, _root_.Jvm.W.stop, Option.some.injEq, exists_eq_left', Array.size_replicate, ha]
  rw [if_neg (by omega)]
  exact ⟨h3, h4, hx, hq⟩
theorem mg_row {comp cc : ClassId} {kc : Class} (hkc : s.vm.classes[comp]? = some kc) (hkindc : kc.kind = .array cc .int) (h1 : ¬ 3 > e.platform.arrayLengthLimit) (h2 : ¬ 12 > e.platform.maxHeapBytes)
    (h3 : s.heap.size < e.platform.maxCells) (h4 : s.slotsUsed + 3 ≤ e.platform.maxSlots) {Qp : Addr → Pre} (hq : Qp s.heap.size d acts (s.pushCell (arrV comp 3 (fun _ => .int 0)))) : wp (multianewarray.make comp [nI 3]) Qp E e d acts s := by
  have hm : ¬ (nI 3 < 0) := by decide
  have hz : (nI 3).toNatClampNeg = 3 := by decide
  rw [multianewarray.make]
  simp only [wp_bind', _root_.Jvm.W.ite, hm, if_false, wp_pure', _root_.Jvm.W.theClass, hkc, hkindc, Option.some.injEq, exists_eq_left', hz]
  exact mg_new hkc hkindc h1 h2 rfl rfl h3 h4 hq
theorem mg_ref (v : Value) (h : v = .null ∨ ∃ a, v = .ref a) : fits (.array .int) v = true := by
  rcases h with rfl | ⟨a, rfl⟩ <;> rfl
theorem mg_make {cA comp cc : ClassId} {k kc : Class} (hk : s.vm.classes[cA]? = some k) (hkind : k.kind = .array comp (.array .int)) (hkc : s.vm.classes[comp]? = some kc) (hkindc : kc.kind = .array cc .int)
    (h1 : ¬ 64 > e.platform.arrayLengthLimit) (h2 : ¬ 256 > e.platform.maxHeapBytes) (h3 : s.heap.size + 65 ≤ e.platform.maxCells) (h4 : s.slotsUsed + 256 ≤ e.platform.maxSlots)
    {Qp : Addr → Pre} (hq : ∀ d' acts', Qp s.heap.size d' acts' (mgS s cA comp 64)) : wp (multianewarray.make cA [nI 64, nI 3]) Qp E e d acts s := by
  have hn : ¬ (nI 64 < 0) := by decide
  have hz : (nI 64).toNatClampNeg = 64 := by decide
  have hf : ([nI 3].find? (· < 0)) = none := by decide
  rw [multianewarray.make]
  simp only [wp_bind', _root_.Jvm.W.ite, hn, if_false, wp_pure', _root_.Jvm.W.theClass, hk, hkind, Option.some.injEq, exists_eq_left', hz]
  refine mg_new hk hkind h1 h2 (mg_ref _ (Or.inl rfl)) rfl (by omega) (by omega) ?_
  simp only [hf]
  rw [ite_self, wp_bind', Std.Legacy.Range.forIn_eq_forIn_range']
  rw [show ([:64] : Std.Legacy.Range).size = 64 by simp [Std.Legacy.Range.size]]
  show wp (forIn (List.range' 0 64 1) PUnit.unit _) _ E e d acts _
  refine wp_forIn_inv (fun rest t => ∃ i, i ≤ 64 ∧ rest = List.range' i (64 - i) ∧ t = mgS s cA comp i) _ _ ⟨0, Nat.zero_le _, rfl, rfl⟩ ?_ ?_
  · rintro x rest t d' acts' Q' ⟨i, hi, hl, rfl⟩ hnext
    have hlt : i < 64 := by
      rcases Nat.lt_or_ge i 64 with h | h
      · exact h
      · rw [show 64 - i = 0 by omega] at hl
        cases hl
    rw [show 64 - i = (64 - (i + 1)) + 1 by omega, List.range'_succ] at hl
    obtain ⟨rfl, hrest⟩ := List.cons.inj hl
    obtain ⟨f1, f2, f3, f4⟩ := mg_f s cA comp x
    simp only [wp_bind']
    refine mg_row (by rw [f3]; exact hkc) hkindc (by omega) (by omega) (by rw [f1]; omega) (by rw [f4]; omega) ?_
    simp only [wp_bind', _root_.Jvm.W.writeLoc, wp_pure']
    have hl : s.heap.size < (mgS s cA comp x).heap.size := by omega
    refine ⟨_, by rw [State.heap_pushCell_of_lt (h := hl)]; exact f2, (by intro h; cases h), by rw [arrV_size]; exact hlt, ?_, hnext _ _ _ ⟨x + 1, hlt, hrest, ?_⟩⟩
    · simp [State.fitsSlot, State.slotType?, arrV, f3, hk, hkind, mg_ref _ (Or.inr ⟨_, rfl⟩)]
    · rw [f1, mg_st]
      rfl
  · rintro t d' acts' ⟨i, hi, hl, rfl⟩
    have h64 : i = 64 := by
      rcases Nat.lt_or_ge i 64 with h | h
      · rw [show 64 - i = (64 - (i + 1)) + 1 by omega, List.range'_succ] at hl
        cases hl
      · omega
    subst h64
    simp only [wp_pure']
    exact hq _ _
end MGW
section MGX
variable {p : Program} {l : Launch} {e : Env} {R : Room} {s : State} {m : MethodId} {args : Array Value} {below : List Frame} {meth : Method} {c : Code} {T : State} {locs : List Loc} {cells slots : Nat}
theorem mg_stand (X : Stand p l e R s m args below meth c T locs cells slots) (cA comp : ClassId) : ∀ i, Stand p l e R s m args below meth c (mgS T cA comp i) (locs ++ (List.range i).map fun j => ⟨T.heap.size, j⟩) (cells + 1 + i) (slots + 64 + 3 * i)
  | 0 => by
    have h := X.pushed (arrV cA 64 (fun _ => .null))
    rw [arrV_size] at h
    simpa [mgS] using h
  | i + 1 => by
    obtain ⟨f1, f2, f3, f4⟩ := mg_f T cA comp i
    have hl : T.heap.size < (mgS T cA comp i).heap.size := by omega
    have hc : ((mgS T cA comp i).pushCell (arrV comp 3 (fun _ => .int 0))).heap[T.heap.size]? = some (arrV cA 64 (fun j => if j < i then .ref (T.heap.size + 1 + j) else .null)) := by rw [State.heap_pushCell_of_lt (h := hl)]; exact f2
    have h := ((mg_stand X cA comp i).pushed (arrV comp 3 (fun _ => .int 0))).stored hc i (.ref (T.heap.size + 1 + i))
    rw [arrV_size, mg_st] at h
    have e2 : (locs ++ (List.range (i + 1)).map fun j => (⟨T.heap.size, j⟩ : Loc)) = (locs ++ (List.range i).map fun j => (⟨T.heap.size, j⟩ : Loc)) ++ [⟨T.heap.size, i⟩] := by simp [List.range_succ, List.append_assoc]
    have e3 : slots + 64 + 3 * (i + 1) = slots + 64 + 3 * i + 3 := by omega
    rw [e2, e3]
    exact h
end MGX
section MGY
variable {p : Program} {l : Launch} {e : Env} {R : Room} {s : State} {m : MethodId} {args : Array Value} {below : List Frame} {meth : Method} {c : Code} {H : Heap} {locs : List Loc} {cells slots : Nat} {Q : State → Prop}
variable {pc : Nat} {ls : Array Slot} {rest st0 : List Value} {a : Array Value} {A : Nat → Prop} {H0 : Heap} {G : iG} {N : Nat} {ad : Nat → Nat} {C : Nat → va_E}
theorem mg_W {cc : ByteArray} (hexec : p.tables.exec = Jvm.exec) (hb : c.code = cc) {own : String} {index : Nat} (hown : s.vm.findClass own = some m.cls) (hclink : (Cond.classLink own index "[[I").before args s = true) (hV : va_AG s) (harr : (Cond.arrayClass .int).before args s = true) (hdg : decode cc pc = .ok (.multianewarray index 2, 4)) (hcells : cells + 65 ≤ R.cells) (hslots : slots + 256 ≤ R.slots)
    (kk : ∀ (cA comp : ClassId) (H1 : Heap), s.vm.findClass "[[I" = some cA → s.vm.findClass "[I" = some comp → H1.size = H.size + 65 → (∀ q : Nat, q < H.size → H1[q]? = H[q]?) → H1[H.size]? = some (arrV cA 64 (fun j => if j < 64 then .ref (H.size + 1 + j) else .null)) → (∀ j, j < 64 → H1[H.size + 1 + j]? = some (arrV comp 3 (fun _ => .int 0))) →
      W p l e R s m args below meth c H1 locs (cells + 65) (slots + 256) Q (F0 m (pc + 4) ls (.ref H.size :: rest))) : W p l e R s m args below meth c H locs cells slots Q (F0 m pc ls (.int (nI 3) :: .int (nI 64) :: rest)) := by
  intro T hT X
  subst hT; subst hb
  have hpl : e.platform.magicAccessors = ({} : Platform).magicAccessors := by rw [X.admits.platform]
  obtain ⟨comp, cA, kA, hcomp, -, hkA, hkindA, hnameA⟩ := ag_sp hV
  obtain ⟨comp', kC, cc, hcomp', hkC, hkindC⟩ := Cond.arrayClass_spec harr
  cases Option.some.inj ((show s.vm.findClass "[I" = some comp' from hcomp').symm.trans hcomp)
  obtain ⟨c0, hfc0, hcl⟩ := Cond.classLink_spec hown hclink e.platform hpl
  cases hnameA.symm.trans hfc0
  obtain ⟨hg₁, hwarm₁, hready₁⟩ := State.classEntry (e := e) X.warmed hcl
  generalize T.vm.noted m.cls index (.cls cA) = vm₁ at hg₁ hwarm₁ hready₁
  have hal : s.vm.Alike vm₁ := hwarm₁.alike
  obtain ⟨kA₁, hkA₁, heA⟩ := hal.2.2 _ _ hkA
  obtain ⟨kC₁, hkC₁, heC⟩ := hal.2.2 _ _ hkC
  have hkindA₁ : kA₁.kind = .array comp (.array .int) := by rw [heA]; exact hkindA
  have hkindC₁ : kC₁.kind = .array cc .int := by rw [heC]; exact hkindC
  obtain ⟨hr1, hr2⟩ := X.roomAbove hcells hslots
  have XF := mg_stand (X.noted hwarm₁) cA comp 64
  obtain ⟨f1, f2, f3, f4⟩ := mg_f (T.setVm vm₁) cA comp 64
  have XG : Stand p l e R s m args below meth c (mgS (T.setVm vm₁) cA comp 64) locs (cells + 65) (slots + 256) := by
    have h := XF.dropFresh (fun x hx => by
      obtain ⟨j, -, rfl⟩ := List.mem_map.mp hx
      exact X.heapGrown)
    exact h
  obtain ⟨t, a1, b1⟩ := kk cA comp (mgS (T.setVm vm₁) cA comp 64).heap hnameA hcomp f1 (fun q hq => mg_old (T.setVm vm₁) cA comp hq 64) f2 (fun j hj => mg_in (T.setVm vm₁) cA comp 64 j hj) _ rfl XG
  refine ⟨t, ?_, b1⟩
  have hl1 : ¬ 64 > e.platform.arrayLengthLimit := by rw [Launch.admits_arrayLengthLimit X.admits]; omega
  have hh1 : ¬ 256 > e.platform.maxHeapBytes := by rw [Launch.admits_maxHeapBytes X.admits]; omega
  jvm_step X.here [hexec, hdg]
  simp only [multianewarray.sem, wp_bind', _root_.Jvm.W.resolveClassAt_links (State.method?_setTop (F0 m pc ls (.int (nI 3) :: .int (nI 64) :: rest)) X.here.top) hg₁]
  rw [_root_.Jvm.W.popN, if_neg (by decide)]
  refine ⟨F0 m pc ls (.int (nI 3) :: .int (nI 64) :: rest), State.topJava?_setTop' (s := T.setVm vm₁) _ X.here.top, [.int (nI 64), .int (nI 3)], rest, rfl, rfl, ?_⟩
  simp only [List.mapM_cons, List.mapM_nil, wp_bind', wp_pure']
  refine mg_make (k := kA₁) (kc := kC₁) (comp := comp) (cc := cc) hkA₁ hkindA₁ hkC₁ hkindC₁ hl1 hh1 (by show T.heap.size + 65 ≤ _; omega) (by show T.slotsUsed + 256 ≤ _; omega) (fun d' acts' => ?_)
  have eS : ((T.setTop (F0 m pc ls (.int (nI 3) :: .int (nI 64) :: rest))).setVm vm₁).setTop (F0 m pc ls rest) = (T.setVm vm₁).setTop (F0 m pc ls rest) := by
    show ((T.setVm vm₁).setTop (F0 m pc ls (.int (nI 3) :: .int (nI 64) :: rest))).setTop _ = _
    rw [State.setTop_setTop]
  rw [show (((T.setTop (F0 m pc ls (.int (nI 3) :: .int (nI 64) :: rest))).setVm vm₁).setTop { (F0 m pc ls (.int (nI 3) :: .int (nI 64) :: rest)) with stack := rest }) = (T.setVm vm₁).setTop (F0 m pc ls rest) from eS, mg_top]
  simp only [wp_bind', _root_.Jvm.W.mark, _root_.Jvm.W.pushRef, State.topJava?_setTop' _ XF.here.top, Option.some.injEq, exists_eq_left', State.setTop_setTop, State.heap_setTop]
  intro acts
  simp [jvm, XF.here.top]
  exact a1
theorem iw_multi {cc : ByteArray} (hexec : p.tables.exec = Jvm.exec) (hb : c.code = cc) {own : String} {index : Nat} (hown : s.vm.findClass own = some m.cls) (hclink : (Cond.classLink own index "[[I").before args s = true) (hV : va_AG s) (harr : (Cond.arrayClass .int).before args s = true) (hK : KB G s) (hP : va_P G.1 vwB (wl N ad C) H) (hD : va_D A (wl N ad C)) (hS : va_S A H0 H locs) (hA : ∀ q, H0.size ≤ q → A q) (hcells : cells + 65 ≤ R.cells) (hslots : slots + 256 ≤ R.slots) (hdg : decode cc pc = .ok (.multianewarray index 2, 4))
    (kk : ∀ (ad1 : Nat → Nat) (C1 : Nat → va_E) (H1 : Heap), (∀ j, j < N → ad1 j = ad j) → (∀ j, j < N → C1 j = C j) → C1 N = ra G 5 64 (fun j => some (ad1 (N + 1 + j))) → (∀ j, j < 64 → C1 (N + 1 + j) = ia G 3 (fun _ => nI 0)) → va_P G.1 vwB (wl (N + 65) ad1 C1) H1 → va_D A (wl (N + 65) ad1 C1) → va_S A H0 H1 locs →
      W p l e R s m args below meth c H1 locs (cells + 65) (slots + 256) Q (F0 m (pc + 4) ls (.ref (ad1 N) :: rest))) : W p l e R s m args below meth c H locs cells slots Q (F0 m pc ls (.int (nI 3) :: .int (nI 64) :: rest)) := by
  refine mg_W hexec hb hown hclink hV harr hdg hcells hslots (fun cA comp H1 g5 g0 z o1 e1 e2 => ?_)
  have q0 : s.vm.findClass "[I" = some (G.2 0) := (hK.1.2 0 (G.2 0, .int) rfl).2
  have q5 : s.vm.findClass "[[I" = some (G.2 5) := (hK.1.2 5 (G.2 5, .array .int) rfl).2
  cases Option.some.inj (g0.symm.trans q0)
  cases Option.some.inj (g5.symm.trans q5)
  have hlt : ∀ j, j < N → ad j < H.size := fun j hj => (hP j _ (wl_get hj rfl)).lt
  have h := kk (fun j => if j < N then ad j else H.size + (j - N)) (fun j => if j < N then C j else if j = N then ra G 5 64 (fun j => some (H.size + 1 + j)) else ia G 3 (fun _ => nI 0)) H1 (fun j hj => if_pos hj) (fun j hj => if_pos hj)
    (by
      show (if N < N then _ else _) = _
      rw [if_neg (Nat.lt_irrefl _), if_pos rfl]
      congr 1
      congr 1
      congr 1
      funext j
      rw [if_neg (by omega)]
      congr 1
      omega)
    (fun j hj => by
      show (if N + 1 + j < N then _ else _) = _
      rw [if_neg (by omega), if_neg (by omega)])
    (fun k q hq => by
      obtain ⟨hk, rfl⟩ := wl_at hq
      rcases Nat.lt_or_ge k N with h1 | h1
      · show va_at G.1 vwB ((if k < N then ad k else _), (if k < N then C k else _)) H1
        rw [if_pos h1, if_pos h1]
        exact (hP k _ (wl_get h1 rfl)).kept (o1 _ (hlt k h1))
      · show va_at G.1 vwB ((if k < N then ad k else _), (if k < N then C k else _)) H1
        rw [if_neg (by omega), if_neg (by omega)]
        by_cases h2 : k = N
        · subst h2
          rw [if_pos rfl]
          show H1[H.size + (k - k)]? = some (arrV (G.2 5) 64 (fun j => va_rf (some (H.size + 1 + j))))
          rw [Nat.sub_self, Nat.add_zero, e1]
          exact congrArg some (arrV_congr _ (fun j hj => by rw [if_pos hj]; rfl))
        · rw [if_neg h2]
          show H1[H.size + (k - N)]? = some (arrV (G.2 0) 3 (fun j => .int (nI 0)))
          rw [show H.size + (k - N) = H.size + 1 + (k - N - 1) by omega, e2 _ (by omega)]
          rfl)
    ⟨fun i j q r hi hj hqr => by
      obtain ⟨h1, rfl⟩ := wl_at hi
      obtain ⟨h2, rfl⟩ := wl_at hj
      have hqr : (if i < N then ad i else H.size + (i - N)) = (if j < N then ad j else H.size + (j - N)) := hqr
      rcases Nat.lt_or_ge i N with h3 | h3 <;> rcases Nat.lt_or_ge j N with h4 | h4
      · rw [if_pos h3, if_pos h4] at hqr
        exact hD.1 i j _ _ (wl_get h3 rfl) (wl_get h4 rfl) hqr
      · rw [if_pos h3, if_neg (by omega)] at hqr
        have := hlt i h3
        omega
      · rw [if_neg (by omega), if_pos h4] at hqr
        have := hlt j h4
        omega
      · rw [if_neg (by omega), if_neg (by omega)] at hqr
        omega, fun k q hk => by
      obtain ⟨h1, rfl⟩ := wl_at hk
      show A (if k < N then ad k else H.size + (k - N))
      rcases Nat.lt_or_ge k N with h3 | h3
      · rw [if_pos h3]
        exact hD.2 k _ (wl_get h3 rfl)
      · rw [if_neg (by omega)]
        exact hA _ (Nat.le_trans hS.1 (Nat.le_add_right _ _))⟩
    ⟨Nat.le_trans hS.1 (by omega), fun x h1 h2 => (o1 x (Nat.lt_of_lt_of_le h1 hS.1)).trans (hS.2.1 x h1 h2), hS.2.2⟩
  have e0 : (if N < N then ad N else H.size + (N - N)) = H.size := by rw [if_neg (Nat.lt_irrefl _), Nat.sub_self, Nat.add_zero]
  have h2 : W p l e R s m args below meth c H1 locs (cells + 65) (slots + 256) Q (F0 m (pc + 4) ls (.ref (if N < N then ad N else H.size + (N - N)) :: rest)) := h
  rw [e0] at h2
  exact h2
/-- System.arraycopy of ints -/
theorem iw_icopy {cc : ByteArray} (hexec : p.tables.exec = Jvm.exec) (hb : c.code = cc) (hml : c.maxLocals = ls.size) {own : String} {index : Nat} (hown : s.vm.findClass own = some m.cls) (hlink : (Cond.methodLink own index arraycopyName).before args s = true) (hnat : (Cond.native arraycopyName).before args s = true) (hstat : (Cond.static arraycopyName).before args s = true) (hini : (Cond.initialized "java/lang/System").before args s = true) (hK : KB G s) (hP : va_P G.1 vwB (wl N ad C) H) (hD : va_D A (wl N ad C)) (hS : va_S A H0 H locs) {j0 j1 n0 n1 : Nat} {f g : Nat → Int32} (h0 : j0 < N) (h1 : j1 < N) (hc0 : C j0 = ia G n0 f) (hc1 : C j1 = ia G n1 g) {sp dp n : Int32} {sp' dp' n' : Nat} (hs : ¬ sp < 0) (hd : ¬ dp < 0) (hn : ¬ n < 0) (es : sp.toNatClampNeg = sp') (ed : dp.toNatClampNeg = dp') (en : n.toNatClampNeg = n') (h4 : sp' + n' ≤ n0) (h5 : dp' + n' ≤ n1)
    (hframes : 1 ≤ R.frames) (hlocals : (rest.map fun v => v.category).sum + (nativeFrameWords "java/lang/System" "arraycopy" 5 + 11) ≤ R.locals) (hdg : decode cc pc = .ok (.invokestatic index, 3))
    (kk : ∀ (H1 : Heap) (locs1 : List Loc), va_P G.1 vwB (wl N ad (va_up C j1 (ia G n1 (va_cpy f g sp' dp' n')))) H1 → va_D A (wl N ad (va_up C j1 (ia G n1 (va_cpy f g sp' dp' n')))) → va_S A H0 H1 locs1 → W p l e R s m args below meth c H1 locs1 cells slots Q (F0 m (pc + 3) ls rest)) : W p l e R s m args below meth c H locs cells slots Q (F0 m pc ls (.int n :: .int dp :: .ref (ad j1) :: .int sp :: .ref (ad j0) :: rest)) := by
  subst es; subst ed; subst en
  exact va_copyi hexec hb hml hown hlink hnat hstat hini hK.1 hP hD hS j0 j1 0 0 (ty := .int) (wl_get h0 hc0) (wl_get h1 hc1) rfl rfl rfl hs hd hn h4 h5 (fun i hi => rfl) hframes hlocals hdg (fun H1 locs1 q1 q2 q3 => kk H1 locs1 (by rw [← wl_set h1]; exact q1) (by rw [← wl_set h1]; exact q2) q3)
/-- System.arraycopy of no row of an array of int[] -/
theorem iw_gcopy {cc : ByteArray} (hexec : p.tables.exec = Jvm.exec) (hb : c.code = cc) (hml : c.maxLocals = ls.size) {own : String} {index : Nat} (hown : s.vm.findClass own = some m.cls) (hlink : (Cond.methodLink own index arraycopyName).before args s = true) (hnat : (Cond.native arraycopyName).before args s = true) (hstat : (Cond.static arraycopyName).before args s = true) (hini : (Cond.initialized "java/lang/System").before args s = true) (hK : KB G s) (hP : va_P G.1 vwB (wl N ad C) H) (hD : va_D A (wl N ad C)) (hS : va_S A H0 H locs) {j0 j1 n0 n1 : Nat} {f g : Nat → Option Nat} (h0 : j0 < N) (h1 : j1 < N) (hc0 : C j0 = ra G 5 n0 f) (hc1 : C j1 = ra G 5 n1 g)
    (hframes : 1 ≤ R.frames) (hlocals : (rest.map fun v => v.category).sum + (nativeFrameWords "java/lang/System" "arraycopy" 5 + 11) ≤ R.locals) (hdg : decode cc pc = .ok (.invokestatic index, 3))
    (kk : ∀ (H1 : Heap) (locs1 : List Loc), va_P G.1 vwB (wl N ad C) H1 → va_D A (wl N ad C) → va_S A H0 H1 locs1 → W p l e R s m args below meth c H1 locs1 cells slots Q (F0 m (pc + 3) ls rest)) : W p l e R s m args below meth c H locs cells slots Q (F0 m pc ls (.int (nI 0) :: .int (nI 0) :: .ref (ad j1) :: .int (nI 0) :: .ref (ad j0) :: rest)) := by
  intro T hT X
  have hz : (nI 0).toNatClampNeg = 0 := by decide
  have hi : (nI 0).toInt = 0 := by decide
  have q0 : H[ad j0]? = some (arrV (G.2 5) n0 (fun j => va_rf (f j))) := hP j0 _ (wl_get h0 hc0)
  have q1 : H[ad j1]? = some (arrV (G.2 5) n1 (fun j => va_rf (g j))) := hP j1 _ (wl_get h1 hc1)
  obtain ⟨-, k0, hk0, cm0, hkk0⟩ := (hK.1.2 5 (G.2 5, .array .int) rfl).1 n0 (fun j => va_rf (f j))
  obtain ⟨vm', X', step⟩ := X.arraycopy hexec hown hlink hnat hstat hini (src := ad j0) (dst := ad j1) (cs := arrV (G.2 5) n0 (fun j => va_rf (f j))) (cd := arrV (G.2 5) n1 (fun j => va_rf (g j))) (srcPos := nI 0) (destPos := nI 0) (n := nI 0) (by rw [hT]; exact q0) (by rw [hT]; exact q1)
    (fun _ h => by cases h) (fun _ h => by cases h) (fun h => by cases h) (fun h => by cases h) hk0 hk0 hkk0 hkk0 rfl (by decide) (by decide) (by decide)
    (by rw [hi, arrV_size]; omega) (by rw [hi, arrV_size]; omega)
    (fun vm₁ _ i hi => by rw [hz] at hi; omega)
    (g := F0 m pc ls (.int (nI 0) :: .int (nI 0) :: .ref (ad j1) :: .int (nI 0) :: .ref (ad j0) :: rest)) rfl (by rw [hml]) (rest := rest) rfl (by rw [hb]; exact hdg) hframes (by show 2 * 0 + _ + _ ≤ _; omega)
  have e1 : copied (arrV (G.2 5) n0 (fun j => va_rf (f j))) (arrV (G.2 5) n1 (fun j => va_rf (g j))) (nI 0) (nI 0) (nI 0) = arrV (G.2 5) n1 (fun j => va_rf (va_cpy f g 0 0 0 j)) := va_copied (fun z => va_rf z) (G.2 5) (G.2 5) f g (sp := 0) (dp := 0) (n := 0) (by omega)
  have e2 : va_cpy f g 0 0 0 = g := by
    funext j
    simp [va_cpy]
  rw [e2] at e1
  rw [e1] at X' step
  have hl : ad j1 < H.size := (Array.getElem?_eq_some_iff.mp q1).1
  have hheap : ((T.setVm vm').setCell (ad j1) (arrV (G.2 5) n1 (fun j => va_rf (g j)))).heap = H.setIfInBounds (ad j1) (arrV (G.2 5) n1 (fun j => va_rf (g j))) := by rw [← hT]; rfl
  have oq : ∀ q : Nat, (H.setIfInBounds (ad j1) (arrV (G.2 5) n1 (fun j => va_rf (g j))))[q]? = H[q]? := fun q => by
    by_cases e : q = ad j1
    · subst e
      rw [q1]
      simp [Array.getElem?_setIfInBounds, hl]
    · simp [Array.getElem?_setIfInBounds, Ne.symm e]
  obtain ⟨t, a1, b1⟩ := kk _ _ (hP.kept (fun k q hk => oq q.1)) hD ⟨by simp; exact hS.1, fun q g1 g2 => by
      rw [oq q]
      exact hS.2.1 q g1 g2, fun q hq => by
      rcases List.mem_append.mp hq with h | h
      · exact hS.2.2 q h
      · obtain ⟨z, -, hz⟩ := List.mem_map.mp h
        rw [← hz]
        exact hD.2 j1 _ (wl_get h1 hc1)⟩ _ hheap X'
  exact ⟨t, step t a1, b1⟩
end MGY
theorem iw_alenG {p : Program} {l : Launch} {e : Env} {R : Room} {s : State} {m : MethodId} {args : Array Value} {below : List Frame} {meth : Method} {c : Code} {H : Heap} {locs : List Loc} {cells slots : Nat} {Q : State → Prop} {pc : Nat} {ls : Array Slot} {rest : List Value} {G : iG} {N : Nat} {ad : Nat → Nat} {C : Nat → va_E} {cc : ByteArray} (hexec : p.tables.exec = Jvm.exec) (hb : c.code = cc) (hK : KB G s) (hP : va_P G.1 vwB (wl N ad C) H) {j n : Nat} {f : Nat → Option Nat} (hj : j < N) (hc : C j = ra G 5 n f) {v : Int32} (hv : Int32.ofNat n = v) (hdg : decode cc pc = .ok (.arraylength, 1))
    (kk : W p l e R s m args below meth c H locs cells slots Q (F0 m (pc + 1) ls (.int v :: rest))) : W p l e R s m args below meth c H locs cells slots Q (F0 m pc ls (.ref (ad j) :: rest)) :=
  va_alen hexec hb hK.1 hP j 5 (wl_get hj hc) rfl hv hdg kk
theorem iw_dald {p : Program} {l : Launch} {e : Env} {R : Room} {s : State} {m : MethodId} {args : Array Value} {below : List Frame} {meth : Method} {c : Code} {H : Heap} {locs : List Loc} {cells slots : Nat} {Q : State → Prop} {pc : Nat} {ls : Array Slot} {rest : List Value} {G : iG} {N : Nat} {ad : Nat → Nat} {C : Nat → va_E} {cc : ByteArray} (hexec : p.tables.exec = Jvm.exec) (hb : c.code = cc) (hK : KB G s) (hP : va_P G.1 vwB (wl N ad C) H) {j n : Nat} {f : Nat → UInt64} (hj : j < N) (hc : C j = da G n f) {i : Int32} {v : UInt64} (hin : vp_in i n) (hv : f i.toNatClampNeg = v) (hdg : decode cc pc = .ok (.daload, 1))
    (kk : W p l e R s m args below meth c H locs cells slots Q (F0 m (pc + 1) ls (.double v :: rest))) : W p l e R s m args below meth c H locs cells slots Q (F0 m pc ls (.int i :: .ref (ad j) :: rest)) := by
  subst hv
  exact va_dald hexec hb hK.1 hP j 6 (wl_get hj hc) rfl hin hdg kk
theorem iw_dast {p : Program} {l : Launch} {e : Env} {R : Room} {s : State} {m : MethodId} {args : Array Value} {below : List Frame} {meth : Method} {c : Code} {H : Heap} {locs : List Loc} {cells slots : Nat} {Q : State → Prop} {pc : Nat} {ls : Array Slot} {rest : List Value} {A : Nat → Prop} {H0 : Heap} {G : iG} {N : Nat} {ad : Nat → Nat} {C : Nat → va_E} {cc : ByteArray} (hexec : p.tables.exec = Jvm.exec) (hb : c.code = cc) (hK : KB G s) (hP : va_P G.1 vwB (wl N ad C) H) (hD : va_D A (wl N ad C)) (hS : va_S A H0 H locs) {j n : Nat} {f : Nat → UInt64} (hj : j < N) (hc : C j = da G n f) {i : Int32} {x : UInt64} {k : Nat} (hin : vp_in i n) (hk : i.toNatClampNeg = k) (hdg : decode cc pc = .ok (.dastore, 1))
    (kk : ∀ (H1 : Heap) (locs1 : List Loc), va_P G.1 vwB (wl N ad (va_up C j (da G n (vf_upd f k x)))) H1 → va_D A (wl N ad (va_up C j (da G n (vf_upd f k x)))) → va_S A H0 H1 locs1 → W p l e R s m args below meth c H1 locs1 cells slots Q (F0 m (pc + 1) ls rest)) : W p l e R s m args below meth c H locs cells slots Q (F0 m pc ls (.double x :: .int i :: .ref (ad j) :: rest)) := by
  subst hk
  exact va_dast hexec hb hK.1 hP hD hS j 6 (wl_get hj hc) rfl hin hdg (fun H1 locs1 h1 h2 h3 => kk H1 locs1 (by rw [← wl_set hj]; exact h1) (by rw [← wl_set hj]; exact h2) h3)
/-- the world cut short: its last cells are forgotten -/
theorem wl_cutP {D : va_G} {cl : List vw_C} {N M : Nat} {ad : Nat → Nat} {C : Nat → va_E} {H : Heap} (h : va_P D cl (wl N ad C) H) (hM : M ≤ N) : va_P D cl (wl M ad C) H := fun k q hq => by
  obtain ⟨h1, rfl⟩ := wl_at hq
  exact h k _ (wl_get (Nat.lt_of_lt_of_le h1 hM) rfl)
theorem wl_cutD {A : Nat → Prop} {N M : Nat} {ad : Nat → Nat} {C : Nat → va_E} (h : va_D A (wl N ad C)) (hM : M ≤ N) : va_D A (wl M ad C) := by
  refine ⟨fun i j q r hi hj e => ?_, fun k q hk => ?_⟩
  · obtain ⟨h1, rfl⟩ := wl_at hi
    obtain ⟨h2, rfl⟩ := wl_at hj
    exact h.1 i j _ _ (wl_get (Nat.lt_of_lt_of_le h1 hM) rfl) (wl_get (Nat.lt_of_lt_of_le h2 hM) rfl) e
  · obtain ⟨h1, rfl⟩ := wl_at hk
    exact h.2 k _ (wl_get (Nat.lt_of_lt_of_le h1 hM) rfl)
