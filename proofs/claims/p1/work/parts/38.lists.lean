set_option maxRecDepth 20000 in
theorem ggJxc12de_init_da8c8_Jxa1e45_init_da8c8 : GoodIn wsJxc12de_init_da8c8 wsJxa1e45_init_da8c8 := goodIn_r _ [5, 6, 7, 8] (by decide +kernel) (by decide +kernel)
set_option maxRecDepth 20000 in
theorem gJxc12de_init_da8c8_Jxa1e45_init_da8c8 : GoodIn wsJxc12de_init_da8c8 (wsJxa1e45_init_da8c8) := ggJxc12de_init_da8c8_Jxa1e45_init_da8c8
set_option maxRecDepth 20000 in
theorem ggJx4a65c_init_da8c8_Jxc12de_init_da8c8 : GoodIn wsJx4a65c_init_da8c8 wsJxc12de_init_da8c8 := goodIn_r _ [6, 7, 8, 9, 10, 11, 12, 13, 14, 15, 16, 17] (by decide +kernel) (by decide +kernel)
set_option maxRecDepth 20000 in
theorem gJx4a65c_init_da8c8_Jxc12de_init_da8c8 : GoodIn wsJx4a65c_init_da8c8 (wsJxc12de_init_da8c8) := ggJx4a65c_init_da8c8_Jxc12de_init_da8c8
set_option maxRecDepth 20000 in
theorem ggX7_init_Jx4a65c_init_da8c8 : GoodIn wsX7_init wsJx4a65c_init_da8c8 := goodIn_r _ [13, 14, 15, 16, 17, 18, 19, 20, 21, 22, 23, 24, 25, 2, 3, 26, 27, 28] (by decide +kernel) (by decide +kernel)
set_option maxRecDepth 20000 in
theorem gX7_init_Jx4a65c_init_da8c8 : GoodIn wsX7_init (wsJx4a65c_init_da8c8) := ggX7_init_Jx4a65c_init_da8c8
set_option maxRecDepth 20000 in
theorem ggX9_init_Jx4a65c_init_da8c8 : GoodIn wsX9_init wsJx4a65c_init_da8c8 := goodIn_r _ [17, 18, 19, 20, 21, 22, 23, 24, 25, 26, 27, 28, 29, 2, 3, 38, 39, 40] (by decide +kernel) (by decide +kernel)
set_option maxRecDepth 20000 in
theorem gX9_init_Jx4a65c_init_da8c8 : GoodIn wsX9_init (wsJx4a65c_init_da8c8) := ggX9_init_Jx4a65c_init_da8c8
set_option maxRecDepth 20000 in
theorem ggJx4a65c_grow_d5877_Jx4a65c_grow_92f84 : GoodIn wsJx4a65c_grow_d5877 wsJx4a65c_grow_92f84 := goodIn_r _ [6, 7, 8, 9, 10, 11, 12, 13, 14, 15, 16, 17, 18, 19, 20, 21, 22, 23, 24, 25, 26, 27, 28, 29, 30, 31, 32, 33, 34, 35, 36, 37, 38, 39, 40, 41, 42, 43, 44, 45] (by decide +kernel) (by decide +kernel)
set_option maxRecDepth 20000 in
theorem gJx4a65c_grow_d5877_Jx4a65c_grow_92f84 : GoodIn wsJx4a65c_grow_d5877 (wsV RJx4a65c 69 RJx4a65c yJx4a65c_grow_92f84 wsJx4a65c_grow_92f84) := goodIn_app (goodIn_of _ (by decide +kernel)) ggJx4a65c_grow_d5877_Jx4a65c_grow_92f84
set_option maxRecDepth 20000 in
theorem ggJx4a65c_add_72be8_Jx4a65c_grow_d5877 : GoodIn wsJx4a65c_add_72be8 wsJx4a65c_grow_d5877 := goodIn_r _ [6, 1, 7, 8, 9, 5, 10, 11, 12, 13, 14, 15, 16, 17, 18, 19, 20, 21, 22, 23, 24, 25, 26, 27, 28, 29, 30, 31, 32, 33, 34, 35, 36, 37, 38, 39, 40, 41, 42, 43, 44, 45, 46, 47, 48, 49] (by decide +kernel) (by decide +kernel)
set_option maxRecDepth 20000 in
theorem gJx4a65c_add_72be8_Jx4a65c_grow_d5877 : GoodIn wsJx4a65c_add_72be8 (wsV RJx4a65c 129 RJx4a65c yJx4a65c_grow_d5877 wsJx4a65c_grow_d5877) := goodIn_app (goodIn_of _ (by decide +kernel)) ggJx4a65c_add_72be8_Jx4a65c_grow_d5877
set_option maxRecDepth 20000 in
theorem ggJx4a65c_add_9ea2d_Jx4a65c_add_72be8 : GoodIn wsJx4a65c_add_9ea2d wsJx4a65c_add_72be8 := goodIn_r _ [9, 4, 10, 11, 12, 8, 13, 14, 15, 16, 17, 3, 18, 19, 20, 21, 22, 23, 24, 25, 26, 27, 28, 29, 30, 31, 32, 33, 34, 35, 36, 37, 38, 39, 40, 41, 42, 43, 44, 45, 46, 47, 48, 49, 50, 51, 52, 53, 54, 55] (by decide +kernel) (by decide +kernel)
set_option maxRecDepth 20000 in
theorem gJx4a65c_add_9ea2d_Jx4a65c_add_72be8 : GoodIn wsJx4a65c_add_9ea2d (wsV RJx4a65c 131 RJx4a65c yJx4a65c_add_72be8 wsJx4a65c_add_72be8) := goodIn_app (goodIn_of _ (by decide +kernel)) ggJx4a65c_add_9ea2d_Jx4a65c_add_72be8
/-! THE REFERENCE, what makes cells -/
def ZD (dz : Nat) (A : Nat → Prop) (U : State) (H : Heap) : Prop := va_Z "java/util/ArrayList" "DEFAULTCAPACITY_EMPTY_ELEMENTDATA" "[Ljava/lang/Object;" (.ref dz) A U H ∧ va_T (.object "java/lang/Object") dz 0 (fun _ => .null) A U H ∧ va_Nw (.methodLinkNest RX7 29 yX9_colour RX9) U
theorem ZD.fit {dz : Nat} {A B : Nat → Prop} {s U : State} {H : Heap} (h : ZD dz A s s.heap) (hW : s.WarmedH U.vm) (hk : ∀ a : Nat, a < s.heap.size → ¬ A a → H[a]? = s.heap[a]?) (hB : ∀ q, B q → A q) : ZD dz B U H :=
  ⟨((h.1.kept hk).narrow hB).moved hW.alike, ((h.2.1.kept hk).narrow hB).moved hW.alike, va_Nw.warmM hW h.2.2⟩
abbrev iPreZ (G : iG) (N : Nat) (ad : Nat → Nat) (C : Nat → va_E) (dz sz : Nat) (av : List Value) : Array Value → State → Prop := va_Pc av (fun U => ((U.heap.size = sz ∧ va_P G.1 vwB (wl N ad C) U.heap ∧ KB G U ∧ va_D (fun _ => True) (wl N ad C)) ∧ VX U) ∧ ZD dz (iA N ad sz) U U.heap)
theorem iblindZ {G : iG} {N : Nat} {ad : Nat → Nat} {C : Nat → va_E} {dz sz : Nat} {av : List Value} : FrameBlind (iPreZ G N ad C dz sz av) := fun a U g mk q => by
  obtain ⟨q0, ⟨⟨q1, q2, qK, qD⟩, qV⟩, qZ⟩ := q
  exact ⟨q0, ⟨⟨q1, q2, ⟨va_K.moved (u := U) (U := U.calling g mk a) (Vm.Alike.refl U.vm) qK.1, NW_same (u := U) (U := U.calling g mk a) rfl qK.2⟩, qD⟩, VX_same (u := U) (U := U.calling g mk a) rfl qV⟩, va_Z.moved (u := U) (U := U.calling g mk a) (Vm.Alike.refl U.vm) qZ.1, va_T.moved (u := U) (U := U.calling g mk a) (Vm.Alike.refl U.vm) qZ.2.1, va_Nw.same (u := U) (U := U.calling g mk a) rfl rfl qZ.2.2⟩
theorem iPSZ {G : iG} {N : Nat} {ad : Nat → Nat} {C : Nat → va_E} {dz : Nat} {s : State} {H : Heap} {locs : List Loc} {A : Nat → Prop} (hK : KB G s) (hV : VX s) (hZ : ZD dz A s s.heap) (hS : va_S A s.heap H locs) (hA : ∀ q, s.heap.size ≤ q → A q) (hP : va_P G.1 vwB (wl N ad C) H) (hD : va_D A (wl N ad C)) (As : List Value) : PreS s H (iPreZ G N ad C dz H.size As) As := ⟨iblindZ, fun U hU hW => ⟨rfl, ⟨⟨by rw [hU], by rw [hU]; exact hP, KB_warm hW hK, hD.weaken (fun _ _ _ _ => trivial)⟩, VX_warm hW hV⟩, by rw [hU]; exact hZ.fit hW (fun a h1 h2 => hS.2.1 a h1 h2) (iA_free hD hS hA)⟩⟩
theorem iPVZ {G : iG} {N : Nat} {ad : Nat → Nat} {C : Nat → va_E} {dz : Nat} {s : State} {H : Heap} {locs : List Loc} {A : Nat → Prop} (hK : KB G s) (hV : VX s) (hZ : ZD dz A s s.heap) (hS : va_S A s.heap H locs) (hA : ∀ q, s.heap.size ≤ q → A q) (hP : va_P G.1 vwB (wl N ad C) H) (hD : va_D A (wl N ad C)) {j ci : Nat} {q : vw_C} {fs : List Value} (hj : j < N) (hc : C j = ob ci fs) (hq : vwB[ci]? = some q) (As : List Value) : PreV s H q.1 (ad j) (iPreZ G N ad C dz H.size (.ref (ad j) :: As)) As := ⟨iblindZ, va_recv hK.1 hP hq (wl_get hj hc), fun U hU hW => ⟨rfl, ⟨⟨by rw [hU], by rw [hU]; exact hP, KB_warm hW hK, hD.weaken (fun _ _ _ _ => trivial)⟩, VX_warm hW hV⟩, by rw [hU]; exact hZ.fit hW (fun a h1 h2 => hS.2.1 a h1 h2) (iA_free hD hS hA)⟩⟩
section IWZ
variable {p : Program} {l : Launch} {e : Env} {R : Room} {s : State} {m : MethodId} {args : Array Value} {below : List Frame} {meth : Method} {c : Code} {H : Heap} {locs : List Loc} {cells slots : Nat} {Q : State → Prop}
variable {pc : Nat} {ls : Array Slot} {rest st0 : List Value} {a : Array Value} {A : Nat → Prop} {H0 : Heap} {G : iG} {N : Nat} {ad : Nat → Nat} {C : Nat → va_E}
theorem iwg_r {post : iU → Prop} {N' k mc ms : Nat} (hr : va_Run p l e R s m args below meth c H locs cells slots mc ms (F0 m pc ls st0) rest (va_Qr post (fun u a t => iB2 G N' (iA N ad H.size) u t ∧ a = u.1 k) (iA N ad H.size) a) (iA N ad H.size)) (hD : va_D A (wl N ad C)) (hS : va_S A H0 H locs) (hA : ∀ q, H0.size ≤ q → A q)
    (kk : ∀ (ad1 : Nat → Nat) (C1 : Nat → va_E) (H1 : Heap) (locs1 : List Loc), post (ad1, C1) → va_P G.1 vwB (wl N' ad1 C1) H1 → va_D A (wl N' ad1 C1) → va_S A H0 H1 locs1 → W p l e R s m args below meth c H1 locs1 (cells + mc) (slots + ms) Q (F0 m (pc + 3) ls (.ref (ad1 k) :: rest))) : W p l e R s m args below meth c H locs cells slots Q (F0 m pc ls st0) :=
  va_callr hr hS (fun q _ h => iA_free hD hS hA q h) (iA_free hD hS hA) (fun u ra t H1 locs1 ht hvm hw hB hz1 hk1 hS9 => by
    obtain ⟨hB1, rfl⟩ := hB
    exact kk u.1 u.2 H1 locs1 hw (by rw [← ht]; exact hB1.1) (hB1.2.weaken (fun _ _ _ h => iA_free hD hS hA _ h)) hS9)
theorem iwg5_i {post : Int32 → iU → Prop} {N' mc ms : Nat} (hr : va_Run5 p l e R s m args below meth c H locs cells slots mc ms (F0 m pc ls st0) rest (va_Qi post (iB2 G N' (iA N ad H.size)) (iA N ad H.size) a) (iA N ad H.size)) (hD : va_D A (wl N ad C)) (hS : va_S A H0 H locs) (hA : ∀ q, H0.size ≤ q → A q)
    (kk : ∀ (r : Int32) (ad1 : Nat → Nat) (C1 : Nat → va_E) (H1 : Heap) (locs1 : List Loc), post r (ad1, C1) → va_P G.1 vwB (wl N' ad1 C1) H1 → va_D A (wl N' ad1 C1) → va_S A H0 H1 locs1 → W p l e R s m args below meth c H1 locs1 (cells + mc) (slots + ms) Q (F0 m (pc + 5) ls (.int r :: rest))) : W p l e R s m args below meth c H locs cells slots Q (F0 m pc ls st0) :=
  va_callFi hr hS (fun q _ h => iA_free hD hS hA q h) (iA_free hD hS hA) (fun r u t H1 locs1 ht hvm hw hB hz1 hk1 hS9 => kk r u.1 u.2 H1 locs1 hw (by rw [← ht]; exact hB.1) (hB.2.weaken (fun _ _ _ h => iA_free hD hS hA _ h)) hS9)
theorem iw_aastO {cc : ByteArray} (hexec : p.tables.exec = Jvm.exec) (hb : c.code = cc) {t ci : Nat} {r : vw_C} {E : String} (hK : KB G s) (ht : (iT G)[t]? = some (G.2 t, .object E)) (hca : va_Nw (.castable r.1 E) s) (hP : va_P G.1 vwB (wl N ad C) H) (hD : va_D A (wl N ad C)) (hS : va_S A H0 H locs) {j n jv : Nat} {f : Nat → Option Nat} {vs : List Value} (hj : j < N) (hc : C j = ra G t n f) (hv : jv < N) (hcv : C jv = ob ci vs) (hr : vwB[ci]? = some r) {i : Int32} {k : Nat} (hin : vp_in i n) (hk : i.toNatClampNeg = k) (hdg : decode cc pc = .ok (.aastore, 1))
    (kk : ∀ (H1 : Heap) (locs1 : List Loc), va_P G.1 vwB (wl N ad (va_up C j (ra G t n (va_up f k (some (ad jv)))))) H1 → va_D A (wl N ad (va_up C j (ra G t n (va_up f k (some (ad jv)))))) → va_S A H0 H1 locs1 → W p l e R s m args below meth c H1 locs1 cells slots Q (F0 m (pc + 1) ls rest)) : W p l e R s m args below meth c H locs cells slots Q (F0 m pc ls (.ref (ad jv) :: .int i :: .ref (ad j) :: rest)) := by
  subst hk
  exact va_astqO hexec hb hK.1 hP hD hS j t jv ci (wl_get hj hc) ht hca (wl_get hv hcv) hr hin hdg (fun H1 locs1 h1 h2 h3 => kk H1 locs1 (by rw [← wl_set hj]; exact h1) (by rw [← wl_set hj]; exact h2) h3)
end IWZ
abbrev rmJxa1e45_init_da8c8 : Room := { frames := 1, cells := 0, slots := 0, locals := 12 }
set_option maxRecDepth 20000 in
theorem il_Jxa1e45_init_da8c8_1 : (Cond.methodLink RJxa1e45 1 objectInit) ∈ wsJxa1e45_init_da8c8 := by decide +kernel
set_option maxRecDepth 20000 in
theorem il_Jxa1e45_init_da8c8_imobj : (Cond.instanceMethod objectInit) ∈ wsJxa1e45_init_da8c8 := by decide +kernel
set_option maxRecDepth 20000 in
theorem il_Jxa1e45_init_da8c8_codeobj : (Cond.code objectInit ⟨#[0xb1]⟩ 1 none) ∈ wsJxa1e45_init_da8c8 := by decide +kernel
set_option maxHeartbeats 4000000 in
set_option maxRecDepth 100000 in
theorem kJxa1e45_init_da8c8 (l : Launch) (G : iG) (N : Nat) (ad : Nat → Nat) (C : Nat → va_E) (a : Nat) (sz : Nat) : Met l yJxa1e45_init_da8c8 wsJxa1e45_init_da8c8 rmJxa1e45_init_da8c8 (iPre G N ad C sz [.ref (ad a)]) (va_Qv (fun (u : Nat → va_E) => u = C) (iB G N ad) (iA N ad sz)) 0 0 (iA N ad sz) := by
  refine Met.ofW (cc := cJxa1e45_init_da8c8) (maxL := 1) (ret := none) (by decide) rfl ?_
  intro p e s m args below meth c s₁ B hml hv
  obtain ⟨rfl, hsz, hP, hK, hD0⟩ := hv
  have hx := B.exec
  have hb := B.bytes
  have hr := B.returns
  have hts := atoms_spec (ws := wsJxa1e45_init_da8c8) B.pre
  have hown : s.vm.findClass RJxa1e45 = some m.cls := findClass_of_methodNamed B.named
  have hlocks := B.notSynchronized
  subst hsz
  have hD := wl_self hD0 s.heap.size
  have hA : ∀ q : Nat, s.heap.size ≤ q → iA N ad s.heap.size q := fun q h => Or.inr h
  have hS : va_S (iA N ad s.heap.size) s.heap s.heap [] := va_S.rf
  have hP : va_P G.1 vwB (wl N ad C) s.heap := hP
  have hl := lv_entry ([.ref (ad a)]) (n := 1) (Nat.le_of_ble_eq_true rfl)
  rw [lg_entry_eq]
  generalize (lg_sl ([.ref (ad a)]) ++ List.replicate (1 - (lg_sl ([.ref (ad a)])).length) Slot.unset).toArray = ls at hl ⊢
  have hl : lv_has ls 1 [(0, .ref (ad a))] := hl
  refine lv_aload_n hx hb dJxa1e45_init_da8c8_0 rfl (lv_at hl 0 rfl) ?_
  refine W.objInit hx hb hown (hts _ il_Jxa1e45_init_da8c8_1) (hts _ il_Jxa1e45_init_da8c8_imobj) (hts _ il_Jxa1e45_init_da8c8_codeobj) rfl (by rw [hml]; exact hl.1) rfl dJxa1e45_init_da8c8_1 (Nat.le_of_ble_eq_true rfl) (Nat.le_of_ble_eq_true rfl) ?_
  refine W.eq (g2 := F0 m 4 ls []) rfl ?_
  exact W.vret hx hb hr (fun t ht hW => ⟨⟨_, rfl, rfl, iB_of ht hP⟩, hS.F ht⟩) hS.2.2 dJxa1e45_init_da8c8_4
abbrev rmJxc12de_init_da8c8 : Room := { frames := 2, cells := 0, slots := 0, locals := 32 }
set_option maxRecDepth 20000 in
theorem il_Jxc12de_init_da8c8_iniJxa1e45 : (Cond.initialized RJxa1e45) ∈ wsJxc12de_init_da8c8 := by decide +kernel
set_option maxRecDepth 20000 in
theorem il_Jxc12de_init_da8c8_im_Jxa1e45_init_da8c8 : (Cond.instanceMethod yJxa1e45_init_da8c8) ∈ wsJxc12de_init_da8c8 := by decide +kernel
set_option maxRecDepth 20000 in
theorem il_Jxc12de_init_da8c8_1 : (Cond.methodLink RJxc12de 1 yJxa1e45_init_da8c8) ∈ wsJxc12de_init_da8c8 := by decide +kernel
set_option maxRecDepth 20000 in
theorem il_Jxc12de_init_da8c8_7 : (Cond.fieldLink RJxc12de 7 "java/util/AbstractList" "modCount" "I") ∈ wsJxc12de_init_da8c8 := by decide +kernel
set_option maxRecDepth 20000 in
theorem iu_Jxc12de_init_da8c8_Jx4a65c : ∀ w ∈ u_ws RJx4a65c TJx4a65c 3, w ∈ wsJxc12de_init_da8c8 := by decide +kernel
set_option maxHeartbeats 4000000 in
set_option maxRecDepth 100000 in
theorem kJxc12de_init_da8c8 (l : Launch) (G : iG) (N : Nat) (ad : Nat → Nat) (C : Nat → va_E) (a : Nat) (la9 : a < N) (ga : C a = ob 10 [.int (nI 0), .null, .int (nI 0)]) (sz : Nat) : Met l yJxc12de_init_da8c8 wsJxc12de_init_da8c8 rmJxc12de_init_da8c8 (iPre G N ad C sz [.ref (ad a)]) (va_Qv (fun (u : Nat → va_E) => u = C) (iB G N ad) (iA N ad sz)) 0 0 (iA N ad sz) := by
  refine Met.ofW (cc := cJxc12de_init_da8c8) (maxL := 1) (ret := none) (by decide) rfl ?_
  intro p e s m args below meth c s₁ B hml hv
  obtain ⟨rfl, hsz, hP, hK, hD0⟩ := hv
  have hx := B.exec
  have hb := B.bytes
  have hr := B.returns
  have hts := atoms_spec (ws := wsJxc12de_init_da8c8) B.pre
  have hown : s.vm.findClass RJxc12de = some m.cls := findClass_of_methodNamed B.named
  have hlocks := B.notSynchronized
  subst hsz
  have hD := wl_self hD0 s.heap.size
  have hA : ∀ q : Nat, s.heap.size ≤ q → iA N ad s.heap.size q := fun q h => Or.inr h
  have hS : va_S (iA N ad s.heap.size) s.heap s.heap [] := va_S.rf
  have hP : va_P G.1 vwB (wl N ad C) s.heap := hP
  have hl := lv_entry ([.ref (ad a)]) (n := 1) (Nat.le_of_ble_eq_true rfl)
  rw [lg_entry_eq]
  generalize (lg_sl ([.ref (ad a)]) ++ List.replicate (1 - (lg_sl ([.ref (ad a)])).length) Slot.unset).toArray = ls at hl ⊢
  have hl : lv_has ls 1 [(0, .ref (ad a))] := hl
  refine lv_aload_n hx hb dJxc12de_init_da8c8_0 rfl (lv_at hl 0 rfl) ?_
  refine iw_v (va_runI (As := []) (rest := []) ⟨hx, hb, hml, hown, hts⟩ (kJxa1e45_init_da8c8 l G N ad _ a _) (cwI 0 hts gJxc12de_init_da8c8_Jxa1e45_init_da8c8 rfl rfl rfl (hts _ il_Jxc12de_init_da8c8_iniJxa1e45) (hts _ il_Jxc12de_init_da8c8_1) (hts _ il_Jxc12de_init_da8c8_im_Jxa1e45_init_da8c8) rfl (by decide +kernel) ⟨Nat.le_of_ble_eq_true rfl, Nat.le_of_ble_eq_true rfl⟩) (iPS hK hP hD [.ref (ad a)]) rfl rfl hl.1 rfl (lv_room (Nat.le_of_ble_eq_true rfl)) dJxc12de_init_da8c8_1 ⟨Nat.le_of_ble_eq_true rfl, Nat.le_of_ble_eq_true rfl⟩) hD hS hA (fun u8 H locs hw8 hP hD hS => ?_)
  rw [hw8] at hP hD
  refine lv_aload_n hx hb dJxc12de_init_da8c8_4 rfl (lv_at hl 0 rfl) ?_
  refine lv_iconst (v := nI 0) hx hb dJxc12de_init_da8c8_5 (by decide) ?_
  refine iw_put (ty := .int) hx hb hts iu_Jxc12de_init_da8c8_Jx4a65c tyJx4a65c tyJx4a65c_ok nmJx4a65c hown hK hP hD hS (by omega) (ga) rfl 0 (by decide) (hts _ il_Jxc12de_init_da8c8_7) (fun _ h9 => h9) rfl (by decide +kernel) rfl rfl (Nat.le_of_ble_eq_true rfl) rfl dJxc12de_init_da8c8_6 (fun H locs hP hD hS => ?_)
  exact W.vret hx hb hr (fun t ht hW => ⟨⟨_, rfl, (va_self C ga), iB_of ht hP⟩, hS.F ht⟩) hS.2.2 dJxc12de_init_da8c8_9
abbrev rmJx4a65c_init_da8c8 : Room := { frames := 3, cells := 0, slots := 0, locals := 52 }
set_option maxRecDepth 20000 in
theorem il_Jx4a65c_init_da8c8_iniJxc12de : (Cond.initialized RJxc12de) ∈ wsJx4a65c_init_da8c8 := by decide +kernel
set_option maxRecDepth 20000 in
theorem il_Jx4a65c_init_da8c8_im_Jxc12de_init_da8c8 : (Cond.instanceMethod yJxc12de_init_da8c8) ∈ wsJx4a65c_init_da8c8 := by decide +kernel
set_option maxRecDepth 20000 in
theorem il_Jx4a65c_init_da8c8_1 : (Cond.methodLink RJx4a65c 1 yJxc12de_init_da8c8) ∈ wsJx4a65c_init_da8c8 := by decide +kernel
set_option maxRecDepth 20000 in
theorem il_Jx4a65c_init_da8c8_39 : (Cond.fieldLink RJx4a65c 39 "java/util/ArrayList" "DEFAULTCAPACITY_EMPTY_ELEMENTDATA" "[Ljava/lang/Object;") ∈ wsJx4a65c_init_da8c8 := by decide +kernel
set_option maxRecDepth 20000 in
theorem il_Jx4a65c_init_da8c8_9 : (Cond.fieldLink RJx4a65c 9 "java/util/ArrayList" "elementData" "[Ljava/lang/Object;") ∈ wsJx4a65c_init_da8c8 := by decide +kernel
set_option maxRecDepth 20000 in
theorem iu_Jx4a65c_init_da8c8_Jx4a65c : ∀ w ∈ u_ws RJx4a65c TJx4a65c 3, w ∈ wsJx4a65c_init_da8c8 := by decide +kernel
set_option maxHeartbeats 4000000 in
set_option maxRecDepth 100000 in
theorem kJx4a65c_init_da8c8 (l : Launch) (G : iG) (N : Nat) (ad : Nat → Nat) (C : Nat → va_E) (a dz : Nat) (la9 : a < N) (ga : C a = ob 10 [.int (nI 0), .null, .int (nI 0)]) (sz : Nat) : Met l yJx4a65c_init_da8c8 wsJx4a65c_init_da8c8 rmJx4a65c_init_da8c8 (iPreZ G (N) ad C dz sz [.ref (ad a)]) (va_Qv (fun (u : iU) => (∀ j, j < N → u.1 j = ad j) ∧ (∀ j, j < N → j ≠ a → u.2 j = C j) ∧ u.2 a = ob 10 [.int (nI 0), .ref dz, .int (nI 0)]) (iB2 G (N) (iA (N) ad sz)) (iA (N) ad sz)) 0 0 (iA (N) ad sz) := by
  refine Met.ofW (cc := cJx4a65c_init_da8c8) (maxL := 1) (ret := none) (by decide) rfl ?_
  intro p e s m args below meth c s₁ B hml hv
  obtain ⟨rfl, ⟨⟨hsz, hP, hK, hD0⟩, hV⟩, hZ⟩ := hv
  have hx := B.exec
  have hb := B.bytes
  have hr := B.returns
  have hts := atoms_spec (ws := wsJx4a65c_init_da8c8) B.pre
  have hown : s.vm.findClass RJx4a65c = some m.cls := findClass_of_methodNamed B.named
  have hlocks := B.notSynchronized
  have hin : meth.name = "<init>" := (name_of_methodNamed B.named B.method).1
  subst hsz
  have hD := wl_self hD0 s.heap.size
  have hA : ∀ q : Nat, s.heap.size ≤ q → iA (N) ad s.heap.size q := fun q h => Or.inr h
  have hS : va_S (iA (N) ad s.heap.size) s.heap s.heap [] := va_S.rf
  have hP : va_P G.1 vwB (wl (N) ad C) s.heap := hP
  have hl := lv_entry ([.ref (ad a)]) (n := 1) (Nat.le_of_ble_eq_true rfl)
  rw [lg_entry_eq]
  generalize (lg_sl ([.ref (ad a)]) ++ List.replicate (1 - (lg_sl ([.ref (ad a)])).length) Slot.unset).toArray = ls at hl ⊢
  have hl : lv_has ls 1 [(0, .ref (ad a))] := hl
  refine lv_aload_n hx hb dJx4a65c_init_da8c8_0 rfl (lv_at hl 0 rfl) ?_
  refine iw_v (va_runI (As := []) (rest := []) ⟨hx, hb, hml, hown, hts⟩ (kJxc12de_init_da8c8 l G N ad _ a la9 ga _) (cwI 0 hts gJx4a65c_init_da8c8_Jxc12de_init_da8c8 rfl rfl rfl (hts _ il_Jx4a65c_init_da8c8_iniJxc12de) (hts _ il_Jx4a65c_init_da8c8_1) (hts _ il_Jx4a65c_init_da8c8_im_Jxc12de_init_da8c8) rfl (by decide +kernel) ⟨Nat.le_of_ble_eq_true rfl, Nat.le_of_ble_eq_true rfl⟩) (iPS hK hP hD [.ref (ad a)]) rfl rfl hl.1 rfl (lv_room (Nat.le_of_ble_eq_true rfl)) dJx4a65c_init_da8c8_1 ⟨Nat.le_of_ble_eq_true rfl, Nat.le_of_ble_eq_true rfl⟩) hD hS hA (fun u8 H locs hw8 hP hD hS => ?_)
  rw [hw8] at hP hD
  refine lv_aload_n hx hb dJx4a65c_init_da8c8_4 rfl (lv_at hl 0 rfl) ?_
  refine va_gets hx hb hZ.1 hS hown (hts _ il_Jx4a65c_init_da8c8_39) (fun _ h9 => h9) dJx4a65c_init_da8c8_5 ?_
  refine iw_put (ty := .array (.object "java/lang/Object")) hx hb hts iu_Jx4a65c_init_da8c8_Jx4a65c tyJx4a65c tyJx4a65c_ok nmJx4a65c hown hK hP hD hS (by omega) (ga) rfl 1 (by decide) (hts _ il_Jx4a65c_init_da8c8_9) (fun _ h9 => h9) rfl (by decide +kernel) rfl rfl (Nat.le_of_ble_eq_true rfl) rfl dJx4a65c_init_da8c8_8 (fun H locs hP hD hS => ?_)
  refine W.widen (k := 0) (n := 0) (Nat.le_of_ble_eq_true rfl) (Nat.le_of_ble_eq_true rfl) ?_
  exact W.vret hx hb hr (fun t ht hW => ⟨⟨(ad, va_up C a (ob 10 [.int (nI 0), .ref dz, .int (nI 0)])), rfl, ⟨fun j h => rfl, fun j h hx9 => (va_un _ _ (by omega)).trans (rfl), va_us _ _ _⟩, ⟨by rw [ht]; exact hP, hD⟩⟩, hS.F ht⟩) hS.2.2 dJx4a65c_init_da8c8_11
abbrev rmX7_init : Room := { frames := 4, cells := 1, slots := 3, locals := 72 }
set_option maxRecDepth 20000 in
theorem il_X7_init_3 : (Cond.methodLink RX7 3 objectInit) ∈ wsX7_init := by decide +kernel
set_option maxRecDepth 20000 in
theorem il_X7_init_imobj : (Cond.instanceMethod objectInit) ∈ wsX7_init := by decide +kernel
set_option maxRecDepth 20000 in
theorem il_X7_init_codeobj : (Cond.code objectInit ⟨#[0xb1]⟩ 1 none) ∈ wsX7_init := by decide +kernel
set_option maxRecDepth 20000 in
theorem il_X7_init_9 : (Cond.classLink RX7 9 RJx4a65c) ∈ wsX7_init := by decide +kernel
set_option maxRecDepth 20000 in
theorem il_X7_init_instJx4a65c : (Cond.instantiable RJx4a65c 3) ∈ wsX7_init := by decide +kernel
set_option maxRecDepth 20000 in
theorem il_X7_init_iniJx4a65c : (Cond.initialized RJx4a65c) ∈ wsX7_init := by decide +kernel
set_option maxRecDepth 20000 in
theorem iu_X7_init_Jx4a65c : ∀ w ∈ u_ws RJx4a65c TJx4a65c 3, w ∈ wsX7_init := by decide +kernel
set_option maxRecDepth 20000 in
theorem il_X7_init_im_Jx4a65c_init_da8c8 : (Cond.instanceMethod yJx4a65c_init_da8c8) ∈ wsX7_init := by decide +kernel
set_option maxRecDepth 20000 in
theorem il_X7_init_11 : (Cond.methodLink RX7 11 yJx4a65c_init_da8c8) ∈ wsX7_init := by decide +kernel
set_option maxRecDepth 20000 in
theorem il_X7_init_12 : (Cond.fieldLink RX7 12 "BayerGateModel$Frame" "edits" "Ljava/util/List;") ∈ wsX7_init := by decide +kernel
set_option maxRecDepth 20000 in
theorem iu_X7_init_7 : ∀ w ∈ u_ws RX7 TX7 5, w ∈ wsX7_init := by decide +kernel
set_option maxRecDepth 20000 in
theorem il_X7_init_18 : (Cond.fieldLink RX7 18 "BayerGateModel$Frame" "time" "I") ∈ wsX7_init := by decide +kernel
set_option maxRecDepth 20000 in
theorem il_X7_init_22 : (Cond.fieldLink RX7 22 "BayerGateModel$Frame" "gain" "I") ∈ wsX7_init := by decide +kernel
set_option maxRecDepth 20000 in
theorem il_X7_init_25 : (Cond.fieldLink RX7 25 "BayerGateModel$Frame" "raw" "[I") ∈ wsX7_init := by decide +kernel
set_option maxHeartbeats 4000000 in
set_option maxRecDepth 100000 in
theorem kX7_init (l : Launch) (G : iG) (N : Nat) (ad : Nat → Nat) (C : Nat → va_E) (dz : Nat) (h0 : C N = ob 7 [.int (nI 0), .int (nI 0), .null, .int (nI 0), .null]) (t1 g1 : Int32) (rj : Nat) (hrj : rj < N) (sz : Nat) : Met l yX7_init wsX7_init rmX7_init (iPreZ G (N + 1) ad C dz sz [.ref (ad N), .int t1, .int g1, .ref (ad rj)]) (va_Qv (fun (u : iU) => (∀ j, j < N + 1 → u.1 j = ad j) ∧ (∀ j, j < N → u.2 j = C j) ∧ u.2 N = ob 7 [.int t1, .int g1, .ref (u.1 rj), .int (nI 0), .ref (u.1 (N + 1))]) (iB2 G (N + 2) (iA (N + 1) ad sz)) (iA (N + 1) ad sz)) 1 3 (iA (N + 1) ad sz) := by
  refine Met.ofW (cc := cX7_init) (maxL := 4) (ret := none) (by decide) rfl ?_
  intro p e s m args below meth c s₁ B hml hv
  obtain ⟨rfl, ⟨⟨hsz, hP, hK, hD0⟩, hV⟩, hZ⟩ := hv
  have hx := B.exec
  have hb := B.bytes
  have hr := B.returns
  have hts := atoms_spec (ws := wsX7_init) B.pre
  have hown : s.vm.findClass RX7 = some m.cls := findClass_of_methodNamed B.named
  have hlocks := B.notSynchronized
  have hin : meth.name = "<init>" := (name_of_methodNamed B.named B.method).1
  subst hsz
  have hD := wl_self hD0 s.heap.size
  have hA : ∀ q : Nat, s.heap.size ≤ q → iA (N + 1) ad s.heap.size q := fun q h => Or.inr h
  have hS : va_S (iA (N + 1) ad s.heap.size) s.heap s.heap [] := va_S.rf
  have hP : va_P G.1 vwB (wl (N + 1) ad C) s.heap := hP
  have hl := lv_entry ([.ref (ad N), .int t1, .int g1, .ref (ad rj)]) (n := 4) (Nat.le_of_ble_eq_true rfl)
  rw [lg_entry_eq]
  generalize (lg_sl ([.ref (ad N), .int t1, .int g1, .ref (ad rj)]) ++ List.replicate (4 - (lg_sl ([.ref (ad N), .int t1, .int g1, .ref (ad rj)])).length) Slot.unset).toArray = ls at hl ⊢
  have hl : lv_has ls 4 [(0, .ref (ad N)), (1, .int t1), (2, .int g1), (3, .ref (ad rj))] := hl
  refine lv_aload_n hx hb dX7_init_0 rfl (lv_at hl 0 rfl) ?_
  refine W.objInit hx hb hown (hts _ il_X7_init_3) (hts _ il_X7_init_imobj) (hts _ il_X7_init_codeobj) rfl (by rw [hml]; exact hl.1) rfl dX7_init_1 (Nat.le_of_ble_eq_true rfl) (Nat.le_of_ble_eq_true rfl) ?_
  refine W.eq (g2 := F0 m 4 ls []) rfl ?_
  refine lv_aload_n hx hb dX7_init_4 rfl (lv_at hl 0 rfl) ?_
  refine iw_new (ci := 10) (fs := [.int (nI 0), .null, .int (nI 0)]) (T := TJx4a65c) (n := 3) hx hb hts iu_X7_init_Jx4a65c tyJx4a65c tyJx4a65c_ok hown (hts _ il_X7_init_9) (hts _ il_X7_init_instJx4a65c) (hts _ il_X7_init_iniJx4a65c) hK hP hD hS hA rfl (fun j hj => by rcases (show j = 0 ∨ j = 1 ∨ j = 2 by omega) with rfl | rfl | rfl <;> rfl) (Nat.le_of_ble_eq_true rfl) (Nat.le_of_ble_eq_true rfl) dX7_init_5 (fun ad1 C1 H e1 c1 n1 hP hD hS => ?_)
  have k1_N : C1 N = ob 7 [.int (nI 0), .int (nI 0), .null, .int (nI 0), .null] := (c1 _ (by omega)).trans (h0)
  have ea1 : ∀ j, j < N + 1 → ad1 j = ad j := fun j h => e1 j (by omega)
  have ca1 : ∀ j, j < N → C1 j = C j := fun j h => (c1 j (by omega)).trans (rfl)
  have hl : lv_has ls 4 [(0, .ref (ad1 N)), (1, .int t1), (2, .int g1), (3, .ref (ad1 rj))] := by rw [e1 N (by omega), e1 rj (by omega)]; exact hl
  refine W.eq (g2 := F0 m 8 ls [.ref (ad1 (N + 1)), .ref (ad1 N)]) (by first | (rw [e1 N (by omega)]; done) | (rw [e1 N (by omega)]; rfl)) ?_
  refine lv_dup hx hb dX7_init_8 rfl ?_
  refine iwg_v (va_runI (As := []) (rest := [.ref (ad1 (N + 1)), .ref (ad1 N)]) ⟨hx, hb, hml, hown, hts⟩ (kJx4a65c_init_da8c8 l G (N + 2) ad1 _ (N + 1) dz (by omega) (n1) _) (cwI 0 hts gX7_init_Jx4a65c_init_da8c8 rfl rfl rfl (hts _ il_X7_init_iniJx4a65c) (hts _ il_X7_init_11) (hts _ il_X7_init_im_Jx4a65c_init_da8c8) rfl (by decide +kernel) ⟨Nat.le_of_ble_eq_true rfl, Nat.le_of_ble_eq_true rfl⟩) (iPSZ hK hV hZ hS hA hP hD [.ref (ad1 (N + 1))])  rfl rfl hl.1 rfl (lv_room (Nat.le_of_ble_eq_true rfl)) dX7_init_9 ⟨Nat.le_of_ble_eq_true rfl, Nat.le_of_ble_eq_true rfl⟩) hD hS hA (fun ad2 C2 H locs hw8 hP hD hS => ?_)
  dsimp only at hw8
  obtain ⟨e2, c2, q2_l⟩ := hw8
  have k2_N : C2 N = ob 7 [.int (nI 0), .int (nI 0), .null, .int (nI 0), .null] := (c2 _ (by omega) (by omega)).trans (k1_N)
  have ea2 : ∀ j, j < N + 1 → ad2 j = ad j := fun j h => (e2 j (by omega)).trans (ea1 j h)
  have ca2 : ∀ j, j < N → C2 j = C j := fun j h => (c2 j (by omega) (by omega)).trans (ca1 j h)
  have hl : lv_has ls 4 [(0, .ref (ad2 N)), (1, .int t1), (2, .int g1), (3, .ref (ad2 rj))] := by rw [e2 N (by omega), e2 rj (by omega)]; exact hl
  refine W.eq (g2 := F0 m 12 ls [.ref (ad2 (N + 1)), .ref (ad2 N)]) (by first | (rw [e2 N (by omega), e2 (N + 1) (by omega)]; done) | (rw [e2 N (by omega), e2 (N + 1) (by omega)]; rfl)) ?_
  refine iw_putF (ty := .object "java/util/List") hx hb hts iu_X7_init_7 tyX7 tyX7_ok nmX7 hown hK hP hD hS (by omega) (k2_N) rfl 4 (by decide) (hts _ il_X7_init_12) (fun _ h9 => h9) rfl hin rfl (by decide +kernel) rfl rfl (Nat.le_of_ble_eq_true rfl) rfl dX7_init_12 (fun H locs hP hD hS => ?_)
  refine lv_aload_n hx hb dX7_init_15 rfl (lv_at hl 0 rfl) ?_
  refine lv_iload_n hx hb dX7_init_16 rfl (lv_at hl 1 rfl) ?_
  refine iw_putF (ty := .int) hx hb hts iu_X7_init_7 tyX7 tyX7_ok nmX7 hown hK hP hD hS (by omega) (va_us _ _ _) rfl 0 (by decide) (hts _ il_X7_init_18) (fun _ h9 => h9) rfl hin rfl (by decide +kernel) rfl rfl (Nat.le_of_ble_eq_true rfl) rfl dX7_init_17 (fun H locs hP hD hS => ?_)
  rw [va_uu _ _ _ _] at hP hD
  refine lv_aload_n hx hb dX7_init_20 rfl (lv_at hl 0 rfl) ?_
  refine lv_iload_n hx hb dX7_init_21 rfl (lv_at hl 2 rfl) ?_
  refine iw_putF (ty := .int) hx hb hts iu_X7_init_7 tyX7 tyX7_ok nmX7 hown hK hP hD hS (by omega) (va_us _ _ _) rfl 1 (by decide) (hts _ il_X7_init_22) (fun _ h9 => h9) rfl hin rfl (by decide +kernel) rfl rfl (Nat.le_of_ble_eq_true rfl) rfl dX7_init_22 (fun H locs hP hD hS => ?_)
  rw [va_uu _ _ _ _] at hP hD
  refine lv_aload_n hx hb dX7_init_25 rfl (lv_at hl 0 rfl) ?_
  refine lv_aload_n hx hb dX7_init_26 rfl (lv_at hl 3 rfl) ?_
  refine iw_putF (ty := .array (.int)) hx hb hts iu_X7_init_7 tyX7 tyX7_ok nmX7 hown hK hP hD hS (by omega) (va_us _ _ _) rfl 2 (by decide) (hts _ il_X7_init_25) (fun _ h9 => h9) rfl hin rfl (by decide +kernel) rfl rfl (Nat.le_of_ble_eq_true rfl) rfl dX7_init_27 (fun H locs hP hD hS => ?_)
  rw [va_uu _ _ _ _] at hP hD
  refine W.widen (k := 1) (n := 3) (Nat.le_of_ble_eq_true rfl) (Nat.le_of_ble_eq_true rfl) ?_
  exact W.vret hx hb hr (fun t ht hW => ⟨⟨(ad2, va_up C2 N (ob 7 [.int t1, .int g1, .ref (ad2 rj), .int (nI 0), .ref (ad2 (N + 1))])), rfl, ⟨ea2, fun j h => (va_un _ _ (by omega)).trans (ca2 j h), va_us _ _ _⟩, ⟨by rw [ht]; exact hP, hD⟩⟩, hS.F ht⟩) hS.2.2 dX7_init_30
abbrev rmX9_init : Room := { frames := 4, cells := 6, slots := 329, locals := 72 }
set_option maxRecDepth 20000 in
theorem il_X9_init_1 : (Cond.methodLink RX9 1 objectInit) ∈ wsX9_init := by decide +kernel
set_option maxRecDepth 20000 in
theorem il_X9_init_imobj : (Cond.instanceMethod objectInit) ∈ wsX9_init := by decide +kernel
set_option maxRecDepth 20000 in
theorem il_X9_init_codeobj : (Cond.code objectInit ⟨#[0xb1]⟩ 1 none) ∈ wsX9_init := by decide +kernel
set_option maxRecDepth 20000 in
theorem il_X9_init_arrint : (Cond.arrayClass .int) ∈ wsX9_init := by decide +kernel
set_option maxRecDepth 20000 in
theorem il_X9_init_9 : (Cond.fieldLink RX9 9 "BayerGateModel" "scene" "[I") ∈ wsX9_init := by decide +kernel
set_option maxRecDepth 20000 in
theorem iu_X9_init_9 : ∀ w ∈ u_ws RX9 TX9 8, w ∈ wsX9_init := by decide +kernel
set_option maxRecDepth 20000 in
theorem il_X9_init_13 : (Cond.fieldLink RX9 13 "BayerGateModel" "quarters" "[I") ∈ wsX9_init := by decide +kernel
set_option maxRecDepth 20000 in
theorem il_X9_init_16 : (Cond.fieldLink RX9 16 "BayerGateModel" "how" "[I") ∈ wsX9_init := by decide +kernel
set_option maxRecDepth 20000 in
theorem il_X9_init_arrboolean : (Cond.arrayClass .boolean) ∈ wsX9_init := by decide +kernel
set_option maxRecDepth 20000 in
theorem il_X9_init_19 : (Cond.fieldLink RX9 19 "BayerGateModel" "isMapped" "[Z") ∈ wsX9_init := by decide +kernel
set_option maxRecDepth 20000 in
theorem il_X9_init_23 : (Cond.classLink RX9 23 RJx4a65c) ∈ wsX9_init := by decide +kernel
set_option maxRecDepth 20000 in
theorem il_X9_init_instJx4a65c : (Cond.instantiable RJx4a65c 3) ∈ wsX9_init := by decide +kernel
set_option maxRecDepth 20000 in
theorem il_X9_init_iniJx4a65c : (Cond.initialized RJx4a65c) ∈ wsX9_init := by decide +kernel
set_option maxRecDepth 20000 in
theorem iu_X9_init_Jx4a65c : ∀ w ∈ u_ws RJx4a65c TJx4a65c 3, w ∈ wsX9_init := by decide +kernel
set_option maxRecDepth 20000 in
theorem il_X9_init_im_Jx4a65c_init_da8c8 : (Cond.instanceMethod yJx4a65c_init_da8c8) ∈ wsX9_init := by decide +kernel
set_option maxRecDepth 20000 in
theorem il_X9_init_25 : (Cond.methodLink RX9 25 yJx4a65c_init_da8c8) ∈ wsX9_init := by decide +kernel
set_option maxRecDepth 20000 in
theorem il_X9_init_26 : (Cond.fieldLink RX9 26 "BayerGateModel" "frames" "Ljava/util/List;") ∈ wsX9_init := by decide +kernel
set_option maxRecDepth 20000 in
theorem il_X9_init_30 : (Cond.fieldLink RX9 30 "BayerGateModel" "files" "Ljava/util/List;") ∈ wsX9_init := by decide +kernel
set_option maxHeartbeats 4000000 in
set_option maxRecDepth 100000 in
theorem kX9_init (l : Launch) (G : iG) (N : Nat) (ad : Nat → Nat) (C : Nat → va_E) (dz : Nat) (h0 : C N = ob 9 [.int (nI 0), .null, .null, .null, .null, .int (nI 0), .null, .null]) (sz : Nat) : Met l yX9_init wsX9_init rmX9_init (iPreZ G (N + 1) ad C dz sz [.ref (ad N)]) (va_Qv (fun (u : iU) => (∀ j, j < N + 1 → u.1 j = ad j) ∧ (∀ j, j < N → u.2 j = C j) ∧ Mod G (N + 7) u.1 u.2 N dz (nI 0)) (iB2 G (N + 7) (iA (N + 1) ad sz)) (iA (N + 1) ad sz)) 6 329 (iA (N + 1) ad sz) := by
  refine Met.ofW (cc := cX9_init) (maxL := 1) (ret := none) (by decide) rfl ?_
  intro p e s m args below meth c s₁ B hml hv
  obtain ⟨rfl, ⟨⟨hsz, hP, hK, hD0⟩, hV⟩, hZ⟩ := hv
  have hx := B.exec
  have hb := B.bytes
  have hr := B.returns
  have hts := atoms_spec (ws := wsX9_init) B.pre
  have hown : s.vm.findClass RX9 = some m.cls := findClass_of_methodNamed B.named
  have hlocks := B.notSynchronized
  have hin : meth.name = "<init>" := (name_of_methodNamed B.named B.method).1
  subst hsz
  have hD := wl_self hD0 s.heap.size
  have hA : ∀ q : Nat, s.heap.size ≤ q → iA (N + 1) ad s.heap.size q := fun q h => Or.inr h
  have hS : va_S (iA (N + 1) ad s.heap.size) s.heap s.heap [] := va_S.rf
  have hP : va_P G.1 vwB (wl (N + 1) ad C) s.heap := hP
  have hl := lv_entry ([.ref (ad N)]) (n := 1) (Nat.le_of_ble_eq_true rfl)
  rw [lg_entry_eq]
  generalize (lg_sl ([.ref (ad N)]) ++ List.replicate (1 - (lg_sl ([.ref (ad N)])).length) Slot.unset).toArray = ls at hl ⊢
  have hl : lv_has ls 1 [(0, .ref (ad N))] := hl
  refine lv_aload_n hx hb dX9_init_0 rfl (lv_at hl 0 rfl) ?_
  refine W.objInit hx hb hown (hts _ il_X9_init_1) (hts _ il_X9_init_imobj) (hts _ il_X9_init_codeobj) rfl (by rw [hml]; exact hl.1) rfl dX9_init_1 (Nat.le_of_ble_eq_true rfl) (Nat.le_of_ble_eq_true rfl) ?_
  refine W.eq (g2 := F0 m 4 ls []) rfl ?_
  refine lv_aload_n hx hb dX9_init_4 rfl (lv_at hl 0 rfl) ?_
  refine lv_sipush (v := nI 192) hx hb dX9_init_5 (by decide) ?_
  refine iw_newI (N' := 192) hx hb (hts _ il_X9_init_arrint) hK hP hD hS hA (by decide) (by decide) (Nat.le_of_ble_eq_true rfl) (Nat.le_of_ble_eq_true rfl) (Nat.le_of_ble_eq_true rfl) dX9_init_8 (fun ad1 C1 H e1 c1 n1 hP hD hS => ?_)
  have k1_N : C1 N = ob 9 [.int (nI 0), .null, .null, .null, .null, .int (nI 0), .null, .null] := (c1 _ (by omega)).trans (h0)
  have ea1 : ∀ j, j < N + 1 → ad1 j = ad j := fun j h => e1 j (by omega)
  have ca1 : ∀ j, j < N → C1 j = C j := fun j h => (c1 j (by omega)).trans (rfl)
  have hl : lv_has ls 1 [(0, .ref (ad1 N))] := by rw [e1 N (by omega)]; exact hl
  refine W.eq (g2 := F0 m 10 ls [.ref (ad1 (N + 1)), .ref (ad1 N)]) (by first | (rw [e1 N (by omega)]; done) | (rw [e1 N (by omega)]; rfl)) ?_
  refine iw_putF (ty := .array (.int)) hx hb hts iu_X9_init_9 tyX9 tyX9_ok nmX9 hown hK hP hD hS (by omega) (k1_N) rfl 1 (by decide) (hts _ il_X9_init_9) (fun _ h9 => h9) rfl hin rfl (by decide +kernel) rfl rfl (Nat.le_of_ble_eq_true rfl) rfl dX9_init_10 (fun H locs hP hD hS => ?_)
  refine lv_aload_n hx hb dX9_init_13 rfl (lv_at hl 0 rfl) ?_
  refine lv_iconst (v := nI 3) hx hb dX9_init_14 (by decide) ?_
  refine iw_newI (N' := 3) hx hb (hts _ il_X9_init_arrint) hK hP hD hS hA (by decide) (by decide) (Nat.le_of_ble_eq_true rfl) (Nat.le_of_ble_eq_true rfl) (Nat.le_of_ble_eq_true rfl) dX9_init_15 (fun ad2 C2 H e2 c2 n2 hP hD hS => ?_)
  have k2_N : C2 N = ob 9 [.int (nI 0), .ref (ad2 (N + 1)), .null, .null, .null, .int (nI 0), .null, .null] := (c2 _ (by omega)).trans ((va_us _ _ _).trans (by first | (rw [e2 (N + 1) (by omega)]; done) | (rw [e2 (N + 1) (by omega)]; rfl)))
  have k2_N_1 : C2 (N + 1) = ia G 192 (fun _ => nI 0) := (c2 _ (by omega)).trans ((va_un _ _ (by omega)).trans (n1))
  have ea2 : ∀ j, j < N + 1 → ad2 j = ad j := fun j h => (e2 j (by omega)).trans (ea1 j h)
  have ca2 : ∀ j, j < N → C2 j = C j := fun j h => (c2 j (by omega)).trans ((va_un _ _ (by omega)).trans (ca1 j h))
  have hl : lv_has ls 1 [(0, .ref (ad2 N))] := by rw [e2 N (by omega)]; exact hl
  refine W.eq (g2 := F0 m 17 ls [.ref (ad2 (N + 2)), .ref (ad2 N)]) (by first | (rw [e2 N (by omega)]; done) | (rw [e2 N (by omega)]; rfl)) ?_
  refine lv_dup hx hb dX9_init_17 rfl ?_
  refine lv_iconst (v := nI 0) hx hb dX9_init_18 (by decide) ?_
  refine lv_iconst (v := nI 4) hx hb dX9_init_19 (by decide) ?_
  refine iw_iast hx hb hK hP hD hS (by omega) (n2) (vp_in_nI (show 0 < 3 by omega) (by omega)) (nI_clamp (by omega)) dX9_init_20 (fun H locs hP hD hS => ?_)
  refine lv_dup hx hb dX9_init_21 rfl ?_
  refine lv_iconst (v := nI 1) hx hb dX9_init_22 (by decide) ?_
  refine lv_iconst (v := nI 4) hx hb dX9_init_23 (by decide) ?_
  refine iw_iast hx hb hK hP hD hS (by omega) (va_us _ _ _) (vp_in_nI (show 1 < 3 by omega) (by omega)) (nI_clamp (by omega)) dX9_init_24 (fun H locs hP hD hS => ?_)
  rw [va_uu _ _ _ _] at hP hD
  refine lv_dup hx hb dX9_init_25 rfl ?_
  refine lv_iconst (v := nI 2) hx hb dX9_init_26 (by decide) ?_
  refine lv_iconst (v := nI 4) hx hb dX9_init_27 (by decide) ?_
  refine iw_iast hx hb hK hP hD hS (by omega) (va_us _ _ _) (vp_in_nI (show 2 < 3 by omega) (by omega)) (nI_clamp (by omega)) dX9_init_28 (fun H locs hP hD hS => ?_)
  rw [va_uu _ _ _ _] at hP hD
  refine iw_putF (ty := .array (.int)) hx hb hts iu_X9_init_9 tyX9 tyX9_ok nmX9 hown hK hP hD hS (by omega) ((va_un _ _ (by omega)).trans (k2_N)) rfl 2 (by decide) (hts _ il_X9_init_13) (fun _ h9 => h9) rfl hin rfl (by decide +kernel) rfl rfl (Nat.le_of_ble_eq_true rfl) rfl dX9_init_29 (fun H locs hP hD hS => ?_)
  refine lv_aload_n hx hb dX9_init_32 rfl (lv_at hl 0 rfl) ?_
  refine lv_bipush (v := nI 64) hx hb dX9_init_33 (by decide) ?_
  refine iw_newI (N' := 64) hx hb (hts _ il_X9_init_arrint) hK hP hD hS hA (by decide) (by decide) (Nat.le_of_ble_eq_true rfl) (Nat.le_of_ble_eq_true rfl) (Nat.le_of_ble_eq_true rfl) dX9_init_35 (fun ad3 C3 H e3 c3 n3 hP hD hS => ?_)
  have k3_N : C3 N = ob 9 [.int (nI 0), .ref (ad3 (N + 1)), .ref (ad3 (N + 2)), .null, .null, .int (nI 0), .null, .null] := (c3 _ (by omega)).trans ((va_us _ _ _).trans (by first | (rw [e3 (N + 1) (by omega), e3 (N + 2) (by omega)]; done) | (rw [e3 (N + 1) (by omega), e3 (N + 2) (by omega)]; rfl)))
  have k3_N_1 : C3 (N + 1) = ia G 192 (fun _ => nI 0) := (c3 _ (by omega)).trans ((va_un _ _ (by omega)).trans ((va_un _ _ (by omega)).trans (k2_N_1)))
  have k3_N_2 : C3 (N + 2) = ia G 3 (upd (upd (upd (fun _ => nI 0) 0 (nI 4)) 1 (nI 4)) 2 (nI 4)) := (c3 _ (by omega)).trans ((va_un _ _ (by omega)).trans (va_us _ _ _))
  have ea3 : ∀ j, j < N + 1 → ad3 j = ad j := fun j h => (e3 j (by omega)).trans (ea2 j h)
  have ca3 : ∀ j, j < N → C3 j = C j := fun j h => (c3 j (by omega)).trans ((va_un _ _ (by omega)).trans ((va_un _ _ (by omega)).trans (ca2 j h)))
  have hl : lv_has ls 1 [(0, .ref (ad3 N))] := by rw [e3 N (by omega)]; exact hl
  refine W.eq (g2 := F0 m 37 ls [.ref (ad3 (N + 3)), .ref (ad3 N)]) (by first | (rw [e3 N (by omega)]; done) | (rw [e3 N (by omega)]; rfl)) ?_
  refine iw_putF (ty := .array (.int)) hx hb hts iu_X9_init_9 tyX9 tyX9_ok nmX9 hown hK hP hD hS (by omega) (k3_N) rfl 3 (by decide) (hts _ il_X9_init_16) (fun _ h9 => h9) rfl hin rfl (by decide +kernel) rfl rfl (Nat.le_of_ble_eq_true rfl) rfl dX9_init_37 (fun H locs hP hD hS => ?_)
  refine lv_aload_n hx hb dX9_init_40 rfl (lv_at hl 0 rfl) ?_
  refine lv_bipush (v := nI 64) hx hb dX9_init_41 (by decide) ?_
  refine iw_newZ (N' := 64) hx hb (hts _ il_X9_init_arrboolean) hK hP hD hS hA (by decide) (by decide) (Nat.le_of_ble_eq_true rfl) (Nat.le_of_ble_eq_true rfl) (Nat.le_of_ble_eq_true rfl) dX9_init_43 (fun ad4 C4 H e4 c4 n4 hP hD hS => ?_)
  have k4_N : C4 N = ob 9 [.int (nI 0), .ref (ad4 (N + 1)), .ref (ad4 (N + 2)), .ref (ad4 (N + 3)), .null, .int (nI 0), .null, .null] := (c4 _ (by omega)).trans ((va_us _ _ _).trans (by first | (rw [e4 (N + 1) (by omega), e4 (N + 2) (by omega), e4 (N + 3) (by omega)]; done) | (rw [e4 (N + 1) (by omega), e4 (N + 2) (by omega), e4 (N + 3) (by omega)]; rfl)))
  have k4_N_1 : C4 (N + 1) = ia G 192 (fun _ => nI 0) := (c4 _ (by omega)).trans ((va_un _ _ (by omega)).trans (k3_N_1))
  have k4_N_2 : C4 (N + 2) = ia G 3 (upd (upd (upd (fun _ => nI 0) 0 (nI 4)) 1 (nI 4)) 2 (nI 4)) := (c4 _ (by omega)).trans ((va_un _ _ (by omega)).trans (k3_N_2))
  have k4_N_3 : C4 (N + 3) = ia G 64 (fun _ => nI 0) := (c4 _ (by omega)).trans ((va_un _ _ (by omega)).trans (n3))
  have ea4 : ∀ j, j < N + 1 → ad4 j = ad j := fun j h => (e4 j (by omega)).trans (ea3 j h)
  have ca4 : ∀ j, j < N → C4 j = C j := fun j h => (c4 j (by omega)).trans ((va_un _ _ (by omega)).trans (ca3 j h))
  have hl : lv_has ls 1 [(0, .ref (ad4 N))] := by rw [e4 N (by omega)]; exact hl
  refine W.eq (g2 := F0 m 45 ls [.ref (ad4 (N + 4)), .ref (ad4 N)]) (by first | (rw [e4 N (by omega)]; done) | (rw [e4 N (by omega)]; rfl)) ?_
  refine iw_putF (ty := .array (.boolean)) hx hb hts iu_X9_init_9 tyX9 tyX9_ok nmX9 hown hK hP hD hS (by omega) (k4_N) rfl 4 (by decide) (hts _ il_X9_init_19) (fun _ h9 => h9) rfl hin rfl (by decide +kernel) rfl rfl (Nat.le_of_ble_eq_true rfl) rfl dX9_init_45 (fun H locs hP hD hS => ?_)
  refine lv_aload_n hx hb dX9_init_48 rfl (lv_at hl 0 rfl) ?_
  refine iw_new (ci := 10) (fs := [.int (nI 0), .null, .int (nI 0)]) (T := TJx4a65c) (n := 3) hx hb hts iu_X9_init_Jx4a65c tyJx4a65c tyJx4a65c_ok hown (hts _ il_X9_init_23) (hts _ il_X9_init_instJx4a65c) (hts _ il_X9_init_iniJx4a65c) hK hP hD hS hA rfl (fun j hj => by rcases (show j = 0 ∨ j = 1 ∨ j = 2 by omega) with rfl | rfl | rfl <;> rfl) (Nat.le_of_ble_eq_true rfl) (Nat.le_of_ble_eq_true rfl) dX9_init_49 (fun ad5 C5 H e5 c5 n5 hP hD hS => ?_)
  have k5_N : C5 N = ob 9 [.int (nI 0), .ref (ad5 (N + 1)), .ref (ad5 (N + 2)), .ref (ad5 (N + 3)), .ref (ad5 (N + 4)), .int (nI 0), .null, .null] := (c5 _ (by omega)).trans ((va_us _ _ _).trans (by first | (rw [e5 (N + 1) (by omega), e5 (N + 2) (by omega), e5 (N + 3) (by omega), e5 (N + 4) (by omega)]; done) | (rw [e5 (N + 1) (by omega), e5 (N + 2) (by omega), e5 (N + 3) (by omega), e5 (N + 4) (by omega)]; rfl)))
  have k5_N_1 : C5 (N + 1) = ia G 192 (fun _ => nI 0) := (c5 _ (by omega)).trans ((va_un _ _ (by omega)).trans (k4_N_1))
  have k5_N_2 : C5 (N + 2) = ia G 3 (upd (upd (upd (fun _ => nI 0) 0 (nI 4)) 1 (nI 4)) 2 (nI 4)) := (c5 _ (by omega)).trans ((va_un _ _ (by omega)).trans (k4_N_2))
  have k5_N_3 : C5 (N + 3) = ia G 64 (fun _ => nI 0) := (c5 _ (by omega)).trans ((va_un _ _ (by omega)).trans (k4_N_3))
  have k5_N_4 : C5 (N + 4) = za G 64 (fun _ => nI 0) := (c5 _ (by omega)).trans ((va_un _ _ (by omega)).trans (n4))
  have ea5 : ∀ j, j < N + 1 → ad5 j = ad j := fun j h => (e5 j (by omega)).trans (ea4 j h)
  have ca5 : ∀ j, j < N → C5 j = C j := fun j h => (c5 j (by omega)).trans ((va_un _ _ (by omega)).trans (ca4 j h))
  have hl : lv_has ls 1 [(0, .ref (ad5 N))] := by rw [e5 N (by omega)]; exact hl
  refine W.eq (g2 := F0 m 52 ls [.ref (ad5 (N + 5)), .ref (ad5 N)]) (by first | (rw [e5 N (by omega)]; done) | (rw [e5 N (by omega)]; rfl)) ?_
  refine lv_dup hx hb dX9_init_52 rfl ?_
  refine iwg_v (va_runI (As := []) (rest := [.ref (ad5 (N + 5)), .ref (ad5 N)]) ⟨hx, hb, hml, hown, hts⟩ (kJx4a65c_init_da8c8 l G (N + 6) ad5 _ (N + 5) dz (by omega) (n5) _) (cwI 0 hts gX9_init_Jx4a65c_init_da8c8 rfl rfl rfl (hts _ il_X9_init_iniJx4a65c) (hts _ il_X9_init_25) (hts _ il_X9_init_im_Jx4a65c_init_da8c8) rfl (by decide +kernel) ⟨Nat.le_of_ble_eq_true rfl, Nat.le_of_ble_eq_true rfl⟩) (iPSZ hK hV hZ hS hA hP hD [.ref (ad5 (N + 5))])  rfl rfl hl.1 rfl (lv_room (Nat.le_of_ble_eq_true rfl)) dX9_init_53 ⟨Nat.le_of_ble_eq_true rfl, Nat.le_of_ble_eq_true rfl⟩) hD hS hA (fun ad6 C6 H locs hw8 hP hD hS => ?_)
  dsimp only at hw8
  obtain ⟨e6, c6, q6_l⟩ := hw8
  have k6_N : C6 N = ob 9 [.int (nI 0), .ref (ad6 (N + 1)), .ref (ad6 (N + 2)), .ref (ad6 (N + 3)), .ref (ad6 (N + 4)), .int (nI 0), .null, .null] := (c6 _ (by omega) (by omega)).trans ((k5_N).trans (by first | (rw [e6 (N + 1) (by omega), e6 (N + 2) (by omega), e6 (N + 3) (by omega), e6 (N + 4) (by omega)]; done) | (rw [e6 (N + 1) (by omega), e6 (N + 2) (by omega), e6 (N + 3) (by omega), e6 (N + 4) (by omega)]; rfl)))
  have k6_N_1 : C6 (N + 1) = ia G 192 (fun _ => nI 0) := (c6 _ (by omega) (by omega)).trans (k5_N_1)
  have k6_N_2 : C6 (N + 2) = ia G 3 (upd (upd (upd (fun _ => nI 0) 0 (nI 4)) 1 (nI 4)) 2 (nI 4)) := (c6 _ (by omega) (by omega)).trans (k5_N_2)
  have k6_N_3 : C6 (N + 3) = ia G 64 (fun _ => nI 0) := (c6 _ (by omega) (by omega)).trans (k5_N_3)
  have k6_N_4 : C6 (N + 4) = za G 64 (fun _ => nI 0) := (c6 _ (by omega) (by omega)).trans (k5_N_4)
  have ea6 : ∀ j, j < N + 1 → ad6 j = ad j := fun j h => (e6 j (by omega)).trans (ea5 j h)
  have ca6 : ∀ j, j < N → C6 j = C j := fun j h => (c6 j (by omega) (by omega)).trans (ca5 j h)
  have hl : lv_has ls 1 [(0, .ref (ad6 N))] := by rw [e6 N (by omega)]; exact hl
  refine W.eq (g2 := F0 m 56 ls [.ref (ad6 (N + 5)), .ref (ad6 N)]) (by first | (rw [e6 N (by omega), e6 (N + 5) (by omega)]; done) | (rw [e6 N (by omega), e6 (N + 5) (by omega)]; rfl)) ?_
  refine iw_putF (ty := .object "java/util/List") hx hb hts iu_X9_init_9 tyX9 tyX9_ok nmX9 hown hK hP hD hS (by omega) (k6_N) rfl 6 (by decide) (hts _ il_X9_init_26) (fun _ h9 => h9) rfl hin rfl (by decide +kernel) rfl rfl (Nat.le_of_ble_eq_true rfl) rfl dX9_init_56 (fun H locs hP hD hS => ?_)
  refine lv_aload_n hx hb dX9_init_59 rfl (lv_at hl 0 rfl) ?_
  refine iw_new (ci := 10) (fs := [.int (nI 0), .null, .int (nI 0)]) (T := TJx4a65c) (n := 3) hx hb hts iu_X9_init_Jx4a65c tyJx4a65c tyJx4a65c_ok hown (hts _ il_X9_init_23) (hts _ il_X9_init_instJx4a65c) (hts _ il_X9_init_iniJx4a65c) hK hP hD hS hA rfl (fun j hj => by rcases (show j = 0 ∨ j = 1 ∨ j = 2 by omega) with rfl | rfl | rfl <;> rfl) (Nat.le_of_ble_eq_true rfl) (Nat.le_of_ble_eq_true rfl) dX9_init_60 (fun ad7 C7 H e7 c7 n7 hP hD hS => ?_)
  have k7_N : C7 N = ob 9 [.int (nI 0), .ref (ad7 (N + 1)), .ref (ad7 (N + 2)), .ref (ad7 (N + 3)), .ref (ad7 (N + 4)), .int (nI 0), .ref (ad7 (N + 5)), .null] := (c7 _ (by omega)).trans ((va_us _ _ _).trans (by first | (rw [e7 (N + 1) (by omega), e7 (N + 2) (by omega), e7 (N + 3) (by omega), e7 (N + 4) (by omega), e7 (N + 5) (by omega)]; done) | (rw [e7 (N + 1) (by omega), e7 (N + 2) (by omega), e7 (N + 3) (by omega), e7 (N + 4) (by omega), e7 (N + 5) (by omega)]; rfl)))
  have k7_N_1 : C7 (N + 1) = ia G 192 (fun _ => nI 0) := (c7 _ (by omega)).trans ((va_un _ _ (by omega)).trans (k6_N_1))
  have k7_N_2 : C7 (N + 2) = ia G 3 (upd (upd (upd (fun _ => nI 0) 0 (nI 4)) 1 (nI 4)) 2 (nI 4)) := (c7 _ (by omega)).trans ((va_un _ _ (by omega)).trans (k6_N_2))
  have k7_N_3 : C7 (N + 3) = ia G 64 (fun _ => nI 0) := (c7 _ (by omega)).trans ((va_un _ _ (by omega)).trans (k6_N_3))
  have k7_N_4 : C7 (N + 4) = za G 64 (fun _ => nI 0) := (c7 _ (by omega)).trans ((va_un _ _ (by omega)).trans (k6_N_4))
  have k7_N_5 : C7 (N + 5) = ob 10 [.int (nI 0), .ref dz, .int (nI 0)] := (c7 _ (by omega)).trans ((va_un _ _ (by omega)).trans (q6_l))
  have ea7 : ∀ j, j < N + 1 → ad7 j = ad j := fun j h => (e7 j (by omega)).trans (ea6 j h)
  have ca7 : ∀ j, j < N → C7 j = C j := fun j h => (c7 j (by omega)).trans ((va_un _ _ (by omega)).trans (ca6 j h))
  have hl : lv_has ls 1 [(0, .ref (ad7 N))] := by rw [e7 N (by omega)]; exact hl
  refine W.eq (g2 := F0 m 63 ls [.ref (ad7 (N + 6)), .ref (ad7 N)]) (by first | (rw [e7 N (by omega)]; done) | (rw [e7 N (by omega)]; rfl)) ?_
  refine lv_dup hx hb dX9_init_63 rfl ?_
  refine iwg_v (va_runI (As := []) (rest := [.ref (ad7 (N + 6)), .ref (ad7 N)]) ⟨hx, hb, hml, hown, hts⟩ (kJx4a65c_init_da8c8 l G (N + 7) ad7 _ (N + 6) dz (by omega) (n7) _) (cwI 0 hts gX9_init_Jx4a65c_init_da8c8 rfl rfl rfl (hts _ il_X9_init_iniJx4a65c) (hts _ il_X9_init_25) (hts _ il_X9_init_im_Jx4a65c_init_da8c8) rfl (by decide +kernel) ⟨Nat.le_of_ble_eq_true rfl, Nat.le_of_ble_eq_true rfl⟩) (iPSZ hK hV hZ hS hA hP hD [.ref (ad7 (N + 6))])  rfl rfl hl.1 rfl (lv_room (Nat.le_of_ble_eq_true rfl)) dX9_init_64 ⟨Nat.le_of_ble_eq_true rfl, Nat.le_of_ble_eq_true rfl⟩) hD hS hA (fun ad8 C8 H locs hw8 hP hD hS => ?_)
  dsimp only at hw8
  obtain ⟨e8, c8, q8_l⟩ := hw8
  have k8_N : C8 N = ob 9 [.int (nI 0), .ref (ad8 (N + 1)), .ref (ad8 (N + 2)), .ref (ad8 (N + 3)), .ref (ad8 (N + 4)), .int (nI 0), .ref (ad8 (N + 5)), .null] := (c8 _ (by omega) (by omega)).trans ((k7_N).trans (by first | (rw [e8 (N + 1) (by omega), e8 (N + 2) (by omega), e8 (N + 3) (by omega), e8 (N + 4) (by omega), e8 (N + 5) (by omega)]; done) | (rw [e8 (N + 1) (by omega), e8 (N + 2) (by omega), e8 (N + 3) (by omega), e8 (N + 4) (by omega), e8 (N + 5) (by omega)]; rfl)))
  have k8_N_1 : C8 (N + 1) = ia G 192 (fun _ => nI 0) := (c8 _ (by omega) (by omega)).trans (k7_N_1)
  have k8_N_2 : C8 (N + 2) = ia G 3 (upd (upd (upd (fun _ => nI 0) 0 (nI 4)) 1 (nI 4)) 2 (nI 4)) := (c8 _ (by omega) (by omega)).trans (k7_N_2)
  have k8_N_3 : C8 (N + 3) = ia G 64 (fun _ => nI 0) := (c8 _ (by omega) (by omega)).trans (k7_N_3)
  have k8_N_4 : C8 (N + 4) = za G 64 (fun _ => nI 0) := (c8 _ (by omega) (by omega)).trans (k7_N_4)
  have k8_N_5 : C8 (N + 5) = ob 10 [.int (nI 0), .ref dz, .int (nI 0)] := (c8 _ (by omega) (by omega)).trans (k7_N_5)
  have ea8 : ∀ j, j < N + 1 → ad8 j = ad j := fun j h => (e8 j (by omega)).trans (ea7 j h)
  have ca8 : ∀ j, j < N → C8 j = C j := fun j h => (c8 j (by omega) (by omega)).trans (ca7 j h)
  have hl : lv_has ls 1 [(0, .ref (ad8 N))] := by rw [e8 N (by omega)]; exact hl
  refine W.eq (g2 := F0 m 67 ls [.ref (ad8 (N + 6)), .ref (ad8 N)]) (by first | (rw [e8 N (by omega), e8 (N + 6) (by omega)]; done) | (rw [e8 N (by omega), e8 (N + 6) (by omega)]; rfl)) ?_
  refine iw_putF (ty := .object "java/util/List") hx hb hts iu_X9_init_9 tyX9 tyX9_ok nmX9 hown hK hP hD hS (by omega) (k8_N) rfl 7 (by decide) (hts _ il_X9_init_30) (fun _ h9 => h9) rfl hin rfl (by decide +kernel) rfl rfl (Nat.le_of_ble_eq_true rfl) rfl dX9_init_67 (fun H locs hP hD hS => ?_)
  have hP := wl_selfE hP ((va_un _ _ (by omega)).trans (k8_N_2))
  have hP := wl_ia (g := fun _ => nI 4) hP (fun k hk => by rcases (show k = 0 ∨ k = 1 ∨ k = 2 by omega) with rfl | rfl | rfl <;> rfl)
  have hD := wl_D hD (va_up (va_up C8 N (ob 9 [.int (nI 0), .ref (ad8 (N + 1)), .ref (ad8 (N + 2)), .ref (ad8 (N + 3)), .ref (ad8 (N + 4)), .int (nI 0), .ref (ad8 (N + 5)), .ref (ad8 (N + 6))])) (N + 2) (ia G 3 (fun _ => nI 4)))
  refine W.widen (k := 6) (n := 329) (Nat.le_of_ble_eq_true rfl) (Nat.le_of_ble_eq_true rfl) ?_
  exact W.vret hx hb hr (fun t ht hW => ⟨⟨(ad8, va_up (va_up C8 N (ob 9 [.int (nI 0), .ref (ad8 (N + 1)), .ref (ad8 (N + 2)), .ref (ad8 (N + 3)), .ref (ad8 (N + 4)), .int (nI 0), .ref (ad8 (N + 5)), .ref (ad8 (N + 6))])) (N + 2) (ia G 3 (fun _ => nI 4))), rfl, ⟨ea8, fun j h => (va_un _ _ (by omega)).trans ((va_un _ _ (by omega)).trans (ca8 j h)), by omega, (va_un _ _ (by omega)).trans (va_us _ _ _), (va_un _ _ (by omega)).trans ((va_un _ _ (by omega)).trans (k8_N_1)), va_us _ _ _, (va_un _ _ (by omega)).trans ((va_un _ _ (by omega)).trans (k8_N_3)), (va_un _ _ (by omega)).trans ((va_un _ _ (by omega)).trans (k8_N_4)), (va_un _ _ (by omega)).trans ((va_un _ _ (by omega)).trans (k8_N_5)), (va_un _ _ (by omega)).trans ((va_un _ _ (by omega)).trans (q8_l))⟩, ⟨by rw [ht]; exact hP, hD⟩⟩, hS.F ht⟩) hS.2.2 dX9_init_70
abbrev rmJx4a65c_grow_92f84 : Room := { frames := 1, cells := 1, slots := 10, locals := 21 }
set_option maxRecDepth 20000 in
theorem iu_Jx4a65c_grow_92f84_Jx4a65c : ∀ w ∈ u_ws RJx4a65c TJx4a65c 3, w ∈ wsJx4a65c_grow_92f84 := by decide +kernel
set_option maxRecDepth 20000 in
theorem il_Jx4a65c_grow_92f84_9 : (Cond.fieldLink RJx4a65c 9 "java/util/ArrayList" "elementData" "[Ljava/lang/Object;") ∈ wsJx4a65c_grow_92f84 := by decide +kernel
set_option maxRecDepth 20000 in
theorem il_Jx4a65c_grow_92f84_39 : (Cond.fieldLink RJx4a65c 39 "java/util/ArrayList" "DEFAULTCAPACITY_EMPTY_ELEMENTDATA" "[Ljava/lang/Object;") ∈ wsJx4a65c_grow_92f84 := by decide +kernel
set_option maxRecDepth 20000 in
theorem il_Jx4a65c_grow_92f84_79 : (Cond.methodLink RJx4a65c 79 Lib.Math.max.name) ∈ wsJx4a65c_grow_92f84 := by decide +kernel
set_option maxRecDepth 20000 in
theorem il_Jx4a65c_grow_92f84_st_max : (Cond.static Lib.Math.max.name) ∈ wsJx4a65c_grow_92f84 := by decide +kernel
set_option maxRecDepth 20000 in
theorem il_Jx4a65c_grow_92f84_ini_Math : (Cond.initialized "java/lang/Math") ∈ wsJx4a65c_grow_92f84 := by decide +kernel
set_option maxRecDepth 20000 in
theorem il_Jx4a65c_grow_92f84_code_max : (Cond.code Lib.Math.max.name Lib.Math.max.code 2 (some .int)) ∈ wsJx4a65c_grow_92f84 := by decide +kernel
set_option maxRecDepth 20000 in
theorem il_Jx4a65c_grow_92f84_7 : (Cond.classLink RJx4a65c 7 "java/lang/Object") ∈ wsJx4a65c_grow_92f84 := by decide +kernel
set_option maxHeartbeats 4000000 in
set_option maxRecDepth 100000 in
theorem kJx4a65c_grow_92f84 (l : Launch) (G : iG) (N : Nat) (ad : Nat → Nat) (C : Nat → va_E) (a dz : Nat) (la9 : a < N) (mc : Int32) (ga : C a = ob 10 [.int mc, .ref dz, .int (nI 0)]) (sz : Nat) : Met l yJx4a65c_grow_92f84 wsJx4a65c_grow_92f84 rmJx4a65c_grow_92f84 (iPreZ G (N) ad C dz sz [.ref (ad a), .int (nI 1)]) (va_Qr (fun (u : iU) => (∀ j, j < N → u.1 j = ad j) ∧ (∀ j, j < N → j ≠ a → u.2 j = C j) ∧ u.2 a = ob 10 [.int mc, .ref (u.1 N), .int (nI 0)] ∧ u.2 N = ra G 5 10 (fun _ => none)) (fun u a t => iB2 G (N + 1) (iA (N) ad sz) u t ∧ a = u.1 (N)) (iA (N) ad sz)) 1 10 (iA (N) ad sz) := by
  refine Met.ofW (cc := cJx4a65c_grow_92f84) (maxL := 4) (ret := (some (.array (.object "java/lang/Object")))) (by decide) rfl ?_
  intro p e s m args below meth c s₁ B hml hv
  obtain ⟨rfl, ⟨⟨hsz, hP, hK, hD0⟩, hV⟩, hZ⟩ := hv
  have hx := B.exec
  have hb := B.bytes
  have hr := B.returns
  have hts := atoms_spec (ws := wsJx4a65c_grow_92f84) B.pre
  have hown : s.vm.findClass RJx4a65c = some m.cls := findClass_of_methodNamed B.named
  have hlocks := B.notSynchronized
  subst hsz
  have hD := wl_self hD0 s.heap.size
  have hA : ∀ q : Nat, s.heap.size ≤ q → iA (N) ad s.heap.size q := fun q h => Or.inr h
  have hS : va_S (iA (N) ad s.heap.size) s.heap s.heap [] := va_S.rf
  have hP : va_P G.1 vwB (wl (N) ad C) s.heap := hP
  have hl := lv_entry ([.ref (ad a), .int (nI 1)]) (n := 4) (Nat.le_of_ble_eq_true rfl)
  rw [lg_entry_eq]
  generalize (lg_sl ([.ref (ad a), .int (nI 1)]) ++ List.replicate (4 - (lg_sl ([.ref (ad a), .int (nI 1)])).length) Slot.unset).toArray = ls at hl ⊢
  have hl : lv_has ls 4 [(0, .ref (ad a)), (1, .int (nI 1))] := hl
  refine lv_aload_n hx hb dJx4a65c_grow_92f84_0 rfl (lv_at hl 0 rfl) ?_
  refine iw_get hx hb hts iu_Jx4a65c_grow_92f84_Jx4a65c hown hK hP (by omega) (ga) rfl 1 (by decide) (hts _ il_Jx4a65c_grow_92f84_9) (fun _ h9 => h9) rfl dJx4a65c_grow_92f84_1 ?_
  refine va_tlen hx hb hZ.2.1 hS (v := nI 0) rfl dJx4a65c_grow_92f84_4 ?_
  refine lv_istore_n (lv' := [(2, .int (nI 0)), (0, .ref (ad a)), (1, .int (nI 1))]) hx hb dJx4a65c_grow_92f84_5 rfl hl (by decide) rfl (fun ls hl => ?_)
  refine lv_iload_n hx hb dJx4a65c_grow_92f84_6 rfl (lv_at hl 0 rfl) ?_
  refine lv_if_gt (tgt := 20) hx hb dJx4a65c_grow_92f84_7 (by decide) (fun c9 => absurd c9 (by decide)) (fun _ => ?_)
  refine lv_aload_n hx hb dJx4a65c_grow_92f84_10 rfl (lv_at hl 1 rfl) ?_
  refine iw_get hx hb hts iu_Jx4a65c_grow_92f84_Jx4a65c hown hK hP (by omega) (ga) rfl 1 (by decide) (hts _ il_Jx4a65c_grow_92f84_9) (fun _ h9 => h9) rfl dJx4a65c_grow_92f84_11 ?_
  refine va_gets hx hb hZ.1 hS hown (hts _ il_Jx4a65c_grow_92f84_39) (fun _ h9 => h9) dJx4a65c_grow_92f84_14 ?_
  refine lv_acmp_eq (rx := some dz) (ry := some dz) (tgt := 45) hx hb dJx4a65c_grow_92f84_17 (by decide) (fun _ => ?_) (fun c9 => absurd rfl c9)
  refine lv_aload_n hx hb dJx4a65c_grow_92f84_45 rfl (lv_at hl 1 rfl) ?_
  refine lv_bipush (v := nI 10) hx hb dJx4a65c_grow_92f84_46 (by decide) ?_
  refine lv_iload_n hx hb dJx4a65c_grow_92f84_48 rfl (lv_at hl 2 rfl) ?_
  refine va_mmax hx hb (hml.trans hl.1.symm) hown (hts _ il_Jx4a65c_grow_92f84_79) (hts _ il_Jx4a65c_grow_92f84_st_max) (hts _ il_Jx4a65c_grow_92f84_ini_Math) (hts _ il_Jx4a65c_grow_92f84_code_max) (Nat.le_of_ble_eq_true rfl) (Nat.le_of_ble_eq_true rfl) (Nat.le_of_ble_eq_true rfl) (Nat.le_of_ble_eq_true rfl) dJx4a65c_grow_92f84_49 ?_
  refine lv_asI (y := nI 10) (by decide) ?_
  refine iw_newq (t := 5) (N' := 10) hx hb hown (hts _ il_Jx4a65c_grow_92f84_7) (vx_aoO hV) hK rfl hP hD hS hA (by decide) (by decide) (Nat.le_of_ble_eq_true rfl) (Nat.le_of_ble_eq_true rfl) (Nat.le_of_ble_eq_true rfl) dJx4a65c_grow_92f84_52 (fun ad1 C1 H e1 c1 n1 hP hD hS => ?_)
  have k1_a : C1 a = ob 10 [.int mc, .ref dz, .int (nI 0)] := (c1 _ (by omega)).trans (ga)
  have ea1 : ∀ j, j < N → ad1 j = ad j := fun j h => e1 j (by omega)
  have ca1 : ∀ j, j < N → j ≠ a → C1 j = C j := fun j h hx9 => (c1 j (by omega)).trans (rfl)
  have hl : lv_has ls 4 [(2, .int (nI 0)), (0, .ref (ad1 a)), (1, .int (nI 1))] := by rw [e1 a (by omega)]; exact hl
  refine W.eq (g2 := F0 m 55 ls [.ref (ad1 N), .ref (ad1 a)]) (by first | (rw [e1 a (by omega)]; done) | (rw [e1 a (by omega)]; rfl)) ?_
  refine lv_dup_x1 hx hb dJx4a65c_grow_92f84_55 rfl rfl ?_
  refine iw_put (ty := .array (.object "java/lang/Object")) hx hb hts iu_Jx4a65c_grow_92f84_Jx4a65c tyJx4a65c tyJx4a65c_ok nmJx4a65c hown hK hP hD hS (by omega) (k1_a) rfl 1 (by decide) (hts _ il_Jx4a65c_grow_92f84_9) (fun _ h9 => h9) rfl (by decide +kernel) rfl rfl (Nat.le_of_ble_eq_true rfl) rfl dJx4a65c_grow_92f84_56 (fun H locs hP hD hS => ?_)
  refine W.widen (k := 1) (n := 10) (Nat.le_of_ble_eq_true rfl) (Nat.le_of_ble_eq_true rfl) ?_
  exact W.aret hx hb hr (Or.inr ⟨_, rfl⟩) (Or.inr ⟨_, rfl⟩) (fun t ht hW => ⟨⟨(ad1, va_up C1 a (ob 10 [.int mc, .ref (ad1 N), .int (nI 0)])), _, rfl, ⟨ea1, fun j h hx9 => (va_un _ _ (by omega)).trans (ca1 j h hx9), va_us _ _ _, (va_un _ _ (by omega)).trans (n1)⟩, ⟨by rw [ht]; exact hP, hD⟩, rfl⟩, hS.F ht⟩) hS.2.2 dJx4a65c_grow_92f84_59
abbrev rmJx4a65c_grow_d5877 : Room := { frames := 2, cells := 1, slots := 10, locals := 44 }
set_option maxRecDepth 20000 in
theorem iu_Jx4a65c_grow_d5877_Jx4a65c : ∀ w ∈ u_ws RJx4a65c TJx4a65c 3, w ∈ wsJx4a65c_grow_d5877 := by decide +kernel
set_option maxRecDepth 20000 in
theorem il_Jx4a65c_grow_d5877_48 : (Cond.fieldLink RJx4a65c 48 "java/util/ArrayList" "size" "I") ∈ wsJx4a65c_grow_d5877 := by decide +kernel
set_option maxHeartbeats 4000000 in
set_option maxRecDepth 100000 in
theorem kJx4a65c_grow_d5877 (l : Launch) (G : iG) (N : Nat) (ad : Nat → Nat) (C : Nat → va_E) (a dz : Nat) (la9 : a < N) (mc : Int32) (ga : C a = ob 10 [.int mc, .ref dz, .int (nI 0)]) (sz : Nat) : Met l yJx4a65c_grow_d5877 wsJx4a65c_grow_d5877 rmJx4a65c_grow_d5877 (iPreZ G (N) ad C dz sz [.ref (ad a)]) (va_Qr (fun (u : iU) => (∀ j, j < N → u.1 j = ad j) ∧ (∀ j, j < N → j ≠ a → u.2 j = C j) ∧ u.2 a = ob 10 [.int mc, .ref (u.1 N), .int (nI 0)] ∧ u.2 N = ra G 5 10 (fun _ => none)) (fun u a t => iB2 G (N + 1) (iA (N) ad sz) u t ∧ a = u.1 (N)) (iA (N) ad sz)) 1 10 (iA (N) ad sz) := by
  refine Met.ofW (cc := cJx4a65c_grow_d5877) (maxL := 1) (ret := (some (.array (.object "java/lang/Object")))) (by decide) rfl ?_
  intro p e s m args below meth c s₁ B hml hv
  obtain ⟨rfl, ⟨⟨hsz, hP, hK, hD0⟩, hV⟩, hZ⟩ := hv
  have hx := B.exec
  have hb := B.bytes
  have hr := B.returns
  have hts := atoms_spec (ws := wsJx4a65c_grow_d5877) B.pre
  have hown : s.vm.findClass RJx4a65c = some m.cls := findClass_of_methodNamed B.named
  have hlocks := B.notSynchronized
  subst hsz
  have hD := wl_self hD0 s.heap.size
  have hA : ∀ q : Nat, s.heap.size ≤ q → iA (N) ad s.heap.size q := fun q h => Or.inr h
  have hS : va_S (iA (N) ad s.heap.size) s.heap s.heap [] := va_S.rf
  have hP : va_P G.1 vwB (wl (N) ad C) s.heap := hP
  have hl := lv_entry ([.ref (ad a)]) (n := 1) (Nat.le_of_ble_eq_true rfl)
  rw [lg_entry_eq]
  generalize (lg_sl ([.ref (ad a)]) ++ List.replicate (1 - (lg_sl ([.ref (ad a)])).length) Slot.unset).toArray = ls at hl ⊢
  have hl : lv_has ls 1 [(0, .ref (ad a))] := hl
  refine lv_aload_n hx hb dJx4a65c_grow_d5877_0 rfl (lv_at hl 0 rfl) ?_
  refine lv_aload_n hx hb dJx4a65c_grow_d5877_1 rfl (lv_at hl 0 rfl) ?_
  refine iw_get hx hb hts iu_Jx4a65c_grow_d5877_Jx4a65c hown hK hP (by omega) (ga) rfl 2 (by decide) (hts _ il_Jx4a65c_grow_d5877_48) (fun _ h9 => h9) rfl dJx4a65c_grow_d5877_2 ?_
  refine lv_iconst (v := nI 1) hx hb dJx4a65c_grow_d5877_5 (by decide) ?_
  refine lv_iadd hx hb dJx4a65c_grow_d5877_6 ?_
  refine lv_asI (y := nI 1) (nI_add _ _) ?_
  refine iwg_r (k := N) (va_runV (As := [.int (nI 1)]) (rest := []) ⟨hx, hb, hml, hown, hts⟩ (kJx4a65c_grow_92f84 l G (N) ad _ a dz la9 (mc) (ga) _) (cwV 1 hts gJx4a65c_grow_d5877_Jx4a65c_grow_92f84 rfl rfl rfl (by decide +kernel) ⟨Nat.le_of_ble_eq_true rfl, Nat.le_of_ble_eq_true rfl⟩) (iPVZ hK hV hZ hS hA hP hD (by omega) (ga) rfl [.int (nI 1)]) rfl rfl hl.1 rfl (lv_room (Nat.le_of_ble_eq_true rfl)) dJx4a65c_grow_d5877_7 ⟨Nat.le_of_ble_eq_true rfl, Nat.le_of_ble_eq_true rfl⟩) hD hS hA (fun ad1 C1 H locs hw8 hP hD hS => ?_)
  dsimp only at hw8
  obtain ⟨e1, c1, q1_a, q1_N⟩ := hw8
  have ea1 : ∀ j, j < N → ad1 j = ad j := fun j h => e1 j (by omega)
  have ca1 : ∀ j, j < N → j ≠ a → C1 j = C j := fun j h hx9 => (c1 j (by omega) (by omega)).trans (rfl)
  have hl : lv_has ls 1 [(0, .ref (ad1 a))] := by rw [e1 a (by omega)]; exact hl
  refine W.widen (k := 1) (n := 10) (Nat.le_of_ble_eq_true rfl) (Nat.le_of_ble_eq_true rfl) ?_
  exact W.aret hx hb hr (Or.inr ⟨_, rfl⟩) (Or.inr ⟨_, rfl⟩) (fun t ht hW => ⟨⟨(ad1, C1), _, rfl, ⟨ea1, fun j h hx9 => ca1 j h hx9, q1_a, q1_N⟩, ⟨by rw [ht]; exact hP, hD⟩, rfl⟩, hS.F ht⟩) hS.2.2 dJx4a65c_grow_d5877_10
abbrev rmJx4a65c_add_72be8 : Room := { frames := 3, cells := 1, slots := 10, locals := 64 }
set_option maxRecDepth 20000 in
theorem il_Jx4a65c_add_72be8_48 : (Cond.fieldLink RJx4a65c 48 "java/util/ArrayList" "size" "I") ∈ wsJx4a65c_add_72be8 := by decide +kernel
set_option maxRecDepth 20000 in
theorem iu_Jx4a65c_add_72be8_Jx4a65c : ∀ w ∈ u_ws RJx4a65c TJx4a65c 3, w ∈ wsJx4a65c_add_72be8 := by decide +kernel
set_option maxHeartbeats 4000000 in
set_option maxRecDepth 100000 in
theorem kJx4a65c_add_72be8 (l : Launch) (G : iG) (N : Nat) (ad : Nat → Nat) (C : Nat → va_E) (a dz : Nat) (la9 : a < N) (mc : Int32) (ga : C a = ob 10 [.int mc, .ref dz, .int (nI 0)]) (f : Nat) (lf9 : f < N) (haf : a ≠ f) {f0 f1 f3 : Int32} {f2 f4 : Nat} (gf : C f = ob 7 [.int f0, .int f1, .ref f2, .int f3, .ref f4]) (sz : Nat) : Met l yJx4a65c_add_72be8 wsJx4a65c_add_72be8 rmJx4a65c_add_72be8 (iPreZ G (N) ad C dz sz [.ref (ad a), .ref (ad f), .ref dz, .int (nI 0)]) (va_Qv (fun (u : iU) => (∀ j, j < N → u.1 j = ad j) ∧ (∀ j, j < N → j ≠ a → u.2 j = C j) ∧ u.2 a = ob 10 [.int mc, .ref (u.1 N), .int (nI 1)]) (iB2 G (N + 1) (iA (N) ad sz)) (iA (N) ad sz)) 1 10 (iA (N) ad sz) := by
  refine Met.ofW (cc := cJx4a65c_add_72be8) (maxL := 4) (ret := none) (by decide) rfl ?_
  intro p e s m args below meth c s₁ B hml hv
  obtain ⟨rfl, ⟨⟨hsz, hP, hK, hD0⟩, hV⟩, hZ⟩ := hv
  have hx := B.exec
  have hb := B.bytes
  have hr := B.returns
  have hts := atoms_spec (ws := wsJx4a65c_add_72be8) B.pre
  have hown : s.vm.findClass RJx4a65c = some m.cls := findClass_of_methodNamed B.named
  have hlocks := B.notSynchronized
  subst hsz
  have hD := wl_self hD0 s.heap.size
  have hA : ∀ q : Nat, s.heap.size ≤ q → iA (N) ad s.heap.size q := fun q h => Or.inr h
  have hS : va_S (iA (N) ad s.heap.size) s.heap s.heap [] := va_S.rf
  have hP : va_P G.1 vwB (wl (N) ad C) s.heap := hP
  have hl := lv_entry ([.ref (ad a), .ref (ad f), .ref dz, .int (nI 0)]) (n := 4) (Nat.le_of_ble_eq_true rfl)
  rw [lg_entry_eq]
  generalize (lg_sl ([.ref (ad a), .ref (ad f), .ref dz, .int (nI 0)]) ++ List.replicate (4 - (lg_sl ([.ref (ad a), .ref (ad f), .ref dz, .int (nI 0)])).length) Slot.unset).toArray = ls at hl ⊢
  have hl : lv_has ls 4 [(0, .ref (ad a)), (1, .ref (ad f)), (2, .ref dz), (3, .int (nI 0))] := hl
  refine lv_iload_n hx hb dJx4a65c_add_72be8_0 rfl (lv_at hl 3 rfl) ?_
  refine lv_aload_n hx hb dJx4a65c_add_72be8_1 rfl (lv_at hl 2 rfl) ?_
  refine va_tlen hx hb hZ.2.1 hS (v := nI 0) rfl dJx4a65c_add_72be8_2 ?_
  refine lv_icmp_ne (tgt := 11) hx hb dJx4a65c_add_72be8_3 (by decide) (fun c9 => absurd (by decide) c9) (fun _ => ?_)
  refine lv_aload_n hx hb dJx4a65c_add_72be8_6 rfl (lv_at hl 0 rfl) ?_
  refine iwg_r (k := N) (va_runV (As := []) (rest := []) ⟨hx, hb, hml, hown, hts⟩ (kJx4a65c_grow_d5877 l G (N) ad _ a dz (by omega) (mc) (ga) _) (cwV 0 hts gJx4a65c_add_72be8_Jx4a65c_grow_d5877 rfl rfl rfl (by decide +kernel) ⟨Nat.le_of_ble_eq_true rfl, Nat.le_of_ble_eq_true rfl⟩) (iPVZ hK hV hZ hS hA hP hD (by omega) (ga) rfl []) rfl rfl hl.1 rfl (lv_room (Nat.le_of_ble_eq_true rfl)) dJx4a65c_add_72be8_7 ⟨Nat.le_of_ble_eq_true rfl, Nat.le_of_ble_eq_true rfl⟩) hD hS hA (fun ad1 C1 H locs hw8 hP hD hS => ?_)
  dsimp only at hw8
  obtain ⟨e1, c1, q1_a, q1_N⟩ := hw8
  have k1_f : C1 f = ob 7 [.int f0, .int f1, .ref f2, .int f3, .ref f4] := (c1 _ (by omega) (by omega)).trans (gf)
  have ea1 : ∀ j, j < N → ad1 j = ad j := fun j h => e1 j (by omega)
  have ca1 : ∀ j, j < N → j ≠ a → C1 j = C j := fun j h hx9 => (c1 j (by omega) (by omega)).trans (rfl)
  have hl : lv_has ls 4 [(0, .ref (ad1 a)), (1, .ref (ad1 f)), (2, .ref dz), (3, .int (nI 0))] := by rw [e1 a (by omega), e1 f (by omega)]; exact hl
  refine lv_astore_n (lv' := [(2, .ref (ad1 N)), (0, .ref (ad1 a)), (1, .ref (ad1 f)), (3, .int (nI 0))]) hx hb dJx4a65c_add_72be8_10 rfl hl (by decide) rfl (fun ls hl => ?_)
  refine lv_aload_n hx hb dJx4a65c_add_72be8_11 rfl (lv_at hl 0 rfl) ?_
  refine lv_iload_n hx hb dJx4a65c_add_72be8_12 rfl (lv_at hl 3 rfl) ?_
  refine lv_aload_n hx hb dJx4a65c_add_72be8_13 rfl (lv_at hl 2 rfl) ?_
  refine iw_aastO (t := 5) (ci := 7) (E := "java/lang/Object") hx hb hK rfl (vx_c7 hV) hP hD hS (by omega) (q1_N) (by omega) (k1_f) rfl (vp_in_nI (show 0 < 10 by omega) (by omega)) (nI_clamp (by omega)) dJx4a65c_add_72be8_14 (fun H locs hP hD hS => ?_)
  refine lv_aload_n hx hb dJx4a65c_add_72be8_15 rfl (lv_at hl 1 rfl) ?_
  refine lv_iload_n hx hb dJx4a65c_add_72be8_16 rfl (lv_at hl 3 rfl) ?_
  refine lv_iconst (v := nI 1) hx hb dJx4a65c_add_72be8_17 (by decide) ?_
  refine lv_iadd hx hb dJx4a65c_add_72be8_18 ?_
  refine lv_asI (y := nI 1) (nI_add _ _) ?_
  refine iw_put (ty := .int) hx hb hts iu_Jx4a65c_add_72be8_Jx4a65c tyJx4a65c tyJx4a65c_ok nmJx4a65c hown hK hP hD hS (by omega) ((va_un _ _ (by omega)).trans (q1_a)) rfl 2 (by decide) (hts _ il_Jx4a65c_add_72be8_48) (fun _ h9 => h9) rfl (by decide +kernel) rfl rfl (Nat.le_of_ble_eq_true rfl) rfl dJx4a65c_add_72be8_19 (fun H locs hP hD hS => ?_)
  refine W.widen (k := 1) (n := 10) (Nat.le_of_ble_eq_true rfl) (Nat.le_of_ble_eq_true rfl) ?_
  exact W.vret hx hb hr (fun t ht hW => ⟨⟨(ad1, va_up (va_up C1 N (ra G 5 10 (va_up (fun _ => none) 0 (some (ad1 f))))) a (ob 10 [.int mc, .ref (ad1 N), .int (nI 1)])), rfl, ⟨ea1, fun j h hx9 => (va_un _ _ (by omega)).trans ((va_un _ _ (by omega)).trans (ca1 j h hx9)), va_us _ _ _⟩, ⟨by rw [ht]; exact hP, hD⟩⟩, hS.F ht⟩) hS.2.2 dJx4a65c_add_72be8_22
abbrev rmJx4a65c_add_9ea2d : Room := { frames := 4, cells := 1, slots := 10, locals := 87 }
set_option maxRecDepth 20000 in
theorem iu_Jx4a65c_add_9ea2d_Jx4a65c : ∀ w ∈ u_ws RJx4a65c TJx4a65c 3, w ∈ wsJx4a65c_add_9ea2d := by decide +kernel
set_option maxRecDepth 20000 in
theorem il_Jx4a65c_add_9ea2d_63 : (Cond.fieldLink RJx4a65c 63 "java/util/ArrayList" "modCount" "I") ∈ wsJx4a65c_add_9ea2d := by decide +kernel
set_option maxRecDepth 20000 in
theorem il_Jx4a65c_add_9ea2d_samemodCount : (Cond.sameField "java/util/ArrayList" "java/util/AbstractList" "modCount" "I") ∈ wsJx4a65c_add_9ea2d := by decide +kernel
set_option maxRecDepth 20000 in
theorem il_Jx4a65c_add_9ea2d_9 : (Cond.fieldLink RJx4a65c 9 "java/util/ArrayList" "elementData" "[Ljava/lang/Object;") ∈ wsJx4a65c_add_9ea2d := by decide +kernel
set_option maxRecDepth 20000 in
theorem il_Jx4a65c_add_9ea2d_48 : (Cond.fieldLink RJx4a65c 48 "java/util/ArrayList" "size" "I") ∈ wsJx4a65c_add_9ea2d := by decide +kernel
set_option maxHeartbeats 4000000 in
set_option maxRecDepth 100000 in
theorem kJx4a65c_add_9ea2d (l : Launch) (G : iG) (N : Nat) (ad : Nat → Nat) (C : Nat → va_E) (a dz : Nat) (la9 : a < N) (ga : C a = ob 10 [.int (nI 0), .ref dz, .int (nI 0)]) (f : Nat) (lf9 : f < N) (haf : a ≠ f) {f0 f1 f3 : Int32} {f2 f4 : Nat} (gf : C f = ob 7 [.int f0, .int f1, .ref f2, .int f3, .ref f4]) (sz : Nat) : Met l yJx4a65c_add_9ea2d wsJx4a65c_add_9ea2d rmJx4a65c_add_9ea2d (iPreZ G (N) ad C dz sz [.ref (ad a), .ref (ad f)]) (va_Qi (fun (r : Int32) (u : iU) => (r = nI 1) ∧ (∀ j, j < N → u.1 j = ad j) ∧ (∀ j, j < N → j ≠ a → u.2 j = C j) ∧ u.2 a = ob 10 [.int (nI 1), .ref (u.1 N), .int (nI 1)]) (iB2 G (N + 1) (iA (N) ad sz)) (iA (N) ad sz)) 1 10 (iA (N) ad sz) := by
  refine Met.ofW (cc := cJx4a65c_add_9ea2d) (maxL := 2) (ret := (some .boolean)) (by decide) rfl ?_
  intro p e s m args below meth c s₁ B hml hv
  obtain ⟨rfl, ⟨⟨hsz, hP, hK, hD0⟩, hV⟩, hZ⟩ := hv
  have hx := B.exec
  have hb := B.bytes
  have hr := B.returns
  have hts := atoms_spec (ws := wsJx4a65c_add_9ea2d) B.pre
  have hown : s.vm.findClass RJx4a65c = some m.cls := findClass_of_methodNamed B.named
  have hlocks := B.notSynchronized
  subst hsz
  have hD := wl_self hD0 s.heap.size
  have hA : ∀ q : Nat, s.heap.size ≤ q → iA (N) ad s.heap.size q := fun q h => Or.inr h
  have hS : va_S (iA (N) ad s.heap.size) s.heap s.heap [] := va_S.rf
  have hP : va_P G.1 vwB (wl (N) ad C) s.heap := hP
  have hl := lv_entry ([.ref (ad a), .ref (ad f)]) (n := 2) (Nat.le_of_ble_eq_true rfl)
  rw [lg_entry_eq]
  generalize (lg_sl ([.ref (ad a), .ref (ad f)]) ++ List.replicate (2 - (lg_sl ([.ref (ad a), .ref (ad f)])).length) Slot.unset).toArray = ls at hl ⊢
  have hl : lv_has ls 2 [(0, .ref (ad a)), (1, .ref (ad f))] := hl
  refine lv_aload_n hx hb dJx4a65c_add_9ea2d_0 rfl (lv_at hl 0 rfl) ?_
  refine lv_dup hx hb dJx4a65c_add_9ea2d_1 rfl ?_
  refine iw_get hx hb hts iu_Jx4a65c_add_9ea2d_Jx4a65c hown hK hP (by omega) (ga) rfl 0 (by decide) (hts _ il_Jx4a65c_add_9ea2d_63) (u_same (hts _ il_Jx4a65c_add_9ea2d_samemodCount)) rfl dJx4a65c_add_9ea2d_2 ?_
  refine lv_iconst (v := nI 1) hx hb dJx4a65c_add_9ea2d_5 (by decide) ?_
  refine lv_iadd hx hb dJx4a65c_add_9ea2d_6 ?_
  refine lv_asI (y := nI 1) (nI_add _ _) ?_
  refine iw_put (ty := .int) hx hb hts iu_Jx4a65c_add_9ea2d_Jx4a65c tyJx4a65c tyJx4a65c_ok nmJx4a65c hown hK hP hD hS (by omega) (ga) rfl 0 (by decide) (hts _ il_Jx4a65c_add_9ea2d_63) (u_same (hts _ il_Jx4a65c_add_9ea2d_samemodCount)) rfl (by decide +kernel) rfl rfl (Nat.le_of_ble_eq_true rfl) rfl dJx4a65c_add_9ea2d_7 (fun H locs hP hD hS => ?_)
  refine lv_aload_n hx hb dJx4a65c_add_9ea2d_10 rfl (lv_at hl 0 rfl) ?_
  refine lv_aload_n hx hb dJx4a65c_add_9ea2d_11 rfl (lv_at hl 1 rfl) ?_
  refine lv_aload_n hx hb dJx4a65c_add_9ea2d_12 rfl (lv_at hl 0 rfl) ?_
  refine iw_get hx hb hts iu_Jx4a65c_add_9ea2d_Jx4a65c hown hK hP (by omega) (va_us _ _ _) rfl 1 (by decide) (hts _ il_Jx4a65c_add_9ea2d_9) (fun _ h9 => h9) rfl dJx4a65c_add_9ea2d_13 ?_
  refine lv_aload_n hx hb dJx4a65c_add_9ea2d_16 rfl (lv_at hl 0 rfl) ?_
  refine iw_get hx hb hts iu_Jx4a65c_add_9ea2d_Jx4a65c hown hK hP (by omega) (va_us _ _ _) rfl 2 (by decide) (hts _ il_Jx4a65c_add_9ea2d_48) (fun _ h9 => h9) rfl dJx4a65c_add_9ea2d_17 ?_
  refine iwg_v (va_runV (As := [.ref (ad f), .ref dz, .int (nI 0)]) (rest := []) ⟨hx, hb, hml, hown, hts⟩ (kJx4a65c_add_72be8 l G (N) ad _ a dz (by omega) (nI 1) (va_us _ _ _) f (by omega) haf ((va_un _ _ (Ne.symm haf)).trans (gf)) _) (cwV 3 hts gJx4a65c_add_9ea2d_Jx4a65c_add_72be8 rfl rfl rfl (by decide +kernel) ⟨Nat.le_of_ble_eq_true rfl, Nat.le_of_ble_eq_true rfl⟩) (iPVZ hK hV hZ hS hA hP hD (by omega) (va_us _ _ _) rfl [.ref (ad f), .ref dz, .int (nI 0)]) rfl rfl hl.1 rfl (lv_room (Nat.le_of_ble_eq_true rfl)) dJx4a65c_add_9ea2d_20 ⟨Nat.le_of_ble_eq_true rfl, Nat.le_of_ble_eq_true rfl⟩) hD hS hA (fun ad1 C1 H locs hw8 hP hD hS => ?_)
  dsimp only at hw8
  obtain ⟨e1, c1, q1_a⟩ := hw8
  have k1_f : C1 f = ob 7 [.int f0, .int f1, .ref f2, .int f3, .ref f4] := (c1 _ (by omega) (by omega)).trans ((va_un _ _ (Ne.symm haf)).trans (gf))
  have ea1 : ∀ j, j < N → ad1 j = ad j := fun j h => e1 j (by omega)
  have ca1 : ∀ j, j < N → j ≠ a → C1 j = C j := fun j h hx9 => (c1 j (by omega) (by omega)).trans ((va_un _ _ (by omega)).trans (rfl))
  have hl : lv_has ls 2 [(0, .ref (ad1 a)), (1, .ref (ad1 f))] := by rw [e1 a (by omega), e1 f (by omega)]; exact hl
  refine lv_iconst (v := nI 1) hx hb dJx4a65c_add_9ea2d_23 (by decide) ?_
  refine W.widen (k := 1) (n := 10) (Nat.le_of_ble_eq_true rfl) (Nat.le_of_ble_eq_true rfl) ?_
  exact W.zret (v := (nI 1)) (ty := .boolean) hx hb hr (by decide) (fun t ht hW => ⟨⟨_, (ad1, C1), rfl, ⟨rfl, ⟨ea1, fun j h hx9 => ca1 j h hx9, q1_a⟩⟩, ⟨by rw [ht]; exact hP, hD⟩⟩, hS.F ht⟩) hS.2.2 dJx4a65c_add_9ea2d_24
