set_option maxRecDepth 20000 in
theorem ggL_law_X6_init : GoodIn wsL_law wsX6_init := goodIn_r _ [10, 11, 12, 13, 14, 15, 16, 17, 18, 19, 20, 21, 22, 23, 24, 25, 26, 27, 28, 29, 30, 31, 32, 33, 34, 35, 36, 37, 38, 39, 40, 41, 42, 43, 44, 45, 46, 47, 48, 49, 50, 51, 52, 53, 54, 55, 56, 57, 58, 59, 60, 61, 62, 63, 64, 65, 66, 67, 68, 69, 70, 71, 72, 73, 74, 75, 76, 77, 78, 79, 80, 81, 82, 929, 930, 931, 912, 913, 914, 915, 916, 917, 918, 919, 920, 932, 933, 934, 935, 936, 937, 938, 939, 940, 941, 942, 943, 944, 945, 946, 947] (by decide +kernel) (by decide +kernel)
set_option maxRecDepth 20000 in
theorem gL_law_X6_init : GoodIn wsL_law (wsX6_init) := ggL_law_X6_init
set_option maxRecDepth 20000 in
theorem ggL_law_X9_init : GoodIn wsL_law wsX9_init := goodIn_r _ [85, 86, 12, 13, 42, 87, 88, 89, 51, 90, 91, 92, 93, 94, 95, 96, 97, 98, 99, 100, 101, 102, 103, 104, 105, 106, 107, 108, 109, 110, 921, 922, 923, 924, 925, 926, 927, 928, 948, 949, 950] (by decide +kernel) (by decide +kernel)
set_option maxRecDepth 20000 in
theorem gL_law_X9_init : GoodIn wsL_law (wsX9_init) := ggL_law_X9_init
/-! THE LAW'S WALK: the start, the switch, the end -/
abbrev cL (G : iG) (ad1 : Nat → Nat) (C1 : Nat → va_E) (b : Nat) : Nat → va_E := va_up (va_up C1 (b + 7) (ra G 3 6 (fun k => some (ad1 (b + 20 + 5 * k))))) (b + 8) (ra G 4 6 (fun k => some (ad1 (b + 50 + 4 * k))))
theorem cL_un {G : iG} {ad1 : Nat → Nat} {C1 : Nat → va_E} {b j : Nat} (h : j ≠ b + 7 ∧ j ≠ b + 8) : cL G ad1 C1 b j = C1 j := (va_un _ _ h.2).trans (va_un _ _ h.1)
theorem Cam_lift {G : iG} {ad ad1 : Nat → Nat} {C C1 : Nat → va_E} {N N1 b : Nat} {S : St} {H : Heap} (e : ∀ j, j < N → ad1 j = ad j) (c : ∀ j, j < N → C1 j = C j) (hN : N ≤ N1) (h : Cam G N ad C b S) (hP : va_P G.1 vwB (wl N1 ad1 C1) H) : va_P G.1 vwB (wl N1 ad1 (cL G ad1 C1 b)) H ∧ Cam G N1 ad1 (cL G ad1 C1 b) b S := by
  obtain ⟨hb, hok, h0, ⟨s1, s2, s3⟩, ⟨e1, e2, e3⟩, h7, h8, ⟨TF, tf⟩, ⟨TD, td⟩, ⟨TC, tc⟩, hfr, hfi⟩ := h
  have q7 := (c _ (by omega)).trans h7
  have q8 := (c _ (by omega)).trans h8
  refine ⟨?_, ?_⟩
  · have hP := wl_selfE hP q7
    have hP := wl_ra (g := fun k => some (ad1 (b + 20 + 5 * k))) hP (fun k hk => by rw [e _ (by omega)])
    have hP := wl_selfE hP ((va_un _ _ (by omega)).trans q8)
    exact wl_ra (g := fun k => some (ad1 (b + 50 + 4 * k))) hP (fun k hk => by rw [e _ (by omega)])
  · have k9 : ∀ j, j < N → j ≠ b + 7 ∧ j ≠ b + 8 → cL G ad1 C1 b j = C j := fun j h1 h2 => (cL_un h2).trans (c j h1)
    refine ⟨by omega, hok, (k9 _ (by omega) (by omega)).trans (h0.trans (by rw [e (b + 1) (by omega), e (b + 4) (by omega), e (b + 7) (by omega), e (b + 8) (by omega), e (b + 9) (by omega), e (b + 14) (by omega), e (b + 17) (by omega)])), ⟨(k9 _ (by omega) (by omega)).trans (s1.trans (by rw [e (b + 2) (by omega), e (b + 3) (by omega)])), (k9 _ (by omega) (by omega)).trans s2, (k9 _ (by omega) (by omega)).trans s3⟩, ⟨(k9 _ (by omega) (by omega)).trans (e1.trans (by rw [e (b + 5) (by omega), e (b + 6) (by omega)])), (k9 _ (by omega) (by omega)).trans e2, (k9 _ (by omega) (by omega)).trans e3⟩, (va_un _ _ (by omega)).trans (va_us _ _ _), va_us _ _ _, ⟨TF, isFr_up (isFr_up (isFr_gr e c (by omega) (by omega) tf) (by omega)) (by omega)⟩, ⟨TD, isPi_up (isPi_up (isPi_gr e c (by omega) (by omega) td) (by omega)) (by omega)⟩, ⟨TC, isPi_up (isPi_up (isPi_gr e c (by omega) (by omega) tc) (by omega)) (by omega)⟩, fun k hk => isFr_up (isFr_up (isFr_gr e c (by omega) (by omega) (hfr k hk)) (by omega)) (by omega), fun k hk => isFi_up (isFi_up (isFi_gr e c (by omega) (by omega) (hfi k hk)) (by omega)) (by omega)⟩
theorem Mod_gr {G : iG} {ad ad1 : Nat → Nat} {C C1 : Nat → va_E} {N N1 b dz : Nat} {th : Int32} (e : ∀ j, j < N → ad1 j = ad j) (c : ∀ j, j < N → C1 j = C j) (hN : N ≤ N1) (h : Mod G N ad C b dz th) : Mod G N1 ad1 C1 b dz th := by
  obtain ⟨hb, h0, h1, h2, h3, h4, h5, h6⟩ := h
  exact ⟨by omega, (c _ (by omega)).trans (h0.trans (by rw [e (b + 1) (by omega), e (b + 2) (by omega), e (b + 3) (by omega), e (b + 4) (by omega), e (b + 5) (by omega), e (b + 6) (by omega)])), (c _ (by omega)).trans h1, (c _ (by omega)).trans h2, (c _ (by omega)).trans h3, (c _ (by omega)).trans h4, (c _ (by omega)).trans h5, (c _ (by omega)).trans h6⟩
theorem and31 (v : Int32) : ∃ k : Nat, k < 32 ∧ v &&& nI 31 = nI k := by
  refine ⟨(v.toBitVec &&& 31#32).toNat, ?_, ?_⟩
  · have h : (v.toBitVec &&& 31#32).toNat ≤ 31 := by rw [BitVec.toNat_and]; exact Nat.and_le_right
    omega
  · apply Int32.toBitVec_inj.mp
    rw [Int32.toBitVec_and]
    show v.toBitVec &&& 31#32 = (Int32.ofNat _).toBitVec
    rw [Int32.toBitVec_ofNat', BitVec.ofNat_toNat, BitVec.setWidth_eq]
theorem i_ne0 {v : Int32} (h : ¬ v = 0) : v ≠ 0 := h
set_option maxHeartbeats 4000000 in
theorem law_end {p : Program} {l : Launch} {e : Env} {s : State} {m : MethodId} {below : List Frame} {meth : Method} {c : Code} {b L : Nat} {xs : Nat → Int32} (hx : p.tables.exec = Jvm.exec) (hb : c.code = cL_law) (hr : meth.sig.returnType = ret) (hlocks : meth.locks = false) (hX : va_X b L xs s s.heap) (hbl : b < s.heap.size) {H : Heap} {locs : List Loc} {ls : Array Slot} {i : Int32} (hi : nI L - nI 6 < i) (hS : va_S (aA s) s.heap H locs) (hl : lv_has ls 9 [(5, .int i), (0, .ref b)]) : W p l e room_1 s m #[Value.ref b] below meth c H locs 300 6500 (lw_Z below #[Value.ref b] s) (F0 m 28 ls []) := by
  have hbA : ¬ aA s b := Nat.not_le.mpr hbl
  refine lv_iload hx hb dL_law_28 (lv_at hl 0 rfl) ?_
  refine lv_aload_n hx hb dL_law_30 rfl (lv_at hl 1 rfl) ?_
  refine va_slen hx hb hX hbl hbA hS dL_law_31 ?_
  refine lv_asI (y := nI L) rfl ?_
  refine lv_bipush (v := nI 6) hx hb dL_law_32 (by decide) ?_
  refine lv_isub hx hb dL_law_34 ?_
  refine lv_icmp_gt (tgt := 1912) hx hb dL_law_35 (by decide) (fun _ => ?_) (fun c9 => absurd hi c9)
  refine lv_iconst (v := 1) hx hb dL_law_1912 (by decide) ?_
  refine va_forget (fun q hq => hS.2.2 q hq) ?_
  refine W.widen (k := 600002) (n := 7302232) (Nat.le_of_ble_eq_true rfl) (Nat.le_of_ble_eq_true rfl) ?_
  exact lw_ret (Drawn.sameBut.refl s.drawn lw_cs) hx hb hr hlocks dL_law_1913
set_option maxRecDepth 20000 in
theorem il_L_law_8 : (Cond.classLink RL 8 RX6) ∈ wsL_law := by decide +kernel
set_option maxRecDepth 20000 in
theorem il_L_law_instX6 : (Cond.instantiable RX6 9) ∈ wsL_law := by decide +kernel
set_option maxRecDepth 20000 in
theorem il_L_law_iniX6 : (Cond.initialized RX6) ∈ wsL_law := by decide +kernel
set_option maxRecDepth 20000 in
theorem iu_L_law_6 : ∀ w ∈ u_ws RX6 TX6 9, w ∈ wsL_law := by decide +kernel
set_option maxRecDepth 20000 in
theorem il_L_law_im_X6_init : (Cond.instanceMethod yX6_init) ∈ wsL_law := by decide +kernel
set_option maxRecDepth 20000 in
theorem il_L_law_92 : (Cond.methodLink RL 92 yX6_init) ∈ wsL_law := by decide +kernel
set_option maxRecDepth 20000 in
theorem il_L_law_93 : (Cond.classLink RL 93 RX9) ∈ wsL_law := by decide +kernel
set_option maxRecDepth 20000 in
theorem il_L_law_instX9 : (Cond.instantiable RX9 8) ∈ wsL_law := by decide +kernel
set_option maxRecDepth 20000 in
theorem il_L_law_iniX9 : (Cond.initialized RX9) ∈ wsL_law := by decide +kernel
set_option maxRecDepth 20000 in
theorem iu_L_law_9 : ∀ w ∈ u_ws RX9 TX9 8, w ∈ wsL_law := by decide +kernel
set_option maxRecDepth 20000 in
theorem il_L_law_im_X9_init : (Cond.instanceMethod yX9_init) ∈ wsL_law := by decide +kernel
set_option maxRecDepth 20000 in
theorem il_L_law_95 : (Cond.methodLink RL 95 yX9_init) ∈ wsL_law := by decide +kernel
set_option maxRecDepth 20000 in
theorem il_L_law_arrlong : (Cond.arrayClass .long) ∈ wsL_law := by decide +kernel
set_option maxRecDepth 20000 in
theorem il_L_law_arrdouble : (Cond.arrayClass .double) ∈ wsL_law := by decide +kernel
set_option maxHeartbeats 4000000 in
set_option maxRecDepth 100000 in
theorem law_start {p : Program} {l : Launch} {e : Env} {s : State} {m : MethodId} {below : List Frame} {meth : Method} {c : Code} {b dz : Nat} {xs : Nat → Int32} {G : iG} {Q : State → Prop} {L : Nat} (hx : p.tables.exec = Jvm.exec) (hb : c.code = cL_law) (hml : c.maxLocals = 9) (hts : ∀ w ∈ wsL_law, w.before #[Value.ref b] s = true) (hown : s.vm.findClass RL = some m.cls) (hK : KB G s) (hV : VX s) (hZ : ZD dz (aA s) s s.heap) {ad : Nat → Nat} {C : Nat → va_E} (k28 : ∀ (ad : Nat → Nat) (C : Nat → va_E) (H : Heap) (locs : List Loc) (ls : Array Slot), Cam G 83 ad C 0 S0 → Mod G 83 ad C 74 dz (nI 0) → C 81 = la G 1 (fun _ => 0) → va_P G.1 vwB (wl 83 ad C) H → va_D (aA s) (wl 83 ad C) → va_S (aA s) s.heap H locs → lv_has ls 9 [(5, .int (nI 0)), (4, .ref (ad 82)), (3, .ref (ad 81)), (2, .ref (ad 74)), (1, .ref (ad 0)), (0, .ref b)] → W p l e room_1 s m #[Value.ref b] below meth c H locs 83 1901 Q (F0 m 28 ls [])) : W p l e room_1 s m #[Value.ref b] below meth c s.heap [] 0 0 Q (entryFrame m ([Value.ref b] : List Value).toArray 9) := by
  have hA : ∀ q : Nat, s.heap.size ≤ q → aA s q := fun _ h => h
  have hS : va_S (aA s) s.heap s.heap [] := va_S.rf
  have hP : va_P G.1 vwB (wl 0 ad C) s.heap := fun k q h => by simp [wl] at h
  have hD : va_D (aA s) (wl 0 ad C) := ⟨fun i j p q h => by simp [wl] at h, fun k q h => by simp [wl] at h⟩
  have hl := lv_entry ([.ref b]) (n := 9) (Nat.le_of_ble_eq_true rfl)
  rw [lg_entry_eq]
  generalize (lg_sl ([.ref b]) ++ List.replicate (9 - (lg_sl ([.ref b])).length) Slot.unset).toArray = ls at hl ⊢
  have hl : lv_has ls 9 [(0, .ref b)] := hl
  refine iw_new (ci := 6) (fs := [.null, .null, .null, .null, .int (nI 0), .int (nI 0), .null, .null, .null]) (T := TX6) (n := 9) hx hb hts iu_L_law_6 tyX6 tyX6_ok hown (hts _ il_L_law_8) (hts _ il_L_law_instX6) (hts _ il_L_law_iniX6) hK hP hD hS hA rfl (fun j hj => by rcases (show j = 0 ∨ j = 1 ∨ j = 2 ∨ j = 3 ∨ j = 4 ∨ j = 5 ∨ j = 6 ∨ j = 7 ∨ j = 8 by omega) with rfl | rfl | rfl | rfl | rfl | rfl | rfl | rfl | rfl <;> rfl) (Nat.le_of_ble_eq_true rfl) (Nat.le_of_ble_eq_true rfl) dL_law_0 (fun ad1 C1 H e1 c1 n1 hP hD hS => ?_)
  have ea1 : ∀ j, j < 0 → ad1 j = ad j := fun j h => e1 j (by omega)
  have ca1 : ∀ j, j < 0 → C1 j = C j := fun j h => (c1 j (by omega)).trans (rfl)
  refine lv_dup hx hb dL_law_3 rfl ?_
  refine iwg_v (va_runI (As := []) (rest := [.ref (ad1 0)]) ⟨hx, hb, hml, hown, hts⟩ (kX6_init l G (0) ad1 _ (n1) _) (cwI 0 hts gL_law_X6_init rfl rfl rfl (hts _ il_L_law_iniX6) (hts _ il_L_law_92) (hts _ il_L_law_im_X6_init) rfl (by decide +kernel) ⟨Nat.le_of_ble_eq_true rfl, Nat.le_of_ble_eq_true rfl⟩) (iPSV hK hV hP hD [.ref (ad1 0)])  rfl rfl hl.1 rfl (lv_room (Nat.le_of_ble_eq_true rfl)) dL_law_4 ⟨Nat.le_of_ble_eq_true rfl, Nat.le_of_ble_eq_true rfl⟩) hD hS hA (fun ad2 C2 H locs hw8 hP hD hS => ?_)
  dsimp only at hw8
  obtain ⟨e2, c2, hcam2⟩ := hw8
  have ea2 : ∀ j, j < 0 → ad2 j = ad j := fun j h => (e2 j (by omega)).trans (ea1 j h)
  have ca2 : ∀ j, j < 0 → C2 j = C j := fun j h => (c2 j (by omega)).trans (ca1 j h)
  refine W.eq (g2 := F0 m 7 ls [.ref (ad2 0)]) (by first | (rw [e2 0 (by omega)]; done) | (rw [e2 0 (by omega)]; rfl)) ?_
  refine lv_astore_n (lv' := [(1, .ref (ad2 0)), (0, .ref b)]) hx hb dL_law_7 rfl hl (by decide) rfl (fun ls hl => ?_)
  refine iw_new (ci := 9) (fs := [.int (nI 0), .null, .null, .null, .null, .int (nI 0), .null, .null]) (T := TX9) (n := 8) hx hb hts iu_L_law_9 tyX9 tyX9_ok hown (hts _ il_L_law_93) (hts _ il_L_law_instX9) (hts _ il_L_law_iniX9) hK hP hD hS hA rfl (fun j hj => by rcases (show j = 0 ∨ j = 1 ∨ j = 2 ∨ j = 3 ∨ j = 4 ∨ j = 5 ∨ j = 6 ∨ j = 7 by omega) with rfl | rfl | rfl | rfl | rfl | rfl | rfl | rfl <;> rfl) (Nat.le_of_ble_eq_true rfl) (Nat.le_of_ble_eq_true rfl) dL_law_8 (fun ad3 C3 H e3 c3 n3 hP hD hS => ?_)
  have ea3 : ∀ j, j < 0 → ad3 j = ad j := fun j h => (e3 j (by omega)).trans (ea2 j h)
  have ca3 : ∀ j, j < 0 → C3 j = C j := fun j h => (c3 j (by omega)).trans (ca2 j h)
  have hl : lv_has ls 9 [(1, .ref (ad3 0)), (0, .ref b)] := by rw [e3 0 (by omega)]; exact hl
  refine lv_dup hx hb dL_law_11 rfl ?_
  refine iwg_v (va_runI (As := []) (rest := [.ref (ad3 (0 + 74))]) ⟨hx, hb, hml, hown, hts⟩ (kX9_init l G (0 + 74) ad3 _ dz (n3) _) (cwI 0 hts gL_law_X9_init rfl rfl rfl (hts _ il_L_law_iniX9) (hts _ il_L_law_95) (hts _ il_L_law_im_X9_init) rfl (by decide +kernel) ⟨Nat.le_of_ble_eq_true rfl, Nat.le_of_ble_eq_true rfl⟩) (iPSZ hK hV hZ hS hA hP hD [.ref (ad3 (0 + 74))])  rfl rfl hl.1 rfl (lv_room (Nat.le_of_ble_eq_true rfl)) dL_law_12 ⟨Nat.le_of_ble_eq_true rfl, Nat.le_of_ble_eq_true rfl⟩) hD hS hA (fun ad4 C4 H locs hw8 hP hD hS => ?_)
  dsimp only at hw8
  obtain ⟨e4, c4, hmod4⟩ := hw8
  have ea4 : ∀ j, j < 0 → ad4 j = ad j := fun j h => (e4 j (by omega)).trans (ea3 j h)
  have ca4 : ∀ j, j < 0 → C4 j = C j := fun j h => (c4 j (by omega)).trans (ca3 j h)
  have hl : lv_has ls 9 [(1, .ref (ad4 0)), (0, .ref b)] := by rw [e4 0 (by omega)]; exact hl
  refine W.eq (g2 := F0 m 15 ls [.ref (ad4 (0 + 74))]) (by first | (rw [e4 (0 + 74) (by omega)]; done) | (rw [e4 (0 + 74) (by omega)]; rfl)) ?_
  refine lv_astore_n (lv' := [(2, .ref (ad4 (0 + 74))), (1, .ref (ad4 0)), (0, .ref b)]) hx hb dL_law_15 rfl hl (by decide) rfl (fun ls hl => ?_)
  refine lv_iconst (v := nI 1) hx hb dL_law_16 (by decide) ?_
  refine iw_newL (N' := 1) hx hb (hts _ il_L_law_arrlong) hK hP hD hS hA (by decide) (by decide) (Nat.le_of_ble_eq_true rfl) (Nat.le_of_ble_eq_true rfl) (Nat.le_of_ble_eq_true rfl) dL_law_17 (fun ad5 C5 H e5 c5 n5 hP hD hS => ?_)
  have ea5 : ∀ j, j < 0 → ad5 j = ad j := fun j h => (e5 j (by omega)).trans (ea4 j h)
  have ca5 : ∀ j, j < 0 → C5 j = C j := fun j h => (c5 j (by omega)).trans (ca4 j h)
  have hl : lv_has ls 9 [(2, .ref (ad5 (0 + 74))), (1, .ref (ad5 0)), (0, .ref b)] := by rw [e5 (0 + 74) (by omega), e5 0 (by omega)]; exact hl
  refine lv_astore_n (lv' := [(3, .ref (ad5 (0 + 81))), (2, .ref (ad5 (0 + 74))), (1, .ref (ad5 0)), (0, .ref b)]) hx hb dL_law_19 rfl hl (by decide) rfl (fun ls hl => ?_)
  refine lv_iconst (v := nI 1) hx hb dL_law_20 (by decide) ?_
  refine iw_newD (N' := 1) hx hb (hts _ il_L_law_arrdouble) hK hP hD hS hA (by decide) (by decide) (Nat.le_of_ble_eq_true rfl) (Nat.le_of_ble_eq_true rfl) (Nat.le_of_ble_eq_true rfl) dL_law_21 (fun ad6 C6 H e6 c6 n6 hP hD hS => ?_)
  have k6_0_81 : C6 (0 + 81) = la G 1 (fun _ => 0) := (c6 _ (by omega)).trans (n5)
  have ea6 : ∀ j, j < 0 → ad6 j = ad j := fun j h => (e6 j (by omega)).trans (ea5 j h)
  have ca6 : ∀ j, j < 0 → C6 j = C j := fun j h => (c6 j (by omega)).trans (ca5 j h)
  have hl : lv_has ls 9 [(3, .ref (ad6 (0 + 81))), (2, .ref (ad6 (0 + 74))), (1, .ref (ad6 0)), (0, .ref b)] := by rw [e6 (0 + 81) (by omega), e6 (0 + 74) (by omega), e6 0 (by omega)]; exact hl
  refine lv_astore (lv' := [(4, .ref (ad6 (0 + 82))), (3, .ref (ad6 (0 + 81))), (2, .ref (ad6 (0 + 74))), (1, .ref (ad6 0)), (0, .ref b)]) hx hb dL_law_23 hl (by decide) rfl (fun ls hl => ?_)
  refine lv_iconst (v := nI 0) hx hb dL_law_25 (by decide) ?_
  refine lv_istore (lv' := [(5, .int (nI 0)), (4, .ref (ad6 (0 + 82))), (3, .ref (ad6 (0 + 81))), (2, .ref (ad6 (0 + 74))), (1, .ref (ad6 0)), (0, .ref b)]) hx hb dL_law_26 hl (by decide) rfl (fun ls hl => ?_)
  have hmod5 := Mod_gr (N1 := 82) e5 c5 (by decide) hmod4
  have hmod6 := Mod_gr (N1 := 83) e6 c6 (by decide) hmod5
  obtain ⟨hP9, hcam9⟩ := Cam_lift (N1 := 83) (ad1 := ad6) (C1 := C6) (fun j h => (e6 j (by omega)).trans ((e5 j (by omega)).trans ((e4 j (by omega)).trans (e3 j (by omega))))) (fun j h => (c6 j (by omega)).trans ((c5 j (by omega)).trans ((c4 j (by omega)).trans (c3 j (by omega))))) (by decide) hcam2 hP
  exact k28 _ _ H locs ls hcam9 (Mod_same hmod6 (fun i h1 h2 => cL_un (by omega))) ((cL_un (by decide)).trans ((c6 81 (by decide)).trans n5)) hP9 (wl_D hD _) hS hl
