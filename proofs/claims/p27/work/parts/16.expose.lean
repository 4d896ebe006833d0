set_option maxRecDepth 20000 in
theorem ggX4_expose_X6_placeOf : GoodIn wsX4_expose wsX6_placeOf := goodIn_r _ [5] (by decide +kernel) (by decide +kernel)
set_option maxRecDepth 20000 in
theorem gX4_expose_X6_placeOf_n23 : GoodIn wsX4_expose (wsX6_placeOf) := ggX4_expose_X6_placeOf
set_option maxRecDepth 20000 in
theorem ggX4_expose_X6_colourSeen : GoodIn wsX4_expose wsX6_colourSeen := goodIn_r _ [7] (by decide +kernel) (by decide +kernel)
set_option maxRecDepth 20000 in
theorem gX4_expose_X6_colourSeen_n27 : GoodIn wsX4_expose (wsX6_colourSeen) := ggX4_expose_X6_colourSeen
set_option maxRecDepth 20000 in
theorem ggX4_expose_X3_lightAt : GoodIn wsX4_expose wsX3_lightAt := goodIn_r _ [12, 13, 14, 15, 16, 17, 11, 18, 19, 39, 40, 41] (by decide +kernel) (by decide +kernel)
set_option maxRecDepth 20000 in
theorem gX4_expose_X3_lightAt : GoodIn wsX4_expose (wsV RX4 30 RX3 yX3_lightAt wsX3_lightAt) := goodIn_app (goodIn_of _ (by decide +kernel)) ggX4_expose_X3_lightAt
set_option maxRecDepth 20000 in
theorem ggX4_expose_X4_rawOf : GoodIn wsX4_expose wsX4_rawOf := goodIn_r _ [23, 24, 25, 26, 27, 28, 29, 30] (by decide +kernel) (by decide +kernel)
set_option maxRecDepth 20000 in
theorem gX4_expose_X4_rawOf : GoodIn wsX4_expose (va_wsS RX4 41 yX4_rawOf wsX4_rawOf) := goodIn_app (goodIn_of _ (by decide +kernel)) ggX4_expose_X4_rawOf
theorem wl_selfE {D : va_G} {cl : List vw_C} {N : Nat} {ad : Nat → Nat} {C : Nat → va_E} {H : Heap} {j : Nat} {x : va_E} (hP : va_P D cl (wl N ad C) H) (h : C j = x) : va_P D cl (wl N ad (va_up C j x)) H := by
  rw [va_self C h]
  exact hP
abbrev rmX4_expose : Room := { frames := 2, cells := 0, slots := 0, locals := 45 }
set_option maxRecDepth 20000 in
theorem il_X4_expose_iniX6 : (Cond.initialized RX6) ∈ wsX4_expose := by decide +kernel
set_option maxRecDepth 20000 in
theorem il_X4_expose_st_X6_placeOf : (Cond.static yX6_placeOf) ∈ wsX4_expose := by decide +kernel
set_option maxRecDepth 20000 in
theorem il_X4_expose_st_X6_colourSeen : (Cond.static yX6_colourSeen) ∈ wsX4_expose := by decide +kernel
set_option maxRecDepth 20000 in
theorem iu_X4_expose_1 : ∀ w ∈ u_ws RX1 TX1 5, w ∈ wsX4_expose := by decide +kernel
set_option maxRecDepth 20000 in
theorem iu_X4_expose_4 : ∀ w ∈ u_ws RX4 TX4 3, w ∈ wsX4_expose := by decide +kernel
set_option maxRecDepth 20000 in
theorem il_X4_expose_9 : (Cond.fieldLink RX4 9 "BayerGate$Sensor" "hows" "[I") ∈ wsX4_expose := by decide +kernel
set_option maxHeartbeats 4000000 in
set_option maxRecDepth 100000 in
theorem lX4_expose_x {p : Program} {l : Launch} {e : Env} {s : State} {m : MethodId} {args : Array Value} {below : List Frame} {meth : Method} {c : Code} {Q : State → Prop} {A : Nat → Prop} {H0 : Heap} {cells slots : Nat} (hx : p.tables.exec = Jvm.exec) (hb : c.code = cX4_expose) (hml : c.maxLocals = 10) (hr : meth.sig.returnType = (some .int)) (hts : ∀ w ∈ wsX4_expose, w.before args s = true) (hown : s.vm.findClass RX4 = some m.cls) {G : iG} (hK : KB G s) (hA : ∀ q, H0.size ≤ q → A q) {N : Nat} {ad : Nat → Nat} {C : Nat → va_E}  (hcc : cells ≤ rmX4_expose.cells) (hcs : slots ≤ rmX4_expose.slots) {sb ss sf : Nat} {sh : Nat → Nat} {fac : Nat → UInt32} {gq : Nat} (lsb : sb < N) (lss : ss < N) (lsf : sf < N) (hsb : C sb = ob 3 [.ref (ad ss), .ref (ad sf), .int (nI gq)]) (hss : C ss = ia G 192 (fun i => nI (sh i))) (hsf : C sf = fa G 3 fac) {nb nh nm : Nat} {hw : Nat → Nat} {mp : Nat → Bool} {dr : Nat} (lnb : nb < N) (lnh : nh < N) (lnm : nm < N) (hnb : C nb = ob 4 [.ref (ad nh), .ref (ad nm), .int (nI dr)]) (hnh : C nh = ia G 64 (fun i => nI (hw i))) (hnm : C nm = za G 64 (bI mp)) {fb fr fe : Nat} {t0 g0 q0 : Int32} {rw : Nat → Nat} (lfb : fb < N) (lfr : fr < N) (hfb : C fb = ob 1 [.ref (ad fr), .ref (ad fe), .int t0, .int g0, .int q0]) (hfr : C fr = ia G 64 (fun i => nI (rw i))) (dfn : fr ≠ nh) (dfm : fr ≠ nm) (hdr : dr < 61) {time gain : Nat} (ht0 : 0 < time) (ht1 : time < 65) (hfac : ∀ k, k < 3 → fin32 (fac k)) {y : Nat} (hy8 : y < 8) (kx : ∀ (H : Heap) (locs : List Loc) (ls : Array Slot), va_P G.1 vwB (wl N ad (va_up C fr (ia G 64 (fun i => nI (flI (exN hw sh fac dr time gain) rw (8 * y + 8) i))))) H → va_D A (wl N ad (va_up C fr (ia G 64 (fun i => nI (flI (exN hw sh fac dr time gain) rw (8 * y + 8) i))))) → va_S A H0 H locs → lv_has ls 10 [(6, .int (nI y)), (5, .int (nI (drN dr (8 * y + 8)))), (0, .ref (ad nb)), (1, .ref (ad sb)), (2, .int (nI time)), (3, .int (nI gain)), (4, .ref (ad fb))] → W p l e rmX4_expose s m args below meth c H locs cells slots Q (F0 m 91 ls [])) : ∀ (d : Nat) (x : Nat) (H : Heap) (locs : List Loc) (ls : Array Slot), 8 - x < d → x ≤ 8 → va_P G.1 vwB (wl N ad (va_up C fr (ia G 64 (fun i => nI (flI (exN hw sh fac dr time gain) rw (8 * y + x) i))))) H → va_D A (wl N ad (va_up C fr (ia G 64 (fun i => nI (flI (exN hw sh fac dr time gain) rw (8 * y + x) i))))) → va_S A H0 H locs → lv_has ls 10 [(7, .int (nI x)), (5, .int (nI (drN dr (8 * y + x)))), (6, .int (nI y)), (0, .ref (ad nb)), (1, .ref (ad sb)), (2, .int (nI time)), (3, .int (nI gain)), (4, .ref (ad fb))] → W p l e rmX4_expose s m args below meth c H locs cells slots Q (F0 m 19 ls []) := by
  intro d
  induction d with
  | zero => intro x H locs ls hd; exact absurd hd (Nat.not_lt_zero _)
  | succ d ih =>
    intro x H locs ls hd h2 hP hD hS hl
    have n_sb_fr : sb ≠ fr := fun h => by rw [h, hfr] at hsb; simp at hsb
    have n_ss_fr : ss ≠ fr := fun h => by rw [h, hfr] at hss; simp at hss
    have n_sf_fr : sf ≠ fr := fun h => by rw [h, hfr] at hsf; simp at hsf
    have n_nb_fr : nb ≠ fr := fun h => by rw [h, hfr] at hnb; simp at hnb
    have n_fb_fr : fb ≠ fr := fun h => by rw [h, hfr] at hfb; simp at hfb
    have n_sb_fb : sb ≠ fb := fun h => by rw [h, hfb] at hsb; simp at hsb
    have n_nb_fb : nb ≠ fb := fun h => by rw [h, hfb] at hnb; simp at hnb
    refine lv_iload hx hb dX4_expose_19 (lv_at hl 0 rfl) ?_
    refine lv_bipush (v := nI 8) hx hb dX4_expose_21 (by decide) ?_
    refine lv_icmp_ge (tgt := 91) hx hb dX4_expose_23 (by decide) (fun c23 => ?_) (fun c23 => ?_)
    · have h5 : x = 8 := by have := (nI_leI (by omega) (by omega)).mp c23; omega
      subst h5
      exact kx H locs ls hP hD hS (lv_sub hl [2, 1, 3, 4, 5, 6, 7] rfl)
    · have h4 : x < 8 := by have := mt (nI_leI (by omega) (by omega)).mpr c23; omega
      have hd8 := drN_lt hdr (8 * y + x)
      refine lv_iload hx hb dX4_expose_26 (lv_at hl 0 rfl) ?_
      refine lv_iload hx hb dX4_expose_28 (lv_at hl 2 rfl) ?_
      refine iw_pi (va_runSN (As := [.int (nI x), .int (nI y)]) (rest := []) ⟨hx, hb, hml, hown, hts⟩ (kX6_placeOf l x y) ⟨va_cnB (host := RX6) 2 hts gX4_expose_X6_placeOf_n23 rfl rfl rfl (nw_RX4_23 hK.2) (hts _ il_X4_expose_iniX6) (by decide +kernel) ⟨Nat.le_of_ble_eq_true rfl, Nat.le_of_ble_eq_true rfl⟩, (hts _ il_X4_expose_st_X6_placeOf), trivial⟩ ⟨fun a U g mk q => q, fun U hU hW => ⟨rfl, trivial⟩⟩ rfl rfl hl.1 rfl (lv_room (Nat.le_of_ble_eq_true rfl)) dX4_expose_30 ⟨hcc, hcs⟩) hP hS (fun r8 u8 H locs hw8 hP hS => ?_)
      refine lv_asI hw8 ?_
      refine lv_istore (lv' := [(8, .int (nI (8 * y + x))), (7, .int (nI x)), (5, .int (nI (drN dr (8 * y + x)))), (6, .int (nI y)), (0, .ref (ad nb)), (1, .ref (ad sb)), (2, .int (nI time)), (3, .int (nI gain)), (4, .ref (ad fb))]) hx hb dX4_expose_33 hl (by decide) rfl (fun ls hl => ?_)
      refine lv_iconst (v := nI 2) hx hb dX4_expose_35 (by decide) ?_
      refine lv_iload hx hb dX4_expose_36 (lv_at hl 2 rfl) ?_
      refine lv_imul hx hb dX4_expose_38 ?_
      refine lv_asI (y := nI (2 * (drN dr (8 * y + x)))) (pk_mul _ _) ?_
      refine lv_iconst (v := nI 5) hx hb dX4_expose_39 (by decide) ?_
      refine lv_iadd hx hb dX4_expose_40 ?_
      refine lv_asI (y := nI ((2 * (drN dr (8 * y + x))) + 5)) (nI_add _ _) ?_
      refine lv_bipush (v := nI 61) hx hb dX4_expose_41 (by decide) ?_
      refine lv_irem hx hb dX4_expose_43 (by decide) ?_
      refine lv_asI (y := nI (((2 * (drN dr (8 * y + x))) + 5) % 61)) (pk_rem (by omega) (by omega) (by omega)) ?_
      refine lv_asI (y := nI (drN dr (8 * y + x + 1))) rfl ?_
      refine lv_istore (lv' := [(5, .int (nI (drN dr (8 * y + x + 1)))), (8, .int (nI (8 * y + x))), (7, .int (nI x)), (6, .int (nI y)), (0, .ref (ad nb)), (1, .ref (ad sb)), (2, .int (nI time)), (3, .int (nI gain)), (4, .ref (ad fb))]) hx hb dX4_expose_44 hl (by decide) rfl (fun ls hl => ?_)
      refine lv_aload_n hx hb dX4_expose_46 rfl (lv_at hl 5 rfl) ?_
      refine lv_iload hx hb dX4_expose_47 (lv_at hl 1 rfl) ?_
      refine lv_iload hx hb dX4_expose_49 (lv_at hl 2 rfl) ?_
      refine lv_iload hx hb dX4_expose_51 (lv_at hl 3 rfl) ?_
      refine iw_pi (va_runSN (As := [.int (nI x), .int (nI y)]) (rest := [.int (nI (8 * y + x)), .ref (ad sb)]) ⟨hx, hb, hml, hown, hts⟩ (kX6_colourSeen l x y (by omega) (by omega)) ⟨va_cnB (host := RX6) 2 hts gX4_expose_X6_colourSeen_n27 rfl rfl rfl (nw_RX4_27 hK.2) (hts _ il_X4_expose_iniX6) (by decide +kernel) ⟨Nat.le_of_ble_eq_true rfl, Nat.le_of_ble_eq_true rfl⟩, (hts _ il_X4_expose_st_X6_colourSeen), trivial⟩ ⟨fun a U g mk q => q, fun U hU hW => ⟨rfl, trivial⟩⟩ rfl rfl hl.1 rfl (lv_room (Nat.le_of_ble_eq_true rfl)) dX4_expose_53 ⟨hcc, hcs⟩) hP hS (fun r8 u8 H locs hw8 hP hS => ?_)
      refine lv_asI hw8 ?_
      refine lv_iload_n hx hb dX4_expose_56 rfl (lv_at hl 6 rfl) ?_
      refine iw_f (va_runV (As := [.int (nI (8 * y + x)), .int (nI (colN x y)), .int (nI time)]) (rest := []) ⟨hx, hb, hml, hown, hts⟩ (kX3_lightAt l G N ad _ lsb lss lsf ((va_un _ _ n_sb_fr).trans (hsb)) ((va_un _ _ n_ss_fr).trans (hss)) ((va_un _ _ n_sf_fr).trans (hsf)) (8 * y + x) (colN x y) time (by omega) (colN_lt x y) ht0 ht1 (hfac _ (colN_lt x y)) _) (cwV 3 hts gX4_expose_X3_lightAt rfl rfl rfl (by decide +kernel) ⟨Nat.le_of_ble_eq_true rfl, Nat.le_of_ble_eq_true rfl⟩) (iPV hK hP hD lsb ((va_un _ _ n_sb_fr).trans (hsb)) rfl [.int (nI (8 * y + x)), .int (nI (colN x y)), .int (nI time)]) rfl rfl hl.1 rfl (lv_room (Nat.le_of_ble_eq_true rfl)) dX4_expose_57 ⟨hcc, hcs⟩) hD hS hA (fun r8 u8 H locs hw8 hP hD hS => ?_)
      obtain ⟨hr8, hu8⟩ := hw8
      refine lv_asF hr8 ?_
      rw [hu8] at hP hD
      refine lv_fstore (lv' := [(9, .float (liF sh fac (8 * y + x) (colN x y) time)), (5, .int (nI (drN dr (8 * y + x + 1)))), (8, .int (nI (8 * y + x))), (7, .int (nI x)), (6, .int (nI y)), (0, .ref (ad nb)), (1, .ref (ad sb)), (2, .int (nI time)), (3, .int (nI gain)), (4, .ref (ad fb))]) hx hb dX4_expose_60 hl (by decide) rfl (fun ls hl => ?_)
      refine lv_aload hx hb dX4_expose_62 (lv_at hl 9 rfl) ?_
      refine iw_getN hx hb hts iu_X4_expose_1 hown hK hP lfb ((va_un _ _ n_fb_fr).trans (hfb)) rfl 0 (by decide) (nw_RX4_36 hK.2) (fun _ h9 => h9) rfl dX4_expose_64 ?_
      refine lv_iload hx hb dX4_expose_67 (lv_at hl 2 rfl) ?_
      refine lv_aload_n hx hb dX4_expose_69 rfl (lv_at hl 5 rfl) ?_
      refine iw_get hx hb hts iu_X4_expose_4 hown hK hP lnb ((va_un _ _ n_nb_fr).trans (hnb)) rfl 0 (by decide) (hts _ il_X4_expose_9) (fun _ h9 => h9) rfl dX4_expose_70 ?_
      refine lv_iload hx hb dX4_expose_73 (lv_at hl 2 rfl) ?_
      refine iw_iald (v := nI (hw (8 * y + x))) hx hb hK hP lnh ((va_un _ _ (Ne.symm dfn)).trans (hnh)) (vp_in_nI (show 8 * y + x < 64 by omega) (by omega)) (congrArg (fun i => nI (hw i)) (nI_clamp (by omega))) dX4_expose_75 ?_
      refine lv_fload hx hb dX4_expose_76 (lv_at hl 0 rfl) ?_
      refine lv_iload_n hx hb dX4_expose_78 rfl (lv_at hl 8 rfl) ?_
      refine lv_iload hx hb dX4_expose_79 (lv_at hl 1 rfl) ?_
      refine iw_pi (va_runS (As := [.int (nI (hw (8 * y + x))), .float (liF sh fac (8 * y + x) (colN x y) time), .int (nI gain), .int (nI (drN dr (8 * y + x + 1)))]) (rest := [.int (nI (8 * y + x)), .ref (ad fr)]) ⟨hx, hb, hml, hown, hts⟩ (kX4_rawOf l (nI (hw (8 * y + x))) (liF sh fac (8 * y + x) (colN x y) time) (nI gain) (drN dr (8 * y + x + 1)) (by have := drN_lt hdr (8 * y + x + 1); omega)) (va_cwS 4 hts gX4_expose_X4_rawOf rfl rfl rfl (by decide +kernel) ⟨Nat.le_of_ble_eq_true rfl, Nat.le_of_ble_eq_true rfl⟩) ⟨fun a U g mk q => q, fun U hU hW => ⟨rfl, trivial⟩⟩ rfl rfl hl.1 rfl (lv_room (Nat.le_of_ble_eq_true rfl)) dX4_expose_81 ⟨hcc, hcs⟩) hP hS (fun r8 u8 H locs hw8 hP hS => ?_)
      refine lv_asI hw8 ?_
      refine lv_asI (y := nI (exN hw sh fac dr time gain (8 * y + x))) (by have h := (exN_ok hw sh fac dr time gain (8 * y + x)).2; rw [show (8 * y + x) % 8 = x by omega, show (8 * y + x) / 8 = y by omega] at h; exact h) ?_
      refine iw_iast hx hb hK hP hD hS lfr (va_us _ _ _) (vp_in_nI (show 8 * y + x < 64 by omega) (by omega)) (nI_clamp (by omega)) dX4_expose_84 (fun H locs hP hD hS => ?_)
      rw [va_uu _ _ _ _] at hP hD
      refine lv_iinc (v := nI (x + 1)) (lv' := [(7, .int (nI (x + 1))), (9, .float (liF sh fac (8 * y + x) (colN x y) time)), (5, .int (nI (drN dr (8 * y + x + 1)))), (8, .int (nI (8 * y + x))), (6, .int (nI y)), (0, .ref (ad nb)), (1, .ref (ad sb)), (2, .int (nI time)), (3, .int (nI gain)), (4, .ref (ad fb))]) hx hb dX4_expose_85 hl (k := 3) rfl (iinc_nat _ 1) (by decide) rfl (fun ls hl => ?_)
      refine lv_goto (tgt := 19) hx hb dX4_expose_88 (by decide) ?_
      rw [flI_n] at hP hD
      exact ih (x + 1) H locs ls (by omega) (by omega) hP hD hS (lv_sub hl [0, 2, 4, 5, 6, 7, 8, 9] rfl)
set_option maxHeartbeats 4000000 in
set_option maxRecDepth 100000 in
theorem lX4_expose_y {p : Program} {l : Launch} {e : Env} {s : State} {m : MethodId} {args : Array Value} {below : List Frame} {meth : Method} {c : Code} {Q : State → Prop} {A : Nat → Prop} {H0 : Heap} {cells slots : Nat} (hx : p.tables.exec = Jvm.exec) (hb : c.code = cX4_expose) (hml : c.maxLocals = 10) (hr : meth.sig.returnType = (some .int)) (hts : ∀ w ∈ wsX4_expose, w.before args s = true) (hown : s.vm.findClass RX4 = some m.cls) {G : iG} (hK : KB G s) (hA : ∀ q, H0.size ≤ q → A q) {N : Nat} {ad : Nat → Nat} {C : Nat → va_E}  (hcc : cells ≤ rmX4_expose.cells) (hcs : slots ≤ rmX4_expose.slots) {sb ss sf : Nat} {sh : Nat → Nat} {fac : Nat → UInt32} {gq : Nat} (lsb : sb < N) (lss : ss < N) (lsf : sf < N) (hsb : C sb = ob 3 [.ref (ad ss), .ref (ad sf), .int (nI gq)]) (hss : C ss = ia G 192 (fun i => nI (sh i))) (hsf : C sf = fa G 3 fac) {nb nh nm : Nat} {hw : Nat → Nat} {mp : Nat → Bool} {dr : Nat} (lnb : nb < N) (lnh : nh < N) (lnm : nm < N) (hnb : C nb = ob 4 [.ref (ad nh), .ref (ad nm), .int (nI dr)]) (hnh : C nh = ia G 64 (fun i => nI (hw i))) (hnm : C nm = za G 64 (bI mp)) {fb fr fe : Nat} {t0 g0 q0 : Int32} {rw : Nat → Nat} (lfb : fb < N) (lfr : fr < N) (hfb : C fb = ob 1 [.ref (ad fr), .ref (ad fe), .int t0, .int g0, .int q0]) (hfr : C fr = ia G 64 (fun i => nI (rw i))) (dfn : fr ≠ nh) (dfm : fr ≠ nm) (hdr : dr < 61) {time gain : Nat} (ht0 : 0 < time) (ht1 : time < 65) (hfac : ∀ k, k < 3 → fin32 (fac k)) (kx : ∀ (H : Heap) (locs : List Loc) (ls : Array Slot), va_P G.1 vwB (wl N ad (va_up C fr (ia G 64 (fun i => nI (flI (exN hw sh fac dr time gain) rw (8 * 8) i))))) H → va_D A (wl N ad (va_up C fr (ia G 64 (fun i => nI (flI (exN hw sh fac dr time gain) rw (8 * 8) i))))) → va_S A H0 H locs → lv_has ls 10 [(5, .int (nI (drN dr (8 * 8)))), (0, .ref (ad nb)), (1, .ref (ad sb)), (2, .int (nI time)), (3, .int (nI gain)), (4, .ref (ad fb))] → W p l e rmX4_expose s m args below meth c H locs cells slots Q (F0 m 97 ls [])) : ∀ (d : Nat) (y : Nat) (H : Heap) (locs : List Loc) (ls : Array Slot), 8 - y < d → y ≤ 8 → va_P G.1 vwB (wl N ad (va_up C fr (ia G 64 (fun i => nI (flI (exN hw sh fac dr time gain) rw (8 * y) i))))) H → va_D A (wl N ad (va_up C fr (ia G 64 (fun i => nI (flI (exN hw sh fac dr time gain) rw (8 * y) i))))) → va_S A H0 H locs → lv_has ls 10 [(6, .int (nI y)), (5, .int (nI (drN dr (8 * y)))), (0, .ref (ad nb)), (1, .ref (ad sb)), (2, .int (nI time)), (3, .int (nI gain)), (4, .ref (ad fb))] → W p l e rmX4_expose s m args below meth c H locs cells slots Q (F0 m 9 ls []) := by
  intro d
  induction d with
  | zero => intro y H locs ls hd; exact absurd hd (Nat.not_lt_zero _)
  | succ d ih =>
    intro y H locs ls hd h2 hP hD hS hl
    refine lv_iload hx hb dX4_expose_9 (lv_at hl 0 rfl) ?_
    refine lv_bipush (v := nI 8) hx hb dX4_expose_11 (by decide) ?_
    refine lv_icmp_ge (tgt := 97) hx hb dX4_expose_13 (by decide) (fun c13 => ?_) (fun c13 => ?_)
    · have h5 : y = 8 := by have := (nI_leI (by omega) (by omega)).mp c13; omega
      subst h5
      exact kx H locs ls hP hD hS (lv_sub hl [1, 2, 3, 4, 5, 6] rfl)
    · have h4 : y < 8 := by have := mt (nI_leI (by omega) (by omega)).mpr c13; omega
      refine lv_iconst (v := nI 0) hx hb dX4_expose_16 (by decide) ?_
      refine lv_istore (lv' := [(7, .int (nI 0)), (6, .int (nI y)), (5, .int (nI (drN dr (8 * y)))), (0, .ref (ad nb)), (1, .ref (ad sb)), (2, .int (nI time)), (3, .int (nI gain)), (4, .ref (ad fb))]) hx hb dX4_expose_17 hl (by decide) rfl (fun ls hl => ?_)
      refine lX4_expose_x hx hb hml hr hts hown hK hA hcc hcs lsb lss lsf hsb hss hsf lnb lnh lnm hnb hnh hnm lfb lfr hfb hfr dfn dfm hdr ht0 ht1 hfac h4 (fun H locs ls hP hD hS hl => ?_) 9 0 H locs ls (by omega) (by omega) hP hD hS (lv_sub hl [0, 2, 1, 3, 4, 5, 6, 7] rfl)
      refine lv_iinc (v := nI (y + 1)) (lv' := [(6, .int (nI (y + 1))), (5, .int (nI (drN dr (8 * y + 8)))), (0, .ref (ad nb)), (1, .ref (ad sb)), (2, .int (nI time)), (3, .int (nI gain)), (4, .ref (ad fb))]) hx hb dX4_expose_91 hl (k := 0) rfl (iinc_nat _ 1) (by decide) rfl (fun ls hl => ?_)
      refine lv_goto (tgt := 9) hx hb dX4_expose_94 (by decide) ?_
      exact ih (y + 1) H locs ls (by omega) (by omega) hP hD hS (lv_sub hl [0, 1, 2, 3, 4, 5, 6] rfl)
set_option maxRecDepth 20000 in
theorem il_X4_expose_19 : (Cond.fieldLink RX4 19 "BayerGate$Sensor" "draw" "I") ∈ wsX4_expose := by decide +kernel
set_option maxHeartbeats 4000000 in
set_option maxRecDepth 100000 in
theorem kX4_expose (l : Launch) (G : iG) (N : Nat) (ad : Nat → Nat) (C : Nat → va_E) {sb ss sf : Nat} {sh : Nat → Nat} {fac : Nat → UInt32} {gq : Nat} (lsb : sb < N) (lss : ss < N) (lsf : sf < N) (hsb : C sb = ob 3 [.ref (ad ss), .ref (ad sf), .int (nI gq)]) (hss : C ss = ia G 192 (fun i => nI (sh i))) (hsf : C sf = fa G 3 fac) {nb nh nm : Nat} {hw : Nat → Nat} {mp : Nat → Bool} {dr : Nat} (lnb : nb < N) (lnh : nh < N) (lnm : nm < N) (hnb : C nb = ob 4 [.ref (ad nh), .ref (ad nm), .int (nI dr)]) (hnh : C nh = ia G 64 (fun i => nI (hw i))) (hnm : C nm = za G 64 (bI mp)) {fb fr fe : Nat} {t0 g0 q0 : Int32} {rw : Nat → Nat} (lfb : fb < N) (lfr : fr < N) (hfb : C fb = ob 1 [.ref (ad fr), .ref (ad fe), .int t0, .int g0, .int q0]) (hfr : C fr = ia G 64 (fun i => nI (rw i))) (dfn : fr ≠ nh) (dfm : fr ≠ nm) (hdr : dr < 61) {time gain : Nat} (ht0 : 0 < time) (ht1 : time < 65) (hfac : ∀ k, k < 3 → fin32 (fac k)) (sz : Nat) : Met l yX4_expose wsX4_expose rmX4_expose (iPre G N ad C sz [.ref (ad nb), .ref (ad sb), .int (nI time), .int (nI gain), .ref (ad fb)]) (va_Qi (fun (r : Int32) (u : Nat → va_E) => r = nI (drN dr 64) ∧ u = va_up (va_up C fr (ia G 64 (fun i => nI (exN hw sh fac dr time gain i)))) fb (ob 1 [.ref (ad fr), .ref (ad fe), .int (nI time), .int (nI gain), .int q0])) (iB G N ad) (iA N ad sz)) 0 0 (iA N ad sz) := by
  refine Met.ofW (cc := cX4_expose) (maxL := 10) (ret := (some .int)) (by decide) rfl ?_
  intro p e s m args below meth c s₁ B hml hv
  obtain ⟨rfl, hsz, hP, hK, hD0⟩ := hv
  have hx := B.exec
  have hb := B.bytes
  have hr := B.returns
  have hts := atoms_spec (ws := wsX4_expose) B.pre
  have hown : s.vm.findClass RX4 = some m.cls := findClass_of_methodNamed B.named
  have hlocks := B.notSynchronized
  subst hsz
  have hD := wl_self hD0 s.heap.size
  have hA : ∀ q : Nat, s.heap.size ≤ q → iA N ad s.heap.size q := fun q h => Or.inr h
  have hS : va_S (iA N ad s.heap.size) s.heap s.heap [] := va_S.rf
  have hP : va_P G.1 vwB (wl N ad C) s.heap := hP
  have hl := lv_entry ([.ref (ad nb), .ref (ad sb), .int (nI time), .int (nI gain), .ref (ad fb)]) (n := 10) (Nat.le_of_ble_eq_true rfl)
  rw [lg_entry_eq]
  generalize (lg_sl ([.ref (ad nb), .ref (ad sb), .int (nI time), .int (nI gain), .ref (ad fb)]) ++ List.replicate (10 - (lg_sl ([.ref (ad nb), .ref (ad sb), .int (nI time), .int (nI gain), .ref (ad fb)])).length) Slot.unset).toArray = ls at hl ⊢
  have hl : lv_has ls 10 [(0, .ref (ad nb)), (1, .ref (ad sb)), (2, .int (nI time)), (3, .int (nI gain)), (4, .ref (ad fb))] := hl
  have n_sb_fr : sb ≠ fr := fun h => by rw [h, hfr] at hsb; simp at hsb
  have n_ss_fr : ss ≠ fr := fun h => by rw [h, hfr] at hss; simp at hss
  have n_sf_fr : sf ≠ fr := fun h => by rw [h, hfr] at hsf; simp at hsf
  have n_nb_fr : nb ≠ fr := fun h => by rw [h, hfr] at hnb; simp at hnb
  have n_fb_fr : fb ≠ fr := fun h => by rw [h, hfr] at hfb; simp at hfb
  have n_sb_fb : sb ≠ fb := fun h => by rw [h, hfb] at hsb; simp at hsb
  have n_nb_fb : nb ≠ fb := fun h => by rw [h, hfb] at hnb; simp at hnb
  refine lv_aload_n hx hb dX4_expose_0 rfl (lv_at hl 0 rfl) ?_
  refine iw_get hx hb hts iu_X4_expose_4 hown hK hP lnb (hnb) rfl 2 (by decide) (hts _ il_X4_expose_19) (fun _ h9 => h9) rfl dX4_expose_1 ?_
  refine lv_istore (lv' := [(5, .int (nI dr)), (0, .ref (ad nb)), (1, .ref (ad sb)), (2, .int (nI time)), (3, .int (nI gain)), (4, .ref (ad fb))]) hx hb dX4_expose_4 hl (by decide) rfl (fun ls hl => ?_)
  refine lv_iconst (v := nI 0) hx hb dX4_expose_6 (by decide) ?_
  refine lv_istore (lv' := [(6, .int (nI 0)), (5, .int (nI dr)), (0, .ref (ad nb)), (1, .ref (ad sb)), (2, .int (nI time)), (3, .int (nI gain)), (4, .ref (ad fb))]) hx hb dX4_expose_7 hl (by decide) rfl (fun ls hl => ?_)
  have hP := wl_selfE hP hfr
  have hD := wl_D hD (va_up C fr (ia G 64 (fun i => nI (rw i))))
  refine lX4_expose_y hx hb hml hr hts hown hK hA (Nat.le_refl _) (Nat.le_refl _) lsb lss lsf hsb hss hsf lnb lnh lnm hnb hnh hnm lfb lfr hfb hfr dfn dfm hdr ht0 ht1 hfac (fun H locs ls hP hD hS hl => ?_) 9 0 _ _ ls (by omega) (by omega) hP hD hS (lv_sub hl [0, 1, 2, 3, 4, 5, 6] rfl)
  have hP := wl_ia (g := fun i => nI (exN hw sh fac dr time gain i)) hP (fun k hk => by simp [flI, show k < 64 from hk])
  have hD := wl_D hD (va_up C fr (ia G 64 (fun i => nI (exN hw sh fac dr time gain i))))
  refine lv_aload hx hb dX4_expose_97 (lv_at hl 5 rfl) ?_
  refine lv_iload_n hx hb dX4_expose_99 rfl (lv_at hl 3 rfl) ?_
  refine iw_putN (ty := .int) hx hb hts iu_X4_expose_1 tyX1 tyX1_ok nmX1 hown hK hP hD hS lfb ((va_un _ _ n_fb_fr).trans (hfb)) rfl 2 (by decide) (nw_RX4_45 hK.2) (fun _ h9 => h9) rfl (by decide +kernel) rfl rfl (Nat.le_of_ble_eq_true rfl) rfl dX4_expose_100 (fun H locs hP hD hS => ?_)
  refine lv_aload hx hb dX4_expose_103 (lv_at hl 5 rfl) ?_
  refine lv_iload_n hx hb dX4_expose_105 rfl (lv_at hl 4 rfl) ?_
  refine iw_putN (ty := .int) hx hb hts iu_X4_expose_1 tyX1 tyX1_ok nmX1 hown hK hP hD hS lfb (va_us _ _ _) rfl 3 (by decide) (nw_RX4_48 hK.2) (fun _ h9 => h9) rfl (by decide +kernel) rfl rfl (Nat.le_of_ble_eq_true rfl) rfl dX4_expose_106 (fun H locs hP hD hS => ?_)
  rw [va_uu _ _ _ _] at hP hD
  refine lv_iload hx hb dX4_expose_109 (lv_at hl 0 rfl) ?_
  exact W.iret (v := (nI (drN dr 64))) hx hb hr (fun t ht hW => ⟨⟨_, _, rfl, ⟨rfl, rfl⟩, iB_of ht hP⟩, hS.F ht⟩) hS.2.2 dX4_expose_111
