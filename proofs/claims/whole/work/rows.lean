section
-- ===== PART A: goes FIRST, ahead of the names: the tables' words, and 'selects' of the private methods out of them =====
/-- a private method of a class that the tables say can be made, by its rows of tables_1 -/
def lw_okq (q : MethodName × Nat) : Prop := (q.1.cls ≠ "java/lang/invoke/MethodHandle" ∧ q.1.cls ≠ "java/lang/invoke/VarHandle") ∧ Cond.instantiable q.1.cls q.2 ∈ tables_1 ∧ Cond.privateMethod q.1 ∈ tables_1 ∧ Cond.instanceMethod q.1 ∈ tables_1
theorem lw_p0 : lw_okq (⟨"java/lang/Throwable", "fillInStackTrace", "(I)Ljava/lang/Throwable;"⟩, 6) := ⟨⟨by decide +kernel, by decide +kernel⟩, List.mem_of_getElem? (i := 242) (by decide +kernel), List.mem_of_getElem? (i := 240) (by decide +kernel), List.mem_of_getElem? (i := 241) (by decide +kernel)⟩
theorem lw_p1 : lw_okq (⟨"BayerGate", "countEdits", "()I"⟩, 9) := ⟨⟨by decide +kernel, by decide +kernel⟩, List.mem_of_getElem? (i := 31) (by decide +kernel), List.mem_of_getElem? (i := 276) (by decide +kernel), List.mem_of_getElem? (i := 277) (by decide +kernel)⟩
theorem lw_p2 : lw_okq (⟨"BayerGate", "needFrame", "(I)V"⟩, 9) := ⟨⟨by decide +kernel, by decide +kernel⟩, List.mem_of_getElem? (i := 31) (by decide +kernel), List.mem_of_getElem? (i := 292) (by decide +kernel), List.mem_of_getElem? (i := 293) (by decide +kernel)⟩
theorem lw_p3 : lw_okq (⟨"BayerGate$Frame", "sumSeen", "(I)I"⟩, 5) := ⟨⟨by decide +kernel, by decide +kernel⟩, List.mem_of_getElem? (i := 79) (by decide +kernel), List.mem_of_getElem? (i := 333) (by decide +kernel), List.mem_of_getElem? (i := 334) (by decide +kernel)⟩
theorem lw_p4 : lw_okq (⟨"BayerGate", "countFilesOf", "(I)I"⟩, 9) := ⟨⟨by decide +kernel, by decide +kernel⟩, List.mem_of_getElem? (i := 31) (by decide +kernel), List.mem_of_getElem? (i := 343) (by decide +kernel), List.mem_of_getElem? (i := 344) (by decide +kernel)⟩
theorem lw_p5 : lw_okq (⟨"BayerGate", "wordBehind", "(ILBayerGate$EditRow;)I"⟩, 9) := ⟨⟨by decide +kernel, by decide +kernel⟩, List.mem_of_getElem? (i := 31) (by decide +kernel), List.mem_of_getElem? (i := 351) (by decide +kernel), List.mem_of_getElem? (i := 352) (by decide +kernel)⟩
theorem lw_p6 : lw_okq (⟨"BayerGate$Picture", "mendAll", "([I[ZZ)V"⟩, 2) := ⟨⟨by decide +kernel, by decide +kernel⟩, List.mem_of_getElem? (i := 129) (by decide +kernel), List.mem_of_getElem? (i := 363) (by decide +kernel), List.mem_of_getElem? (i := 364) (by decide +kernel)⟩
theorem lw_p7 : lw_okq (⟨"BayerGate$Picture", "makeWhole", "()V"⟩, 2) := ⟨⟨by decide +kernel, by decide +kernel⟩, List.mem_of_getElem? (i := 129) (by decide +kernel), List.mem_of_getElem? (i := 374) (by decide +kernel), List.mem_of_getElem? (i := 375) (by decide +kernel)⟩
theorem lw_p8 : lw_okq (⟨"BayerGate$Picture", "meanAround", "(III)F"⟩, 2) := ⟨⟨by decide +kernel, by decide +kernel⟩, List.mem_of_getElem? (i := 129) (by decide +kernel), List.mem_of_getElem? (i := 379) (by decide +kernel), List.mem_of_getElem? (i := 380) (by decide +kernel)⟩
theorem lw_p9 : lw_okq (⟨"BayerGate$Picture", "applyEdit", "(II)V"⟩, 2) := ⟨⟨by decide +kernel, by decide +kernel⟩, List.mem_of_getElem? (i := 129) (by decide +kernel), List.mem_of_getElem? (i := 387) (by decide +kernel), List.mem_of_getElem? (i := 388) (by decide +kernel)⟩
theorem lw_p10 : lw_okq (⟨"BayerGate$Picture", "darken", "(I)V"⟩, 2) := ⟨⟨by decide +kernel, by decide +kernel⟩, List.mem_of_getElem? (i := 129) (by decide +kernel), List.mem_of_getElem? (i := 391) (by decide +kernel), List.mem_of_getElem? (i := 392) (by decide +kernel)⟩
theorem lw_p11 : lw_okq (⟨"BayerGate$Picture", "scaleColour", "(IF)V"⟩, 2) := ⟨⟨by decide +kernel, by decide +kernel⟩, List.mem_of_getElem? (i := 129) (by decide +kernel), List.mem_of_getElem? (i := 396) (by decide +kernel), List.mem_of_getElem? (i := 397) (by decide +kernel)⟩
theorem lw_p12 : lw_okq (⟨"BayerGate$Picture", "changeTone", "(I)V"⟩, 2) := ⟨⟨by decide +kernel, by decide +kernel⟩, List.mem_of_getElem? (i := 129) (by decide +kernel), List.mem_of_getElem? (i := 400) (by decide +kernel), List.mem_of_getElem? (i := 401) (by decide +kernel)⟩
theorem lw_p13 : lw_okq (⟨"BayerGate$Picture", "turnOver", "()V"⟩, 2) := ⟨⟨by decide +kernel, by decide +kernel⟩, List.mem_of_getElem? (i := 129) (by decide +kernel), List.mem_of_getElem? (i := 406) (by decide +kernel), List.mem_of_getElem? (i := 407) (by decide +kernel)⟩
theorem lw_p14 : lw_okq (⟨"BayerGate", "putTogether", "(IILBayerGate$Frame;)V"⟩, 9) := ⟨⟨by decide +kernel, by decide +kernel⟩, List.mem_of_getElem? (i := 31) (by decide +kernel), List.mem_of_getElem? (i := 579) (by decide +kernel), List.mem_of_getElem? (i := 580) (by decide +kernel)⟩
theorem lw_p15 : lw_okq (⟨"BayerGate", "smallestOf", "(I)I"⟩, 9) := ⟨⟨by decide +kernel, by decide +kernel⟩, List.mem_of_getElem? (i := 31) (by decide +kernel), List.mem_of_getElem? (i := 583) (by decide +kernel), List.mem_of_getElem? (i := 584) (by decide +kernel)⟩
def lw_privs_1 : List (MethodName × Nat) := [(⟨"java/lang/Throwable", "fillInStackTrace", "(I)Ljava/lang/Throwable;"⟩, 6), (⟨"BayerGate", "countEdits", "()I"⟩, 9), (⟨"BayerGate", "needFrame", "(I)V"⟩, 9), (⟨"BayerGate$Frame", "sumSeen", "(I)I"⟩, 5), (⟨"BayerGate", "countFilesOf", "(I)I"⟩, 9), (⟨"BayerGate", "wordBehind", "(ILBayerGate$EditRow;)I"⟩, 9), (⟨"BayerGate$Picture", "mendAll", "([I[ZZ)V"⟩, 2), (⟨"BayerGate$Picture", "makeWhole", "()V"⟩, 2), (⟨"BayerGate$Picture", "meanAround", "(III)F"⟩, 2), (⟨"BayerGate$Picture", "applyEdit", "(II)V"⟩, 2), (⟨"BayerGate$Picture", "darken", "(I)V"⟩, 2), (⟨"BayerGate$Picture", "scaleColour", "(IF)V"⟩, 2), (⟨"BayerGate$Picture", "changeTone", "(I)V"⟩, 2), (⟨"BayerGate$Picture", "turnOver", "()V"⟩, 2), (⟨"BayerGate", "putTogether", "(IILBayerGate$Frame;)V"⟩, 9), (⟨"BayerGate", "smallestOf", "(I)I"⟩, 9)]
theorem lw_r1 : ∀ q ∈ lw_privs_1, lw_okq q := List.forall_mem_cons.mpr ⟨lw_p0, List.forall_mem_cons.mpr ⟨lw_p1, List.forall_mem_cons.mpr ⟨lw_p2, List.forall_mem_cons.mpr ⟨lw_p3, List.forall_mem_cons.mpr ⟨lw_p4, List.forall_mem_cons.mpr ⟨lw_p5, List.forall_mem_cons.mpr ⟨lw_p6, List.forall_mem_cons.mpr ⟨lw_p7, List.forall_mem_cons.mpr ⟨lw_p8, List.forall_mem_cons.mpr ⟨lw_p9, List.forall_mem_cons.mpr ⟨lw_p10, List.forall_mem_cons.mpr ⟨lw_p11, List.forall_mem_cons.mpr ⟨lw_p12, List.forall_mem_cons.mpr ⟨lw_p13, List.forall_mem_cons.mpr ⟨lw_p14, List.forall_mem_cons.mpr ⟨lw_p15, fun _ h => absurd h List.not_mem_nil⟩⟩⟩⟩⟩⟩⟩⟩⟩⟩⟩⟩⟩⟩⟩⟩
theorem lw_p16 : lw_okq (⟨"BayerGate", "developFrame", "(ILBayerGate$Picture;)V"⟩, 9) := ⟨⟨by decide +kernel, by decide +kernel⟩, List.mem_of_getElem? (i := 31) (by decide +kernel), List.mem_of_getElem? (i := 648) (by decide +kernel), List.mem_of_getElem? (i := 649) (by decide +kernel)⟩
theorem lw_p17 : lw_okq (⟨"BayerGateModel", "no", "(I)I"⟩, 8) := ⟨⟨by decide +kernel, by decide +kernel⟩, List.mem_of_getElem? (i := 735) (by decide +kernel), List.mem_of_getElem? (i := 806) (by decide +kernel), List.mem_of_getElem? (i := 807) (by decide +kernel)⟩
theorem lw_p18 : lw_okq (⟨"BayerGateModel", "mapped", "()I"⟩, 8) := ⟨⟨by decide +kernel, by decide +kernel⟩, List.mem_of_getElem? (i := 735) (by decide +kernel), List.mem_of_getElem? (i := 827) (by decide +kernel), List.mem_of_getElem? (i := 828) (by decide +kernel)⟩
theorem lw_p19 : lw_okq (⟨"BayerGateModel", "taken", "(IIZ)LBayerGateModel$Frame;"⟩, 8) := ⟨⟨by decide +kernel, by decide +kernel⟩, List.mem_of_getElem? (i := 735) (by decide +kernel), List.mem_of_getElem? (i := 845) (by decide +kernel), List.mem_of_getElem? (i := 846) (by decide +kernel)⟩
theorem lw_p20 : lw_okq (⟨"java/util/ArrayList", "add", "(Ljava/lang/Object;[Ljava/lang/Object;I)V"⟩, 3) := ⟨⟨by decide +kernel, by decide +kernel⟩, List.mem_of_getElem? (i := 741) (by decide +kernel), List.mem_of_getElem? (i := 893) (by decide +kernel), List.mem_of_getElem? (i := 894) (by decide +kernel)⟩
theorem lw_p21 : lw_okq (⟨"java/util/ArrayList", "grow", "()[Ljava/lang/Object;"⟩, 3) := ⟨⟨by decide +kernel, by decide +kernel⟩, List.mem_of_getElem? (i := 741) (by decide +kernel), List.mem_of_getElem? (i := 897) (by decide +kernel), List.mem_of_getElem? (i := 898) (by decide +kernel)⟩
theorem lw_p22 : lw_okq (⟨"java/util/ArrayList", "grow", "(I)[Ljava/lang/Object;"⟩, 3) := ⟨⟨by decide +kernel, by decide +kernel⟩, List.mem_of_getElem? (i := 741) (by decide +kernel), List.mem_of_getElem? (i := 901) (by decide +kernel), List.mem_of_getElem? (i := 902) (by decide +kernel)⟩
theorem lw_p23 : lw_okq (⟨"BayerGateModel", "isFrame", "(I)Z"⟩, 8) := ⟨⟨by decide +kernel, by decide +kernel⟩, List.mem_of_getElem? (i := 735) (by decide +kernel), List.mem_of_getElem? (i := 974) (by decide +kernel), List.mem_of_getElem? (i := 975) (by decide +kernel)⟩
theorem lw_p24 : lw_okq (⟨"java/util/ArrayList", "fastRemove", "([Ljava/lang/Object;I)V"⟩, 3) := ⟨⟨by decide +kernel, by decide +kernel⟩, List.mem_of_getElem? (i := 741) (by decide +kernel), List.mem_of_getElem? (i := 994) (by decide +kernel), List.mem_of_getElem? (i := 995) (by decide +kernel)⟩
theorem lw_p25 : lw_okq (⟨"BayerGateModel", "filesOf", "(I)I"⟩, 8) := ⟨⟨by decide +kernel, by decide +kernel⟩, List.mem_of_getElem? (i := 735) (by decide +kernel), List.mem_of_getElem? (i := 1006) (by decide +kernel), List.mem_of_getElem? (i := 1007) (by decide +kernel)⟩
theorem lw_p26 : lw_okq (⟨"BayerGateModel", "picture", "(I)[F"⟩, 8) := ⟨⟨by decide +kernel, by decide +kernel⟩, List.mem_of_getElem? (i := 735) (by decide +kernel), List.mem_of_getElem? (i := 1037) (by decide +kernel), List.mem_of_getElem? (i := 1038) (by decide +kernel)⟩
theorem lw_p27 : lw_okq (⟨"BayerGateModel", "picture", "(LBayerGateModel$Frame;Ljava/util/List;)[F"⟩, 8) := ⟨⟨by decide +kernel, by decide +kernel⟩, List.mem_of_getElem? (i := 735) (by decide +kernel), List.mem_of_getElem? (i := 1041) (by decide +kernel), List.mem_of_getElem? (i := 1042) (by decide +kernel)⟩
theorem lw_p28 : lw_okq (⟨"BayerGateModel", "mended", "([I)[I"⟩, 8) := ⟨⟨by decide +kernel, by decide +kernel⟩, List.mem_of_getElem? (i := 735) (by decide +kernel), List.mem_of_getElem? (i := 1048) (by decide +kernel), List.mem_of_getElem? (i := 1049) (by decide +kernel)⟩
theorem lw_p29 : lw_okq (⟨"BayerGateModel", "whole", "([I)[F"⟩, 8) := ⟨⟨by decide +kernel, by decide +kernel⟩, List.mem_of_getElem? (i := 735) (by decide +kernel), List.mem_of_getElem? (i := 1052) (by decide +kernel), List.mem_of_getElem? (i := 1053) (by decide +kernel)⟩
theorem lw_p30 : lw_okq (⟨"BayerGateModel", "frameNow", "(II)I"⟩, 8) := ⟨⟨by decide +kernel, by decide +kernel⟩, List.mem_of_getElem? (i := 735) (by decide +kernel), List.mem_of_getElem? (i := 1083) (by decide +kernel), List.mem_of_getElem? (i := 1084) (by decide +kernel)⟩
theorem lw_p31 : lw_okq (⟨"BayerGateModel", "fileNow", "(II)I"⟩, 8) := ⟨⟨by decide +kernel, by decide +kernel⟩, List.mem_of_getElem? (i := 735) (by decide +kernel), List.mem_of_getElem? (i := 1134) (by decide +kernel), List.mem_of_getElem? (i := 1135) (by decide +kernel)⟩
def lw_privs_2 : List (MethodName × Nat) := [(⟨"BayerGate", "developFrame", "(ILBayerGate$Picture;)V"⟩, 9), (⟨"BayerGateModel", "no", "(I)I"⟩, 8), (⟨"BayerGateModel", "mapped", "()I"⟩, 8), (⟨"BayerGateModel", "taken", "(IIZ)LBayerGateModel$Frame;"⟩, 8), (⟨"java/util/ArrayList", "add", "(Ljava/lang/Object;[Ljava/lang/Object;I)V"⟩, 3), (⟨"java/util/ArrayList", "grow", "()[Ljava/lang/Object;"⟩, 3), (⟨"java/util/ArrayList", "grow", "(I)[Ljava/lang/Object;"⟩, 3), (⟨"BayerGateModel", "isFrame", "(I)Z"⟩, 8), (⟨"java/util/ArrayList", "fastRemove", "([Ljava/lang/Object;I)V"⟩, 3), (⟨"BayerGateModel", "filesOf", "(I)I"⟩, 8), (⟨"BayerGateModel", "picture", "(I)[F"⟩, 8), (⟨"BayerGateModel", "picture", "(LBayerGateModel$Frame;Ljava/util/List;)[F"⟩, 8), (⟨"BayerGateModel", "mended", "([I)[I"⟩, 8), (⟨"BayerGateModel", "whole", "([I)[F"⟩, 8), (⟨"BayerGateModel", "frameNow", "(II)I"⟩, 8), (⟨"BayerGateModel", "fileNow", "(II)I"⟩, 8)]
theorem lw_r2 : ∀ q ∈ lw_privs_2, lw_okq q := List.forall_mem_cons.mpr ⟨lw_p16, List.forall_mem_cons.mpr ⟨lw_p17, List.forall_mem_cons.mpr ⟨lw_p18, List.forall_mem_cons.mpr ⟨lw_p19, List.forall_mem_cons.mpr ⟨lw_p20, List.forall_mem_cons.mpr ⟨lw_p21, List.forall_mem_cons.mpr ⟨lw_p22, List.forall_mem_cons.mpr ⟨lw_p23, List.forall_mem_cons.mpr ⟨lw_p24, List.forall_mem_cons.mpr ⟨lw_p25, List.forall_mem_cons.mpr ⟨lw_p26, List.forall_mem_cons.mpr ⟨lw_p27, List.forall_mem_cons.mpr ⟨lw_p28, List.forall_mem_cons.mpr ⟨lw_p29, List.forall_mem_cons.mpr ⟨lw_p30, List.forall_mem_cons.mpr ⟨lw_p31, fun _ h => absurd h List.not_mem_nil⟩⟩⟩⟩⟩⟩⟩⟩⟩⟩⟩⟩⟩⟩⟩⟩
theorem lw_p32 : lw_okq (⟨"BayerGateModel", "manyNow", "(I)I"⟩, 8) := ⟨⟨by decide +kernel, by decide +kernel⟩, List.mem_of_getElem? (i := 735) (by decide +kernel), List.mem_of_getElem? (i := 1146) (by decide +kernel), List.mem_of_getElem? (i := 1147) (by decide +kernel)⟩
def lw_privs_3 : List (MethodName × Nat) := [(⟨"BayerGateModel", "manyNow", "(I)I"⟩, 8)]
theorem lw_r3 : ∀ q ∈ lw_privs_3, lw_okq q := List.forall_mem_cons.mpr ⟨lw_p32, fun _ h => absurd h List.not_mem_nil⟩
def lw_privs : List (MethodName × Nat) := lw_privs_1 ++ (lw_privs_2 ++ (lw_privs_3))
def lw_tbl : List Cond := k2_sels lw_privs ++ tables_1
theorem lw_privs_ok : ∀ q ∈ lw_privs, lw_okq q := by
  show ∀ q ∈ lw_privs_1 ++ (lw_privs_2 ++ (lw_privs_3)), lw_okq q
  exact List.forall_mem_append.mpr ⟨lw_r1, List.forall_mem_append.mpr ⟨lw_r2, lw_r3⟩⟩
/-- the streams that the claim lets the run draw from -/
abbrev lw_cs : List Choice := [Jvm.Choice.named "NaN.bits", Jvm.Choice.named "NaN.copy"]
theorem lw_bits : nanBits ∈ lw_cs := by first | decide | exact List.mem_cons_self | simp [lw_cs, nanBits]
end
section
/-! ===== BEGIN words of one list among another's, by their places ===== -/
theorem goodIn_r {big : List Cond} (ws : List Cond) (ps : List Nat) (hp : ws = ps.filterMap (fun i => big[i]?)) (h : ws.all goodWord = true) : GoodIn big ws := by
  intro w hw
  have h1 := List.all_eq_true.mp h w hw
  rw [hp] at hw
  obtain ⟨i, -, hi⟩ := List.mem_filterMap.mp hw
  have hm : w ∈ big := by first | exact List.mem_of_getElem? hi | exact List.getElem?_mem hi
  exact ⟨hm, good_of_word h1⟩
theorem goodIn_app {big a b : List Cond} (ha : GoodIn big a) (hb : GoodIn big b) : GoodIn big (a ++ b) := fun w h => (List.mem_append.mp h).elim (ha w) (hb w)
theorem goodIn_ca {big a b : List Cond} {c : Cond} (ha : GoodIn big (c :: a)) (hb : GoodIn big b) : GoodIn big (c :: (a ++ b)) := fun w h => (List.mem_cons.mp h).elim (fun e => ha w (List.mem_cons.mpr (Or.inl e))) (fun h => (List.mem_append.mp h).elim (fun h => ha w (List.mem_cons.mpr (Or.inr h))) (hb w))
theorem goodIn_sub {big ws : List Cond} (hm : ∀ w ∈ ws, w ∈ big) (h : ws.all goodWord = true) : GoodIn big ws := fun w hw => ⟨hm w hw, good_of_word (List.all_eq_true.mp h w hw)⟩
/-! ===== END ===== -/

/-! ===== BEGIN exceptions that leave a method, and their catching by the caller (launches without stack traces) ===== -/
section VXA
/-! The laws vx_back, vx_callV, vx_callS, vx_callSW, vx_throw0, vx_throwS follow proofs of the library, with one case more: JvmDerived/Free/Laws.lean (Back.of_free), Shelf42/LK1.lean (callV, callS), Shelf/KitTraced.lean (throwNew0V, throwNewS). -/
/-- where a method has thrown q: the class by its name, the cell, what was written, the world -/
def vx_T (XC : String → State → State → Prop) (st : State) (q : Addr) (t : State) (mc ms : Nat) (free : Addr → Prop) : Prop :=
  ∃ (E : String) (ce : Cell) (L : List Loc), XC E st t ∧ t.heap[q]? = some ce ∧ ce.vm = .none ∧ st.vm.findClass E = some ce.cls ∧ st.WarmedH t.vm ∧ st.sameButNew ({ t with vm := st.vm } : State) L mc ms ∧ ∀ z ∈ L, free z.base
def vx_Q (Qc : Array Value → State → Outcome → State → Prop) (XC : String → State → State → Prop) (mc ms : Nat) (free : Addr → Prop) : Array Value → State → Outcome → State → Prop := fun a st o t =>
  (Qc a st o t ∧ ∃ L, FrameEnd st o t L mc ms ∧ ∀ q ∈ L, free q.base) ∨ ∃ q, o = .threw q ∧ vx_T XC st q t mc ms free
/-- a callee that returns or throws -/
def vx_Met (l : Launch) (y : MethodName) (ws : List Cond) (rm : Room) (Pc : Array Value → State → Prop) (Qc : Array Value → State → Outcome → State → Prop) (XC : String → State → State → Prop) (mc ms : Nat) (free : Addr → Prop) : Prop :=
  MetFree l y (headSpec ws rm) Pc (fun _ _ _ _ _ => True) (vx_Q Qc XC mc ms free)
def vx_Post (XC : String → State → State → Prop) (mc ms : Nat) (free : Addr → Prop) : Pt → Array Value → Addr → Pt → Prop := fun A a q B =>
  ∃ (g : JFrame) (mk : MethodId) (t : State) (L : List Loc) (E : String) (ce : Cell), B.U.heap = t.heap ∧ B.U.vm = t.vm ∧ XC E (A.U.calling g mk a) t ∧ t.heap[q]? = some ce ∧ ce.vm = .none ∧ A.U.vm.findClass E = some ce.cls ∧ B.locs = A.locs ++ L ∧ (∀ z ∈ L, free z.base) ∧ B.cells = A.cells + mc ∧ B.slots = A.slots + ms
def vx_Back (l : Launch) (R : Room) (p : Program) (e : Env) (below : List Frame) (s : State) (sargs : Array Value) (y : MethodName) (len W9 : Nat)
    (Pre : Pt → Array Value → Prop) (Post : Pt → Array Value → Option Value → Pt → Prop) (PostX : Pt → Array Value → Addr → Pt → Prop) : Prop :=
  ∀ (m : MethodId) (meth : Method) (c : Code) (A : Pt) (g : JFrame) (ig : Instr) (mk : MethodId) (a : Array Value),
    Stand p l e R s m sargs below meth c A.U A.locs A.cells A.slots → g.method = m → g.locals.size = c.maxLocals → decode c.code g.pc = .ok (ig, len) →
    2 * g.monitorRoom + (g.stack.map fun v => v.category).sum ≤ W9 → A.U.methodNamed? y = some mk → Pre A a →
    (∃ (v : Option Value) (B : Pt), Stand p l e R s m sargs below meth c B.U B.locs B.cells B.slots ∧ Post A a v B ∧
      Steps p.tables e below (doInvoke e (A.U.setTop g) [] mk a).1 (B.U.setTop { g with pc := g.pc + len, stack := v.toList ++ g.stack })) ∨
    (∃ (q : Addr) (B : Pt), Stand p l e R s m sargs below meth c B.U B.locs B.cells B.slots ∧ PostX A a q B ∧
      Steps p.tables e below (doInvoke e (A.U.setTop g) [] mk a).1 ((B.U.setTop g).pushFrame (.throwing q)))
section Payer
variable {l : Launch} {R : Room} {p : Program} {e : Env} {below : List Frame} {s : State} {sargs : Array Value} {y : MethodName} {len W9 : Nat}
theorem vx_back {ws : List Cond} {rm : Room} {Pc : Array Value → State → Prop} {Qc : Array Value → State → Outcome → State → Prop} {XC : String → State → State → Prop} {mc ms : Nat} {free : Addr → Prop} {bytes : ByteArray} {maxL : Nat} {ret : Option FieldType}
    (hM : vx_Met l y ws rm Pc Qc XC mc ms free) (hblind : FrameBlind Pc) (hrc : rm.cells = mc) (hrs : rm.slots = ms)
    (hframes : rm.frames + 1 ≤ R.frames) (hlocals : W9 + (maxL + 11) + rm.locals ≤ R.locals)
    (hws : ∀ w ∈ ws, ∀ a' U, s.WarmedH U.vm → w.before a' U = true) (hcode : Cond.code y bytes maxL ret ∈ ws) (hinit : ∀ a' U, s.WarmedH U.vm → (Cond.initialized y.cls).before a' U = true) :
    vx_Back l R p e below s sargs y len W9 (PreOf R mc ms Pc) (PostOf Qc mc ms free) (vx_Post XC mc ms free) := by
  intro m meth c A g ig mk a X hg hsize hdg hW hn hp
  have h1 : (headSpec ws rm).pre.before a A.U = true := atoms_intro fun w hw => hws w hw _ _ X.warmed
  have h2 : (Cond.code y bytes maxL ret).before a A.U = true := hws _ hcode _ _ X.warmed
  have h3 : (Cond.initialized y.cls).before a A.U = true := hinit _ _ X.warmed
  have h4 : A.cells + (headSpec ws rm).room.cells ≤ R.cells := by rw [show (headSpec ws rm).room.cells = mc from hrc]; exact hp.1
  have h5 : A.slots + (headSpec ws rm).room.slots ≤ R.slots := by rw [show (headSpec ws rm).room.slots = ms from hrs]; exact hp.2.1
  have hPc : Pc a (A.U.calling g mk a) := hblind _ _ _ _ hp.2.2
  obtain ⟨U, Ls, c0, s0⟩ := A
  dsimp only [Pt.U, Pt.locs, Pt.cells, Pt.slots] at h1 h2 h3 h4 h5 X hn hPc ⊢
  obtain ⟨methY, cY, hmY, hcY, -, hlY, -, -, -, -⟩ := Cond.code_spec hn h2
  obtain ⟨kY, hkY, -⟩ := className_of_methodNamed hn
  have hinitY : kY.init = .initialized := Cond.initialized_spec (findClass_of_methodNamed hn) hkY h3
  have h : At U g.method c below := by rw [hg]; exact X.here
  have hlocals9 : W9 + (maxL + 11) + (headSpec ws rm).room.locals ≤ R.locals := hlocals
  have happ : (headSpec ws rm).appliesLoose y e.platform (U.calling g mk a) = true :=
    Spec.appliesLoose_calling (g := g) h hdg hn hkY hinitY
      (X.room_calling (g := g) (R' := (headSpec ws rm).room) hsize hmY hcY hframes (by rw [hlY]; omega) h4 h5) h1
  obtain ⟨mid, hmid⟩ := h.above
  have hfr : (U.setTop g).frames = (.java g :: mid) ++ below := by rw [State.frames_setTop' g h.top, hmid]; rfl
  obtain ⟨o, s₂, hsteps, -, hend, hq⟩ := Steps.callFree hM p X.admits X.cas X.clock (acts := []) hfr happ hPc trivial
  have hq' : vx_Q Qc XC mc ms free a (U.calling g mk a) o s₂ := hq
  rw [State.frames_setTop' g h.top] at hend
  obtain ⟨g₀, hg0⟩ := Option.isSome_iff_exists.mp h.top
  obtain ⟨r, hr⟩ := State.topJava?_eq_some.mp hg0
  have hr' : (({ U with heap := s₂.heap, slotsUsed := s₂.slotsUsed } : State).setVm s₂.vm).frames = .java g₀ :: r := hr
  rcases hq' with ⟨hqc, L, hfe, hL⟩ | ⟨q, rfl, E, ce, L, hx, hce, hcv, hcl, hW₂, hsm, hL⟩
  · obtain ⟨⟨v, rfl⟩, hW₂, e2, q2, q3, q4, q5, q6⟩ := id hfe
    have e3 : s₂ = ({ (U.calling g mk a).setFrames s₂.frames with heap := s₂.heap, slotsUsed := s₂.slotsUsed } : State).setVm s₂.vm := by
      have : s₂ = ({ s₂ with vm := (U.calling g mk a).vm } : State).setVm s₂.vm := rfl
      rw [e2] at this
      exact this
    obtain ⟨c₂, i₂, len₂, hc₂, hd₂, hf₂⟩ := hend
    have hW' : U.WarmedH s₂.vm := hW₂
    have hcc : c₂ = c := by
      have h1 : s₂.code? g.method = U.code? g.method := by
        rw [State.code?_eq, State.code?_eq, hW'.alike.method?]
      exact Option.some.inj (hc₂.symm.trans (h1.trans h.code))
    subst hcc
    have hlen : len₂ = len := by rw [hdg] at hd₂; cases hd₂; rfl
    subst hlen
    have hs₂ : s₂ = (({ U with heap := s₂.heap, slotsUsed := s₂.slotsUsed } : State).setVm s₂.vm).setTop { g with pc := g.pc + len₂, stack := v.toList ++ g.stack } := by
      refine e3.trans ?_
      rw [hf₂, State.calling_eq h.top, State.setFrames_setFrames, State.setTop_of_frames _ hr', hr]
      rfl
    have hsame : U.sameButNew ({ U with heap := s₂.heap, slotsUsed := s₂.slotsUsed } : State) L mc ms := by
      refine ⟨?_, q2, q3, q4, q5, q6⟩
      obtain ⟨t, ht, -⟩ := State.frames_cons hr
      show ({ U with heap := s₂.heap, slotsUsed := s₂.slotsUsed } : State) = { U.setFrames U.frames with heap := s₂.heap, slotsUsed := s₂.slotsUsed }
      rw [State.setFrames_self ht]
    subst hg
    refine Or.inl ⟨v, ⟨(({ U with heap := s₂.heap, slotsUsed := s₂.slotsUsed } : State).setVm s₂.vm), Ls ++ L, c0 + mc, s0 + ms⟩,
      ⟨X.admits, X.cas, X.clock, X.frames, X.room, X.hears, X.method, X.code, (X.here.setHeapUsed s₂.heap s₂.slotsUsed).setVm hW'.alike, X.tail, State.WarmedH.trans X.warmed hW', X.limits, X.bytes, X.same.trans (hsame.setVm s.vm)⟩,
      ⟨g, mk, s₂, L, rfl, rfl, hqc, rfl, hL, rfl, rfl⟩, ?_⟩
    show Steps p.tables e below _ ((({ U with heap := s₂.heap, slotsUsed := s₂.slotsUsed } : State).setVm s₂.vm).setTop { g with pc := g.pc + len₂, stack := v.toList ++ g.stack })
    rw [← hs₂]
    exact hsteps
  · obtain ⟨e2, q2, q3, q4, q5, q6⟩ := id hsm
    have e3 : s₂ = ({ (U.calling g mk a).setFrames s₂.frames with heap := s₂.heap, slotsUsed := s₂.slotsUsed } : State).setVm s₂.vm := by
      have : s₂ = ({ s₂ with vm := (U.calling g mk a).vm } : State).setVm s₂.vm := rfl
      rw [e2] at this
      exact this
    have hf₂ : s₂.frames = .throwing q :: .java g :: U.frames.tail := hend
    have hW' : U.WarmedH s₂.vm := hW₂
    have hs₂ : s₂ = ((({ U with heap := s₂.heap, slotsUsed := s₂.slotsUsed } : State).setVm s₂.vm).setTop g).pushFrame (.throwing q) := by
      refine e3.trans ?_
      rw [hf₂, State.calling_eq h.top, State.setFrames_setFrames, State.pushFrame, State.frames_setTop _ hr', State.setTop_of_frames _ hr', State.setFrames_setFrames, hr]
      rfl
    have hsame : U.sameButNew ({ U with heap := s₂.heap, slotsUsed := s₂.slotsUsed } : State) L mc ms := by
      refine ⟨?_, q2, q3, q4, q5, q6⟩
      obtain ⟨t, ht, -⟩ := State.frames_cons hr
      show ({ U with heap := s₂.heap, slotsUsed := s₂.slotsUsed } : State) = { U.setFrames U.frames with heap := s₂.heap, slotsUsed := s₂.slotsUsed }
      rw [State.setFrames_self ht]
    subst hg
    refine Or.inr ⟨q, ⟨(({ U with heap := s₂.heap, slotsUsed := s₂.slotsUsed } : State).setVm s₂.vm), Ls ++ L, c0 + mc, s0 + ms⟩,
      ⟨X.admits, X.cas, X.clock, X.frames, X.room, X.hears, X.method, X.code, (X.here.setHeapUsed s₂.heap s₂.slotsUsed).setVm hW'.alike, X.tail, State.WarmedH.trans X.warmed hW', X.limits, X.bytes, X.same.trans (hsame.setVm s.vm)⟩,
      ⟨g, mk, s₂, L, E, ce, rfl, rfl, hx, hce, hcv, hcl, rfl, hL, rfl, rfl⟩, ?_⟩
    show Steps p.tables e below _ (((({ U with heap := s₂.heap, slotsUsed := s₂.slotsUsed } : State).setVm s₂.vm).setTop g).pushFrame (.throwing q))
    rw [← hs₂]
    exact hsteps
end Payer
section Calls
variable {p : Program} {l : Launch} {e : Env} {R : Room} {s : State} {m : MethodId} {args : Array Value} {below : List Frame} {meth : Method} {c : Code} {T : State} {locs : List Loc} {cells slots : Nat}
theorem vx_callV (X : Stand p l e R s m args below meth c T locs cells slots) (hexec : p.tables.exec = Jvm.exec) {own C : String} {index : Nat} {y : MethodName} {bytes : ByteArray} {maxL : Nat} {ret : Option FieldType}
    (hown : s.vm.findClass own = some m.cls) (hlink : (Cond.methodLink own index y).before args s = true) (hinst : (Cond.instanceMethod y).before args s = true) (hsel : (Cond.selects C y y).before args s = true)
    (hcode : (Cond.code y bytes maxL ret).before args s = true) (hy : y.cls ≠ "java/lang/invoke/MethodHandle" ∧ y.cls ≠ "java/lang/invoke/VarHandle")
    {W9 : Nat} {Pre : Pt → Array Value → Prop} {Post : Pt → Array Value → Option Value → Pt → Prop} {PostX : Pt → Array Value → Addr → Pt → Prop} (hK : vx_Back l R p e below s args y 3 W9 Pre Post PostX)
    {b : Addr} {cellB : Cell} (hcell : T.heap[b]? = some cellB) (hobj : cellB.vm.isStatics = false) (hcls : s.vm.findClass C = some cellB.cls)
    {g : JFrame} (hg : g.method = m) (hsize : g.locals.size = c.maxLocals) {argsL rest : List Value} (hlen : ∀ sig, parseMethodDescriptor y.desc = some sig → argsL.length = sig.parameters.length)
    (hstack : g.stack = argsL.reverse ++ .ref b :: rest) (hW : 2 * g.monitorRoom + (rest.map fun v => v.category).sum ≤ W9) (hdg : decode c.code g.pc = .ok (.invokevirtual index, 3))
    (hpre : ∀ vm₁, s.WarmedH vm₁ → Pre ⟨T.setVm vm₁, locs, cells, slots⟩ (Value.ref b :: argsL).toArray) :
    (∃ (v : Option Value) (vm₁ : Vm) (B : Pt), s.WarmedH vm₁ ∧ Stand p l e R s m args below meth c B.U B.locs B.cells B.slots ∧ Post ⟨T.setVm vm₁, locs, cells, slots⟩ (Value.ref b :: argsL).toArray v B ∧
      ∀ target, Steps p.tables e below (B.U.setTop { g with pc := g.pc + 3, stack := v.toList ++ rest }) target → Steps p.tables e below (T.setTop g) target) ∨
    (∃ (q : Addr) (vm₁ : Vm) (B : Pt), s.WarmedH vm₁ ∧ Stand p l e R s m args below meth c B.U B.locs B.cells B.slots ∧ PostX ⟨T.setVm vm₁, locs, cells, slots⟩ (Value.ref b :: argsL).toArray q B ∧
      Steps p.tables e below (T.setTop g) ((B.U.setTop { g with stack := rest }).pushFrame (.throwing q))) := by
  obtain ⟨mk, methM, hnamed, hmethM, hstM, habM⟩ := Cond.instanceMethod_spec hinst
  obtain ⟨methM', cM, hmethM', -, -, -, -, -, -, hsigM⟩ := Cond.code_spec hnamed hcode
  cases hmethM.symm.trans hmethM'
  obtain ⟨c2, r2, m2, q1, q2, q3, q4, kP, hkP, hkPi⟩ := Cond.selects_spec hsel
  cases hcls.symm.trans q1
  cases (State.methodFound?_of_named hnamed hy).symm.trans q2
  cases hnamed.symm.trans q3
  have hselP : selectMethod e.platform s.vm cellB.cls mk = .method mk := by rw [Launch.admits_selectMethod X.admits]; exact q4
  obtain ⟨vm₁, X₁, hstep₁⟩ := X.invokevirtual hexec hown hlink hnamed hmethM hstM hkP hkPi hy (a := b) (cell := cellB) hcell
    (fun z h => by rw [h] at hobj; cases hobj) hselP hmethM habM hkP hkPi (g := g) hg (argsL := argsL) (rest := rest) (hlen _ hsigM) hstack hdg
  rcases hK m meth c ⟨T.setVm vm₁, locs, cells, slots⟩ { g with stack := rest } (.invokevirtual index) mk (Value.ref b :: argsL).toArray X₁ hg hsize hdg hW (X₁.named hnamed) (hpre vm₁ X₁.warmed) with ⟨v, B, X', hpost, hsteps⟩ | ⟨q, B, X', hpost, hsteps⟩
  · exact Or.inl ⟨v, vm₁, B, X₁.warmed, X', hpost, fun target h => hstep₁ _ fun acts => by rw [doInvoke_state]; exact hsteps.trans h⟩
  · exact Or.inr ⟨q, vm₁, B, X₁.warmed, X', hpost, hstep₁ _ fun acts => by rw [doInvoke_state]; exact hsteps⟩
theorem vx_callS (X : Stand p l e R s m args below meth c T locs cells slots) (hexec : p.tables.exec = Jvm.exec) {own : String} {index : Nat} {y : MethodName} {bytes : ByteArray} {maxL : Nat} {ret : Option FieldType}
    (hown : s.vm.findClass own = some m.cls) (hlink : (Cond.methodLink own index y).before args s = true) (hstat : (Cond.static y).before args s = true) (hinit : (Cond.initialized y.cls).before args s = true)
    (hcode : (Cond.code y bytes maxL ret).before args s = true) (hy : y.cls ≠ "java/lang/invoke/MethodHandle" ∧ y.cls ≠ "java/lang/invoke/VarHandle")
    {W9 : Nat} {Pre : Pt → Array Value → Prop} {Post : Pt → Array Value → Option Value → Pt → Prop} {PostX : Pt → Array Value → Addr → Pt → Prop} (hK : vx_Back l R p e below s args y 3 W9 Pre Post PostX)
    {g : JFrame} (hg : g.method = m) (hsize : g.locals.size = c.maxLocals) {argsL rest : List Value} (hlen : ∀ sig, parseMethodDescriptor y.desc = some sig → argsL.length = sig.parameters.length)
    (hstack : g.stack = argsL.reverse ++ rest) (hW : 2 * g.monitorRoom + (rest.map fun v => v.category).sum ≤ W9) (hdg : decode c.code g.pc = .ok (.invokestatic index, 3))
    (hpre : ∀ vm₁, s.WarmedH vm₁ → Pre ⟨T.setVm vm₁, locs, cells, slots⟩ argsL.toArray) :
    (∃ (v : Option Value) (vm₁ : Vm) (B : Pt), s.WarmedH vm₁ ∧ Stand p l e R s m args below meth c B.U B.locs B.cells B.slots ∧ Post ⟨T.setVm vm₁, locs, cells, slots⟩ argsL.toArray v B ∧
      ∀ target, Steps p.tables e below (B.U.setTop { g with pc := g.pc + 3, stack := v.toList ++ rest }) target → Steps p.tables e below (T.setTop g) target) ∨
    (∃ (q : Addr) (vm₁ : Vm) (B : Pt), s.WarmedH vm₁ ∧ Stand p l e R s m args below meth c B.U B.locs B.cells B.slots ∧ PostX ⟨T.setVm vm₁, locs, cells, slots⟩ argsL.toArray q B ∧
      Steps p.tables e below (T.setTop g) ((B.U.setTop { g with stack := rest }).pushFrame (.throwing q))) := by
  obtain ⟨mk, hnamed⟩ := Cond.code_named hcode
  obtain ⟨methM, cM, hmethM, -, -, -, -, -, -, hsigM⟩ := Cond.code_spec hnamed hcode
  have hstatic : methM.isStatic = true := Cond.static_spec hnamed hmethM hstat
  obtain ⟨kP, hkP, -⟩ := className_of_methodNamed hnamed
  have hinitP : kP.init = .initialized := Cond.initialized_spec (findClass_of_methodNamed hnamed) hkP hinit
  obtain ⟨vm₁, X₁, hstep₁⟩ := X.invokestatic hexec hown hlink hnamed hmethM hstatic hkP hinitP hy (g := g) hg (argsL := argsL) (rest := rest) (hlen _ hsigM) hstack hdg
  rcases hK m meth c ⟨T.setVm vm₁, locs, cells, slots⟩ { g with stack := rest } (.invokestatic index) mk argsL.toArray X₁ hg hsize hdg hW (X₁.named hnamed) (hpre vm₁ X₁.warmed) with ⟨v, B, X', hpost, hsteps⟩ | ⟨q, B, X', hpost, hsteps⟩
  · exact Or.inl ⟨v, vm₁, B, X₁.warmed, X', hpost, fun target h => hstep₁ _ fun acts => by rw [doInvoke_state]; exact hsteps.trans h⟩
  · exact Or.inr ⟨q, vm₁, B, X₁.warmed, X', hpost, hstep₁ _ fun acts => by rw [doInvoke_state]; exact hsteps⟩
end Calls
theorem vx_cls {s : State} {T : State} {vm₁ : Vm} {E : String} {k : ClassId} (hW : s.WarmedH vm₁) (h : (T.setVm vm₁).vm.findClass E = some k) : s.vm.findClass E = some k := by
  have h1 : vm₁.findClass E = some k := h
  rw [hW.alike.findClass] at h1
  exact h1
/-- the method's frame g, with q thrown over it -/
def vx_W (p : Program) (l : Launch) (e : Env) (R : Room) (s : State) (m : MethodId) (args : Array Value) (below : List Frame) (meth : Method) (c : Code) (H : Heap) (locs : List Loc) (cells slots : Nat) (Q : State → Prop) (g : JFrame) (q : Addr) : Prop :=
  ∀ T : State, T.heap = H → Stand p l e R s m args below meth c T locs cells slots → ∃ t, Steps p.tables e below ((T.setTop g).pushFrame (.throwing q)) t ∧ Q t
def vx_Run (p : Program) (l : Launch) (e : Env) (R : Room) (s : State) (m : MethodId) (args : Array Value) (below : List Frame) (meth : Method) (c : Code) (H : Heap) (locs : List Loc) (cells slots mc ms : Nat) (g : JFrame) (rest : List Value) (Qa : State → Outcome → State → Prop) (XC : String → State → State → Prop) (free : Addr → Prop) : Prop :=
  ∀ T : State, T.heap = H → Stand p l e R s m args below meth c T locs cells slots →
    (∃ (v : Option Value) (st₀ t T' : State) (L : List Loc), st₀.heap = H ∧ Stand p l e R s m args below meth c T' (locs ++ L) (cells + mc) (slots + ms) ∧ (∀ q ∈ L, free q.base) ∧ T'.heap = t.heap ∧ T'.vm = t.vm ∧ Qa st₀ (.returned v) t ∧
      Goes p e below T g T' { g with pc := g.pc + 3, stack := v.toList ++ rest }) ∨
    (∃ (q : Addr) (st₀ t T' : State) (L : List Loc) (E : String) (ce : Cell), st₀.heap = H ∧ Stand p l e R s m args below meth c T' (locs ++ L) (cells + mc) (slots + ms) ∧ (∀ z ∈ L, free z.base) ∧ T'.heap = t.heap ∧ T'.vm = t.vm ∧ XC E st₀ t ∧ t.heap[q]? = some ce ∧ ce.vm = .none ∧ s.vm.findClass E = some ce.cls ∧
      Steps p.tables e below (T.setTop g) ((T'.setTop { g with stack := rest }).pushFrame (.throwing q)))
def vx_X {S : Type} (px : S → Prop) (B : String → S → State → Prop) (A : Nat → Prop) : String → State → State → Prop := fun E st t => ∃ u : S, px u ∧ B E u t ∧ va_F A st t
section Runs
variable {p : Program} {l : Launch} {e : Env} {R : Room} {s : State} {m : MethodId} {args : Array Value} {below : List Frame} {meth : Method} {c : Code} {H : Heap} {locs : List Loc} {cells slots : Nat}
variable {y : MethodName} {bytes cc : ByteArray} {maxL nL mc ms n index : Nat} {ret : Option FieldType} {ws : List Cond} {rm : Room} {Pc : Array Value → State → Prop} {Qc : Array Value → State → Outcome → State → Prop} {XC : String → State → State → Prop} {free : Addr → Prop} {Ts : List Cond} {own C : String} {b : Addr} {As rest : List Value} {g : JFrame}
theorem vx_callBack (cb : CallB R s args own index y bytes maxL ret ws rm mc ms n) (hM : vx_Met l y ws rm Pc Qc XC mc ms free) (hbl : FrameBlind Pc) : vx_Back l R p e below s args y 3 8 (PreOf R mc ms Pc) (PostOf Qc mc ms free) (vx_Post XC mc ms free) := by
  obtain ⟨hrc, hrs, hfr, hlo, hws, hcw, -, hini, -⟩ := cb
  exact vx_back (bytes := bytes) (maxL := maxL) (ret := ret) hM hbl hrc hrs hfr hlo hws hcw (fun a' U hW => word_at hW (Or.inl (by first | rfl | simp [Cond.onTables, Cond.keeps, Cond.steady])) hini)
theorem vx_runV (S : CallFix p m c cc nL s args Ts own) (hM : vx_Met l y ws rm Pc Qc XC mc ms free) (cw : CallW R s args own C index y bytes maxL ret ws rm mc ms n) (hp : PreV s H C b Pc As)
    (hg : g.method = m) (hn : As.length = n) (hsize : g.locals.size = nL) (hstack : g.stack = As.reverse ++ .ref b :: rest) (hW : 2 * g.monitorRoom + (rest.map fun v => v.category).sum ≤ 8) (hdg : decode cc g.pc = .ok (.invokevirtual index, 3)) (hf : cells + mc ≤ R.cells ∧ slots + ms ≤ R.slots) :
    vx_Run p l e R s m args below meth c H locs cells slots mc ms g rest (Qc (Value.ref b :: As).toArray) XC free := by
  have hK : vx_Back l R p e below s args y 3 8 (PreOf R mc ms Pc) (PostOf Qc mc ms free) (vx_Post XC mc ms free) := vx_callBack cw.1 hM hp.1
  obtain ⟨⟨-, -, -, -, -, -, hcode, -, hy, hlen, hl⟩, hin, hse⟩ := cw
  obtain ⟨hx, hb, hml, ho, -⟩ := S
  obtain ⟨-, ⟨cellB, hcB, hoB, hclB⟩, hPc⟩ := hp
  intro T hT X
  rcases vx_callV X hx (C := C) (bytes := bytes) (maxL := maxL) (ret := ret) ho hl hin hse hcode hy hK (by rw [hT]; exact hcB) hoB hclB hg (hsize.trans hml.symm) (argsL := As) (rest := rest) (fun sig h => hn.trans (hlen sig h)) hstack hW (by rw [hb]; exact hdg)
    (fun vm₁ hW₁ => ⟨hf.1, hf.2, hPc (T.setVm vm₁) hT hW₁⟩) with ⟨v, vm₁, ⟨U', l2, c2, s2⟩, hW₁, X', ⟨g', mk, t, L, e1, e2, hq, h1, hL, h2, h3⟩, st⟩ | ⟨q, vm₁, ⟨U', l2, c2, s2⟩, hW₁, X', ⟨g', mk, t, L, E, ce, e1, e2, hq, hce, hcv, hcl, h1, hL, h2, h3⟩, st⟩
  · dsimp only [Pt.U, Pt.locs, Pt.cells, Pt.slots] at X' e1 e2 h1 h2 h3 st
    subst h1; subst h2; subst h3
    exact Or.inl ⟨v, (T.setVm vm₁).calling g' mk (Value.ref b :: As).toArray, t, U', L, hT, X', hL, e1, e2, hq, st⟩
  · dsimp only [Pt.U, Pt.locs, Pt.cells, Pt.slots] at X' e1 e2 h1 h2 h3 st hcl
    subst h1; subst h2; subst h3
    exact Or.inr ⟨q, (T.setVm vm₁).calling g' mk (Value.ref b :: As).toArray, t, U', L, E, ce, hT, X', hL, e1, e2, hq, hce, hcv, vx_cls hW₁ hcl, st⟩
theorem vx_runS (S : CallFix p m c cc nL s args Ts own) (hM : vx_Met l y ws rm Pc Qc XC mc ms free) (cw : CallB R s args own index y bytes maxL ret ws rm mc ms n ∧ (Cond.static y).before args s = true) (hp : PreS s H Pc As)
    (hg : g.method = m) (hn : As.length = n) (hsize : g.locals.size = nL) (hstack : g.stack = As.reverse ++ rest) (hW : 2 * g.monitorRoom + (rest.map fun v => v.category).sum ≤ 8) (hdg : decode cc g.pc = .ok (.invokestatic index, 3)) (hf : cells + mc ≤ R.cells ∧ slots + ms ≤ R.slots) :
    vx_Run p l e R s m args below meth c H locs cells slots mc ms g rest (Qc As.toArray) XC free := by
  have hK : vx_Back l R p e below s args y 3 8 (PreOf R mc ms Pc) (PostOf Qc mc ms free) (vx_Post XC mc ms free) := vx_callBack cw.1 hM hp.1
  obtain ⟨⟨-, -, -, -, -, -, hcode, hini, hy, hlen, hl⟩, hstt⟩ := cw
  obtain ⟨hx, hb, hml, ho, -⟩ := S
  intro T hT X
  rcases vx_callS X hx (bytes := bytes) (maxL := maxL) (ret := ret) ho hl hstt hini hcode hy hK hg (hsize.trans hml.symm) (argsL := As) (rest := rest) (fun sig h => hn.trans (hlen sig h)) hstack hW (by rw [hb]; exact hdg)
    (fun vm₁ hW₁ => ⟨hf.1, hf.2, hp.2 (T.setVm vm₁) hT hW₁⟩) with ⟨v, vm₁, ⟨U', l2, c2, s2⟩, hW₁, X', ⟨g', mk, t, L, e1, e2, hq, h1, hL, h2, h3⟩, st⟩ | ⟨q, vm₁, ⟨U', l2, c2, s2⟩, hW₁, X', ⟨g', mk, t, L, E, ce, e1, e2, hq, hce, hcv, hcl, h1, hL, h2, h3⟩, st⟩
  · dsimp only [Pt.U, Pt.locs, Pt.cells, Pt.slots] at X' e1 e2 h1 h2 h3 st
    subst h1; subst h2; subst h3
    exact Or.inl ⟨v, (T.setVm vm₁).calling g' mk As.toArray, t, U', L, hT, X', hL, e1, e2, hq, st⟩
  · dsimp only [Pt.U, Pt.locs, Pt.cells, Pt.slots] at X' e1 e2 h1 h2 h3 st hcl
    subst h1; subst h2; subst h3
    exact Or.inr ⟨q, (T.setVm vm₁).calling g' mk As.toArray, t, U', L, E, ce, hT, X', hL, e1, e2, hq, hce, hcv, vx_cls hW₁ hcl, st⟩
end Runs
section Rows
variable {p : Program} {l : Launch} {e : Env} {R : Room} {s : State} {m : MethodId} {args : Array Value} {below : List Frame} {meth : Method} {c : Code} {H : Heap} {locs : List Loc} {cells slots : Nat} {Q : State → Prop}
variable {mc ms : Nat} {free : Addr → Prop} {A0 A1 : Nat → Prop} {H0 : Heap} {a : Array Value} {pc : Nat} {ls : Array Slot} {st0 rest : List Value}
theorem vx_keep {st₀ t T' : State} {L : List Loc} (h0 : st₀.heap = H) (e1 : T'.heap = t.heap) (hS : va_S A0 H0 H locs) (hA : ∀ q, q < H.size → A1 q → A0 q) (hf : ∀ q, free q → A0 q) (hL : ∀ q ∈ L, free q.base) (hF : va_F A1 st₀ t) :
    H.size ≤ T'.heap.size ∧ (∀ q : Nat, q < H.size → ¬ A1 q → T'.heap[q]? = H[q]?) ∧ va_S A0 H0 T'.heap (locs ++ L) := by
  obtain ⟨hz, hk⟩ := hF
  rw [h0] at hz hk
  exact ⟨by rw [e1]; exact hz, fun q h1 h2 => by rw [e1]; exact hk q h1 h2,
    ⟨Nat.le_trans hS.1 (by rw [e1]; exact hz), fun q h1 h2 => by rw [e1, hk q (Nat.lt_of_lt_of_le h1 hS.1) (fun z => h2 (hA q (Nat.lt_of_lt_of_le h1 hS.1) z))]; exact hS.2.1 q h1 h2, fun q hq => by
      rcases List.mem_append.mp hq with h | h
      · exact hS.2.2 q h
      · exact hf _ (hL q h)⟩⟩
theorem vx_calli {S SX : Type} {post : Int32 → S → Prop} {px : SX → Prop} {B : S → State → Prop} {BX : String → SX → State → Prop} {AX : Nat → Prop} (hr : vx_Run p l e R s m args below meth c H locs cells slots mc ms (F0 m pc ls st0) rest (va_Qi post B A1 a) (vx_X px BX AX) free) (hS : va_S A0 H0 H locs) (hA : ∀ q, q < H.size → A1 q → A0 q) (hf : ∀ q, free q → A0 q) (hAX : ∀ q, q < H.size → AX q → A0 q)
    (kx : ∀ (E : String) (ce : Cell) (q9 : Addr) (u : SX) (t : State) (H1 : Heap) (locs1 : List Loc), t.heap = H1 → s.vm.Alike t.vm → px u → BX E u t → H.size ≤ H1.size → (∀ q : Nat, q < H.size → ¬ AX q → H1[q]? = H[q]?) → va_S A0 H0 H1 locs1 → H1[q9]? = some ce → ce.vm = .none → s.vm.findClass E = some ce.cls → vx_W p l e R s m args below meth c H1 locs1 (cells + mc) (slots + ms) Q (F0 m pc ls rest) q9)
    (kk : ∀ (r : Int32) (u : S) (t : State) (H1 : Heap) (locs1 : List Loc), t.heap = H1 → s.vm.Alike t.vm → post r u → B u t → H.size ≤ H1.size → (∀ q : Nat, q < H.size → ¬ A1 q → H1[q]? = H[q]?) → va_S A0 H0 H1 locs1 → W p l e R s m args below meth c H1 locs1 (cells + mc) (slots + ms) Q (F0 m (pc + 3) ls (.int r :: rest))) : W p l e R s m args below meth c H locs cells slots Q (F0 m pc ls st0) := by
  intro T hT X
  rcases hr T hT X with ⟨v, st₀, t, T', L, h0, X', hL, e1, e2, ⟨⟨r, u, hv, hp, hb⟩, hF⟩, st⟩ | ⟨q, st₀, t, T', L, E, ce, h0, X', hL, e1, e2, ⟨u, hp, hb, hF⟩, hce, hcv, hcl, st⟩
  · cases hv
    obtain ⟨k1, k2, k3⟩ := vx_keep h0 e1 hS hA hf hL hF
    obtain ⟨t2, a1, b1⟩ := kk r u t T'.heap (locs ++ L) e1.symm (by rw [← e2]; exact X'.warmed.alike) hp hb k1 k2 k3 T' rfl X'
    exact ⟨t2, st t2 a1, b1⟩
  · obtain ⟨k1, k2, k3⟩ := vx_keep h0 e1 hS hAX hf hL hF
    obtain ⟨t2, a1, b1⟩ := kx E ce q u t T'.heap (locs ++ L) e1.symm (by rw [← e2]; exact X'.warmed.alike) hp hb k1 k2 k3 (by rw [e1]; exact hce) hcv hcl T' rfl X'
    exact ⟨t2, st.trans a1, b1⟩
theorem vx_calll {S SX : Type} {post : Int64 → S → Prop} {px : SX → Prop} {B : S → State → Prop} {BX : String → SX → State → Prop} {AX : Nat → Prop} (hr : vx_Run p l e R s m args below meth c H locs cells slots mc ms (F0 m pc ls st0) rest (va_Ql post B A1 a) (vx_X px BX AX) free) (hS : va_S A0 H0 H locs) (hA : ∀ q, q < H.size → A1 q → A0 q) (hf : ∀ q, free q → A0 q) (hAX : ∀ q, q < H.size → AX q → A0 q)
    (kx : ∀ (E : String) (ce : Cell) (q9 : Addr) (u : SX) (t : State) (H1 : Heap) (locs1 : List Loc), t.heap = H1 → s.vm.Alike t.vm → px u → BX E u t → H.size ≤ H1.size → (∀ q : Nat, q < H.size → ¬ AX q → H1[q]? = H[q]?) → va_S A0 H0 H1 locs1 → H1[q9]? = some ce → ce.vm = .none → s.vm.findClass E = some ce.cls → vx_W p l e R s m args below meth c H1 locs1 (cells + mc) (slots + ms) Q (F0 m pc ls rest) q9)
    (kk : ∀ (r : Int64) (u : S) (t : State) (H1 : Heap) (locs1 : List Loc), t.heap = H1 → s.vm.Alike t.vm → post r u → B u t → H.size ≤ H1.size → (∀ q : Nat, q < H.size → ¬ A1 q → H1[q]? = H[q]?) → va_S A0 H0 H1 locs1 → W p l e R s m args below meth c H1 locs1 (cells + mc) (slots + ms) Q (F0 m (pc + 3) ls (.long r :: rest))) : W p l e R s m args below meth c H locs cells slots Q (F0 m pc ls st0) := by
  intro T hT X
  rcases hr T hT X with ⟨v, st₀, t, T', L, h0, X', hL, e1, e2, ⟨⟨r, u, hv, hp, hb⟩, hF⟩, st⟩ | ⟨q, st₀, t, T', L, E, ce, h0, X', hL, e1, e2, ⟨u, hp, hb, hF⟩, hce, hcv, hcl, st⟩
  · cases hv
    obtain ⟨k1, k2, k3⟩ := vx_keep h0 e1 hS hA hf hL hF
    obtain ⟨t2, a1, b1⟩ := kk r u t T'.heap (locs ++ L) e1.symm (by rw [← e2]; exact X'.warmed.alike) hp hb k1 k2 k3 T' rfl X'
    exact ⟨t2, st t2 a1, b1⟩
  · obtain ⟨k1, k2, k3⟩ := vx_keep h0 e1 hS hAX hf hL hF
    obtain ⟨t2, a1, b1⟩ := kx E ce q u t T'.heap (locs ++ L) e1.symm (by rw [← e2]; exact X'.warmed.alike) hp hb k1 k2 k3 (by rw [e1]; exact hce) hcv hcl T' rfl X'
    exact ⟨t2, st.trans a1, b1⟩
theorem vx_callf {S SX : Type} {post : UInt32 → S → Prop} {px : SX → Prop} {B : S → State → Prop} {BX : String → SX → State → Prop} {AX : Nat → Prop} (hr : vx_Run p l e R s m args below meth c H locs cells slots mc ms (F0 m pc ls st0) rest (va_Qf post B A1 a) (vx_X px BX AX) free) (hS : va_S A0 H0 H locs) (hA : ∀ q, q < H.size → A1 q → A0 q) (hf : ∀ q, free q → A0 q) (hAX : ∀ q, q < H.size → AX q → A0 q)
    (kx : ∀ (E : String) (ce : Cell) (q9 : Addr) (u : SX) (t : State) (H1 : Heap) (locs1 : List Loc), t.heap = H1 → s.vm.Alike t.vm → px u → BX E u t → H.size ≤ H1.size → (∀ q : Nat, q < H.size → ¬ AX q → H1[q]? = H[q]?) → va_S A0 H0 H1 locs1 → H1[q9]? = some ce → ce.vm = .none → s.vm.findClass E = some ce.cls → vx_W p l e R s m args below meth c H1 locs1 (cells + mc) (slots + ms) Q (F0 m pc ls rest) q9)
    (kk : ∀ (r : UInt32) (u : S) (t : State) (H1 : Heap) (locs1 : List Loc), t.heap = H1 → s.vm.Alike t.vm → post r u → B u t → H.size ≤ H1.size → (∀ q : Nat, q < H.size → ¬ A1 q → H1[q]? = H[q]?) → va_S A0 H0 H1 locs1 → W p l e R s m args below meth c H1 locs1 (cells + mc) (slots + ms) Q (F0 m (pc + 3) ls (.float r :: rest))) : W p l e R s m args below meth c H locs cells slots Q (F0 m pc ls st0) := by
  intro T hT X
  rcases hr T hT X with ⟨v, st₀, t, T', L, h0, X', hL, e1, e2, ⟨⟨r, u, hv, hp, hb⟩, hF⟩, st⟩ | ⟨q, st₀, t, T', L, E, ce, h0, X', hL, e1, e2, ⟨u, hp, hb, hF⟩, hce, hcv, hcl, st⟩
  · cases hv
    obtain ⟨k1, k2, k3⟩ := vx_keep h0 e1 hS hA hf hL hF
    obtain ⟨t2, a1, b1⟩ := kk r u t T'.heap (locs ++ L) e1.symm (by rw [← e2]; exact X'.warmed.alike) hp hb k1 k2 k3 T' rfl X'
    exact ⟨t2, st t2 a1, b1⟩
  · obtain ⟨k1, k2, k3⟩ := vx_keep h0 e1 hS hAX hf hL hF
    obtain ⟨t2, a1, b1⟩ := kx E ce q u t T'.heap (locs ++ L) e1.symm (by rw [← e2]; exact X'.warmed.alike) hp hb k1 k2 k3 (by rw [e1]; exact hce) hcv hcl T' rfl X'
    exact ⟨t2, st.trans a1, b1⟩
theorem vx_calld {S SX : Type} {post : UInt64 → S → Prop} {px : SX → Prop} {B : S → State → Prop} {BX : String → SX → State → Prop} {AX : Nat → Prop} (hr : vx_Run p l e R s m args below meth c H locs cells slots mc ms (F0 m pc ls st0) rest (va_Qd post B A1 a) (vx_X px BX AX) free) (hS : va_S A0 H0 H locs) (hA : ∀ q, q < H.size → A1 q → A0 q) (hf : ∀ q, free q → A0 q) (hAX : ∀ q, q < H.size → AX q → A0 q)
    (kx : ∀ (E : String) (ce : Cell) (q9 : Addr) (u : SX) (t : State) (H1 : Heap) (locs1 : List Loc), t.heap = H1 → s.vm.Alike t.vm → px u → BX E u t → H.size ≤ H1.size → (∀ q : Nat, q < H.size → ¬ AX q → H1[q]? = H[q]?) → va_S A0 H0 H1 locs1 → H1[q9]? = some ce → ce.vm = .none → s.vm.findClass E = some ce.cls → vx_W p l e R s m args below meth c H1 locs1 (cells + mc) (slots + ms) Q (F0 m pc ls rest) q9)
    (kk : ∀ (r : UInt64) (u : S) (t : State) (H1 : Heap) (locs1 : List Loc), t.heap = H1 → s.vm.Alike t.vm → post r u → B u t → H.size ≤ H1.size → (∀ q : Nat, q < H.size → ¬ A1 q → H1[q]? = H[q]?) → va_S A0 H0 H1 locs1 → W p l e R s m args below meth c H1 locs1 (cells + mc) (slots + ms) Q (F0 m (pc + 3) ls (.double r :: rest))) : W p l e R s m args below meth c H locs cells slots Q (F0 m pc ls st0) := by
  intro T hT X
  rcases hr T hT X with ⟨v, st₀, t, T', L, h0, X', hL, e1, e2, ⟨⟨r, u, hv, hp, hb⟩, hF⟩, st⟩ | ⟨q, st₀, t, T', L, E, ce, h0, X', hL, e1, e2, ⟨u, hp, hb, hF⟩, hce, hcv, hcl, st⟩
  · cases hv
    obtain ⟨k1, k2, k3⟩ := vx_keep h0 e1 hS hA hf hL hF
    obtain ⟨t2, a1, b1⟩ := kk r u t T'.heap (locs ++ L) e1.symm (by rw [← e2]; exact X'.warmed.alike) hp hb k1 k2 k3 T' rfl X'
    exact ⟨t2, st t2 a1, b1⟩
  · obtain ⟨k1, k2, k3⟩ := vx_keep h0 e1 hS hAX hf hL hF
    obtain ⟨t2, a1, b1⟩ := kx E ce q u t T'.heap (locs ++ L) e1.symm (by rw [← e2]; exact X'.warmed.alike) hp hb k1 k2 k3 (by rw [e1]; exact hce) hcv hcl T' rfl X'
    exact ⟨t2, st.trans a1, b1⟩
theorem vx_callv {S SX : Type} {post : S → Prop} {px : SX → Prop} {B : S → State → Prop} {BX : String → SX → State → Prop} {AX : Nat → Prop} (hr : vx_Run p l e R s m args below meth c H locs cells slots mc ms (F0 m pc ls st0) rest (va_Qv post B A1 a) (vx_X px BX AX) free) (hS : va_S A0 H0 H locs) (hA : ∀ q, q < H.size → A1 q → A0 q) (hf : ∀ q, free q → A0 q) (hAX : ∀ q, q < H.size → AX q → A0 q)
    (kx : ∀ (E : String) (ce : Cell) (q9 : Addr) (u : SX) (t : State) (H1 : Heap) (locs1 : List Loc), t.heap = H1 → s.vm.Alike t.vm → px u → BX E u t → H.size ≤ H1.size → (∀ q : Nat, q < H.size → ¬ AX q → H1[q]? = H[q]?) → va_S A0 H0 H1 locs1 → H1[q9]? = some ce → ce.vm = .none → s.vm.findClass E = some ce.cls → vx_W p l e R s m args below meth c H1 locs1 (cells + mc) (slots + ms) Q (F0 m pc ls rest) q9)
    (kk : ∀ (u : S) (t : State) (H1 : Heap) (locs1 : List Loc), t.heap = H1 → s.vm.Alike t.vm → post u → B u t → H.size ≤ H1.size → (∀ q : Nat, q < H.size → ¬ A1 q → H1[q]? = H[q]?) → va_S A0 H0 H1 locs1 → W p l e R s m args below meth c H1 locs1 (cells + mc) (slots + ms) Q (F0 m (pc + 3) ls (rest))) : W p l e R s m args below meth c H locs cells slots Q (F0 m pc ls st0) := by
  intro T hT X
  rcases hr T hT X with ⟨v, st₀, t, T', L, h0, X', hL, e1, e2, ⟨⟨u, hv, hp, hb⟩, hF⟩, st⟩ | ⟨q, st₀, t, T', L, E, ce, h0, X', hL, e1, e2, ⟨u, hp, hb, hF⟩, hce, hcv, hcl, st⟩
  · cases hv
    obtain ⟨k1, k2, k3⟩ := vx_keep h0 e1 hS hA hf hL hF
    obtain ⟨t2, a1, b1⟩ := kk u t T'.heap (locs ++ L) e1.symm (by rw [← e2]; exact X'.warmed.alike) hp hb k1 k2 k3 T' rfl X'
    exact ⟨t2, st t2 a1, b1⟩
  · obtain ⟨k1, k2, k3⟩ := vx_keep h0 e1 hS hAX hf hL hF
    obtain ⟨t2, a1, b1⟩ := kx E ce q u t T'.heap (locs ++ L) e1.symm (by rw [← e2]; exact X'.warmed.alike) hp hb k1 k2 k3 (by rw [e1]; exact hce) hcv hcl T' rfl X'
    exact ⟨t2, st.trans a1, b1⟩
/-- caught by the row x of this method's table; the rows ahead don't take it -/
theorem vx_catch {own name : String} {E : String} {ce : Cell} {q : Addr} (hown : s.vm.findClass own = some m.cls) (pre : List ExceptionTableEntry) (x : ExceptionTableEntry) (suf : List ExceptionTableEntry) (hsplit : c.exceptionTable.toList = pre ++ x :: suf)
    (hpass : ∀ z ∈ pre, covers z pc = false ∨ (z.catchType ≠ 0 ∧ ∃ nm : String, (Cond.classLink own z.catchType nm).before args s = true ∧ va_Nc E nm s)) (hx : covers x pc = true) (h0 : x.catchType ≠ 0)
    (hlink : (Cond.classLink own x.catchType name).before args s = true) (hcast : (Cond.castable E name).before args s = true) (hcell : H[q]? = some ce) (hv : ce.vm = .none) (hcl : s.vm.findClass E = some ce.cls)
    (kk : W p l e R s m args below meth c H locs cells slots Q (F0 m x.handlerPc ls [.ref q])) : vx_W p l e R s m args below meth c H locs cells slots Q (F0 m pc ls rest) q := by
  intro T hT X
  have hpl : e.platform.magicAccessors = ({} : Platform).magicAccessors := by rw [X.admits.platform]
  obtain ⟨c3, c4, hc3, hc4, hasg⟩ := Cond.castable_spec hcast
  cases Option.some.inj (hc3.symm.trans hcl)
  obtain ⟨c5, hc5, hcl5⟩ := Cond.classLink_spec hown hlink e.platform hpl
  cases Option.some.inj (hc4.symm.trans hc5)
  obtain ⟨vm', X', st⟩ := X.thenCaughtThrough q (g := F0 m pc ls rest) rfl (Steps.refl _) (by rw [hT]; exact hcell) (by rw [hv]; rfl) (by obtain ⟨k9, h9, -⟩ := Vm.findClass_spec hcl; exact ⟨k9, h9⟩) pre x suf hsplit
    (fun z hz => by
      rcases hpass z hz with h | ⟨hz0, nm, hl1, hn1⟩
      · exact Or.inl h
      · obtain ⟨c6, hc6, hcl6⟩ := Cond.classLink_spec hown hl1 e.platform hpl
        obtain ⟨a8, b8, h1, h2, h3⟩ := hn1
        cases Option.some.inj (h1.symm.trans hcl)
        cases Option.some.inj (h2.symm.trans hc6)
        exact Or.inr ⟨hz0, _, hcl6, h3⟩) hx (Or.inr ⟨h0, c4, hcl5, hasg⟩)
  obtain ⟨t, a1, b1⟩ := kk (T.setVm vm') hT X'
  exact ⟨t, st.trans a1, b1⟩
end Rows
section Ends
variable {p : Program} {l : Launch} {e : Env} {R : Room} {s : State} {m : MethodId} {args : Array Value} {below : List Frame} {meth : Method} {c : Code} {H : Heap} {locs : List Loc} {cells slots : Nat} {Q : State → Prop}
variable {mc ms : Nat} {free : Addr → Prop} {A0 A1 : Nat → Prop} {H0 : Heap} {a : Array Value} {ls : Array Slot} {st0 rest : List Value}
variable {Qc : Array Value → State → Outcome → State → Prop} {XC : String → State → State → Prop}
/-- what a body that may throw owes at its end -/
def vx_MQ (below : List Frame) (Qc : Array Value → State → Outcome → State → Prop) (XC : String → State → State → Prop) (a : Array Value) (s : State) (mc ms : Nat) (free : Addr → Prop) : State → Prop := fun t =>
  ∃ o, t.status = .running ∧ Ended t below o ∧ vx_Q Qc XC mc ms free a s o t
theorem vx_ret {g : JFrame} {mc ms : Nat} (k : W p l e R s m args below meth c H locs cells slots (MQ below Qc args s mc ms free) g) : W p l e R s m args below meth c H locs cells slots (vx_MQ below Qc XC args s mc ms free) g := by
  intro T hT X
  obtain ⟨t, a1, o, b1, b2, b3, b4⟩ := k T hT X
  exact ⟨t, a1, o, b1, b2, Or.inl ⟨b3, b4⟩⟩
/-- not caught here: it goes on to the caller -/
theorem vx_widen {g : JFrame} {q : Addr} {k n : Nat} (h1 : cells ≤ k) (h2 : slots ≤ n) (kk : vx_W p l e R s m args below meth c H locs k n Q g q) : vx_W p l e R s m args below meth c H locs cells slots Q g q := fun T hT X => kk T hT (stand_widen X h1 h2)
theorem vx_out {pc : Nat} {E : String} {ce : Cell} {q : Addr} {mc ms : Nat} (hout : ∀ x ∈ c.exceptionTable.toList, covers x pc = false) (hlocks : meth.locks = false) (hcell : H[q]? = some ce) (hv : ce.vm = .none) (hcl : s.vm.findClass E = some ce.cls)
    (hx : ∀ t : State, t.heap = H → s.vm.Alike t.vm → XC E s t) (hf : ∀ z ∈ locs, free z.base) (hc : cells ≤ mc) (hs : slots ≤ ms) :
    vx_W p l e R s m args below meth c H locs cells slots (vx_MQ below Qc XC args s mc ms free) (F0 m pc ls rest) q := by
  intro T hT X
  obtain ⟨st1, hrun, hend, hW, hsm⟩ := X.leaveThrown q (g := F0 m pc ls rest) rfl rfl rfl hout hlocks
  have hcell9 : (T.setFrames (.throwing q :: below)).heap[q]? = some ce := by
    show T.heap[q]? = some ce
    rw [hT]; exact hcell
  exact ⟨_, st1, .threw q, hrun, hend, Or.inr ⟨q, rfl, E, ce, locs, hx _ hT hW.alike, hcell9, hv, hcl, hW, hsm.mono hc hs, hf⟩⟩
theorem vx_frame {U : State} {k n : Nat} (h : s.sameButNew ({ U with vm := s.vm } : State) locs k n) : s.heap.size ≤ U.heap.size ∧ ∀ q : Nat, q < s.heap.size → (∀ z ∈ locs, z.base ≠ q) → U.heap[q]? = s.heap[q]? := by
  obtain ⟨-, h2, -, -, -, h6⟩ := h
  refine ⟨h2, fun q hq hz => ?_⟩
  obtain ⟨c9, e1, e2, e3, e4⟩ := h6 q _ (Array.getElem?_eq_getElem hq)
  have hs : c9.slots = (s.heap[q]).slots := Array.ext_getElem? fun i => e4 i fun hm => hz _ hm rfl
  have h9 : c9 = s.heap[q] := by
    rw [hs] at e2
    exact e2
  have e5 : U.heap[q]? = some c9 := e1
  rw [e5, h9, Array.getElem?_eq_getElem hq]
/-- the words of a throw but the four that speak of the heap -/
def vx_no (w : Cond) : Bool := decide (w ≠ .isRef (.static Bundle.tN "UNASSIGNED_STACK" Bundle.steD)) && decide (w ≠ .isRef (.static Bundle.tN "SUPPRESSED_SENTINEL" Bundle.listD)) && decide (w ≠ .laysStatic Bundle.tN "UNASSIGNED_STACK" Bundle.steD) && decide (w ≠ .laysStatic Bundle.tN "SUPPRESSED_SENTINEL" Bundle.listD)
def vx_at0 (own : String) (ic : Nat) (X : String) (names : List String) : List Cond := (Bundle.ownAtoms0 own ic X names).filter vx_no
def vx_atS (own : String) (ic : Nat) (X : String) (names : List String) : List Cond := (Bundle.ownAtoms own ic X names).filter vx_no
/-- a word that the tables alone decide, or a good one -/
def vx_ot (w : Cond) : Bool := w.onTables || goodWord w
theorem vx_ot_at {args a' : Array Value} {s U : State} {w : Cond} (hW : s.WarmedH U.vm) (hvm : s.vm = U.vm) (hg : vx_ot w = true) (h : w.before args s = true) : w.before a' U = true := by
  simp only [vx_ot, Bool.or_eq_true] at hg
  rcases hg with hg | hg
  · exact va_tabs hg hvm h
  · exact word_at hW (good_of_word hg) h
/-- a list's words: the good ones out of the method's own list, the others by premises of their own -/
theorem vx_hat {args : Array Value} {s : State} {L B : List Cond} (h1 : ∀ w ∈ L.filter goodWord, w.before args s = true) (h2 : ∀ w ∈ L.filter (fun w => !goodWord w), w ∈ B) (h3 : ∀ w ∈ B, w.before args s = true) : ∀ w ∈ L, w.before args s = true := by
  intro w hw
  by_cases g : goodWord w = true
  · exact h1 w (List.mem_filter.mpr ⟨hw, g⟩)
  · refine h3 w (h2 w (List.mem_filter.mpr ⟨hw, ?_⟩))
    show (!goodWord w) = true
    cases hgw : goodWord w
    · rfl
    · exact absurd hgw g
theorem vx_c {args : Array Value} {s : State} {w : Cond} {B : List Cond} (h : w.before args s = true) (t : ∀ w ∈ B, w.before args s = true) : ∀ w' ∈ w :: B, w'.before args s = true := fun w' h' => (List.mem_cons.mp h').elim (fun e => by rw [e]; exact h) (t w')
theorem vx_n {args : Array Value} {s : State} : ∀ w ∈ ([] : List Cond), w.before args s = true := fun _ h => nomatch h
theorem vx_own {args : Array Value} {s : State} {L : List Cond} (h1 : ∀ w ∈ L.filter vx_no, w.before args s = true)
    (hU : (Cond.isRef (.static Bundle.tN "UNASSIGNED_STACK" Bundle.steD)).before args s = true) (hN : (Cond.isRef (.static Bundle.tN "SUPPRESSED_SENTINEL" Bundle.listD)).before args s = true)
    (lU : (Cond.laysStatic Bundle.tN "UNASSIGNED_STACK" Bundle.steD).before args s = true) (lN : (Cond.laysStatic Bundle.tN "SUPPRESSED_SENTINEL" Bundle.listD).before args s = true) : ∀ w ∈ L, w.before args s = true := by
  intro w hw
  by_cases e1 : w = .isRef (.static Bundle.tN "UNASSIGNED_STACK" Bundle.steD)
  · rw [e1]; exact hU
  · by_cases e2 : w = .isRef (.static Bundle.tN "SUPPRESSED_SENTINEL" Bundle.listD)
    · rw [e2]; exact hN
    · by_cases e3 : w = .laysStatic Bundle.tN "UNASSIGNED_STACK" Bundle.steD
      · rw [e3]; exact lU
      · by_cases e4 : w = .laysStatic Bundle.tN "SUPPRESSED_SENTINEL" Bundle.listD
        · rw [e4]; exact lN
        · exact h1 w (List.mem_filter.mpr ⟨hw, by unfold vx_no; rw [decide_eq_true e1, decide_eq_true e2, decide_eq_true e3, decide_eq_true e4]; rfl⟩)
/-- where a static field lies, its class's statics cell in H -/
def vx_L (C n d : String) (A : Nat → Prop) (U : State) (H : Heap) : Prop := ∃ (c : ClassId) (k : Class) (i : Nat) (f : Field) (a : Nat) (cell : Cell), U.vm.findClass C = some c ∧ U.fieldFound? C n d = some (c, k, i, f) ∧ f.isStatic = true ∧ k.statics = some a ∧ H[a]? = some cell ∧ cell.vm.isStatics = true ∧ cell.cls = c ∧ f.slot < cell.slots.size ∧ k.staticTypes[f.slot]? = some f.type ∧ ¬ A a
theorem vx_L.moved {C n d : String} {A : Nat → Prop} {u U : State} {H : Heap} (hvm : u.vm.Alike U.vm) (h : vx_L C n d A u H) : vx_L C n d A U H := by
  obtain ⟨c, k, i, f, a, cell, h1, h2, h3, h4, h5, h6, h7, h8, h9, h10⟩ := h
  obtain ⟨k', hi', he⟩ := State.fieldFound?_setVm hvm h2
  exact ⟨c, k', i, f, a, cell, by rw [hvm.findClass]; exact h1, hi', h3, by rw [he]; exact h4, h5, h6, h7, h8, by rw [he]; exact h9, h10⟩
theorem vx_L.kept {C n d : String} {A : Nat → Prop} {U : State} {H H1 : Heap} (h : vx_L C n d A U H) (hq : ∀ a : Nat, a < H.size → ¬ A a → H1[a]? = H[a]?) : vx_L C n d A U H1 := by
  obtain ⟨c, k, i, f, a, cell, h1, h2, h3, h4, h5, h6, h7, h8, h9, h10⟩ := h
  exact ⟨c, k, i, f, a, cell, h1, h2, h3, h4, by rw [hq a (Array.getElem?_eq_some_iff.mp h5).1 h10]; exact h5, h6, h7, h8, h9, h10⟩
theorem vx_L.narrow {C n d : String} {A B : Nat → Prop} {U : State} {H : Heap} (h : vx_L C n d A U H) (hAB : ∀ q, B q → A q) : vx_L C n d B U H := by
  obtain ⟨c, k, i, f, a, cell, h1, h2, h3, h4, h5, h6, h7, h8, h9, h10⟩ := h
  exact ⟨c, k, i, f, a, cell, h1, h2, h3, h4, h5, h6, h7, h8, h9, fun z => h10 (hAB _ z)⟩
theorem vx_L.word {C n d : String} {A : Nat → Prop} {s : State} {args : Array Value} (h : vx_L C n d A s s.heap) : (Cond.laysStatic C n d).before args s = true := by
  obtain ⟨c, k, i, f, a, cell, h1, h2, h3, h4, h5, h6, h7, h8, h9, -⟩ := h
  show (Cond.laysStatic C n d).holds args s none s [] = true
  exact Cond.laysStatic_of h1 h2 h3 h4 h5 h6 h7 h8 h9
/-- .. and what it holds: null or some reference -/
def vx_Zq (C n d : String) (A : Nat → Prop) (U : State) (H : Heap) : Prop := va_Zq C n d A U H ∧ vx_L C n d A U H
theorem vx_Zq.moved {C n d : String} {A : Nat → Prop} {u U : State} {H : Heap} (hvm : u.vm.Alike U.vm) (h : vx_Zq C n d A u H) : vx_Zq C n d A U H := ⟨va_Zq.moved hvm h.1, vx_L.moved hvm h.2⟩
theorem vx_Zq.kept {C n d : String} {A : Nat → Prop} {U : State} {H H1 : Heap} (h : vx_Zq C n d A U H) (hq : ∀ a : Nat, a < H.size → ¬ A a → H1[a]? = H[a]?) : vx_Zq C n d A U H1 := ⟨va_Zq.kept h.1 hq, vx_L.kept h.2 hq⟩
theorem vx_Zq.narrow {C n d : String} {A B : Nat → Prop} {U : State} {H : Heap} (h : vx_Zq C n d A U H) (hAB : ∀ q, B q → A q) : vx_Zq C n d B U H := ⟨va_Zq.narrow h.1 hAB, vx_L.narrow h.2 hAB⟩
theorem vx_Zqof {args : Array Value} {s : State} {C n d : String} {A : Nat → Prop} (hl : (Cond.laysStatic C n d).before args s = true) (hini : (Cond.initialized C).before args s = true) (h : (Cond.isRef (.static C n d)).before args s = true) (hA : ∀ a : Nat, a < s.heap.size → ¬ A a) : vx_Zq C n d A s s.heap := by
  refine ⟨va_Zqof hl hini h hA, ?_⟩
  obtain ⟨c, k, i, f, a, cell, h1, h2, h3, h4, h5, h6, h7, h8, h9⟩ := Cond.laysStatic_spec hl
  exact ⟨c, k, i, f, a, cell, h1, h2, h3, h4, h5, h6, h7, h8, h9, hA a (Array.getElem?_eq_some_iff.mp h5).1⟩
theorem vx_isRef {C n d : String} {v : Value} {A : Nat → Prop} {s : State} {args : Array Value} (h : va_Z C n d v A s s.heap) (hv : v.isRef = true) : (Cond.isRef (.static C n d)).before args s = true := by
  obtain ⟨cf, kf, fi, f, a, cell, h1, h2, h3, h4, h5, h6, h7, -⟩ := h
  have he : (Term.static C n d).eval args s none [] s = some v := by
    simp [Term.eval, State.fieldNamed?, h1, h2, h4, h5, h6, h7]
  simp only [Cond.before, Cond.holds, Cond.value, he]
  cases v <;> simp_all [Value.isRef]
theorem vx_isRefq {C n d : String} {A : Nat → Prop} {s : State} {args : Array Value} (h : va_Zq C n d A s s.heap) : (Cond.isRef (.static C n d)).before args s = true := by
  rcases h with h | ⟨t, h⟩
  · exact vx_isRef h rfl
  · exact vx_isRef h rfl
/-- the same frame, seen from here: as if the method were called anew in this heap -/
theorem vx_rebase {T : State} (X : Stand p l e R s m args below meth c T locs cells slots) {R' : Room} (hf : R'.frames ≤ R.frames) (hl : R'.locals ≤ R.locals) (hc : cells + R'.cells ≤ R.cells) (hs : slots + R'.slots ≤ R.slots) :
    Stand p l e R' ((T.setVm s.vm).setFrames (.invoking m args :: below)) m args below meth c T [] 0 0 := by
  have htop : (T.setVm s.vm).topJava?.isSome := X.here.top
  have hF : ((T.setVm s.vm).setFrames (.invoking m args :: below)).frames = .invoking m args :: below := State.frames_setFrames _ (State.cur_lt_of_top htop)
  obtain ⟨g₀, hg0⟩ := Option.isSome_iff_exists.mp htop
  obtain ⟨r, hr⟩ := State.topJava?_eq_some.mp hg0
  have hl9 : e.platform.stackLimits (T.setVm s.vm).me = e.platform.stackLimits s.me := X.limits
  have hb9 : (T.setVm s.vm).me.stackBytes = s.me.stackBytes := X.bytes
  refine ⟨X.admits, X.cas, X.clock, hF, ?_, X.hears, X.method, X.code, X.here, X.tail, X.warmed, ?_, ?_, ?_⟩
  · have h := X.room
    have hU : ((T.setVm s.vm).setFrames (.invoking m args :: below)).localsInUse = s.localsInUse := by
      rw [State.localsInUse_invoking hF (meth := meth) (c := c) X.method X.code, State.localsInUse_invoking X.frames X.method X.code]
    simp only [State.hasRoom, Bool.and_eq_true, decide_eq_true_eq] at h ⊢
    obtain ⟨⟨⟨⟨h1, h2, h3, h4, h5, h6⟩, h7⟩, h8⟩, h9⟩ := h
    rw [X.frames, List.length_cons] at h2 h3
    have q1 := X.heapSize
    have q2 := X.used
    simp only [hF, hU, List.length_cons, State.stackLimits_setFrames, State.stackBytes_setFrames, hl9, hb9]
    refine ⟨⟨⟨⟨by omega, by omega, by omega, by omega, by omega, h6⟩, ?_⟩, ?_⟩, X.book⟩
    · show T.heap.size + R'.cells ≤ e.platform.maxCells
      omega
    · show T.slotsUsed + R'.slots ≤ e.platform.maxSlots
      omega
  · rw [State.stackLimits_setFrames]; rfl
  · rw [State.stackBytes_setFrames]; rfl
  · refine ⟨?_, Nat.le_refl _, Nat.le_refl _, ?_, ?_, fun a c9 h9 => ⟨c9, h9, rfl, rfl, fun _ _ => rfl⟩⟩
    · obtain ⟨t, ht, -⟩ := State.frames_cons hr
      show T.setVm s.vm = { ((T.setVm s.vm).setFrames (.invoking m args :: below)).setFrames (T.setVm s.vm).frames with heap := T.heap, slotsUsed := T.slotsUsed }
      rw [State.setFrames_setFrames, State.setFrames_self ht]
      rfl
    · show T.slotsUsed = T.slotsUsed + ((T.heap.toList.drop T.heap.size).map (·.slots.size)).sum
      rw [List.drop_eq_nil_of_le (Nat.le_of_eq Array.length_toList)]
      rfl
    · show ((T.heap.toList.drop T.heap.size).map (·.slots.size)).sum ≤ 0
      rw [List.drop_eq_nil_of_le (Nat.le_of_eq Array.length_toList)]
      exact Nat.le_refl _
/-- 'throw new E()': new; dup; invokespecial; athrow -/
theorem vx_throw0 {cc : ByteArray} {pc : Nat} (hexec : p.tables.exec = Jvm.exec) (hb : c.code = cc) (hl : l.stackTraces = false) {own cls : String} {names : List String} {ik ic mc ms : Nat} {A : Nat → Prop}
    (hown : s.vm.findClass own = some m.cls) (hcls : Bundle.fit cls = true) (hnames : ∀ n ∈ names, Bundle.fit n = true)
    (hk : (Cond.classLink own ik cls).before args s = true) (hini : (Cond.initialized cls).before args s = true) (hat : ∀ w ∈ vx_at0 own ic cls names, w.before args s = true)
    (hgood : ∀ w ∈ Cond.classLink own ik cls :: Cond.initialized cls :: vx_at0 own ic cls names, vx_ot w = true)
    (hU : vx_Zq Bundle.tN "UNASSIGNED_STACK" Bundle.steD A s s.heap) (hN : vx_Zq Bundle.tN "SUPPRESSED_SENTINEL" Bundle.listD A s s.heap) (hS : va_S A s.heap H locs) (hsize : ls.size = c.maxLocals)
    (d0 : decode cc pc = .ok (.new ik, 3)) (d3 : decode cc (pc + 3) = .ok (.dup, 1)) (d4 : decode cc (pc + 4) = .ok (.invokespecial ic, 3)) (d7 : decode cc (pc + 7) = .ok (.athrow, 1))
    (hout : ∀ x ∈ c.exceptionTable.toList, covers x (pc + 7) = false)
    (hRframes : names.length + 3 < R.frames) (hRlocals : (rest.map fun v => v.category).sum + (13 * (names.length + 1) + 42) ≤ R.locals) (hRcells : cells + 1 ≤ R.cells) (hRslots : slots + 6 ≤ R.slots) (hlocks : meth.locks = false)
    (hx : ∀ t : State, s.vm.Alike t.vm → H.size ≤ t.heap.size → (∀ q : Nat, q < H.size → t.heap[q]? = H[q]?) → XC cls s t)
    (hf : ∀ z ∈ locs, free z.base) (hc : cells + 1 ≤ mc) (hs : slots + 6 ≤ ms) :
    W p l e R s m args below meth c H locs cells slots (vx_MQ below Qc XC args s mc ms free) (F0 m pc ls rest) := by
  intro T hT X
  have htr : e.platform.stackTraces = false := (show e.platform.stackTraces = l.stackTraces by rw [X.admits.platform]).trans hl
  have Y := vx_rebase X (R' := { frames := R.frames, locals := R.locals, cells := 1, slots := 6 }) (Nat.le_refl _) (Nat.le_refl _) hRcells hRslots
  obtain ⟨s', hA⟩ : ∃ z, z = (T.setVm s.vm).setFrames (.invoking m args :: below) := ⟨_, rfl⟩
  rw [← hA] at Y
  have hvm : s'.vm = s.vm := by rw [hA]; rfl
  have hhp : s'.heap = H := by rw [hA]; exact hT
  have hW0 : s.WarmedH s'.vm := by rw [hvm]; exact State.WarmedH.refl s
  have hat' : ∀ w ∈ vx_at0 own ic cls names, w.before args s' = true := fun w hw => vx_ot_at hW0 hvm.symm (hgood w (List.mem_cons_of_mem _ (List.mem_cons_of_mem _ hw))) (hat w hw)
  have hk' : (Cond.classLink own ik cls).before args s' = true := vx_ot_at hW0 hvm.symm (hgood _ List.mem_cons_self) hk
  have hini' : (Cond.initialized cls).before args s' = true := vx_ot_at hW0 hvm.symm (hgood _ (List.mem_cons_of_mem _ List.mem_cons_self)) hini
  have hU' : vx_Zq Bundle.tN "UNASSIGNED_STACK" Bundle.steD A s' s'.heap := by rw [hhp]; exact vx_Zq.moved hW0.alike (hU.kept hS.2.1)
  have hN' : vx_Zq Bundle.tN "SUPPRESSED_SENTINEL" Bundle.listD A s' s'.heap := by rw [hhp]; exact vx_Zq.moved hW0.alike (hN.kept hS.2.1)
  have h : ∀ w ∈ Bundle.ownAtoms0 own ic cls names, w.before args s' = true := vx_own hat' (vx_isRefq hU'.1) (vx_isRefq hN'.1) hU'.2.word hN'.2.word
  have hown' : s'.vm.findClass own = some m.cls := by rw [hvm]; exact hown
  have hins : (Cond.instantiable cls 6).before args s' = true := h _ (by simp [Bundle.ownAtoms0])
  obtain ⟨vm₁, cX, kX, hfX, hkX, -, -, X₁, st1⟩ := Y.newCold hexec (own := own) (C := cls) (index := ik) (n := 6) hown' hk' hins hini'
    (g := F0 m pc ls rest) rfl (by rw [hb]; exact d0) (Nat.le_refl _) (Nat.le_refl _)
  generalize hT1 : (T.setVm vm₁).pushCell { cls := cX, slots := kX.instanceTypes.map defaultValue, vm := .none } = T1 at X₁ st1
  have hcat : (Value.ref T.heap.size).category = 1 := rfl
  have hcellA : T1.heap[T.heap.size]? = some (freshCell cX kX) := by rw [← hT1]; exact State.heap_pushCell_size _ _
  have d3' : decode c.code (pc + 3) = .ok (.dup, 1) := by rw [hb]; exact d3
  obtain ⟨U, hsteps, hrun, hend, hW, hsame, ce, hce, hO⟩ := X₁.ctorThrow0 hexec htr (own := own) (cls := cls) (names := names) (ic := ic) hown' hcls hnames h (fun x hx => nomatch hx) hfX hkX hcellA (by rw [hhp, hT]; exact Nat.le_refl _)
    (g := { method := m, pc := pc + 4, locals := ls, stack := .ref T.heap.size :: .ref T.heap.size :: rest, locked := none }) rfl hsize rfl rfl (rest := rest) rfl
    (by rw [hb]; exact d4) (by rw [hb]; exact d7) hout hRframes (by simp only [List.map_cons, List.sum_cons, hcat]; omega) hlocks
  obtain ⟨f1, f2⟩ := vx_frame hsame
  rw [hhp] at f1 f2
  have hWs : s.WarmedH U.vm := State.WarmedH.trans hW0 hW
  have hcl : s.vm.findClass cls = some ce.cls := by
    have h9 := hO.cls
    rw [hvm] at h9
    exact h9
  have hall : s.sameButNew ({ U with vm := s.vm } : State) locs mc ms := by
    subst hA
    obtain ⟨e1, e2⟩ := hsame
    rw [State.setFrames_setFrames] at e1
    have h2 : (T.setVm s.vm).sameButNew ({ U with vm := s.vm } : State) [] (0 + 1) (0 + 6) := ⟨e1, e2⟩
    have h3 := X.same.trans h2
    rw [List.append_nil] at h3
    exact h3.mono hc hs
  refine ⟨U, ?_, .threw T.heap.size, hrun, hend, Or.inr ⟨T.heap.size, rfl, cls, ce, locs, hx U hWs.alike f1 (fun q hq => f2 q hq (fun z hz => nomatch hz)), hce, hO.vm, hcl, hWs, hall, hf⟩⟩
  refine st1 _ ?_
  show Steps p.tables e below (T1.setTop { method := m, pc := pc + 3, locals := ls, stack := .ref T.heap.size :: rest, locked := none }) _
  jvm_step X₁.here [X₁.here.top, hexec, d3', Value.category]
  exact hsteps
/-- 'throw new E("text")': new; dup; ldc; invokespecial; athrow -/
theorem vx_throwS {cc : ByteArray} {pc : Nat} (hexec : p.tables.exec = Jvm.exec) (hb : c.code = cc) (hl : l.stackTraces = false) {own cls text : String} {names : List String} {ik is ic mc ms sa : Nat} {A : Nat → Prop}
    (hown : s.vm.findClass own = some m.cls) (hcls : Bundle.fit cls = true) (hnames : ∀ n ∈ names, Bundle.fit n = true)
    (hk : (Cond.classLink own ik cls).before args s = true) (hini : (Cond.initialized cls).before args s = true) (hstr : vk_R own is text sa s) (hat : ∀ w ∈ vx_atS own ic cls names, w.before args s = true)
    (hgood : ∀ w ∈ Cond.classLink own ik cls :: Cond.initialized cls :: vx_atS own ic cls names, vx_ot w = true)
    (hU : vx_Zq Bundle.tN "UNASSIGNED_STACK" Bundle.steD A s s.heap) (hN : vx_Zq Bundle.tN "SUPPRESSED_SENTINEL" Bundle.listD A s s.heap) (hS : va_S A s.heap H locs) (hsize : ls.size = c.maxLocals)
    (d0 : decode cc pc = .ok (.new ik, 3)) (d3 : decode cc (pc + 3) = .ok (.dup, 1)) (d4 : decode cc (pc + 4) = .ok (.ldc is, 2)) (d6 : decode cc (pc + 6) = .ok (.invokespecial ic, 3)) (d9 : decode cc (pc + 9) = .ok (.athrow, 1))
    (hout : ∀ x ∈ c.exceptionTable.toList, covers x (pc + 9) = false)
    (hRframes : names.length + 3 < R.frames) (hRlocals : (rest.map fun v => v.category).sum + (13 * (names.length + 1) + 43) ≤ R.locals) (hRcells : cells + 1 ≤ R.cells) (hRslots : slots + 6 ≤ R.slots) (hlocks : meth.locks = false)
    (hx : ∀ t : State, s.vm.Alike t.vm → H.size ≤ t.heap.size → (∀ q : Nat, q < H.size → t.heap[q]? = H[q]?) → XC cls s t)
    (hf : ∀ z ∈ locs, free z.base) (hc : cells + 1 ≤ mc) (hs : slots + 6 ≤ ms) :
    W p l e R s m args below meth c H locs cells slots (vx_MQ below Qc XC args s mc ms free) (F0 m pc ls rest) := by
  intro T hT X
  have htr : e.platform.stackTraces = false := (show e.platform.stackTraces = l.stackTraces by rw [X.admits.platform]).trans hl
  have Y := vx_rebase X (R' := { frames := R.frames, locals := R.locals, cells := 1, slots := 6 }) (Nat.le_refl _) (Nat.le_refl _) hRcells hRslots
  obtain ⟨s', hA⟩ : ∃ z, z = (T.setVm s.vm).setFrames (.invoking m args :: below) := ⟨_, rfl⟩
  rw [← hA] at Y
  have hvm : s'.vm = s.vm := by rw [hA]; rfl
  have hhp : s'.heap = H := by rw [hA]; exact hT
  have hW0 : s.WarmedH s'.vm := by rw [hvm]; exact State.WarmedH.refl s
  have hat' : ∀ w ∈ vx_atS own ic cls names, w.before args s' = true := fun w hw => vx_ot_at hW0 hvm.symm (hgood w (List.mem_cons_of_mem _ (List.mem_cons_of_mem _ hw))) (hat w hw)
  have hk' : (Cond.classLink own ik cls).before args s' = true := vx_ot_at hW0 hvm.symm (hgood _ List.mem_cons_self) hk
  have hini' : (Cond.initialized cls).before args s' = true := vx_ot_at hW0 hvm.symm (hgood _ (List.mem_cons_of_mem _ List.mem_cons_self)) hini
  have hU' : vx_Zq Bundle.tN "UNASSIGNED_STACK" Bundle.steD A s' s'.heap := by rw [hhp]; exact vx_Zq.moved hW0.alike (hU.kept hS.2.1)
  have hN' : vx_Zq Bundle.tN "SUPPRESSED_SENTINEL" Bundle.listD A s' s'.heap := by rw [hhp]; exact vx_Zq.moved hW0.alike (hN.kept hS.2.1)
  have h : ∀ w ∈ Bundle.ownAtoms own ic cls names, w.before args s' = true := vx_own hat' (vx_isRefq hU'.1) (vx_isRefq hN'.1) hU'.2.word hN'.2.word
  have hown' : s'.vm.findClass own = some m.cls := by rw [hvm]; exact hown
  have hins : (Cond.instantiable cls 6).before args s' = true := h _ (by simp [Bundle.ownAtoms])
  obtain ⟨vm₁, cX, kX, hfX, hkX, -, -, X₁, st1⟩ := Y.newCold hexec (own := own) (C := cls) (index := ik) (n := 6) hown' hk' hins hini'
    (g := F0 m pc ls rest) rfl (by rw [hb]; exact d0) (Nat.le_refl _) (Nat.le_refl _)
  generalize hT1 : (T.setVm vm₁).pushCell { cls := cX, slots := kX.instanceTypes.map defaultValue, vm := .none } = T1 at X₁ st1
  have hcat : (Value.ref T.heap.size).category = 1 := rfl
  have hcellA : T1.heap[T.heap.size]? = some (freshCell cX kX) := by rw [← hT1]; exact State.heap_pushCell_size _ _
  have d3' : decode c.code (pc + 3) = .ok (.dup, 1) := by rw [hb]; exact d3
  have d4' : decode c.code (pc + 4) = .ok (.ldc is, 2) := by rw [hb]; exact d4
  have hstr' : vk_R own is text sa s' := vk_R.warm hW0 hstr
  obtain ⟨U, hsteps, hrun, hend, hW, hsame, ce, hce, hO⟩ := X₁.ctorThrowS hexec htr (own := own) (cls := cls) (names := names) (ic := ic) hown' hcls hnames h (fun x hx => nomatch hx) hfX hkX hcellA (by rw [hhp, hT]; exact Nat.le_refl _) (msg := .ref sa) rfl
    (g := { method := m, pc := pc + 6, locals := ls, stack := .ref sa :: .ref T.heap.size :: .ref T.heap.size :: rest, locked := none }) rfl hsize rfl rfl (rest := rest) rfl
    (by rw [hb]; exact d6) (by rw [hb]; exact d9) hout hRframes (by simp only [List.map_cons, List.sum_cons, hcat]; omega) hlocks
  obtain ⟨f1, f2⟩ := vx_frame hsame
  rw [hhp] at f1 f2
  have hWs : s.WarmedH U.vm := State.WarmedH.trans hW0 hW
  have hcl : s.vm.findClass cls = some ce.cls := by
    have h9 := hO.cls
    rw [hvm] at h9
    exact h9
  have hall : s.sameButNew ({ U with vm := s.vm } : State) locs mc ms := by
    subst hA
    obtain ⟨e1, e2⟩ := hsame
    rw [State.setFrames_setFrames] at e1
    have h2 : (T.setVm s.vm).sameButNew ({ U with vm := s.vm } : State) [] (0 + 1) (0 + 6) := ⟨e1, e2⟩
    have h3 := X.same.trans h2
    rw [List.append_nil] at h3
    exact h3.mono hc hs
  refine ⟨U, ?_, .threw T.heap.size, hrun, hend, Or.inr ⟨T.heap.size, rfl, cls, ce, locs, hx U hWs.alike f1 (fun q hq => f2 q hq (fun z hz => nomatch hz)), hce, hO.vm, hcl, hWs, hall, hf⟩⟩
  refine st1 _ ?_
  show Steps p.tables e below (T1.setTop { method := m, pc := pc + 3, locals := ls, stack := .ref T.heap.size :: rest, locked := none }) _
  jvm_step X₁.here [X₁.here.top, hexec, d3', Value.category]
  exact X₁.ldcString hexec (own := own) (text := text) (index := is) (a := sa) hown' hstr'.1 hstr'.2
    (g := { method := m, pc := pc + 4, locals := ls, stack := .ref T.heap.size :: .ref T.heap.size :: rest, locked := none }) rfl d4' _ hsteps
/-- 'throw new E("text")', the text by a wide index -/
theorem vx_throwSW {cc : ByteArray} {pc : Nat} (hexec : p.tables.exec = Jvm.exec) (hb : c.code = cc) (hl : l.stackTraces = false) {own cls text : String} {names : List String} {ik is ic mc ms sa : Nat} {A : Nat → Prop}
    (hown : s.vm.findClass own = some m.cls) (hcls : Bundle.fit cls = true) (hnames : ∀ n ∈ names, Bundle.fit n = true)
    (hk : (Cond.classLink own ik cls).before args s = true) (hini : (Cond.initialized cls).before args s = true) (hstr : vk_R own is text sa s) (hat : ∀ w ∈ vx_atS own ic cls names, w.before args s = true)
    (hgood : ∀ w ∈ Cond.classLink own ik cls :: Cond.initialized cls :: vx_atS own ic cls names, vx_ot w = true)
    (hU : vx_Zq Bundle.tN "UNASSIGNED_STACK" Bundle.steD A s s.heap) (hN : vx_Zq Bundle.tN "SUPPRESSED_SENTINEL" Bundle.listD A s s.heap) (hS : va_S A s.heap H locs) (hsize : ls.size = c.maxLocals)
    (d0 : decode cc pc = .ok (.new ik, 3)) (d3 : decode cc (pc + 3) = .ok (.dup, 1)) (d4 : decode cc (pc + 4) = .ok (.ldc_w is, 3)) (d7 : decode cc (pc + 7) = .ok (.invokespecial ic, 3)) (d10 : decode cc (pc + 10) = .ok (.athrow, 1))
    (hout : ∀ x ∈ c.exceptionTable.toList, covers x (pc + 10) = false)
    (hRframes : names.length + 3 < R.frames) (hRlocals : (rest.map fun v => v.category).sum + (13 * (names.length + 1) + 43) ≤ R.locals) (hRcells : cells + 1 ≤ R.cells) (hRslots : slots + 6 ≤ R.slots) (hlocks : meth.locks = false)
    (hx : ∀ t : State, s.vm.Alike t.vm → H.size ≤ t.heap.size → (∀ q : Nat, q < H.size → t.heap[q]? = H[q]?) → XC cls s t)
    (hf : ∀ z ∈ locs, free z.base) (hc : cells + 1 ≤ mc) (hs : slots + 6 ≤ ms) :
    W p l e R s m args below meth c H locs cells slots (vx_MQ below Qc XC args s mc ms free) (F0 m pc ls rest) := by
  intro T hT X
  have htr : e.platform.stackTraces = false := (show e.platform.stackTraces = l.stackTraces by rw [X.admits.platform]).trans hl
  have Y := vx_rebase X (R' := { frames := R.frames, locals := R.locals, cells := 1, slots := 6 }) (Nat.le_refl _) (Nat.le_refl _) hRcells hRslots
  obtain ⟨s', hA⟩ : ∃ z, z = (T.setVm s.vm).setFrames (.invoking m args :: below) := ⟨_, rfl⟩
  rw [← hA] at Y
  have hvm : s'.vm = s.vm := by rw [hA]; rfl
  have hhp : s'.heap = H := by rw [hA]; exact hT
  have hW0 : s.WarmedH s'.vm := by rw [hvm]; exact State.WarmedH.refl s
  have hat' : ∀ w ∈ vx_atS own ic cls names, w.before args s' = true := fun w hw => vx_ot_at hW0 hvm.symm (hgood w (List.mem_cons_of_mem _ (List.mem_cons_of_mem _ hw))) (hat w hw)
  have hk' : (Cond.classLink own ik cls).before args s' = true := vx_ot_at hW0 hvm.symm (hgood _ List.mem_cons_self) hk
  have hini' : (Cond.initialized cls).before args s' = true := vx_ot_at hW0 hvm.symm (hgood _ (List.mem_cons_of_mem _ List.mem_cons_self)) hini
  have hU' : vx_Zq Bundle.tN "UNASSIGNED_STACK" Bundle.steD A s' s'.heap := by rw [hhp]; exact vx_Zq.moved hW0.alike (hU.kept hS.2.1)
  have hN' : vx_Zq Bundle.tN "SUPPRESSED_SENTINEL" Bundle.listD A s' s'.heap := by rw [hhp]; exact vx_Zq.moved hW0.alike (hN.kept hS.2.1)
  have h : ∀ w ∈ Bundle.ownAtoms own ic cls names, w.before args s' = true := vx_own hat' (vx_isRefq hU'.1) (vx_isRefq hN'.1) hU'.2.word hN'.2.word
  have hown' : s'.vm.findClass own = some m.cls := by rw [hvm]; exact hown
  have hins : (Cond.instantiable cls 6).before args s' = true := h _ (by simp [Bundle.ownAtoms])
  obtain ⟨vm₁, cX, kX, hfX, hkX, -, -, X₁, st1⟩ := Y.newCold hexec (own := own) (C := cls) (index := ik) (n := 6) hown' hk' hins hini'
    (g := F0 m pc ls rest) rfl (by rw [hb]; exact d0) (Nat.le_refl _) (Nat.le_refl _)
  generalize hT1 : (T.setVm vm₁).pushCell { cls := cX, slots := kX.instanceTypes.map defaultValue, vm := .none } = T1 at X₁ st1
  have hcat : (Value.ref T.heap.size).category = 1 := rfl
  have hcellA : T1.heap[T.heap.size]? = some (freshCell cX kX) := by rw [← hT1]; exact State.heap_pushCell_size _ _
  have d3' : decode c.code (pc + 3) = .ok (.dup, 1) := by rw [hb]; exact d3
  have d4' : decode c.code (pc + 4) = .ok (.ldc_w is, 3) := by rw [hb]; exact d4
  have hstr' : vk_R own is text sa s' := vk_R.warm hW0 hstr
  obtain ⟨U, hsteps, hrun, hend, hW, hsame, ce, hce, hO⟩ := X₁.ctorThrowS hexec htr (own := own) (cls := cls) (names := names) (ic := ic) hown' hcls hnames h (fun x hx => nomatch hx) hfX hkX hcellA (by rw [hhp, hT]; exact Nat.le_refl _) (msg := .ref sa) rfl
    (g := { method := m, pc := pc + 7, locals := ls, stack := .ref sa :: .ref T.heap.size :: .ref T.heap.size :: rest, locked := none }) rfl hsize rfl rfl (rest := rest) rfl
    (by rw [hb]; exact d7) (by rw [hb]; exact d10) hout hRframes (by simp only [List.map_cons, List.sum_cons, hcat]; omega) hlocks
  obtain ⟨f1, f2⟩ := vx_frame hsame
  rw [hhp] at f1 f2
  have hWs : s.WarmedH U.vm := State.WarmedH.trans hW0 hW
  have hcl : s.vm.findClass cls = some ce.cls := by
    have h9 := hO.cls
    rw [hvm] at h9
    exact h9
  have hall : s.sameButNew ({ U with vm := s.vm } : State) locs mc ms := by
    subst hA
    obtain ⟨e1, e2⟩ := hsame
    rw [State.setFrames_setFrames] at e1
    have h2 : (T.setVm s.vm).sameButNew ({ U with vm := s.vm } : State) [] (0 + 1) (0 + 6) := ⟨e1, e2⟩
    have h3 := X.same.trans h2
    rw [List.append_nil] at h3
    exact h3.mono hc hs
  refine ⟨U, ?_, .threw T.heap.size, hrun, hend, Or.inr ⟨T.heap.size, rfl, cls, ce, locs, hx U hWs.alike f1 (fun q hq => f2 q hq (fun z hz => nomatch hz)), hce, hO.vm, hcl, hWs, hall, hf⟩⟩
  refine st1 _ ?_
  show Steps p.tables e below (T1.setTop { method := m, pc := pc + 3, locals := ls, stack := .ref T.heap.size :: rest, locked := none }) _
  jvm_step X₁.here [X₁.here.top, hexec, d3', Value.category]
  exact X₁.ldcStringW hexec (own := own) (text := text) (index := is) (a := sa) hown' hstr'.1 hstr'.2
    (g := { method := m, pc := pc + 4, locals := ls, stack := .ref T.heap.size :: .ref T.heap.size :: rest, locked := none }) rfl d4' _ hsteps
end Ends
section Bodies
variable {l : Launch}
theorem vx_ofW {y : MethodName} {ws ws' : List Cond} {rm : Room} {Pc : Array Value → State → Prop} {Qc : Array Value → State → Outcome → State → Prop} {XC : String → State → State → Prop} {mc ms : Nat} {free : Addr → Prop} {cc : ByteArray} {maxL : Nat} {ret : Option FieldType}
    (hy : plainName y.cls = true) (hw : ws = Cond.code y cc maxL ret :: ws')
    (body : ∀ p e s m args below meth c s₁, BodyLoose p l y (headSpec ws rm) cc maxL ret e s m args below meth c s₁ → c.maxLocals = maxL → (∀ x ∈ c.exceptionTable.toList, False) → Pc args s →
      W p l e (headSpec ws rm).room s m args below meth c s.heap [] 0 0 (vx_MQ below Qc XC args s mc ms free) (entryFrame m args maxL)) : vx_Met l y ws rm Pc Qc XC mc ms free := by
  refine MetFree.of_bodyS (code := cc) (maxLocals := maxL) (ret := ret) hy ?_ ?_
  · intro args s m h hn
    obtain ⟨meth, c, h1, h2, h3, h4, h5, h6, -, -⟩ := Cond.code_spec hn (atoms_spec (ws := ws) h _ (by rw [hw]; exact List.mem_cons_self))
    exact ⟨meth, c, h1, h2, h3, h4, h5, h6⟩
  · intro p e s m args below meth c s₁ B hml hP _
    have hh0 : s₁.heap = s.heap := by rw [B.state]; rfl
    have ht : ∀ x ∈ c.exceptionTable.toList, False := by
      obtain ⟨meth9, c9, h1, h2, -, -, -, -, h7, -⟩ := Cond.code_spec B.named (atoms_spec (ws := ws) B.pre _ (by rw [hw]; exact List.mem_cons_self))
      cases Option.some.inj (h1.symm.trans B.method)
      cases Option.some.inj (h2.symm.trans (Stand.of_body B).code)
      intro x hx
      rw [Array.isEmpty_iff.mp h7] at hx
      cases hx
    obtain ⟨t, a1, o, b1, b2, b3⟩ := body p e s m args below meth c s₁ B hml ht hP s₁ hh0 (Stand.of_body B)
    exact ⟨t, o, a1, b1, b2, b3⟩
/-- the table of a body with handlers -/
theorem vx_table {p : Program} {x y : MethodName} {S : Spec} {cc bytes : ByteArray} {maxL maxL' : Nat} {ret ret' : Option FieldType} {e : Env} {s s₁ : State} {m : MethodId} {args : Array Value} {below : List Frame} {meth : Method} {c : Code} {hh : List (Nat × Nat × Nat × Nat)}
    (B : BodyLoose p l y S cc maxL ret e s m args below meth c s₁) (h : (Cond.codeWith y bytes maxL' ret' hh).before args s = true) : c.exceptionTable.toList = tableOf hh := by
  obtain ⟨m9, meth9, c9, hn9, h1, h2, -, -, h6, -⟩ := Cond.codeWith_spec h
  cases Option.some.inj (hn9.symm.trans B.named)
  cases Option.some.inj (h1.symm.trans B.method)
  cases Option.some.inj (h2.symm.trans (Stand.of_body B).code)
  rw [← h6, table_eq]
end Bodies
end VXA
/-! ===== END ===== -/
/-! ===== BEGIN a static call of a method with an exception table ===== -/
section VXS
variable {p : Program} {l : Launch} {e : Env} {R : Room} {s : State} {m : MethodId} {args : Array Value} {below : List Frame} {meth : Method} {c : Code} {T : State} {H : Heap} {locs : List Loc} {cells slots : Nat}
abbrev vx_CSW (R : Room) (s : State) (args : Array Value) (own : String) (index : Nat) (y : MethodName) (bytes : ByteArray) (maxL : Nat) (ret : Option FieldType) (hh : List (Nat × Nat × Nat × Nat)) (ws : List Cond) (rm : Room) (mc ms n : Nat) : Prop :=
  (rm.cells = mc ∧ rm.slots = ms ∧ rm.frames + 1 ≤ R.frames ∧ 8 + (maxL + 11) + rm.locals ≤ R.locals ∧ (∀ w ∈ ws, ∀ (a' : Array Value) (U : State), s.WarmedH U.vm → w.before a' U = true) ∧ Cond.codeWith y bytes maxL ret hh ∈ ws) ∧
  (Cond.codeWith y bytes maxL ret hh).before args s = true ∧ (Cond.initialized y.cls).before args s = true ∧ (y.cls ≠ "java/lang/invoke/MethodHandle" ∧ y.cls ≠ "java/lang/invoke/VarHandle") ∧
  (∀ sig, parseMethodDescriptor y.desc = some sig → n = sig.parameters.length) ∧ (Cond.methodLink own index y).before args s = true ∧ (Cond.static y).before args s = true
theorem vx_cwSW {own : String} {index maxL mc ms : Nat} {y : MethodName} {bytes : ByteArray} {ret : Option FieldType} {hh : List (Nat × Nat × Nat × Nat)} {Ts ws ws' : List Cond} {rm : Room} (n : Nat) (ht : ∀ w ∈ Ts, w.before args s = true) (hT : GoodIn Ts (va_wsS own index y ws)) (hw : ws = Cond.codeWith y bytes maxL ret hh :: ws') (hrc : rm.cells = mc) (hrs : rm.slots = ms)
    (hd : y.cls ≠ "java/lang/invoke/MethodHandle" ∧ y.cls ≠ "java/lang/invoke/VarHandle" ∧ (parseMethodDescriptor y.desc).map (fun d => d.parameters.length) = some n) (hR : rm.frames + 1 ≤ R.frames ∧ 8 + (maxL + 11) + rm.locals ≤ R.locals) :
    vx_CSW R s args own index y bytes maxL ret hh ws rm mc ms n := by
  have ok : ∀ w ∈ va_wsS own index y ws, w.before args s = true := fun w h => ht w (hT w h).1
  have hG : GoodIn Ts ws := fun w h => hT w (by unfold va_wsS; exact List.mem_append_right _ h)
  have hc : Cond.codeWith y bytes maxL ret hh ∈ ws := by rw [hw]; exact List.mem_cons_self
  refine ⟨⟨hrc, hrs, hR.1, hR.2, pay_in ht hG, hc⟩, ht _ (hG _ hc).1, ok _ (by simp [va_wsS]), ⟨hd.1, hd.2.1⟩, fun sig h => ?_, ok _ (by simp [va_wsS]), ok _ (by simp [va_wsS])⟩
  have h2 := hd.2.2
  rw [h] at h2
  exact (Option.some.inj h2).symm
theorem vx_callSW (X : Stand p l e R s m args below meth c T locs cells slots) (hexec : p.tables.exec = Jvm.exec) {own : String} {index : Nat} {y : MethodName} {bytes : ByteArray} {maxL : Nat} {ret : Option FieldType} {hh : List (Nat × Nat × Nat × Nat)}
    (hown : s.vm.findClass own = some m.cls) (hlink : (Cond.methodLink own index y).before args s = true) (hstat : (Cond.static y).before args s = true) (hinit : (Cond.initialized y.cls).before args s = true)
    (hcode : (Cond.codeWith y bytes maxL ret hh).before args s = true) (hy : y.cls ≠ "java/lang/invoke/MethodHandle" ∧ y.cls ≠ "java/lang/invoke/VarHandle")
    {W9 : Nat} {Pre : Pt → Array Value → Prop} {Post : Pt → Array Value → Option Value → Pt → Prop} (hK : Back l R p e below s args y 3 W9 Pre Post)
    {g : JFrame} (hg : g.method = m) (hsize : g.locals.size = c.maxLocals) {argsL rest : List Value} (hlen : ∀ sig, parseMethodDescriptor y.desc = some sig → argsL.length = sig.parameters.length)
    (hstack : g.stack = argsL.reverse ++ rest) (hW : 2 * g.monitorRoom + (rest.map fun v => v.category).sum ≤ W9) (hdg : decode c.code g.pc = .ok (.invokestatic index, 3))
    (hpre : ∀ vm₁, s.WarmedH vm₁ → Pre ⟨T.setVm vm₁, locs, cells, slots⟩ argsL.toArray) :
    ∃ (v : Option Value) (vm₁ : Vm) (B : Pt), s.WarmedH vm₁ ∧ Stand p l e R s m args below meth c B.U B.locs B.cells B.slots ∧ Post ⟨T.setVm vm₁, locs, cells, slots⟩ argsL.toArray v B ∧
      ∀ target, Steps p.tables e below (B.U.setTop { g with pc := g.pc + 3, stack := v.toList ++ rest }) target → Steps p.tables e below (T.setTop g) target := by
  obtain ⟨mk, methM, cM, hnamed, hmethM, -, -, -, -, -, -, hsigM⟩ := Cond.codeWith_spec hcode
  have hstatic : methM.isStatic = true := Cond.static_spec hnamed hmethM hstat
  obtain ⟨kP, hkP, -⟩ := className_of_methodNamed hnamed
  have hinitP : kP.init = .initialized := Cond.initialized_spec (findClass_of_methodNamed hnamed) hkP hinit
  obtain ⟨vm₁, X₁, hstep₁⟩ := X.invokestatic hexec hown hlink hnamed hmethM hstatic hkP hinitP hy (g := g) hg (argsL := argsL) (rest := rest) (hlen _ hsigM) hstack hdg
  obtain ⟨v, B, X', hpost, hsteps⟩ := hK m meth c ⟨T.setVm vm₁, locs, cells, slots⟩ { g with stack := rest } (.invokestatic index) mk argsL.toArray X₁ hg hsize hdg hW (X₁.named hnamed) (hpre vm₁ X₁.warmed)
  exact ⟨v, vm₁, B, X₁.warmed, X', hpost, fun target h => hstep₁ _ fun acts => by rw [doInvoke_state]; exact hsteps.trans h⟩
theorem vx_runSW {y : MethodName} {bytes cc : ByteArray} {maxL nL mc ms n index : Nat} {ret : Option FieldType} {hh : List (Nat × Nat × Nat × Nat)} {ws : List Cond} {rm : Room} {Pc : Array Value → State → Prop} {Qc : Array Value → State → Outcome → State → Prop} {free : Addr → Prop} {Ts : List Cond} {own : String} {As rest : List Value} {g : JFrame}
    (S : CallFix p m c cc nL s args Ts own) (hM : Met l y ws rm Pc Qc mc ms free) (cw : vx_CSW R s args own index y bytes maxL ret hh ws rm mc ms n) (hp : PreS s H Pc As)
    (hg : g.method = m) (hn : As.length = n) (hsize : g.locals.size = nL) (hstack : g.stack = As.reverse ++ rest) (hW : 2 * g.monitorRoom + (rest.map fun v => v.category).sum ≤ 8) (hdg : decode cc g.pc = .ok (.invokestatic index, 3)) (hf : cells + mc ≤ R.cells ∧ slots + ms ≤ R.slots) :
    va_Run p l e R s m args below meth c H locs cells slots mc ms g rest (Qc As.toArray) (free) := by
  obtain ⟨⟨hrc, hrs, hfr, hlo, hws, hcw⟩, hcode, hini, hy, hlen, hl, hstt⟩ := cw
  have hK : Back l R p e below s args y 3 8 (PreOf R mc ms Pc) (PostOf Qc mc ms free) := va_backW (hh := hh) (bytes := bytes) (maxL := maxL) (ret := ret) hM hp.1 hrc hrs hfr hlo hws hcw (fun a' U hW => word_at hW (Or.inl (by first | rfl | simp [Cond.onTables, Cond.keeps, Cond.steady])) hini)
  obtain ⟨hx, hb, hml, ho, -⟩ := S
  intro T hT X
  obtain ⟨v, vm₁, ⟨U', l2, c2, s2⟩, hW₁, X', ⟨g', mk, t, L, e1, e2, hq, h1, hL, h2, h3⟩, st⟩ := vx_callSW X hx (hh := hh) (bytes := bytes) (maxL := maxL) (ret := ret) ho hl hstt hini hcode hy hK hg (hsize.trans hml.symm) (argsL := As) (rest := rest) (fun sig h => hn.trans (hlen sig h)) hstack hW (by rw [hb]; exact hdg)
    (fun vm₁ hW₁ => ⟨hf.1, hf.2, hp.2 (T.setVm vm₁) hT hW₁⟩)
  dsimp only [Pt.U, Pt.locs, Pt.cells, Pt.slots] at X' e1 e2 h1 h2 h3 st
  subst h1; subst h2; subst h3
  exact ⟨v, (T.setVm vm₁).calling g' mk As.toArray, t, U', L, hT, X', hL, e1, e2, hq, st⟩
/-- not caught here, past rows that name other classes: it goes on to the caller -/
theorem vx_outP {p : Program} {l : Launch} {e : Env} {R : Room} {s : State} {m : MethodId} {args : Array Value} {below : List Frame} {meth : Method} {c : Code} {H : Heap} {locs : List Loc} {cells slots : Nat} {free : Addr → Prop} {ls : Array Slot} {rest : List Value} {Qc : Array Value → State → Outcome → State → Prop} {XC : String → State → State → Prop}
    {pc : Nat} {own E : String} {ce : Cell} {q : Addr} {mc ms : Nat} (hown : s.vm.findClass own = some m.cls) (hlocks : meth.locks = false)
    (hpass : ∀ z ∈ c.exceptionTable.toList, covers z pc = false ∨ (z.catchType ≠ 0 ∧ ∃ nm : String, (Cond.classLink own z.catchType nm).before args s = true ∧ va_Nc E nm s)) (hcell : H[q]? = some ce) (hv : ce.vm = .none) (hcl : s.vm.findClass E = some ce.cls)
    (hx : ∀ t : State, t.heap = H → s.vm.Alike t.vm → XC E s t) (hf : ∀ z ∈ locs, free z.base) (hc : cells ≤ mc) (hs : slots ≤ ms) :
    vx_W p l e R s m args below meth c H locs cells slots (vx_MQ below Qc XC args s mc ms free) (F0 m pc ls rest) q := by
  intro T hT X
  have hpl : e.platform.magicAccessors = ({} : Platform).magicAccessors := by rw [X.admits.platform]
  obtain ⟨vm', hW', X', st⟩ := X.outThrough hlocks q (g := F0 m pc ls rest) rfl rfl rfl (cell := ce) (by rw [hT]; exact hcell) (by rw [hv]; rfl)
    (by obtain ⟨k9, h9, -⟩ := Vm.findClass_spec hcl; exact ⟨k9, h9⟩) (fun z hz => by
      rcases hpass z hz with h | ⟨hz0, nm, hl1, hn1⟩
      · exact Or.inl h
      · obtain ⟨c6, hc6, hcl6⟩ := Cond.classLink_spec hown hl1 e.platform hpl
        obtain ⟨a8, b8, h1, h2, h3⟩ := hn1
        cases Option.some.inj (h1.symm.trans hcl)
        cases Option.some.inj (h2.symm.trans hc6)
        exact Or.inr ⟨hz0, _, hcl6, h3⟩)
  obtain ⟨g₀, hfr⟩ := X'.frames_eq
  have hcell9 : ((T.setVm vm').setFrames (.throwing q :: below)).heap[q]? = some ce := by
    show T.heap[q]? = some ce
    rw [hT]; exact hcell
  have hend : Ended ((T.setVm vm').setFrames (.throwing q :: below)) below (.threw q) := State.frames_setFrames _ (State.cur_lt_of_frames hfr)
  refine ⟨(T.setVm vm').setFrames (.throwing q :: below), ?_, .threw q, X'.here.running, hend, Or.inr ⟨q, rfl, E, ce, locs, hx _ hT (X'.ends _).1.alike, hcell9, hv, hcl, (X'.ends _).1, (X'.ends _).2.mono hc hs, hf⟩⟩
  rw [X.pushThrowing_eq]
  exact st
/-- a thing of a world lies in the heap -/
theorem vx_lt {D : va_G} {cl : List vw_C} {ws : va_W} {H1 : Heap} (h : va_P D cl ws H1) {k : Nat} {q : Nat × va_E} (hk : ws[k]? = some q) : q.1 < H1.size := (h k q hk).lt
end VXS
/-! ===== END ===== -/
/-! ===== BEGIN methods with a table of their own: called by a name, returning or throwing ===== -/
section VXH
/-! vx_backW, vx_callVX, vx_callSX, vx_callVW, vx_runVW, vx_runVX, vx_runSX, vx_ofWH follow the same proofs as their sisters above (Free/Laws.lean, Shelf42/LK1.lean); vx_outP calls Shelf42/NT130.lean (outThrough). -/
section
variable {l : Launch} {R : Room} {p : Program} {e : Env} {below : List Frame} {s : State} {sargs : Array Value} {y : MethodName} {len W9 : Nat}
theorem vx_backW {ws : List Cond} {rm : Room} {Pc : Array Value → State → Prop} {Qc : Array Value → State → Outcome → State → Prop} {XC : String → State → State → Prop} {mc ms : Nat} {free : Addr → Prop} {bytes : ByteArray} {maxL : Nat} {ret : Option FieldType} {hh : List (Nat × Nat × Nat × Nat)}
    (hM : vx_Met l y ws rm Pc Qc XC mc ms free) (hblind : FrameBlind Pc) (hrc : rm.cells = mc) (hrs : rm.slots = ms)
    (hframes : rm.frames + 1 ≤ R.frames) (hlocals : W9 + (maxL + 11) + rm.locals ≤ R.locals)
    (hws : ∀ w ∈ ws, ∀ a' U, s.WarmedH U.vm → w.before a' U = true) (hcode : Cond.codeWith y bytes maxL ret hh ∈ ws) (hinit : ∀ a' U, s.WarmedH U.vm → (Cond.initialized y.cls).before a' U = true) :
    vx_Back l R p e below s sargs y len W9 (PreOf R mc ms Pc) (PostOf Qc mc ms free) (vx_Post XC mc ms free) := by
  intro m meth c A g ig mk a X hg hsize hdg hW hn hp
  have h1 : (headSpec ws rm).pre.before a A.U = true := atoms_intro fun w hw => hws w hw _ _ X.warmed
  have h2 : (Cond.codeWith y bytes maxL ret hh).before a A.U = true := hws _ hcode _ _ X.warmed
  have h3 : (Cond.initialized y.cls).before a A.U = true := hinit _ _ X.warmed
  have h4 : A.cells + (headSpec ws rm).room.cells ≤ R.cells := by rw [show (headSpec ws rm).room.cells = mc from hrc]; exact hp.1
  have h5 : A.slots + (headSpec ws rm).room.slots ≤ R.slots := by rw [show (headSpec ws rm).room.slots = ms from hrs]; exact hp.2.1
  have hPc : Pc a (A.U.calling g mk a) := hblind _ _ _ _ hp.2.2
  obtain ⟨U, Ls, c0, s0⟩ := A
  dsimp only [Pt.U, Pt.locs, Pt.cells, Pt.slots] at h1 h2 h3 h4 h5 X hn hPc ⊢
  obtain ⟨m9, methY, cY, hn9, hmY, hcY, -, hlY, -⟩ := Cond.codeWith_spec h2
  cases Option.some.inj (hn9.symm.trans hn)
  obtain ⟨kY, hkY, -⟩ := className_of_methodNamed hn
  have hinitY : kY.init = .initialized := Cond.initialized_spec (findClass_of_methodNamed hn) hkY h3
  have h : At U g.method c below := by rw [hg]; exact X.here
  have hlocals9 : W9 + (maxL + 11) + (headSpec ws rm).room.locals ≤ R.locals := hlocals
  have happ : (headSpec ws rm).appliesLoose y e.platform (U.calling g mk a) = true :=
    Spec.appliesLoose_calling (g := g) h hdg hn hkY hinitY
      (X.room_calling (g := g) (R' := (headSpec ws rm).room) hsize hmY hcY hframes (by rw [hlY]; omega) h4 h5) h1
  obtain ⟨mid, hmid⟩ := h.above
  have hfr : (U.setTop g).frames = (.java g :: mid) ++ below := by rw [State.frames_setTop' g h.top, hmid]; rfl
  obtain ⟨o, s₂, hsteps, -, hend, hq⟩ := Steps.callFree hM p X.admits X.cas X.clock (acts := []) hfr happ hPc trivial
  have hq' : vx_Q Qc XC mc ms free a (U.calling g mk a) o s₂ := hq
  rw [State.frames_setTop' g h.top] at hend
  obtain ⟨g₀, hg0⟩ := Option.isSome_iff_exists.mp h.top
  obtain ⟨r, hr⟩ := State.topJava?_eq_some.mp hg0
  have hr' : (({ U with heap := s₂.heap, slotsUsed := s₂.slotsUsed } : State).setVm s₂.vm).frames = .java g₀ :: r := hr
  rcases hq' with ⟨hqc, L, hfe, hL⟩ | ⟨q, rfl, E, ce, L, hx, hce, hcv, hcl, hW₂, hsm, hL⟩
  · obtain ⟨⟨v, rfl⟩, hW₂, e2, q2, q3, q4, q5, q6⟩ := id hfe
    have e3 : s₂ = ({ (U.calling g mk a).setFrames s₂.frames with heap := s₂.heap, slotsUsed := s₂.slotsUsed } : State).setVm s₂.vm := by
      have : s₂ = ({ s₂ with vm := (U.calling g mk a).vm } : State).setVm s₂.vm := rfl
      rw [e2] at this
      exact this
    obtain ⟨c₂, i₂, len₂, hc₂, hd₂, hf₂⟩ := hend
    have hW' : U.WarmedH s₂.vm := hW₂
    have hcc : c₂ = c := by
      have h1 : s₂.code? g.method = U.code? g.method := by
        rw [State.code?_eq, State.code?_eq, hW'.alike.method?]
      exact Option.some.inj (hc₂.symm.trans (h1.trans h.code))
    subst hcc
    have hlen : len₂ = len := by rw [hdg] at hd₂; cases hd₂; rfl
    subst hlen
    have hs₂ : s₂ = (({ U with heap := s₂.heap, slotsUsed := s₂.slotsUsed } : State).setVm s₂.vm).setTop { g with pc := g.pc + len₂, stack := v.toList ++ g.stack } := by
      refine e3.trans ?_
      rw [hf₂, State.calling_eq h.top, State.setFrames_setFrames, State.setTop_of_frames _ hr', hr]
      rfl
    have hsame : U.sameButNew ({ U with heap := s₂.heap, slotsUsed := s₂.slotsUsed } : State) L mc ms := by
      refine ⟨?_, q2, q3, q4, q5, q6⟩
      obtain ⟨t, ht, -⟩ := State.frames_cons hr
      show ({ U with heap := s₂.heap, slotsUsed := s₂.slotsUsed } : State) = { U.setFrames U.frames with heap := s₂.heap, slotsUsed := s₂.slotsUsed }
      rw [State.setFrames_self ht]
    subst hg
    refine Or.inl ⟨v, ⟨(({ U with heap := s₂.heap, slotsUsed := s₂.slotsUsed } : State).setVm s₂.vm), Ls ++ L, c0 + mc, s0 + ms⟩,
      ⟨X.admits, X.cas, X.clock, X.frames, X.room, X.hears, X.method, X.code, (X.here.setHeapUsed s₂.heap s₂.slotsUsed).setVm hW'.alike, X.tail, State.WarmedH.trans X.warmed hW', X.limits, X.bytes, X.same.trans (hsame.setVm s.vm)⟩,
      ⟨g, mk, s₂, L, rfl, rfl, hqc, rfl, hL, rfl, rfl⟩, ?_⟩
    show Steps p.tables e below _ ((({ U with heap := s₂.heap, slotsUsed := s₂.slotsUsed } : State).setVm s₂.vm).setTop { g with pc := g.pc + len₂, stack := v.toList ++ g.stack })
    rw [← hs₂]
    exact hsteps
  · obtain ⟨e2, q2, q3, q4, q5, q6⟩ := id hsm
    have e3 : s₂ = ({ (U.calling g mk a).setFrames s₂.frames with heap := s₂.heap, slotsUsed := s₂.slotsUsed } : State).setVm s₂.vm := by
      have : s₂ = ({ s₂ with vm := (U.calling g mk a).vm } : State).setVm s₂.vm := rfl
      rw [e2] at this
      exact this
    have hf₂ : s₂.frames = .throwing q :: .java g :: U.frames.tail := hend
    have hW' : U.WarmedH s₂.vm := hW₂
    have hs₂ : s₂ = ((({ U with heap := s₂.heap, slotsUsed := s₂.slotsUsed } : State).setVm s₂.vm).setTop g).pushFrame (.throwing q) := by
      refine e3.trans ?_
      rw [hf₂, State.calling_eq h.top, State.setFrames_setFrames, State.pushFrame, State.frames_setTop _ hr', State.setTop_of_frames _ hr', State.setFrames_setFrames, hr]
      rfl
    have hsame : U.sameButNew ({ U with heap := s₂.heap, slotsUsed := s₂.slotsUsed } : State) L mc ms := by
      refine ⟨?_, q2, q3, q4, q5, q6⟩
      obtain ⟨t, ht, -⟩ := State.frames_cons hr
      show ({ U with heap := s₂.heap, slotsUsed := s₂.slotsUsed } : State) = { U.setFrames U.frames with heap := s₂.heap, slotsUsed := s₂.slotsUsed }
      rw [State.setFrames_self ht]
    subst hg
    refine Or.inr ⟨q, ⟨(({ U with heap := s₂.heap, slotsUsed := s₂.slotsUsed } : State).setVm s₂.vm), Ls ++ L, c0 + mc, s0 + ms⟩,
      ⟨X.admits, X.cas, X.clock, X.frames, X.room, X.hears, X.method, X.code, (X.here.setHeapUsed s₂.heap s₂.slotsUsed).setVm hW'.alike, X.tail, State.WarmedH.trans X.warmed hW', X.limits, X.bytes, X.same.trans (hsame.setVm s.vm)⟩,
      ⟨g, mk, s₂, L, E, ce, rfl, rfl, hx, hce, hcv, hcl, rfl, hL, rfl, rfl⟩, ?_⟩
    show Steps p.tables e below _ (((({ U with heap := s₂.heap, slotsUsed := s₂.slotsUsed } : State).setVm s₂.vm).setTop g).pushFrame (.throwing q))
    rw [← hs₂]
    exact hsteps
end
variable {p : Program} {l : Launch} {e : Env} {R : Room} {s : State} {m : MethodId} {args : Array Value} {below : List Frame} {meth : Method} {c : Code} {T : State} {H : Heap} {locs : List Loc} {cells slots : Nat}
theorem vx_callVX (X : Stand p l e R s m args below meth c T locs cells slots) (hexec : p.tables.exec = Jvm.exec) {own C : String} {index : Nat} {y : MethodName} {bytes : ByteArray} {maxL : Nat} {ret : Option FieldType} {hh : List (Nat × Nat × Nat × Nat)}
    (hown : s.vm.findClass own = some m.cls) (hlink : (Cond.methodLink own index y).before args s = true) (hinst : (Cond.instanceMethod y).before args s = true) (hsel : (Cond.selects C y y).before args s = true)
    (hcode : (Cond.codeWith y bytes maxL ret hh).before args s = true) (hy : y.cls ≠ "java/lang/invoke/MethodHandle" ∧ y.cls ≠ "java/lang/invoke/VarHandle")
    {W9 : Nat} {Pre : Pt → Array Value → Prop} {Post : Pt → Array Value → Option Value → Pt → Prop} {PostX : Pt → Array Value → Addr → Pt → Prop} (hK : vx_Back l R p e below s args y 3 W9 Pre Post PostX)
    {b : Addr} {cellB : Cell} (hcell : T.heap[b]? = some cellB) (hobj : cellB.vm.isStatics = false) (hcls : s.vm.findClass C = some cellB.cls)
    {g : JFrame} (hg : g.method = m) (hsize : g.locals.size = c.maxLocals) {argsL rest : List Value} (hlen : ∀ sig, parseMethodDescriptor y.desc = some sig → argsL.length = sig.parameters.length)
    (hstack : g.stack = argsL.reverse ++ .ref b :: rest) (hW : 2 * g.monitorRoom + (rest.map fun v => v.category).sum ≤ W9) (hdg : decode c.code g.pc = .ok (.invokevirtual index, 3))
    (hpre : ∀ vm₁, s.WarmedH vm₁ → Pre ⟨T.setVm vm₁, locs, cells, slots⟩ (Value.ref b :: argsL).toArray) :
    (∃ (v : Option Value) (vm₁ : Vm) (B : Pt), s.WarmedH vm₁ ∧ Stand p l e R s m args below meth c B.U B.locs B.cells B.slots ∧ Post ⟨T.setVm vm₁, locs, cells, slots⟩ (Value.ref b :: argsL).toArray v B ∧
      ∀ target, Steps p.tables e below (B.U.setTop { g with pc := g.pc + 3, stack := v.toList ++ rest }) target → Steps p.tables e below (T.setTop g) target) ∨
    (∃ (q : Addr) (vm₁ : Vm) (B : Pt), s.WarmedH vm₁ ∧ Stand p l e R s m args below meth c B.U B.locs B.cells B.slots ∧ PostX ⟨T.setVm vm₁, locs, cells, slots⟩ (Value.ref b :: argsL).toArray q B ∧
      Steps p.tables e below (T.setTop g) ((B.U.setTop { g with stack := rest }).pushFrame (.throwing q))) := by
  obtain ⟨mk, methM, hnamed, hmethM, hstM, habM⟩ := Cond.instanceMethod_spec hinst
  obtain ⟨m8, methM', cM, hn8, hmethM', -, -, -, -, -, -, hsigM⟩ := Cond.codeWith_spec hcode
  cases Option.some.inj (hn8.symm.trans hnamed)
  cases hmethM.symm.trans hmethM'
  obtain ⟨c2, r2, m2, q1, q2, q3, q4, kP, hkP, hkPi⟩ := Cond.selects_spec hsel
  cases hcls.symm.trans q1
  cases (State.methodFound?_of_named hnamed hy).symm.trans q2
  cases hnamed.symm.trans q3
  have hselP : selectMethod e.platform s.vm cellB.cls mk = .method mk := by rw [Launch.admits_selectMethod X.admits]; exact q4
  obtain ⟨vm₁, X₁, hstep₁⟩ := X.invokevirtual hexec hown hlink hnamed hmethM hstM hkP hkPi hy (a := b) (cell := cellB) hcell
    (fun z h => by rw [h] at hobj; cases hobj) hselP hmethM habM hkP hkPi (g := g) hg (argsL := argsL) (rest := rest) (hlen _ hsigM) hstack hdg
  rcases hK m meth c ⟨T.setVm vm₁, locs, cells, slots⟩ { g with stack := rest } (.invokevirtual index) mk (Value.ref b :: argsL).toArray X₁ hg hsize hdg hW (X₁.named hnamed) (hpre vm₁ X₁.warmed) with ⟨v, B, X', hpost, hsteps⟩ | ⟨q, B, X', hpost, hsteps⟩
  · exact Or.inl ⟨v, vm₁, B, X₁.warmed, X', hpost, fun target h => hstep₁ _ fun acts => by rw [doInvoke_state]; exact hsteps.trans h⟩
  · exact Or.inr ⟨q, vm₁, B, X₁.warmed, X', hpost, hstep₁ _ fun acts => by rw [doInvoke_state]; exact hsteps⟩
theorem vx_callSX (X : Stand p l e R s m args below meth c T locs cells slots) (hexec : p.tables.exec = Jvm.exec) {own : String} {index : Nat} {y : MethodName} {bytes : ByteArray} {maxL : Nat} {ret : Option FieldType} {hh : List (Nat × Nat × Nat × Nat)}
    (hown : s.vm.findClass own = some m.cls) (hlink : (Cond.methodLink own index y).before args s = true) (hstat : (Cond.static y).before args s = true) (hinit : (Cond.initialized y.cls).before args s = true)
    (hcode : (Cond.codeWith y bytes maxL ret hh).before args s = true) (hy : y.cls ≠ "java/lang/invoke/MethodHandle" ∧ y.cls ≠ "java/lang/invoke/VarHandle")
    {W9 : Nat} {Pre : Pt → Array Value → Prop} {Post : Pt → Array Value → Option Value → Pt → Prop} {PostX : Pt → Array Value → Addr → Pt → Prop} (hK : vx_Back l R p e below s args y 3 W9 Pre Post PostX)
    {g : JFrame} (hg : g.method = m) (hsize : g.locals.size = c.maxLocals) {argsL rest : List Value} (hlen : ∀ sig, parseMethodDescriptor y.desc = some sig → argsL.length = sig.parameters.length)
    (hstack : g.stack = argsL.reverse ++ rest) (hW : 2 * g.monitorRoom + (rest.map fun v => v.category).sum ≤ W9) (hdg : decode c.code g.pc = .ok (.invokestatic index, 3))
    (hpre : ∀ vm₁, s.WarmedH vm₁ → Pre ⟨T.setVm vm₁, locs, cells, slots⟩ argsL.toArray) :
    (∃ (v : Option Value) (vm₁ : Vm) (B : Pt), s.WarmedH vm₁ ∧ Stand p l e R s m args below meth c B.U B.locs B.cells B.slots ∧ Post ⟨T.setVm vm₁, locs, cells, slots⟩ argsL.toArray v B ∧
      ∀ target, Steps p.tables e below (B.U.setTop { g with pc := g.pc + 3, stack := v.toList ++ rest }) target → Steps p.tables e below (T.setTop g) target) ∨
    (∃ (q : Addr) (vm₁ : Vm) (B : Pt), s.WarmedH vm₁ ∧ Stand p l e R s m args below meth c B.U B.locs B.cells B.slots ∧ PostX ⟨T.setVm vm₁, locs, cells, slots⟩ argsL.toArray q B ∧
      Steps p.tables e below (T.setTop g) ((B.U.setTop { g with stack := rest }).pushFrame (.throwing q))) := by
  obtain ⟨mk, methM, cM, hnamed, hmethM, -, -, -, -, -, -, hsigM⟩ := Cond.codeWith_spec hcode
  have hstatic : methM.isStatic = true := Cond.static_spec hnamed hmethM hstat
  obtain ⟨kP, hkP, -⟩ := className_of_methodNamed hnamed
  have hinitP : kP.init = .initialized := Cond.initialized_spec (findClass_of_methodNamed hnamed) hkP hinit
  obtain ⟨vm₁, X₁, hstep₁⟩ := X.invokestatic hexec hown hlink hnamed hmethM hstatic hkP hinitP hy (g := g) hg (argsL := argsL) (rest := rest) (hlen _ hsigM) hstack hdg
  rcases hK m meth c ⟨T.setVm vm₁, locs, cells, slots⟩ { g with stack := rest } (.invokestatic index) mk argsL.toArray X₁ hg hsize hdg hW (X₁.named hnamed) (hpre vm₁ X₁.warmed) with ⟨v, B, X', hpost, hsteps⟩ | ⟨q, B, X', hpost, hsteps⟩
  · exact Or.inl ⟨v, vm₁, B, X₁.warmed, X', hpost, fun target h => hstep₁ _ fun acts => by rw [doInvoke_state]; exact hsteps.trans h⟩
  · exact Or.inr ⟨q, vm₁, B, X₁.warmed, X', hpost, hstep₁ _ fun acts => by rw [doInvoke_state]; exact hsteps⟩
theorem vx_callVW (X : Stand p l e R s m args below meth c T locs cells slots) (hexec : p.tables.exec = Jvm.exec) {own C : String} {index : Nat} {y : MethodName} {bytes : ByteArray} {maxL : Nat} {ret : Option FieldType} {hh : List (Nat × Nat × Nat × Nat)}
    (hown : s.vm.findClass own = some m.cls) (hlink : (Cond.methodLink own index y).before args s = true) (hinst : (Cond.instanceMethod y).before args s = true) (hsel : (Cond.selects C y y).before args s = true)
    (hcode : (Cond.codeWith y bytes maxL ret hh).before args s = true) (hy : y.cls ≠ "java/lang/invoke/MethodHandle" ∧ y.cls ≠ "java/lang/invoke/VarHandle")
    {W9 : Nat} {Pre : Pt → Array Value → Prop} {Post : Pt → Array Value → Option Value → Pt → Prop} (hK : Back l R p e below s args y 3 W9 Pre Post)
    {b : Addr} {cellB : Cell} (hcell : T.heap[b]? = some cellB) (hobj : cellB.vm.isStatics = false) (hcls : s.vm.findClass C = some cellB.cls)
    {g : JFrame} (hg : g.method = m) (hsize : g.locals.size = c.maxLocals) {argsL rest : List Value} (hlen : ∀ sig, parseMethodDescriptor y.desc = some sig → argsL.length = sig.parameters.length)
    (hstack : g.stack = argsL.reverse ++ .ref b :: rest) (hW : 2 * g.monitorRoom + (rest.map fun v => v.category).sum ≤ W9) (hdg : decode c.code g.pc = .ok (.invokevirtual index, 3))
    (hpre : ∀ vm₁, s.WarmedH vm₁ → Pre ⟨T.setVm vm₁, locs, cells, slots⟩ (Value.ref b :: argsL).toArray) :
    ∃ (v : Option Value) (vm₁ : Vm) (B : Pt), s.WarmedH vm₁ ∧ Stand p l e R s m args below meth c B.U B.locs B.cells B.slots ∧ Post ⟨T.setVm vm₁, locs, cells, slots⟩ (Value.ref b :: argsL).toArray v B ∧
      ∀ target, Steps p.tables e below (B.U.setTop { g with pc := g.pc + 3, stack := v.toList ++ rest }) target → Steps p.tables e below (T.setTop g) target := by
  obtain ⟨mk, methM, hnamed, hmethM, hstM, habM⟩ := Cond.instanceMethod_spec hinst
  obtain ⟨m8, methM', cM, hn8, hmethM', -, -, -, -, -, -, hsigM⟩ := Cond.codeWith_spec hcode
  cases Option.some.inj (hn8.symm.trans hnamed)
  cases hmethM.symm.trans hmethM'
  obtain ⟨c2, r2, m2, q1, q2, q3, q4, kP, hkP, hkPi⟩ := Cond.selects_spec hsel
  cases hcls.symm.trans q1
  cases (State.methodFound?_of_named hnamed hy).symm.trans q2
  cases hnamed.symm.trans q3
  have hselP : selectMethod e.platform s.vm cellB.cls mk = .method mk := by rw [Launch.admits_selectMethod X.admits]; exact q4
  obtain ⟨vm₁, X₁, hstep₁⟩ := X.invokevirtual hexec hown hlink hnamed hmethM hstM hkP hkPi hy (a := b) (cell := cellB) hcell
    (fun z h => by rw [h] at hobj; cases hobj) hselP hmethM habM hkP hkPi (g := g) hg (argsL := argsL) (rest := rest) (hlen _ hsigM) hstack hdg
  obtain ⟨v, B, X', hpost, hsteps⟩ := hK m meth c ⟨T.setVm vm₁, locs, cells, slots⟩ { g with stack := rest } (.invokevirtual index) mk (Value.ref b :: argsL).toArray X₁ hg hsize hdg hW (X₁.named hnamed) (hpre vm₁ X₁.warmed)
  exact ⟨v, vm₁, B, X₁.warmed, X', hpost, fun target h => hstep₁ _ fun acts => by rw [doInvoke_state]; exact hsteps.trans h⟩
abbrev vx_CVW (R : Room) (s : State) (args : Array Value) (own C : String) (index : Nat) (y : MethodName) (bytes : ByteArray) (maxL : Nat) (ret : Option FieldType) (hh : List (Nat × Nat × Nat × Nat)) (ws : List Cond) (rm : Room) (mc ms n : Nat) : Prop :=
  (rm.cells = mc ∧ rm.slots = ms ∧ rm.frames + 1 ≤ R.frames ∧ 8 + (maxL + 11) + rm.locals ≤ R.locals ∧ (∀ w ∈ ws, ∀ (a' : Array Value) (U : State), s.WarmedH U.vm → w.before a' U = true) ∧ Cond.codeWith y bytes maxL ret hh ∈ ws) ∧
  (Cond.codeWith y bytes maxL ret hh).before args s = true ∧ (Cond.initialized y.cls).before args s = true ∧ (y.cls ≠ "java/lang/invoke/MethodHandle" ∧ y.cls ≠ "java/lang/invoke/VarHandle") ∧
  (∀ sig, parseMethodDescriptor y.desc = some sig → n = sig.parameters.length) ∧ (Cond.methodLink own index y).before args s = true ∧ (Cond.instanceMethod y).before args s = true ∧ (Cond.selects C y y).before args s = true
theorem vx_cwVW {own C : String} {index maxL mc ms : Nat} {y : MethodName} {bytes : ByteArray} {ret : Option FieldType} {hh : List (Nat × Nat × Nat × Nat)} {Ts ws ws' : List Cond} {rm : Room} (n : Nat) (ht : ∀ w ∈ Ts, w.before args s = true) (hT : GoodIn Ts (wsV own index C y ws)) (hw : ws = Cond.codeWith y bytes maxL ret hh :: ws') (hrc : rm.cells = mc) (hrs : rm.slots = ms)
    (hd : y.cls = C ∧ y.cls ≠ "java/lang/invoke/MethodHandle" ∧ y.cls ≠ "java/lang/invoke/VarHandle" ∧ (parseMethodDescriptor y.desc).map (fun d => d.parameters.length) = some n) (hR : rm.frames + 1 ≤ R.frames ∧ 8 + (maxL + 11) + rm.locals ≤ R.locals) :
    vx_CVW R s args own C index y bytes maxL ret hh ws rm mc ms n := by
  obtain ⟨hC, hd⟩ := hd
  subst hC
  have ok : ∀ w ∈ wsV own index y.cls y ws, w.before args s = true := fun w h => ht w (hT w h).1
  have hG : GoodIn Ts ws := fun w h => hT w (by unfold wsV; exact List.mem_append_right _ h)
  have hc : Cond.codeWith y bytes maxL ret hh ∈ ws := by rw [hw]; exact List.mem_cons_self
  refine ⟨⟨hrc, hrs, hR.1, hR.2, pay_in ht hG, hc⟩, ht _ (hG _ hc).1, ok _ (by simp [wsV]), ⟨hd.1, hd.2.1⟩, fun sig h => ?_, ok _ (by simp [wsV]), ok _ (by simp [wsV]), ok _ (by simp [wsV])⟩
  have h2 := hd.2.2
  rw [h] at h2
  exact (Option.some.inj h2).symm
theorem vx_runVW {y : MethodName} {bytes cc : ByteArray} {maxL nL mc ms n index : Nat} {ret : Option FieldType} {hh : List (Nat × Nat × Nat × Nat)} {ws : List Cond} {rm : Room} {Pc : Array Value → State → Prop} {Qc : Array Value → State → Outcome → State → Prop} {free : Addr → Prop} {Ts : List Cond} {own C : String} {b : Addr} {As rest : List Value} {g : JFrame}
    (S : CallFix p m c cc nL s args Ts own) (hM : Met l y ws rm Pc Qc mc ms free) (cw : vx_CVW R s args own C index y bytes maxL ret hh ws rm mc ms n) (hp : PreV s H C b Pc As)
    (hg : g.method = m) (hn : As.length = n) (hsize : g.locals.size = nL) (hstack : g.stack = As.reverse ++ .ref b :: rest) (hW : 2 * g.monitorRoom + (rest.map fun v => v.category).sum ≤ 8) (hdg : decode cc g.pc = .ok (.invokevirtual index, 3)) (hf : cells + mc ≤ R.cells ∧ slots + ms ≤ R.slots) :
    va_Run p l e R s m args below meth c H locs cells slots mc ms g rest (Qc (Value.ref b :: As).toArray) free := by
  obtain ⟨⟨hrc, hrs, hfr, hlo, hws, hcw⟩, hcode, hini, hy, hlen, hl, hin, hse⟩ := cw
  have hK : Back l R p e below s args y 3 8 (PreOf R mc ms Pc) (PostOf Qc mc ms free) := va_backW (hh := hh) (bytes := bytes) (maxL := maxL) (ret := ret) hM hp.1 hrc hrs hfr hlo hws hcw (fun a' U hW => word_at hW (Or.inl (by first | rfl | simp [Cond.onTables, Cond.keeps, Cond.steady])) hini)
  obtain ⟨hx, hb, hml, ho, -⟩ := S
  obtain ⟨-, ⟨cellB, hcB, hoB, hclB⟩, hPc⟩ := hp
  intro T hT X
  obtain ⟨v, vm₁, ⟨U', l2, c2, s2⟩, hW₁, X', ⟨g', mk, t, L, e1, e2, hq, h1, hL, h2, h3⟩, st⟩ := vx_callVW X hx (C := C) (hh := hh) (bytes := bytes) (maxL := maxL) (ret := ret) ho hl hin hse hcode hy hK (by rw [hT]; exact hcB) hoB hclB hg (hsize.trans hml.symm) (argsL := As) (rest := rest) (fun sig h => hn.trans (hlen sig h)) hstack hW (by rw [hb]; exact hdg)
    (fun vm₁ hW₁ => ⟨hf.1, hf.2, hPc (T.setVm vm₁) hT hW₁⟩)
  dsimp only [Pt.U, Pt.locs, Pt.cells, Pt.slots] at X' e1 e2 h1 h2 h3 st
  subst h1; subst h2; subst h3
  exact ⟨v, (T.setVm vm₁).calling g' mk (Value.ref b :: As).toArray, t, U', L, hT, X', hL, e1, e2, hq, st⟩
section
variable {y : MethodName} {bytes cc : ByteArray} {maxL nL mc ms n index : Nat} {ret : Option FieldType} {ws : List Cond} {rm : Room} {Pc : Array Value → State → Prop} {Qc : Array Value → State → Outcome → State → Prop} {XC : String → State → State → Prop} {free : Addr → Prop} {Ts : List Cond} {own C : String} {b : Addr} {As rest : List Value} {g : JFrame}
theorem vx_runVX {hh : List (Nat × Nat × Nat × Nat)} (S : CallFix p m c cc nL s args Ts own) (hM : vx_Met l y ws rm Pc Qc XC mc ms free) (cw : vx_CVW R s args own C index y bytes maxL ret hh ws rm mc ms n) (hp : PreV s H C b Pc As)
    (hg : g.method = m) (hn : As.length = n) (hsize : g.locals.size = nL) (hstack : g.stack = As.reverse ++ .ref b :: rest) (hW : 2 * g.monitorRoom + (rest.map fun v => v.category).sum ≤ 8) (hdg : decode cc g.pc = .ok (.invokevirtual index, 3)) (hf : cells + mc ≤ R.cells ∧ slots + ms ≤ R.slots) :
    vx_Run p l e R s m args below meth c H locs cells slots mc ms g rest (Qc (Value.ref b :: As).toArray) XC free := by
  obtain ⟨⟨hrc, hrs, hfr, hlo, hws, hcw⟩, hcode, hini, hy, hlen, hl, hin, hse⟩ := cw
  have hK : vx_Back l R p e below s args y 3 8 (PreOf R mc ms Pc) (PostOf Qc mc ms free) (vx_Post XC mc ms free) := vx_backW (hh := hh) (bytes := bytes) (maxL := maxL) (ret := ret) hM hp.1 hrc hrs hfr hlo hws hcw (fun a' U hW => word_at hW (Or.inl (by first | rfl | simp [Cond.onTables, Cond.keeps, Cond.steady])) hini)
  obtain ⟨hx, hb, hml, ho, -⟩ := S
  obtain ⟨-, ⟨cellB, hcB, hoB, hclB⟩, hPc⟩ := hp
  intro T hT X
  rcases vx_callVX X hx (C := C) (hh := hh) (bytes := bytes) (maxL := maxL) (ret := ret) ho hl hin hse hcode hy hK (by rw [hT]; exact hcB) hoB hclB hg (hsize.trans hml.symm) (argsL := As) (rest := rest) (fun sig h => hn.trans (hlen sig h)) hstack hW (by rw [hb]; exact hdg)
    (fun vm₁ hW₁ => ⟨hf.1, hf.2, hPc (T.setVm vm₁) hT hW₁⟩) with ⟨v, vm₁, ⟨U', l2, c2, s2⟩, hW₁, X', ⟨g', mk, t, L, e1, e2, hq, h1, hL, h2, h3⟩, st⟩ | ⟨q, vm₁, ⟨U', l2, c2, s2⟩, hW₁, X', ⟨g', mk, t, L, E, ce, e1, e2, hq, hce, hcv, hcl, h1, hL, h2, h3⟩, st⟩
  · dsimp only [Pt.U, Pt.locs, Pt.cells, Pt.slots] at X' e1 e2 h1 h2 h3 st
    subst h1; subst h2; subst h3
    exact Or.inl ⟨v, (T.setVm vm₁).calling g' mk (Value.ref b :: As).toArray, t, U', L, hT, X', hL, e1, e2, hq, st⟩
  · dsimp only [Pt.U, Pt.locs, Pt.cells, Pt.slots] at X' e1 e2 h1 h2 h3 st hcl
    subst h1; subst h2; subst h3
    exact Or.inr ⟨q, (T.setVm vm₁).calling g' mk (Value.ref b :: As).toArray, t, U', L, E, ce, hT, X', hL, e1, e2, hq, hce, hcv, vx_cls hW₁ hcl, st⟩
theorem vx_runSX {hh : List (Nat × Nat × Nat × Nat)} (S : CallFix p m c cc nL s args Ts own) (hM : vx_Met l y ws rm Pc Qc XC mc ms free) (cw : vx_CSW R s args own index y bytes maxL ret hh ws rm mc ms n) (hp : PreS s H Pc As)
    (hg : g.method = m) (hn : As.length = n) (hsize : g.locals.size = nL) (hstack : g.stack = As.reverse ++ rest) (hW : 2 * g.monitorRoom + (rest.map fun v => v.category).sum ≤ 8) (hdg : decode cc g.pc = .ok (.invokestatic index, 3)) (hf : cells + mc ≤ R.cells ∧ slots + ms ≤ R.slots) :
    vx_Run p l e R s m args below meth c H locs cells slots mc ms g rest (Qc As.toArray) XC free := by
  obtain ⟨⟨hrc, hrs, hfr, hlo, hws, hcw⟩, hcode, hini, hy, hlen, hl, hstt⟩ := cw
  have hK : vx_Back l R p e below s args y 3 8 (PreOf R mc ms Pc) (PostOf Qc mc ms free) (vx_Post XC mc ms free) := vx_backW (hh := hh) (bytes := bytes) (maxL := maxL) (ret := ret) hM hp.1 hrc hrs hfr hlo hws hcw (fun a' U hW => word_at hW (Or.inl (by first | rfl | simp [Cond.onTables, Cond.keeps, Cond.steady])) hini)
  obtain ⟨hx, hb, hml, ho, -⟩ := S
  intro T hT X
  rcases vx_callSX X hx (hh := hh) (bytes := bytes) (maxL := maxL) (ret := ret) ho hl hstt hini hcode hy hK hg (hsize.trans hml.symm) (argsL := As) (rest := rest) (fun sig h => hn.trans (hlen sig h)) hstack hW (by rw [hb]; exact hdg)
    (fun vm₁ hW₁ => ⟨hf.1, hf.2, hp.2 (T.setVm vm₁) hT hW₁⟩) with ⟨v, vm₁, ⟨U', l2, c2, s2⟩, hW₁, X', ⟨g', mk, t, L, e1, e2, hq, h1, hL, h2, h3⟩, st⟩ | ⟨q, vm₁, ⟨U', l2, c2, s2⟩, hW₁, X', ⟨g', mk, t, L, E, ce, e1, e2, hq, hce, hcv, hcl, h1, hL, h2, h3⟩, st⟩
  · dsimp only [Pt.U, Pt.locs, Pt.cells, Pt.slots] at X' e1 e2 h1 h2 h3 st
    subst h1; subst h2; subst h3
    exact Or.inl ⟨v, (T.setVm vm₁).calling g' mk As.toArray, t, U', L, hT, X', hL, e1, e2, hq, st⟩
  · dsimp only [Pt.U, Pt.locs, Pt.cells, Pt.slots] at X' e1 e2 h1 h2 h3 st hcl
    subst h1; subst h2; subst h3
    exact Or.inr ⟨q, (T.setVm vm₁).calling g' mk As.toArray, t, U', L, E, ce, hT, X', hL, e1, e2, hq, hce, hcv, vx_cls hW₁ hcl, st⟩
end
end VXH
theorem vx_ofWH {l : Launch} {y : MethodName} {ws ws' : List Cond} {rm : Room} {Pc : Array Value → State → Prop} {Qc : Array Value → State → Outcome → State → Prop} {XC : String → State → State → Prop} {mc ms : Nat} {free : Addr → Prop} {cc : ByteArray} {maxL : Nat} {ret : Option FieldType} {hh : List (Nat × Nat × Nat × Nat)}
    (hy : plainName y.cls = true) (hw : ws = Cond.codeWith y cc maxL ret hh :: ws')
    (body : ∀ p e s m args below meth c s₁, BodyLoose p l y (headSpec ws rm) cc maxL ret e s m args below meth c s₁ → c.maxLocals = maxL → Pc args s →
      W p l e (headSpec ws rm).room s m args below meth c s.heap [] 0 0 (vx_MQ below Qc XC args s mc ms free) (entryFrame m args maxL)) : vx_Met l y ws rm Pc Qc XC mc ms free := by
  refine MetFree.of_bodyS (code := cc) (maxLocals := maxL) (ret := ret) hy ?_ ?_
  · intro args s m h hn
    obtain ⟨m9, meth, c, hn9, h1, h2, h3, h4, -, h5, h6, -⟩ := Cond.codeWith_spec (atoms_spec (ws := ws) h _ (by rw [hw]; exact List.mem_cons_self))
    cases hn.symm.trans hn9
    exact ⟨meth, c, h1, h2, h3, h4, h5, h6⟩
  · intro p e s m args below meth c s₁ B hml hP _
    have hh0 : s₁.heap = s.heap := by rw [B.state]; rfl
    obtain ⟨t, a1, o, b1, b2, b3⟩ := body p e s m args below meth c s₁ B hml hP s₁ hh0 (Stand.of_body B)
    exact ⟨t, o, a1, b1, b2, b3⟩
/-! ===== END ===== -/
end
section
/-! ===== BEGIN printed: names, fields, word lists, decode rows ===== -/
def RX0 : String := "BayerGate$EditRow"
def TX0 : u_T := fun k => match k with
  | 0 => ("BayerGate$EditRow", "kinds", "[I", true)
  | 1 => ("BayerGate$EditRow", "numbers", "[I", true)
  | _ => ("BayerGate$EditRow", "length", "I", false)
def tyX0 : Nat → FieldType := fun k => match k with
  | 0 => .array .int
  | 1 => .array .int
  | _ => .int
abbrev wsX00 : List Cond := u_ws RX0 TX0 3
theorem nmX0 : ∀ a, a < 3 → ∀ b, b < 3 → a ≠ b → (TX0 a).2.1 ≠ (TX0 b).2.1 := by decide +kernel
theorem tyX0_ok : ∀ k, k < 3 → parseFieldDescriptor (TX0 k).2.2.1 = some (tyX0 k) := by decide +kernel
abbrev cX0_init : ByteArray := prog_2_method_1_code
def yX0_init : MethodName := ⟨RX0, "<init>", "()V"⟩
abbrev cX0_count : ByteArray := prog_2_method_2_code
def yX0_count : MethodName := ⟨RX0, "count", "()I"⟩
abbrev cX0_append : ByteArray := prog_2_method_3_code
def yX0_append : MethodName := ⟨RX0, "append", "(II)V"⟩
abbrev cX0_takeBack : ByteArray := prog_2_method_4_code
def yX0_takeBack : MethodName := ⟨RX0, "takeBack", "()I"⟩
abbrev cX0_copyFrom : ByteArray := prog_2_method_5_code
def yX0_copyFrom : MethodName := ⟨RX0, "copyFrom", "(LBayerGate$EditRow;)V"⟩
abbrev cX0_hasMend : ByteArray := prog_2_method_6_code
def yX0_hasMend : MethodName := ⟨RX0, "hasMend", "()Z"⟩
def RX1 : String := "BayerGate$Frame"
def TX1 : u_T := fun k => match k with
  | 0 => ("BayerGate$Frame", "rawRow", "[I", true)
  | 1 => ("BayerGate$Frame", "edits", "LBayerGate$EditRow;", true)
  | 2 => ("BayerGate$Frame", "time", "I", false)
  | 3 => ("BayerGate$Frame", "gain", "I", false)
  | _ => ("BayerGate$Frame", "ghosts", "I", false)
def tyX1 : Nat → FieldType := fun k => match k with
  | 0 => .array .int
  | 1 => .object "BayerGate$EditRow"
  | 2 => .int
  | 3 => .int
  | _ => .int
abbrev wsX10 : List Cond := u_ws RX1 TX1 5
theorem nmX1 : ∀ a, a < 5 → ∀ b, b < 5 → a ≠ b → (TX1 a).2.1 ≠ (TX1 b).2.1 := by decide +kernel
theorem tyX1_ok : ∀ k, k < 5 → parseFieldDescriptor (TX1 k).2.2.1 = some (tyX1 k) := by decide +kernel
abbrev cX1_init : ByteArray := prog_3_method_1_code
def yX1_init : MethodName := ⟨RX1, "<init>", "()V"⟩
abbrev cX1_countClipped : ByteArray := prog_3_method_2_code
def yX1_countClipped : MethodName := ⟨RX1, "countClipped", "()I"⟩
abbrev cX1_sharpness : ByteArray := prog_3_method_3_code
def yX1_sharpness : MethodName := ⟨RX1, "sharpness", "()I"⟩
abbrev cX1_whiteOf : ByteArray := prog_3_method_4_code
def yX1_whiteOf : MethodName := ⟨RX1, "whiteOf", "(I)I"⟩
abbrev cX1_sumSeen : ByteArray := prog_3_method_5_code
def yX1_sumSeen : MethodName := ⟨RX1, "sumSeen", "(I)I"⟩
abbrev cX1_meanOfZone : ByteArray := prog_3_method_6_code
def yX1_meanOfZone : MethodName := ⟨RX1, "meanOfZone", "(I)D"⟩
abbrev cX1_meanOfZones : ByteArray := prog_3_method_7_code
def yX1_meanOfZones : MethodName := ⟨RX1, "meanOfZones", "()D"⟩
def RX2 : String := "BayerGate$Picture"
def TX2 : u_T := fun k => match k with
  | 0 => ("BayerGate$Picture", "numbers", "[F", true)
  | _ => ("BayerGate$Picture", "mended", "[I", true)
def tyX2 : Nat → FieldType := fun k => match k with
  | 0 => .array .float
  | _ => .array .int
abbrev wsX20 : List Cond := u_ws RX2 TX2 2
theorem nmX2 : ∀ a, a < 2 → ∀ b, b < 2 → a ≠ b → (TX2 a).2.1 ≠ (TX2 b).2.1 := by decide +kernel
theorem tyX2_ok : ∀ k, k < 2 → parseFieldDescriptor (TX2 k).2.2.1 = some (tyX2 k) := by decide +kernel
abbrev cX2_init : ByteArray := prog_4_method_1_code
def yX2_init : MethodName := ⟨RX2, "<init>", "()V"⟩
abbrev cX2_indexOf : ByteArray := prog_4_method_2_code
def yX2_indexOf : MethodName := ⟨RX2, "indexOf", "(II)I"⟩
abbrev cX2_compose : ByteArray := prog_4_method_3_code
def yX2_compose : MethodName := ⟨RX2, "compose", "([ILBayerGate$EditRow;[Z)V"⟩
abbrev cX2_bound : ByteArray := prog_4_method_4_code
def yX2_bound : MethodName := ⟨RX2, "bound", "()V"⟩
abbrev cX2_sumUp : ByteArray := prog_4_method_5_code
def yX2_sumUp : MethodName := ⟨RX2, "sumUp", "()I"⟩
abbrev cX2_sumTones : ByteArray := prog_4_method_6_code
def yX2_sumTones : MethodName := ⟨RX2, "sumTones", "(IF)I"⟩
abbrev cX2_farthestFrom : ByteArray := prog_4_method_7_code
def yX2_farthestFrom : MethodName := ⟨RX2, "farthestFrom", "(LBayerGate$Picture;)F"⟩
abbrev cX2_bounded : ByteArray := prog_4_method_8_code
def yX2_bounded : MethodName := ⟨RX2, "bounded", "(F)F"⟩
abbrev cX2_mendAll : ByteArray := prog_4_method_9_code
def yX2_mendAll : MethodName := ⟨RX2, "mendAll", "([I[ZZ)V"⟩
abbrev cX2_mendedAt : ByteArray := prog_4_method_10_code
def yX2_mendedAt : MethodName := ⟨RX2, "mendedAt", "([I[ZII)I"⟩
abbrev cX2_makeWhole : ByteArray := prog_4_method_11_code
def yX2_makeWhole : MethodName := ⟨RX2, "makeWhole", "()V"⟩
abbrev cX2_meanAround : ByteArray := prog_4_method_12_code
def yX2_meanAround : MethodName := ⟨RX2, "meanAround", "(III)F"⟩
abbrev cX2_applyEdit : ByteArray := prog_4_method_13_code
def yX2_applyEdit : MethodName := ⟨RX2, "applyEdit", "(II)V"⟩
abbrev cX2_darken : ByteArray := prog_4_method_14_code
def yX2_darken : MethodName := ⟨RX2, "darken", "(I)V"⟩
abbrev cX2_scaleColour : ByteArray := prog_4_method_15_code
def yX2_scaleColour : MethodName := ⟨RX2, "scaleColour", "(IF)V"⟩
abbrev cX2_changeTone : ByteArray := prog_4_method_16_code
def yX2_changeTone : MethodName := ⟨RX2, "changeTone", "(I)V"⟩
abbrev cX2_turnOver : ByteArray := prog_4_method_17_code
def yX2_turnOver : MethodName := ⟨RX2, "turnOver", "()V"⟩
def RX3 : String := "BayerGate$Scene"
def TX3 : u_T := fun k => match k with
  | 0 => ("BayerGate$Scene", "shades", "[I", true)
  | 1 => ("BayerGate$Scene", "factors", "[F", true)
  | _ => ("BayerGate$Scene", "quartersOfGreen", "I", false)
def tyX3 : Nat → FieldType := fun k => match k with
  | 0 => .array .int
  | 1 => .array .float
  | _ => .int
abbrev wsX30 : List Cond := u_ws RX3 TX3 3
theorem nmX3 : ∀ a, a < 3 → ∀ b, b < 3 → a ≠ b → (TX3 a).2.1 ≠ (TX3 b).2.1 := by decide +kernel
theorem tyX3_ok : ∀ k, k < 3 → parseFieldDescriptor (TX3 k).2.2.1 = some (tyX3 k) := by decide +kernel
abbrev cX3_init : ByteArray := prog_5_method_1_code
def yX3_init : MethodName := ⟨RX3, "<init>", "()V"⟩
abbrev cX3_colourPlace : ByteArray := prog_5_method_2_code
def yX3_colourPlace : MethodName := ⟨RX3, "colourPlace", "(II)V"⟩
abbrev cX3_shade : ByteArray := prog_5_method_3_code
def yX3_shade : MethodName := ⟨RX3, "shade", "(II)I"⟩
abbrev cX3_light : ByteArray := prog_5_method_4_code
def yX3_light : MethodName := ⟨RX3, "light", "(III)V"⟩
abbrev cX3_greenQuarters : ByteArray := prog_5_method_5_code
def yX3_greenQuarters : MethodName := ⟨RX3, "greenQuarters", "()I"⟩
abbrev cX3_lightAt : ByteArray := prog_5_method_6_code
def yX3_lightAt : MethodName := ⟨RX3, "lightAt", "(III)F"⟩
def RX4 : String := "BayerGate$Sensor"
def TX4 : u_T := fun k => match k with
  | 0 => ("BayerGate$Sensor", "hows", "[I", true)
  | 1 => ("BayerGate$Sensor", "mapped", "[Z", true)
  | _ => ("BayerGate$Sensor", "draw", "I", false)
def tyX4 : Nat → FieldType := fun k => match k with
  | 0 => .array .int
  | 1 => .array .boolean
  | _ => .int
abbrev wsX40 : List Cond := u_ws RX4 TX4 3
theorem nmX4 : ∀ a, a < 3 → ∀ b, b < 3 → a ≠ b → (TX4 a).2.1 ≠ (TX4 b).2.1 := by decide +kernel
theorem tyX4_ok : ∀ k, k < 3 → parseFieldDescriptor (TX4 k).2.2.1 = some (tyX4 k) := by decide +kernel
abbrev cX4_init : ByteArray := prog_6_method_1_code
def yX4_init : MethodName := ⟨RX4, "<init>", "()V"⟩
abbrev cX4_howIs : ByteArray := prog_6_method_2_code
def yX4_howIs : MethodName := ⟨RX4, "howIs", "(I)I"⟩
abbrev cX4_setHow : ByteArray := prog_6_method_3_code
def yX4_setHow : MethodName := ⟨RX4, "setHow", "(II)V"⟩
abbrev cX4_isMapped : ByteArray := prog_6_method_4_code
def yX4_isMapped : MethodName := ⟨RX4, "isMapped", "(I)Z"⟩
abbrev cX4_setMapped : ByteArray := prog_6_method_5_code
def yX4_setMapped : MethodName := ⟨RX4, "setMapped", "(IZ)V"⟩
abbrev cX4_countMapped : ByteArray := prog_6_method_6_code
def yX4_countMapped : MethodName := ⟨RX4, "countMapped", "()I"⟩
abbrev cX4_countSpoilt : ByteArray := prog_6_method_7_code
def yX4_countSpoilt : MethodName := ⟨RX4, "countSpoilt", "(Z)I"⟩
abbrev cX4_advance : ByteArray := prog_6_method_8_code
def yX4_advance : MethodName := ⟨RX4, "advance", "(I)V"⟩
abbrev cX4_expose : ByteArray := prog_6_method_9_code
def yX4_expose : MethodName := ⟨RX4, "expose", "(LBayerGate$Scene;IILBayerGate$Frame;)I"⟩
abbrev cX4_rawOf : ByteArray := prog_6_method_10_code
def yX4_rawOf : MethodName := ⟨RX4, "rawOf", "(IFII)I"⟩
def RX5 : String := "BayerGate$StoredFile"
def TX5 : u_T := fun k => match k with
  | 0 => ("BayerGate$StoredFile", "edits", "LBayerGate$EditRow;", true)
  | 1 => ("BayerGate$StoredFile", "frame", "I", false)
  | _ => ("BayerGate$StoredFile", "version", "I", false)
def tyX5 : Nat → FieldType := fun k => match k with
  | 0 => .object "BayerGate$EditRow"
  | 1 => .int
  | _ => .int
abbrev wsX50 : List Cond := u_ws RX5 TX5 3
theorem nmX5 : ∀ a, a < 3 → ∀ b, b < 3 → a ≠ b → (TX5 a).2.1 ≠ (TX5 b).2.1 := by decide +kernel
theorem tyX5_ok : ∀ k, k < 3 → parseFieldDescriptor (TX5 k).2.2.1 = some (tyX5 k) := by decide +kernel
abbrev cX5_init : ByteArray := prog_7_method_1_code
def yX5_init : MethodName := ⟨RX5, "<init>", "()V"⟩
abbrev cX5_keep : ByteArray := prog_7_method_2_code
def yX5_keep : MethodName := ⟨RX5, "keep", "(IILBayerGate$EditRow;)V"⟩
def RX6 : String := "BayerGate"
def TX6 : u_T := fun k => match k with
  | 0 => ("BayerGate", "scene", "LBayerGate$Scene;", true)
  | 1 => ("BayerGate", "sensor", "LBayerGate$Sensor;", true)
  | 2 => ("BayerGate", "frameRow", "[LBayerGate$Frame;", true)
  | 3 => ("BayerGate", "fileRow", "[LBayerGate$StoredFile;", true)
  | 4 => ("BayerGate", "frameCount", "I", false)
  | 5 => ("BayerGate", "fileCount", "I", false)
  | 6 => ("BayerGate", "trial", "LBayerGate$Frame;", true)
  | 7 => ("BayerGate", "developed", "LBayerGate$Picture;", true)
  | _ => ("BayerGate", "compared", "LBayerGate$Picture;", true)
def tyX6 : Nat → FieldType := fun k => match k with
  | 0 => .object "BayerGate$Scene"
  | 1 => .object "BayerGate$Sensor"
  | 2 => .array (.object "BayerGate$Frame")
  | 3 => .array (.object "BayerGate$StoredFile")
  | 4 => .int
  | 5 => .int
  | 6 => .object "BayerGate$Frame"
  | 7 => .object "BayerGate$Picture"
  | _ => .object "BayerGate$Picture"
abbrev wsX60 : List Cond := u_ws RX6 TX6 9
theorem nmX6 : ∀ a, a < 9 → ∀ b, b < 9 → a ≠ b → (TX6 a).2.1 ≠ (TX6 b).2.1 := by decide +kernel
theorem tyX6_ok : ∀ k, k < 9 → parseFieldDescriptor (TX6 k).2.2.1 = some (tyX6 k) := by decide +kernel
abbrev cX6_init : ByteArray := prog_1_method_1_code
def yX6_init : MethodName := ⟨RX6, "<init>", "()V"⟩
abbrev cX6_paint : ByteArray := prog_1_method_2_code
def yX6_paint : MethodName := ⟨RX6, "paint", "(IIIII)I"⟩
abbrev cX6_lamp : ByteArray := prog_1_method_3_code
def yX6_lamp : MethodName := ⟨RX6, "lamp", "(III)I"⟩
abbrev cX6_spoil : ByteArray := prog_1_method_4_code
def yX6_spoil : MethodName := ⟨RX6, "spoil", "(III)I"⟩
abbrev cX6_map : ByteArray := prog_1_method_5_code
def yX6_map : MethodName := ⟨RX6, "map", "(IIZ)I"⟩
abbrev cX6_take : ByteArray := prog_1_method_6_code
def yX6_take : MethodName := ⟨RX6, "take", "(II)I"⟩
abbrev cX6_edit : ByteArray := prog_1_method_8_code
def yX6_edit : MethodName := ⟨RX6, "edit", "(III)I"⟩
abbrev cX6_undo : ByteArray := prog_1_method_9_code
def yX6_undo : MethodName := ⟨RX6, "undo", "(I)I"⟩
abbrev cX6_save : ByteArray := prog_1_method_10_code
def yX6_save : MethodName := ⟨RX6, "save", "(I)I"⟩
abbrev cX6_raw : ByteArray := prog_1_method_11_code
def yX6_raw : MethodName := ⟨RX6, "raw", "(III)I"⟩
abbrev cX6_picture : ByteArray := prog_1_method_12_code
def yX6_picture : MethodName := ⟨RX6, "picture", "(IIII)D"⟩
abbrev cX6_word : ByteArray := prog_1_method_13_code
def yX6_word : MethodName := ⟨RX6, "word", "(I)I"⟩
abbrev cX6_ofFrame : ByteArray := prog_1_method_14_code
def yX6_ofFrame : MethodName := ⟨RX6, "ofFrame", "(II)I"⟩
abbrev cX6_ofEdit : ByteArray := prog_1_method_15_code
def yX6_ofEdit : MethodName := ⟨RX6, "ofEdit", "(III)I"⟩
abbrev cX6_zone : ByteArray := prog_1_method_16_code
def yX6_zone : MethodName := ⟨RX6, "zone", "(II)D"⟩
abbrev cX6_meter : ByteArray := prog_1_method_17_code
def yX6_meter : MethodName := ⟨RX6, "meter", "(I)D"⟩
abbrev cX6_ofFile : ByteArray := prog_1_method_18_code
def yX6_ofFile : MethodName := ⟨RX6, "ofFile", "(II)I"⟩
abbrev cX6_ofPlace : ByteArray := prog_1_method_19_code
def yX6_ofPlace : MethodName := ⟨RX6, "ofPlace", "(III)I"⟩
abbrev cX6_many : ByteArray := prog_1_method_20_code
def yX6_many : MethodName := ⟨RX6, "many", "(I)I"⟩
abbrev cX6_apart : ByteArray := prog_1_method_21_code
def yX6_apart : MethodName := ⟨RX6, "apart", "(II)D"⟩
abbrev cX6_wouldClip : ByteArray := prog_1_method_22_code
def yX6_wouldClip : MethodName := ⟨RX6, "wouldClip", "(II)I"⟩
abbrev cX6_bestTake : ByteArray := prog_1_method_23_code
def yX6_bestTake : MethodName := ⟨RX6, "bestTake", "(I)I"⟩
abbrev cX6_bestWhite : ByteArray := prog_1_method_24_code
def yX6_bestWhite : MethodName := ⟨RX6, "bestWhite", "(II)I"⟩
abbrev cX6_digest : ByteArray := prog_1_method_25_code
def yX6_digest : MethodName := ⟨RX6, "digest", "()J"⟩
abbrev cX6_needIndex : ByteArray := prog_1_method_26_code
def yX6_needIndex : MethodName := ⟨RX6, "needIndex", "(II)V"⟩
abbrev cX6_needPlace : ByteArray := prog_1_method_27_code
def yX6_needPlace : MethodName := ⟨RX6, "needPlace", "(II)V"⟩
abbrev cX6_needFrame : ByteArray := prog_1_method_28_code
def yX6_needFrame : MethodName := ⟨RX6, "needFrame", "(I)V"⟩
abbrev cX6_needRange : ByteArray := prog_1_method_29_code
def yX6_needRange : MethodName := ⟨RX6, "needRange", "(III)V"⟩
abbrev cX6_needExposure : ByteArray := prog_1_method_30_code
def yX6_needExposure : MethodName := ⟨RX6, "needExposure", "(II)V"⟩
abbrev cX6_needRoom : ByteArray := prog_1_method_31_code
def yX6_needRoom : MethodName := ⟨RX6, "needRoom", "(II)V"⟩
abbrev cX6_isPlace : ByteArray := prog_1_method_32_code
def yX6_isPlace : MethodName := ⟨RX6, "isPlace", "(II)Z"⟩
abbrev cX6_placeOf : ByteArray := prog_1_method_33_code
def yX6_placeOf : MethodName := ⟨RX6, "placeOf", "(II)I"⟩
abbrev cX6_colourSeen : ByteArray := prog_1_method_34_code
def yX6_colourSeen : MethodName := ⟨RX6, "colourSeen", "(II)I"⟩
abbrev cX6_leastNumber : ByteArray := prog_1_method_35_code
def yX6_leastNumber : MethodName := ⟨RX6, "leastNumber", "(I)I"⟩
abbrev cX6_mostNumber : ByteArray := prog_1_method_36_code
def yX6_mostNumber : MethodName := ⟨RX6, "mostNumber", "(I)I"⟩
abbrev cX6_countFilesOf : ByteArray := prog_1_method_37_code
def yX6_countFilesOf : MethodName := ⟨RX6, "countFilesOf", "(I)I"⟩
abbrev cX6_countEdits : ByteArray := prog_1_method_38_code
def yX6_countEdits : MethodName := ⟨RX6, "countEdits", "()I"⟩
abbrev cX6_developFrame : ByteArray := prog_1_method_39_code
def yX6_developFrame : MethodName := ⟨RX6, "developFrame", "(ILBayerGate$Picture;)V"⟩
abbrev cX6_wordBehind : ByteArray := prog_1_method_40_code
def yX6_wordBehind : MethodName := ⟨RX6, "wordBehind", "(ILBayerGate$EditRow;)I"⟩
abbrev cX6_smallestOf : ByteArray := prog_1_method_41_code
def yX6_smallestOf : MethodName := ⟨RX6, "smallestOf", "(I)I"⟩
abbrev cX6_isIn : ByteArray := prog_1_method_42_code
def yX6_isIn : MethodName := ⟨RX6, "isIn", "(II)Z"⟩
abbrev cX6_putTogether : ByteArray := prog_1_method_43_code
def yX6_putTogether : MethodName := ⟨RX6, "putTogether", "(IILBayerGate$Frame;)V"⟩
def wsX0_init : List Cond := .code yX0_init cX0_init 1 none :: ([.methodLink RX0 3 objectInit, .instanceMethod objectInit, .code objectInit ⟨#[0xb1]⟩ 1 none, .arrayClass .int, .fieldLink RX0 9 "BayerGate$EditRow" "kinds" "[I", .fieldLink RX0 15 "BayerGate$EditRow" "numbers" "[I", .fieldLink RX0 18 "BayerGate$EditRow" "length" "I"] ++ wsX00)
def wsX0_count : List Cond := .code yX0_count cX0_count 1 (some .int) :: ([.fieldLink RX0 18 "BayerGate$EditRow" "length" "I"] ++ wsX00)
def wsX0_append : List Cond := .code yX0_append cX0_append 3 none :: ([.fieldLink RX0 18 "BayerGate$EditRow" "length" "I", .fieldLink RX0 9 "BayerGate$EditRow" "kinds" "[I", .fieldLink RX0 15 "BayerGate$EditRow" "numbers" "[I"] ++ wsX00)
def wsX0_takeBack : List Cond := .code yX0_takeBack cX0_takeBack 1 (some .int) :: ([.fieldLink RX0 18 "BayerGate$EditRow" "length" "I", .fieldLink RX0 9 "BayerGate$EditRow" "kinds" "[I"] ++ wsX00)
def wsX0_copyFrom : List Cond := .code yX0_copyFrom cX0_copyFrom 3 none :: ([.fieldLink RX0 9 "BayerGate$EditRow" "kinds" "[I", .fieldLink RX0 15 "BayerGate$EditRow" "numbers" "[I", .fieldLink RX0 18 "BayerGate$EditRow" "length" "I"] ++ wsX00)
def wsX0_hasMend : List Cond := .code yX0_hasMend cX0_hasMend 2 (some .boolean) :: ([.fieldLink RX0 18 "BayerGate$EditRow" "length" "I", .fieldLink RX0 9 "BayerGate$EditRow" "kinds" "[I"] ++ wsX00)
def wsX1_init : List Cond := .code yX1_init cX1_init 1 none :: ([.methodLink RX1 3 objectInit, .instanceMethod objectInit, .code objectInit ⟨#[0xb1]⟩ 1 none, .arrayClass .int, .fieldLink RX1 9 "BayerGate$Frame" "rawRow" "[I", .classLink RX1 15 RX0, .instantiable RX0 3, .initialized RX0, .fieldLink RX1 18 "BayerGate$Frame" "edits" "LBayerGate$EditRow;", .fieldLink RX1 22 "BayerGate$Frame" "time" "I", .fieldLink RX1 26 "BayerGate$Frame" "gain" "I", .fieldLink RX1 29 "BayerGate$Frame" "ghosts" "I", .instanceMethod yX0_init, .code yX0_init cX0_init 1 none, .methodLink RX0 3 objectInit, .fieldLink RX0 9 "BayerGate$EditRow" "kinds" "[I", .fieldLink RX0 15 "BayerGate$EditRow" "numbers" "[I", .fieldLink RX0 18 "BayerGate$EditRow" "length" "I"] ++ wsX10 ++ wsX00)
def wsX1_countClipped : List Cond := .code yX1_countClipped cX1_countClipped 3 (some .int) :: ([.fieldLink RX1 9 "BayerGate$Frame" "rawRow" "[I"] ++ wsX10)
def wsX6_colourSeen : List Cond := .code yX6_colourSeen cX6_colourSeen 2 (some .int) :: ([])
def wsX6_placeOf : List Cond := .code yX6_placeOf cX6_placeOf 2 (some .int) :: ([])
def wsX1_sharpness : List Cond := .code yX1_sharpness cX1_sharpness 4 (some .int) :: ([.fieldLink RX1 9 "BayerGate$Frame" "rawRow" "[I", .methodLink RX1 39 Lib.Math.abs.name, .static Lib.Math.abs.name, .initialized "java/lang/Math", .code Lib.Math.abs.name Lib.Math.abs.code 1 (some .int), .static yX6_colourSeen, .initialized RX6, .code yX6_colourSeen cX6_colourSeen 2 (some .int), .static yX6_placeOf, .code yX6_placeOf cX6_placeOf 2 (some .int)] ++ wsX10)
def wsX1_sumSeen : List Cond := .code yX1_sumSeen cX1_sumSeen 5 (some .int) :: ([.fieldLink RX1 9 "BayerGate$Frame" "rawRow" "[I", .static yX6_colourSeen, .initialized RX6, .code yX6_colourSeen cX6_colourSeen 2 (some .int), .static yX6_placeOf, .code yX6_placeOf cX6_placeOf 2 (some .int)] ++ wsX10)
def wsX1_whiteOf : List Cond := .code yX1_whiteOf cX1_whiteOf 3 (some .int) :: ([.methodLink RX1 48 Lib.Math.min.name, .static Lib.Math.min.name, .initialized "java/lang/Math", .code Lib.Math.min.name Lib.Math.min.code 2 (some .int), .methodLink RX1 51 Lib.Math.max.name, .static Lib.Math.max.name, .code Lib.Math.max.name Lib.Math.max.code 2 (some .int), .methodLink RX1 45 yX1_sumSeen, .instanceMethod yX1_sumSeen, .selects RX1 yX1_sumSeen yX1_sumSeen, .initialized RX1, .code yX1_sumSeen cX1_sumSeen 5 (some .int), .fieldLink RX1 9 "BayerGate$Frame" "rawRow" "[I", .static yX6_colourSeen, .initialized RX6, .code yX6_colourSeen cX6_colourSeen 2 (some .int), .static yX6_placeOf, .code yX6_placeOf cX6_placeOf 2 (some .int)] ++ wsX10)
def wsX1_meanOfZone : List Cond := .code yX1_meanOfZone cX1_meanOfZone 7 (some .double) :: ([.fieldLink RX1 9 "BayerGate$Frame" "rawRow" "[I", .constantDouble RX1 54 (4620693217682128896), .static yX6_colourSeen, .initialized RX6, .code yX6_colourSeen cX6_colourSeen 2 (some .int), .static yX6_placeOf, .code yX6_placeOf cX6_placeOf 2 (some .int)] ++ wsX10)
def wsX1_meanOfZones : List Cond := .code yX1_meanOfZones cX1_meanOfZones 4 (some .double) :: ([.constantDouble RX1 60 (4616189618054758400), .methodLink RX1 56 yX1_meanOfZone, .instanceMethod yX1_meanOfZone, .selects RX1 yX1_meanOfZone yX1_meanOfZone, .initialized RX1, .code yX1_meanOfZone cX1_meanOfZone 7 (some .double), .fieldLink RX1 9 "BayerGate$Frame" "rawRow" "[I", .constantDouble RX1 54 (4620693217682128896), .static yX6_colourSeen, .initialized RX6, .code yX6_colourSeen cX6_colourSeen 2 (some .int), .static yX6_placeOf, .code yX6_placeOf cX6_placeOf 2 (some .int)] ++ wsX10)
def wsX2_init : List Cond := .code yX2_init cX2_init 1 none :: ([.methodLink RX2 3 objectInit, .instanceMethod objectInit, .code objectInit ⟨#[0xb1]⟩ 1 none, .arrayClass .float, .fieldLink RX2 9 "BayerGate$Picture" "numbers" "[F", .arrayClass .int, .fieldLink RX2 15 "BayerGate$Picture" "mended" "[I"] ++ wsX20)
def wsX2_indexOf : List Cond := .code yX2_indexOf cX2_indexOf 2 (some .int) :: ([])
def wsX6_isPlace : List Cond := .code yX6_isPlace cX6_isPlace 2 (some .boolean) :: ([])
def wsX2_mendedAt : List Cond := .code yX2_mendedAt cX2_mendedAt 10 (some .int) :: ([.static yX6_isPlace, .initialized RX6, .code yX6_isPlace cX6_isPlace 2 (some .boolean), .static yX6_placeOf, .code yX6_placeOf cX6_placeOf 2 (some .int)])
def wsX2_mendAll : List Cond := .code yX2_mendAll cX2_mendAll 8 none :: ([.fieldLink RX2 15 "BayerGate$Picture" "mended" "[I", .static yX6_placeOf, .initialized RX6, .code yX6_placeOf cX6_placeOf 2 (some .int), .methodLink RX2 57 yX2_mendedAt, .static yX2_mendedAt, .initialized RX2, .code yX2_mendedAt cX2_mendedAt 10 (some .int), .static yX6_isPlace, .code yX6_isPlace cX6_isPlace 2 (some .boolean)] ++ wsX20)
def wsX2_meanAround : List Cond := .code yX2_meanAround cX2_meanAround 8 (some .float) :: ([.fieldLink RX2 15 "BayerGate$Picture" "mended" "[I", .static yX6_isPlace, .initialized RX6, .code yX6_isPlace cX6_isPlace 2 (some .boolean), .static yX6_colourSeen, .code yX6_colourSeen cX6_colourSeen 2 (some .int), .static yX6_placeOf, .code yX6_placeOf cX6_placeOf 2 (some .int)] ++ wsX20)
def wsX2_makeWhole : List Cond := .code yX2_makeWhole cX2_makeWhole 7 none :: ([.fieldLink RX2 15 "BayerGate$Picture" "mended" "[I", .fieldLink RX2 9 "BayerGate$Picture" "numbers" "[F", .static yX6_placeOf, .initialized RX6, .code yX6_placeOf cX6_placeOf 2 (some .int), .static yX6_colourSeen, .code yX6_colourSeen cX6_colourSeen 2 (some .int), .methodLink RX2 68 yX2_meanAround, .instanceMethod yX2_meanAround, .selects RX2 yX2_meanAround yX2_meanAround, .initialized RX2, .code yX2_meanAround cX2_meanAround 8 (some .float), .static yX6_isPlace, .code yX6_isPlace cX6_isPlace 2 (some .boolean), .methodLink RX2 49 yX2_indexOf, .static yX2_indexOf, .code yX2_indexOf cX2_indexOf 2 (some .int)] ++ wsX20)
def wsX2_darken : List Cond := .code yX2_darken cX2_darken 4 none :: ([.fieldLink RX2 9 "BayerGate$Picture" "numbers" "[F"] ++ wsX20)
def wsX2_scaleColour : List Cond := .code yX2_scaleColour cX2_scaleColour 4 none :: ([.fieldLink RX2 9 "BayerGate$Picture" "numbers" "[F", .methodLink RX2 49 yX2_indexOf, .static yX2_indexOf, .initialized RX2, .code yX2_indexOf cX2_indexOf 2 (some .int)] ++ wsX20)
def wsX2_changeTone : List Cond := .code yX2_changeTone cX2_changeTone 3 none :: ([.fieldLink RX2 9 "BayerGate$Picture" "numbers" "[F", .constantFloat RX2 87 (1056964608), .constantFloat RX2 53 (1132396544)] ++ wsX20)
def wsX2_turnOver : List Cond := .code yX2_turnOver cX2_turnOver 7 none :: ([.fieldLink RX2 9 "BayerGate$Picture" "numbers" "[F", .static yX6_placeOf, .initialized RX6, .code yX6_placeOf cX6_placeOf 2 (some .int), .methodLink RX2 49 yX2_indexOf, .static yX2_indexOf, .initialized RX2, .code yX2_indexOf cX2_indexOf 2 (some .int)] ++ wsX20)
def wsX2_applyEdit_r1 : List Cond := [Cond.constantFloat RX2 76 (1082130432), Cond.methodLink RX2 72 yX2_darken, Cond.instanceMethod yX2_darken, Cond.selects RX2 yX2_darken yX2_darken, Cond.initialized RX2, Cond.code yX2_darken cX2_darken 4 none, Cond.fieldLink RX2 9 "BayerGate$Picture" "numbers" "[F", Cond.methodLink RX2 77 yX2_scaleColour, Cond.instanceMethod yX2_scaleColour, Cond.selects RX2 yX2_scaleColour yX2_scaleColour, Cond.code yX2_scaleColour cX2_scaleColour 4 none, Cond.methodLink RX2 49 yX2_indexOf, Cond.static yX2_indexOf, Cond.code yX2_indexOf cX2_indexOf 2 (some .int), Cond.methodLink RX2 81 yX2_changeTone, Cond.instanceMethod yX2_changeTone, Cond.selects RX2 yX2_changeTone yX2_changeTone, Cond.code yX2_changeTone cX2_changeTone 3 none, Cond.constantFloat RX2 87 (1056964608), Cond.constantFloat RX2 53 (1132396544), Cond.methodLink RX2 84 yX2_turnOver, Cond.instanceMethod yX2_turnOver, Cond.selects RX2 yX2_turnOver yX2_turnOver, Cond.code yX2_turnOver cX2_turnOver 7 none]
def wsX2_applyEdit_r2 : List Cond := [Cond.static yX6_placeOf, Cond.initialized RX6, Cond.code yX6_placeOf cX6_placeOf 2 (some .int)]
def wsX2_applyEdit : List Cond := .code yX2_applyEdit cX2_applyEdit 3 none :: ((wsX2_applyEdit_r1 ++ wsX2_applyEdit_r2) ++ wsX20)
def wsX2_compose_r1 : List Cond := [Cond.methodLink RX2 19 yX0_hasMend, Cond.instanceMethod yX0_hasMend, Cond.selects RX0 yX0_hasMend yX0_hasMend, Cond.initialized RX0, Cond.code yX0_hasMend cX0_hasMend 2 (some .boolean), Cond.fieldLink RX0 18 "BayerGate$EditRow" "length" "I", Cond.fieldLink RX0 9 "BayerGate$EditRow" "kinds" "[I", Cond.methodLink RX2 25 yX2_mendAll, Cond.instanceMethod yX2_mendAll, Cond.selects RX2 yX2_mendAll yX2_mendAll, Cond.initialized RX2, Cond.code yX2_mendAll cX2_mendAll 8 none, Cond.fieldLink RX2 15 "BayerGate$Picture" "mended" "[I", Cond.static yX6_placeOf, Cond.initialized RX6, Cond.code yX6_placeOf cX6_placeOf 2 (some .int), Cond.methodLink RX2 57 yX2_mendedAt, Cond.static yX2_mendedAt, Cond.code yX2_mendedAt cX2_mendedAt 10 (some .int), Cond.static yX6_isPlace, Cond.code yX6_isPlace cX6_isPlace 2 (some .boolean), Cond.methodLink RX2 29 yX2_makeWhole, Cond.instanceMethod yX2_makeWhole, Cond.selects RX2 yX2_makeWhole yX2_makeWhole]
def wsX2_compose_r2 : List Cond := [Cond.code yX2_makeWhole cX2_makeWhole 7 none, Cond.fieldLink RX2 9 "BayerGate$Picture" "numbers" "[F", Cond.static yX6_colourSeen, Cond.code yX6_colourSeen cX6_colourSeen 2 (some .int), Cond.methodLink RX2 68 yX2_meanAround, Cond.instanceMethod yX2_meanAround, Cond.selects RX2 yX2_meanAround yX2_meanAround, Cond.code yX2_meanAround cX2_meanAround 8 (some .float), Cond.methodLink RX2 49 yX2_indexOf, Cond.static yX2_indexOf, Cond.code yX2_indexOf cX2_indexOf 2 (some .int), Cond.methodLink RX2 32 yX0_count, Cond.instanceMethod yX0_count, Cond.selects RX0 yX0_count yX0_count, Cond.code yX0_count cX0_count 1 (some .int), Cond.methodLink RX2 41 yX2_applyEdit, Cond.instanceMethod yX2_applyEdit, Cond.selects RX2 yX2_applyEdit yX2_applyEdit, Cond.code yX2_applyEdit cX2_applyEdit 3 none, Cond.constantFloat RX2 76 (1082130432), Cond.methodLink RX2 72 yX2_darken, Cond.instanceMethod yX2_darken, Cond.selects RX2 yX2_darken yX2_darken, Cond.code yX2_darken cX2_darken 4 none]
def wsX2_compose_r3 : List Cond := [Cond.methodLink RX2 77 yX2_scaleColour, Cond.instanceMethod yX2_scaleColour, Cond.selects RX2 yX2_scaleColour yX2_scaleColour, Cond.code yX2_scaleColour cX2_scaleColour 4 none, Cond.methodLink RX2 81 yX2_changeTone, Cond.instanceMethod yX2_changeTone, Cond.selects RX2 yX2_changeTone yX2_changeTone, Cond.code yX2_changeTone cX2_changeTone 3 none, Cond.constantFloat RX2 87 (1056964608), Cond.constantFloat RX2 53 (1132396544), Cond.methodLink RX2 84 yX2_turnOver, Cond.instanceMethod yX2_turnOver, Cond.selects RX2 yX2_turnOver yX2_turnOver, Cond.code yX2_turnOver cX2_turnOver 7 none]
def wsX2_compose : List Cond := .code yX2_compose cX2_compose 5 none :: ((wsX2_compose_r1 ++ (wsX2_compose_r2 ++ wsX2_compose_r3)) ++ wsX00 ++ wsX20)
def wsX2_bounded : List Cond := .code yX2_bounded cX2_bounded 1 (some .float) :: ([.constantFloat RX2 53 (1132396544)])
def wsX2_bound : List Cond := .code yX2_bound cX2_bound 2 none :: ([.fieldLink RX2 9 "BayerGate$Picture" "numbers" "[F", .methodLink RX2 45 yX2_bounded, .static yX2_bounded, .initialized RX2, .code yX2_bounded cX2_bounded 1 (some .float), .constantFloat RX2 53 (1132396544)] ++ wsX20)
def wsX2_sumUp : List Cond := .code yX2_sumUp cX2_sumUp 3 (some .int) :: ([.fieldLink RX2 9 "BayerGate$Picture" "numbers" "[F"] ++ wsX20)
def wsX2_sumTones : List Cond := .code yX2_sumTones cX2_sumTones 5 (some .int) :: ([.fieldLink RX2 9 "BayerGate$Picture" "numbers" "[F", .methodLink RX2 49 yX2_indexOf, .static yX2_indexOf, .initialized RX2, .code yX2_indexOf cX2_indexOf 2 (some .int), .methodLink RX2 45 yX2_bounded, .static yX2_bounded, .code yX2_bounded cX2_bounded 1 (some .float), .constantFloat RX2 53 (1132396544)] ++ wsX20)
def wsX2_farthestFrom : List Cond := .code yX2_farthestFrom cX2_farthestFrom 5 (some .float) :: ([.fieldLink RX2 9 "BayerGate$Picture" "numbers" "[F"] ++ wsX20)
def wsX3_init : List Cond := .code yX3_init cX3_init 2 none :: ([.methodLink RX3 3 objectInit, .instanceMethod objectInit, .code objectInit ⟨#[0xb1]⟩ 1 none, .arrayClass .int, .fieldLink RX3 9 "BayerGate$Scene" "shades" "[I", .arrayClass .float, .fieldLink RX3 15 "BayerGate$Scene" "factors" "[F", .fieldLink RX3 19 "BayerGate$Scene" "quartersOfGreen" "I"] ++ wsX30)
def wsX3_colourPlace : List Cond := .code yX3_colourPlace cX3_colourPlace 5 none :: ([.fieldLink RX3 9 "BayerGate$Scene" "shades" "[I"] ++ wsX30)
def wsX3_shade : List Cond := .code yX3_shade cX3_shade 3 (some .int) :: ([.fieldLink RX3 9 "BayerGate$Scene" "shades" "[I"] ++ wsX30)
def wsX3_light : List Cond := .code yX3_light cX3_light 4 none :: ([.fieldLink RX3 15 "BayerGate$Scene" "factors" "[F", .constantFloat RX3 23 (1082130432), .fieldLink RX3 19 "BayerGate$Scene" "quartersOfGreen" "I"] ++ wsX30)
def wsX3_greenQuarters : List Cond := .code yX3_greenQuarters cX3_greenQuarters 1 (some .int) :: ([.fieldLink RX3 19 "BayerGate$Scene" "quartersOfGreen" "I"] ++ wsX30)
def wsX3_lightAt : List Cond := .code yX3_lightAt cX3_lightAt 4 (some .float) :: ([.fieldLink RX3 15 "BayerGate$Scene" "factors" "[F", .constantFloat RX3 28 (1098907648), .methodLink RX3 24 yX3_shade, .instanceMethod yX3_shade, .selects RX3 yX3_shade yX3_shade, .initialized RX3, .code yX3_shade cX3_shade 3 (some .int), .fieldLink RX3 9 "BayerGate$Scene" "shades" "[I"] ++ wsX30)
def wsX4_init : List Cond := .code yX4_init cX4_init 1 none :: ([.methodLink RX4 3 objectInit, .instanceMethod objectInit, .code objectInit ⟨#[0xb1]⟩ 1 none, .arrayClass .int, .fieldLink RX4 9 "BayerGate$Sensor" "hows" "[I", .arrayClass .boolean, .fieldLink RX4 15 "BayerGate$Sensor" "mapped" "[Z", .fieldLink RX4 19 "BayerGate$Sensor" "draw" "I"] ++ wsX40)
def wsX4_howIs : List Cond := .code yX4_howIs cX4_howIs 2 (some .int) :: ([.fieldLink RX4 9 "BayerGate$Sensor" "hows" "[I"] ++ wsX40)
def wsX4_setHow : List Cond := .code yX4_setHow cX4_setHow 3 none :: ([.fieldLink RX4 9 "BayerGate$Sensor" "hows" "[I"] ++ wsX40)
def wsX4_isMapped : List Cond := .code yX4_isMapped cX4_isMapped 2 (some .boolean) :: ([.fieldLink RX4 15 "BayerGate$Sensor" "mapped" "[Z"] ++ wsX40)
def wsX4_setMapped : List Cond := .code yX4_setMapped cX4_setMapped 3 none :: ([.fieldLink RX4 15 "BayerGate$Sensor" "mapped" "[Z"] ++ wsX40)
def wsX4_countMapped : List Cond := .code yX4_countMapped cX4_countMapped 3 (some .int) :: ([.fieldLink RX4 15 "BayerGate$Sensor" "mapped" "[Z"] ++ wsX40)
def wsX4_countSpoilt : List Cond := .code yX4_countSpoilt cX4_countSpoilt 4 (some .int) :: ([.fieldLink RX4 9 "BayerGate$Sensor" "hows" "[I", .fieldLink RX4 15 "BayerGate$Sensor" "mapped" "[Z"] ++ wsX40)
def wsX4_advance : List Cond := .code yX4_advance cX4_advance 2 none :: ([.fieldLink RX4 19 "BayerGate$Sensor" "draw" "I"] ++ wsX40)
def wsX4_rawOf : List Cond := .code yX4_rawOf cX4_rawOf 5 (some .int) :: ([.methodLink RX4 51 Lib.Math.min.name, .static Lib.Math.min.name, .initialized "java/lang/Math", .code Lib.Math.min.name Lib.Math.min.code 2 (some .int), .methodLink RX4 56 Lib.Math.max.name, .static Lib.Math.max.name, .code Lib.Math.max.name Lib.Math.max.code 2 (some .int)])
def wsX4_expose_r1 : List Cond := [Cond.fieldLink RX4 19 "BayerGate$Sensor" "draw" "I", Cond.fieldLink RX4 9 "BayerGate$Sensor" "hows" "[I", Cond.static yX6_placeOf, Cond.initialized RX6, Cond.code yX6_placeOf cX6_placeOf 2 (some .int), Cond.static yX6_colourSeen, Cond.code yX6_colourSeen cX6_colourSeen 2 (some .int), Cond.methodLink RX4 30 yX3_lightAt, Cond.instanceMethod yX3_lightAt, Cond.selects RX3 yX3_lightAt yX3_lightAt, Cond.initialized RX3, Cond.code yX3_lightAt cX3_lightAt 4 (some .float), Cond.fieldLink RX3 15 "BayerGate$Scene" "factors" "[F", Cond.constantFloat RX3 28 (1098907648), Cond.methodLink RX3 24 yX3_shade, Cond.instanceMethod yX3_shade, Cond.selects RX3 yX3_shade yX3_shade, Cond.code yX3_shade cX3_shade 3 (some .int), Cond.fieldLink RX3 9 "BayerGate$Scene" "shades" "[I", Cond.methodLink RX4 41 yX4_rawOf, Cond.static yX4_rawOf, Cond.initialized RX4, Cond.code yX4_rawOf cX4_rawOf 5 (some .int), Cond.methodLink RX4 51 Lib.Math.min.name]
def wsX4_expose_r2 : List Cond := [Cond.static Lib.Math.min.name, Cond.initialized "java/lang/Math", Cond.code Lib.Math.min.name Lib.Math.min.code 2 (some .int), Cond.methodLink RX4 56 Lib.Math.max.name, Cond.static Lib.Math.max.name, Cond.code Lib.Math.max.name Lib.Math.max.code 2 (some .int)]
def wsX4_expose : List Cond := .code yX4_expose cX4_expose 10 (some .int) :: ((wsX4_expose_r1 ++ wsX4_expose_r2) ++ wsX40 ++ wsX10 ++ wsX30)
def wsX5_init : List Cond := .code yX5_init cX5_init 1 none :: ([.methodLink RX5 1 objectInit, .instanceMethod objectInit, .code objectInit ⟨#[0xb1]⟩ 1 none, .classLink RX5 7 RX0, .instantiable RX0 3, .initialized RX0, .fieldLink RX5 10 "BayerGate$StoredFile" "edits" "LBayerGate$EditRow;", .fieldLink RX5 16 "BayerGate$StoredFile" "frame" "I", .fieldLink RX5 20 "BayerGate$StoredFile" "version" "I", .instanceMethod yX0_init, .code yX0_init cX0_init 1 none, .methodLink RX0 3 objectInit, .arrayClass .int, .fieldLink RX0 9 "BayerGate$EditRow" "kinds" "[I", .fieldLink RX0 15 "BayerGate$EditRow" "numbers" "[I", .fieldLink RX0 18 "BayerGate$EditRow" "length" "I"] ++ wsX00 ++ wsX50)
def wsX5_keep : List Cond := .code yX5_keep cX5_keep 4 none :: ([.fieldLink RX5 16 "BayerGate$StoredFile" "frame" "I", .fieldLink RX5 20 "BayerGate$StoredFile" "version" "I", .fieldLink RX5 10 "BayerGate$StoredFile" "edits" "LBayerGate$EditRow;", .methodLink RX5 23 yX0_copyFrom, .instanceMethod yX0_copyFrom, .selects RX0 yX0_copyFrom yX0_copyFrom, .initialized RX0, .code yX0_copyFrom cX0_copyFrom 3 none, .fieldLink RX0 9 "BayerGate$EditRow" "kinds" "[I", .fieldLink RX0 15 "BayerGate$EditRow" "numbers" "[I", .fieldLink RX0 18 "BayerGate$EditRow" "length" "I"] ++ wsX50 ++ wsX00)
def wsX6_init_r1 : List Cond := [Cond.methodLink RX6 3 objectInit, Cond.instanceMethod objectInit, Cond.code objectInit ⟨#[0xb1]⟩ 1 none, Cond.classLink RX6 9 RX3, Cond.instantiable RX3 3, Cond.initialized RX3, Cond.fieldLink RX6 12 "BayerGate" "scene" "LBayerGate$Scene;", Cond.classLink RX6 16 RX4, Cond.instantiable RX4 3, Cond.initialized RX4, Cond.fieldLink RX6 19 "BayerGate" "sensor" "LBayerGate$Sensor;", Cond.classLink RX6 23 RX1, Cond.fieldLink RX6 25 "BayerGate" "frameRow" "[LBayerGate$Frame;", Cond.classLink RX6 29 RX5, Cond.fieldLink RX6 31 "BayerGate" "fileRow" "[LBayerGate$StoredFile;", Cond.fieldLink RX6 35 "BayerGate" "frameCount" "I", Cond.fieldLink RX6 39 "BayerGate" "fileCount" "I", Cond.instantiable RX1 5, Cond.initialized RX1, Cond.fieldLink RX6 43 "BayerGate" "trial" "LBayerGate$Frame;", Cond.classLink RX6 47 RX2, Cond.instantiable RX2 2, Cond.initialized RX2, Cond.fieldLink RX6 50 "BayerGate" "developed" "LBayerGate$Picture;"]
def wsX6_init_r2 : List Cond := [Cond.fieldLink RX6 54 "BayerGate" "compared" "LBayerGate$Picture;", Cond.instantiable RX5 3, Cond.initialized RX5, Cond.methodLink RX6 11 yX3_init, Cond.instanceMethod yX3_init, Cond.code yX3_init cX3_init 2 none, Cond.methodLink RX3 3 objectInit, Cond.arrayClass .int, Cond.fieldLink RX3 9 "BayerGate$Scene" "shades" "[I", Cond.arrayClass .float, Cond.fieldLink RX3 15 "BayerGate$Scene" "factors" "[F", Cond.fieldLink RX3 19 "BayerGate$Scene" "quartersOfGreen" "I", Cond.instanceMethod yX4_init, Cond.code yX4_init cX4_init 1 none, Cond.methodLink RX4 3 objectInit, Cond.fieldLink RX4 9 "BayerGate$Sensor" "hows" "[I", Cond.arrayClass .boolean, Cond.fieldLink RX4 15 "BayerGate$Sensor" "mapped" "[Z", Cond.fieldLink RX4 19 "BayerGate$Sensor" "draw" "I", Cond.instanceMethod yX1_init, Cond.code yX1_init cX1_init 1 none, Cond.methodLink RX1 3 objectInit, Cond.fieldLink RX1 9 "BayerGate$Frame" "rawRow" "[I", Cond.classLink RX1 15 RX0]
def wsX6_init_r3 : List Cond := [Cond.instantiable RX0 3, Cond.initialized RX0, Cond.fieldLink RX1 18 "BayerGate$Frame" "edits" "LBayerGate$EditRow;", Cond.fieldLink RX1 22 "BayerGate$Frame" "time" "I", Cond.fieldLink RX1 26 "BayerGate$Frame" "gain" "I", Cond.fieldLink RX1 29 "BayerGate$Frame" "ghosts" "I", Cond.instanceMethod yX0_init, Cond.code yX0_init cX0_init 1 none, Cond.methodLink RX0 3 objectInit, Cond.fieldLink RX0 9 "BayerGate$EditRow" "kinds" "[I", Cond.fieldLink RX0 15 "BayerGate$EditRow" "numbers" "[I", Cond.fieldLink RX0 18 "BayerGate$EditRow" "length" "I", Cond.instanceMethod yX2_init, Cond.code yX2_init cX2_init 1 none, Cond.methodLink RX2 3 objectInit, Cond.fieldLink RX2 9 "BayerGate$Picture" "numbers" "[F", Cond.fieldLink RX2 15 "BayerGate$Picture" "mended" "[I", Cond.instanceMethod yX5_init, Cond.code yX5_init cX5_init 1 none, Cond.methodLink RX5 1 objectInit, Cond.classLink RX5 7 RX0, Cond.fieldLink RX5 10 "BayerGate$StoredFile" "edits" "LBayerGate$EditRow;", Cond.fieldLink RX5 16 "BayerGate$StoredFile" "frame" "I", Cond.fieldLink RX5 20 "BayerGate$StoredFile" "version" "I"]
def wsX6_init : List Cond := .code yX6_init cX6_init 2 none :: ((wsX6_init_r1 ++ (wsX6_init_r2 ++ wsX6_init_r3)) ++ wsX30 ++ wsX60 ++ wsX40 ++ wsX10 ++ wsX20 ++ wsX50 ++ wsX00)
def wsX6_needPlace : List Cond := .code yX6_needPlace cX6_needPlace 2 none :: ([.classLink RX6 284 "java/lang/IndexOutOfBoundsException", .initialized "java/lang/IndexOutOfBoundsException", .methodLink RX6 289 yX6_isPlace, .static yX6_isPlace, .initialized RX6, .code yX6_isPlace cX6_isPlace 2 (some .boolean)] ++ (vx_atS RX6 288 "java/lang/IndexOutOfBoundsException" ["java/lang/RuntimeException", "java/lang/Exception"]).filter goodWord)
def wsX6_needRange : List Cond := .code yX6_needRange cX6_needRange 3 none :: ([.classLink RX6 62 "java/lang/IllegalArgumentException", .initialized "java/lang/IllegalArgumentException"] ++ (vx_atS RX6 66 "java/lang/IllegalArgumentException" ["java/lang/RuntimeException", "java/lang/Exception"]).filter goodWord)
def wsX6_paint_r1 : List Cond := [Cond.classLink RX6 62 "java/lang/IllegalArgumentException", Cond.initialized "java/lang/IllegalArgumentException", Cond.constant RX6 69 (16777215), Cond.fieldLink RX6 12 "BayerGate" "scene" "LBayerGate$Scene;", Cond.methodLink RX6 58 yX6_needPlace, Cond.static yX6_needPlace, Cond.initialized RX6, Cond.code yX6_needPlace cX6_needPlace 2 none, Cond.classLink RX6 284 "java/lang/IndexOutOfBoundsException", Cond.initialized "java/lang/IndexOutOfBoundsException", Cond.methodLink RX6 289 yX6_isPlace, Cond.static yX6_isPlace, Cond.code yX6_isPlace cX6_isPlace 2 (some .boolean), Cond.methodLink RX6 70 yX6_needRange, Cond.static yX6_needRange, Cond.code yX6_needRange cX6_needRange 3 none, Cond.methodLink RX6 74 yX6_placeOf, Cond.static yX6_placeOf, Cond.code yX6_placeOf cX6_placeOf 2 (some .int), Cond.methodLink RX6 78 yX3_colourPlace, Cond.instanceMethod yX3_colourPlace, Cond.selects RX3 yX3_colourPlace yX3_colourPlace, Cond.initialized RX3, Cond.code yX3_colourPlace cX3_colourPlace 5 none]
def wsX6_paint_r2 : List Cond := [Cond.fieldLink RX3 9 "BayerGate$Scene" "shades" "[I"]
def wsX6_paint : List Cond := .code yX6_paint cX6_paint 8 (some .int) :: ((wsX6_paint_r1 ++ wsX6_paint_r2) ++ wsX60 ++ wsX30 ++ (vx_atS RX6 66 "java/lang/IllegalArgumentException" ["java/lang/RuntimeException", "java/lang/Exception"]).filter goodWord ++ (vx_atS RX6 288 "java/lang/IndexOutOfBoundsException" ["java/lang/RuntimeException", "java/lang/Exception"]).filter goodWord)
def wsX6_lamp : List Cond := .code yX6_lamp cX6_lamp 5 (some .int) :: ([.fieldLink RX6 12 "BayerGate" "scene" "LBayerGate$Scene;", .methodLink RX6 70 yX6_needRange, .static yX6_needRange, .initialized RX6, .code yX6_needRange cX6_needRange 3 none, .classLink RX6 62 "java/lang/IllegalArgumentException", .initialized "java/lang/IllegalArgumentException", .methodLink RX6 81 yX3_greenQuarters, .instanceMethod yX3_greenQuarters, .selects RX3 yX3_greenQuarters yX3_greenQuarters, .initialized RX3, .code yX3_greenQuarters cX3_greenQuarters 1 (some .int), .fieldLink RX3 19 "BayerGate$Scene" "quartersOfGreen" "I", .methodLink RX6 85 yX3_light, .instanceMethod yX3_light, .selects RX3 yX3_light yX3_light, .code yX3_light cX3_light 4 none, .fieldLink RX3 15 "BayerGate$Scene" "factors" "[F", .constantFloat RX3 23 (1082130432)] ++ wsX60 ++ wsX30 ++ (vx_atS RX6 66 "java/lang/IllegalArgumentException" ["java/lang/RuntimeException", "java/lang/Exception"]).filter goodWord)
def wsX6_spoil_r1 : List Cond := [Cond.fieldLink RX6 19 "BayerGate" "sensor" "LBayerGate$Sensor;", Cond.methodLink RX6 58 yX6_needPlace, Cond.static yX6_needPlace, Cond.initialized RX6, Cond.code yX6_needPlace cX6_needPlace 2 none, Cond.classLink RX6 284 "java/lang/IndexOutOfBoundsException", Cond.initialized "java/lang/IndexOutOfBoundsException", Cond.methodLink RX6 289 yX6_isPlace, Cond.static yX6_isPlace, Cond.code yX6_isPlace cX6_isPlace 2 (some .boolean), Cond.methodLink RX6 70 yX6_needRange, Cond.static yX6_needRange, Cond.code yX6_needRange cX6_needRange 3 none, Cond.classLink RX6 62 "java/lang/IllegalArgumentException", Cond.initialized "java/lang/IllegalArgumentException", Cond.methodLink RX6 74 yX6_placeOf, Cond.static yX6_placeOf, Cond.code yX6_placeOf cX6_placeOf 2 (some .int), Cond.methodLink RX6 88 yX4_howIs, Cond.instanceMethod yX4_howIs, Cond.selects RX4 yX4_howIs yX4_howIs, Cond.initialized RX4, Cond.code yX4_howIs cX4_howIs 2 (some .int), Cond.fieldLink RX4 9 "BayerGate$Sensor" "hows" "[I"]
def wsX6_spoil_r2 : List Cond := [Cond.methodLink RX6 92 yX4_setHow, Cond.instanceMethod yX4_setHow, Cond.selects RX4 yX4_setHow yX4_setHow, Cond.code yX4_setHow cX4_setHow 3 none]
def wsX6_spoil : List Cond := .code yX6_spoil cX6_spoil 6 (some .int) :: ((wsX6_spoil_r1 ++ wsX6_spoil_r2) ++ wsX60 ++ wsX40 ++ (vx_atS RX6 288 "java/lang/IndexOutOfBoundsException" ["java/lang/RuntimeException", "java/lang/Exception"]).filter goodWord ++ (vx_atS RX6 66 "java/lang/IllegalArgumentException" ["java/lang/RuntimeException", "java/lang/Exception"]).filter goodWord)
def wsX6_map : List Cond := .code yX6_map cX6_map 4 (some .int) :: ([.fieldLink RX6 19 "BayerGate" "sensor" "LBayerGate$Sensor;", .methodLink RX6 58 yX6_needPlace, .static yX6_needPlace, .initialized RX6, .code yX6_needPlace cX6_needPlace 2 none, .classLink RX6 284 "java/lang/IndexOutOfBoundsException", .initialized "java/lang/IndexOutOfBoundsException", .methodLink RX6 289 yX6_isPlace, .static yX6_isPlace, .code yX6_isPlace cX6_isPlace 2 (some .boolean), .methodLink RX6 74 yX6_placeOf, .static yX6_placeOf, .code yX6_placeOf cX6_placeOf 2 (some .int), .methodLink RX6 95 yX4_setMapped, .instanceMethod yX4_setMapped, .selects RX4 yX4_setMapped yX4_setMapped, .initialized RX4, .code yX4_setMapped cX4_setMapped 3 none, .fieldLink RX4 15 "BayerGate$Sensor" "mapped" "[Z", .methodLink RX6 99 yX4_countMapped, .instanceMethod yX4_countMapped, .selects RX4 yX4_countMapped yX4_countMapped, .code yX4_countMapped cX4_countMapped 3 (some .int)] ++ wsX60 ++ wsX40 ++ (vx_atS RX6 288 "java/lang/IndexOutOfBoundsException" ["java/lang/RuntimeException", "java/lang/Exception"]).filter goodWord)
def wsX6_needExposure : List Cond := .code yX6_needExposure cX6_needExposure 2 none :: ([.methodLink RX6 70 yX6_needRange, .static yX6_needRange, .initialized RX6, .code yX6_needRange cX6_needRange 3 none, .classLink RX6 62 "java/lang/IllegalArgumentException", .initialized "java/lang/IllegalArgumentException"] ++ (vx_atS RX6 66 "java/lang/IllegalArgumentException" ["java/lang/RuntimeException", "java/lang/Exception"]).filter goodWord)
def wsX6_needRoom : List Cond := .code yX6_needRoom cX6_needRoom 2 none :: ([.classLink RX6 299 "java/lang/IllegalStateException", .initialized "java/lang/IllegalStateException"] ++ (vx_atS RX6 303 "java/lang/IllegalStateException" ["java/lang/RuntimeException", "java/lang/Exception"]).filter goodWord)
def wsX6_take_r1 : List Cond := [Cond.fieldLink RX6 35 "BayerGate" "frameCount" "I", Cond.fieldLink RX6 19 "BayerGate" "sensor" "LBayerGate$Sensor;", Cond.fieldLink RX6 12 "BayerGate" "scene" "LBayerGate$Scene;", Cond.fieldLink RX6 25 "BayerGate" "frameRow" "[LBayerGate$Frame;", Cond.methodLink RX6 102 yX6_needExposure, Cond.static yX6_needExposure, Cond.initialized RX6, Cond.code yX6_needExposure cX6_needExposure 2 none, Cond.methodLink RX6 70 yX6_needRange, Cond.static yX6_needRange, Cond.code yX6_needRange cX6_needRange 3 none, Cond.classLink RX6 62 "java/lang/IllegalArgumentException", Cond.initialized "java/lang/IllegalArgumentException", Cond.methodLink RX6 105 yX6_needRoom, Cond.static yX6_needRoom, Cond.code yX6_needRoom cX6_needRoom 2 none, Cond.classLink RX6 299 "java/lang/IllegalStateException", Cond.initialized "java/lang/IllegalStateException", Cond.methodLink RX6 108 yX4_expose, Cond.instanceMethod yX4_expose, Cond.selects RX4 yX4_expose yX4_expose, Cond.initialized RX4, Cond.code yX4_expose cX4_expose 10 (some .int), Cond.fieldLink RX4 19 "BayerGate$Sensor" "draw" "I"]
def wsX6_take_r2 : List Cond := [Cond.fieldLink RX4 9 "BayerGate$Sensor" "hows" "[I", Cond.static yX6_placeOf, Cond.code yX6_placeOf cX6_placeOf 2 (some .int), Cond.static yX6_colourSeen, Cond.code yX6_colourSeen cX6_colourSeen 2 (some .int), Cond.methodLink RX4 30 yX3_lightAt, Cond.instanceMethod yX3_lightAt, Cond.selects RX3 yX3_lightAt yX3_lightAt, Cond.initialized RX3, Cond.code yX3_lightAt cX3_lightAt 4 (some .float), Cond.fieldLink RX3 15 "BayerGate$Scene" "factors" "[F", Cond.constantFloat RX3 28 (1098907648), Cond.methodLink RX3 24 yX3_shade, Cond.instanceMethod yX3_shade, Cond.selects RX3 yX3_shade yX3_shade, Cond.code yX3_shade cX3_shade 3 (some .int), Cond.fieldLink RX3 9 "BayerGate$Scene" "shades" "[I", Cond.methodLink RX4 41 yX4_rawOf, Cond.static yX4_rawOf, Cond.code yX4_rawOf cX4_rawOf 5 (some .int), Cond.methodLink RX4 51 Lib.Math.min.name, Cond.static Lib.Math.min.name, Cond.initialized "java/lang/Math", Cond.code Lib.Math.min.name Lib.Math.min.code 2 (some .int)]
def wsX6_take_r3 : List Cond := [Cond.methodLink RX4 56 Lib.Math.max.name, Cond.static Lib.Math.max.name, Cond.code Lib.Math.max.name Lib.Math.max.code 2 (some .int), Cond.methodLink RX6 112 yX4_advance, Cond.instanceMethod yX4_advance, Cond.selects RX4 yX4_advance yX4_advance, Cond.code yX4_advance cX4_advance 2 none]
def wsX6_take : List Cond := .code yX6_take cX6_take 4 (some .int) :: ((wsX6_take_r1 ++ (wsX6_take_r2 ++ wsX6_take_r3)) ++ wsX60 ++ wsX40 ++ wsX10 ++ wsX30 ++ (vx_atS RX6 66 "java/lang/IllegalArgumentException" ["java/lang/RuntimeException", "java/lang/Exception"]).filter goodWord ++ (vx_atS RX6 303 "java/lang/IllegalStateException" ["java/lang/RuntimeException", "java/lang/Exception"]).filter goodWord)
def wsX6_isIn : List Cond := .code yX6_isIn cX6_isIn 2 (some .boolean) :: ([])
def wsX6_smallestOf : List Cond := .code yX6_smallestOf cX6_smallestOf 3 (some .int) :: ([.methodLink RX6 310 yX6_isIn, .static yX6_isIn, .initialized RX6, .code yX6_isIn cX6_isIn 2 (some .boolean)])
def wsX6_putTogether : List Cond := .code yX6_putTogether cX6_putTogether 12 none :: ([.fieldLink RX6 25 "BayerGate" "frameRow" "[LBayerGate$Frame;", .fieldLink RX6 35 "BayerGate" "frameCount" "I", .methodLink RX6 255 Lib.Math.abs.name, .static Lib.Math.abs.name, .initialized "java/lang/Math", .code Lib.Math.abs.name Lib.Math.abs.code 1 (some .int), .methodLink RX6 313 yX6_smallestOf, .instanceMethod yX6_smallestOf, .selects RX6 yX6_smallestOf yX6_smallestOf, .initialized RX6, .code yX6_smallestOf cX6_smallestOf 3 (some .int), .methodLink RX6 310 yX6_isIn, .static yX6_isIn, .code yX6_isIn cX6_isIn 2 (some .boolean)] ++ wsX60 ++ wsX10)
def wsX6_needFrame : List Cond := .code yX6_needFrame cX6_needFrame 2 none :: ([.classLink RX6 284 "java/lang/IndexOutOfBoundsException", .initialized "java/lang/IndexOutOfBoundsException", .fieldLink RX6 35 "BayerGate" "frameCount" "I"] ++ wsX60 ++ (vx_atS RX6 288 "java/lang/IndexOutOfBoundsException" ["java/lang/RuntimeException", "java/lang/Exception"]).filter goodWord)
def wsX6_leastNumber : List Cond := .code yX6_leastNumber cX6_leastNumber 1 (some .int) :: ([])
def wsX6_mostNumber : List Cond := .code yX6_mostNumber cX6_mostNumber 1 (some .int) :: ([])
def wsX6_edit_r1 : List Cond := [Cond.fieldLink RX6 25 "BayerGate" "frameRow" "[LBayerGate$Frame;", Cond.methodLink RX6 127 yX6_needFrame, Cond.instanceMethod yX6_needFrame, Cond.selects RX6 yX6_needFrame yX6_needFrame, Cond.initialized RX6, Cond.code yX6_needFrame cX6_needFrame 2 none, Cond.classLink RX6 284 "java/lang/IndexOutOfBoundsException", Cond.initialized "java/lang/IndexOutOfBoundsException", Cond.fieldLink RX6 35 "BayerGate" "frameCount" "I", Cond.methodLink RX6 70 yX6_needRange, Cond.static yX6_needRange, Cond.code yX6_needRange cX6_needRange 3 none, Cond.classLink RX6 62 "java/lang/IllegalArgumentException", Cond.initialized "java/lang/IllegalArgumentException", Cond.methodLink RX6 130 yX6_leastNumber, Cond.static yX6_leastNumber, Cond.code yX6_leastNumber cX6_leastNumber 1 (some .int), Cond.methodLink RX6 133 yX6_mostNumber, Cond.static yX6_mostNumber, Cond.code yX6_mostNumber cX6_mostNumber 1 (some .int), Cond.methodLink RX6 140 yX0_count, Cond.instanceMethod yX0_count, Cond.selects RX0 yX0_count yX0_count, Cond.initialized RX0]
def wsX6_edit_r2 : List Cond := [Cond.code yX0_count cX0_count 1 (some .int), Cond.fieldLink RX0 18 "BayerGate$EditRow" "length" "I", Cond.methodLink RX6 105 yX6_needRoom, Cond.static yX6_needRoom, Cond.code yX6_needRoom cX6_needRoom 2 none, Cond.classLink RX6 299 "java/lang/IllegalStateException", Cond.initialized "java/lang/IllegalStateException", Cond.methodLink RX6 145 yX0_append, Cond.instanceMethod yX0_append, Cond.selects RX0 yX0_append yX0_append, Cond.code yX0_append cX0_append 3 none, Cond.fieldLink RX0 9 "BayerGate$EditRow" "kinds" "[I", Cond.fieldLink RX0 15 "BayerGate$EditRow" "numbers" "[I"]
def wsX6_edit : List Cond := .code yX6_edit cX6_edit 5 (some .int) :: ((wsX6_edit_r1 ++ wsX6_edit_r2) ++ wsX60 ++ wsX10 ++ wsX00 ++ (vx_atS RX6 288 "java/lang/IndexOutOfBoundsException" ["java/lang/RuntimeException", "java/lang/Exception"]).filter goodWord ++ (vx_atS RX6 66 "java/lang/IllegalArgumentException" ["java/lang/RuntimeException", "java/lang/Exception"]).filter goodWord ++ (vx_atS RX6 303 "java/lang/IllegalStateException" ["java/lang/RuntimeException", "java/lang/Exception"]).filter goodWord)
def wsX6_undo : List Cond := .code yX6_undo cX6_undo 2 (some .int) :: ([.fieldLink RX6 25 "BayerGate" "frameRow" "[LBayerGate$Frame;", .methodLink RX6 127 yX6_needFrame, .instanceMethod yX6_needFrame, .selects RX6 yX6_needFrame yX6_needFrame, .initialized RX6, .code yX6_needFrame cX6_needFrame 2 none, .classLink RX6 284 "java/lang/IndexOutOfBoundsException", .initialized "java/lang/IndexOutOfBoundsException", .fieldLink RX6 35 "BayerGate" "frameCount" "I", .methodLink RX6 148 yX0_takeBack, .instanceMethod yX0_takeBack, .selects RX0 yX0_takeBack yX0_takeBack, .initialized RX0, .code yX0_takeBack cX0_takeBack 1 (some .int), .fieldLink RX0 18 "BayerGate$EditRow" "length" "I", .fieldLink RX0 9 "BayerGate$EditRow" "kinds" "[I"] ++ wsX60 ++ wsX10 ++ wsX00 ++ (vx_atS RX6 288 "java/lang/IndexOutOfBoundsException" ["java/lang/RuntimeException", "java/lang/Exception"]).filter goodWord)
def wsX6_countFilesOf : List Cond := .code yX6_countFilesOf cX6_countFilesOf 4 (some .int) :: ([.fieldLink RX6 39 "BayerGate" "fileCount" "I", .fieldLink RX6 31 "BayerGate" "fileRow" "[LBayerGate$StoredFile;"] ++ wsX60 ++ wsX50)
def wsX6_save_r1 : List Cond := [Cond.fieldLink RX6 39 "BayerGate" "fileCount" "I", Cond.fieldLink RX6 31 "BayerGate" "fileRow" "[LBayerGate$StoredFile;", Cond.fieldLink RX6 25 "BayerGate" "frameRow" "[LBayerGate$Frame;", Cond.methodLink RX6 127 yX6_needFrame, Cond.instanceMethod yX6_needFrame, Cond.selects RX6 yX6_needFrame yX6_needFrame, Cond.initialized RX6, Cond.code yX6_needFrame cX6_needFrame 2 none, Cond.classLink RX6 284 "java/lang/IndexOutOfBoundsException", Cond.initialized "java/lang/IndexOutOfBoundsException", Cond.fieldLink RX6 35 "BayerGate" "frameCount" "I", Cond.methodLink RX6 105 yX6_needRoom, Cond.static yX6_needRoom, Cond.code yX6_needRoom cX6_needRoom 2 none, Cond.classLink RX6 299 "java/lang/IllegalStateException", Cond.initialized "java/lang/IllegalStateException", Cond.methodLink RX6 151 yX6_countFilesOf, Cond.instanceMethod yX6_countFilesOf, Cond.selects RX6 yX6_countFilesOf yX6_countFilesOf, Cond.code yX6_countFilesOf cX6_countFilesOf 4 (some .int), Cond.methodLink RX6 154 yX5_keep, Cond.instanceMethod yX5_keep, Cond.selects RX5 yX5_keep yX5_keep, Cond.initialized RX5]
def wsX6_save_r2 : List Cond := [Cond.code yX5_keep cX5_keep 4 none, Cond.fieldLink RX5 16 "BayerGate$StoredFile" "frame" "I", Cond.fieldLink RX5 20 "BayerGate$StoredFile" "version" "I", Cond.fieldLink RX5 10 "BayerGate$StoredFile" "edits" "LBayerGate$EditRow;", Cond.methodLink RX5 23 yX0_copyFrom, Cond.instanceMethod yX0_copyFrom, Cond.selects RX0 yX0_copyFrom yX0_copyFrom, Cond.initialized RX0, Cond.code yX0_copyFrom cX0_copyFrom 3 none, Cond.fieldLink RX0 9 "BayerGate$EditRow" "kinds" "[I", Cond.fieldLink RX0 15 "BayerGate$EditRow" "numbers" "[I", Cond.fieldLink RX0 18 "BayerGate$EditRow" "length" "I"]
def wsX6_save : List Cond := .code yX6_save cX6_save 3 (some .int) :: ((wsX6_save_r1 ++ wsX6_save_r2) ++ wsX60 ++ wsX10 ++ wsX50 ++ wsX00 ++ (vx_atS RX6 288 "java/lang/IndexOutOfBoundsException" ["java/lang/RuntimeException", "java/lang/Exception"]).filter goodWord ++ (vx_atS RX6 303 "java/lang/IllegalStateException" ["java/lang/RuntimeException", "java/lang/Exception"]).filter goodWord)
def wsX6_raw : List Cond := .code yX6_raw cX6_raw 4 (some .int) :: ([.fieldLink RX6 25 "BayerGate" "frameRow" "[LBayerGate$Frame;", .methodLink RX6 127 yX6_needFrame, .instanceMethod yX6_needFrame, .selects RX6 yX6_needFrame yX6_needFrame, .initialized RX6, .code yX6_needFrame cX6_needFrame 2 none, .classLink RX6 284 "java/lang/IndexOutOfBoundsException", .initialized "java/lang/IndexOutOfBoundsException", .fieldLink RX6 35 "BayerGate" "frameCount" "I", .methodLink RX6 58 yX6_needPlace, .static yX6_needPlace, .code yX6_needPlace cX6_needPlace 2 none, .methodLink RX6 289 yX6_isPlace, .static yX6_isPlace, .code yX6_isPlace cX6_isPlace 2 (some .boolean), .methodLink RX6 74 yX6_placeOf, .static yX6_placeOf, .code yX6_placeOf cX6_placeOf 2 (some .int)] ++ wsX60 ++ wsX10 ++ (vx_atS RX6 288 "java/lang/IndexOutOfBoundsException" ["java/lang/RuntimeException", "java/lang/Exception"]).filter goodWord)
def wsX6_developFrame_r1 : List Cond := [Cond.fieldLink RX6 25 "BayerGate" "frameRow" "[LBayerGate$Frame;", Cond.fieldLink RX6 19 "BayerGate" "sensor" "LBayerGate$Sensor;", Cond.methodLink RX6 246 yX2_compose, Cond.instanceMethod yX2_compose, Cond.selects RX2 yX2_compose yX2_compose, Cond.initialized RX2, Cond.code yX2_compose cX2_compose 5 none, Cond.methodLink RX2 19 yX0_hasMend, Cond.instanceMethod yX0_hasMend, Cond.selects RX0 yX0_hasMend yX0_hasMend, Cond.initialized RX0, Cond.code yX0_hasMend cX0_hasMend 2 (some .boolean), Cond.fieldLink RX0 18 "BayerGate$EditRow" "length" "I", Cond.fieldLink RX0 9 "BayerGate$EditRow" "kinds" "[I", Cond.methodLink RX2 25 yX2_mendAll, Cond.instanceMethod yX2_mendAll, Cond.selects RX2 yX2_mendAll yX2_mendAll, Cond.code yX2_mendAll cX2_mendAll 8 none, Cond.fieldLink RX2 15 "BayerGate$Picture" "mended" "[I", Cond.static yX6_placeOf, Cond.initialized RX6, Cond.code yX6_placeOf cX6_placeOf 2 (some .int), Cond.methodLink RX2 57 yX2_mendedAt, Cond.static yX2_mendedAt]
def wsX6_developFrame_r2 : List Cond := [Cond.code yX2_mendedAt cX2_mendedAt 10 (some .int), Cond.static yX6_isPlace, Cond.code yX6_isPlace cX6_isPlace 2 (some .boolean), Cond.methodLink RX2 29 yX2_makeWhole, Cond.instanceMethod yX2_makeWhole, Cond.selects RX2 yX2_makeWhole yX2_makeWhole, Cond.code yX2_makeWhole cX2_makeWhole 7 none, Cond.fieldLink RX2 9 "BayerGate$Picture" "numbers" "[F", Cond.static yX6_colourSeen, Cond.code yX6_colourSeen cX6_colourSeen 2 (some .int), Cond.methodLink RX2 68 yX2_meanAround, Cond.instanceMethod yX2_meanAround, Cond.selects RX2 yX2_meanAround yX2_meanAround, Cond.code yX2_meanAround cX2_meanAround 8 (some .float), Cond.methodLink RX2 49 yX2_indexOf, Cond.static yX2_indexOf, Cond.code yX2_indexOf cX2_indexOf 2 (some .int), Cond.methodLink RX2 32 yX0_count, Cond.instanceMethod yX0_count, Cond.selects RX0 yX0_count yX0_count, Cond.code yX0_count cX0_count 1 (some .int), Cond.methodLink RX2 41 yX2_applyEdit, Cond.instanceMethod yX2_applyEdit, Cond.selects RX2 yX2_applyEdit yX2_applyEdit]
def wsX6_developFrame_r3 : List Cond := [Cond.code yX2_applyEdit cX2_applyEdit 3 none, Cond.constantFloat RX2 76 (1082130432), Cond.methodLink RX2 72 yX2_darken, Cond.instanceMethod yX2_darken, Cond.selects RX2 yX2_darken yX2_darken, Cond.code yX2_darken cX2_darken 4 none, Cond.methodLink RX2 77 yX2_scaleColour, Cond.instanceMethod yX2_scaleColour, Cond.selects RX2 yX2_scaleColour yX2_scaleColour, Cond.code yX2_scaleColour cX2_scaleColour 4 none, Cond.methodLink RX2 81 yX2_changeTone, Cond.instanceMethod yX2_changeTone, Cond.selects RX2 yX2_changeTone yX2_changeTone, Cond.code yX2_changeTone cX2_changeTone 3 none, Cond.constantFloat RX2 87 (1056964608), Cond.constantFloat RX2 53 (1132396544), Cond.methodLink RX2 84 yX2_turnOver, Cond.instanceMethod yX2_turnOver, Cond.selects RX2 yX2_turnOver yX2_turnOver, Cond.code yX2_turnOver cX2_turnOver 7 none, Cond.methodLink RX6 304 yX2_bound, Cond.instanceMethod yX2_bound, Cond.selects RX2 yX2_bound yX2_bound, Cond.code yX2_bound cX2_bound 2 none]
def wsX6_developFrame_r4 : List Cond := [Cond.methodLink RX2 45 yX2_bounded, Cond.static yX2_bounded, Cond.code yX2_bounded cX2_bounded 1 (some .float)]
def wsX6_developFrame : List Cond := .code yX6_developFrame cX6_developFrame 4 none :: ((wsX6_developFrame_r1 ++ (wsX6_developFrame_r2 ++ (wsX6_developFrame_r3 ++ wsX6_developFrame_r4))) ++ wsX60 ++ wsX10 ++ wsX40 ++ wsX00 ++ wsX20)
def wsX6_picture_r1 : List Cond := [Cond.fieldLink RX6 50 "BayerGate" "developed" "LBayerGate$Picture;", Cond.methodLink RX6 127 yX6_needFrame, Cond.instanceMethod yX6_needFrame, Cond.selects RX6 yX6_needFrame yX6_needFrame, Cond.initialized RX6, Cond.code yX6_needFrame cX6_needFrame 2 none, Cond.classLink RX6 284 "java/lang/IndexOutOfBoundsException", Cond.initialized "java/lang/IndexOutOfBoundsException", Cond.fieldLink RX6 35 "BayerGate" "frameCount" "I", Cond.methodLink RX6 58 yX6_needPlace, Cond.static yX6_needPlace, Cond.code yX6_needPlace cX6_needPlace 2 none, Cond.methodLink RX6 289 yX6_isPlace, Cond.static yX6_isPlace, Cond.code yX6_isPlace cX6_isPlace 2 (some .boolean), Cond.methodLink RX6 70 yX6_needRange, Cond.static yX6_needRange, Cond.code yX6_needRange cX6_needRange 3 none, Cond.classLink RX6 62 "java/lang/IllegalArgumentException", Cond.initialized "java/lang/IllegalArgumentException", Cond.methodLink RX6 162 yX6_developFrame, Cond.instanceMethod yX6_developFrame, Cond.selects RX6 yX6_developFrame yX6_developFrame, Cond.code yX6_developFrame cX6_developFrame 4 none]
def wsX6_picture_r2 : List Cond := [Cond.fieldLink RX6 25 "BayerGate" "frameRow" "[LBayerGate$Frame;", Cond.fieldLink RX6 19 "BayerGate" "sensor" "LBayerGate$Sensor;", Cond.methodLink RX6 246 yX2_compose, Cond.instanceMethod yX2_compose, Cond.selects RX2 yX2_compose yX2_compose, Cond.initialized RX2, Cond.code yX2_compose cX2_compose 5 none, Cond.methodLink RX2 19 yX0_hasMend, Cond.instanceMethod yX0_hasMend, Cond.selects RX0 yX0_hasMend yX0_hasMend, Cond.initialized RX0, Cond.code yX0_hasMend cX0_hasMend 2 (some .boolean), Cond.fieldLink RX0 18 "BayerGate$EditRow" "length" "I", Cond.fieldLink RX0 9 "BayerGate$EditRow" "kinds" "[I", Cond.methodLink RX2 25 yX2_mendAll, Cond.instanceMethod yX2_mendAll, Cond.selects RX2 yX2_mendAll yX2_mendAll, Cond.code yX2_mendAll cX2_mendAll 8 none, Cond.fieldLink RX2 15 "BayerGate$Picture" "mended" "[I", Cond.static yX6_placeOf, Cond.code yX6_placeOf cX6_placeOf 2 (some .int), Cond.methodLink RX2 57 yX2_mendedAt, Cond.static yX2_mendedAt, Cond.code yX2_mendedAt cX2_mendedAt 10 (some .int)]
def wsX6_picture_r3 : List Cond := [Cond.methodLink RX2 29 yX2_makeWhole, Cond.instanceMethod yX2_makeWhole, Cond.selects RX2 yX2_makeWhole yX2_makeWhole, Cond.code yX2_makeWhole cX2_makeWhole 7 none, Cond.fieldLink RX2 9 "BayerGate$Picture" "numbers" "[F", Cond.static yX6_colourSeen, Cond.code yX6_colourSeen cX6_colourSeen 2 (some .int), Cond.methodLink RX2 68 yX2_meanAround, Cond.instanceMethod yX2_meanAround, Cond.selects RX2 yX2_meanAround yX2_meanAround, Cond.code yX2_meanAround cX2_meanAround 8 (some .float), Cond.methodLink RX2 49 yX2_indexOf, Cond.static yX2_indexOf, Cond.code yX2_indexOf cX2_indexOf 2 (some .int), Cond.methodLink RX2 32 yX0_count, Cond.instanceMethod yX0_count, Cond.selects RX0 yX0_count yX0_count, Cond.code yX0_count cX0_count 1 (some .int), Cond.methodLink RX2 41 yX2_applyEdit, Cond.instanceMethod yX2_applyEdit, Cond.selects RX2 yX2_applyEdit yX2_applyEdit, Cond.code yX2_applyEdit cX2_applyEdit 3 none, Cond.constantFloat RX2 76 (1082130432), Cond.methodLink RX2 72 yX2_darken]
def wsX6_picture_r4 : List Cond := [Cond.instanceMethod yX2_darken, Cond.selects RX2 yX2_darken yX2_darken, Cond.code yX2_darken cX2_darken 4 none, Cond.methodLink RX2 77 yX2_scaleColour, Cond.instanceMethod yX2_scaleColour, Cond.selects RX2 yX2_scaleColour yX2_scaleColour, Cond.code yX2_scaleColour cX2_scaleColour 4 none, Cond.methodLink RX2 81 yX2_changeTone, Cond.instanceMethod yX2_changeTone, Cond.selects RX2 yX2_changeTone yX2_changeTone, Cond.code yX2_changeTone cX2_changeTone 3 none, Cond.constantFloat RX2 87 (1056964608), Cond.constantFloat RX2 53 (1132396544), Cond.methodLink RX2 84 yX2_turnOver, Cond.instanceMethod yX2_turnOver, Cond.selects RX2 yX2_turnOver yX2_turnOver, Cond.code yX2_turnOver cX2_turnOver 7 none, Cond.methodLink RX6 304 yX2_bound, Cond.instanceMethod yX2_bound, Cond.selects RX2 yX2_bound yX2_bound, Cond.code yX2_bound cX2_bound 2 none, Cond.methodLink RX2 45 yX2_bounded, Cond.static yX2_bounded, Cond.code yX2_bounded cX2_bounded 1 (some .float)]
def wsX6_picture_r5 : List Cond := [Cond.methodLink RX6 74 yX6_placeOf, Cond.methodLink RX6 170 yX2_indexOf]
def wsX6_picture : List Cond := .code yX6_picture cX6_picture 5 (some .double) :: ((wsX6_picture_r1 ++ (wsX6_picture_r2 ++ (wsX6_picture_r3 ++ (wsX6_picture_r4 ++ wsX6_picture_r5)))) ++ wsX60 ++ wsX20 ++ wsX10 ++ wsX40 ++ wsX00 ++ (vx_atS RX6 288 "java/lang/IndexOutOfBoundsException" ["java/lang/RuntimeException", "java/lang/Exception"]).filter goodWord ++ (vx_atS RX6 66 "java/lang/IllegalArgumentException" ["java/lang/RuntimeException", "java/lang/Exception"]).filter goodWord)
def wsX6_wordBehind_r1 : List Cond := [Cond.fieldLink RX6 50 "BayerGate" "developed" "LBayerGate$Picture;", Cond.fieldLink RX6 25 "BayerGate" "frameRow" "[LBayerGate$Frame;", Cond.fieldLink RX6 19 "BayerGate" "sensor" "LBayerGate$Sensor;", Cond.methodLink RX6 246 yX2_compose, Cond.instanceMethod yX2_compose, Cond.selects RX2 yX2_compose yX2_compose, Cond.initialized RX2, Cond.code yX2_compose cX2_compose 5 none, Cond.methodLink RX2 19 yX0_hasMend, Cond.instanceMethod yX0_hasMend, Cond.selects RX0 yX0_hasMend yX0_hasMend, Cond.initialized RX0, Cond.code yX0_hasMend cX0_hasMend 2 (some .boolean), Cond.fieldLink RX0 18 "BayerGate$EditRow" "length" "I", Cond.fieldLink RX0 9 "BayerGate$EditRow" "kinds" "[I", Cond.methodLink RX2 25 yX2_mendAll, Cond.instanceMethod yX2_mendAll, Cond.selects RX2 yX2_mendAll yX2_mendAll, Cond.code yX2_mendAll cX2_mendAll 8 none, Cond.fieldLink RX2 15 "BayerGate$Picture" "mended" "[I", Cond.static yX6_placeOf, Cond.initialized RX6, Cond.code yX6_placeOf cX6_placeOf 2 (some .int), Cond.methodLink RX2 57 yX2_mendedAt]
def wsX6_wordBehind_r2 : List Cond := [Cond.static yX2_mendedAt, Cond.code yX2_mendedAt cX2_mendedAt 10 (some .int), Cond.static yX6_isPlace, Cond.code yX6_isPlace cX6_isPlace 2 (some .boolean), Cond.methodLink RX2 29 yX2_makeWhole, Cond.instanceMethod yX2_makeWhole, Cond.selects RX2 yX2_makeWhole yX2_makeWhole, Cond.code yX2_makeWhole cX2_makeWhole 7 none, Cond.fieldLink RX2 9 "BayerGate$Picture" "numbers" "[F", Cond.static yX6_colourSeen, Cond.code yX6_colourSeen cX6_colourSeen 2 (some .int), Cond.methodLink RX2 68 yX2_meanAround, Cond.instanceMethod yX2_meanAround, Cond.selects RX2 yX2_meanAround yX2_meanAround, Cond.code yX2_meanAround cX2_meanAround 8 (some .float), Cond.methodLink RX2 49 yX2_indexOf, Cond.static yX2_indexOf, Cond.code yX2_indexOf cX2_indexOf 2 (some .int), Cond.methodLink RX2 32 yX0_count, Cond.instanceMethod yX0_count, Cond.selects RX0 yX0_count yX0_count, Cond.code yX0_count cX0_count 1 (some .int), Cond.methodLink RX2 41 yX2_applyEdit, Cond.instanceMethod yX2_applyEdit]
def wsX6_wordBehind_r3 : List Cond := [Cond.selects RX2 yX2_applyEdit yX2_applyEdit, Cond.code yX2_applyEdit cX2_applyEdit 3 none, Cond.constantFloat RX2 76 (1082130432), Cond.methodLink RX2 72 yX2_darken, Cond.instanceMethod yX2_darken, Cond.selects RX2 yX2_darken yX2_darken, Cond.code yX2_darken cX2_darken 4 none, Cond.methodLink RX2 77 yX2_scaleColour, Cond.instanceMethod yX2_scaleColour, Cond.selects RX2 yX2_scaleColour yX2_scaleColour, Cond.code yX2_scaleColour cX2_scaleColour 4 none, Cond.methodLink RX2 81 yX2_changeTone, Cond.instanceMethod yX2_changeTone, Cond.selects RX2 yX2_changeTone yX2_changeTone, Cond.code yX2_changeTone cX2_changeTone 3 none, Cond.constantFloat RX2 87 (1056964608), Cond.constantFloat RX2 53 (1132396544), Cond.methodLink RX2 84 yX2_turnOver, Cond.instanceMethod yX2_turnOver, Cond.selects RX2 yX2_turnOver yX2_turnOver, Cond.code yX2_turnOver cX2_turnOver 7 none, Cond.methodLink RX6 304 yX2_bound, Cond.instanceMethod yX2_bound, Cond.selects RX2 yX2_bound yX2_bound]
def wsX6_wordBehind_r4 : List Cond := [Cond.code yX2_bound cX2_bound 2 none, Cond.methodLink RX2 45 yX2_bounded, Cond.static yX2_bounded, Cond.code yX2_bounded cX2_bounded 1 (some .float), Cond.methodLink RX6 307 yX2_sumUp, Cond.instanceMethod yX2_sumUp, Cond.selects RX2 yX2_sumUp yX2_sumUp, Cond.code yX2_sumUp cX2_sumUp 3 (some .int)]
def wsX6_wordBehind : List Cond := .code yX6_wordBehind cX6_wordBehind 3 (some .int) :: ((wsX6_wordBehind_r1 ++ (wsX6_wordBehind_r2 ++ (wsX6_wordBehind_r3 ++ wsX6_wordBehind_r4))) ++ wsX60 ++ wsX10 ++ wsX40 ++ wsX00 ++ wsX20)
def wsX6_word_r1 : List Cond := [Cond.fieldLink RX6 25 "BayerGate" "frameRow" "[LBayerGate$Frame;", Cond.methodLink RX6 127 yX6_needFrame, Cond.instanceMethod yX6_needFrame, Cond.selects RX6 yX6_needFrame yX6_needFrame, Cond.initialized RX6, Cond.code yX6_needFrame cX6_needFrame 2 none, Cond.classLink RX6 284 "java/lang/IndexOutOfBoundsException", Cond.initialized "java/lang/IndexOutOfBoundsException", Cond.fieldLink RX6 35 "BayerGate" "frameCount" "I", Cond.methodLink RX6 173 yX6_wordBehind, Cond.instanceMethod yX6_wordBehind, Cond.selects RX6 yX6_wordBehind yX6_wordBehind, Cond.code yX6_wordBehind cX6_wordBehind 3 (some .int), Cond.fieldLink RX6 50 "BayerGate" "developed" "LBayerGate$Picture;", Cond.fieldLink RX6 19 "BayerGate" "sensor" "LBayerGate$Sensor;", Cond.methodLink RX6 246 yX2_compose, Cond.instanceMethod yX2_compose, Cond.selects RX2 yX2_compose yX2_compose, Cond.initialized RX2, Cond.code yX2_compose cX2_compose 5 none, Cond.methodLink RX2 19 yX0_hasMend, Cond.instanceMethod yX0_hasMend, Cond.selects RX0 yX0_hasMend yX0_hasMend, Cond.initialized RX0]
def wsX6_word_r2 : List Cond := [Cond.code yX0_hasMend cX0_hasMend 2 (some .boolean), Cond.fieldLink RX0 18 "BayerGate$EditRow" "length" "I", Cond.fieldLink RX0 9 "BayerGate$EditRow" "kinds" "[I", Cond.methodLink RX2 25 yX2_mendAll, Cond.instanceMethod yX2_mendAll, Cond.selects RX2 yX2_mendAll yX2_mendAll, Cond.code yX2_mendAll cX2_mendAll 8 none, Cond.fieldLink RX2 15 "BayerGate$Picture" "mended" "[I", Cond.static yX6_placeOf, Cond.code yX6_placeOf cX6_placeOf 2 (some .int), Cond.methodLink RX2 57 yX2_mendedAt, Cond.static yX2_mendedAt, Cond.code yX2_mendedAt cX2_mendedAt 10 (some .int), Cond.static yX6_isPlace, Cond.code yX6_isPlace cX6_isPlace 2 (some .boolean), Cond.methodLink RX2 29 yX2_makeWhole, Cond.instanceMethod yX2_makeWhole, Cond.selects RX2 yX2_makeWhole yX2_makeWhole, Cond.code yX2_makeWhole cX2_makeWhole 7 none, Cond.fieldLink RX2 9 "BayerGate$Picture" "numbers" "[F", Cond.static yX6_colourSeen, Cond.code yX6_colourSeen cX6_colourSeen 2 (some .int), Cond.methodLink RX2 68 yX2_meanAround, Cond.instanceMethod yX2_meanAround]
def wsX6_word_r3 : List Cond := [Cond.selects RX2 yX2_meanAround yX2_meanAround, Cond.code yX2_meanAround cX2_meanAround 8 (some .float), Cond.methodLink RX2 49 yX2_indexOf, Cond.static yX2_indexOf, Cond.code yX2_indexOf cX2_indexOf 2 (some .int), Cond.methodLink RX2 32 yX0_count, Cond.instanceMethod yX0_count, Cond.selects RX0 yX0_count yX0_count, Cond.code yX0_count cX0_count 1 (some .int), Cond.methodLink RX2 41 yX2_applyEdit, Cond.instanceMethod yX2_applyEdit, Cond.selects RX2 yX2_applyEdit yX2_applyEdit, Cond.code yX2_applyEdit cX2_applyEdit 3 none, Cond.constantFloat RX2 76 (1082130432), Cond.methodLink RX2 72 yX2_darken, Cond.instanceMethod yX2_darken, Cond.selects RX2 yX2_darken yX2_darken, Cond.code yX2_darken cX2_darken 4 none, Cond.methodLink RX2 77 yX2_scaleColour, Cond.instanceMethod yX2_scaleColour, Cond.selects RX2 yX2_scaleColour yX2_scaleColour, Cond.code yX2_scaleColour cX2_scaleColour 4 none, Cond.methodLink RX2 81 yX2_changeTone, Cond.instanceMethod yX2_changeTone]
def wsX6_word_r4 : List Cond := [Cond.selects RX2 yX2_changeTone yX2_changeTone, Cond.code yX2_changeTone cX2_changeTone 3 none, Cond.constantFloat RX2 87 (1056964608), Cond.constantFloat RX2 53 (1132396544), Cond.methodLink RX2 84 yX2_turnOver, Cond.instanceMethod yX2_turnOver, Cond.selects RX2 yX2_turnOver yX2_turnOver, Cond.code yX2_turnOver cX2_turnOver 7 none, Cond.methodLink RX6 304 yX2_bound, Cond.instanceMethod yX2_bound, Cond.selects RX2 yX2_bound yX2_bound, Cond.code yX2_bound cX2_bound 2 none, Cond.methodLink RX2 45 yX2_bounded, Cond.static yX2_bounded, Cond.code yX2_bounded cX2_bounded 1 (some .float), Cond.methodLink RX6 307 yX2_sumUp, Cond.instanceMethod yX2_sumUp, Cond.selects RX2 yX2_sumUp yX2_sumUp, Cond.code yX2_sumUp cX2_sumUp 3 (some .int)]
def wsX6_word : List Cond := .code yX6_word cX6_word 2 (some .int) :: ((wsX6_word_r1 ++ (wsX6_word_r2 ++ (wsX6_word_r3 ++ wsX6_word_r4))) ++ wsX60 ++ wsX10 ++ wsX40 ++ wsX00 ++ wsX20 ++ (vx_atS RX6 288 "java/lang/IndexOutOfBoundsException" ["java/lang/RuntimeException", "java/lang/Exception"]).filter goodWord)
def wsX6_ofFrame_r1 : List Cond := [Cond.fieldLink RX6 25 "BayerGate" "frameRow" "[LBayerGate$Frame;", Cond.methodLink RX6 127 yX6_needFrame, Cond.instanceMethod yX6_needFrame, Cond.selects RX6 yX6_needFrame yX6_needFrame, Cond.initialized RX6, Cond.code yX6_needFrame cX6_needFrame 2 none, Cond.classLink RX6 284 "java/lang/IndexOutOfBoundsException", Cond.initialized "java/lang/IndexOutOfBoundsException", Cond.fieldLink RX6 35 "BayerGate" "frameCount" "I", Cond.methodLink RX6 70 yX6_needRange, Cond.static yX6_needRange, Cond.code yX6_needRange cX6_needRange 3 none, Cond.classLink RX6 62 "java/lang/IllegalArgumentException", Cond.initialized "java/lang/IllegalArgumentException", Cond.methodLink RX6 140 yX0_count, Cond.instanceMethod yX0_count, Cond.selects RX0 yX0_count yX0_count, Cond.initialized RX0, Cond.code yX0_count cX0_count 1 (some .int), Cond.fieldLink RX0 18 "BayerGate$EditRow" "length" "I", Cond.methodLink RX6 183 yX1_countClipped, Cond.instanceMethod yX1_countClipped, Cond.selects RX1 yX1_countClipped yX1_countClipped, Cond.initialized RX1]
def wsX6_ofFrame_r2 : List Cond := [Cond.code yX1_countClipped cX1_countClipped 3 (some .int), Cond.fieldLink RX1 9 "BayerGate$Frame" "rawRow" "[I", Cond.methodLink RX6 189 yX1_sharpness, Cond.instanceMethod yX1_sharpness, Cond.selects RX1 yX1_sharpness yX1_sharpness, Cond.code yX1_sharpness cX1_sharpness 4 (some .int), Cond.methodLink RX1 39 Lib.Math.abs.name, Cond.static Lib.Math.abs.name, Cond.initialized "java/lang/Math", Cond.code Lib.Math.abs.name Lib.Math.abs.code 1 (some .int), Cond.static yX6_colourSeen, Cond.code yX6_colourSeen cX6_colourSeen 2 (some .int), Cond.static yX6_placeOf, Cond.code yX6_placeOf cX6_placeOf 2 (some .int), Cond.methodLink RX6 192 yX1_whiteOf, Cond.instanceMethod yX1_whiteOf, Cond.selects RX1 yX1_whiteOf yX1_whiteOf, Cond.code yX1_whiteOf cX1_whiteOf 3 (some .int), Cond.methodLink RX1 48 Lib.Math.min.name, Cond.static Lib.Math.min.name, Cond.code Lib.Math.min.name Lib.Math.min.code 2 (some .int), Cond.methodLink RX1 51 Lib.Math.max.name, Cond.static Lib.Math.max.name, Cond.code Lib.Math.max.name Lib.Math.max.code 2 (some .int)]
def wsX6_ofFrame_r3 : List Cond := [Cond.methodLink RX1 45 yX1_sumSeen, Cond.instanceMethod yX1_sumSeen, Cond.selects RX1 yX1_sumSeen yX1_sumSeen, Cond.code yX1_sumSeen cX1_sumSeen 5 (some .int), Cond.methodLink RX6 151 yX6_countFilesOf, Cond.instanceMethod yX6_countFilesOf, Cond.selects RX6 yX6_countFilesOf yX6_countFilesOf, Cond.code yX6_countFilesOf cX6_countFilesOf 4 (some .int), Cond.fieldLink RX6 39 "BayerGate" "fileCount" "I", Cond.fieldLink RX6 31 "BayerGate" "fileRow" "[LBayerGate$StoredFile;"]
def wsX6_ofFrame : List Cond := .code yX6_ofFrame cX6_ofFrame 4 (some .int) :: ((wsX6_ofFrame_r1 ++ (wsX6_ofFrame_r2 ++ wsX6_ofFrame_r3)) ++ wsX60 ++ wsX10 ++ wsX00 ++ wsX50 ++ (vx_atS RX6 288 "java/lang/IndexOutOfBoundsException" ["java/lang/RuntimeException", "java/lang/Exception"]).filter goodWord ++ (vx_atS RX6 66 "java/lang/IllegalArgumentException" ["java/lang/RuntimeException", "java/lang/Exception"]).filter goodWord)
def wsX6_needIndex : List Cond := .code yX6_needIndex cX6_needIndex 2 none :: ([.classLink RX6 284 "java/lang/IndexOutOfBoundsException", .initialized "java/lang/IndexOutOfBoundsException"] ++ (vx_atS RX6 288 "java/lang/IndexOutOfBoundsException" ["java/lang/RuntimeException", "java/lang/Exception"]).filter goodWord)
def wsX6_ofEdit : List Cond := .code yX6_ofEdit cX6_ofEdit 5 (some .int) :: ([.fieldLink RX6 25 "BayerGate" "frameRow" "[LBayerGate$Frame;", .methodLink RX6 127 yX6_needFrame, .instanceMethod yX6_needFrame, .selects RX6 yX6_needFrame yX6_needFrame, .initialized RX6, .code yX6_needFrame cX6_needFrame 2 none, .classLink RX6 284 "java/lang/IndexOutOfBoundsException", .initialized "java/lang/IndexOutOfBoundsException", .fieldLink RX6 35 "BayerGate" "frameCount" "I", .methodLink RX6 140 yX0_count, .instanceMethod yX0_count, .selects RX0 yX0_count yX0_count, .initialized RX0, .code yX0_count cX0_count 1 (some .int), .fieldLink RX0 18 "BayerGate$EditRow" "length" "I", .methodLink RX6 195 yX6_needIndex, .static yX6_needIndex, .code yX6_needIndex cX6_needIndex 2 none, .methodLink RX6 70 yX6_needRange, .static yX6_needRange, .code yX6_needRange cX6_needRange 3 none, .classLink RX6 62 "java/lang/IllegalArgumentException", .initialized "java/lang/IllegalArgumentException"] ++ wsX60 ++ wsX10 ++ wsX00 ++ (vx_atS RX6 288 "java/lang/IndexOutOfBoundsException" ["java/lang/RuntimeException", "java/lang/Exception"]).filter goodWord ++ (vx_atS RX6 66 "java/lang/IllegalArgumentException" ["java/lang/RuntimeException", "java/lang/Exception"]).filter goodWord)
def wsX6_zone : List Cond := .code yX6_zone cX6_zone 3 (some .double) :: ([.fieldLink RX6 25 "BayerGate" "frameRow" "[LBayerGate$Frame;", .methodLink RX6 127 yX6_needFrame, .instanceMethod yX6_needFrame, .selects RX6 yX6_needFrame yX6_needFrame, .initialized RX6, .code yX6_needFrame cX6_needFrame 2 none, .classLink RX6 284 "java/lang/IndexOutOfBoundsException", .initialized "java/lang/IndexOutOfBoundsException", .fieldLink RX6 35 "BayerGate" "frameCount" "I", .methodLink RX6 195 yX6_needIndex, .static yX6_needIndex, .code yX6_needIndex cX6_needIndex 2 none, .methodLink RX6 203 yX1_meanOfZone, .instanceMethod yX1_meanOfZone, .selects RX1 yX1_meanOfZone yX1_meanOfZone, .initialized RX1, .code yX1_meanOfZone cX1_meanOfZone 7 (some .double), .fieldLink RX1 9 "BayerGate$Frame" "rawRow" "[I", .constantDouble RX1 54 (4620693217682128896), .static yX6_colourSeen, .code yX6_colourSeen cX6_colourSeen 2 (some .int), .static yX6_placeOf, .code yX6_placeOf cX6_placeOf 2 (some .int)] ++ wsX60 ++ wsX10 ++ (vx_atS RX6 288 "java/lang/IndexOutOfBoundsException" ["java/lang/RuntimeException", "java/lang/Exception"]).filter goodWord)
def wsX6_meter_r1 : List Cond := [Cond.fieldLink RX6 25 "BayerGate" "frameRow" "[LBayerGate$Frame;", Cond.methodLink RX6 127 yX6_needFrame, Cond.instanceMethod yX6_needFrame, Cond.selects RX6 yX6_needFrame yX6_needFrame, Cond.initialized RX6, Cond.code yX6_needFrame cX6_needFrame 2 none, Cond.classLink RX6 284 "java/lang/IndexOutOfBoundsException", Cond.initialized "java/lang/IndexOutOfBoundsException", Cond.fieldLink RX6 35 "BayerGate" "frameCount" "I", Cond.methodLink RX6 207 yX1_meanOfZones, Cond.instanceMethod yX1_meanOfZones, Cond.selects RX1 yX1_meanOfZones yX1_meanOfZones, Cond.initialized RX1, Cond.code yX1_meanOfZones cX1_meanOfZones 4 (some .double), Cond.constantDouble RX1 60 (4616189618054758400), Cond.methodLink RX1 56 yX1_meanOfZone, Cond.instanceMethod yX1_meanOfZone, Cond.selects RX1 yX1_meanOfZone yX1_meanOfZone, Cond.code yX1_meanOfZone cX1_meanOfZone 7 (some .double), Cond.fieldLink RX1 9 "BayerGate$Frame" "rawRow" "[I", Cond.constantDouble RX1 54 (4620693217682128896), Cond.static yX6_colourSeen, Cond.code yX6_colourSeen cX6_colourSeen 2 (some .int), Cond.static yX6_placeOf]
def wsX6_meter_r2 : List Cond := [Cond.code yX6_placeOf cX6_placeOf 2 (some .int)]
def wsX6_meter : List Cond := .code yX6_meter cX6_meter 2 (some .double) :: ((wsX6_meter_r1 ++ wsX6_meter_r2) ++ wsX60 ++ wsX10 ++ (vx_atS RX6 288 "java/lang/IndexOutOfBoundsException" ["java/lang/RuntimeException", "java/lang/Exception"]).filter goodWord)
def wsX6_ofFile_r1 : List Cond := [Cond.fieldLink RX6 39 "BayerGate" "fileCount" "I", Cond.fieldLink RX6 31 "BayerGate" "fileRow" "[LBayerGate$StoredFile;", Cond.methodLink RX6 195 yX6_needIndex, Cond.static yX6_needIndex, Cond.initialized RX6, Cond.code yX6_needIndex cX6_needIndex 2 none, Cond.classLink RX6 284 "java/lang/IndexOutOfBoundsException", Cond.initialized "java/lang/IndexOutOfBoundsException", Cond.methodLink RX6 70 yX6_needRange, Cond.static yX6_needRange, Cond.code yX6_needRange cX6_needRange 3 none, Cond.classLink RX6 62 "java/lang/IllegalArgumentException", Cond.initialized "java/lang/IllegalArgumentException", Cond.methodLink RX6 140 yX0_count, Cond.instanceMethod yX0_count, Cond.selects RX0 yX0_count yX0_count, Cond.initialized RX0, Cond.code yX0_count cX0_count 1 (some .int), Cond.fieldLink RX0 18 "BayerGate$EditRow" "length" "I", Cond.methodLink RX6 173 yX6_wordBehind, Cond.instanceMethod yX6_wordBehind, Cond.selects RX6 yX6_wordBehind yX6_wordBehind, Cond.code yX6_wordBehind cX6_wordBehind 3 (some .int), Cond.fieldLink RX6 50 "BayerGate" "developed" "LBayerGate$Picture;"]
def wsX6_ofFile_r2 : List Cond := [Cond.fieldLink RX6 25 "BayerGate" "frameRow" "[LBayerGate$Frame;", Cond.fieldLink RX6 19 "BayerGate" "sensor" "LBayerGate$Sensor;", Cond.methodLink RX6 246 yX2_compose, Cond.instanceMethod yX2_compose, Cond.selects RX2 yX2_compose yX2_compose, Cond.initialized RX2, Cond.code yX2_compose cX2_compose 5 none, Cond.methodLink RX2 19 yX0_hasMend, Cond.instanceMethod yX0_hasMend, Cond.selects RX0 yX0_hasMend yX0_hasMend, Cond.code yX0_hasMend cX0_hasMend 2 (some .boolean), Cond.fieldLink RX0 9 "BayerGate$EditRow" "kinds" "[I", Cond.methodLink RX2 25 yX2_mendAll, Cond.instanceMethod yX2_mendAll, Cond.selects RX2 yX2_mendAll yX2_mendAll, Cond.code yX2_mendAll cX2_mendAll 8 none, Cond.fieldLink RX2 15 "BayerGate$Picture" "mended" "[I", Cond.static yX6_placeOf, Cond.code yX6_placeOf cX6_placeOf 2 (some .int), Cond.methodLink RX2 57 yX2_mendedAt, Cond.static yX2_mendedAt, Cond.code yX2_mendedAt cX2_mendedAt 10 (some .int), Cond.static yX6_isPlace, Cond.code yX6_isPlace cX6_isPlace 2 (some .boolean)]
def wsX6_ofFile_r3 : List Cond := [Cond.methodLink RX2 29 yX2_makeWhole, Cond.instanceMethod yX2_makeWhole, Cond.selects RX2 yX2_makeWhole yX2_makeWhole, Cond.code yX2_makeWhole cX2_makeWhole 7 none, Cond.fieldLink RX2 9 "BayerGate$Picture" "numbers" "[F", Cond.static yX6_colourSeen, Cond.code yX6_colourSeen cX6_colourSeen 2 (some .int), Cond.methodLink RX2 68 yX2_meanAround, Cond.instanceMethod yX2_meanAround, Cond.selects RX2 yX2_meanAround yX2_meanAround, Cond.code yX2_meanAround cX2_meanAround 8 (some .float), Cond.methodLink RX2 49 yX2_indexOf, Cond.static yX2_indexOf, Cond.code yX2_indexOf cX2_indexOf 2 (some .int), Cond.methodLink RX2 32 yX0_count, Cond.methodLink RX2 41 yX2_applyEdit, Cond.instanceMethod yX2_applyEdit, Cond.selects RX2 yX2_applyEdit yX2_applyEdit, Cond.code yX2_applyEdit cX2_applyEdit 3 none, Cond.constantFloat RX2 76 (1082130432), Cond.methodLink RX2 72 yX2_darken, Cond.instanceMethod yX2_darken, Cond.selects RX2 yX2_darken yX2_darken, Cond.code yX2_darken cX2_darken 4 none]
def wsX6_ofFile_r4 : List Cond := [Cond.methodLink RX2 77 yX2_scaleColour, Cond.instanceMethod yX2_scaleColour, Cond.selects RX2 yX2_scaleColour yX2_scaleColour, Cond.code yX2_scaleColour cX2_scaleColour 4 none, Cond.methodLink RX2 81 yX2_changeTone, Cond.instanceMethod yX2_changeTone, Cond.selects RX2 yX2_changeTone yX2_changeTone, Cond.code yX2_changeTone cX2_changeTone 3 none, Cond.constantFloat RX2 87 (1056964608), Cond.constantFloat RX2 53 (1132396544), Cond.methodLink RX2 84 yX2_turnOver, Cond.instanceMethod yX2_turnOver, Cond.selects RX2 yX2_turnOver yX2_turnOver, Cond.code yX2_turnOver cX2_turnOver 7 none, Cond.methodLink RX6 304 yX2_bound, Cond.instanceMethod yX2_bound, Cond.selects RX2 yX2_bound yX2_bound, Cond.code yX2_bound cX2_bound 2 none, Cond.methodLink RX2 45 yX2_bounded, Cond.static yX2_bounded, Cond.code yX2_bounded cX2_bounded 1 (some .float), Cond.methodLink RX6 307 yX2_sumUp, Cond.instanceMethod yX2_sumUp, Cond.selects RX2 yX2_sumUp yX2_sumUp]
def wsX6_ofFile_r5 : List Cond := [Cond.code yX2_sumUp cX2_sumUp 3 (some .int)]
def wsX6_ofFile : List Cond := .code yX6_ofFile cX6_ofFile 4 (some .int) :: ((wsX6_ofFile_r1 ++ (wsX6_ofFile_r2 ++ (wsX6_ofFile_r3 ++ (wsX6_ofFile_r4 ++ wsX6_ofFile_r5)))) ++ wsX60 ++ wsX50 ++ wsX00 ++ wsX10 ++ wsX40 ++ wsX20 ++ (vx_atS RX6 288 "java/lang/IndexOutOfBoundsException" ["java/lang/RuntimeException", "java/lang/Exception"]).filter goodWord ++ (vx_atS RX6 66 "java/lang/IllegalArgumentException" ["java/lang/RuntimeException", "java/lang/Exception"]).filter goodWord)
def wsX6_ofPlace_r1 : List Cond := [Cond.fieldLink RX6 12 "BayerGate" "scene" "LBayerGate$Scene;", Cond.fieldLink RX6 19 "BayerGate" "sensor" "LBayerGate$Sensor;", Cond.methodLink RX6 58 yX6_needPlace, Cond.static yX6_needPlace, Cond.initialized RX6, Cond.code yX6_needPlace cX6_needPlace 2 none, Cond.classLink RX6 284 "java/lang/IndexOutOfBoundsException", Cond.initialized "java/lang/IndexOutOfBoundsException", Cond.methodLink RX6 289 yX6_isPlace, Cond.static yX6_isPlace, Cond.code yX6_isPlace cX6_isPlace 2 (some .boolean), Cond.methodLink RX6 70 yX6_needRange, Cond.static yX6_needRange, Cond.code yX6_needRange cX6_needRange 3 none, Cond.classLink RX6 62 "java/lang/IllegalArgumentException", Cond.initialized "java/lang/IllegalArgumentException", Cond.methodLink RX6 74 yX6_placeOf, Cond.static yX6_placeOf, Cond.code yX6_placeOf cX6_placeOf 2 (some .int), Cond.methodLink RX6 218 yX3_shade, Cond.instanceMethod yX3_shade, Cond.selects RX3 yX3_shade yX3_shade, Cond.initialized RX3, Cond.code yX3_shade cX3_shade 3 (some .int)]
def wsX6_ofPlace_r2 : List Cond := [Cond.fieldLink RX3 9 "BayerGate$Scene" "shades" "[I", Cond.methodLink RX6 221 yX6_colourSeen, Cond.static yX6_colourSeen, Cond.code yX6_colourSeen cX6_colourSeen 2 (some .int), Cond.methodLink RX6 88 yX4_howIs, Cond.instanceMethod yX4_howIs, Cond.selects RX4 yX4_howIs yX4_howIs, Cond.initialized RX4, Cond.code yX4_howIs cX4_howIs 2 (some .int), Cond.fieldLink RX4 9 "BayerGate$Sensor" "hows" "[I", Cond.methodLink RX6 224 yX4_isMapped, Cond.instanceMethod yX4_isMapped, Cond.selects RX4 yX4_isMapped yX4_isMapped, Cond.code yX4_isMapped cX4_isMapped 2 (some .boolean), Cond.fieldLink RX4 15 "BayerGate$Sensor" "mapped" "[Z"]
def wsX6_ofPlace : List Cond := .code yX6_ofPlace cX6_ofPlace 5 (some .int) :: ((wsX6_ofPlace_r1 ++ wsX6_ofPlace_r2) ++ wsX60 ++ wsX30 ++ wsX40 ++ (vx_atS RX6 288 "java/lang/IndexOutOfBoundsException" ["java/lang/RuntimeException", "java/lang/Exception"]).filter goodWord ++ (vx_atS RX6 66 "java/lang/IllegalArgumentException" ["java/lang/RuntimeException", "java/lang/Exception"]).filter goodWord)
def wsX6_countEdits : List Cond := .code yX6_countEdits cX6_countEdits 3 (some .int) :: ([.fieldLink RX6 35 "BayerGate" "frameCount" "I", .fieldLink RX6 25 "BayerGate" "frameRow" "[LBayerGate$Frame;", .methodLink RX6 140 yX0_count, .instanceMethod yX0_count, .selects RX0 yX0_count yX0_count, .initialized RX0, .code yX0_count cX0_count 1 (some .int), .fieldLink RX0 18 "BayerGate$EditRow" "length" "I"] ++ wsX60 ++ wsX10 ++ wsX00)
def wsX6_many_r1 : List Cond := [Cond.fieldLink RX6 35 "BayerGate" "frameCount" "I", Cond.fieldLink RX6 39 "BayerGate" "fileCount" "I", Cond.fieldLink RX6 19 "BayerGate" "sensor" "LBayerGate$Sensor;", Cond.methodLink RX6 70 yX6_needRange, Cond.static yX6_needRange, Cond.initialized RX6, Cond.code yX6_needRange cX6_needRange 3 none, Cond.classLink RX6 62 "java/lang/IllegalArgumentException", Cond.initialized "java/lang/IllegalArgumentException", Cond.methodLink RX6 99 yX4_countMapped, Cond.instanceMethod yX4_countMapped, Cond.selects RX4 yX4_countMapped yX4_countMapped, Cond.initialized RX4, Cond.code yX4_countMapped cX4_countMapped 3 (some .int), Cond.fieldLink RX4 15 "BayerGate$Sensor" "mapped" "[Z", Cond.methodLink RX6 231 yX6_countEdits, Cond.instanceMethod yX6_countEdits, Cond.selects RX6 yX6_countEdits yX6_countEdits, Cond.code yX6_countEdits cX6_countEdits 3 (some .int), Cond.fieldLink RX6 25 "BayerGate" "frameRow" "[LBayerGate$Frame;", Cond.methodLink RX6 140 yX0_count, Cond.instanceMethod yX0_count, Cond.selects RX0 yX0_count yX0_count, Cond.initialized RX0]
def wsX6_many_r2 : List Cond := [Cond.code yX0_count cX0_count 1 (some .int), Cond.fieldLink RX0 18 "BayerGate$EditRow" "length" "I", Cond.methodLink RX6 234 yX4_countSpoilt, Cond.instanceMethod yX4_countSpoilt, Cond.selects RX4 yX4_countSpoilt yX4_countSpoilt, Cond.code yX4_countSpoilt cX4_countSpoilt 4 (some .int), Cond.fieldLink RX4 9 "BayerGate$Sensor" "hows" "[I"]
def wsX6_many : List Cond := .code yX6_many cX6_many 2 (some .int) :: ((wsX6_many_r1 ++ wsX6_many_r2) ++ wsX60 ++ wsX40 ++ wsX10 ++ wsX00 ++ (vx_atS RX6 66 "java/lang/IllegalArgumentException" ["java/lang/RuntimeException", "java/lang/Exception"]).filter goodWord)
def wsX6_apart_r1 : List Cond := [Cond.fieldLink RX6 50 "BayerGate" "developed" "LBayerGate$Picture;", Cond.fieldLink RX6 54 "BayerGate" "compared" "LBayerGate$Picture;", Cond.methodLink RX6 127 yX6_needFrame, Cond.instanceMethod yX6_needFrame, Cond.selects RX6 yX6_needFrame yX6_needFrame, Cond.initialized RX6, Cond.code yX6_needFrame cX6_needFrame 2 none, Cond.classLink RX6 284 "java/lang/IndexOutOfBoundsException", Cond.initialized "java/lang/IndexOutOfBoundsException", Cond.fieldLink RX6 35 "BayerGate" "frameCount" "I", Cond.methodLink RX6 162 yX6_developFrame, Cond.instanceMethod yX6_developFrame, Cond.selects RX6 yX6_developFrame yX6_developFrame, Cond.code yX6_developFrame cX6_developFrame 4 none, Cond.fieldLink RX6 25 "BayerGate" "frameRow" "[LBayerGate$Frame;", Cond.fieldLink RX6 19 "BayerGate" "sensor" "LBayerGate$Sensor;", Cond.methodLink RX6 246 yX2_compose, Cond.instanceMethod yX2_compose, Cond.selects RX2 yX2_compose yX2_compose, Cond.initialized RX2, Cond.code yX2_compose cX2_compose 5 none, Cond.methodLink RX2 19 yX0_hasMend, Cond.instanceMethod yX0_hasMend, Cond.selects RX0 yX0_hasMend yX0_hasMend]
def wsX6_apart_r2 : List Cond := [Cond.initialized RX0, Cond.code yX0_hasMend cX0_hasMend 2 (some .boolean), Cond.fieldLink RX0 18 "BayerGate$EditRow" "length" "I", Cond.fieldLink RX0 9 "BayerGate$EditRow" "kinds" "[I", Cond.methodLink RX2 25 yX2_mendAll, Cond.instanceMethod yX2_mendAll, Cond.selects RX2 yX2_mendAll yX2_mendAll, Cond.code yX2_mendAll cX2_mendAll 8 none, Cond.fieldLink RX2 15 "BayerGate$Picture" "mended" "[I", Cond.static yX6_placeOf, Cond.code yX6_placeOf cX6_placeOf 2 (some .int), Cond.methodLink RX2 57 yX2_mendedAt, Cond.static yX2_mendedAt, Cond.code yX2_mendedAt cX2_mendedAt 10 (some .int), Cond.static yX6_isPlace, Cond.code yX6_isPlace cX6_isPlace 2 (some .boolean), Cond.methodLink RX2 29 yX2_makeWhole, Cond.instanceMethod yX2_makeWhole, Cond.selects RX2 yX2_makeWhole yX2_makeWhole, Cond.code yX2_makeWhole cX2_makeWhole 7 none, Cond.fieldLink RX2 9 "BayerGate$Picture" "numbers" "[F", Cond.static yX6_colourSeen, Cond.code yX6_colourSeen cX6_colourSeen 2 (some .int), Cond.methodLink RX2 68 yX2_meanAround]
def wsX6_apart_r3 : List Cond := [Cond.instanceMethod yX2_meanAround, Cond.selects RX2 yX2_meanAround yX2_meanAround, Cond.code yX2_meanAround cX2_meanAround 8 (some .float), Cond.methodLink RX2 49 yX2_indexOf, Cond.static yX2_indexOf, Cond.code yX2_indexOf cX2_indexOf 2 (some .int), Cond.methodLink RX2 32 yX0_count, Cond.instanceMethod yX0_count, Cond.selects RX0 yX0_count yX0_count, Cond.code yX0_count cX0_count 1 (some .int), Cond.methodLink RX2 41 yX2_applyEdit, Cond.instanceMethod yX2_applyEdit, Cond.selects RX2 yX2_applyEdit yX2_applyEdit, Cond.code yX2_applyEdit cX2_applyEdit 3 none, Cond.constantFloat RX2 76 (1082130432), Cond.methodLink RX2 72 yX2_darken, Cond.instanceMethod yX2_darken, Cond.selects RX2 yX2_darken yX2_darken, Cond.code yX2_darken cX2_darken 4 none, Cond.methodLink RX2 77 yX2_scaleColour, Cond.instanceMethod yX2_scaleColour, Cond.selects RX2 yX2_scaleColour yX2_scaleColour, Cond.code yX2_scaleColour cX2_scaleColour 4 none, Cond.methodLink RX2 81 yX2_changeTone]
def wsX6_apart_r4 : List Cond := [Cond.instanceMethod yX2_changeTone, Cond.selects RX2 yX2_changeTone yX2_changeTone, Cond.code yX2_changeTone cX2_changeTone 3 none, Cond.constantFloat RX2 87 (1056964608), Cond.constantFloat RX2 53 (1132396544), Cond.methodLink RX2 84 yX2_turnOver, Cond.instanceMethod yX2_turnOver, Cond.selects RX2 yX2_turnOver yX2_turnOver, Cond.code yX2_turnOver cX2_turnOver 7 none, Cond.methodLink RX6 304 yX2_bound, Cond.instanceMethod yX2_bound, Cond.selects RX2 yX2_bound yX2_bound, Cond.code yX2_bound cX2_bound 2 none, Cond.methodLink RX2 45 yX2_bounded, Cond.static yX2_bounded, Cond.code yX2_bounded cX2_bounded 1 (some .float), Cond.methodLink RX6 238 yX2_farthestFrom, Cond.instanceMethod yX2_farthestFrom, Cond.selects RX2 yX2_farthestFrom yX2_farthestFrom, Cond.code yX2_farthestFrom cX2_farthestFrom 5 (some .float)]
def wsX6_apart : List Cond := .code yX6_apart cX6_apart 3 (some .double) :: ((wsX6_apart_r1 ++ (wsX6_apart_r2 ++ (wsX6_apart_r3 ++ wsX6_apart_r4))) ++ wsX60 ++ wsX10 ++ wsX40 ++ wsX00 ++ wsX20 ++ (vx_atS RX6 288 "java/lang/IndexOutOfBoundsException" ["java/lang/RuntimeException", "java/lang/Exception"]).filter goodWord)
def wsX6_wouldClip_r1 : List Cond := [Cond.fieldLink RX6 19 "BayerGate" "sensor" "LBayerGate$Sensor;", Cond.fieldLink RX6 12 "BayerGate" "scene" "LBayerGate$Scene;", Cond.fieldLink RX6 43 "BayerGate" "trial" "LBayerGate$Frame;", Cond.methodLink RX6 102 yX6_needExposure, Cond.static yX6_needExposure, Cond.initialized RX6, Cond.code yX6_needExposure cX6_needExposure 2 none, Cond.methodLink RX6 70 yX6_needRange, Cond.static yX6_needRange, Cond.code yX6_needRange cX6_needRange 3 none, Cond.classLink RX6 62 "java/lang/IllegalArgumentException", Cond.initialized "java/lang/IllegalArgumentException", Cond.methodLink RX6 108 yX4_expose, Cond.instanceMethod yX4_expose, Cond.selects RX4 yX4_expose yX4_expose, Cond.initialized RX4, Cond.code yX4_expose cX4_expose 10 (some .int), Cond.fieldLink RX4 19 "BayerGate$Sensor" "draw" "I", Cond.fieldLink RX4 9 "BayerGate$Sensor" "hows" "[I", Cond.static yX6_placeOf, Cond.code yX6_placeOf cX6_placeOf 2 (some .int), Cond.static yX6_colourSeen, Cond.code yX6_colourSeen cX6_colourSeen 2 (some .int), Cond.methodLink RX4 30 yX3_lightAt]
def wsX6_wouldClip_r2 : List Cond := [Cond.instanceMethod yX3_lightAt, Cond.selects RX3 yX3_lightAt yX3_lightAt, Cond.initialized RX3, Cond.code yX3_lightAt cX3_lightAt 4 (some .float), Cond.fieldLink RX3 15 "BayerGate$Scene" "factors" "[F", Cond.constantFloat RX3 28 (1098907648), Cond.methodLink RX3 24 yX3_shade, Cond.instanceMethod yX3_shade, Cond.selects RX3 yX3_shade yX3_shade, Cond.code yX3_shade cX3_shade 3 (some .int), Cond.fieldLink RX3 9 "BayerGate$Scene" "shades" "[I", Cond.methodLink RX4 41 yX4_rawOf, Cond.static yX4_rawOf, Cond.code yX4_rawOf cX4_rawOf 5 (some .int), Cond.methodLink RX4 51 Lib.Math.min.name, Cond.static Lib.Math.min.name, Cond.initialized "java/lang/Math", Cond.code Lib.Math.min.name Lib.Math.min.code 2 (some .int), Cond.methodLink RX4 56 Lib.Math.max.name, Cond.static Lib.Math.max.name, Cond.code Lib.Math.max.name Lib.Math.max.code 2 (some .int), Cond.methodLink RX6 183 yX1_countClipped, Cond.instanceMethod yX1_countClipped, Cond.selects RX1 yX1_countClipped yX1_countClipped]
def wsX6_wouldClip_r3 : List Cond := [Cond.initialized RX1, Cond.code yX1_countClipped cX1_countClipped 3 (some .int), Cond.fieldLink RX1 9 "BayerGate$Frame" "rawRow" "[I"]
def wsX6_wouldClip : List Cond := .code yX6_wouldClip cX6_wouldClip 3 (some .int) :: ((wsX6_wouldClip_r1 ++ (wsX6_wouldClip_r2 ++ wsX6_wouldClip_r3)) ++ wsX60 ++ wsX40 ++ wsX10 ++ wsX30 ++ (vx_atS RX6 66 "java/lang/IllegalArgumentException" ["java/lang/RuntimeException", "java/lang/Exception"]).filter goodWord)
def wsX6_bestTake_r1 : List Cond := [Cond.fieldLink RX6 19 "BayerGate" "sensor" "LBayerGate$Sensor;", Cond.fieldLink RX6 12 "BayerGate" "scene" "LBayerGate$Scene;", Cond.fieldLink RX6 43 "BayerGate" "trial" "LBayerGate$Frame;", Cond.methodLink RX6 70 yX6_needRange, Cond.static yX6_needRange, Cond.initialized RX6, Cond.code yX6_needRange cX6_needRange 3 none, Cond.classLink RX6 62 "java/lang/IllegalArgumentException", Cond.initialized "java/lang/IllegalArgumentException", Cond.methodLink RX6 108 yX4_expose, Cond.instanceMethod yX4_expose, Cond.selects RX4 yX4_expose yX4_expose, Cond.initialized RX4, Cond.code yX4_expose cX4_expose 10 (some .int), Cond.fieldLink RX4 19 "BayerGate$Sensor" "draw" "I", Cond.fieldLink RX4 9 "BayerGate$Sensor" "hows" "[I", Cond.static yX6_placeOf, Cond.code yX6_placeOf cX6_placeOf 2 (some .int), Cond.static yX6_colourSeen, Cond.code yX6_colourSeen cX6_colourSeen 2 (some .int), Cond.methodLink RX4 30 yX3_lightAt, Cond.instanceMethod yX3_lightAt, Cond.selects RX3 yX3_lightAt yX3_lightAt, Cond.initialized RX3]
def wsX6_bestTake_r2 : List Cond := [Cond.code yX3_lightAt cX3_lightAt 4 (some .float), Cond.fieldLink RX3 15 "BayerGate$Scene" "factors" "[F", Cond.constantFloat RX3 28 (1098907648), Cond.methodLink RX3 24 yX3_shade, Cond.instanceMethod yX3_shade, Cond.selects RX3 yX3_shade yX3_shade, Cond.code yX3_shade cX3_shade 3 (some .int), Cond.fieldLink RX3 9 "BayerGate$Scene" "shades" "[I", Cond.methodLink RX4 41 yX4_rawOf, Cond.static yX4_rawOf, Cond.code yX4_rawOf cX4_rawOf 5 (some .int), Cond.methodLink RX4 51 Lib.Math.min.name, Cond.static Lib.Math.min.name, Cond.initialized "java/lang/Math", Cond.code Lib.Math.min.name Lib.Math.min.code 2 (some .int), Cond.methodLink RX4 56 Lib.Math.max.name, Cond.static Lib.Math.max.name, Cond.code Lib.Math.max.name Lib.Math.max.code 2 (some .int), Cond.methodLink RX6 207 yX1_meanOfZones, Cond.instanceMethod yX1_meanOfZones, Cond.selects RX1 yX1_meanOfZones yX1_meanOfZones, Cond.initialized RX1, Cond.code yX1_meanOfZones cX1_meanOfZones 4 (some .double), Cond.constantDouble RX1 60 (4616189618054758400)]
def wsX6_bestTake_r3 : List Cond := [Cond.methodLink RX1 56 yX1_meanOfZone, Cond.instanceMethod yX1_meanOfZone, Cond.selects RX1 yX1_meanOfZone yX1_meanOfZone, Cond.code yX1_meanOfZone cX1_meanOfZone 7 (some .double), Cond.fieldLink RX1 9 "BayerGate$Frame" "rawRow" "[I", Cond.constantDouble RX1 54 (4620693217682128896)]
def wsX6_bestTake : List Cond := .code yX6_bestTake cX6_bestTake 9 (some .int) :: ((wsX6_bestTake_r1 ++ (wsX6_bestTake_r2 ++ wsX6_bestTake_r3)) ++ wsX60 ++ wsX40 ++ wsX10 ++ wsX30 ++ (vx_atS RX6 66 "java/lang/IllegalArgumentException" ["java/lang/RuntimeException", "java/lang/Exception"]).filter goodWord)
def wsX6_bestWhite_r1 : List Cond := [Cond.fieldLink RX6 25 "BayerGate" "frameRow" "[LBayerGate$Frame;", Cond.fieldLink RX6 50 "BayerGate" "developed" "LBayerGate$Picture;", Cond.fieldLink RX6 19 "BayerGate" "sensor" "LBayerGate$Sensor;", Cond.constantFloat RX6 254 (1082130432), Cond.methodLink RX6 255 Lib.Math.abs.name, Cond.static Lib.Math.abs.name, Cond.initialized "java/lang/Math", Cond.code Lib.Math.abs.name Lib.Math.abs.code 1 (some .int), Cond.methodLink RX6 127 yX6_needFrame, Cond.instanceMethod yX6_needFrame, Cond.selects RX6 yX6_needFrame yX6_needFrame, Cond.initialized RX6, Cond.code yX6_needFrame cX6_needFrame 2 none, Cond.classLink RX6 284 "java/lang/IndexOutOfBoundsException", Cond.initialized "java/lang/IndexOutOfBoundsException", Cond.fieldLink RX6 35 "BayerGate" "frameCount" "I", Cond.methodLink RX6 70 yX6_needRange, Cond.static yX6_needRange, Cond.code yX6_needRange cX6_needRange 3 none, Cond.classLink RX6 62 "java/lang/IllegalArgumentException", Cond.initialized "java/lang/IllegalArgumentException", Cond.methodLink RX6 246 yX2_compose, Cond.instanceMethod yX2_compose, Cond.selects RX2 yX2_compose yX2_compose]
def wsX6_bestWhite_r2 : List Cond := [Cond.initialized RX2, Cond.code yX2_compose cX2_compose 5 none, Cond.methodLink RX2 19 yX0_hasMend, Cond.instanceMethod yX0_hasMend, Cond.selects RX0 yX0_hasMend yX0_hasMend, Cond.initialized RX0, Cond.code yX0_hasMend cX0_hasMend 2 (some .boolean), Cond.fieldLink RX0 18 "BayerGate$EditRow" "length" "I", Cond.fieldLink RX0 9 "BayerGate$EditRow" "kinds" "[I", Cond.methodLink RX2 25 yX2_mendAll, Cond.instanceMethod yX2_mendAll, Cond.selects RX2 yX2_mendAll yX2_mendAll, Cond.code yX2_mendAll cX2_mendAll 8 none, Cond.fieldLink RX2 15 "BayerGate$Picture" "mended" "[I", Cond.static yX6_placeOf, Cond.code yX6_placeOf cX6_placeOf 2 (some .int), Cond.methodLink RX2 57 yX2_mendedAt, Cond.static yX2_mendedAt, Cond.code yX2_mendedAt cX2_mendedAt 10 (some .int), Cond.static yX6_isPlace, Cond.code yX6_isPlace cX6_isPlace 2 (some .boolean), Cond.methodLink RX2 29 yX2_makeWhole, Cond.instanceMethod yX2_makeWhole, Cond.selects RX2 yX2_makeWhole yX2_makeWhole]
def wsX6_bestWhite_r3 : List Cond := [Cond.code yX2_makeWhole cX2_makeWhole 7 none, Cond.fieldLink RX2 9 "BayerGate$Picture" "numbers" "[F", Cond.static yX6_colourSeen, Cond.code yX6_colourSeen cX6_colourSeen 2 (some .int), Cond.methodLink RX2 68 yX2_meanAround, Cond.instanceMethod yX2_meanAround, Cond.selects RX2 yX2_meanAround yX2_meanAround, Cond.code yX2_meanAround cX2_meanAround 8 (some .float), Cond.methodLink RX2 49 yX2_indexOf, Cond.static yX2_indexOf, Cond.code yX2_indexOf cX2_indexOf 2 (some .int), Cond.methodLink RX2 32 yX0_count, Cond.instanceMethod yX0_count, Cond.selects RX0 yX0_count yX0_count, Cond.code yX0_count cX0_count 1 (some .int), Cond.methodLink RX2 41 yX2_applyEdit, Cond.instanceMethod yX2_applyEdit, Cond.selects RX2 yX2_applyEdit yX2_applyEdit, Cond.code yX2_applyEdit cX2_applyEdit 3 none, Cond.constantFloat RX2 76 (1082130432), Cond.methodLink RX2 72 yX2_darken, Cond.instanceMethod yX2_darken, Cond.selects RX2 yX2_darken yX2_darken, Cond.code yX2_darken cX2_darken 4 none]
def wsX6_bestWhite_r4 : List Cond := [Cond.methodLink RX2 77 yX2_scaleColour, Cond.instanceMethod yX2_scaleColour, Cond.selects RX2 yX2_scaleColour yX2_scaleColour, Cond.code yX2_scaleColour cX2_scaleColour 4 none, Cond.methodLink RX2 81 yX2_changeTone, Cond.instanceMethod yX2_changeTone, Cond.selects RX2 yX2_changeTone yX2_changeTone, Cond.code yX2_changeTone cX2_changeTone 3 none, Cond.constantFloat RX2 87 (1056964608), Cond.constantFloat RX2 53 (1132396544), Cond.methodLink RX2 84 yX2_turnOver, Cond.instanceMethod yX2_turnOver, Cond.selects RX2 yX2_turnOver yX2_turnOver, Cond.code yX2_turnOver cX2_turnOver 7 none, Cond.methodLink RX6 250 yX2_sumTones, Cond.instanceMethod yX2_sumTones, Cond.selects RX2 yX2_sumTones yX2_sumTones, Cond.code yX2_sumTones cX2_sumTones 5 (some .int), Cond.methodLink RX2 45 yX2_bounded, Cond.static yX2_bounded, Cond.code yX2_bounded cX2_bounded 1 (some .float), Cond.methodLink RX6 130 yX6_leastNumber, Cond.static yX6_leastNumber, Cond.code yX6_leastNumber cX6_leastNumber 1 (some .int)]
def wsX6_bestWhite_r5 : List Cond := [Cond.methodLink RX6 133 yX6_mostNumber, Cond.static yX6_mostNumber, Cond.code yX6_mostNumber cX6_mostNumber 1 (some .int)]
def wsX6_bestWhite : List Cond := .code yX6_bestWhite cX6_bestWhite 10 (some .int) :: ((wsX6_bestWhite_r1 ++ (wsX6_bestWhite_r2 ++ (wsX6_bestWhite_r3 ++ (wsX6_bestWhite_r4 ++ wsX6_bestWhite_r5)))) ++ wsX60 ++ wsX10 ++ wsX40 ++ wsX00 ++ wsX20 ++ (vx_atS RX6 288 "java/lang/IndexOutOfBoundsException" ["java/lang/RuntimeException", "java/lang/Exception"]).filter goodWord ++ (vx_atS RX6 66 "java/lang/IllegalArgumentException" ["java/lang/RuntimeException", "java/lang/Exception"]).filter goodWord)
def wsX6_digest_r1 : List Cond := [Cond.constantLong RX6 260 (9602), Cond.constantLong RX6 262 (31), Cond.fieldLink RX6 35 "BayerGate" "frameCount" "I", Cond.constantDouble RX6 276 (4629700416936869888), Cond.fieldLink RX6 25 "BayerGate" "frameRow" "[LBayerGate$Frame;", Cond.fieldLink RX6 39 "BayerGate" "fileCount" "I", Cond.methodLink RX6 264 yX6_many, Cond.instanceMethod yX6_many, Cond.selects RX6 yX6_many yX6_many, Cond.initialized RX6, Cond.code yX6_many cX6_many 2 (some .int), Cond.fieldLink RX6 19 "BayerGate" "sensor" "LBayerGate$Sensor;", Cond.methodLink RX6 70 yX6_needRange, Cond.static yX6_needRange, Cond.code yX6_needRange cX6_needRange 3 none, Cond.classLink RX6 62 "java/lang/IllegalArgumentException", Cond.initialized "java/lang/IllegalArgumentException", Cond.methodLink RX6 99 yX4_countMapped, Cond.instanceMethod yX4_countMapped, Cond.selects RX4 yX4_countMapped yX4_countMapped, Cond.initialized RX4, Cond.code yX4_countMapped cX4_countMapped 3 (some .int), Cond.fieldLink RX4 15 "BayerGate$Sensor" "mapped" "[Z", Cond.methodLink RX6 231 yX6_countEdits]
def wsX6_digest_r2 : List Cond := [Cond.instanceMethod yX6_countEdits, Cond.selects RX6 yX6_countEdits yX6_countEdits, Cond.code yX6_countEdits cX6_countEdits 3 (some .int), Cond.methodLink RX6 140 yX0_count, Cond.instanceMethod yX0_count, Cond.selects RX0 yX0_count yX0_count, Cond.initialized RX0, Cond.code yX0_count cX0_count 1 (some .int), Cond.fieldLink RX0 18 "BayerGate$EditRow" "length" "I", Cond.methodLink RX6 234 yX4_countSpoilt, Cond.instanceMethod yX4_countSpoilt, Cond.selects RX4 yX4_countSpoilt yX4_countSpoilt, Cond.code yX4_countSpoilt cX4_countSpoilt 4 (some .int), Cond.fieldLink RX4 9 "BayerGate$Sensor" "hows" "[I", Cond.methodLink RX6 267 yX6_ofFrame, Cond.instanceMethod yX6_ofFrame, Cond.selects RX6 yX6_ofFrame yX6_ofFrame, Cond.code yX6_ofFrame cX6_ofFrame 4 (some .int), Cond.methodLink RX6 127 yX6_needFrame, Cond.instanceMethod yX6_needFrame, Cond.selects RX6 yX6_needFrame yX6_needFrame, Cond.code yX6_needFrame cX6_needFrame 2 none, Cond.classLink RX6 284 "java/lang/IndexOutOfBoundsException", Cond.initialized "java/lang/IndexOutOfBoundsException"]
def wsX6_digest_r3 : List Cond := [Cond.methodLink RX6 183 yX1_countClipped, Cond.instanceMethod yX1_countClipped, Cond.selects RX1 yX1_countClipped yX1_countClipped, Cond.initialized RX1, Cond.code yX1_countClipped cX1_countClipped 3 (some .int), Cond.fieldLink RX1 9 "BayerGate$Frame" "rawRow" "[I", Cond.methodLink RX6 189 yX1_sharpness, Cond.instanceMethod yX1_sharpness, Cond.selects RX1 yX1_sharpness yX1_sharpness, Cond.code yX1_sharpness cX1_sharpness 4 (some .int), Cond.methodLink RX1 39 Lib.Math.abs.name, Cond.static Lib.Math.abs.name, Cond.initialized "java/lang/Math", Cond.code Lib.Math.abs.name Lib.Math.abs.code 1 (some .int), Cond.static yX6_colourSeen, Cond.code yX6_colourSeen cX6_colourSeen 2 (some .int), Cond.static yX6_placeOf, Cond.code yX6_placeOf cX6_placeOf 2 (some .int), Cond.methodLink RX6 192 yX1_whiteOf, Cond.instanceMethod yX1_whiteOf, Cond.selects RX1 yX1_whiteOf yX1_whiteOf, Cond.code yX1_whiteOf cX1_whiteOf 3 (some .int), Cond.methodLink RX1 48 Lib.Math.min.name, Cond.static Lib.Math.min.name]
def wsX6_digest_r4 : List Cond := [Cond.code Lib.Math.min.name Lib.Math.min.code 2 (some .int), Cond.methodLink RX1 51 Lib.Math.max.name, Cond.static Lib.Math.max.name, Cond.code Lib.Math.max.name Lib.Math.max.code 2 (some .int), Cond.methodLink RX1 45 yX1_sumSeen, Cond.instanceMethod yX1_sumSeen, Cond.selects RX1 yX1_sumSeen yX1_sumSeen, Cond.code yX1_sumSeen cX1_sumSeen 5 (some .int), Cond.methodLink RX6 151 yX6_countFilesOf, Cond.instanceMethod yX6_countFilesOf, Cond.selects RX6 yX6_countFilesOf yX6_countFilesOf, Cond.code yX6_countFilesOf cX6_countFilesOf 4 (some .int), Cond.fieldLink RX6 31 "BayerGate" "fileRow" "[LBayerGate$StoredFile;", Cond.methodLink RX6 270 yX6_word, Cond.instanceMethod yX6_word, Cond.selects RX6 yX6_word yX6_word, Cond.code yX6_word cX6_word 2 (some .int), Cond.methodLink RX6 173 yX6_wordBehind, Cond.instanceMethod yX6_wordBehind, Cond.selects RX6 yX6_wordBehind yX6_wordBehind, Cond.code yX6_wordBehind cX6_wordBehind 3 (some .int), Cond.fieldLink RX6 50 "BayerGate" "developed" "LBayerGate$Picture;", Cond.methodLink RX6 246 yX2_compose, Cond.instanceMethod yX2_compose]
def wsX6_digest_r5 : List Cond := [Cond.selects RX2 yX2_compose yX2_compose, Cond.initialized RX2, Cond.code yX2_compose cX2_compose 5 none, Cond.methodLink RX2 19 yX0_hasMend, Cond.instanceMethod yX0_hasMend, Cond.selects RX0 yX0_hasMend yX0_hasMend, Cond.code yX0_hasMend cX0_hasMend 2 (some .boolean), Cond.fieldLink RX0 9 "BayerGate$EditRow" "kinds" "[I", Cond.methodLink RX2 25 yX2_mendAll, Cond.instanceMethod yX2_mendAll, Cond.selects RX2 yX2_mendAll yX2_mendAll, Cond.code yX2_mendAll cX2_mendAll 8 none, Cond.fieldLink RX2 15 "BayerGate$Picture" "mended" "[I", Cond.methodLink RX2 57 yX2_mendedAt, Cond.static yX2_mendedAt, Cond.code yX2_mendedAt cX2_mendedAt 10 (some .int), Cond.static yX6_isPlace, Cond.code yX6_isPlace cX6_isPlace 2 (some .boolean), Cond.methodLink RX2 29 yX2_makeWhole, Cond.instanceMethod yX2_makeWhole, Cond.selects RX2 yX2_makeWhole yX2_makeWhole, Cond.code yX2_makeWhole cX2_makeWhole 7 none, Cond.fieldLink RX2 9 "BayerGate$Picture" "numbers" "[F", Cond.methodLink RX2 68 yX2_meanAround]
def wsX6_digest_r6 : List Cond := [Cond.instanceMethod yX2_meanAround, Cond.selects RX2 yX2_meanAround yX2_meanAround, Cond.code yX2_meanAround cX2_meanAround 8 (some .float), Cond.methodLink RX2 49 yX2_indexOf, Cond.static yX2_indexOf, Cond.code yX2_indexOf cX2_indexOf 2 (some .int), Cond.methodLink RX2 32 yX0_count, Cond.methodLink RX2 41 yX2_applyEdit, Cond.instanceMethod yX2_applyEdit, Cond.selects RX2 yX2_applyEdit yX2_applyEdit, Cond.code yX2_applyEdit cX2_applyEdit 3 none, Cond.constantFloat RX2 76 (1082130432), Cond.methodLink RX2 72 yX2_darken, Cond.instanceMethod yX2_darken, Cond.selects RX2 yX2_darken yX2_darken, Cond.code yX2_darken cX2_darken 4 none, Cond.methodLink RX2 77 yX2_scaleColour, Cond.instanceMethod yX2_scaleColour, Cond.selects RX2 yX2_scaleColour yX2_scaleColour, Cond.code yX2_scaleColour cX2_scaleColour 4 none, Cond.methodLink RX2 81 yX2_changeTone, Cond.instanceMethod yX2_changeTone, Cond.selects RX2 yX2_changeTone yX2_changeTone, Cond.code yX2_changeTone cX2_changeTone 3 none]
def wsX6_digest_r7 : List Cond := [Cond.constantFloat RX2 87 (1056964608), Cond.constantFloat RX2 53 (1132396544), Cond.methodLink RX2 84 yX2_turnOver, Cond.instanceMethod yX2_turnOver, Cond.selects RX2 yX2_turnOver yX2_turnOver, Cond.code yX2_turnOver cX2_turnOver 7 none, Cond.methodLink RX6 304 yX2_bound, Cond.instanceMethod yX2_bound, Cond.selects RX2 yX2_bound yX2_bound, Cond.code yX2_bound cX2_bound 2 none, Cond.methodLink RX2 45 yX2_bounded, Cond.static yX2_bounded, Cond.code yX2_bounded cX2_bounded 1 (some .float), Cond.methodLink RX6 307 yX2_sumUp, Cond.instanceMethod yX2_sumUp, Cond.selects RX2 yX2_sumUp yX2_sumUp, Cond.code yX2_sumUp cX2_sumUp 3 (some .int), Cond.methodLink RX6 273 yX6_meter, Cond.instanceMethod yX6_meter, Cond.selects RX6 yX6_meter yX6_meter, Cond.code yX6_meter cX6_meter 2 (some .double), Cond.methodLink RX6 207 yX1_meanOfZones, Cond.instanceMethod yX1_meanOfZones, Cond.selects RX1 yX1_meanOfZones yX1_meanOfZones]
def wsX6_digest_r8 : List Cond := [Cond.code yX1_meanOfZones cX1_meanOfZones 4 (some .double), Cond.constantDouble RX1 60 (4616189618054758400), Cond.methodLink RX1 56 yX1_meanOfZone, Cond.instanceMethod yX1_meanOfZone, Cond.selects RX1 yX1_meanOfZone yX1_meanOfZone, Cond.code yX1_meanOfZone cX1_meanOfZone 7 (some .double), Cond.constantDouble RX1 54 (4620693217682128896), Cond.methodLink RX6 278 yX6_ofFile, Cond.instanceMethod yX6_ofFile, Cond.selects RX6 yX6_ofFile yX6_ofFile, Cond.code yX6_ofFile cX6_ofFile 4 (some .int), Cond.methodLink RX6 195 yX6_needIndex, Cond.static yX6_needIndex, Cond.code yX6_needIndex cX6_needIndex 2 none, Cond.methodLink RX6 281 yX6_wouldClip, Cond.instanceMethod yX6_wouldClip, Cond.selects RX6 yX6_wouldClip yX6_wouldClip, Cond.code yX6_wouldClip cX6_wouldClip 3 (some .int), Cond.fieldLink RX6 12 "BayerGate" "scene" "LBayerGate$Scene;", Cond.fieldLink RX6 43 "BayerGate" "trial" "LBayerGate$Frame;", Cond.methodLink RX6 102 yX6_needExposure, Cond.static yX6_needExposure, Cond.code yX6_needExposure cX6_needExposure 2 none, Cond.methodLink RX6 108 yX4_expose]
def wsX6_digest_r9 : List Cond := [Cond.instanceMethod yX4_expose, Cond.selects RX4 yX4_expose yX4_expose, Cond.code yX4_expose cX4_expose 10 (some .int), Cond.fieldLink RX4 19 "BayerGate$Sensor" "draw" "I", Cond.methodLink RX4 30 yX3_lightAt, Cond.instanceMethod yX3_lightAt, Cond.selects RX3 yX3_lightAt yX3_lightAt, Cond.initialized RX3, Cond.code yX3_lightAt cX3_lightAt 4 (some .float), Cond.fieldLink RX3 15 "BayerGate$Scene" "factors" "[F", Cond.constantFloat RX3 28 (1098907648), Cond.methodLink RX3 24 yX3_shade, Cond.instanceMethod yX3_shade, Cond.selects RX3 yX3_shade yX3_shade, Cond.code yX3_shade cX3_shade 3 (some .int), Cond.fieldLink RX3 9 "BayerGate$Scene" "shades" "[I", Cond.methodLink RX4 41 yX4_rawOf, Cond.static yX4_rawOf, Cond.code yX4_rawOf cX4_rawOf 5 (some .int), Cond.methodLink RX4 51 Lib.Math.min.name, Cond.methodLink RX4 56 Lib.Math.max.name]
def wsX6_digest : List Cond := .code yX6_digest cX6_digest 6 (some .long) :: ((wsX6_digest_r1 ++ (wsX6_digest_r2 ++ (wsX6_digest_r3 ++ (wsX6_digest_r4 ++ (wsX6_digest_r5 ++ (wsX6_digest_r6 ++ (wsX6_digest_r7 ++ (wsX6_digest_r8 ++ wsX6_digest_r9)))))))) ++ wsX60 ++ wsX10 ++ wsX40 ++ wsX00 ++ wsX50 ++ wsX20 ++ wsX30 ++ (vx_atS RX6 66 "java/lang/IllegalArgumentException" ["java/lang/RuntimeException", "java/lang/Exception"]).filter goodWord ++ (vx_atS RX6 288 "java/lang/IndexOutOfBoundsException" ["java/lang/RuntimeException", "java/lang/Exception"]).filter goodWord)
set_option maxRecDepth 20000 in
theorem ggX1_init_X0_init : GoodIn wsX1_init wsX0_init := goodIn_r _ [14, 15, 2, 3, 4, 16, 17, 18, 24, 25, 26] (by decide +kernel) (by decide +kernel)
set_option maxRecDepth 20000 in
theorem gX1_init_X0_init_n17 : GoodIn wsX1_init (wsX0_init) := ggX1_init_X0_init
set_option maxRecDepth 20000 in
theorem ggX1_sharpness_X6_colourSeen : GoodIn wsX1_sharpness wsX6_colourSeen := goodIn_r _ [8] (by decide +kernel) (by decide +kernel)
set_option maxRecDepth 20000 in
theorem gX1_sharpness_X6_colourSeen_n32 : GoodIn wsX1_sharpness (wsX6_colourSeen) := ggX1_sharpness_X6_colourSeen
set_option maxRecDepth 20000 in
theorem ggX1_sharpness_X6_placeOf : GoodIn wsX1_sharpness wsX6_placeOf := goodIn_r _ [10] (by decide +kernel) (by decide +kernel)
set_option maxRecDepth 20000 in
theorem gX1_sharpness_X6_placeOf_n36 : GoodIn wsX1_sharpness (wsX6_placeOf) := ggX1_sharpness_X6_placeOf
set_option maxRecDepth 20000 in
theorem ggX1_whiteOf_X1_sumSeen : GoodIn wsX1_whiteOf wsX1_sumSeen := goodIn_r _ [12, 13, 14, 15, 16, 17, 18, 19, 20, 21, 22, 23] (by decide +kernel) (by decide +kernel)
set_option maxRecDepth 20000 in
theorem gX1_whiteOf_X1_sumSeen : GoodIn wsX1_whiteOf (wsV RX1 45 RX1 yX1_sumSeen wsX1_sumSeen) := goodIn_app (goodIn_of _ (by decide +kernel)) ggX1_whiteOf_X1_sumSeen
set_option maxRecDepth 20000 in
theorem ggX1_sumSeen_X6_colourSeen : GoodIn wsX1_sumSeen wsX6_colourSeen := goodIn_r _ [4] (by decide +kernel) (by decide +kernel)
set_option maxRecDepth 20000 in
theorem gX1_sumSeen_X6_colourSeen_n32 : GoodIn wsX1_sumSeen (wsX6_colourSeen) := ggX1_sumSeen_X6_colourSeen
set_option maxRecDepth 20000 in
theorem ggX1_sumSeen_X6_placeOf : GoodIn wsX1_sumSeen wsX6_placeOf := goodIn_r _ [6] (by decide +kernel) (by decide +kernel)
set_option maxRecDepth 20000 in
theorem gX1_sumSeen_X6_placeOf_n36 : GoodIn wsX1_sumSeen (wsX6_placeOf) := ggX1_sumSeen_X6_placeOf
set_option maxRecDepth 20000 in
theorem ggX1_meanOfZone_X6_colourSeen : GoodIn wsX1_meanOfZone wsX6_colourSeen := goodIn_r _ [5] (by decide +kernel) (by decide +kernel)
set_option maxRecDepth 20000 in
theorem gX1_meanOfZone_X6_colourSeen_n32 : GoodIn wsX1_meanOfZone (wsX6_colourSeen) := ggX1_meanOfZone_X6_colourSeen
set_option maxRecDepth 20000 in
theorem ggX1_meanOfZone_X6_placeOf : GoodIn wsX1_meanOfZone wsX6_placeOf := goodIn_r _ [7] (by decide +kernel) (by decide +kernel)
set_option maxRecDepth 20000 in
theorem gX1_meanOfZone_X6_placeOf_n36 : GoodIn wsX1_meanOfZone (wsX6_placeOf) := ggX1_meanOfZone_X6_placeOf
set_option maxRecDepth 20000 in
theorem ggX1_meanOfZones_X1_meanOfZone : GoodIn wsX1_meanOfZones wsX1_meanOfZone := goodIn_r _ [6, 7, 8, 9, 10, 11, 12, 13, 14, 15, 16, 17, 18] (by decide +kernel) (by decide +kernel)
set_option maxRecDepth 20000 in
theorem gX1_meanOfZones_X1_meanOfZone : GoodIn wsX1_meanOfZones (wsV RX1 56 RX1 yX1_meanOfZone wsX1_meanOfZone) := goodIn_app (goodIn_of _ (by decide +kernel)) ggX1_meanOfZones_X1_meanOfZone
set_option maxRecDepth 20000 in
theorem ggX2_compose_X0_hasMend : GoodIn wsX2_compose wsX0_hasMend := goodIn_r _ [5, 6, 7, 63, 64, 65] (by decide +kernel) (by decide +kernel)
set_option maxRecDepth 20000 in
theorem gX2_compose_X0_hasMend : GoodIn wsX2_compose (wsV RX2 19 RX0 yX0_hasMend wsX0_hasMend) := goodIn_app (goodIn_of _ (by decide +kernel)) ggX2_compose_X0_hasMend
set_option maxRecDepth 20000 in
theorem ggX2_compose_X2_mendAll : GoodIn wsX2_compose wsX2_mendAll := goodIn_r _ [12, 13, 14, 15, 16, 17, 18, 11, 19, 20, 21, 66, 67] (by decide +kernel) (by decide +kernel)
set_option maxRecDepth 20000 in
theorem gX2_compose_X2_mendAll : GoodIn wsX2_compose (wsV RX2 25 RX2 yX2_mendAll wsX2_mendAll) := goodIn_app (goodIn_of _ (by decide +kernel)) ggX2_compose_X2_mendAll
set_option maxRecDepth 20000 in
theorem ggX2_compose_X2_makeWhole : GoodIn wsX2_compose wsX2_makeWhole := goodIn_r _ [25, 13, 26, 14, 15, 16, 27, 28, 29, 30, 31, 11, 32, 20, 21, 33, 34, 35, 66, 67] (by decide +kernel) (by decide +kernel)
set_option maxRecDepth 20000 in
theorem gX2_compose_X2_makeWhole : GoodIn wsX2_compose (wsV RX2 29 RX2 yX2_makeWhole wsX2_makeWhole) := goodIn_app (goodIn_of _ (by decide +kernel)) ggX2_compose_X2_makeWhole
set_option maxRecDepth 20000 in
theorem ggX2_compose_X0_count : GoodIn wsX2_compose wsX0_count := goodIn_r _ [39, 6, 63, 64, 65] (by decide +kernel) (by decide +kernel)
set_option maxRecDepth 20000 in
theorem gX2_compose_X0_count : GoodIn wsX2_compose (wsV RX2 32 RX0 yX0_count wsX0_count) := goodIn_app (goodIn_of _ (by decide +kernel)) ggX2_compose_X0_count
set_option maxRecDepth 20000 in
theorem ggX2_compose_X2_applyEdit : GoodIn wsX2_compose wsX2_applyEdit := goodIn_r _ [43, 44, 45, 46, 47, 11, 48, 26, 49, 50, 51, 52, 33, 34, 35, 53, 54, 55, 56, 57, 58, 59, 60, 61, 62, 14, 15, 16, 66, 67] (by decide +kernel) (by decide +kernel)
set_option maxRecDepth 20000 in
theorem gX2_compose_X2_applyEdit : GoodIn wsX2_compose (wsV RX2 41 RX2 yX2_applyEdit wsX2_applyEdit) := goodIn_app (goodIn_of _ (by decide +kernel)) ggX2_compose_X2_applyEdit
set_option maxRecDepth 20000 in
theorem ggX2_bound_X2_bounded : GoodIn wsX2_bound wsX2_bounded := goodIn_r _ [5, 6] (by decide +kernel) (by decide +kernel)
set_option maxRecDepth 20000 in
theorem gX2_bound_X2_bounded : GoodIn wsX2_bound (va_wsS RX2 45 yX2_bounded wsX2_bounded) := goodIn_app (goodIn_of _ (by decide +kernel)) ggX2_bound_X2_bounded
set_option maxRecDepth 20000 in
theorem ggX2_sumTones_X2_indexOf : GoodIn wsX2_sumTones wsX2_indexOf := goodIn_r _ [5] (by decide +kernel) (by decide +kernel)
set_option maxRecDepth 20000 in
theorem gX2_sumTones_X2_indexOf : GoodIn wsX2_sumTones (va_wsS RX2 49 yX2_indexOf wsX2_indexOf) := goodIn_app (goodIn_of _ (by decide +kernel)) ggX2_sumTones_X2_indexOf
set_option maxRecDepth 20000 in
theorem ggX2_sumTones_X2_bounded : GoodIn wsX2_sumTones wsX2_bounded := goodIn_r _ [8, 9] (by decide +kernel) (by decide +kernel)
set_option maxRecDepth 20000 in
theorem gX2_sumTones_X2_bounded : GoodIn wsX2_sumTones (va_wsS RX2 45 yX2_bounded wsX2_bounded) := goodIn_app (goodIn_of _ (by decide +kernel)) ggX2_sumTones_X2_bounded
set_option maxRecDepth 20000 in
theorem ggX2_mendAll_X6_placeOf : GoodIn wsX2_mendAll wsX6_placeOf := goodIn_r _ [4] (by decide +kernel) (by decide +kernel)
set_option maxRecDepth 20000 in
theorem gX2_mendAll_X6_placeOf_n54 : GoodIn wsX2_mendAll (wsX6_placeOf) := ggX2_mendAll_X6_placeOf
set_option maxRecDepth 20000 in
theorem ggX2_mendAll_X2_mendedAt : GoodIn wsX2_mendAll wsX2_mendedAt := goodIn_r _ [8, 9, 3, 10, 2, 4] (by decide +kernel) (by decide +kernel)
set_option maxRecDepth 20000 in
theorem gX2_mendAll_X2_mendedAt : GoodIn wsX2_mendAll (va_wsS RX2 57 yX2_mendedAt wsX2_mendedAt) := goodIn_app (goodIn_of _ (by decide +kernel)) ggX2_mendAll_X2_mendedAt
set_option maxRecDepth 20000 in
theorem ggX2_mendedAt_X6_isPlace : GoodIn wsX2_mendedAt wsX6_isPlace := goodIn_r _ [3] (by decide +kernel) (by decide +kernel)
set_option maxRecDepth 20000 in
theorem gX2_mendedAt_X6_isPlace_n61 : GoodIn wsX2_mendedAt (wsX6_isPlace) := ggX2_mendedAt_X6_isPlace
set_option maxRecDepth 20000 in
theorem ggX2_mendedAt_X6_placeOf : GoodIn wsX2_mendedAt wsX6_placeOf := goodIn_r _ [5] (by decide +kernel) (by decide +kernel)
set_option maxRecDepth 20000 in
theorem gX2_mendedAt_X6_placeOf_n54 : GoodIn wsX2_mendedAt (wsX6_placeOf) := ggX2_mendedAt_X6_placeOf
set_option maxRecDepth 20000 in
theorem ggX2_makeWhole_X6_placeOf : GoodIn wsX2_makeWhole wsX6_placeOf := goodIn_r _ [5] (by decide +kernel) (by decide +kernel)
set_option maxRecDepth 20000 in
theorem gX2_makeWhole_X6_placeOf_n54 : GoodIn wsX2_makeWhole (wsX6_placeOf) := ggX2_makeWhole_X6_placeOf
set_option maxRecDepth 20000 in
theorem ggX2_makeWhole_X6_colourSeen : GoodIn wsX2_makeWhole wsX6_colourSeen := goodIn_r _ [7] (by decide +kernel) (by decide +kernel)
set_option maxRecDepth 20000 in
theorem gX2_makeWhole_X6_colourSeen_n65 : GoodIn wsX2_makeWhole (wsX6_colourSeen) := ggX2_makeWhole_X6_colourSeen
set_option maxRecDepth 20000 in
theorem ggX2_makeWhole_X2_meanAround : GoodIn wsX2_makeWhole wsX2_meanAround := goodIn_r _ [12, 1, 13, 4, 14, 6, 7, 3, 5, 18, 19] (by decide +kernel) (by decide +kernel)
set_option maxRecDepth 20000 in
theorem gX2_makeWhole_X2_meanAround : GoodIn wsX2_makeWhole (wsV RX2 68 RX2 yX2_meanAround wsX2_meanAround) := goodIn_app (goodIn_of _ (by decide +kernel)) ggX2_makeWhole_X2_meanAround
set_option maxRecDepth 20000 in
theorem ggX2_makeWhole_X2_indexOf : GoodIn wsX2_makeWhole wsX2_indexOf := goodIn_r _ [17] (by decide +kernel) (by decide +kernel)
set_option maxRecDepth 20000 in
theorem gX2_makeWhole_X2_indexOf : GoodIn wsX2_makeWhole (va_wsS RX2 49 yX2_indexOf wsX2_indexOf) := goodIn_app (goodIn_of _ (by decide +kernel)) ggX2_makeWhole_X2_indexOf
set_option maxRecDepth 20000 in
theorem ggX2_meanAround_X6_isPlace : GoodIn wsX2_meanAround wsX6_isPlace := goodIn_r _ [4] (by decide +kernel) (by decide +kernel)
set_option maxRecDepth 20000 in
theorem gX2_meanAround_X6_isPlace_n61 : GoodIn wsX2_meanAround (wsX6_isPlace) := ggX2_meanAround_X6_isPlace
set_option maxRecDepth 20000 in
theorem ggX2_meanAround_X6_colourSeen : GoodIn wsX2_meanAround wsX6_colourSeen := goodIn_r _ [6] (by decide +kernel) (by decide +kernel)
set_option maxRecDepth 20000 in
theorem gX2_meanAround_X6_colourSeen_n65 : GoodIn wsX2_meanAround (wsX6_colourSeen) := ggX2_meanAround_X6_colourSeen
set_option maxRecDepth 20000 in
theorem ggX2_meanAround_X6_placeOf : GoodIn wsX2_meanAround wsX6_placeOf := goodIn_r _ [8] (by decide +kernel) (by decide +kernel)
set_option maxRecDepth 20000 in
theorem gX2_meanAround_X6_placeOf_n54 : GoodIn wsX2_meanAround (wsX6_placeOf) := ggX2_meanAround_X6_placeOf
set_option maxRecDepth 20000 in
theorem ggX2_applyEdit_X2_darken : GoodIn wsX2_applyEdit wsX2_darken := goodIn_r _ [6, 7, 28, 29] (by decide +kernel) (by decide +kernel)
set_option maxRecDepth 20000 in
theorem gX2_applyEdit_X2_darken : GoodIn wsX2_applyEdit (wsV RX2 72 RX2 yX2_darken wsX2_darken) := goodIn_app (goodIn_of _ (by decide +kernel)) ggX2_applyEdit_X2_darken
set_option maxRecDepth 20000 in
theorem ggX2_applyEdit_X2_scaleColour : GoodIn wsX2_applyEdit wsX2_scaleColour := goodIn_r _ [11, 7, 12, 13, 5, 14, 28, 29] (by decide +kernel) (by decide +kernel)
set_option maxRecDepth 20000 in
theorem gX2_applyEdit_X2_scaleColour : GoodIn wsX2_applyEdit (wsV RX2 77 RX2 yX2_scaleColour wsX2_scaleColour) := goodIn_app (goodIn_of _ (by decide +kernel)) ggX2_applyEdit_X2_scaleColour
set_option maxRecDepth 20000 in
theorem ggX2_applyEdit_X2_changeTone : GoodIn wsX2_applyEdit wsX2_changeTone := goodIn_r _ [18, 7, 19, 20, 28, 29] (by decide +kernel) (by decide +kernel)
set_option maxRecDepth 20000 in
theorem gX2_applyEdit_X2_changeTone : GoodIn wsX2_applyEdit (wsV RX2 81 RX2 yX2_changeTone wsX2_changeTone) := goodIn_app (goodIn_of _ (by decide +kernel)) ggX2_applyEdit_X2_changeTone
set_option maxRecDepth 20000 in
theorem ggX2_applyEdit_X2_turnOver : GoodIn wsX2_applyEdit wsX2_turnOver := goodIn_r _ [24, 7, 25, 26, 27, 12, 13, 5, 14, 28, 29] (by decide +kernel) (by decide +kernel)
set_option maxRecDepth 20000 in
theorem gX2_applyEdit_X2_turnOver : GoodIn wsX2_applyEdit (wsV RX2 84 RX2 yX2_turnOver wsX2_turnOver) := goodIn_app (goodIn_of _ (by decide +kernel)) ggX2_applyEdit_X2_turnOver
set_option maxRecDepth 20000 in
theorem ggX2_scaleColour_X2_indexOf : GoodIn wsX2_scaleColour wsX2_indexOf := goodIn_r _ [5] (by decide +kernel) (by decide +kernel)
set_option maxRecDepth 20000 in
theorem gX2_scaleColour_X2_indexOf : GoodIn wsX2_scaleColour (va_wsS RX2 49 yX2_indexOf wsX2_indexOf) := goodIn_app (goodIn_of _ (by decide +kernel)) ggX2_scaleColour_X2_indexOf
set_option maxRecDepth 20000 in
theorem ggX2_turnOver_X6_placeOf : GoodIn wsX2_turnOver wsX6_placeOf := goodIn_r _ [4] (by decide +kernel) (by decide +kernel)
set_option maxRecDepth 20000 in
theorem gX2_turnOver_X6_placeOf_n54 : GoodIn wsX2_turnOver (wsX6_placeOf) := ggX2_turnOver_X6_placeOf
set_option maxRecDepth 20000 in
theorem ggX2_turnOver_X2_indexOf : GoodIn wsX2_turnOver wsX2_indexOf := goodIn_r _ [8] (by decide +kernel) (by decide +kernel)
set_option maxRecDepth 20000 in
theorem gX2_turnOver_X2_indexOf : GoodIn wsX2_turnOver (va_wsS RX2 49 yX2_indexOf wsX2_indexOf) := goodIn_app (goodIn_of _ (by decide +kernel)) ggX2_turnOver_X2_indexOf
set_option maxRecDepth 20000 in
theorem ggX3_lightAt_X3_shade : GoodIn wsX3_lightAt wsX3_shade := goodIn_r _ [7, 8, 9, 10, 11] (by decide +kernel) (by decide +kernel)
set_option maxRecDepth 20000 in
theorem gX3_lightAt_X3_shade : GoodIn wsX3_lightAt (wsV RX3 24 RX3 yX3_shade wsX3_shade) := goodIn_app (goodIn_of _ (by decide +kernel)) ggX3_lightAt_X3_shade
set_option maxRecDepth 20000 in
theorem ggX4_expose_X6_placeOf : GoodIn wsX4_expose wsX6_placeOf := goodIn_r _ [5] (by decide +kernel) (by decide +kernel)
set_option maxRecDepth 20000 in
theorem gX4_expose_X6_placeOf_n23 : GoodIn wsX4_expose (wsX6_placeOf) := ggX4_expose_X6_placeOf
set_option maxRecDepth 20000 in
theorem ggX4_expose_X6_colourSeen : GoodIn wsX4_expose wsX6_colourSeen := goodIn_r _ [7] (by decide +kernel) (by decide +kernel)
set_option maxRecDepth 20000 in
theorem gX4_expose_X6_colourSeen_n27 : GoodIn wsX4_expose (wsX6_colourSeen) := ggX4_expose_X6_colourSeen
set_option maxRecDepth 20000 in
theorem ggX4_expose_X3_lightAt : GoodIn wsX4_expose wsX3_lightAt := goodIn_r _ [12, 13, 14, 15, 16, 17, 11, 18, 19, 39, 40, 41] (by decide +kernel) (by decide +kernel)
set_option maxRecDepth 20000 in
theorem gX4_expose_X3_lightAt : GoodIn wsX4_expose (wsV RX4 30 RX3 yX3_lightAt wsX3_lightAt) := goodIn_app (goodIn_of _ (by decide +kernel)) ggX4_expose_X3_lightAt
set_option maxRecDepth 20000 in
theorem ggX4_expose_X4_rawOf : GoodIn wsX4_expose wsX4_rawOf := goodIn_r _ [23, 24, 25, 26, 27, 28, 29, 30] (by decide +kernel) (by decide +kernel)
set_option maxRecDepth 20000 in
theorem gX4_expose_X4_rawOf : GoodIn wsX4_expose (va_wsS RX4 41 yX4_rawOf wsX4_rawOf) := goodIn_app (goodIn_of _ (by decide +kernel)) ggX4_expose_X4_rawOf
set_option maxRecDepth 20000 in
theorem ggX5_init_X0_init : GoodIn wsX5_init wsX0_init := goodIn_r _ [11, 12, 2, 3, 13, 14, 15, 16, 17, 18, 19] (by decide +kernel) (by decide +kernel)
set_option maxRecDepth 20000 in
theorem gX5_init_X0_init_n9 : GoodIn wsX5_init (wsX0_init) := ggX5_init_X0_init
set_option maxRecDepth 20000 in
theorem ggX5_keep_X0_copyFrom : GoodIn wsX5_keep wsX0_copyFrom := goodIn_r _ [8, 9, 10, 11, 15, 16, 17] (by decide +kernel) (by decide +kernel)
set_option maxRecDepth 20000 in
theorem gX5_keep_X0_copyFrom : GoodIn wsX5_keep (wsV RX5 23 RX0 yX0_copyFrom wsX0_copyFrom) := goodIn_app (goodIn_of _ (by decide +kernel)) ggX5_keep_X0_copyFrom
set_option maxRecDepth 20000 in
theorem ggX6_init_X3_init : GoodIn wsX6_init wsX3_init := goodIn_r _ [30, 31, 2, 3, 32, 33, 34, 35, 36, 73, 74, 75] (by decide +kernel) (by decide +kernel)
set_option maxRecDepth 20000 in
theorem gX6_init_X3_init : GoodIn wsX6_init (wsX3_init) := ggX6_init_X3_init
set_option maxRecDepth 20000 in
theorem ggX6_init_X4_init : GoodIn wsX6_init wsX4_init := goodIn_r _ [38, 39, 2, 3, 32, 40, 41, 42, 43, 85, 86, 87] (by decide +kernel) (by decide +kernel)
set_option maxRecDepth 20000 in
theorem gX6_init_X4_init_n18 : GoodIn wsX6_init (wsX4_init) := ggX6_init_X4_init
set_option maxRecDepth 20000 in
theorem ggX6_init_X1_init : GoodIn wsX6_init wsX1_init := goodIn_r _ [45, 46, 2, 3, 32, 47, 48, 49, 50, 51, 52, 53, 54, 55, 56, 57, 58, 59, 60, 88, 89, 90, 91, 92, 98, 99, 100] (by decide +kernel) (by decide +kernel)
set_option maxRecDepth 20000 in
theorem gX6_init_X1_init_n42 : GoodIn wsX6_init (wsX1_init) := ggX6_init_X1_init
set_option maxRecDepth 20000 in
theorem ggX6_init_X2_init : GoodIn wsX6_init wsX2_init := goodIn_r _ [62, 63, 2, 3, 34, 64, 32, 65, 93, 94] (by decide +kernel) (by decide +kernel)
set_option maxRecDepth 20000 in
theorem gX6_init_X2_init_n49 : GoodIn wsX6_init (wsX2_init) := ggX6_init_X2_init
set_option maxRecDepth 20000 in
theorem ggX6_init_X5_init : GoodIn wsX6_init wsX5_init := goodIn_r _ [67, 68, 2, 3, 69, 49, 50, 70, 71, 72, 55, 56, 57, 32, 58, 59, 60, 98, 99, 100, 95, 96, 97] (by decide +kernel) (by decide +kernel)
set_option maxRecDepth 20000 in
theorem gX6_init_X5_init_n57 : GoodIn wsX6_init (wsX5_init) := ggX6_init_X5_init
set_option maxRecDepth 20000 in
theorem ggX6_paint_X6_needPlace : GoodIn wsX6_paint wsX6_needPlace := goodIn_ca (goodIn_r _ [8, 9, 10, 11, 12, 7, 13] (by decide +kernel) (by decide +kernel)) (goodIn_sub (fun _ h => List.mem_cons_of_mem _ (List.mem_append_right _ h)) (by decide +kernel))
set_option maxRecDepth 20000 in
theorem gX6_paint_X6_needPlace : GoodIn wsX6_paint (va_wsS RX6 58 yX6_needPlace wsX6_needPlace) := goodIn_app (goodIn_of _ (by decide +kernel)) ggX6_paint_X6_needPlace
set_option maxRecDepth 20000 in
theorem ggX6_paint_X6_needRange : GoodIn wsX6_paint wsX6_needRange := goodIn_ca (goodIn_r _ [16, 1, 2] (by decide +kernel) (by decide +kernel)) (goodIn_sub (fun _ h => List.mem_cons_of_mem _ (List.mem_append_left _ (List.mem_append_right _ h))) (by decide +kernel))
set_option maxRecDepth 20000 in
theorem gX6_paint_X6_needRange : GoodIn wsX6_paint (va_wsS RX6 70 yX6_needRange wsX6_needRange) := goodIn_app (goodIn_of _ (by decide +kernel)) ggX6_paint_X6_needRange
set_option maxRecDepth 20000 in
theorem ggX6_paint_X6_placeOf : GoodIn wsX6_paint wsX6_placeOf := goodIn_r _ [19] (by decide +kernel) (by decide +kernel)
set_option maxRecDepth 20000 in
theorem gX6_paint_X6_placeOf : GoodIn wsX6_paint (va_wsS RX6 74 yX6_placeOf wsX6_placeOf) := goodIn_app (goodIn_of _ (by decide +kernel)) ggX6_paint_X6_placeOf
set_option maxRecDepth 20000 in
theorem ggX6_paint_X3_colourPlace : GoodIn wsX6_paint wsX3_colourPlace := goodIn_r _ [24, 25, 35, 36, 37] (by decide +kernel) (by decide +kernel)
set_option maxRecDepth 20000 in
theorem gX6_paint_X3_colourPlace : GoodIn wsX6_paint (wsV RX6 78 RX3 yX3_colourPlace wsX3_colourPlace) := goodIn_app (goodIn_of _ (by decide +kernel)) ggX6_paint_X3_colourPlace
set_option maxRecDepth 20000 in
theorem ggX6_lamp_X6_needRange : GoodIn wsX6_lamp wsX6_needRange := goodIn_ca (goodIn_r _ [5, 6, 7] (by decide +kernel) (by decide +kernel)) (goodIn_sub (fun _ h => List.mem_cons_of_mem _ (List.mem_append_right _ h)) (by decide +kernel))
set_option maxRecDepth 20000 in
theorem gX6_lamp_X6_needRange : GoodIn wsX6_lamp (va_wsS RX6 70 yX6_needRange wsX6_needRange) := goodIn_app (goodIn_of _ (by decide +kernel)) ggX6_lamp_X6_needRange
set_option maxRecDepth 20000 in
theorem ggX6_lamp_X3_greenQuarters : GoodIn wsX6_lamp wsX3_greenQuarters := goodIn_r _ [12, 13, 29, 30, 31] (by decide +kernel) (by decide +kernel)
set_option maxRecDepth 20000 in
theorem gX6_lamp_X3_greenQuarters : GoodIn wsX6_lamp (wsV RX6 81 RX3 yX3_greenQuarters wsX3_greenQuarters) := goodIn_app (goodIn_of _ (by decide +kernel)) ggX6_lamp_X3_greenQuarters
set_option maxRecDepth 20000 in
theorem ggX6_lamp_X3_light : GoodIn wsX6_lamp wsX3_light := goodIn_r _ [17, 18, 19, 13, 29, 30, 31] (by decide +kernel) (by decide +kernel)
set_option maxRecDepth 20000 in
theorem gX6_lamp_X3_light : GoodIn wsX6_lamp (wsV RX6 85 RX3 yX3_light wsX3_light) := goodIn_app (goodIn_of _ (by decide +kernel)) ggX6_lamp_X3_light
set_option maxRecDepth 20000 in
theorem ggX6_spoil_X6_needPlace : GoodIn wsX6_spoil wsX6_needPlace := goodIn_ca (goodIn_r _ [5, 6, 7, 8, 9, 4, 10] (by decide +kernel) (by decide +kernel)) (goodIn_sub (fun _ h => List.mem_cons_of_mem _ (List.mem_append_left _ (List.mem_append_right _ h))) (by decide +kernel))
set_option maxRecDepth 20000 in
theorem gX6_spoil_X6_needPlace : GoodIn wsX6_spoil (va_wsS RX6 58 yX6_needPlace wsX6_needPlace) := goodIn_app (goodIn_of _ (by decide +kernel)) ggX6_spoil_X6_needPlace
set_option maxRecDepth 20000 in
theorem ggX6_spoil_X6_needRange : GoodIn wsX6_spoil wsX6_needRange := goodIn_ca (goodIn_r _ [13, 14, 15] (by decide +kernel) (by decide +kernel)) (goodIn_sub (fun _ h => List.mem_cons_of_mem _ (List.mem_append_right _ h)) (by decide +kernel))
set_option maxRecDepth 20000 in
theorem gX6_spoil_X6_needRange : GoodIn wsX6_spoil (va_wsS RX6 70 yX6_needRange wsX6_needRange) := goodIn_app (goodIn_of _ (by decide +kernel)) ggX6_spoil_X6_needRange
set_option maxRecDepth 20000 in
theorem ggX6_spoil_X6_placeOf : GoodIn wsX6_spoil wsX6_placeOf := goodIn_r _ [18] (by decide +kernel) (by decide +kernel)
set_option maxRecDepth 20000 in
theorem gX6_spoil_X6_placeOf : GoodIn wsX6_spoil (va_wsS RX6 74 yX6_placeOf wsX6_placeOf) := goodIn_app (goodIn_of _ (by decide +kernel)) ggX6_spoil_X6_placeOf
set_option maxRecDepth 20000 in
theorem ggX6_spoil_X4_howIs : GoodIn wsX6_spoil wsX4_howIs := goodIn_r _ [23, 24, 38, 39, 40] (by decide +kernel) (by decide +kernel)
set_option maxRecDepth 20000 in
theorem gX6_spoil_X4_howIs : GoodIn wsX6_spoil (wsV RX6 88 RX4 yX4_howIs wsX4_howIs) := goodIn_app (goodIn_of _ (by decide +kernel)) ggX6_spoil_X4_howIs
set_option maxRecDepth 20000 in
theorem ggX6_spoil_X4_setHow : GoodIn wsX6_spoil wsX4_setHow := goodIn_r _ [28, 24, 38, 39, 40] (by decide +kernel) (by decide +kernel)
set_option maxRecDepth 20000 in
theorem gX6_spoil_X4_setHow : GoodIn wsX6_spoil (wsV RX6 92 RX4 yX4_setHow wsX4_setHow) := goodIn_app (goodIn_of _ (by decide +kernel)) ggX6_spoil_X4_setHow
set_option maxRecDepth 20000 in
theorem ggX6_map_X6_needPlace : GoodIn wsX6_map wsX6_needPlace := goodIn_ca (goodIn_r _ [5, 6, 7, 8, 9, 4, 10] (by decide +kernel) (by decide +kernel)) (goodIn_sub (fun _ h => List.mem_cons_of_mem _ (List.mem_append_right _ h)) (by decide +kernel))
set_option maxRecDepth 20000 in
theorem gX6_map_X6_needPlace : GoodIn wsX6_map (va_wsS RX6 58 yX6_needPlace wsX6_needPlace) := goodIn_app (goodIn_of _ (by decide +kernel)) ggX6_map_X6_needPlace
set_option maxRecDepth 20000 in
theorem ggX6_map_X6_placeOf : GoodIn wsX6_map wsX6_placeOf := goodIn_r _ [13] (by decide +kernel) (by decide +kernel)
set_option maxRecDepth 20000 in
theorem gX6_map_X6_placeOf : GoodIn wsX6_map (va_wsS RX6 74 yX6_placeOf wsX6_placeOf) := goodIn_app (goodIn_of _ (by decide +kernel)) ggX6_map_X6_placeOf
set_option maxRecDepth 20000 in
theorem ggX6_map_X4_setMapped : GoodIn wsX6_map wsX4_setMapped := goodIn_r _ [18, 19, 33, 34, 35] (by decide +kernel) (by decide +kernel)
set_option maxRecDepth 20000 in
theorem gX6_map_X4_setMapped : GoodIn wsX6_map (wsV RX6 95 RX4 yX4_setMapped wsX4_setMapped) := goodIn_app (goodIn_of _ (by decide +kernel)) ggX6_map_X4_setMapped
set_option maxRecDepth 20000 in
theorem ggX6_map_X4_countMapped : GoodIn wsX6_map wsX4_countMapped := goodIn_r _ [23, 19, 33, 34, 35] (by decide +kernel) (by decide +kernel)
set_option maxRecDepth 20000 in
theorem gX6_map_X4_countMapped : GoodIn wsX6_map (wsV RX6 99 RX4 yX4_countMapped wsX4_countMapped) := goodIn_app (goodIn_of _ (by decide +kernel)) ggX6_map_X4_countMapped
set_option maxRecDepth 20000 in
theorem ggX6_take_X6_needExposure : GoodIn wsX6_take wsX6_needExposure := goodIn_ca (goodIn_r _ [8, 9, 10, 7, 11, 12, 13] (by decide +kernel) (by decide +kernel)) (goodIn_sub (fun _ h => List.mem_cons_of_mem _ (List.mem_append_left _ (List.mem_append_right _ h))) (by decide +kernel))
set_option maxRecDepth 20000 in
theorem gX6_take_X6_needExposure : GoodIn wsX6_take (va_wsS RX6 102 yX6_needExposure wsX6_needExposure) := goodIn_app (goodIn_of _ (by decide +kernel)) ggX6_take_X6_needExposure
set_option maxRecDepth 20000 in
theorem ggX6_take_X6_needRoom : GoodIn wsX6_take wsX6_needRoom := goodIn_ca (goodIn_r _ [16, 17, 18] (by decide +kernel) (by decide +kernel)) (goodIn_sub (fun _ h => List.mem_cons_of_mem _ (List.mem_append_right _ h)) (by decide +kernel))
set_option maxRecDepth 20000 in
theorem gX6_take_X6_needRoom : GoodIn wsX6_take (va_wsS RX6 105 yX6_needRoom wsX6_needRoom) := goodIn_app (goodIn_of _ (by decide +kernel)) ggX6_take_X6_needRoom
set_option maxRecDepth 20000 in
theorem ggX6_take_X4_expose : GoodIn wsX6_take wsX4_expose := goodIn_r _ [23, 24, 25, 26, 7, 27, 28, 29, 30, 31, 32, 33, 34, 35, 36, 37, 38, 39, 40, 41, 42, 43, 22, 44, 45, 46, 47, 48, 49, 50, 51, 65, 66, 67, 68, 69, 70, 71, 72, 73, 74, 75] (by decide +kernel) (by decide +kernel)
set_option maxRecDepth 20000 in
theorem gX6_take_X4_expose : GoodIn wsX6_take (wsV RX6 108 RX4 yX4_expose wsX4_expose) := goodIn_app (goodIn_of _ (by decide +kernel)) ggX6_take_X4_expose
set_option maxRecDepth 20000 in
theorem ggX6_take_X4_advance : GoodIn wsX6_take wsX4_advance := goodIn_r _ [55, 24, 65, 66, 67] (by decide +kernel) (by decide +kernel)
set_option maxRecDepth 20000 in
theorem gX6_take_X4_advance : GoodIn wsX6_take (wsV RX6 112 RX4 yX4_advance wsX4_advance) := goodIn_app (goodIn_of _ (by decide +kernel)) ggX6_take_X4_advance
set_option maxRecDepth 20000 in
theorem ggX6_edit_X6_needFrame : GoodIn wsX6_edit wsX6_needFrame := goodIn_ca (goodIn_r _ [6, 7, 8, 9, 38, 39, 40, 41, 42, 43, 44, 45, 46] (by decide +kernel) (by decide +kernel)) (goodIn_sub (fun _ h => List.mem_cons_of_mem _ (List.mem_append_left _ (List.mem_append_left _ (List.mem_append_right _ h)))) (by decide +kernel))
set_option maxRecDepth 20000 in
theorem gX6_edit_X6_needFrame : GoodIn wsX6_edit (wsV RX6 127 RX6 yX6_needFrame wsX6_needFrame) := goodIn_app (goodIn_of _ (by decide +kernel)) ggX6_edit_X6_needFrame
set_option maxRecDepth 20000 in
theorem ggX6_edit_X6_needRange : GoodIn wsX6_edit wsX6_needRange := goodIn_ca (goodIn_r _ [12, 13, 14] (by decide +kernel) (by decide +kernel)) (goodIn_sub (fun _ h => List.mem_cons_of_mem _ (List.mem_append_left _ (List.mem_append_right _ h))) (by decide +kernel))
set_option maxRecDepth 20000 in
theorem gX6_edit_X6_needRange : GoodIn wsX6_edit (va_wsS RX6 70 yX6_needRange wsX6_needRange) := goodIn_app (goodIn_of _ (by decide +kernel)) ggX6_edit_X6_needRange
set_option maxRecDepth 20000 in
theorem ggX6_edit_X6_leastNumber : GoodIn wsX6_edit wsX6_leastNumber := goodIn_r _ [17] (by decide +kernel) (by decide +kernel)
set_option maxRecDepth 20000 in
theorem gX6_edit_X6_leastNumber : GoodIn wsX6_edit (va_wsS RX6 130 yX6_leastNumber wsX6_leastNumber) := goodIn_app (goodIn_of _ (by decide +kernel)) ggX6_edit_X6_leastNumber
set_option maxRecDepth 20000 in
theorem ggX6_edit_X6_mostNumber : GoodIn wsX6_edit wsX6_mostNumber := goodIn_r _ [20] (by decide +kernel) (by decide +kernel)
set_option maxRecDepth 20000 in
theorem gX6_edit_X6_mostNumber : GoodIn wsX6_edit (va_wsS RX6 133 yX6_mostNumber wsX6_mostNumber) := goodIn_app (goodIn_of _ (by decide +kernel)) ggX6_edit_X6_mostNumber
set_option maxRecDepth 20000 in
theorem ggX6_edit_X0_count : GoodIn wsX6_edit wsX0_count := goodIn_r _ [25, 26, 52, 53, 54] (by decide +kernel) (by decide +kernel)
set_option maxRecDepth 20000 in
theorem gX6_edit_X0_count : GoodIn wsX6_edit (wsV RX6 140 RX0 yX0_count wsX0_count) := goodIn_app (goodIn_of _ (by decide +kernel)) ggX6_edit_X0_count
set_option maxRecDepth 20000 in
theorem ggX6_edit_X6_needRoom : GoodIn wsX6_edit wsX6_needRoom := goodIn_ca (goodIn_r _ [29, 30, 31] (by decide +kernel) (by decide +kernel)) (goodIn_sub (fun _ h => List.mem_cons_of_mem _ (List.mem_append_right _ h)) (by decide +kernel))
set_option maxRecDepth 20000 in
theorem gX6_edit_X6_needRoom : GoodIn wsX6_edit (va_wsS RX6 105 yX6_needRoom wsX6_needRoom) := goodIn_app (goodIn_of _ (by decide +kernel)) ggX6_edit_X6_needRoom
set_option maxRecDepth 20000 in
theorem ggX6_edit_X0_append : GoodIn wsX6_edit wsX0_append := goodIn_r _ [35, 26, 36, 37, 52, 53, 54] (by decide +kernel) (by decide +kernel)
set_option maxRecDepth 20000 in
theorem gX6_edit_X0_append : GoodIn wsX6_edit (wsV RX6 145 RX0 yX0_append wsX0_append) := goodIn_app (goodIn_of _ (by decide +kernel)) ggX6_edit_X0_append
set_option maxRecDepth 20000 in
theorem ggX6_undo_X6_needFrame : GoodIn wsX6_undo wsX6_needFrame := goodIn_ca (goodIn_r _ [6, 7, 8, 9, 17, 18, 19, 20, 21, 22, 23, 24, 25] (by decide +kernel) (by decide +kernel)) (goodIn_sub (fun _ h => List.mem_cons_of_mem _ (List.mem_append_right _ h)) (by decide +kernel))
set_option maxRecDepth 20000 in
theorem gX6_undo_X6_needFrame : GoodIn wsX6_undo (wsV RX6 127 RX6 yX6_needFrame wsX6_needFrame) := goodIn_app (goodIn_of _ (by decide +kernel)) ggX6_undo_X6_needFrame
set_option maxRecDepth 20000 in
theorem ggX6_undo_X0_takeBack : GoodIn wsX6_undo wsX0_takeBack := goodIn_r _ [14, 15, 16, 31, 32, 33] (by decide +kernel) (by decide +kernel)
set_option maxRecDepth 20000 in
theorem gX6_undo_X0_takeBack : GoodIn wsX6_undo (wsV RX6 148 RX0 yX0_takeBack wsX0_takeBack) := goodIn_app (goodIn_of _ (by decide +kernel)) ggX6_undo_X0_takeBack
set_option maxRecDepth 20000 in
theorem ggX6_save_X6_needFrame : GoodIn wsX6_save wsX6_needFrame := goodIn_ca (goodIn_r _ [8, 9, 10, 11, 37, 38, 39, 40, 41, 42, 43, 44, 45] (by decide +kernel) (by decide +kernel)) (goodIn_sub (fun _ h => List.mem_cons_of_mem _ (List.mem_append_left _ (List.mem_append_right _ h))) (by decide +kernel))
set_option maxRecDepth 20000 in
theorem gX6_save_X6_needFrame : GoodIn wsX6_save (wsV RX6 127 RX6 yX6_needFrame wsX6_needFrame) := goodIn_app (goodIn_of _ (by decide +kernel)) ggX6_save_X6_needFrame
set_option maxRecDepth 20000 in
theorem ggX6_save_X6_needRoom : GoodIn wsX6_save wsX6_needRoom := goodIn_ca (goodIn_r _ [14, 15, 16] (by decide +kernel) (by decide +kernel)) (goodIn_sub (fun _ h => List.mem_cons_of_mem _ (List.mem_append_right _ h)) (by decide +kernel))
set_option maxRecDepth 20000 in
theorem gX6_save_X6_needRoom : GoodIn wsX6_save (va_wsS RX6 105 yX6_needRoom wsX6_needRoom) := goodIn_app (goodIn_of _ (by decide +kernel)) ggX6_save_X6_needRoom
set_option maxRecDepth 20000 in
theorem ggX6_save_X6_countFilesOf : GoodIn wsX6_save wsX6_countFilesOf := goodIn_r _ [20, 1, 2, 37, 38, 39, 40, 41, 42, 43, 44, 45, 51, 52, 53] (by decide +kernel) (by decide +kernel)
set_option maxRecDepth 20000 in
theorem gX6_save_X6_countFilesOf : GoodIn wsX6_save (wsV RX6 151 RX6 yX6_countFilesOf wsX6_countFilesOf) := goodIn_app (goodIn_of _ (by decide +kernel)) ggX6_save_X6_countFilesOf
set_option maxRecDepth 20000 in
theorem ggX6_save_X5_keep : GoodIn wsX6_save wsX5_keep := goodIn_r _ [25, 26, 27, 28, 29, 30, 31, 32, 33, 34, 35, 36, 51, 52, 53, 54, 55, 56] (by decide +kernel) (by decide +kernel)
set_option maxRecDepth 20000 in
theorem gX6_save_X5_keep : GoodIn wsX6_save (wsV RX6 154 RX5 yX5_keep wsX5_keep) := goodIn_app (goodIn_of _ (by decide +kernel)) ggX6_save_X5_keep
set_option maxRecDepth 20000 in
theorem ggX6_raw_X6_needFrame : GoodIn wsX6_raw wsX6_needFrame := goodIn_ca (goodIn_r _ [6, 7, 8, 9, 19, 20, 21, 22, 23, 24, 25, 26, 27] (by decide +kernel) (by decide +kernel)) (goodIn_sub (fun _ h => List.mem_cons_of_mem _ (List.mem_append_right _ h)) (by decide +kernel))
set_option maxRecDepth 20000 in
theorem gX6_raw_X6_needFrame : GoodIn wsX6_raw (wsV RX6 127 RX6 yX6_needFrame wsX6_needFrame) := goodIn_app (goodIn_of _ (by decide +kernel)) ggX6_raw_X6_needFrame
set_option maxRecDepth 20000 in
theorem ggX6_raw_X6_needPlace : GoodIn wsX6_raw wsX6_needPlace := goodIn_ca (goodIn_r _ [12, 7, 8, 13, 14, 5, 15] (by decide +kernel) (by decide +kernel)) (goodIn_sub (fun _ h => List.mem_cons_of_mem _ (List.mem_append_right _ h)) (by decide +kernel))
set_option maxRecDepth 20000 in
theorem gX6_raw_X6_needPlace : GoodIn wsX6_raw (va_wsS RX6 58 yX6_needPlace wsX6_needPlace) := goodIn_app (goodIn_of _ (by decide +kernel)) ggX6_raw_X6_needPlace
set_option maxRecDepth 20000 in
theorem ggX6_raw_X6_placeOf : GoodIn wsX6_raw wsX6_placeOf := goodIn_r _ [18] (by decide +kernel) (by decide +kernel)
set_option maxRecDepth 20000 in
theorem gX6_raw_X6_placeOf : GoodIn wsX6_raw (va_wsS RX6 74 yX6_placeOf wsX6_placeOf) := goodIn_app (goodIn_of _ (by decide +kernel)) ggX6_raw_X6_placeOf
set_option maxRecDepth 20000 in
theorem ggX6_picture_X6_needFrame : GoodIn wsX6_picture wsX6_needFrame := goodIn_ca (goodIn_r _ [6, 7, 8, 9, 99, 100, 101, 102, 103, 104, 105, 106, 107] (by decide +kernel) (by decide +kernel)) (goodIn_sub (fun _ h => List.mem_cons_of_mem _ (List.mem_append_left _ (List.mem_append_right _ h))) (by decide +kernel))
set_option maxRecDepth 20000 in
theorem gX6_picture_X6_needFrame : GoodIn wsX6_picture (wsV RX6 127 RX6 yX6_needFrame wsX6_needFrame) := goodIn_app (goodIn_of _ (by decide +kernel)) ggX6_picture_X6_needFrame
set_option maxRecDepth 20000 in
theorem ggX6_picture_X6_needPlace : GoodIn wsX6_picture wsX6_needPlace := goodIn_ca (goodIn_r _ [12, 7, 8, 13, 14, 5, 15] (by decide +kernel) (by decide +kernel)) (goodIn_sub (fun _ h => List.mem_cons_of_mem _ (List.mem_append_left _ (List.mem_append_right _ h))) (by decide +kernel))
set_option maxRecDepth 20000 in
theorem gX6_picture_X6_needPlace : GoodIn wsX6_picture (va_wsS RX6 58 yX6_needPlace wsX6_needPlace) := goodIn_app (goodIn_of _ (by decide +kernel)) ggX6_picture_X6_needPlace
set_option maxRecDepth 20000 in
theorem ggX6_picture_X6_needRange : GoodIn wsX6_picture wsX6_needRange := goodIn_ca (goodIn_r _ [18, 19, 20] (by decide +kernel) (by decide +kernel)) (goodIn_sub (fun _ h => List.mem_cons_of_mem _ (List.mem_append_right _ h)) (by decide +kernel))
set_option maxRecDepth 20000 in
theorem gX6_picture_X6_needRange : GoodIn wsX6_picture (va_wsS RX6 70 yX6_needRange wsX6_needRange) := goodIn_app (goodIn_of _ (by decide +kernel)) ggX6_picture_X6_needRange
set_option maxRecDepth 20000 in
theorem ggX6_picture_X6_developFrame : GoodIn wsX6_picture wsX6_developFrame := goodIn_r _ [24, 25, 26, 27, 28, 29, 30, 31, 32, 33, 34, 35, 36, 37, 38, 39, 40, 41, 42, 43, 44, 5, 45, 46, 47, 48, 14, 15, 49, 50, 51, 52, 53, 54, 55, 56, 57, 58, 59, 60, 61, 62, 63, 64, 65, 66, 67, 68, 69, 70, 71, 72, 73, 74, 75, 76, 77, 78, 79, 80, 81, 82, 83, 84, 85, 86, 87, 88, 89, 90, 91, 92, 93, 94, 95, 96, 99, 100, 101, 102, 103, 104, 105, 106, 107, 110, 111, 112, 113, 114, 115, 116, 117, 118, 119, 120, 108, 109] (by decide +kernel) (by decide +kernel)
set_option maxRecDepth 20000 in
theorem gX6_picture_X6_developFrame : GoodIn wsX6_picture (wsV RX6 162 RX6 yX6_developFrame wsX6_developFrame) := goodIn_app (goodIn_of _ (by decide +kernel)) ggX6_picture_X6_developFrame
set_option maxRecDepth 20000 in
theorem ggX6_picture_X6_placeOf : GoodIn wsX6_picture wsX6_placeOf := goodIn_r _ [45] (by decide +kernel) (by decide +kernel)
set_option maxRecDepth 20000 in
theorem gX6_picture_X6_placeOf : GoodIn wsX6_picture (va_wsS RX6 74 yX6_placeOf wsX6_placeOf) := goodIn_app (goodIn_of _ (by decide +kernel)) ggX6_picture_X6_placeOf
set_option maxRecDepth 20000 in
theorem ggX6_picture_X2_indexOf : GoodIn wsX6_picture wsX2_indexOf := goodIn_r _ [62] (by decide +kernel) (by decide +kernel)
set_option maxRecDepth 20000 in
theorem gX6_picture_X2_indexOf : GoodIn wsX6_picture (va_wsS RX6 170 yX2_indexOf wsX2_indexOf) := goodIn_app (goodIn_of _ (by decide +kernel)) ggX6_picture_X2_indexOf
set_option maxRecDepth 20000 in
theorem ggX6_word_X6_needFrame : GoodIn wsX6_word wsX6_needFrame := goodIn_ca (goodIn_r _ [6, 7, 8, 9, 92, 93, 94, 95, 96, 97, 98, 99, 100] (by decide +kernel) (by decide +kernel)) (goodIn_sub (fun _ h => List.mem_cons_of_mem _ (List.mem_append_right _ h)) (by decide +kernel))
set_option maxRecDepth 20000 in
theorem gX6_word_X6_needFrame : GoodIn wsX6_word (wsV RX6 127 RX6 yX6_needFrame wsX6_needFrame) := goodIn_app (goodIn_of _ (by decide +kernel)) ggX6_word_X6_needFrame
set_option maxRecDepth 20000 in
theorem ggX6_word_X6_wordBehind : GoodIn wsX6_word wsX6_wordBehind := goodIn_r _ [13, 14, 1, 15, 16, 17, 18, 19, 20, 21, 22, 23, 24, 25, 26, 27, 28, 29, 30, 31, 32, 33, 5, 34, 35, 36, 37, 38, 39, 40, 41, 42, 43, 44, 45, 46, 47, 48, 49, 50, 51, 52, 53, 54, 55, 56, 57, 58, 59, 60, 61, 62, 63, 64, 65, 66, 67, 68, 69, 70, 71, 72, 73, 74, 75, 76, 77, 78, 79, 80, 81, 82, 83, 84, 85, 86, 87, 88, 89, 90, 91, 92, 93, 94, 95, 96, 97, 98, 99, 100, 101, 102, 103, 104, 105, 106, 107, 108, 109, 110, 111, 112, 113] (by decide +kernel) (by decide +kernel)
set_option maxRecDepth 20000 in
theorem gX6_word_X6_wordBehind : GoodIn wsX6_word (wsV RX6 173 RX6 yX6_wordBehind wsX6_wordBehind) := goodIn_app (goodIn_of _ (by decide +kernel)) ggX6_word_X6_wordBehind
set_option maxRecDepth 20000 in
theorem ggX6_ofFrame_X6_needFrame : GoodIn wsX6_ofFrame wsX6_needFrame := goodIn_ca (goodIn_r _ [6, 7, 8, 9, 59, 60, 61, 62, 63, 64, 65, 66, 67] (by decide +kernel) (by decide +kernel)) (goodIn_sub (fun _ h => List.mem_cons_of_mem _ (List.mem_append_left _ (List.mem_append_right _ h))) (by decide +kernel))
set_option maxRecDepth 20000 in
theorem gX6_ofFrame_X6_needFrame : GoodIn wsX6_ofFrame (wsV RX6 127 RX6 yX6_needFrame wsX6_needFrame) := goodIn_app (goodIn_of _ (by decide +kernel)) ggX6_ofFrame_X6_needFrame
set_option maxRecDepth 20000 in
theorem ggX6_ofFrame_X6_needRange : GoodIn wsX6_ofFrame wsX6_needRange := goodIn_ca (goodIn_r _ [12, 13, 14] (by decide +kernel) (by decide +kernel)) (goodIn_sub (fun _ h => List.mem_cons_of_mem _ (List.mem_append_right _ h)) (by decide +kernel))
set_option maxRecDepth 20000 in
theorem gX6_ofFrame_X6_needRange : GoodIn wsX6_ofFrame (va_wsS RX6 70 yX6_needRange wsX6_needRange) := goodIn_app (goodIn_of _ (by decide +kernel)) ggX6_ofFrame_X6_needRange
set_option maxRecDepth 20000 in
theorem ggX6_ofFrame_X0_count : GoodIn wsX6_ofFrame wsX0_count := goodIn_r _ [19, 20, 73, 74, 75] (by decide +kernel) (by decide +kernel)
set_option maxRecDepth 20000 in
theorem gX6_ofFrame_X0_count : GoodIn wsX6_ofFrame (wsV RX6 140 RX0 yX0_count wsX0_count) := goodIn_app (goodIn_of _ (by decide +kernel)) ggX6_ofFrame_X0_count
set_option maxRecDepth 20000 in
theorem ggX6_ofFrame_X1_countClipped : GoodIn wsX6_ofFrame wsX1_countClipped := goodIn_r _ [25, 26, 68, 69, 70, 71, 72] (by decide +kernel) (by decide +kernel)
set_option maxRecDepth 20000 in
theorem gX6_ofFrame_X1_countClipped : GoodIn wsX6_ofFrame (wsV RX6 183 RX1 yX1_countClipped wsX1_countClipped) := goodIn_app (goodIn_of _ (by decide +kernel)) ggX6_ofFrame_X1_countClipped
set_option maxRecDepth 20000 in
theorem ggX6_ofFrame_X1_sharpness : GoodIn wsX6_ofFrame wsX1_sharpness := goodIn_r _ [30, 26, 31, 32, 33, 34, 35, 5, 36, 37, 38, 68, 69, 70, 71, 72] (by decide +kernel) (by decide +kernel)
set_option maxRecDepth 20000 in
theorem gX6_ofFrame_X1_sharpness : GoodIn wsX6_ofFrame (wsV RX6 189 RX1 yX1_sharpness wsX1_sharpness) := goodIn_app (goodIn_of _ (by decide +kernel)) ggX6_ofFrame_X1_sharpness
set_option maxRecDepth 20000 in
theorem ggX6_ofFrame_X1_whiteOf : GoodIn wsX6_ofFrame wsX1_whiteOf := goodIn_r _ [42, 43, 44, 33, 45, 46, 47, 48, 49, 50, 51, 24, 52, 26, 35, 5, 36, 37, 38, 68, 69, 70, 71, 72] (by decide +kernel) (by decide +kernel)
set_option maxRecDepth 20000 in
theorem gX6_ofFrame_X1_whiteOf : GoodIn wsX6_ofFrame (wsV RX6 192 RX1 yX1_whiteOf wsX1_whiteOf) := goodIn_app (goodIn_of _ (by decide +kernel)) ggX6_ofFrame_X1_whiteOf
set_option maxRecDepth 20000 in
theorem ggX6_ofFrame_X6_countFilesOf : GoodIn wsX6_ofFrame wsX6_countFilesOf := goodIn_r _ [56, 57, 58, 59, 60, 61, 62, 63, 64, 65, 66, 67, 76, 77, 78] (by decide +kernel) (by decide +kernel)
set_option maxRecDepth 20000 in
theorem gX6_ofFrame_X6_countFilesOf : GoodIn wsX6_ofFrame (wsV RX6 151 RX6 yX6_countFilesOf wsX6_countFilesOf) := goodIn_app (goodIn_of _ (by decide +kernel)) ggX6_ofFrame_X6_countFilesOf
set_option maxRecDepth 20000 in
theorem ggX6_ofEdit_X6_needFrame : GoodIn wsX6_ofEdit wsX6_needFrame := goodIn_ca (goodIn_r _ [6, 7, 8, 9, 24, 25, 26, 27, 28, 29, 30, 31, 32] (by decide +kernel) (by decide +kernel)) (goodIn_sub (fun _ h => List.mem_cons_of_mem _ (List.mem_append_left _ (List.mem_append_right _ h))) (by decide +kernel))
set_option maxRecDepth 20000 in
theorem gX6_ofEdit_X6_needFrame : GoodIn wsX6_ofEdit (wsV RX6 127 RX6 yX6_needFrame wsX6_needFrame) := goodIn_app (goodIn_of _ (by decide +kernel)) ggX6_ofEdit_X6_needFrame
set_option maxRecDepth 20000 in
theorem ggX6_ofEdit_X0_count : GoodIn wsX6_ofEdit wsX0_count := goodIn_r _ [14, 15, 38, 39, 40] (by decide +kernel) (by decide +kernel)
set_option maxRecDepth 20000 in
theorem gX6_ofEdit_X0_count : GoodIn wsX6_ofEdit (wsV RX6 140 RX0 yX0_count wsX0_count) := goodIn_app (goodIn_of _ (by decide +kernel)) ggX6_ofEdit_X0_count
set_option maxRecDepth 20000 in
theorem ggX6_ofEdit_X6_needIndex : GoodIn wsX6_ofEdit wsX6_needIndex := goodIn_ca (goodIn_r _ [18, 7, 8] (by decide +kernel) (by decide +kernel)) (goodIn_sub (fun _ h => List.mem_cons_of_mem _ (List.mem_append_left _ (List.mem_append_right _ h))) (by decide +kernel))
set_option maxRecDepth 20000 in
theorem gX6_ofEdit_X6_needIndex : GoodIn wsX6_ofEdit (va_wsS RX6 195 yX6_needIndex wsX6_needIndex) := goodIn_app (goodIn_of _ (by decide +kernel)) ggX6_ofEdit_X6_needIndex
set_option maxRecDepth 20000 in
theorem ggX6_ofEdit_X6_needRange : GoodIn wsX6_ofEdit wsX6_needRange := goodIn_ca (goodIn_r _ [21, 22, 23] (by decide +kernel) (by decide +kernel)) (goodIn_sub (fun _ h => List.mem_cons_of_mem _ (List.mem_append_right _ h)) (by decide +kernel))
set_option maxRecDepth 20000 in
theorem gX6_ofEdit_X6_needRange : GoodIn wsX6_ofEdit (va_wsS RX6 70 yX6_needRange wsX6_needRange) := goodIn_app (goodIn_of _ (by decide +kernel)) ggX6_ofEdit_X6_needRange
set_option maxRecDepth 20000 in
theorem ggX6_zone_X6_needFrame : GoodIn wsX6_zone wsX6_needFrame := goodIn_ca (goodIn_r _ [6, 7, 8, 9, 24, 25, 26, 27, 28, 29, 30, 31, 32] (by decide +kernel) (by decide +kernel)) (goodIn_sub (fun _ h => List.mem_cons_of_mem _ (List.mem_append_right _ h)) (by decide +kernel))
set_option maxRecDepth 20000 in
theorem gX6_zone_X6_needFrame : GoodIn wsX6_zone (wsV RX6 127 RX6 yX6_needFrame wsX6_needFrame) := goodIn_app (goodIn_of _ (by decide +kernel)) ggX6_zone_X6_needFrame
set_option maxRecDepth 20000 in
theorem ggX6_zone_X6_needIndex : GoodIn wsX6_zone wsX6_needIndex := goodIn_ca (goodIn_r _ [12, 7, 8] (by decide +kernel) (by decide +kernel)) (goodIn_sub (fun _ h => List.mem_cons_of_mem _ (List.mem_append_right _ h)) (by decide +kernel))
set_option maxRecDepth 20000 in
theorem gX6_zone_X6_needIndex : GoodIn wsX6_zone (va_wsS RX6 195 yX6_needIndex wsX6_needIndex) := goodIn_app (goodIn_of _ (by decide +kernel)) ggX6_zone_X6_needIndex
set_option maxRecDepth 20000 in
theorem ggX6_zone_X1_meanOfZone : GoodIn wsX6_zone wsX1_meanOfZone := goodIn_r _ [17, 18, 19, 20, 5, 21, 22, 23, 33, 34, 35, 36, 37] (by decide +kernel) (by decide +kernel)
set_option maxRecDepth 20000 in
theorem gX6_zone_X1_meanOfZone : GoodIn wsX6_zone (wsV RX6 203 RX1 yX1_meanOfZone wsX1_meanOfZone) := goodIn_app (goodIn_of _ (by decide +kernel)) ggX6_zone_X1_meanOfZone
set_option maxRecDepth 20000 in
theorem ggX6_meter_X6_needFrame : GoodIn wsX6_meter wsX6_needFrame := goodIn_ca (goodIn_r _ [6, 7, 8, 9, 26, 27, 28, 29, 30, 31, 32, 33, 34] (by decide +kernel) (by decide +kernel)) (goodIn_sub (fun _ h => List.mem_cons_of_mem _ (List.mem_append_right _ h)) (by decide +kernel))
set_option maxRecDepth 20000 in
theorem gX6_meter_X6_needFrame : GoodIn wsX6_meter (wsV RX6 127 RX6 yX6_needFrame wsX6_needFrame) := goodIn_app (goodIn_of _ (by decide +kernel)) ggX6_meter_X6_needFrame
set_option maxRecDepth 20000 in
theorem ggX6_meter_X1_meanOfZones : GoodIn wsX6_meter wsX1_meanOfZones := goodIn_r _ [14, 15, 16, 17, 18, 13, 19, 20, 21, 22, 5, 23, 24, 25, 35, 36, 37, 38, 39] (by decide +kernel) (by decide +kernel)
set_option maxRecDepth 20000 in
theorem gX6_meter_X1_meanOfZones : GoodIn wsX6_meter (wsV RX6 207 RX1 yX1_meanOfZones wsX1_meanOfZones) := goodIn_app (goodIn_of _ (by decide +kernel)) ggX6_meter_X1_meanOfZones
set_option maxRecDepth 20000 in
theorem ggX6_ofFile_X6_needIndex : GoodIn wsX6_ofFile wsX6_needIndex := goodIn_ca (goodIn_r _ [6, 7, 8] (by decide +kernel) (by decide +kernel)) (goodIn_sub (fun _ h => List.mem_cons_of_mem _ (List.mem_append_left _ (List.mem_append_right _ h))) (by decide +kernel))
set_option maxRecDepth 20000 in
theorem gX6_ofFile_X6_needIndex : GoodIn wsX6_ofFile (va_wsS RX6 195 yX6_needIndex wsX6_needIndex) := goodIn_app (goodIn_of _ (by decide +kernel)) ggX6_ofFile_X6_needIndex
set_option maxRecDepth 20000 in
theorem ggX6_ofFile_X6_needRange : GoodIn wsX6_ofFile wsX6_needRange := goodIn_ca (goodIn_r _ [11, 12, 13] (by decide +kernel) (by decide +kernel)) (goodIn_sub (fun _ h => List.mem_cons_of_mem _ (List.mem_append_right _ h)) (by decide +kernel))
set_option maxRecDepth 20000 in
theorem gX6_ofFile_X6_needRange : GoodIn wsX6_ofFile (va_wsS RX6 70 yX6_needRange wsX6_needRange) := goodIn_app (goodIn_of _ (by decide +kernel)) ggX6_ofFile_X6_needRange
set_option maxRecDepth 20000 in
theorem ggX6_ofFile_X0_count : GoodIn wsX6_ofFile wsX0_count := goodIn_r _ [18, 19, 110, 111, 112] (by decide +kernel) (by decide +kernel)
set_option maxRecDepth 20000 in
theorem gX6_ofFile_X0_count : GoodIn wsX6_ofFile (wsV RX6 140 RX0 yX0_count wsX0_count) := goodIn_app (goodIn_of _ (by decide +kernel)) ggX6_ofFile_X0_count
set_option maxRecDepth 20000 in
theorem ggX6_ofFile_X6_wordBehind : GoodIn wsX6_ofFile wsX6_wordBehind := goodIn_r _ [23, 24, 25, 26, 27, 28, 29, 30, 31, 32, 33, 34, 17, 35, 19, 36, 37, 38, 39, 40, 41, 42, 5, 43, 44, 45, 46, 47, 48, 49, 50, 51, 52, 53, 54, 55, 56, 57, 58, 59, 60, 61, 62, 63, 15, 16, 18, 64, 65, 66, 67, 68, 69, 70, 71, 72, 73, 74, 75, 76, 77, 78, 79, 80, 81, 82, 83, 84, 85, 86, 87, 88, 89, 90, 91, 92, 93, 94, 95, 96, 97, 98, 99, 100, 101, 102, 103, 104, 105, 106, 113, 114, 115, 116, 117, 118, 119, 120, 110, 111, 112, 121, 122] (by decide +kernel) (by decide +kernel)
set_option maxRecDepth 20000 in
theorem gX6_ofFile_X6_wordBehind : GoodIn wsX6_ofFile (wsV RX6 173 RX6 yX6_wordBehind wsX6_wordBehind) := goodIn_app (goodIn_of _ (by decide +kernel)) ggX6_ofFile_X6_wordBehind
set_option maxRecDepth 20000 in
theorem ggX6_ofPlace_X6_needPlace : GoodIn wsX6_ofPlace wsX6_needPlace := goodIn_ca (goodIn_r _ [6, 7, 8, 9, 10, 5, 11] (by decide +kernel) (by decide +kernel)) (goodIn_sub (fun _ h => List.mem_cons_of_mem _ (List.mem_append_left _ (List.mem_append_right _ h))) (by decide +kernel))
set_option maxRecDepth 20000 in
theorem gX6_ofPlace_X6_needPlace : GoodIn wsX6_ofPlace (va_wsS RX6 58 yX6_needPlace wsX6_needPlace) := goodIn_app (goodIn_of _ (by decide +kernel)) ggX6_ofPlace_X6_needPlace
set_option maxRecDepth 20000 in
theorem ggX6_ofPlace_X6_needRange : GoodIn wsX6_ofPlace wsX6_needRange := goodIn_ca (goodIn_r _ [14, 15, 16] (by decide +kernel) (by decide +kernel)) (goodIn_sub (fun _ h => List.mem_cons_of_mem _ (List.mem_append_right _ h)) (by decide +kernel))
set_option maxRecDepth 20000 in
theorem gX6_ofPlace_X6_needRange : GoodIn wsX6_ofPlace (va_wsS RX6 70 yX6_needRange wsX6_needRange) := goodIn_app (goodIn_of _ (by decide +kernel)) ggX6_ofPlace_X6_needRange
set_option maxRecDepth 20000 in
theorem ggX6_ofPlace_X6_placeOf : GoodIn wsX6_ofPlace wsX6_placeOf := goodIn_r _ [19] (by decide +kernel) (by decide +kernel)
set_option maxRecDepth 20000 in
theorem gX6_ofPlace_X6_placeOf : GoodIn wsX6_ofPlace (va_wsS RX6 74 yX6_placeOf wsX6_placeOf) := goodIn_app (goodIn_of _ (by decide +kernel)) ggX6_ofPlace_X6_placeOf
set_option maxRecDepth 20000 in
theorem ggX6_ofPlace_X3_shade : GoodIn wsX6_ofPlace wsX3_shade := goodIn_r _ [24, 25, 49, 50, 51] (by decide +kernel) (by decide +kernel)
set_option maxRecDepth 20000 in
theorem gX6_ofPlace_X3_shade : GoodIn wsX6_ofPlace (wsV RX6 218 RX3 yX3_shade wsX3_shade) := goodIn_app (goodIn_of _ (by decide +kernel)) ggX6_ofPlace_X3_shade
set_option maxRecDepth 20000 in
theorem ggX6_ofPlace_X6_colourSeen : GoodIn wsX6_ofPlace wsX6_colourSeen := goodIn_r _ [28] (by decide +kernel) (by decide +kernel)
set_option maxRecDepth 20000 in
theorem gX6_ofPlace_X6_colourSeen : GoodIn wsX6_ofPlace (va_wsS RX6 221 yX6_colourSeen wsX6_colourSeen) := goodIn_app (goodIn_of _ (by decide +kernel)) ggX6_ofPlace_X6_colourSeen
set_option maxRecDepth 20000 in
theorem ggX6_ofPlace_X4_howIs : GoodIn wsX6_ofPlace wsX4_howIs := goodIn_r _ [33, 34, 52, 53, 54] (by decide +kernel) (by decide +kernel)
set_option maxRecDepth 20000 in
theorem gX6_ofPlace_X4_howIs : GoodIn wsX6_ofPlace (wsV RX6 88 RX4 yX4_howIs wsX4_howIs) := goodIn_app (goodIn_of _ (by decide +kernel)) ggX6_ofPlace_X4_howIs
set_option maxRecDepth 20000 in
theorem ggX6_ofPlace_X4_isMapped : GoodIn wsX6_ofPlace wsX4_isMapped := goodIn_r _ [38, 39, 52, 53, 54] (by decide +kernel) (by decide +kernel)
set_option maxRecDepth 20000 in
theorem gX6_ofPlace_X4_isMapped : GoodIn wsX6_ofPlace (wsV RX6 224 RX4 yX4_isMapped wsX4_isMapped) := goodIn_app (goodIn_of _ (by decide +kernel)) ggX6_ofPlace_X4_isMapped
set_option maxRecDepth 20000 in
theorem ggX6_many_X6_needRange : GoodIn wsX6_many wsX6_needRange := goodIn_ca (goodIn_r _ [7, 8, 9] (by decide +kernel) (by decide +kernel)) (goodIn_sub (fun _ h => List.mem_cons_of_mem _ (List.mem_append_right _ h)) (by decide +kernel))
set_option maxRecDepth 20000 in
theorem gX6_many_X6_needRange : GoodIn wsX6_many (va_wsS RX6 70 yX6_needRange wsX6_needRange) := goodIn_app (goodIn_of _ (by decide +kernel)) ggX6_many_X6_needRange
set_option maxRecDepth 20000 in
theorem ggX6_many_X4_countMapped : GoodIn wsX6_many wsX4_countMapped := goodIn_r _ [14, 15, 41, 42, 43] (by decide +kernel) (by decide +kernel)
set_option maxRecDepth 20000 in
theorem gX6_many_X4_countMapped : GoodIn wsX6_many (wsV RX6 99 RX4 yX4_countMapped wsX4_countMapped) := goodIn_app (goodIn_of _ (by decide +kernel)) ggX6_many_X4_countMapped
set_option maxRecDepth 20000 in
theorem ggX6_many_X6_countEdits : GoodIn wsX6_many wsX6_countEdits := goodIn_r _ [19, 1, 20, 21, 22, 23, 24, 25, 26, 32, 33, 34, 35, 36, 37, 38, 39, 40, 44, 45, 46, 47, 48, 49, 50, 51] (by decide +kernel) (by decide +kernel)
set_option maxRecDepth 20000 in
theorem gX6_many_X6_countEdits : GoodIn wsX6_many (wsV RX6 231 RX6 yX6_countEdits wsX6_countEdits) := goodIn_app (goodIn_of _ (by decide +kernel)) ggX6_many_X6_countEdits
set_option maxRecDepth 20000 in
theorem ggX6_many_X4_countSpoilt : GoodIn wsX6_many wsX4_countSpoilt := goodIn_r _ [30, 31, 15, 41, 42, 43] (by decide +kernel) (by decide +kernel)
set_option maxRecDepth 20000 in
theorem gX6_many_X4_countSpoilt : GoodIn wsX6_many (wsV RX6 234 RX4 yX4_countSpoilt wsX4_countSpoilt) := goodIn_app (goodIn_of _ (by decide +kernel)) ggX6_many_X4_countSpoilt
set_option maxRecDepth 20000 in
theorem ggX6_apart_X6_needFrame : GoodIn wsX6_apart wsX6_needFrame := goodIn_ca (goodIn_r _ [7, 8, 9, 10, 93, 94, 95, 96, 97, 98, 99, 100, 101] (by decide +kernel) (by decide +kernel)) (goodIn_sub (fun _ h => List.mem_cons_of_mem _ (List.mem_append_right _ h)) (by decide +kernel))
set_option maxRecDepth 20000 in
theorem gX6_apart_X6_needFrame : GoodIn wsX6_apart (wsV RX6 127 RX6 yX6_needFrame wsX6_needFrame) := goodIn_app (goodIn_of _ (by decide +kernel)) ggX6_apart_X6_needFrame
set_option maxRecDepth 20000 in
theorem ggX6_apart_X6_developFrame : GoodIn wsX6_apart wsX6_developFrame := goodIn_r _ [14, 15, 16, 17, 18, 19, 20, 21, 22, 23, 24, 25, 26, 27, 28, 29, 30, 31, 32, 33, 34, 6, 35, 36, 37, 38, 39, 40, 41, 42, 43, 44, 45, 46, 47, 48, 49, 50, 51, 52, 53, 54, 55, 56, 57, 58, 59, 60, 61, 62, 63, 64, 65, 66, 67, 68, 69, 70, 71, 72, 73, 74, 75, 76, 77, 78, 79, 80, 81, 82, 83, 84, 85, 86, 87, 88, 93, 94, 95, 96, 97, 98, 99, 100, 101, 102, 103, 104, 105, 106, 107, 108, 109, 110, 111, 112, 113, 114] (by decide +kernel) (by decide +kernel)
set_option maxRecDepth 20000 in
theorem gX6_apart_X6_developFrame : GoodIn wsX6_apart (wsV RX6 162 RX6 yX6_developFrame wsX6_developFrame) := goodIn_app (goodIn_of _ (by decide +kernel)) ggX6_apart_X6_developFrame
set_option maxRecDepth 20000 in
theorem ggX6_apart_X2_farthestFrom : GoodIn wsX6_apart wsX2_farthestFrom := goodIn_r _ [92, 45, 113, 114] (by decide +kernel) (by decide +kernel)
set_option maxRecDepth 20000 in
theorem gX6_apart_X2_farthestFrom : GoodIn wsX6_apart (wsV RX6 238 RX2 yX2_farthestFrom wsX2_farthestFrom) := goodIn_app (goodIn_of _ (by decide +kernel)) ggX6_apart_X2_farthestFrom
set_option maxRecDepth 20000 in
theorem ggX6_wouldClip_X6_needExposure : GoodIn wsX6_wouldClip wsX6_needExposure := goodIn_ca (goodIn_r _ [7, 8, 9, 6, 10, 11, 12] (by decide +kernel) (by decide +kernel)) (goodIn_sub (fun _ h => List.mem_cons_of_mem _ (List.mem_append_right _ h)) (by decide +kernel))
set_option maxRecDepth 20000 in
theorem gX6_wouldClip_X6_needExposure : GoodIn wsX6_wouldClip (va_wsS RX6 102 yX6_needExposure wsX6_needExposure) := goodIn_app (goodIn_of _ (by decide +kernel)) ggX6_wouldClip_X6_needExposure
set_option maxRecDepth 20000 in
theorem ggX6_wouldClip_X4_expose : GoodIn wsX6_wouldClip wsX4_expose := goodIn_r _ [17, 18, 19, 20, 6, 21, 22, 23, 24, 25, 26, 27, 28, 29, 30, 31, 32, 33, 34, 35, 36, 37, 16, 38, 39, 40, 41, 42, 43, 44, 45, 61, 62, 63, 64, 65, 66, 67, 68, 69, 70, 71] (by decide +kernel) (by decide +kernel)
set_option maxRecDepth 20000 in
theorem gX6_wouldClip_X4_expose : GoodIn wsX6_wouldClip (wsV RX6 108 RX4 yX4_expose wsX4_expose) := goodIn_app (goodIn_of _ (by decide +kernel)) ggX6_wouldClip_X4_expose
set_option maxRecDepth 20000 in
theorem ggX6_wouldClip_X1_countClipped : GoodIn wsX6_wouldClip wsX1_countClipped := goodIn_r _ [50, 51, 64, 65, 66, 67, 68] (by decide +kernel) (by decide +kernel)
set_option maxRecDepth 20000 in
theorem gX6_wouldClip_X1_countClipped : GoodIn wsX6_wouldClip (wsV RX6 183 RX1 yX1_countClipped wsX1_countClipped) := goodIn_app (goodIn_of _ (by decide +kernel)) ggX6_wouldClip_X1_countClipped
set_option maxRecDepth 20000 in
theorem ggX6_bestTake_X6_needRange : GoodIn wsX6_bestTake wsX6_needRange := goodIn_ca (goodIn_r _ [7, 8, 9] (by decide +kernel) (by decide +kernel)) (goodIn_sub (fun _ h => List.mem_cons_of_mem _ (List.mem_append_right _ h)) (by decide +kernel))
set_option maxRecDepth 20000 in
theorem gX6_bestTake_X6_needRange : GoodIn wsX6_bestTake (va_wsS RX6 70 yX6_needRange wsX6_needRange) := goodIn_app (goodIn_of _ (by decide +kernel)) ggX6_bestTake_X6_needRange
set_option maxRecDepth 20000 in
theorem ggX6_bestTake_X4_expose : GoodIn wsX6_bestTake wsX4_expose := goodIn_r _ [14, 15, 16, 17, 6, 18, 19, 20, 21, 22, 23, 24, 25, 26, 27, 28, 29, 30, 31, 32, 33, 34, 13, 35, 36, 37, 38, 39, 40, 41, 42, 64, 65, 66, 67, 68, 69, 70, 71, 72, 73, 74] (by decide +kernel) (by decide +kernel)
set_option maxRecDepth 20000 in
theorem gX6_bestTake_X4_expose : GoodIn wsX6_bestTake (wsV RX6 108 RX4 yX4_expose wsX4_expose) := goodIn_app (goodIn_of _ (by decide +kernel)) ggX6_bestTake_X4_expose
set_option maxRecDepth 20000 in
theorem ggX6_bestTake_X1_meanOfZones : GoodIn wsX6_bestTake wsX1_meanOfZones := goodIn_r _ [47, 48, 49, 50, 51, 46, 52, 53, 54, 19, 6, 20, 17, 18, 67, 68, 69, 70, 71] (by decide +kernel) (by decide +kernel)
set_option maxRecDepth 20000 in
theorem gX6_bestTake_X1_meanOfZones : GoodIn wsX6_bestTake (wsV RX6 207 RX1 yX1_meanOfZones wsX1_meanOfZones) := goodIn_app (goodIn_of _ (by decide +kernel)) ggX6_bestTake_X1_meanOfZones
set_option maxRecDepth 20000 in
theorem ggX6_bestWhite_X6_needFrame : GoodIn wsX6_bestWhite wsX6_needFrame := goodIn_ca (goodIn_r _ [13, 14, 15, 16, 100, 101, 102, 103, 104, 105, 106, 107, 108] (by decide +kernel) (by decide +kernel)) (goodIn_sub (fun _ h => List.mem_cons_of_mem _ (List.mem_append_left _ (List.mem_append_right _ h))) (by decide +kernel))
set_option maxRecDepth 20000 in
theorem gX6_bestWhite_X6_needFrame : GoodIn wsX6_bestWhite (wsV RX6 127 RX6 yX6_needFrame wsX6_needFrame) := goodIn_app (goodIn_of _ (by decide +kernel)) ggX6_bestWhite_X6_needFrame
set_option maxRecDepth 20000 in
theorem ggX6_bestWhite_X6_needRange : GoodIn wsX6_bestWhite wsX6_needRange := goodIn_ca (goodIn_r _ [19, 20, 21] (by decide +kernel) (by decide +kernel)) (goodIn_sub (fun _ h => List.mem_cons_of_mem _ (List.mem_append_right _ h)) (by decide +kernel))
set_option maxRecDepth 20000 in
theorem gX6_bestWhite_X6_needRange : GoodIn wsX6_bestWhite (va_wsS RX6 70 yX6_needRange wsX6_needRange) := goodIn_app (goodIn_of _ (by decide +kernel)) ggX6_bestWhite_X6_needRange
set_option maxRecDepth 20000 in
theorem ggX6_bestWhite_X2_compose : GoodIn wsX6_bestWhite wsX2_compose := goodIn_r _ [26, 27, 28, 29, 30, 31, 32, 33, 34, 35, 36, 25, 37, 38, 39, 12, 40, 41, 42, 43, 44, 45, 46, 47, 48, 49, 50, 51, 52, 53, 54, 55, 56, 57, 58, 59, 60, 61, 62, 63, 64, 65, 66, 67, 68, 69, 70, 71, 72, 73, 74, 75, 76, 77, 78, 79, 80, 81, 82, 83, 84, 85, 86, 117, 118, 119, 120, 121] (by decide +kernel) (by decide +kernel)
set_option maxRecDepth 20000 in
theorem gX6_bestWhite_X2_compose : GoodIn wsX6_bestWhite (wsV RX6 246 RX2 yX2_compose wsX2_compose) := goodIn_app (goodIn_of _ (by decide +kernel)) ggX6_bestWhite_X2_compose
set_option maxRecDepth 20000 in
theorem ggX6_bestWhite_X2_sumTones : GoodIn wsX6_bestWhite wsX2_sumTones := goodIn_r _ [90, 50, 57, 58, 25, 59, 91, 92, 93, 82, 120, 121] (by decide +kernel) (by decide +kernel)
set_option maxRecDepth 20000 in
theorem gX6_bestWhite_X2_sumTones : GoodIn wsX6_bestWhite (wsV RX6 250 RX2 yX2_sumTones wsX2_sumTones) := goodIn_app (goodIn_of _ (by decide +kernel)) ggX6_bestWhite_X2_sumTones
set_option maxRecDepth 20000 in
theorem ggX6_bestWhite_X6_leastNumber : GoodIn wsX6_bestWhite wsX6_leastNumber := goodIn_r _ [96] (by decide +kernel) (by decide +kernel)
set_option maxRecDepth 20000 in
theorem gX6_bestWhite_X6_leastNumber : GoodIn wsX6_bestWhite (va_wsS RX6 130 yX6_leastNumber wsX6_leastNumber) := goodIn_app (goodIn_of _ (by decide +kernel)) ggX6_bestWhite_X6_leastNumber
set_option maxRecDepth 20000 in
theorem ggX6_bestWhite_X6_mostNumber : GoodIn wsX6_bestWhite wsX6_mostNumber := goodIn_r _ [99] (by decide +kernel) (by decide +kernel)
set_option maxRecDepth 20000 in
theorem gX6_bestWhite_X6_mostNumber : GoodIn wsX6_bestWhite (va_wsS RX6 133 yX6_mostNumber wsX6_mostNumber) := goodIn_app (goodIn_of _ (by decide +kernel)) ggX6_bestWhite_X6_mostNumber
set_option maxRecDepth 20000 in
theorem ggX6_digest_X6_many : GoodIn wsX6_digest wsX6_many := goodIn_ca (goodIn_r _ [11, 3, 6, 12, 13, 14, 10, 15, 16, 17, 18, 19, 20, 21, 22, 23, 24, 25, 26, 27, 5, 28, 29, 30, 31, 32, 33, 34, 35, 36, 37, 38, 214, 215, 216, 217, 218, 219, 220, 221, 222, 228, 229, 230, 223, 224, 225, 226, 227, 231, 232, 233] (by decide +kernel) (by decide +kernel)) (goodIn_sub (fun _ h => List.mem_cons_of_mem _ (List.mem_append_left _ (List.mem_append_right _ h))) (by decide +kernel))
set_option maxRecDepth 20000 in
theorem gX6_digest_X6_many : GoodIn wsX6_digest (wsV RX6 264 RX6 yX6_many wsX6_many) := goodIn_app (goodIn_of _ (by decide +kernel)) ggX6_digest_X6_many
set_option maxRecDepth 20000 in
theorem ggX6_digest_X6_ofFrame : GoodIn wsX6_digest wsX6_ofFrame := goodIn_ca (goodIn_ca (goodIn_r _ [42, 5, 43, 44, 45, 10, 46, 47, 48, 3, 13, 14, 15, 16, 17, 28, 29, 30, 31, 32, 33, 49, 50, 51, 52, 53, 54, 55, 56, 57, 58, 59, 60, 61, 62, 63, 64, 65, 66, 67, 68, 69, 70, 71, 72, 73, 74, 75, 76, 77, 78, 79, 80, 81, 82, 83, 84, 6, 85, 214, 215, 216, 217, 218, 219, 220, 221, 222, 223, 224, 225, 226, 227, 231, 232, 233, 234, 235, 236] (by decide +kernel) (by decide +kernel)) (goodIn_sub (fun _ h => List.mem_cons_of_mem _ (List.mem_append_right _ h)) (by decide +kernel))) (goodIn_sub (fun _ h => List.mem_cons_of_mem _ (List.mem_append_left _ (List.mem_append_right _ h))) (by decide +kernel))
set_option maxRecDepth 20000 in
theorem gX6_digest_X6_ofFrame : GoodIn wsX6_digest (wsV RX6 267 RX6 yX6_ofFrame wsX6_ofFrame) := goodIn_app (goodIn_of _ (by decide +kernel)) ggX6_digest_X6_ofFrame
set_option maxRecDepth 20000 in
theorem ggX6_digest_X6_word : GoodIn wsX6_digest wsX6_word := goodIn_ca (goodIn_r _ [89, 5, 43, 44, 45, 10, 46, 47, 48, 3, 90, 91, 92, 93, 94, 12, 95, 96, 97, 98, 99, 100, 101, 102, 31, 103, 33, 104, 105, 106, 107, 108, 109, 65, 66, 110, 111, 112, 113, 114, 115, 116, 117, 118, 119, 63, 64, 120, 121, 122, 123, 124, 125, 126, 127, 29, 30, 32, 128, 129, 130, 131, 132, 133, 134, 135, 136, 137, 138, 139, 140, 141, 142, 143, 144, 145, 146, 147, 148, 149, 150, 151, 152, 153, 154, 155, 156, 157, 158, 159, 160, 161, 214, 215, 216, 217, 218, 219, 220, 221, 222, 223, 224, 225, 226, 227, 228, 229, 230, 231, 232, 233, 237, 238] (by decide +kernel) (by decide +kernel)) (goodIn_sub (fun _ h => List.mem_cons_of_mem _ (List.mem_append_right _ h)) (by decide +kernel))
set_option maxRecDepth 20000 in
theorem gX6_digest_X6_word : GoodIn wsX6_digest (wsV RX6 270 RX6 yX6_word wsX6_word) := goodIn_app (goodIn_of _ (by decide +kernel)) ggX6_digest_X6_word
set_option maxRecDepth 20000 in
theorem ggX6_digest_X6_meter : GoodIn wsX6_digest wsX6_meter := goodIn_ca (goodIn_r _ [165, 5, 43, 44, 45, 10, 46, 47, 48, 3, 166, 167, 168, 52, 169, 170, 171, 172, 173, 174, 54, 175, 63, 64, 65, 66, 214, 215, 216, 217, 218, 219, 220, 221, 222, 223, 224, 225, 226, 227] (by decide +kernel) (by decide +kernel)) (goodIn_sub (fun _ h => List.mem_cons_of_mem _ (List.mem_append_right _ h)) (by decide +kernel))
set_option maxRecDepth 20000 in
theorem gX6_digest_X6_meter : GoodIn wsX6_digest (wsV RX6 273 RX6 yX6_meter wsX6_meter) := goodIn_app (goodIn_of _ (by decide +kernel)) ggX6_digest_X6_meter
set_option maxRecDepth 20000 in
theorem ggX6_digest_X6_ofFile : GoodIn wsX6_digest wsX6_ofFile := goodIn_ca (goodIn_ca (goodIn_r _ [179, 6, 85, 180, 181, 10, 182, 47, 48, 13, 14, 15, 16, 17, 28, 29, 30, 31, 32, 33, 90, 91, 92, 93, 94, 5, 12, 95, 96, 97, 98, 99, 100, 101, 102, 103, 104, 105, 106, 107, 108, 109, 65, 66, 110, 111, 112, 113, 114, 115, 116, 117, 118, 119, 63, 64, 120, 121, 122, 123, 124, 125, 126, 127, 128, 129, 130, 131, 132, 133, 134, 135, 136, 137, 138, 139, 140, 141, 142, 143, 144, 145, 146, 147, 148, 149, 150, 151, 152, 153, 154, 155, 156, 157, 158, 159, 160, 161, 214, 215, 216, 217, 218, 219, 220, 221, 222, 234, 235, 236, 231, 232, 233, 223, 224, 225, 226, 227, 228, 229, 230, 237, 238] (by decide +kernel) (by decide +kernel)) (goodIn_sub (fun _ h => List.mem_cons_of_mem _ (List.mem_append_right _ h)) (by decide +kernel))) (goodIn_sub (fun _ h => List.mem_cons_of_mem _ (List.mem_append_left _ (List.mem_append_right _ h))) (by decide +kernel))
set_option maxRecDepth 20000 in
theorem gX6_digest_X6_ofFile : GoodIn wsX6_digest (wsV RX6 278 RX6 yX6_ofFile wsX6_ofFile) := goodIn_app (goodIn_of _ (by decide +kernel)) ggX6_digest_X6_ofFile
set_option maxRecDepth 20000 in
theorem ggX6_digest_X6_wouldClip : GoodIn wsX6_digest wsX6_wouldClip := goodIn_ca (goodIn_r _ [186, 12, 187, 188, 189, 190, 10, 191, 13, 14, 15, 16, 17, 192, 193, 194, 21, 195, 196, 38, 65, 66, 63, 64, 197, 198, 199, 200, 201, 202, 203, 204, 205, 206, 207, 208, 209, 210, 211, 212, 72, 61, 73, 213, 75, 76, 49, 50, 51, 52, 53, 54, 214, 215, 216, 217, 218, 219, 220, 221, 222, 228, 229, 230, 223, 224, 225, 226, 227, 239, 240, 241] (by decide +kernel) (by decide +kernel)) (goodIn_sub (fun _ h => List.mem_cons_of_mem _ (List.mem_append_left _ (List.mem_append_right _ h))) (by decide +kernel))
set_option maxRecDepth 20000 in
theorem gX6_digest_X6_wouldClip : GoodIn wsX6_digest (wsV RX6 281 RX6 yX6_wouldClip wsX6_wouldClip) := goodIn_app (goodIn_of _ (by decide +kernel)) ggX6_digest_X6_wouldClip
set_option maxRecDepth 20000 in
theorem ggX6_needPlace_X6_isPlace : GoodIn wsX6_needPlace wsX6_isPlace := goodIn_r _ [6] (by decide +kernel) (by decide +kernel)
set_option maxRecDepth 20000 in
theorem gX6_needPlace_X6_isPlace : GoodIn wsX6_needPlace (va_wsS RX6 289 yX6_isPlace wsX6_isPlace) := goodIn_app (goodIn_of _ (by decide +kernel)) ggX6_needPlace_X6_isPlace
set_option maxRecDepth 20000 in
theorem ggX6_needExposure_X6_needRange : GoodIn wsX6_needExposure wsX6_needRange := goodIn_ca (goodIn_r _ [4, 5, 6] (by decide +kernel) (by decide +kernel)) (goodIn_sub (fun _ h => List.mem_cons_of_mem _ (List.mem_append_right _ h)) (by decide +kernel))
set_option maxRecDepth 20000 in
theorem gX6_needExposure_X6_needRange : GoodIn wsX6_needExposure (va_wsS RX6 70 yX6_needRange wsX6_needRange) := goodIn_app (goodIn_of _ (by decide +kernel)) ggX6_needExposure_X6_needRange
set_option maxRecDepth 20000 in
theorem ggX6_countEdits_X0_count : GoodIn wsX6_countEdits wsX0_count := goodIn_r _ [7, 8, 23, 24, 25] (by decide +kernel) (by decide +kernel)
set_option maxRecDepth 20000 in
theorem gX6_countEdits_X0_count : GoodIn wsX6_countEdits (wsV RX6 140 RX0 yX0_count wsX0_count) := goodIn_app (goodIn_of _ (by decide +kernel)) ggX6_countEdits_X0_count
set_option maxRecDepth 20000 in
theorem ggX6_developFrame_X2_compose : GoodIn wsX6_developFrame wsX2_compose := goodIn_r _ [7, 8, 9, 10, 11, 12, 13, 14, 15, 16, 17, 6, 18, 19, 20, 21, 22, 23, 24, 25, 26, 27, 28, 29, 30, 31, 32, 33, 34, 35, 36, 37, 38, 39, 40, 41, 42, 43, 44, 45, 46, 47, 48, 49, 50, 51, 52, 53, 54, 55, 56, 57, 58, 59, 60, 61, 62, 63, 64, 65, 66, 67, 68, 93, 94, 95, 96, 97] (by decide +kernel) (by decide +kernel)
set_option maxRecDepth 20000 in
theorem gX6_developFrame_X2_compose : GoodIn wsX6_developFrame (wsV RX6 246 RX2 yX2_compose wsX2_compose) := goodIn_app (goodIn_of _ (by decide +kernel)) ggX6_developFrame_X2_compose
set_option maxRecDepth 20000 in
theorem ggX6_developFrame_X2_bound : GoodIn wsX6_developFrame wsX2_bound := goodIn_r _ [72, 32, 73, 74, 6, 75, 64, 96, 97] (by decide +kernel) (by decide +kernel)
set_option maxRecDepth 20000 in
theorem gX6_developFrame_X2_bound : GoodIn wsX6_developFrame (wsV RX6 304 RX2 yX2_bound wsX2_bound) := goodIn_app (goodIn_of _ (by decide +kernel)) ggX6_developFrame_X2_bound
set_option maxRecDepth 20000 in
theorem ggX6_wordBehind_X2_compose : GoodIn wsX6_wordBehind wsX2_compose := goodIn_r _ [8, 9, 10, 11, 12, 13, 14, 15, 16, 17, 18, 7, 19, 20, 21, 22, 23, 24, 25, 26, 27, 28, 29, 30, 31, 32, 33, 34, 35, 36, 37, 38, 39, 40, 41, 42, 43, 44, 45, 46, 47, 48, 49, 50, 51, 52, 53, 54, 55, 56, 57, 58, 59, 60, 61, 62, 63, 64, 65, 66, 67, 68, 69, 98, 99, 100, 101, 102] (by decide +kernel) (by decide +kernel)
set_option maxRecDepth 20000 in
theorem gX6_wordBehind_X2_compose : GoodIn wsX6_wordBehind (wsV RX6 246 RX2 yX2_compose wsX2_compose) := goodIn_app (goodIn_of _ (by decide +kernel)) ggX6_wordBehind_X2_compose
set_option maxRecDepth 20000 in
theorem ggX6_wordBehind_X2_bound : GoodIn wsX6_wordBehind wsX2_bound := goodIn_r _ [73, 33, 74, 75, 7, 76, 65, 101, 102] (by decide +kernel) (by decide +kernel)
set_option maxRecDepth 20000 in
theorem gX6_wordBehind_X2_bound : GoodIn wsX6_wordBehind (wsV RX6 304 RX2 yX2_bound wsX2_bound) := goodIn_app (goodIn_of _ (by decide +kernel)) ggX6_wordBehind_X2_bound
set_option maxRecDepth 20000 in
theorem ggX6_wordBehind_X2_sumUp : GoodIn wsX6_wordBehind wsX2_sumUp := goodIn_r _ [80, 33, 101, 102] (by decide +kernel) (by decide +kernel)
set_option maxRecDepth 20000 in
theorem gX6_wordBehind_X2_sumUp : GoodIn wsX6_wordBehind (wsV RX6 307 RX2 yX2_sumUp wsX2_sumUp) := goodIn_app (goodIn_of _ (by decide +kernel)) ggX6_wordBehind_X2_sumUp
set_option maxRecDepth 20000 in
theorem ggX6_smallestOf_X6_isIn : GoodIn wsX6_smallestOf wsX6_isIn := goodIn_r _ [4] (by decide +kernel) (by decide +kernel)
set_option maxRecDepth 20000 in
theorem gX6_smallestOf_X6_isIn : GoodIn wsX6_smallestOf (va_wsS RX6 310 yX6_isIn wsX6_isIn) := goodIn_app (goodIn_of _ (by decide +kernel)) ggX6_smallestOf_X6_isIn
set_option maxRecDepth 20000 in
theorem ggX6_putTogether_X6_smallestOf : GoodIn wsX6_putTogether wsX6_smallestOf := goodIn_r _ [11, 12, 13, 10, 14] (by decide +kernel) (by decide +kernel)
set_option maxRecDepth 20000 in
theorem gX6_putTogether_X6_smallestOf : GoodIn wsX6_putTogether (wsV RX6 313 RX6 yX6_smallestOf wsX6_smallestOf) := goodIn_app (goodIn_of _ (by decide +kernel)) ggX6_putTogether_X6_smallestOf
set_option maxRecDepth 20000 in
theorem ggX6_putTogether_X6_isIn : GoodIn wsX6_putTogether wsX6_isIn := goodIn_r _ [14] (by decide +kernel) (by decide +kernel)
set_option maxRecDepth 20000 in
theorem gX6_putTogether_X6_isIn : GoodIn wsX6_putTogether (va_wsS RX6 310 yX6_isIn wsX6_isIn) := goodIn_app (goodIn_of _ (by decide +kernel)) ggX6_putTogether_X6_isIn
end
section
theorem dX0_init_0 : decode cX0_init 0 = .ok (.aload_n 0, 1) := by decide +kernel
theorem dX0_init_1 : decode cX0_init 1 = .ok (.invokespecial 3, 3) := by decide +kernel
theorem dX0_init_4 : decode cX0_init 4 = .ok (.aload_n 0, 1) := by decide +kernel
theorem dX0_init_5 : decode cX0_init 5 = .ok (.bipush 6, 2) := by decide +kernel
theorem dX0_init_7 : decode cX0_init 7 = .ok (.newarray .int, 2) := by decide +kernel
theorem dX0_init_9 : decode cX0_init 9 = .ok (.putfield 9, 3) := by decide +kernel
theorem dX0_init_12 : decode cX0_init 12 = .ok (.aload_n 0, 1) := by decide +kernel
theorem dX0_init_13 : decode cX0_init 13 = .ok (.bipush 6, 2) := by decide +kernel
theorem dX0_init_15 : decode cX0_init 15 = .ok (.newarray .int, 2) := by decide +kernel
theorem dX0_init_17 : decode cX0_init 17 = .ok (.putfield 15, 3) := by decide +kernel
theorem dX0_init_20 : decode cX0_init 20 = .ok (.aload_n 0, 1) := by decide +kernel
theorem dX0_init_21 : decode cX0_init 21 = .ok (.iconst 0, 1) := by decide +kernel
theorem dX0_init_22 : decode cX0_init 22 = .ok (.putfield 18, 3) := by decide +kernel
theorem dX0_init_25 : decode cX0_init 25 = .ok (.return_, 1) := by decide +kernel
theorem dX0_count_0 : decode cX0_count 0 = .ok (.aload_n 0, 1) := by decide +kernel
theorem dX0_count_1 : decode cX0_count 1 = .ok (.getfield 18, 3) := by decide +kernel
theorem dX0_count_4 : decode cX0_count 4 = .ok (.ireturn, 1) := by decide +kernel
theorem dX0_append_0 : decode cX0_append 0 = .ok (.aload_n 0, 1) := by decide +kernel
theorem dX0_append_1 : decode cX0_append 1 = .ok (.getfield 18, 3) := by decide +kernel
theorem dX0_append_4 : decode cX0_append 4 = .ok (.bipush 6, 2) := by decide +kernel
theorem dX0_append_6 : decode cX0_append 6 = .ok (.if_icmp .ge 33, 3) := by decide +kernel
theorem dX0_append_9 : decode cX0_append 9 = .ok (.aload_n 0, 1) := by decide +kernel
theorem dX0_append_10 : decode cX0_append 10 = .ok (.getfield 9, 3) := by decide +kernel
theorem dX0_append_13 : decode cX0_append 13 = .ok (.aload_n 0, 1) := by decide +kernel
theorem dX0_append_14 : decode cX0_append 14 = .ok (.getfield 18, 3) := by decide +kernel
theorem dX0_append_17 : decode cX0_append 17 = .ok (.iload_n 1, 1) := by decide +kernel
theorem dX0_append_18 : decode cX0_append 18 = .ok (.iastore, 1) := by decide +kernel
theorem dX0_append_19 : decode cX0_append 19 = .ok (.aload_n 0, 1) := by decide +kernel
theorem dX0_append_20 : decode cX0_append 20 = .ok (.getfield 15, 3) := by decide +kernel
theorem dX0_append_23 : decode cX0_append 23 = .ok (.aload_n 0, 1) := by decide +kernel
theorem dX0_append_24 : decode cX0_append 24 = .ok (.getfield 18, 3) := by decide +kernel
theorem dX0_append_27 : decode cX0_append 27 = .ok (.iload_n 2, 1) := by decide +kernel
theorem dX0_append_28 : decode cX0_append 28 = .ok (.iastore, 1) := by decide +kernel
theorem dX0_append_29 : decode cX0_append 29 = .ok (.aload_n 0, 1) := by decide +kernel
theorem dX0_append_30 : decode cX0_append 30 = .ok (.dup, 1) := by decide +kernel
theorem dX0_append_31 : decode cX0_append 31 = .ok (.getfield 18, 3) := by decide +kernel
theorem dX0_append_34 : decode cX0_append 34 = .ok (.iconst 1, 1) := by decide +kernel
theorem dX0_append_35 : decode cX0_append 35 = .ok (.iadd, 1) := by decide +kernel
theorem dX0_append_36 : decode cX0_append 36 = .ok (.putfield 18, 3) := by decide +kernel
theorem dX0_append_39 : decode cX0_append 39 = .ok (.return_, 1) := by decide +kernel
theorem dX0_takeBack_0 : decode cX0_takeBack 0 = .ok (.aload_n 0, 1) := by decide +kernel
theorem dX0_takeBack_1 : decode cX0_takeBack 1 = .ok (.getfield 18, 3) := by decide +kernel
theorem dX0_takeBack_4 : decode cX0_takeBack 4 = .ok (.ifCond .ne 5, 3) := by decide +kernel
theorem dX0_takeBack_7 : decode cX0_takeBack 7 = .ok (.iconst (-1), 1) := by decide +kernel
theorem dX0_takeBack_8 : decode cX0_takeBack 8 = .ok (.ireturn, 1) := by decide +kernel
theorem dX0_takeBack_9 : decode cX0_takeBack 9 = .ok (.aload_n 0, 1) := by decide +kernel
theorem dX0_takeBack_10 : decode cX0_takeBack 10 = .ok (.dup, 1) := by decide +kernel
theorem dX0_takeBack_11 : decode cX0_takeBack 11 = .ok (.getfield 18, 3) := by decide +kernel
theorem dX0_takeBack_14 : decode cX0_takeBack 14 = .ok (.iconst 1, 1) := by decide +kernel
theorem dX0_takeBack_15 : decode cX0_takeBack 15 = .ok (.isub, 1) := by decide +kernel
theorem dX0_takeBack_16 : decode cX0_takeBack 16 = .ok (.putfield 18, 3) := by decide +kernel
theorem dX0_takeBack_19 : decode cX0_takeBack 19 = .ok (.aload_n 0, 1) := by decide +kernel
theorem dX0_takeBack_20 : decode cX0_takeBack 20 = .ok (.getfield 9, 3) := by decide +kernel
theorem dX0_takeBack_23 : decode cX0_takeBack 23 = .ok (.aload_n 0, 1) := by decide +kernel
theorem dX0_takeBack_24 : decode cX0_takeBack 24 = .ok (.getfield 18, 3) := by decide +kernel
theorem dX0_takeBack_27 : decode cX0_takeBack 27 = .ok (.iaload, 1) := by decide +kernel
theorem dX0_takeBack_28 : decode cX0_takeBack 28 = .ok (.ireturn, 1) := by decide +kernel
theorem dX0_copyFrom_0 : decode cX0_copyFrom 0 = .ok (.iconst 0, 1) := by decide +kernel
theorem dX0_copyFrom_1 : decode cX0_copyFrom 1 = .ok (.istore_n 2, 1) := by decide +kernel
theorem dX0_copyFrom_2 : decode cX0_copyFrom 2 = .ok (.iload_n 2, 1) := by decide +kernel
theorem dX0_copyFrom_3 : decode cX0_copyFrom 3 = .ok (.bipush 6, 2) := by decide +kernel
theorem dX0_copyFrom_5 : decode cX0_copyFrom 5 = .ok (.if_icmp .ge 33, 3) := by decide +kernel
theorem dX0_copyFrom_8 : decode cX0_copyFrom 8 = .ok (.aload_n 0, 1) := by decide +kernel
theorem dX0_copyFrom_9 : decode cX0_copyFrom 9 = .ok (.getfield 9, 3) := by decide +kernel
theorem dX0_copyFrom_12 : decode cX0_copyFrom 12 = .ok (.iload_n 2, 1) := by decide +kernel
theorem dX0_copyFrom_13 : decode cX0_copyFrom 13 = .ok (.aload_n 1, 1) := by decide +kernel
theorem dX0_copyFrom_14 : decode cX0_copyFrom 14 = .ok (.getfield 9, 3) := by decide +kernel
theorem dX0_copyFrom_17 : decode cX0_copyFrom 17 = .ok (.iload_n 2, 1) := by decide +kernel
theorem dX0_copyFrom_18 : decode cX0_copyFrom 18 = .ok (.iaload, 1) := by decide +kernel
theorem dX0_copyFrom_19 : decode cX0_copyFrom 19 = .ok (.iastore, 1) := by decide +kernel
theorem dX0_copyFrom_20 : decode cX0_copyFrom 20 = .ok (.aload_n 0, 1) := by decide +kernel
theorem dX0_copyFrom_21 : decode cX0_copyFrom 21 = .ok (.getfield 15, 3) := by decide +kernel
theorem dX0_copyFrom_24 : decode cX0_copyFrom 24 = .ok (.iload_n 2, 1) := by decide +kernel
theorem dX0_copyFrom_25 : decode cX0_copyFrom 25 = .ok (.aload_n 1, 1) := by decide +kernel
theorem dX0_copyFrom_26 : decode cX0_copyFrom 26 = .ok (.getfield 15, 3) := by decide +kernel
theorem dX0_copyFrom_29 : decode cX0_copyFrom 29 = .ok (.iload_n 2, 1) := by decide +kernel
theorem dX0_copyFrom_30 : decode cX0_copyFrom 30 = .ok (.iaload, 1) := by decide +kernel
theorem dX0_copyFrom_31 : decode cX0_copyFrom 31 = .ok (.iastore, 1) := by decide +kernel
theorem dX0_copyFrom_32 : decode cX0_copyFrom 32 = .ok (.iinc 2 1, 3) := by decide +kernel
theorem dX0_copyFrom_35 : decode cX0_copyFrom 35 = .ok (.goto (-33), 3) := by decide +kernel
theorem dX0_copyFrom_38 : decode cX0_copyFrom 38 = .ok (.aload_n 0, 1) := by decide +kernel
theorem dX0_copyFrom_39 : decode cX0_copyFrom 39 = .ok (.aload_n 1, 1) := by decide +kernel
theorem dX0_copyFrom_40 : decode cX0_copyFrom 40 = .ok (.getfield 18, 3) := by decide +kernel
theorem dX0_copyFrom_43 : decode cX0_copyFrom 43 = .ok (.putfield 18, 3) := by decide +kernel
theorem dX0_copyFrom_46 : decode cX0_copyFrom 46 = .ok (.return_, 1) := by decide +kernel
theorem dX0_hasMend_0 : decode cX0_hasMend 0 = .ok (.iconst 0, 1) := by decide +kernel
theorem dX0_hasMend_1 : decode cX0_hasMend 1 = .ok (.istore_n 1, 1) := by decide +kernel
theorem dX0_hasMend_2 : decode cX0_hasMend 2 = .ok (.iload_n 1, 1) := by decide +kernel
theorem dX0_hasMend_3 : decode cX0_hasMend 3 = .ok (.aload_n 0, 1) := by decide +kernel
theorem dX0_hasMend_4 : decode cX0_hasMend 4 = .ok (.getfield 18, 3) := by decide +kernel
theorem dX0_hasMend_7 : decode cX0_hasMend 7 = .ok (.if_icmp .ge 21, 3) := by decide +kernel
theorem dX0_hasMend_10 : decode cX0_hasMend 10 = .ok (.aload_n 0, 1) := by decide +kernel
theorem dX0_hasMend_11 : decode cX0_hasMend 11 = .ok (.getfield 9, 3) := by decide +kernel
theorem dX0_hasMend_14 : decode cX0_hasMend 14 = .ok (.iload_n 1, 1) := by decide +kernel
theorem dX0_hasMend_15 : decode cX0_hasMend 15 = .ok (.iaload, 1) := by decide +kernel
theorem dX0_hasMend_16 : decode cX0_hasMend 16 = .ok (.iconst 5, 1) := by decide +kernel
theorem dX0_hasMend_17 : decode cX0_hasMend 17 = .ok (.if_icmp .ne 5, 3) := by decide +kernel
theorem dX0_hasMend_20 : decode cX0_hasMend 20 = .ok (.iconst 1, 1) := by decide +kernel
theorem dX0_hasMend_21 : decode cX0_hasMend 21 = .ok (.ireturn, 1) := by decide +kernel
theorem dX0_hasMend_22 : decode cX0_hasMend 22 = .ok (.iinc 1 1, 3) := by decide +kernel
theorem dX0_hasMend_25 : decode cX0_hasMend 25 = .ok (.goto (-23), 3) := by decide +kernel
theorem dX0_hasMend_28 : decode cX0_hasMend 28 = .ok (.iconst 0, 1) := by decide +kernel
theorem dX0_hasMend_29 : decode cX0_hasMend 29 = .ok (.ireturn, 1) := by decide +kernel
theorem dX1_init_0 : decode cX1_init 0 = .ok (.aload_n 0, 1) := by decide +kernel
theorem dX1_init_1 : decode cX1_init 1 = .ok (.invokespecial 3, 3) := by decide +kernel
theorem dX1_init_4 : decode cX1_init 4 = .ok (.aload_n 0, 1) := by decide +kernel
theorem dX1_init_5 : decode cX1_init 5 = .ok (.bipush 64, 2) := by decide +kernel
theorem dX1_init_7 : decode cX1_init 7 = .ok (.newarray .int, 2) := by decide +kernel
theorem dX1_init_9 : decode cX1_init 9 = .ok (.putfield 9, 3) := by decide +kernel
theorem dX1_init_12 : decode cX1_init 12 = .ok (.aload_n 0, 1) := by decide +kernel
theorem dX1_init_13 : decode cX1_init 13 = .ok (.new 15, 3) := by decide +kernel
theorem dX1_init_16 : decode cX1_init 16 = .ok (.dup, 1) := by decide +kernel
theorem dX1_init_17 : decode cX1_init 17 = .ok (.invokespecial 17, 3) := by decide +kernel
theorem dX1_init_20 : decode cX1_init 20 = .ok (.putfield 18, 3) := by decide +kernel
theorem dX1_init_23 : decode cX1_init 23 = .ok (.aload_n 0, 1) := by decide +kernel
theorem dX1_init_24 : decode cX1_init 24 = .ok (.iconst 0, 1) := by decide +kernel
theorem dX1_init_25 : decode cX1_init 25 = .ok (.putfield 22, 3) := by decide +kernel
theorem dX1_init_28 : decode cX1_init 28 = .ok (.aload_n 0, 1) := by decide +kernel
theorem dX1_init_29 : decode cX1_init 29 = .ok (.iconst 0, 1) := by decide +kernel
theorem dX1_init_30 : decode cX1_init 30 = .ok (.putfield 26, 3) := by decide +kernel
theorem dX1_init_33 : decode cX1_init 33 = .ok (.aload_n 0, 1) := by decide +kernel
theorem dX1_init_34 : decode cX1_init 34 = .ok (.iconst 0, 1) := by decide +kernel
theorem dX1_init_35 : decode cX1_init 35 = .ok (.putfield 29, 3) := by decide +kernel
theorem dX1_init_38 : decode cX1_init 38 = .ok (.return_, 1) := by decide +kernel
theorem dX1_countClipped_0 : decode cX1_countClipped 0 = .ok (.iconst 0, 1) := by decide +kernel
theorem dX1_countClipped_1 : decode cX1_countClipped 1 = .ok (.istore_n 1, 1) := by decide +kernel
theorem dX1_countClipped_2 : decode cX1_countClipped 2 = .ok (.iconst 0, 1) := by decide +kernel
theorem dX1_countClipped_3 : decode cX1_countClipped 3 = .ok (.istore_n 2, 1) := by decide +kernel
theorem dX1_countClipped_4 : decode cX1_countClipped 4 = .ok (.iload_n 2, 1) := by decide +kernel
theorem dX1_countClipped_5 : decode cX1_countClipped 5 = .ok (.bipush 64, 2) := by decide +kernel
theorem dX1_countClipped_7 : decode cX1_countClipped 7 = .ok (.if_icmp .ge 24, 3) := by decide +kernel
theorem dX1_countClipped_10 : decode cX1_countClipped 10 = .ok (.aload_n 0, 1) := by decide +kernel
theorem dX1_countClipped_11 : decode cX1_countClipped 11 = .ok (.getfield 9, 3) := by decide +kernel
theorem dX1_countClipped_14 : decode cX1_countClipped 14 = .ok (.iload_n 2, 1) := by decide +kernel
theorem dX1_countClipped_15 : decode cX1_countClipped 15 = .ok (.iaload, 1) := by decide +kernel
theorem dX1_countClipped_16 : decode cX1_countClipped 16 = .ok (.sipush 255, 3) := by decide +kernel
theorem dX1_countClipped_19 : decode cX1_countClipped 19 = .ok (.if_icmp .ne 6, 3) := by decide +kernel
theorem dX1_countClipped_22 : decode cX1_countClipped 22 = .ok (.iinc 1 1, 3) := by decide +kernel
theorem dX1_countClipped_25 : decode cX1_countClipped 25 = .ok (.iinc 2 1, 3) := by decide +kernel
theorem dX1_countClipped_28 : decode cX1_countClipped 28 = .ok (.goto (-24), 3) := by decide +kernel
theorem dX1_countClipped_31 : decode cX1_countClipped 31 = .ok (.iload_n 1, 1) := by decide +kernel
theorem dX1_countClipped_32 : decode cX1_countClipped 32 = .ok (.ireturn, 1) := by decide +kernel
theorem dX1_sharpness_0 : decode cX1_sharpness 0 = .ok (.iconst 0, 1) := by decide +kernel
theorem dX1_sharpness_1 : decode cX1_sharpness 1 = .ok (.istore_n 1, 1) := by decide +kernel
theorem dX1_sharpness_2 : decode cX1_sharpness 2 = .ok (.iconst 0, 1) := by decide +kernel
theorem dX1_sharpness_3 : decode cX1_sharpness 3 = .ok (.istore_n 2, 1) := by decide +kernel
theorem dX1_sharpness_4 : decode cX1_sharpness 4 = .ok (.iload_n 2, 1) := by decide +kernel
theorem dX1_sharpness_5 : decode cX1_sharpness 5 = .ok (.bipush 7, 2) := by decide +kernel
theorem dX1_sharpness_7 : decode cX1_sharpness 7 = .ok (.if_icmp .ge 63, 3) := by decide +kernel
theorem dX1_sharpness_10 : decode cX1_sharpness 10 = .ok (.iconst 0, 1) := by decide +kernel
theorem dX1_sharpness_11 : decode cX1_sharpness 11 = .ok (.istore_n 3, 1) := by decide +kernel
theorem dX1_sharpness_12 : decode cX1_sharpness 12 = .ok (.iload_n 3, 1) := by decide +kernel
theorem dX1_sharpness_13 : decode cX1_sharpness 13 = .ok (.bipush 7, 2) := by decide +kernel
theorem dX1_sharpness_15 : decode cX1_sharpness 15 = .ok (.if_icmp .ge 49, 3) := by decide +kernel
theorem dX1_sharpness_18 : decode cX1_sharpness 18 = .ok (.iload_n 3, 1) := by decide +kernel
theorem dX1_sharpness_19 : decode cX1_sharpness 19 = .ok (.iload_n 2, 1) := by decide +kernel
theorem dX1_sharpness_20 : decode cX1_sharpness 20 = .ok (.invokestatic 32, 3) := by decide +kernel
theorem dX1_sharpness_23 : decode cX1_sharpness 23 = .ok (.iconst 1, 1) := by decide +kernel
theorem dX1_sharpness_24 : decode cX1_sharpness 24 = .ok (.if_icmp .ne 34, 3) := by decide +kernel
theorem dX1_sharpness_27 : decode cX1_sharpness 27 = .ok (.iload_n 1, 1) := by decide +kernel
theorem dX1_sharpness_28 : decode cX1_sharpness 28 = .ok (.aload_n 0, 1) := by decide +kernel
theorem dX1_sharpness_29 : decode cX1_sharpness 29 = .ok (.getfield 9, 3) := by decide +kernel
theorem dX1_sharpness_32 : decode cX1_sharpness 32 = .ok (.iload_n 3, 1) := by decide +kernel
theorem dX1_sharpness_33 : decode cX1_sharpness 33 = .ok (.iload_n 2, 1) := by decide +kernel
theorem dX1_sharpness_34 : decode cX1_sharpness 34 = .ok (.invokestatic 36, 3) := by decide +kernel
theorem dX1_sharpness_37 : decode cX1_sharpness 37 = .ok (.iaload, 1) := by decide +kernel
theorem dX1_sharpness_38 : decode cX1_sharpness 38 = .ok (.aload_n 0, 1) := by decide +kernel
theorem dX1_sharpness_39 : decode cX1_sharpness 39 = .ok (.getfield 9, 3) := by decide +kernel
theorem dX1_sharpness_42 : decode cX1_sharpness 42 = .ok (.iload_n 3, 1) := by decide +kernel
theorem dX1_sharpness_43 : decode cX1_sharpness 43 = .ok (.iconst 1, 1) := by decide +kernel
theorem dX1_sharpness_44 : decode cX1_sharpness 44 = .ok (.iadd, 1) := by decide +kernel
theorem dX1_sharpness_45 : decode cX1_sharpness 45 = .ok (.iload_n 2, 1) := by decide +kernel
theorem dX1_sharpness_46 : decode cX1_sharpness 46 = .ok (.iconst 1, 1) := by decide +kernel
theorem dX1_sharpness_47 : decode cX1_sharpness 47 = .ok (.iadd, 1) := by decide +kernel
theorem dX1_sharpness_48 : decode cX1_sharpness 48 = .ok (.invokestatic 36, 3) := by decide +kernel
theorem dX1_sharpness_51 : decode cX1_sharpness 51 = .ok (.iaload, 1) := by decide +kernel
theorem dX1_sharpness_52 : decode cX1_sharpness 52 = .ok (.isub, 1) := by decide +kernel
theorem dX1_sharpness_53 : decode cX1_sharpness 53 = .ok (.invokestatic 39, 3) := by decide +kernel
theorem dX1_sharpness_56 : decode cX1_sharpness 56 = .ok (.iadd, 1) := by decide +kernel
theorem dX1_sharpness_57 : decode cX1_sharpness 57 = .ok (.istore_n 1, 1) := by decide +kernel
theorem dX1_sharpness_58 : decode cX1_sharpness 58 = .ok (.iinc 3 1, 3) := by decide +kernel
theorem dX1_sharpness_61 : decode cX1_sharpness 61 = .ok (.goto (-49), 3) := by decide +kernel
theorem dX1_sharpness_64 : decode cX1_sharpness 64 = .ok (.iinc 2 1, 3) := by decide +kernel
theorem dX1_sharpness_67 : decode cX1_sharpness 67 = .ok (.goto (-63), 3) := by decide +kernel
theorem dX1_sharpness_70 : decode cX1_sharpness 70 = .ok (.iload_n 1, 1) := by decide +kernel
theorem dX1_sharpness_71 : decode cX1_sharpness 71 = .ok (.ireturn, 1) := by decide +kernel
theorem dX1_whiteOf_0 : decode cX1_whiteOf 0 = .ok (.aload_n 0, 1) := by decide +kernel
theorem dX1_whiteOf_1 : decode cX1_whiteOf 1 = .ok (.iload_n 1, 1) := by decide +kernel
theorem dX1_whiteOf_2 : decode cX1_whiteOf 2 = .ok (.invokevirtual 45, 3) := by decide +kernel
theorem dX1_whiteOf_5 : decode cX1_whiteOf 5 = .ok (.istore_n 2, 1) := by decide +kernel
theorem dX1_whiteOf_6 : decode cX1_whiteOf 6 = .ok (.iload_n 2, 1) := by decide +kernel
theorem dX1_whiteOf_7 : decode cX1_whiteOf 7 = .ok (.ifCond .ne 6, 3) := by decide +kernel
theorem dX1_whiteOf_10 : decode cX1_whiteOf 10 = .ok (.bipush 16, 2) := by decide +kernel
theorem dX1_whiteOf_12 : decode cX1_whiteOf 12 = .ok (.ireturn, 1) := by decide +kernel
theorem dX1_whiteOf_13 : decode cX1_whiteOf 13 = .ok (.iconst 1, 1) := by decide +kernel
theorem dX1_whiteOf_14 : decode cX1_whiteOf 14 = .ok (.bipush 16, 2) := by decide +kernel
theorem dX1_whiteOf_16 : decode cX1_whiteOf 16 = .ok (.iconst 4, 1) := by decide +kernel
theorem dX1_whiteOf_17 : decode cX1_whiteOf 17 = .ok (.aload_n 0, 1) := by decide +kernel
theorem dX1_whiteOf_18 : decode cX1_whiteOf 18 = .ok (.iconst 1, 1) := by decide +kernel
theorem dX1_whiteOf_19 : decode cX1_whiteOf 19 = .ok (.invokevirtual 45, 3) := by decide +kernel
theorem dX1_whiteOf_22 : decode cX1_whiteOf 22 = .ok (.imul, 1) := by decide +kernel
theorem dX1_whiteOf_23 : decode cX1_whiteOf 23 = .ok (.iconst 2, 1) := by decide +kernel
theorem dX1_whiteOf_24 : decode cX1_whiteOf 24 = .ok (.iload_n 2, 1) := by decide +kernel
theorem dX1_whiteOf_25 : decode cX1_whiteOf 25 = .ok (.imul, 1) := by decide +kernel
theorem dX1_whiteOf_26 : decode cX1_whiteOf 26 = .ok (.idiv, 1) := by decide +kernel
theorem dX1_whiteOf_27 : decode cX1_whiteOf 27 = .ok (.invokestatic 48, 3) := by decide +kernel
theorem dX1_whiteOf_30 : decode cX1_whiteOf 30 = .ok (.invokestatic 51, 3) := by decide +kernel
theorem dX1_whiteOf_33 : decode cX1_whiteOf 33 = .ok (.ireturn, 1) := by decide +kernel
theorem dX1_sumSeen_0 : decode cX1_sumSeen 0 = .ok (.iconst 0, 1) := by decide +kernel
theorem dX1_sumSeen_1 : decode cX1_sumSeen 1 = .ok (.istore_n 2, 1) := by decide +kernel
theorem dX1_sumSeen_2 : decode cX1_sumSeen 2 = .ok (.iconst 0, 1) := by decide +kernel
theorem dX1_sumSeen_3 : decode cX1_sumSeen 3 = .ok (.istore_n 3, 1) := by decide +kernel
theorem dX1_sumSeen_4 : decode cX1_sumSeen 4 = .ok (.iload_n 3, 1) := by decide +kernel
theorem dX1_sumSeen_5 : decode cX1_sumSeen 5 = .ok (.bipush 8, 2) := by decide +kernel
theorem dX1_sumSeen_7 : decode cX1_sumSeen 7 = .ok (.if_icmp .ge 49, 3) := by decide +kernel
theorem dX1_sumSeen_10 : decode cX1_sumSeen 10 = .ok (.iconst 0, 1) := by decide +kernel
theorem dX1_sumSeen_11 : decode cX1_sumSeen 11 = .ok (.istore 4, 2) := by decide +kernel
theorem dX1_sumSeen_13 : decode cX1_sumSeen 13 = .ok (.iload 4, 2) := by decide +kernel
theorem dX1_sumSeen_15 : decode cX1_sumSeen 15 = .ok (.bipush 8, 2) := by decide +kernel
theorem dX1_sumSeen_17 : decode cX1_sumSeen 17 = .ok (.if_icmp .ge 33, 3) := by decide +kernel
theorem dX1_sumSeen_20 : decode cX1_sumSeen 20 = .ok (.iload 4, 2) := by decide +kernel
theorem dX1_sumSeen_22 : decode cX1_sumSeen 22 = .ok (.iload_n 3, 1) := by decide +kernel
theorem dX1_sumSeen_23 : decode cX1_sumSeen 23 = .ok (.invokestatic 32, 3) := by decide +kernel
theorem dX1_sumSeen_26 : decode cX1_sumSeen 26 = .ok (.iload_n 1, 1) := by decide +kernel
theorem dX1_sumSeen_27 : decode cX1_sumSeen 27 = .ok (.if_icmp .ne 17, 3) := by decide +kernel
theorem dX1_sumSeen_30 : decode cX1_sumSeen 30 = .ok (.iload_n 2, 1) := by decide +kernel
theorem dX1_sumSeen_31 : decode cX1_sumSeen 31 = .ok (.aload_n 0, 1) := by decide +kernel
theorem dX1_sumSeen_32 : decode cX1_sumSeen 32 = .ok (.getfield 9, 3) := by decide +kernel
theorem dX1_sumSeen_35 : decode cX1_sumSeen 35 = .ok (.iload 4, 2) := by decide +kernel
theorem dX1_sumSeen_37 : decode cX1_sumSeen 37 = .ok (.iload_n 3, 1) := by decide +kernel
theorem dX1_sumSeen_38 : decode cX1_sumSeen 38 = .ok (.invokestatic 36, 3) := by decide +kernel
theorem dX1_sumSeen_41 : decode cX1_sumSeen 41 = .ok (.iaload, 1) := by decide +kernel
theorem dX1_sumSeen_42 : decode cX1_sumSeen 42 = .ok (.iadd, 1) := by decide +kernel
theorem dX1_sumSeen_43 : decode cX1_sumSeen 43 = .ok (.istore_n 2, 1) := by decide +kernel
theorem dX1_sumSeen_44 : decode cX1_sumSeen 44 = .ok (.iinc 4 1, 3) := by decide +kernel
theorem dX1_sumSeen_47 : decode cX1_sumSeen 47 = .ok (.goto (-34), 3) := by decide +kernel
theorem dX1_sumSeen_50 : decode cX1_sumSeen 50 = .ok (.iinc 3 1, 3) := by decide +kernel
theorem dX1_sumSeen_53 : decode cX1_sumSeen 53 = .ok (.goto (-49), 3) := by decide +kernel
theorem dX1_sumSeen_56 : decode cX1_sumSeen 56 = .ok (.iload_n 2, 1) := by decide +kernel
theorem dX1_sumSeen_57 : decode cX1_sumSeen 57 = .ok (.ireturn, 1) := by decide +kernel
theorem dX1_meanOfZone_0 : decode cX1_meanOfZone 0 = .ok (.iload_n 1, 1) := by decide +kernel
theorem dX1_meanOfZone_1 : decode cX1_meanOfZone 1 = .ok (.iconst 2, 1) := by decide +kernel
theorem dX1_meanOfZone_2 : decode cX1_meanOfZone 2 = .ok (.irem, 1) := by decide +kernel
theorem dX1_meanOfZone_3 : decode cX1_meanOfZone 3 = .ok (.iconst 4, 1) := by decide +kernel
theorem dX1_meanOfZone_4 : decode cX1_meanOfZone 4 = .ok (.imul, 1) := by decide +kernel
theorem dX1_meanOfZone_5 : decode cX1_meanOfZone 5 = .ok (.istore_n 2, 1) := by decide +kernel
theorem dX1_meanOfZone_6 : decode cX1_meanOfZone 6 = .ok (.iload_n 1, 1) := by decide +kernel
theorem dX1_meanOfZone_7 : decode cX1_meanOfZone 7 = .ok (.iconst 2, 1) := by decide +kernel
theorem dX1_meanOfZone_8 : decode cX1_meanOfZone 8 = .ok (.idiv, 1) := by decide +kernel
theorem dX1_meanOfZone_9 : decode cX1_meanOfZone 9 = .ok (.iconst 4, 1) := by decide +kernel
theorem dX1_meanOfZone_10 : decode cX1_meanOfZone 10 = .ok (.imul, 1) := by decide +kernel
theorem dX1_meanOfZone_11 : decode cX1_meanOfZone 11 = .ok (.istore_n 3, 1) := by decide +kernel
theorem dX1_meanOfZone_12 : decode cX1_meanOfZone 12 = .ok (.iconst 0, 1) := by decide +kernel
theorem dX1_meanOfZone_13 : decode cX1_meanOfZone 13 = .ok (.istore 4, 2) := by decide +kernel
theorem dX1_meanOfZone_15 : decode cX1_meanOfZone 15 = .ok (.iload_n 3, 1) := by decide +kernel
theorem dX1_meanOfZone_16 : decode cX1_meanOfZone 16 = .ok (.istore 5, 2) := by decide +kernel
theorem dX1_meanOfZone_18 : decode cX1_meanOfZone 18 = .ok (.iload 5, 2) := by decide +kernel
theorem dX1_meanOfZone_20 : decode cX1_meanOfZone 20 = .ok (.iload_n 3, 1) := by decide +kernel
theorem dX1_meanOfZone_21 : decode cX1_meanOfZone 21 = .ok (.iconst 4, 1) := by decide +kernel
theorem dX1_meanOfZone_22 : decode cX1_meanOfZone 22 = .ok (.iadd, 1) := by decide +kernel
theorem dX1_meanOfZone_23 : decode cX1_meanOfZone 23 = .ok (.if_icmp .ge 54, 3) := by decide +kernel
theorem dX1_meanOfZone_26 : decode cX1_meanOfZone 26 = .ok (.iload_n 2, 1) := by decide +kernel
theorem dX1_meanOfZone_27 : decode cX1_meanOfZone 27 = .ok (.istore 6, 2) := by decide +kernel
theorem dX1_meanOfZone_29 : decode cX1_meanOfZone 29 = .ok (.iload 6, 2) := by decide +kernel
theorem dX1_meanOfZone_31 : decode cX1_meanOfZone 31 = .ok (.iload_n 2, 1) := by decide +kernel
theorem dX1_meanOfZone_32 : decode cX1_meanOfZone 32 = .ok (.iconst 4, 1) := by decide +kernel
theorem dX1_meanOfZone_33 : decode cX1_meanOfZone 33 = .ok (.iadd, 1) := by decide +kernel
theorem dX1_meanOfZone_34 : decode cX1_meanOfZone 34 = .ok (.if_icmp .ge 37, 3) := by decide +kernel
theorem dX1_meanOfZone_37 : decode cX1_meanOfZone 37 = .ok (.iload 6, 2) := by decide +kernel
theorem dX1_meanOfZone_39 : decode cX1_meanOfZone 39 = .ok (.iload 5, 2) := by decide +kernel
theorem dX1_meanOfZone_41 : decode cX1_meanOfZone 41 = .ok (.invokestatic 32, 3) := by decide +kernel
theorem dX1_meanOfZone_44 : decode cX1_meanOfZone 44 = .ok (.iconst 1, 1) := by decide +kernel
theorem dX1_meanOfZone_45 : decode cX1_meanOfZone 45 = .ok (.if_icmp .ne 20, 3) := by decide +kernel
theorem dX1_meanOfZone_48 : decode cX1_meanOfZone 48 = .ok (.iload 4, 2) := by decide +kernel
theorem dX1_meanOfZone_50 : decode cX1_meanOfZone 50 = .ok (.aload_n 0, 1) := by decide +kernel
theorem dX1_meanOfZone_51 : decode cX1_meanOfZone 51 = .ok (.getfield 9, 3) := by decide +kernel
theorem dX1_meanOfZone_54 : decode cX1_meanOfZone 54 = .ok (.iload 6, 2) := by decide +kernel
theorem dX1_meanOfZone_56 : decode cX1_meanOfZone 56 = .ok (.iload 5, 2) := by decide +kernel
theorem dX1_meanOfZone_58 : decode cX1_meanOfZone 58 = .ok (.invokestatic 36, 3) := by decide +kernel
theorem dX1_meanOfZone_61 : decode cX1_meanOfZone 61 = .ok (.iaload, 1) := by decide +kernel
theorem dX1_meanOfZone_62 : decode cX1_meanOfZone 62 = .ok (.iadd, 1) := by decide +kernel
theorem dX1_meanOfZone_63 : decode cX1_meanOfZone 63 = .ok (.istore 4, 2) := by decide +kernel
theorem dX1_meanOfZone_65 : decode cX1_meanOfZone 65 = .ok (.iinc 6 1, 3) := by decide +kernel
theorem dX1_meanOfZone_68 : decode cX1_meanOfZone 68 = .ok (.goto (-39), 3) := by decide +kernel
theorem dX1_meanOfZone_71 : decode cX1_meanOfZone 71 = .ok (.iinc 5 1, 3) := by decide +kernel
theorem dX1_meanOfZone_74 : decode cX1_meanOfZone 74 = .ok (.goto (-56), 3) := by decide +kernel
theorem dX1_meanOfZone_77 : decode cX1_meanOfZone 77 = .ok (.iload 4, 2) := by decide +kernel
theorem dX1_meanOfZone_79 : decode cX1_meanOfZone 79 = .ok (.i2d, 1) := by decide +kernel
theorem dX1_meanOfZone_80 : decode cX1_meanOfZone 80 = .ok (.ldc2_w 54, 3) := by decide +kernel
theorem dX1_meanOfZone_83 : decode cX1_meanOfZone 83 = .ok (.ddiv, 1) := by decide +kernel
theorem dX1_meanOfZone_84 : decode cX1_meanOfZone 84 = .ok (.dreturn, 1) := by decide +kernel
theorem dX1_meanOfZones_0 : decode cX1_meanOfZones 0 = .ok (.dconst 0, 1) := by decide +kernel
theorem dX1_meanOfZones_1 : decode cX1_meanOfZones 1 = .ok (.dstore_n 1, 1) := by decide +kernel
theorem dX1_meanOfZones_2 : decode cX1_meanOfZones 2 = .ok (.iconst 0, 1) := by decide +kernel
theorem dX1_meanOfZones_3 : decode cX1_meanOfZones 3 = .ok (.istore_n 3, 1) := by decide +kernel
theorem dX1_meanOfZones_4 : decode cX1_meanOfZones 4 = .ok (.iload_n 3, 1) := by decide +kernel
theorem dX1_meanOfZones_5 : decode cX1_meanOfZones 5 = .ok (.iconst 4, 1) := by decide +kernel
theorem dX1_meanOfZones_6 : decode cX1_meanOfZones 6 = .ok (.if_icmp .ge 17, 3) := by decide +kernel
theorem dX1_meanOfZones_9 : decode cX1_meanOfZones 9 = .ok (.dload_n 1, 1) := by decide +kernel
theorem dX1_meanOfZones_10 : decode cX1_meanOfZones 10 = .ok (.aload_n 0, 1) := by decide +kernel
theorem dX1_meanOfZones_11 : decode cX1_meanOfZones 11 = .ok (.iload_n 3, 1) := by decide +kernel
theorem dX1_meanOfZones_12 : decode cX1_meanOfZones 12 = .ok (.invokevirtual 56, 3) := by decide +kernel
theorem dX1_meanOfZones_15 : decode cX1_meanOfZones 15 = .ok (.dadd, 1) := by decide +kernel
theorem dX1_meanOfZones_16 : decode cX1_meanOfZones 16 = .ok (.dstore_n 1, 1) := by decide +kernel
theorem dX1_meanOfZones_17 : decode cX1_meanOfZones 17 = .ok (.iinc 3 1, 3) := by decide +kernel
theorem dX1_meanOfZones_20 : decode cX1_meanOfZones 20 = .ok (.goto (-16), 3) := by decide +kernel
theorem dX1_meanOfZones_23 : decode cX1_meanOfZones 23 = .ok (.dload_n 1, 1) := by decide +kernel
theorem dX1_meanOfZones_24 : decode cX1_meanOfZones 24 = .ok (.ldc2_w 60, 3) := by decide +kernel
theorem dX1_meanOfZones_27 : decode cX1_meanOfZones 27 = .ok (.ddiv, 1) := by decide +kernel
theorem dX1_meanOfZones_28 : decode cX1_meanOfZones 28 = .ok (.dreturn, 1) := by decide +kernel
theorem dX2_init_0 : decode cX2_init 0 = .ok (.aload_n 0, 1) := by decide +kernel
theorem dX2_init_1 : decode cX2_init 1 = .ok (.invokespecial 3, 3) := by decide +kernel
theorem dX2_init_4 : decode cX2_init 4 = .ok (.aload_n 0, 1) := by decide +kernel
theorem dX2_init_5 : decode cX2_init 5 = .ok (.sipush 192, 3) := by decide +kernel
theorem dX2_init_8 : decode cX2_init 8 = .ok (.newarray .float, 2) := by decide +kernel
theorem dX2_init_10 : decode cX2_init 10 = .ok (.putfield 9, 3) := by decide +kernel
theorem dX2_init_13 : decode cX2_init 13 = .ok (.aload_n 0, 1) := by decide +kernel
theorem dX2_init_14 : decode cX2_init 14 = .ok (.bipush 64, 2) := by decide +kernel
theorem dX2_init_16 : decode cX2_init 16 = .ok (.newarray .int, 2) := by decide +kernel
theorem dX2_init_18 : decode cX2_init 18 = .ok (.putfield 15, 3) := by decide +kernel
theorem dX2_init_21 : decode cX2_init 21 = .ok (.return_, 1) := by decide +kernel
theorem dX2_indexOf_0 : decode cX2_indexOf 0 = .ok (.iconst 3, 1) := by decide +kernel
theorem dX2_indexOf_1 : decode cX2_indexOf 1 = .ok (.iload_n 0, 1) := by decide +kernel
theorem dX2_indexOf_2 : decode cX2_indexOf 2 = .ok (.imul, 1) := by decide +kernel
theorem dX2_indexOf_3 : decode cX2_indexOf 3 = .ok (.iload_n 1, 1) := by decide +kernel
theorem dX2_indexOf_4 : decode cX2_indexOf 4 = .ok (.iadd, 1) := by decide +kernel
theorem dX2_indexOf_5 : decode cX2_indexOf 5 = .ok (.ireturn, 1) := by decide +kernel
theorem dX2_compose_0 : decode cX2_compose 0 = .ok (.aload_n 0, 1) := by decide +kernel
theorem dX2_compose_1 : decode cX2_compose 1 = .ok (.aload_n 1, 1) := by decide +kernel
theorem dX2_compose_2 : decode cX2_compose 2 = .ok (.aload_n 3, 1) := by decide +kernel
theorem dX2_compose_3 : decode cX2_compose 3 = .ok (.aload_n 2, 1) := by decide +kernel
theorem dX2_compose_4 : decode cX2_compose 4 = .ok (.invokevirtual 19, 3) := by decide +kernel
theorem dX2_compose_7 : decode cX2_compose 7 = .ok (.invokevirtual 25, 3) := by decide +kernel
theorem dX2_compose_10 : decode cX2_compose 10 = .ok (.aload_n 0, 1) := by decide +kernel
theorem dX2_compose_11 : decode cX2_compose 11 = .ok (.invokevirtual 29, 3) := by decide +kernel
theorem dX2_compose_14 : decode cX2_compose 14 = .ok (.iconst 0, 1) := by decide +kernel
theorem dX2_compose_15 : decode cX2_compose 15 = .ok (.istore 4, 2) := by decide +kernel
theorem dX2_compose_17 : decode cX2_compose 17 = .ok (.iload 4, 2) := by decide +kernel
theorem dX2_compose_19 : decode cX2_compose 19 = .ok (.aload_n 2, 1) := by decide +kernel
theorem dX2_compose_20 : decode cX2_compose 20 = .ok (.invokevirtual 32, 3) := by decide +kernel
theorem dX2_compose_23 : decode cX2_compose 23 = .ok (.if_icmp .ge 27, 3) := by decide +kernel
theorem dX2_compose_26 : decode cX2_compose 26 = .ok (.aload_n 0, 1) := by decide +kernel
theorem dX2_compose_27 : decode cX2_compose 27 = .ok (.aload_n 2, 1) := by decide +kernel
theorem dX2_compose_28 : decode cX2_compose 28 = .ok (.getfield 36, 3) := by decide +kernel
theorem dX2_compose_31 : decode cX2_compose 31 = .ok (.iload 4, 2) := by decide +kernel
theorem dX2_compose_33 : decode cX2_compose 33 = .ok (.iaload, 1) := by decide +kernel
theorem dX2_compose_34 : decode cX2_compose 34 = .ok (.aload_n 2, 1) := by decide +kernel
theorem dX2_compose_35 : decode cX2_compose 35 = .ok (.getfield 39, 3) := by decide +kernel
theorem dX2_compose_38 : decode cX2_compose 38 = .ok (.iload 4, 2) := by decide +kernel
theorem dX2_compose_40 : decode cX2_compose 40 = .ok (.iaload, 1) := by decide +kernel
theorem dX2_compose_41 : decode cX2_compose 41 = .ok (.invokevirtual 41, 3) := by decide +kernel
theorem dX2_compose_44 : decode cX2_compose 44 = .ok (.iinc 4 1, 3) := by decide +kernel
theorem dX2_compose_47 : decode cX2_compose 47 = .ok (.goto (-30), 3) := by decide +kernel
theorem dX2_compose_50 : decode cX2_compose 50 = .ok (.return_, 1) := by decide +kernel
theorem dX2_bound_0 : decode cX2_bound 0 = .ok (.iconst 0, 1) := by decide +kernel
theorem dX2_bound_1 : decode cX2_bound 1 = .ok (.istore_n 1, 1) := by decide +kernel
theorem dX2_bound_2 : decode cX2_bound 2 = .ok (.iload_n 1, 1) := by decide +kernel
theorem dX2_bound_3 : decode cX2_bound 3 = .ok (.aload_n 0, 1) := by decide +kernel
theorem dX2_bound_4 : decode cX2_bound 4 = .ok (.getfield 9, 3) := by decide +kernel
theorem dX2_bound_7 : decode cX2_bound 7 = .ok (.arraylength, 1) := by decide +kernel
theorem dX2_bound_8 : decode cX2_bound 8 = .ok (.if_icmp .ge 24, 3) := by decide +kernel
theorem dX2_bound_11 : decode cX2_bound 11 = .ok (.aload_n 0, 1) := by decide +kernel
theorem dX2_bound_12 : decode cX2_bound 12 = .ok (.getfield 9, 3) := by decide +kernel
theorem dX2_bound_15 : decode cX2_bound 15 = .ok (.iload_n 1, 1) := by decide +kernel
theorem dX2_bound_16 : decode cX2_bound 16 = .ok (.aload_n 0, 1) := by decide +kernel
theorem dX2_bound_17 : decode cX2_bound 17 = .ok (.getfield 9, 3) := by decide +kernel
theorem dX2_bound_20 : decode cX2_bound 20 = .ok (.iload_n 1, 1) := by decide +kernel
theorem dX2_bound_21 : decode cX2_bound 21 = .ok (.faload, 1) := by decide +kernel
theorem dX2_bound_22 : decode cX2_bound 22 = .ok (.invokestatic 45, 3) := by decide +kernel
theorem dX2_bound_25 : decode cX2_bound 25 = .ok (.fastore, 1) := by decide +kernel
theorem dX2_bound_26 : decode cX2_bound 26 = .ok (.iinc 1 1, 3) := by decide +kernel
theorem dX2_bound_29 : decode cX2_bound 29 = .ok (.goto (-27), 3) := by decide +kernel
theorem dX2_bound_32 : decode cX2_bound 32 = .ok (.return_, 1) := by decide +kernel
theorem dX2_sumUp_0 : decode cX2_sumUp 0 = .ok (.bipush 7, 2) := by decide +kernel
theorem dX2_sumUp_2 : decode cX2_sumUp 2 = .ok (.istore_n 1, 1) := by decide +kernel
theorem dX2_sumUp_3 : decode cX2_sumUp 3 = .ok (.iconst 0, 1) := by decide +kernel
theorem dX2_sumUp_4 : decode cX2_sumUp 4 = .ok (.istore_n 2, 1) := by decide +kernel
theorem dX2_sumUp_5 : decode cX2_sumUp 5 = .ok (.iload_n 2, 1) := by decide +kernel
theorem dX2_sumUp_6 : decode cX2_sumUp 6 = .ok (.aload_n 0, 1) := by decide +kernel
theorem dX2_sumUp_7 : decode cX2_sumUp 7 = .ok (.getfield 9, 3) := by decide +kernel
theorem dX2_sumUp_10 : decode cX2_sumUp 10 = .ok (.arraylength, 1) := by decide +kernel
theorem dX2_sumUp_11 : decode cX2_sumUp 11 = .ok (.if_icmp .ge 22, 3) := by decide +kernel
theorem dX2_sumUp_14 : decode cX2_sumUp 14 = .ok (.iload_n 1, 1) := by decide +kernel
theorem dX2_sumUp_15 : decode cX2_sumUp 15 = .ok (.bipush 31, 2) := by decide +kernel
theorem dX2_sumUp_17 : decode cX2_sumUp 17 = .ok (.imul, 1) := by decide +kernel
theorem dX2_sumUp_18 : decode cX2_sumUp 18 = .ok (.aload_n 0, 1) := by decide +kernel
theorem dX2_sumUp_19 : decode cX2_sumUp 19 = .ok (.getfield 9, 3) := by decide +kernel
theorem dX2_sumUp_22 : decode cX2_sumUp 22 = .ok (.iload_n 2, 1) := by decide +kernel
theorem dX2_sumUp_23 : decode cX2_sumUp 23 = .ok (.faload, 1) := by decide +kernel
theorem dX2_sumUp_24 : decode cX2_sumUp 24 = .ok (.f2i, 1) := by decide +kernel
theorem dX2_sumUp_25 : decode cX2_sumUp 25 = .ok (.iadd, 1) := by decide +kernel
theorem dX2_sumUp_26 : decode cX2_sumUp 26 = .ok (.istore_n 1, 1) := by decide +kernel
theorem dX2_sumUp_27 : decode cX2_sumUp 27 = .ok (.iinc 2 1, 3) := by decide +kernel
theorem dX2_sumUp_30 : decode cX2_sumUp 30 = .ok (.goto (-25), 3) := by decide +kernel
theorem dX2_sumUp_33 : decode cX2_sumUp 33 = .ok (.iload_n 1, 1) := by decide +kernel
theorem dX2_sumUp_34 : decode cX2_sumUp 34 = .ok (.ireturn, 1) := by decide +kernel
theorem dX2_sumTones_0 : decode cX2_sumTones 0 = .ok (.iconst 0, 1) := by decide +kernel
theorem dX2_sumTones_1 : decode cX2_sumTones 1 = .ok (.istore_n 3, 1) := by decide +kernel
theorem dX2_sumTones_2 : decode cX2_sumTones 2 = .ok (.iconst 0, 1) := by decide +kernel
theorem dX2_sumTones_3 : decode cX2_sumTones 3 = .ok (.istore 4, 2) := by decide +kernel
theorem dX2_sumTones_5 : decode cX2_sumTones 5 = .ok (.iload 4, 2) := by decide +kernel
theorem dX2_sumTones_7 : decode cX2_sumTones 7 = .ok (.bipush 64, 2) := by decide +kernel
theorem dX2_sumTones_9 : decode cX2_sumTones 9 = .ok (.if_icmp .ge 29, 3) := by decide +kernel
theorem dX2_sumTones_12 : decode cX2_sumTones 12 = .ok (.iload_n 3, 1) := by decide +kernel
theorem dX2_sumTones_13 : decode cX2_sumTones 13 = .ok (.aload_n 0, 1) := by decide +kernel
theorem dX2_sumTones_14 : decode cX2_sumTones 14 = .ok (.getfield 9, 3) := by decide +kernel
theorem dX2_sumTones_17 : decode cX2_sumTones 17 = .ok (.iload 4, 2) := by decide +kernel
theorem dX2_sumTones_19 : decode cX2_sumTones 19 = .ok (.iload_n 1, 1) := by decide +kernel
theorem dX2_sumTones_20 : decode cX2_sumTones 20 = .ok (.invokestatic 49, 3) := by decide +kernel
theorem dX2_sumTones_23 : decode cX2_sumTones 23 = .ok (.faload, 1) := by decide +kernel
theorem dX2_sumTones_24 : decode cX2_sumTones 24 = .ok (.fload_n 2, 1) := by decide +kernel
theorem dX2_sumTones_25 : decode cX2_sumTones 25 = .ok (.fmul, 1) := by decide +kernel
theorem dX2_sumTones_26 : decode cX2_sumTones 26 = .ok (.invokestatic 45, 3) := by decide +kernel
theorem dX2_sumTones_29 : decode cX2_sumTones 29 = .ok (.f2i, 1) := by decide +kernel
theorem dX2_sumTones_30 : decode cX2_sumTones 30 = .ok (.iadd, 1) := by decide +kernel
theorem dX2_sumTones_31 : decode cX2_sumTones 31 = .ok (.istore_n 3, 1) := by decide +kernel
theorem dX2_sumTones_32 : decode cX2_sumTones 32 = .ok (.iinc 4 1, 3) := by decide +kernel
theorem dX2_sumTones_35 : decode cX2_sumTones 35 = .ok (.goto (-30), 3) := by decide +kernel
theorem dX2_sumTones_38 : decode cX2_sumTones 38 = .ok (.iload_n 3, 1) := by decide +kernel
theorem dX2_sumTones_39 : decode cX2_sumTones 39 = .ok (.ireturn, 1) := by decide +kernel
theorem dX2_farthestFrom_0 : decode cX2_farthestFrom 0 = .ok (.fconst 0, 1) := by decide +kernel
theorem dX2_farthestFrom_1 : decode cX2_farthestFrom 1 = .ok (.fstore_n 2, 1) := by decide +kernel
theorem dX2_farthestFrom_2 : decode cX2_farthestFrom 2 = .ok (.iconst 0, 1) := by decide +kernel
theorem dX2_farthestFrom_3 : decode cX2_farthestFrom 3 = .ok (.istore_n 3, 1) := by decide +kernel
theorem dX2_farthestFrom_4 : decode cX2_farthestFrom 4 = .ok (.iload_n 3, 1) := by decide +kernel
theorem dX2_farthestFrom_5 : decode cX2_farthestFrom 5 = .ok (.aload_n 0, 1) := by decide +kernel
theorem dX2_farthestFrom_6 : decode cX2_farthestFrom 6 = .ok (.getfield 9, 3) := by decide +kernel
theorem dX2_farthestFrom_9 : decode cX2_farthestFrom 9 = .ok (.arraylength, 1) := by decide +kernel
theorem dX2_farthestFrom_10 : decode cX2_farthestFrom 10 = .ok (.if_icmp .ge 55, 3) := by decide +kernel
theorem dX2_farthestFrom_13 : decode cX2_farthestFrom 13 = .ok (.aload_n 0, 1) := by decide +kernel
theorem dX2_farthestFrom_14 : decode cX2_farthestFrom 14 = .ok (.getfield 9, 3) := by decide +kernel
theorem dX2_farthestFrom_17 : decode cX2_farthestFrom 17 = .ok (.iload_n 3, 1) := by decide +kernel
theorem dX2_farthestFrom_18 : decode cX2_farthestFrom 18 = .ok (.faload, 1) := by decide +kernel
theorem dX2_farthestFrom_19 : decode cX2_farthestFrom 19 = .ok (.aload_n 1, 1) := by decide +kernel
theorem dX2_farthestFrom_20 : decode cX2_farthestFrom 20 = .ok (.getfield 9, 3) := by decide +kernel
theorem dX2_farthestFrom_23 : decode cX2_farthestFrom 23 = .ok (.iload_n 3, 1) := by decide +kernel
theorem dX2_farthestFrom_24 : decode cX2_farthestFrom 24 = .ok (.faload, 1) := by decide +kernel
theorem dX2_farthestFrom_25 : decode cX2_farthestFrom 25 = .ok (.fsub, 1) := by decide +kernel
theorem dX2_farthestFrom_26 : decode cX2_farthestFrom 26 = .ok (.fstore 4, 2) := by decide +kernel
theorem dX2_farthestFrom_28 : decode cX2_farthestFrom 28 = .ok (.fload 4, 2) := by decide +kernel
theorem dX2_farthestFrom_30 : decode cX2_farthestFrom 30 = .ok (.fconst 0, 1) := by decide +kernel
theorem dX2_farthestFrom_31 : decode cX2_farthestFrom 31 = .ok (.fcmp .g, 1) := by decide +kernel
theorem dX2_farthestFrom_32 : decode cX2_farthestFrom 32 = .ok (.ifCond .ge 9, 3) := by decide +kernel
theorem dX2_farthestFrom_35 : decode cX2_farthestFrom 35 = .ok (.fload 4, 2) := by decide +kernel
theorem dX2_farthestFrom_37 : decode cX2_farthestFrom 37 = .ok (.fneg, 1) := by decide +kernel
theorem dX2_farthestFrom_38 : decode cX2_farthestFrom 38 = .ok (.goto 5, 3) := by decide +kernel
theorem dX2_farthestFrom_41 : decode cX2_farthestFrom 41 = .ok (.fload 4, 2) := by decide +kernel
theorem dX2_farthestFrom_43 : decode cX2_farthestFrom 43 = .ok (.fstore 4, 2) := by decide +kernel
theorem dX2_farthestFrom_45 : decode cX2_farthestFrom 45 = .ok (.fload 4, 2) := by decide +kernel
theorem dX2_farthestFrom_47 : decode cX2_farthestFrom 47 = .ok (.fload_n 2, 1) := by decide +kernel
theorem dX2_farthestFrom_48 : decode cX2_farthestFrom 48 = .ok (.fcmp .l, 1) := by decide +kernel
theorem dX2_farthestFrom_49 : decode cX2_farthestFrom 49 = .ok (.ifCond .le 8, 3) := by decide +kernel
theorem dX2_farthestFrom_52 : decode cX2_farthestFrom 52 = .ok (.fload 4, 2) := by decide +kernel
theorem dX2_farthestFrom_54 : decode cX2_farthestFrom 54 = .ok (.goto 4, 3) := by decide +kernel
theorem dX2_farthestFrom_57 : decode cX2_farthestFrom 57 = .ok (.fload_n 2, 1) := by decide +kernel
theorem dX2_farthestFrom_58 : decode cX2_farthestFrom 58 = .ok (.fstore_n 2, 1) := by decide +kernel
theorem dX2_farthestFrom_59 : decode cX2_farthestFrom 59 = .ok (.iinc 3 1, 3) := by decide +kernel
theorem dX2_farthestFrom_62 : decode cX2_farthestFrom 62 = .ok (.goto (-58), 3) := by decide +kernel
theorem dX2_farthestFrom_65 : decode cX2_farthestFrom 65 = .ok (.fload_n 2, 1) := by decide +kernel
theorem dX2_farthestFrom_66 : decode cX2_farthestFrom 66 = .ok (.freturn, 1) := by decide +kernel
theorem dX2_bounded_0 : decode cX2_bounded 0 = .ok (.fload_n 0, 1) := by decide +kernel
theorem dX2_bounded_1 : decode cX2_bounded 1 = .ok (.ldc 53, 2) := by decide +kernel
theorem dX2_bounded_3 : decode cX2_bounded 3 = .ok (.fcmp .l, 1) := by decide +kernel
theorem dX2_bounded_4 : decode cX2_bounded 4 = .ok (.ifCond .le 6, 3) := by decide +kernel
theorem dX2_bounded_7 : decode cX2_bounded 7 = .ok (.ldc 53, 2) := by decide +kernel
theorem dX2_bounded_9 : decode cX2_bounded 9 = .ok (.freturn, 1) := by decide +kernel
theorem dX2_bounded_10 : decode cX2_bounded 10 = .ok (.fload_n 0, 1) := by decide +kernel
theorem dX2_bounded_11 : decode cX2_bounded 11 = .ok (.fconst 0, 1) := by decide +kernel
theorem dX2_bounded_12 : decode cX2_bounded 12 = .ok (.fcmp .l, 1) := by decide +kernel
theorem dX2_bounded_13 : decode cX2_bounded 13 = .ok (.ifCond .le 7, 3) := by decide +kernel
theorem dX2_bounded_16 : decode cX2_bounded 16 = .ok (.fload_n 0, 1) := by decide +kernel
theorem dX2_bounded_17 : decode cX2_bounded 17 = .ok (.goto 4, 3) := by decide +kernel
theorem dX2_bounded_20 : decode cX2_bounded 20 = .ok (.fconst 0, 1) := by decide +kernel
theorem dX2_bounded_21 : decode cX2_bounded 21 = .ok (.freturn, 1) := by decide +kernel
theorem dX2_mendAll_0 : decode cX2_mendAll 0 = .ok (.iconst 0, 1) := by decide +kernel
theorem dX2_mendAll_1 : decode cX2_mendAll 1 = .ok (.istore 4, 2) := by decide +kernel
theorem dX2_mendAll_3 : decode cX2_mendAll 3 = .ok (.iload 4, 2) := by decide +kernel
theorem dX2_mendAll_5 : decode cX2_mendAll 5 = .ok (.bipush 8, 2) := by decide +kernel
theorem dX2_mendAll_7 : decode cX2_mendAll 7 = .ok (.if_icmp .ge 80, 3) := by decide +kernel
theorem dX2_mendAll_10 : decode cX2_mendAll 10 = .ok (.iconst 0, 1) := by decide +kernel
theorem dX2_mendAll_11 : decode cX2_mendAll 11 = .ok (.istore 5, 2) := by decide +kernel
theorem dX2_mendAll_13 : decode cX2_mendAll 13 = .ok (.iload 5, 2) := by decide +kernel
theorem dX2_mendAll_15 : decode cX2_mendAll 15 = .ok (.bipush 8, 2) := by decide +kernel
theorem dX2_mendAll_17 : decode cX2_mendAll 17 = .ok (.if_icmp .ge 64, 3) := by decide +kernel
theorem dX2_mendAll_20 : decode cX2_mendAll 20 = .ok (.iload 5, 2) := by decide +kernel
theorem dX2_mendAll_22 : decode cX2_mendAll 22 = .ok (.iload 4, 2) := by decide +kernel
theorem dX2_mendAll_24 : decode cX2_mendAll 24 = .ok (.invokestatic 54, 3) := by decide +kernel
theorem dX2_mendAll_27 : decode cX2_mendAll 27 = .ok (.istore 6, 2) := by decide +kernel
theorem dX2_mendAll_29 : decode cX2_mendAll 29 = .ok (.iload_n 3, 1) := by decide +kernel
theorem dX2_mendAll_30 : decode cX2_mendAll 30 = .ok (.ifCond .eq 14, 3) := by decide +kernel
theorem dX2_mendAll_33 : decode cX2_mendAll 33 = .ok (.aload_n 2, 1) := by decide +kernel
theorem dX2_mendAll_34 : decode cX2_mendAll 34 = .ok (.iload 6, 2) := by decide +kernel
theorem dX2_mendAll_36 : decode cX2_mendAll 36 = .ok (.baload, 1) := by decide +kernel
theorem dX2_mendAll_37 : decode cX2_mendAll 37 = .ok (.ifCond .eq 7, 3) := by decide +kernel
theorem dX2_mendAll_40 : decode cX2_mendAll 40 = .ok (.iconst 1, 1) := by decide +kernel
theorem dX2_mendAll_41 : decode cX2_mendAll 41 = .ok (.goto 4, 3) := by decide +kernel
theorem dX2_mendAll_44 : decode cX2_mendAll 44 = .ok (.iconst 0, 1) := by decide +kernel
theorem dX2_mendAll_45 : decode cX2_mendAll 45 = .ok (.istore 7, 2) := by decide +kernel
theorem dX2_mendAll_47 : decode cX2_mendAll 47 = .ok (.aload_n 0, 1) := by decide +kernel
theorem dX2_mendAll_48 : decode cX2_mendAll 48 = .ok (.getfield 15, 3) := by decide +kernel
theorem dX2_mendAll_51 : decode cX2_mendAll 51 = .ok (.iload 6, 2) := by decide +kernel
theorem dX2_mendAll_53 : decode cX2_mendAll 53 = .ok (.iload 7, 2) := by decide +kernel
theorem dX2_mendAll_55 : decode cX2_mendAll 55 = .ok (.ifCond .eq 15, 3) := by decide +kernel
theorem dX2_mendAll_58 : decode cX2_mendAll 58 = .ok (.aload_n 1, 1) := by decide +kernel
theorem dX2_mendAll_59 : decode cX2_mendAll 59 = .ok (.aload_n 2, 1) := by decide +kernel
theorem dX2_mendAll_60 : decode cX2_mendAll 60 = .ok (.iload 5, 2) := by decide +kernel
theorem dX2_mendAll_62 : decode cX2_mendAll 62 = .ok (.iload 4, 2) := by decide +kernel
theorem dX2_mendAll_64 : decode cX2_mendAll 64 = .ok (.invokestatic 57, 3) := by decide +kernel
theorem dX2_mendAll_67 : decode cX2_mendAll 67 = .ok (.goto 7, 3) := by decide +kernel
theorem dX2_mendAll_70 : decode cX2_mendAll 70 = .ok (.aload_n 1, 1) := by decide +kernel
theorem dX2_mendAll_71 : decode cX2_mendAll 71 = .ok (.iload 6, 2) := by decide +kernel
theorem dX2_mendAll_73 : decode cX2_mendAll 73 = .ok (.iaload, 1) := by decide +kernel
theorem dX2_mendAll_74 : decode cX2_mendAll 74 = .ok (.iastore, 1) := by decide +kernel
theorem dX2_mendAll_75 : decode cX2_mendAll 75 = .ok (.iinc 5 1, 3) := by decide +kernel
theorem dX2_mendAll_78 : decode cX2_mendAll 78 = .ok (.goto (-65), 3) := by decide +kernel
theorem dX2_mendAll_81 : decode cX2_mendAll 81 = .ok (.iinc 4 1, 3) := by decide +kernel
theorem dX2_mendAll_84 : decode cX2_mendAll 84 = .ok (.goto (-81), 3) := by decide +kernel
theorem dX2_mendAll_87 : decode cX2_mendAll 87 = .ok (.return_, 1) := by decide +kernel
theorem dX2_mendedAt_0 : decode cX2_mendedAt 0 = .ok (.iconst 0, 1) := by decide +kernel
theorem dX2_mendedAt_1 : decode cX2_mendedAt 1 = .ok (.istore 4, 2) := by decide +kernel
theorem dX2_mendedAt_3 : decode cX2_mendedAt 3 = .ok (.iconst 0, 1) := by decide +kernel
theorem dX2_mendedAt_4 : decode cX2_mendedAt 4 = .ok (.istore 5, 2) := by decide +kernel
theorem dX2_mendedAt_6 : decode cX2_mendedAt 6 = .ok (.iconst 0, 1) := by decide +kernel
theorem dX2_mendedAt_7 : decode cX2_mendedAt 7 = .ok (.istore 6, 2) := by decide +kernel
theorem dX2_mendedAt_9 : decode cX2_mendedAt 9 = .ok (.iload 6, 2) := by decide +kernel
theorem dX2_mendedAt_11 : decode cX2_mendedAt 11 = .ok (.iconst 4, 1) := by decide +kernel
theorem dX2_mendedAt_12 : decode cX2_mendedAt 12 = .ok (.if_icmp .ge 95, 3) := by decide +kernel
theorem dX2_mendedAt_15 : decode cX2_mendedAt 15 = .ok (.iload 6, 2) := by decide +kernel
theorem dX2_mendedAt_17 : decode cX2_mendedAt 17 = .ok (.iconst 2, 1) := by decide +kernel
theorem dX2_mendedAt_18 : decode cX2_mendedAt 18 = .ok (.irem, 1) := by decide +kernel
theorem dX2_mendedAt_19 : decode cX2_mendedAt 19 = .ok (.ifCond .ne 8, 3) := by decide +kernel
theorem dX2_mendedAt_22 : decode cX2_mendedAt 22 = .ok (.bipush (-2), 2) := by decide +kernel
theorem dX2_mendedAt_24 : decode cX2_mendedAt 24 = .ok (.goto 4, 3) := by decide +kernel
theorem dX2_mendedAt_27 : decode cX2_mendedAt 27 = .ok (.iconst 2, 1) := by decide +kernel
theorem dX2_mendedAt_28 : decode cX2_mendedAt 28 = .ok (.istore 7, 2) := by decide +kernel
theorem dX2_mendedAt_30 : decode cX2_mendedAt 30 = .ok (.iload 6, 2) := by decide +kernel
theorem dX2_mendedAt_32 : decode cX2_mendedAt 32 = .ok (.iconst 2, 1) := by decide +kernel
theorem dX2_mendedAt_33 : decode cX2_mendedAt 33 = .ok (.if_icmp .ge 10, 3) := by decide +kernel
theorem dX2_mendedAt_36 : decode cX2_mendedAt 36 = .ok (.iload_n 2, 1) := by decide +kernel
theorem dX2_mendedAt_37 : decode cX2_mendedAt 37 = .ok (.iload 7, 2) := by decide +kernel
theorem dX2_mendedAt_39 : decode cX2_mendedAt 39 = .ok (.iadd, 1) := by decide +kernel
theorem dX2_mendedAt_40 : decode cX2_mendedAt 40 = .ok (.goto 4, 3) := by decide +kernel
theorem dX2_mendedAt_43 : decode cX2_mendedAt 43 = .ok (.iload_n 2, 1) := by decide +kernel
theorem dX2_mendedAt_44 : decode cX2_mendedAt 44 = .ok (.istore 8, 2) := by decide +kernel
theorem dX2_mendedAt_46 : decode cX2_mendedAt 46 = .ok (.iload 6, 2) := by decide +kernel
theorem dX2_mendedAt_48 : decode cX2_mendedAt 48 = .ok (.iconst 2, 1) := by decide +kernel
theorem dX2_mendedAt_49 : decode cX2_mendedAt 49 = .ok (.if_icmp .ge 7, 3) := by decide +kernel
theorem dX2_mendedAt_52 : decode cX2_mendedAt 52 = .ok (.iload_n 3, 1) := by decide +kernel
theorem dX2_mendedAt_53 : decode cX2_mendedAt 53 = .ok (.goto 7, 3) := by decide +kernel
theorem dX2_mendedAt_56 : decode cX2_mendedAt 56 = .ok (.iload_n 3, 1) := by decide +kernel
theorem dX2_mendedAt_57 : decode cX2_mendedAt 57 = .ok (.iload 7, 2) := by decide +kernel
theorem dX2_mendedAt_59 : decode cX2_mendedAt 59 = .ok (.iadd, 1) := by decide +kernel
theorem dX2_mendedAt_60 : decode cX2_mendedAt 60 = .ok (.istore 9, 2) := by decide +kernel
theorem dX2_mendedAt_62 : decode cX2_mendedAt 62 = .ok (.iload 8, 2) := by decide +kernel
theorem dX2_mendedAt_64 : decode cX2_mendedAt 64 = .ok (.iload 9, 2) := by decide +kernel
theorem dX2_mendedAt_66 : decode cX2_mendedAt 66 = .ok (.invokestatic 61, 3) := by decide +kernel
theorem dX2_mendedAt_69 : decode cX2_mendedAt 69 = .ok (.ifCond .eq 32, 3) := by decide +kernel
theorem dX2_mendedAt_72 : decode cX2_mendedAt 72 = .ok (.aload_n 1, 1) := by decide +kernel
theorem dX2_mendedAt_73 : decode cX2_mendedAt 73 = .ok (.iload 8, 2) := by decide +kernel
theorem dX2_mendedAt_75 : decode cX2_mendedAt 75 = .ok (.iload 9, 2) := by decide +kernel
theorem dX2_mendedAt_77 : decode cX2_mendedAt 77 = .ok (.invokestatic 54, 3) := by decide +kernel
theorem dX2_mendedAt_80 : decode cX2_mendedAt 80 = .ok (.baload, 1) := by decide +kernel
theorem dX2_mendedAt_81 : decode cX2_mendedAt 81 = .ok (.ifCond .ne 20, 3) := by decide +kernel
theorem dX2_mendedAt_84 : decode cX2_mendedAt 84 = .ok (.iload 4, 2) := by decide +kernel
theorem dX2_mendedAt_86 : decode cX2_mendedAt 86 = .ok (.aload_n 0, 1) := by decide +kernel
theorem dX2_mendedAt_87 : decode cX2_mendedAt 87 = .ok (.iload 8, 2) := by decide +kernel
theorem dX2_mendedAt_89 : decode cX2_mendedAt 89 = .ok (.iload 9, 2) := by decide +kernel
theorem dX2_mendedAt_91 : decode cX2_mendedAt 91 = .ok (.invokestatic 54, 3) := by decide +kernel
theorem dX2_mendedAt_94 : decode cX2_mendedAt 94 = .ok (.iaload, 1) := by decide +kernel
theorem dX2_mendedAt_95 : decode cX2_mendedAt 95 = .ok (.iadd, 1) := by decide +kernel
theorem dX2_mendedAt_96 : decode cX2_mendedAt 96 = .ok (.istore 4, 2) := by decide +kernel
theorem dX2_mendedAt_98 : decode cX2_mendedAt 98 = .ok (.iinc 5 1, 3) := by decide +kernel
theorem dX2_mendedAt_101 : decode cX2_mendedAt 101 = .ok (.iinc 6 1, 3) := by decide +kernel
theorem dX2_mendedAt_104 : decode cX2_mendedAt 104 = .ok (.goto (-95), 3) := by decide +kernel
theorem dX2_mendedAt_107 : decode cX2_mendedAt 107 = .ok (.iload 5, 2) := by decide +kernel
theorem dX2_mendedAt_109 : decode cX2_mendedAt 109 = .ok (.ifCond .ne 13, 3) := by decide +kernel
theorem dX2_mendedAt_112 : decode cX2_mendedAt 112 = .ok (.aload_n 0, 1) := by decide +kernel
theorem dX2_mendedAt_113 : decode cX2_mendedAt 113 = .ok (.iload_n 2, 1) := by decide +kernel
theorem dX2_mendedAt_114 : decode cX2_mendedAt 114 = .ok (.iload_n 3, 1) := by decide +kernel
theorem dX2_mendedAt_115 : decode cX2_mendedAt 115 = .ok (.invokestatic 54, 3) := by decide +kernel
theorem dX2_mendedAt_118 : decode cX2_mendedAt 118 = .ok (.iaload, 1) := by decide +kernel
theorem dX2_mendedAt_119 : decode cX2_mendedAt 119 = .ok (.goto 8, 3) := by decide +kernel
theorem dX2_mendedAt_122 : decode cX2_mendedAt 122 = .ok (.iload 4, 2) := by decide +kernel
theorem dX2_mendedAt_124 : decode cX2_mendedAt 124 = .ok (.iload 5, 2) := by decide +kernel
theorem dX2_mendedAt_126 : decode cX2_mendedAt 126 = .ok (.idiv, 1) := by decide +kernel
theorem dX2_mendedAt_127 : decode cX2_mendedAt 127 = .ok (.ireturn, 1) := by decide +kernel
theorem dX2_makeWhole_0 : decode cX2_makeWhole 0 = .ok (.iconst 0, 1) := by decide +kernel
theorem dX2_makeWhole_1 : decode cX2_makeWhole 1 = .ok (.istore_n 1, 1) := by decide +kernel
theorem dX2_makeWhole_2 : decode cX2_makeWhole 2 = .ok (.iload_n 1, 1) := by decide +kernel
theorem dX2_makeWhole_3 : decode cX2_makeWhole 3 = .ok (.bipush 8, 2) := by decide +kernel
theorem dX2_makeWhole_5 : decode cX2_makeWhole 5 = .ok (.if_icmp .ge 91, 3) := by decide +kernel
theorem dX2_makeWhole_8 : decode cX2_makeWhole 8 = .ok (.iconst 0, 1) := by decide +kernel
theorem dX2_makeWhole_9 : decode cX2_makeWhole 9 = .ok (.istore_n 2, 1) := by decide +kernel
theorem dX2_makeWhole_10 : decode cX2_makeWhole 10 = .ok (.iload_n 2, 1) := by decide +kernel
theorem dX2_makeWhole_11 : decode cX2_makeWhole 11 = .ok (.bipush 8, 2) := by decide +kernel
theorem dX2_makeWhole_13 : decode cX2_makeWhole 13 = .ok (.if_icmp .ge 77, 3) := by decide +kernel
theorem dX2_makeWhole_16 : decode cX2_makeWhole 16 = .ok (.iload_n 2, 1) := by decide +kernel
theorem dX2_makeWhole_17 : decode cX2_makeWhole 17 = .ok (.iload_n 1, 1) := by decide +kernel
theorem dX2_makeWhole_18 : decode cX2_makeWhole 18 = .ok (.invokestatic 54, 3) := by decide +kernel
theorem dX2_makeWhole_21 : decode cX2_makeWhole 21 = .ok (.istore_n 3, 1) := by decide +kernel
theorem dX2_makeWhole_22 : decode cX2_makeWhole 22 = .ok (.iload_n 2, 1) := by decide +kernel
theorem dX2_makeWhole_23 : decode cX2_makeWhole 23 = .ok (.iload_n 1, 1) := by decide +kernel
theorem dX2_makeWhole_24 : decode cX2_makeWhole 24 = .ok (.invokestatic 65, 3) := by decide +kernel
theorem dX2_makeWhole_27 : decode cX2_makeWhole 27 = .ok (.istore 4, 2) := by decide +kernel
theorem dX2_makeWhole_29 : decode cX2_makeWhole 29 = .ok (.iconst 0, 1) := by decide +kernel
theorem dX2_makeWhole_30 : decode cX2_makeWhole 30 = .ok (.istore 5, 2) := by decide +kernel
theorem dX2_makeWhole_32 : decode cX2_makeWhole 32 = .ok (.iload 5, 2) := by decide +kernel
theorem dX2_makeWhole_34 : decode cX2_makeWhole 34 = .ok (.iconst 3, 1) := by decide +kernel
theorem dX2_makeWhole_35 : decode cX2_makeWhole 35 = .ok (.if_icmp .ge 49, 3) := by decide +kernel
theorem dX2_makeWhole_38 : decode cX2_makeWhole 38 = .ok (.iload 5, 2) := by decide +kernel
theorem dX2_makeWhole_40 : decode cX2_makeWhole 40 = .ok (.iload 4, 2) := by decide +kernel
theorem dX2_makeWhole_42 : decode cX2_makeWhole 42 = .ok (.if_icmp .ne 13, 3) := by decide +kernel
theorem dX2_makeWhole_45 : decode cX2_makeWhole 45 = .ok (.aload_n 0, 1) := by decide +kernel
theorem dX2_makeWhole_46 : decode cX2_makeWhole 46 = .ok (.getfield 15, 3) := by decide +kernel
theorem dX2_makeWhole_49 : decode cX2_makeWhole 49 = .ok (.iload_n 3, 1) := by decide +kernel
theorem dX2_makeWhole_50 : decode cX2_makeWhole 50 = .ok (.iaload, 1) := by decide +kernel
theorem dX2_makeWhole_51 : decode cX2_makeWhole 51 = .ok (.i2f, 1) := by decide +kernel
theorem dX2_makeWhole_52 : decode cX2_makeWhole 52 = .ok (.goto 11, 3) := by decide +kernel
theorem dX2_makeWhole_55 : decode cX2_makeWhole 55 = .ok (.aload_n 0, 1) := by decide +kernel
theorem dX2_makeWhole_56 : decode cX2_makeWhole 56 = .ok (.iload_n 2, 1) := by decide +kernel
theorem dX2_makeWhole_57 : decode cX2_makeWhole 57 = .ok (.iload_n 1, 1) := by decide +kernel
theorem dX2_makeWhole_58 : decode cX2_makeWhole 58 = .ok (.iload 5, 2) := by decide +kernel
theorem dX2_makeWhole_60 : decode cX2_makeWhole 60 = .ok (.invokevirtual 68, 3) := by decide +kernel
theorem dX2_makeWhole_63 : decode cX2_makeWhole 63 = .ok (.fstore 6, 2) := by decide +kernel
theorem dX2_makeWhole_65 : decode cX2_makeWhole 65 = .ok (.aload_n 0, 1) := by decide +kernel
theorem dX2_makeWhole_66 : decode cX2_makeWhole 66 = .ok (.getfield 9, 3) := by decide +kernel
theorem dX2_makeWhole_69 : decode cX2_makeWhole 69 = .ok (.iload_n 3, 1) := by decide +kernel
theorem dX2_makeWhole_70 : decode cX2_makeWhole 70 = .ok (.iload 5, 2) := by decide +kernel
theorem dX2_makeWhole_72 : decode cX2_makeWhole 72 = .ok (.invokestatic 49, 3) := by decide +kernel
theorem dX2_makeWhole_75 : decode cX2_makeWhole 75 = .ok (.fload 6, 2) := by decide +kernel
theorem dX2_makeWhole_77 : decode cX2_makeWhole 77 = .ok (.fastore, 1) := by decide +kernel
theorem dX2_makeWhole_78 : decode cX2_makeWhole 78 = .ok (.iinc 5 1, 3) := by decide +kernel
theorem dX2_makeWhole_81 : decode cX2_makeWhole 81 = .ok (.goto (-49), 3) := by decide +kernel
theorem dX2_makeWhole_84 : decode cX2_makeWhole 84 = .ok (.iinc 2 1, 3) := by decide +kernel
theorem dX2_makeWhole_87 : decode cX2_makeWhole 87 = .ok (.goto (-77), 3) := by decide +kernel
theorem dX2_makeWhole_90 : decode cX2_makeWhole 90 = .ok (.iinc 1 1, 3) := by decide +kernel
theorem dX2_makeWhole_93 : decode cX2_makeWhole 93 = .ok (.goto (-91), 3) := by decide +kernel
theorem dX2_makeWhole_96 : decode cX2_makeWhole 96 = .ok (.return_, 1) := by decide +kernel
theorem dX2_meanAround_0 : decode cX2_meanAround 0 = .ok (.iconst 0, 1) := by decide +kernel
theorem dX2_meanAround_1 : decode cX2_meanAround 1 = .ok (.istore 4, 2) := by decide +kernel
theorem dX2_meanAround_3 : decode cX2_meanAround 3 = .ok (.iconst 0, 1) := by decide +kernel
theorem dX2_meanAround_4 : decode cX2_meanAround 4 = .ok (.istore 5, 2) := by decide +kernel
theorem dX2_meanAround_6 : decode cX2_meanAround 6 = .ok (.iload_n 2, 1) := by decide +kernel
theorem dX2_meanAround_7 : decode cX2_meanAround 7 = .ok (.iconst 1, 1) := by decide +kernel
theorem dX2_meanAround_8 : decode cX2_meanAround 8 = .ok (.isub, 1) := by decide +kernel
theorem dX2_meanAround_9 : decode cX2_meanAround 9 = .ok (.istore 6, 2) := by decide +kernel
theorem dX2_meanAround_11 : decode cX2_meanAround 11 = .ok (.iload 6, 2) := by decide +kernel
theorem dX2_meanAround_13 : decode cX2_meanAround 13 = .ok (.iload_n 2, 1) := by decide +kernel
theorem dX2_meanAround_14 : decode cX2_meanAround 14 = .ok (.iconst 1, 1) := by decide +kernel
theorem dX2_meanAround_15 : decode cX2_meanAround 15 = .ok (.iadd, 1) := by decide +kernel
theorem dX2_meanAround_16 : decode cX2_meanAround 16 = .ok (.if_icmp .gt 69, 3) := by decide +kernel
theorem dX2_meanAround_19 : decode cX2_meanAround 19 = .ok (.iload_n 1, 1) := by decide +kernel
theorem dX2_meanAround_20 : decode cX2_meanAround 20 = .ok (.iconst 1, 1) := by decide +kernel
theorem dX2_meanAround_21 : decode cX2_meanAround 21 = .ok (.isub, 1) := by decide +kernel
theorem dX2_meanAround_22 : decode cX2_meanAround 22 = .ok (.istore 7, 2) := by decide +kernel
theorem dX2_meanAround_24 : decode cX2_meanAround 24 = .ok (.iload 7, 2) := by decide +kernel
theorem dX2_meanAround_26 : decode cX2_meanAround 26 = .ok (.iload_n 1, 1) := by decide +kernel
theorem dX2_meanAround_27 : decode cX2_meanAround 27 = .ok (.iconst 1, 1) := by decide +kernel
theorem dX2_meanAround_28 : decode cX2_meanAround 28 = .ok (.iadd, 1) := by decide +kernel
theorem dX2_meanAround_29 : decode cX2_meanAround 29 = .ok (.if_icmp .gt 50, 3) := by decide +kernel
theorem dX2_meanAround_32 : decode cX2_meanAround 32 = .ok (.iload 7, 2) := by decide +kernel
theorem dX2_meanAround_34 : decode cX2_meanAround 34 = .ok (.iload 6, 2) := by decide +kernel
theorem dX2_meanAround_36 : decode cX2_meanAround 36 = .ok (.invokestatic 61, 3) := by decide +kernel
theorem dX2_meanAround_39 : decode cX2_meanAround 39 = .ok (.ifCond .eq 34, 3) := by decide +kernel
theorem dX2_meanAround_42 : decode cX2_meanAround 42 = .ok (.iload 7, 2) := by decide +kernel
theorem dX2_meanAround_44 : decode cX2_meanAround 44 = .ok (.iload 6, 2) := by decide +kernel
theorem dX2_meanAround_46 : decode cX2_meanAround 46 = .ok (.invokestatic 65, 3) := by decide +kernel
theorem dX2_meanAround_49 : decode cX2_meanAround 49 = .ok (.iload_n 3, 1) := by decide +kernel
theorem dX2_meanAround_50 : decode cX2_meanAround 50 = .ok (.if_icmp .ne 23, 3) := by decide +kernel
theorem dX2_meanAround_53 : decode cX2_meanAround 53 = .ok (.iload 4, 2) := by decide +kernel
theorem dX2_meanAround_55 : decode cX2_meanAround 55 = .ok (.aload_n 0, 1) := by decide +kernel
theorem dX2_meanAround_56 : decode cX2_meanAround 56 = .ok (.getfield 15, 3) := by decide +kernel
theorem dX2_meanAround_59 : decode cX2_meanAround 59 = .ok (.iload 7, 2) := by decide +kernel
theorem dX2_meanAround_61 : decode cX2_meanAround 61 = .ok (.iload 6, 2) := by decide +kernel
theorem dX2_meanAround_63 : decode cX2_meanAround 63 = .ok (.invokestatic 54, 3) := by decide +kernel
theorem dX2_meanAround_66 : decode cX2_meanAround 66 = .ok (.iaload, 1) := by decide +kernel
theorem dX2_meanAround_67 : decode cX2_meanAround 67 = .ok (.iadd, 1) := by decide +kernel
theorem dX2_meanAround_68 : decode cX2_meanAround 68 = .ok (.istore 4, 2) := by decide +kernel
theorem dX2_meanAround_70 : decode cX2_meanAround 70 = .ok (.iinc 5 1, 3) := by decide +kernel
theorem dX2_meanAround_73 : decode cX2_meanAround 73 = .ok (.iinc 7 1, 3) := by decide +kernel
theorem dX2_meanAround_76 : decode cX2_meanAround 76 = .ok (.goto (-52), 3) := by decide +kernel
theorem dX2_meanAround_79 : decode cX2_meanAround 79 = .ok (.iinc 6 1, 3) := by decide +kernel
theorem dX2_meanAround_82 : decode cX2_meanAround 82 = .ok (.goto (-71), 3) := by decide +kernel
theorem dX2_meanAround_85 : decode cX2_meanAround 85 = .ok (.iload 5, 2) := by decide +kernel
theorem dX2_meanAround_87 : decode cX2_meanAround 87 = .ok (.ifCond .ne 7, 3) := by decide +kernel
theorem dX2_meanAround_90 : decode cX2_meanAround 90 = .ok (.fconst 0, 1) := by decide +kernel
theorem dX2_meanAround_91 : decode cX2_meanAround 91 = .ok (.goto 10, 3) := by decide +kernel
theorem dX2_meanAround_94 : decode cX2_meanAround 94 = .ok (.iload 4, 2) := by decide +kernel
theorem dX2_meanAround_96 : decode cX2_meanAround 96 = .ok (.i2f, 1) := by decide +kernel
theorem dX2_meanAround_97 : decode cX2_meanAround 97 = .ok (.iload 5, 2) := by decide +kernel
theorem dX2_meanAround_99 : decode cX2_meanAround 99 = .ok (.i2f, 1) := by decide +kernel
theorem dX2_meanAround_100 : decode cX2_meanAround 100 = .ok (.fdiv, 1) := by decide +kernel
theorem dX2_meanAround_101 : decode cX2_meanAround 101 = .ok (.freturn, 1) := by decide +kernel
theorem dX2_applyEdit_0 : decode cX2_applyEdit 0 = .ok (.iload_n 1, 1) := by decide +kernel
theorem dX2_applyEdit_1 : decode cX2_applyEdit 1 = .ok (.tableswitch 84 0 4 #[35, 43, 56, 69, 77], 35) := by decide +kernel
theorem dX2_applyEdit_36 : decode cX2_applyEdit 36 = .ok (.aload_n 0, 1) := by decide +kernel
theorem dX2_applyEdit_37 : decode cX2_applyEdit 37 = .ok (.iload_n 2, 1) := by decide +kernel
theorem dX2_applyEdit_38 : decode cX2_applyEdit 38 = .ok (.invokevirtual 72, 3) := by decide +kernel
theorem dX2_applyEdit_41 : decode cX2_applyEdit 41 = .ok (.goto 44, 3) := by decide +kernel
theorem dX2_applyEdit_44 : decode cX2_applyEdit 44 = .ok (.aload_n 0, 1) := by decide +kernel
theorem dX2_applyEdit_45 : decode cX2_applyEdit 45 = .ok (.iconst 0, 1) := by decide +kernel
theorem dX2_applyEdit_46 : decode cX2_applyEdit 46 = .ok (.iload_n 2, 1) := by decide +kernel
theorem dX2_applyEdit_47 : decode cX2_applyEdit 47 = .ok (.i2f, 1) := by decide +kernel
theorem dX2_applyEdit_48 : decode cX2_applyEdit 48 = .ok (.ldc 76, 2) := by decide +kernel
theorem dX2_applyEdit_50 : decode cX2_applyEdit 50 = .ok (.fdiv, 1) := by decide +kernel
theorem dX2_applyEdit_51 : decode cX2_applyEdit 51 = .ok (.invokevirtual 77, 3) := by decide +kernel
theorem dX2_applyEdit_54 : decode cX2_applyEdit 54 = .ok (.goto 31, 3) := by decide +kernel
theorem dX2_applyEdit_57 : decode cX2_applyEdit 57 = .ok (.aload_n 0, 1) := by decide +kernel
theorem dX2_applyEdit_58 : decode cX2_applyEdit 58 = .ok (.iconst 2, 1) := by decide +kernel
theorem dX2_applyEdit_59 : decode cX2_applyEdit 59 = .ok (.iload_n 2, 1) := by decide +kernel
theorem dX2_applyEdit_60 : decode cX2_applyEdit 60 = .ok (.i2f, 1) := by decide +kernel
theorem dX2_applyEdit_61 : decode cX2_applyEdit 61 = .ok (.ldc 76, 2) := by decide +kernel
theorem dX2_applyEdit_63 : decode cX2_applyEdit 63 = .ok (.fdiv, 1) := by decide +kernel
theorem dX2_applyEdit_64 : decode cX2_applyEdit 64 = .ok (.invokevirtual 77, 3) := by decide +kernel
theorem dX2_applyEdit_67 : decode cX2_applyEdit 67 = .ok (.goto 18, 3) := by decide +kernel
theorem dX2_applyEdit_70 : decode cX2_applyEdit 70 = .ok (.aload_n 0, 1) := by decide +kernel
theorem dX2_applyEdit_71 : decode cX2_applyEdit 71 = .ok (.iload_n 2, 1) := by decide +kernel
theorem dX2_applyEdit_72 : decode cX2_applyEdit 72 = .ok (.invokevirtual 81, 3) := by decide +kernel
theorem dX2_applyEdit_75 : decode cX2_applyEdit 75 = .ok (.goto 10, 3) := by decide +kernel
theorem dX2_applyEdit_78 : decode cX2_applyEdit 78 = .ok (.aload_n 0, 1) := by decide +kernel
theorem dX2_applyEdit_79 : decode cX2_applyEdit 79 = .ok (.invokevirtual 84, 3) := by decide +kernel
theorem dX2_applyEdit_82 : decode cX2_applyEdit 82 = .ok (.goto 3, 3) := by decide +kernel
theorem dX2_applyEdit_85 : decode cX2_applyEdit 85 = .ok (.return_, 1) := by decide +kernel
theorem dX2_darken_0 : decode cX2_darken 0 = .ok (.iconst 0, 1) := by decide +kernel
theorem dX2_darken_1 : decode cX2_darken 1 = .ok (.istore_n 2, 1) := by decide +kernel
theorem dX2_darken_2 : decode cX2_darken 2 = .ok (.iload_n 2, 1) := by decide +kernel
theorem dX2_darken_3 : decode cX2_darken 3 = .ok (.aload_n 0, 1) := by decide +kernel
theorem dX2_darken_4 : decode cX2_darken 4 = .ok (.getfield 9, 3) := by decide +kernel
theorem dX2_darken_7 : decode cX2_darken 7 = .ok (.arraylength, 1) := by decide +kernel
theorem dX2_darken_8 : decode cX2_darken 8 = .ok (.if_icmp .ge 36, 3) := by decide +kernel
theorem dX2_darken_11 : decode cX2_darken 11 = .ok (.aload_n 0, 1) := by decide +kernel
theorem dX2_darken_12 : decode cX2_darken 12 = .ok (.getfield 9, 3) := by decide +kernel
theorem dX2_darken_15 : decode cX2_darken 15 = .ok (.iload_n 2, 1) := by decide +kernel
theorem dX2_darken_16 : decode cX2_darken 16 = .ok (.faload, 1) := by decide +kernel
theorem dX2_darken_17 : decode cX2_darken 17 = .ok (.iload_n 1, 1) := by decide +kernel
theorem dX2_darken_18 : decode cX2_darken 18 = .ok (.i2f, 1) := by decide +kernel
theorem dX2_darken_19 : decode cX2_darken 19 = .ok (.fsub, 1) := by decide +kernel
theorem dX2_darken_20 : decode cX2_darken 20 = .ok (.fstore_n 3, 1) := by decide +kernel
theorem dX2_darken_21 : decode cX2_darken 21 = .ok (.aload_n 0, 1) := by decide +kernel
theorem dX2_darken_22 : decode cX2_darken 22 = .ok (.getfield 9, 3) := by decide +kernel
theorem dX2_darken_25 : decode cX2_darken 25 = .ok (.iload_n 2, 1) := by decide +kernel
theorem dX2_darken_26 : decode cX2_darken 26 = .ok (.fload_n 3, 1) := by decide +kernel
theorem dX2_darken_27 : decode cX2_darken 27 = .ok (.fconst 0, 1) := by decide +kernel
theorem dX2_darken_28 : decode cX2_darken 28 = .ok (.fcmp .l, 1) := by decide +kernel
theorem dX2_darken_29 : decode cX2_darken 29 = .ok (.ifCond .le 7, 3) := by decide +kernel
theorem dX2_darken_32 : decode cX2_darken 32 = .ok (.fload_n 3, 1) := by decide +kernel
theorem dX2_darken_33 : decode cX2_darken 33 = .ok (.goto 4, 3) := by decide +kernel
theorem dX2_darken_36 : decode cX2_darken 36 = .ok (.fconst 0, 1) := by decide +kernel
theorem dX2_darken_37 : decode cX2_darken 37 = .ok (.fastore, 1) := by decide +kernel
theorem dX2_darken_38 : decode cX2_darken 38 = .ok (.iinc 2 1, 3) := by decide +kernel
theorem dX2_darken_41 : decode cX2_darken 41 = .ok (.goto (-39), 3) := by decide +kernel
theorem dX2_darken_44 : decode cX2_darken 44 = .ok (.return_, 1) := by decide +kernel
theorem dX2_scaleColour_0 : decode cX2_scaleColour 0 = .ok (.iconst 0, 1) := by decide +kernel
theorem dX2_scaleColour_1 : decode cX2_scaleColour 1 = .ok (.istore_n 3, 1) := by decide +kernel
theorem dX2_scaleColour_2 : decode cX2_scaleColour 2 = .ok (.iload_n 3, 1) := by decide +kernel
theorem dX2_scaleColour_3 : decode cX2_scaleColour 3 = .ok (.bipush 64, 2) := by decide +kernel
theorem dX2_scaleColour_5 : decode cX2_scaleColour 5 = .ok (.if_icmp .ge 31, 3) := by decide +kernel
theorem dX2_scaleColour_8 : decode cX2_scaleColour 8 = .ok (.aload_n 0, 1) := by decide +kernel
theorem dX2_scaleColour_9 : decode cX2_scaleColour 9 = .ok (.getfield 9, 3) := by decide +kernel
theorem dX2_scaleColour_12 : decode cX2_scaleColour 12 = .ok (.iload_n 3, 1) := by decide +kernel
theorem dX2_scaleColour_13 : decode cX2_scaleColour 13 = .ok (.iload_n 1, 1) := by decide +kernel
theorem dX2_scaleColour_14 : decode cX2_scaleColour 14 = .ok (.invokestatic 49, 3) := by decide +kernel
theorem dX2_scaleColour_17 : decode cX2_scaleColour 17 = .ok (.aload_n 0, 1) := by decide +kernel
theorem dX2_scaleColour_18 : decode cX2_scaleColour 18 = .ok (.getfield 9, 3) := by decide +kernel
theorem dX2_scaleColour_21 : decode cX2_scaleColour 21 = .ok (.iload_n 3, 1) := by decide +kernel
theorem dX2_scaleColour_22 : decode cX2_scaleColour 22 = .ok (.iload_n 1, 1) := by decide +kernel
theorem dX2_scaleColour_23 : decode cX2_scaleColour 23 = .ok (.invokestatic 49, 3) := by decide +kernel
theorem dX2_scaleColour_26 : decode cX2_scaleColour 26 = .ok (.faload, 1) := by decide +kernel
theorem dX2_scaleColour_27 : decode cX2_scaleColour 27 = .ok (.fload_n 2, 1) := by decide +kernel
theorem dX2_scaleColour_28 : decode cX2_scaleColour 28 = .ok (.fmul, 1) := by decide +kernel
theorem dX2_scaleColour_29 : decode cX2_scaleColour 29 = .ok (.fastore, 1) := by decide +kernel
theorem dX2_scaleColour_30 : decode cX2_scaleColour 30 = .ok (.iinc 3 1, 3) := by decide +kernel
theorem dX2_scaleColour_33 : decode cX2_scaleColour 33 = .ok (.goto (-31), 3) := by decide +kernel
theorem dX2_scaleColour_36 : decode cX2_scaleColour 36 = .ok (.return_, 1) := by decide +kernel
theorem dX2_changeTone_0 : decode cX2_changeTone 0 = .ok (.iconst 0, 1) := by decide +kernel
theorem dX2_changeTone_1 : decode cX2_changeTone 1 = .ok (.istore_n 2, 1) := by decide +kernel
theorem dX2_changeTone_2 : decode cX2_changeTone 2 = .ok (.iload_n 2, 1) := by decide +kernel
theorem dX2_changeTone_3 : decode cX2_changeTone 3 = .ok (.aload_n 0, 1) := by decide +kernel
theorem dX2_changeTone_4 : decode cX2_changeTone 4 = .ok (.getfield 9, 3) := by decide +kernel
theorem dX2_changeTone_7 : decode cX2_changeTone 7 = .ok (.arraylength, 1) := by decide +kernel
theorem dX2_changeTone_8 : decode cX2_changeTone 8 = .ok (.if_icmp .ge 68, 3) := by decide +kernel
theorem dX2_changeTone_11 : decode cX2_changeTone 11 = .ok (.iload_n 1, 1) := by decide +kernel
theorem dX2_changeTone_12 : decode cX2_changeTone 12 = .ok (.ifCond .ne 21, 3) := by decide +kernel
theorem dX2_changeTone_15 : decode cX2_changeTone 15 = .ok (.aload_n 0, 1) := by decide +kernel
theorem dX2_changeTone_16 : decode cX2_changeTone 16 = .ok (.getfield 9, 3) := by decide +kernel
theorem dX2_changeTone_19 : decode cX2_changeTone 19 = .ok (.iload_n 2, 1) := by decide +kernel
theorem dX2_changeTone_20 : decode cX2_changeTone 20 = .ok (.aload_n 0, 1) := by decide +kernel
theorem dX2_changeTone_21 : decode cX2_changeTone 21 = .ok (.getfield 9, 3) := by decide +kernel
theorem dX2_changeTone_24 : decode cX2_changeTone 24 = .ok (.iload_n 2, 1) := by decide +kernel
theorem dX2_changeTone_25 : decode cX2_changeTone 25 = .ok (.faload, 1) := by decide +kernel
theorem dX2_changeTone_26 : decode cX2_changeTone 26 = .ok (.ldc 87, 2) := by decide +kernel
theorem dX2_changeTone_28 : decode cX2_changeTone 28 = .ok (.fmul, 1) := by decide +kernel
theorem dX2_changeTone_29 : decode cX2_changeTone 29 = .ok (.fastore, 1) := by decide +kernel
theorem dX2_changeTone_30 : decode cX2_changeTone 30 = .ok (.goto 40, 3) := by decide +kernel
theorem dX2_changeTone_33 : decode cX2_changeTone 33 = .ok (.iload_n 1, 1) := by decide +kernel
theorem dX2_changeTone_34 : decode cX2_changeTone 34 = .ok (.iconst 1, 1) := by decide +kernel
theorem dX2_changeTone_35 : decode cX2_changeTone 35 = .ok (.if_icmp .ne 20, 3) := by decide +kernel
theorem dX2_changeTone_38 : decode cX2_changeTone 38 = .ok (.aload_n 0, 1) := by decide +kernel
theorem dX2_changeTone_39 : decode cX2_changeTone 39 = .ok (.getfield 9, 3) := by decide +kernel
theorem dX2_changeTone_42 : decode cX2_changeTone 42 = .ok (.iload_n 2, 1) := by decide +kernel
theorem dX2_changeTone_43 : decode cX2_changeTone 43 = .ok (.aload_n 0, 1) := by decide +kernel
theorem dX2_changeTone_44 : decode cX2_changeTone 44 = .ok (.getfield 9, 3) := by decide +kernel
theorem dX2_changeTone_47 : decode cX2_changeTone 47 = .ok (.iload_n 2, 1) := by decide +kernel
theorem dX2_changeTone_48 : decode cX2_changeTone 48 = .ok (.faload, 1) := by decide +kernel
theorem dX2_changeTone_49 : decode cX2_changeTone 49 = .ok (.fconst 2, 1) := by decide +kernel
theorem dX2_changeTone_50 : decode cX2_changeTone 50 = .ok (.fmul, 1) := by decide +kernel
theorem dX2_changeTone_51 : decode cX2_changeTone 51 = .ok (.fastore, 1) := by decide +kernel
theorem dX2_changeTone_52 : decode cX2_changeTone 52 = .ok (.goto 18, 3) := by decide +kernel
theorem dX2_changeTone_55 : decode cX2_changeTone 55 = .ok (.aload_n 0, 1) := by decide +kernel
theorem dX2_changeTone_56 : decode cX2_changeTone 56 = .ok (.getfield 9, 3) := by decide +kernel
theorem dX2_changeTone_59 : decode cX2_changeTone 59 = .ok (.iload_n 2, 1) := by decide +kernel
theorem dX2_changeTone_60 : decode cX2_changeTone 60 = .ok (.ldc 53, 2) := by decide +kernel
theorem dX2_changeTone_62 : decode cX2_changeTone 62 = .ok (.aload_n 0, 1) := by decide +kernel
theorem dX2_changeTone_63 : decode cX2_changeTone 63 = .ok (.getfield 9, 3) := by decide +kernel
theorem dX2_changeTone_66 : decode cX2_changeTone 66 = .ok (.iload_n 2, 1) := by decide +kernel
theorem dX2_changeTone_67 : decode cX2_changeTone 67 = .ok (.faload, 1) := by decide +kernel
theorem dX2_changeTone_68 : decode cX2_changeTone 68 = .ok (.fsub, 1) := by decide +kernel
theorem dX2_changeTone_69 : decode cX2_changeTone 69 = .ok (.fastore, 1) := by decide +kernel
theorem dX2_changeTone_70 : decode cX2_changeTone 70 = .ok (.iinc 2 1, 3) := by decide +kernel
theorem dX2_changeTone_73 : decode cX2_changeTone 73 = .ok (.goto (-71), 3) := by decide +kernel
theorem dX2_changeTone_76 : decode cX2_changeTone 76 = .ok (.return_, 1) := by decide +kernel
theorem dX2_turnOver_0 : decode cX2_turnOver 0 = .ok (.iconst 0, 1) := by decide +kernel
theorem dX2_turnOver_1 : decode cX2_turnOver 1 = .ok (.istore_n 1, 1) := by decide +kernel
theorem dX2_turnOver_2 : decode cX2_turnOver 2 = .ok (.iload_n 1, 1) := by decide +kernel
theorem dX2_turnOver_3 : decode cX2_turnOver 3 = .ok (.bipush 8, 2) := by decide +kernel
theorem dX2_turnOver_5 : decode cX2_turnOver 5 = .ok (.if_icmp .ge 92, 3) := by decide +kernel
theorem dX2_turnOver_8 : decode cX2_turnOver 8 = .ok (.iconst 0, 1) := by decide +kernel
theorem dX2_turnOver_9 : decode cX2_turnOver 9 = .ok (.istore_n 2, 1) := by decide +kernel
theorem dX2_turnOver_10 : decode cX2_turnOver 10 = .ok (.iload_n 2, 1) := by decide +kernel
theorem dX2_turnOver_11 : decode cX2_turnOver 11 = .ok (.iconst 4, 1) := by decide +kernel
theorem dX2_turnOver_12 : decode cX2_turnOver 12 = .ok (.if_icmp .ge 79, 3) := by decide +kernel
theorem dX2_turnOver_15 : decode cX2_turnOver 15 = .ok (.iconst 0, 1) := by decide +kernel
theorem dX2_turnOver_16 : decode cX2_turnOver 16 = .ok (.istore_n 3, 1) := by decide +kernel
theorem dX2_turnOver_17 : decode cX2_turnOver 17 = .ok (.iload_n 3, 1) := by decide +kernel
theorem dX2_turnOver_18 : decode cX2_turnOver 18 = .ok (.iconst 3, 1) := by decide +kernel
theorem dX2_turnOver_19 : decode cX2_turnOver 19 = .ok (.if_icmp .ge 66, 3) := by decide +kernel
theorem dX2_turnOver_22 : decode cX2_turnOver 22 = .ok (.iload_n 2, 1) := by decide +kernel
theorem dX2_turnOver_23 : decode cX2_turnOver 23 = .ok (.iload_n 1, 1) := by decide +kernel
theorem dX2_turnOver_24 : decode cX2_turnOver 24 = .ok (.invokestatic 54, 3) := by decide +kernel
theorem dX2_turnOver_27 : decode cX2_turnOver 27 = .ok (.iload_n 3, 1) := by decide +kernel
theorem dX2_turnOver_28 : decode cX2_turnOver 28 = .ok (.invokestatic 49, 3) := by decide +kernel
theorem dX2_turnOver_31 : decode cX2_turnOver 31 = .ok (.istore 4, 2) := by decide +kernel
theorem dX2_turnOver_33 : decode cX2_turnOver 33 = .ok (.bipush 7, 2) := by decide +kernel
theorem dX2_turnOver_35 : decode cX2_turnOver 35 = .ok (.iload_n 2, 1) := by decide +kernel
theorem dX2_turnOver_36 : decode cX2_turnOver 36 = .ok (.isub, 1) := by decide +kernel
theorem dX2_turnOver_37 : decode cX2_turnOver 37 = .ok (.iload_n 1, 1) := by decide +kernel
theorem dX2_turnOver_38 : decode cX2_turnOver 38 = .ok (.invokestatic 54, 3) := by decide +kernel
theorem dX2_turnOver_41 : decode cX2_turnOver 41 = .ok (.iload_n 3, 1) := by decide +kernel
theorem dX2_turnOver_42 : decode cX2_turnOver 42 = .ok (.invokestatic 49, 3) := by decide +kernel
theorem dX2_turnOver_45 : decode cX2_turnOver 45 = .ok (.istore 5, 2) := by decide +kernel
theorem dX2_turnOver_47 : decode cX2_turnOver 47 = .ok (.aload_n 0, 1) := by decide +kernel
theorem dX2_turnOver_48 : decode cX2_turnOver 48 = .ok (.getfield 9, 3) := by decide +kernel
theorem dX2_turnOver_51 : decode cX2_turnOver 51 = .ok (.iload 4, 2) := by decide +kernel
theorem dX2_turnOver_53 : decode cX2_turnOver 53 = .ok (.faload, 1) := by decide +kernel
theorem dX2_turnOver_54 : decode cX2_turnOver 54 = .ok (.fstore 6, 2) := by decide +kernel
theorem dX2_turnOver_56 : decode cX2_turnOver 56 = .ok (.aload_n 0, 1) := by decide +kernel
theorem dX2_turnOver_57 : decode cX2_turnOver 57 = .ok (.getfield 9, 3) := by decide +kernel
theorem dX2_turnOver_60 : decode cX2_turnOver 60 = .ok (.iload 4, 2) := by decide +kernel
theorem dX2_turnOver_62 : decode cX2_turnOver 62 = .ok (.aload_n 0, 1) := by decide +kernel
theorem dX2_turnOver_63 : decode cX2_turnOver 63 = .ok (.getfield 9, 3) := by decide +kernel
theorem dX2_turnOver_66 : decode cX2_turnOver 66 = .ok (.iload 5, 2) := by decide +kernel
theorem dX2_turnOver_68 : decode cX2_turnOver 68 = .ok (.faload, 1) := by decide +kernel
theorem dX2_turnOver_69 : decode cX2_turnOver 69 = .ok (.fastore, 1) := by decide +kernel
theorem dX2_turnOver_70 : decode cX2_turnOver 70 = .ok (.aload_n 0, 1) := by decide +kernel
theorem dX2_turnOver_71 : decode cX2_turnOver 71 = .ok (.getfield 9, 3) := by decide +kernel
theorem dX2_turnOver_74 : decode cX2_turnOver 74 = .ok (.iload 5, 2) := by decide +kernel
theorem dX2_turnOver_76 : decode cX2_turnOver 76 = .ok (.fload 6, 2) := by decide +kernel
theorem dX2_turnOver_78 : decode cX2_turnOver 78 = .ok (.fastore, 1) := by decide +kernel
theorem dX2_turnOver_79 : decode cX2_turnOver 79 = .ok (.iinc 3 1, 3) := by decide +kernel
theorem dX2_turnOver_82 : decode cX2_turnOver 82 = .ok (.goto (-65), 3) := by decide +kernel
theorem dX2_turnOver_85 : decode cX2_turnOver 85 = .ok (.iinc 2 1, 3) := by decide +kernel
theorem dX2_turnOver_88 : decode cX2_turnOver 88 = .ok (.goto (-78), 3) := by decide +kernel
theorem dX2_turnOver_91 : decode cX2_turnOver 91 = .ok (.iinc 1 1, 3) := by decide +kernel
theorem dX2_turnOver_94 : decode cX2_turnOver 94 = .ok (.goto (-92), 3) := by decide +kernel
theorem dX2_turnOver_97 : decode cX2_turnOver 97 = .ok (.return_, 1) := by decide +kernel
theorem dX3_init_0 : decode cX3_init 0 = .ok (.aload_n 0, 1) := by decide +kernel
theorem dX3_init_1 : decode cX3_init 1 = .ok (.invokespecial 3, 3) := by decide +kernel
theorem dX3_init_4 : decode cX3_init 4 = .ok (.aload_n 0, 1) := by decide +kernel
theorem dX3_init_5 : decode cX3_init 5 = .ok (.sipush 192, 3) := by decide +kernel
theorem dX3_init_8 : decode cX3_init 8 = .ok (.newarray .int, 2) := by decide +kernel
theorem dX3_init_10 : decode cX3_init 10 = .ok (.putfield 9, 3) := by decide +kernel
theorem dX3_init_13 : decode cX3_init 13 = .ok (.aload_n 0, 1) := by decide +kernel
theorem dX3_init_14 : decode cX3_init 14 = .ok (.iconst 3, 1) := by decide +kernel
theorem dX3_init_15 : decode cX3_init 15 = .ok (.newarray .float, 2) := by decide +kernel
theorem dX3_init_17 : decode cX3_init 17 = .ok (.putfield 15, 3) := by decide +kernel
theorem dX3_init_20 : decode cX3_init 20 = .ok (.aload_n 0, 1) := by decide +kernel
theorem dX3_init_21 : decode cX3_init 21 = .ok (.iconst 4, 1) := by decide +kernel
theorem dX3_init_22 : decode cX3_init 22 = .ok (.putfield 19, 3) := by decide +kernel
theorem dX3_init_25 : decode cX3_init 25 = .ok (.iconst 0, 1) := by decide +kernel
theorem dX3_init_26 : decode cX3_init 26 = .ok (.istore_n 1, 1) := by decide +kernel
theorem dX3_init_27 : decode cX3_init 27 = .ok (.iload_n 1, 1) := by decide +kernel
theorem dX3_init_28 : decode cX3_init 28 = .ok (.iconst 3, 1) := by decide +kernel
theorem dX3_init_29 : decode cX3_init 29 = .ok (.if_icmp .ge 16, 3) := by decide +kernel
theorem dX3_init_32 : decode cX3_init 32 = .ok (.aload_n 0, 1) := by decide +kernel
theorem dX3_init_33 : decode cX3_init 33 = .ok (.getfield 15, 3) := by decide +kernel
theorem dX3_init_36 : decode cX3_init 36 = .ok (.iload_n 1, 1) := by decide +kernel
theorem dX3_init_37 : decode cX3_init 37 = .ok (.fconst 1, 1) := by decide +kernel
theorem dX3_init_38 : decode cX3_init 38 = .ok (.fastore, 1) := by decide +kernel
theorem dX3_init_39 : decode cX3_init 39 = .ok (.iinc 1 1, 3) := by decide +kernel
theorem dX3_init_42 : decode cX3_init 42 = .ok (.goto (-15), 3) := by decide +kernel
theorem dX3_init_45 : decode cX3_init 45 = .ok (.return_, 1) := by decide +kernel
theorem dX3_colourPlace_0 : decode cX3_colourPlace 0 = .ok (.iload_n 2, 1) := by decide +kernel
theorem dX3_colourPlace_1 : decode cX3_colourPlace 1 = .ok (.istore_n 3, 1) := by decide +kernel
theorem dX3_colourPlace_2 : decode cX3_colourPlace 2 = .ok (.iconst 0, 1) := by decide +kernel
theorem dX3_colourPlace_3 : decode cX3_colourPlace 3 = .ok (.istore 4, 2) := by decide +kernel
theorem dX3_colourPlace_5 : decode cX3_colourPlace 5 = .ok (.iload 4, 2) := by decide +kernel
theorem dX3_colourPlace_7 : decode cX3_colourPlace 7 = .ok (.iconst 3, 1) := by decide +kernel
theorem dX3_colourPlace_8 : decode cX3_colourPlace 8 = .ok (.if_icmp .ge 31, 3) := by decide +kernel
theorem dX3_colourPlace_11 : decode cX3_colourPlace 11 = .ok (.aload_n 0, 1) := by decide +kernel
theorem dX3_colourPlace_12 : decode cX3_colourPlace 12 = .ok (.getfield 9, 3) := by decide +kernel
theorem dX3_colourPlace_15 : decode cX3_colourPlace 15 = .ok (.iconst 3, 1) := by decide +kernel
theorem dX3_colourPlace_16 : decode cX3_colourPlace 16 = .ok (.iload_n 1, 1) := by decide +kernel
theorem dX3_colourPlace_17 : decode cX3_colourPlace 17 = .ok (.imul, 1) := by decide +kernel
theorem dX3_colourPlace_18 : decode cX3_colourPlace 18 = .ok (.iload 4, 2) := by decide +kernel
theorem dX3_colourPlace_20 : decode cX3_colourPlace 20 = .ok (.iadd, 1) := by decide +kernel
theorem dX3_colourPlace_21 : decode cX3_colourPlace 21 = .ok (.iload_n 3, 1) := by decide +kernel
theorem dX3_colourPlace_22 : decode cX3_colourPlace 22 = .ok (.sipush 256, 3) := by decide +kernel
theorem dX3_colourPlace_25 : decode cX3_colourPlace 25 = .ok (.irem, 1) := by decide +kernel
theorem dX3_colourPlace_26 : decode cX3_colourPlace 26 = .ok (.iastore, 1) := by decide +kernel
theorem dX3_colourPlace_27 : decode cX3_colourPlace 27 = .ok (.iload_n 3, 1) := by decide +kernel
theorem dX3_colourPlace_28 : decode cX3_colourPlace 28 = .ok (.sipush 256, 3) := by decide +kernel
theorem dX3_colourPlace_31 : decode cX3_colourPlace 31 = .ok (.idiv, 1) := by decide +kernel
theorem dX3_colourPlace_32 : decode cX3_colourPlace 32 = .ok (.istore_n 3, 1) := by decide +kernel
theorem dX3_colourPlace_33 : decode cX3_colourPlace 33 = .ok (.iinc 4 1, 3) := by decide +kernel
theorem dX3_colourPlace_36 : decode cX3_colourPlace 36 = .ok (.goto (-31), 3) := by decide +kernel
theorem dX3_colourPlace_39 : decode cX3_colourPlace 39 = .ok (.return_, 1) := by decide +kernel
theorem dX3_shade_0 : decode cX3_shade 0 = .ok (.aload_n 0, 1) := by decide +kernel
theorem dX3_shade_1 : decode cX3_shade 1 = .ok (.getfield 9, 3) := by decide +kernel
theorem dX3_shade_4 : decode cX3_shade 4 = .ok (.iconst 3, 1) := by decide +kernel
theorem dX3_shade_5 : decode cX3_shade 5 = .ok (.iload_n 1, 1) := by decide +kernel
theorem dX3_shade_6 : decode cX3_shade 6 = .ok (.imul, 1) := by decide +kernel
theorem dX3_shade_7 : decode cX3_shade 7 = .ok (.iload_n 2, 1) := by decide +kernel
theorem dX3_shade_8 : decode cX3_shade 8 = .ok (.iadd, 1) := by decide +kernel
theorem dX3_shade_9 : decode cX3_shade 9 = .ok (.iaload, 1) := by decide +kernel
theorem dX3_shade_10 : decode cX3_shade 10 = .ok (.ireturn, 1) := by decide +kernel
theorem dX3_light_0 : decode cX3_light 0 = .ok (.aload_n 0, 1) := by decide +kernel
theorem dX3_light_1 : decode cX3_light 1 = .ok (.getfield 15, 3) := by decide +kernel
theorem dX3_light_4 : decode cX3_light 4 = .ok (.iconst 0, 1) := by decide +kernel
theorem dX3_light_5 : decode cX3_light 5 = .ok (.iload_n 1, 1) := by decide +kernel
theorem dX3_light_6 : decode cX3_light 6 = .ok (.i2f, 1) := by decide +kernel
theorem dX3_light_7 : decode cX3_light 7 = .ok (.ldc 23, 2) := by decide +kernel
theorem dX3_light_9 : decode cX3_light 9 = .ok (.fdiv, 1) := by decide +kernel
theorem dX3_light_10 : decode cX3_light 10 = .ok (.fastore, 1) := by decide +kernel
theorem dX3_light_11 : decode cX3_light 11 = .ok (.aload_n 0, 1) := by decide +kernel
theorem dX3_light_12 : decode cX3_light 12 = .ok (.getfield 15, 3) := by decide +kernel
theorem dX3_light_15 : decode cX3_light 15 = .ok (.iconst 1, 1) := by decide +kernel
theorem dX3_light_16 : decode cX3_light 16 = .ok (.iload_n 2, 1) := by decide +kernel
theorem dX3_light_17 : decode cX3_light 17 = .ok (.i2f, 1) := by decide +kernel
theorem dX3_light_18 : decode cX3_light 18 = .ok (.ldc 23, 2) := by decide +kernel
theorem dX3_light_20 : decode cX3_light 20 = .ok (.fdiv, 1) := by decide +kernel
theorem dX3_light_21 : decode cX3_light 21 = .ok (.fastore, 1) := by decide +kernel
theorem dX3_light_22 : decode cX3_light 22 = .ok (.aload_n 0, 1) := by decide +kernel
theorem dX3_light_23 : decode cX3_light 23 = .ok (.getfield 15, 3) := by decide +kernel
theorem dX3_light_26 : decode cX3_light 26 = .ok (.iconst 2, 1) := by decide +kernel
theorem dX3_light_27 : decode cX3_light 27 = .ok (.iload_n 3, 1) := by decide +kernel
theorem dX3_light_28 : decode cX3_light 28 = .ok (.i2f, 1) := by decide +kernel
theorem dX3_light_29 : decode cX3_light 29 = .ok (.ldc 23, 2) := by decide +kernel
theorem dX3_light_31 : decode cX3_light 31 = .ok (.fdiv, 1) := by decide +kernel
theorem dX3_light_32 : decode cX3_light 32 = .ok (.fastore, 1) := by decide +kernel
theorem dX3_light_33 : decode cX3_light 33 = .ok (.aload_n 0, 1) := by decide +kernel
theorem dX3_light_34 : decode cX3_light 34 = .ok (.iload_n 2, 1) := by decide +kernel
theorem dX3_light_35 : decode cX3_light 35 = .ok (.putfield 19, 3) := by decide +kernel
theorem dX3_light_38 : decode cX3_light 38 = .ok (.return_, 1) := by decide +kernel
theorem dX3_greenQuarters_0 : decode cX3_greenQuarters 0 = .ok (.aload_n 0, 1) := by decide +kernel
theorem dX3_greenQuarters_1 : decode cX3_greenQuarters 1 = .ok (.getfield 19, 3) := by decide +kernel
theorem dX3_greenQuarters_4 : decode cX3_greenQuarters 4 = .ok (.ireturn, 1) := by decide +kernel
theorem dX3_lightAt_0 : decode cX3_lightAt 0 = .ok (.aload_n 0, 1) := by decide +kernel
theorem dX3_lightAt_1 : decode cX3_lightAt 1 = .ok (.iload_n 1, 1) := by decide +kernel
theorem dX3_lightAt_2 : decode cX3_lightAt 2 = .ok (.iload_n 2, 1) := by decide +kernel
theorem dX3_lightAt_3 : decode cX3_lightAt 3 = .ok (.invokevirtual 24, 3) := by decide +kernel
theorem dX3_lightAt_6 : decode cX3_lightAt 6 = .ok (.i2f, 1) := by decide +kernel
theorem dX3_lightAt_7 : decode cX3_lightAt 7 = .ok (.aload_n 0, 1) := by decide +kernel
theorem dX3_lightAt_8 : decode cX3_lightAt 8 = .ok (.getfield 15, 3) := by decide +kernel
theorem dX3_lightAt_11 : decode cX3_lightAt 11 = .ok (.iload_n 2, 1) := by decide +kernel
theorem dX3_lightAt_12 : decode cX3_lightAt 12 = .ok (.faload, 1) := by decide +kernel
theorem dX3_lightAt_13 : decode cX3_lightAt 13 = .ok (.fmul, 1) := by decide +kernel
theorem dX3_lightAt_14 : decode cX3_lightAt 14 = .ok (.iload_n 3, 1) := by decide +kernel
theorem dX3_lightAt_15 : decode cX3_lightAt 15 = .ok (.i2f, 1) := by decide +kernel
theorem dX3_lightAt_16 : decode cX3_lightAt 16 = .ok (.fmul, 1) := by decide +kernel
theorem dX3_lightAt_17 : decode cX3_lightAt 17 = .ok (.ldc 28, 2) := by decide +kernel
theorem dX3_lightAt_19 : decode cX3_lightAt 19 = .ok (.fdiv, 1) := by decide +kernel
theorem dX3_lightAt_20 : decode cX3_lightAt 20 = .ok (.freturn, 1) := by decide +kernel
theorem dX4_init_0 : decode cX4_init 0 = .ok (.aload_n 0, 1) := by decide +kernel
theorem dX4_init_1 : decode cX4_init 1 = .ok (.invokespecial 3, 3) := by decide +kernel
theorem dX4_init_4 : decode cX4_init 4 = .ok (.aload_n 0, 1) := by decide +kernel
theorem dX4_init_5 : decode cX4_init 5 = .ok (.bipush 64, 2) := by decide +kernel
theorem dX4_init_7 : decode cX4_init 7 = .ok (.newarray .int, 2) := by decide +kernel
theorem dX4_init_9 : decode cX4_init 9 = .ok (.putfield 9, 3) := by decide +kernel
theorem dX4_init_12 : decode cX4_init 12 = .ok (.aload_n 0, 1) := by decide +kernel
theorem dX4_init_13 : decode cX4_init 13 = .ok (.bipush 64, 2) := by decide +kernel
theorem dX4_init_15 : decode cX4_init 15 = .ok (.newarray .boolean, 2) := by decide +kernel
theorem dX4_init_17 : decode cX4_init 17 = .ok (.putfield 15, 3) := by decide +kernel
theorem dX4_init_20 : decode cX4_init 20 = .ok (.aload_n 0, 1) := by decide +kernel
theorem dX4_init_21 : decode cX4_init 21 = .ok (.iconst 0, 1) := by decide +kernel
theorem dX4_init_22 : decode cX4_init 22 = .ok (.putfield 19, 3) := by decide +kernel
theorem dX4_init_25 : decode cX4_init 25 = .ok (.return_, 1) := by decide +kernel
theorem dX4_howIs_0 : decode cX4_howIs 0 = .ok (.aload_n 0, 1) := by decide +kernel
theorem dX4_howIs_1 : decode cX4_howIs 1 = .ok (.getfield 9, 3) := by decide +kernel
theorem dX4_howIs_4 : decode cX4_howIs 4 = .ok (.iload_n 1, 1) := by decide +kernel
theorem dX4_howIs_5 : decode cX4_howIs 5 = .ok (.iaload, 1) := by decide +kernel
theorem dX4_howIs_6 : decode cX4_howIs 6 = .ok (.ireturn, 1) := by decide +kernel
theorem dX4_setHow_0 : decode cX4_setHow 0 = .ok (.aload_n 0, 1) := by decide +kernel
theorem dX4_setHow_1 : decode cX4_setHow 1 = .ok (.getfield 9, 3) := by decide +kernel
theorem dX4_setHow_4 : decode cX4_setHow 4 = .ok (.iload_n 1, 1) := by decide +kernel
theorem dX4_setHow_5 : decode cX4_setHow 5 = .ok (.iload_n 2, 1) := by decide +kernel
theorem dX4_setHow_6 : decode cX4_setHow 6 = .ok (.iastore, 1) := by decide +kernel
theorem dX4_setHow_7 : decode cX4_setHow 7 = .ok (.return_, 1) := by decide +kernel
theorem dX4_isMapped_0 : decode cX4_isMapped 0 = .ok (.aload_n 0, 1) := by decide +kernel
theorem dX4_isMapped_1 : decode cX4_isMapped 1 = .ok (.getfield 15, 3) := by decide +kernel
theorem dX4_isMapped_4 : decode cX4_isMapped 4 = .ok (.iload_n 1, 1) := by decide +kernel
theorem dX4_isMapped_5 : decode cX4_isMapped 5 = .ok (.baload, 1) := by decide +kernel
theorem dX4_isMapped_6 : decode cX4_isMapped 6 = .ok (.ireturn, 1) := by decide +kernel
theorem dX4_setMapped_0 : decode cX4_setMapped 0 = .ok (.aload_n 0, 1) := by decide +kernel
theorem dX4_setMapped_1 : decode cX4_setMapped 1 = .ok (.getfield 15, 3) := by decide +kernel
theorem dX4_setMapped_4 : decode cX4_setMapped 4 = .ok (.iload_n 1, 1) := by decide +kernel
theorem dX4_setMapped_5 : decode cX4_setMapped 5 = .ok (.iload_n 2, 1) := by decide +kernel
theorem dX4_setMapped_6 : decode cX4_setMapped 6 = .ok (.bastore, 1) := by decide +kernel
theorem dX4_setMapped_7 : decode cX4_setMapped 7 = .ok (.return_, 1) := by decide +kernel
theorem dX4_countMapped_0 : decode cX4_countMapped 0 = .ok (.iconst 0, 1) := by decide +kernel
theorem dX4_countMapped_1 : decode cX4_countMapped 1 = .ok (.istore_n 1, 1) := by decide +kernel
theorem dX4_countMapped_2 : decode cX4_countMapped 2 = .ok (.iconst 0, 1) := by decide +kernel
theorem dX4_countMapped_3 : decode cX4_countMapped 3 = .ok (.istore_n 2, 1) := by decide +kernel
theorem dX4_countMapped_4 : decode cX4_countMapped 4 = .ok (.iload_n 2, 1) := by decide +kernel
theorem dX4_countMapped_5 : decode cX4_countMapped 5 = .ok (.bipush 64, 2) := by decide +kernel
theorem dX4_countMapped_7 : decode cX4_countMapped 7 = .ok (.if_icmp .ge 21, 3) := by decide +kernel
theorem dX4_countMapped_10 : decode cX4_countMapped 10 = .ok (.aload_n 0, 1) := by decide +kernel
theorem dX4_countMapped_11 : decode cX4_countMapped 11 = .ok (.getfield 15, 3) := by decide +kernel
theorem dX4_countMapped_14 : decode cX4_countMapped 14 = .ok (.iload_n 2, 1) := by decide +kernel
theorem dX4_countMapped_15 : decode cX4_countMapped 15 = .ok (.baload, 1) := by decide +kernel
theorem dX4_countMapped_16 : decode cX4_countMapped 16 = .ok (.ifCond .eq 6, 3) := by decide +kernel
theorem dX4_countMapped_19 : decode cX4_countMapped 19 = .ok (.iinc 1 1, 3) := by decide +kernel
theorem dX4_countMapped_22 : decode cX4_countMapped 22 = .ok (.iinc 2 1, 3) := by decide +kernel
theorem dX4_countMapped_25 : decode cX4_countMapped 25 = .ok (.goto (-21), 3) := by decide +kernel
theorem dX4_countMapped_28 : decode cX4_countMapped 28 = .ok (.iload_n 1, 1) := by decide +kernel
theorem dX4_countMapped_29 : decode cX4_countMapped 29 = .ok (.ireturn, 1) := by decide +kernel
theorem dX4_countSpoilt_0 : decode cX4_countSpoilt 0 = .ok (.iconst 0, 1) := by decide +kernel
theorem dX4_countSpoilt_1 : decode cX4_countSpoilt 1 = .ok (.istore_n 2, 1) := by decide +kernel
theorem dX4_countSpoilt_2 : decode cX4_countSpoilt 2 = .ok (.iconst 0, 1) := by decide +kernel
theorem dX4_countSpoilt_3 : decode cX4_countSpoilt 3 = .ok (.istore_n 3, 1) := by decide +kernel
theorem dX4_countSpoilt_4 : decode cX4_countSpoilt 4 = .ok (.iload_n 3, 1) := by decide +kernel
theorem dX4_countSpoilt_5 : decode cX4_countSpoilt 5 = .ok (.bipush 64, 2) := by decide +kernel
theorem dX4_countSpoilt_7 : decode cX4_countSpoilt 7 = .ok (.if_icmp .ge 34, 3) := by decide +kernel
theorem dX4_countSpoilt_10 : decode cX4_countSpoilt 10 = .ok (.aload_n 0, 1) := by decide +kernel
theorem dX4_countSpoilt_11 : decode cX4_countSpoilt 11 = .ok (.getfield 9, 3) := by decide +kernel
theorem dX4_countSpoilt_14 : decode cX4_countSpoilt 14 = .ok (.iload_n 3, 1) := by decide +kernel
theorem dX4_countSpoilt_15 : decode cX4_countSpoilt 15 = .ok (.iaload, 1) := by decide +kernel
theorem dX4_countSpoilt_16 : decode cX4_countSpoilt 16 = .ok (.ifCond .eq 19, 3) := by decide +kernel
theorem dX4_countSpoilt_19 : decode cX4_countSpoilt 19 = .ok (.iload_n 1, 1) := by decide +kernel
theorem dX4_countSpoilt_20 : decode cX4_countSpoilt 20 = .ok (.ifCond .ne 12, 3) := by decide +kernel
theorem dX4_countSpoilt_23 : decode cX4_countSpoilt 23 = .ok (.aload_n 0, 1) := by decide +kernel
theorem dX4_countSpoilt_24 : decode cX4_countSpoilt 24 = .ok (.getfield 15, 3) := by decide +kernel
theorem dX4_countSpoilt_27 : decode cX4_countSpoilt 27 = .ok (.iload_n 3, 1) := by decide +kernel
theorem dX4_countSpoilt_28 : decode cX4_countSpoilt 28 = .ok (.baload, 1) := by decide +kernel
theorem dX4_countSpoilt_29 : decode cX4_countSpoilt 29 = .ok (.ifCond .ne 6, 3) := by decide +kernel
theorem dX4_countSpoilt_32 : decode cX4_countSpoilt 32 = .ok (.iinc 2 1, 3) := by decide +kernel
theorem dX4_countSpoilt_35 : decode cX4_countSpoilt 35 = .ok (.iinc 3 1, 3) := by decide +kernel
theorem dX4_countSpoilt_38 : decode cX4_countSpoilt 38 = .ok (.goto (-34), 3) := by decide +kernel
theorem dX4_countSpoilt_41 : decode cX4_countSpoilt 41 = .ok (.iload_n 2, 1) := by decide +kernel
theorem dX4_countSpoilt_42 : decode cX4_countSpoilt 42 = .ok (.ireturn, 1) := by decide +kernel
theorem dX4_advance_0 : decode cX4_advance 0 = .ok (.aload_n 0, 1) := by decide +kernel
theorem dX4_advance_1 : decode cX4_advance 1 = .ok (.iload_n 1, 1) := by decide +kernel
theorem dX4_advance_2 : decode cX4_advance 2 = .ok (.putfield 19, 3) := by decide +kernel
theorem dX4_advance_5 : decode cX4_advance 5 = .ok (.return_, 1) := by decide +kernel
theorem dX4_expose_0 : decode cX4_expose 0 = .ok (.aload_n 0, 1) := by decide +kernel
theorem dX4_expose_1 : decode cX4_expose 1 = .ok (.getfield 19, 3) := by decide +kernel
theorem dX4_expose_4 : decode cX4_expose 4 = .ok (.istore 5, 2) := by decide +kernel
theorem dX4_expose_6 : decode cX4_expose 6 = .ok (.iconst 0, 1) := by decide +kernel
theorem dX4_expose_7 : decode cX4_expose 7 = .ok (.istore 6, 2) := by decide +kernel
theorem dX4_expose_9 : decode cX4_expose 9 = .ok (.iload 6, 2) := by decide +kernel
theorem dX4_expose_11 : decode cX4_expose 11 = .ok (.bipush 8, 2) := by decide +kernel
theorem dX4_expose_13 : decode cX4_expose 13 = .ok (.if_icmp .ge 84, 3) := by decide +kernel
theorem dX4_expose_16 : decode cX4_expose 16 = .ok (.iconst 0, 1) := by decide +kernel
theorem dX4_expose_17 : decode cX4_expose 17 = .ok (.istore 7, 2) := by decide +kernel
theorem dX4_expose_19 : decode cX4_expose 19 = .ok (.iload 7, 2) := by decide +kernel
theorem dX4_expose_21 : decode cX4_expose 21 = .ok (.bipush 8, 2) := by decide +kernel
theorem dX4_expose_23 : decode cX4_expose 23 = .ok (.if_icmp .ge 68, 3) := by decide +kernel
theorem dX4_expose_26 : decode cX4_expose 26 = .ok (.iload 7, 2) := by decide +kernel
theorem dX4_expose_28 : decode cX4_expose 28 = .ok (.iload 6, 2) := by decide +kernel
theorem dX4_expose_30 : decode cX4_expose 30 = .ok (.invokestatic 23, 3) := by decide +kernel
theorem dX4_expose_33 : decode cX4_expose 33 = .ok (.istore 8, 2) := by decide +kernel
theorem dX4_expose_35 : decode cX4_expose 35 = .ok (.iconst 2, 1) := by decide +kernel
theorem dX4_expose_36 : decode cX4_expose 36 = .ok (.iload 5, 2) := by decide +kernel
theorem dX4_expose_38 : decode cX4_expose 38 = .ok (.imul, 1) := by decide +kernel
theorem dX4_expose_39 : decode cX4_expose 39 = .ok (.iconst 5, 1) := by decide +kernel
theorem dX4_expose_40 : decode cX4_expose 40 = .ok (.iadd, 1) := by decide +kernel
theorem dX4_expose_41 : decode cX4_expose 41 = .ok (.bipush 61, 2) := by decide +kernel
theorem dX4_expose_43 : decode cX4_expose 43 = .ok (.irem, 1) := by decide +kernel
theorem dX4_expose_44 : decode cX4_expose 44 = .ok (.istore 5, 2) := by decide +kernel
theorem dX4_expose_46 : decode cX4_expose 46 = .ok (.aload_n 1, 1) := by decide +kernel
theorem dX4_expose_47 : decode cX4_expose 47 = .ok (.iload 8, 2) := by decide +kernel
theorem dX4_expose_49 : decode cX4_expose 49 = .ok (.iload 7, 2) := by decide +kernel
theorem dX4_expose_51 : decode cX4_expose 51 = .ok (.iload 6, 2) := by decide +kernel
theorem dX4_expose_53 : decode cX4_expose 53 = .ok (.invokestatic 27, 3) := by decide +kernel
theorem dX4_expose_56 : decode cX4_expose 56 = .ok (.iload_n 2, 1) := by decide +kernel
theorem dX4_expose_57 : decode cX4_expose 57 = .ok (.invokevirtual 30, 3) := by decide +kernel
theorem dX4_expose_60 : decode cX4_expose 60 = .ok (.fstore 9, 2) := by decide +kernel
theorem dX4_expose_62 : decode cX4_expose 62 = .ok (.aload 4, 2) := by decide +kernel
theorem dX4_expose_64 : decode cX4_expose 64 = .ok (.getfield 36, 3) := by decide +kernel
theorem dX4_expose_67 : decode cX4_expose 67 = .ok (.iload 8, 2) := by decide +kernel
theorem dX4_expose_69 : decode cX4_expose 69 = .ok (.aload_n 0, 1) := by decide +kernel
theorem dX4_expose_70 : decode cX4_expose 70 = .ok (.getfield 9, 3) := by decide +kernel
theorem dX4_expose_73 : decode cX4_expose 73 = .ok (.iload 8, 2) := by decide +kernel
theorem dX4_expose_75 : decode cX4_expose 75 = .ok (.iaload, 1) := by decide +kernel
theorem dX4_expose_76 : decode cX4_expose 76 = .ok (.fload 9, 2) := by decide +kernel
theorem dX4_expose_78 : decode cX4_expose 78 = .ok (.iload_n 3, 1) := by decide +kernel
theorem dX4_expose_79 : decode cX4_expose 79 = .ok (.iload 5, 2) := by decide +kernel
theorem dX4_expose_81 : decode cX4_expose 81 = .ok (.invokestatic 41, 3) := by decide +kernel
theorem dX4_expose_84 : decode cX4_expose 84 = .ok (.iastore, 1) := by decide +kernel
theorem dX4_expose_85 : decode cX4_expose 85 = .ok (.iinc 7 1, 3) := by decide +kernel
theorem dX4_expose_88 : decode cX4_expose 88 = .ok (.goto (-69), 3) := by decide +kernel
theorem dX4_expose_91 : decode cX4_expose 91 = .ok (.iinc 6 1, 3) := by decide +kernel
theorem dX4_expose_94 : decode cX4_expose 94 = .ok (.goto (-85), 3) := by decide +kernel
theorem dX4_expose_97 : decode cX4_expose 97 = .ok (.aload 4, 2) := by decide +kernel
theorem dX4_expose_99 : decode cX4_expose 99 = .ok (.iload_n 2, 1) := by decide +kernel
theorem dX4_expose_100 : decode cX4_expose 100 = .ok (.putfield 45, 3) := by decide +kernel
theorem dX4_expose_103 : decode cX4_expose 103 = .ok (.aload 4, 2) := by decide +kernel
theorem dX4_expose_105 : decode cX4_expose 105 = .ok (.iload_n 3, 1) := by decide +kernel
theorem dX4_expose_106 : decode cX4_expose 106 = .ok (.putfield 48, 3) := by decide +kernel
theorem dX4_expose_109 : decode cX4_expose 109 = .ok (.iload 5, 2) := by decide +kernel
theorem dX4_expose_111 : decode cX4_expose 111 = .ok (.ireturn, 1) := by decide +kernel
theorem dX4_rawOf_0 : decode cX4_rawOf 0 = .ok (.iload_n 0, 1) := by decide +kernel
theorem dX4_rawOf_1 : decode cX4_rawOf 1 = .ok (.iconst 1, 1) := by decide +kernel
theorem dX4_rawOf_2 : decode cX4_rawOf 2 = .ok (.if_icmp .ne 5, 3) := by decide +kernel
theorem dX4_rawOf_5 : decode cX4_rawOf 5 = .ok (.iconst 0, 1) := by decide +kernel
theorem dX4_rawOf_6 : decode cX4_rawOf 6 = .ok (.ireturn, 1) := by decide +kernel
theorem dX4_rawOf_7 : decode cX4_rawOf 7 = .ok (.iload_n 0, 1) := by decide +kernel
theorem dX4_rawOf_8 : decode cX4_rawOf 8 = .ok (.iconst 2, 1) := by decide +kernel
theorem dX4_rawOf_9 : decode cX4_rawOf 9 = .ok (.if_icmp .ne 7, 3) := by decide +kernel
theorem dX4_rawOf_12 : decode cX4_rawOf 12 = .ok (.sipush 255, 3) := by decide +kernel
theorem dX4_rawOf_15 : decode cX4_rawOf 15 = .ok (.ireturn, 1) := by decide +kernel
theorem dX4_rawOf_16 : decode cX4_rawOf 16 = .ok (.fload_n 1, 1) := by decide +kernel
theorem dX4_rawOf_17 : decode cX4_rawOf 17 = .ok (.f2i, 1) := by decide +kernel
theorem dX4_rawOf_18 : decode cX4_rawOf 18 = .ok (.sipush 255, 3) := by decide +kernel
theorem dX4_rawOf_21 : decode cX4_rawOf 21 = .ok (.invokestatic 51, 3) := by decide +kernel
theorem dX4_rawOf_24 : decode cX4_rawOf 24 = .ok (.istore 4, 2) := by decide +kernel
theorem dX4_rawOf_26 : decode cX4_rawOf 26 = .ok (.iconst 0, 1) := by decide +kernel
theorem dX4_rawOf_27 : decode cX4_rawOf 27 = .ok (.sipush 255, 3) := by decide +kernel
theorem dX4_rawOf_30 : decode cX4_rawOf 30 = .ok (.bipush 16, 2) := by decide +kernel
theorem dX4_rawOf_32 : decode cX4_rawOf 32 = .ok (.iload 4, 2) := by decide +kernel
theorem dX4_rawOf_34 : decode cX4_rawOf 34 = .ok (.iload_n 2, 1) := by decide +kernel
theorem dX4_rawOf_35 : decode cX4_rawOf 35 = .ok (.imul, 1) := by decide +kernel
theorem dX4_rawOf_36 : decode cX4_rawOf 36 = .ok (.iadd, 1) := by decide +kernel
theorem dX4_rawOf_37 : decode cX4_rawOf 37 = .ok (.iload_n 3, 1) := by decide +kernel
theorem dX4_rawOf_38 : decode cX4_rawOf 38 = .ok (.bipush 8, 2) := by decide +kernel
theorem dX4_rawOf_40 : decode cX4_rawOf 40 = .ok (.irem, 1) := by decide +kernel
theorem dX4_rawOf_41 : decode cX4_rawOf 41 = .ok (.iadd, 1) := by decide +kernel
theorem dX4_rawOf_42 : decode cX4_rawOf 42 = .ok (.iconst 4, 1) := by decide +kernel
theorem dX4_rawOf_43 : decode cX4_rawOf 43 = .ok (.isub, 1) := by decide +kernel
theorem dX4_rawOf_44 : decode cX4_rawOf 44 = .ok (.invokestatic 51, 3) := by decide +kernel
theorem dX4_rawOf_47 : decode cX4_rawOf 47 = .ok (.invokestatic 56, 3) := by decide +kernel
theorem dX4_rawOf_50 : decode cX4_rawOf 50 = .ok (.ireturn, 1) := by decide +kernel
theorem dX5_init_0 : decode cX5_init 0 = .ok (.aload_n 0, 1) := by decide +kernel
theorem dX5_init_1 : decode cX5_init 1 = .ok (.invokespecial 1, 3) := by decide +kernel
theorem dX5_init_4 : decode cX5_init 4 = .ok (.aload_n 0, 1) := by decide +kernel
theorem dX5_init_5 : decode cX5_init 5 = .ok (.new 7, 3) := by decide +kernel
theorem dX5_init_8 : decode cX5_init 8 = .ok (.dup, 1) := by decide +kernel
theorem dX5_init_9 : decode cX5_init 9 = .ok (.invokespecial 9, 3) := by decide +kernel
theorem dX5_init_12 : decode cX5_init 12 = .ok (.putfield 10, 3) := by decide +kernel
theorem dX5_init_15 : decode cX5_init 15 = .ok (.aload_n 0, 1) := by decide +kernel
theorem dX5_init_16 : decode cX5_init 16 = .ok (.iconst 0, 1) := by decide +kernel
theorem dX5_init_17 : decode cX5_init 17 = .ok (.putfield 16, 3) := by decide +kernel
theorem dX5_init_20 : decode cX5_init 20 = .ok (.aload_n 0, 1) := by decide +kernel
theorem dX5_init_21 : decode cX5_init 21 = .ok (.iconst 0, 1) := by decide +kernel
theorem dX5_init_22 : decode cX5_init 22 = .ok (.putfield 20, 3) := by decide +kernel
theorem dX5_init_25 : decode cX5_init 25 = .ok (.return_, 1) := by decide +kernel
theorem dX5_keep_0 : decode cX5_keep 0 = .ok (.aload_n 0, 1) := by decide +kernel
theorem dX5_keep_1 : decode cX5_keep 1 = .ok (.iload_n 1, 1) := by decide +kernel
theorem dX5_keep_2 : decode cX5_keep 2 = .ok (.putfield 16, 3) := by decide +kernel
theorem dX5_keep_5 : decode cX5_keep 5 = .ok (.aload_n 0, 1) := by decide +kernel
theorem dX5_keep_6 : decode cX5_keep 6 = .ok (.iload_n 2, 1) := by decide +kernel
theorem dX5_keep_7 : decode cX5_keep 7 = .ok (.putfield 20, 3) := by decide +kernel
theorem dX5_keep_10 : decode cX5_keep 10 = .ok (.aload_n 0, 1) := by decide +kernel
theorem dX5_keep_11 : decode cX5_keep 11 = .ok (.getfield 10, 3) := by decide +kernel
theorem dX5_keep_14 : decode cX5_keep 14 = .ok (.aload_n 3, 1) := by decide +kernel
theorem dX5_keep_15 : decode cX5_keep 15 = .ok (.invokevirtual 23, 3) := by decide +kernel
theorem dX5_keep_18 : decode cX5_keep 18 = .ok (.return_, 1) := by decide +kernel
theorem dX6_init_0 : decode cX6_init 0 = .ok (.aload_n 0, 1) := by decide +kernel
theorem dX6_init_1 : decode cX6_init 1 = .ok (.invokespecial 3, 3) := by decide +kernel
theorem dX6_init_4 : decode cX6_init 4 = .ok (.aload_n 0, 1) := by decide +kernel
theorem dX6_init_5 : decode cX6_init 5 = .ok (.new 9, 3) := by decide +kernel
theorem dX6_init_8 : decode cX6_init 8 = .ok (.dup, 1) := by decide +kernel
theorem dX6_init_9 : decode cX6_init 9 = .ok (.invokespecial 11, 3) := by decide +kernel
theorem dX6_init_12 : decode cX6_init 12 = .ok (.putfield 12, 3) := by decide +kernel
theorem dX6_init_15 : decode cX6_init 15 = .ok (.aload_n 0, 1) := by decide +kernel
theorem dX6_init_16 : decode cX6_init 16 = .ok (.new 16, 3) := by decide +kernel
theorem dX6_init_19 : decode cX6_init 19 = .ok (.dup, 1) := by decide +kernel
theorem dX6_init_20 : decode cX6_init 20 = .ok (.invokespecial 18, 3) := by decide +kernel
theorem dX6_init_23 : decode cX6_init 23 = .ok (.putfield 19, 3) := by decide +kernel
theorem dX6_init_26 : decode cX6_init 26 = .ok (.aload_n 0, 1) := by decide +kernel
theorem dX6_init_27 : decode cX6_init 27 = .ok (.bipush 6, 2) := by decide +kernel
theorem dX6_init_29 : decode cX6_init 29 = .ok (.anewarray 23, 3) := by decide +kernel
theorem dX6_init_32 : decode cX6_init 32 = .ok (.putfield 25, 3) := by decide +kernel
theorem dX6_init_35 : decode cX6_init 35 = .ok (.aload_n 0, 1) := by decide +kernel
theorem dX6_init_36 : decode cX6_init 36 = .ok (.bipush 6, 2) := by decide +kernel
theorem dX6_init_38 : decode cX6_init 38 = .ok (.anewarray 29, 3) := by decide +kernel
theorem dX6_init_41 : decode cX6_init 41 = .ok (.putfield 31, 3) := by decide +kernel
theorem dX6_init_44 : decode cX6_init 44 = .ok (.aload_n 0, 1) := by decide +kernel
theorem dX6_init_45 : decode cX6_init 45 = .ok (.iconst 0, 1) := by decide +kernel
theorem dX6_init_46 : decode cX6_init 46 = .ok (.putfield 35, 3) := by decide +kernel
theorem dX6_init_49 : decode cX6_init 49 = .ok (.aload_n 0, 1) := by decide +kernel
theorem dX6_init_50 : decode cX6_init 50 = .ok (.iconst 0, 1) := by decide +kernel
theorem dX6_init_51 : decode cX6_init 51 = .ok (.putfield 39, 3) := by decide +kernel
theorem dX6_init_54 : decode cX6_init 54 = .ok (.aload_n 0, 1) := by decide +kernel
theorem dX6_init_55 : decode cX6_init 55 = .ok (.new 23, 3) := by decide +kernel
theorem dX6_init_58 : decode cX6_init 58 = .ok (.dup, 1) := by decide +kernel
theorem dX6_init_59 : decode cX6_init 59 = .ok (.invokespecial 42, 3) := by decide +kernel
theorem dX6_init_62 : decode cX6_init 62 = .ok (.putfield 43, 3) := by decide +kernel
theorem dX6_init_65 : decode cX6_init 65 = .ok (.aload_n 0, 1) := by decide +kernel
theorem dX6_init_66 : decode cX6_init 66 = .ok (.new 47, 3) := by decide +kernel
theorem dX6_init_69 : decode cX6_init 69 = .ok (.dup, 1) := by decide +kernel
theorem dX6_init_70 : decode cX6_init 70 = .ok (.invokespecial 49, 3) := by decide +kernel
theorem dX6_init_73 : decode cX6_init 73 = .ok (.putfield 50, 3) := by decide +kernel
theorem dX6_init_76 : decode cX6_init 76 = .ok (.aload_n 0, 1) := by decide +kernel
theorem dX6_init_77 : decode cX6_init 77 = .ok (.new 47, 3) := by decide +kernel
theorem dX6_init_80 : decode cX6_init 80 = .ok (.dup, 1) := by decide +kernel
theorem dX6_init_81 : decode cX6_init 81 = .ok (.invokespecial 49, 3) := by decide +kernel
theorem dX6_init_84 : decode cX6_init 84 = .ok (.putfield 54, 3) := by decide +kernel
theorem dX6_init_87 : decode cX6_init 87 = .ok (.iconst 0, 1) := by decide +kernel
theorem dX6_init_88 : decode cX6_init 88 = .ok (.istore_n 1, 1) := by decide +kernel
theorem dX6_init_89 : decode cX6_init 89 = .ok (.iload_n 1, 1) := by decide +kernel
theorem dX6_init_90 : decode cX6_init 90 = .ok (.bipush 6, 2) := by decide +kernel
theorem dX6_init_92 : decode cX6_init 92 = .ok (.if_icmp .ge 22, 3) := by decide +kernel
theorem dX6_init_95 : decode cX6_init 95 = .ok (.aload_n 0, 1) := by decide +kernel
theorem dX6_init_96 : decode cX6_init 96 = .ok (.getfield 25, 3) := by decide +kernel
theorem dX6_init_99 : decode cX6_init 99 = .ok (.iload_n 1, 1) := by decide +kernel
theorem dX6_init_100 : decode cX6_init 100 = .ok (.new 23, 3) := by decide +kernel
theorem dX6_init_103 : decode cX6_init 103 = .ok (.dup, 1) := by decide +kernel
theorem dX6_init_104 : decode cX6_init 104 = .ok (.invokespecial 42, 3) := by decide +kernel
theorem dX6_init_107 : decode cX6_init 107 = .ok (.aastore, 1) := by decide +kernel
theorem dX6_init_108 : decode cX6_init 108 = .ok (.iinc 1 1, 3) := by decide +kernel
theorem dX6_init_111 : decode cX6_init 111 = .ok (.goto (-22), 3) := by decide +kernel
theorem dX6_init_114 : decode cX6_init 114 = .ok (.iconst 0, 1) := by decide +kernel
theorem dX6_init_115 : decode cX6_init 115 = .ok (.istore_n 1, 1) := by decide +kernel
theorem dX6_init_116 : decode cX6_init 116 = .ok (.iload_n 1, 1) := by decide +kernel
theorem dX6_init_117 : decode cX6_init 117 = .ok (.bipush 6, 2) := by decide +kernel
theorem dX6_init_119 : decode cX6_init 119 = .ok (.if_icmp .ge 22, 3) := by decide +kernel
theorem dX6_init_122 : decode cX6_init 122 = .ok (.aload_n 0, 1) := by decide +kernel
theorem dX6_init_123 : decode cX6_init 123 = .ok (.getfield 31, 3) := by decide +kernel
theorem dX6_init_126 : decode cX6_init 126 = .ok (.iload_n 1, 1) := by decide +kernel
theorem dX6_init_127 : decode cX6_init 127 = .ok (.new 29, 3) := by decide +kernel
theorem dX6_init_130 : decode cX6_init 130 = .ok (.dup, 1) := by decide +kernel
theorem dX6_init_131 : decode cX6_init 131 = .ok (.invokespecial 57, 3) := by decide +kernel
theorem dX6_init_134 : decode cX6_init 134 = .ok (.aastore, 1) := by decide +kernel
theorem dX6_init_135 : decode cX6_init 135 = .ok (.iinc 1 1, 3) := by decide +kernel
theorem dX6_init_138 : decode cX6_init 138 = .ok (.goto (-22), 3) := by decide +kernel
theorem dX6_init_141 : decode cX6_init 141 = .ok (.return_, 1) := by decide +kernel
theorem dX6_paint_0 : decode cX6_paint 0 = .ok (.iload_n 1, 1) := by decide +kernel
theorem dX6_paint_1 : decode cX6_paint 1 = .ok (.iload_n 2, 1) := by decide +kernel
theorem dX6_paint_2 : decode cX6_paint 2 = .ok (.invokestatic 58, 3) := by decide +kernel
theorem dX6_paint_5 : decode cX6_paint 5 = .ok (.iload_n 3, 1) := by decide +kernel
theorem dX6_paint_6 : decode cX6_paint 6 = .ok (.iload 4, 2) := by decide +kernel
theorem dX6_paint_8 : decode cX6_paint 8 = .ok (.invokestatic 58, 3) := by decide +kernel
theorem dX6_paint_11 : decode cX6_paint 11 = .ok (.iload_n 3, 1) := by decide +kernel
theorem dX6_paint_12 : decode cX6_paint 12 = .ok (.iload_n 1, 1) := by decide +kernel
theorem dX6_paint_13 : decode cX6_paint 13 = .ok (.if_icmp .lt 9, 3) := by decide +kernel
theorem dX6_paint_16 : decode cX6_paint 16 = .ok (.iload 4, 2) := by decide +kernel
theorem dX6_paint_18 : decode cX6_paint 18 = .ok (.iload_n 2, 1) := by decide +kernel
theorem dX6_paint_19 : decode cX6_paint 19 = .ok (.if_icmp .ge 13, 3) := by decide +kernel
theorem dX6_paint_22 : decode cX6_paint 22 = .ok (.new 62, 3) := by decide +kernel
theorem dX6_paint_25 : decode cX6_paint 25 = .ok (.dup, 1) := by decide +kernel
theorem dX6_paint_26 : decode cX6_paint 26 = .ok (.ldc 64, 2) := by decide +kernel
theorem dX6_paint_28 : decode cX6_paint 28 = .ok (.invokespecial 66, 3) := by decide +kernel
theorem dX6_paint_31 : decode cX6_paint 31 = .ok (.athrow, 1) := by decide +kernel
theorem dX6_paint_32 : decode cX6_paint 32 = .ok (.iload 5, 2) := by decide +kernel
theorem dX6_paint_34 : decode cX6_paint 34 = .ok (.iconst 0, 1) := by decide +kernel
theorem dX6_paint_35 : decode cX6_paint 35 = .ok (.ldc 69, 2) := by decide +kernel
theorem dX6_paint_37 : decode cX6_paint 37 = .ok (.invokestatic 70, 3) := by decide +kernel
theorem dX6_paint_40 : decode cX6_paint 40 = .ok (.iload_n 2, 1) := by decide +kernel
theorem dX6_paint_41 : decode cX6_paint 41 = .ok (.istore 6, 2) := by decide +kernel
theorem dX6_paint_43 : decode cX6_paint 43 = .ok (.iload 6, 2) := by decide +kernel
theorem dX6_paint_45 : decode cX6_paint 45 = .ok (.iload 4, 2) := by decide +kernel
theorem dX6_paint_47 : decode cX6_paint 47 = .ok (.if_icmp .gt 40, 3) := by decide +kernel
theorem dX6_paint_50 : decode cX6_paint 50 = .ok (.iload_n 1, 1) := by decide +kernel
theorem dX6_paint_51 : decode cX6_paint 51 = .ok (.istore 7, 2) := by decide +kernel
theorem dX6_paint_53 : decode cX6_paint 53 = .ok (.iload 7, 2) := by decide +kernel
theorem dX6_paint_55 : decode cX6_paint 55 = .ok (.iload_n 3, 1) := by decide +kernel
theorem dX6_paint_56 : decode cX6_paint 56 = .ok (.if_icmp .gt 25, 3) := by decide +kernel
theorem dX6_paint_59 : decode cX6_paint 59 = .ok (.aload_n 0, 1) := by decide +kernel
theorem dX6_paint_60 : decode cX6_paint 60 = .ok (.getfield 12, 3) := by decide +kernel
theorem dX6_paint_63 : decode cX6_paint 63 = .ok (.iload 7, 2) := by decide +kernel
theorem dX6_paint_65 : decode cX6_paint 65 = .ok (.iload 6, 2) := by decide +kernel
theorem dX6_paint_67 : decode cX6_paint 67 = .ok (.invokestatic 74, 3) := by decide +kernel
theorem dX6_paint_70 : decode cX6_paint 70 = .ok (.iload 5, 2) := by decide +kernel
theorem dX6_paint_72 : decode cX6_paint 72 = .ok (.invokevirtual 78, 3) := by decide +kernel
theorem dX6_paint_75 : decode cX6_paint 75 = .ok (.iinc 7 1, 3) := by decide +kernel
theorem dX6_paint_78 : decode cX6_paint 78 = .ok (.goto (-25), 3) := by decide +kernel
theorem dX6_paint_81 : decode cX6_paint 81 = .ok (.iinc 6 1, 3) := by decide +kernel
theorem dX6_paint_84 : decode cX6_paint 84 = .ok (.goto (-41), 3) := by decide +kernel
theorem dX6_paint_87 : decode cX6_paint 87 = .ok (.iload_n 3, 1) := by decide +kernel
theorem dX6_paint_88 : decode cX6_paint 88 = .ok (.iload_n 1, 1) := by decide +kernel
theorem dX6_paint_89 : decode cX6_paint 89 = .ok (.isub, 1) := by decide +kernel
theorem dX6_paint_90 : decode cX6_paint 90 = .ok (.iconst 1, 1) := by decide +kernel
theorem dX6_paint_91 : decode cX6_paint 91 = .ok (.iadd, 1) := by decide +kernel
theorem dX6_paint_92 : decode cX6_paint 92 = .ok (.iload 4, 2) := by decide +kernel
theorem dX6_paint_94 : decode cX6_paint 94 = .ok (.iload_n 2, 1) := by decide +kernel
theorem dX6_paint_95 : decode cX6_paint 95 = .ok (.isub, 1) := by decide +kernel
theorem dX6_paint_96 : decode cX6_paint 96 = .ok (.iconst 1, 1) := by decide +kernel
theorem dX6_paint_97 : decode cX6_paint 97 = .ok (.iadd, 1) := by decide +kernel
theorem dX6_paint_98 : decode cX6_paint 98 = .ok (.imul, 1) := by decide +kernel
theorem dX6_paint_99 : decode cX6_paint 99 = .ok (.ireturn, 1) := by decide +kernel
theorem dX6_lamp_0 : decode cX6_lamp 0 = .ok (.iload_n 1, 1) := by decide +kernel
theorem dX6_lamp_1 : decode cX6_lamp 1 = .ok (.iconst 1, 1) := by decide +kernel
theorem dX6_lamp_2 : decode cX6_lamp 2 = .ok (.bipush 16, 2) := by decide +kernel
theorem dX6_lamp_4 : decode cX6_lamp 4 = .ok (.invokestatic 70, 3) := by decide +kernel
theorem dX6_lamp_7 : decode cX6_lamp 7 = .ok (.iload_n 2, 1) := by decide +kernel
theorem dX6_lamp_8 : decode cX6_lamp 8 = .ok (.iconst 1, 1) := by decide +kernel
theorem dX6_lamp_9 : decode cX6_lamp 9 = .ok (.bipush 16, 2) := by decide +kernel
theorem dX6_lamp_11 : decode cX6_lamp 11 = .ok (.invokestatic 70, 3) := by decide +kernel
theorem dX6_lamp_14 : decode cX6_lamp 14 = .ok (.iload_n 3, 1) := by decide +kernel
theorem dX6_lamp_15 : decode cX6_lamp 15 = .ok (.iconst 1, 1) := by decide +kernel
theorem dX6_lamp_16 : decode cX6_lamp 16 = .ok (.bipush 16, 2) := by decide +kernel
theorem dX6_lamp_18 : decode cX6_lamp 18 = .ok (.invokestatic 70, 3) := by decide +kernel
theorem dX6_lamp_21 : decode cX6_lamp 21 = .ok (.aload_n 0, 1) := by decide +kernel
theorem dX6_lamp_22 : decode cX6_lamp 22 = .ok (.getfield 12, 3) := by decide +kernel
theorem dX6_lamp_25 : decode cX6_lamp 25 = .ok (.invokevirtual 81, 3) := by decide +kernel
theorem dX6_lamp_28 : decode cX6_lamp 28 = .ok (.istore 4, 2) := by decide +kernel
theorem dX6_lamp_30 : decode cX6_lamp 30 = .ok (.aload_n 0, 1) := by decide +kernel
theorem dX6_lamp_31 : decode cX6_lamp 31 = .ok (.getfield 12, 3) := by decide +kernel
theorem dX6_lamp_34 : decode cX6_lamp 34 = .ok (.iload_n 1, 1) := by decide +kernel
theorem dX6_lamp_35 : decode cX6_lamp 35 = .ok (.iload_n 2, 1) := by decide +kernel
theorem dX6_lamp_36 : decode cX6_lamp 36 = .ok (.iload_n 3, 1) := by decide +kernel
theorem dX6_lamp_37 : decode cX6_lamp 37 = .ok (.invokevirtual 85, 3) := by decide +kernel
theorem dX6_lamp_40 : decode cX6_lamp 40 = .ok (.iload 4, 2) := by decide +kernel
theorem dX6_lamp_42 : decode cX6_lamp 42 = .ok (.ireturn, 1) := by decide +kernel
theorem dX6_spoil_0 : decode cX6_spoil 0 = .ok (.iload_n 1, 1) := by decide +kernel
theorem dX6_spoil_1 : decode cX6_spoil 1 = .ok (.iload_n 2, 1) := by decide +kernel
theorem dX6_spoil_2 : decode cX6_spoil 2 = .ok (.invokestatic 58, 3) := by decide +kernel
theorem dX6_spoil_5 : decode cX6_spoil 5 = .ok (.iload_n 3, 1) := by decide +kernel
theorem dX6_spoil_6 : decode cX6_spoil 6 = .ok (.iconst 0, 1) := by decide +kernel
theorem dX6_spoil_7 : decode cX6_spoil 7 = .ok (.iconst 2, 1) := by decide +kernel
theorem dX6_spoil_8 : decode cX6_spoil 8 = .ok (.invokestatic 70, 3) := by decide +kernel
theorem dX6_spoil_11 : decode cX6_spoil 11 = .ok (.iload_n 1, 1) := by decide +kernel
theorem dX6_spoil_12 : decode cX6_spoil 12 = .ok (.iload_n 2, 1) := by decide +kernel
theorem dX6_spoil_13 : decode cX6_spoil 13 = .ok (.invokestatic 74, 3) := by decide +kernel
theorem dX6_spoil_16 : decode cX6_spoil 16 = .ok (.istore 4, 2) := by decide +kernel
theorem dX6_spoil_18 : decode cX6_spoil 18 = .ok (.aload_n 0, 1) := by decide +kernel
theorem dX6_spoil_19 : decode cX6_spoil 19 = .ok (.getfield 19, 3) := by decide +kernel
theorem dX6_spoil_22 : decode cX6_spoil 22 = .ok (.iload 4, 2) := by decide +kernel
theorem dX6_spoil_24 : decode cX6_spoil 24 = .ok (.invokevirtual 88, 3) := by decide +kernel
theorem dX6_spoil_27 : decode cX6_spoil 27 = .ok (.istore 5, 2) := by decide +kernel
theorem dX6_spoil_29 : decode cX6_spoil 29 = .ok (.aload_n 0, 1) := by decide +kernel
theorem dX6_spoil_30 : decode cX6_spoil 30 = .ok (.getfield 19, 3) := by decide +kernel
theorem dX6_spoil_33 : decode cX6_spoil 33 = .ok (.iload 4, 2) := by decide +kernel
theorem dX6_spoil_35 : decode cX6_spoil 35 = .ok (.iload_n 3, 1) := by decide +kernel
theorem dX6_spoil_36 : decode cX6_spoil 36 = .ok (.invokevirtual 92, 3) := by decide +kernel
theorem dX6_spoil_39 : decode cX6_spoil 39 = .ok (.iload 5, 2) := by decide +kernel
theorem dX6_spoil_41 : decode cX6_spoil 41 = .ok (.ireturn, 1) := by decide +kernel
theorem dX6_map_0 : decode cX6_map 0 = .ok (.iload_n 1, 1) := by decide +kernel
theorem dX6_map_1 : decode cX6_map 1 = .ok (.iload_n 2, 1) := by decide +kernel
theorem dX6_map_2 : decode cX6_map 2 = .ok (.invokestatic 58, 3) := by decide +kernel
theorem dX6_map_5 : decode cX6_map 5 = .ok (.aload_n 0, 1) := by decide +kernel
theorem dX6_map_6 : decode cX6_map 6 = .ok (.getfield 19, 3) := by decide +kernel
theorem dX6_map_9 : decode cX6_map 9 = .ok (.iload_n 1, 1) := by decide +kernel
theorem dX6_map_10 : decode cX6_map 10 = .ok (.iload_n 2, 1) := by decide +kernel
theorem dX6_map_11 : decode cX6_map 11 = .ok (.invokestatic 74, 3) := by decide +kernel
theorem dX6_map_14 : decode cX6_map 14 = .ok (.iload_n 3, 1) := by decide +kernel
theorem dX6_map_15 : decode cX6_map 15 = .ok (.invokevirtual 95, 3) := by decide +kernel
theorem dX6_map_18 : decode cX6_map 18 = .ok (.aload_n 0, 1) := by decide +kernel
theorem dX6_map_19 : decode cX6_map 19 = .ok (.getfield 19, 3) := by decide +kernel
theorem dX6_map_22 : decode cX6_map 22 = .ok (.invokevirtual 99, 3) := by decide +kernel
theorem dX6_map_25 : decode cX6_map 25 = .ok (.ireturn, 1) := by decide +kernel
theorem dX6_take_0 : decode cX6_take 0 = .ok (.iload_n 1, 1) := by decide +kernel
theorem dX6_take_1 : decode cX6_take 1 = .ok (.iload_n 2, 1) := by decide +kernel
theorem dX6_take_2 : decode cX6_take 2 = .ok (.invokestatic 102, 3) := by decide +kernel
theorem dX6_take_5 : decode cX6_take 5 = .ok (.aload_n 0, 1) := by decide +kernel
theorem dX6_take_6 : decode cX6_take 6 = .ok (.getfield 35, 3) := by decide +kernel
theorem dX6_take_9 : decode cX6_take 9 = .ok (.bipush 6, 2) := by decide +kernel
theorem dX6_take_11 : decode cX6_take 11 = .ok (.invokestatic 105, 3) := by decide +kernel
theorem dX6_take_14 : decode cX6_take 14 = .ok (.aload_n 0, 1) := by decide +kernel
theorem dX6_take_15 : decode cX6_take 15 = .ok (.getfield 35, 3) := by decide +kernel
theorem dX6_take_18 : decode cX6_take 18 = .ok (.istore_n 3, 1) := by decide +kernel
theorem dX6_take_19 : decode cX6_take 19 = .ok (.aload_n 0, 1) := by decide +kernel
theorem dX6_take_20 : decode cX6_take 20 = .ok (.getfield 19, 3) := by decide +kernel
theorem dX6_take_23 : decode cX6_take 23 = .ok (.aload_n 0, 1) := by decide +kernel
theorem dX6_take_24 : decode cX6_take 24 = .ok (.getfield 19, 3) := by decide +kernel
theorem dX6_take_27 : decode cX6_take 27 = .ok (.aload_n 0, 1) := by decide +kernel
theorem dX6_take_28 : decode cX6_take 28 = .ok (.getfield 12, 3) := by decide +kernel
theorem dX6_take_31 : decode cX6_take 31 = .ok (.iload_n 1, 1) := by decide +kernel
theorem dX6_take_32 : decode cX6_take 32 = .ok (.iload_n 2, 1) := by decide +kernel
theorem dX6_take_33 : decode cX6_take 33 = .ok (.aload_n 0, 1) := by decide +kernel
theorem dX6_take_34 : decode cX6_take 34 = .ok (.getfield 25, 3) := by decide +kernel
theorem dX6_take_37 : decode cX6_take 37 = .ok (.iload_n 3, 1) := by decide +kernel
theorem dX6_take_38 : decode cX6_take 38 = .ok (.aaload, 1) := by decide +kernel
theorem dX6_take_39 : decode cX6_take 39 = .ok (.invokevirtual 108, 3) := by decide +kernel
theorem dX6_take_42 : decode cX6_take 42 = .ok (.invokevirtual 112, 3) := by decide +kernel
theorem dX6_take_45 : decode cX6_take 45 = .ok (.aload_n 0, 1) := by decide +kernel
theorem dX6_take_46 : decode cX6_take 46 = .ok (.iload_n 3, 1) := by decide +kernel
theorem dX6_take_47 : decode cX6_take 47 = .ok (.iconst 1, 1) := by decide +kernel
theorem dX6_take_48 : decode cX6_take 48 = .ok (.iadd, 1) := by decide +kernel
theorem dX6_take_49 : decode cX6_take 49 = .ok (.putfield 35, 3) := by decide +kernel
theorem dX6_take_52 : decode cX6_take 52 = .ok (.iload_n 3, 1) := by decide +kernel
theorem dX6_take_53 : decode cX6_take 53 = .ok (.ireturn, 1) := by decide +kernel
theorem dX6_edit_0 : decode cX6_edit 0 = .ok (.aload_n 0, 1) := by decide +kernel
theorem dX6_edit_1 : decode cX6_edit 1 = .ok (.iload_n 1, 1) := by decide +kernel
theorem dX6_edit_2 : decode cX6_edit 2 = .ok (.invokevirtual 127, 3) := by decide +kernel
theorem dX6_edit_5 : decode cX6_edit 5 = .ok (.iload_n 2, 1) := by decide +kernel
theorem dX6_edit_6 : decode cX6_edit 6 = .ok (.iconst 0, 1) := by decide +kernel
theorem dX6_edit_7 : decode cX6_edit 7 = .ok (.iconst 5, 1) := by decide +kernel
theorem dX6_edit_8 : decode cX6_edit 8 = .ok (.invokestatic 70, 3) := by decide +kernel
theorem dX6_edit_11 : decode cX6_edit 11 = .ok (.iload_n 3, 1) := by decide +kernel
end
section
theorem dX6_edit_12 : decode cX6_edit 12 = .ok (.iload_n 2, 1) := by decide +kernel
theorem dX6_edit_13 : decode cX6_edit 13 = .ok (.invokestatic 130, 3) := by decide +kernel
theorem dX6_edit_16 : decode cX6_edit 16 = .ok (.iload_n 2, 1) := by decide +kernel
theorem dX6_edit_17 : decode cX6_edit 17 = .ok (.invokestatic 133, 3) := by decide +kernel
theorem dX6_edit_20 : decode cX6_edit 20 = .ok (.invokestatic 70, 3) := by decide +kernel
theorem dX6_edit_23 : decode cX6_edit 23 = .ok (.aload_n 0, 1) := by decide +kernel
theorem dX6_edit_24 : decode cX6_edit 24 = .ok (.getfield 25, 3) := by decide +kernel
theorem dX6_edit_27 : decode cX6_edit 27 = .ok (.iload_n 1, 1) := by decide +kernel
theorem dX6_edit_28 : decode cX6_edit 28 = .ok (.aaload, 1) := by decide +kernel
theorem dX6_edit_29 : decode cX6_edit 29 = .ok (.getfield 136, 3) := by decide +kernel
theorem dX6_edit_32 : decode cX6_edit 32 = .ok (.astore 4, 2) := by decide +kernel
theorem dX6_edit_34 : decode cX6_edit 34 = .ok (.aload 4, 2) := by decide +kernel
theorem dX6_edit_36 : decode cX6_edit 36 = .ok (.invokevirtual 140, 3) := by decide +kernel
theorem dX6_edit_39 : decode cX6_edit 39 = .ok (.bipush 6, 2) := by decide +kernel
theorem dX6_edit_41 : decode cX6_edit 41 = .ok (.invokestatic 105, 3) := by decide +kernel
theorem dX6_edit_44 : decode cX6_edit 44 = .ok (.aload 4, 2) := by decide +kernel
theorem dX6_edit_46 : decode cX6_edit 46 = .ok (.iload_n 2, 1) := by decide +kernel
theorem dX6_edit_47 : decode cX6_edit 47 = .ok (.iload_n 3, 1) := by decide +kernel
theorem dX6_edit_48 : decode cX6_edit 48 = .ok (.invokevirtual 145, 3) := by decide +kernel
theorem dX6_edit_51 : decode cX6_edit 51 = .ok (.aload 4, 2) := by decide +kernel
theorem dX6_edit_53 : decode cX6_edit 53 = .ok (.invokevirtual 140, 3) := by decide +kernel
theorem dX6_edit_56 : decode cX6_edit 56 = .ok (.ireturn, 1) := by decide +kernel
theorem dX6_undo_0 : decode cX6_undo 0 = .ok (.aload_n 0, 1) := by decide +kernel
theorem dX6_undo_1 : decode cX6_undo 1 = .ok (.iload_n 1, 1) := by decide +kernel
theorem dX6_undo_2 : decode cX6_undo 2 = .ok (.invokevirtual 127, 3) := by decide +kernel
theorem dX6_undo_5 : decode cX6_undo 5 = .ok (.aload_n 0, 1) := by decide +kernel
theorem dX6_undo_6 : decode cX6_undo 6 = .ok (.getfield 25, 3) := by decide +kernel
theorem dX6_undo_9 : decode cX6_undo 9 = .ok (.iload_n 1, 1) := by decide +kernel
theorem dX6_undo_10 : decode cX6_undo 10 = .ok (.aaload, 1) := by decide +kernel
theorem dX6_undo_11 : decode cX6_undo 11 = .ok (.getfield 136, 3) := by decide +kernel
theorem dX6_undo_14 : decode cX6_undo 14 = .ok (.invokevirtual 148, 3) := by decide +kernel
theorem dX6_undo_17 : decode cX6_undo 17 = .ok (.ireturn, 1) := by decide +kernel
theorem dX6_save_0 : decode cX6_save 0 = .ok (.aload_n 0, 1) := by decide +kernel
theorem dX6_save_1 : decode cX6_save 1 = .ok (.iload_n 1, 1) := by decide +kernel
theorem dX6_save_2 : decode cX6_save 2 = .ok (.invokevirtual 127, 3) := by decide +kernel
theorem dX6_save_5 : decode cX6_save 5 = .ok (.aload_n 0, 1) := by decide +kernel
theorem dX6_save_6 : decode cX6_save 6 = .ok (.getfield 39, 3) := by decide +kernel
theorem dX6_save_9 : decode cX6_save 9 = .ok (.bipush 6, 2) := by decide +kernel
theorem dX6_save_11 : decode cX6_save 11 = .ok (.invokestatic 105, 3) := by decide +kernel
theorem dX6_save_14 : decode cX6_save 14 = .ok (.aload_n 0, 1) := by decide +kernel
theorem dX6_save_15 : decode cX6_save 15 = .ok (.getfield 39, 3) := by decide +kernel
theorem dX6_save_18 : decode cX6_save 18 = .ok (.istore_n 2, 1) := by decide +kernel
theorem dX6_save_19 : decode cX6_save 19 = .ok (.aload_n 0, 1) := by decide +kernel
theorem dX6_save_20 : decode cX6_save 20 = .ok (.getfield 31, 3) := by decide +kernel
theorem dX6_save_23 : decode cX6_save 23 = .ok (.iload_n 2, 1) := by decide +kernel
theorem dX6_save_24 : decode cX6_save 24 = .ok (.aaload, 1) := by decide +kernel
theorem dX6_save_25 : decode cX6_save 25 = .ok (.iload_n 1, 1) := by decide +kernel
theorem dX6_save_26 : decode cX6_save 26 = .ok (.aload_n 0, 1) := by decide +kernel
theorem dX6_save_27 : decode cX6_save 27 = .ok (.iload_n 1, 1) := by decide +kernel
theorem dX6_save_28 : decode cX6_save 28 = .ok (.invokevirtual 151, 3) := by decide +kernel
theorem dX6_save_31 : decode cX6_save 31 = .ok (.iconst 1, 1) := by decide +kernel
theorem dX6_save_32 : decode cX6_save 32 = .ok (.iadd, 1) := by decide +kernel
theorem dX6_save_33 : decode cX6_save 33 = .ok (.aload_n 0, 1) := by decide +kernel
theorem dX6_save_34 : decode cX6_save 34 = .ok (.getfield 25, 3) := by decide +kernel
theorem dX6_save_37 : decode cX6_save 37 = .ok (.iload_n 1, 1) := by decide +kernel
theorem dX6_save_38 : decode cX6_save 38 = .ok (.aaload, 1) := by decide +kernel
theorem dX6_save_39 : decode cX6_save 39 = .ok (.getfield 136, 3) := by decide +kernel
theorem dX6_save_42 : decode cX6_save 42 = .ok (.invokevirtual 154, 3) := by decide +kernel
theorem dX6_save_45 : decode cX6_save 45 = .ok (.aload_n 0, 1) := by decide +kernel
theorem dX6_save_46 : decode cX6_save 46 = .ok (.iload_n 2, 1) := by decide +kernel
theorem dX6_save_47 : decode cX6_save 47 = .ok (.iconst 1, 1) := by decide +kernel
theorem dX6_save_48 : decode cX6_save 48 = .ok (.iadd, 1) := by decide +kernel
theorem dX6_save_49 : decode cX6_save 49 = .ok (.putfield 39, 3) := by decide +kernel
theorem dX6_save_52 : decode cX6_save 52 = .ok (.iload_n 2, 1) := by decide +kernel
theorem dX6_save_53 : decode cX6_save 53 = .ok (.ireturn, 1) := by decide +kernel
theorem dX6_raw_0 : decode cX6_raw 0 = .ok (.aload_n 0, 1) := by decide +kernel
theorem dX6_raw_1 : decode cX6_raw 1 = .ok (.iload_n 1, 1) := by decide +kernel
theorem dX6_raw_2 : decode cX6_raw 2 = .ok (.invokevirtual 127, 3) := by decide +kernel
theorem dX6_raw_5 : decode cX6_raw 5 = .ok (.iload_n 2, 1) := by decide +kernel
theorem dX6_raw_6 : decode cX6_raw 6 = .ok (.iload_n 3, 1) := by decide +kernel
theorem dX6_raw_7 : decode cX6_raw 7 = .ok (.invokestatic 58, 3) := by decide +kernel
theorem dX6_raw_10 : decode cX6_raw 10 = .ok (.aload_n 0, 1) := by decide +kernel
theorem dX6_raw_11 : decode cX6_raw 11 = .ok (.getfield 25, 3) := by decide +kernel
theorem dX6_raw_14 : decode cX6_raw 14 = .ok (.iload_n 1, 1) := by decide +kernel
theorem dX6_raw_15 : decode cX6_raw 15 = .ok (.aaload, 1) := by decide +kernel
theorem dX6_raw_16 : decode cX6_raw 16 = .ok (.getfield 158, 3) := by decide +kernel
theorem dX6_raw_19 : decode cX6_raw 19 = .ok (.iload_n 2, 1) := by decide +kernel
theorem dX6_raw_20 : decode cX6_raw 20 = .ok (.iload_n 3, 1) := by decide +kernel
theorem dX6_raw_21 : decode cX6_raw 21 = .ok (.invokestatic 74, 3) := by decide +kernel
theorem dX6_raw_24 : decode cX6_raw 24 = .ok (.iaload, 1) := by decide +kernel
theorem dX6_raw_25 : decode cX6_raw 25 = .ok (.ireturn, 1) := by decide +kernel
theorem dX6_picture_0 : decode cX6_picture 0 = .ok (.aload_n 0, 1) := by decide +kernel
theorem dX6_picture_1 : decode cX6_picture 1 = .ok (.iload_n 1, 1) := by decide +kernel
theorem dX6_picture_2 : decode cX6_picture 2 = .ok (.invokevirtual 127, 3) := by decide +kernel
theorem dX6_picture_5 : decode cX6_picture 5 = .ok (.iload_n 2, 1) := by decide +kernel
theorem dX6_picture_6 : decode cX6_picture 6 = .ok (.iload_n 3, 1) := by decide +kernel
theorem dX6_picture_7 : decode cX6_picture 7 = .ok (.invokestatic 58, 3) := by decide +kernel
theorem dX6_picture_10 : decode cX6_picture 10 = .ok (.iload 4, 2) := by decide +kernel
theorem dX6_picture_12 : decode cX6_picture 12 = .ok (.iconst 0, 1) := by decide +kernel
theorem dX6_picture_13 : decode cX6_picture 13 = .ok (.iconst 2, 1) := by decide +kernel
theorem dX6_picture_14 : decode cX6_picture 14 = .ok (.invokestatic 70, 3) := by decide +kernel
theorem dX6_picture_17 : decode cX6_picture 17 = .ok (.aload_n 0, 1) := by decide +kernel
theorem dX6_picture_18 : decode cX6_picture 18 = .ok (.iload_n 1, 1) := by decide +kernel
theorem dX6_picture_19 : decode cX6_picture 19 = .ok (.aload_n 0, 1) := by decide +kernel
theorem dX6_picture_20 : decode cX6_picture 20 = .ok (.getfield 50, 3) := by decide +kernel
theorem dX6_picture_23 : decode cX6_picture 23 = .ok (.invokevirtual 162, 3) := by decide +kernel
theorem dX6_picture_26 : decode cX6_picture 26 = .ok (.aload_n 0, 1) := by decide +kernel
theorem dX6_picture_27 : decode cX6_picture 27 = .ok (.getfield 50, 3) := by decide +kernel
theorem dX6_picture_30 : decode cX6_picture 30 = .ok (.getfield 166, 3) := by decide +kernel
theorem dX6_picture_33 : decode cX6_picture 33 = .ok (.iload_n 2, 1) := by decide +kernel
theorem dX6_picture_34 : decode cX6_picture 34 = .ok (.iload_n 3, 1) := by decide +kernel
theorem dX6_picture_35 : decode cX6_picture 35 = .ok (.invokestatic 74, 3) := by decide +kernel
theorem dX6_picture_38 : decode cX6_picture 38 = .ok (.iload 4, 2) := by decide +kernel
theorem dX6_picture_40 : decode cX6_picture 40 = .ok (.invokestatic 170, 3) := by decide +kernel
theorem dX6_picture_43 : decode cX6_picture 43 = .ok (.faload, 1) := by decide +kernel
theorem dX6_picture_44 : decode cX6_picture 44 = .ok (.f2d, 1) := by decide +kernel
theorem dX6_picture_45 : decode cX6_picture 45 = .ok (.dreturn, 1) := by decide +kernel
theorem dX6_word_0 : decode cX6_word 0 = .ok (.aload_n 0, 1) := by decide +kernel
theorem dX6_word_1 : decode cX6_word 1 = .ok (.iload_n 1, 1) := by decide +kernel
theorem dX6_word_2 : decode cX6_word 2 = .ok (.invokevirtual 127, 3) := by decide +kernel
theorem dX6_word_5 : decode cX6_word 5 = .ok (.aload_n 0, 1) := by decide +kernel
theorem dX6_word_6 : decode cX6_word 6 = .ok (.iload_n 1, 1) := by decide +kernel
theorem dX6_word_7 : decode cX6_word 7 = .ok (.aload_n 0, 1) := by decide +kernel
theorem dX6_word_8 : decode cX6_word 8 = .ok (.getfield 25, 3) := by decide +kernel
theorem dX6_word_11 : decode cX6_word 11 = .ok (.iload_n 1, 1) := by decide +kernel
theorem dX6_word_12 : decode cX6_word 12 = .ok (.aaload, 1) := by decide +kernel
theorem dX6_word_13 : decode cX6_word 13 = .ok (.getfield 136, 3) := by decide +kernel
theorem dX6_word_16 : decode cX6_word 16 = .ok (.invokevirtual 173, 3) := by decide +kernel
theorem dX6_word_19 : decode cX6_word 19 = .ok (.ireturn, 1) := by decide +kernel
theorem dX6_ofFrame_0 : decode cX6_ofFrame 0 = .ok (.aload_n 0, 1) := by decide +kernel
theorem dX6_ofFrame_1 : decode cX6_ofFrame 1 = .ok (.iload_n 1, 1) := by decide +kernel
theorem dX6_ofFrame_2 : decode cX6_ofFrame 2 = .ok (.invokevirtual 127, 3) := by decide +kernel
theorem dX6_ofFrame_5 : decode cX6_ofFrame 5 = .ok (.iload_n 2, 1) := by decide +kernel
theorem dX6_ofFrame_6 : decode cX6_ofFrame 6 = .ok (.iconst 0, 1) := by decide +kernel
theorem dX6_ofFrame_7 : decode cX6_ofFrame 7 = .ok (.bipush 8, 2) := by decide +kernel
theorem dX6_ofFrame_9 : decode cX6_ofFrame 9 = .ok (.invokestatic 70, 3) := by decide +kernel
theorem dX6_ofFrame_12 : decode cX6_ofFrame 12 = .ok (.aload_n 0, 1) := by decide +kernel
theorem dX6_ofFrame_13 : decode cX6_ofFrame 13 = .ok (.getfield 25, 3) := by decide +kernel
theorem dX6_ofFrame_16 : decode cX6_ofFrame 16 = .ok (.iload_n 1, 1) := by decide +kernel
theorem dX6_ofFrame_17 : decode cX6_ofFrame 17 = .ok (.aaload, 1) := by decide +kernel
theorem dX6_ofFrame_18 : decode cX6_ofFrame 18 = .ok (.astore_n 3, 1) := by decide +kernel
theorem dX6_ofFrame_19 : decode cX6_ofFrame 19 = .ok (.iload_n 2, 1) := by decide +kernel
theorem dX6_ofFrame_20 : decode cX6_ofFrame 20 = .ok (.tableswitch 93 0 7 #[48, 53, 58, 66, 71, 76, 81, 87], 48) := by decide +kernel
theorem dX6_ofFrame_68 : decode cX6_ofFrame 68 = .ok (.aload_n 3, 1) := by decide +kernel
theorem dX6_ofFrame_69 : decode cX6_ofFrame 69 = .ok (.getfield 177, 3) := by decide +kernel
theorem dX6_ofFrame_72 : decode cX6_ofFrame 72 = .ok (.ireturn, 1) := by decide +kernel
theorem dX6_ofFrame_73 : decode cX6_ofFrame 73 = .ok (.aload_n 3, 1) := by decide +kernel
theorem dX6_ofFrame_74 : decode cX6_ofFrame 74 = .ok (.getfield 180, 3) := by decide +kernel
theorem dX6_ofFrame_77 : decode cX6_ofFrame 77 = .ok (.ireturn, 1) := by decide +kernel
theorem dX6_ofFrame_78 : decode cX6_ofFrame 78 = .ok (.aload_n 3, 1) := by decide +kernel
theorem dX6_ofFrame_79 : decode cX6_ofFrame 79 = .ok (.getfield 136, 3) := by decide +kernel
theorem dX6_ofFrame_82 : decode cX6_ofFrame 82 = .ok (.invokevirtual 140, 3) := by decide +kernel
theorem dX6_ofFrame_85 : decode cX6_ofFrame 85 = .ok (.ireturn, 1) := by decide +kernel
theorem dX6_ofFrame_86 : decode cX6_ofFrame 86 = .ok (.aload_n 3, 1) := by decide +kernel
theorem dX6_ofFrame_87 : decode cX6_ofFrame 87 = .ok (.invokevirtual 183, 3) := by decide +kernel
theorem dX6_ofFrame_90 : decode cX6_ofFrame 90 = .ok (.ireturn, 1) := by decide +kernel
theorem dX6_ofFrame_91 : decode cX6_ofFrame 91 = .ok (.aload_n 3, 1) := by decide +kernel
theorem dX6_ofFrame_92 : decode cX6_ofFrame 92 = .ok (.getfield 186, 3) := by decide +kernel
theorem dX6_ofFrame_95 : decode cX6_ofFrame 95 = .ok (.ireturn, 1) := by decide +kernel
theorem dX6_ofFrame_96 : decode cX6_ofFrame 96 = .ok (.aload_n 3, 1) := by decide +kernel
theorem dX6_ofFrame_97 : decode cX6_ofFrame 97 = .ok (.invokevirtual 189, 3) := by decide +kernel
theorem dX6_ofFrame_100 : decode cX6_ofFrame 100 = .ok (.ireturn, 1) := by decide +kernel
theorem dX6_ofFrame_101 : decode cX6_ofFrame 101 = .ok (.aload_n 3, 1) := by decide +kernel
theorem dX6_ofFrame_102 : decode cX6_ofFrame 102 = .ok (.iconst 0, 1) := by decide +kernel
theorem dX6_ofFrame_103 : decode cX6_ofFrame 103 = .ok (.invokevirtual 192, 3) := by decide +kernel
theorem dX6_ofFrame_106 : decode cX6_ofFrame 106 = .ok (.ireturn, 1) := by decide +kernel
theorem dX6_ofFrame_107 : decode cX6_ofFrame 107 = .ok (.aload_n 3, 1) := by decide +kernel
theorem dX6_ofFrame_108 : decode cX6_ofFrame 108 = .ok (.iconst 2, 1) := by decide +kernel
theorem dX6_ofFrame_109 : decode cX6_ofFrame 109 = .ok (.invokevirtual 192, 3) := by decide +kernel
theorem dX6_ofFrame_112 : decode cX6_ofFrame 112 = .ok (.ireturn, 1) := by decide +kernel
theorem dX6_ofFrame_113 : decode cX6_ofFrame 113 = .ok (.aload_n 0, 1) := by decide +kernel
theorem dX6_ofFrame_114 : decode cX6_ofFrame 114 = .ok (.iload_n 1, 1) := by decide +kernel
theorem dX6_ofFrame_115 : decode cX6_ofFrame 115 = .ok (.invokevirtual 151, 3) := by decide +kernel
theorem dX6_ofFrame_118 : decode cX6_ofFrame 118 = .ok (.ireturn, 1) := by decide +kernel
theorem dX6_ofEdit_0 : decode cX6_ofEdit 0 = .ok (.aload_n 0, 1) := by decide +kernel
theorem dX6_ofEdit_1 : decode cX6_ofEdit 1 = .ok (.iload_n 1, 1) := by decide +kernel
theorem dX6_ofEdit_2 : decode cX6_ofEdit 2 = .ok (.invokevirtual 127, 3) := by decide +kernel
theorem dX6_ofEdit_5 : decode cX6_ofEdit 5 = .ok (.aload_n 0, 1) := by decide +kernel
theorem dX6_ofEdit_6 : decode cX6_ofEdit 6 = .ok (.getfield 25, 3) := by decide +kernel
theorem dX6_ofEdit_9 : decode cX6_ofEdit 9 = .ok (.iload_n 1, 1) := by decide +kernel
theorem dX6_ofEdit_10 : decode cX6_ofEdit 10 = .ok (.aaload, 1) := by decide +kernel
theorem dX6_ofEdit_11 : decode cX6_ofEdit 11 = .ok (.getfield 136, 3) := by decide +kernel
theorem dX6_ofEdit_14 : decode cX6_ofEdit 14 = .ok (.astore 4, 2) := by decide +kernel
theorem dX6_ofEdit_16 : decode cX6_ofEdit 16 = .ok (.iload_n 2, 1) := by decide +kernel
theorem dX6_ofEdit_17 : decode cX6_ofEdit 17 = .ok (.aload 4, 2) := by decide +kernel
theorem dX6_ofEdit_19 : decode cX6_ofEdit 19 = .ok (.invokevirtual 140, 3) := by decide +kernel
theorem dX6_ofEdit_22 : decode cX6_ofEdit 22 = .ok (.invokestatic 195, 3) := by decide +kernel
theorem dX6_ofEdit_25 : decode cX6_ofEdit 25 = .ok (.iload_n 3, 1) := by decide +kernel
theorem dX6_ofEdit_26 : decode cX6_ofEdit 26 = .ok (.iconst 0, 1) := by decide +kernel
theorem dX6_ofEdit_27 : decode cX6_ofEdit 27 = .ok (.iconst 1, 1) := by decide +kernel
theorem dX6_ofEdit_28 : decode cX6_ofEdit 28 = .ok (.invokestatic 70, 3) := by decide +kernel
theorem dX6_ofEdit_31 : decode cX6_ofEdit 31 = .ok (.iload_n 3, 1) := by decide +kernel
theorem dX6_ofEdit_32 : decode cX6_ofEdit 32 = .ok (.ifCond .ne 13, 3) := by decide +kernel
theorem dX6_ofEdit_35 : decode cX6_ofEdit 35 = .ok (.aload 4, 2) := by decide +kernel
theorem dX6_ofEdit_37 : decode cX6_ofEdit 37 = .ok (.getfield 198, 3) := by decide +kernel
theorem dX6_ofEdit_40 : decode cX6_ofEdit 40 = .ok (.iload_n 2, 1) := by decide +kernel
theorem dX6_ofEdit_41 : decode cX6_ofEdit 41 = .ok (.iaload, 1) := by decide +kernel
theorem dX6_ofEdit_42 : decode cX6_ofEdit 42 = .ok (.goto 10, 3) := by decide +kernel
theorem dX6_ofEdit_45 : decode cX6_ofEdit 45 = .ok (.aload 4, 2) := by decide +kernel
theorem dX6_ofEdit_47 : decode cX6_ofEdit 47 = .ok (.getfield 201, 3) := by decide +kernel
theorem dX6_ofEdit_50 : decode cX6_ofEdit 50 = .ok (.iload_n 2, 1) := by decide +kernel
theorem dX6_ofEdit_51 : decode cX6_ofEdit 51 = .ok (.iaload, 1) := by decide +kernel
theorem dX6_ofEdit_52 : decode cX6_ofEdit 52 = .ok (.ireturn, 1) := by decide +kernel
theorem dX6_zone_0 : decode cX6_zone 0 = .ok (.aload_n 0, 1) := by decide +kernel
theorem dX6_zone_1 : decode cX6_zone 1 = .ok (.iload_n 1, 1) := by decide +kernel
theorem dX6_zone_2 : decode cX6_zone 2 = .ok (.invokevirtual 127, 3) := by decide +kernel
theorem dX6_zone_5 : decode cX6_zone 5 = .ok (.iload_n 2, 1) := by decide +kernel
theorem dX6_zone_6 : decode cX6_zone 6 = .ok (.iconst 4, 1) := by decide +kernel
theorem dX6_zone_7 : decode cX6_zone 7 = .ok (.invokestatic 195, 3) := by decide +kernel
theorem dX6_zone_10 : decode cX6_zone 10 = .ok (.aload_n 0, 1) := by decide +kernel
theorem dX6_zone_11 : decode cX6_zone 11 = .ok (.getfield 25, 3) := by decide +kernel
theorem dX6_zone_14 : decode cX6_zone 14 = .ok (.iload_n 1, 1) := by decide +kernel
theorem dX6_zone_15 : decode cX6_zone 15 = .ok (.aaload, 1) := by decide +kernel
theorem dX6_zone_16 : decode cX6_zone 16 = .ok (.iload_n 2, 1) := by decide +kernel
theorem dX6_zone_17 : decode cX6_zone 17 = .ok (.invokevirtual 203, 3) := by decide +kernel
theorem dX6_zone_20 : decode cX6_zone 20 = .ok (.dreturn, 1) := by decide +kernel
theorem dX6_meter_0 : decode cX6_meter 0 = .ok (.aload_n 0, 1) := by decide +kernel
theorem dX6_meter_1 : decode cX6_meter 1 = .ok (.iload_n 1, 1) := by decide +kernel
theorem dX6_meter_2 : decode cX6_meter 2 = .ok (.invokevirtual 127, 3) := by decide +kernel
theorem dX6_meter_5 : decode cX6_meter 5 = .ok (.aload_n 0, 1) := by decide +kernel
theorem dX6_meter_6 : decode cX6_meter 6 = .ok (.getfield 25, 3) := by decide +kernel
theorem dX6_meter_9 : decode cX6_meter 9 = .ok (.iload_n 1, 1) := by decide +kernel
theorem dX6_meter_10 : decode cX6_meter 10 = .ok (.aaload, 1) := by decide +kernel
theorem dX6_meter_11 : decode cX6_meter 11 = .ok (.invokevirtual 207, 3) := by decide +kernel
theorem dX6_meter_14 : decode cX6_meter 14 = .ok (.dreturn, 1) := by decide +kernel
theorem dX6_ofFile_0 : decode cX6_ofFile 0 = .ok (.iload_n 1, 1) := by decide +kernel
theorem dX6_ofFile_1 : decode cX6_ofFile 1 = .ok (.aload_n 0, 1) := by decide +kernel
theorem dX6_ofFile_2 : decode cX6_ofFile 2 = .ok (.getfield 39, 3) := by decide +kernel
theorem dX6_ofFile_5 : decode cX6_ofFile 5 = .ok (.invokestatic 195, 3) := by decide +kernel
theorem dX6_ofFile_8 : decode cX6_ofFile 8 = .ok (.iload_n 2, 1) := by decide +kernel
theorem dX6_ofFile_9 : decode cX6_ofFile 9 = .ok (.iconst 0, 1) := by decide +kernel
theorem dX6_ofFile_10 : decode cX6_ofFile 10 = .ok (.iconst 3, 1) := by decide +kernel
theorem dX6_ofFile_11 : decode cX6_ofFile 11 = .ok (.invokestatic 70, 3) := by decide +kernel
theorem dX6_ofFile_14 : decode cX6_ofFile 14 = .ok (.aload_n 0, 1) := by decide +kernel
theorem dX6_ofFile_15 : decode cX6_ofFile 15 = .ok (.getfield 31, 3) := by decide +kernel
theorem dX6_ofFile_18 : decode cX6_ofFile 18 = .ok (.iload_n 1, 1) := by decide +kernel
theorem dX6_ofFile_19 : decode cX6_ofFile 19 = .ok (.aaload, 1) := by decide +kernel
theorem dX6_ofFile_20 : decode cX6_ofFile 20 = .ok (.astore_n 3, 1) := by decide +kernel
theorem dX6_ofFile_21 : decode cX6_ofFile 21 = .ok (.iload_n 2, 1) := by decide +kernel
theorem dX6_ofFile_22 : decode cX6_ofFile 22 = .ok (.tableswitch 44 0 2 #[26, 31, 36], 26) := by decide +kernel
theorem dX6_ofFile_48 : decode cX6_ofFile 48 = .ok (.aload_n 3, 1) := by decide +kernel
theorem dX6_ofFile_49 : decode cX6_ofFile 49 = .ok (.getfield 211, 3) := by decide +kernel
theorem dX6_ofFile_52 : decode cX6_ofFile 52 = .ok (.ireturn, 1) := by decide +kernel
theorem dX6_ofFile_53 : decode cX6_ofFile 53 = .ok (.aload_n 3, 1) := by decide +kernel
theorem dX6_ofFile_54 : decode cX6_ofFile 54 = .ok (.getfield 214, 3) := by decide +kernel
theorem dX6_ofFile_57 : decode cX6_ofFile 57 = .ok (.ireturn, 1) := by decide +kernel
theorem dX6_ofFile_58 : decode cX6_ofFile 58 = .ok (.aload_n 3, 1) := by decide +kernel
theorem dX6_ofFile_59 : decode cX6_ofFile 59 = .ok (.getfield 217, 3) := by decide +kernel
theorem dX6_ofFile_62 : decode cX6_ofFile 62 = .ok (.invokevirtual 140, 3) := by decide +kernel
theorem dX6_ofFile_65 : decode cX6_ofFile 65 = .ok (.ireturn, 1) := by decide +kernel
theorem dX6_ofFile_66 : decode cX6_ofFile 66 = .ok (.aload_n 0, 1) := by decide +kernel
theorem dX6_ofFile_67 : decode cX6_ofFile 67 = .ok (.aload_n 3, 1) := by decide +kernel
theorem dX6_ofFile_68 : decode cX6_ofFile 68 = .ok (.getfield 211, 3) := by decide +kernel
theorem dX6_ofFile_71 : decode cX6_ofFile 71 = .ok (.aload_n 3, 1) := by decide +kernel
theorem dX6_ofFile_72 : decode cX6_ofFile 72 = .ok (.getfield 217, 3) := by decide +kernel
theorem dX6_ofFile_75 : decode cX6_ofFile 75 = .ok (.invokevirtual 173, 3) := by decide +kernel
theorem dX6_ofFile_78 : decode cX6_ofFile 78 = .ok (.ireturn, 1) := by decide +kernel
theorem dX6_ofPlace_0 : decode cX6_ofPlace 0 = .ok (.iload_n 1, 1) := by decide +kernel
theorem dX6_ofPlace_1 : decode cX6_ofPlace 1 = .ok (.iload_n 2, 1) := by decide +kernel
theorem dX6_ofPlace_2 : decode cX6_ofPlace 2 = .ok (.invokestatic 58, 3) := by decide +kernel
theorem dX6_ofPlace_5 : decode cX6_ofPlace 5 = .ok (.iload_n 3, 1) := by decide +kernel
theorem dX6_ofPlace_6 : decode cX6_ofPlace 6 = .ok (.iconst 0, 1) := by decide +kernel
theorem dX6_ofPlace_7 : decode cX6_ofPlace 7 = .ok (.iconst 5, 1) := by decide +kernel
theorem dX6_ofPlace_8 : decode cX6_ofPlace 8 = .ok (.invokestatic 70, 3) := by decide +kernel
theorem dX6_ofPlace_11 : decode cX6_ofPlace 11 = .ok (.iload_n 1, 1) := by decide +kernel
theorem dX6_ofPlace_12 : decode cX6_ofPlace 12 = .ok (.iload_n 2, 1) := by decide +kernel
theorem dX6_ofPlace_13 : decode cX6_ofPlace 13 = .ok (.invokestatic 74, 3) := by decide +kernel
theorem dX6_ofPlace_16 : decode cX6_ofPlace 16 = .ok (.istore 4, 2) := by decide +kernel
theorem dX6_ofPlace_18 : decode cX6_ofPlace 18 = .ok (.iload_n 3, 1) := by decide +kernel
theorem dX6_ofPlace_19 : decode cX6_ofPlace 19 = .ok (.tableswitch 60 0 4 #[33, 33, 33, 44, 50], 33) := by decide +kernel
theorem dX6_ofPlace_52 : decode cX6_ofPlace 52 = .ok (.aload_n 0, 1) := by decide +kernel
theorem dX6_ofPlace_53 : decode cX6_ofPlace 53 = .ok (.getfield 12, 3) := by decide +kernel
theorem dX6_ofPlace_56 : decode cX6_ofPlace 56 = .ok (.iload 4, 2) := by decide +kernel
theorem dX6_ofPlace_58 : decode cX6_ofPlace 58 = .ok (.iload_n 3, 1) := by decide +kernel
theorem dX6_ofPlace_59 : decode cX6_ofPlace 59 = .ok (.invokevirtual 218, 3) := by decide +kernel
theorem dX6_ofPlace_62 : decode cX6_ofPlace 62 = .ok (.ireturn, 1) := by decide +kernel
theorem dX6_ofPlace_63 : decode cX6_ofPlace 63 = .ok (.iload_n 1, 1) := by decide +kernel
theorem dX6_ofPlace_64 : decode cX6_ofPlace 64 = .ok (.iload_n 2, 1) := by decide +kernel
theorem dX6_ofPlace_65 : decode cX6_ofPlace 65 = .ok (.invokestatic 221, 3) := by decide +kernel
theorem dX6_ofPlace_68 : decode cX6_ofPlace 68 = .ok (.ireturn, 1) := by decide +kernel
theorem dX6_ofPlace_69 : decode cX6_ofPlace 69 = .ok (.aload_n 0, 1) := by decide +kernel
theorem dX6_ofPlace_70 : decode cX6_ofPlace 70 = .ok (.getfield 19, 3) := by decide +kernel
theorem dX6_ofPlace_73 : decode cX6_ofPlace 73 = .ok (.iload 4, 2) := by decide +kernel
theorem dX6_ofPlace_75 : decode cX6_ofPlace 75 = .ok (.invokevirtual 88, 3) := by decide +kernel
theorem dX6_ofPlace_78 : decode cX6_ofPlace 78 = .ok (.ireturn, 1) := by decide +kernel
theorem dX6_ofPlace_79 : decode cX6_ofPlace 79 = .ok (.aload_n 0, 1) := by decide +kernel
theorem dX6_ofPlace_80 : decode cX6_ofPlace 80 = .ok (.getfield 19, 3) := by decide +kernel
theorem dX6_ofPlace_83 : decode cX6_ofPlace 83 = .ok (.iload 4, 2) := by decide +kernel
theorem dX6_ofPlace_85 : decode cX6_ofPlace 85 = .ok (.invokevirtual 224, 3) := by decide +kernel
theorem dX6_ofPlace_88 : decode cX6_ofPlace 88 = .ok (.ifCond .eq 7, 3) := by decide +kernel
theorem dX6_ofPlace_91 : decode cX6_ofPlace 91 = .ok (.iconst 1, 1) := by decide +kernel
theorem dX6_ofPlace_92 : decode cX6_ofPlace 92 = .ok (.goto 4, 3) := by decide +kernel
theorem dX6_ofPlace_95 : decode cX6_ofPlace 95 = .ok (.iconst 0, 1) := by decide +kernel
theorem dX6_ofPlace_96 : decode cX6_ofPlace 96 = .ok (.ireturn, 1) := by decide +kernel
theorem dX6_many_0 : decode cX6_many 0 = .ok (.iload_n 1, 1) := by decide +kernel
theorem dX6_many_1 : decode cX6_many 1 = .ok (.iconst 0, 1) := by decide +kernel
theorem dX6_many_2 : decode cX6_many 2 = .ok (.bipush 6, 2) := by decide +kernel
theorem dX6_many_4 : decode cX6_many 4 = .ok (.invokestatic 70, 3) := by decide +kernel
theorem dX6_many_7 : decode cX6_many 7 = .ok (.iload_n 1, 1) := by decide +kernel
theorem dX6_many_8 : decode cX6_many 8 = .ok (.tableswitch 80 0 5 #[40, 45, 50, 58, 66, 71], 40) := by decide +kernel
theorem dX6_many_48 : decode cX6_many 48 = .ok (.aload_n 0, 1) := by decide +kernel
theorem dX6_many_49 : decode cX6_many 49 = .ok (.getfield 35, 3) := by decide +kernel
theorem dX6_many_52 : decode cX6_many 52 = .ok (.ireturn, 1) := by decide +kernel
theorem dX6_many_53 : decode cX6_many 53 = .ok (.aload_n 0, 1) := by decide +kernel
theorem dX6_many_54 : decode cX6_many 54 = .ok (.getfield 39, 3) := by decide +kernel
theorem dX6_many_57 : decode cX6_many 57 = .ok (.ireturn, 1) := by decide +kernel
theorem dX6_many_58 : decode cX6_many 58 = .ok (.aload_n 0, 1) := by decide +kernel
theorem dX6_many_59 : decode cX6_many 59 = .ok (.getfield 19, 3) := by decide +kernel
theorem dX6_many_62 : decode cX6_many 62 = .ok (.invokevirtual 99, 3) := by decide +kernel
theorem dX6_many_65 : decode cX6_many 65 = .ok (.ireturn, 1) := by decide +kernel
theorem dX6_many_66 : decode cX6_many 66 = .ok (.aload_n 0, 1) := by decide +kernel
theorem dX6_many_67 : decode cX6_many 67 = .ok (.getfield 19, 3) := by decide +kernel
theorem dX6_many_70 : decode cX6_many 70 = .ok (.getfield 228, 3) := by decide +kernel
theorem dX6_many_73 : decode cX6_many 73 = .ok (.ireturn, 1) := by decide +kernel
theorem dX6_many_74 : decode cX6_many 74 = .ok (.aload_n 0, 1) := by decide +kernel
theorem dX6_many_75 : decode cX6_many 75 = .ok (.invokevirtual 231, 3) := by decide +kernel
theorem dX6_many_78 : decode cX6_many 78 = .ok (.ireturn, 1) := by decide +kernel
theorem dX6_many_79 : decode cX6_many 79 = .ok (.aload_n 0, 1) := by decide +kernel
theorem dX6_many_80 : decode cX6_many 80 = .ok (.getfield 19, 3) := by decide +kernel
theorem dX6_many_83 : decode cX6_many 83 = .ok (.iconst 1, 1) := by decide +kernel
theorem dX6_many_84 : decode cX6_many 84 = .ok (.invokevirtual 234, 3) := by decide +kernel
theorem dX6_many_87 : decode cX6_many 87 = .ok (.ireturn, 1) := by decide +kernel
theorem dX6_many_88 : decode cX6_many 88 = .ok (.aload_n 0, 1) := by decide +kernel
theorem dX6_many_89 : decode cX6_many 89 = .ok (.getfield 19, 3) := by decide +kernel
theorem dX6_many_92 : decode cX6_many 92 = .ok (.iconst 0, 1) := by decide +kernel
theorem dX6_many_93 : decode cX6_many 93 = .ok (.invokevirtual 234, 3) := by decide +kernel
theorem dX6_many_96 : decode cX6_many 96 = .ok (.ireturn, 1) := by decide +kernel
theorem dX6_apart_0 : decode cX6_apart 0 = .ok (.aload_n 0, 1) := by decide +kernel
theorem dX6_apart_1 : decode cX6_apart 1 = .ok (.iload_n 1, 1) := by decide +kernel
theorem dX6_apart_2 : decode cX6_apart 2 = .ok (.invokevirtual 127, 3) := by decide +kernel
theorem dX6_apart_5 : decode cX6_apart 5 = .ok (.aload_n 0, 1) := by decide +kernel
theorem dX6_apart_6 : decode cX6_apart 6 = .ok (.iload_n 2, 1) := by decide +kernel
theorem dX6_apart_7 : decode cX6_apart 7 = .ok (.invokevirtual 127, 3) := by decide +kernel
theorem dX6_apart_10 : decode cX6_apart 10 = .ok (.aload_n 0, 1) := by decide +kernel
theorem dX6_apart_11 : decode cX6_apart 11 = .ok (.iload_n 1, 1) := by decide +kernel
theorem dX6_apart_12 : decode cX6_apart 12 = .ok (.aload_n 0, 1) := by decide +kernel
theorem dX6_apart_13 : decode cX6_apart 13 = .ok (.getfield 50, 3) := by decide +kernel
theorem dX6_apart_16 : decode cX6_apart 16 = .ok (.invokevirtual 162, 3) := by decide +kernel
theorem dX6_apart_19 : decode cX6_apart 19 = .ok (.aload_n 0, 1) := by decide +kernel
theorem dX6_apart_20 : decode cX6_apart 20 = .ok (.iload_n 2, 1) := by decide +kernel
theorem dX6_apart_21 : decode cX6_apart 21 = .ok (.aload_n 0, 1) := by decide +kernel
theorem dX6_apart_22 : decode cX6_apart 22 = .ok (.getfield 54, 3) := by decide +kernel
theorem dX6_apart_25 : decode cX6_apart 25 = .ok (.invokevirtual 162, 3) := by decide +kernel
theorem dX6_apart_28 : decode cX6_apart 28 = .ok (.aload_n 0, 1) := by decide +kernel
theorem dX6_apart_29 : decode cX6_apart 29 = .ok (.getfield 50, 3) := by decide +kernel
theorem dX6_apart_32 : decode cX6_apart 32 = .ok (.aload_n 0, 1) := by decide +kernel
theorem dX6_apart_33 : decode cX6_apart 33 = .ok (.getfield 54, 3) := by decide +kernel
theorem dX6_apart_36 : decode cX6_apart 36 = .ok (.invokevirtual 238, 3) := by decide +kernel
theorem dX6_apart_39 : decode cX6_apart 39 = .ok (.f2d, 1) := by decide +kernel
theorem dX6_apart_40 : decode cX6_apart 40 = .ok (.dreturn, 1) := by decide +kernel
theorem dX6_wouldClip_0 : decode cX6_wouldClip 0 = .ok (.iload_n 1, 1) := by decide +kernel
theorem dX6_wouldClip_1 : decode cX6_wouldClip 1 = .ok (.iload_n 2, 1) := by decide +kernel
theorem dX6_wouldClip_2 : decode cX6_wouldClip 2 = .ok (.invokestatic 102, 3) := by decide +kernel
theorem dX6_wouldClip_5 : decode cX6_wouldClip 5 = .ok (.aload_n 0, 1) := by decide +kernel
theorem dX6_wouldClip_6 : decode cX6_wouldClip 6 = .ok (.getfield 19, 3) := by decide +kernel
theorem dX6_wouldClip_9 : decode cX6_wouldClip 9 = .ok (.aload_n 0, 1) := by decide +kernel
theorem dX6_wouldClip_10 : decode cX6_wouldClip 10 = .ok (.getfield 12, 3) := by decide +kernel
theorem dX6_wouldClip_13 : decode cX6_wouldClip 13 = .ok (.iload_n 1, 1) := by decide +kernel
theorem dX6_wouldClip_14 : decode cX6_wouldClip 14 = .ok (.iload_n 2, 1) := by decide +kernel
theorem dX6_wouldClip_15 : decode cX6_wouldClip 15 = .ok (.aload_n 0, 1) := by decide +kernel
theorem dX6_wouldClip_16 : decode cX6_wouldClip 16 = .ok (.getfield 43, 3) := by decide +kernel
theorem dX6_wouldClip_19 : decode cX6_wouldClip 19 = .ok (.invokevirtual 108, 3) := by decide +kernel
theorem dX6_wouldClip_22 : decode cX6_wouldClip 22 = .ok (.pop, 1) := by decide +kernel
theorem dX6_wouldClip_23 : decode cX6_wouldClip 23 = .ok (.aload_n 0, 1) := by decide +kernel
theorem dX6_wouldClip_24 : decode cX6_wouldClip 24 = .ok (.getfield 43, 3) := by decide +kernel
theorem dX6_wouldClip_27 : decode cX6_wouldClip 27 = .ok (.invokevirtual 183, 3) := by decide +kernel
theorem dX6_wouldClip_30 : decode cX6_wouldClip 30 = .ok (.ireturn, 1) := by decide +kernel
theorem dX6_bestTake_0 : decode cX6_bestTake 0 = .ok (.iload_n 1, 1) := by decide +kernel
theorem dX6_bestTake_1 : decode cX6_bestTake 1 = .ok (.iconst 0, 1) := by decide +kernel
theorem dX6_bestTake_2 : decode cX6_bestTake 2 = .ok (.sipush 255, 3) := by decide +kernel
theorem dX6_bestTake_5 : decode cX6_bestTake 5 = .ok (.invokestatic 70, 3) := by decide +kernel
theorem dX6_bestTake_8 : decode cX6_bestTake 8 = .ok (.iconst (-1), 1) := by decide +kernel
theorem dX6_bestTake_9 : decode cX6_bestTake 9 = .ok (.istore_n 2, 1) := by decide +kernel
theorem dX6_bestTake_10 : decode cX6_bestTake 10 = .ok (.dconst 0, 1) := by decide +kernel
theorem dX6_bestTake_11 : decode cX6_bestTake 11 = .ok (.dstore_n 3, 1) := by decide +kernel
theorem dX6_bestTake_12 : decode cX6_bestTake 12 = .ok (.iconst 1, 1) := by decide +kernel
theorem dX6_bestTake_13 : decode cX6_bestTake 13 = .ok (.istore 5, 2) := by decide +kernel
theorem dX6_bestTake_15 : decode cX6_bestTake 15 = .ok (.iload 5, 2) := by decide +kernel
theorem dX6_bestTake_17 : decode cX6_bestTake 17 = .ok (.bipush 8, 2) := by decide +kernel
theorem dX6_bestTake_19 : decode cX6_bestTake 19 = .ok (.if_icmp .gt 101, 3) := by decide +kernel
theorem dX6_bestTake_22 : decode cX6_bestTake 22 = .ok (.iconst 1, 1) := by decide +kernel
theorem dX6_bestTake_23 : decode cX6_bestTake 23 = .ok (.istore 6, 2) := by decide +kernel
theorem dX6_bestTake_25 : decode cX6_bestTake 25 = .ok (.iload 6, 2) := by decide +kernel
theorem dX6_bestTake_27 : decode cX6_bestTake 27 = .ok (.bipush 64, 2) := by decide +kernel
theorem dX6_bestTake_29 : decode cX6_bestTake 29 = .ok (.if_icmp .gt 85, 3) := by decide +kernel
theorem dX6_bestTake_32 : decode cX6_bestTake 32 = .ok (.aload_n 0, 1) := by decide +kernel
theorem dX6_bestTake_33 : decode cX6_bestTake 33 = .ok (.getfield 19, 3) := by decide +kernel
theorem dX6_bestTake_36 : decode cX6_bestTake 36 = .ok (.aload_n 0, 1) := by decide +kernel
theorem dX6_bestTake_37 : decode cX6_bestTake 37 = .ok (.getfield 12, 3) := by decide +kernel
theorem dX6_bestTake_40 : decode cX6_bestTake 40 = .ok (.iload 6, 2) := by decide +kernel
theorem dX6_bestTake_42 : decode cX6_bestTake 42 = .ok (.iload 5, 2) := by decide +kernel
theorem dX6_bestTake_44 : decode cX6_bestTake 44 = .ok (.aload_n 0, 1) := by decide +kernel
theorem dX6_bestTake_45 : decode cX6_bestTake 45 = .ok (.getfield 43, 3) := by decide +kernel
theorem dX6_bestTake_48 : decode cX6_bestTake 48 = .ok (.invokevirtual 108, 3) := by decide +kernel
theorem dX6_bestTake_51 : decode cX6_bestTake 51 = .ok (.pop, 1) := by decide +kernel
theorem dX6_bestTake_52 : decode cX6_bestTake 52 = .ok (.aload_n 0, 1) := by decide +kernel
theorem dX6_bestTake_53 : decode cX6_bestTake 53 = .ok (.getfield 43, 3) := by decide +kernel
theorem dX6_bestTake_56 : decode cX6_bestTake 56 = .ok (.invokevirtual 207, 3) := by decide +kernel
theorem dX6_bestTake_59 : decode cX6_bestTake 59 = .ok (.iload_n 1, 1) := by decide +kernel
theorem dX6_bestTake_60 : decode cX6_bestTake 60 = .ok (.i2d, 1) := by decide +kernel
theorem dX6_bestTake_61 : decode cX6_bestTake 61 = .ok (.dsub, 1) := by decide +kernel
theorem dX6_bestTake_62 : decode cX6_bestTake 62 = .ok (.dstore 7, 2) := by decide +kernel
theorem dX6_bestTake_64 : decode cX6_bestTake 64 = .ok (.dload 7, 2) := by decide +kernel
theorem dX6_bestTake_66 : decode cX6_bestTake 66 = .ok (.dconst 0, 1) := by decide +kernel
theorem dX6_bestTake_67 : decode cX6_bestTake 67 = .ok (.dcmp .g, 1) := by decide +kernel
theorem dX6_bestTake_68 : decode cX6_bestTake 68 = .ok (.ifCond .ge 9, 3) := by decide +kernel
theorem dX6_bestTake_71 : decode cX6_bestTake 71 = .ok (.dload 7, 2) := by decide +kernel
theorem dX6_bestTake_73 : decode cX6_bestTake 73 = .ok (.dneg, 1) := by decide +kernel
theorem dX6_bestTake_74 : decode cX6_bestTake 74 = .ok (.goto 5, 3) := by decide +kernel
theorem dX6_bestTake_77 : decode cX6_bestTake 77 = .ok (.dload 7, 2) := by decide +kernel
theorem dX6_bestTake_79 : decode cX6_bestTake 79 = .ok (.dstore 7, 2) := by decide +kernel
theorem dX6_bestTake_81 : decode cX6_bestTake 81 = .ok (.iload_n 2, 1) := by decide +kernel
theorem dX6_bestTake_82 : decode cX6_bestTake 82 = .ok (.iconst (-1), 1) := by decide +kernel
theorem dX6_bestTake_83 : decode cX6_bestTake 83 = .ok (.if_icmp .eq 10, 3) := by decide +kernel
theorem dX6_bestTake_86 : decode cX6_bestTake 86 = .ok (.dload 7, 2) := by decide +kernel
theorem dX6_bestTake_88 : decode cX6_bestTake 88 = .ok (.dload_n 3, 1) := by decide +kernel
theorem dX6_bestTake_89 : decode cX6_bestTake 89 = .ok (.dcmp .g, 1) := by decide +kernel
theorem dX6_bestTake_90 : decode cX6_bestTake 90 = .ok (.ifCond .ge 15, 3) := by decide +kernel
theorem dX6_bestTake_93 : decode cX6_bestTake 93 = .ok (.bipush 16, 2) := by decide +kernel
theorem dX6_bestTake_95 : decode cX6_bestTake 95 = .ok (.iload 6, 2) := by decide +kernel
theorem dX6_bestTake_97 : decode cX6_bestTake 97 = .ok (.imul, 1) := by decide +kernel
theorem dX6_bestTake_98 : decode cX6_bestTake 98 = .ok (.iload 5, 2) := by decide +kernel
theorem dX6_bestTake_100 : decode cX6_bestTake 100 = .ok (.iadd, 1) := by decide +kernel
theorem dX6_bestTake_101 : decode cX6_bestTake 101 = .ok (.istore_n 2, 1) := by decide +kernel
theorem dX6_bestTake_102 : decode cX6_bestTake 102 = .ok (.dload 7, 2) := by decide +kernel
theorem dX6_bestTake_104 : decode cX6_bestTake 104 = .ok (.dstore_n 3, 1) := by decide +kernel
theorem dX6_bestTake_105 : decode cX6_bestTake 105 = .ok (.iconst 2, 1) := by decide +kernel
theorem dX6_bestTake_106 : decode cX6_bestTake 106 = .ok (.iload 6, 2) := by decide +kernel
theorem dX6_bestTake_108 : decode cX6_bestTake 108 = .ok (.imul, 1) := by decide +kernel
theorem dX6_bestTake_109 : decode cX6_bestTake 109 = .ok (.istore 6, 2) := by decide +kernel
theorem dX6_bestTake_111 : decode cX6_bestTake 111 = .ok (.goto (-86), 3) := by decide +kernel
theorem dX6_bestTake_114 : decode cX6_bestTake 114 = .ok (.iinc 5 1, 3) := by decide +kernel
theorem dX6_bestTake_117 : decode cX6_bestTake 117 = .ok (.goto (-102), 3) := by decide +kernel
theorem dX6_bestTake_120 : decode cX6_bestTake 120 = .ok (.iload_n 2, 1) := by decide +kernel
theorem dX6_bestTake_121 : decode cX6_bestTake 121 = .ok (.ireturn, 1) := by decide +kernel
theorem dX6_bestWhite_0 : decode cX6_bestWhite 0 = .ok (.aload_n 0, 1) := by decide +kernel
theorem dX6_bestWhite_1 : decode cX6_bestWhite 1 = .ok (.iload_n 1, 1) := by decide +kernel
theorem dX6_bestWhite_2 : decode cX6_bestWhite 2 = .ok (.invokevirtual 127, 3) := by decide +kernel
theorem dX6_bestWhite_5 : decode cX6_bestWhite 5 = .ok (.iload_n 2, 1) := by decide +kernel
theorem dX6_bestWhite_6 : decode cX6_bestWhite 6 = .ok (.iconst 1, 1) := by decide +kernel
theorem dX6_bestWhite_7 : decode cX6_bestWhite 7 = .ok (.iconst 2, 1) := by decide +kernel
theorem dX6_bestWhite_8 : decode cX6_bestWhite 8 = .ok (.invokestatic 70, 3) := by decide +kernel
theorem dX6_bestWhite_11 : decode cX6_bestWhite 11 = .ok (.aload_n 0, 1) := by decide +kernel
theorem dX6_bestWhite_12 : decode cX6_bestWhite 12 = .ok (.getfield 25, 3) := by decide +kernel
theorem dX6_bestWhite_15 : decode cX6_bestWhite 15 = .ok (.iload_n 1, 1) := by decide +kernel
theorem dX6_bestWhite_16 : decode cX6_bestWhite 16 = .ok (.aaload, 1) := by decide +kernel
theorem dX6_bestWhite_17 : decode cX6_bestWhite 17 = .ok (.astore_n 3, 1) := by decide +kernel
theorem dX6_bestWhite_18 : decode cX6_bestWhite 18 = .ok (.aload_n 0, 1) := by decide +kernel
theorem dX6_bestWhite_19 : decode cX6_bestWhite 19 = .ok (.getfield 50, 3) := by decide +kernel
theorem dX6_bestWhite_22 : decode cX6_bestWhite 22 = .ok (.aload_n 3, 1) := by decide +kernel
theorem dX6_bestWhite_23 : decode cX6_bestWhite 23 = .ok (.getfield 158, 3) := by decide +kernel
theorem dX6_bestWhite_26 : decode cX6_bestWhite 26 = .ok (.aload_n 3, 1) := by decide +kernel
theorem dX6_bestWhite_27 : decode cX6_bestWhite 27 = .ok (.getfield 136, 3) := by decide +kernel
theorem dX6_bestWhite_30 : decode cX6_bestWhite 30 = .ok (.aload_n 0, 1) := by decide +kernel
theorem dX6_bestWhite_31 : decode cX6_bestWhite 31 = .ok (.getfield 19, 3) := by decide +kernel
theorem dX6_bestWhite_34 : decode cX6_bestWhite 34 = .ok (.getfield 242, 3) := by decide +kernel
theorem dX6_bestWhite_37 : decode cX6_bestWhite 37 = .ok (.invokevirtual 246, 3) := by decide +kernel
theorem dX6_bestWhite_40 : decode cX6_bestWhite 40 = .ok (.iload_n 2, 1) := by decide +kernel
theorem dX6_bestWhite_41 : decode cX6_bestWhite 41 = .ok (.iconst 1, 1) := by decide +kernel
theorem dX6_bestWhite_42 : decode cX6_bestWhite 42 = .ok (.if_icmp .ne 7, 3) := by decide +kernel
theorem dX6_bestWhite_45 : decode cX6_bestWhite 45 = .ok (.iconst 0, 1) := by decide +kernel
theorem dX6_bestWhite_46 : decode cX6_bestWhite 46 = .ok (.goto 4, 3) := by decide +kernel
theorem dX6_bestWhite_49 : decode cX6_bestWhite 49 = .ok (.iconst 2, 1) := by decide +kernel
theorem dX6_bestWhite_50 : decode cX6_bestWhite 50 = .ok (.istore 4, 2) := by decide +kernel
theorem dX6_bestWhite_52 : decode cX6_bestWhite 52 = .ok (.aload_n 0, 1) := by decide +kernel
theorem dX6_bestWhite_53 : decode cX6_bestWhite 53 = .ok (.getfield 50, 3) := by decide +kernel
theorem dX6_bestWhite_56 : decode cX6_bestWhite 56 = .ok (.iconst 1, 1) := by decide +kernel
theorem dX6_bestWhite_57 : decode cX6_bestWhite 57 = .ok (.fconst 1, 1) := by decide +kernel
theorem dX6_bestWhite_58 : decode cX6_bestWhite 58 = .ok (.invokevirtual 250, 3) := by decide +kernel
theorem dX6_bestWhite_61 : decode cX6_bestWhite 61 = .ok (.istore 5, 2) := by decide +kernel
theorem dX6_bestWhite_63 : decode cX6_bestWhite 63 = .ok (.iconst (-1), 1) := by decide +kernel
theorem dX6_bestWhite_64 : decode cX6_bestWhite 64 = .ok (.istore 6, 2) := by decide +kernel
theorem dX6_bestWhite_66 : decode cX6_bestWhite 66 = .ok (.iconst 0, 1) := by decide +kernel
theorem dX6_bestWhite_67 : decode cX6_bestWhite 67 = .ok (.istore 7, 2) := by decide +kernel
theorem dX6_bestWhite_69 : decode cX6_bestWhite 69 = .ok (.iload_n 2, 1) := by decide +kernel
theorem dX6_bestWhite_70 : decode cX6_bestWhite 70 = .ok (.invokestatic 130, 3) := by decide +kernel
theorem dX6_bestWhite_73 : decode cX6_bestWhite 73 = .ok (.istore 8, 2) := by decide +kernel
theorem dX6_bestWhite_75 : decode cX6_bestWhite 75 = .ok (.iload 8, 2) := by decide +kernel
theorem dX6_bestWhite_77 : decode cX6_bestWhite 77 = .ok (.iload_n 2, 1) := by decide +kernel
theorem dX6_bestWhite_78 : decode cX6_bestWhite 78 = .ok (.invokestatic 133, 3) := by decide +kernel
theorem dX6_bestWhite_81 : decode cX6_bestWhite 81 = .ok (.if_icmp .gt 53, 3) := by decide +kernel
theorem dX6_bestWhite_84 : decode cX6_bestWhite 84 = .ok (.iload 5, 2) := by decide +kernel
theorem dX6_bestWhite_86 : decode cX6_bestWhite 86 = .ok (.aload_n 0, 1) := by decide +kernel
theorem dX6_bestWhite_87 : decode cX6_bestWhite 87 = .ok (.getfield 50, 3) := by decide +kernel
theorem dX6_bestWhite_90 : decode cX6_bestWhite 90 = .ok (.iload 4, 2) := by decide +kernel
theorem dX6_bestWhite_92 : decode cX6_bestWhite 92 = .ok (.iload 8, 2) := by decide +kernel
theorem dX6_bestWhite_94 : decode cX6_bestWhite 94 = .ok (.i2f, 1) := by decide +kernel
theorem dX6_bestWhite_95 : decode cX6_bestWhite 95 = .ok (.ldc 254, 2) := by decide +kernel
theorem dX6_bestWhite_97 : decode cX6_bestWhite 97 = .ok (.fdiv, 1) := by decide +kernel
theorem dX6_bestWhite_98 : decode cX6_bestWhite 98 = .ok (.invokevirtual 250, 3) := by decide +kernel
theorem dX6_bestWhite_101 : decode cX6_bestWhite 101 = .ok (.isub, 1) := by decide +kernel
theorem dX6_bestWhite_102 : decode cX6_bestWhite 102 = .ok (.invokestatic 255, 3) := by decide +kernel
theorem dX6_bestWhite_105 : decode cX6_bestWhite 105 = .ok (.istore 9, 2) := by decide +kernel
theorem dX6_bestWhite_107 : decode cX6_bestWhite 107 = .ok (.iload 6, 2) := by decide +kernel
theorem dX6_bestWhite_109 : decode cX6_bestWhite 109 = .ok (.iconst (-1), 1) := by decide +kernel
theorem dX6_bestWhite_110 : decode cX6_bestWhite 110 = .ok (.if_icmp .eq 10, 3) := by decide +kernel
theorem dX6_bestWhite_113 : decode cX6_bestWhite 113 = .ok (.iload 9, 2) := by decide +kernel
theorem dX6_bestWhite_115 : decode cX6_bestWhite 115 = .ok (.iload 7, 2) := by decide +kernel
theorem dX6_bestWhite_117 : decode cX6_bestWhite 117 = .ok (.if_icmp .ge 11, 3) := by decide +kernel
theorem dX6_bestWhite_120 : decode cX6_bestWhite 120 = .ok (.iload 8, 2) := by decide +kernel
theorem dX6_bestWhite_122 : decode cX6_bestWhite 122 = .ok (.istore 6, 2) := by decide +kernel
theorem dX6_bestWhite_124 : decode cX6_bestWhite 124 = .ok (.iload 9, 2) := by decide +kernel
theorem dX6_bestWhite_126 : decode cX6_bestWhite 126 = .ok (.istore 7, 2) := by decide +kernel
theorem dX6_bestWhite_128 : decode cX6_bestWhite 128 = .ok (.iinc 8 1, 3) := by decide +kernel
theorem dX6_bestWhite_131 : decode cX6_bestWhite 131 = .ok (.goto (-56), 3) := by decide +kernel
theorem dX6_bestWhite_134 : decode cX6_bestWhite 134 = .ok (.iload 6, 2) := by decide +kernel
theorem dX6_bestWhite_136 : decode cX6_bestWhite 136 = .ok (.ireturn, 1) := by decide +kernel
theorem dX6_digest_0 : decode cX6_digest 0 = .ok (.ldc2_w 260, 3) := by decide +kernel
theorem dX6_digest_3 : decode cX6_digest 3 = .ok (.lstore_n 1, 1) := by decide +kernel
theorem dX6_digest_4 : decode cX6_digest 4 = .ok (.iconst 0, 1) := by decide +kernel
theorem dX6_digest_5 : decode cX6_digest 5 = .ok (.istore_n 3, 1) := by decide +kernel
theorem dX6_digest_6 : decode cX6_digest 6 = .ok (.iload_n 3, 1) := by decide +kernel
theorem dX6_digest_7 : decode cX6_digest 7 = .ok (.bipush 6, 2) := by decide +kernel
theorem dX6_digest_9 : decode cX6_digest 9 = .ok (.if_icmp .gt 22, 3) := by decide +kernel
theorem dX6_digest_12 : decode cX6_digest 12 = .ok (.lload_n 1, 1) := by decide +kernel
theorem dX6_digest_13 : decode cX6_digest 13 = .ok (.ldc2_w 262, 3) := by decide +kernel
theorem dX6_digest_16 : decode cX6_digest 16 = .ok (.lmul, 1) := by decide +kernel
theorem dX6_digest_17 : decode cX6_digest 17 = .ok (.aload_n 0, 1) := by decide +kernel
theorem dX6_digest_18 : decode cX6_digest 18 = .ok (.iload_n 3, 1) := by decide +kernel
theorem dX6_digest_19 : decode cX6_digest 19 = .ok (.invokevirtual 264, 3) := by decide +kernel
theorem dX6_digest_22 : decode cX6_digest 22 = .ok (.i2l, 1) := by decide +kernel
theorem dX6_digest_23 : decode cX6_digest 23 = .ok (.ladd, 1) := by decide +kernel
theorem dX6_digest_24 : decode cX6_digest 24 = .ok (.lstore_n 1, 1) := by decide +kernel
theorem dX6_digest_25 : decode cX6_digest 25 = .ok (.iinc 3 1, 3) := by decide +kernel
theorem dX6_digest_28 : decode cX6_digest 28 = .ok (.goto (-22), 3) := by decide +kernel
theorem dX6_digest_31 : decode cX6_digest 31 = .ok (.iconst 0, 1) := by decide +kernel
theorem dX6_digest_32 : decode cX6_digest 32 = .ok (.istore_n 3, 1) := by decide +kernel
theorem dX6_digest_33 : decode cX6_digest 33 = .ok (.iload_n 3, 1) := by decide +kernel
theorem dX6_digest_34 : decode cX6_digest 34 = .ok (.aload_n 0, 1) := by decide +kernel
theorem dX6_digest_35 : decode cX6_digest 35 = .ok (.getfield 35, 3) := by decide +kernel
theorem dX6_digest_38 : decode cX6_digest 38 = .ok (.if_icmp .ge 110, 3) := by decide +kernel
theorem dX6_digest_41 : decode cX6_digest 41 = .ok (.iconst 0, 1) := by decide +kernel
theorem dX6_digest_42 : decode cX6_digest 42 = .ok (.istore 4, 2) := by decide +kernel
theorem dX6_digest_44 : decode cX6_digest 44 = .ok (.iload 4, 2) := by decide +kernel
theorem dX6_digest_46 : decode cX6_digest 46 = .ok (.bipush 8, 2) := by decide +kernel
theorem dX6_digest_48 : decode cX6_digest 48 = .ok (.if_icmp .gt 24, 3) := by decide +kernel
theorem dX6_digest_51 : decode cX6_digest 51 = .ok (.lload_n 1, 1) := by decide +kernel
theorem dX6_digest_52 : decode cX6_digest 52 = .ok (.ldc2_w 262, 3) := by decide +kernel
theorem dX6_digest_55 : decode cX6_digest 55 = .ok (.lmul, 1) := by decide +kernel
theorem dX6_digest_56 : decode cX6_digest 56 = .ok (.aload_n 0, 1) := by decide +kernel
theorem dX6_digest_57 : decode cX6_digest 57 = .ok (.iload_n 3, 1) := by decide +kernel
theorem dX6_digest_58 : decode cX6_digest 58 = .ok (.iload 4, 2) := by decide +kernel
theorem dX6_digest_60 : decode cX6_digest 60 = .ok (.invokevirtual 267, 3) := by decide +kernel
theorem dX6_digest_63 : decode cX6_digest 63 = .ok (.i2l, 1) := by decide +kernel
theorem dX6_digest_64 : decode cX6_digest 64 = .ok (.ladd, 1) := by decide +kernel
theorem dX6_digest_65 : decode cX6_digest 65 = .ok (.lstore_n 1, 1) := by decide +kernel
theorem dX6_digest_66 : decode cX6_digest 66 = .ok (.iinc 4 1, 3) := by decide +kernel
theorem dX6_digest_69 : decode cX6_digest 69 = .ok (.goto (-25), 3) := by decide +kernel
theorem dX6_digest_72 : decode cX6_digest 72 = .ok (.lload_n 1, 1) := by decide +kernel
theorem dX6_digest_73 : decode cX6_digest 73 = .ok (.ldc2_w 262, 3) := by decide +kernel
theorem dX6_digest_76 : decode cX6_digest 76 = .ok (.lmul, 1) := by decide +kernel
theorem dX6_digest_77 : decode cX6_digest 77 = .ok (.aload_n 0, 1) := by decide +kernel
theorem dX6_digest_78 : decode cX6_digest 78 = .ok (.iload_n 3, 1) := by decide +kernel
theorem dX6_digest_79 : decode cX6_digest 79 = .ok (.invokevirtual 270, 3) := by decide +kernel
theorem dX6_digest_82 : decode cX6_digest 82 = .ok (.i2l, 1) := by decide +kernel
theorem dX6_digest_83 : decode cX6_digest 83 = .ok (.ladd, 1) := by decide +kernel
theorem dX6_digest_84 : decode cX6_digest 84 = .ok (.lstore_n 1, 1) := by decide +kernel
theorem dX6_digest_85 : decode cX6_digest 85 = .ok (.lload_n 1, 1) := by decide +kernel
theorem dX6_digest_86 : decode cX6_digest 86 = .ok (.ldc2_w 262, 3) := by decide +kernel
theorem dX6_digest_89 : decode cX6_digest 89 = .ok (.lmul, 1) := by decide +kernel
theorem dX6_digest_90 : decode cX6_digest 90 = .ok (.aload_n 0, 1) := by decide +kernel
theorem dX6_digest_91 : decode cX6_digest 91 = .ok (.iload_n 3, 1) := by decide +kernel
theorem dX6_digest_92 : decode cX6_digest 92 = .ok (.invokevirtual 273, 3) := by decide +kernel
theorem dX6_digest_95 : decode cX6_digest 95 = .ok (.ldc2_w 276, 3) := by decide +kernel
theorem dX6_digest_98 : decode cX6_digest 98 = .ok (.dmul, 1) := by decide +kernel
theorem dX6_digest_99 : decode cX6_digest 99 = .ok (.d2l, 1) := by decide +kernel
theorem dX6_digest_100 : decode cX6_digest 100 = .ok (.ladd, 1) := by decide +kernel
theorem dX6_digest_101 : decode cX6_digest 101 = .ok (.lstore_n 1, 1) := by decide +kernel
theorem dX6_digest_102 : decode cX6_digest 102 = .ok (.aload_n 0, 1) := by decide +kernel
theorem dX6_digest_103 : decode cX6_digest 103 = .ok (.getfield 25, 3) := by decide +kernel
theorem dX6_digest_106 : decode cX6_digest 106 = .ok (.iload_n 3, 1) := by decide +kernel
theorem dX6_digest_107 : decode cX6_digest 107 = .ok (.aaload, 1) := by decide +kernel
theorem dX6_digest_108 : decode cX6_digest 108 = .ok (.getfield 158, 3) := by decide +kernel
theorem dX6_digest_111 : decode cX6_digest 111 = .ok (.astore 4, 2) := by decide +kernel
theorem dX6_digest_113 : decode cX6_digest 113 = .ok (.iconst 0, 1) := by decide +kernel
theorem dX6_digest_114 : decode cX6_digest 114 = .ok (.istore 5, 2) := by decide +kernel
theorem dX6_digest_116 : decode cX6_digest 116 = .ok (.iload 5, 2) := by decide +kernel
theorem dX6_digest_118 : decode cX6_digest 118 = .ok (.bipush 64, 2) := by decide +kernel
theorem dX6_digest_120 : decode cX6_digest 120 = .ok (.if_icmp .ge 22, 3) := by decide +kernel
theorem dX6_digest_123 : decode cX6_digest 123 = .ok (.lload_n 1, 1) := by decide +kernel
theorem dX6_digest_124 : decode cX6_digest 124 = .ok (.ldc2_w 262, 3) := by decide +kernel
theorem dX6_digest_127 : decode cX6_digest 127 = .ok (.lmul, 1) := by decide +kernel
theorem dX6_digest_128 : decode cX6_digest 128 = .ok (.aload 4, 2) := by decide +kernel
theorem dX6_digest_130 : decode cX6_digest 130 = .ok (.iload 5, 2) := by decide +kernel
theorem dX6_digest_132 : decode cX6_digest 132 = .ok (.iaload, 1) := by decide +kernel
theorem dX6_digest_133 : decode cX6_digest 133 = .ok (.i2l, 1) := by decide +kernel
theorem dX6_digest_134 : decode cX6_digest 134 = .ok (.ladd, 1) := by decide +kernel
theorem dX6_digest_135 : decode cX6_digest 135 = .ok (.lstore_n 1, 1) := by decide +kernel
theorem dX6_digest_136 : decode cX6_digest 136 = .ok (.iinc 5 1, 3) := by decide +kernel
theorem dX6_digest_139 : decode cX6_digest 139 = .ok (.goto (-23), 3) := by decide +kernel
theorem dX6_digest_142 : decode cX6_digest 142 = .ok (.iinc 3 1, 3) := by decide +kernel
theorem dX6_digest_145 : decode cX6_digest 145 = .ok (.goto (-112), 3) := by decide +kernel
theorem dX6_digest_148 : decode cX6_digest 148 = .ok (.iconst 0, 1) := by decide +kernel
theorem dX6_digest_149 : decode cX6_digest 149 = .ok (.istore_n 3, 1) := by decide +kernel
theorem dX6_digest_150 : decode cX6_digest 150 = .ok (.iload_n 3, 1) := by decide +kernel
theorem dX6_digest_151 : decode cX6_digest 151 = .ok (.aload_n 0, 1) := by decide +kernel
theorem dX6_digest_152 : decode cX6_digest 152 = .ok (.getfield 39, 3) := by decide +kernel
theorem dX6_digest_155 : decode cX6_digest 155 = .ok (.if_icmp .ge 39, 3) := by decide +kernel
theorem dX6_digest_158 : decode cX6_digest 158 = .ok (.iconst 0, 1) := by decide +kernel
theorem dX6_digest_159 : decode cX6_digest 159 = .ok (.istore 4, 2) := by decide +kernel
theorem dX6_digest_161 : decode cX6_digest 161 = .ok (.iload 4, 2) := by decide +kernel
theorem dX6_digest_163 : decode cX6_digest 163 = .ok (.iconst 3, 1) := by decide +kernel
theorem dX6_digest_164 : decode cX6_digest 164 = .ok (.if_icmp .gt 24, 3) := by decide +kernel
theorem dX6_digest_167 : decode cX6_digest 167 = .ok (.lload_n 1, 1) := by decide +kernel
theorem dX6_digest_168 : decode cX6_digest 168 = .ok (.ldc2_w 262, 3) := by decide +kernel
theorem dX6_digest_171 : decode cX6_digest 171 = .ok (.lmul, 1) := by decide +kernel
theorem dX6_digest_172 : decode cX6_digest 172 = .ok (.aload_n 0, 1) := by decide +kernel
theorem dX6_digest_173 : decode cX6_digest 173 = .ok (.iload_n 3, 1) := by decide +kernel
theorem dX6_digest_174 : decode cX6_digest 174 = .ok (.iload 4, 2) := by decide +kernel
theorem dX6_digest_176 : decode cX6_digest 176 = .ok (.invokevirtual 278, 3) := by decide +kernel
theorem dX6_digest_179 : decode cX6_digest 179 = .ok (.i2l, 1) := by decide +kernel
theorem dX6_digest_180 : decode cX6_digest 180 = .ok (.ladd, 1) := by decide +kernel
theorem dX6_digest_181 : decode cX6_digest 181 = .ok (.lstore_n 1, 1) := by decide +kernel
theorem dX6_digest_182 : decode cX6_digest 182 = .ok (.iinc 4 1, 3) := by decide +kernel
theorem dX6_digest_185 : decode cX6_digest 185 = .ok (.goto (-24), 3) := by decide +kernel
theorem dX6_digest_188 : decode cX6_digest 188 = .ok (.iinc 3 1, 3) := by decide +kernel
theorem dX6_digest_191 : decode cX6_digest 191 = .ok (.goto (-41), 3) := by decide +kernel
theorem dX6_digest_194 : decode cX6_digest 194 = .ok (.lload_n 1, 1) := by decide +kernel
theorem dX6_digest_195 : decode cX6_digest 195 = .ok (.ldc2_w 262, 3) := by decide +kernel
theorem dX6_digest_198 : decode cX6_digest 198 = .ok (.lmul, 1) := by decide +kernel
theorem dX6_digest_199 : decode cX6_digest 199 = .ok (.aload_n 0, 1) := by decide +kernel
theorem dX6_digest_200 : decode cX6_digest 200 = .ok (.bipush 16, 2) := by decide +kernel
theorem dX6_digest_202 : decode cX6_digest 202 = .ok (.iconst 1, 1) := by decide +kernel
theorem dX6_digest_203 : decode cX6_digest 203 = .ok (.invokevirtual 281, 3) := by decide +kernel
theorem dX6_digest_206 : decode cX6_digest 206 = .ok (.i2l, 1) := by decide +kernel
theorem dX6_digest_207 : decode cX6_digest 207 = .ok (.ladd, 1) := by decide +kernel
theorem dX6_digest_208 : decode cX6_digest 208 = .ok (.lreturn, 1) := by decide +kernel
theorem dX6_needIndex_0 : decode cX6_needIndex 0 = .ok (.iload_n 0, 1) := by decide +kernel
theorem dX6_needIndex_1 : decode cX6_needIndex 1 = .ok (.ifCond .lt 8, 3) := by decide +kernel
theorem dX6_needIndex_4 : decode cX6_needIndex 4 = .ok (.iload_n 0, 1) := by decide +kernel
theorem dX6_needIndex_5 : decode cX6_needIndex 5 = .ok (.iload_n 1, 1) := by decide +kernel
theorem dX6_needIndex_6 : decode cX6_needIndex 6 = .ok (.if_icmp .lt 14, 3) := by decide +kernel
theorem dX6_needIndex_9 : decode cX6_needIndex 9 = .ok (.new 284, 3) := by decide +kernel
theorem dX6_needIndex_12 : decode cX6_needIndex 12 = .ok (.dup, 1) := by decide +kernel
theorem dX6_needIndex_13 : decode cX6_needIndex 13 = .ok (.ldc_w 286, 3) := by decide +kernel
theorem dX6_needIndex_16 : decode cX6_needIndex 16 = .ok (.invokespecial 288, 3) := by decide +kernel
theorem dX6_needIndex_19 : decode cX6_needIndex 19 = .ok (.athrow, 1) := by decide +kernel
theorem dX6_needIndex_20 : decode cX6_needIndex 20 = .ok (.return_, 1) := by decide +kernel
theorem dX6_needPlace_0 : decode cX6_needPlace 0 = .ok (.iload_n 0, 1) := by decide +kernel
theorem dX6_needPlace_1 : decode cX6_needPlace 1 = .ok (.iload_n 1, 1) := by decide +kernel
theorem dX6_needPlace_2 : decode cX6_needPlace 2 = .ok (.invokestatic 289, 3) := by decide +kernel
theorem dX6_needPlace_5 : decode cX6_needPlace 5 = .ok (.ifCond .ne 14, 3) := by decide +kernel
theorem dX6_needPlace_8 : decode cX6_needPlace 8 = .ok (.new 284, 3) := by decide +kernel
theorem dX6_needPlace_11 : decode cX6_needPlace 11 = .ok (.dup, 1) := by decide +kernel
theorem dX6_needPlace_12 : decode cX6_needPlace 12 = .ok (.ldc_w 293, 3) := by decide +kernel
theorem dX6_needPlace_15 : decode cX6_needPlace 15 = .ok (.invokespecial 288, 3) := by decide +kernel
theorem dX6_needPlace_18 : decode cX6_needPlace 18 = .ok (.athrow, 1) := by decide +kernel
theorem dX6_needPlace_19 : decode cX6_needPlace 19 = .ok (.return_, 1) := by decide +kernel
theorem dX6_needFrame_0 : decode cX6_needFrame 0 = .ok (.iload_n 1, 1) := by decide +kernel
theorem dX6_needFrame_1 : decode cX6_needFrame 1 = .ok (.ifCond .lt 11, 3) := by decide +kernel
theorem dX6_needFrame_4 : decode cX6_needFrame 4 = .ok (.iload_n 1, 1) := by decide +kernel
theorem dX6_needFrame_5 : decode cX6_needFrame 5 = .ok (.aload_n 0, 1) := by decide +kernel
theorem dX6_needFrame_6 : decode cX6_needFrame 6 = .ok (.getfield 35, 3) := by decide +kernel
theorem dX6_needFrame_9 : decode cX6_needFrame 9 = .ok (.if_icmp .lt 14, 3) := by decide +kernel
theorem dX6_needFrame_12 : decode cX6_needFrame 12 = .ok (.new 284, 3) := by decide +kernel
theorem dX6_needFrame_15 : decode cX6_needFrame 15 = .ok (.dup, 1) := by decide +kernel
theorem dX6_needFrame_16 : decode cX6_needFrame 16 = .ok (.ldc_w 295, 3) := by decide +kernel
theorem dX6_needFrame_19 : decode cX6_needFrame 19 = .ok (.invokespecial 288, 3) := by decide +kernel
theorem dX6_needFrame_22 : decode cX6_needFrame 22 = .ok (.athrow, 1) := by decide +kernel
theorem dX6_needFrame_23 : decode cX6_needFrame 23 = .ok (.return_, 1) := by decide +kernel
theorem dX6_needRange_0 : decode cX6_needRange 0 = .ok (.iload_n 0, 1) := by decide +kernel
theorem dX6_needRange_1 : decode cX6_needRange 1 = .ok (.iload_n 1, 1) := by decide +kernel
theorem dX6_needRange_2 : decode cX6_needRange 2 = .ok (.if_icmp .lt 8, 3) := by decide +kernel
theorem dX6_needRange_5 : decode cX6_needRange 5 = .ok (.iload_n 0, 1) := by decide +kernel
theorem dX6_needRange_6 : decode cX6_needRange 6 = .ok (.iload_n 2, 1) := by decide +kernel
theorem dX6_needRange_7 : decode cX6_needRange 7 = .ok (.if_icmp .le 14, 3) := by decide +kernel
theorem dX6_needRange_10 : decode cX6_needRange 10 = .ok (.new 62, 3) := by decide +kernel
theorem dX6_needRange_13 : decode cX6_needRange 13 = .ok (.dup, 1) := by decide +kernel
theorem dX6_needRange_14 : decode cX6_needRange 14 = .ok (.ldc_w 297, 3) := by decide +kernel
theorem dX6_needRange_17 : decode cX6_needRange 17 = .ok (.invokespecial 66, 3) := by decide +kernel
theorem dX6_needRange_20 : decode cX6_needRange 20 = .ok (.athrow, 1) := by decide +kernel
theorem dX6_needRange_21 : decode cX6_needRange 21 = .ok (.return_, 1) := by decide +kernel
theorem dX6_needExposure_0 : decode cX6_needExposure 0 = .ok (.iload_n 0, 1) := by decide +kernel
theorem dX6_needExposure_1 : decode cX6_needExposure 1 = .ok (.iconst 1, 1) := by decide +kernel
theorem dX6_needExposure_2 : decode cX6_needExposure 2 = .ok (.bipush 64, 2) := by decide +kernel
theorem dX6_needExposure_4 : decode cX6_needExposure 4 = .ok (.invokestatic 70, 3) := by decide +kernel
theorem dX6_needExposure_7 : decode cX6_needExposure 7 = .ok (.iload_n 1, 1) := by decide +kernel
theorem dX6_needExposure_8 : decode cX6_needExposure 8 = .ok (.iconst 1, 1) := by decide +kernel
theorem dX6_needExposure_9 : decode cX6_needExposure 9 = .ok (.bipush 8, 2) := by decide +kernel
theorem dX6_needExposure_11 : decode cX6_needExposure 11 = .ok (.invokestatic 70, 3) := by decide +kernel
theorem dX6_needExposure_14 : decode cX6_needExposure 14 = .ok (.return_, 1) := by decide +kernel
theorem dX6_needRoom_0 : decode cX6_needRoom 0 = .ok (.iload_n 0, 1) := by decide +kernel
theorem dX6_needRoom_1 : decode cX6_needRoom 1 = .ok (.iload_n 1, 1) := by decide +kernel
theorem dX6_needRoom_2 : decode cX6_needRoom 2 = .ok (.if_icmp .lt 14, 3) := by decide +kernel
theorem dX6_needRoom_5 : decode cX6_needRoom 5 = .ok (.new 299, 3) := by decide +kernel
theorem dX6_needRoom_8 : decode cX6_needRoom 8 = .ok (.dup, 1) := by decide +kernel
theorem dX6_needRoom_9 : decode cX6_needRoom 9 = .ok (.ldc_w 301, 3) := by decide +kernel
theorem dX6_needRoom_12 : decode cX6_needRoom 12 = .ok (.invokespecial 303, 3) := by decide +kernel
theorem dX6_needRoom_15 : decode cX6_needRoom 15 = .ok (.athrow, 1) := by decide +kernel
theorem dX6_needRoom_16 : decode cX6_needRoom 16 = .ok (.return_, 1) := by decide +kernel
theorem dX6_isPlace_0 : decode cX6_isPlace 0 = .ok (.iload_n 0, 1) := by decide +kernel
theorem dX6_isPlace_1 : decode cX6_isPlace 1 = .ok (.ifCond .lt 23, 3) := by decide +kernel
theorem dX6_isPlace_4 : decode cX6_isPlace 4 = .ok (.iload_n 0, 1) := by decide +kernel
theorem dX6_isPlace_5 : decode cX6_isPlace 5 = .ok (.bipush 8, 2) := by decide +kernel
theorem dX6_isPlace_7 : decode cX6_isPlace 7 = .ok (.if_icmp .ge 17, 3) := by decide +kernel
theorem dX6_isPlace_10 : decode cX6_isPlace 10 = .ok (.iload_n 1, 1) := by decide +kernel
theorem dX6_isPlace_11 : decode cX6_isPlace 11 = .ok (.ifCond .lt 13, 3) := by decide +kernel
theorem dX6_isPlace_14 : decode cX6_isPlace 14 = .ok (.iload_n 1, 1) := by decide +kernel
theorem dX6_isPlace_15 : decode cX6_isPlace 15 = .ok (.bipush 8, 2) := by decide +kernel
theorem dX6_isPlace_17 : decode cX6_isPlace 17 = .ok (.if_icmp .ge 7, 3) := by decide +kernel
theorem dX6_isPlace_20 : decode cX6_isPlace 20 = .ok (.iconst 1, 1) := by decide +kernel
theorem dX6_isPlace_21 : decode cX6_isPlace 21 = .ok (.goto 4, 3) := by decide +kernel
theorem dX6_isPlace_24 : decode cX6_isPlace 24 = .ok (.iconst 0, 1) := by decide +kernel
theorem dX6_isPlace_25 : decode cX6_isPlace 25 = .ok (.ireturn, 1) := by decide +kernel
theorem dX6_placeOf_0 : decode cX6_placeOf 0 = .ok (.bipush 8, 2) := by decide +kernel
theorem dX6_placeOf_2 : decode cX6_placeOf 2 = .ok (.iload_n 1, 1) := by decide +kernel
theorem dX6_placeOf_3 : decode cX6_placeOf 3 = .ok (.imul, 1) := by decide +kernel
theorem dX6_placeOf_4 : decode cX6_placeOf 4 = .ok (.iload_n 0, 1) := by decide +kernel
theorem dX6_placeOf_5 : decode cX6_placeOf 5 = .ok (.iadd, 1) := by decide +kernel
theorem dX6_placeOf_6 : decode cX6_placeOf 6 = .ok (.ireturn, 1) := by decide +kernel
theorem dX6_colourSeen_0 : decode cX6_colourSeen 0 = .ok (.iload_n 0, 1) := by decide +kernel
theorem dX6_colourSeen_1 : decode cX6_colourSeen 1 = .ok (.iconst 2, 1) := by decide +kernel
theorem dX6_colourSeen_2 : decode cX6_colourSeen 2 = .ok (.irem, 1) := by decide +kernel
theorem dX6_colourSeen_3 : decode cX6_colourSeen 3 = .ok (.iload_n 1, 1) := by decide +kernel
theorem dX6_colourSeen_4 : decode cX6_colourSeen 4 = .ok (.iconst 2, 1) := by decide +kernel
theorem dX6_colourSeen_5 : decode cX6_colourSeen 5 = .ok (.irem, 1) := by decide +kernel
theorem dX6_colourSeen_6 : decode cX6_colourSeen 6 = .ok (.if_icmp .eq 5, 3) := by decide +kernel
theorem dX6_colourSeen_9 : decode cX6_colourSeen 9 = .ok (.iconst 1, 1) := by decide +kernel
theorem dX6_colourSeen_10 : decode cX6_colourSeen 10 = .ok (.ireturn, 1) := by decide +kernel
theorem dX6_colourSeen_11 : decode cX6_colourSeen 11 = .ok (.iload_n 0, 1) := by decide +kernel
theorem dX6_colourSeen_12 : decode cX6_colourSeen 12 = .ok (.iconst 2, 1) := by decide +kernel
theorem dX6_colourSeen_13 : decode cX6_colourSeen 13 = .ok (.irem, 1) := by decide +kernel
theorem dX6_colourSeen_14 : decode cX6_colourSeen 14 = .ok (.ifCond .ne 7, 3) := by decide +kernel
theorem dX6_colourSeen_17 : decode cX6_colourSeen 17 = .ok (.iconst 0, 1) := by decide +kernel
theorem dX6_colourSeen_18 : decode cX6_colourSeen 18 = .ok (.goto 4, 3) := by decide +kernel
theorem dX6_colourSeen_21 : decode cX6_colourSeen 21 = .ok (.iconst 2, 1) := by decide +kernel
theorem dX6_colourSeen_22 : decode cX6_colourSeen 22 = .ok (.ireturn, 1) := by decide +kernel
theorem dX6_leastNumber_0 : decode cX6_leastNumber 0 = .ok (.iload_n 0, 1) := by decide +kernel
theorem dX6_leastNumber_1 : decode cX6_leastNumber 1 = .ok (.iconst 1, 1) := by decide +kernel
theorem dX6_leastNumber_2 : decode cX6_leastNumber 2 = .ok (.if_icmp .eq 8, 3) := by decide +kernel
theorem dX6_leastNumber_5 : decode cX6_leastNumber 5 = .ok (.iload_n 0, 1) := by decide +kernel
theorem dX6_leastNumber_6 : decode cX6_leastNumber 6 = .ok (.iconst 2, 1) := by decide +kernel
theorem dX6_leastNumber_7 : decode cX6_leastNumber 7 = .ok (.if_icmp .ne 7, 3) := by decide +kernel
theorem dX6_leastNumber_10 : decode cX6_leastNumber 10 = .ok (.iconst 1, 1) := by decide +kernel
theorem dX6_leastNumber_11 : decode cX6_leastNumber 11 = .ok (.goto 4, 3) := by decide +kernel
theorem dX6_leastNumber_14 : decode cX6_leastNumber 14 = .ok (.iconst 0, 1) := by decide +kernel
theorem dX6_leastNumber_15 : decode cX6_leastNumber 15 = .ok (.ireturn, 1) := by decide +kernel
theorem dX6_mostNumber_0 : decode cX6_mostNumber 0 = .ok (.iload_n 0, 1) := by decide +kernel
theorem dX6_mostNumber_1 : decode cX6_mostNumber 1 = .ok (.tableswitch 39 0 3 #[31, 34, 34, 37], 31) := by decide +kernel
theorem dX6_mostNumber_32 : decode cX6_mostNumber 32 = .ok (.bipush 64, 2) := by decide +kernel
theorem dX6_mostNumber_34 : decode cX6_mostNumber 34 = .ok (.ireturn, 1) := by decide +kernel
theorem dX6_mostNumber_35 : decode cX6_mostNumber 35 = .ok (.bipush 16, 2) := by decide +kernel
theorem dX6_mostNumber_37 : decode cX6_mostNumber 37 = .ok (.ireturn, 1) := by decide +kernel
theorem dX6_mostNumber_38 : decode cX6_mostNumber 38 = .ok (.iconst 2, 1) := by decide +kernel
theorem dX6_mostNumber_39 : decode cX6_mostNumber 39 = .ok (.ireturn, 1) := by decide +kernel
theorem dX6_mostNumber_40 : decode cX6_mostNumber 40 = .ok (.iconst 0, 1) := by decide +kernel
theorem dX6_mostNumber_41 : decode cX6_mostNumber 41 = .ok (.ireturn, 1) := by decide +kernel
theorem dX6_countFilesOf_0 : decode cX6_countFilesOf 0 = .ok (.iconst 0, 1) := by decide +kernel
theorem dX6_countFilesOf_1 : decode cX6_countFilesOf 1 = .ok (.istore_n 2, 1) := by decide +kernel
theorem dX6_countFilesOf_2 : decode cX6_countFilesOf 2 = .ok (.iconst 0, 1) := by decide +kernel
theorem dX6_countFilesOf_3 : decode cX6_countFilesOf 3 = .ok (.istore_n 3, 1) := by decide +kernel
theorem dX6_countFilesOf_4 : decode cX6_countFilesOf 4 = .ok (.iload_n 3, 1) := by decide +kernel
theorem dX6_countFilesOf_5 : decode cX6_countFilesOf 5 = .ok (.aload_n 0, 1) := by decide +kernel
theorem dX6_countFilesOf_6 : decode cX6_countFilesOf 6 = .ok (.getfield 39, 3) := by decide +kernel
theorem dX6_countFilesOf_9 : decode cX6_countFilesOf 9 = .ok (.if_icmp .ge 25, 3) := by decide +kernel
theorem dX6_countFilesOf_12 : decode cX6_countFilesOf 12 = .ok (.aload_n 0, 1) := by decide +kernel
theorem dX6_countFilesOf_13 : decode cX6_countFilesOf 13 = .ok (.getfield 31, 3) := by decide +kernel
theorem dX6_countFilesOf_16 : decode cX6_countFilesOf 16 = .ok (.iload_n 3, 1) := by decide +kernel
theorem dX6_countFilesOf_17 : decode cX6_countFilesOf 17 = .ok (.aaload, 1) := by decide +kernel
theorem dX6_countFilesOf_18 : decode cX6_countFilesOf 18 = .ok (.getfield 211, 3) := by decide +kernel
theorem dX6_countFilesOf_21 : decode cX6_countFilesOf 21 = .ok (.iload_n 1, 1) := by decide +kernel
theorem dX6_countFilesOf_22 : decode cX6_countFilesOf 22 = .ok (.if_icmp .ne 6, 3) := by decide +kernel
theorem dX6_countFilesOf_25 : decode cX6_countFilesOf 25 = .ok (.iinc 2 1, 3) := by decide +kernel
theorem dX6_countFilesOf_28 : decode cX6_countFilesOf 28 = .ok (.iinc 3 1, 3) := by decide +kernel
theorem dX6_countFilesOf_31 : decode cX6_countFilesOf 31 = .ok (.goto (-27), 3) := by decide +kernel
theorem dX6_countFilesOf_34 : decode cX6_countFilesOf 34 = .ok (.iload_n 2, 1) := by decide +kernel
theorem dX6_countFilesOf_35 : decode cX6_countFilesOf 35 = .ok (.ireturn, 1) := by decide +kernel
theorem dX6_countEdits_0 : decode cX6_countEdits 0 = .ok (.iconst 0, 1) := by decide +kernel
theorem dX6_countEdits_1 : decode cX6_countEdits 1 = .ok (.istore_n 1, 1) := by decide +kernel
theorem dX6_countEdits_2 : decode cX6_countEdits 2 = .ok (.iconst 0, 1) := by decide +kernel
theorem dX6_countEdits_3 : decode cX6_countEdits 3 = .ok (.istore_n 2, 1) := by decide +kernel
theorem dX6_countEdits_4 : decode cX6_countEdits 4 = .ok (.iload_n 2, 1) := by decide +kernel
theorem dX6_countEdits_5 : decode cX6_countEdits 5 = .ok (.aload_n 0, 1) := by decide +kernel
theorem dX6_countEdits_6 : decode cX6_countEdits 6 = .ok (.getfield 35, 3) := by decide +kernel
theorem dX6_countEdits_9 : decode cX6_countEdits 9 = .ok (.if_icmp .ge 24, 3) := by decide +kernel
theorem dX6_countEdits_12 : decode cX6_countEdits 12 = .ok (.iload_n 1, 1) := by decide +kernel
theorem dX6_countEdits_13 : decode cX6_countEdits 13 = .ok (.aload_n 0, 1) := by decide +kernel
theorem dX6_countEdits_14 : decode cX6_countEdits 14 = .ok (.getfield 25, 3) := by decide +kernel
theorem dX6_countEdits_17 : decode cX6_countEdits 17 = .ok (.iload_n 2, 1) := by decide +kernel
theorem dX6_countEdits_18 : decode cX6_countEdits 18 = .ok (.aaload, 1) := by decide +kernel
theorem dX6_countEdits_19 : decode cX6_countEdits 19 = .ok (.getfield 136, 3) := by decide +kernel
theorem dX6_countEdits_22 : decode cX6_countEdits 22 = .ok (.invokevirtual 140, 3) := by decide +kernel
theorem dX6_countEdits_25 : decode cX6_countEdits 25 = .ok (.iadd, 1) := by decide +kernel
theorem dX6_countEdits_26 : decode cX6_countEdits 26 = .ok (.istore_n 1, 1) := by decide +kernel
theorem dX6_countEdits_27 : decode cX6_countEdits 27 = .ok (.iinc 2 1, 3) := by decide +kernel
theorem dX6_countEdits_30 : decode cX6_countEdits 30 = .ok (.goto (-26), 3) := by decide +kernel
theorem dX6_countEdits_33 : decode cX6_countEdits 33 = .ok (.iload_n 1, 1) := by decide +kernel
theorem dX6_countEdits_34 : decode cX6_countEdits 34 = .ok (.ireturn, 1) := by decide +kernel
theorem dX6_developFrame_0 : decode cX6_developFrame 0 = .ok (.aload_n 0, 1) := by decide +kernel
theorem dX6_developFrame_1 : decode cX6_developFrame 1 = .ok (.getfield 25, 3) := by decide +kernel
theorem dX6_developFrame_4 : decode cX6_developFrame 4 = .ok (.iload_n 1, 1) := by decide +kernel
theorem dX6_developFrame_5 : decode cX6_developFrame 5 = .ok (.aaload, 1) := by decide +kernel
theorem dX6_developFrame_6 : decode cX6_developFrame 6 = .ok (.astore_n 3, 1) := by decide +kernel
theorem dX6_developFrame_7 : decode cX6_developFrame 7 = .ok (.aload_n 2, 1) := by decide +kernel
theorem dX6_developFrame_8 : decode cX6_developFrame 8 = .ok (.aload_n 3, 1) := by decide +kernel
theorem dX6_developFrame_9 : decode cX6_developFrame 9 = .ok (.getfield 158, 3) := by decide +kernel
theorem dX6_developFrame_12 : decode cX6_developFrame 12 = .ok (.aload_n 3, 1) := by decide +kernel
theorem dX6_developFrame_13 : decode cX6_developFrame 13 = .ok (.getfield 136, 3) := by decide +kernel
theorem dX6_developFrame_16 : decode cX6_developFrame 16 = .ok (.aload_n 0, 1) := by decide +kernel
theorem dX6_developFrame_17 : decode cX6_developFrame 17 = .ok (.getfield 19, 3) := by decide +kernel
theorem dX6_developFrame_20 : decode cX6_developFrame 20 = .ok (.getfield 242, 3) := by decide +kernel
theorem dX6_developFrame_23 : decode cX6_developFrame 23 = .ok (.invokevirtual 246, 3) := by decide +kernel
theorem dX6_developFrame_26 : decode cX6_developFrame 26 = .ok (.aload_n 2, 1) := by decide +kernel
theorem dX6_developFrame_27 : decode cX6_developFrame 27 = .ok (.invokevirtual 304, 3) := by decide +kernel
theorem dX6_developFrame_30 : decode cX6_developFrame 30 = .ok (.return_, 1) := by decide +kernel
theorem dX6_wordBehind_0 : decode cX6_wordBehind 0 = .ok (.aload_n 0, 1) := by decide +kernel
theorem dX6_wordBehind_1 : decode cX6_wordBehind 1 = .ok (.getfield 50, 3) := by decide +kernel
theorem dX6_wordBehind_4 : decode cX6_wordBehind 4 = .ok (.aload_n 0, 1) := by decide +kernel
theorem dX6_wordBehind_5 : decode cX6_wordBehind 5 = .ok (.getfield 25, 3) := by decide +kernel
theorem dX6_wordBehind_8 : decode cX6_wordBehind 8 = .ok (.iload_n 1, 1) := by decide +kernel
theorem dX6_wordBehind_9 : decode cX6_wordBehind 9 = .ok (.aaload, 1) := by decide +kernel
theorem dX6_wordBehind_10 : decode cX6_wordBehind 10 = .ok (.getfield 158, 3) := by decide +kernel
theorem dX6_wordBehind_13 : decode cX6_wordBehind 13 = .ok (.aload_n 2, 1) := by decide +kernel
theorem dX6_wordBehind_14 : decode cX6_wordBehind 14 = .ok (.aload_n 0, 1) := by decide +kernel
theorem dX6_wordBehind_15 : decode cX6_wordBehind 15 = .ok (.getfield 19, 3) := by decide +kernel
theorem dX6_wordBehind_18 : decode cX6_wordBehind 18 = .ok (.getfield 242, 3) := by decide +kernel
theorem dX6_wordBehind_21 : decode cX6_wordBehind 21 = .ok (.invokevirtual 246, 3) := by decide +kernel
theorem dX6_wordBehind_24 : decode cX6_wordBehind 24 = .ok (.aload_n 0, 1) := by decide +kernel
theorem dX6_wordBehind_25 : decode cX6_wordBehind 25 = .ok (.getfield 50, 3) := by decide +kernel
theorem dX6_wordBehind_28 : decode cX6_wordBehind 28 = .ok (.invokevirtual 304, 3) := by decide +kernel
theorem dX6_wordBehind_31 : decode cX6_wordBehind 31 = .ok (.aload_n 0, 1) := by decide +kernel
theorem dX6_wordBehind_32 : decode cX6_wordBehind 32 = .ok (.getfield 50, 3) := by decide +kernel
theorem dX6_wordBehind_35 : decode cX6_wordBehind 35 = .ok (.invokevirtual 307, 3) := by decide +kernel
theorem dX6_wordBehind_38 : decode cX6_wordBehind 38 = .ok (.ireturn, 1) := by decide +kernel
theorem dX6_smallestOf_0 : decode cX6_smallestOf 0 = .ok (.iconst 0, 1) := by decide +kernel
theorem dX6_smallestOf_1 : decode cX6_smallestOf 1 = .ok (.istore_n 2, 1) := by decide +kernel
theorem dX6_smallestOf_2 : decode cX6_smallestOf 2 = .ok (.iload_n 2, 1) := by decide +kernel
theorem dX6_smallestOf_3 : decode cX6_smallestOf 3 = .ok (.iconst 5, 1) := by decide +kernel
theorem dX6_smallestOf_4 : decode cX6_smallestOf 4 = .ok (.if_icmp .ge 17, 3) := by decide +kernel
theorem dX6_smallestOf_7 : decode cX6_smallestOf 7 = .ok (.iload_n 1, 1) := by decide +kernel
theorem dX6_smallestOf_8 : decode cX6_smallestOf 8 = .ok (.iload_n 2, 1) := by decide +kernel
theorem dX6_smallestOf_9 : decode cX6_smallestOf 9 = .ok (.invokestatic 310, 3) := by decide +kernel
theorem dX6_smallestOf_12 : decode cX6_smallestOf 12 = .ok (.ifCond .ne 9, 3) := by decide +kernel
theorem dX6_smallestOf_15 : decode cX6_smallestOf 15 = .ok (.iinc 2 1, 3) := by decide +kernel
theorem dX6_smallestOf_18 : decode cX6_smallestOf 18 = .ok (.goto (-16), 3) := by decide +kernel
theorem dX6_smallestOf_21 : decode cX6_smallestOf 21 = .ok (.iload_n 2, 1) := by decide +kernel
theorem dX6_smallestOf_22 : decode cX6_smallestOf 22 = .ok (.ireturn, 1) := by decide +kernel
theorem dX6_isIn_0 : decode cX6_isIn 0 = .ok (.iload_n 0, 1) := by decide +kernel
theorem dX6_isIn_1 : decode cX6_isIn 1 = .ok (.iload_n 1, 1) := by decide +kernel
theorem dX6_isIn_2 : decode cX6_isIn 2 = .ok (.ishr, 1) := by decide +kernel
theorem dX6_isIn_3 : decode cX6_isIn 3 = .ok (.iconst 1, 1) := by decide +kernel
theorem dX6_isIn_4 : decode cX6_isIn 4 = .ok (.iand, 1) := by decide +kernel
theorem dX6_isIn_5 : decode cX6_isIn 5 = .ok (.iconst 1, 1) := by decide +kernel
theorem dX6_isIn_6 : decode cX6_isIn 6 = .ok (.if_icmp .ne 7, 3) := by decide +kernel
theorem dX6_isIn_9 : decode cX6_isIn 9 = .ok (.iconst 1, 1) := by decide +kernel
theorem dX6_isIn_10 : decode cX6_isIn 10 = .ok (.goto 4, 3) := by decide +kernel
theorem dX6_isIn_13 : decode cX6_isIn 13 = .ok (.iconst 0, 1) := by decide +kernel
theorem dX6_isIn_14 : decode cX6_isIn 14 = .ok (.ireturn, 1) := by decide +kernel
theorem dX6_putTogether_0 : decode cX6_putTogether 0 = .ok (.aload_n 0, 1) := by decide +kernel
theorem dX6_putTogether_1 : decode cX6_putTogether 1 = .ok (.getfield 25, 3) := by decide +kernel
theorem dX6_putTogether_4 : decode cX6_putTogether 4 = .ok (.aload_n 0, 1) := by decide +kernel
theorem dX6_putTogether_5 : decode cX6_putTogether 5 = .ok (.iload_n 1, 1) := by decide +kernel
theorem dX6_putTogether_6 : decode cX6_putTogether 6 = .ok (.invokevirtual 313, 3) := by decide +kernel
theorem dX6_putTogether_9 : decode cX6_putTogether 9 = .ok (.aaload, 1) := by decide +kernel
theorem dX6_putTogether_10 : decode cX6_putTogether 10 = .ok (.astore 4, 2) := by decide +kernel
theorem dX6_putTogether_12 : decode cX6_putTogether 12 = .ok (.iconst 0, 1) := by decide +kernel
theorem dX6_putTogether_13 : decode cX6_putTogether 13 = .ok (.istore 5, 2) := by decide +kernel
theorem dX6_putTogether_15 : decode cX6_putTogether 15 = .ok (.iconst 0, 1) := by decide +kernel
theorem dX6_putTogether_16 : decode cX6_putTogether 16 = .ok (.istore 6, 2) := by decide +kernel
theorem dX6_putTogether_18 : decode cX6_putTogether 18 = .ok (.iload 6, 2) := by decide +kernel
theorem dX6_putTogether_20 : decode cX6_putTogether 20 = .ok (.bipush 64, 2) := by decide +kernel
theorem dX6_putTogether_22 : decode cX6_putTogether 22 = .ok (.if_icmp .ge 120, 3) := by decide +kernel
theorem dX6_putTogether_25 : decode cX6_putTogether 25 = .ok (.aload 4, 2) := by decide +kernel
theorem dX6_putTogether_27 : decode cX6_putTogether 27 = .ok (.getfield 158, 3) := by decide +kernel
theorem dX6_putTogether_30 : decode cX6_putTogether 30 = .ok (.iload 6, 2) := by decide +kernel
theorem dX6_putTogether_32 : decode cX6_putTogether 32 = .ok (.iaload, 1) := by decide +kernel
theorem dX6_putTogether_33 : decode cX6_putTogether 33 = .ok (.istore 7, 2) := by decide +kernel
theorem dX6_putTogether_35 : decode cX6_putTogether 35 = .ok (.iconst 0, 1) := by decide +kernel
theorem dX6_putTogether_36 : decode cX6_putTogether 36 = .ok (.istore 8, 2) := by decide +kernel
theorem dX6_putTogether_38 : decode cX6_putTogether 38 = .ok (.iconst 0, 1) := by decide +kernel
theorem dX6_putTogether_39 : decode cX6_putTogether 39 = .ok (.istore 9, 2) := by decide +kernel
theorem dX6_putTogether_41 : decode cX6_putTogether 41 = .ok (.iconst 0, 1) := by decide +kernel
theorem dX6_putTogether_42 : decode cX6_putTogether 42 = .ok (.istore 10, 2) := by decide +kernel
theorem dX6_putTogether_44 : decode cX6_putTogether 44 = .ok (.iload 10, 2) := by decide +kernel
theorem dX6_putTogether_46 : decode cX6_putTogether 46 = .ok (.aload_n 0, 1) := by decide +kernel
theorem dX6_putTogether_47 : decode cX6_putTogether 47 = .ok (.getfield 35, 3) := by decide +kernel
theorem dX6_putTogether_50 : decode cX6_putTogether 50 = .ok (.if_icmp .ge 64, 3) := by decide +kernel
theorem dX6_putTogether_53 : decode cX6_putTogether 53 = .ok (.iload_n 1, 1) := by decide +kernel
theorem dX6_putTogether_54 : decode cX6_putTogether 54 = .ok (.iload 10, 2) := by decide +kernel
theorem dX6_putTogether_56 : decode cX6_putTogether 56 = .ok (.invokestatic 310, 3) := by decide +kernel
theorem dX6_putTogether_59 : decode cX6_putTogether 59 = .ok (.ifCond .ne 6, 3) := by decide +kernel
theorem dX6_putTogether_62 : decode cX6_putTogether 62 = .ok (.goto 46, 3) := by decide +kernel
theorem dX6_putTogether_65 : decode cX6_putTogether 65 = .ok (.aload_n 0, 1) := by decide +kernel
theorem dX6_putTogether_66 : decode cX6_putTogether 66 = .ok (.getfield 25, 3) := by decide +kernel
theorem dX6_putTogether_69 : decode cX6_putTogether 69 = .ok (.iload 10, 2) := by decide +kernel
theorem dX6_putTogether_71 : decode cX6_putTogether 71 = .ok (.aaload, 1) := by decide +kernel
theorem dX6_putTogether_72 : decode cX6_putTogether 72 = .ok (.getfield 158, 3) := by decide +kernel
theorem dX6_putTogether_75 : decode cX6_putTogether 75 = .ok (.iload 6, 2) := by decide +kernel
theorem dX6_putTogether_77 : decode cX6_putTogether 77 = .ok (.iaload, 1) := by decide +kernel
theorem dX6_putTogether_78 : decode cX6_putTogether 78 = .ok (.istore 11, 2) := by decide +kernel
theorem dX6_putTogether_80 : decode cX6_putTogether 80 = .ok (.iload 11, 2) := by decide +kernel
theorem dX6_putTogether_82 : decode cX6_putTogether 82 = .ok (.iload 7, 2) := by decide +kernel
theorem dX6_putTogether_84 : decode cX6_putTogether 84 = .ok (.isub, 1) := by decide +kernel
theorem dX6_putTogether_85 : decode cX6_putTogether 85 = .ok (.invokestatic 255, 3) := by decide +kernel
theorem dX6_putTogether_88 : decode cX6_putTogether 88 = .ok (.iload_n 2, 1) := by decide +kernel
theorem dX6_putTogether_89 : decode cX6_putTogether 89 = .ok (.if_icmp .le 9, 3) := by decide +kernel
theorem dX6_putTogether_92 : decode cX6_putTogether 92 = .ok (.iinc 5 1, 3) := by decide +kernel
theorem dX6_putTogether_95 : decode cX6_putTogether 95 = .ok (.goto 13, 3) := by decide +kernel
theorem dX6_putTogether_98 : decode cX6_putTogether 98 = .ok (.iload 8, 2) := by decide +kernel
theorem dX6_putTogether_100 : decode cX6_putTogether 100 = .ok (.iload 11, 2) := by decide +kernel
theorem dX6_putTogether_102 : decode cX6_putTogether 102 = .ok (.iadd, 1) := by decide +kernel
theorem dX6_putTogether_103 : decode cX6_putTogether 103 = .ok (.istore 8, 2) := by decide +kernel
theorem dX6_putTogether_105 : decode cX6_putTogether 105 = .ok (.iinc 9 1, 3) := by decide +kernel
theorem dX6_putTogether_108 : decode cX6_putTogether 108 = .ok (.iinc 10 1, 3) := by decide +kernel
theorem dX6_putTogether_111 : decode cX6_putTogether 111 = .ok (.goto (-67), 3) := by decide +kernel
theorem dX6_putTogether_114 : decode cX6_putTogether 114 = .ok (.aload_n 3, 1) := by decide +kernel
theorem dX6_putTogether_115 : decode cX6_putTogether 115 = .ok (.getfield 158, 3) := by decide +kernel
theorem dX6_putTogether_118 : decode cX6_putTogether 118 = .ok (.iload 6, 2) := by decide +kernel
theorem dX6_putTogether_120 : decode cX6_putTogether 120 = .ok (.iload 9, 2) := by decide +kernel
theorem dX6_putTogether_122 : decode cX6_putTogether 122 = .ok (.ifCond .ne 8, 3) := by decide +kernel
theorem dX6_putTogether_125 : decode cX6_putTogether 125 = .ok (.iload 7, 2) := by decide +kernel
theorem dX6_putTogether_127 : decode cX6_putTogether 127 = .ok (.goto 8, 3) := by decide +kernel
theorem dX6_putTogether_130 : decode cX6_putTogether 130 = .ok (.iload 8, 2) := by decide +kernel
theorem dX6_putTogether_132 : decode cX6_putTogether 132 = .ok (.iload 9, 2) := by decide +kernel
theorem dX6_putTogether_134 : decode cX6_putTogether 134 = .ok (.idiv, 1) := by decide +kernel
theorem dX6_putTogether_135 : decode cX6_putTogether 135 = .ok (.iastore, 1) := by decide +kernel
theorem dX6_putTogether_136 : decode cX6_putTogether 136 = .ok (.iinc 6 1, 3) := by decide +kernel
theorem dX6_putTogether_139 : decode cX6_putTogether 139 = .ok (.goto (-121), 3) := by decide +kernel
theorem dX6_putTogether_142 : decode cX6_putTogether 142 = .ok (.aload_n 3, 1) := by decide +kernel
theorem dX6_putTogether_143 : decode cX6_putTogether 143 = .ok (.aload 4, 2) := by decide +kernel
theorem dX6_putTogether_145 : decode cX6_putTogether 145 = .ok (.getfield 177, 3) := by decide +kernel
theorem dX6_putTogether_148 : decode cX6_putTogether 148 = .ok (.putfield 177, 3) := by decide +kernel
theorem dX6_putTogether_151 : decode cX6_putTogether 151 = .ok (.aload_n 3, 1) := by decide +kernel
theorem dX6_putTogether_152 : decode cX6_putTogether 152 = .ok (.aload 4, 2) := by decide +kernel
theorem dX6_putTogether_154 : decode cX6_putTogether 154 = .ok (.getfield 180, 3) := by decide +kernel
theorem dX6_putTogether_157 : decode cX6_putTogether 157 = .ok (.putfield 180, 3) := by decide +kernel
theorem dX6_putTogether_160 : decode cX6_putTogether 160 = .ok (.aload_n 3, 1) := by decide +kernel
theorem dX6_putTogether_161 : decode cX6_putTogether 161 = .ok (.iload 5, 2) := by decide +kernel
theorem dX6_putTogether_163 : decode cX6_putTogether 163 = .ok (.putfield 186, 3) := by decide +kernel
theorem dX6_putTogether_166 : decode cX6_putTogether 166 = .ok (.return_, 1) := by decide +kernel
end
section
section IWB
/-! THE INDEXED WORLD: a world is N cells, cell j at the address ad j, holding C j; the kinds 0 to 6 are the class's own -/
abbrev vwB : List vw_C := [(RX0, TX0, 3), (RX1, TX1, 5), (RX2, TX2, 2), (RX3, TX3, 3), (RX4, TX4, 3), (RX5, TX5, 3), (RX6, TX6, 9)]
def wl (N : Nat) (ad : Nat → Nat) (C : Nat → va_E) : va_W := (List.range N).map (fun j => (ad j, C j))
theorem wl_get {N : Nat} {ad : Nat → Nat} {C : Nat → va_E} {j : Nat} {e : va_E} (h : j < N) (he : C j = e) : (wl N ad C)[j]? = some (ad j, e) := by
  unfold wl
  rw [List.getElem?_map, List.getElem?_range h]
  simp [he]
theorem wl_at {N : Nat} {ad : Nat → Nat} {C : Nat → va_E} {i : Nat} {p : Nat × va_E} (h : (wl N ad C)[i]? = some p) : i < N ∧ p = (ad i, C i) := by
  unfold wl at h
  rcases Nat.lt_or_ge i N with q | q
  · rw [List.getElem?_map, List.getElem?_range q] at h
    exact ⟨q, (Option.some.inj h).symm⟩
  · rw [List.getElem?_eq_none (by simpa using q)] at h
    cases h
theorem wl_out {N : Nat} {ad : Nat → Nat} {C : Nat → va_E} {i : Nat} (q : N ≤ i) : (wl N ad C)[i]? = none := List.getElem?_eq_none (by simpa [wl] using q)
theorem va_us {α : Type} (f : Nat → α) (k : Nat) (v : α) : va_up f k v k = v := by simp [va_up]
theorem va_un {α : Type} (f : Nat → α) {k j : Nat} (v : α) (h : j ≠ k) : va_up f k v j = f j := by simp [va_up, h]
theorem va_uu {α : Type} (f : Nat → α) (k : Nat) (v w : α) : va_up (va_up f k v) k w = va_up f k w := by
  funext j
  by_cases h : j = k <;> simp [va_up, h]
theorem va_uc {α : Type} (f : Nat → α) {k j : Nat} (v w : α) (h : k ≠ j) : va_up (va_up f k v) j w = va_up (va_up f j w) k v := by
  funext i
  by_cases h1 : i = k
  · subst h1
    simp [va_up, h]
  · by_cases h2 : i = j
    · subst h2
      simp [va_up, h1]
    · simp [va_up, h1, h2]
theorem va_self {α : Type} (f : Nat → α) {k : Nat} {v : α} (h : f k = v) : va_up f k v = f := by
  funext i
  by_cases h1 : i = k
  · subst h1
    simp [va_up, h]
  · simp [va_up, h1]
theorem wl_set {N : Nat} {ad : Nat → Nat} {C : Nat → va_E} {j : Nat} {e : va_E} (h : j < N) : (wl N ad C).set j (ad j, e) = wl N ad (va_up C j e) := by
  apply List.ext_getElem?
  intro i
  by_cases hi : i = j
  · subst hi
    rw [List.getElem?_set_self (by simpa [wl] using h), wl_get h (va_us C i e)]
  · rw [List.getElem?_set_ne (Ne.symm hi)]
    rcases Nat.lt_or_ge i N with q | q
    · rw [wl_get q rfl, wl_get q (va_un C e hi)]
    · rw [wl_out q, wl_out q]
theorem wl_D {A : Nat → Prop} {N : Nat} {ad : Nat → Nat} {C : Nat → va_E} (h : va_D A (wl N ad C)) (C' : Nat → va_E) : va_D A (wl N ad C') := by
  refine ⟨fun i j p q hp hq e => ?_, fun k q hq => ?_⟩
  · obtain ⟨h1, rfl⟩ := wl_at hp
    obtain ⟨h2, rfl⟩ := wl_at hq
    exact h.1 i j _ _ (wl_get h1 rfl) (wl_get h2 rfl) e
  · obtain ⟨h1, rfl⟩ := wl_at hq
    show A (ad k)
    exact h.2 k (ad k, C k) (wl_get h1 rfl)
/-- what a method may change: the world's cells, and what it makes -/
def iA (N : Nat) (ad : Nat → Nat) (sz : Nat) : Nat → Prop := fun q => (∃ j, j < N ∧ q = ad j) ∨ sz ≤ q
theorem wl_self {A : Nat → Prop} {N : Nat} {ad : Nat → Nat} {C : Nat → va_E} (h : va_D A (wl N ad C)) (sz : Nat) : va_D (iA N ad sz) (wl N ad C) := by
  refine ⟨h.1, fun k q hq => ?_⟩
  obtain ⟨h1, rfl⟩ := wl_at hq
  exact Or.inl ⟨k, h1, rfl⟩
theorem iA_free {A : Nat → Prop} {N : Nat} {ad : Nat → Nat} {C : Nat → va_E} {H0 H : Heap} {locs : List Loc} (hD : va_D A (wl N ad C)) (hS : va_S A H0 H locs) (hA : ∀ q, H0.size ≤ q → A q) : ∀ q, iA N ad H.size q → A q := by
  intro q hq
  rcases hq with ⟨j, hj, rfl⟩ | hq
  · exact hD.2 j _ (wl_get hj rfl)
  · exact hA q (Nat.le_trans hS.1 hq)
theorem ad_ne {A : Nat → Prop} {N : Nat} {ad : Nat → Nat} {C : Nat → va_E} (hD : va_D A (wl N ad C)) {i j : Nat} (hi : i < N) (hj : j < N) (h : i ≠ j) : ad i ≠ ad j := fun e => h (hD.1 i j _ _ (wl_get hi rfl) (wl_get hj rfl) e)
/-- the tables' part: classes, the arrays' classes (0 int, 1 float, 2 boolean, 3 Frame, 4 StoredFile) -/
abbrev iG : Type := va_G × (Nat → ClassId)
abbrev iT (G : iG) : List (ClassId × FieldType) := [(G.2 0, .int), (G.2 1, .float), (G.2 2, .boolean), (G.2 3, .object RX1), (G.2 4, .object RX5)]
abbrev ia (G : iG) (n : Nat) (f : Nat → Int32) : va_E := .inl (G.2 0, n, .inl f)
abbrev fa (G : iG) (n : Nat) (f : Nat → UInt32) : va_E := .inl (G.2 1, n, .inr (.inr (.inl f)))
abbrev za (G : iG) (n : Nat) (f : Nat → Int32) : va_E := .inl (G.2 2, n, .inl f)
abbrev ob (k : Nat) (fs : List Value) : va_E := .inr (k, fs)
abbrev ra (G : iG) (k n : Nat) (f : Nat → Option Nat) : va_E := .inl (G.2 k, n, .inr (.inr (.inr (.inr f))))
def nestW : List Cond := [.methodLinkNest RX1 17 yX0_init RX6,
  .methodLinkNest RX1 32 yX6_colourSeen RX6,
  .methodLinkNest RX1 36 yX6_placeOf RX6,
  .fieldLinkNest RX2 36 "BayerGate$EditRow" "kinds" "[I" RX6,
  .fieldLinkNest RX2 39 "BayerGate$EditRow" "numbers" "[I" RX6,
  .methodLinkNest RX2 54 yX6_placeOf RX6,
  .methodLinkNest RX2 61 yX6_isPlace RX6,
  .methodLinkNest RX2 65 yX6_colourSeen RX6,
  .methodLinkNest RX4 23 yX6_placeOf RX6,
  .methodLinkNest RX4 27 yX6_colourSeen RX6,
  .fieldLinkNest RX4 36 "BayerGate$Frame" "rawRow" "[I" RX6,
  .fieldLinkNest RX4 45 "BayerGate$Frame" "time" "I" RX6,
  .fieldLinkNest RX4 48 "BayerGate$Frame" "gain" "I" RX6,
  .methodLinkNest RX5 9 yX0_init RX6,
  .methodLinkNest RX6 18 yX4_init RX6,
  .methodLinkNest RX6 42 yX1_init RX6,
  .methodLinkNest RX6 49 yX2_init RX6,
  .methodLinkNest RX6 57 yX5_init RX6,
  .fieldLinkNest RX6 136 "BayerGate$Frame" "edits" "LBayerGate$EditRow;" RX6,
  .fieldLinkNest RX6 158 "BayerGate$Frame" "rawRow" "[I" RX6,
  .fieldLinkNest RX6 166 "BayerGate$Picture" "numbers" "[F" RX6,
  .fieldLinkNest RX6 177 "BayerGate$Frame" "time" "I" RX6,
  .fieldLinkNest RX6 180 "BayerGate$Frame" "gain" "I" RX6,
  .fieldLinkNest RX6 186 "BayerGate$Frame" "ghosts" "I" RX6,
  .fieldLinkNest RX6 198 "BayerGate$EditRow" "kinds" "[I" RX6,
  .fieldLinkNest RX6 201 "BayerGate$EditRow" "numbers" "[I" RX6,
  .fieldLinkNest RX6 211 "BayerGate$StoredFile" "frame" "I" RX6,
  .fieldLinkNest RX6 214 "BayerGate$StoredFile" "version" "I" RX6,
  .fieldLinkNest RX6 217 "BayerGate$StoredFile" "edits" "LBayerGate$EditRow;" RX6,
  .fieldLinkNest RX6 228 "BayerGate$Sensor" "draw" "I" RX6,
  .fieldLinkNest RX6 242 "BayerGate$Sensor" "mapped" "[Z" RX6]
def NW (U : State) : Prop := ∀ w ∈ nestW, va_Nw w U
theorem NW_warm {s U : State} (hW : s.WarmedH U.vm) (h : NW s) : NW U := by
  intro w hw
  have h1 := h w hw
  simp only [nestW, List.mem_cons, List.not_mem_nil, or_false] at hw
  rcases hw with rfl | rfl | rfl | rfl | rfl | rfl | rfl | rfl | rfl | rfl | rfl | rfl | rfl | rfl | rfl | rfl | rfl | rfl | rfl | rfl | rfl | rfl | rfl | rfl | rfl | rfl | rfl | rfl | rfl | rfl | rfl
  · exact va_Nw.warmM hW h1
  · exact va_Nw.warmM hW h1
  · exact va_Nw.warmM hW h1
  · exact va_Nw.warmF hW h1
  · exact va_Nw.warmF hW h1
  · exact va_Nw.warmM hW h1
  · exact va_Nw.warmM hW h1
  · exact va_Nw.warmM hW h1
  · exact va_Nw.warmM hW h1
  · exact va_Nw.warmM hW h1
  · exact va_Nw.warmF hW h1
  · exact va_Nw.warmF hW h1
  · exact va_Nw.warmF hW h1
  · exact va_Nw.warmM hW h1
  · exact va_Nw.warmM hW h1
  · exact va_Nw.warmM hW h1
  · exact va_Nw.warmM hW h1
  · exact va_Nw.warmM hW h1
  · exact va_Nw.warmF hW h1
  · exact va_Nw.warmF hW h1
  · exact va_Nw.warmF hW h1
  · exact va_Nw.warmF hW h1
  · exact va_Nw.warmF hW h1
  · exact va_Nw.warmF hW h1
  · exact va_Nw.warmF hW h1
  · exact va_Nw.warmF hW h1
  · exact va_Nw.warmF hW h1
  · exact va_Nw.warmF hW h1
  · exact va_Nw.warmF hW h1
  · exact va_Nw.warmF hW h1
  · exact va_Nw.warmF hW h1
theorem NW_same {u U : State} (hv : u.vm = U.vm) (h : NW u) : NW U := by
  intro w hw
  have h1 := h w hw
  simp only [nestW, List.mem_cons, List.not_mem_nil, or_false] at hw
  rcases hw with rfl | rfl | rfl | rfl | rfl | rfl | rfl | rfl | rfl | rfl | rfl | rfl | rfl | rfl | rfl | rfl | rfl | rfl | rfl | rfl | rfl | rfl | rfl | rfl | rfl | rfl | rfl | rfl | rfl | rfl | rfl <;> exact va_Nw.same rfl hv h1
theorem nw_RX1_17 {U : State} (h : NW U) : va_Nw (.methodLinkNest RX1 17 yX0_init RX6) U := h _ (List.mem_of_getElem? (i := 0) rfl)
theorem nw_RX1_32 {U : State} (h : NW U) : va_Nw (.methodLinkNest RX1 32 yX6_colourSeen RX6) U := h _ (List.mem_of_getElem? (i := 1) rfl)
theorem nw_RX1_36 {U : State} (h : NW U) : va_Nw (.methodLinkNest RX1 36 yX6_placeOf RX6) U := h _ (List.mem_of_getElem? (i := 2) rfl)
theorem nw_RX2_36 {U : State} (h : NW U) : va_Nw (.fieldLinkNest RX2 36 "BayerGate$EditRow" "kinds" "[I" RX6) U := h _ (List.mem_of_getElem? (i := 3) rfl)
theorem nw_RX2_39 {U : State} (h : NW U) : va_Nw (.fieldLinkNest RX2 39 "BayerGate$EditRow" "numbers" "[I" RX6) U := h _ (List.mem_of_getElem? (i := 4) rfl)
theorem nw_RX2_54 {U : State} (h : NW U) : va_Nw (.methodLinkNest RX2 54 yX6_placeOf RX6) U := h _ (List.mem_of_getElem? (i := 5) rfl)
theorem nw_RX2_61 {U : State} (h : NW U) : va_Nw (.methodLinkNest RX2 61 yX6_isPlace RX6) U := h _ (List.mem_of_getElem? (i := 6) rfl)
theorem nw_RX2_65 {U : State} (h : NW U) : va_Nw (.methodLinkNest RX2 65 yX6_colourSeen RX6) U := h _ (List.mem_of_getElem? (i := 7) rfl)
theorem nw_RX4_23 {U : State} (h : NW U) : va_Nw (.methodLinkNest RX4 23 yX6_placeOf RX6) U := h _ (List.mem_of_getElem? (i := 8) rfl)
theorem nw_RX4_27 {U : State} (h : NW U) : va_Nw (.methodLinkNest RX4 27 yX6_colourSeen RX6) U := h _ (List.mem_of_getElem? (i := 9) rfl)
theorem nw_RX4_36 {U : State} (h : NW U) : va_Nw (.fieldLinkNest RX4 36 "BayerGate$Frame" "rawRow" "[I" RX6) U := h _ (List.mem_of_getElem? (i := 10) rfl)
theorem nw_RX4_45 {U : State} (h : NW U) : va_Nw (.fieldLinkNest RX4 45 "BayerGate$Frame" "time" "I" RX6) U := h _ (List.mem_of_getElem? (i := 11) rfl)
theorem nw_RX4_48 {U : State} (h : NW U) : va_Nw (.fieldLinkNest RX4 48 "BayerGate$Frame" "gain" "I" RX6) U := h _ (List.mem_of_getElem? (i := 12) rfl)
theorem nw_RX5_9 {U : State} (h : NW U) : va_Nw (.methodLinkNest RX5 9 yX0_init RX6) U := h _ (List.mem_of_getElem? (i := 13) rfl)
theorem nw_RX6_18 {U : State} (h : NW U) : va_Nw (.methodLinkNest RX6 18 yX4_init RX6) U := h _ (List.mem_of_getElem? (i := 14) rfl)
theorem nw_RX6_42 {U : State} (h : NW U) : va_Nw (.methodLinkNest RX6 42 yX1_init RX6) U := h _ (List.mem_of_getElem? (i := 15) rfl)
theorem nw_RX6_49 {U : State} (h : NW U) : va_Nw (.methodLinkNest RX6 49 yX2_init RX6) U := h _ (List.mem_of_getElem? (i := 16) rfl)
theorem nw_RX6_57 {U : State} (h : NW U) : va_Nw (.methodLinkNest RX6 57 yX5_init RX6) U := h _ (List.mem_of_getElem? (i := 17) rfl)
theorem nw_RX6_136 {U : State} (h : NW U) : va_Nw (.fieldLinkNest RX6 136 "BayerGate$Frame" "edits" "LBayerGate$EditRow;" RX6) U := h _ (List.mem_of_getElem? (i := 18) rfl)
theorem nw_RX6_158 {U : State} (h : NW U) : va_Nw (.fieldLinkNest RX6 158 "BayerGate$Frame" "rawRow" "[I" RX6) U := h _ (List.mem_of_getElem? (i := 19) rfl)
theorem nw_RX6_166 {U : State} (h : NW U) : va_Nw (.fieldLinkNest RX6 166 "BayerGate$Picture" "numbers" "[F" RX6) U := h _ (List.mem_of_getElem? (i := 20) rfl)
theorem nw_RX6_177 {U : State} (h : NW U) : va_Nw (.fieldLinkNest RX6 177 "BayerGate$Frame" "time" "I" RX6) U := h _ (List.mem_of_getElem? (i := 21) rfl)
theorem nw_RX6_180 {U : State} (h : NW U) : va_Nw (.fieldLinkNest RX6 180 "BayerGate$Frame" "gain" "I" RX6) U := h _ (List.mem_of_getElem? (i := 22) rfl)
theorem nw_RX6_186 {U : State} (h : NW U) : va_Nw (.fieldLinkNest RX6 186 "BayerGate$Frame" "ghosts" "I" RX6) U := h _ (List.mem_of_getElem? (i := 23) rfl)
theorem nw_RX6_198 {U : State} (h : NW U) : va_Nw (.fieldLinkNest RX6 198 "BayerGate$EditRow" "kinds" "[I" RX6) U := h _ (List.mem_of_getElem? (i := 24) rfl)
theorem nw_RX6_201 {U : State} (h : NW U) : va_Nw (.fieldLinkNest RX6 201 "BayerGate$EditRow" "numbers" "[I" RX6) U := h _ (List.mem_of_getElem? (i := 25) rfl)
theorem nw_RX6_211 {U : State} (h : NW U) : va_Nw (.fieldLinkNest RX6 211 "BayerGate$StoredFile" "frame" "I" RX6) U := h _ (List.mem_of_getElem? (i := 26) rfl)
theorem nw_RX6_214 {U : State} (h : NW U) : va_Nw (.fieldLinkNest RX6 214 "BayerGate$StoredFile" "version" "I" RX6) U := h _ (List.mem_of_getElem? (i := 27) rfl)
theorem nw_RX6_217 {U : State} (h : NW U) : va_Nw (.fieldLinkNest RX6 217 "BayerGate$StoredFile" "edits" "LBayerGate$EditRow;" RX6) U := h _ (List.mem_of_getElem? (i := 28) rfl)
theorem nw_RX6_228 {U : State} (h : NW U) : va_Nw (.fieldLinkNest RX6 228 "BayerGate$Sensor" "draw" "I" RX6) U := h _ (List.mem_of_getElem? (i := 29) rfl)
theorem nw_RX6_242 {U : State} (h : NW U) : va_Nw (.fieldLinkNest RX6 242 "BayerGate$Sensor" "mapped" "[Z" RX6) U := h _ (List.mem_of_getElem? (i := 30) rfl)
abbrev KB (G : iG) (U : State) : Prop := va_K G.1 vwB (iT G) U ∧ NW U
theorem KB_warm {G : iG} {s U : State} (hW : s.WarmedH U.vm) (h : KB G s) : KB G U := ⟨va_K.moved hW.alike h.1, NW_warm hW h.2⟩
/-- a contract's start -/
abbrev iPre (G : iG) (N : Nat) (ad : Nat → Nat) (C : Nat → va_E) (sz : Nat) (av : List Value) : Array Value → State → Prop := va_Pc av (fun U => U.heap.size = sz ∧ va_P G.1 vwB (wl N ad C) U.heap ∧ KB G U ∧ va_D (fun _ => True) (wl N ad C))
/-- the world behind it -/
abbrev iB (G : iG) (N : Nat) (ad : Nat → Nat) : (Nat → va_E) → State → Prop := fun u t => va_P G.1 vwB (wl N ad u) t.heap
theorem iB_of {G : iG} {N : Nat} {ad : Nat → Nat} {C : Nat → va_E} {t : State} {H : Heap} (ht : t.heap = H) (hP : va_P G.1 vwB (wl N ad C) H) : iB G N ad C t := by
  show va_P G.1 vwB (wl N ad C) t.heap
  rw [ht]
  exact hP
theorem iblind {G : iG} {N : Nat} {ad : Nat → Nat} {C : Nat → va_E} {sz : Nat} {av : List Value} : FrameBlind (iPre G N ad C sz av) := fun a U g mk q => by
  obtain ⟨q0, q1, q2, qK, qD⟩ := q
  exact ⟨q0, q1, q2, ⟨va_K.moved (u := U) (U := U.calling g mk a) (Vm.Alike.refl U.vm) qK.1, NW_same (u := U) (U := U.calling g mk a) rfl qK.2⟩, qD⟩
theorem iPS {G : iG} {N : Nat} {ad : Nat → Nat} {C : Nat → va_E} {s : State} {H : Heap} {A : Nat → Prop} (hK : KB G s) (hP : va_P G.1 vwB (wl N ad C) H) (hD : va_D A (wl N ad C)) (As : List Value) : PreS s H (iPre G N ad C H.size As) As := ⟨iblind, fun U hU hW => ⟨rfl, by rw [hU], by rw [hU]; exact hP, KB_warm hW hK, hD.weaken (fun _ _ _ _ => trivial)⟩⟩
theorem iPV {G : iG} {N : Nat} {ad : Nat → Nat} {C : Nat → va_E} {s : State} {H : Heap} {A : Nat → Prop} (hK : KB G s) (hP : va_P G.1 vwB (wl N ad C) H) (hD : va_D A (wl N ad C)) {j ci : Nat} {q : vw_C} {fs : List Value} (hj : j < N) (hc : C j = ob ci fs) (hq : vwB[ci]? = some q) (As : List Value) : PreV s H q.1 (ad j) (iPre G N ad C H.size (.ref (ad j) :: As)) As := ⟨iblind, va_recv hK.1 hP hq (wl_get hj hc), fun U hU hW => ⟨rfl, by rw [hU], by rw [hU]; exact hP, KB_warm hW hK, hD.weaken (fun _ _ _ _ => trivial)⟩⟩
end IWB
section IWC
variable {p : Program} {l : Launch} {e : Env} {R : Room} {s : State} {m : MethodId} {args : Array Value} {below : List Frame} {meth : Method} {c : Code} {H : Heap} {locs : List Loc} {cells slots : Nat} {Q : State → Prop}
variable {pc : Nat} {ls : Array Slot} {rest st0 : List Value} {a : Array Value} {A : Nat → Prop} {H0 : Heap} {G : iG} {N : Nat} {ad : Nat → Nat} {C : Nat → va_E}
theorem iw_i {post : Int32 → (Nat → va_E) → Prop} (hr : va_Run p l e R s m args below meth c H locs cells slots 0 0 (F0 m pc ls st0) rest (va_Qi post (iB G N ad) (iA N ad H.size) a) (iA N ad H.size)) (hD : va_D A (wl N ad C)) (hS : va_S A H0 H locs) (hA : ∀ q, H0.size ≤ q → A q)
    (kk : ∀ (r : Int32) (u : Nat → va_E) (H1 : Heap) (locs1 : List Loc), post r u → va_P G.1 vwB (wl N ad u) H1 → va_D A (wl N ad u) → va_S A H0 H1 locs1 → W p l e R s m args below meth c H1 locs1 cells slots Q (F0 m (pc + 3) ls (.int r :: rest))) : W p l e R s m args below meth c H locs cells slots Q (F0 m pc ls st0) :=
  va_calli hr hS (fun q _ h => iA_free hD hS hA q h) (iA_free hD hS hA) (fun r u t H1 locs1 ht hvm hw hB hz1 hk1 hS => kk r u H1 locs1 hw (by rw [← ht]; exact hB) (wl_D hD u) hS)
theorem iw_l {post : Int64 → (Nat → va_E) → Prop} (hr : va_Run p l e R s m args below meth c H locs cells slots 0 0 (F0 m pc ls st0) rest (va_Ql post (iB G N ad) (iA N ad H.size) a) (iA N ad H.size)) (hD : va_D A (wl N ad C)) (hS : va_S A H0 H locs) (hA : ∀ q, H0.size ≤ q → A q)
    (kk : ∀ (r : Int64) (u : Nat → va_E) (H1 : Heap) (locs1 : List Loc), post r u → va_P G.1 vwB (wl N ad u) H1 → va_D A (wl N ad u) → va_S A H0 H1 locs1 → W p l e R s m args below meth c H1 locs1 cells slots Q (F0 m (pc + 3) ls (.long r :: rest))) : W p l e R s m args below meth c H locs cells slots Q (F0 m pc ls st0) :=
  va_calll hr hS (fun q _ h => iA_free hD hS hA q h) (iA_free hD hS hA) (fun r u t H1 locs1 ht hvm hw hB hz1 hk1 hS => kk r u H1 locs1 hw (by rw [← ht]; exact hB) (wl_D hD u) hS)
theorem iw_f {post : UInt32 → (Nat → va_E) → Prop} (hr : va_Run p l e R s m args below meth c H locs cells slots 0 0 (F0 m pc ls st0) rest (va_Qf post (iB G N ad) (iA N ad H.size) a) (iA N ad H.size)) (hD : va_D A (wl N ad C)) (hS : va_S A H0 H locs) (hA : ∀ q, H0.size ≤ q → A q)
    (kk : ∀ (r : UInt32) (u : Nat → va_E) (H1 : Heap) (locs1 : List Loc), post r u → va_P G.1 vwB (wl N ad u) H1 → va_D A (wl N ad u) → va_S A H0 H1 locs1 → W p l e R s m args below meth c H1 locs1 cells slots Q (F0 m (pc + 3) ls (.float r :: rest))) : W p l e R s m args below meth c H locs cells slots Q (F0 m pc ls st0) :=
  va_callf hr hS (fun q _ h => iA_free hD hS hA q h) (iA_free hD hS hA) (fun r u t H1 locs1 ht hvm hw hB hz1 hk1 hS => kk r u H1 locs1 hw (by rw [← ht]; exact hB) (wl_D hD u) hS)
theorem iw_d {post : UInt64 → (Nat → va_E) → Prop} (hr : va_Run p l e R s m args below meth c H locs cells slots 0 0 (F0 m pc ls st0) rest (va_Qd post (iB G N ad) (iA N ad H.size) a) (iA N ad H.size)) (hD : va_D A (wl N ad C)) (hS : va_S A H0 H locs) (hA : ∀ q, H0.size ≤ q → A q)
    (kk : ∀ (r : UInt64) (u : Nat → va_E) (H1 : Heap) (locs1 : List Loc), post r u → va_P G.1 vwB (wl N ad u) H1 → va_D A (wl N ad u) → va_S A H0 H1 locs1 → W p l e R s m args below meth c H1 locs1 cells slots Q (F0 m (pc + 3) ls (.double r :: rest))) : W p l e R s m args below meth c H locs cells slots Q (F0 m pc ls st0) :=
  va_calld hr hS (fun q _ h => iA_free hD hS hA q h) (iA_free hD hS hA) (fun r u t H1 locs1 ht hvm hw hB hz1 hk1 hS => kk r u H1 locs1 hw (by rw [← ht]; exact hB) (wl_D hD u) hS)
theorem iw_v {post : (Nat → va_E) → Prop} (hr : va_Run p l e R s m args below meth c H locs cells slots 0 0 (F0 m pc ls st0) rest (va_Qv post (iB G N ad) (iA N ad H.size) a) (iA N ad H.size)) (hD : va_D A (wl N ad C)) (hS : va_S A H0 H locs) (hA : ∀ q, H0.size ≤ q → A q)
    (kk : ∀ (u : Nat → va_E) (H1 : Heap) (locs1 : List Loc), post u → va_P G.1 vwB (wl N ad u) H1 → va_D A (wl N ad u) → va_S A H0 H1 locs1 → W p l e R s m args below meth c H1 locs1 cells slots Q (F0 m (pc + 3) ls (rest))) : W p l e R s m args below meth c H locs cells slots Q (F0 m pc ls st0) :=
  va_callv hr hS (fun q _ h => iA_free hD hS hA q h) (iA_free hD hS hA) (fun u t H1 locs1 ht hvm hw hB hz1 hk1 hS => kk u H1 locs1 hw (by rw [← ht]; exact hB) (wl_D hD u) hS)
theorem iw_iald {cc : ByteArray} (hexec : p.tables.exec = Jvm.exec) (hb : c.code = cc) (hK : KB G s) (hP : va_P G.1 vwB (wl N ad C) H) {j n : Nat} {f : Nat → Int32} (hj : j < N) (hc : C j = ia G n f) {i : Int32} {v : Int32} (hin : vp_in i n) (hv : f i.toNatClampNeg = v) (hdg : decode cc pc = .ok (.iaload, 1))
    (kk : W p l e R s m args below meth c H locs cells slots Q (F0 m (pc + 1) ls (.int v :: rest))) : W p l e R s m args below meth c H locs cells slots Q (F0 m pc ls (.int i :: .ref (ad j) :: rest)) := by
  subst hv
  exact va_iald hexec hb hK.1 hP j 0 (wl_get hj hc) rfl hin hdg kk
theorem iw_zald {cc : ByteArray} (hexec : p.tables.exec = Jvm.exec) (hb : c.code = cc) (hK : KB G s) (hP : va_P G.1 vwB (wl N ad C) H) {j n : Nat} {f : Nat → Int32} (hj : j < N) (hc : C j = za G n f) {i : Int32} {v : Int32} (hin : vp_in i n) (hv : f i.toNatClampNeg = v) (hdg : decode cc pc = .ok (.baload, 1))
    (kk : W p l e R s m args below meth c H locs cells slots Q (F0 m (pc + 1) ls (.int v :: rest))) : W p l e R s m args below meth c H locs cells slots Q (F0 m pc ls (.int i :: .ref (ad j) :: rest)) := by
  subst hv
  exact va_zald hexec hb hK.1 hP j 2 (wl_get hj hc) rfl hin hdg kk
theorem iw_fald {cc : ByteArray} (hexec : p.tables.exec = Jvm.exec) (hb : c.code = cc) (hK : KB G s) (hP : va_P G.1 vwB (wl N ad C) H) {j n : Nat} {f : Nat → UInt32} (hj : j < N) (hc : C j = fa G n f) {i : Int32} {v : UInt32} (hin : vp_in i n) (hv : f i.toNatClampNeg = v) (hdg : decode cc pc = .ok (.faload, 1))
    (kk : W p l e R s m args below meth c H locs cells slots Q (F0 m (pc + 1) ls (.float v :: rest))) : W p l e R s m args below meth c H locs cells slots Q (F0 m pc ls (.int i :: .ref (ad j) :: rest)) := by
  subst hv
  exact va_fald hexec hb hK.1 hP j 1 (wl_get hj hc) rfl hin hdg kk
theorem iw_ralM {cc : ByteArray} (hexec : p.tables.exec = Jvm.exec) (hb : c.code = cc) (hK : KB G s) (hP : va_P G.1 vwB (wl N ad C) H) {j n : Nat} {f : Nat → Option Nat} (hj : j < N) (hc : C j = ra G 3 n f) {i : Int32} {v : Nat} (hin : vp_in i n) (hv : f i.toNatClampNeg = some v) (hdg : decode cc pc = .ok (.aaload, 1))
    (kk : W p l e R s m args below meth c H locs cells slots Q (F0 m (pc + 1) ls (.ref v :: rest))) : W p l e R s m args below meth c H locs cells slots Q (F0 m pc ls (.int i :: .ref (ad j) :: rest)) :=
  va_aldq hexec hb hK.1 hP j 3 (wl_get hj hc) rfl hin hdg (by rw [hv]; exact kk)
theorem iw_ralS {cc : ByteArray} (hexec : p.tables.exec = Jvm.exec) (hb : c.code = cc) (hK : KB G s) (hP : va_P G.1 vwB (wl N ad C) H) {j n : Nat} {f : Nat → Option Nat} (hj : j < N) (hc : C j = ra G 4 n f) {i : Int32} {v : Nat} (hin : vp_in i n) (hv : f i.toNatClampNeg = some v) (hdg : decode cc pc = .ok (.aaload, 1))
    (kk : W p l e R s m args below meth c H locs cells slots Q (F0 m (pc + 1) ls (.ref v :: rest))) : W p l e R s m args below meth c H locs cells slots Q (F0 m pc ls (.int i :: .ref (ad j) :: rest)) :=
  va_aldq hexec hb hK.1 hP j 4 (wl_get hj hc) rfl hin hdg (by rw [hv]; exact kk)
theorem iw_iast {cc : ByteArray} (hexec : p.tables.exec = Jvm.exec) (hb : c.code = cc) (hK : KB G s) (hP : va_P G.1 vwB (wl N ad C) H) (hD : va_D A (wl N ad C)) (hS : va_S A H0 H locs) {j n : Nat} {f : Nat → Int32} (hj : j < N) (hc : C j = ia G n f) {i x : Int32} {k : Nat} (hin : vp_in i n) (hk : i.toNatClampNeg = k) (hdg : decode cc pc = .ok (.iastore, 1))
    (kk : ∀ (H1 : Heap) (locs1 : List Loc), va_P G.1 vwB (wl N ad (va_up C j (ia G n (upd f k x)))) H1 → va_D A (wl N ad (va_up C j (ia G n (upd f k x)))) → va_S A H0 H1 locs1 → W p l e R s m args below meth c H1 locs1 cells slots Q (F0 m (pc + 1) ls rest)) : W p l e R s m args below meth c H locs cells slots Q (F0 m pc ls (.int x :: .int i :: .ref (ad j) :: rest)) := by
  subst hk
  exact va_iast hexec hb hK.1 hP hD hS j 0 (wl_get hj hc) rfl hin hdg (fun H1 locs1 h1 h2 h3 => kk H1 locs1 (by rw [← wl_set hj]; exact h1) (by rw [← wl_set hj]; exact h2) h3)
theorem iw_zast {cc : ByteArray} (hexec : p.tables.exec = Jvm.exec) (hb : c.code = cc) (hK : KB G s) (hP : va_P G.1 vwB (wl N ad C) H) (hD : va_D A (wl N ad C)) (hS : va_S A H0 H locs) {j n : Nat} {f : Nat → Int32} (hj : j < N) (hc : C j = za G n f) {i x y : Int32} {k : Nat} (hin : vp_in i n) (hk : i.toNatClampNeg = k) (hy : vp_nar .boolean x = y) (hdg : decode cc pc = .ok (.bastore, 1))
    (kk : ∀ (H1 : Heap) (locs1 : List Loc), va_P G.1 vwB (wl N ad (va_up C j (za G n (upd f k y)))) H1 → va_D A (wl N ad (va_up C j (za G n (upd f k y)))) → va_S A H0 H1 locs1 → W p l e R s m args below meth c H1 locs1 cells slots Q (F0 m (pc + 1) ls rest)) : W p l e R s m args below meth c H locs cells slots Q (F0 m pc ls (.int x :: .int i :: .ref (ad j) :: rest)) := by
  subst hk; subst hy
  exact va_zast hexec hb hK.1 hP hD hS j 2 (wl_get hj hc) rfl hin hdg (fun H1 locs1 h1 h2 h3 => kk H1 locs1 (by rw [← wl_set hj]; exact h1) (by rw [← wl_set hj]; exact h2) h3)
theorem iw_fast {cc : ByteArray} (hexec : p.tables.exec = Jvm.exec) (hb : c.code = cc) (hK : KB G s) (hP : va_P G.1 vwB (wl N ad C) H) (hD : va_D A (wl N ad C)) (hS : va_S A H0 H locs) {j n : Nat} {f : Nat → UInt32} (hj : j < N) (hc : C j = fa G n f) {i : Int32} {x : UInt32} {k : Nat} (hin : vp_in i n) (hk : i.toNatClampNeg = k) (hdg : decode cc pc = .ok (.fastore, 1))
    (kk : ∀ (H1 : Heap) (locs1 : List Loc), va_P G.1 vwB (wl N ad (va_up C j (fa G n (vf_upd f k x)))) H1 → va_D A (wl N ad (va_up C j (fa G n (vf_upd f k x)))) → va_S A H0 H1 locs1 → W p l e R s m args below meth c H1 locs1 cells slots Q (F0 m (pc + 1) ls rest)) : W p l e R s m args below meth c H locs cells slots Q (F0 m pc ls (.float x :: .int i :: .ref (ad j) :: rest)) := by
  subst hk
  exact va_fast hexec hb hK.1 hP hD hS j 1 (wl_get hj hc) rfl hin hdg (fun H1 locs1 h1 h2 h3 => kk H1 locs1 (by rw [← wl_set hj]; exact h1) (by rw [← wl_set hj]; exact h2) h3)
theorem iw_alenI {cc : ByteArray} (hexec : p.tables.exec = Jvm.exec) (hb : c.code = cc) (hK : KB G s) (hP : va_P G.1 vwB (wl N ad C) H) {j n : Nat} {f : Nat → Int32} (hj : j < N) (hc : C j = ia G n f) {v : Int32} (hv : Int32.ofNat n = v) (hdg : decode cc pc = .ok (.arraylength, 1))
    (kk : W p l e R s m args below meth c H locs cells slots Q (F0 m (pc + 1) ls (.int v :: rest))) : W p l e R s m args below meth c H locs cells slots Q (F0 m pc ls (.ref (ad j) :: rest)) :=
  va_alen hexec hb hK.1 hP j 0 (wl_get hj hc) rfl hv hdg kk
theorem iw_alenF {cc : ByteArray} (hexec : p.tables.exec = Jvm.exec) (hb : c.code = cc) (hK : KB G s) (hP : va_P G.1 vwB (wl N ad C) H) {j n : Nat} {f : Nat → UInt32} (hj : j < N) (hc : C j = fa G n f) {v : Int32} (hv : Int32.ofNat n = v) (hdg : decode cc pc = .ok (.arraylength, 1))
    (kk : W p l e R s m args below meth c H locs cells slots Q (F0 m (pc + 1) ls (.int v :: rest))) : W p l e R s m args below meth c H locs cells slots Q (F0 m pc ls (.ref (ad j) :: rest)) :=
  va_alen hexec hb hK.1 hP j 1 (wl_get hj hc) rfl hv hdg kk
/-- a field is read: own class or nest mate, the link as it comes -/
theorem iw_get {cc : ByteArray} (hexec : p.tables.exec = Jvm.exec) (hb : c.code = cc) {own ref Cn : String} {T : u_T} {n ci index : Nat} {Ts : List Cond} (hts : ∀ w ∈ Ts, w.before args s = true) (hin : ∀ w ∈ u_ws Cn T n, w ∈ Ts) (hown : s.vm.findClass own = some m.cls) (hK : KB G s) (hP : va_P G.1 vwB (wl N ad C) H) {j : Nat} (hj : j < N) {fs : List Value} (he : C j = ob ci fs) (hc : vwB[ci]? = some (Cn, T, n)) (k : Nat) (hk : k < n) (hlink : (Cond.fieldLink own index ref (T k).2.1 (T k).2.2.1).before args s = true) (hsame : ∀ x, s.fieldFound? (T k).1 (T k).2.1 (T k).2.2.1 = some x → s.fieldFound? ref (T k).2.1 (T k).2.2.1 = some x) {v : Value} (hv : fs[k]? = some v) (hdg : decode cc pc = .ok (.getfield index, 3))
    (kk : W p l e R s m args below meth c H locs cells slots Q (F0 m (pc + 3) ls (v :: rest))) : W p l e R s m args below meth c H locs cells slots Q (F0 m pc ls (.ref (ad j) :: rest)) :=
  va_get hexec hb hts hin hown hK.1 hP j (wl_get hj he) hc k hk hlink hsame hv hdg kk
theorem iw_getN {cc : ByteArray} (hexec : p.tables.exec = Jvm.exec) (hb : c.code = cc) {own ref Cn host : String} {T : u_T} {n ci index : Nat} {Ts : List Cond} (hts : ∀ w ∈ Ts, w.before args s = true) (hin : ∀ w ∈ u_ws Cn T n, w ∈ Ts) (hown : s.vm.findClass own = some m.cls) (hK : KB G s) (hP : va_P G.1 vwB (wl N ad C) H) {j : Nat} (hj : j < N) {fs : List Value} (he : C j = ob ci fs) (hc : vwB[ci]? = some (Cn, T, n)) (k : Nat) (hk : k < n) (hlink : va_Nw (Cond.fieldLinkNest own index ref (T k).2.1 (T k).2.2.1 host) s) (hsame : ∀ x, s.fieldFound? (T k).1 (T k).2.1 (T k).2.2.1 = some x → s.fieldFound? ref (T k).2.1 (T k).2.2.1 = some x) {v : Value} (hv : fs[k]? = some v) (hdg : decode cc pc = .ok (.getfield index, 3))
    (kk : W p l e R s m args below meth c H locs cells slots Q (F0 m (pc + 3) ls (v :: rest))) : W p l e R s m args below meth c H locs cells slots Q (F0 m pc ls (.ref (ad j) :: rest)) :=
  va_getN hexec hb hts hin hown hK.1 hP j (wl_get hj he) hc k hk (va_Nw.use rfl hlink) hsame hv hdg kk
theorem iw_put {cc : ByteArray} (hexec : p.tables.exec = Jvm.exec) (hb : c.code = cc) {own ref Cn : String} {T : u_T} {n ci index : Nat} {Ts : List Cond} (hts : ∀ w ∈ Ts, w.before args s = true) (hin : ∀ w ∈ u_ws Cn T n, w ∈ Ts) (ty0 : Nat → FieldType) (hty : ∀ k, k < n → parseFieldDescriptor (T k).2.2.1 = some (ty0 k)) (hnm : ∀ a, a < n → ∀ b, b < n → a ≠ b → (T a).2.1 ≠ (T b).2.1) (hown : s.vm.findClass own = some m.cls) (hK : KB G s) (hP : va_P G.1 vwB (wl N ad C) H) (hD : va_D A (wl N ad C)) (hS : va_S A H0 H locs) {j : Nat} (hj : j < N) {fs : List Value} (he : C j = ob ci fs) (hc : vwB[ci]? = some (Cn, T, n)) (k : Nat) (hk : k < n) (hlink : (Cond.fieldLink own index ref (T k).2.1 (T k).2.2.1).before args s = true) (hsame : ∀ x, s.fieldFound? (T k).1 (T k).2.1 (T k).2.2.1 = some x → s.fieldFound? ref (T k).2.1 (T k).2.2.1 = some x) (hfin : (T k).2.2.2 = false) {ty : FieldType} {v : Value} (hd : parseFieldDescriptor (T k).2.2.1 = some ty) (hn : narrow ty v = v) (hfit : fits ty v = true) (hl : k < fs.length) {fs' : List Value} (hfs : fs.set k v = fs')
    (hdg : decode cc pc = .ok (.putfield index, 3)) (kk : ∀ (H1 : Heap) (locs1 : List Loc), va_P G.1 vwB (wl N ad (va_up C j (ob ci fs'))) H1 → va_D A (wl N ad (va_up C j (ob ci fs'))) → va_S A H0 H1 locs1 → W p l e R s m args below meth c H1 locs1 cells slots Q (F0 m (pc + 3) ls rest)) : W p l e R s m args below meth c H locs cells slots Q (F0 m pc ls (v :: .ref (ad j) :: rest)) := by
  subst hfs
  exact va_put hexec hb hts hin ty0 hty hnm hown hK.1 hP hD hS j (wl_get hj he) hc k hk hlink hsame hfin hd hn hfit hl hdg (fun H1 locs1 h1 h2 h3 => kk H1 locs1 (by rw [← wl_set hj]; exact h1) (by rw [← wl_set hj]; exact h2) h3)
theorem iw_putN {cc : ByteArray} (hexec : p.tables.exec = Jvm.exec) (hb : c.code = cc) {own ref Cn host : String} {T : u_T} {n ci index : Nat} {Ts : List Cond} (hts : ∀ w ∈ Ts, w.before args s = true) (hin : ∀ w ∈ u_ws Cn T n, w ∈ Ts) (ty0 : Nat → FieldType) (hty : ∀ k, k < n → parseFieldDescriptor (T k).2.2.1 = some (ty0 k)) (hnm : ∀ a, a < n → ∀ b, b < n → a ≠ b → (T a).2.1 ≠ (T b).2.1) (hown : s.vm.findClass own = some m.cls) (hK : KB G s) (hP : va_P G.1 vwB (wl N ad C) H) (hD : va_D A (wl N ad C)) (hS : va_S A H0 H locs) {j : Nat} (hj : j < N) {fs : List Value} (he : C j = ob ci fs) (hc : vwB[ci]? = some (Cn, T, n)) (k : Nat) (hk : k < n) (hlink : va_Nw (Cond.fieldLinkNest own index ref (T k).2.1 (T k).2.2.1 host) s) (hsame : ∀ x, s.fieldFound? (T k).1 (T k).2.1 (T k).2.2.1 = some x → s.fieldFound? ref (T k).2.1 (T k).2.2.1 = some x) (hfin : (T k).2.2.2 = false) {ty : FieldType} {v : Value} (hd : parseFieldDescriptor (T k).2.2.1 = some ty) (hn : narrow ty v = v) (hfit : fits ty v = true) (hl : k < fs.length) {fs' : List Value} (hfs : fs.set k v = fs')
    (hdg : decode cc pc = .ok (.putfield index, 3)) (kk : ∀ (H1 : Heap) (locs1 : List Loc), va_P G.1 vwB (wl N ad (va_up C j (ob ci fs'))) H1 → va_D A (wl N ad (va_up C j (ob ci fs'))) → va_S A H0 H1 locs1 → W p l e R s m args below meth c H1 locs1 cells slots Q (F0 m (pc + 3) ls rest)) : W p l e R s m args below meth c H locs cells slots Q (F0 m pc ls (v :: .ref (ad j) :: rest)) := by
  subst hfs
  exact va_putN hexec hb hts hin ty0 hty hnm hown hK.1 hP hD hS j (wl_get hj he) hc k hk (va_Nw.use rfl hlink) hsame hfin hd hn hfit hl hdg (fun H1 locs1 h1 h2 h3 => kk H1 locs1 (by rw [← wl_set hj]; exact h1) (by rw [← wl_set hj]; exact h2) h3)
end IWC
theorem iinc_nat (k n : Nat) : nI k + Int32.ofInt (n : Int) = nI (k + n) := by
  have h : Int32.ofInt (n : Int) = nI n := rfl
  rw [h, nI_add]
section IWP
variable {p : Program} {l : Launch} {e : Env} {R : Room} {s : State} {m : MethodId} {args : Array Value} {below : List Frame} {meth : Method} {c : Code} {H : Heap} {locs : List Loc} {cells slots : Nat} {Q : State → Prop}
variable {pc : Nat} {ls : Array Slot} {rest st0 : List Value} {a : Array Value} {A : Nat → Prop} {H0 : Heap} {D : va_G} {cl : List vw_C} {ws : va_W}
theorem lv_asI {x y : Int32} (h : x = y) (k : W p l e R s m args below meth c H locs cells slots Q (F0 m pc ls (.int y :: rest))) : W p l e R s m args below meth c H locs cells slots Q (F0 m pc ls (.int x :: rest)) := by
  subst h
  exact k
theorem lv_asF {x y : UInt32} (h : x = y) (k : W p l e R s m args below meth c H locs cells slots Q (F0 m pc ls (.float y :: rest))) : W p l e R s m args below meth c H locs cells slots Q (F0 m pc ls (.float x :: rest)) := by
  subst h
  exact k
theorem lv_asD {x y : UInt64} (h : x = y) (k : W p l e R s m args below meth c H locs cells slots Q (F0 m pc ls (.double y :: rest))) : W p l e R s m args below meth c H locs cells slots Q (F0 m pc ls (.double x :: rest)) := by
  subst h
  exact k
theorem lv_asL {x y : Int64} (h : x = y) (k : W p l e R s m args below meth c H locs cells slots Q (F0 m pc ls (.long y :: rest))) : W p l e R s m args below meth c H locs cells slots Q (F0 m pc ls (.long x :: rest)) := by
  subst h
  exact k
theorem iw_pi {post : Int32 → Unit → Prop} (hr : va_Run p l e R s m args below meth c H locs cells slots 0 0 (F0 m pc ls st0) rest (va_Qi post (fun _ _ => True) (fun _ => False) a) (fun _ => False)) (hP : va_P D cl ws H) (hS : va_S A H0 H locs)
    (kk : ∀ (r : Int32) (u : Unit) (H1 : Heap) (locs1 : List Loc), post r u → va_P D cl ws H1 → va_S A H0 H1 locs1 → W p l e R s m args below meth c H1 locs1 cells slots Q (F0 m (pc + 3) ls (.int r :: rest))) : W p l e R s m args below meth c H locs cells slots Q (F0 m pc ls st0) :=
  va_calli hr hS (fun q _ h => h.elim) (fun q h => h.elim) (fun r u t H1 locs1 ht hvm hw hB hz1 hk1 hS => kk r u H1 locs1 hw (hP.kept (fun k q hq => hk1 _ ((hP k q hq).lt) id)) hS)
theorem iw_pl {post : Int64 → Unit → Prop} (hr : va_Run p l e R s m args below meth c H locs cells slots 0 0 (F0 m pc ls st0) rest (va_Ql post (fun _ _ => True) (fun _ => False) a) (fun _ => False)) (hP : va_P D cl ws H) (hS : va_S A H0 H locs)
    (kk : ∀ (r : Int64) (u : Unit) (H1 : Heap) (locs1 : List Loc), post r u → va_P D cl ws H1 → va_S A H0 H1 locs1 → W p l e R s m args below meth c H1 locs1 cells slots Q (F0 m (pc + 3) ls (.long r :: rest))) : W p l e R s m args below meth c H locs cells slots Q (F0 m pc ls st0) :=
  va_calll hr hS (fun q _ h => h.elim) (fun q h => h.elim) (fun r u t H1 locs1 ht hvm hw hB hz1 hk1 hS => kk r u H1 locs1 hw (hP.kept (fun k q hq => hk1 _ ((hP k q hq).lt) id)) hS)
theorem iw_pf {post : UInt32 → Unit → Prop} (hr : va_Run p l e R s m args below meth c H locs cells slots 0 0 (F0 m pc ls st0) rest (va_Qf post (fun _ _ => True) (fun _ => False) a) (fun _ => False)) (hP : va_P D cl ws H) (hS : va_S A H0 H locs)
    (kk : ∀ (r : UInt32) (u : Unit) (H1 : Heap) (locs1 : List Loc), post r u → va_P D cl ws H1 → va_S A H0 H1 locs1 → W p l e R s m args below meth c H1 locs1 cells slots Q (F0 m (pc + 3) ls (.float r :: rest))) : W p l e R s m args below meth c H locs cells slots Q (F0 m pc ls st0) :=
  va_callf hr hS (fun q _ h => h.elim) (fun q h => h.elim) (fun r u t H1 locs1 ht hvm hw hB hz1 hk1 hS => kk r u H1 locs1 hw (hP.kept (fun k q hq => hk1 _ ((hP k q hq).lt) id)) hS)
theorem iw_pd {post : UInt64 → Unit → Prop} (hr : va_Run p l e R s m args below meth c H locs cells slots 0 0 (F0 m pc ls st0) rest (va_Qd post (fun _ _ => True) (fun _ => False) a) (fun _ => False)) (hP : va_P D cl ws H) (hS : va_S A H0 H locs)
    (kk : ∀ (r : UInt64) (u : Unit) (H1 : Heap) (locs1 : List Loc), post r u → va_P D cl ws H1 → va_S A H0 H1 locs1 → W p l e R s m args below meth c H1 locs1 cells slots Q (F0 m (pc + 3) ls (.double r :: rest))) : W p l e R s m args below meth c H locs cells slots Q (F0 m pc ls st0) :=
  va_calld hr hS (fun q _ h => h.elim) (fun q h => h.elim) (fun r u t H1 locs1 ht hvm hw hB hz1 hk1 hS => kk r u H1 locs1 hw (hP.kept (fun k q hq => hk1 _ ((hP k q hq).lt) id)) hS)
theorem iw_pv {post : Unit → Prop} (hr : va_Run p l e R s m args below meth c H locs cells slots 0 0 (F0 m pc ls st0) rest (va_Qv post (fun _ _ => True) (fun _ => False) a) (fun _ => False)) (hP : va_P D cl ws H) (hS : va_S A H0 H locs)
    (kk : ∀ (u : Unit) (H1 : Heap) (locs1 : List Loc), post u → va_P D cl ws H1 → va_S A H0 H1 locs1 → W p l e R s m args below meth c H1 locs1 cells slots Q (F0 m (pc + 3) ls (rest))) : W p l e R s m args below meth c H locs cells slots Q (F0 m pc ls st0) :=
  va_callv hr hS (fun q _ h => h.elim) (fun q h => h.elim) (fun u t H1 locs1 ht hvm hw hB hz1 hk1 hS => kk u H1 locs1 hw (hP.kept (fun k q hq => hk1 _ ((hP k q hq).lt) id)) hS)
end IWP
end
section
def isPl (x y : Int32) : Bool := !decide (x < 0) && !decide (nI 8 ≤ x) && !decide (y < 0) && !decide (nI 8 ≤ y)
def colN (x y : Nat) : Nat := if x % 2 = y % 2 then (if x % 2 = 0 then 0 else 2) else 1
theorem colN_lt (x y : Nat) : colN x y < 3 := by unfold colN; split <;> (try split) <;> omega
/-- a number held to 0f to 255f -/
def bdF (x : UInt32) : UInt32 := if Op.cmpValue (FP.fcmp x 1132396544) .l ≤ 0 then (if Op.cmpValue (FP.fcmp x FP.fconst0) .l ≤ 0 then FP.fconst0 else x) else 1132396544
def leastI (kind : Int32) : Int32 := if kind = nI 1 ∨ kind = nI 2 then nI 1 else nI 0
def minI (x y : Int32) : Int32 := if y < x then y else x
def maxI (x y : Int32) : Int32 := if x < y then y else x
/-- RAW out of how a place is, the light, the gain and the draw -/
def rawI (how : Int32) (light : UInt32) (gain : Int32) (drawn : Nat) : Int32 := if how = nI 1 then nI 0 else if how = nI 2 then nI 255 else maxI (nI 0) (minI (nI 255) (nI 16 + minI (FP.f2i light) (nI 255) * gain + nI (drawn % 8) - nI 4))
abbrev rmX6_placeOf : Room := { frames := 0, cells := 0, slots := 0, locals := 0 }
set_option maxHeartbeats 4000000 in
set_option maxRecDepth 100000 in
theorem kX6_placeOf (l : Launch) (x y : Nat) : Met l yX6_placeOf wsX6_placeOf rmX6_placeOf (va_Pc [.int (nI x), .int (nI y)] (fun _ => True)) (va_Qi (fun (r : Int32) (_ : Unit) => r = nI (8 * y + x)) (fun _ _ => True) (fun _ => False)) 0 0 (fun _ => False) := by
  refine Met.ofW (cc := cX6_placeOf) (maxL := 2) (ret := (some .int)) (by decide) rfl ?_
  intro p e s m args below meth c s₁ B hml hv
  obtain ⟨rfl, -⟩ := hv
  have hx := B.exec
  have hb := B.bytes
  have hr := B.returns
  have hts := atoms_spec (ws := wsX6_placeOf) B.pre
  have hown : s.vm.findClass RX6 = some m.cls := findClass_of_methodNamed B.named
  have hlocks := B.notSynchronized
  have hS : va_S (fun _ => False) s.heap s.heap [] := va_S.rf
  have hP : va_P (fun _ => 0, fun _ _ => 0) [] [] s.heap := fun k q h => by simp at h
  have hl := lv_entry ([.int (nI x), .int (nI y)]) (n := 2) (Nat.le_of_ble_eq_true rfl)
  rw [lg_entry_eq]
  generalize (lg_sl ([.int (nI x), .int (nI y)]) ++ List.replicate (2 - (lg_sl ([.int (nI x), .int (nI y)])).length) Slot.unset).toArray = ls at hl ⊢
  have hl : lv_has ls 2 [(0, .int (nI x)), (1, .int (nI y))] := hl
  refine lv_bipush (v := nI 8) hx hb dX6_placeOf_0 (by decide) ?_
  refine lv_iload_n hx hb dX6_placeOf_2 rfl (lv_at hl 1 rfl) ?_
  refine lv_imul hx hb dX6_placeOf_3 ?_
  refine lv_asI (y := nI (8 * y)) (pk_mul _ _) ?_
  refine lv_iload_n hx hb dX6_placeOf_4 rfl (lv_at hl 0 rfl) ?_
  refine lv_iadd hx hb dX6_placeOf_5 ?_
  refine lv_asI (y := nI ((8 * y) + x)) (nI_add _ _) ?_
  exact W.iret (v := (nI ((8 * y) + x))) hx hb hr (fun t ht hW => ⟨⟨_, (), rfl, rfl, trivial⟩, hS.F ht⟩) hS.2.2 dX6_placeOf_6
abbrev rmX2_indexOf : Room := { frames := 0, cells := 0, slots := 0, locals := 0 }
set_option maxHeartbeats 4000000 in
set_option maxRecDepth 100000 in
theorem kX2_indexOf (l : Launch) (z k : Nat) : Met l yX2_indexOf wsX2_indexOf rmX2_indexOf (va_Pc [.int (nI z), .int (nI k)] (fun _ => True)) (va_Qi (fun (r : Int32) (_ : Unit) => r = nI (3 * z + k)) (fun _ _ => True) (fun _ => False)) 0 0 (fun _ => False) := by
  refine Met.ofW (cc := cX2_indexOf) (maxL := 2) (ret := (some .int)) (by decide) rfl ?_
  intro p e s m args below meth c s₁ B hml hv
  obtain ⟨rfl, -⟩ := hv
  have hx := B.exec
  have hb := B.bytes
  have hr := B.returns
  have hts := atoms_spec (ws := wsX2_indexOf) B.pre
  have hown : s.vm.findClass RX2 = some m.cls := findClass_of_methodNamed B.named
  have hlocks := B.notSynchronized
  have hS : va_S (fun _ => False) s.heap s.heap [] := va_S.rf
  have hP : va_P (fun _ => 0, fun _ _ => 0) [] [] s.heap := fun k q h => by simp at h
  have hl := lv_entry ([.int (nI z), .int (nI k)]) (n := 2) (Nat.le_of_ble_eq_true rfl)
  rw [lg_entry_eq]
  generalize (lg_sl ([.int (nI z), .int (nI k)]) ++ List.replicate (2 - (lg_sl ([.int (nI z), .int (nI k)])).length) Slot.unset).toArray = ls at hl ⊢
  have hl : lv_has ls 2 [(0, .int (nI z)), (1, .int (nI k))] := hl
  refine lv_iconst (v := nI 3) hx hb dX2_indexOf_0 (by decide) ?_
  refine lv_iload_n hx hb dX2_indexOf_1 rfl (lv_at hl 0 rfl) ?_
  refine lv_imul hx hb dX2_indexOf_2 ?_
  refine lv_asI (y := nI (3 * z)) (pk_mul _ _) ?_
  refine lv_iload_n hx hb dX2_indexOf_3 rfl (lv_at hl 1 rfl) ?_
  refine lv_iadd hx hb dX2_indexOf_4 ?_
  refine lv_asI (y := nI ((3 * z) + k)) (nI_add _ _) ?_
  exact W.iret (v := (nI ((3 * z) + k))) hx hb hr (fun t ht hW => ⟨⟨_, (), rfl, rfl, trivial⟩, hS.F ht⟩) hS.2.2 dX2_indexOf_5
abbrev rmX6_isPlace : Room := { frames := 0, cells := 0, slots := 0, locals := 0 }
set_option maxHeartbeats 4000000 in
set_option maxRecDepth 100000 in
theorem kX6_isPlace (l : Launch) (x y : Int32) : Met l yX6_isPlace wsX6_isPlace rmX6_isPlace (va_Pc [.int x, .int y] (fun _ => True)) (va_Qi (fun (r : Int32) (_ : Unit) => r = if isPl x y then nI 1 else nI 0) (fun _ _ => True) (fun _ => False)) 0 0 (fun _ => False) := by
  refine Met.ofW (cc := cX6_isPlace) (maxL := 2) (ret := (some .boolean)) (by decide) rfl ?_
  intro p e s m args below meth c s₁ B hml hv
  obtain ⟨rfl, -⟩ := hv
  have hx := B.exec
  have hb := B.bytes
  have hr := B.returns
  have hts := atoms_spec (ws := wsX6_isPlace) B.pre
  have hown : s.vm.findClass RX6 = some m.cls := findClass_of_methodNamed B.named
  have hlocks := B.notSynchronized
  have hS : va_S (fun _ => False) s.heap s.heap [] := va_S.rf
  have hP : va_P (fun _ => 0, fun _ _ => 0) [] [] s.heap := fun k q h => by simp at h
  have hl := lv_entry ([.int x, .int y]) (n := 2) (Nat.le_of_ble_eq_true rfl)
  rw [lg_entry_eq]
  generalize (lg_sl ([.int x, .int y]) ++ List.replicate (2 - (lg_sl ([.int x, .int y])).length) Slot.unset).toArray = ls at hl ⊢
  have hl : lv_has ls 2 [(0, .int x), (1, .int y)] := hl
  refine lv_iload_n hx hb dX6_isPlace_0 rfl (lv_at hl 0 rfl) ?_
  refine lv_if_lt (tgt := 24) hx hb dX6_isPlace_1 (by decide) (fun c1 => ?_) (fun c1 => ?_)
  · refine lv_iconst (v := nI 0) hx hb dX6_isPlace_24 (by decide) ?_
    exact W.zret (v := (nI 0)) (ty := .boolean) hx hb hr (by decide) (fun t ht hW => ⟨⟨_, (), rfl, by simp [isPl, *], trivial⟩, hS.F ht⟩) hS.2.2 dX6_isPlace_25
  · refine lv_iload_n hx hb dX6_isPlace_4 rfl (lv_at hl 0 rfl) ?_
    refine lv_bipush (v := nI 8) hx hb dX6_isPlace_5 (by decide) ?_
    refine lv_icmp_ge (tgt := 24) hx hb dX6_isPlace_7 (by decide) (fun c7 => ?_) (fun c7 => ?_)
    · refine lv_iconst (v := nI 0) hx hb dX6_isPlace_24 (by decide) ?_
      exact W.zret (v := (nI 0)) (ty := .boolean) hx hb hr (by decide) (fun t ht hW => ⟨⟨_, (), rfl, by simp [isPl, *], trivial⟩, hS.F ht⟩) hS.2.2 dX6_isPlace_25
    · refine lv_iload_n hx hb dX6_isPlace_10 rfl (lv_at hl 1 rfl) ?_
      refine lv_if_lt (tgt := 24) hx hb dX6_isPlace_11 (by decide) (fun c11 => ?_) (fun c11 => ?_)
      · refine lv_iconst (v := nI 0) hx hb dX6_isPlace_24 (by decide) ?_
        exact W.zret (v := (nI 0)) (ty := .boolean) hx hb hr (by decide) (fun t ht hW => ⟨⟨_, (), rfl, by simp [isPl, *], trivial⟩, hS.F ht⟩) hS.2.2 dX6_isPlace_25
      · refine lv_iload_n hx hb dX6_isPlace_14 rfl (lv_at hl 1 rfl) ?_
        refine lv_bipush (v := nI 8) hx hb dX6_isPlace_15 (by decide) ?_
        refine lv_icmp_ge (tgt := 24) hx hb dX6_isPlace_17 (by decide) (fun c17 => ?_) (fun c17 => ?_)
        · refine lv_iconst (v := nI 0) hx hb dX6_isPlace_24 (by decide) ?_
          exact W.zret (v := (nI 0)) (ty := .boolean) hx hb hr (by decide) (fun t ht hW => ⟨⟨_, (), rfl, by simp [isPl, *], trivial⟩, hS.F ht⟩) hS.2.2 dX6_isPlace_25
        · refine lv_iconst (v := nI 1) hx hb dX6_isPlace_20 (by decide) ?_
          refine lv_goto (tgt := 25) hx hb dX6_isPlace_21 (by decide) ?_
          exact W.zret (v := (nI 1)) (ty := .boolean) hx hb hr (by decide) (fun t ht hW => ⟨⟨_, (), rfl, by simp [isPl, *], trivial⟩, hS.F ht⟩) hS.2.2 dX6_isPlace_25
abbrev rmX6_colourSeen : Room := { frames := 0, cells := 0, slots := 0, locals := 0 }
set_option maxHeartbeats 4000000 in
set_option maxRecDepth 100000 in
theorem kX6_colourSeen (l : Launch) (x y : Nat) (hx0 : x < 2 ^ 31) (hy0 : y < 2 ^ 31) : Met l yX6_colourSeen wsX6_colourSeen rmX6_colourSeen (va_Pc [.int (nI x), .int (nI y)] (fun _ => True)) (va_Qi (fun (r : Int32) (_ : Unit) => r = nI (colN x y)) (fun _ _ => True) (fun _ => False)) 0 0 (fun _ => False) := by
  refine Met.ofW (cc := cX6_colourSeen) (maxL := 2) (ret := (some .int)) (by decide) rfl ?_
  intro p e s m args below meth c s₁ B hml hv
  obtain ⟨rfl, -⟩ := hv
  have hx := B.exec
  have hb := B.bytes
  have hr := B.returns
  have hts := atoms_spec (ws := wsX6_colourSeen) B.pre
  have hown : s.vm.findClass RX6 = some m.cls := findClass_of_methodNamed B.named
  have hlocks := B.notSynchronized
  have hS : va_S (fun _ => False) s.heap s.heap [] := va_S.rf
  have hP : va_P (fun _ => 0, fun _ _ => 0) [] [] s.heap := fun k q h => by simp at h
  have hl := lv_entry ([.int (nI x), .int (nI y)]) (n := 2) (Nat.le_of_ble_eq_true rfl)
  rw [lg_entry_eq]
  generalize (lg_sl ([.int (nI x), .int (nI y)]) ++ List.replicate (2 - (lg_sl ([.int (nI x), .int (nI y)])).length) Slot.unset).toArray = ls at hl ⊢
  have hl : lv_has ls 2 [(0, .int (nI x)), (1, .int (nI y))] := hl
  refine lv_iload_n hx hb dX6_colourSeen_0 rfl (lv_at hl 0 rfl) ?_
  refine lv_iconst (v := nI 2) hx hb dX6_colourSeen_1 (by decide) ?_
  refine lv_irem hx hb dX6_colourSeen_2 (by decide) ?_
  refine lv_asI (y := nI (x % 2)) (pk_rem (by omega) (by omega) (by omega)) ?_
  refine lv_iload_n hx hb dX6_colourSeen_3 rfl (lv_at hl 1 rfl) ?_
  refine lv_iconst (v := nI 2) hx hb dX6_colourSeen_4 (by decide) ?_
  refine lv_irem hx hb dX6_colourSeen_5 (by decide) ?_
  refine lv_asI (y := nI (y % 2)) (pk_rem (by omega) (by omega) (by omega)) ?_
  refine lv_icmp_eq (tgt := 11) hx hb dX6_colourSeen_6 (by decide) (fun c6 => ?_) (fun c6 => ?_)
  · rw [nI_eq (by omega) (by omega)] at c6
    refine lv_iload_n hx hb dX6_colourSeen_11 rfl (lv_at hl 0 rfl) ?_
    refine lv_iconst (v := nI 2) hx hb dX6_colourSeen_12 (by decide) ?_
    refine lv_irem hx hb dX6_colourSeen_13 (by decide) ?_
    refine lv_asI (y := nI (x % 2)) (pk_rem (by omega) (by omega) (by omega)) ?_
    refine lv_if_ne (tgt := 21) hx hb dX6_colourSeen_14 (by decide) (fun c14 => ?_) (fun c14 => ?_)
    · rw [← nI_0, nI_eq (by omega) (by omega)] at c14
      refine lv_iconst (v := nI 2) hx hb dX6_colourSeen_21 (by decide) ?_
      exact W.iret (v := (nI 2)) hx hb hr (fun t ht hW => ⟨⟨_, (), rfl, by unfold colN; (first | rw [if_pos c6, if_pos c14] | rw [if_pos c6, if_neg c14] | rw [if_neg c6]), trivial⟩, hS.F ht⟩) hS.2.2 dX6_colourSeen_22
    · rw [← nI_0, nI_eq (by omega) (by omega)] at c14
      refine lv_iconst (v := nI 0) hx hb dX6_colourSeen_17 (by decide) ?_
      refine lv_goto (tgt := 22) hx hb dX6_colourSeen_18 (by decide) ?_
      exact W.iret (v := (nI 0)) hx hb hr (fun t ht hW => ⟨⟨_, (), rfl, by unfold colN; (first | rw [if_pos c6, if_pos c14] | rw [if_pos c6, if_neg c14] | rw [if_neg c6]), trivial⟩, hS.F ht⟩) hS.2.2 dX6_colourSeen_22
  · rw [nI_eq (by omega) (by omega)] at c6
    refine lv_iconst (v := nI 1) hx hb dX6_colourSeen_9 (by decide) ?_
    exact W.iret (v := (nI 1)) hx hb hr (fun t ht hW => ⟨⟨_, (), rfl, by unfold colN; (first | rw [if_pos c6, if_pos c14] | rw [if_pos c6, if_neg c14] | rw [if_neg c6]), trivial⟩, hS.F ht⟩) hS.2.2 dX6_colourSeen_10
abbrev rmX6_leastNumber : Room := { frames := 0, cells := 0, slots := 0, locals := 0 }
set_option maxHeartbeats 4000000 in
set_option maxRecDepth 100000 in
theorem kX6_leastNumber (l : Launch) (kind : Int32) : Met l yX6_leastNumber wsX6_leastNumber rmX6_leastNumber (va_Pc [.int kind] (fun _ => True)) (va_Qi (fun (r : Int32) (_ : Unit) => r = leastI kind) (fun _ _ => True) (fun _ => False)) 0 0 (fun _ => False) := by
  refine Met.ofW (cc := cX6_leastNumber) (maxL := 1) (ret := (some .int)) (by decide) rfl ?_
  intro p e s m args below meth c s₁ B hml hv
  obtain ⟨rfl, -⟩ := hv
  have hx := B.exec
  have hb := B.bytes
  have hr := B.returns
  have hts := atoms_spec (ws := wsX6_leastNumber) B.pre
  have hown : s.vm.findClass RX6 = some m.cls := findClass_of_methodNamed B.named
  have hlocks := B.notSynchronized
  have hS : va_S (fun _ => False) s.heap s.heap [] := va_S.rf
  have hP : va_P (fun _ => 0, fun _ _ => 0) [] [] s.heap := fun k q h => by simp at h
  have hl := lv_entry ([.int kind]) (n := 1) (Nat.le_of_ble_eq_true rfl)
  rw [lg_entry_eq]
  generalize (lg_sl ([.int kind]) ++ List.replicate (1 - (lg_sl ([.int kind])).length) Slot.unset).toArray = ls at hl ⊢
  have hl : lv_has ls 1 [(0, .int kind)] := hl
  refine lv_iload_n hx hb dX6_leastNumber_0 rfl (lv_at hl 0 rfl) ?_
  refine lv_iconst (v := nI 1) hx hb dX6_leastNumber_1 (by decide) ?_
  refine lv_icmp_eq (tgt := 10) hx hb dX6_leastNumber_2 (by decide) (fun c2 => ?_) (fun c2 => ?_)
  · refine lv_iconst (v := nI 1) hx hb dX6_leastNumber_10 (by decide) ?_
    refine lv_goto (tgt := 15) hx hb dX6_leastNumber_11 (by decide) ?_
    exact W.iret (v := (nI 1)) hx hb hr (fun t ht hW => ⟨⟨_, (), rfl, by simp [leastI, *], trivial⟩, hS.F ht⟩) hS.2.2 dX6_leastNumber_15
  · refine lv_iload_n hx hb dX6_leastNumber_5 rfl (lv_at hl 0 rfl) ?_
    refine lv_iconst (v := nI 2) hx hb dX6_leastNumber_6 (by decide) ?_
    refine lv_icmp_ne (tgt := 14) hx hb dX6_leastNumber_7 (by decide) (fun c7 => ?_) (fun c7 => ?_)
    · refine lv_iconst (v := nI 0) hx hb dX6_leastNumber_14 (by decide) ?_
      exact W.iret (v := (nI 0)) hx hb hr (fun t ht hW => ⟨⟨_, (), rfl, by simp [leastI, *], trivial⟩, hS.F ht⟩) hS.2.2 dX6_leastNumber_15
    · refine lv_iconst (v := nI 1) hx hb dX6_leastNumber_10 (by decide) ?_
      refine lv_goto (tgt := 15) hx hb dX6_leastNumber_11 (by decide) ?_
      exact W.iret (v := (nI 1)) hx hb hr (fun t ht hW => ⟨⟨_, (), rfl, by simp [leastI, *], trivial⟩, hS.F ht⟩) hS.2.2 dX6_leastNumber_15
abbrev rmX2_bounded : Room := { frames := 0, cells := 0, slots := 0, locals := 0 }
set_option maxRecDepth 20000 in
theorem il_X2_bounded_53 : (Cond.constantFloat RX2 53 (1132396544)) ∈ wsX2_bounded := by decide +kernel
set_option maxHeartbeats 4000000 in
set_option maxRecDepth 100000 in
theorem kX2_bounded (l : Launch) (x : UInt32) : Met l yX2_bounded wsX2_bounded rmX2_bounded (va_Pc [.float x] (fun _ => True)) (va_Qf (fun (r : UInt32) (_ : Unit) => r = bdF x) (fun _ _ => True) (fun _ => False)) 0 0 (fun _ => False) := by
  refine Met.ofW (cc := cX2_bounded) (maxL := 1) (ret := (some .float)) (by decide) rfl ?_
  intro p e s m args below meth c s₁ B hml hv
  obtain ⟨rfl, -⟩ := hv
  have hx := B.exec
  have hb := B.bytes
  have hr := B.returns
  have hts := atoms_spec (ws := wsX2_bounded) B.pre
  have hown : s.vm.findClass RX2 = some m.cls := findClass_of_methodNamed B.named
  have hlocks := B.notSynchronized
  have hS : va_S (fun _ => False) s.heap s.heap [] := va_S.rf
  have hP : va_P (fun _ => 0, fun _ _ => 0) [] [] s.heap := fun k q h => by simp at h
  have hl := lv_entry ([.float x]) (n := 1) (Nat.le_of_ble_eq_true rfl)
  rw [lg_entry_eq]
  generalize (lg_sl ([.float x]) ++ List.replicate (1 - (lg_sl ([.float x])).length) Slot.unset).toArray = ls at hl ⊢
  have hl : lv_has ls 1 [(0, .float x)] := hl
  refine lv_fload_n hx hb dX2_bounded_0 rfl (lv_at hl 0 rfl) ?_
  refine lv_ldcf hx hb hown (hts _ il_X2_bounded_53) dX2_bounded_1 ?_
  refine lv_fcmp hx hb dX2_bounded_3 ?_
  refine lv_if_le (tgt := 10) hx hb dX2_bounded_4 (by decide) (fun c4 => ?_) (fun c4 => ?_)
  · refine lv_fload_n hx hb dX2_bounded_10 rfl (lv_at hl 0 rfl) ?_
    refine lv_fconst0 hx hb dX2_bounded_11 ?_
    refine lv_fcmp hx hb dX2_bounded_12 ?_
    refine lv_if_le (tgt := 20) hx hb dX2_bounded_13 (by decide) (fun c13 => ?_) (fun c13 => ?_)
    · refine lv_fconst0 hx hb dX2_bounded_20 ?_
      exact W.fret (v := FP.fconst0) hx hb hr (fun t ht hW => ⟨⟨_, (), rfl, by simp [bdF, *], trivial⟩, hS.F ht⟩) hS.2.2 dX2_bounded_21
    · refine lv_fload_n hx hb dX2_bounded_16 rfl (lv_at hl 0 rfl) ?_
      refine lv_goto (tgt := 21) hx hb dX2_bounded_17 (by decide) ?_
      exact W.fret (v := x) hx hb hr (fun t ht hW => ⟨⟨_, (), rfl, by simp [bdF, *], trivial⟩, hS.F ht⟩) hS.2.2 dX2_bounded_21
  · refine lv_ldcf hx hb hown (hts _ il_X2_bounded_53) dX2_bounded_7 ?_
    exact W.fret (v := (1132396544)) hx hb hr (fun t ht hW => ⟨⟨_, (), rfl, by simp [bdF, *], trivial⟩, hS.F ht⟩) hS.2.2 dX2_bounded_9
abbrev rmX4_rawOf : Room := { frames := 1, cells := 0, slots := 0, locals := 21 }
set_option maxRecDepth 20000 in
theorem il_X4_rawOf_51 : (Cond.methodLink RX4 51 Lib.Math.min.name) ∈ wsX4_rawOf := by decide +kernel
set_option maxRecDepth 20000 in
theorem il_X4_rawOf_st_min : (Cond.static Lib.Math.min.name) ∈ wsX4_rawOf := by decide +kernel
set_option maxRecDepth 20000 in
theorem il_X4_rawOf_ini_Math : (Cond.initialized "java/lang/Math") ∈ wsX4_rawOf := by decide +kernel
set_option maxRecDepth 20000 in
theorem il_X4_rawOf_code_min : (Cond.code Lib.Math.min.name Lib.Math.min.code 2 (some .int)) ∈ wsX4_rawOf := by decide +kernel
set_option maxRecDepth 20000 in
theorem il_X4_rawOf_56 : (Cond.methodLink RX4 56 Lib.Math.max.name) ∈ wsX4_rawOf := by decide +kernel
set_option maxRecDepth 20000 in
theorem il_X4_rawOf_st_max : (Cond.static Lib.Math.max.name) ∈ wsX4_rawOf := by decide +kernel
set_option maxRecDepth 20000 in
theorem il_X4_rawOf_code_max : (Cond.code Lib.Math.max.name Lib.Math.max.code 2 (some .int)) ∈ wsX4_rawOf := by decide +kernel
set_option maxHeartbeats 4000000 in
set_option maxRecDepth 100000 in
theorem kX4_rawOf (l : Launch) (how : Int32) (light : UInt32) (gain : Int32) (drawn : Nat) (hd0 : drawn < 2 ^ 31) : Met l yX4_rawOf wsX4_rawOf rmX4_rawOf (va_Pc [.int how, .float light, .int gain, .int (nI drawn)] (fun _ => True)) (va_Qi (fun (r : Int32) (_ : Unit) => r = rawI how light gain drawn) (fun _ _ => True) (fun _ => False)) 0 0 (fun _ => False) := by
  refine Met.ofW (cc := cX4_rawOf) (maxL := 5) (ret := (some .int)) (by decide) rfl ?_
  intro p e s m args below meth c s₁ B hml hv
  obtain ⟨rfl, -⟩ := hv
  have hx := B.exec
  have hb := B.bytes
  have hr := B.returns
  have hts := atoms_spec (ws := wsX4_rawOf) B.pre
  have hown : s.vm.findClass RX4 = some m.cls := findClass_of_methodNamed B.named
  have hlocks := B.notSynchronized
  have hS : va_S (fun _ => False) s.heap s.heap [] := va_S.rf
  have hP : va_P (fun _ => 0, fun _ _ => 0) [] [] s.heap := fun k q h => by simp at h
  have hl := lv_entry ([.int how, .float light, .int gain, .int (nI drawn)]) (n := 5) (Nat.le_of_ble_eq_true rfl)
  rw [lg_entry_eq]
  generalize (lg_sl ([.int how, .float light, .int gain, .int (nI drawn)]) ++ List.replicate (5 - (lg_sl ([.int how, .float light, .int gain, .int (nI drawn)])).length) Slot.unset).toArray = ls at hl ⊢
  have hl : lv_has ls 5 [(0, .int how), (1, .float light), (2, .int gain), (3, .int (nI drawn))] := hl
  refine lv_iload_n hx hb dX4_rawOf_0 rfl (lv_at hl 0 rfl) ?_
  refine lv_iconst (v := nI 1) hx hb dX4_rawOf_1 (by decide) ?_
  refine lv_icmp_ne (tgt := 7) hx hb dX4_rawOf_2 (by decide) (fun c2 => ?_) (fun c2 => ?_)
  · refine lv_iload_n hx hb dX4_rawOf_7 rfl (lv_at hl 0 rfl) ?_
    refine lv_iconst (v := nI 2) hx hb dX4_rawOf_8 (by decide) ?_
    refine lv_icmp_ne (tgt := 16) hx hb dX4_rawOf_9 (by decide) (fun c9 => ?_) (fun c9 => ?_)
    · refine lv_fload_n hx hb dX4_rawOf_16 rfl (lv_at hl 1 rfl) ?_
      refine lv_f2i hx hb dX4_rawOf_17 ?_
      refine lv_sipush (v := nI 255) hx hb dX4_rawOf_18 (by decide) ?_
      refine va_mmin hx hb (hml.trans hl.1.symm) hown (hts _ il_X4_rawOf_51) (hts _ il_X4_rawOf_st_min) (hts _ il_X4_rawOf_ini_Math) (hts _ il_X4_rawOf_code_min) (Nat.le_of_ble_eq_true rfl) (Nat.le_of_ble_eq_true rfl) (Nat.le_of_ble_eq_true rfl) (Nat.le_of_ble_eq_true rfl) dX4_rawOf_21 ?_
      refine lv_istore (lv' := [(4, .int (if (nI 255) < (FP.f2i light) then (nI 255) else (FP.f2i light))), (0, .int how), (1, .float light), (2, .int gain), (3, .int (nI drawn))]) hx hb dX4_rawOf_24 hl (by decide) rfl (fun ls hl => ?_)
      refine lv_iconst (v := nI 0) hx hb dX4_rawOf_26 (by decide) ?_
      refine lv_sipush (v := nI 255) hx hb dX4_rawOf_27 (by decide) ?_
      refine lv_bipush (v := nI 16) hx hb dX4_rawOf_30 (by decide) ?_
      refine lv_iload hx hb dX4_rawOf_32 (lv_at hl 0 rfl) ?_
      refine lv_iload_n hx hb dX4_rawOf_34 rfl (lv_at hl 3 rfl) ?_
      refine lv_imul hx hb dX4_rawOf_35 ?_
      refine lv_iadd hx hb dX4_rawOf_36 ?_
      refine lv_iload_n hx hb dX4_rawOf_37 rfl (lv_at hl 4 rfl) ?_
      refine lv_bipush (v := nI 8) hx hb dX4_rawOf_38 (by decide) ?_
      refine lv_irem hx hb dX4_rawOf_40 (by decide) ?_
      refine lv_asI (y := nI (drawn % 8)) (pk_rem (by omega) (by omega) (by omega)) ?_
      refine lv_iadd hx hb dX4_rawOf_41 ?_
      refine lv_iconst (v := nI 4) hx hb dX4_rawOf_42 (by decide) ?_
      refine lv_isub hx hb dX4_rawOf_43 ?_
      refine va_mmin hx hb (hml.trans hl.1.symm) hown (hts _ il_X4_rawOf_51) (hts _ il_X4_rawOf_st_min) (hts _ il_X4_rawOf_ini_Math) (hts _ il_X4_rawOf_code_min) (Nat.le_of_ble_eq_true rfl) (Nat.le_of_ble_eq_true rfl) (Nat.le_of_ble_eq_true rfl) (Nat.le_of_ble_eq_true rfl) dX4_rawOf_44 ?_
      refine va_mmax hx hb (hml.trans hl.1.symm) hown (hts _ il_X4_rawOf_56) (hts _ il_X4_rawOf_st_max) (hts _ il_X4_rawOf_ini_Math) (hts _ il_X4_rawOf_code_max) (Nat.le_of_ble_eq_true rfl) (Nat.le_of_ble_eq_true rfl) (Nat.le_of_ble_eq_true rfl) (Nat.le_of_ble_eq_true rfl) dX4_rawOf_47 ?_
      exact W.iret (v := (if (nI 0) < (if ((((nI 16) + ((if (nI 255) < (FP.f2i light) then (nI 255) else (FP.f2i light)) * gain)) + (nI (drawn % 8))) - (nI 4)) < (nI 255) then ((((nI 16) + ((if (nI 255) < (FP.f2i light) then (nI 255) else (FP.f2i light)) * gain)) + (nI (drawn % 8))) - (nI 4)) else (nI 255)) then (if ((((nI 16) + ((if (nI 255) < (FP.f2i light) then (nI 255) else (FP.f2i light)) * gain)) + (nI (drawn % 8))) - (nI 4)) < (nI 255) then ((((nI 16) + ((if (nI 255) < (FP.f2i light) then (nI 255) else (FP.f2i light)) * gain)) + (nI (drawn % 8))) - (nI 4)) else (nI 255)) else (nI 0))) hx hb hr (fun t ht hW => ⟨⟨_, (), rfl, by unfold rawI; (first | rw [if_pos c2] | rw [if_neg c2, if_pos c9] | (rw [if_neg c2, if_neg c9]; rfl)), trivial⟩, hS.F ht⟩) hS.2.2 dX4_rawOf_50
    · refine lv_sipush (v := nI 255) hx hb dX4_rawOf_12 (by decide) ?_
      exact W.iret (v := (nI 255)) hx hb hr (fun t ht hW => ⟨⟨_, (), rfl, by unfold rawI; (first | rw [if_pos c2] | rw [if_neg c2, if_pos c9] | (rw [if_neg c2, if_neg c9]; rfl)), trivial⟩, hS.F ht⟩) hS.2.2 dX4_rawOf_15
  · refine lv_iconst (v := nI 0) hx hb dX4_rawOf_5 (by decide) ?_
    exact W.iret (v := (nI 0)) hx hb hr (fun t ht hW => ⟨⟨_, (), rfl, by unfold rawI; (first | rw [if_pos c2] | rw [if_neg c2, if_pos c9] | (rw [if_neg c2, if_neg c9]; rfl)), trivial⟩, hS.F ht⟩) hS.2.2 dX4_rawOf_6
end
section
/-- is a MEND among the first n? -/
def hasM (f : Nat → Int32) : Nat → Bool
  | 0 => false
  | n + 1 => hasM f n || decide (f n = nI 5)
theorem hasM_up (f : Nat → Int32) {k : Nat} (h : f k = nI 5) : ∀ n, k < n → hasM f n = true
  | 0, h1 => absurd h1 (Nat.not_lt_zero _)
  | n + 1, h1 => by
    unfold hasM
    rcases Nat.lt_or_ge k n with q | q
    · rw [hasM_up f h n q]; rfl
    · have e : k = n := by omega
      subst e
      simp [h]
/-- the first i from f, the others from g -/
def flI {α : Type} (f g : Nat → α) (i : Nat) : Nat → α := fun k => if k < i then f k else g k
theorem flI_0 {α : Type} (f g : Nat → α) : flI f g 0 = g := by funext k; simp [flI]
theorem flI_s (f g : Nat → Int32) (i : Nat) : upd (flI f g i) i (f i) = flI f g (i + 1) := by
  funext k
  by_cases h : k = i
  · subst h; simp [upd, flI]
  · have h2 : (k < i + 1) = (k < i) := by simp; omega
    simp [upd, flI, h, h2]
abbrev rmX0_count : Room := { frames := 0, cells := 0, slots := 0, locals := 0 }
set_option maxRecDepth 20000 in
theorem iu_X0_count_0 : ∀ w ∈ u_ws RX0 TX0 3, w ∈ wsX0_count := by decide +kernel
set_option maxRecDepth 20000 in
theorem il_X0_count_18 : (Cond.fieldLink RX0 18 "BayerGate$EditRow" "length" "I") ∈ wsX0_count := by decide +kernel
set_option maxHeartbeats 4000000 in
set_option maxRecDepth 100000 in
theorem kX0_count (l : Launch) (G : iG) (N : Nat) (ad : Nat → Nat) (C : Nat → va_E) {eb ek en : Nat} {ekinds enums : Nat → Int32} {n : Nat} (leb : eb < N) (lek : ek < N) (len : en < N) (heb : C eb = ob 0 [.ref (ad ek), .ref (ad en), .int (nI n)]) (hek : C ek = ia G 6 ekinds) (hen : C en = ia G 6 enums) (de : ek ≠ en) (sz : Nat) : Met l yX0_count wsX0_count rmX0_count (iPre G N ad C sz [.ref (ad eb)]) (va_Qi (fun (r : Int32) (u : Nat → va_E) => r = nI n ∧ u = C) (iB G N ad) (iA N ad sz)) 0 0 (iA N ad sz) := by
  refine Met.ofW (cc := cX0_count) (maxL := 1) (ret := (some .int)) (by decide) rfl ?_
  intro p e s m args below meth c s₁ B hml hv
  obtain ⟨rfl, hsz, hP, hK, hD0⟩ := hv
  have hx := B.exec
  have hb := B.bytes
  have hr := B.returns
  have hts := atoms_spec (ws := wsX0_count) B.pre
  have hown : s.vm.findClass RX0 = some m.cls := findClass_of_methodNamed B.named
  have hlocks := B.notSynchronized
  subst hsz
  have hD := wl_self hD0 s.heap.size
  have hA : ∀ q : Nat, s.heap.size ≤ q → iA N ad s.heap.size q := fun q h => Or.inr h
  have hS : va_S (iA N ad s.heap.size) s.heap s.heap [] := va_S.rf
  have hP : va_P G.1 vwB (wl N ad C) s.heap := hP
  have hl := lv_entry ([.ref (ad eb)]) (n := 1) (Nat.le_of_ble_eq_true rfl)
  rw [lg_entry_eq]
  generalize (lg_sl ([.ref (ad eb)]) ++ List.replicate (1 - (lg_sl ([.ref (ad eb)])).length) Slot.unset).toArray = ls at hl ⊢
  have hl : lv_has ls 1 [(0, .ref (ad eb))] := hl
  refine lv_aload_n hx hb dX0_count_0 rfl (lv_at hl 0 rfl) ?_
  refine iw_get hx hb hts iu_X0_count_0 hown hK hP leb (heb) rfl 2 (by decide) (hts _ il_X0_count_18) (fun _ h9 => h9) rfl dX0_count_1 ?_
  exact W.iret (v := (nI n)) hx hb hr (fun t ht hW => ⟨⟨_, _, rfl, ⟨rfl, rfl⟩, iB_of ht hP⟩, hS.F ht⟩) hS.2.2 dX0_count_4
abbrev rmX0_append : Room := { frames := 0, cells := 0, slots := 0, locals := 0 }
set_option maxRecDepth 20000 in
theorem iu_X0_append_0 : ∀ w ∈ u_ws RX0 TX0 3, w ∈ wsX0_append := by decide +kernel
set_option maxRecDepth 20000 in
theorem il_X0_append_18 : (Cond.fieldLink RX0 18 "BayerGate$EditRow" "length" "I") ∈ wsX0_append := by decide +kernel
set_option maxRecDepth 20000 in
theorem il_X0_append_9 : (Cond.fieldLink RX0 9 "BayerGate$EditRow" "kinds" "[I") ∈ wsX0_append := by decide +kernel
set_option maxRecDepth 20000 in
theorem il_X0_append_15 : (Cond.fieldLink RX0 15 "BayerGate$EditRow" "numbers" "[I") ∈ wsX0_append := by decide +kernel
set_option maxHeartbeats 4000000 in
set_option maxRecDepth 100000 in
theorem kX0_append (l : Launch) (G : iG) (N : Nat) (ad : Nat → Nat) (C : Nat → va_E) {eb ek en : Nat} {ekinds enums : Nat → Int32} {n : Nat} (leb : eb < N) (lek : ek < N) (len : en < N) (heb : C eb = ob 0 [.ref (ad ek), .ref (ad en), .int (nI n)]) (hek : C ek = ia G 6 ekinds) (hen : C en = ia G 6 enums) (de : ek ≠ en) (kind number : Int32) (hn6 : n < 6) (sz : Nat) : Met l yX0_append wsX0_append rmX0_append (iPre G N ad C sz [.ref (ad eb), .int kind, .int number]) (va_Qv (fun (u : Nat → va_E) => u = va_up (va_up (va_up C ek (ia G 6 (upd ekinds n kind))) en (ia G 6 (upd enums n number))) eb (ob 0 [.ref (ad ek), .ref (ad en), .int (nI (n + 1))])) (iB G N ad) (iA N ad sz)) 0 0 (iA N ad sz) := by
  refine Met.ofW (cc := cX0_append) (maxL := 3) (ret := none) (by decide) rfl ?_
  intro p e s m args below meth c s₁ B hml hv
  obtain ⟨rfl, hsz, hP, hK, hD0⟩ := hv
  have hx := B.exec
  have hb := B.bytes
  have hr := B.returns
  have hts := atoms_spec (ws := wsX0_append) B.pre
  have hown : s.vm.findClass RX0 = some m.cls := findClass_of_methodNamed B.named
  have hlocks := B.notSynchronized
  subst hsz
  have hD := wl_self hD0 s.heap.size
  have hA : ∀ q : Nat, s.heap.size ≤ q → iA N ad s.heap.size q := fun q h => Or.inr h
  have hS : va_S (iA N ad s.heap.size) s.heap s.heap [] := va_S.rf
  have hP : va_P G.1 vwB (wl N ad C) s.heap := hP
  have hl := lv_entry ([.ref (ad eb), .int kind, .int number]) (n := 3) (Nat.le_of_ble_eq_true rfl)
  rw [lg_entry_eq]
  generalize (lg_sl ([.ref (ad eb), .int kind, .int number]) ++ List.replicate (3 - (lg_sl ([.ref (ad eb), .int kind, .int number])).length) Slot.unset).toArray = ls at hl ⊢
  have hl : lv_has ls 3 [(0, .ref (ad eb)), (1, .int kind), (2, .int number)] := hl
  have nek : eb ≠ ek := fun h => by rw [h, hek] at heb; cases heb
  have nen : eb ≠ en := fun h => by rw [h, hen] at heb; cases heb
  refine lv_aload_n hx hb dX0_append_0 rfl (lv_at hl 0 rfl) ?_
  refine iw_get hx hb hts iu_X0_append_0 hown hK hP leb (heb) rfl 2 (by decide) (hts _ il_X0_append_18) (fun _ h9 => h9) rfl dX0_append_1 ?_
  refine lv_bipush (v := nI 6) hx hb dX0_append_4 (by decide) ?_
  refine lv_icmp_ge (tgt := 39) hx hb dX0_append_6 (by decide) (fun c9 => absurd c9 (nI_ge hn6 (by omega))) (fun _ => ?_)
  refine lv_aload_n hx hb dX0_append_9 rfl (lv_at hl 0 rfl) ?_
  refine iw_get hx hb hts iu_X0_append_0 hown hK hP leb (heb) rfl 0 (by decide) (hts _ il_X0_append_9) (fun _ h9 => h9) rfl dX0_append_10 ?_
  refine lv_aload_n hx hb dX0_append_13 rfl (lv_at hl 0 rfl) ?_
  refine iw_get hx hb hts iu_X0_append_0 hown hK hP leb (heb) rfl 2 (by decide) (hts _ il_X0_append_18) (fun _ h9 => h9) rfl dX0_append_14 ?_
  refine lv_iload_n hx hb dX0_append_17 rfl (lv_at hl 1 rfl) ?_
  refine iw_iast hx hb hK hP hD hS lek (hek) (vp_in_nI (show n < 6 by omega) (by omega)) (nI_clamp (by omega)) dX0_append_18 (fun H locs hP hD hS => ?_)
  refine lv_aload_n hx hb dX0_append_19 rfl (lv_at hl 0 rfl) ?_
  refine iw_get hx hb hts iu_X0_append_0 hown hK hP leb ((va_un _ _ nek).trans (heb)) rfl 1 (by decide) (hts _ il_X0_append_15) (fun _ h9 => h9) rfl dX0_append_20 ?_
  refine lv_aload_n hx hb dX0_append_23 rfl (lv_at hl 0 rfl) ?_
  refine iw_get hx hb hts iu_X0_append_0 hown hK hP leb ((va_un _ _ nek).trans (heb)) rfl 2 (by decide) (hts _ il_X0_append_18) (fun _ h9 => h9) rfl dX0_append_24 ?_
  refine lv_iload_n hx hb dX0_append_27 rfl (lv_at hl 2 rfl) ?_
  refine iw_iast hx hb hK hP hD hS len ((va_un _ _ (Ne.symm de)).trans (hen)) (vp_in_nI (show n < 6 by omega) (by omega)) (nI_clamp (by omega)) dX0_append_28 (fun H locs hP hD hS => ?_)
  refine lv_aload_n hx hb dX0_append_29 rfl (lv_at hl 0 rfl) ?_
  refine lv_dup hx hb dX0_append_30 rfl ?_
  refine iw_get hx hb hts iu_X0_append_0 hown hK hP leb ((va_un _ _ nen).trans ((va_un _ _ nek).trans (heb))) rfl 2 (by decide) (hts _ il_X0_append_18) (fun _ h9 => h9) rfl dX0_append_31 ?_
  refine lv_iconst (v := nI 1) hx hb dX0_append_34 (by decide) ?_
  refine lv_iadd hx hb dX0_append_35 ?_
  refine lv_asI (y := nI (n + 1)) (nI_add _ _) ?_
  refine iw_put (ty := .int) hx hb hts iu_X0_append_0 tyX0 tyX0_ok nmX0 hown hK hP hD hS leb ((va_un _ _ nen).trans ((va_un _ _ nek).trans (heb))) rfl 2 (by decide) (hts _ il_X0_append_18) (fun _ h9 => h9) rfl (by decide +kernel) rfl rfl (Nat.le_of_ble_eq_true rfl) rfl dX0_append_36 (fun H locs hP hD hS => ?_)
  exact W.vret hx hb hr (fun t ht hW => ⟨⟨_, rfl, rfl, iB_of ht hP⟩, hS.F ht⟩) hS.2.2 dX0_append_39
abbrev rmX0_takeBack : Room := { frames := 0, cells := 0, slots := 0, locals := 0 }
set_option maxRecDepth 20000 in
theorem iu_X0_takeBack_0 : ∀ w ∈ u_ws RX0 TX0 3, w ∈ wsX0_takeBack := by decide +kernel
set_option maxRecDepth 20000 in
theorem il_X0_takeBack_18 : (Cond.fieldLink RX0 18 "BayerGate$EditRow" "length" "I") ∈ wsX0_takeBack := by decide +kernel
set_option maxRecDepth 20000 in
theorem il_X0_takeBack_9 : (Cond.fieldLink RX0 9 "BayerGate$EditRow" "kinds" "[I") ∈ wsX0_takeBack := by decide +kernel
set_option maxHeartbeats 4000000 in
set_option maxRecDepth 100000 in
theorem kX0_takeBack (l : Launch) (G : iG) (N : Nat) (ad : Nat → Nat) (C : Nat → va_E) {eb ek en : Nat} {ekinds enums : Nat → Int32} {n : Nat} (leb : eb < N) (lek : ek < N) (len : en < N) (heb : C eb = ob 0 [.ref (ad ek), .ref (ad en), .int (nI n)]) (hek : C ek = ia G 6 ekinds) (hen : C en = ia G 6 enums) (de : ek ≠ en) (hn6 : n ≤ 6) (sz : Nat) : Met l yX0_takeBack wsX0_takeBack rmX0_takeBack (iPre G N ad C sz [.ref (ad eb)]) (va_Qi (fun (r : Int32) (u : Nat → va_E) => r = (if n = 0 then -nI 1 else ekinds (n - 1)) ∧ u = va_up C eb (ob 0 [.ref (ad ek), .ref (ad en), .int (nI (n - 1))])) (iB G N ad) (iA N ad sz)) 0 0 (iA N ad sz) := by
  refine Met.ofW (cc := cX0_takeBack) (maxL := 1) (ret := (some .int)) (by decide) rfl ?_
  intro p e s m args below meth c s₁ B hml hv
  obtain ⟨rfl, hsz, hP, hK, hD0⟩ := hv
  have hx := B.exec
  have hb := B.bytes
  have hr := B.returns
  have hts := atoms_spec (ws := wsX0_takeBack) B.pre
  have hown : s.vm.findClass RX0 = some m.cls := findClass_of_methodNamed B.named
  have hlocks := B.notSynchronized
  subst hsz
  have hD := wl_self hD0 s.heap.size
  have hA : ∀ q : Nat, s.heap.size ≤ q → iA N ad s.heap.size q := fun q h => Or.inr h
  have hS : va_S (iA N ad s.heap.size) s.heap s.heap [] := va_S.rf
  have hP : va_P G.1 vwB (wl N ad C) s.heap := hP
  have hl := lv_entry ([.ref (ad eb)]) (n := 1) (Nat.le_of_ble_eq_true rfl)
  rw [lg_entry_eq]
  generalize (lg_sl ([.ref (ad eb)]) ++ List.replicate (1 - (lg_sl ([.ref (ad eb)])).length) Slot.unset).toArray = ls at hl ⊢
  have hl : lv_has ls 1 [(0, .ref (ad eb))] := hl
  have nek : eb ≠ ek := fun h => by rw [h, hek] at heb; cases heb
  have nen : eb ≠ en := fun h => by rw [h, hen] at heb; cases heb
  refine lv_aload_n hx hb dX0_takeBack_0 rfl (lv_at hl 0 rfl) ?_
  refine iw_get hx hb hts iu_X0_takeBack_0 hown hK hP leb (heb) rfl 2 (by decide) (hts _ il_X0_takeBack_18) (fun _ h9 => h9) rfl dX0_takeBack_1 ?_
  refine lv_if_ne (tgt := 9) hx hb dX0_takeBack_4 (by decide) (fun c4 => ?_) (fun c4 => ?_)
  · rw [← nI_0, nI_eq (by omega) (by omega)] at c4
    refine lv_aload_n hx hb dX0_takeBack_9 rfl (lv_at hl 0 rfl) ?_
    refine lv_dup hx hb dX0_takeBack_10 rfl ?_
    refine iw_get hx hb hts iu_X0_takeBack_0 hown hK hP leb (heb) rfl 2 (by decide) (hts _ il_X0_takeBack_18) (fun _ h9 => h9) rfl dX0_takeBack_11 ?_
    refine lv_iconst (v := nI 1) hx hb dX0_takeBack_14 (by decide) ?_
    refine lv_isub hx hb dX0_takeBack_15 ?_
    refine lv_asI (y := nI (n - 1)) (pk_sub (by omega)) ?_
    refine iw_put (ty := .int) hx hb hts iu_X0_takeBack_0 tyX0 tyX0_ok nmX0 hown hK hP hD hS leb (heb) rfl 2 (by decide) (hts _ il_X0_takeBack_18) (fun _ h9 => h9) rfl (by decide +kernel) rfl rfl (Nat.le_of_ble_eq_true rfl) rfl dX0_takeBack_16 (fun H locs hP hD hS => ?_)
    refine lv_aload_n hx hb dX0_takeBack_19 rfl (lv_at hl 0 rfl) ?_
    refine iw_get hx hb hts iu_X0_takeBack_0 hown hK hP leb (va_us _ _ _) rfl 0 (by decide) (hts _ il_X0_takeBack_9) (fun _ h9 => h9) rfl dX0_takeBack_20 ?_
    refine lv_aload_n hx hb dX0_takeBack_23 rfl (lv_at hl 0 rfl) ?_
    refine iw_get hx hb hts iu_X0_takeBack_0 hown hK hP leb (va_us _ _ _) rfl 2 (by decide) (hts _ il_X0_takeBack_18) (fun _ h9 => h9) rfl dX0_takeBack_24 ?_
    refine iw_iald (v := ekinds (n - 1)) hx hb hK hP lek ((va_un _ _ (Ne.symm nek)).trans (hek)) (vp_in_nI (show n - 1 < 6 by omega) (by omega)) (congrArg ekinds (nI_clamp (by omega))) dX0_takeBack_27 ?_
    exact W.iret (v := (ekinds (n - 1))) hx hb hr (fun t ht hW => ⟨⟨_, _, rfl, ⟨by simp [*], rfl⟩, iB_of ht hP⟩, hS.F ht⟩) hS.2.2 dX0_takeBack_28
  · rw [← nI_0, nI_eq (by omega) (by omega)] at c4
    refine lv_iconst (v := -nI 1) hx hb dX0_takeBack_7 (by decide) ?_
    exact W.iret (v := (-nI 1)) hx hb hr (fun t ht hW => ⟨⟨_, _, rfl, ⟨by simp [*], (va_self C (by subst c4; exact heb)).symm⟩, iB_of ht hP⟩, hS.F ht⟩) hS.2.2 dX0_takeBack_8
abbrev rmX0_hasMend : Room := { frames := 0, cells := 0, slots := 0, locals := 0 }
set_option maxRecDepth 20000 in
theorem iu_X0_hasMend_0 : ∀ w ∈ u_ws RX0 TX0 3, w ∈ wsX0_hasMend := by decide +kernel
set_option maxRecDepth 20000 in
theorem il_X0_hasMend_18 : (Cond.fieldLink RX0 18 "BayerGate$EditRow" "length" "I") ∈ wsX0_hasMend := by decide +kernel
set_option maxRecDepth 20000 in
theorem il_X0_hasMend_9 : (Cond.fieldLink RX0 9 "BayerGate$EditRow" "kinds" "[I") ∈ wsX0_hasMend := by decide +kernel
set_option maxHeartbeats 4000000 in
set_option maxRecDepth 100000 in
theorem lX0_hasMend {p : Program} {l : Launch} {e : Env} {s : State} {m : MethodId} {args : Array Value} {below : List Frame} {meth : Method} {c : Code} {Q : State → Prop} {A : Nat → Prop} {H0 : Heap} {cells slots : Nat} (hx : p.tables.exec = Jvm.exec) (hb : c.code = cX0_hasMend) (hml : c.maxLocals = 2) (hr : meth.sig.returnType = (some .boolean)) (hts : ∀ w ∈ wsX0_hasMend, w.before args s = true) (hown : s.vm.findClass RX0 = some m.cls) {G : iG} (hK : KB G s) (hA : ∀ q, H0.size ≤ q → A q) {N : Nat} {ad : Nat → Nat} {C : Nat → va_E} {H : Heap} {locs : List Loc} (hP : va_P G.1 vwB (wl N ad C) H) (hD : va_D A (wl N ad C)) (hS : va_S A H0 H locs)  (hcc : cells ≤ rmX0_hasMend.cells) (hcs : slots ≤ rmX0_hasMend.slots) {eb ek en : Nat} {ekinds enums : Nat → Int32} {n : Nat} (leb : eb < N) (lek : ek < N) (len : en < N) (heb : C eb = ob 0 [.ref (ad ek), .ref (ad en), .int (nI n)]) (hek : C ek = ia G 6 ekinds) (hen : C en = ia G 6 enums) (de : ek ≠ en) (hn6 : n ≤ 6) (kx : ∀ ls, hasM ekinds n = false → lv_has ls 2 [(0, .ref (ad eb))] → W p l e rmX0_hasMend s m args below meth c H locs cells slots Q (F0 m 28 ls [])) (kt : ∀ ls, hasM ekinds n = true → lv_has ls 2 [(0, .ref (ad eb))] → W p l e rmX0_hasMend s m args below meth c H locs cells slots Q (F0 m 20 ls [])) : ∀ (d : Nat) (k : Nat) (ls : Array Slot), n - k < d → k ≤ n → hasM ekinds k = false → lv_has ls 2 [(1, .int (nI k)), (0, .ref (ad eb))] → W p l e rmX0_hasMend s m args below meth c H locs cells slots Q (F0 m 2 ls []) := by
  intro d
  induction d with
  | zero => intro k ls hd; exact absurd hd (Nat.not_lt_zero _)
  | succ d ih =>
    intro k ls hd h2 h3 hl
    refine lv_iload_n hx hb dX0_hasMend_2 rfl (lv_at hl 0 rfl) ?_
    refine lv_aload_n hx hb dX0_hasMend_3 rfl (lv_at hl 1 rfl) ?_
    refine iw_get hx hb hts iu_X0_hasMend_0 hown hK hP leb (heb) rfl 2 (by decide) (hts _ il_X0_hasMend_18) (fun _ h9 => h9) rfl dX0_hasMend_4 ?_
    refine lv_icmp_ge (tgt := 28) hx hb dX0_hasMend_7 (by decide) (fun c7 => ?_) (fun c7 => ?_)
    · have e7 : k = n := by have := (nI_leI (by omega) (by omega)).mp c7; omega
      subst e7
      exact kx ls h3 (lv_sub hl [1] rfl)
    · have h4 : k < n := by have := mt (nI_leI (by omega) (by omega)).mpr c7; omega
      refine lv_aload_n hx hb dX0_hasMend_10 rfl (lv_at hl 1 rfl) ?_
      refine iw_get hx hb hts iu_X0_hasMend_0 hown hK hP leb (heb) rfl 0 (by decide) (hts _ il_X0_hasMend_9) (fun _ h9 => h9) rfl dX0_hasMend_11 ?_
      refine lv_iload_n hx hb dX0_hasMend_14 rfl (lv_at hl 0 rfl) ?_
      refine iw_iald (v := ekinds k) hx hb hK hP lek (hek) (vp_in_nI (show k < 6 by omega) (by omega)) (congrArg ekinds (nI_clamp (by omega))) dX0_hasMend_15 ?_
      refine lv_iconst (v := nI 5) hx hb dX0_hasMend_16 (by decide) ?_
      refine lv_icmp_ne (tgt := 22) hx hb dX0_hasMend_17 (by decide) (fun c17 => ?_) (fun c17 => ?_)
      · refine lv_iinc (v := nI (k + 1)) (lv' := [(1, .int (nI (k + 1))), (0, .ref (ad eb))]) hx hb dX0_hasMend_22 hl (k := 0) rfl (iinc_nat _ 1) (by decide) rfl (fun ls hl => ?_)
        refine lv_goto (tgt := 2) hx hb dX0_hasMend_25 (by decide) ?_
        exact ih (k + 1) ls (by omega) (by omega) (by simp only [hasM, h3]; simp [c17]) (lv_sub hl [0, 1] rfl)
      · exact kt ls (hasM_up _ c17 n (by have := mt (nI_leI (by omega) (by omega)).mpr c7; omega)) (lv_sub hl [1] rfl)
set_option maxHeartbeats 4000000 in
set_option maxRecDepth 100000 in
theorem kX0_hasMend (l : Launch) (G : iG) (N : Nat) (ad : Nat → Nat) (C : Nat → va_E) {eb ek en : Nat} {ekinds enums : Nat → Int32} {n : Nat} (leb : eb < N) (lek : ek < N) (len : en < N) (heb : C eb = ob 0 [.ref (ad ek), .ref (ad en), .int (nI n)]) (hek : C ek = ia G 6 ekinds) (hen : C en = ia G 6 enums) (de : ek ≠ en) (hn6 : n ≤ 6) (sz : Nat) : Met l yX0_hasMend wsX0_hasMend rmX0_hasMend (iPre G N ad C sz [.ref (ad eb)]) (va_Qi (fun (r : Int32) (u : Nat → va_E) => r = (if hasM ekinds n then nI 1 else nI 0) ∧ u = C) (iB G N ad) (iA N ad sz)) 0 0 (iA N ad sz) := by
  refine Met.ofW (cc := cX0_hasMend) (maxL := 2) (ret := (some .boolean)) (by decide) rfl ?_
  intro p e s m args below meth c s₁ B hml hv
  obtain ⟨rfl, hsz, hP, hK, hD0⟩ := hv
  have hx := B.exec
  have hb := B.bytes
  have hr := B.returns
  have hts := atoms_spec (ws := wsX0_hasMend) B.pre
  have hown : s.vm.findClass RX0 = some m.cls := findClass_of_methodNamed B.named
  have hlocks := B.notSynchronized
  subst hsz
  have hD := wl_self hD0 s.heap.size
  have hA : ∀ q : Nat, s.heap.size ≤ q → iA N ad s.heap.size q := fun q h => Or.inr h
  have hS : va_S (iA N ad s.heap.size) s.heap s.heap [] := va_S.rf
  have hP : va_P G.1 vwB (wl N ad C) s.heap := hP
  have hl := lv_entry ([.ref (ad eb)]) (n := 2) (Nat.le_of_ble_eq_true rfl)
  rw [lg_entry_eq]
  generalize (lg_sl ([.ref (ad eb)]) ++ List.replicate (2 - (lg_sl ([.ref (ad eb)])).length) Slot.unset).toArray = ls at hl ⊢
  have hl : lv_has ls 2 [(0, .ref (ad eb))] := hl
  refine lv_iconst (v := nI 0) hx hb dX0_hasMend_0 (by decide) ?_
  refine lv_istore_n (lv' := [(1, .int (nI 0)), (0, .ref (ad eb))]) hx hb dX0_hasMend_1 rfl hl (by decide) rfl (fun ls hl => ?_)
  refine lX0_hasMend hx hb hml hr hts hown hK hA hP hD hS (Nat.le_refl _) (Nat.le_refl _) leb lek len heb hek hen de hn6 (fun ls hm hl => ?_) (fun ls hm hl => ?_) (n + 1) 0 ls (by omega) (by omega) rfl hl
  · refine lv_iconst (v := nI 0) hx hb dX0_hasMend_28 (by decide) ?_
    exact W.zret (v := (nI 0)) (ty := .boolean) hx hb hr (by decide) (fun t ht hW => ⟨⟨_, _, rfl, ⟨by simp [hm], rfl⟩, iB_of ht hP⟩, hS.F ht⟩) hS.2.2 dX0_hasMend_29
  · refine lv_iconst (v := nI 1) hx hb dX0_hasMend_20 (by decide) ?_
    exact W.zret (v := (nI 1)) (ty := .boolean) hx hb hr (by decide) (fun t ht hW => ⟨⟨_, _, rfl, ⟨by simp [hm], rfl⟩, iB_of ht hP⟩, hS.F ht⟩) hS.2.2 dX0_hasMend_21
end
section
/-! floats: what is no number is never made here -/
theorem n32_val (x : UInt32) : vf_n32 x ↔ FP.Core.val32 x ≠ .nan := by
  have e : vf_n32 x ↔ x.toNat % 2 ^ 31 ≤ 2139095040 := by
    unfold vf_n32
    rw [UInt32.le_iff_toNat_le, UInt32.toNat_and]
    have h1 : (0x7fffffff : UInt32).toNat = 2 ^ 31 - 1 := by decide
    have h2 : (0x7f800000 : UInt32).toNat = 2139095040 := by decide
    rw [h1, h2, Nat.and_two_pow_sub_one_eq_mod]
  rw [e, FP.Core.ne_nan32]
theorem n64_val (x : UInt64) : vf_n64 x ↔ FP.Core.val64 x ≠ .nan := by
  have e : vf_n64 x ↔ x.toNat % 2 ^ 63 ≤ 9218868437227405312 := by
    unfold vf_n64
    rw [UInt64.le_iff_toNat_le, UInt64.toNat_and]
    have h1 : (0x7fffffffffffffff : UInt64).toNat = 2 ^ 63 - 1 := by decide
    have h2 : (0x7ff0000000000000 : UInt64).toNat = 9218868437227405312 := by decide
    rw [h1, h2, Nat.and_two_pow_sub_one_eq_mod]
  rw [e, FP.Core.ne_nan]
/-- finite; finite and not zero -/
def fin32 (x : UInt32) : Prop := ∃ s c q, FP.Core.val32 x = .fin s c q
def finz32 (x : UInt32) : Prop := ∃ s c q, FP.Core.val32 x = .fin s c q ∧ c ≠ 0
def fin64 (x : UInt64) : Prop := ∃ s c q, FP.Core.val64 x = .fin s c q
def finz64 (x : UInt64) : Prop := ∃ s c q, FP.Core.val64 x = .fin s c q ∧ c ≠ 0
theorem fin32_n {x : UInt32} (h : fin32 x) : vf_n32 x := by
  obtain ⟨s, c, q, h⟩ := h
  rw [n32_val, h]
  exact fun e => by cases e
theorem fin64_n {x : UInt64} (h : fin64 x) : vf_n64 x := by
  obtain ⟨s, c, q, h⟩ := h
  rw [n64_val, h]
  exact fun e => by cases e
theorem finz32_fin {x : UInt32} (h : finz32 x) : fin32 x := by
  obtain ⟨s, c, q, h, -⟩ := h
  exact ⟨s, c, q, h⟩
theorem i2f_fin32 (v : Int32) : fin32 (FP.i2f v) := FP.Core.i2f_fin v
theorem rnd_n {f : FP.Core.Fmt} {d : FP.Core.Datum} (h : d ≠ .nan) : FP.Core.round f d ≠ .nan := by
  intro e
  exact h (FP.Core.round_nan.mp e)
theorem fmul_ff {x y : UInt32} (hx : fin32 x) (hy : fin32 y) : vf_n32 (FP.fmul x y) := by
  obtain ⟨s, c, q, hx⟩ := hx
  obtain ⟨t, d, r, hy⟩ := hy
  rw [n32_val]
  show FP.Core.val32 (FP.Core.fmul x y) ≠ .nan
  rw [FP.Core.val32_fmul, hx, hy]
  exact rnd_n (by simp [FP.Core.exactProduct])
theorem fmul_nz {x y : UInt32} (hx : vf_n32 x) (hy : finz32 y) : vf_n32 (FP.fmul x y) := by
  obtain ⟨t, d, r, hy, hd⟩ := hy
  rw [n32_val] at hx ⊢
  show FP.Core.val32 (FP.Core.fmul x y) ≠ .nan
  rw [FP.Core.val32_fmul, hy]
  refine rnd_n ?_
  cases hv : FP.Core.val32 x with
  | nan => exact absurd hv hx
  | inf s => simp [FP.Core.exactProduct, hd]
  | fin s c q => simp [FP.Core.exactProduct]
theorem fdiv_nz {x y : UInt32} (hx : vf_n32 x) (hy : finz32 y) : vf_n32 (FP.fdiv x y) := by
  obtain ⟨t, d, r, hy, hd⟩ := hy
  rw [n32_val] at hx ⊢
  show FP.Core.val32 (FP.Core.fdiv x y) ≠ .nan
  rw [FP.Core.val32_fdiv, hy]
  cases hv : FP.Core.val32 x with
  | nan => exact absurd hv hx
  | inf s => simp [FP.Core.quotient]
  | fin s c q =>
    simp only [FP.Core.quotient, hd, if_false, ite_false, reduceIte]
    exact FP.Core.roundRatio_ne_nan _ _ _ _ _
theorem fsub_nf {x y : UInt32} (hx : vf_n32 x) (hy : fin32 y) : vf_n32 (FP.fsub x y) := by
  obtain ⟨t, d, r, hy⟩ := hy
  rw [n32_val] at hx ⊢
  show FP.Core.val32 (FP.Core.fsub x y) ≠ .nan
  rw [FP.Core.val32_fsub, hy]
  refine rnd_n ?_
  cases hv : FP.Core.val32 x with
  | nan => exact absurd hv hx
  | inf s => simp [FP.Core.exactSum, FP.Core.negate]
  | fin s c q => simp [FP.Core.exactSum, FP.Core.negate]
theorem fsub_fn {x y : UInt32} (hx : fin32 x) (hy : vf_n32 y) : vf_n32 (FP.fsub x y) := by
  obtain ⟨t, d, r, hx⟩ := hx
  rw [n32_val] at hy ⊢
  show FP.Core.val32 (FP.Core.fsub x y) ≠ .nan
  rw [FP.Core.val32_fsub, hx]
  refine rnd_n ?_
  cases hv : FP.Core.val32 y with
  | nan => exact absurd hv hy
  | inf s => simp [FP.Core.exactSum, FP.Core.negate]
  | fin s c q => simp [FP.Core.exactSum, FP.Core.negate]
theorem dadd_nf {x y : UInt64} (hx : vf_n64 x) (hy : fin64 y) : vf_n64 (FP.dadd x y) := by
  obtain ⟨t, d, r, hy⟩ := hy
  rw [n64_val] at hx ⊢
  show FP.Core.val64 (FP.Core.dadd x y) ≠ .nan
  rw [FP.Core.val64_dadd, hy]
  refine rnd_n ?_
  cases hv : FP.Core.val64 x with
  | nan => exact absurd hv hx
  | inf s => simp [FP.Core.exactSum]
  | fin s c q => simp [FP.Core.exactSum]
theorem ddiv_nz {x y : UInt64} (hx : vf_n64 x) (hy : finz64 y) : vf_n64 (FP.ddiv x y) := by
  obtain ⟨t, d, r, hy, hd⟩ := hy
  rw [n64_val] at hx ⊢
  show FP.Core.val64 (FP.Core.ddiv x y) ≠ .nan
  rw [FP.Core.val64_ddiv, hy]
  cases hv : FP.Core.val64 x with
  | nan => exact absurd hv hx
  | inf s => simp [FP.Core.quotient]
  | fin s c q =>
    simp only [FP.Core.quotient, hd, if_false, ite_false, reduceIte]
    exact FP.Core.roundRatio_ne_nan _ _ _ _ _
/-- the quarters: k / 4f for k of 1 to 16, 4f, 16f, 0.5f, 2f, 255f -/
def quF (k : Nat) : UInt32 := FP.fdiv (FP.i2f (nI k)) 1082130432
def isFz (x : UInt32) : Bool := match FP.Core.val32 x with
  | .fin _ c _ => c != 0
  | _ => false
theorem isFz_ok {x : UInt32} (h : isFz x = true) : finz32 x := by
  unfold isFz at h
  cases hv : FP.Core.val32 x with
  | nan => rw [hv] at h; cases h
  | inf s => rw [hv] at h; cases h
  | fin s c q =>
    rw [hv] at h
    exact ⟨s, c, q, hv, by simpa using h⟩
theorem quF_ok : ∀ k, k < 17 → 0 < k → finz32 (quF k) := fun k hk h0 => isFz_ok (by
  have : (List.range 17).all (fun k => decide (k = 0) || isFz (quF k)) = true := by decide +kernel
  have h := List.all_eq_true.mp this k (List.mem_range.mpr hk)
  simp only [Bool.or_eq_true, decide_eq_true_eq] at h
  rcases h with h | h
  · omega
  · exact h)
theorem f4_ok : finz32 1082130432 := isFz_ok (by decide +kernel)
theorem f16_ok : finz32 1098907648 := isFz_ok (by decide +kernel)
theorem fhalf_ok : finz32 1056964608 := isFz_ok (by decide +kernel)
theorem f2_ok : finz32 FP.fconst2 := isFz_ok (by decide +kernel)
theorem f1_ok : finz32 FP.fconst1 := isFz_ok (by decide +kernel)
theorem f0_ok : fin32 FP.fconst0 := ⟨_, _, _, FP.Core.val32_fconst0⟩
theorem f255_ok : finz32 1132396544 := isFz_ok (by decide +kernel)
theorem i2f_nz {k : Nat} (h0 : 0 < k) (hk : k < 2 ^ 24) : finz32 (FP.i2f (nI k)) := by
  obtain ⟨s, c, q, h⟩ := i2f_fin32 (nI k)
  refine ⟨s, c, q, h, fun e => ?_⟩
  subst e
  have hz := FP.Core.i2f_big (v := nI k) (by rw [nI_toInt (by omega)]; omega)
  have h2 := (FP.Core.zero_bits232 (FP.i2f (nI k))).mp ⟨s, q, h⟩
  have h3 : 127 * 2 ^ 23 ≤ (FP.i2f (nI k)).toNat % 2 ^ 31 := hz.1
  omega
end
section
/-! what an array holds matters below its length alone -/
theorem arrV_congr (cA : ClassId) {n : Nat} {f g : Nat → Value} (h : ∀ j, j < n → f j = g j) : arrV cA n f = arrV cA n g := by
  have e : (fun j : Fin n => f j.val) = (fun j : Fin n => g j.val) := by
    funext j
    exact h j.val j.isLt
  unfold arrV
  rw [e]
theorem wl_congr {D : va_G} {cl : List vw_C} {N : Nat} {ad : Nat → Nat} {C C' : Nat → va_E} {H : Heap} (hP : va_P D cl (wl N ad C) H) (h : ∀ j, j < N → va_at D cl (ad j, C j) H → va_at D cl (ad j, C' j) H) : va_P D cl (wl N ad C') H := by
  intro k q hq
  obtain ⟨h1, rfl⟩ := wl_at hq
  exact h k h1 (hP k (ad k, C k) (wl_get h1 rfl))
theorem wl_ia {D : va_G} {cl : List vw_C} {N : Nat} {ad : Nat → Nat} {C : Nat → va_E} {H : Heap} {G : iG} {j n : Nat} {f g : Nat → Int32} (hP : va_P D cl (wl N ad (va_up C j (ia G n f))) H) (h : ∀ k, k < n → f k = g k) : va_P D cl (wl N ad (va_up C j (ia G n g))) H := by
  refine wl_congr hP (fun i hi ha => ?_)
  by_cases e : i = j
  · subst e
    rw [va_us] at ha ⊢
    show H[ad i]? = some (vp_cell _ (n, .inl g))
    rw [vp_cell_i, ← arrV_congr _ (fun k hk => congrArg Value.int (h k hk)), ← vp_cell_i]
    exact ha
  · rw [va_un _ _ e] at ha ⊢
    exact ha
theorem wl_fa {D : va_G} {cl : List vw_C} {N : Nat} {ad : Nat → Nat} {C : Nat → va_E} {H : Heap} {G : iG} {j n : Nat} {f g : Nat → UInt32} (hP : va_P D cl (wl N ad (va_up C j (fa G n f))) H) (h : ∀ k, k < n → f k = g k) : va_P D cl (wl N ad (va_up C j (fa G n g))) H := by
  refine wl_congr hP (fun i hi ha => ?_)
  by_cases e : i = j
  · subst e
    rw [va_us] at ha ⊢
    show H[ad i]? = some (vp_cell _ (n, .inr (.inr (.inl g))))
    rw [vp_cell_f, ← arrV_congr _ (fun k hk => congrArg Value.float (h k hk)), ← vp_cell_f]
    exact ha
  · rw [va_un _ _ e] at ha ⊢
    exact ha
theorem flI_n (f g : Nat → Nat) (i : Nat) : upd (fun k => nI (flI f g i k)) i (nI (f i)) = fun k => nI (flI f g (i + 1) k) := by
  funext k
  by_cases h : k = i
  · subst h; simp [upd, flI]
  · have h2 : (k < i + 1) = (k < i) := by simp; omega
    simp [upd, flI, h, h2]
theorem flI_f (f g : Nat → UInt32) (i : Nat) : vf_upd (flI f g i) i (f i) = flI f g (i + 1) := by
  funext k
  by_cases h : k = i
  · subst h; simp [vf_upd, flI]
  · have h2 : (k < i + 1) = (k < i) := by simp; omega
    simp [vf_upd, flI, h, h2]
/-- a painted place -/
def pcN (sh : Nat → Nat) (pl co : Nat) : Nat → Nat := fun i => if i = 3 * pl + 2 then co / 256 / 256 % 256 else if i = 3 * pl + 1 then co / 256 % 256 else if i = 3 * pl then co % 256 else sh i
theorem pc_eq (sh : Nat → Nat) (pl co : Nat) : upd (upd (upd (fun i => nI (sh i)) (3 * pl + 0) (nI (co % 256))) (3 * pl + 1) (nI (co / 256 % 256))) (3 * pl + 2) (nI (co / 256 / 256 % 256)) = fun i => nI (pcN sh pl co i) := by
  funext i
  unfold pcN upd
  simp only [Nat.add_zero]
  split
  · rfl
  · split
    · rfl
    · split <;> rfl
/-- the light in a place -/
def liF (sh : Nat → Nat) (fac : Nat → UInt32) (pl k time : Nat) : UInt32 := FP.fdiv (FP.fmul (FP.fmul (FP.i2f (nI (sh (3 * pl + k)))) (fac k)) (FP.i2f (nI time))) 1098907648
/-- the draws, from d on -/
def drN (d : Nat) : Nat → Nat
  | 0 => d
  | n + 1 => (2 * drN d n + 5) % 61
theorem drN_lt {d : Nat} (h : d < 61) : ∀ n, drN d n < 61
  | 0 => h
  | n + 1 => Nat.mod_lt _ (by omega)
theorem rawI_n (h : Int32) (li : UInt32) (g : Int32) (d : Nat) : ∃ n, n ≤ 255 ∧ rawI h li g d = nI n := by
  unfold rawI
  split
  · exact ⟨0, by omega, rfl⟩
  · split
    · exact ⟨255, by omega, rfl⟩
    · generalize nI 16 + minI (FP.f2i li) (nI 255) * g + nI (d % 8) - nI 4 = z
      unfold maxI minI
      by_cases h2 : z < nI 255
      · rw [if_pos h2]
        by_cases h1 : nI 0 < z
        · rw [if_pos h1]
          have a1 := Int32.lt_iff_toInt_lt.mp h1
          have a2 := Int32.lt_iff_toInt_lt.mp h2
          rw [nI_toInt (by omega)] at a1 a2
          refine ⟨z.toInt.toNat, by omega, Int32.toInt.inj ?_⟩
          rw [nI_toInt (by omega)]
          omega
        · rw [if_neg h1]
          exact ⟨0, by omega, rfl⟩
      · rw [if_neg h2, if_pos (nI_lt (by omega) (by omega))]
        exact ⟨255, by omega, rfl⟩
/-- RAW of a place in a frame that is taken -/
def exN (hw sh : Nat → Nat) (fac : Nat → UInt32) (d time gain : Nat) (k : Nat) : Nat := (rawI (nI (hw k)) (liF sh fac k (colN (k % 8) (k / 8)) time) (nI gain) (drN d (k + 1))).toNatClampNeg
theorem exN_ok (hw sh : Nat → Nat) (fac : Nat → UInt32) (d time gain k : Nat) : exN hw sh fac d time gain k ≤ 255 ∧ rawI (nI (hw k)) (liF sh fac k (colN (k % 8) (k / 8)) time) (nI gain) (drN d (k + 1)) = nI (exN hw sh fac d time gain k) := by
  unfold exN
  obtain ⟨n, h1, h2⟩ := rawI_n (nI (hw k)) (liF sh fac k (colN (k % 8) (k / 8)) time) (nI gain) (drN d (k + 1))
  rw [h2, nI_clamp (by omega)]
  exact ⟨h1, rfl⟩
/-- what is mapped, as the array has it -/
def bI (mp : Nat → Bool) : Nat → Int32 := fun k => if mp k then nI 1 else nI 0
theorem bI_up (mp : Nat → Bool) (k : Nat) (b : Bool) : upd (bI mp) k (if b then nI 1 else nI 0) = bI (va_up mp k b) := by
  funext i
  by_cases h : i = k <;> simp [upd, bI, va_up, h]
theorem bI_nar (b : Bool) : narrow .boolean (.int (if b then nI 1 else nI 0)) = .int (if b then nI 1 else nI 0) := by cases b <;> decide
theorem bI_vp (b : Bool) : vp_nar .boolean (if b then nI 1 else nI 0) = (if b then nI 1 else nI 0) := by cases b <;> decide
def ctN (mp : Nat → Bool) : Nat → Nat
  | 0 => 0
  | n + 1 => ctN mp n + if mp n then 1 else 0
theorem ctN_le (mp : Nat → Bool) : ∀ n, ctN mp n ≤ n
  | 0 => Nat.le_refl _
  | n + 1 => by
    have := ctN_le mp n
    unfold ctN
    split <;> omega
abbrev rmX3_colourPlace : Room := { frames := 0, cells := 0, slots := 0, locals := 0 }
set_option maxRecDepth 20000 in
theorem iu_X3_colourPlace_3 : ∀ w ∈ u_ws RX3 TX3 3, w ∈ wsX3_colourPlace := by decide +kernel
set_option maxRecDepth 20000 in
theorem il_X3_colourPlace_9 : (Cond.fieldLink RX3 9 "BayerGate$Scene" "shades" "[I") ∈ wsX3_colourPlace := by decide +kernel
set_option maxHeartbeats 4000000 in
set_option maxRecDepth 100000 in
theorem kX3_colourPlace (l : Launch) (G : iG) (N : Nat) (ad : Nat → Nat) (C : Nat → va_E) {sb ss sf : Nat} {sh : Nat → Nat} {fac : Nat → UInt32} {gq : Nat} (lsb : sb < N) (lss : ss < N) (lsf : sf < N) (hsb : C sb = ob 3 [.ref (ad ss), .ref (ad sf), .int (nI gq)]) (hss : C ss = ia G 192 (fun i => nI (sh i))) (hsf : C sf = fa G 3 fac) (pl co : Nat) (hpl : pl < 64) (hco : co < 2 ^ 31) (sz : Nat) : Met l yX3_colourPlace wsX3_colourPlace rmX3_colourPlace (iPre G N ad C sz [.ref (ad sb), .int (nI pl), .int (nI co)]) (va_Qv (fun (u : Nat → va_E) => u = va_up C ss (ia G 192 (fun i => nI (pcN sh pl co i)))) (iB G N ad) (iA N ad sz)) 0 0 (iA N ad sz) := by
  refine Met.ofW (cc := cX3_colourPlace) (maxL := 5) (ret := none) (by decide) rfl ?_
  intro p e s m args below meth c s₁ B hml hv
  obtain ⟨rfl, hsz, hP, hK, hD0⟩ := hv
  have hx := B.exec
  have hb := B.bytes
  have hr := B.returns
  have hts := atoms_spec (ws := wsX3_colourPlace) B.pre
  have hown : s.vm.findClass RX3 = some m.cls := findClass_of_methodNamed B.named
  have hlocks := B.notSynchronized
  subst hsz
  have hD := wl_self hD0 s.heap.size
  have hA : ∀ q : Nat, s.heap.size ≤ q → iA N ad s.heap.size q := fun q h => Or.inr h
  have hS : va_S (iA N ad s.heap.size) s.heap s.heap [] := va_S.rf
  have hP : va_P G.1 vwB (wl N ad C) s.heap := hP
  have hl := lv_entry ([.ref (ad sb), .int (nI pl), .int (nI co)]) (n := 5) (Nat.le_of_ble_eq_true rfl)
  rw [lg_entry_eq]
  generalize (lg_sl ([.ref (ad sb), .int (nI pl), .int (nI co)]) ++ List.replicate (5 - (lg_sl ([.ref (ad sb), .int (nI pl), .int (nI co)])).length) Slot.unset).toArray = ls at hl ⊢
  have hl : lv_has ls 5 [(0, .ref (ad sb)), (1, .int (nI pl)), (2, .int (nI co))] := hl
  have nss : sb ≠ ss := fun h => by rw [h, hss] at hsb; cases hsb
  have nsf : sb ≠ sf := fun h => by rw [h, hsf] at hsb; cases hsb
  refine lv_iload_n hx hb dX3_colourPlace_0 rfl (lv_at hl 2 rfl) ?_
  refine lv_istore_n (lv' := [(3, .int (nI co)), (0, .ref (ad sb)), (1, .int (nI pl)), (2, .int (nI co))]) hx hb dX3_colourPlace_1 rfl hl (by decide) rfl (fun ls hl => ?_)
  refine lv_iconst (v := nI 0) hx hb dX3_colourPlace_2 (by decide) ?_
  refine lv_istore (lv' := [(4, .int (nI 0)), (3, .int (nI co)), (0, .ref (ad sb)), (1, .int (nI pl)), (2, .int (nI co))]) hx hb dX3_colourPlace_3 hl (by decide) rfl (fun ls hl => ?_)
  refine lv_iload hx hb dX3_colourPlace_5 (lv_at hl 0 rfl) ?_
  refine lv_iconst (v := nI 3) hx hb dX3_colourPlace_7 (by decide) ?_
  refine lv_icmp_ge (tgt := 39) hx hb dX3_colourPlace_8 (by decide) (fun c9 => absurd c9 (by decide)) (fun _ => ?_)
  refine lv_aload_n hx hb dX3_colourPlace_11 rfl (lv_at hl 2 rfl) ?_
  refine iw_get hx hb hts iu_X3_colourPlace_3 hown hK hP lsb (hsb) rfl 0 (by decide) (hts _ il_X3_colourPlace_9) (fun _ h9 => h9) rfl dX3_colourPlace_12 ?_
  refine lv_iconst (v := nI 3) hx hb dX3_colourPlace_15 (by decide) ?_
  refine lv_iload_n hx hb dX3_colourPlace_16 rfl (lv_at hl 3 rfl) ?_
  refine lv_imul hx hb dX3_colourPlace_17 ?_
  refine lv_asI (y := nI (3 * pl)) (pk_mul _ _) ?_
  refine lv_iload hx hb dX3_colourPlace_18 (lv_at hl 0 rfl) ?_
  refine lv_iadd hx hb dX3_colourPlace_20 ?_
  refine lv_asI (y := nI ((3 * pl) + 0)) (nI_add _ _) ?_
  refine lv_iload_n hx hb dX3_colourPlace_21 rfl (lv_at hl 1 rfl) ?_
  refine lv_sipush (v := nI 256) hx hb dX3_colourPlace_22 (by decide) ?_
  refine lv_irem hx hb dX3_colourPlace_25 (by decide) ?_
  refine lv_asI (y := nI (co % 256)) (pk_rem (by omega) (by omega) (by omega)) ?_
  refine iw_iast hx hb hK hP hD hS lss (hss) (vp_in_nI (show (3 * pl) + 0 < 192 by omega) (by omega)) (nI_clamp (by omega)) dX3_colourPlace_26 (fun H locs hP hD hS => ?_)
  refine lv_iload_n hx hb dX3_colourPlace_27 rfl (lv_at hl 1 rfl) ?_
  refine lv_sipush (v := nI 256) hx hb dX3_colourPlace_28 (by decide) ?_
  refine lv_idiv hx hb dX3_colourPlace_31 (by decide) ?_
  refine lv_asI (y := nI (co / 256)) (pk_div (by omega) (by omega) (by omega)) ?_
  refine lv_istore_n (lv' := [(3, .int (nI (co / 256))), (4, .int (nI 0)), (0, .ref (ad sb)), (1, .int (nI pl)), (2, .int (nI co))]) hx hb dX3_colourPlace_32 rfl hl (by decide) rfl (fun ls hl => ?_)
  refine lv_iinc (v := nI 1) (lv' := [(4, .int (nI 1)), (3, .int (nI (co / 256))), (0, .ref (ad sb)), (1, .int (nI pl)), (2, .int (nI co))]) hx hb dX3_colourPlace_33 hl (k := 1) rfl (iinc_nat _ 1) (by decide) rfl (fun ls hl => ?_)
  refine lv_goto (tgt := 5) hx hb dX3_colourPlace_36 (by decide) ?_
  refine lv_iload hx hb dX3_colourPlace_5 (lv_at hl 0 rfl) ?_
  refine lv_iconst (v := nI 3) hx hb dX3_colourPlace_7 (by decide) ?_
  refine lv_icmp_ge (tgt := 39) hx hb dX3_colourPlace_8 (by decide) (fun c9 => absurd c9 (by decide)) (fun _ => ?_)
  refine lv_aload_n hx hb dX3_colourPlace_11 rfl (lv_at hl 2 rfl) ?_
  refine iw_get hx hb hts iu_X3_colourPlace_3 hown hK hP lsb ((va_un _ _ nss).trans (hsb)) rfl 0 (by decide) (hts _ il_X3_colourPlace_9) (fun _ h9 => h9) rfl dX3_colourPlace_12 ?_
  refine lv_iconst (v := nI 3) hx hb dX3_colourPlace_15 (by decide) ?_
  refine lv_iload_n hx hb dX3_colourPlace_16 rfl (lv_at hl 3 rfl) ?_
  refine lv_imul hx hb dX3_colourPlace_17 ?_
  refine lv_asI (y := nI (3 * pl)) (pk_mul _ _) ?_
  refine lv_iload hx hb dX3_colourPlace_18 (lv_at hl 0 rfl) ?_
  refine lv_iadd hx hb dX3_colourPlace_20 ?_
  refine lv_asI (y := nI ((3 * pl) + 1)) (nI_add _ _) ?_
  refine lv_iload_n hx hb dX3_colourPlace_21 rfl (lv_at hl 1 rfl) ?_
  refine lv_sipush (v := nI 256) hx hb dX3_colourPlace_22 (by decide) ?_
  refine lv_irem hx hb dX3_colourPlace_25 (by decide) ?_
  refine lv_asI (y := nI ((co / 256) % 256)) (pk_rem (by omega) (by omega) (by omega)) ?_
  refine iw_iast hx hb hK hP hD hS lss (va_us _ _ _) (vp_in_nI (show (3 * pl) + 1 < 192 by omega) (by omega)) (nI_clamp (by omega)) dX3_colourPlace_26 (fun H locs hP hD hS => ?_)
  rw [va_uu _ _ _ _] at hP hD
  refine lv_iload_n hx hb dX3_colourPlace_27 rfl (lv_at hl 1 rfl) ?_
  refine lv_sipush (v := nI 256) hx hb dX3_colourPlace_28 (by decide) ?_
  refine lv_idiv hx hb dX3_colourPlace_31 (by decide) ?_
  refine lv_asI (y := nI ((co / 256) / 256)) (pk_div (by omega) (by omega) (by omega)) ?_
  refine lv_istore_n (lv' := [(3, .int (nI ((co / 256) / 256))), (4, .int (nI 1)), (0, .ref (ad sb)), (1, .int (nI pl)), (2, .int (nI co))]) hx hb dX3_colourPlace_32 rfl hl (by decide) rfl (fun ls hl => ?_)
  refine lv_iinc (v := nI 2) (lv' := [(4, .int (nI 2)), (3, .int (nI ((co / 256) / 256))), (0, .ref (ad sb)), (1, .int (nI pl)), (2, .int (nI co))]) hx hb dX3_colourPlace_33 hl (k := 1) rfl (iinc_nat _ 1) (by decide) rfl (fun ls hl => ?_)
  refine lv_goto (tgt := 5) hx hb dX3_colourPlace_36 (by decide) ?_
  refine lv_iload hx hb dX3_colourPlace_5 (lv_at hl 0 rfl) ?_
  refine lv_iconst (v := nI 3) hx hb dX3_colourPlace_7 (by decide) ?_
  refine lv_icmp_ge (tgt := 39) hx hb dX3_colourPlace_8 (by decide) (fun c9 => absurd c9 (by decide)) (fun _ => ?_)
  refine lv_aload_n hx hb dX3_colourPlace_11 rfl (lv_at hl 2 rfl) ?_
  refine iw_get hx hb hts iu_X3_colourPlace_3 hown hK hP lsb ((va_un _ _ nss).trans (hsb)) rfl 0 (by decide) (hts _ il_X3_colourPlace_9) (fun _ h9 => h9) rfl dX3_colourPlace_12 ?_
  refine lv_iconst (v := nI 3) hx hb dX3_colourPlace_15 (by decide) ?_
  refine lv_iload_n hx hb dX3_colourPlace_16 rfl (lv_at hl 3 rfl) ?_
  refine lv_imul hx hb dX3_colourPlace_17 ?_
  refine lv_asI (y := nI (3 * pl)) (pk_mul _ _) ?_
  refine lv_iload hx hb dX3_colourPlace_18 (lv_at hl 0 rfl) ?_
  refine lv_iadd hx hb dX3_colourPlace_20 ?_
  refine lv_asI (y := nI ((3 * pl) + 2)) (nI_add _ _) ?_
  refine lv_iload_n hx hb dX3_colourPlace_21 rfl (lv_at hl 1 rfl) ?_
  refine lv_sipush (v := nI 256) hx hb dX3_colourPlace_22 (by decide) ?_
  refine lv_irem hx hb dX3_colourPlace_25 (by decide) ?_
  refine lv_asI (y := nI (((co / 256) / 256) % 256)) (pk_rem (by omega) (by omega) (by omega)) ?_
  refine iw_iast hx hb hK hP hD hS lss (va_us _ _ _) (vp_in_nI (show (3 * pl) + 2 < 192 by omega) (by omega)) (nI_clamp (by omega)) dX3_colourPlace_26 (fun H locs hP hD hS => ?_)
  rw [va_uu _ _ _ _] at hP hD
  refine lv_iload_n hx hb dX3_colourPlace_27 rfl (lv_at hl 1 rfl) ?_
  refine lv_sipush (v := nI 256) hx hb dX3_colourPlace_28 (by decide) ?_
  refine lv_idiv hx hb dX3_colourPlace_31 (by decide) ?_
  refine lv_asI (y := nI (((co / 256) / 256) / 256)) (pk_div (by omega) (by omega) (by omega)) ?_
  refine lv_istore_n (lv' := [(3, .int (nI (((co / 256) / 256) / 256))), (4, .int (nI 2)), (0, .ref (ad sb)), (1, .int (nI pl)), (2, .int (nI co))]) hx hb dX3_colourPlace_32 rfl hl (by decide) rfl (fun ls hl => ?_)
  refine lv_iinc (v := nI 3) (lv' := [(4, .int (nI 3)), (3, .int (nI (((co / 256) / 256) / 256))), (0, .ref (ad sb)), (1, .int (nI pl)), (2, .int (nI co))]) hx hb dX3_colourPlace_33 hl (k := 1) rfl (iinc_nat _ 1) (by decide) rfl (fun ls hl => ?_)
  refine lv_goto (tgt := 5) hx hb dX3_colourPlace_36 (by decide) ?_
  refine lv_iload hx hb dX3_colourPlace_5 (lv_at hl 0 rfl) ?_
  refine lv_iconst (v := nI 3) hx hb dX3_colourPlace_7 (by decide) ?_
  refine lv_icmp_ge (tgt := 39) hx hb dX3_colourPlace_8 (by decide) (fun _ => ?_) (fun c9 => absurd (by decide) c9)
  exact W.vret hx hb hr (fun t ht hW => ⟨⟨_, rfl, by rw [← pc_eq], iB_of ht hP⟩, hS.F ht⟩) hS.2.2 dX3_colourPlace_39
abbrev rmX3_shade : Room := { frames := 0, cells := 0, slots := 0, locals := 0 }
set_option maxRecDepth 20000 in
theorem iu_X3_shade_3 : ∀ w ∈ u_ws RX3 TX3 3, w ∈ wsX3_shade := by decide +kernel
set_option maxRecDepth 20000 in
theorem il_X3_shade_9 : (Cond.fieldLink RX3 9 "BayerGate$Scene" "shades" "[I") ∈ wsX3_shade := by decide +kernel
set_option maxHeartbeats 4000000 in
set_option maxRecDepth 100000 in
theorem kX3_shade (l : Launch) (G : iG) (N : Nat) (ad : Nat → Nat) (C : Nat → va_E) {sb ss sf : Nat} {sh : Nat → Nat} {fac : Nat → UInt32} {gq : Nat} (lsb : sb < N) (lss : ss < N) (lsf : sf < N) (hsb : C sb = ob 3 [.ref (ad ss), .ref (ad sf), .int (nI gq)]) (hss : C ss = ia G 192 (fun i => nI (sh i))) (hsf : C sf = fa G 3 fac) (pl k : Nat) (hpl : pl < 64) (hk : k < 3) (sz : Nat) : Met l yX3_shade wsX3_shade rmX3_shade (iPre G N ad C sz [.ref (ad sb), .int (nI pl), .int (nI k)]) (va_Qi (fun (r : Int32) (u : Nat → va_E) => r = nI (sh (3 * pl + k)) ∧ u = C) (iB G N ad) (iA N ad sz)) 0 0 (iA N ad sz) := by
  refine Met.ofW (cc := cX3_shade) (maxL := 3) (ret := (some .int)) (by decide) rfl ?_
  intro p e s m args below meth c s₁ B hml hv
  obtain ⟨rfl, hsz, hP, hK, hD0⟩ := hv
  have hx := B.exec
  have hb := B.bytes
  have hr := B.returns
  have hts := atoms_spec (ws := wsX3_shade) B.pre
  have hown : s.vm.findClass RX3 = some m.cls := findClass_of_methodNamed B.named
  have hlocks := B.notSynchronized
  subst hsz
  have hD := wl_self hD0 s.heap.size
  have hA : ∀ q : Nat, s.heap.size ≤ q → iA N ad s.heap.size q := fun q h => Or.inr h
  have hS : va_S (iA N ad s.heap.size) s.heap s.heap [] := va_S.rf
  have hP : va_P G.1 vwB (wl N ad C) s.heap := hP
  have hl := lv_entry ([.ref (ad sb), .int (nI pl), .int (nI k)]) (n := 3) (Nat.le_of_ble_eq_true rfl)
  rw [lg_entry_eq]
  generalize (lg_sl ([.ref (ad sb), .int (nI pl), .int (nI k)]) ++ List.replicate (3 - (lg_sl ([.ref (ad sb), .int (nI pl), .int (nI k)])).length) Slot.unset).toArray = ls at hl ⊢
  have hl : lv_has ls 3 [(0, .ref (ad sb)), (1, .int (nI pl)), (2, .int (nI k))] := hl
  refine lv_aload_n hx hb dX3_shade_0 rfl (lv_at hl 0 rfl) ?_
  refine iw_get hx hb hts iu_X3_shade_3 hown hK hP lsb (hsb) rfl 0 (by decide) (hts _ il_X3_shade_9) (fun _ h9 => h9) rfl dX3_shade_1 ?_
  refine lv_iconst (v := nI 3) hx hb dX3_shade_4 (by decide) ?_
  refine lv_iload_n hx hb dX3_shade_5 rfl (lv_at hl 1 rfl) ?_
  refine lv_imul hx hb dX3_shade_6 ?_
  refine lv_asI (y := nI (3 * pl)) (pk_mul _ _) ?_
  refine lv_iload_n hx hb dX3_shade_7 rfl (lv_at hl 2 rfl) ?_
  refine lv_iadd hx hb dX3_shade_8 ?_
  refine lv_asI (y := nI ((3 * pl) + k)) (nI_add _ _) ?_
  refine iw_iald (v := nI (sh ((3 * pl) + k))) hx hb hK hP lss (hss) (vp_in_nI (show (3 * pl) + k < 192 by omega) (by omega)) (congrArg (fun i => nI (sh i)) (nI_clamp (by omega))) dX3_shade_9 ?_
  exact W.iret (v := (nI (sh ((3 * pl) + k)))) hx hb hr (fun t ht hW => ⟨⟨_, _, rfl, ⟨rfl, rfl⟩, iB_of ht hP⟩, hS.F ht⟩) hS.2.2 dX3_shade_10
abbrev rmX3_light : Room := { frames := 0, cells := 0, slots := 0, locals := 0 }
set_option maxRecDepth 20000 in
theorem iu_X3_light_3 : ∀ w ∈ u_ws RX3 TX3 3, w ∈ wsX3_light := by decide +kernel
set_option maxRecDepth 20000 in
theorem il_X3_light_15 : (Cond.fieldLink RX3 15 "BayerGate$Scene" "factors" "[F") ∈ wsX3_light := by decide +kernel
set_option maxRecDepth 20000 in
theorem il_X3_light_23 : (Cond.constantFloat RX3 23 (1082130432)) ∈ wsX3_light := by decide +kernel
set_option maxRecDepth 20000 in
theorem il_X3_light_19 : (Cond.fieldLink RX3 19 "BayerGate$Scene" "quartersOfGreen" "I") ∈ wsX3_light := by decide +kernel
set_option maxHeartbeats 4000000 in
set_option maxRecDepth 100000 in
theorem kX3_light (l : Launch) (G : iG) (N : Nat) (ad : Nat → Nat) (C : Nat → va_E) {sb ss sf : Nat} {sh : Nat → Nat} {fac : Nat → UInt32} {gq : Nat} (lsb : sb < N) (lss : ss < N) (lsf : sf < N) (hsb : C sb = ob 3 [.ref (ad ss), .ref (ad sf), .int (nI gq)]) (hss : C ss = ia G 192 (fun i => nI (sh i))) (hsf : C sf = fa G 3 fac) (r1 g1 b1 : Nat) (hr1 : 0 < r1 ∧ r1 < 17) (hg1 : 0 < g1 ∧ g1 < 17) (hb1 : 0 < b1 ∧ b1 < 17) (sz : Nat) : Met l yX3_light wsX3_light rmX3_light (iPre G N ad C sz [.ref (ad sb), .int (nI r1), .int (nI g1), .int (nI b1)]) (va_Qv (fun (u : Nat → va_E) => u = va_up (va_up C sf (fa G 3 (vf_upd (vf_upd (vf_upd fac 0 (quF r1)) 1 (quF g1)) 2 (quF b1)))) sb (ob 3 [.ref (ad ss), .ref (ad sf), .int (nI g1)])) (iB G N ad) (iA N ad sz)) 0 0 (iA N ad sz) := by
  refine Met.ofW (cc := cX3_light) (maxL := 4) (ret := none) (by decide) rfl ?_
  intro p e s m args below meth c s₁ B hml hv
  obtain ⟨rfl, hsz, hP, hK, hD0⟩ := hv
  have hx := B.exec
  have hb := B.bytes
  have hr := B.returns
  have hts := atoms_spec (ws := wsX3_light) B.pre
  have hown : s.vm.findClass RX3 = some m.cls := findClass_of_methodNamed B.named
  have hlocks := B.notSynchronized
  subst hsz
  have hD := wl_self hD0 s.heap.size
  have hA : ∀ q : Nat, s.heap.size ≤ q → iA N ad s.heap.size q := fun q h => Or.inr h
  have hS : va_S (iA N ad s.heap.size) s.heap s.heap [] := va_S.rf
  have hP : va_P G.1 vwB (wl N ad C) s.heap := hP
  have hl := lv_entry ([.ref (ad sb), .int (nI r1), .int (nI g1), .int (nI b1)]) (n := 4) (Nat.le_of_ble_eq_true rfl)
  rw [lg_entry_eq]
  generalize (lg_sl ([.ref (ad sb), .int (nI r1), .int (nI g1), .int (nI b1)]) ++ List.replicate (4 - (lg_sl ([.ref (ad sb), .int (nI r1), .int (nI g1), .int (nI b1)])).length) Slot.unset).toArray = ls at hl ⊢
  have hl : lv_has ls 4 [(0, .ref (ad sb)), (1, .int (nI r1)), (2, .int (nI g1)), (3, .int (nI b1))] := hl
  have nss : sb ≠ ss := fun h => by rw [h, hss] at hsb; cases hsb
  have nsf : sb ≠ sf := fun h => by rw [h, hsf] at hsb; cases hsb
  refine lv_aload_n hx hb dX3_light_0 rfl (lv_at hl 0 rfl) ?_
  refine iw_get hx hb hts iu_X3_light_3 hown hK hP lsb (hsb) rfl 1 (by decide) (hts _ il_X3_light_15) (fun _ h9 => h9) rfl dX3_light_1 ?_
  refine lv_iconst (v := nI 0) hx hb dX3_light_4 (by decide) ?_
  refine lv_iload_n hx hb dX3_light_5 rfl (lv_at hl 1 rfl) ?_
  refine lv_i2f hx hb dX3_light_6 ?_
  refine lv_ldcf hx hb hown (hts _ il_X3_light_23) dX3_light_7 ?_
  refine lv_fdiv hx hb dX3_light_9 (fin32_n (finz32_fin (quF_ok r1 hr1.2 hr1.1))) ?_
  refine iw_fast hx hb hK hP hD hS lsf (hsf) (vp_in_nI (show 0 < 3 by omega) (by omega)) (nI_clamp (by omega)) dX3_light_10 (fun H locs hP hD hS => ?_)
  refine lv_aload_n hx hb dX3_light_11 rfl (lv_at hl 0 rfl) ?_
  refine iw_get hx hb hts iu_X3_light_3 hown hK hP lsb ((va_un _ _ nsf).trans (hsb)) rfl 1 (by decide) (hts _ il_X3_light_15) (fun _ h9 => h9) rfl dX3_light_12 ?_
  refine lv_iconst (v := nI 1) hx hb dX3_light_15 (by decide) ?_
  refine lv_iload_n hx hb dX3_light_16 rfl (lv_at hl 2 rfl) ?_
  refine lv_i2f hx hb dX3_light_17 ?_
  refine lv_ldcf hx hb hown (hts _ il_X3_light_23) dX3_light_18 ?_
  refine lv_fdiv hx hb dX3_light_20 (fin32_n (finz32_fin (quF_ok g1 hg1.2 hg1.1))) ?_
  refine iw_fast hx hb hK hP hD hS lsf (va_us _ _ _) (vp_in_nI (show 1 < 3 by omega) (by omega)) (nI_clamp (by omega)) dX3_light_21 (fun H locs hP hD hS => ?_)
  rw [va_uu _ _ _ _] at hP hD
  refine lv_aload_n hx hb dX3_light_22 rfl (lv_at hl 0 rfl) ?_
  refine iw_get hx hb hts iu_X3_light_3 hown hK hP lsb ((va_un _ _ nsf).trans (hsb)) rfl 1 (by decide) (hts _ il_X3_light_15) (fun _ h9 => h9) rfl dX3_light_23 ?_
  refine lv_iconst (v := nI 2) hx hb dX3_light_26 (by decide) ?_
  refine lv_iload_n hx hb dX3_light_27 rfl (lv_at hl 3 rfl) ?_
  refine lv_i2f hx hb dX3_light_28 ?_
  refine lv_ldcf hx hb hown (hts _ il_X3_light_23) dX3_light_29 ?_
  refine lv_fdiv hx hb dX3_light_31 (fin32_n (finz32_fin (quF_ok b1 hb1.2 hb1.1))) ?_
  refine iw_fast hx hb hK hP hD hS lsf (va_us _ _ _) (vp_in_nI (show 2 < 3 by omega) (by omega)) (nI_clamp (by omega)) dX3_light_32 (fun H locs hP hD hS => ?_)
  rw [va_uu _ _ _ _] at hP hD
  refine lv_aload_n hx hb dX3_light_33 rfl (lv_at hl 0 rfl) ?_
  refine lv_iload_n hx hb dX3_light_34 rfl (lv_at hl 2 rfl) ?_
  refine iw_put (ty := .int) hx hb hts iu_X3_light_3 tyX3 tyX3_ok nmX3 hown hK hP hD hS lsb ((va_un _ _ nsf).trans (hsb)) rfl 2 (by decide) (hts _ il_X3_light_19) (fun _ h9 => h9) rfl (by decide +kernel) rfl rfl (Nat.le_of_ble_eq_true rfl) rfl dX3_light_35 (fun H locs hP hD hS => ?_)
  exact W.vret hx hb hr (fun t ht hW => ⟨⟨_, rfl, rfl, iB_of ht hP⟩, hS.F ht⟩) hS.2.2 dX3_light_38
abbrev rmX3_greenQuarters : Room := { frames := 0, cells := 0, slots := 0, locals := 0 }
set_option maxRecDepth 20000 in
theorem iu_X3_greenQuarters_3 : ∀ w ∈ u_ws RX3 TX3 3, w ∈ wsX3_greenQuarters := by decide +kernel
set_option maxRecDepth 20000 in
theorem il_X3_greenQuarters_19 : (Cond.fieldLink RX3 19 "BayerGate$Scene" "quartersOfGreen" "I") ∈ wsX3_greenQuarters := by decide +kernel
set_option maxHeartbeats 4000000 in
set_option maxRecDepth 100000 in
theorem kX3_greenQuarters (l : Launch) (G : iG) (N : Nat) (ad : Nat → Nat) (C : Nat → va_E) {sb ss sf : Nat} {sh : Nat → Nat} {fac : Nat → UInt32} {gq : Nat} (lsb : sb < N) (lss : ss < N) (lsf : sf < N) (hsb : C sb = ob 3 [.ref (ad ss), .ref (ad sf), .int (nI gq)]) (hss : C ss = ia G 192 (fun i => nI (sh i))) (hsf : C sf = fa G 3 fac) (sz : Nat) : Met l yX3_greenQuarters wsX3_greenQuarters rmX3_greenQuarters (iPre G N ad C sz [.ref (ad sb)]) (va_Qi (fun (r : Int32) (u : Nat → va_E) => r = nI gq ∧ u = C) (iB G N ad) (iA N ad sz)) 0 0 (iA N ad sz) := by
  refine Met.ofW (cc := cX3_greenQuarters) (maxL := 1) (ret := (some .int)) (by decide) rfl ?_
  intro p e s m args below meth c s₁ B hml hv
  obtain ⟨rfl, hsz, hP, hK, hD0⟩ := hv
  have hx := B.exec
  have hb := B.bytes
  have hr := B.returns
  have hts := atoms_spec (ws := wsX3_greenQuarters) B.pre
  have hown : s.vm.findClass RX3 = some m.cls := findClass_of_methodNamed B.named
  have hlocks := B.notSynchronized
  subst hsz
  have hD := wl_self hD0 s.heap.size
  have hA : ∀ q : Nat, s.heap.size ≤ q → iA N ad s.heap.size q := fun q h => Or.inr h
  have hS : va_S (iA N ad s.heap.size) s.heap s.heap [] := va_S.rf
  have hP : va_P G.1 vwB (wl N ad C) s.heap := hP
  have hl := lv_entry ([.ref (ad sb)]) (n := 1) (Nat.le_of_ble_eq_true rfl)
  rw [lg_entry_eq]
  generalize (lg_sl ([.ref (ad sb)]) ++ List.replicate (1 - (lg_sl ([.ref (ad sb)])).length) Slot.unset).toArray = ls at hl ⊢
  have hl : lv_has ls 1 [(0, .ref (ad sb))] := hl
  refine lv_aload_n hx hb dX3_greenQuarters_0 rfl (lv_at hl 0 rfl) ?_
  refine iw_get hx hb hts iu_X3_greenQuarters_3 hown hK hP lsb (hsb) rfl 2 (by decide) (hts _ il_X3_greenQuarters_19) (fun _ h9 => h9) rfl dX3_greenQuarters_1 ?_
  exact W.iret (v := (nI gq)) hx hb hr (fun t ht hW => ⟨⟨_, _, rfl, ⟨rfl, rfl⟩, iB_of ht hP⟩, hS.F ht⟩) hS.2.2 dX3_greenQuarters_4
abbrev rmX3_lightAt : Room := { frames := 1, cells := 0, slots := 0, locals := 22 }
set_option maxRecDepth 20000 in
theorem iu_X3_lightAt_3 : ∀ w ∈ u_ws RX3 TX3 3, w ∈ wsX3_lightAt := by decide +kernel
set_option maxRecDepth 20000 in
theorem il_X3_lightAt_15 : (Cond.fieldLink RX3 15 "BayerGate$Scene" "factors" "[F") ∈ wsX3_lightAt := by decide +kernel
set_option maxRecDepth 20000 in
theorem il_X3_lightAt_28 : (Cond.constantFloat RX3 28 (1098907648)) ∈ wsX3_lightAt := by decide +kernel
set_option maxHeartbeats 4000000 in
set_option maxRecDepth 100000 in
theorem kX3_lightAt (l : Launch) (G : iG) (N : Nat) (ad : Nat → Nat) (C : Nat → va_E) {sb ss sf : Nat} {sh : Nat → Nat} {fac : Nat → UInt32} {gq : Nat} (lsb : sb < N) (lss : ss < N) (lsf : sf < N) (hsb : C sb = ob 3 [.ref (ad ss), .ref (ad sf), .int (nI gq)]) (hss : C ss = ia G 192 (fun i => nI (sh i))) (hsf : C sf = fa G 3 fac) (pl k time : Nat) (hpl : pl < 64) (hk : k < 3) (ht0 : 0 < time) (ht1 : time < 65) (hfac : fin32 (fac k)) (sz : Nat) : Met l yX3_lightAt wsX3_lightAt rmX3_lightAt (iPre G N ad C sz [.ref (ad sb), .int (nI pl), .int (nI k), .int (nI time)]) (va_Qf (fun (r : UInt32) (u : Nat → va_E) => r = liF sh fac pl k time ∧ u = C) (iB G N ad) (iA N ad sz)) 0 0 (iA N ad sz) := by
  refine Met.ofW (cc := cX3_lightAt) (maxL := 4) (ret := (some .float)) (by decide) rfl ?_
  intro p e s m args below meth c s₁ B hml hv
  obtain ⟨rfl, hsz, hP, hK, hD0⟩ := hv
  have hx := B.exec
  have hb := B.bytes
  have hr := B.returns
  have hts := atoms_spec (ws := wsX3_lightAt) B.pre
  have hown : s.vm.findClass RX3 = some m.cls := findClass_of_methodNamed B.named
  have hlocks := B.notSynchronized
  subst hsz
  have hD := wl_self hD0 s.heap.size
  have hA : ∀ q : Nat, s.heap.size ≤ q → iA N ad s.heap.size q := fun q h => Or.inr h
  have hS : va_S (iA N ad s.heap.size) s.heap s.heap [] := va_S.rf
  have hP : va_P G.1 vwB (wl N ad C) s.heap := hP
  have hl := lv_entry ([.ref (ad sb), .int (nI pl), .int (nI k), .int (nI time)]) (n := 4) (Nat.le_of_ble_eq_true rfl)
  rw [lg_entry_eq]
  generalize (lg_sl ([.ref (ad sb), .int (nI pl), .int (nI k), .int (nI time)]) ++ List.replicate (4 - (lg_sl ([.ref (ad sb), .int (nI pl), .int (nI k), .int (nI time)])).length) Slot.unset).toArray = ls at hl ⊢
  have hl : lv_has ls 4 [(0, .ref (ad sb)), (1, .int (nI pl)), (2, .int (nI k)), (3, .int (nI time))] := hl
  have nss : sb ≠ ss := fun h => by rw [h, hss] at hsb; cases hsb
  have nsf : sb ≠ sf := fun h => by rw [h, hsf] at hsb; cases hsb
  refine lv_aload_n hx hb dX3_lightAt_0 rfl (lv_at hl 0 rfl) ?_
  refine lv_iload_n hx hb dX3_lightAt_1 rfl (lv_at hl 1 rfl) ?_
  refine lv_iload_n hx hb dX3_lightAt_2 rfl (lv_at hl 2 rfl) ?_
  refine iw_i (va_runV (As := [.int (nI pl), .int (nI k)]) (rest := []) ⟨hx, hb, hml, hown, hts⟩ (kX3_shade l G N ad C lsb lss lsf hsb hss hsf pl k hpl hk _) (cwV 2 hts gX3_lightAt_X3_shade rfl rfl rfl (by decide +kernel) ⟨Nat.le_of_ble_eq_true rfl, Nat.le_of_ble_eq_true rfl⟩) (iPV hK hP hD lsb (hsb) rfl [.int (nI pl), .int (nI k)]) rfl rfl hl.1 rfl (lv_room (Nat.le_of_ble_eq_true rfl)) dX3_lightAt_3 ⟨Nat.le_of_ble_eq_true rfl, Nat.le_of_ble_eq_true rfl⟩) hD hS hA (fun r8 u8 H locs hw8 hP hD hS => ?_)
  obtain ⟨hr8, hu8⟩ := hw8
  refine lv_asI hr8 ?_
  rw [hu8] at hP hD
  refine lv_i2f hx hb dX3_lightAt_6 ?_
  refine lv_aload_n hx hb dX3_lightAt_7 rfl (lv_at hl 0 rfl) ?_
  refine iw_get hx hb hts iu_X3_lightAt_3 hown hK hP lsb (hsb) rfl 1 (by decide) (hts _ il_X3_lightAt_15) (fun _ h9 => h9) rfl dX3_lightAt_8 ?_
  refine lv_iload_n hx hb dX3_lightAt_11 rfl (lv_at hl 2 rfl) ?_
  refine iw_fald (v := fac k) hx hb hK hP lsf (hsf) (vp_in_nI (show k < 3 by omega) (by omega)) (congrArg fac (nI_clamp (by omega))) dX3_lightAt_12 ?_
  refine lv_fmul hx hb dX3_lightAt_13 (fmul_ff (i2f_fin32 _) hfac) ?_
  refine lv_iload_n hx hb dX3_lightAt_14 rfl (lv_at hl 3 rfl) ?_
  refine lv_i2f hx hb dX3_lightAt_15 ?_
  refine lv_fmul hx hb dX3_lightAt_16 (fmul_nz (fmul_ff (i2f_fin32 _) hfac) (i2f_nz ht0 (by omega))) ?_
  refine lv_ldcf hx hb hown (hts _ il_X3_lightAt_28) dX3_lightAt_17 ?_
  refine lv_fdiv hx hb dX3_lightAt_19 (fdiv_nz (fmul_nz (fmul_ff (i2f_fin32 _) hfac) (i2f_nz ht0 (by omega))) f16_ok) ?_
  exact W.fret (v := (FP.fdiv (FP.fmul (FP.fmul (FP.i2f (nI (sh (3 * pl + k)))) (fac k)) (FP.i2f (nI time))) (1098907648))) hx hb hr (fun t ht hW => ⟨⟨_, _, rfl, ⟨rfl, rfl⟩, iB_of ht hP⟩, hS.F ht⟩) hS.2.2 dX3_lightAt_20
end
section
/-- how many places are spoilt; those that are not mapped alone, if w is not set -/
def csN (hw : Nat → Nat) (mp : Nat → Bool) (w : Bool) : Nat → Nat
  | 0 => 0
  | n + 1 => csN hw mp w n + if hw n ≠ 0 ∧ (w = true ∨ mp n = false) then 1 else 0
theorem csN_le (hw : Nat → Nat) (mp : Nat → Bool) (w : Bool) : ∀ n, csN hw mp w n ≤ n
  | 0 => Nat.le_refl _
  | n + 1 => by
    have := csN_le hw mp w n
    unfold csN
    split <;> omega
abbrev rmX4_howIs : Room := { frames := 0, cells := 0, slots := 0, locals := 0 }
set_option maxRecDepth 20000 in
theorem iu_X4_howIs_4 : ∀ w ∈ u_ws RX4 TX4 3, w ∈ wsX4_howIs := by decide +kernel
set_option maxRecDepth 20000 in
theorem il_X4_howIs_9 : (Cond.fieldLink RX4 9 "BayerGate$Sensor" "hows" "[I") ∈ wsX4_howIs := by decide +kernel
set_option maxHeartbeats 4000000 in
set_option maxRecDepth 100000 in
theorem kX4_howIs (l : Launch) (G : iG) (N : Nat) (ad : Nat → Nat) (C : Nat → va_E) {nb nh nm : Nat} {hw : Nat → Nat} {mp : Nat → Bool} {dr : Nat} (lnb : nb < N) (lnh : nh < N) (lnm : nm < N) (hnb : C nb = ob 4 [.ref (ad nh), .ref (ad nm), .int (nI dr)]) (hnh : C nh = ia G 64 (fun i => nI (hw i))) (hnm : C nm = za G 64 (bI mp)) (pl : Nat) (hpl : pl < 64) (sz : Nat) : Met l yX4_howIs wsX4_howIs rmX4_howIs (iPre G N ad C sz [.ref (ad nb), .int (nI pl)]) (va_Qi (fun (r : Int32) (u : Nat → va_E) => r = nI (hw pl) ∧ u = C) (iB G N ad) (iA N ad sz)) 0 0 (iA N ad sz) := by
  refine Met.ofW (cc := cX4_howIs) (maxL := 2) (ret := (some .int)) (by decide) rfl ?_
  intro p e s m args below meth c s₁ B hml hv
  obtain ⟨rfl, hsz, hP, hK, hD0⟩ := hv
  have hx := B.exec
  have hb := B.bytes
  have hr := B.returns
  have hts := atoms_spec (ws := wsX4_howIs) B.pre
  have hown : s.vm.findClass RX4 = some m.cls := findClass_of_methodNamed B.named
  have hlocks := B.notSynchronized
  subst hsz
  have hD := wl_self hD0 s.heap.size
  have hA : ∀ q : Nat, s.heap.size ≤ q → iA N ad s.heap.size q := fun q h => Or.inr h
  have hS : va_S (iA N ad s.heap.size) s.heap s.heap [] := va_S.rf
  have hP : va_P G.1 vwB (wl N ad C) s.heap := hP
  have hl := lv_entry ([.ref (ad nb), .int (nI pl)]) (n := 2) (Nat.le_of_ble_eq_true rfl)
  rw [lg_entry_eq]
  generalize (lg_sl ([.ref (ad nb), .int (nI pl)]) ++ List.replicate (2 - (lg_sl ([.ref (ad nb), .int (nI pl)])).length) Slot.unset).toArray = ls at hl ⊢
  have hl : lv_has ls 2 [(0, .ref (ad nb)), (1, .int (nI pl))] := hl
  refine lv_aload_n hx hb dX4_howIs_0 rfl (lv_at hl 0 rfl) ?_
  refine iw_get hx hb hts iu_X4_howIs_4 hown hK hP lnb (hnb) rfl 0 (by decide) (hts _ il_X4_howIs_9) (fun _ h9 => h9) rfl dX4_howIs_1 ?_
  refine lv_iload_n hx hb dX4_howIs_4 rfl (lv_at hl 1 rfl) ?_
  refine iw_iald (v := nI (hw pl)) hx hb hK hP lnh (hnh) (vp_in_nI (show pl < 64 by omega) (by omega)) (congrArg (fun i => nI (hw i)) (nI_clamp (by omega))) dX4_howIs_5 ?_
  exact W.iret (v := (nI (hw pl))) hx hb hr (fun t ht hW => ⟨⟨_, _, rfl, ⟨rfl, rfl⟩, iB_of ht hP⟩, hS.F ht⟩) hS.2.2 dX4_howIs_6
abbrev rmX4_setHow : Room := { frames := 0, cells := 0, slots := 0, locals := 0 }
set_option maxRecDepth 20000 in
theorem iu_X4_setHow_4 : ∀ w ∈ u_ws RX4 TX4 3, w ∈ wsX4_setHow := by decide +kernel
set_option maxRecDepth 20000 in
theorem il_X4_setHow_9 : (Cond.fieldLink RX4 9 "BayerGate$Sensor" "hows" "[I") ∈ wsX4_setHow := by decide +kernel
set_option maxHeartbeats 4000000 in
set_option maxRecDepth 100000 in
theorem kX4_setHow (l : Launch) (G : iG) (N : Nat) (ad : Nat → Nat) (C : Nat → va_E) {nb nh nm : Nat} {hw : Nat → Nat} {mp : Nat → Bool} {dr : Nat} (lnb : nb < N) (lnh : nh < N) (lnm : nm < N) (hnb : C nb = ob 4 [.ref (ad nh), .ref (ad nm), .int (nI dr)]) (hnh : C nh = ia G 64 (fun i => nI (hw i))) (hnm : C nm = za G 64 (bI mp)) (pl v : Nat) (hpl : pl < 64) (sz : Nat) : Met l yX4_setHow wsX4_setHow rmX4_setHow (iPre G N ad C sz [.ref (ad nb), .int (nI pl), .int (nI v)]) (va_Qv (fun (u : Nat → va_E) => u = va_up C nh (ia G 64 (fun i => nI (va_up hw pl v i)))) (iB G N ad) (iA N ad sz)) 0 0 (iA N ad sz) := by
  refine Met.ofW (cc := cX4_setHow) (maxL := 3) (ret := none) (by decide) rfl ?_
  intro p e s m args below meth c s₁ B hml hv
  obtain ⟨rfl, hsz, hP, hK, hD0⟩ := hv
  have hx := B.exec
  have hb := B.bytes
  have hr := B.returns
  have hts := atoms_spec (ws := wsX4_setHow) B.pre
  have hown : s.vm.findClass RX4 = some m.cls := findClass_of_methodNamed B.named
  have hlocks := B.notSynchronized
  subst hsz
  have hD := wl_self hD0 s.heap.size
  have hA : ∀ q : Nat, s.heap.size ≤ q → iA N ad s.heap.size q := fun q h => Or.inr h
  have hS : va_S (iA N ad s.heap.size) s.heap s.heap [] := va_S.rf
  have hP : va_P G.1 vwB (wl N ad C) s.heap := hP
  have hl := lv_entry ([.ref (ad nb), .int (nI pl), .int (nI v)]) (n := 3) (Nat.le_of_ble_eq_true rfl)
  rw [lg_entry_eq]
  generalize (lg_sl ([.ref (ad nb), .int (nI pl), .int (nI v)]) ++ List.replicate (3 - (lg_sl ([.ref (ad nb), .int (nI pl), .int (nI v)])).length) Slot.unset).toArray = ls at hl ⊢
  have hl : lv_has ls 3 [(0, .ref (ad nb)), (1, .int (nI pl)), (2, .int (nI v))] := hl
  have nnh : nb ≠ nh := fun h => by rw [h, hnh] at hnb; cases hnb
  have nnm : nb ≠ nm := fun h => by rw [h, hnm] at hnb; cases hnb
  refine lv_aload_n hx hb dX4_setHow_0 rfl (lv_at hl 0 rfl) ?_
  refine iw_get hx hb hts iu_X4_setHow_4 hown hK hP lnb (hnb) rfl 0 (by decide) (hts _ il_X4_setHow_9) (fun _ h9 => h9) rfl dX4_setHow_1 ?_
  refine lv_iload_n hx hb dX4_setHow_4 rfl (lv_at hl 1 rfl) ?_
  refine lv_iload_n hx hb dX4_setHow_5 rfl (lv_at hl 2 rfl) ?_
  refine iw_iast hx hb hK hP hD hS lnh (hnh) (vp_in_nI (show pl < 64 by omega) (by omega)) (nI_clamp (by omega)) dX4_setHow_6 (fun H locs hP hD hS => ?_)
  exact W.vret hx hb hr (fun t ht hW => ⟨⟨_, rfl, by refine congrArg (va_up C nh) (congrArg (ia G 64) ?_); funext i; by_cases h9 : i = pl <;> simp [upd, va_up, h9], iB_of ht hP⟩, hS.F ht⟩) hS.2.2 dX4_setHow_7
abbrev rmX4_isMapped : Room := { frames := 0, cells := 0, slots := 0, locals := 0 }
set_option maxRecDepth 20000 in
theorem iu_X4_isMapped_4 : ∀ w ∈ u_ws RX4 TX4 3, w ∈ wsX4_isMapped := by decide +kernel
set_option maxRecDepth 20000 in
theorem il_X4_isMapped_15 : (Cond.fieldLink RX4 15 "BayerGate$Sensor" "mapped" "[Z") ∈ wsX4_isMapped := by decide +kernel
set_option maxHeartbeats 4000000 in
set_option maxRecDepth 100000 in
theorem kX4_isMapped (l : Launch) (G : iG) (N : Nat) (ad : Nat → Nat) (C : Nat → va_E) {nb nh nm : Nat} {hw : Nat → Nat} {mp : Nat → Bool} {dr : Nat} (lnb : nb < N) (lnh : nh < N) (lnm : nm < N) (hnb : C nb = ob 4 [.ref (ad nh), .ref (ad nm), .int (nI dr)]) (hnh : C nh = ia G 64 (fun i => nI (hw i))) (hnm : C nm = za G 64 (bI mp)) (pl : Nat) (hpl : pl < 64) (sz : Nat) : Met l yX4_isMapped wsX4_isMapped rmX4_isMapped (iPre G N ad C sz [.ref (ad nb), .int (nI pl)]) (va_Qi (fun (r : Int32) (u : Nat → va_E) => r = (if mp pl then nI 1 else nI 0) ∧ u = C) (iB G N ad) (iA N ad sz)) 0 0 (iA N ad sz) := by
  refine Met.ofW (cc := cX4_isMapped) (maxL := 2) (ret := (some .boolean)) (by decide) rfl ?_
  intro p e s m args below meth c s₁ B hml hv
  obtain ⟨rfl, hsz, hP, hK, hD0⟩ := hv
  have hx := B.exec
  have hb := B.bytes
  have hr := B.returns
  have hts := atoms_spec (ws := wsX4_isMapped) B.pre
  have hown : s.vm.findClass RX4 = some m.cls := findClass_of_methodNamed B.named
  have hlocks := B.notSynchronized
  subst hsz
  have hD := wl_self hD0 s.heap.size
  have hA : ∀ q : Nat, s.heap.size ≤ q → iA N ad s.heap.size q := fun q h => Or.inr h
  have hS : va_S (iA N ad s.heap.size) s.heap s.heap [] := va_S.rf
  have hP : va_P G.1 vwB (wl N ad C) s.heap := hP
  have hl := lv_entry ([.ref (ad nb), .int (nI pl)]) (n := 2) (Nat.le_of_ble_eq_true rfl)
  rw [lg_entry_eq]
  generalize (lg_sl ([.ref (ad nb), .int (nI pl)]) ++ List.replicate (2 - (lg_sl ([.ref (ad nb), .int (nI pl)])).length) Slot.unset).toArray = ls at hl ⊢
  have hl : lv_has ls 2 [(0, .ref (ad nb)), (1, .int (nI pl))] := hl
  refine lv_aload_n hx hb dX4_isMapped_0 rfl (lv_at hl 0 rfl) ?_
  refine iw_get hx hb hts iu_X4_isMapped_4 hown hK hP lnb (hnb) rfl 1 (by decide) (hts _ il_X4_isMapped_15) (fun _ h9 => h9) rfl dX4_isMapped_1 ?_
  refine lv_iload_n hx hb dX4_isMapped_4 rfl (lv_at hl 1 rfl) ?_
  refine iw_zald (v := (bI mp) pl) hx hb hK hP lnm (hnm) (vp_in_nI (show pl < 64 by omega) (by omega)) (congrArg (bI mp) (nI_clamp (by omega))) dX4_isMapped_5 ?_
  exact W.zret (v := ((bI mp) pl)) (ty := .boolean) hx hb hr (bI_nar _) (fun t ht hW => ⟨⟨_, _, rfl, ⟨rfl, rfl⟩, iB_of ht hP⟩, hS.F ht⟩) hS.2.2 dX4_isMapped_6
abbrev rmX4_setMapped : Room := { frames := 0, cells := 0, slots := 0, locals := 0 }
set_option maxRecDepth 20000 in
theorem iu_X4_setMapped_4 : ∀ w ∈ u_ws RX4 TX4 3, w ∈ wsX4_setMapped := by decide +kernel
set_option maxRecDepth 20000 in
theorem il_X4_setMapped_15 : (Cond.fieldLink RX4 15 "BayerGate$Sensor" "mapped" "[Z") ∈ wsX4_setMapped := by decide +kernel
set_option maxHeartbeats 4000000 in
set_option maxRecDepth 100000 in
theorem kX4_setMapped (l : Launch) (G : iG) (N : Nat) (ad : Nat → Nat) (C : Nat → va_E) {nb nh nm : Nat} {hw : Nat → Nat} {mp : Nat → Bool} {dr : Nat} (lnb : nb < N) (lnh : nh < N) (lnm : nm < N) (hnb : C nb = ob 4 [.ref (ad nh), .ref (ad nm), .int (nI dr)]) (hnh : C nh = ia G 64 (fun i => nI (hw i))) (hnm : C nm = za G 64 (bI mp)) (pl : Nat) (b1 : Bool) (hpl : pl < 64) (sz : Nat) : Met l yX4_setMapped wsX4_setMapped rmX4_setMapped (iPre G N ad C sz [.ref (ad nb), .int (nI pl), .int (if b1 then nI 1 else nI 0)]) (va_Qv (fun (u : Nat → va_E) => u = va_up C nm (za G 64 (bI (va_up mp pl b1)))) (iB G N ad) (iA N ad sz)) 0 0 (iA N ad sz) := by
  refine Met.ofW (cc := cX4_setMapped) (maxL := 3) (ret := none) (by decide) rfl ?_
  intro p e s m args below meth c s₁ B hml hv
  obtain ⟨rfl, hsz, hP, hK, hD0⟩ := hv
  have hx := B.exec
  have hb := B.bytes
  have hr := B.returns
  have hts := atoms_spec (ws := wsX4_setMapped) B.pre
  have hown : s.vm.findClass RX4 = some m.cls := findClass_of_methodNamed B.named
  have hlocks := B.notSynchronized
  subst hsz
  have hD := wl_self hD0 s.heap.size
  have hA : ∀ q : Nat, s.heap.size ≤ q → iA N ad s.heap.size q := fun q h => Or.inr h
  have hS : va_S (iA N ad s.heap.size) s.heap s.heap [] := va_S.rf
  have hP : va_P G.1 vwB (wl N ad C) s.heap := hP
  have hl := lv_entry ([.ref (ad nb), .int (nI pl), .int (if b1 then nI 1 else nI 0)]) (n := 3) (Nat.le_of_ble_eq_true rfl)
  rw [lg_entry_eq]
  generalize (lg_sl ([.ref (ad nb), .int (nI pl), .int (if b1 then nI 1 else nI 0)]) ++ List.replicate (3 - (lg_sl ([.ref (ad nb), .int (nI pl), .int (if b1 then nI 1 else nI 0)])).length) Slot.unset).toArray = ls at hl ⊢
  have hl : lv_has ls 3 [(0, .ref (ad nb)), (1, .int (nI pl)), (2, .int (if b1 then nI 1 else nI 0))] := hl
  have nnh : nb ≠ nh := fun h => by rw [h, hnh] at hnb; cases hnb
  have nnm : nb ≠ nm := fun h => by rw [h, hnm] at hnb; cases hnb
  refine lv_aload_n hx hb dX4_setMapped_0 rfl (lv_at hl 0 rfl) ?_
  refine iw_get hx hb hts iu_X4_setMapped_4 hown hK hP lnb (hnb) rfl 1 (by decide) (hts _ il_X4_setMapped_15) (fun _ h9 => h9) rfl dX4_setMapped_1 ?_
  refine lv_iload_n hx hb dX4_setMapped_4 rfl (lv_at hl 1 rfl) ?_
  refine lv_iload_n hx hb dX4_setMapped_5 rfl (lv_at hl 2 rfl) ?_
  refine iw_zast (y := (if b1 then nI 1 else nI 0)) hx hb hK hP hD hS lnm (hnm) (vp_in_nI (show pl < 64 by omega) (by omega)) (nI_clamp (by omega)) (bI_vp _) dX4_setMapped_6 (fun H locs hP hD hS => ?_)
  exact W.vret hx hb hr (fun t ht hW => ⟨⟨_, rfl, by refine congrArg (va_up C nm) (congrArg (za G 64) ?_); exact bI_up _ _ _, iB_of ht hP⟩, hS.F ht⟩) hS.2.2 dX4_setMapped_7
abbrev rmX4_advance : Room := { frames := 0, cells := 0, slots := 0, locals := 0 }
set_option maxRecDepth 20000 in
theorem il_X4_advance_19 : (Cond.fieldLink RX4 19 "BayerGate$Sensor" "draw" "I") ∈ wsX4_advance := by decide +kernel
set_option maxRecDepth 20000 in
theorem iu_X4_advance_4 : ∀ w ∈ u_ws RX4 TX4 3, w ∈ wsX4_advance := by decide +kernel
set_option maxHeartbeats 4000000 in
set_option maxRecDepth 100000 in
theorem kX4_advance (l : Launch) (G : iG) (N : Nat) (ad : Nat → Nat) (C : Nat → va_E) {nb nh nm : Nat} {hw : Nat → Nat} {mp : Nat → Bool} {dr : Nat} (lnb : nb < N) (lnh : nh < N) (lnm : nm < N) (hnb : C nb = ob 4 [.ref (ad nh), .ref (ad nm), .int (nI dr)]) (hnh : C nh = ia G 64 (fun i => nI (hw i))) (hnm : C nm = za G 64 (bI mp)) (d1 : Nat) (sz : Nat) : Met l yX4_advance wsX4_advance rmX4_advance (iPre G N ad C sz [.ref (ad nb), .int (nI d1)]) (va_Qv (fun (u : Nat → va_E) => u = va_up C nb (ob 4 [.ref (ad nh), .ref (ad nm), .int (nI d1)])) (iB G N ad) (iA N ad sz)) 0 0 (iA N ad sz) := by
  refine Met.ofW (cc := cX4_advance) (maxL := 2) (ret := none) (by decide) rfl ?_
  intro p e s m args below meth c s₁ B hml hv
  obtain ⟨rfl, hsz, hP, hK, hD0⟩ := hv
  have hx := B.exec
  have hb := B.bytes
  have hr := B.returns
  have hts := atoms_spec (ws := wsX4_advance) B.pre
  have hown : s.vm.findClass RX4 = some m.cls := findClass_of_methodNamed B.named
  have hlocks := B.notSynchronized
  subst hsz
  have hD := wl_self hD0 s.heap.size
  have hA : ∀ q : Nat, s.heap.size ≤ q → iA N ad s.heap.size q := fun q h => Or.inr h
  have hS : va_S (iA N ad s.heap.size) s.heap s.heap [] := va_S.rf
  have hP : va_P G.1 vwB (wl N ad C) s.heap := hP
  have hl := lv_entry ([.ref (ad nb), .int (nI d1)]) (n := 2) (Nat.le_of_ble_eq_true rfl)
  rw [lg_entry_eq]
  generalize (lg_sl ([.ref (ad nb), .int (nI d1)]) ++ List.replicate (2 - (lg_sl ([.ref (ad nb), .int (nI d1)])).length) Slot.unset).toArray = ls at hl ⊢
  have hl : lv_has ls 2 [(0, .ref (ad nb)), (1, .int (nI d1))] := hl
  refine lv_aload_n hx hb dX4_advance_0 rfl (lv_at hl 0 rfl) ?_
  refine lv_iload_n hx hb dX4_advance_1 rfl (lv_at hl 1 rfl) ?_
  refine iw_put (ty := .int) hx hb hts iu_X4_advance_4 tyX4 tyX4_ok nmX4 hown hK hP hD hS lnb (hnb) rfl 2 (by decide) (hts _ il_X4_advance_19) (fun _ h9 => h9) rfl (by decide +kernel) rfl rfl (Nat.le_of_ble_eq_true rfl) rfl dX4_advance_2 (fun H locs hP hD hS => ?_)
  exact W.vret hx hb hr (fun t ht hW => ⟨⟨_, rfl, rfl, iB_of ht hP⟩, hS.F ht⟩) hS.2.2 dX4_advance_5
abbrev rmX4_countMapped : Room := { frames := 0, cells := 0, slots := 0, locals := 0 }
set_option maxRecDepth 20000 in
theorem iu_X4_countMapped_4 : ∀ w ∈ u_ws RX4 TX4 3, w ∈ wsX4_countMapped := by decide +kernel
set_option maxRecDepth 20000 in
theorem il_X4_countMapped_15 : (Cond.fieldLink RX4 15 "BayerGate$Sensor" "mapped" "[Z") ∈ wsX4_countMapped := by decide +kernel
set_option maxHeartbeats 4000000 in
set_option maxRecDepth 100000 in
theorem lX4_countMapped {p : Program} {l : Launch} {e : Env} {s : State} {m : MethodId} {args : Array Value} {below : List Frame} {meth : Method} {c : Code} {Q : State → Prop} {A : Nat → Prop} {H0 : Heap} {cells slots : Nat} (hx : p.tables.exec = Jvm.exec) (hb : c.code = cX4_countMapped) (hml : c.maxLocals = 3) (hr : meth.sig.returnType = (some .int)) (hts : ∀ w ∈ wsX4_countMapped, w.before args s = true) (hown : s.vm.findClass RX4 = some m.cls) {G : iG} (hK : KB G s) (hA : ∀ q, H0.size ≤ q → A q) {N : Nat} {ad : Nat → Nat} {C : Nat → va_E} {H : Heap} {locs : List Loc} (hP : va_P G.1 vwB (wl N ad C) H) (hD : va_D A (wl N ad C)) (hS : va_S A H0 H locs)  (hcc : cells ≤ rmX4_countMapped.cells) (hcs : slots ≤ rmX4_countMapped.slots) {nb nh nm : Nat} {hw : Nat → Nat} {mp : Nat → Bool} {dr : Nat} (lnb : nb < N) (lnh : nh < N) (lnm : nm < N) (hnb : C nb = ob 4 [.ref (ad nh), .ref (ad nm), .int (nI dr)]) (hnh : C nh = ia G 64 (fun i => nI (hw i))) (hnm : C nm = za G 64 (bI mp)) (kx : ∀ ls, lv_has ls 3 [(1, .int (nI (ctN mp 64)))] → W p l e rmX4_countMapped s m args below meth c H locs cells slots Q (F0 m 28 ls [])) : ∀ (d : Nat) (k : Nat) (ls : Array Slot), 64 - k < d → k ≤ 64 → lv_has ls 3 [(1, .int (nI (ctN mp k))), (2, .int (nI k)), (0, .ref (ad nb))] → W p l e rmX4_countMapped s m args below meth c H locs cells slots Q (F0 m 4 ls []) := by
  intro d
  induction d with
  | zero => intro k ls hd; exact absurd hd (Nat.not_lt_zero _)
  | succ d ih =>
    intro k ls hd h2 hl
    refine lv_iload_n hx hb dX4_countMapped_4 rfl (lv_at hl 1 rfl) ?_
    refine lv_bipush (v := nI 64) hx hb dX4_countMapped_5 (by decide) ?_
    refine lv_icmp_ge (tgt := 28) hx hb dX4_countMapped_7 (by decide) (fun c7 => ?_) (fun c7 => ?_)
    · have h5 : k = 64 := by have := (nI_leI (by omega) (by omega)).mp c7; omega
      subst h5
      exact kx ls (lv_sub hl [0] rfl)
    · have h4 : k < 64 := by have := mt (nI_leI (by omega) (by omega)).mpr c7; omega
      refine lv_aload_n hx hb dX4_countMapped_10 rfl (lv_at hl 2 rfl) ?_
      refine iw_get hx hb hts iu_X4_countMapped_4 hown hK hP lnb (hnb) rfl 1 (by decide) (hts _ il_X4_countMapped_15) (fun _ h9 => h9) rfl dX4_countMapped_11 ?_
      refine lv_iload_n hx hb dX4_countMapped_14 rfl (lv_at hl 1 rfl) ?_
      refine iw_zald (v := (bI mp) k) hx hb hK hP lnm (hnm) (vp_in_nI (show k < 64 by omega) (by omega)) (congrArg (bI mp) (nI_clamp (by omega))) dX4_countMapped_15 ?_
      refine lv_if_eq (tgt := 22) hx hb dX4_countMapped_16 (by decide) (fun c16 => ?_) (fun c16 => ?_)
      · have e8 : mp k = false := by cases hq : mp k <;> simp [bI, hq, nI] at c16 ⊢
        refine lv_iinc (v := nI (k + 1)) (lv' := [(2, .int (nI (k + 1))), (1, .int (nI (ctN mp k))), (0, .ref (ad nb))]) hx hb dX4_countMapped_22 hl (k := 1) rfl (iinc_nat _ 1) (by decide) rfl (fun ls hl => ?_)
        refine lv_goto (tgt := 4) hx hb dX4_countMapped_25 (by decide) ?_
        have e9 : ctN mp (k + 1) = ctN mp k := by simp only [ctN]; simp [bI, *]
        exact ih (k + 1) ls (by omega) (by omega) (by rw [e9]; exact (lv_sub hl [1, 0, 2] rfl))
      · have e8 : mp k = true := by cases hq : mp k <;> simp [bI, hq, nI] at c16 ⊢
        refine lv_iinc (v := nI ((ctN mp k) + 1)) (lv' := [(1, .int (nI ((ctN mp k) + 1))), (2, .int (nI k)), (0, .ref (ad nb))]) hx hb dX4_countMapped_19 hl (k := 0) rfl (iinc_nat _ 1) (by decide) rfl (fun ls hl => ?_)
        refine lv_iinc (v := nI (k + 1)) (lv' := [(2, .int (nI (k + 1))), (1, .int (nI ((ctN mp k) + 1))), (0, .ref (ad nb))]) hx hb dX4_countMapped_22 hl (k := 1) rfl (iinc_nat _ 1) (by decide) rfl (fun ls hl => ?_)
        refine lv_goto (tgt := 4) hx hb dX4_countMapped_25 (by decide) ?_
        have e9 : ctN mp (k + 1) = (ctN mp k) + 1 := by simp only [ctN]; simp [bI, *]
        exact ih (k + 1) ls (by omega) (by omega) (by rw [e9]; exact (lv_sub hl [1, 0, 2] rfl))
set_option maxHeartbeats 4000000 in
set_option maxRecDepth 100000 in
theorem kX4_countMapped (l : Launch) (G : iG) (N : Nat) (ad : Nat → Nat) (C : Nat → va_E) {nb nh nm : Nat} {hw : Nat → Nat} {mp : Nat → Bool} {dr : Nat} (lnb : nb < N) (lnh : nh < N) (lnm : nm < N) (hnb : C nb = ob 4 [.ref (ad nh), .ref (ad nm), .int (nI dr)]) (hnh : C nh = ia G 64 (fun i => nI (hw i))) (hnm : C nm = za G 64 (bI mp)) (sz : Nat) : Met l yX4_countMapped wsX4_countMapped rmX4_countMapped (iPre G N ad C sz [.ref (ad nb)]) (va_Qi (fun (r : Int32) (u : Nat → va_E) => r = nI (ctN mp 64) ∧ u = C) (iB G N ad) (iA N ad sz)) 0 0 (iA N ad sz) := by
  refine Met.ofW (cc := cX4_countMapped) (maxL := 3) (ret := (some .int)) (by decide) rfl ?_
  intro p e s m args below meth c s₁ B hml hv
  obtain ⟨rfl, hsz, hP, hK, hD0⟩ := hv
  have hx := B.exec
  have hb := B.bytes
  have hr := B.returns
  have hts := atoms_spec (ws := wsX4_countMapped) B.pre
  have hown : s.vm.findClass RX4 = some m.cls := findClass_of_methodNamed B.named
  have hlocks := B.notSynchronized
  subst hsz
  have hD := wl_self hD0 s.heap.size
  have hA : ∀ q : Nat, s.heap.size ≤ q → iA N ad s.heap.size q := fun q h => Or.inr h
  have hS : va_S (iA N ad s.heap.size) s.heap s.heap [] := va_S.rf
  have hP : va_P G.1 vwB (wl N ad C) s.heap := hP
  have hl := lv_entry ([.ref (ad nb)]) (n := 3) (Nat.le_of_ble_eq_true rfl)
  rw [lg_entry_eq]
  generalize (lg_sl ([.ref (ad nb)]) ++ List.replicate (3 - (lg_sl ([.ref (ad nb)])).length) Slot.unset).toArray = ls at hl ⊢
  have hl : lv_has ls 3 [(0, .ref (ad nb))] := hl
  have nnh : nb ≠ nh := fun h => by rw [h, hnh] at hnb; cases hnb
  have nnm : nb ≠ nm := fun h => by rw [h, hnm] at hnb; cases hnb
  refine lv_iconst (v := nI 0) hx hb dX4_countMapped_0 (by decide) ?_
  refine lv_istore_n (lv' := [(1, .int (nI 0)), (0, .ref (ad nb))]) hx hb dX4_countMapped_1 rfl hl (by decide) rfl (fun ls hl => ?_)
  refine lv_iconst (v := nI 0) hx hb dX4_countMapped_2 (by decide) ?_
  refine lv_istore_n (lv' := [(2, .int (nI 0)), (1, .int (nI 0)), (0, .ref (ad nb))]) hx hb dX4_countMapped_3 rfl hl (by decide) rfl (fun ls hl => ?_)
  refine lX4_countMapped hx hb hml hr hts hown hK hA hP hD hS (Nat.le_refl _) (Nat.le_refl _) lnb lnh lnm hnb hnh hnm (fun ls hl => ?_) 65 0 ls (by omega) (by omega) (lv_sub hl [1, 0, 2] rfl)
  refine lv_iload_n hx hb dX4_countMapped_28 rfl (lv_at hl 0 rfl) ?_
  exact W.iret (v := (nI (ctN mp 64))) hx hb hr (fun t ht hW => ⟨⟨_, _, rfl, ⟨rfl, rfl⟩, iB_of ht hP⟩, hS.F ht⟩) hS.2.2 dX4_countMapped_29
set_option maxRecDepth 20000 in
theorem iu_X4_countSpoilt_4 : ∀ w ∈ u_ws RX4 TX4 3, w ∈ wsX4_countSpoilt := by decide +kernel
set_option maxRecDepth 20000 in
theorem il_X4_countSpoilt_9 : (Cond.fieldLink RX4 9 "BayerGate$Sensor" "hows" "[I") ∈ wsX4_countSpoilt := by decide +kernel
set_option maxRecDepth 20000 in
theorem il_X4_countSpoilt_15 : (Cond.fieldLink RX4 15 "BayerGate$Sensor" "mapped" "[Z") ∈ wsX4_countSpoilt := by decide +kernel
abbrev rmX4_countSpoilt : Room := { frames := 0, cells := 0, slots := 0, locals := 0 }
set_option maxHeartbeats 4000000 in
set_option maxRecDepth 100000 in
theorem lX4_countSpoilt {p : Program} {l : Launch} {e : Env} {s : State} {m : MethodId} {args : Array Value} {below : List Frame} {meth : Method} {c : Code} {Q : State → Prop} {A : Nat → Prop} {H0 : Heap} {cells slots : Nat} (hx : p.tables.exec = Jvm.exec) (hb : c.code = cX4_countSpoilt) (hml : c.maxLocals = 4) (hr : meth.sig.returnType = (some .int)) (hts : ∀ w ∈ wsX4_countSpoilt, w.before args s = true) (hown : s.vm.findClass RX4 = some m.cls) {G : iG} (hK : KB G s) (hA : ∀ q, H0.size ≤ q → A q) {N : Nat} {ad : Nat → Nat} {C : Nat → va_E} {H : Heap} {locs : List Loc} (hP : va_P G.1 vwB (wl N ad C) H) (hD : va_D A (wl N ad C)) (hS : va_S A H0 H locs)  (hcc : cells ≤ rmX4_countSpoilt.cells) (hcs : slots ≤ rmX4_countSpoilt.slots) {nb nh nm : Nat} {hw : Nat → Nat} {mp : Nat → Bool} {dr : Nat} (lnb : nb < N) (lnh : nh < N) (lnm : nm < N) (hnb : C nb = ob 4 [.ref (ad nh), .ref (ad nm), .int (nI dr)]) (hnh : C nh = ia G 64 (fun i => nI (hw i))) (hnm : C nm = za G 64 (bI mp)) (hh : ∀ i, i < 64 → hw i < 3) {w1 : Bool} (kx : ∀ ls, lv_has ls 4 [(2, .int (nI (csN hw mp w1 64)))] → W p l e rmX4_countSpoilt s m args below meth c H locs cells slots Q (F0 m 41 ls [])) : ∀ (d : Nat) (k : Nat) (ls : Array Slot), 64 - k < d → k ≤ 64 → lv_has ls 4 [(2, .int (nI (csN hw mp w1 k))), (3, .int (nI k)), (0, .ref (ad nb)), (1, .int (if w1 then nI 1 else nI 0))] → W p l e rmX4_countSpoilt s m args below meth c H locs cells slots Q (F0 m 4 ls []) := by
  intro d
  induction d with
  | zero => intro k ls hd; exact absurd hd (Nat.not_lt_zero _)
  | succ d ih =>
    intro k ls hd h2 hl
    refine lv_iload_n hx hb dX4_countSpoilt_4 rfl (lv_at hl 1 rfl) ?_
    refine lv_bipush (v := nI 64) hx hb dX4_countSpoilt_5 (by decide) ?_
    refine lv_icmp_ge (tgt := 41) hx hb dX4_countSpoilt_7 (by decide) (fun c7 => ?_) (fun c7 => ?_)
    · have h5 : k = 64 := by have := (nI_leI (by omega) (by omega)).mp c7; omega
      subst h5
      exact kx ls (lv_sub hl [0] rfl)
    · have h4 : k < 64 := by have := mt (nI_leI (by omega) (by omega)).mpr c7; omega
      have h6 := hh k h4
      refine lv_aload_n hx hb dX4_countSpoilt_10 rfl (lv_at hl 2 rfl) ?_
      refine iw_get hx hb hts iu_X4_countSpoilt_4 hown hK hP lnb (hnb) rfl 0 (by decide) (hts _ il_X4_countSpoilt_9) (fun _ h9 => h9) rfl dX4_countSpoilt_11 ?_
      refine lv_iload_n hx hb dX4_countSpoilt_14 rfl (lv_at hl 1 rfl) ?_
      refine iw_iald (v := nI (hw k)) hx hb hK hP lnh (hnh) (vp_in_nI (show k < 64 by omega) (by omega)) (congrArg (fun i => nI (hw i)) (nI_clamp (by omega))) dX4_countSpoilt_15 ?_
      refine lv_if_eq (tgt := 35) hx hb dX4_countSpoilt_16 (by decide) (fun c16 => ?_) (fun c16 => ?_)
      · have e6 : hw k = 0 := (nI_eq (by omega) (by omega)).mp (c16.trans nI_0.symm)
        refine lv_iinc (v := nI (k + 1)) (lv' := [(3, .int (nI (k + 1))), (2, .int (nI (csN hw mp w1 k))), (0, .ref (ad nb)), (1, .int (if w1 then nI 1 else nI 0))]) hx hb dX4_countSpoilt_35 hl (k := 1) rfl (iinc_nat _ 1) (by decide) rfl (fun ls hl => ?_)
        refine lv_goto (tgt := 4) hx hb dX4_countSpoilt_38 (by decide) ?_
        have e9 : csN hw mp w1 (k + 1) = csN hw mp w1 k := by simp only [csN]; simp_all
        exact ih (k + 1) ls (by omega) (by omega) (by rw [e9]; exact (lv_sub hl [1, 0, 2, 3] rfl))
      · have e6 : hw k ≠ 0 := fun e => c16 (by rw [e]; exact nI_0)
        refine lv_iload_n hx hb dX4_countSpoilt_19 rfl (lv_at hl 3 rfl) ?_
        refine lv_if_ne (tgt := 32) hx hb dX4_countSpoilt_20 (by decide) (fun c20 => ?_) (fun c20 => ?_)
        · have e7 : w1 = true := by cases hq : w1 <;> simp [hq, nI] at c20 ⊢
          refine lv_iinc (v := nI ((csN hw mp w1 k) + 1)) (lv' := [(2, .int (nI ((csN hw mp w1 k) + 1))), (3, .int (nI k)), (0, .ref (ad nb)), (1, .int (if w1 then nI 1 else nI 0))]) hx hb dX4_countSpoilt_32 hl (k := 0) rfl (iinc_nat _ 1) (by decide) rfl (fun ls hl => ?_)
          refine lv_iinc (v := nI (k + 1)) (lv' := [(3, .int (nI (k + 1))), (2, .int (nI ((csN hw mp w1 k) + 1))), (0, .ref (ad nb)), (1, .int (if w1 then nI 1 else nI 0))]) hx hb dX4_countSpoilt_35 hl (k := 1) rfl (iinc_nat _ 1) (by decide) rfl (fun ls hl => ?_)
          refine lv_goto (tgt := 4) hx hb dX4_countSpoilt_38 (by decide) ?_
          have e9 : csN hw mp w1 (k + 1) = (csN hw mp w1 k) + 1 := by simp only [csN]; simp_all
          exact ih (k + 1) ls (by omega) (by omega) (by rw [e9]; exact (lv_sub hl [1, 0, 2, 3] rfl))
        · have e7 : w1 = false := by cases hq : w1 <;> simp [hq, nI] at c20 ⊢
          refine lv_aload_n hx hb dX4_countSpoilt_23 rfl (lv_at hl 2 rfl) ?_
          refine iw_get hx hb hts iu_X4_countSpoilt_4 hown hK hP lnb (hnb) rfl 1 (by decide) (hts _ il_X4_countSpoilt_15) (fun _ h9 => h9) rfl dX4_countSpoilt_24 ?_
          refine lv_iload_n hx hb dX4_countSpoilt_27 rfl (lv_at hl 1 rfl) ?_
          refine iw_zald (v := (bI mp) k) hx hb hK hP lnm (hnm) (vp_in_nI (show k < 64 by omega) (by omega)) (congrArg (bI mp) (nI_clamp (by omega))) dX4_countSpoilt_28 ?_
          refine lv_if_ne (tgt := 35) hx hb dX4_countSpoilt_29 (by decide) (fun c29 => ?_) (fun c29 => ?_)
          · have e8 : mp k = true := by cases hq : mp k <;> simp [bI, hq, nI] at c29 ⊢
            refine lv_iinc (v := nI (k + 1)) (lv' := [(3, .int (nI (k + 1))), (2, .int (nI (csN hw mp w1 k))), (0, .ref (ad nb)), (1, .int (if w1 then nI 1 else nI 0))]) hx hb dX4_countSpoilt_35 hl (k := 1) rfl (iinc_nat _ 1) (by decide) rfl (fun ls hl => ?_)
            refine lv_goto (tgt := 4) hx hb dX4_countSpoilt_38 (by decide) ?_
            have e9 : csN hw mp w1 (k + 1) = csN hw mp w1 k := by simp only [csN]; simp_all
            exact ih (k + 1) ls (by omega) (by omega) (by rw [e9]; exact (lv_sub hl [1, 0, 2, 3] rfl))
          · have e8 : mp k = false := by cases hq : mp k <;> simp [bI, hq, nI] at c29 ⊢
            refine lv_iinc (v := nI ((csN hw mp w1 k) + 1)) (lv' := [(2, .int (nI ((csN hw mp w1 k) + 1))), (3, .int (nI k)), (0, .ref (ad nb)), (1, .int (if w1 then nI 1 else nI 0))]) hx hb dX4_countSpoilt_32 hl (k := 0) rfl (iinc_nat _ 1) (by decide) rfl (fun ls hl => ?_)
            refine lv_iinc (v := nI (k + 1)) (lv' := [(3, .int (nI (k + 1))), (2, .int (nI ((csN hw mp w1 k) + 1))), (0, .ref (ad nb)), (1, .int (if w1 then nI 1 else nI 0))]) hx hb dX4_countSpoilt_35 hl (k := 1) rfl (iinc_nat _ 1) (by decide) rfl (fun ls hl => ?_)
            refine lv_goto (tgt := 4) hx hb dX4_countSpoilt_38 (by decide) ?_
            have e9 : csN hw mp w1 (k + 1) = (csN hw mp w1 k) + 1 := by simp only [csN]; simp_all
            exact ih (k + 1) ls (by omega) (by omega) (by rw [e9]; exact (lv_sub hl [1, 0, 2, 3] rfl))
set_option maxHeartbeats 4000000 in
set_option maxRecDepth 100000 in
theorem kX4_countSpoilt (l : Launch) (G : iG) (N : Nat) (ad : Nat → Nat) (C : Nat → va_E) {nb nh nm : Nat} {hw : Nat → Nat} {mp : Nat → Bool} {dr : Nat} (lnb : nb < N) (lnh : nh < N) (lnm : nm < N) (hnb : C nb = ob 4 [.ref (ad nh), .ref (ad nm), .int (nI dr)]) (hnh : C nh = ia G 64 (fun i => nI (hw i))) (hnm : C nm = za G 64 (bI mp)) (hh : ∀ i, i < 64 → hw i < 3) (w1 : Bool) (sz : Nat) : Met l yX4_countSpoilt wsX4_countSpoilt rmX4_countSpoilt (iPre G N ad C sz [.ref (ad nb), .int (if w1 then nI 1 else nI 0)]) (va_Qi (fun (r : Int32) (u : Nat → va_E) => r = nI (csN hw mp w1 64) ∧ u = C) (iB G N ad) (iA N ad sz)) 0 0 (iA N ad sz) := by
  refine Met.ofW (cc := cX4_countSpoilt) (maxL := 4) (ret := (some .int)) (by decide) rfl ?_
  intro p e s m args below meth c s₁ B hml hv
  obtain ⟨rfl, hsz, hP, hK, hD0⟩ := hv
  have hx := B.exec
  have hb := B.bytes
  have hr := B.returns
  have hts := atoms_spec (ws := wsX4_countSpoilt) B.pre
  have hown : s.vm.findClass RX4 = some m.cls := findClass_of_methodNamed B.named
  have hlocks := B.notSynchronized
  subst hsz
  have hD := wl_self hD0 s.heap.size
  have hA : ∀ q : Nat, s.heap.size ≤ q → iA N ad s.heap.size q := fun q h => Or.inr h
  have hS : va_S (iA N ad s.heap.size) s.heap s.heap [] := va_S.rf
  have hP : va_P G.1 vwB (wl N ad C) s.heap := hP
  have hl := lv_entry ([.ref (ad nb), .int (if w1 then nI 1 else nI 0)]) (n := 4) (Nat.le_of_ble_eq_true rfl)
  rw [lg_entry_eq]
  generalize (lg_sl ([.ref (ad nb), .int (if w1 then nI 1 else nI 0)]) ++ List.replicate (4 - (lg_sl ([.ref (ad nb), .int (if w1 then nI 1 else nI 0)])).length) Slot.unset).toArray = ls at hl ⊢
  have hl : lv_has ls 4 [(0, .ref (ad nb)), (1, .int (if w1 then nI 1 else nI 0))] := hl
  have nnh : nb ≠ nh := fun h => by rw [h, hnh] at hnb; cases hnb
  have nnm : nb ≠ nm := fun h => by rw [h, hnm] at hnb; cases hnb
  refine lv_iconst (v := nI 0) hx hb dX4_countSpoilt_0 (by decide) ?_
  refine lv_istore_n (lv' := [(2, .int (nI 0)), (0, .ref (ad nb)), (1, .int (if w1 then nI 1 else nI 0))]) hx hb dX4_countSpoilt_1 rfl hl (by decide) rfl (fun ls hl => ?_)
  refine lv_iconst (v := nI 0) hx hb dX4_countSpoilt_2 (by decide) ?_
  refine lv_istore_n (lv' := [(3, .int (nI 0)), (2, .int (nI 0)), (0, .ref (ad nb)), (1, .int (if w1 then nI 1 else nI 0))]) hx hb dX4_countSpoilt_3 rfl hl (by decide) rfl (fun ls hl => ?_)
  refine lX4_countSpoilt hx hb hml hr hts hown hK hA hP hD hS (Nat.le_refl _) (Nat.le_refl _) lnb lnh lnm hnb hnh hnm hh (fun ls hl => ?_) 65 0 ls (by omega) (by omega) (lv_sub hl [1, 0, 2, 3] rfl)
  refine lv_iload_n hx hb dX4_countSpoilt_41 rfl (lv_at hl 0 rfl) ?_
  exact W.iret (v := (nI (csN hw mp w1 64))) hx hb hr (fun t ht hW => ⟨⟨_, _, rfl, ⟨rfl, rfl⟩, iB_of ht hP⟩, hS.F ht⟩) hS.2.2 dX4_countSpoilt_42
end
section
theorem wl_selfE {D : va_G} {cl : List vw_C} {N : Nat} {ad : Nat → Nat} {C : Nat → va_E} {H : Heap} {j : Nat} {x : va_E} (hP : va_P D cl (wl N ad C) H) (h : C j = x) : va_P D cl (wl N ad (va_up C j x)) H := by
  rw [va_self C h]
  exact hP
abbrev rmX4_expose : Room := { frames := 2, cells := 0, slots := 0, locals := 45 }
set_option maxRecDepth 20000 in
theorem il_X4_expose_iniX6 : (Cond.initialized RX6) ∈ wsX4_expose := by decide +kernel
set_option maxRecDepth 20000 in
theorem il_X4_expose_st_X6_placeOf : (Cond.static yX6_placeOf) ∈ wsX4_expose := by decide +kernel
set_option maxRecDepth 20000 in
theorem il_X4_expose_st_X6_colourSeen : (Cond.static yX6_colourSeen) ∈ wsX4_expose := by decide +kernel
set_option maxRecDepth 20000 in
theorem iu_X4_expose_1 : ∀ w ∈ u_ws RX1 TX1 5, w ∈ wsX4_expose := by decide +kernel
set_option maxRecDepth 20000 in
theorem iu_X4_expose_4 : ∀ w ∈ u_ws RX4 TX4 3, w ∈ wsX4_expose := by decide +kernel
set_option maxRecDepth 20000 in
theorem il_X4_expose_9 : (Cond.fieldLink RX4 9 "BayerGate$Sensor" "hows" "[I") ∈ wsX4_expose := by decide +kernel
set_option maxHeartbeats 4000000 in
set_option maxRecDepth 100000 in
theorem lX4_expose_x {p : Program} {l : Launch} {e : Env} {s : State} {m : MethodId} {args : Array Value} {below : List Frame} {meth : Method} {c : Code} {Q : State → Prop} {A : Nat → Prop} {H0 : Heap} {cells slots : Nat} (hx : p.tables.exec = Jvm.exec) (hb : c.code = cX4_expose) (hml : c.maxLocals = 10) (hr : meth.sig.returnType = (some .int)) (hts : ∀ w ∈ wsX4_expose, w.before args s = true) (hown : s.vm.findClass RX4 = some m.cls) {G : iG} (hK : KB G s) (hA : ∀ q, H0.size ≤ q → A q) {N : Nat} {ad : Nat → Nat} {C : Nat → va_E}  (hcc : cells ≤ rmX4_expose.cells) (hcs : slots ≤ rmX4_expose.slots) {sb ss sf : Nat} {sh : Nat → Nat} {fac : Nat → UInt32} {gq : Nat} (lsb : sb < N) (lss : ss < N) (lsf : sf < N) (hsb : C sb = ob 3 [.ref (ad ss), .ref (ad sf), .int (nI gq)]) (hss : C ss = ia G 192 (fun i => nI (sh i))) (hsf : C sf = fa G 3 fac) {nb nh nm : Nat} {hw : Nat → Nat} {mp : Nat → Bool} {dr : Nat} (lnb : nb < N) (lnh : nh < N) (lnm : nm < N) (hnb : C nb = ob 4 [.ref (ad nh), .ref (ad nm), .int (nI dr)]) (hnh : C nh = ia G 64 (fun i => nI (hw i))) (hnm : C nm = za G 64 (bI mp)) {fb fr fe : Nat} {t0 g0 q0 : Int32} {rw : Nat → Nat} (lfb : fb < N) (lfr : fr < N) (hfb : C fb = ob 1 [.ref (ad fr), .ref (ad fe), .int t0, .int g0, .int q0]) (hfr : C fr = ia G 64 (fun i => nI (rw i))) (dfn : fr ≠ nh) (dfm : fr ≠ nm) (hdr : dr < 61) {time gain : Nat} (ht0 : 0 < time) (ht1 : time < 65) (hfac : ∀ k, k < 3 → fin32 (fac k)) {y : Nat} (hy8 : y < 8) (kx : ∀ (H : Heap) (locs : List Loc) (ls : Array Slot), va_P G.1 vwB (wl N ad (va_up C fr (ia G 64 (fun i => nI (flI (exN hw sh fac dr time gain) rw (8 * y + 8) i))))) H → va_D A (wl N ad (va_up C fr (ia G 64 (fun i => nI (flI (exN hw sh fac dr time gain) rw (8 * y + 8) i))))) → va_S A H0 H locs → lv_has ls 10 [(6, .int (nI y)), (5, .int (nI (drN dr (8 * y + 8)))), (0, .ref (ad nb)), (1, .ref (ad sb)), (2, .int (nI time)), (3, .int (nI gain)), (4, .ref (ad fb))] → W p l e rmX4_expose s m args below meth c H locs cells slots Q (F0 m 91 ls [])) : ∀ (d : Nat) (x : Nat) (H : Heap) (locs : List Loc) (ls : Array Slot), 8 - x < d → x ≤ 8 → va_P G.1 vwB (wl N ad (va_up C fr (ia G 64 (fun i => nI (flI (exN hw sh fac dr time gain) rw (8 * y + x) i))))) H → va_D A (wl N ad (va_up C fr (ia G 64 (fun i => nI (flI (exN hw sh fac dr time gain) rw (8 * y + x) i))))) → va_S A H0 H locs → lv_has ls 10 [(7, .int (nI x)), (5, .int (nI (drN dr (8 * y + x)))), (6, .int (nI y)), (0, .ref (ad nb)), (1, .ref (ad sb)), (2, .int (nI time)), (3, .int (nI gain)), (4, .ref (ad fb))] → W p l e rmX4_expose s m args below meth c H locs cells slots Q (F0 m 19 ls []) := by
  intro d
  induction d with
  | zero => intro x H locs ls hd; exact absurd hd (Nat.not_lt_zero _)
  | succ d ih =>
    intro x H locs ls hd h2 hP hD hS hl
    have n_sb_fr : sb ≠ fr := fun h => by rw [h, hfr] at hsb; simp at hsb
    have n_ss_fr : ss ≠ fr := fun h => by rw [h, hfr] at hss; simp at hss
    have n_sf_fr : sf ≠ fr := fun h => by rw [h, hfr] at hsf; simp at hsf
    have n_nb_fr : nb ≠ fr := fun h => by rw [h, hfr] at hnb; simp at hnb
    have n_fb_fr : fb ≠ fr := fun h => by rw [h, hfr] at hfb; simp at hfb
    have n_sb_fb : sb ≠ fb := fun h => by rw [h, hfb] at hsb; simp at hsb
    have n_nb_fb : nb ≠ fb := fun h => by rw [h, hfb] at hnb; simp at hnb
    refine lv_iload hx hb dX4_expose_19 (lv_at hl 0 rfl) ?_
    refine lv_bipush (v := nI 8) hx hb dX4_expose_21 (by decide) ?_
    refine lv_icmp_ge (tgt := 91) hx hb dX4_expose_23 (by decide) (fun c23 => ?_) (fun c23 => ?_)
    · have h5 : x = 8 := by have := (nI_leI (by omega) (by omega)).mp c23; omega
      subst h5
      exact kx H locs ls hP hD hS (lv_sub hl [2, 1, 3, 4, 5, 6, 7] rfl)
    · have h4 : x < 8 := by have := mt (nI_leI (by omega) (by omega)).mpr c23; omega
      have hd8 := drN_lt hdr (8 * y + x)
      refine lv_iload hx hb dX4_expose_26 (lv_at hl 0 rfl) ?_
      refine lv_iload hx hb dX4_expose_28 (lv_at hl 2 rfl) ?_
      refine iw_pi (va_runSN (As := [.int (nI x), .int (nI y)]) (rest := []) ⟨hx, hb, hml, hown, hts⟩ (kX6_placeOf l x y) ⟨va_cnB (host := RX6) 2 hts gX4_expose_X6_placeOf_n23 rfl rfl rfl (nw_RX4_23 hK.2) (hts _ il_X4_expose_iniX6) (by decide +kernel) ⟨Nat.le_of_ble_eq_true rfl, Nat.le_of_ble_eq_true rfl⟩, (hts _ il_X4_expose_st_X6_placeOf), trivial⟩ ⟨fun a U g mk q => q, fun U hU hW => ⟨rfl, trivial⟩⟩ rfl rfl hl.1 rfl (lv_room (Nat.le_of_ble_eq_true rfl)) dX4_expose_30 ⟨hcc, hcs⟩) hP hS (fun r8 u8 H locs hw8 hP hS => ?_)
      refine lv_asI hw8 ?_
      refine lv_istore (lv' := [(8, .int (nI (8 * y + x))), (7, .int (nI x)), (5, .int (nI (drN dr (8 * y + x)))), (6, .int (nI y)), (0, .ref (ad nb)), (1, .ref (ad sb)), (2, .int (nI time)), (3, .int (nI gain)), (4, .ref (ad fb))]) hx hb dX4_expose_33 hl (by decide) rfl (fun ls hl => ?_)
      refine lv_iconst (v := nI 2) hx hb dX4_expose_35 (by decide) ?_
      refine lv_iload hx hb dX4_expose_36 (lv_at hl 2 rfl) ?_
      refine lv_imul hx hb dX4_expose_38 ?_
      refine lv_asI (y := nI (2 * (drN dr (8 * y + x)))) (pk_mul _ _) ?_
      refine lv_iconst (v := nI 5) hx hb dX4_expose_39 (by decide) ?_
      refine lv_iadd hx hb dX4_expose_40 ?_
      refine lv_asI (y := nI ((2 * (drN dr (8 * y + x))) + 5)) (nI_add _ _) ?_
      refine lv_bipush (v := nI 61) hx hb dX4_expose_41 (by decide) ?_
      refine lv_irem hx hb dX4_expose_43 (by decide) ?_
      refine lv_asI (y := nI (((2 * (drN dr (8 * y + x))) + 5) % 61)) (pk_rem (by omega) (by omega) (by omega)) ?_
      refine lv_asI (y := nI (drN dr (8 * y + x + 1))) rfl ?_
      refine lv_istore (lv' := [(5, .int (nI (drN dr (8 * y + x + 1)))), (8, .int (nI (8 * y + x))), (7, .int (nI x)), (6, .int (nI y)), (0, .ref (ad nb)), (1, .ref (ad sb)), (2, .int (nI time)), (3, .int (nI gain)), (4, .ref (ad fb))]) hx hb dX4_expose_44 hl (by decide) rfl (fun ls hl => ?_)
      refine lv_aload_n hx hb dX4_expose_46 rfl (lv_at hl 5 rfl) ?_
      refine lv_iload hx hb dX4_expose_47 (lv_at hl 1 rfl) ?_
      refine lv_iload hx hb dX4_expose_49 (lv_at hl 2 rfl) ?_
      refine lv_iload hx hb dX4_expose_51 (lv_at hl 3 rfl) ?_
      refine iw_pi (va_runSN (As := [.int (nI x), .int (nI y)]) (rest := [.int (nI (8 * y + x)), .ref (ad sb)]) ⟨hx, hb, hml, hown, hts⟩ (kX6_colourSeen l x y (by omega) (by omega)) ⟨va_cnB (host := RX6) 2 hts gX4_expose_X6_colourSeen_n27 rfl rfl rfl (nw_RX4_27 hK.2) (hts _ il_X4_expose_iniX6) (by decide +kernel) ⟨Nat.le_of_ble_eq_true rfl, Nat.le_of_ble_eq_true rfl⟩, (hts _ il_X4_expose_st_X6_colourSeen), trivial⟩ ⟨fun a U g mk q => q, fun U hU hW => ⟨rfl, trivial⟩⟩ rfl rfl hl.1 rfl (lv_room (Nat.le_of_ble_eq_true rfl)) dX4_expose_53 ⟨hcc, hcs⟩) hP hS (fun r8 u8 H locs hw8 hP hS => ?_)
      refine lv_asI hw8 ?_
      refine lv_iload_n hx hb dX4_expose_56 rfl (lv_at hl 6 rfl) ?_
      refine iw_f (va_runV (As := [.int (nI (8 * y + x)), .int (nI (colN x y)), .int (nI time)]) (rest := []) ⟨hx, hb, hml, hown, hts⟩ (kX3_lightAt l G N ad _ lsb lss lsf ((va_un _ _ n_sb_fr).trans (hsb)) ((va_un _ _ n_ss_fr).trans (hss)) ((va_un _ _ n_sf_fr).trans (hsf)) (8 * y + x) (colN x y) time (by omega) (colN_lt x y) ht0 ht1 (hfac _ (colN_lt x y)) _) (cwV 3 hts gX4_expose_X3_lightAt rfl rfl rfl (by decide +kernel) ⟨Nat.le_of_ble_eq_true rfl, Nat.le_of_ble_eq_true rfl⟩) (iPV hK hP hD lsb ((va_un _ _ n_sb_fr).trans (hsb)) rfl [.int (nI (8 * y + x)), .int (nI (colN x y)), .int (nI time)]) rfl rfl hl.1 rfl (lv_room (Nat.le_of_ble_eq_true rfl)) dX4_expose_57 ⟨hcc, hcs⟩) hD hS hA (fun r8 u8 H locs hw8 hP hD hS => ?_)
      obtain ⟨hr8, hu8⟩ := hw8
      refine lv_asF hr8 ?_
      rw [hu8] at hP hD
      refine lv_fstore (lv' := [(9, .float (liF sh fac (8 * y + x) (colN x y) time)), (5, .int (nI (drN dr (8 * y + x + 1)))), (8, .int (nI (8 * y + x))), (7, .int (nI x)), (6, .int (nI y)), (0, .ref (ad nb)), (1, .ref (ad sb)), (2, .int (nI time)), (3, .int (nI gain)), (4, .ref (ad fb))]) hx hb dX4_expose_60 hl (by decide) rfl (fun ls hl => ?_)
      refine lv_aload hx hb dX4_expose_62 (lv_at hl 9 rfl) ?_
      refine iw_getN hx hb hts iu_X4_expose_1 hown hK hP lfb ((va_un _ _ n_fb_fr).trans (hfb)) rfl 0 (by decide) (nw_RX4_36 hK.2) (fun _ h9 => h9) rfl dX4_expose_64 ?_
      refine lv_iload hx hb dX4_expose_67 (lv_at hl 2 rfl) ?_
      refine lv_aload_n hx hb dX4_expose_69 rfl (lv_at hl 5 rfl) ?_
      refine iw_get hx hb hts iu_X4_expose_4 hown hK hP lnb ((va_un _ _ n_nb_fr).trans (hnb)) rfl 0 (by decide) (hts _ il_X4_expose_9) (fun _ h9 => h9) rfl dX4_expose_70 ?_
      refine lv_iload hx hb dX4_expose_73 (lv_at hl 2 rfl) ?_
      refine iw_iald (v := nI (hw (8 * y + x))) hx hb hK hP lnh ((va_un _ _ (Ne.symm dfn)).trans (hnh)) (vp_in_nI (show 8 * y + x < 64 by omega) (by omega)) (congrArg (fun i => nI (hw i)) (nI_clamp (by omega))) dX4_expose_75 ?_
      refine lv_fload hx hb dX4_expose_76 (lv_at hl 0 rfl) ?_
      refine lv_iload_n hx hb dX4_expose_78 rfl (lv_at hl 8 rfl) ?_
      refine lv_iload hx hb dX4_expose_79 (lv_at hl 1 rfl) ?_
      refine iw_pi (va_runS (As := [.int (nI (hw (8 * y + x))), .float (liF sh fac (8 * y + x) (colN x y) time), .int (nI gain), .int (nI (drN dr (8 * y + x + 1)))]) (rest := [.int (nI (8 * y + x)), .ref (ad fr)]) ⟨hx, hb, hml, hown, hts⟩ (kX4_rawOf l (nI (hw (8 * y + x))) (liF sh fac (8 * y + x) (colN x y) time) (nI gain) (drN dr (8 * y + x + 1)) (by have := drN_lt hdr (8 * y + x + 1); omega)) (va_cwS 4 hts gX4_expose_X4_rawOf rfl rfl rfl (by decide +kernel) ⟨Nat.le_of_ble_eq_true rfl, Nat.le_of_ble_eq_true rfl⟩) ⟨fun a U g mk q => q, fun U hU hW => ⟨rfl, trivial⟩⟩ rfl rfl hl.1 rfl (lv_room (Nat.le_of_ble_eq_true rfl)) dX4_expose_81 ⟨hcc, hcs⟩) hP hS (fun r8 u8 H locs hw8 hP hS => ?_)
      refine lv_asI hw8 ?_
      refine lv_asI (y := nI (exN hw sh fac dr time gain (8 * y + x))) (by have h := (exN_ok hw sh fac dr time gain (8 * y + x)).2; rw [show (8 * y + x) % 8 = x by omega, show (8 * y + x) / 8 = y by omega] at h; exact h) ?_
      refine iw_iast hx hb hK hP hD hS lfr (va_us _ _ _) (vp_in_nI (show 8 * y + x < 64 by omega) (by omega)) (nI_clamp (by omega)) dX4_expose_84 (fun H locs hP hD hS => ?_)
      rw [va_uu _ _ _ _] at hP hD
      refine lv_iinc (v := nI (x + 1)) (lv' := [(7, .int (nI (x + 1))), (9, .float (liF sh fac (8 * y + x) (colN x y) time)), (5, .int (nI (drN dr (8 * y + x + 1)))), (8, .int (nI (8 * y + x))), (6, .int (nI y)), (0, .ref (ad nb)), (1, .ref (ad sb)), (2, .int (nI time)), (3, .int (nI gain)), (4, .ref (ad fb))]) hx hb dX4_expose_85 hl (k := 3) rfl (iinc_nat _ 1) (by decide) rfl (fun ls hl => ?_)
      refine lv_goto (tgt := 19) hx hb dX4_expose_88 (by decide) ?_
      rw [flI_n] at hP hD
      exact ih (x + 1) H locs ls (by omega) (by omega) hP hD hS (lv_sub hl [0, 2, 4, 5, 6, 7, 8, 9] rfl)
set_option maxHeartbeats 4000000 in
set_option maxRecDepth 100000 in
theorem lX4_expose_y {p : Program} {l : Launch} {e : Env} {s : State} {m : MethodId} {args : Array Value} {below : List Frame} {meth : Method} {c : Code} {Q : State → Prop} {A : Nat → Prop} {H0 : Heap} {cells slots : Nat} (hx : p.tables.exec = Jvm.exec) (hb : c.code = cX4_expose) (hml : c.maxLocals = 10) (hr : meth.sig.returnType = (some .int)) (hts : ∀ w ∈ wsX4_expose, w.before args s = true) (hown : s.vm.findClass RX4 = some m.cls) {G : iG} (hK : KB G s) (hA : ∀ q, H0.size ≤ q → A q) {N : Nat} {ad : Nat → Nat} {C : Nat → va_E}  (hcc : cells ≤ rmX4_expose.cells) (hcs : slots ≤ rmX4_expose.slots) {sb ss sf : Nat} {sh : Nat → Nat} {fac : Nat → UInt32} {gq : Nat} (lsb : sb < N) (lss : ss < N) (lsf : sf < N) (hsb : C sb = ob 3 [.ref (ad ss), .ref (ad sf), .int (nI gq)]) (hss : C ss = ia G 192 (fun i => nI (sh i))) (hsf : C sf = fa G 3 fac) {nb nh nm : Nat} {hw : Nat → Nat} {mp : Nat → Bool} {dr : Nat} (lnb : nb < N) (lnh : nh < N) (lnm : nm < N) (hnb : C nb = ob 4 [.ref (ad nh), .ref (ad nm), .int (nI dr)]) (hnh : C nh = ia G 64 (fun i => nI (hw i))) (hnm : C nm = za G 64 (bI mp)) {fb fr fe : Nat} {t0 g0 q0 : Int32} {rw : Nat → Nat} (lfb : fb < N) (lfr : fr < N) (hfb : C fb = ob 1 [.ref (ad fr), .ref (ad fe), .int t0, .int g0, .int q0]) (hfr : C fr = ia G 64 (fun i => nI (rw i))) (dfn : fr ≠ nh) (dfm : fr ≠ nm) (hdr : dr < 61) {time gain : Nat} (ht0 : 0 < time) (ht1 : time < 65) (hfac : ∀ k, k < 3 → fin32 (fac k)) (kx : ∀ (H : Heap) (locs : List Loc) (ls : Array Slot), va_P G.1 vwB (wl N ad (va_up C fr (ia G 64 (fun i => nI (flI (exN hw sh fac dr time gain) rw (8 * 8) i))))) H → va_D A (wl N ad (va_up C fr (ia G 64 (fun i => nI (flI (exN hw sh fac dr time gain) rw (8 * 8) i))))) → va_S A H0 H locs → lv_has ls 10 [(5, .int (nI (drN dr (8 * 8)))), (0, .ref (ad nb)), (1, .ref (ad sb)), (2, .int (nI time)), (3, .int (nI gain)), (4, .ref (ad fb))] → W p l e rmX4_expose s m args below meth c H locs cells slots Q (F0 m 97 ls [])) : ∀ (d : Nat) (y : Nat) (H : Heap) (locs : List Loc) (ls : Array Slot), 8 - y < d → y ≤ 8 → va_P G.1 vwB (wl N ad (va_up C fr (ia G 64 (fun i => nI (flI (exN hw sh fac dr time gain) rw (8 * y) i))))) H → va_D A (wl N ad (va_up C fr (ia G 64 (fun i => nI (flI (exN hw sh fac dr time gain) rw (8 * y) i))))) → va_S A H0 H locs → lv_has ls 10 [(6, .int (nI y)), (5, .int (nI (drN dr (8 * y)))), (0, .ref (ad nb)), (1, .ref (ad sb)), (2, .int (nI time)), (3, .int (nI gain)), (4, .ref (ad fb))] → W p l e rmX4_expose s m args below meth c H locs cells slots Q (F0 m 9 ls []) := by
  intro d
  induction d with
  | zero => intro y H locs ls hd; exact absurd hd (Nat.not_lt_zero _)
  | succ d ih =>
    intro y H locs ls hd h2 hP hD hS hl
    refine lv_iload hx hb dX4_expose_9 (lv_at hl 0 rfl) ?_
    refine lv_bipush (v := nI 8) hx hb dX4_expose_11 (by decide) ?_
    refine lv_icmp_ge (tgt := 97) hx hb dX4_expose_13 (by decide) (fun c13 => ?_) (fun c13 => ?_)
    · have h5 : y = 8 := by have := (nI_leI (by omega) (by omega)).mp c13; omega
      subst h5
      exact kx H locs ls hP hD hS (lv_sub hl [1, 2, 3, 4, 5, 6] rfl)
    · have h4 : y < 8 := by have := mt (nI_leI (by omega) (by omega)).mpr c13; omega
      refine lv_iconst (v := nI 0) hx hb dX4_expose_16 (by decide) ?_
      refine lv_istore (lv' := [(7, .int (nI 0)), (6, .int (nI y)), (5, .int (nI (drN dr (8 * y)))), (0, .ref (ad nb)), (1, .ref (ad sb)), (2, .int (nI time)), (3, .int (nI gain)), (4, .ref (ad fb))]) hx hb dX4_expose_17 hl (by decide) rfl (fun ls hl => ?_)
      refine lX4_expose_x hx hb hml hr hts hown hK hA hcc hcs lsb lss lsf hsb hss hsf lnb lnh lnm hnb hnh hnm lfb lfr hfb hfr dfn dfm hdr ht0 ht1 hfac h4 (fun H locs ls hP hD hS hl => ?_) 9 0 H locs ls (by omega) (by omega) hP hD hS (lv_sub hl [0, 2, 1, 3, 4, 5, 6, 7] rfl)
      refine lv_iinc (v := nI (y + 1)) (lv' := [(6, .int (nI (y + 1))), (5, .int (nI (drN dr (8 * y + 8)))), (0, .ref (ad nb)), (1, .ref (ad sb)), (2, .int (nI time)), (3, .int (nI gain)), (4, .ref (ad fb))]) hx hb dX4_expose_91 hl (k := 0) rfl (iinc_nat _ 1) (by decide) rfl (fun ls hl => ?_)
      refine lv_goto (tgt := 9) hx hb dX4_expose_94 (by decide) ?_
      exact ih (y + 1) H locs ls (by omega) (by omega) hP hD hS (lv_sub hl [0, 1, 2, 3, 4, 5, 6] rfl)
set_option maxRecDepth 20000 in
theorem il_X4_expose_19 : (Cond.fieldLink RX4 19 "BayerGate$Sensor" "draw" "I") ∈ wsX4_expose := by decide +kernel
set_option maxHeartbeats 4000000 in
set_option maxRecDepth 100000 in
theorem kX4_expose (l : Launch) (G : iG) (N : Nat) (ad : Nat → Nat) (C : Nat → va_E) {sb ss sf : Nat} {sh : Nat → Nat} {fac : Nat → UInt32} {gq : Nat} (lsb : sb < N) (lss : ss < N) (lsf : sf < N) (hsb : C sb = ob 3 [.ref (ad ss), .ref (ad sf), .int (nI gq)]) (hss : C ss = ia G 192 (fun i => nI (sh i))) (hsf : C sf = fa G 3 fac) {nb nh nm : Nat} {hw : Nat → Nat} {mp : Nat → Bool} {dr : Nat} (lnb : nb < N) (lnh : nh < N) (lnm : nm < N) (hnb : C nb = ob 4 [.ref (ad nh), .ref (ad nm), .int (nI dr)]) (hnh : C nh = ia G 64 (fun i => nI (hw i))) (hnm : C nm = za G 64 (bI mp)) {fb fr fe : Nat} {t0 g0 q0 : Int32} {rw : Nat → Nat} (lfb : fb < N) (lfr : fr < N) (hfb : C fb = ob 1 [.ref (ad fr), .ref (ad fe), .int t0, .int g0, .int q0]) (hfr : C fr = ia G 64 (fun i => nI (rw i))) (dfn : fr ≠ nh) (dfm : fr ≠ nm) (hdr : dr < 61) {time gain : Nat} (ht0 : 0 < time) (ht1 : time < 65) (hfac : ∀ k, k < 3 → fin32 (fac k)) (sz : Nat) : Met l yX4_expose wsX4_expose rmX4_expose (iPre G N ad C sz [.ref (ad nb), .ref (ad sb), .int (nI time), .int (nI gain), .ref (ad fb)]) (va_Qi (fun (r : Int32) (u : Nat → va_E) => r = nI (drN dr 64) ∧ u = va_up (va_up C fr (ia G 64 (fun i => nI (exN hw sh fac dr time gain i)))) fb (ob 1 [.ref (ad fr), .ref (ad fe), .int (nI time), .int (nI gain), .int q0])) (iB G N ad) (iA N ad sz)) 0 0 (iA N ad sz) := by
  refine Met.ofW (cc := cX4_expose) (maxL := 10) (ret := (some .int)) (by decide) rfl ?_
  intro p e s m args below meth c s₁ B hml hv
  obtain ⟨rfl, hsz, hP, hK, hD0⟩ := hv
  have hx := B.exec
  have hb := B.bytes
  have hr := B.returns
  have hts := atoms_spec (ws := wsX4_expose) B.pre
  have hown : s.vm.findClass RX4 = some m.cls := findClass_of_methodNamed B.named
  have hlocks := B.notSynchronized
  subst hsz
  have hD := wl_self hD0 s.heap.size
  have hA : ∀ q : Nat, s.heap.size ≤ q → iA N ad s.heap.size q := fun q h => Or.inr h
  have hS : va_S (iA N ad s.heap.size) s.heap s.heap [] := va_S.rf
  have hP : va_P G.1 vwB (wl N ad C) s.heap := hP
  have hl := lv_entry ([.ref (ad nb), .ref (ad sb), .int (nI time), .int (nI gain), .ref (ad fb)]) (n := 10) (Nat.le_of_ble_eq_true rfl)
  rw [lg_entry_eq]
  generalize (lg_sl ([.ref (ad nb), .ref (ad sb), .int (nI time), .int (nI gain), .ref (ad fb)]) ++ List.replicate (10 - (lg_sl ([.ref (ad nb), .ref (ad sb), .int (nI time), .int (nI gain), .ref (ad fb)])).length) Slot.unset).toArray = ls at hl ⊢
  have hl : lv_has ls 10 [(0, .ref (ad nb)), (1, .ref (ad sb)), (2, .int (nI time)), (3, .int (nI gain)), (4, .ref (ad fb))] := hl
  have n_sb_fr : sb ≠ fr := fun h => by rw [h, hfr] at hsb; simp at hsb
  have n_ss_fr : ss ≠ fr := fun h => by rw [h, hfr] at hss; simp at hss
  have n_sf_fr : sf ≠ fr := fun h => by rw [h, hfr] at hsf; simp at hsf
  have n_nb_fr : nb ≠ fr := fun h => by rw [h, hfr] at hnb; simp at hnb
  have n_fb_fr : fb ≠ fr := fun h => by rw [h, hfr] at hfb; simp at hfb
  have n_sb_fb : sb ≠ fb := fun h => by rw [h, hfb] at hsb; simp at hsb
  have n_nb_fb : nb ≠ fb := fun h => by rw [h, hfb] at hnb; simp at hnb
  refine lv_aload_n hx hb dX4_expose_0 rfl (lv_at hl 0 rfl) ?_
  refine iw_get hx hb hts iu_X4_expose_4 hown hK hP lnb (hnb) rfl 2 (by decide) (hts _ il_X4_expose_19) (fun _ h9 => h9) rfl dX4_expose_1 ?_
  refine lv_istore (lv' := [(5, .int (nI dr)), (0, .ref (ad nb)), (1, .ref (ad sb)), (2, .int (nI time)), (3, .int (nI gain)), (4, .ref (ad fb))]) hx hb dX4_expose_4 hl (by decide) rfl (fun ls hl => ?_)
  refine lv_iconst (v := nI 0) hx hb dX4_expose_6 (by decide) ?_
  refine lv_istore (lv' := [(6, .int (nI 0)), (5, .int (nI dr)), (0, .ref (ad nb)), (1, .ref (ad sb)), (2, .int (nI time)), (3, .int (nI gain)), (4, .ref (ad fb))]) hx hb dX4_expose_7 hl (by decide) rfl (fun ls hl => ?_)
  have hP := wl_selfE hP hfr
  have hD := wl_D hD (va_up C fr (ia G 64 (fun i => nI (rw i))))
  refine lX4_expose_y hx hb hml hr hts hown hK hA (Nat.le_refl _) (Nat.le_refl _) lsb lss lsf hsb hss hsf lnb lnh lnm hnb hnh hnm lfb lfr hfb hfr dfn dfm hdr ht0 ht1 hfac (fun H locs ls hP hD hS hl => ?_) 9 0 _ _ ls (by omega) (by omega) hP hD hS (lv_sub hl [0, 1, 2, 3, 4, 5, 6] rfl)
  have hP := wl_ia (g := fun i => nI (exN hw sh fac dr time gain i)) hP (fun k hk => by simp [flI, show k < 64 from hk])
  have hD := wl_D hD (va_up C fr (ia G 64 (fun i => nI (exN hw sh fac dr time gain i))))
  refine lv_aload hx hb dX4_expose_97 (lv_at hl 5 rfl) ?_
  refine lv_iload_n hx hb dX4_expose_99 rfl (lv_at hl 3 rfl) ?_
  refine iw_putN (ty := .int) hx hb hts iu_X4_expose_1 tyX1 tyX1_ok nmX1 hown hK hP hD hS lfb ((va_un _ _ n_fb_fr).trans (hfb)) rfl 2 (by decide) (nw_RX4_45 hK.2) (fun _ h9 => h9) rfl (by decide +kernel) rfl rfl (Nat.le_of_ble_eq_true rfl) rfl dX4_expose_100 (fun H locs hP hD hS => ?_)
  refine lv_aload hx hb dX4_expose_103 (lv_at hl 5 rfl) ?_
  refine lv_iload_n hx hb dX4_expose_105 rfl (lv_at hl 4 rfl) ?_
  refine iw_putN (ty := .int) hx hb hts iu_X4_expose_1 tyX1 tyX1_ok nmX1 hown hK hP hD hS lfb (va_us _ _ _) rfl 3 (by decide) (nw_RX4_48 hK.2) (fun _ h9 => h9) rfl (by decide +kernel) rfl rfl (Nat.le_of_ble_eq_true rfl) rfl dX4_expose_106 (fun H locs hP hD hS => ?_)
  rw [va_uu _ _ _ _] at hP hD
  refine lv_iload hx hb dX4_expose_109 (lv_at hl 0 rfl) ?_
  exact W.iret (v := (nI (drN dr 64))) hx hb hr (fun t ht hW => ⟨⟨_, _, rfl, ⟨rfl, rfl⟩, iB_of ht hP⟩, hS.F ht⟩) hS.2.2 dX4_expose_111
end
section
/-- clipped places -/
def clN (rw : Nat → Nat) : Nat → Nat
  | 0 => 0
  | n + 1 => clN rw n + if rw n = 255 then 1 else 0
theorem clN_le (rw : Nat → Nat) : ∀ n, clN rw n ≤ n
  | 0 => Nat.le_refl _
  | n + 1 => by
    have := clN_le rw n
    unfold clN
    split <;> omega
/-- the sum of RAW over the places that see a colour -/
def ssN (rw : Nat → Nat) (k : Nat) : Nat → Nat
  | 0 => 0
  | n + 1 => ssN rw k n + if colN (n % 8) (n / 8) = k then rw n else 0
theorem ssN_le (rw : Nat → Nat) (hr : ∀ i, i < 64 → rw i ≤ 255) (k : Nat) : ∀ n, n ≤ 64 → ssN rw k n ≤ 255 * n
  | 0, _ => Nat.le_refl _
  | n + 1, hn => by
    have := ssN_le rw hr k n (by omega)
    have := hr n (by omega)
    unfold ssN
    split <;> omega
/-- WHITE -/
def whN (rw : Nat → Nat) (k : Nat) : Nat := if ssN rw k 64 = 0 then 16 else max 1 (min 16 (4 * ssN rw 1 64 / (2 * ssN rw k 64)))
theorem wh_eq (q : Nat) (h : q < 2 ^ 31) : (if nI 1 < (if nI q < nI 16 then nI q else nI 16) then (if nI q < nI 16 then nI q else nI 16) else nI 1) = nI (max 1 (min 16 q)) := by
  have e : (if nI q < nI 16 then nI q else nI 16) = nI (min 16 q) := by
    by_cases h1 : q < 16
    · rw [if_pos (nI_lt h1 (by omega)), show min 16 q = q by omega]
    · rw [if_neg (nI_nlt (by omega) (by omega)), show min 16 q = 16 by omega]
  rw [e]
  by_cases h1 : 1 < min 16 q
  · rw [if_pos (nI_lt h1 (by omega)), show max 1 (min 16 q) = min 16 q by omega]
  · rw [if_neg (nI_nlt (by omega) (by omega)), show max 1 (min 16 q) = 1 by omega]
def absI (z : Int32) : Int32 := if 0 ≤ z then z else 0 - z
/-- SHARP: a row, the rows -/
def shX (rw : Nat → Nat) (y : Nat) (a : Int32) : Nat → Int32
  | 0 => a
  | x + 1 => if colN x y = 1 then shX rw y a x + absI (nI (rw (8 * y + x)) - nI (rw (8 * (y + 1) + (x + 1)))) else shX rw y a x
def shY (rw : Nat → Nat) : Nat → Int32
  | 0 => nI 0
  | y + 1 => shX rw y (shY rw y) 7
/-- a zone's sum: a row, the rows -/
def zoX (rw : Nat → Nat) (fx y a : Nat) : Nat → Nat
  | 0 => a
  | x + 1 => zoX rw fx y a x + if colN (fx + x) y = 1 then rw (8 * y + (fx + x)) else 0
def zoY (rw : Nat → Nat) (fx fy : Nat) : Nat → Nat
  | 0 => 0
  | y + 1 => zoX rw fx (fy + y) (zoY rw fx fy y) 4
theorem zoX_le (rw : Nat → Nat) (hr : ∀ i, i < 64 → rw i ≤ 255) {fx y : Nat} (hf : fx ≤ 4) (hy : y < 8) (a : Nat) : ∀ n, n ≤ 4 → zoX rw fx y a n ≤ a + 255 * n
  | 0, _ => Nat.le_refl _
  | n + 1, hn => by
    have := zoX_le rw hr hf hy a n (by omega)
    have := hr (8 * y + (fx + n)) (by omega)
    unfold zoX
    split <;> omega
theorem zoY_le (rw : Nat → Nat) (hr : ∀ i, i < 64 → rw i ≤ 255) {fx fy : Nat} (hf : fx ≤ 4) (hy : fy ≤ 4) : ∀ n, n ≤ 4 → zoY rw fx fy n ≤ 1020 * n
  | 0, _ => Nat.le_refl _
  | n + 1, hn => by
    have := zoY_le rw hr hf hy n (by omega)
    have := zoX_le rw hr hf (show fy + n < 8 by omega) (zoY rw fx fy n) 4 (by omega)
    unfold zoY
    omega
def zoN (rw : Nat → Nat) (z : Nat) : Nat := zoY rw (z % 2 * 4) (z / 2 * 4) 4
theorem zoN_le (rw : Nat → Nat) (hr : ∀ i, i < 64 → rw i ≤ 255) {z : Nat} (hz : z < 4) : zoN rw z ≤ 4080 := zoY_le rw hr (by omega) (by omega) 4 (by omega)
/-- MEAN of a zone, the METER -/
def moF (rw : Nat → Nat) (z : Nat) : UInt64 := FP.ddiv (FP.i2d (nI (zoN rw z))) 4620693217682128896
def meF (rw : Nat → Nat) : UInt64 := FP.ddiv (FP.dadd (FP.dadd (FP.dadd (FP.dadd FP.dconst0 (moF rw 0)) (moF rw 1)) (moF rw 2)) (moF rw 3)) 4616189618054758400
theorem i2d_fin64 (v : Int32) : fin64 (FP.i2d v) := FP.Core.i2d_fin v
theorem moF_fin (rw : Nat → Nat) (z : Nat) : fin64 (moF rw z) := FP.Core.fin_of_lt (FP.Core.ddiv_mag (K := 1056) (L := 1026) (FP.Core.i2d_mag _) (by decide) (by decide) (by decide) (by decide)) (by decide)
def isDz (x : UInt64) : Bool := match FP.Core.val64 x with
  | .fin _ c _ => c != 0
  | _ => false
theorem isDz_ok {x : UInt64} (h : isDz x = true) : finz64 x := by
  unfold isDz at h
  cases hv : FP.Core.val64 x with
  | nan => rw [hv] at h; cases h
  | inf s => rw [hv] at h; cases h
  | fin s c q =>
    rw [hv] at h
    exact ⟨s, c, q, hv, by simpa using h⟩
theorem d8_ok : finz64 4620693217682128896 := isDz_ok (by decide +kernel)
theorem d4_ok : finz64 4616189618054758400 := isDz_ok (by decide +kernel)
theorem d0_ok : fin64 FP.dconst0 := ⟨_, _, _, FP.Core.val64_dconst0⟩
theorem me1_n (rw : Nat → Nat) : vf_n64 (FP.dadd FP.dconst0 (moF rw 0)) := dadd_nf (fin64_n d0_ok) (moF_fin rw 0)
theorem me2_n (rw : Nat → Nat) : vf_n64 (FP.dadd (FP.dadd FP.dconst0 (moF rw 0)) (moF rw 1)) := dadd_nf (me1_n rw) (moF_fin rw 1)
theorem me3_n (rw : Nat → Nat) : vf_n64 (FP.dadd (FP.dadd (FP.dadd FP.dconst0 (moF rw 0)) (moF rw 1)) (moF rw 2)) := dadd_nf (me2_n rw) (moF_fin rw 2)
theorem me4_n (rw : Nat → Nat) : vf_n64 (FP.dadd (FP.dadd (FP.dadd (FP.dadd FP.dconst0 (moF rw 0)) (moF rw 1)) (moF rw 2)) (moF rw 3)) := dadd_nf (me3_n rw) (moF_fin rw 3)
theorem meF_n (rw : Nat → Nat) : vf_n64 (meF rw) := ddiv_nz (me4_n rw) d4_ok
abbrev rmX1_countClipped : Room := { frames := 0, cells := 0, slots := 0, locals := 0 }
set_option maxRecDepth 20000 in
theorem iu_X1_countClipped_1 : ∀ w ∈ u_ws RX1 TX1 5, w ∈ wsX1_countClipped := by decide +kernel
set_option maxRecDepth 20000 in
theorem il_X1_countClipped_9 : (Cond.fieldLink RX1 9 "BayerGate$Frame" "rawRow" "[I") ∈ wsX1_countClipped := by decide +kernel
set_option maxHeartbeats 4000000 in
set_option maxRecDepth 100000 in
theorem lX1_countClipped {p : Program} {l : Launch} {e : Env} {s : State} {m : MethodId} {args : Array Value} {below : List Frame} {meth : Method} {c : Code} {Q : State → Prop} {A : Nat → Prop} {H0 : Heap} {cells slots : Nat} (hx : p.tables.exec = Jvm.exec) (hb : c.code = cX1_countClipped) (hml : c.maxLocals = 3) (hr : meth.sig.returnType = (some .int)) (hts : ∀ w ∈ wsX1_countClipped, w.before args s = true) (hown : s.vm.findClass RX1 = some m.cls) {G : iG} (hK : KB G s) (hA : ∀ q, H0.size ≤ q → A q) {N : Nat} {ad : Nat → Nat} {C : Nat → va_E} {H : Heap} {locs : List Loc} (hP : va_P G.1 vwB (wl N ad C) H) (hD : va_D A (wl N ad C)) (hS : va_S A H0 H locs)  (hcc : cells ≤ rmX1_countClipped.cells) (hcs : slots ≤ rmX1_countClipped.slots) {fb fr fe : Nat} {t0 g0 q0 : Int32} {rw : Nat → Nat} (lfb : fb < N) (lfr : fr < N) (hfb : C fb = ob 1 [.ref (ad fr), .ref (ad fe), .int t0, .int g0, .int q0]) (hfr : C fr = ia G 64 (fun i => nI (rw i))) (hr9 : ∀ i, i < 64 → rw i ≤ 255) (kx : ∀ ls, lv_has ls 3 [(1, .int (nI (clN rw 64)))] → W p l e rmX1_countClipped s m args below meth c H locs cells slots Q (F0 m 31 ls [])) : ∀ (d : Nat) (k : Nat) (ls : Array Slot), 64 - k < d → k ≤ 64 → lv_has ls 3 [(1, .int (nI (clN rw k))), (2, .int (nI k)), (0, .ref (ad fb))] → W p l e rmX1_countClipped s m args below meth c H locs cells slots Q (F0 m 4 ls []) := by
  intro d
  induction d with
  | zero => intro k ls hd; exact absurd hd (Nat.not_lt_zero _)
  | succ d ih =>
    intro k ls hd h2 hl
    refine lv_iload_n hx hb dX1_countClipped_4 rfl (lv_at hl 1 rfl) ?_
    refine lv_bipush (v := nI 64) hx hb dX1_countClipped_5 (by decide) ?_
    refine lv_icmp_ge (tgt := 31) hx hb dX1_countClipped_7 (by decide) (fun c7 => ?_) (fun c7 => ?_)
    · have h5 : k = 64 := by have := (nI_leI (by omega) (by omega)).mp c7; omega
      subst h5
      exact kx ls (lv_sub hl [0] rfl)
    · have h4 : k < 64 := by have := mt (nI_leI (by omega) (by omega)).mpr c7; omega
      have h6 := hr9 k h4
      refine lv_aload_n hx hb dX1_countClipped_10 rfl (lv_at hl 2 rfl) ?_
      refine iw_get hx hb hts iu_X1_countClipped_1 hown hK hP lfb (hfb) rfl 0 (by decide) (hts _ il_X1_countClipped_9) (fun _ h9 => h9) rfl dX1_countClipped_11 ?_
      refine lv_iload_n hx hb dX1_countClipped_14 rfl (lv_at hl 1 rfl) ?_
      refine iw_iald (v := nI (rw k)) hx hb hK hP lfr (hfr) (vp_in_nI (show k < 64 by omega) (by omega)) (congrArg (fun i => nI (rw i)) (nI_clamp (by omega))) dX1_countClipped_15 ?_
      refine lv_sipush (v := nI 255) hx hb dX1_countClipped_16 (by decide) ?_
      refine lv_icmp_ne (tgt := 25) hx hb dX1_countClipped_19 (by decide) (fun c19 => ?_) (fun c19 => ?_)
      · have e8 : rw k ≠ 255 := fun e => c19 (by rw [e])
        refine lv_iinc (v := nI (k + 1)) (lv' := [(2, .int (nI (k + 1))), (1, .int (nI (clN rw k))), (0, .ref (ad fb))]) hx hb dX1_countClipped_25 hl (k := 1) rfl (iinc_nat _ 1) (by decide) rfl (fun ls hl => ?_)
        refine lv_goto (tgt := 4) hx hb dX1_countClipped_28 (by decide) ?_
        have e9 : clN rw (k + 1) = clN rw k := by simp only [clN]; simp [e8]
        exact ih (k + 1) ls (by omega) (by omega) (by rw [e9]; exact (lv_sub hl [1, 0, 2] rfl))
      · have e8 : rw k = 255 := (nI_eq (by omega) (by omega)).mp c19
        refine lv_iinc (v := nI ((clN rw k) + 1)) (lv' := [(1, .int (nI ((clN rw k) + 1))), (2, .int (nI k)), (0, .ref (ad fb))]) hx hb dX1_countClipped_22 hl (k := 0) rfl (iinc_nat _ 1) (by decide) rfl (fun ls hl => ?_)
        refine lv_iinc (v := nI (k + 1)) (lv' := [(2, .int (nI (k + 1))), (1, .int (nI ((clN rw k) + 1))), (0, .ref (ad fb))]) hx hb dX1_countClipped_25 hl (k := 1) rfl (iinc_nat _ 1) (by decide) rfl (fun ls hl => ?_)
        refine lv_goto (tgt := 4) hx hb dX1_countClipped_28 (by decide) ?_
        have e9 : clN rw (k + 1) = (clN rw k) + 1 := by simp only [clN]; simp [e8]
        exact ih (k + 1) ls (by omega) (by omega) (by rw [e9]; exact (lv_sub hl [1, 0, 2] rfl))
set_option maxHeartbeats 4000000 in
set_option maxRecDepth 100000 in
theorem kX1_countClipped (l : Launch) (G : iG) (N : Nat) (ad : Nat → Nat) (C : Nat → va_E) {fb fr fe : Nat} {t0 g0 q0 : Int32} {rw : Nat → Nat} (lfb : fb < N) (lfr : fr < N) (hfb : C fb = ob 1 [.ref (ad fr), .ref (ad fe), .int t0, .int g0, .int q0]) (hfr : C fr = ia G 64 (fun i => nI (rw i))) (hr9 : ∀ i, i < 64 → rw i ≤ 255) (sz : Nat) : Met l yX1_countClipped wsX1_countClipped rmX1_countClipped (iPre G N ad C sz [.ref (ad fb)]) (va_Qi (fun (r : Int32) (u : Nat → va_E) => r = nI (clN rw 64) ∧ u = C) (iB G N ad) (iA N ad sz)) 0 0 (iA N ad sz) := by
  refine Met.ofW (cc := cX1_countClipped) (maxL := 3) (ret := (some .int)) (by decide) rfl ?_
  intro p e s m args below meth c s₁ B hml hv
  obtain ⟨rfl, hsz, hP, hK, hD0⟩ := hv
  have hx := B.exec
  have hb := B.bytes
  have hr := B.returns
  have hts := atoms_spec (ws := wsX1_countClipped) B.pre
  have hown : s.vm.findClass RX1 = some m.cls := findClass_of_methodNamed B.named
  have hlocks := B.notSynchronized
  subst hsz
  have hD := wl_self hD0 s.heap.size
  have hA : ∀ q : Nat, s.heap.size ≤ q → iA N ad s.heap.size q := fun q h => Or.inr h
  have hS : va_S (iA N ad s.heap.size) s.heap s.heap [] := va_S.rf
  have hP : va_P G.1 vwB (wl N ad C) s.heap := hP
  have hl := lv_entry ([.ref (ad fb)]) (n := 3) (Nat.le_of_ble_eq_true rfl)
  rw [lg_entry_eq]
  generalize (lg_sl ([.ref (ad fb)]) ++ List.replicate (3 - (lg_sl ([.ref (ad fb)])).length) Slot.unset).toArray = ls at hl ⊢
  have hl : lv_has ls 3 [(0, .ref (ad fb))] := hl
  refine lv_iconst (v := nI 0) hx hb dX1_countClipped_0 (by decide) ?_
  refine lv_istore_n (lv' := [(1, .int (nI 0)), (0, .ref (ad fb))]) hx hb dX1_countClipped_1 rfl hl (by decide) rfl (fun ls hl => ?_)
  refine lv_iconst (v := nI 0) hx hb dX1_countClipped_2 (by decide) ?_
  refine lv_istore_n (lv' := [(2, .int (nI 0)), (1, .int (nI 0)), (0, .ref (ad fb))]) hx hb dX1_countClipped_3 rfl hl (by decide) rfl (fun ls hl => ?_)
  refine lX1_countClipped hx hb hml hr hts hown hK hA hP hD hS (Nat.le_refl _) (Nat.le_refl _) lfb lfr hfb hfr hr9 (fun ls hl => ?_) 65 0 ls (by omega) (by omega) (lv_sub hl [1, 0, 2] rfl)
  refine lv_iload_n hx hb dX1_countClipped_31 rfl (lv_at hl 0 rfl) ?_
  exact W.iret (v := (nI (clN rw 64))) hx hb hr (fun t ht hW => ⟨⟨_, _, rfl, ⟨rfl, rfl⟩, iB_of ht hP⟩, hS.F ht⟩) hS.2.2 dX1_countClipped_32
abbrev rmX1_sumSeen : Room := { frames := 1, cells := 0, slots := 0, locals := 21 }
set_option maxRecDepth 20000 in
theorem il_X1_sumSeen_iniX6 : (Cond.initialized RX6) ∈ wsX1_sumSeen := by decide +kernel
set_option maxRecDepth 20000 in
theorem il_X1_sumSeen_st_X6_colourSeen : (Cond.static yX6_colourSeen) ∈ wsX1_sumSeen := by decide +kernel
set_option maxRecDepth 20000 in
theorem iu_X1_sumSeen_1 : ∀ w ∈ u_ws RX1 TX1 5, w ∈ wsX1_sumSeen := by decide +kernel
set_option maxRecDepth 20000 in
theorem il_X1_sumSeen_9 : (Cond.fieldLink RX1 9 "BayerGate$Frame" "rawRow" "[I") ∈ wsX1_sumSeen := by decide +kernel
set_option maxRecDepth 20000 in
theorem il_X1_sumSeen_st_X6_placeOf : (Cond.static yX6_placeOf) ∈ wsX1_sumSeen := by decide +kernel
set_option maxHeartbeats 4000000 in
set_option maxRecDepth 100000 in
theorem lX1_sumSeen_x {p : Program} {l : Launch} {e : Env} {s : State} {m : MethodId} {args : Array Value} {below : List Frame} {meth : Method} {c : Code} {Q : State → Prop} {A : Nat → Prop} {H0 : Heap} {cells slots : Nat} (hx : p.tables.exec = Jvm.exec) (hb : c.code = cX1_sumSeen) (hml : c.maxLocals = 5) (hr : meth.sig.returnType = (some .int)) (hts : ∀ w ∈ wsX1_sumSeen, w.before args s = true) (hown : s.vm.findClass RX1 = some m.cls) {G : iG} (hK : KB G s) (hA : ∀ q, H0.size ≤ q → A q) {N : Nat} {ad : Nat → Nat} {C : Nat → va_E}  (hcc : cells ≤ rmX1_sumSeen.cells) (hcs : slots ≤ rmX1_sumSeen.slots) {fb fr fe : Nat} {t0 g0 q0 : Int32} {rw : Nat → Nat} (lfb : fb < N) (lfr : fr < N) (hfb : C fb = ob 1 [.ref (ad fr), .ref (ad fe), .int t0, .int g0, .int q0]) (hfr : C fr = ia G 64 (fun i => nI (rw i))) (hr9 : ∀ i, i < 64 → rw i ≤ 255) {k y : Nat} (hk3 : k < 3) (hy8 : y < 8) (kx : ∀ (H : Heap) (locs : List Loc) (ls : Array Slot), va_P G.1 vwB (wl N ad C) H → va_D A (wl N ad C) → va_S A H0 H locs → lv_has ls 5 [(2, .int (nI (ssN rw k (8 * y + 8)))), (3, .int (nI y)), (0, .ref (ad fb)), (1, .int (nI k))] → W p l e rmX1_sumSeen s m args below meth c H locs cells slots Q (F0 m 50 ls [])) : ∀ (d : Nat) (x : Nat) (H : Heap) (locs : List Loc) (ls : Array Slot), 8 - x < d → x ≤ 8 → va_P G.1 vwB (wl N ad C) H → va_D A (wl N ad C) → va_S A H0 H locs → lv_has ls 5 [(2, .int (nI (ssN rw k (8 * y + x)))), (4, .int (nI x)), (3, .int (nI y)), (0, .ref (ad fb)), (1, .int (nI k))] → W p l e rmX1_sumSeen s m args below meth c H locs cells slots Q (F0 m 13 ls []) := by
  intro d
  induction d with
  | zero => intro x H locs ls hd; exact absurd hd (Nat.not_lt_zero _)
  | succ d ih =>
    intro x H locs ls hd h2 hP hD hS hl
    refine lv_iload hx hb dX1_sumSeen_13 (lv_at hl 1 rfl) ?_
    refine lv_bipush (v := nI 8) hx hb dX1_sumSeen_15 (by decide) ?_
    refine lv_icmp_ge (tgt := 50) hx hb dX1_sumSeen_17 (by decide) (fun c17 => ?_) (fun c17 => ?_)
    · have h5 : x = 8 := by have := (nI_leI (by omega) (by omega)).mp c17; omega
      subst h5
      exact kx H locs ls hP hD hS (lv_sub hl [0, 2, 3, 4] rfl)
    · have h4 : x < 8 := by have := mt (nI_leI (by omega) (by omega)).mpr c17; omega
      refine lv_iload hx hb dX1_sumSeen_20 (lv_at hl 1 rfl) ?_
      refine lv_iload_n hx hb dX1_sumSeen_22 rfl (lv_at hl 2 rfl) ?_
      refine iw_pi (va_runSN (As := [.int (nI x), .int (nI y)]) (rest := []) ⟨hx, hb, hml, hown, hts⟩ (kX6_colourSeen l x y (by omega) (by omega)) ⟨va_cnB (host := RX6) 2 hts gX1_sumSeen_X6_colourSeen_n32 rfl rfl rfl (nw_RX1_32 hK.2) (hts _ il_X1_sumSeen_iniX6) (by decide +kernel) ⟨Nat.le_of_ble_eq_true rfl, Nat.le_of_ble_eq_true rfl⟩, (hts _ il_X1_sumSeen_st_X6_colourSeen), trivial⟩ ⟨fun a U g mk q => q, fun U hU hW => ⟨rfl, trivial⟩⟩ rfl rfl hl.1 rfl (lv_room (Nat.le_of_ble_eq_true rfl)) dX1_sumSeen_23 ⟨hcc, hcs⟩) hP hS (fun r8 u8 H locs hw8 hP hS => ?_)
      refine lv_asI hw8 ?_
      refine lv_iload_n hx hb dX1_sumSeen_26 rfl (lv_at hl 4 rfl) ?_
      refine lv_icmp_ne (tgt := 44) hx hb dX1_sumSeen_27 (by decide) (fun c27 => ?_) (fun c27 => ?_)
      · have e8 : ¬ colN x y = k := fun e => c27 (by rw [e])
        refine lv_iinc (v := nI (x + 1)) (lv' := [(4, .int (nI (x + 1))), (2, .int (nI (ssN rw k (8 * y + x)))), (3, .int (nI y)), (0, .ref (ad fb)), (1, .int (nI k))]) hx hb dX1_sumSeen_44 hl (k := 1) rfl (iinc_nat _ 1) (by decide) rfl (fun ls hl => ?_)
        refine lv_goto (tgt := 13) hx hb dX1_sumSeen_47 (by decide) ?_
        have e9 : ssN rw k (8 * y + (x + 1)) = ssN rw k (8 * y + x) := by show ssN rw k (8 * y + x) + (if colN ((8 * y + x) % 8) ((8 * y + x) / 8) = k then rw (8 * y + x) else 0) = _; rw [show (8 * y + x) % 8 = x by omega, show (8 * y + x) / 8 = y by omega]; simp [e8]
        exact ih (x + 1) H locs ls (by omega) (by omega) hP hD hS (by rw [e9]; exact (lv_sub hl [1, 0, 2, 3, 4] rfl))
      · have e8 : colN x y = k := (nI_eq (by have := colN_lt x y; omega) (by omega)).mp c27
        refine lv_iload_n hx hb dX1_sumSeen_30 rfl (lv_at hl 0 rfl) ?_
        refine lv_aload_n hx hb dX1_sumSeen_31 rfl (lv_at hl 3 rfl) ?_
        refine iw_get hx hb hts iu_X1_sumSeen_1 hown hK hP lfb (hfb) rfl 0 (by decide) (hts _ il_X1_sumSeen_9) (fun _ h9 => h9) rfl dX1_sumSeen_32 ?_
        refine lv_iload hx hb dX1_sumSeen_35 (lv_at hl 1 rfl) ?_
        refine lv_iload_n hx hb dX1_sumSeen_37 rfl (lv_at hl 2 rfl) ?_
        refine iw_pi (va_runSN (As := [.int (nI x), .int (nI y)]) (rest := [.ref (ad fr), .int (nI (ssN rw k (8 * y + x)))]) ⟨hx, hb, hml, hown, hts⟩ (kX6_placeOf l x y) ⟨va_cnB (host := RX6) 2 hts gX1_sumSeen_X6_placeOf_n36 rfl rfl rfl (nw_RX1_36 hK.2) (hts _ il_X1_sumSeen_iniX6) (by decide +kernel) ⟨Nat.le_of_ble_eq_true rfl, Nat.le_of_ble_eq_true rfl⟩, (hts _ il_X1_sumSeen_st_X6_placeOf), trivial⟩ ⟨fun a U g mk q => q, fun U hU hW => ⟨rfl, trivial⟩⟩ rfl rfl hl.1 rfl (lv_room (Nat.le_of_ble_eq_true rfl)) dX1_sumSeen_38 ⟨hcc, hcs⟩) hP hS (fun r8 u8 H locs hw8 hP hS => ?_)
        refine lv_asI hw8 ?_
        refine iw_iald (v := nI (rw (8 * y + x))) hx hb hK hP lfr (hfr) (vp_in_nI (show 8 * y + x < 64 by omega) (by omega)) (congrArg (fun i => nI (rw i)) (nI_clamp (by omega))) dX1_sumSeen_41 ?_
        refine lv_iadd hx hb dX1_sumSeen_42 ?_
        refine lv_asI (y := nI ((ssN rw k (8 * y + x)) + (rw (8 * y + x)))) (nI_add _ _) ?_
        refine lv_istore_n (lv' := [(2, .int (nI ((ssN rw k (8 * y + x)) + (rw (8 * y + x))))), (4, .int (nI x)), (3, .int (nI y)), (0, .ref (ad fb)), (1, .int (nI k))]) hx hb dX1_sumSeen_43 rfl hl (by decide) rfl (fun ls hl => ?_)
        refine lv_iinc (v := nI (x + 1)) (lv' := [(4, .int (nI (x + 1))), (2, .int (nI ((ssN rw k (8 * y + x)) + (rw (8 * y + x))))), (3, .int (nI y)), (0, .ref (ad fb)), (1, .int (nI k))]) hx hb dX1_sumSeen_44 hl (k := 1) rfl (iinc_nat _ 1) (by decide) rfl (fun ls hl => ?_)
        refine lv_goto (tgt := 13) hx hb dX1_sumSeen_47 (by decide) ?_
        have e9 : ssN rw k (8 * y + (x + 1)) = (ssN rw k (8 * y + x)) + (rw (8 * y + x)) := by show ssN rw k (8 * y + x) + (if colN ((8 * y + x) % 8) ((8 * y + x) / 8) = k then rw (8 * y + x) else 0) = _; rw [show (8 * y + x) % 8 = x by omega, show (8 * y + x) / 8 = y by omega]; simp [e8]
        exact ih (x + 1) H locs ls (by omega) (by omega) hP hD hS (by rw [e9]; exact (lv_sub hl [1, 0, 2, 3, 4] rfl))
set_option maxHeartbeats 4000000 in
set_option maxRecDepth 100000 in
theorem lX1_sumSeen_y {p : Program} {l : Launch} {e : Env} {s : State} {m : MethodId} {args : Array Value} {below : List Frame} {meth : Method} {c : Code} {Q : State → Prop} {A : Nat → Prop} {H0 : Heap} {cells slots : Nat} (hx : p.tables.exec = Jvm.exec) (hb : c.code = cX1_sumSeen) (hml : c.maxLocals = 5) (hr : meth.sig.returnType = (some .int)) (hts : ∀ w ∈ wsX1_sumSeen, w.before args s = true) (hown : s.vm.findClass RX1 = some m.cls) {G : iG} (hK : KB G s) (hA : ∀ q, H0.size ≤ q → A q) {N : Nat} {ad : Nat → Nat} {C : Nat → va_E}  (hcc : cells ≤ rmX1_sumSeen.cells) (hcs : slots ≤ rmX1_sumSeen.slots) {fb fr fe : Nat} {t0 g0 q0 : Int32} {rw : Nat → Nat} (lfb : fb < N) (lfr : fr < N) (hfb : C fb = ob 1 [.ref (ad fr), .ref (ad fe), .int t0, .int g0, .int q0]) (hfr : C fr = ia G 64 (fun i => nI (rw i))) (hr9 : ∀ i, i < 64 → rw i ≤ 255) {k : Nat} (hk3 : k < 3) (kx : ∀ (H : Heap) (locs : List Loc) (ls : Array Slot), va_P G.1 vwB (wl N ad C) H → va_D A (wl N ad C) → va_S A H0 H locs → lv_has ls 5 [(2, .int (nI (ssN rw k (8 * 8))))] → W p l e rmX1_sumSeen s m args below meth c H locs cells slots Q (F0 m 56 ls [])) : ∀ (d : Nat) (y : Nat) (H : Heap) (locs : List Loc) (ls : Array Slot), 8 - y < d → y ≤ 8 → va_P G.1 vwB (wl N ad C) H → va_D A (wl N ad C) → va_S A H0 H locs → lv_has ls 5 [(2, .int (nI (ssN rw k (8 * y)))), (3, .int (nI y)), (0, .ref (ad fb)), (1, .int (nI k))] → W p l e rmX1_sumSeen s m args below meth c H locs cells slots Q (F0 m 4 ls []) := by
  intro d
  induction d with
  | zero => intro y H locs ls hd; exact absurd hd (Nat.not_lt_zero _)
  | succ d ih =>
    intro y H locs ls hd h2 hP hD hS hl
    refine lv_iload_n hx hb dX1_sumSeen_4 rfl (lv_at hl 1 rfl) ?_
    refine lv_bipush (v := nI 8) hx hb dX1_sumSeen_5 (by decide) ?_
    refine lv_icmp_ge (tgt := 56) hx hb dX1_sumSeen_7 (by decide) (fun c7 => ?_) (fun c7 => ?_)
    · have h5 : y = 8 := by have := (nI_leI (by omega) (by omega)).mp c7; omega
      subst h5
      exact kx H locs ls hP hD hS (lv_sub hl [0] rfl)
    · have h4 : y < 8 := by have := mt (nI_leI (by omega) (by omega)).mpr c7; omega
      refine lv_iconst (v := nI 0) hx hb dX1_sumSeen_10 (by decide) ?_
      refine lv_istore (lv' := [(4, .int (nI 0)), (2, .int (nI (ssN rw k (8 * y)))), (3, .int (nI y)), (0, .ref (ad fb)), (1, .int (nI k))]) hx hb dX1_sumSeen_11 hl (by decide) rfl (fun ls hl => ?_)
      refine lX1_sumSeen_x hx hb hml hr hts hown hK hA hcc hcs lfb lfr hfb hfr hr9 hk3 h4 (fun H locs ls hP hD hS hl => ?_) 9 0 H locs ls (by omega) (by omega) hP hD hS (lv_sub hl [1, 0, 2, 3, 4] rfl)
      refine lv_iinc (v := nI (y + 1)) (lv' := [(3, .int (nI (y + 1))), (2, .int (nI (ssN rw k (8 * y + 8)))), (0, .ref (ad fb)), (1, .int (nI k))]) hx hb dX1_sumSeen_50 hl (k := 1) rfl (iinc_nat _ 1) (by decide) rfl (fun ls hl => ?_)
      refine lv_goto (tgt := 4) hx hb dX1_sumSeen_53 (by decide) ?_
      exact ih (y + 1) H locs ls (by omega) (by omega) hP hD hS (lv_sub hl [1, 0, 2, 3] rfl)
set_option maxHeartbeats 4000000 in
set_option maxRecDepth 100000 in
theorem kX1_sumSeen (l : Launch) (G : iG) (N : Nat) (ad : Nat → Nat) (C : Nat → va_E) {fb fr fe : Nat} {t0 g0 q0 : Int32} {rw : Nat → Nat} (lfb : fb < N) (lfr : fr < N) (hfb : C fb = ob 1 [.ref (ad fr), .ref (ad fe), .int t0, .int g0, .int q0]) (hfr : C fr = ia G 64 (fun i => nI (rw i))) (hr9 : ∀ i, i < 64 → rw i ≤ 255) (k : Nat) (hk3 : k < 3) (sz : Nat) : Met l yX1_sumSeen wsX1_sumSeen rmX1_sumSeen (iPre G N ad C sz [.ref (ad fb), .int (nI k)]) (va_Qi (fun (r : Int32) (u : Nat → va_E) => r = nI (ssN rw k 64) ∧ u = C) (iB G N ad) (iA N ad sz)) 0 0 (iA N ad sz) := by
  refine Met.ofW (cc := cX1_sumSeen) (maxL := 5) (ret := (some .int)) (by decide) rfl ?_
  intro p e s m args below meth c s₁ B hml hv
  obtain ⟨rfl, hsz, hP, hK, hD0⟩ := hv
  have hx := B.exec
  have hb := B.bytes
  have hr := B.returns
  have hts := atoms_spec (ws := wsX1_sumSeen) B.pre
  have hown : s.vm.findClass RX1 = some m.cls := findClass_of_methodNamed B.named
  have hlocks := B.notSynchronized
  subst hsz
  have hD := wl_self hD0 s.heap.size
  have hA : ∀ q : Nat, s.heap.size ≤ q → iA N ad s.heap.size q := fun q h => Or.inr h
  have hS : va_S (iA N ad s.heap.size) s.heap s.heap [] := va_S.rf
  have hP : va_P G.1 vwB (wl N ad C) s.heap := hP
  have hl := lv_entry ([.ref (ad fb), .int (nI k)]) (n := 5) (Nat.le_of_ble_eq_true rfl)
  rw [lg_entry_eq]
  generalize (lg_sl ([.ref (ad fb), .int (nI k)]) ++ List.replicate (5 - (lg_sl ([.ref (ad fb), .int (nI k)])).length) Slot.unset).toArray = ls at hl ⊢
  have hl : lv_has ls 5 [(0, .ref (ad fb)), (1, .int (nI k))] := hl
  refine lv_iconst (v := nI 0) hx hb dX1_sumSeen_0 (by decide) ?_
  refine lv_istore_n (lv' := [(2, .int (nI 0)), (0, .ref (ad fb)), (1, .int (nI k))]) hx hb dX1_sumSeen_1 rfl hl (by decide) rfl (fun ls hl => ?_)
  refine lv_iconst (v := nI 0) hx hb dX1_sumSeen_2 (by decide) ?_
  refine lv_istore_n (lv' := [(3, .int (nI 0)), (2, .int (nI 0)), (0, .ref (ad fb)), (1, .int (nI k))]) hx hb dX1_sumSeen_3 rfl hl (by decide) rfl (fun ls hl => ?_)
  refine lX1_sumSeen_y hx hb hml hr hts hown hK hA (Nat.le_refl _) (Nat.le_refl _) lfb lfr hfb hfr hr9 hk3 (fun H locs ls hP hD hS hl => ?_) 9 0 _ _ ls (by omega) (by omega) hP hD hS (lv_sub hl [1, 0, 2, 3] rfl)
  refine lv_iload_n hx hb dX1_sumSeen_56 rfl (lv_at hl 0 rfl) ?_
  exact W.iret (v := (nI (ssN rw k 64))) hx hb hr (fun t ht hW => ⟨⟨_, _, rfl, ⟨rfl, rfl⟩, iB_of ht hP⟩, hS.F ht⟩) hS.2.2 dX1_sumSeen_57
abbrev rmX1_whiteOf : Room := { frames := 2, cells := 0, slots := 0, locals := 45 }
set_option maxRecDepth 20000 in
theorem il_X1_whiteOf_48 : (Cond.methodLink RX1 48 Lib.Math.min.name) ∈ wsX1_whiteOf := by decide +kernel
set_option maxRecDepth 20000 in
theorem il_X1_whiteOf_st_min : (Cond.static Lib.Math.min.name) ∈ wsX1_whiteOf := by decide +kernel
set_option maxRecDepth 20000 in
theorem il_X1_whiteOf_ini_Math : (Cond.initialized "java/lang/Math") ∈ wsX1_whiteOf := by decide +kernel
set_option maxRecDepth 20000 in
theorem il_X1_whiteOf_code_min : (Cond.code Lib.Math.min.name Lib.Math.min.code 2 (some .int)) ∈ wsX1_whiteOf := by decide +kernel
set_option maxRecDepth 20000 in
theorem il_X1_whiteOf_51 : (Cond.methodLink RX1 51 Lib.Math.max.name) ∈ wsX1_whiteOf := by decide +kernel
set_option maxRecDepth 20000 in
theorem il_X1_whiteOf_st_max : (Cond.static Lib.Math.max.name) ∈ wsX1_whiteOf := by decide +kernel
set_option maxRecDepth 20000 in
theorem il_X1_whiteOf_code_max : (Cond.code Lib.Math.max.name Lib.Math.max.code 2 (some .int)) ∈ wsX1_whiteOf := by decide +kernel
set_option maxHeartbeats 4000000 in
set_option maxRecDepth 100000 in
theorem kX1_whiteOf (l : Launch) (G : iG) (N : Nat) (ad : Nat → Nat) (C : Nat → va_E) {fb fr fe : Nat} {t0 g0 q0 : Int32} {rw : Nat → Nat} (lfb : fb < N) (lfr : fr < N) (hfb : C fb = ob 1 [.ref (ad fr), .ref (ad fe), .int t0, .int g0, .int q0]) (hfr : C fr = ia G 64 (fun i => nI (rw i))) (hr9 : ∀ i, i < 64 → rw i ≤ 255) (k : Nat) (hk3 : k < 3) (sz : Nat) : Met l yX1_whiteOf wsX1_whiteOf rmX1_whiteOf (iPre G N ad C sz [.ref (ad fb), .int (nI k)]) (va_Qi (fun (r : Int32) (u : Nat → va_E) => r = nI (whN rw k) ∧ u = C) (iB G N ad) (iA N ad sz)) 0 0 (iA N ad sz) := by
  refine Met.ofW (cc := cX1_whiteOf) (maxL := 3) (ret := (some .int)) (by decide) rfl ?_
  intro p e s m args below meth c s₁ B hml hv
  obtain ⟨rfl, hsz, hP, hK, hD0⟩ := hv
  have hx := B.exec
  have hb := B.bytes
  have hr := B.returns
  have hts := atoms_spec (ws := wsX1_whiteOf) B.pre
  have hown : s.vm.findClass RX1 = some m.cls := findClass_of_methodNamed B.named
  have hlocks := B.notSynchronized
  subst hsz
  have hD := wl_self hD0 s.heap.size
  have hA : ∀ q : Nat, s.heap.size ≤ q → iA N ad s.heap.size q := fun q h => Or.inr h
  have hS : va_S (iA N ad s.heap.size) s.heap s.heap [] := va_S.rf
  have hP : va_P G.1 vwB (wl N ad C) s.heap := hP
  have hl := lv_entry ([.ref (ad fb), .int (nI k)]) (n := 3) (Nat.le_of_ble_eq_true rfl)
  rw [lg_entry_eq]
  generalize (lg_sl ([.ref (ad fb), .int (nI k)]) ++ List.replicate (3 - (lg_sl ([.ref (ad fb), .int (nI k)])).length) Slot.unset).toArray = ls at hl ⊢
  have hl : lv_has ls 3 [(0, .ref (ad fb)), (1, .int (nI k))] := hl
  have b0 := ssN_le rw hr9 k 64 (by omega)
  have b1 := ssN_le rw hr9 1 64 (by omega)
  refine lv_aload_n hx hb dX1_whiteOf_0 rfl (lv_at hl 0 rfl) ?_
  refine lv_iload_n hx hb dX1_whiteOf_1 rfl (lv_at hl 1 rfl) ?_
  refine iw_i (va_runV (As := [.int (nI k)]) (rest := []) ⟨hx, hb, hml, hown, hts⟩ (kX1_sumSeen l G N ad C lfb lfr hfb hfr hr9 k (by omega) _) (cwV 1 hts gX1_whiteOf_X1_sumSeen rfl rfl rfl (by decide +kernel) ⟨Nat.le_of_ble_eq_true rfl, Nat.le_of_ble_eq_true rfl⟩) (iPV hK hP hD lfb (hfb) rfl [.int (nI k)]) rfl rfl hl.1 rfl (lv_room (Nat.le_of_ble_eq_true rfl)) dX1_whiteOf_2 ⟨Nat.le_of_ble_eq_true rfl, Nat.le_of_ble_eq_true rfl⟩) hD hS hA (fun r8 u8 H locs hw8 hP hD hS => ?_)
  obtain ⟨hr8, hu8⟩ := hw8
  refine lv_asI hr8 ?_
  rw [hu8] at hP hD
  refine lv_istore_n (lv' := [(2, .int (nI (ssN rw k 64))), (0, .ref (ad fb)), (1, .int (nI k))]) hx hb dX1_whiteOf_5 rfl hl (by decide) rfl (fun ls hl => ?_)
  refine lv_iload_n hx hb dX1_whiteOf_6 rfl (lv_at hl 0 rfl) ?_
  refine lv_if_ne (tgt := 13) hx hb dX1_whiteOf_7 (by decide) (fun c7 => ?_) (fun c7 => ?_)
  · have e8 : ssN rw k 64 ≠ 0 := fun e => c7 (by rw [e]; exact nI_0)
    refine lv_iconst (v := nI 1) hx hb dX1_whiteOf_13 (by decide) ?_
    refine lv_bipush (v := nI 16) hx hb dX1_whiteOf_14 (by decide) ?_
    refine lv_iconst (v := nI 4) hx hb dX1_whiteOf_16 (by decide) ?_
    refine lv_aload_n hx hb dX1_whiteOf_17 rfl (lv_at hl 1 rfl) ?_
    refine lv_iconst (v := nI 1) hx hb dX1_whiteOf_18 (by decide) ?_
    refine iw_i (va_runV (As := [.int (nI 1)]) (rest := [.int (nI 4), .int (nI 16), .int (nI 1)]) ⟨hx, hb, hml, hown, hts⟩ (kX1_sumSeen l G N ad C lfb lfr hfb hfr hr9 1 (by omega) _) (cwV 1 hts gX1_whiteOf_X1_sumSeen rfl rfl rfl (by decide +kernel) ⟨Nat.le_of_ble_eq_true rfl, Nat.le_of_ble_eq_true rfl⟩) (iPV hK hP hD lfb (hfb) rfl [.int (nI 1)]) rfl rfl hl.1 rfl (lv_room (Nat.le_of_ble_eq_true rfl)) dX1_whiteOf_19 ⟨Nat.le_of_ble_eq_true rfl, Nat.le_of_ble_eq_true rfl⟩) hD hS hA (fun r8 u8 H locs hw8 hP hD hS => ?_)
    obtain ⟨hr8, hu8⟩ := hw8
    refine lv_asI hr8 ?_
    rw [hu8] at hP hD
    refine lv_imul hx hb dX1_whiteOf_22 ?_
    refine lv_asI (y := nI (4 * (ssN rw 1 64))) (pk_mul _ _) ?_
    refine lv_iconst (v := nI 2) hx hb dX1_whiteOf_23 (by decide) ?_
    refine lv_iload_n hx hb dX1_whiteOf_24 rfl (lv_at hl 0 rfl) ?_
    refine lv_imul hx hb dX1_whiteOf_25 ?_
    refine lv_asI (y := nI (2 * (ssN rw k 64))) (pk_mul _ _) ?_
    refine lv_idiv hx hb dX1_whiteOf_26 (fun e => by have := (nI_eq (by omega) (by omega)).mp (e.trans nI_0.symm); omega) ?_
    refine lv_asI (y := nI ((4 * (ssN rw 1 64)) / (2 * (ssN rw k 64)))) (pk_div (by omega) (by omega) (by omega)) ?_
    refine va_mmin hx hb (hml.trans hl.1.symm) hown (hts _ il_X1_whiteOf_48) (hts _ il_X1_whiteOf_st_min) (hts _ il_X1_whiteOf_ini_Math) (hts _ il_X1_whiteOf_code_min) (Nat.le_of_ble_eq_true rfl) (Nat.le_of_ble_eq_true rfl) (Nat.le_of_ble_eq_true rfl) (Nat.le_of_ble_eq_true rfl) dX1_whiteOf_27 ?_
    refine va_mmax hx hb (hml.trans hl.1.symm) hown (hts _ il_X1_whiteOf_51) (hts _ il_X1_whiteOf_st_max) (hts _ il_X1_whiteOf_ini_Math) (hts _ il_X1_whiteOf_code_max) (Nat.le_of_ble_eq_true rfl) (Nat.le_of_ble_eq_true rfl) (Nat.le_of_ble_eq_true rfl) (Nat.le_of_ble_eq_true rfl) dX1_whiteOf_30 ?_
    exact W.iret (v := (if (nI 1) < (if (nI ((4 * (ssN rw 1 64)) / (2 * (ssN rw k 64)))) < (nI 16) then (nI ((4 * (ssN rw 1 64)) / (2 * (ssN rw k 64)))) else (nI 16)) then (if (nI ((4 * (ssN rw 1 64)) / (2 * (ssN rw k 64)))) < (nI 16) then (nI ((4 * (ssN rw 1 64)) / (2 * (ssN rw k 64)))) else (nI 16)) else (nI 1))) hx hb hr (fun t ht hW => ⟨⟨_, _, rfl, ⟨by unfold whN; first | rw [if_pos e8] | (rw [if_neg e8]; exact wh_eq _ (by have := Nat.div_le_self (4 * ssN rw 1 64) (2 * ssN rw k 64); omega)), rfl⟩, iB_of ht hP⟩, hS.F ht⟩) hS.2.2 dX1_whiteOf_33
  · have e8 : ssN rw k 64 = 0 := (nI_eq (by omega) (by omega)).mp (c7.trans nI_0.symm)
    refine lv_bipush (v := nI 16) hx hb dX1_whiteOf_10 (by decide) ?_
    exact W.iret (v := (nI 16)) hx hb hr (fun t ht hW => ⟨⟨_, _, rfl, ⟨by unfold whN; first | rw [if_pos e8] | (rw [if_neg e8]; exact wh_eq _ (by have := Nat.div_le_self (4 * ssN rw 1 64) (2 * ssN rw k 64); omega)), rfl⟩, iB_of ht hP⟩, hS.F ht⟩) hS.2.2 dX1_whiteOf_12
abbrev rmX1_sharpness : Room := { frames := 1, cells := 0, slots := 0, locals := 21 }
set_option maxRecDepth 20000 in
theorem il_X1_sharpness_iniX6 : (Cond.initialized RX6) ∈ wsX1_sharpness := by decide +kernel
set_option maxRecDepth 20000 in
theorem il_X1_sharpness_st_X6_colourSeen : (Cond.static yX6_colourSeen) ∈ wsX1_sharpness := by decide +kernel
set_option maxRecDepth 20000 in
theorem iu_X1_sharpness_1 : ∀ w ∈ u_ws RX1 TX1 5, w ∈ wsX1_sharpness := by decide +kernel
set_option maxRecDepth 20000 in
theorem il_X1_sharpness_9 : (Cond.fieldLink RX1 9 "BayerGate$Frame" "rawRow" "[I") ∈ wsX1_sharpness := by decide +kernel
set_option maxRecDepth 20000 in
theorem il_X1_sharpness_st_X6_placeOf : (Cond.static yX6_placeOf) ∈ wsX1_sharpness := by decide +kernel
set_option maxRecDepth 20000 in
theorem il_X1_sharpness_39 : (Cond.methodLink RX1 39 Lib.Math.abs.name) ∈ wsX1_sharpness := by decide +kernel
set_option maxRecDepth 20000 in
theorem il_X1_sharpness_st_abs : (Cond.static Lib.Math.abs.name) ∈ wsX1_sharpness := by decide +kernel
set_option maxRecDepth 20000 in
theorem il_X1_sharpness_ini_Math : (Cond.initialized "java/lang/Math") ∈ wsX1_sharpness := by decide +kernel
set_option maxRecDepth 20000 in
theorem il_X1_sharpness_code_abs : (Cond.code Lib.Math.abs.name Lib.Math.abs.code 1 (some .int)) ∈ wsX1_sharpness := by decide +kernel
set_option maxHeartbeats 4000000 in
set_option maxRecDepth 100000 in
theorem lX1_sharpness_x {p : Program} {l : Launch} {e : Env} {s : State} {m : MethodId} {args : Array Value} {below : List Frame} {meth : Method} {c : Code} {Q : State → Prop} {A : Nat → Prop} {H0 : Heap} {cells slots : Nat} (hx : p.tables.exec = Jvm.exec) (hb : c.code = cX1_sharpness) (hml : c.maxLocals = 4) (hr : meth.sig.returnType = (some .int)) (hts : ∀ w ∈ wsX1_sharpness, w.before args s = true) (hown : s.vm.findClass RX1 = some m.cls) {G : iG} (hK : KB G s) (hA : ∀ q, H0.size ≤ q → A q) {N : Nat} {ad : Nat → Nat} {C : Nat → va_E}  (hcc : cells ≤ rmX1_sharpness.cells) (hcs : slots ≤ rmX1_sharpness.slots) {fb fr fe : Nat} {t0 g0 q0 : Int32} {rw : Nat → Nat} (lfb : fb < N) (lfr : fr < N) (hfb : C fb = ob 1 [.ref (ad fr), .ref (ad fe), .int t0, .int g0, .int q0]) (hfr : C fr = ia G 64 (fun i => nI (rw i))) {y : Nat} {a : Int32} (hy8 : y < 7) (kx : ∀ (H : Heap) (locs : List Loc) (ls : Array Slot), va_P G.1 vwB (wl N ad C) H → va_D A (wl N ad C) → va_S A H0 H locs → lv_has ls 4 [(1, .int (shX rw y a 7)), (2, .int (nI y)), (0, .ref (ad fb))] → W p l e rmX1_sharpness s m args below meth c H locs cells slots Q (F0 m 64 ls [])) : ∀ (d : Nat) (x : Nat) (H : Heap) (locs : List Loc) (ls : Array Slot), 7 - x < d → x ≤ 7 → va_P G.1 vwB (wl N ad C) H → va_D A (wl N ad C) → va_S A H0 H locs → lv_has ls 4 [(1, .int (shX rw y a x)), (3, .int (nI x)), (2, .int (nI y)), (0, .ref (ad fb))] → W p l e rmX1_sharpness s m args below meth c H locs cells slots Q (F0 m 12 ls []) := by
  intro d
  induction d with
  | zero => intro x H locs ls hd; exact absurd hd (Nat.not_lt_zero _)
  | succ d ih =>
    intro x H locs ls hd h2 hP hD hS hl
    refine lv_iload_n hx hb dX1_sharpness_12 rfl (lv_at hl 1 rfl) ?_
    refine lv_bipush (v := nI 7) hx hb dX1_sharpness_13 (by decide) ?_
    refine lv_icmp_ge (tgt := 64) hx hb dX1_sharpness_15 (by decide) (fun c15 => ?_) (fun c15 => ?_)
    · have h5 : x = 7 := by have := (nI_leI (by omega) (by omega)).mp c15; omega
      subst h5
      exact kx H locs ls hP hD hS (lv_sub hl [0, 2, 3] rfl)
    · have h4 : x < 7 := by have := mt (nI_leI (by omega) (by omega)).mpr c15; omega
      refine lv_iload_n hx hb dX1_sharpness_18 rfl (lv_at hl 1 rfl) ?_
      refine lv_iload_n hx hb dX1_sharpness_19 rfl (lv_at hl 2 rfl) ?_
      refine iw_pi (va_runSN (As := [.int (nI x), .int (nI y)]) (rest := []) ⟨hx, hb, hml, hown, hts⟩ (kX6_colourSeen l x y (by omega) (by omega)) ⟨va_cnB (host := RX6) 2 hts gX1_sharpness_X6_colourSeen_n32 rfl rfl rfl (nw_RX1_32 hK.2) (hts _ il_X1_sharpness_iniX6) (by decide +kernel) ⟨Nat.le_of_ble_eq_true rfl, Nat.le_of_ble_eq_true rfl⟩, (hts _ il_X1_sharpness_st_X6_colourSeen), trivial⟩ ⟨fun a U g mk q => q, fun U hU hW => ⟨rfl, trivial⟩⟩ rfl rfl hl.1 rfl (lv_room (Nat.le_of_ble_eq_true rfl)) dX1_sharpness_20 ⟨hcc, hcs⟩) hP hS (fun r8 u8 H locs hw8 hP hS => ?_)
      refine lv_asI hw8 ?_
      refine lv_iconst (v := nI 1) hx hb dX1_sharpness_23 (by decide) ?_
      refine lv_icmp_ne (tgt := 58) hx hb dX1_sharpness_24 (by decide) (fun c24 => ?_) (fun c24 => ?_)
      · have e8 : ¬ colN x y = 1 := fun e => c24 (by rw [e])
        refine lv_iinc (v := nI (x + 1)) (lv' := [(3, .int (nI (x + 1))), (1, .int (shX rw y a x)), (2, .int (nI y)), (0, .ref (ad fb))]) hx hb dX1_sharpness_58 hl (k := 1) rfl (iinc_nat _ 1) (by decide) rfl (fun ls hl => ?_)
        refine lv_goto (tgt := 12) hx hb dX1_sharpness_61 (by decide) ?_
        have e9 : shX rw y a (x + 1) = shX rw y a x := by simp only [shX]; rw [if_neg e8]
        exact ih (x + 1) H locs ls (by omega) (by omega) hP hD hS (by rw [e9]; exact (lv_sub hl [1, 0, 2, 3] rfl))
      · have e8 : colN x y = 1 := (nI_eq (by have := colN_lt x y; omega) (by omega)).mp c24
        refine lv_iload_n hx hb dX1_sharpness_27 rfl (lv_at hl 0 rfl) ?_
        refine lv_aload_n hx hb dX1_sharpness_28 rfl (lv_at hl 3 rfl) ?_
        refine iw_get hx hb hts iu_X1_sharpness_1 hown hK hP lfb (hfb) rfl 0 (by decide) (hts _ il_X1_sharpness_9) (fun _ h9 => h9) rfl dX1_sharpness_29 ?_
        refine lv_iload_n hx hb dX1_sharpness_32 rfl (lv_at hl 1 rfl) ?_
        refine lv_iload_n hx hb dX1_sharpness_33 rfl (lv_at hl 2 rfl) ?_
        refine iw_pi (va_runSN (As := [.int (nI x), .int (nI y)]) (rest := [.ref (ad fr), .int (shX rw y a x)]) ⟨hx, hb, hml, hown, hts⟩ (kX6_placeOf l (x) (y)) ⟨va_cnB (host := RX6) 2 hts gX1_sharpness_X6_placeOf_n36 rfl rfl rfl (nw_RX1_36 hK.2) (hts _ il_X1_sharpness_iniX6) (by decide +kernel) ⟨Nat.le_of_ble_eq_true rfl, Nat.le_of_ble_eq_true rfl⟩, (hts _ il_X1_sharpness_st_X6_placeOf), trivial⟩ ⟨fun a U g mk q => q, fun U hU hW => ⟨rfl, trivial⟩⟩ rfl rfl hl.1 rfl (lv_room (Nat.le_of_ble_eq_true rfl)) dX1_sharpness_34 ⟨hcc, hcs⟩) hP hS (fun r8 u8 H locs hw8 hP hS => ?_)
        refine lv_asI hw8 ?_
        refine iw_iald (v := nI (rw (8 * y + x))) hx hb hK hP lfr (hfr) (vp_in_nI (show 8 * y + x < 64 by omega) (by omega)) (congrArg (fun i => nI (rw i)) (nI_clamp (by omega))) dX1_sharpness_37 ?_
        refine lv_aload_n hx hb dX1_sharpness_38 rfl (lv_at hl 3 rfl) ?_
        refine iw_get hx hb hts iu_X1_sharpness_1 hown hK hP lfb (hfb) rfl 0 (by decide) (hts _ il_X1_sharpness_9) (fun _ h9 => h9) rfl dX1_sharpness_39 ?_
        refine lv_iload_n hx hb dX1_sharpness_42 rfl (lv_at hl 1 rfl) ?_
        refine lv_iconst (v := nI 1) hx hb dX1_sharpness_43 (by decide) ?_
        refine lv_iadd hx hb dX1_sharpness_44 ?_
        refine lv_asI (y := nI (x + 1)) (nI_add _ _) ?_
        refine lv_iload_n hx hb dX1_sharpness_45 rfl (lv_at hl 2 rfl) ?_
        refine lv_iconst (v := nI 1) hx hb dX1_sharpness_46 (by decide) ?_
        refine lv_iadd hx hb dX1_sharpness_47 ?_
        refine lv_asI (y := nI (y + 1)) (nI_add _ _) ?_
        refine iw_pi (va_runSN (As := [.int (nI (x + 1)), .int (nI (y + 1))]) (rest := [.ref (ad fr), .int (nI (rw (8 * y + x))), .int (shX rw y a x)]) ⟨hx, hb, hml, hown, hts⟩ (kX6_placeOf l (x + 1) (y + 1)) ⟨va_cnB (host := RX6) 2 hts gX1_sharpness_X6_placeOf_n36 rfl rfl rfl (nw_RX1_36 hK.2) (hts _ il_X1_sharpness_iniX6) (by decide +kernel) ⟨Nat.le_of_ble_eq_true rfl, Nat.le_of_ble_eq_true rfl⟩, (hts _ il_X1_sharpness_st_X6_placeOf), trivial⟩ ⟨fun a U g mk q => q, fun U hU hW => ⟨rfl, trivial⟩⟩ rfl rfl hl.1 rfl (lv_room (Nat.le_of_ble_eq_true rfl)) dX1_sharpness_48 ⟨hcc, hcs⟩) hP hS (fun r8 u8 H locs hw8 hP hS => ?_)
        refine lv_asI hw8 ?_
        refine iw_iald (v := nI (rw (8 * (y + 1) + (x + 1)))) hx hb hK hP lfr (hfr) (vp_in_nI (show 8 * (y + 1) + (x + 1) < 64 by omega) (by omega)) (congrArg (fun i => nI (rw i)) (nI_clamp (by omega))) dX1_sharpness_51 ?_
        refine lv_isub hx hb dX1_sharpness_52 ?_
        refine va_mabs hx hb (hml.trans hl.1.symm) hown (hts _ il_X1_sharpness_39) (hts _ il_X1_sharpness_st_abs) (hts _ il_X1_sharpness_ini_Math) (hts _ il_X1_sharpness_code_abs) (Nat.le_of_ble_eq_true rfl) (Nat.le_of_ble_eq_true rfl) hcc hcs dX1_sharpness_53 ?_
        refine lv_iadd hx hb dX1_sharpness_56 ?_
        refine lv_istore_n (lv' := [(1, .int ((shX rw y a x) + (if 0 ≤ ((nI (rw (8 * y + x))) - (nI (rw (8 * (y + 1) + (x + 1))))) then ((nI (rw (8 * y + x))) - (nI (rw (8 * (y + 1) + (x + 1))))) else 0 - ((nI (rw (8 * y + x))) - (nI (rw (8 * (y + 1) + (x + 1)))))))), (3, .int (nI x)), (2, .int (nI y)), (0, .ref (ad fb))]) hx hb dX1_sharpness_57 rfl hl (by decide) rfl (fun ls hl => ?_)
        refine lv_iinc (v := nI (x + 1)) (lv' := [(3, .int (nI (x + 1))), (1, .int ((shX rw y a x) + (if 0 ≤ ((nI (rw (8 * y + x))) - (nI (rw (8 * (y + 1) + (x + 1))))) then ((nI (rw (8 * y + x))) - (nI (rw (8 * (y + 1) + (x + 1))))) else 0 - ((nI (rw (8 * y + x))) - (nI (rw (8 * (y + 1) + (x + 1)))))))), (2, .int (nI y)), (0, .ref (ad fb))]) hx hb dX1_sharpness_58 hl (k := 1) rfl (iinc_nat _ 1) (by decide) rfl (fun ls hl => ?_)
        refine lv_goto (tgt := 12) hx hb dX1_sharpness_61 (by decide) ?_
        have e9 : shX rw y a (x + 1) = (shX rw y a x) + (if 0 ≤ ((nI (rw (8 * y + x))) - (nI (rw (8 * (y + 1) + (x + 1))))) then ((nI (rw (8 * y + x))) - (nI (rw (8 * (y + 1) + (x + 1))))) else 0 - ((nI (rw (8 * y + x))) - (nI (rw (8 * (y + 1) + (x + 1)))))) := by simp only [shX]; rw [if_pos e8]; rfl
        exact ih (x + 1) H locs ls (by omega) (by omega) hP hD hS (by rw [e9]; exact (lv_sub hl [1, 0, 2, 3] rfl))
set_option maxHeartbeats 4000000 in
set_option maxRecDepth 100000 in
theorem lX1_sharpness_y {p : Program} {l : Launch} {e : Env} {s : State} {m : MethodId} {args : Array Value} {below : List Frame} {meth : Method} {c : Code} {Q : State → Prop} {A : Nat → Prop} {H0 : Heap} {cells slots : Nat} (hx : p.tables.exec = Jvm.exec) (hb : c.code = cX1_sharpness) (hml : c.maxLocals = 4) (hr : meth.sig.returnType = (some .int)) (hts : ∀ w ∈ wsX1_sharpness, w.before args s = true) (hown : s.vm.findClass RX1 = some m.cls) {G : iG} (hK : KB G s) (hA : ∀ q, H0.size ≤ q → A q) {N : Nat} {ad : Nat → Nat} {C : Nat → va_E}  (hcc : cells ≤ rmX1_sharpness.cells) (hcs : slots ≤ rmX1_sharpness.slots) {fb fr fe : Nat} {t0 g0 q0 : Int32} {rw : Nat → Nat} (lfb : fb < N) (lfr : fr < N) (hfb : C fb = ob 1 [.ref (ad fr), .ref (ad fe), .int t0, .int g0, .int q0]) (hfr : C fr = ia G 64 (fun i => nI (rw i))) (kx : ∀ (H : Heap) (locs : List Loc) (ls : Array Slot), va_P G.1 vwB (wl N ad C) H → va_D A (wl N ad C) → va_S A H0 H locs → lv_has ls 4 [(1, .int (shY rw 7))] → W p l e rmX1_sharpness s m args below meth c H locs cells slots Q (F0 m 70 ls [])) : ∀ (d : Nat) (y : Nat) (H : Heap) (locs : List Loc) (ls : Array Slot), 7 - y < d → y ≤ 7 → va_P G.1 vwB (wl N ad C) H → va_D A (wl N ad C) → va_S A H0 H locs → lv_has ls 4 [(1, .int (shY rw y)), (2, .int (nI y)), (0, .ref (ad fb))] → W p l e rmX1_sharpness s m args below meth c H locs cells slots Q (F0 m 4 ls []) := by
  intro d
  induction d with
  | zero => intro y H locs ls hd; exact absurd hd (Nat.not_lt_zero _)
  | succ d ih =>
    intro y H locs ls hd h2 hP hD hS hl
    refine lv_iload_n hx hb dX1_sharpness_4 rfl (lv_at hl 1 rfl) ?_
    refine lv_bipush (v := nI 7) hx hb dX1_sharpness_5 (by decide) ?_
    refine lv_icmp_ge (tgt := 70) hx hb dX1_sharpness_7 (by decide) (fun c7 => ?_) (fun c7 => ?_)
    · have h5 : y = 7 := by have := (nI_leI (by omega) (by omega)).mp c7; omega
      subst h5
      exact kx H locs ls hP hD hS (lv_sub hl [0] rfl)
    · have h4 : y < 7 := by have := mt (nI_leI (by omega) (by omega)).mpr c7; omega
      refine lv_iconst (v := nI 0) hx hb dX1_sharpness_10 (by decide) ?_
      refine lv_istore_n (lv' := [(3, .int (nI 0)), (1, .int (shY rw y)), (2, .int (nI y)), (0, .ref (ad fb))]) hx hb dX1_sharpness_11 rfl hl (by decide) rfl (fun ls hl => ?_)
      refine lX1_sharpness_x hx hb hml hr hts hown hK hA hcc hcs lfb lfr hfb hfr h4 (fun H locs ls hP hD hS hl => ?_) 8 0 H locs ls (by omega) (by omega) hP hD hS (lv_sub hl [1, 0, 2, 3] rfl)
      refine lv_iinc (v := nI (y + 1)) (lv' := [(2, .int (nI (y + 1))), (1, .int (shX rw y (shY rw y) 7)), (0, .ref (ad fb))]) hx hb dX1_sharpness_64 hl (k := 1) rfl (iinc_nat _ 1) (by decide) rfl (fun ls hl => ?_)
      refine lv_goto (tgt := 4) hx hb dX1_sharpness_67 (by decide) ?_
      exact ih (y + 1) H locs ls (by omega) (by omega) hP hD hS (lv_sub hl [1, 0, 2] rfl)
set_option maxHeartbeats 4000000 in
set_option maxRecDepth 100000 in
theorem kX1_sharpness (l : Launch) (G : iG) (N : Nat) (ad : Nat → Nat) (C : Nat → va_E) {fb fr fe : Nat} {t0 g0 q0 : Int32} {rw : Nat → Nat} (lfb : fb < N) (lfr : fr < N) (hfb : C fb = ob 1 [.ref (ad fr), .ref (ad fe), .int t0, .int g0, .int q0]) (hfr : C fr = ia G 64 (fun i => nI (rw i))) (sz : Nat) : Met l yX1_sharpness wsX1_sharpness rmX1_sharpness (iPre G N ad C sz [.ref (ad fb)]) (va_Qi (fun (r : Int32) (u : Nat → va_E) => r = shY rw 7 ∧ u = C) (iB G N ad) (iA N ad sz)) 0 0 (iA N ad sz) := by
  refine Met.ofW (cc := cX1_sharpness) (maxL := 4) (ret := (some .int)) (by decide) rfl ?_
  intro p e s m args below meth c s₁ B hml hv
  obtain ⟨rfl, hsz, hP, hK, hD0⟩ := hv
  have hx := B.exec
  have hb := B.bytes
  have hr := B.returns
  have hts := atoms_spec (ws := wsX1_sharpness) B.pre
  have hown : s.vm.findClass RX1 = some m.cls := findClass_of_methodNamed B.named
  have hlocks := B.notSynchronized
  subst hsz
  have hD := wl_self hD0 s.heap.size
  have hA : ∀ q : Nat, s.heap.size ≤ q → iA N ad s.heap.size q := fun q h => Or.inr h
  have hS : va_S (iA N ad s.heap.size) s.heap s.heap [] := va_S.rf
  have hP : va_P G.1 vwB (wl N ad C) s.heap := hP
  have hl := lv_entry ([.ref (ad fb)]) (n := 4) (Nat.le_of_ble_eq_true rfl)
  rw [lg_entry_eq]
  generalize (lg_sl ([.ref (ad fb)]) ++ List.replicate (4 - (lg_sl ([.ref (ad fb)])).length) Slot.unset).toArray = ls at hl ⊢
  have hl : lv_has ls 4 [(0, .ref (ad fb))] := hl
  refine lv_iconst (v := nI 0) hx hb dX1_sharpness_0 (by decide) ?_
  refine lv_istore_n (lv' := [(1, .int (nI 0)), (0, .ref (ad fb))]) hx hb dX1_sharpness_1 rfl hl (by decide) rfl (fun ls hl => ?_)
  refine lv_iconst (v := nI 0) hx hb dX1_sharpness_2 (by decide) ?_
  refine lv_istore_n (lv' := [(2, .int (nI 0)), (1, .int (nI 0)), (0, .ref (ad fb))]) hx hb dX1_sharpness_3 rfl hl (by decide) rfl (fun ls hl => ?_)
  refine lX1_sharpness_y hx hb hml hr hts hown hK hA (Nat.le_refl _) (Nat.le_refl _) lfb lfr hfb hfr (fun H locs ls hP hD hS hl => ?_) 8 0 _ _ ls (by omega) (by omega) hP hD hS (lv_sub hl [1, 0, 2] rfl)
  refine lv_iload_n hx hb dX1_sharpness_70 rfl (lv_at hl 0 rfl) ?_
  exact W.iret (v := (shY rw 7)) hx hb hr (fun t ht hW => ⟨⟨_, _, rfl, ⟨rfl, rfl⟩, iB_of ht hP⟩, hS.F ht⟩) hS.2.2 dX1_sharpness_71
abbrev rmX1_meanOfZone : Room := { frames := 1, cells := 0, slots := 0, locals := 21 }
set_option maxRecDepth 20000 in
theorem il_X1_meanOfZone_iniX6 : (Cond.initialized RX6) ∈ wsX1_meanOfZone := by decide +kernel
set_option maxRecDepth 20000 in
theorem il_X1_meanOfZone_st_X6_colourSeen : (Cond.static yX6_colourSeen) ∈ wsX1_meanOfZone := by decide +kernel
set_option maxRecDepth 20000 in
theorem iu_X1_meanOfZone_1 : ∀ w ∈ u_ws RX1 TX1 5, w ∈ wsX1_meanOfZone := by decide +kernel
set_option maxRecDepth 20000 in
theorem il_X1_meanOfZone_9 : (Cond.fieldLink RX1 9 "BayerGate$Frame" "rawRow" "[I") ∈ wsX1_meanOfZone := by decide +kernel
set_option maxRecDepth 20000 in
theorem il_X1_meanOfZone_st_X6_placeOf : (Cond.static yX6_placeOf) ∈ wsX1_meanOfZone := by decide +kernel
set_option maxHeartbeats 4000000 in
set_option maxRecDepth 100000 in
theorem lX1_meanOfZone_x {p : Program} {l : Launch} {e : Env} {s : State} {m : MethodId} {args : Array Value} {below : List Frame} {meth : Method} {c : Code} {Q : State → Prop} {A : Nat → Prop} {H0 : Heap} {cells slots : Nat} (hx : p.tables.exec = Jvm.exec) (hb : c.code = cX1_meanOfZone) (hml : c.maxLocals = 7) (hr : meth.sig.returnType = (some .double)) (hts : ∀ w ∈ wsX1_meanOfZone, w.before args s = true) (hown : s.vm.findClass RX1 = some m.cls) {G : iG} (hK : KB G s) (hA : ∀ q, H0.size ≤ q → A q) {N : Nat} {ad : Nat → Nat} {C : Nat → va_E}  (hcc : cells ≤ rmX1_meanOfZone.cells) (hcs : slots ≤ rmX1_meanOfZone.slots) {fb fr fe : Nat} {t0 g0 q0 : Int32} {rw : Nat → Nat} (lfb : fb < N) (lfr : fr < N) (hfb : C fb = ob 1 [.ref (ad fr), .ref (ad fe), .int t0, .int g0, .int q0]) (hfr : C fr = ia G 64 (fun i => nI (rw i))) (hr9 : ∀ i, i < 64 → rw i ≤ 255) {fx fy y a : Nat} (hfx : fx ≤ 4) (hfy : fy ≤ 4) (hy4 : y < 4) (kx : ∀ (H : Heap) (locs : List Loc) (ls : Array Slot), va_P G.1 vwB (wl N ad C) H → va_D A (wl N ad C) → va_S A H0 H locs → lv_has ls 7 [(4, .int (nI (zoX rw fx (fy + y) a 4))), (5, .int (nI (fy + y))), (0, .ref (ad fb)), (2, .int (nI fx)), (3, .int (nI fy))] → W p l e rmX1_meanOfZone s m args below meth c H locs cells slots Q (F0 m 71 ls [])) : ∀ (d : Nat) (x : Nat) (H : Heap) (locs : List Loc) (ls : Array Slot), 4 - x < d → x ≤ 4 → va_P G.1 vwB (wl N ad C) H → va_D A (wl N ad C) → va_S A H0 H locs → lv_has ls 7 [(4, .int (nI (zoX rw fx (fy + y) a x))), (6, .int (nI (fx + x))), (5, .int (nI (fy + y))), (0, .ref (ad fb)), (2, .int (nI fx)), (3, .int (nI fy))] → W p l e rmX1_meanOfZone s m args below meth c H locs cells slots Q (F0 m 29 ls []) := by
  intro d
  induction d with
  | zero => intro x H locs ls hd; exact absurd hd (Nat.not_lt_zero _)
  | succ d ih =>
    intro x H locs ls hd h2 hP hD hS hl
    refine lv_iload hx hb dX1_meanOfZone_29 (lv_at hl 1 rfl) ?_
    refine lv_iload_n hx hb dX1_meanOfZone_31 rfl (lv_at hl 4 rfl) ?_
    refine lv_iconst (v := nI 4) hx hb dX1_meanOfZone_32 (by decide) ?_
    refine lv_iadd hx hb dX1_meanOfZone_33 ?_
    refine lv_asI (y := nI (fx + 4)) (nI_add _ _) ?_
    refine lv_icmp_ge (tgt := 71) hx hb dX1_meanOfZone_34 (by decide) (fun c34 => ?_) (fun c34 => ?_)
    · have h5 : x = 4 := by have := (nI_leI (by omega) (by omega)).mp c34; omega
      subst h5
      exact kx H locs ls hP hD hS (lv_sub hl [0, 2, 3, 4, 5] rfl)
    · have h4 : x < 4 := by have := mt (nI_leI (by omega) (by omega)).mpr c34; omega
      refine lv_iload hx hb dX1_meanOfZone_37 (lv_at hl 1 rfl) ?_
      refine lv_iload hx hb dX1_meanOfZone_39 (lv_at hl 2 rfl) ?_
      refine iw_pi (va_runSN (As := [.int (nI (fx + x)), .int (nI (fy + y))]) (rest := []) ⟨hx, hb, hml, hown, hts⟩ (kX6_colourSeen l (fx + x) (fy + y) (by omega) (by omega)) ⟨va_cnB (host := RX6) 2 hts gX1_meanOfZone_X6_colourSeen_n32 rfl rfl rfl (nw_RX1_32 hK.2) (hts _ il_X1_meanOfZone_iniX6) (by decide +kernel) ⟨Nat.le_of_ble_eq_true rfl, Nat.le_of_ble_eq_true rfl⟩, (hts _ il_X1_meanOfZone_st_X6_colourSeen), trivial⟩ ⟨fun a U g mk q => q, fun U hU hW => ⟨rfl, trivial⟩⟩ rfl rfl hl.1 rfl (lv_room (Nat.le_of_ble_eq_true rfl)) dX1_meanOfZone_41 ⟨hcc, hcs⟩) hP hS (fun r8 u8 H locs hw8 hP hS => ?_)
      refine lv_asI hw8 ?_
      refine lv_iconst (v := nI 1) hx hb dX1_meanOfZone_44 (by decide) ?_
      refine lv_icmp_ne (tgt := 65) hx hb dX1_meanOfZone_45 (by decide) (fun c45 => ?_) (fun c45 => ?_)
      · have e8 : ¬ colN (fx + x) (fy + y) = 1 := fun e => c45 (by rw [e])
        refine lv_iinc (v := nI ((fx + x) + 1)) (lv' := [(6, .int (nI ((fx + x) + 1))), (4, .int (nI (zoX rw fx (fy + y) a x))), (5, .int (nI (fy + y))), (0, .ref (ad fb)), (2, .int (nI fx)), (3, .int (nI fy))]) hx hb dX1_meanOfZone_65 hl (k := 1) rfl (iinc_nat _ 1) (by decide) rfl (fun ls hl => ?_)
        refine lv_goto (tgt := 29) hx hb dX1_meanOfZone_68 (by decide) ?_
        have e9 : zoX rw fx (fy + y) a (x + 1) = zoX rw fx (fy + y) a x := by simp only [zoX]; simp [e8]
        exact ih (x + 1) H locs ls (by omega) (by omega) hP hD hS (by rw [e9]; exact (lv_sub hl [1, 0, 2, 3, 4, 5] rfl))
      · have e8 : colN (fx + x) (fy + y) = 1 := (nI_eq (by have := colN_lt (fx + x) (fy + y); omega) (by omega)).mp c45
        refine lv_iload hx hb dX1_meanOfZone_48 (lv_at hl 0 rfl) ?_
        refine lv_aload_n hx hb dX1_meanOfZone_50 rfl (lv_at hl 3 rfl) ?_
        refine iw_get hx hb hts iu_X1_meanOfZone_1 hown hK hP lfb (hfb) rfl 0 (by decide) (hts _ il_X1_meanOfZone_9) (fun _ h9 => h9) rfl dX1_meanOfZone_51 ?_
        refine lv_iload hx hb dX1_meanOfZone_54 (lv_at hl 1 rfl) ?_
        refine lv_iload hx hb dX1_meanOfZone_56 (lv_at hl 2 rfl) ?_
        refine iw_pi (va_runSN (As := [.int (nI (fx + x)), .int (nI (fy + y))]) (rest := [.ref (ad fr), .int (nI (zoX rw fx (fy + y) a x))]) ⟨hx, hb, hml, hown, hts⟩ (kX6_placeOf l (fx + x) (fy + y)) ⟨va_cnB (host := RX6) 2 hts gX1_meanOfZone_X6_placeOf_n36 rfl rfl rfl (nw_RX1_36 hK.2) (hts _ il_X1_meanOfZone_iniX6) (by decide +kernel) ⟨Nat.le_of_ble_eq_true rfl, Nat.le_of_ble_eq_true rfl⟩, (hts _ il_X1_meanOfZone_st_X6_placeOf), trivial⟩ ⟨fun a U g mk q => q, fun U hU hW => ⟨rfl, trivial⟩⟩ rfl rfl hl.1 rfl (lv_room (Nat.le_of_ble_eq_true rfl)) dX1_meanOfZone_58 ⟨hcc, hcs⟩) hP hS (fun r8 u8 H locs hw8 hP hS => ?_)
        refine lv_asI hw8 ?_
        refine iw_iald (v := nI (rw (8 * (fy + y) + (fx + x)))) hx hb hK hP lfr (hfr) (vp_in_nI (show 8 * (fy + y) + (fx + x) < 64 by omega) (by omega)) (congrArg (fun i => nI (rw i)) (nI_clamp (by omega))) dX1_meanOfZone_61 ?_
        refine lv_iadd hx hb dX1_meanOfZone_62 ?_
        refine lv_asI (y := nI ((zoX rw fx (fy + y) a x) + (rw (8 * (fy + y) + (fx + x))))) (nI_add _ _) ?_
        refine lv_istore (lv' := [(4, .int (nI ((zoX rw fx (fy + y) a x) + (rw (8 * (fy + y) + (fx + x)))))), (6, .int (nI (fx + x))), (5, .int (nI (fy + y))), (0, .ref (ad fb)), (2, .int (nI fx)), (3, .int (nI fy))]) hx hb dX1_meanOfZone_63 hl (by decide) rfl (fun ls hl => ?_)
        refine lv_iinc (v := nI ((fx + x) + 1)) (lv' := [(6, .int (nI ((fx + x) + 1))), (4, .int (nI ((zoX rw fx (fy + y) a x) + (rw (8 * (fy + y) + (fx + x)))))), (5, .int (nI (fy + y))), (0, .ref (ad fb)), (2, .int (nI fx)), (3, .int (nI fy))]) hx hb dX1_meanOfZone_65 hl (k := 1) rfl (iinc_nat _ 1) (by decide) rfl (fun ls hl => ?_)
        refine lv_goto (tgt := 29) hx hb dX1_meanOfZone_68 (by decide) ?_
        have e9 : zoX rw fx (fy + y) a (x + 1) = (zoX rw fx (fy + y) a x) + (rw (8 * (fy + y) + (fx + x))) := by simp only [zoX]; simp [e8]
        exact ih (x + 1) H locs ls (by omega) (by omega) hP hD hS (by rw [e9]; exact (lv_sub hl [1, 0, 2, 3, 4, 5] rfl))
set_option maxHeartbeats 4000000 in
set_option maxRecDepth 100000 in
theorem lX1_meanOfZone_y {p : Program} {l : Launch} {e : Env} {s : State} {m : MethodId} {args : Array Value} {below : List Frame} {meth : Method} {c : Code} {Q : State → Prop} {A : Nat → Prop} {H0 : Heap} {cells slots : Nat} (hx : p.tables.exec = Jvm.exec) (hb : c.code = cX1_meanOfZone) (hml : c.maxLocals = 7) (hr : meth.sig.returnType = (some .double)) (hts : ∀ w ∈ wsX1_meanOfZone, w.before args s = true) (hown : s.vm.findClass RX1 = some m.cls) {G : iG} (hK : KB G s) (hA : ∀ q, H0.size ≤ q → A q) {N : Nat} {ad : Nat → Nat} {C : Nat → va_E}  (hcc : cells ≤ rmX1_meanOfZone.cells) (hcs : slots ≤ rmX1_meanOfZone.slots) {fb fr fe : Nat} {t0 g0 q0 : Int32} {rw : Nat → Nat} (lfb : fb < N) (lfr : fr < N) (hfb : C fb = ob 1 [.ref (ad fr), .ref (ad fe), .int t0, .int g0, .int q0]) (hfr : C fr = ia G 64 (fun i => nI (rw i))) (hr9 : ∀ i, i < 64 → rw i ≤ 255) {fx fy : Nat} (hfx : fx ≤ 4) (hfy : fy ≤ 4) (kx : ∀ (H : Heap) (locs : List Loc) (ls : Array Slot), va_P G.1 vwB (wl N ad C) H → va_D A (wl N ad C) → va_S A H0 H locs → lv_has ls 7 [(4, .int (nI (zoY rw fx fy 4)))] → W p l e rmX1_meanOfZone s m args below meth c H locs cells slots Q (F0 m 77 ls [])) : ∀ (d : Nat) (y : Nat) (H : Heap) (locs : List Loc) (ls : Array Slot), 4 - y < d → y ≤ 4 → va_P G.1 vwB (wl N ad C) H → va_D A (wl N ad C) → va_S A H0 H locs → lv_has ls 7 [(4, .int (nI (zoY rw fx fy y))), (5, .int (nI (fy + y))), (0, .ref (ad fb)), (2, .int (nI fx)), (3, .int (nI fy))] → W p l e rmX1_meanOfZone s m args below meth c H locs cells slots Q (F0 m 18 ls []) := by
  intro d
  induction d with
  | zero => intro y H locs ls hd; exact absurd hd (Nat.not_lt_zero _)
  | succ d ih =>
    intro y H locs ls hd h2 hP hD hS hl
    refine lv_iload hx hb dX1_meanOfZone_18 (lv_at hl 1 rfl) ?_
    refine lv_iload_n hx hb dX1_meanOfZone_20 rfl (lv_at hl 4 rfl) ?_
    refine lv_iconst (v := nI 4) hx hb dX1_meanOfZone_21 (by decide) ?_
    refine lv_iadd hx hb dX1_meanOfZone_22 ?_
    refine lv_asI (y := nI (fy + 4)) (nI_add _ _) ?_
    refine lv_icmp_ge (tgt := 77) hx hb dX1_meanOfZone_23 (by decide) (fun c23 => ?_) (fun c23 => ?_)
    · have h5 : y = 4 := by have := (nI_leI (by omega) (by omega)).mp c23; omega
      subst h5
      exact kx H locs ls hP hD hS (lv_sub hl [0] rfl)
    · have h4 : y < 4 := by have := mt (nI_leI (by omega) (by omega)).mpr c23; omega
      refine lv_iload_n hx hb dX1_meanOfZone_26 rfl (lv_at hl 3 rfl) ?_
      refine lv_istore (lv' := [(6, .int (nI fx)), (4, .int (nI (zoY rw fx fy y))), (5, .int (nI (fy + y))), (0, .ref (ad fb)), (2, .int (nI fx)), (3, .int (nI fy))]) hx hb dX1_meanOfZone_27 hl (by decide) rfl (fun ls hl => ?_)
      refine lX1_meanOfZone_x hx hb hml hr hts hown hK hA hcc hcs lfb lfr hfb hfr hr9 hfx hfy h4 (fun H locs ls hP hD hS hl => ?_) 5 0 H locs ls (by omega) (by omega) hP hD hS (lv_sub hl [1, 0, 2, 3, 4, 5] rfl)
      refine lv_iinc (v := nI ((fy + y) + 1)) (lv' := [(5, .int (nI ((fy + y) + 1))), (4, .int (nI (zoX rw fx (fy + y) (zoY rw fx fy y) 4))), (0, .ref (ad fb)), (2, .int (nI fx)), (3, .int (nI fy))]) hx hb dX1_meanOfZone_71 hl (k := 1) rfl (iinc_nat _ 1) (by decide) rfl (fun ls hl => ?_)
      refine lv_goto (tgt := 18) hx hb dX1_meanOfZone_74 (by decide) ?_
      exact ih (y + 1) H locs ls (by omega) (by omega) hP hD hS (lv_sub hl [1, 0, 2, 3, 4] rfl)
set_option maxRecDepth 20000 in
theorem il_X1_meanOfZone_54 : (Cond.constantDouble RX1 54 (4620693217682128896)) ∈ wsX1_meanOfZone := by decide +kernel
set_option maxHeartbeats 4000000 in
set_option maxRecDepth 100000 in
theorem kX1_meanOfZone (l : Launch) (G : iG) (N : Nat) (ad : Nat → Nat) (C : Nat → va_E) {fb fr fe : Nat} {t0 g0 q0 : Int32} {rw : Nat → Nat} (lfb : fb < N) (lfr : fr < N) (hfb : C fb = ob 1 [.ref (ad fr), .ref (ad fe), .int t0, .int g0, .int q0]) (hfr : C fr = ia G 64 (fun i => nI (rw i))) (hr9 : ∀ i, i < 64 → rw i ≤ 255) (z : Nat) (hz4 : z < 4) (sz : Nat) : Met l yX1_meanOfZone wsX1_meanOfZone rmX1_meanOfZone (iPre G N ad C sz [.ref (ad fb), .int (nI z)]) (va_Qd (fun (r : UInt64) (u : Nat → va_E) => r = moF rw z ∧ u = C) (iB G N ad) (iA N ad sz)) 0 0 (iA N ad sz) := by
  refine Met.ofW (cc := cX1_meanOfZone) (maxL := 7) (ret := (some .double)) (by decide) rfl ?_
  intro p e s m args below meth c s₁ B hml hv
  obtain ⟨rfl, hsz, hP, hK, hD0⟩ := hv
  have hx := B.exec
  have hb := B.bytes
  have hr := B.returns
  have hts := atoms_spec (ws := wsX1_meanOfZone) B.pre
  have hown : s.vm.findClass RX1 = some m.cls := findClass_of_methodNamed B.named
  have hlocks := B.notSynchronized
  subst hsz
  have hD := wl_self hD0 s.heap.size
  have hA : ∀ q : Nat, s.heap.size ≤ q → iA N ad s.heap.size q := fun q h => Or.inr h
  have hS : va_S (iA N ad s.heap.size) s.heap s.heap [] := va_S.rf
  have hP : va_P G.1 vwB (wl N ad C) s.heap := hP
  have hl := lv_entry ([.ref (ad fb), .int (nI z)]) (n := 7) (Nat.le_of_ble_eq_true rfl)
  rw [lg_entry_eq]
  generalize (lg_sl ([.ref (ad fb), .int (nI z)]) ++ List.replicate (7 - (lg_sl ([.ref (ad fb), .int (nI z)])).length) Slot.unset).toArray = ls at hl ⊢
  have hl : lv_has ls 7 [(0, .ref (ad fb)), (1, .int (nI z))] := hl
  refine lv_iload_n hx hb dX1_meanOfZone_0 rfl (lv_at hl 1 rfl) ?_
  refine lv_iconst (v := nI 2) hx hb dX1_meanOfZone_1 (by decide) ?_
  refine lv_irem hx hb dX1_meanOfZone_2 (by decide) ?_
  refine lv_asI (y := nI (z % 2)) (pk_rem (by omega) (by omega) (by omega)) ?_
  refine lv_iconst (v := nI 4) hx hb dX1_meanOfZone_3 (by decide) ?_
  refine lv_imul hx hb dX1_meanOfZone_4 ?_
  refine lv_asI (y := nI ((z % 2) * 4)) (pk_mul _ _) ?_
  refine lv_istore_n (lv' := [(2, .int (nI ((z % 2) * 4))), (0, .ref (ad fb)), (1, .int (nI z))]) hx hb dX1_meanOfZone_5 rfl hl (by decide) rfl (fun ls hl => ?_)
  refine lv_iload_n hx hb dX1_meanOfZone_6 rfl (lv_at hl 2 rfl) ?_
  refine lv_iconst (v := nI 2) hx hb dX1_meanOfZone_7 (by decide) ?_
  refine lv_idiv hx hb dX1_meanOfZone_8 (by decide) ?_
  refine lv_asI (y := nI (z / 2)) (pk_div (by omega) (by omega) (by omega)) ?_
  refine lv_iconst (v := nI 4) hx hb dX1_meanOfZone_9 (by decide) ?_
  refine lv_imul hx hb dX1_meanOfZone_10 ?_
  refine lv_asI (y := nI ((z / 2) * 4)) (pk_mul _ _) ?_
  refine lv_istore_n (lv' := [(3, .int (nI ((z / 2) * 4))), (2, .int (nI ((z % 2) * 4))), (0, .ref (ad fb)), (1, .int (nI z))]) hx hb dX1_meanOfZone_11 rfl hl (by decide) rfl (fun ls hl => ?_)
  refine lv_iconst (v := nI 0) hx hb dX1_meanOfZone_12 (by decide) ?_
  refine lv_istore (lv' := [(4, .int (nI 0)), (3, .int (nI ((z / 2) * 4))), (2, .int (nI ((z % 2) * 4))), (0, .ref (ad fb)), (1, .int (nI z))]) hx hb dX1_meanOfZone_13 hl (by decide) rfl (fun ls hl => ?_)
  refine lv_iload_n hx hb dX1_meanOfZone_15 rfl (lv_at hl 1 rfl) ?_
  refine lv_istore (lv' := [(5, .int (nI ((z / 2) * 4))), (4, .int (nI 0)), (3, .int (nI ((z / 2) * 4))), (2, .int (nI ((z % 2) * 4))), (0, .ref (ad fb)), (1, .int (nI z))]) hx hb dX1_meanOfZone_16 hl (by decide) rfl (fun ls hl => ?_)
  refine lX1_meanOfZone_y hx hb hml hr hts hown hK hA (Nat.le_refl _) (Nat.le_refl _) lfb lfr hfb hfr hr9 (fx := z % 2 * 4) (fy := z / 2 * 4) (by omega) (by omega) (fun H locs ls hP hD hS hl => ?_) 5 0 _ _ ls (by omega) (by omega) hP hD hS (lv_sub hl [1, 0, 4, 3, 2] rfl)
  refine lv_iload hx hb dX1_meanOfZone_77 (lv_at hl 0 rfl) ?_
  refine lv_i2d hx hb dX1_meanOfZone_79 ?_
  refine lv_ldc2d hx hb hown (hts _ il_X1_meanOfZone_54) dX1_meanOfZone_80 ?_
  refine lv_ddiv hx hb dX1_meanOfZone_83 (fin64_n (moF_fin rw z)) ?_
  exact W.dret (v := (FP.ddiv (FP.i2d (nI (zoN rw z))) (4620693217682128896))) hx hb hr (fun t ht hW => ⟨⟨_, _, rfl, ⟨rfl, rfl⟩, iB_of ht hP⟩, hS.F ht⟩) hS.2.2 dX1_meanOfZone_84
abbrev rmX1_meanOfZones : Room := { frames := 2, cells := 0, slots := 0, locals := 47 }
set_option maxRecDepth 20000 in
theorem il_X1_meanOfZones_60 : (Cond.constantDouble RX1 60 (4616189618054758400)) ∈ wsX1_meanOfZones := by decide +kernel
set_option maxHeartbeats 4000000 in
set_option maxRecDepth 100000 in
theorem kX1_meanOfZones (l : Launch) (G : iG) (N : Nat) (ad : Nat → Nat) (C : Nat → va_E) {fb fr fe : Nat} {t0 g0 q0 : Int32} {rw : Nat → Nat} (lfb : fb < N) (lfr : fr < N) (hfb : C fb = ob 1 [.ref (ad fr), .ref (ad fe), .int t0, .int g0, .int q0]) (hfr : C fr = ia G 64 (fun i => nI (rw i))) (hr9 : ∀ i, i < 64 → rw i ≤ 255) (sz : Nat) : Met l yX1_meanOfZones wsX1_meanOfZones rmX1_meanOfZones (iPre G N ad C sz [.ref (ad fb)]) (va_Qd (fun (r : UInt64) (u : Nat → va_E) => r = meF rw ∧ u = C) (iB G N ad) (iA N ad sz)) 0 0 (iA N ad sz) := by
  refine Met.ofW (cc := cX1_meanOfZones) (maxL := 4) (ret := (some .double)) (by decide) rfl ?_
  intro p e s m args below meth c s₁ B hml hv
  obtain ⟨rfl, hsz, hP, hK, hD0⟩ := hv
  have hx := B.exec
  have hb := B.bytes
  have hr := B.returns
  have hts := atoms_spec (ws := wsX1_meanOfZones) B.pre
  have hown : s.vm.findClass RX1 = some m.cls := findClass_of_methodNamed B.named
  have hlocks := B.notSynchronized
  subst hsz
  have hD := wl_self hD0 s.heap.size
  have hA : ∀ q : Nat, s.heap.size ≤ q → iA N ad s.heap.size q := fun q h => Or.inr h
  have hS : va_S (iA N ad s.heap.size) s.heap s.heap [] := va_S.rf
  have hP : va_P G.1 vwB (wl N ad C) s.heap := hP
  have hl := lv_entry ([.ref (ad fb)]) (n := 4) (Nat.le_of_ble_eq_true rfl)
  rw [lg_entry_eq]
  generalize (lg_sl ([.ref (ad fb)]) ++ List.replicate (4 - (lg_sl ([.ref (ad fb)])).length) Slot.unset).toArray = ls at hl ⊢
  have hl : lv_has ls 4 [(0, .ref (ad fb))] := hl
  refine lv_dconst0 hx hb dX1_meanOfZones_0 ?_
  refine lv_dstore_n (lv' := [(1, .double FP.dconst0), (0, .ref (ad fb))]) hx hb dX1_meanOfZones_1 rfl hl (by decide) rfl (fun ls hl => ?_)
  refine lv_iconst (v := nI 0) hx hb dX1_meanOfZones_2 (by decide) ?_
  refine lv_istore_n (lv' := [(3, .int (nI 0)), (1, .double FP.dconst0), (0, .ref (ad fb))]) hx hb dX1_meanOfZones_3 rfl hl (by decide) rfl (fun ls hl => ?_)
  refine lv_iload_n hx hb dX1_meanOfZones_4 rfl (lv_at hl 0 rfl) ?_
  refine lv_iconst (v := nI 4) hx hb dX1_meanOfZones_5 (by decide) ?_
  refine lv_icmp_ge (tgt := 23) hx hb dX1_meanOfZones_6 (by decide) (fun c9 => absurd c9 (by decide)) (fun _ => ?_)
  refine lv_dload_n hx hb dX1_meanOfZones_9 rfl (lv_at hl 1 rfl) ?_
  refine lv_aload_n hx hb dX1_meanOfZones_10 rfl (lv_at hl 2 rfl) ?_
  refine lv_iload_n hx hb dX1_meanOfZones_11 rfl (lv_at hl 0 rfl) ?_
  refine iw_d (va_runV (As := [.int (nI 0)]) (rest := [.double FP.dconst0]) ⟨hx, hb, hml, hown, hts⟩ (kX1_meanOfZone l G N ad C lfb lfr hfb hfr hr9 0 (by omega) _) (cwV 1 hts gX1_meanOfZones_X1_meanOfZone rfl rfl rfl (by decide +kernel) ⟨Nat.le_of_ble_eq_true rfl, Nat.le_of_ble_eq_true rfl⟩) (iPV hK hP hD lfb (hfb) rfl [.int (nI 0)]) rfl rfl hl.1 rfl (lv_room (Nat.le_of_ble_eq_true rfl)) dX1_meanOfZones_12 ⟨Nat.le_of_ble_eq_true rfl, Nat.le_of_ble_eq_true rfl⟩) hD hS hA (fun r8 u8 H locs hw8 hP hD hS => ?_)
  obtain ⟨hr8, hu8⟩ := hw8
  refine lv_asD hr8 ?_
  rw [hu8] at hP hD
  refine lv_dadd hx hb dX1_meanOfZones_15 (me1_n rw) ?_
  refine lv_dstore_n (lv' := [(1, .double (FP.dadd FP.dconst0 (moF rw 0))), (3, .int (nI 0)), (0, .ref (ad fb))]) hx hb dX1_meanOfZones_16 rfl hl (by decide) rfl (fun ls hl => ?_)
  refine lv_iinc (v := nI 1) (lv' := [(3, .int (nI 1)), (1, .double (FP.dadd FP.dconst0 (moF rw 0))), (0, .ref (ad fb))]) hx hb dX1_meanOfZones_17 hl (k := 1) rfl (iinc_nat _ 1) (by decide) rfl (fun ls hl => ?_)
  refine lv_goto (tgt := 4) hx hb dX1_meanOfZones_20 (by decide) ?_
  refine lv_iload_n hx hb dX1_meanOfZones_4 rfl (lv_at hl 0 rfl) ?_
  refine lv_iconst (v := nI 4) hx hb dX1_meanOfZones_5 (by decide) ?_
  refine lv_icmp_ge (tgt := 23) hx hb dX1_meanOfZones_6 (by decide) (fun c9 => absurd c9 (by decide)) (fun _ => ?_)
  refine lv_dload_n hx hb dX1_meanOfZones_9 rfl (lv_at hl 1 rfl) ?_
  refine lv_aload_n hx hb dX1_meanOfZones_10 rfl (lv_at hl 2 rfl) ?_
  refine lv_iload_n hx hb dX1_meanOfZones_11 rfl (lv_at hl 0 rfl) ?_
  refine iw_d (va_runV (As := [.int (nI 1)]) (rest := [.double (FP.dadd FP.dconst0 (moF rw 0))]) ⟨hx, hb, hml, hown, hts⟩ (kX1_meanOfZone l G N ad C lfb lfr hfb hfr hr9 1 (by omega) _) (cwV 1 hts gX1_meanOfZones_X1_meanOfZone rfl rfl rfl (by decide +kernel) ⟨Nat.le_of_ble_eq_true rfl, Nat.le_of_ble_eq_true rfl⟩) (iPV hK hP hD lfb (hfb) rfl [.int (nI 1)]) rfl rfl hl.1 rfl (lv_room (Nat.le_of_ble_eq_true rfl)) dX1_meanOfZones_12 ⟨Nat.le_of_ble_eq_true rfl, Nat.le_of_ble_eq_true rfl⟩) hD hS hA (fun r8 u8 H locs hw8 hP hD hS => ?_)
  obtain ⟨hr8, hu8⟩ := hw8
  refine lv_asD hr8 ?_
  rw [hu8] at hP hD
  refine lv_dadd hx hb dX1_meanOfZones_15 (me2_n rw) ?_
  refine lv_dstore_n (lv' := [(1, .double (FP.dadd (FP.dadd FP.dconst0 (moF rw 0)) (moF rw 1))), (3, .int (nI 1)), (0, .ref (ad fb))]) hx hb dX1_meanOfZones_16 rfl hl (by decide) rfl (fun ls hl => ?_)
  refine lv_iinc (v := nI 2) (lv' := [(3, .int (nI 2)), (1, .double (FP.dadd (FP.dadd FP.dconst0 (moF rw 0)) (moF rw 1))), (0, .ref (ad fb))]) hx hb dX1_meanOfZones_17 hl (k := 1) rfl (iinc_nat _ 1) (by decide) rfl (fun ls hl => ?_)
  refine lv_goto (tgt := 4) hx hb dX1_meanOfZones_20 (by decide) ?_
  refine lv_iload_n hx hb dX1_meanOfZones_4 rfl (lv_at hl 0 rfl) ?_
  refine lv_iconst (v := nI 4) hx hb dX1_meanOfZones_5 (by decide) ?_
  refine lv_icmp_ge (tgt := 23) hx hb dX1_meanOfZones_6 (by decide) (fun c9 => absurd c9 (by decide)) (fun _ => ?_)
  refine lv_dload_n hx hb dX1_meanOfZones_9 rfl (lv_at hl 1 rfl) ?_
  refine lv_aload_n hx hb dX1_meanOfZones_10 rfl (lv_at hl 2 rfl) ?_
  refine lv_iload_n hx hb dX1_meanOfZones_11 rfl (lv_at hl 0 rfl) ?_
  refine iw_d (va_runV (As := [.int (nI 2)]) (rest := [.double (FP.dadd (FP.dadd FP.dconst0 (moF rw 0)) (moF rw 1))]) ⟨hx, hb, hml, hown, hts⟩ (kX1_meanOfZone l G N ad C lfb lfr hfb hfr hr9 2 (by omega) _) (cwV 1 hts gX1_meanOfZones_X1_meanOfZone rfl rfl rfl (by decide +kernel) ⟨Nat.le_of_ble_eq_true rfl, Nat.le_of_ble_eq_true rfl⟩) (iPV hK hP hD lfb (hfb) rfl [.int (nI 2)]) rfl rfl hl.1 rfl (lv_room (Nat.le_of_ble_eq_true rfl)) dX1_meanOfZones_12 ⟨Nat.le_of_ble_eq_true rfl, Nat.le_of_ble_eq_true rfl⟩) hD hS hA (fun r8 u8 H locs hw8 hP hD hS => ?_)
  obtain ⟨hr8, hu8⟩ := hw8
  refine lv_asD hr8 ?_
  rw [hu8] at hP hD
  refine lv_dadd hx hb dX1_meanOfZones_15 (me3_n rw) ?_
  refine lv_dstore_n (lv' := [(1, .double (FP.dadd (FP.dadd (FP.dadd FP.dconst0 (moF rw 0)) (moF rw 1)) (moF rw 2))), (3, .int (nI 2)), (0, .ref (ad fb))]) hx hb dX1_meanOfZones_16 rfl hl (by decide) rfl (fun ls hl => ?_)
  refine lv_iinc (v := nI 3) (lv' := [(3, .int (nI 3)), (1, .double (FP.dadd (FP.dadd (FP.dadd FP.dconst0 (moF rw 0)) (moF rw 1)) (moF rw 2))), (0, .ref (ad fb))]) hx hb dX1_meanOfZones_17 hl (k := 1) rfl (iinc_nat _ 1) (by decide) rfl (fun ls hl => ?_)
  refine lv_goto (tgt := 4) hx hb dX1_meanOfZones_20 (by decide) ?_
  refine lv_iload_n hx hb dX1_meanOfZones_4 rfl (lv_at hl 0 rfl) ?_
  refine lv_iconst (v := nI 4) hx hb dX1_meanOfZones_5 (by decide) ?_
  refine lv_icmp_ge (tgt := 23) hx hb dX1_meanOfZones_6 (by decide) (fun c9 => absurd c9 (by decide)) (fun _ => ?_)
  refine lv_dload_n hx hb dX1_meanOfZones_9 rfl (lv_at hl 1 rfl) ?_
  refine lv_aload_n hx hb dX1_meanOfZones_10 rfl (lv_at hl 2 rfl) ?_
  refine lv_iload_n hx hb dX1_meanOfZones_11 rfl (lv_at hl 0 rfl) ?_
  refine iw_d (va_runV (As := [.int (nI 3)]) (rest := [.double (FP.dadd (FP.dadd (FP.dadd FP.dconst0 (moF rw 0)) (moF rw 1)) (moF rw 2))]) ⟨hx, hb, hml, hown, hts⟩ (kX1_meanOfZone l G N ad C lfb lfr hfb hfr hr9 3 (by omega) _) (cwV 1 hts gX1_meanOfZones_X1_meanOfZone rfl rfl rfl (by decide +kernel) ⟨Nat.le_of_ble_eq_true rfl, Nat.le_of_ble_eq_true rfl⟩) (iPV hK hP hD lfb (hfb) rfl [.int (nI 3)]) rfl rfl hl.1 rfl (lv_room (Nat.le_of_ble_eq_true rfl)) dX1_meanOfZones_12 ⟨Nat.le_of_ble_eq_true rfl, Nat.le_of_ble_eq_true rfl⟩) hD hS hA (fun r8 u8 H locs hw8 hP hD hS => ?_)
  obtain ⟨hr8, hu8⟩ := hw8
  refine lv_asD hr8 ?_
  rw [hu8] at hP hD
  refine lv_dadd hx hb dX1_meanOfZones_15 (me4_n rw) ?_
  refine lv_dstore_n (lv' := [(1, .double (FP.dadd (FP.dadd (FP.dadd (FP.dadd FP.dconst0 (moF rw 0)) (moF rw 1)) (moF rw 2)) (moF rw 3))), (3, .int (nI 3)), (0, .ref (ad fb))]) hx hb dX1_meanOfZones_16 rfl hl (by decide) rfl (fun ls hl => ?_)
  refine lv_iinc (v := nI 4) (lv' := [(3, .int (nI 4)), (1, .double (FP.dadd (FP.dadd (FP.dadd (FP.dadd FP.dconst0 (moF rw 0)) (moF rw 1)) (moF rw 2)) (moF rw 3))), (0, .ref (ad fb))]) hx hb dX1_meanOfZones_17 hl (k := 1) rfl (iinc_nat _ 1) (by decide) rfl (fun ls hl => ?_)
  refine lv_goto (tgt := 4) hx hb dX1_meanOfZones_20 (by decide) ?_
  refine lv_iload_n hx hb dX1_meanOfZones_4 rfl (lv_at hl 0 rfl) ?_
  refine lv_iconst (v := nI 4) hx hb dX1_meanOfZones_5 (by decide) ?_
  refine lv_icmp_ge (tgt := 23) hx hb dX1_meanOfZones_6 (by decide) (fun _ => ?_) (fun c9 => absurd (by decide) c9)
  refine lv_dload_n hx hb dX1_meanOfZones_23 rfl (lv_at hl 1 rfl) ?_
  refine lv_ldc2d hx hb hown (hts _ il_X1_meanOfZones_60) dX1_meanOfZones_24 ?_
  refine lv_ddiv hx hb dX1_meanOfZones_27 (meF_n rw) ?_
  exact W.dret (v := (FP.ddiv (FP.dadd (FP.dadd (FP.dadd (FP.dadd FP.dconst0 (moF rw 0)) (moF rw 1)) (moF rw 2)) (moF rw 3)) (4616189618054758400))) hx hb hr (fun t ht hW => ⟨⟨_, _, rfl, ⟨rfl, rfl⟩, iB_of ht hP⟩, hS.F ht⟩) hS.2.2 dX1_meanOfZones_28
end
section
theorem nI_neg {a b : Nat} (h : a < b) (hb : b < 2 ^ 30) : nI a + -nI b < 0 := by
  have e : nI a + -nI b = nI a - nI b := by rw [Int32.sub_eq_add_neg]
  rw [e]
  exact pk_sneg hb h
theorem nI_subn {a b : Nat} (h : b ≤ a) : nI a + -nI b = nI (a - b) := by
  rw [← Int32.sub_eq_add_neg]
  exact pk_sub h
theorem isPl_in {a b : Nat} (ha : a < 8) (hb : b < 8) : isPl (nI a) (nI b) = true := by
  have h1 : ¬ nI a < 0 := nI_pos (by omega)
  have h2 : ¬ nI b < 0 := nI_pos (by omega)
  have h3 : ¬ nI 8 ≤ nI a := nI_ge ha (by omega)
  have h4 : ¬ nI 8 ≤ nI b := nI_ge hb (by omega)
  simp [isPl, h1, h2, h3, h4]
theorem isPl_x8 {a : Nat} (ha : 8 ≤ a) (h2 : a < 2 ^ 31) (y : Int32) : isPl (nI a) y = false := by
  have h3 : nI 8 ≤ nI a := nI_le ha h2
  simp [isPl, h3]
theorem isPl_y8 {b : Nat} (hb : 8 ≤ b) (h2 : b < 2 ^ 31) (x : Int32) : isPl x (nI b) = false := by
  have h3 : nI 8 ≤ nI b := nI_le hb h2
  simp [isPl, h3]
theorem isPl_xn {z : Int32} (h : z < 0) (y : Int32) : isPl z y = false := by simp [isPl, h]
theorem isPl_yn {z : Int32} (h : z < 0) (x : Int32) : isPl x z = false := by simp [isPl, h]
/-- two away: is there a place, and which -/
def nbOk (x y k : Nat) : Bool := if k = 0 then decide (2 ≤ x) else if k = 1 then decide (x < 6) else if k = 2 then decide (2 ≤ y) else decide (y < 6)
def nbAt (x y k : Nat) : Nat := if k = 0 then 8 * y + (x - 2) else if k = 1 then 8 * y + (x + 2) else if k = 2 then 8 * (y - 2) + x else 8 * (y + 2) + x
def mS (rw : Nat → Nat) (mp : Nat → Bool) (x y : Nat) : Nat → Nat
  | 0 => 0
  | k + 1 => mS rw mp x y k + if nbOk x y k = true ∧ mp (nbAt x y k) = false then rw (nbAt x y k) else 0
def mC (mp : Nat → Bool) (x y : Nat) : Nat → Nat
  | 0 => 0
  | k + 1 => mC mp x y k + if nbOk x y k = true ∧ mp (nbAt x y k) = false then 1 else 0
theorem nbAt_lt {x y k : Nat} (hx : x < 8) (hy : y < 8) (h : nbOk x y k = true) : nbAt x y k < 64 := by
  unfold nbOk at h
  unfold nbAt
  split at h
  · rw [if_pos (by assumption)]; simp at h; omega
  · split at h
    · rw [if_neg (by assumption), if_pos (by assumption)]; simp at h; omega
    · split at h
      · rw [if_neg (by assumption), if_neg (by assumption), if_pos (by assumption)]; simp at h; omega
      · rw [if_neg (by assumption), if_neg (by assumption), if_neg (by assumption)]; simp at h; omega
theorem mC_le (mp : Nat → Bool) (x y : Nat) : ∀ n, mC mp x y n ≤ n
  | 0 => Nat.le_refl _
  | n + 1 => by
    have := mC_le mp x y n
    unfold mC
    split <;> omega
theorem mS_le (rw : Nat → Nat) (hr : ∀ i, i < 64 → rw i ≤ 255) (mp : Nat → Bool) {x y : Nat} (hx : x < 8) (hy : y < 8) : ∀ n, mS rw mp x y n ≤ 255 * mC mp x y n
  | 0 => Nat.le_refl _
  | n + 1 => by
    have h1 := mS_le rw hr mp hx hy n
    unfold mS mC
    split
    · rename_i h
      have := hr _ (nbAt_lt hx hy h.1)
      omega
    · omega
/-- a mended place -/
def mdN (rw : Nat → Nat) (mp : Nat → Bool) (x y : Nat) : Nat := if mC mp x y 4 = 0 then rw (8 * y + x) else mS rw mp x y 4 / mC mp x y 4
theorem mdN_le (rw : Nat → Nat) (hr : ∀ i, i < 64 → rw i ≤ 255) (mp : Nat → Bool) {x y : Nat} (hx : x < 8) (hy : y < 8) : mdN rw mp x y ≤ 255 := by
  unfold mdN
  split
  · exact hr _ (by omega)
  · rename_i h
    have := mS_le rw hr mp hx hy 4
    exact Nat.div_le_of_le_mul (by rw [Nat.mul_comm]; exact this)
/-- RAW behind MEND -/
def mmN (rw : Nat → Nat) (mp : Nat → Bool) (b : Bool) (k : Nat) : Nat := if b = true ∧ mp k = true then mdN rw mp (k % 8) (k / 8) else rw k
theorem mmN_le (rw : Nat → Nat) (hr : ∀ i, i < 64 → rw i ≤ 255) (mp : Nat → Bool) (b : Bool) : ∀ k, k < 64 → mmN rw mp b k ≤ 255 := by
  intro k hk
  unfold mmN
  split
  · exact mdN_le rw hr mp (by omega) (by omega)
  · exact hr k hk
abbrev rmX2_mendedAt : Room := { frames := 1, cells := 0, slots := 0, locals := 21 }
set_option maxRecDepth 20000 in
theorem il_X2_mendedAt_iniX6 : (Cond.initialized RX6) ∈ wsX2_mendedAt := by decide +kernel
set_option maxRecDepth 20000 in
theorem il_X2_mendedAt_st_X6_isPlace : (Cond.static yX6_isPlace) ∈ wsX2_mendedAt := by decide +kernel
set_option maxRecDepth 20000 in
theorem il_X2_mendedAt_st_X6_placeOf : (Cond.static yX6_placeOf) ∈ wsX2_mendedAt := by decide +kernel
set_option maxHeartbeats 4000000 in
set_option maxRecDepth 100000 in
theorem lX2_mendedAt {p : Program} {l : Launch} {e : Env} {s : State} {m : MethodId} {args : Array Value} {below : List Frame} {meth : Method} {c : Code} {Q : State → Prop} {A : Nat → Prop} {H0 : Heap} {cells slots : Nat} (hx : p.tables.exec = Jvm.exec) (hb : c.code = cX2_mendedAt) (hml : c.maxLocals = 10) (hr : meth.sig.returnType = (some .int)) (hts : ∀ w ∈ wsX2_mendedAt, w.before args s = true) (hown : s.vm.findClass RX2 = some m.cls) {G : iG} (hK : KB G s) (hA : ∀ q, H0.size ≤ q → A q) {N : Nat} {ad : Nat → Nat} {C : Nat → va_E}  (hcc : cells ≤ rmX2_mendedAt.cells) (hcs : slots ≤ rmX2_mendedAt.slots) {ri mi : Nat} {rw : Nat → Nat} {mp : Nat → Bool} (lri : ri < N) (lmi : mi < N) (hri : C ri = ia G 64 (fun i => nI (rw i))) (hmi : C mi = za G 64 (bI mp)) (hr9 : ∀ i, i < 64 → rw i ≤ 255) {x y : Nat} (hx8 : x < 8) (hy8 : y < 8) (kx : ∀ (H : Heap) (locs : List Loc) (ls : Array Slot), va_P G.1 vwB (wl N ad (C)) H → va_D A (wl N ad (C)) → va_S A H0 H locs → lv_has ls 10 [(4, .int (nI (mS rw mp x y 4))), (5, .int (nI (mC mp x y 4))), (0, .ref (ad ri)), (1, .ref (ad mi)), (2, .int (nI x)), (3, .int (nI y))] → W p l e rmX2_mendedAt s m args below meth c H locs cells slots Q (F0 m 107 ls [])) : ∀ (d : Nat) (k : Nat) (H : Heap) (locs : List Loc) (ls : Array Slot), 4 - k < d → k ≤ 4 → va_P G.1 vwB (wl N ad C) H → va_D A (wl N ad C) → va_S A H0 H locs → lv_has ls 10 [(4, .int (nI (mS rw mp x y k))), (5, .int (nI (mC mp x y k))), (6, .int (nI k)), (0, .ref (ad ri)), (1, .ref (ad mi)), (2, .int (nI x)), (3, .int (nI y))] → W p l e rmX2_mendedAt s m args below meth c H locs cells slots Q (F0 m 9 ls []) := by
  intro d
  induction d with
  | zero => intro k H locs ls hd; exact absurd hd (Nat.not_lt_zero _)
  | succ d ih =>
    intro k H locs ls hd h2 hP hD hS hl
    refine lv_iload hx hb dX2_mendedAt_9 (lv_at hl 2 rfl) ?_
    refine lv_iconst (v := nI 4) hx hb dX2_mendedAt_11 (by decide) ?_
    refine lv_icmp_ge (tgt := 107) hx hb dX2_mendedAt_12 (by decide) (fun c12 => ?_) (fun c12 => ?_)
    · have h5 : k = 4 := by have := (nI_leI (by omega) (by omega)).mp c12; omega
      subst h5
      exact kx H locs ls hP hD hS (lv_sub hl [0, 1, 3, 4, 5, 6] rfl)
    · have h4 : k < 4 := by have := mt (nI_leI (by omega) (by omega)).mpr c12; omega
      rcases (show k = 0 ∨ k = 1 ∨ k = 2 ∨ k = 3 by omega) with rfl | rfl | rfl | rfl
      · rcases Nat.lt_or_ge x 2 with hq0 | hq0
        · have hq : ¬ (2 ≤ x) := by omega
          refine lv_iload hx hb dX2_mendedAt_15 (lv_at hl 2 rfl) ?_
          refine lv_iconst (v := nI 2) hx hb dX2_mendedAt_17 (by decide) ?_
          refine lv_irem hx hb dX2_mendedAt_18 (by decide) ?_
          refine lv_asI (y := nI 0) (pk_rem (by omega) (by omega) (by omega)) ?_
          refine lv_if_ne (tgt := 27) hx hb dX2_mendedAt_19 (by decide) (fun c9 => absurd (by decide) c9) (fun _ => ?_)
          refine lv_bipush (v := -nI 2) hx hb dX2_mendedAt_22 (by decide) ?_
          refine lv_goto (tgt := 28) hx hb dX2_mendedAt_24 (by decide) ?_
          refine lv_istore (lv' := [(7, .int (-nI 2)), (4, .int (nI (mS rw mp x y 0))), (5, .int (nI (mC mp x y 0))), (6, .int (nI 0)), (0, .ref (ad ri)), (1, .ref (ad mi)), (2, .int (nI x)), (3, .int (nI y))]) hx hb dX2_mendedAt_28 hl (by decide) rfl (fun ls hl => ?_)
          refine lv_iload hx hb dX2_mendedAt_30 (lv_at hl 3 rfl) ?_
          refine lv_iconst (v := nI 2) hx hb dX2_mendedAt_32 (by decide) ?_
          refine lv_icmp_ge (tgt := 43) hx hb dX2_mendedAt_33 (by decide) (fun c9 => absurd c9 (by decide)) (fun _ => ?_)
          refine lv_iload_n hx hb dX2_mendedAt_36 rfl (lv_at hl 6 rfl) ?_
          refine lv_iload hx hb dX2_mendedAt_37 (lv_at hl 0 rfl) ?_
          refine lv_iadd hx hb dX2_mendedAt_39 ?_
          refine lv_goto (tgt := 44) hx hb dX2_mendedAt_40 (by decide) ?_
          refine lv_istore (lv' := [(8, .int ((nI x) + (-nI 2))), (7, .int (-nI 2)), (4, .int (nI (mS rw mp x y 0))), (5, .int (nI (mC mp x y 0))), (6, .int (nI 0)), (0, .ref (ad ri)), (1, .ref (ad mi)), (2, .int (nI x)), (3, .int (nI y))]) hx hb dX2_mendedAt_44 hl (by decide) rfl (fun ls hl => ?_)
          refine lv_iload hx hb dX2_mendedAt_46 (lv_at hl 4 rfl) ?_
          refine lv_iconst (v := nI 2) hx hb dX2_mendedAt_48 (by decide) ?_
          refine lv_icmp_ge (tgt := 56) hx hb dX2_mendedAt_49 (by decide) (fun c9 => absurd c9 (by decide)) (fun _ => ?_)
          refine lv_iload_n hx hb dX2_mendedAt_52 rfl (lv_at hl 8 rfl) ?_
          refine lv_goto (tgt := 60) hx hb dX2_mendedAt_53 (by decide) ?_
          refine lv_istore (lv' := [(9, .int (nI y)), (8, .int ((nI x) + (-nI 2))), (7, .int (-nI 2)), (4, .int (nI (mS rw mp x y 0))), (5, .int (nI (mC mp x y 0))), (6, .int (nI 0)), (0, .ref (ad ri)), (1, .ref (ad mi)), (2, .int (nI x)), (3, .int (nI y))]) hx hb dX2_mendedAt_60 hl (by decide) rfl (fun ls hl => ?_)
          refine lv_iload hx hb dX2_mendedAt_62 (lv_at hl 1 rfl) ?_
          refine lv_iload hx hb dX2_mendedAt_64 (lv_at hl 0 rfl) ?_
          refine iw_pi (va_runSN (As := [.int ((nI x) + (-nI 2)), .int (nI y)]) (rest := []) ⟨hx, hb, hml, hown, hts⟩ (kX6_isPlace l ((nI x) + (-nI 2)) (nI y)) ⟨va_cnB (host := RX6) 2 hts gX2_mendedAt_X6_isPlace_n61 rfl rfl rfl (nw_RX2_61 hK.2) (hts _ il_X2_mendedAt_iniX6) (by decide +kernel) ⟨Nat.le_of_ble_eq_true rfl, Nat.le_of_ble_eq_true rfl⟩, (hts _ il_X2_mendedAt_st_X6_isPlace), trivial⟩ ⟨fun a U g mk q => q, fun U hU hW => ⟨rfl, trivial⟩⟩ rfl rfl hl.1 rfl (lv_room (Nat.le_of_ble_eq_true rfl)) dX2_mendedAt_66 ⟨hcc, hcs⟩) hP hS (fun r8 u8 H locs hw8 hP hS => ?_)
          refine lv_asI hw8 ?_
          refine lv_asI (y := nI 0) (by rw [isPl_xn (nI_neg (by omega) (by omega))]; rfl) ?_
          refine lv_if_eq (tgt := 101) hx hb dX2_mendedAt_69 (by decide) (fun _ => ?_) (fun c9 => absurd (by decide) c9)
          refine lv_iinc (v := nI 1) (lv' := [(6, .int (nI 1)), (9, .int (nI y)), (8, .int ((nI x) + (-nI 2))), (7, .int (-nI 2)), (4, .int (nI (mS rw mp x y 0))), (5, .int (nI (mC mp x y 0))), (0, .ref (ad ri)), (1, .ref (ad mi)), (2, .int (nI x)), (3, .int (nI y))]) hx hb dX2_mendedAt_101 hl (k := 5) rfl (iinc_nat _ 1) (by decide) rfl (fun ls hl => ?_)
          refine lv_goto (tgt := 9) hx hb dX2_mendedAt_104 (by decide) ?_
          have e9 : mS rw mp x y (0 + 1) = mS rw mp x y 0 := by show mS rw mp x y 0 + _ = _; simp [nbOk, nbAt, hq]
          have e10 : mC mp x y (0 + 1) = mC mp x y 0 := by show mC mp x y 0 + _ = _; simp [nbOk, nbAt, hq]
          exact ih (0 + 1) H locs ls (by omega) (by omega) hP hD hS (by rw [e9, e10]; exact (lv_sub hl [4, 5, 0, 6, 7, 8, 9] rfl))
        · have hq : 2 ≤ x := by omega
          refine lv_iload hx hb dX2_mendedAt_15 (lv_at hl 2 rfl) ?_
          refine lv_iconst (v := nI 2) hx hb dX2_mendedAt_17 (by decide) ?_
          refine lv_irem hx hb dX2_mendedAt_18 (by decide) ?_
          refine lv_asI (y := nI 0) (pk_rem (by omega) (by omega) (by omega)) ?_
          refine lv_if_ne (tgt := 27) hx hb dX2_mendedAt_19 (by decide) (fun c9 => absurd (by decide) c9) (fun _ => ?_)
          refine lv_bipush (v := -nI 2) hx hb dX2_mendedAt_22 (by decide) ?_
          refine lv_goto (tgt := 28) hx hb dX2_mendedAt_24 (by decide) ?_
          refine lv_istore (lv' := [(7, .int (-nI 2)), (4, .int (nI (mS rw mp x y 0))), (5, .int (nI (mC mp x y 0))), (6, .int (nI 0)), (0, .ref (ad ri)), (1, .ref (ad mi)), (2, .int (nI x)), (3, .int (nI y))]) hx hb dX2_mendedAt_28 hl (by decide) rfl (fun ls hl => ?_)
          refine lv_iload hx hb dX2_mendedAt_30 (lv_at hl 3 rfl) ?_
          refine lv_iconst (v := nI 2) hx hb dX2_mendedAt_32 (by decide) ?_
          refine lv_icmp_ge (tgt := 43) hx hb dX2_mendedAt_33 (by decide) (fun c9 => absurd c9 (by decide)) (fun _ => ?_)
          refine lv_iload_n hx hb dX2_mendedAt_36 rfl (lv_at hl 6 rfl) ?_
          refine lv_iload hx hb dX2_mendedAt_37 (lv_at hl 0 rfl) ?_
          refine lv_iadd hx hb dX2_mendedAt_39 ?_
          refine lv_goto (tgt := 44) hx hb dX2_mendedAt_40 (by decide) ?_
          refine lv_asI (y := nI (x - 2)) (nI_subn hq) ?_
          refine lv_istore (lv' := [(8, .int (nI (x - 2))), (7, .int (-nI 2)), (4, .int (nI (mS rw mp x y 0))), (5, .int (nI (mC mp x y 0))), (6, .int (nI 0)), (0, .ref (ad ri)), (1, .ref (ad mi)), (2, .int (nI x)), (3, .int (nI y))]) hx hb dX2_mendedAt_44 hl (by decide) rfl (fun ls hl => ?_)
          refine lv_iload hx hb dX2_mendedAt_46 (lv_at hl 4 rfl) ?_
          refine lv_iconst (v := nI 2) hx hb dX2_mendedAt_48 (by decide) ?_
          refine lv_icmp_ge (tgt := 56) hx hb dX2_mendedAt_49 (by decide) (fun c9 => absurd c9 (by decide)) (fun _ => ?_)
          refine lv_iload_n hx hb dX2_mendedAt_52 rfl (lv_at hl 8 rfl) ?_
          refine lv_goto (tgt := 60) hx hb dX2_mendedAt_53 (by decide) ?_
          refine lv_istore (lv' := [(9, .int (nI y)), (8, .int (nI (x - 2))), (7, .int (-nI 2)), (4, .int (nI (mS rw mp x y 0))), (5, .int (nI (mC mp x y 0))), (6, .int (nI 0)), (0, .ref (ad ri)), (1, .ref (ad mi)), (2, .int (nI x)), (3, .int (nI y))]) hx hb dX2_mendedAt_60 hl (by decide) rfl (fun ls hl => ?_)
          refine lv_iload hx hb dX2_mendedAt_62 (lv_at hl 1 rfl) ?_
          refine lv_iload hx hb dX2_mendedAt_64 (lv_at hl 0 rfl) ?_
          refine iw_pi (va_runSN (As := [.int (nI (x - 2)), .int (nI y)]) (rest := []) ⟨hx, hb, hml, hown, hts⟩ (kX6_isPlace l (nI (x - 2)) (nI y)) ⟨va_cnB (host := RX6) 2 hts gX2_mendedAt_X6_isPlace_n61 rfl rfl rfl (nw_RX2_61 hK.2) (hts _ il_X2_mendedAt_iniX6) (by decide +kernel) ⟨Nat.le_of_ble_eq_true rfl, Nat.le_of_ble_eq_true rfl⟩, (hts _ il_X2_mendedAt_st_X6_isPlace), trivial⟩ ⟨fun a U g mk q => q, fun U hU hW => ⟨rfl, trivial⟩⟩ rfl rfl hl.1 rfl (lv_room (Nat.le_of_ble_eq_true rfl)) dX2_mendedAt_66 ⟨hcc, hcs⟩) hP hS (fun r8 u8 H locs hw8 hP hS => ?_)
          refine lv_asI hw8 ?_
          refine lv_asI (y := nI 1) (by rw [isPl_in (by omega) (by omega)]; rfl) ?_
          refine lv_if_eq (tgt := 101) hx hb dX2_mendedAt_69 (by decide) (fun c9 => absurd c9 (by decide)) (fun _ => ?_)
          refine lv_aload_n hx hb dX2_mendedAt_72 rfl (lv_at hl 7 rfl) ?_
          refine lv_iload hx hb dX2_mendedAt_73 (lv_at hl 1 rfl) ?_
          refine lv_iload hx hb dX2_mendedAt_75 (lv_at hl 0 rfl) ?_
          refine iw_pi (va_runSN (As := [.int (nI (x - 2)), .int (nI y)]) (rest := [.ref (ad mi)]) ⟨hx, hb, hml, hown, hts⟩ (kX6_placeOf l (x - 2) (y)) ⟨va_cnB (host := RX6) 2 hts gX2_mendedAt_X6_placeOf_n54 rfl rfl rfl (nw_RX2_54 hK.2) (hts _ il_X2_mendedAt_iniX6) (by decide +kernel) ⟨Nat.le_of_ble_eq_true rfl, Nat.le_of_ble_eq_true rfl⟩, (hts _ il_X2_mendedAt_st_X6_placeOf), trivial⟩ ⟨fun a U g mk q => q, fun U hU hW => ⟨rfl, trivial⟩⟩ rfl rfl hl.1 rfl (lv_room (Nat.le_of_ble_eq_true rfl)) dX2_mendedAt_77 ⟨hcc, hcs⟩) hP hS (fun r8 u8 H locs hw8 hP hS => ?_)
          refine lv_asI hw8 ?_
          refine iw_zald (v := (bI mp) (8 * y + (x - 2))) hx hb hK hP lmi (hmi) (vp_in_nI (show 8 * y + (x - 2) < 64 by omega) (by omega)) (congrArg (bI mp) (nI_clamp (by omega))) dX2_mendedAt_80 ?_
          refine lv_if_ne (tgt := 101) hx hb dX2_mendedAt_81 (by decide) (fun c81 => ?_) (fun c81 => ?_)
          · have e8 : mp (8 * y + (x - 2)) = true := by cases hq9 : mp (8 * y + (x - 2)) <;> simp [bI, hq9, nI] at c81 ⊢
            refine lv_iinc (v := nI 1) (lv' := [(6, .int (nI 1)), (9, .int (nI y)), (8, .int (nI (x - 2))), (7, .int (-nI 2)), (4, .int (nI (mS rw mp x y 0))), (5, .int (nI (mC mp x y 0))), (0, .ref (ad ri)), (1, .ref (ad mi)), (2, .int (nI x)), (3, .int (nI y))]) hx hb dX2_mendedAt_101 hl (k := 5) rfl (iinc_nat _ 1) (by decide) rfl (fun ls hl => ?_)
            refine lv_goto (tgt := 9) hx hb dX2_mendedAt_104 (by decide) ?_
            have e9 : mS rw mp x y (0 + 1) = mS rw mp x y 0 := by show mS rw mp x y 0 + _ = _; simp [nbOk, nbAt, hq, e8]
            have e10 : mC mp x y (0 + 1) = mC mp x y 0 := by show mC mp x y 0 + _ = _; simp [nbOk, nbAt, hq, e8]
            exact ih (0 + 1) H locs ls (by omega) (by omega) hP hD hS (by rw [e9, e10]; exact (lv_sub hl [4, 5, 0, 6, 7, 8, 9] rfl))
          · have e8 : mp (8 * y + (x - 2)) = false := by cases hq9 : mp (8 * y + (x - 2)) <;> simp [bI, hq9, nI] at c81 ⊢
            refine lv_iload hx hb dX2_mendedAt_84 (lv_at hl 3 rfl) ?_
            refine lv_aload_n hx hb dX2_mendedAt_86 rfl (lv_at hl 6 rfl) ?_
            refine lv_iload hx hb dX2_mendedAt_87 (lv_at hl 1 rfl) ?_
            refine lv_iload hx hb dX2_mendedAt_89 (lv_at hl 0 rfl) ?_
            refine iw_pi (va_runSN (As := [.int (nI (x - 2)), .int (nI y)]) (rest := [.ref (ad ri), .int (nI (mS rw mp x y 0))]) ⟨hx, hb, hml, hown, hts⟩ (kX6_placeOf l (x - 2) (y)) ⟨va_cnB (host := RX6) 2 hts gX2_mendedAt_X6_placeOf_n54 rfl rfl rfl (nw_RX2_54 hK.2) (hts _ il_X2_mendedAt_iniX6) (by decide +kernel) ⟨Nat.le_of_ble_eq_true rfl, Nat.le_of_ble_eq_true rfl⟩, (hts _ il_X2_mendedAt_st_X6_placeOf), trivial⟩ ⟨fun a U g mk q => q, fun U hU hW => ⟨rfl, trivial⟩⟩ rfl rfl hl.1 rfl (lv_room (Nat.le_of_ble_eq_true rfl)) dX2_mendedAt_91 ⟨hcc, hcs⟩) hP hS (fun r8 u8 H locs hw8 hP hS => ?_)
            refine lv_asI hw8 ?_
            refine iw_iald (v := nI (rw (8 * y + (x - 2)))) hx hb hK hP lri (hri) (vp_in_nI (show 8 * y + (x - 2) < 64 by omega) (by omega)) (congrArg (fun i => nI (rw i)) (nI_clamp (by omega))) dX2_mendedAt_94 ?_
            refine lv_iadd hx hb dX2_mendedAt_95 ?_
            refine lv_asI (y := nI ((mS rw mp x y 0) + (rw (8 * y + (x - 2))))) (nI_add _ _) ?_
            refine lv_istore (lv' := [(4, .int (nI ((mS rw mp x y 0) + (rw (8 * y + (x - 2)))))), (9, .int (nI y)), (8, .int (nI (x - 2))), (7, .int (-nI 2)), (5, .int (nI (mC mp x y 0))), (6, .int (nI 0)), (0, .ref (ad ri)), (1, .ref (ad mi)), (2, .int (nI x)), (3, .int (nI y))]) hx hb dX2_mendedAt_96 hl (by decide) rfl (fun ls hl => ?_)
            refine lv_iinc (v := nI ((mC mp x y 0) + 1)) (lv' := [(5, .int (nI ((mC mp x y 0) + 1))), (4, .int (nI ((mS rw mp x y 0) + (rw (8 * y + (x - 2)))))), (9, .int (nI y)), (8, .int (nI (x - 2))), (7, .int (-nI 2)), (6, .int (nI 0)), (0, .ref (ad ri)), (1, .ref (ad mi)), (2, .int (nI x)), (3, .int (nI y))]) hx hb dX2_mendedAt_98 hl (k := 4) rfl (iinc_nat _ 1) (by decide) rfl (fun ls hl => ?_)
            refine lv_iinc (v := nI 1) (lv' := [(6, .int (nI 1)), (5, .int (nI ((mC mp x y 0) + 1))), (4, .int (nI ((mS rw mp x y 0) + (rw (8 * y + (x - 2)))))), (9, .int (nI y)), (8, .int (nI (x - 2))), (7, .int (-nI 2)), (0, .ref (ad ri)), (1, .ref (ad mi)), (2, .int (nI x)), (3, .int (nI y))]) hx hb dX2_mendedAt_101 hl (k := 5) rfl (iinc_nat _ 1) (by decide) rfl (fun ls hl => ?_)
            refine lv_goto (tgt := 9) hx hb dX2_mendedAt_104 (by decide) ?_
            have e9 : mS rw mp x y (0 + 1) = (mS rw mp x y 0) + (rw (8 * y + (x - 2))) := by show mS rw mp x y 0 + _ = _; simp [nbOk, nbAt, hq, e8]
            have e10 : mC mp x y (0 + 1) = (mC mp x y 0) + 1 := by show mC mp x y 0 + _ = _; simp [nbOk, nbAt, hq, e8]
            exact ih (0 + 1) H locs ls (by omega) (by omega) hP hD hS (by rw [e9, e10]; exact (lv_sub hl [2, 1, 0, 6, 7, 8, 9] rfl))
      · rcases Nat.lt_or_ge x 6 with hq0 | hq0
        · have hq : x < 6 := by omega
          refine lv_iload hx hb dX2_mendedAt_15 (lv_at hl 2 rfl) ?_
          refine lv_iconst (v := nI 2) hx hb dX2_mendedAt_17 (by decide) ?_
          refine lv_irem hx hb dX2_mendedAt_18 (by decide) ?_
          refine lv_asI (y := nI 1) (pk_rem (by omega) (by omega) (by omega)) ?_
          refine lv_if_ne (tgt := 27) hx hb dX2_mendedAt_19 (by decide) (fun _ => ?_) (fun c9 => absurd c9 (by decide))
          refine lv_iconst (v := nI 2) hx hb dX2_mendedAt_27 (by decide) ?_
          refine lv_istore (lv' := [(7, .int (nI 2)), (4, .int (nI (mS rw mp x y 1))), (5, .int (nI (mC mp x y 1))), (6, .int (nI 1)), (0, .ref (ad ri)), (1, .ref (ad mi)), (2, .int (nI x)), (3, .int (nI y))]) hx hb dX2_mendedAt_28 hl (by decide) rfl (fun ls hl => ?_)
          refine lv_iload hx hb dX2_mendedAt_30 (lv_at hl 3 rfl) ?_
          refine lv_iconst (v := nI 2) hx hb dX2_mendedAt_32 (by decide) ?_
          refine lv_icmp_ge (tgt := 43) hx hb dX2_mendedAt_33 (by decide) (fun c9 => absurd c9 (by decide)) (fun _ => ?_)
          refine lv_iload_n hx hb dX2_mendedAt_36 rfl (lv_at hl 6 rfl) ?_
          refine lv_iload hx hb dX2_mendedAt_37 (lv_at hl 0 rfl) ?_
          refine lv_iadd hx hb dX2_mendedAt_39 ?_
          refine lv_asI (y := nI (x + 2)) (nI_add _ _) ?_
          refine lv_goto (tgt := 44) hx hb dX2_mendedAt_40 (by decide) ?_
          refine lv_istore (lv' := [(8, .int (nI (x + 2))), (7, .int (nI 2)), (4, .int (nI (mS rw mp x y 1))), (5, .int (nI (mC mp x y 1))), (6, .int (nI 1)), (0, .ref (ad ri)), (1, .ref (ad mi)), (2, .int (nI x)), (3, .int (nI y))]) hx hb dX2_mendedAt_44 hl (by decide) rfl (fun ls hl => ?_)
          refine lv_iload hx hb dX2_mendedAt_46 (lv_at hl 4 rfl) ?_
          refine lv_iconst (v := nI 2) hx hb dX2_mendedAt_48 (by decide) ?_
          refine lv_icmp_ge (tgt := 56) hx hb dX2_mendedAt_49 (by decide) (fun c9 => absurd c9 (by decide)) (fun _ => ?_)
          refine lv_iload_n hx hb dX2_mendedAt_52 rfl (lv_at hl 8 rfl) ?_
          refine lv_goto (tgt := 60) hx hb dX2_mendedAt_53 (by decide) ?_
          refine lv_istore (lv' := [(9, .int (nI y)), (8, .int (nI (x + 2))), (7, .int (nI 2)), (4, .int (nI (mS rw mp x y 1))), (5, .int (nI (mC mp x y 1))), (6, .int (nI 1)), (0, .ref (ad ri)), (1, .ref (ad mi)), (2, .int (nI x)), (3, .int (nI y))]) hx hb dX2_mendedAt_60 hl (by decide) rfl (fun ls hl => ?_)
          refine lv_iload hx hb dX2_mendedAt_62 (lv_at hl 1 rfl) ?_
          refine lv_iload hx hb dX2_mendedAt_64 (lv_at hl 0 rfl) ?_
          refine iw_pi (va_runSN (As := [.int (nI (x + 2)), .int (nI y)]) (rest := []) ⟨hx, hb, hml, hown, hts⟩ (kX6_isPlace l (nI (x + 2)) (nI y)) ⟨va_cnB (host := RX6) 2 hts gX2_mendedAt_X6_isPlace_n61 rfl rfl rfl (nw_RX2_61 hK.2) (hts _ il_X2_mendedAt_iniX6) (by decide +kernel) ⟨Nat.le_of_ble_eq_true rfl, Nat.le_of_ble_eq_true rfl⟩, (hts _ il_X2_mendedAt_st_X6_isPlace), trivial⟩ ⟨fun a U g mk q => q, fun U hU hW => ⟨rfl, trivial⟩⟩ rfl rfl hl.1 rfl (lv_room (Nat.le_of_ble_eq_true rfl)) dX2_mendedAt_66 ⟨hcc, hcs⟩) hP hS (fun r8 u8 H locs hw8 hP hS => ?_)
          refine lv_asI hw8 ?_
          refine lv_asI (y := nI 1) (by rw [isPl_in (by omega) (by omega)]; rfl) ?_
          refine lv_if_eq (tgt := 101) hx hb dX2_mendedAt_69 (by decide) (fun c9 => absurd c9 (by decide)) (fun _ => ?_)
          refine lv_aload_n hx hb dX2_mendedAt_72 rfl (lv_at hl 7 rfl) ?_
          refine lv_iload hx hb dX2_mendedAt_73 (lv_at hl 1 rfl) ?_
          refine lv_iload hx hb dX2_mendedAt_75 (lv_at hl 0 rfl) ?_
          refine iw_pi (va_runSN (As := [.int (nI (x + 2)), .int (nI y)]) (rest := [.ref (ad mi)]) ⟨hx, hb, hml, hown, hts⟩ (kX6_placeOf l (x + 2) (y)) ⟨va_cnB (host := RX6) 2 hts gX2_mendedAt_X6_placeOf_n54 rfl rfl rfl (nw_RX2_54 hK.2) (hts _ il_X2_mendedAt_iniX6) (by decide +kernel) ⟨Nat.le_of_ble_eq_true rfl, Nat.le_of_ble_eq_true rfl⟩, (hts _ il_X2_mendedAt_st_X6_placeOf), trivial⟩ ⟨fun a U g mk q => q, fun U hU hW => ⟨rfl, trivial⟩⟩ rfl rfl hl.1 rfl (lv_room (Nat.le_of_ble_eq_true rfl)) dX2_mendedAt_77 ⟨hcc, hcs⟩) hP hS (fun r8 u8 H locs hw8 hP hS => ?_)
          refine lv_asI hw8 ?_
          refine iw_zald (v := (bI mp) (8 * y + (x + 2))) hx hb hK hP lmi (hmi) (vp_in_nI (show 8 * y + (x + 2) < 64 by omega) (by omega)) (congrArg (bI mp) (nI_clamp (by omega))) dX2_mendedAt_80 ?_
          refine lv_if_ne (tgt := 101) hx hb dX2_mendedAt_81 (by decide) (fun c81 => ?_) (fun c81 => ?_)
          · have e8 : mp (8 * y + (x + 2)) = true := by cases hq9 : mp (8 * y + (x + 2)) <;> simp [bI, hq9, nI] at c81 ⊢
            refine lv_iinc (v := nI 2) (lv' := [(6, .int (nI 2)), (9, .int (nI y)), (8, .int (nI (x + 2))), (7, .int (nI 2)), (4, .int (nI (mS rw mp x y 1))), (5, .int (nI (mC mp x y 1))), (0, .ref (ad ri)), (1, .ref (ad mi)), (2, .int (nI x)), (3, .int (nI y))]) hx hb dX2_mendedAt_101 hl (k := 5) rfl (iinc_nat _ 1) (by decide) rfl (fun ls hl => ?_)
            refine lv_goto (tgt := 9) hx hb dX2_mendedAt_104 (by decide) ?_
            have e9 : mS rw mp x y (1 + 1) = mS rw mp x y 1 := by show mS rw mp x y 1 + _ = _; simp [nbOk, nbAt, hq, e8]
            have e10 : mC mp x y (1 + 1) = mC mp x y 1 := by show mC mp x y 1 + _ = _; simp [nbOk, nbAt, hq, e8]
            exact ih (1 + 1) H locs ls (by omega) (by omega) hP hD hS (by rw [e9, e10]; exact (lv_sub hl [4, 5, 0, 6, 7, 8, 9] rfl))
          · have e8 : mp (8 * y + (x + 2)) = false := by cases hq9 : mp (8 * y + (x + 2)) <;> simp [bI, hq9, nI] at c81 ⊢
            refine lv_iload hx hb dX2_mendedAt_84 (lv_at hl 3 rfl) ?_
            refine lv_aload_n hx hb dX2_mendedAt_86 rfl (lv_at hl 6 rfl) ?_
            refine lv_iload hx hb dX2_mendedAt_87 (lv_at hl 1 rfl) ?_
            refine lv_iload hx hb dX2_mendedAt_89 (lv_at hl 0 rfl) ?_
            refine iw_pi (va_runSN (As := [.int (nI (x + 2)), .int (nI y)]) (rest := [.ref (ad ri), .int (nI (mS rw mp x y 1))]) ⟨hx, hb, hml, hown, hts⟩ (kX6_placeOf l (x + 2) (y)) ⟨va_cnB (host := RX6) 2 hts gX2_mendedAt_X6_placeOf_n54 rfl rfl rfl (nw_RX2_54 hK.2) (hts _ il_X2_mendedAt_iniX6) (by decide +kernel) ⟨Nat.le_of_ble_eq_true rfl, Nat.le_of_ble_eq_true rfl⟩, (hts _ il_X2_mendedAt_st_X6_placeOf), trivial⟩ ⟨fun a U g mk q => q, fun U hU hW => ⟨rfl, trivial⟩⟩ rfl rfl hl.1 rfl (lv_room (Nat.le_of_ble_eq_true rfl)) dX2_mendedAt_91 ⟨hcc, hcs⟩) hP hS (fun r8 u8 H locs hw8 hP hS => ?_)
            refine lv_asI hw8 ?_
            refine iw_iald (v := nI (rw (8 * y + (x + 2)))) hx hb hK hP lri (hri) (vp_in_nI (show 8 * y + (x + 2) < 64 by omega) (by omega)) (congrArg (fun i => nI (rw i)) (nI_clamp (by omega))) dX2_mendedAt_94 ?_
            refine lv_iadd hx hb dX2_mendedAt_95 ?_
            refine lv_asI (y := nI ((mS rw mp x y 1) + (rw (8 * y + (x + 2))))) (nI_add _ _) ?_
            refine lv_istore (lv' := [(4, .int (nI ((mS rw mp x y 1) + (rw (8 * y + (x + 2)))))), (9, .int (nI y)), (8, .int (nI (x + 2))), (7, .int (nI 2)), (5, .int (nI (mC mp x y 1))), (6, .int (nI 1)), (0, .ref (ad ri)), (1, .ref (ad mi)), (2, .int (nI x)), (3, .int (nI y))]) hx hb dX2_mendedAt_96 hl (by decide) rfl (fun ls hl => ?_)
            refine lv_iinc (v := nI ((mC mp x y 1) + 1)) (lv' := [(5, .int (nI ((mC mp x y 1) + 1))), (4, .int (nI ((mS rw mp x y 1) + (rw (8 * y + (x + 2)))))), (9, .int (nI y)), (8, .int (nI (x + 2))), (7, .int (nI 2)), (6, .int (nI 1)), (0, .ref (ad ri)), (1, .ref (ad mi)), (2, .int (nI x)), (3, .int (nI y))]) hx hb dX2_mendedAt_98 hl (k := 4) rfl (iinc_nat _ 1) (by decide) rfl (fun ls hl => ?_)
            refine lv_iinc (v := nI 2) (lv' := [(6, .int (nI 2)), (5, .int (nI ((mC mp x y 1) + 1))), (4, .int (nI ((mS rw mp x y 1) + (rw (8 * y + (x + 2)))))), (9, .int (nI y)), (8, .int (nI (x + 2))), (7, .int (nI 2)), (0, .ref (ad ri)), (1, .ref (ad mi)), (2, .int (nI x)), (3, .int (nI y))]) hx hb dX2_mendedAt_101 hl (k := 5) rfl (iinc_nat _ 1) (by decide) rfl (fun ls hl => ?_)
            refine lv_goto (tgt := 9) hx hb dX2_mendedAt_104 (by decide) ?_
            have e9 : mS rw mp x y (1 + 1) = (mS rw mp x y 1) + (rw (8 * y + (x + 2))) := by show mS rw mp x y 1 + _ = _; simp [nbOk, nbAt, hq, e8]
            have e10 : mC mp x y (1 + 1) = (mC mp x y 1) + 1 := by show mC mp x y 1 + _ = _; simp [nbOk, nbAt, hq, e8]
            exact ih (1 + 1) H locs ls (by omega) (by omega) hP hD hS (by rw [e9, e10]; exact (lv_sub hl [2, 1, 0, 6, 7, 8, 9] rfl))
        · have hq : ¬ (x < 6) := by omega
          refine lv_iload hx hb dX2_mendedAt_15 (lv_at hl 2 rfl) ?_
          refine lv_iconst (v := nI 2) hx hb dX2_mendedAt_17 (by decide) ?_
          refine lv_irem hx hb dX2_mendedAt_18 (by decide) ?_
          refine lv_asI (y := nI 1) (pk_rem (by omega) (by omega) (by omega)) ?_
          refine lv_if_ne (tgt := 27) hx hb dX2_mendedAt_19 (by decide) (fun _ => ?_) (fun c9 => absurd c9 (by decide))
          refine lv_iconst (v := nI 2) hx hb dX2_mendedAt_27 (by decide) ?_
          refine lv_istore (lv' := [(7, .int (nI 2)), (4, .int (nI (mS rw mp x y 1))), (5, .int (nI (mC mp x y 1))), (6, .int (nI 1)), (0, .ref (ad ri)), (1, .ref (ad mi)), (2, .int (nI x)), (3, .int (nI y))]) hx hb dX2_mendedAt_28 hl (by decide) rfl (fun ls hl => ?_)
          refine lv_iload hx hb dX2_mendedAt_30 (lv_at hl 3 rfl) ?_
          refine lv_iconst (v := nI 2) hx hb dX2_mendedAt_32 (by decide) ?_
          refine lv_icmp_ge (tgt := 43) hx hb dX2_mendedAt_33 (by decide) (fun c9 => absurd c9 (by decide)) (fun _ => ?_)
          refine lv_iload_n hx hb dX2_mendedAt_36 rfl (lv_at hl 6 rfl) ?_
          refine lv_iload hx hb dX2_mendedAt_37 (lv_at hl 0 rfl) ?_
          refine lv_iadd hx hb dX2_mendedAt_39 ?_
          refine lv_asI (y := nI (x + 2)) (nI_add _ _) ?_
          refine lv_goto (tgt := 44) hx hb dX2_mendedAt_40 (by decide) ?_
          refine lv_istore (lv' := [(8, .int (nI (x + 2))), (7, .int (nI 2)), (4, .int (nI (mS rw mp x y 1))), (5, .int (nI (mC mp x y 1))), (6, .int (nI 1)), (0, .ref (ad ri)), (1, .ref (ad mi)), (2, .int (nI x)), (3, .int (nI y))]) hx hb dX2_mendedAt_44 hl (by decide) rfl (fun ls hl => ?_)
          refine lv_iload hx hb dX2_mendedAt_46 (lv_at hl 4 rfl) ?_
          refine lv_iconst (v := nI 2) hx hb dX2_mendedAt_48 (by decide) ?_
          refine lv_icmp_ge (tgt := 56) hx hb dX2_mendedAt_49 (by decide) (fun c9 => absurd c9 (by decide)) (fun _ => ?_)
          refine lv_iload_n hx hb dX2_mendedAt_52 rfl (lv_at hl 8 rfl) ?_
          refine lv_goto (tgt := 60) hx hb dX2_mendedAt_53 (by decide) ?_
          refine lv_istore (lv' := [(9, .int (nI y)), (8, .int (nI (x + 2))), (7, .int (nI 2)), (4, .int (nI (mS rw mp x y 1))), (5, .int (nI (mC mp x y 1))), (6, .int (nI 1)), (0, .ref (ad ri)), (1, .ref (ad mi)), (2, .int (nI x)), (3, .int (nI y))]) hx hb dX2_mendedAt_60 hl (by decide) rfl (fun ls hl => ?_)
          refine lv_iload hx hb dX2_mendedAt_62 (lv_at hl 1 rfl) ?_
          refine lv_iload hx hb dX2_mendedAt_64 (lv_at hl 0 rfl) ?_
          refine iw_pi (va_runSN (As := [.int (nI (x + 2)), .int (nI y)]) (rest := []) ⟨hx, hb, hml, hown, hts⟩ (kX6_isPlace l (nI (x + 2)) (nI y)) ⟨va_cnB (host := RX6) 2 hts gX2_mendedAt_X6_isPlace_n61 rfl rfl rfl (nw_RX2_61 hK.2) (hts _ il_X2_mendedAt_iniX6) (by decide +kernel) ⟨Nat.le_of_ble_eq_true rfl, Nat.le_of_ble_eq_true rfl⟩, (hts _ il_X2_mendedAt_st_X6_isPlace), trivial⟩ ⟨fun a U g mk q => q, fun U hU hW => ⟨rfl, trivial⟩⟩ rfl rfl hl.1 rfl (lv_room (Nat.le_of_ble_eq_true rfl)) dX2_mendedAt_66 ⟨hcc, hcs⟩) hP hS (fun r8 u8 H locs hw8 hP hS => ?_)
          refine lv_asI hw8 ?_
          refine lv_asI (y := nI 0) (by rw [isPl_x8 (by omega) (by omega)]; rfl) ?_
          refine lv_if_eq (tgt := 101) hx hb dX2_mendedAt_69 (by decide) (fun _ => ?_) (fun c9 => absurd (by decide) c9)
          refine lv_iinc (v := nI 2) (lv' := [(6, .int (nI 2)), (9, .int (nI y)), (8, .int (nI (x + 2))), (7, .int (nI 2)), (4, .int (nI (mS rw mp x y 1))), (5, .int (nI (mC mp x y 1))), (0, .ref (ad ri)), (1, .ref (ad mi)), (2, .int (nI x)), (3, .int (nI y))]) hx hb dX2_mendedAt_101 hl (k := 5) rfl (iinc_nat _ 1) (by decide) rfl (fun ls hl => ?_)
          refine lv_goto (tgt := 9) hx hb dX2_mendedAt_104 (by decide) ?_
          have e9 : mS rw mp x y (1 + 1) = mS rw mp x y 1 := by show mS rw mp x y 1 + _ = _; simp [nbOk, nbAt, hq]
          have e10 : mC mp x y (1 + 1) = mC mp x y 1 := by show mC mp x y 1 + _ = _; simp [nbOk, nbAt, hq]
          exact ih (1 + 1) H locs ls (by omega) (by omega) hP hD hS (by rw [e9, e10]; exact (lv_sub hl [4, 5, 0, 6, 7, 8, 9] rfl))
      · rcases Nat.lt_or_ge y 2 with hq0 | hq0
        · have hq : ¬ (2 ≤ y) := by omega
          refine lv_iload hx hb dX2_mendedAt_15 (lv_at hl 2 rfl) ?_
          refine lv_iconst (v := nI 2) hx hb dX2_mendedAt_17 (by decide) ?_
          refine lv_irem hx hb dX2_mendedAt_18 (by decide) ?_
          refine lv_asI (y := nI 0) (pk_rem (by omega) (by omega) (by omega)) ?_
          refine lv_if_ne (tgt := 27) hx hb dX2_mendedAt_19 (by decide) (fun c9 => absurd (by decide) c9) (fun _ => ?_)
          refine lv_bipush (v := -nI 2) hx hb dX2_mendedAt_22 (by decide) ?_
          refine lv_goto (tgt := 28) hx hb dX2_mendedAt_24 (by decide) ?_
          refine lv_istore (lv' := [(7, .int (-nI 2)), (4, .int (nI (mS rw mp x y 2))), (5, .int (nI (mC mp x y 2))), (6, .int (nI 2)), (0, .ref (ad ri)), (1, .ref (ad mi)), (2, .int (nI x)), (3, .int (nI y))]) hx hb dX2_mendedAt_28 hl (by decide) rfl (fun ls hl => ?_)
          refine lv_iload hx hb dX2_mendedAt_30 (lv_at hl 3 rfl) ?_
          refine lv_iconst (v := nI 2) hx hb dX2_mendedAt_32 (by decide) ?_
          refine lv_icmp_ge (tgt := 43) hx hb dX2_mendedAt_33 (by decide) (fun _ => ?_) (fun c9 => absurd (by decide) c9)
          refine lv_iload_n hx hb dX2_mendedAt_43 rfl (lv_at hl 6 rfl) ?_
          refine lv_istore (lv' := [(8, .int (nI x)), (7, .int (-nI 2)), (4, .int (nI (mS rw mp x y 2))), (5, .int (nI (mC mp x y 2))), (6, .int (nI 2)), (0, .ref (ad ri)), (1, .ref (ad mi)), (2, .int (nI x)), (3, .int (nI y))]) hx hb dX2_mendedAt_44 hl (by decide) rfl (fun ls hl => ?_)
          refine lv_iload hx hb dX2_mendedAt_46 (lv_at hl 4 rfl) ?_
          refine lv_iconst (v := nI 2) hx hb dX2_mendedAt_48 (by decide) ?_
          refine lv_icmp_ge (tgt := 56) hx hb dX2_mendedAt_49 (by decide) (fun _ => ?_) (fun c9 => absurd (by decide) c9)
          refine lv_iload_n hx hb dX2_mendedAt_56 rfl (lv_at hl 8 rfl) ?_
          refine lv_iload hx hb dX2_mendedAt_57 (lv_at hl 1 rfl) ?_
          refine lv_iadd hx hb dX2_mendedAt_59 ?_
          refine lv_istore (lv' := [(9, .int ((nI y) + (-nI 2))), (8, .int (nI x)), (7, .int (-nI 2)), (4, .int (nI (mS rw mp x y 2))), (5, .int (nI (mC mp x y 2))), (6, .int (nI 2)), (0, .ref (ad ri)), (1, .ref (ad mi)), (2, .int (nI x)), (3, .int (nI y))]) hx hb dX2_mendedAt_60 hl (by decide) rfl (fun ls hl => ?_)
          refine lv_iload hx hb dX2_mendedAt_62 (lv_at hl 1 rfl) ?_
          refine lv_iload hx hb dX2_mendedAt_64 (lv_at hl 0 rfl) ?_
          refine iw_pi (va_runSN (As := [.int (nI x), .int ((nI y) + (-nI 2))]) (rest := []) ⟨hx, hb, hml, hown, hts⟩ (kX6_isPlace l (nI x) ((nI y) + (-nI 2))) ⟨va_cnB (host := RX6) 2 hts gX2_mendedAt_X6_isPlace_n61 rfl rfl rfl (nw_RX2_61 hK.2) (hts _ il_X2_mendedAt_iniX6) (by decide +kernel) ⟨Nat.le_of_ble_eq_true rfl, Nat.le_of_ble_eq_true rfl⟩, (hts _ il_X2_mendedAt_st_X6_isPlace), trivial⟩ ⟨fun a U g mk q => q, fun U hU hW => ⟨rfl, trivial⟩⟩ rfl rfl hl.1 rfl (lv_room (Nat.le_of_ble_eq_true rfl)) dX2_mendedAt_66 ⟨hcc, hcs⟩) hP hS (fun r8 u8 H locs hw8 hP hS => ?_)
          refine lv_asI hw8 ?_
          refine lv_asI (y := nI 0) (by rw [isPl_yn (nI_neg (by omega) (by omega))]; rfl) ?_
          refine lv_if_eq (tgt := 101) hx hb dX2_mendedAt_69 (by decide) (fun _ => ?_) (fun c9 => absurd (by decide) c9)
          refine lv_iinc (v := nI 3) (lv' := [(6, .int (nI 3)), (9, .int ((nI y) + (-nI 2))), (8, .int (nI x)), (7, .int (-nI 2)), (4, .int (nI (mS rw mp x y 2))), (5, .int (nI (mC mp x y 2))), (0, .ref (ad ri)), (1, .ref (ad mi)), (2, .int (nI x)), (3, .int (nI y))]) hx hb dX2_mendedAt_101 hl (k := 5) rfl (iinc_nat _ 1) (by decide) rfl (fun ls hl => ?_)
          refine lv_goto (tgt := 9) hx hb dX2_mendedAt_104 (by decide) ?_
          have e9 : mS rw mp x y (2 + 1) = mS rw mp x y 2 := by show mS rw mp x y 2 + _ = _; simp [nbOk, nbAt, hq]
          have e10 : mC mp x y (2 + 1) = mC mp x y 2 := by show mC mp x y 2 + _ = _; simp [nbOk, nbAt, hq]
          exact ih (2 + 1) H locs ls (by omega) (by omega) hP hD hS (by rw [e9, e10]; exact (lv_sub hl [4, 5, 0, 6, 7, 8, 9] rfl))
        · have hq : 2 ≤ y := by omega
          refine lv_iload hx hb dX2_mendedAt_15 (lv_at hl 2 rfl) ?_
          refine lv_iconst (v := nI 2) hx hb dX2_mendedAt_17 (by decide) ?_
          refine lv_irem hx hb dX2_mendedAt_18 (by decide) ?_
          refine lv_asI (y := nI 0) (pk_rem (by omega) (by omega) (by omega)) ?_
          refine lv_if_ne (tgt := 27) hx hb dX2_mendedAt_19 (by decide) (fun c9 => absurd (by decide) c9) (fun _ => ?_)
          refine lv_bipush (v := -nI 2) hx hb dX2_mendedAt_22 (by decide) ?_
          refine lv_goto (tgt := 28) hx hb dX2_mendedAt_24 (by decide) ?_
          refine lv_istore (lv' := [(7, .int (-nI 2)), (4, .int (nI (mS rw mp x y 2))), (5, .int (nI (mC mp x y 2))), (6, .int (nI 2)), (0, .ref (ad ri)), (1, .ref (ad mi)), (2, .int (nI x)), (3, .int (nI y))]) hx hb dX2_mendedAt_28 hl (by decide) rfl (fun ls hl => ?_)
          refine lv_iload hx hb dX2_mendedAt_30 (lv_at hl 3 rfl) ?_
          refine lv_iconst (v := nI 2) hx hb dX2_mendedAt_32 (by decide) ?_
          refine lv_icmp_ge (tgt := 43) hx hb dX2_mendedAt_33 (by decide) (fun _ => ?_) (fun c9 => absurd (by decide) c9)
          refine lv_iload_n hx hb dX2_mendedAt_43 rfl (lv_at hl 6 rfl) ?_
          refine lv_istore (lv' := [(8, .int (nI x)), (7, .int (-nI 2)), (4, .int (nI (mS rw mp x y 2))), (5, .int (nI (mC mp x y 2))), (6, .int (nI 2)), (0, .ref (ad ri)), (1, .ref (ad mi)), (2, .int (nI x)), (3, .int (nI y))]) hx hb dX2_mendedAt_44 hl (by decide) rfl (fun ls hl => ?_)
          refine lv_iload hx hb dX2_mendedAt_46 (lv_at hl 4 rfl) ?_
          refine lv_iconst (v := nI 2) hx hb dX2_mendedAt_48 (by decide) ?_
          refine lv_icmp_ge (tgt := 56) hx hb dX2_mendedAt_49 (by decide) (fun _ => ?_) (fun c9 => absurd (by decide) c9)
          refine lv_iload_n hx hb dX2_mendedAt_56 rfl (lv_at hl 8 rfl) ?_
          refine lv_iload hx hb dX2_mendedAt_57 (lv_at hl 1 rfl) ?_
          refine lv_iadd hx hb dX2_mendedAt_59 ?_
          refine lv_asI (y := nI (y - 2)) (nI_subn hq) ?_
          refine lv_istore (lv' := [(9, .int (nI (y - 2))), (8, .int (nI x)), (7, .int (-nI 2)), (4, .int (nI (mS rw mp x y 2))), (5, .int (nI (mC mp x y 2))), (6, .int (nI 2)), (0, .ref (ad ri)), (1, .ref (ad mi)), (2, .int (nI x)), (3, .int (nI y))]) hx hb dX2_mendedAt_60 hl (by decide) rfl (fun ls hl => ?_)
          refine lv_iload hx hb dX2_mendedAt_62 (lv_at hl 1 rfl) ?_
          refine lv_iload hx hb dX2_mendedAt_64 (lv_at hl 0 rfl) ?_
          refine iw_pi (va_runSN (As := [.int (nI x), .int (nI (y - 2))]) (rest := []) ⟨hx, hb, hml, hown, hts⟩ (kX6_isPlace l (nI x) (nI (y - 2))) ⟨va_cnB (host := RX6) 2 hts gX2_mendedAt_X6_isPlace_n61 rfl rfl rfl (nw_RX2_61 hK.2) (hts _ il_X2_mendedAt_iniX6) (by decide +kernel) ⟨Nat.le_of_ble_eq_true rfl, Nat.le_of_ble_eq_true rfl⟩, (hts _ il_X2_mendedAt_st_X6_isPlace), trivial⟩ ⟨fun a U g mk q => q, fun U hU hW => ⟨rfl, trivial⟩⟩ rfl rfl hl.1 rfl (lv_room (Nat.le_of_ble_eq_true rfl)) dX2_mendedAt_66 ⟨hcc, hcs⟩) hP hS (fun r8 u8 H locs hw8 hP hS => ?_)
          refine lv_asI hw8 ?_
          refine lv_asI (y := nI 1) (by rw [isPl_in (by omega) (by omega)]; rfl) ?_
          refine lv_if_eq (tgt := 101) hx hb dX2_mendedAt_69 (by decide) (fun c9 => absurd c9 (by decide)) (fun _ => ?_)
          refine lv_aload_n hx hb dX2_mendedAt_72 rfl (lv_at hl 7 rfl) ?_
          refine lv_iload hx hb dX2_mendedAt_73 (lv_at hl 1 rfl) ?_
          refine lv_iload hx hb dX2_mendedAt_75 (lv_at hl 0 rfl) ?_
          refine iw_pi (va_runSN (As := [.int (nI x), .int (nI (y - 2))]) (rest := [.ref (ad mi)]) ⟨hx, hb, hml, hown, hts⟩ (kX6_placeOf l (x) (y - 2)) ⟨va_cnB (host := RX6) 2 hts gX2_mendedAt_X6_placeOf_n54 rfl rfl rfl (nw_RX2_54 hK.2) (hts _ il_X2_mendedAt_iniX6) (by decide +kernel) ⟨Nat.le_of_ble_eq_true rfl, Nat.le_of_ble_eq_true rfl⟩, (hts _ il_X2_mendedAt_st_X6_placeOf), trivial⟩ ⟨fun a U g mk q => q, fun U hU hW => ⟨rfl, trivial⟩⟩ rfl rfl hl.1 rfl (lv_room (Nat.le_of_ble_eq_true rfl)) dX2_mendedAt_77 ⟨hcc, hcs⟩) hP hS (fun r8 u8 H locs hw8 hP hS => ?_)
          refine lv_asI hw8 ?_
          refine iw_zald (v := (bI mp) (8 * (y - 2) + x)) hx hb hK hP lmi (hmi) (vp_in_nI (show 8 * (y - 2) + x < 64 by omega) (by omega)) (congrArg (bI mp) (nI_clamp (by omega))) dX2_mendedAt_80 ?_
          refine lv_if_ne (tgt := 101) hx hb dX2_mendedAt_81 (by decide) (fun c81 => ?_) (fun c81 => ?_)
          · have e8 : mp (8 * (y - 2) + x) = true := by cases hq9 : mp (8 * (y - 2) + x) <;> simp [bI, hq9, nI] at c81 ⊢
            refine lv_iinc (v := nI 3) (lv' := [(6, .int (nI 3)), (9, .int (nI (y - 2))), (8, .int (nI x)), (7, .int (-nI 2)), (4, .int (nI (mS rw mp x y 2))), (5, .int (nI (mC mp x y 2))), (0, .ref (ad ri)), (1, .ref (ad mi)), (2, .int (nI x)), (3, .int (nI y))]) hx hb dX2_mendedAt_101 hl (k := 5) rfl (iinc_nat _ 1) (by decide) rfl (fun ls hl => ?_)
            refine lv_goto (tgt := 9) hx hb dX2_mendedAt_104 (by decide) ?_
            have e9 : mS rw mp x y (2 + 1) = mS rw mp x y 2 := by show mS rw mp x y 2 + _ = _; simp [nbOk, nbAt, hq, e8]
            have e10 : mC mp x y (2 + 1) = mC mp x y 2 := by show mC mp x y 2 + _ = _; simp [nbOk, nbAt, hq, e8]
            exact ih (2 + 1) H locs ls (by omega) (by omega) hP hD hS (by rw [e9, e10]; exact (lv_sub hl [4, 5, 0, 6, 7, 8, 9] rfl))
          · have e8 : mp (8 * (y - 2) + x) = false := by cases hq9 : mp (8 * (y - 2) + x) <;> simp [bI, hq9, nI] at c81 ⊢
            refine lv_iload hx hb dX2_mendedAt_84 (lv_at hl 3 rfl) ?_
            refine lv_aload_n hx hb dX2_mendedAt_86 rfl (lv_at hl 6 rfl) ?_
            refine lv_iload hx hb dX2_mendedAt_87 (lv_at hl 1 rfl) ?_
            refine lv_iload hx hb dX2_mendedAt_89 (lv_at hl 0 rfl) ?_
            refine iw_pi (va_runSN (As := [.int (nI x), .int (nI (y - 2))]) (rest := [.ref (ad ri), .int (nI (mS rw mp x y 2))]) ⟨hx, hb, hml, hown, hts⟩ (kX6_placeOf l (x) (y - 2)) ⟨va_cnB (host := RX6) 2 hts gX2_mendedAt_X6_placeOf_n54 rfl rfl rfl (nw_RX2_54 hK.2) (hts _ il_X2_mendedAt_iniX6) (by decide +kernel) ⟨Nat.le_of_ble_eq_true rfl, Nat.le_of_ble_eq_true rfl⟩, (hts _ il_X2_mendedAt_st_X6_placeOf), trivial⟩ ⟨fun a U g mk q => q, fun U hU hW => ⟨rfl, trivial⟩⟩ rfl rfl hl.1 rfl (lv_room (Nat.le_of_ble_eq_true rfl)) dX2_mendedAt_91 ⟨hcc, hcs⟩) hP hS (fun r8 u8 H locs hw8 hP hS => ?_)
            refine lv_asI hw8 ?_
            refine iw_iald (v := nI (rw (8 * (y - 2) + x))) hx hb hK hP lri (hri) (vp_in_nI (show 8 * (y - 2) + x < 64 by omega) (by omega)) (congrArg (fun i => nI (rw i)) (nI_clamp (by omega))) dX2_mendedAt_94 ?_
            refine lv_iadd hx hb dX2_mendedAt_95 ?_
            refine lv_asI (y := nI ((mS rw mp x y 2) + (rw (8 * (y - 2) + x)))) (nI_add _ _) ?_
            refine lv_istore (lv' := [(4, .int (nI ((mS rw mp x y 2) + (rw (8 * (y - 2) + x))))), (9, .int (nI (y - 2))), (8, .int (nI x)), (7, .int (-nI 2)), (5, .int (nI (mC mp x y 2))), (6, .int (nI 2)), (0, .ref (ad ri)), (1, .ref (ad mi)), (2, .int (nI x)), (3, .int (nI y))]) hx hb dX2_mendedAt_96 hl (by decide) rfl (fun ls hl => ?_)
            refine lv_iinc (v := nI ((mC mp x y 2) + 1)) (lv' := [(5, .int (nI ((mC mp x y 2) + 1))), (4, .int (nI ((mS rw mp x y 2) + (rw (8 * (y - 2) + x))))), (9, .int (nI (y - 2))), (8, .int (nI x)), (7, .int (-nI 2)), (6, .int (nI 2)), (0, .ref (ad ri)), (1, .ref (ad mi)), (2, .int (nI x)), (3, .int (nI y))]) hx hb dX2_mendedAt_98 hl (k := 4) rfl (iinc_nat _ 1) (by decide) rfl (fun ls hl => ?_)
            refine lv_iinc (v := nI 3) (lv' := [(6, .int (nI 3)), (5, .int (nI ((mC mp x y 2) + 1))), (4, .int (nI ((mS rw mp x y 2) + (rw (8 * (y - 2) + x))))), (9, .int (nI (y - 2))), (8, .int (nI x)), (7, .int (-nI 2)), (0, .ref (ad ri)), (1, .ref (ad mi)), (2, .int (nI x)), (3, .int (nI y))]) hx hb dX2_mendedAt_101 hl (k := 5) rfl (iinc_nat _ 1) (by decide) rfl (fun ls hl => ?_)
            refine lv_goto (tgt := 9) hx hb dX2_mendedAt_104 (by decide) ?_
            have e9 : mS rw mp x y (2 + 1) = (mS rw mp x y 2) + (rw (8 * (y - 2) + x)) := by show mS rw mp x y 2 + _ = _; simp [nbOk, nbAt, hq, e8]
            have e10 : mC mp x y (2 + 1) = (mC mp x y 2) + 1 := by show mC mp x y 2 + _ = _; simp [nbOk, nbAt, hq, e8]
            exact ih (2 + 1) H locs ls (by omega) (by omega) hP hD hS (by rw [e9, e10]; exact (lv_sub hl [2, 1, 0, 6, 7, 8, 9] rfl))
      · rcases Nat.lt_or_ge y 6 with hq0 | hq0
        · have hq : y < 6 := by omega
          refine lv_iload hx hb dX2_mendedAt_15 (lv_at hl 2 rfl) ?_
          refine lv_iconst (v := nI 2) hx hb dX2_mendedAt_17 (by decide) ?_
          refine lv_irem hx hb dX2_mendedAt_18 (by decide) ?_
          refine lv_asI (y := nI 1) (pk_rem (by omega) (by omega) (by omega)) ?_
          refine lv_if_ne (tgt := 27) hx hb dX2_mendedAt_19 (by decide) (fun _ => ?_) (fun c9 => absurd c9 (by decide))
          refine lv_iconst (v := nI 2) hx hb dX2_mendedAt_27 (by decide) ?_
          refine lv_istore (lv' := [(7, .int (nI 2)), (4, .int (nI (mS rw mp x y 3))), (5, .int (nI (mC mp x y 3))), (6, .int (nI 3)), (0, .ref (ad ri)), (1, .ref (ad mi)), (2, .int (nI x)), (3, .int (nI y))]) hx hb dX2_mendedAt_28 hl (by decide) rfl (fun ls hl => ?_)
          refine lv_iload hx hb dX2_mendedAt_30 (lv_at hl 3 rfl) ?_
          refine lv_iconst (v := nI 2) hx hb dX2_mendedAt_32 (by decide) ?_
          refine lv_icmp_ge (tgt := 43) hx hb dX2_mendedAt_33 (by decide) (fun _ => ?_) (fun c9 => absurd (by decide) c9)
          refine lv_iload_n hx hb dX2_mendedAt_43 rfl (lv_at hl 6 rfl) ?_
          refine lv_istore (lv' := [(8, .int (nI x)), (7, .int (nI 2)), (4, .int (nI (mS rw mp x y 3))), (5, .int (nI (mC mp x y 3))), (6, .int (nI 3)), (0, .ref (ad ri)), (1, .ref (ad mi)), (2, .int (nI x)), (3, .int (nI y))]) hx hb dX2_mendedAt_44 hl (by decide) rfl (fun ls hl => ?_)
          refine lv_iload hx hb dX2_mendedAt_46 (lv_at hl 4 rfl) ?_
          refine lv_iconst (v := nI 2) hx hb dX2_mendedAt_48 (by decide) ?_
          refine lv_icmp_ge (tgt := 56) hx hb dX2_mendedAt_49 (by decide) (fun _ => ?_) (fun c9 => absurd (by decide) c9)
          refine lv_iload_n hx hb dX2_mendedAt_56 rfl (lv_at hl 8 rfl) ?_
          refine lv_iload hx hb dX2_mendedAt_57 (lv_at hl 1 rfl) ?_
          refine lv_iadd hx hb dX2_mendedAt_59 ?_
          refine lv_asI (y := nI (y + 2)) (nI_add _ _) ?_
          refine lv_istore (lv' := [(9, .int (nI (y + 2))), (8, .int (nI x)), (7, .int (nI 2)), (4, .int (nI (mS rw mp x y 3))), (5, .int (nI (mC mp x y 3))), (6, .int (nI 3)), (0, .ref (ad ri)), (1, .ref (ad mi)), (2, .int (nI x)), (3, .int (nI y))]) hx hb dX2_mendedAt_60 hl (by decide) rfl (fun ls hl => ?_)
          refine lv_iload hx hb dX2_mendedAt_62 (lv_at hl 1 rfl) ?_
          refine lv_iload hx hb dX2_mendedAt_64 (lv_at hl 0 rfl) ?_
          refine iw_pi (va_runSN (As := [.int (nI x), .int (nI (y + 2))]) (rest := []) ⟨hx, hb, hml, hown, hts⟩ (kX6_isPlace l (nI x) (nI (y + 2))) ⟨va_cnB (host := RX6) 2 hts gX2_mendedAt_X6_isPlace_n61 rfl rfl rfl (nw_RX2_61 hK.2) (hts _ il_X2_mendedAt_iniX6) (by decide +kernel) ⟨Nat.le_of_ble_eq_true rfl, Nat.le_of_ble_eq_true rfl⟩, (hts _ il_X2_mendedAt_st_X6_isPlace), trivial⟩ ⟨fun a U g mk q => q, fun U hU hW => ⟨rfl, trivial⟩⟩ rfl rfl hl.1 rfl (lv_room (Nat.le_of_ble_eq_true rfl)) dX2_mendedAt_66 ⟨hcc, hcs⟩) hP hS (fun r8 u8 H locs hw8 hP hS => ?_)
          refine lv_asI hw8 ?_
          refine lv_asI (y := nI 1) (by rw [isPl_in (by omega) (by omega)]; rfl) ?_
          refine lv_if_eq (tgt := 101) hx hb dX2_mendedAt_69 (by decide) (fun c9 => absurd c9 (by decide)) (fun _ => ?_)
          refine lv_aload_n hx hb dX2_mendedAt_72 rfl (lv_at hl 7 rfl) ?_
          refine lv_iload hx hb dX2_mendedAt_73 (lv_at hl 1 rfl) ?_
          refine lv_iload hx hb dX2_mendedAt_75 (lv_at hl 0 rfl) ?_
          refine iw_pi (va_runSN (As := [.int (nI x), .int (nI (y + 2))]) (rest := [.ref (ad mi)]) ⟨hx, hb, hml, hown, hts⟩ (kX6_placeOf l (x) (y + 2)) ⟨va_cnB (host := RX6) 2 hts gX2_mendedAt_X6_placeOf_n54 rfl rfl rfl (nw_RX2_54 hK.2) (hts _ il_X2_mendedAt_iniX6) (by decide +kernel) ⟨Nat.le_of_ble_eq_true rfl, Nat.le_of_ble_eq_true rfl⟩, (hts _ il_X2_mendedAt_st_X6_placeOf), trivial⟩ ⟨fun a U g mk q => q, fun U hU hW => ⟨rfl, trivial⟩⟩ rfl rfl hl.1 rfl (lv_room (Nat.le_of_ble_eq_true rfl)) dX2_mendedAt_77 ⟨hcc, hcs⟩) hP hS (fun r8 u8 H locs hw8 hP hS => ?_)
          refine lv_asI hw8 ?_
          refine iw_zald (v := (bI mp) (8 * (y + 2) + x)) hx hb hK hP lmi (hmi) (vp_in_nI (show 8 * (y + 2) + x < 64 by omega) (by omega)) (congrArg (bI mp) (nI_clamp (by omega))) dX2_mendedAt_80 ?_
          refine lv_if_ne (tgt := 101) hx hb dX2_mendedAt_81 (by decide) (fun c81 => ?_) (fun c81 => ?_)
          · have e8 : mp (8 * (y + 2) + x) = true := by cases hq9 : mp (8 * (y + 2) + x) <;> simp [bI, hq9, nI] at c81 ⊢
            refine lv_iinc (v := nI 4) (lv' := [(6, .int (nI 4)), (9, .int (nI (y + 2))), (8, .int (nI x)), (7, .int (nI 2)), (4, .int (nI (mS rw mp x y 3))), (5, .int (nI (mC mp x y 3))), (0, .ref (ad ri)), (1, .ref (ad mi)), (2, .int (nI x)), (3, .int (nI y))]) hx hb dX2_mendedAt_101 hl (k := 5) rfl (iinc_nat _ 1) (by decide) rfl (fun ls hl => ?_)
            refine lv_goto (tgt := 9) hx hb dX2_mendedAt_104 (by decide) ?_
            have e9 : mS rw mp x y (3 + 1) = mS rw mp x y 3 := by show mS rw mp x y 3 + _ = _; simp [nbOk, nbAt, hq, e8]
            have e10 : mC mp x y (3 + 1) = mC mp x y 3 := by show mC mp x y 3 + _ = _; simp [nbOk, nbAt, hq, e8]
            exact ih (3 + 1) H locs ls (by omega) (by omega) hP hD hS (by rw [e9, e10]; exact (lv_sub hl [4, 5, 0, 6, 7, 8, 9] rfl))
          · have e8 : mp (8 * (y + 2) + x) = false := by cases hq9 : mp (8 * (y + 2) + x) <;> simp [bI, hq9, nI] at c81 ⊢
            refine lv_iload hx hb dX2_mendedAt_84 (lv_at hl 3 rfl) ?_
            refine lv_aload_n hx hb dX2_mendedAt_86 rfl (lv_at hl 6 rfl) ?_
            refine lv_iload hx hb dX2_mendedAt_87 (lv_at hl 1 rfl) ?_
            refine lv_iload hx hb dX2_mendedAt_89 (lv_at hl 0 rfl) ?_
            refine iw_pi (va_runSN (As := [.int (nI x), .int (nI (y + 2))]) (rest := [.ref (ad ri), .int (nI (mS rw mp x y 3))]) ⟨hx, hb, hml, hown, hts⟩ (kX6_placeOf l (x) (y + 2)) ⟨va_cnB (host := RX6) 2 hts gX2_mendedAt_X6_placeOf_n54 rfl rfl rfl (nw_RX2_54 hK.2) (hts _ il_X2_mendedAt_iniX6) (by decide +kernel) ⟨Nat.le_of_ble_eq_true rfl, Nat.le_of_ble_eq_true rfl⟩, (hts _ il_X2_mendedAt_st_X6_placeOf), trivial⟩ ⟨fun a U g mk q => q, fun U hU hW => ⟨rfl, trivial⟩⟩ rfl rfl hl.1 rfl (lv_room (Nat.le_of_ble_eq_true rfl)) dX2_mendedAt_91 ⟨hcc, hcs⟩) hP hS (fun r8 u8 H locs hw8 hP hS => ?_)
            refine lv_asI hw8 ?_
            refine iw_iald (v := nI (rw (8 * (y + 2) + x))) hx hb hK hP lri (hri) (vp_in_nI (show 8 * (y + 2) + x < 64 by omega) (by omega)) (congrArg (fun i => nI (rw i)) (nI_clamp (by omega))) dX2_mendedAt_94 ?_
            refine lv_iadd hx hb dX2_mendedAt_95 ?_
            refine lv_asI (y := nI ((mS rw mp x y 3) + (rw (8 * (y + 2) + x)))) (nI_add _ _) ?_
            refine lv_istore (lv' := [(4, .int (nI ((mS rw mp x y 3) + (rw (8 * (y + 2) + x))))), (9, .int (nI (y + 2))), (8, .int (nI x)), (7, .int (nI 2)), (5, .int (nI (mC mp x y 3))), (6, .int (nI 3)), (0, .ref (ad ri)), (1, .ref (ad mi)), (2, .int (nI x)), (3, .int (nI y))]) hx hb dX2_mendedAt_96 hl (by decide) rfl (fun ls hl => ?_)
            refine lv_iinc (v := nI ((mC mp x y 3) + 1)) (lv' := [(5, .int (nI ((mC mp x y 3) + 1))), (4, .int (nI ((mS rw mp x y 3) + (rw (8 * (y + 2) + x))))), (9, .int (nI (y + 2))), (8, .int (nI x)), (7, .int (nI 2)), (6, .int (nI 3)), (0, .ref (ad ri)), (1, .ref (ad mi)), (2, .int (nI x)), (3, .int (nI y))]) hx hb dX2_mendedAt_98 hl (k := 4) rfl (iinc_nat _ 1) (by decide) rfl (fun ls hl => ?_)
            refine lv_iinc (v := nI 4) (lv' := [(6, .int (nI 4)), (5, .int (nI ((mC mp x y 3) + 1))), (4, .int (nI ((mS rw mp x y 3) + (rw (8 * (y + 2) + x))))), (9, .int (nI (y + 2))), (8, .int (nI x)), (7, .int (nI 2)), (0, .ref (ad ri)), (1, .ref (ad mi)), (2, .int (nI x)), (3, .int (nI y))]) hx hb dX2_mendedAt_101 hl (k := 5) rfl (iinc_nat _ 1) (by decide) rfl (fun ls hl => ?_)
            refine lv_goto (tgt := 9) hx hb dX2_mendedAt_104 (by decide) ?_
            have e9 : mS rw mp x y (3 + 1) = (mS rw mp x y 3) + (rw (8 * (y + 2) + x)) := by show mS rw mp x y 3 + _ = _; simp [nbOk, nbAt, hq, e8]
            have e10 : mC mp x y (3 + 1) = (mC mp x y 3) + 1 := by show mC mp x y 3 + _ = _; simp [nbOk, nbAt, hq, e8]
            exact ih (3 + 1) H locs ls (by omega) (by omega) hP hD hS (by rw [e9, e10]; exact (lv_sub hl [2, 1, 0, 6, 7, 8, 9] rfl))
        · have hq : ¬ (y < 6) := by omega
          refine lv_iload hx hb dX2_mendedAt_15 (lv_at hl 2 rfl) ?_
          refine lv_iconst (v := nI 2) hx hb dX2_mendedAt_17 (by decide) ?_
          refine lv_irem hx hb dX2_mendedAt_18 (by decide) ?_
          refine lv_asI (y := nI 1) (pk_rem (by omega) (by omega) (by omega)) ?_
          refine lv_if_ne (tgt := 27) hx hb dX2_mendedAt_19 (by decide) (fun _ => ?_) (fun c9 => absurd c9 (by decide))
          refine lv_iconst (v := nI 2) hx hb dX2_mendedAt_27 (by decide) ?_
          refine lv_istore (lv' := [(7, .int (nI 2)), (4, .int (nI (mS rw mp x y 3))), (5, .int (nI (mC mp x y 3))), (6, .int (nI 3)), (0, .ref (ad ri)), (1, .ref (ad mi)), (2, .int (nI x)), (3, .int (nI y))]) hx hb dX2_mendedAt_28 hl (by decide) rfl (fun ls hl => ?_)
          refine lv_iload hx hb dX2_mendedAt_30 (lv_at hl 3 rfl) ?_
          refine lv_iconst (v := nI 2) hx hb dX2_mendedAt_32 (by decide) ?_
          refine lv_icmp_ge (tgt := 43) hx hb dX2_mendedAt_33 (by decide) (fun _ => ?_) (fun c9 => absurd (by decide) c9)
          refine lv_iload_n hx hb dX2_mendedAt_43 rfl (lv_at hl 6 rfl) ?_
          refine lv_istore (lv' := [(8, .int (nI x)), (7, .int (nI 2)), (4, .int (nI (mS rw mp x y 3))), (5, .int (nI (mC mp x y 3))), (6, .int (nI 3)), (0, .ref (ad ri)), (1, .ref (ad mi)), (2, .int (nI x)), (3, .int (nI y))]) hx hb dX2_mendedAt_44 hl (by decide) rfl (fun ls hl => ?_)
          refine lv_iload hx hb dX2_mendedAt_46 (lv_at hl 4 rfl) ?_
          refine lv_iconst (v := nI 2) hx hb dX2_mendedAt_48 (by decide) ?_
          refine lv_icmp_ge (tgt := 56) hx hb dX2_mendedAt_49 (by decide) (fun _ => ?_) (fun c9 => absurd (by decide) c9)
          refine lv_iload_n hx hb dX2_mendedAt_56 rfl (lv_at hl 8 rfl) ?_
          refine lv_iload hx hb dX2_mendedAt_57 (lv_at hl 1 rfl) ?_
          refine lv_iadd hx hb dX2_mendedAt_59 ?_
          refine lv_asI (y := nI (y + 2)) (nI_add _ _) ?_
          refine lv_istore (lv' := [(9, .int (nI (y + 2))), (8, .int (nI x)), (7, .int (nI 2)), (4, .int (nI (mS rw mp x y 3))), (5, .int (nI (mC mp x y 3))), (6, .int (nI 3)), (0, .ref (ad ri)), (1, .ref (ad mi)), (2, .int (nI x)), (3, .int (nI y))]) hx hb dX2_mendedAt_60 hl (by decide) rfl (fun ls hl => ?_)
          refine lv_iload hx hb dX2_mendedAt_62 (lv_at hl 1 rfl) ?_
          refine lv_iload hx hb dX2_mendedAt_64 (lv_at hl 0 rfl) ?_
          refine iw_pi (va_runSN (As := [.int (nI x), .int (nI (y + 2))]) (rest := []) ⟨hx, hb, hml, hown, hts⟩ (kX6_isPlace l (nI x) (nI (y + 2))) ⟨va_cnB (host := RX6) 2 hts gX2_mendedAt_X6_isPlace_n61 rfl rfl rfl (nw_RX2_61 hK.2) (hts _ il_X2_mendedAt_iniX6) (by decide +kernel) ⟨Nat.le_of_ble_eq_true rfl, Nat.le_of_ble_eq_true rfl⟩, (hts _ il_X2_mendedAt_st_X6_isPlace), trivial⟩ ⟨fun a U g mk q => q, fun U hU hW => ⟨rfl, trivial⟩⟩ rfl rfl hl.1 rfl (lv_room (Nat.le_of_ble_eq_true rfl)) dX2_mendedAt_66 ⟨hcc, hcs⟩) hP hS (fun r8 u8 H locs hw8 hP hS => ?_)
          refine lv_asI hw8 ?_
          refine lv_asI (y := nI 0) (by rw [isPl_y8 (by omega) (by omega)]; rfl) ?_
          refine lv_if_eq (tgt := 101) hx hb dX2_mendedAt_69 (by decide) (fun _ => ?_) (fun c9 => absurd (by decide) c9)
          refine lv_iinc (v := nI 4) (lv' := [(6, .int (nI 4)), (9, .int (nI (y + 2))), (8, .int (nI x)), (7, .int (nI 2)), (4, .int (nI (mS rw mp x y 3))), (5, .int (nI (mC mp x y 3))), (0, .ref (ad ri)), (1, .ref (ad mi)), (2, .int (nI x)), (3, .int (nI y))]) hx hb dX2_mendedAt_101 hl (k := 5) rfl (iinc_nat _ 1) (by decide) rfl (fun ls hl => ?_)
          refine lv_goto (tgt := 9) hx hb dX2_mendedAt_104 (by decide) ?_
          have e9 : mS rw mp x y (3 + 1) = mS rw mp x y 3 := by show mS rw mp x y 3 + _ = _; simp [nbOk, nbAt, hq]
          have e10 : mC mp x y (3 + 1) = mC mp x y 3 := by show mC mp x y 3 + _ = _; simp [nbOk, nbAt, hq]
          exact ih (3 + 1) H locs ls (by omega) (by omega) hP hD hS (by rw [e9, e10]; exact (lv_sub hl [4, 5, 0, 6, 7, 8, 9] rfl))
set_option maxHeartbeats 4000000 in
set_option maxRecDepth 100000 in
theorem kX2_mendedAt (l : Launch) (G : iG) (N : Nat) (ad : Nat → Nat) (C : Nat → va_E) {ri mi : Nat} {rw : Nat → Nat} {mp : Nat → Bool} (lri : ri < N) (lmi : mi < N) (hri : C ri = ia G 64 (fun i => nI (rw i))) (hmi : C mi = za G 64 (bI mp)) (hr9 : ∀ i, i < 64 → rw i ≤ 255) (x y : Nat) (hx8 : x < 8) (hy8 : y < 8) (sz : Nat) : Met l yX2_mendedAt wsX2_mendedAt rmX2_mendedAt (iPre G N ad C sz [.ref (ad ri), .ref (ad mi), .int (nI x), .int (nI y)]) (va_Qi (fun (r : Int32) (u : Nat → va_E) => r = nI (mdN rw mp x y) ∧ u = C) (iB G N ad) (iA N ad sz)) 0 0 (iA N ad sz) := by
  refine Met.ofW (cc := cX2_mendedAt) (maxL := 10) (ret := (some .int)) (by decide) rfl ?_
  intro p e s m args below meth c s₁ B hml hv
  obtain ⟨rfl, hsz, hP, hK, hD0⟩ := hv
  have hx := B.exec
  have hb := B.bytes
  have hr := B.returns
  have hts := atoms_spec (ws := wsX2_mendedAt) B.pre
  have hown : s.vm.findClass RX2 = some m.cls := findClass_of_methodNamed B.named
  have hlocks := B.notSynchronized
  subst hsz
  have hD := wl_self hD0 s.heap.size
  have hA : ∀ q : Nat, s.heap.size ≤ q → iA N ad s.heap.size q := fun q h => Or.inr h
  have hS : va_S (iA N ad s.heap.size) s.heap s.heap [] := va_S.rf
  have hP : va_P G.1 vwB (wl N ad C) s.heap := hP
  have hl := lv_entry ([.ref (ad ri), .ref (ad mi), .int (nI x), .int (nI y)]) (n := 10) (Nat.le_of_ble_eq_true rfl)
  rw [lg_entry_eq]
  generalize (lg_sl ([.ref (ad ri), .ref (ad mi), .int (nI x), .int (nI y)]) ++ List.replicate (10 - (lg_sl ([.ref (ad ri), .ref (ad mi), .int (nI x), .int (nI y)])).length) Slot.unset).toArray = ls at hl ⊢
  have hl : lv_has ls 10 [(0, .ref (ad ri)), (1, .ref (ad mi)), (2, .int (nI x)), (3, .int (nI y))] := hl
  have b1 := mC_le mp x y 4
  have b2 := mS_le rw hr9 mp hx8 hy8 4
  refine lv_iconst (v := nI 0) hx hb dX2_mendedAt_0 (by decide) ?_
  refine lv_istore (lv' := [(4, .int (nI 0)), (0, .ref (ad ri)), (1, .ref (ad mi)), (2, .int (nI x)), (3, .int (nI y))]) hx hb dX2_mendedAt_1 hl (by decide) rfl (fun ls hl => ?_)
  refine lv_iconst (v := nI 0) hx hb dX2_mendedAt_3 (by decide) ?_
  refine lv_istore (lv' := [(5, .int (nI 0)), (4, .int (nI 0)), (0, .ref (ad ri)), (1, .ref (ad mi)), (2, .int (nI x)), (3, .int (nI y))]) hx hb dX2_mendedAt_4 hl (by decide) rfl (fun ls hl => ?_)
  refine lv_iconst (v := nI 0) hx hb dX2_mendedAt_6 (by decide) ?_
  refine lv_istore (lv' := [(6, .int (nI 0)), (5, .int (nI 0)), (4, .int (nI 0)), (0, .ref (ad ri)), (1, .ref (ad mi)), (2, .int (nI x)), (3, .int (nI y))]) hx hb dX2_mendedAt_7 hl (by decide) rfl (fun ls hl => ?_)
  refine lX2_mendedAt hx hb hml hr hts hown hK hA (Nat.le_refl _) (Nat.le_refl _) lri lmi hri hmi hr9 hx8 hy8 (fun H locs ls hP hD hS hl => ?_) 5 0 _ _ ls (by omega) (by omega) hP hD hS (lv_sub hl [2, 1, 0, 3, 4, 5, 6] rfl)
  refine lv_iload hx hb dX2_mendedAt_107 (lv_at hl 1 rfl) ?_
  refine lv_if_ne (tgt := 122) hx hb dX2_mendedAt_109 (by decide) (fun c109 => ?_) (fun c109 => ?_)
  · have e8 : mC mp x y 4 ≠ 0 := fun e => c109 (by rw [e]; exact nI_0)
    refine lv_iload hx hb dX2_mendedAt_122 (lv_at hl 0 rfl) ?_
    refine lv_iload hx hb dX2_mendedAt_124 (lv_at hl 1 rfl) ?_
    refine lv_idiv hx hb dX2_mendedAt_126 (fun e => e8 ((nI_eq (by omega) (by omega)).mp (e.trans nI_0.symm))) ?_
    refine lv_asI (y := nI ((mS rw mp x y 4) / (mC mp x y 4))) (pk_div (by omega) (by omega) (by omega)) ?_
    exact W.iret (v := (nI ((mS rw mp x y 4) / (mC mp x y 4)))) hx hb hr (fun t ht hW => ⟨⟨_, _, rfl, ⟨by unfold mdN; first | rw [if_pos e8] | rw [if_neg e8], rfl⟩, iB_of ht hP⟩, hS.F ht⟩) hS.2.2 dX2_mendedAt_127
  · have e8 : mC mp x y 4 = 0 := (nI_eq (by omega) (by omega)).mp (c109.trans nI_0.symm)
    refine lv_aload_n hx hb dX2_mendedAt_112 rfl (lv_at hl 2 rfl) ?_
    refine lv_iload_n hx hb dX2_mendedAt_113 rfl (lv_at hl 4 rfl) ?_
    refine lv_iload_n hx hb dX2_mendedAt_114 rfl (lv_at hl 5 rfl) ?_
    refine iw_pi (va_runSN (As := [.int (nI x), .int (nI y)]) (rest := [.ref (ad ri)]) ⟨hx, hb, hml, hown, hts⟩ (kX6_placeOf l (x) (y)) ⟨va_cnB (host := RX6) 2 hts gX2_mendedAt_X6_placeOf_n54 rfl rfl rfl (nw_RX2_54 hK.2) (hts _ il_X2_mendedAt_iniX6) (by decide +kernel) ⟨Nat.le_of_ble_eq_true rfl, Nat.le_of_ble_eq_true rfl⟩, (hts _ il_X2_mendedAt_st_X6_placeOf), trivial⟩ ⟨fun a U g mk q => q, fun U hU hW => ⟨rfl, trivial⟩⟩ rfl rfl hl.1 rfl (lv_room (Nat.le_of_ble_eq_true rfl)) dX2_mendedAt_115 ⟨Nat.le_of_ble_eq_true rfl, Nat.le_of_ble_eq_true rfl⟩) hP hS (fun r8 u8 H locs hw8 hP hS => ?_)
    refine lv_asI hw8 ?_
    refine iw_iald (v := nI (rw (8 * y + x))) hx hb hK hP lri (hri) (vp_in_nI (show 8 * y + x < 64 by omega) (by omega)) (congrArg (fun i => nI (rw i)) (nI_clamp (by omega))) dX2_mendedAt_118 ?_
    refine lv_goto (tgt := 127) hx hb dX2_mendedAt_119 (by decide) ?_
    exact W.iret (v := (nI (rw (8 * y + x)))) hx hb hr (fun t ht hW => ⟨⟨_, _, rfl, ⟨by unfold mdN; first | rw [if_pos e8] | rw [if_neg e8], rfl⟩, iB_of ht hP⟩, hS.F ht⟩) hS.2.2 dX2_mendedAt_127
end
section
/-- around a place: a row of three, three rows -/
def arX (md : Nat → Nat) (x y k j a : Nat) : Nat → Nat
  | 0 => a
  | i + 1 => arX md x y k j a i + if (1 ≤ x + i ∧ x + i ≤ 8 ∧ 1 ≤ y + j ∧ y + j ≤ 8) ∧ colN (x + i - 1) (y + j - 1) = k then md (8 * (y + j - 1) + (x + i - 1)) else 0
def arY (md : Nat → Nat) (x y k : Nat) : Nat → Nat
  | 0 => 0
  | j + 1 => arX md x y k j (arY md x y k j) 3
theorem arX_le (md : Nat → Nat) (m : Nat) (hm : ∀ i, i < 64 → md i ≤ m) (x y k j a : Nat) : ∀ n, arX md x y k j a n ≤ a + m * n
  | 0 => Nat.le_refl _
  | n + 1 => by
    have h1 := arX_le md m hm x y k j a n
    unfold arX
    split
    · rename_i h
      have := hm (8 * (y + j - 1) + (x + n - 1)) (by omega)
      rw [Nat.mul_add]
      omega
    · rw [Nat.mul_add]
      omega
theorem arY_le (md : Nat → Nat) (m : Nat) (hm : ∀ i, i < 64 → md i ≤ m) (x y k : Nat) : ∀ n, arY md x y k n ≤ m * 3 * n
  | 0 => Nat.le_refl _
  | n + 1 => by
    have h1 := arY_le md m hm x y k n
    have h2 := arX_le md m hm x y k n (arY md x y k n) 3
    unfold arY
    rw [Nat.mul_add]
    omega
/-- the mean around a place -/
def arF (md : Nat → Nat) (x y k : Nat) : UInt32 := if arY (fun _ => 1) x y k 3 = 0 then FP.fconst0 else FP.fdiv (FP.i2f (nI (arY md x y k 3))) (FP.i2f (nI (arY (fun _ => 1) x y k 3)))
/-- a number of the picture ahead of the edits -/
def whF (md : Nat → Nat) (i : Nat) : UInt32 := if i % 3 = colN (i / 3 % 8) (i / 3 / 8) then FP.i2f (nI (md (i / 3))) else arF md (i / 3 % 8) (i / 3 / 8) (i % 3)
theorem arF_n (md : Nat → Nat) (x y k : Nat) : vf_n32 (arF md x y k) := by
  unfold arF
  split
  · exact fin32_n f0_ok
  · rename_i h
    have := arY_le (fun _ => 1) 1 (fun _ _ => Nat.le_refl _) x y k 3
    exact fdiv_nz (fin32_n (i2f_fin32 _)) (i2f_nz (by omega) (by omega))
theorem whF_n (md : Nat → Nat) (i : Nat) : vf_n32 (whF md i) := by
  unfold whF
  split
  · exact fin32_n (i2f_fin32 _)
  · exact arF_n md _ _ _
theorem cmp_gt {a : Nat} (ha : a < 8) {j : Nat} (hj : j < 4) : nI (a + 1) < nI (a + j) - nI 1 ↔ j = 3 := by
  rw [Int32.lt_iff_toInt_lt, pk_sub_toInt (by omega) (by omega), nI_toInt (by omega)]
  omega
theorem inc_m1 (a : Nat) : nI a - nI 1 + Int32.ofInt 1 = nI (a + 1) - nI 1 := by
  have e : Int32.ofInt 1 = nI 1 := rfl
  rw [e, ← nI_add a 1, Int32.sub_eq_add_neg, Int32.sub_eq_add_neg, Int32.add_assoc, Int32.add_assoc, Int32.add_comm (-nI 1) (nI 1)]
theorem isPl_m1 {a b : Nat} (ha : a < 11) (hb : b < 11) : isPl (nI a - nI 1) (nI b - nI 1) = decide (1 ≤ a ∧ a ≤ 8 ∧ 1 ≤ b ∧ b ≤ 8) := by
  have e1 : (nI a - nI 1 < 0) ↔ a < 1 := by
    rw [Int32.lt_iff_toInt_lt, pk_sub_toInt (by omega) (by omega)]
    show (a : Int) - (1 : Nat) < 0 ↔ _
    omega
  have e2 : (nI b - nI 1 < 0) ↔ b < 1 := by
    rw [Int32.lt_iff_toInt_lt, pk_sub_toInt (by omega) (by omega)]
    show (b : Int) - (1 : Nat) < 0 ↔ _
    omega
  have e3 : (nI 8 ≤ nI a - nI 1) ↔ 9 ≤ a := by
    rw [Int32.le_iff_toInt_le, pk_sub_toInt (by omega) (by omega), nI_toInt (by omega)]
    omega
  have e4 : (nI 8 ≤ nI b - nI 1) ↔ 9 ≤ b := by
    rw [Int32.le_iff_toInt_le, pk_sub_toInt (by omega) (by omega), nI_toInt (by omega)]
    omega
  unfold isPl
  simp only [e1, e2, e3, e4]
  rw [Bool.eq_iff_iff]
  simp only [Bool.and_eq_true, Bool.not_eq_true', decide_eq_false_iff_not, decide_eq_true_eq]
  omega
abbrev rmX2_mendAll : Room := { frames := 2, cells := 0, slots := 0, locals := 50 }
set_option maxRecDepth 20000 in
theorem il_X2_mendAll_iniX6 : (Cond.initialized RX6) ∈ wsX2_mendAll := by decide +kernel
set_option maxRecDepth 20000 in
theorem il_X2_mendAll_st_X6_placeOf : (Cond.static yX6_placeOf) ∈ wsX2_mendAll := by decide +kernel
set_option maxRecDepth 20000 in
theorem iu_X2_mendAll_2 : ∀ w ∈ u_ws RX2 TX2 2, w ∈ wsX2_mendAll := by decide +kernel
set_option maxRecDepth 20000 in
theorem il_X2_mendAll_15 : (Cond.fieldLink RX2 15 "BayerGate$Picture" "mended" "[I") ∈ wsX2_mendAll := by decide +kernel
set_option maxHeartbeats 4000000 in
set_option maxRecDepth 100000 in
theorem lX2_mendAll_x {p : Program} {l : Launch} {e : Env} {s : State} {m : MethodId} {args : Array Value} {below : List Frame} {meth : Method} {c : Code} {Q : State → Prop} {A : Nat → Prop} {H0 : Heap} {cells slots : Nat} (hx : p.tables.exec = Jvm.exec) (hb : c.code = cX2_mendAll) (hml : c.maxLocals = 8) (hr : meth.sig.returnType = none) (hts : ∀ w ∈ wsX2_mendAll, w.before args s = true) (hown : s.vm.findClass RX2 = some m.cls) {G : iG} (hK : KB G s) (hA : ∀ q, H0.size ≤ q → A q) {N : Nat} {ad : Nat → Nat} {C : Nat → va_E}  (hcc : cells ≤ rmX2_mendAll.cells) (hcs : slots ≤ rmX2_mendAll.slots) {pb pn pm : Nat} {nu : Nat → UInt32} {md : Nat → Nat} (lpb : pb < N) (lpn : pn < N) (lpm : pm < N) (hpb : C pb = ob 2 [.ref (ad pn), .ref (ad pm)]) (hpn : C pn = fa G 192 nu) (hpm : C pm = ia G 64 (fun i => nI (md i))) {ri mi : Nat} {rw : Nat → Nat} {mp : Nat → Bool} (lri : ri < N) (lmi : mi < N) (hri : C ri = ia G 64 (fun i => nI (rw i))) (hmi : C mi = za G 64 (bI mp)) (hr9 : ∀ i, i < 64 → rw i ≤ 255) (dpr : pm ≠ ri) (dpi : pm ≠ mi) {b1 : Bool} {y : Nat} (hy8 : y < 8) (kx : ∀ (H : Heap) (locs : List Loc) (ls : Array Slot), va_P G.1 vwB (wl N ad (va_up C pm (ia G 64 (fun i => nI (flI (mmN rw mp b1) md (8 * y + 8) i))))) H → va_D A (wl N ad (va_up C pm (ia G 64 (fun i => nI (flI (mmN rw mp b1) md (8 * y + 8) i))))) → va_S A H0 H locs → lv_has ls 8 [(4, .int (nI y)), (0, .ref (ad pb)), (1, .ref (ad ri)), (2, .ref (ad mi)), (3, .int (if b1 then nI 1 else nI 0))] → W p l e rmX2_mendAll s m args below meth c H locs cells slots Q (F0 m 81 ls [])) : ∀ (d : Nat) (x : Nat) (H : Heap) (locs : List Loc) (ls : Array Slot), 8 - x < d → x ≤ 8 → va_P G.1 vwB (wl N ad (va_up C pm (ia G 64 (fun i => nI (flI (mmN rw mp b1) md (8 * y + x) i))))) H → va_D A (wl N ad (va_up C pm (ia G 64 (fun i => nI (flI (mmN rw mp b1) md (8 * y + x) i))))) → va_S A H0 H locs → lv_has ls 8 [(5, .int (nI x)), (4, .int (nI y)), (0, .ref (ad pb)), (1, .ref (ad ri)), (2, .ref (ad mi)), (3, .int (if b1 then nI 1 else nI 0))] → W p l e rmX2_mendAll s m args below meth c H locs cells slots Q (F0 m 13 ls []) := by
  intro d
  induction d with
  | zero => intro x H locs ls hd; exact absurd hd (Nat.not_lt_zero _)
  | succ d ih =>
    intro x H locs ls hd h2 hP hD hS hl
    have n_pb_pn : pb ≠ pn := fun h => by rw [h, hpn] at hpb; simp at hpb
    have n_pb_pm : pb ≠ pm := fun h => by rw [h, hpm] at hpb; simp at hpb
    have n_pn_pm : pn ≠ pm := fun h => by rw [h, hpm] at hpn; simp at hpn
    refine lv_iload hx hb dX2_mendAll_13 (lv_at hl 0 rfl) ?_
    refine lv_bipush (v := nI 8) hx hb dX2_mendAll_15 (by decide) ?_
    refine lv_icmp_ge (tgt := 81) hx hb dX2_mendAll_17 (by decide) (fun c17 => ?_) (fun c17 => ?_)
    · have h5 : x = 8 := by have := (nI_leI (by omega) (by omega)).mp c17; omega
      subst h5
      exact kx H locs ls hP hD hS (lv_sub hl [1, 2, 3, 4, 5] rfl)
    · have h4 : x < 8 := by have := mt (nI_leI (by omega) (by omega)).mpr c17; omega
      refine lv_iload hx hb dX2_mendAll_20 (lv_at hl 0 rfl) ?_
      refine lv_iload hx hb dX2_mendAll_22 (lv_at hl 1 rfl) ?_
      refine iw_pi (va_runSN (As := [.int (nI x), .int (nI y)]) (rest := []) ⟨hx, hb, hml, hown, hts⟩ (kX6_placeOf l x y) ⟨va_cnB (host := RX6) 2 hts gX2_mendAll_X6_placeOf_n54 rfl rfl rfl (nw_RX2_54 hK.2) (hts _ il_X2_mendAll_iniX6) (by decide +kernel) ⟨Nat.le_of_ble_eq_true rfl, Nat.le_of_ble_eq_true rfl⟩, (hts _ il_X2_mendAll_st_X6_placeOf), trivial⟩ ⟨fun a U g mk q => q, fun U hU hW => ⟨rfl, trivial⟩⟩ rfl rfl hl.1 rfl (lv_room (Nat.le_of_ble_eq_true rfl)) dX2_mendAll_24 ⟨hcc, hcs⟩) hP hS (fun r8 u8 H locs hw8 hP hS => ?_)
      refine lv_asI hw8 ?_
      refine lv_istore (lv' := [(6, .int (nI (8 * y + x))), (5, .int (nI x)), (4, .int (nI y)), (0, .ref (ad pb)), (1, .ref (ad ri)), (2, .ref (ad mi)), (3, .int (if b1 then nI 1 else nI 0))]) hx hb dX2_mendAll_27 hl (by decide) rfl (fun ls hl => ?_)
      refine lv_iload_n hx hb dX2_mendAll_29 rfl (lv_at hl 6 rfl) ?_
      refine lv_if_eq (tgt := 44) hx hb dX2_mendAll_30 (by decide) (fun c30 => ?_) (fun c30 => ?_)
      · have e7 : b1 = false := by cases hq9 : b1 <;> simp [hq9, nI] at c30 ⊢
        refine lv_iconst (v := nI 0) hx hb dX2_mendAll_44 (by decide) ?_
        refine lv_istore (lv' := [(7, .int (nI 0)), (6, .int (nI (8 * y + x))), (5, .int (nI x)), (4, .int (nI y)), (0, .ref (ad pb)), (1, .ref (ad ri)), (2, .ref (ad mi)), (3, .int (if b1 then nI 1 else nI 0))]) hx hb dX2_mendAll_45 hl (by decide) rfl (fun ls hl => ?_)
        refine lv_aload_n hx hb dX2_mendAll_47 rfl (lv_at hl 4 rfl) ?_
        refine iw_get hx hb hts iu_X2_mendAll_2 hown hK hP lpb ((va_un _ _ n_pb_pm).trans (hpb)) rfl 1 (by decide) (hts _ il_X2_mendAll_15) (fun _ h9 => h9) rfl dX2_mendAll_48 ?_
        refine lv_iload hx hb dX2_mendAll_51 (lv_at hl 1 rfl) ?_
        refine lv_iload hx hb dX2_mendAll_53 (lv_at hl 0 rfl) ?_
        refine lv_if_eq (tgt := 70) hx hb dX2_mendAll_55 (by decide) (fun _ => ?_) (fun c9 => absurd (by decide) c9)
        refine lv_aload_n hx hb dX2_mendAll_70 rfl (lv_at hl 5 rfl) ?_
        refine lv_iload hx hb dX2_mendAll_71 (lv_at hl 1 rfl) ?_
        refine iw_iald (v := nI (rw (8 * y + x))) hx hb hK hP lri ((va_un _ _ (Ne.symm dpr)).trans (hri)) (vp_in_nI (show 8 * y + x < 64 by omega) (by omega)) (congrArg (fun i => nI (rw i)) (nI_clamp (by omega))) dX2_mendAll_73 ?_
        refine lv_asI (y := nI (mmN rw mp b1 (8 * y + x))) (by unfold mmN; rw [show (8 * y + x) % 8 = x by omega, show (8 * y + x) / 8 = y by omega]; rw [if_neg (fun h => by rw [e7] at h; cases h.1)]) ?_
        refine iw_iast hx hb hK hP hD hS lpm (va_us _ _ _) (vp_in_nI (show 8 * y + x < 64 by omega) (by omega)) (nI_clamp (by omega)) dX2_mendAll_74 (fun H locs hP hD hS => ?_)
        rw [va_uu _ _ _ _] at hP hD
        refine lv_iinc (v := nI (x + 1)) (lv' := [(5, .int (nI (x + 1))), (7, .int (nI 0)), (6, .int (nI (8 * y + x))), (4, .int (nI y)), (0, .ref (ad pb)), (1, .ref (ad ri)), (2, .ref (ad mi)), (3, .int (if b1 then nI 1 else nI 0))]) hx hb dX2_mendAll_75 hl (k := 2) rfl (iinc_nat _ 1) (by decide) rfl (fun ls hl => ?_)
        refine lv_goto (tgt := 13) hx hb dX2_mendAll_78 (by decide) ?_
        rw [flI_n] at hP hD
        exact ih (x + 1) H locs ls (by omega) (by omega) hP hD hS (lv_sub hl [0, 3, 4, 5, 6, 7] rfl)
      · have e7 : b1 = true := by cases hq9 : b1 <;> simp [hq9, nI] at c30 ⊢
        refine lv_aload_n hx hb dX2_mendAll_33 rfl (lv_at hl 5 rfl) ?_
        refine lv_iload hx hb dX2_mendAll_34 (lv_at hl 0 rfl) ?_
        refine iw_zald (v := (bI mp) (8 * y + x)) hx hb hK hP lmi ((va_un _ _ (Ne.symm dpi)).trans (hmi)) (vp_in_nI (show 8 * y + x < 64 by omega) (by omega)) (congrArg (bI mp) (nI_clamp (by omega))) dX2_mendAll_36 ?_
        refine lv_if_eq (tgt := 44) hx hb dX2_mendAll_37 (by decide) (fun c37 => ?_) (fun c37 => ?_)
        · have e8 : mp (8 * y + x) = false := by cases hq9 : mp (8 * y + x) <;> simp [bI, hq9, nI] at c37 ⊢
          refine lv_iconst (v := nI 0) hx hb dX2_mendAll_44 (by decide) ?_
          refine lv_istore (lv' := [(7, .int (nI 0)), (6, .int (nI (8 * y + x))), (5, .int (nI x)), (4, .int (nI y)), (0, .ref (ad pb)), (1, .ref (ad ri)), (2, .ref (ad mi)), (3, .int (if b1 then nI 1 else nI 0))]) hx hb dX2_mendAll_45 hl (by decide) rfl (fun ls hl => ?_)
          refine lv_aload_n hx hb dX2_mendAll_47 rfl (lv_at hl 4 rfl) ?_
          refine iw_get hx hb hts iu_X2_mendAll_2 hown hK hP lpb ((va_un _ _ n_pb_pm).trans (hpb)) rfl 1 (by decide) (hts _ il_X2_mendAll_15) (fun _ h9 => h9) rfl dX2_mendAll_48 ?_
          refine lv_iload hx hb dX2_mendAll_51 (lv_at hl 1 rfl) ?_
          refine lv_iload hx hb dX2_mendAll_53 (lv_at hl 0 rfl) ?_
          refine lv_if_eq (tgt := 70) hx hb dX2_mendAll_55 (by decide) (fun _ => ?_) (fun c9 => absurd (by decide) c9)
          refine lv_aload_n hx hb dX2_mendAll_70 rfl (lv_at hl 5 rfl) ?_
          refine lv_iload hx hb dX2_mendAll_71 (lv_at hl 1 rfl) ?_
          refine iw_iald (v := nI (rw (8 * y + x))) hx hb hK hP lri ((va_un _ _ (Ne.symm dpr)).trans (hri)) (vp_in_nI (show 8 * y + x < 64 by omega) (by omega)) (congrArg (fun i => nI (rw i)) (nI_clamp (by omega))) dX2_mendAll_73 ?_
          refine lv_asI (y := nI (mmN rw mp b1 (8 * y + x))) (by unfold mmN; rw [show (8 * y + x) % 8 = x by omega, show (8 * y + x) / 8 = y by omega]; rw [if_neg (fun h => by rw [e8] at h; cases h.2)]) ?_
          refine iw_iast hx hb hK hP hD hS lpm (va_us _ _ _) (vp_in_nI (show 8 * y + x < 64 by omega) (by omega)) (nI_clamp (by omega)) dX2_mendAll_74 (fun H locs hP hD hS => ?_)
          rw [va_uu _ _ _ _] at hP hD
          refine lv_iinc (v := nI (x + 1)) (lv' := [(5, .int (nI (x + 1))), (7, .int (nI 0)), (6, .int (nI (8 * y + x))), (4, .int (nI y)), (0, .ref (ad pb)), (1, .ref (ad ri)), (2, .ref (ad mi)), (3, .int (if b1 then nI 1 else nI 0))]) hx hb dX2_mendAll_75 hl (k := 2) rfl (iinc_nat _ 1) (by decide) rfl (fun ls hl => ?_)
          refine lv_goto (tgt := 13) hx hb dX2_mendAll_78 (by decide) ?_
          rw [flI_n] at hP hD
          exact ih (x + 1) H locs ls (by omega) (by omega) hP hD hS (lv_sub hl [0, 3, 4, 5, 6, 7] rfl)
        · have e8 : mp (8 * y + x) = true := by cases hq9 : mp (8 * y + x) <;> simp [bI, hq9, nI] at c37 ⊢
          refine lv_iconst (v := nI 1) hx hb dX2_mendAll_40 (by decide) ?_
          refine lv_goto (tgt := 45) hx hb dX2_mendAll_41 (by decide) ?_
          refine lv_istore (lv' := [(7, .int (nI 1)), (6, .int (nI (8 * y + x))), (5, .int (nI x)), (4, .int (nI y)), (0, .ref (ad pb)), (1, .ref (ad ri)), (2, .ref (ad mi)), (3, .int (if b1 then nI 1 else nI 0))]) hx hb dX2_mendAll_45 hl (by decide) rfl (fun ls hl => ?_)
          refine lv_aload_n hx hb dX2_mendAll_47 rfl (lv_at hl 4 rfl) ?_
          refine iw_get hx hb hts iu_X2_mendAll_2 hown hK hP lpb ((va_un _ _ n_pb_pm).trans (hpb)) rfl 1 (by decide) (hts _ il_X2_mendAll_15) (fun _ h9 => h9) rfl dX2_mendAll_48 ?_
          refine lv_iload hx hb dX2_mendAll_51 (lv_at hl 1 rfl) ?_
          refine lv_iload hx hb dX2_mendAll_53 (lv_at hl 0 rfl) ?_
          refine lv_if_eq (tgt := 70) hx hb dX2_mendAll_55 (by decide) (fun c9 => absurd c9 (by decide)) (fun _ => ?_)
          refine lv_aload_n hx hb dX2_mendAll_58 rfl (lv_at hl 5 rfl) ?_
          refine lv_aload_n hx hb dX2_mendAll_59 rfl (lv_at hl 6 rfl) ?_
          refine lv_iload hx hb dX2_mendAll_60 (lv_at hl 2 rfl) ?_
          refine lv_iload hx hb dX2_mendAll_62 (lv_at hl 3 rfl) ?_
          refine iw_i (va_runS (As := [.ref (ad ri), .ref (ad mi), .int (nI x), .int (nI y)]) (rest := [.int (nI (8 * y + x)), .ref (ad pm)]) ⟨hx, hb, hml, hown, hts⟩ (kX2_mendedAt l G N ad _ lri lmi ((va_un _ _ (Ne.symm dpr)).trans (hri)) ((va_un _ _ (Ne.symm dpi)).trans (hmi)) hr9 x y (by omega) hy8 _) (va_cwS 4 hts gX2_mendAll_X2_mendedAt rfl rfl rfl (by decide +kernel) ⟨Nat.le_of_ble_eq_true rfl, Nat.le_of_ble_eq_true rfl⟩) (iPS hK hP hD [.ref (ad ri), .ref (ad mi), .int (nI x), .int (nI y)]) rfl rfl hl.1 rfl (lv_room (Nat.le_of_ble_eq_true rfl)) dX2_mendAll_64 ⟨hcc, hcs⟩) hD hS hA (fun r8 u8 H locs hw8 hP hD hS => ?_)
          obtain ⟨hr8, hu8⟩ := hw8
          refine lv_asI hr8 ?_
          rw [hu8] at hP hD
          refine lv_goto (tgt := 74) hx hb dX2_mendAll_67 (by decide) ?_
          refine lv_asI (y := nI (mmN rw mp b1 (8 * y + x))) (by unfold mmN; rw [show (8 * y + x) % 8 = x by omega, show (8 * y + x) / 8 = y by omega]; rw [if_pos ⟨e7, e8⟩]) ?_
          refine iw_iast hx hb hK hP hD hS lpm (va_us _ _ _) (vp_in_nI (show 8 * y + x < 64 by omega) (by omega)) (nI_clamp (by omega)) dX2_mendAll_74 (fun H locs hP hD hS => ?_)
          rw [va_uu _ _ _ _] at hP hD
          refine lv_iinc (v := nI (x + 1)) (lv' := [(5, .int (nI (x + 1))), (7, .int (nI 1)), (6, .int (nI (8 * y + x))), (4, .int (nI y)), (0, .ref (ad pb)), (1, .ref (ad ri)), (2, .ref (ad mi)), (3, .int (if b1 then nI 1 else nI 0))]) hx hb dX2_mendAll_75 hl (k := 2) rfl (iinc_nat _ 1) (by decide) rfl (fun ls hl => ?_)
          refine lv_goto (tgt := 13) hx hb dX2_mendAll_78 (by decide) ?_
          rw [flI_n] at hP hD
          exact ih (x + 1) H locs ls (by omega) (by omega) hP hD hS (lv_sub hl [0, 3, 4, 5, 6, 7] rfl)
set_option maxHeartbeats 4000000 in
set_option maxRecDepth 100000 in
theorem lX2_mendAll_y {p : Program} {l : Launch} {e : Env} {s : State} {m : MethodId} {args : Array Value} {below : List Frame} {meth : Method} {c : Code} {Q : State → Prop} {A : Nat → Prop} {H0 : Heap} {cells slots : Nat} (hx : p.tables.exec = Jvm.exec) (hb : c.code = cX2_mendAll) (hml : c.maxLocals = 8) (hr : meth.sig.returnType = none) (hts : ∀ w ∈ wsX2_mendAll, w.before args s = true) (hown : s.vm.findClass RX2 = some m.cls) {G : iG} (hK : KB G s) (hA : ∀ q, H0.size ≤ q → A q) {N : Nat} {ad : Nat → Nat} {C : Nat → va_E}  (hcc : cells ≤ rmX2_mendAll.cells) (hcs : slots ≤ rmX2_mendAll.slots) {pb pn pm : Nat} {nu : Nat → UInt32} {md : Nat → Nat} (lpb : pb < N) (lpn : pn < N) (lpm : pm < N) (hpb : C pb = ob 2 [.ref (ad pn), .ref (ad pm)]) (hpn : C pn = fa G 192 nu) (hpm : C pm = ia G 64 (fun i => nI (md i))) {ri mi : Nat} {rw : Nat → Nat} {mp : Nat → Bool} (lri : ri < N) (lmi : mi < N) (hri : C ri = ia G 64 (fun i => nI (rw i))) (hmi : C mi = za G 64 (bI mp)) (hr9 : ∀ i, i < 64 → rw i ≤ 255) (dpr : pm ≠ ri) (dpi : pm ≠ mi) {b1 : Bool} (kx : ∀ (H : Heap) (locs : List Loc) (ls : Array Slot), va_P G.1 vwB (wl N ad (va_up C pm (ia G 64 (fun i => nI (flI (mmN rw mp b1) md (8 * 8) i))))) H → va_D A (wl N ad (va_up C pm (ia G 64 (fun i => nI (flI (mmN rw mp b1) md (8 * 8) i))))) → va_S A H0 H locs → lv_has ls 8 [(0, .ref (ad pb))] → W p l e rmX2_mendAll s m args below meth c H locs cells slots Q (F0 m 87 ls [])) : ∀ (d : Nat) (y : Nat) (H : Heap) (locs : List Loc) (ls : Array Slot), 8 - y < d → y ≤ 8 → va_P G.1 vwB (wl N ad (va_up C pm (ia G 64 (fun i => nI (flI (mmN rw mp b1) md (8 * y) i))))) H → va_D A (wl N ad (va_up C pm (ia G 64 (fun i => nI (flI (mmN rw mp b1) md (8 * y) i))))) → va_S A H0 H locs → lv_has ls 8 [(4, .int (nI y)), (0, .ref (ad pb)), (1, .ref (ad ri)), (2, .ref (ad mi)), (3, .int (if b1 then nI 1 else nI 0))] → W p l e rmX2_mendAll s m args below meth c H locs cells slots Q (F0 m 3 ls []) := by
  intro d
  induction d with
  | zero => intro y H locs ls hd; exact absurd hd (Nat.not_lt_zero _)
  | succ d ih =>
    intro y H locs ls hd h2 hP hD hS hl
    refine lv_iload hx hb dX2_mendAll_3 (lv_at hl 0 rfl) ?_
    refine lv_bipush (v := nI 8) hx hb dX2_mendAll_5 (by decide) ?_
    refine lv_icmp_ge (tgt := 87) hx hb dX2_mendAll_7 (by decide) (fun c7 => ?_) (fun c7 => ?_)
    · have h5 : y = 8 := by have := (nI_leI (by omega) (by omega)).mp c7; omega
      subst h5
      exact kx H locs ls hP hD hS (lv_sub hl [1] rfl)
    · have h4 : y < 8 := by have := mt (nI_leI (by omega) (by omega)).mpr c7; omega
      refine lv_iconst (v := nI 0) hx hb dX2_mendAll_10 (by decide) ?_
      refine lv_istore (lv' := [(5, .int (nI 0)), (4, .int (nI y)), (0, .ref (ad pb)), (1, .ref (ad ri)), (2, .ref (ad mi)), (3, .int (if b1 then nI 1 else nI 0))]) hx hb dX2_mendAll_11 hl (by decide) rfl (fun ls hl => ?_)
      refine lX2_mendAll_x hx hb hml hr hts hown hK hA hcc hcs lpb lpn lpm hpb hpn hpm lri lmi hri hmi hr9 dpr dpi h4 (fun H locs ls hP hD hS hl => ?_) 9 0 H locs ls (by omega) (by omega) hP hD hS (lv_sub hl [0, 1, 2, 3, 4, 5] rfl)
      refine lv_iinc (v := nI (y + 1)) (lv' := [(4, .int (nI (y + 1))), (0, .ref (ad pb)), (1, .ref (ad ri)), (2, .ref (ad mi)), (3, .int (if b1 then nI 1 else nI 0))]) hx hb dX2_mendAll_81 hl (k := 0) rfl (iinc_nat _ 1) (by decide) rfl (fun ls hl => ?_)
      refine lv_goto (tgt := 3) hx hb dX2_mendAll_84 (by decide) ?_
      exact ih (y + 1) H locs ls (by omega) (by omega) hP hD hS (lv_sub hl [0, 1, 2, 3, 4] rfl)
set_option maxHeartbeats 4000000 in
set_option maxRecDepth 100000 in
theorem kX2_mendAll (l : Launch) (G : iG) (N : Nat) (ad : Nat → Nat) (C : Nat → va_E) {pb pn pm : Nat} {nu : Nat → UInt32} {md : Nat → Nat} (lpb : pb < N) (lpn : pn < N) (lpm : pm < N) (hpb : C pb = ob 2 [.ref (ad pn), .ref (ad pm)]) (hpn : C pn = fa G 192 nu) (hpm : C pm = ia G 64 (fun i => nI (md i))) {ri mi : Nat} {rw : Nat → Nat} {mp : Nat → Bool} (lri : ri < N) (lmi : mi < N) (hri : C ri = ia G 64 (fun i => nI (rw i))) (hmi : C mi = za G 64 (bI mp)) (hr9 : ∀ i, i < 64 → rw i ≤ 255) (dpr : pm ≠ ri) (dpi : pm ≠ mi) {b1 : Bool} (sz : Nat) : Met l yX2_mendAll wsX2_mendAll rmX2_mendAll (iPre G N ad C sz [.ref (ad pb), .ref (ad ri), .ref (ad mi), .int (if b1 then nI 1 else nI 0)]) (va_Qv (fun (u : Nat → va_E) => u = va_up C pm (ia G 64 (fun i => nI (mmN rw mp b1 i)))) (iB G N ad) (iA N ad sz)) 0 0 (iA N ad sz) := by
  refine Met.ofW (cc := cX2_mendAll) (maxL := 8) (ret := none) (by decide) rfl ?_
  intro p e s m args below meth c s₁ B hml hv
  obtain ⟨rfl, hsz, hP, hK, hD0⟩ := hv
  have hx := B.exec
  have hb := B.bytes
  have hr := B.returns
  have hts := atoms_spec (ws := wsX2_mendAll) B.pre
  have hown : s.vm.findClass RX2 = some m.cls := findClass_of_methodNamed B.named
  have hlocks := B.notSynchronized
  subst hsz
  have hD := wl_self hD0 s.heap.size
  have hA : ∀ q : Nat, s.heap.size ≤ q → iA N ad s.heap.size q := fun q h => Or.inr h
  have hS : va_S (iA N ad s.heap.size) s.heap s.heap [] := va_S.rf
  have hP : va_P G.1 vwB (wl N ad C) s.heap := hP
  have hl := lv_entry ([.ref (ad pb), .ref (ad ri), .ref (ad mi), .int (if b1 then nI 1 else nI 0)]) (n := 8) (Nat.le_of_ble_eq_true rfl)
  rw [lg_entry_eq]
  generalize (lg_sl ([.ref (ad pb), .ref (ad ri), .ref (ad mi), .int (if b1 then nI 1 else nI 0)]) ++ List.replicate (8 - (lg_sl ([.ref (ad pb), .ref (ad ri), .ref (ad mi), .int (if b1 then nI 1 else nI 0)])).length) Slot.unset).toArray = ls at hl ⊢
  have hl : lv_has ls 8 [(0, .ref (ad pb)), (1, .ref (ad ri)), (2, .ref (ad mi)), (3, .int (if b1 then nI 1 else nI 0))] := hl
  have n_pb_pn : pb ≠ pn := fun h => by rw [h, hpn] at hpb; simp at hpb
  have n_pb_pm : pb ≠ pm := fun h => by rw [h, hpm] at hpb; simp at hpb
  have n_pn_pm : pn ≠ pm := fun h => by rw [h, hpm] at hpn; simp at hpn
  refine lv_iconst (v := nI 0) hx hb dX2_mendAll_0 (by decide) ?_
  refine lv_istore (lv' := [(4, .int (nI 0)), (0, .ref (ad pb)), (1, .ref (ad ri)), (2, .ref (ad mi)), (3, .int (if b1 then nI 1 else nI 0))]) hx hb dX2_mendAll_1 hl (by decide) rfl (fun ls hl => ?_)
  have hP := wl_selfE hP hpm
  have hD := wl_D hD (va_up C pm (ia G 64 (fun i => nI (md i))))
  refine lX2_mendAll_y hx hb hml hr hts hown hK hA (Nat.le_refl _) (Nat.le_refl _) lpb lpn lpm hpb hpn hpm lri lmi hri hmi hr9 dpr dpi (fun H locs ls hP hD hS hl => ?_) 9 0 _ _ ls (by omega) (by omega) hP hD hS (lv_sub hl [0, 1, 2, 3, 4] rfl)
  have hP := wl_ia (g := fun i => nI (mmN rw mp b1 i)) hP (fun k hk => by simp [flI, show k < 64 from hk])
  exact W.vret hx hb hr (fun t ht hW => ⟨⟨_, rfl, rfl, iB_of ht hP⟩, hS.F ht⟩) hS.2.2 dX2_mendAll_87
abbrev rmX2_meanAround : Room := { frames := 1, cells := 0, slots := 0, locals := 21 }
set_option maxRecDepth 20000 in
theorem il_X2_meanAround_iniX6 : (Cond.initialized RX6) ∈ wsX2_meanAround := by decide +kernel
set_option maxRecDepth 20000 in
theorem il_X2_meanAround_st_X6_isPlace : (Cond.static yX6_isPlace) ∈ wsX2_meanAround := by decide +kernel
set_option maxRecDepth 20000 in
theorem il_X2_meanAround_st_X6_colourSeen : (Cond.static yX6_colourSeen) ∈ wsX2_meanAround := by decide +kernel
set_option maxRecDepth 20000 in
theorem iu_X2_meanAround_2 : ∀ w ∈ u_ws RX2 TX2 2, w ∈ wsX2_meanAround := by decide +kernel
set_option maxRecDepth 20000 in
theorem il_X2_meanAround_15 : (Cond.fieldLink RX2 15 "BayerGate$Picture" "mended" "[I") ∈ wsX2_meanAround := by decide +kernel
set_option maxRecDepth 20000 in
theorem il_X2_meanAround_st_X6_placeOf : (Cond.static yX6_placeOf) ∈ wsX2_meanAround := by decide +kernel
set_option maxHeartbeats 4000000 in
set_option maxRecDepth 100000 in
theorem lX2_meanAround_x {p : Program} {l : Launch} {e : Env} {s : State} {m : MethodId} {args : Array Value} {below : List Frame} {meth : Method} {c : Code} {Q : State → Prop} {A : Nat → Prop} {H0 : Heap} {cells slots : Nat} (hx : p.tables.exec = Jvm.exec) (hb : c.code = cX2_meanAround) (hml : c.maxLocals = 8) (hr : meth.sig.returnType = (some .float)) (hts : ∀ w ∈ wsX2_meanAround, w.before args s = true) (hown : s.vm.findClass RX2 = some m.cls) {G : iG} (hK : KB G s) (hA : ∀ q, H0.size ≤ q → A q) {N : Nat} {ad : Nat → Nat} {C : Nat → va_E}  (hcc : cells ≤ rmX2_meanAround.cells) (hcs : slots ≤ rmX2_meanAround.slots) {pb pn pm : Nat} {nu : Nat → UInt32} {md : Nat → Nat} (lpb : pb < N) (lpn : pn < N) (lpm : pm < N) (hpb : C pb = ob 2 [.ref (ad pn), .ref (ad pm)]) (hpn : C pn = fa G 192 nu) (hpm : C pm = ia G 64 (fun i => nI (md i))) (hm9 : ∀ i, i < 64 → md i ≤ 255) {x y k j a1 a2 : Nat} (hx8 : x < 8) (hy8 : y < 8) (hk3 : k < 3) (hj3 : j < 3) (kx : ∀ (H : Heap) (locs : List Loc) (ls : Array Slot), va_P G.1 vwB (wl N ad (C)) H → va_D A (wl N ad (C)) → va_S A H0 H locs → lv_has ls 8 [(4, .int (nI (arX md x y k j a1 3))), (5, .int (nI (arX (fun _ => 1) x y k j a2 3))), (6, .int (nI (y + j) - nI 1)), (0, .ref (ad pb)), (1, .int (nI x)), (2, .int (nI y)), (3, .int (nI k))] → W p l e rmX2_meanAround s m args below meth c H locs cells slots Q (F0 m 79 ls [])) : ∀ (d : Nat) (i : Nat) (H : Heap) (locs : List Loc) (ls : Array Slot), 3 - i < d → i ≤ 3 → va_P G.1 vwB (wl N ad C) H → va_D A (wl N ad C) → va_S A H0 H locs → lv_has ls 8 [(4, .int (nI (arX md x y k j a1 i))), (5, .int (nI (arX (fun _ => 1) x y k j a2 i))), (7, .int (nI (x + i) - nI 1)), (6, .int (nI (y + j) - nI 1)), (0, .ref (ad pb)), (1, .int (nI x)), (2, .int (nI y)), (3, .int (nI k))] → W p l e rmX2_meanAround s m args below meth c H locs cells slots Q (F0 m 24 ls []) := by
  intro d
  induction d with
  | zero => intro i H locs ls hd; exact absurd hd (Nat.not_lt_zero _)
  | succ d ih =>
    intro i H locs ls hd h2 hP hD hS hl
    refine lv_iload hx hb dX2_meanAround_24 (lv_at hl 2 rfl) ?_
    refine lv_iload_n hx hb dX2_meanAround_26 rfl (lv_at hl 5 rfl) ?_
    refine lv_iconst (v := nI 1) hx hb dX2_meanAround_27 (by decide) ?_
    refine lv_iadd hx hb dX2_meanAround_28 ?_
    refine lv_asI (y := nI (x + 1)) (nI_add _ _) ?_
    refine lv_icmp_gt (tgt := 79) hx hb dX2_meanAround_29 (by decide) (fun c29 => ?_) (fun c29 => ?_)
    · have h5 : i = 3 := (cmp_gt hx8 (by omega)).mp c29
      subst h5
      exact kx H locs ls hP hD hS (lv_sub hl [0, 1, 3, 4, 5, 6, 7] rfl)
    · have h4 : i < 3 := by have := mt (cmp_gt hx8 (by omega)).mpr c29; omega
      refine lv_iload hx hb dX2_meanAround_32 (lv_at hl 2 rfl) ?_
      refine lv_iload hx hb dX2_meanAround_34 (lv_at hl 3 rfl) ?_
      refine iw_pi (va_runSN (As := [.int (nI (x + i) - nI 1), .int (nI (y + j) - nI 1)]) (rest := []) ⟨hx, hb, hml, hown, hts⟩ (kX6_isPlace l (nI (x + i) - nI 1) (nI (y + j) - nI 1)) ⟨va_cnB (host := RX6) 2 hts gX2_meanAround_X6_isPlace_n61 rfl rfl rfl (nw_RX2_61 hK.2) (hts _ il_X2_meanAround_iniX6) (by decide +kernel) ⟨Nat.le_of_ble_eq_true rfl, Nat.le_of_ble_eq_true rfl⟩, (hts _ il_X2_meanAround_st_X6_isPlace), trivial⟩ ⟨fun a U g mk q => q, fun U hU hW => ⟨rfl, trivial⟩⟩ rfl rfl hl.1 rfl (lv_room (Nat.le_of_ble_eq_true rfl)) dX2_meanAround_36 ⟨hcc, hcs⟩) hP hS (fun r8 u8 H locs hw8 hP hS => ?_)
      refine lv_asI hw8 ?_
      refine lv_if_eq (tgt := 73) hx hb dX2_meanAround_39 (by decide) (fun c39 => ?_) (fun c39 => ?_)
      · have e7 : ¬ (1 ≤ x + i ∧ x + i ≤ 8 ∧ 1 ≤ y + j ∧ y + j ≤ 8) := by rw [isPl_m1 (by omega) (by omega)] at c39; intro h9; simp [h9, nI] at c39
        refine lv_iinc (v := nI (x + i + 1) - nI 1) (lv' := [(7, .int (nI (x + i + 1) - nI 1)), (4, .int (nI (arX md x y k j a1 i))), (5, .int (nI (arX (fun _ => 1) x y k j a2 i))), (6, .int (nI (y + j) - nI 1)), (0, .ref (ad pb)), (1, .int (nI x)), (2, .int (nI y)), (3, .int (nI k))]) hx hb dX2_meanAround_73 hl (k := 2) rfl (inc_m1 _) (by decide) rfl (fun ls hl => ?_)
        refine lv_goto (tgt := 24) hx hb dX2_meanAround_76 (by decide) ?_
        have e9 : arX md x y k j a1 (i + 1) = arX md x y k j a1 i := by show arX md x y k j a1 i + _ = _; simp [*]
        have e10 : arX (fun _ => 1) x y k j a2 (i + 1) = arX (fun _ => 1) x y k j a2 i := by show arX (fun _ => 1) x y k j a2 i + _ = _; simp [*]
        exact ih (i + 1) H locs ls (by omega) (by omega) hP hD hS (by rw [e9, e10]; exact (lv_sub hl [1, 2, 0, 3, 4, 5, 6, 7] rfl))
      · have e7 : 1 ≤ x + i ∧ x + i ≤ 8 ∧ 1 ≤ y + j ∧ y + j ≤ 8 := by rw [isPl_m1 (by omega) (by omega)] at c39; by_cases h9 : 1 ≤ x + i ∧ x + i ≤ 8 ∧ 1 ≤ y + j ∧ y + j ≤ 8; exact h9; simp [h9, nI] at c39
        refine lv_iload hx hb dX2_meanAround_42 (lv_at hl 2 rfl) ?_
        refine lv_asI (y := nI (x + i - 1)) (pk_sub (by omega)) ?_
        refine lv_iload hx hb dX2_meanAround_44 (lv_at hl 3 rfl) ?_
        refine lv_asI (y := nI (y + j - 1)) (pk_sub (by omega)) ?_
        refine iw_pi (va_runSN (As := [.int (nI (x + i - 1)), .int (nI (y + j - 1))]) (rest := []) ⟨hx, hb, hml, hown, hts⟩ (kX6_colourSeen l (x + i - 1) (y + j - 1) (by omega) (by omega)) ⟨va_cnB (host := RX6) 2 hts gX2_meanAround_X6_colourSeen_n65 rfl rfl rfl (nw_RX2_65 hK.2) (hts _ il_X2_meanAround_iniX6) (by decide +kernel) ⟨Nat.le_of_ble_eq_true rfl, Nat.le_of_ble_eq_true rfl⟩, (hts _ il_X2_meanAround_st_X6_colourSeen), trivial⟩ ⟨fun a U g mk q => q, fun U hU hW => ⟨rfl, trivial⟩⟩ rfl rfl hl.1 rfl (lv_room (Nat.le_of_ble_eq_true rfl)) dX2_meanAround_46 ⟨hcc, hcs⟩) hP hS (fun r8 u8 H locs hw8 hP hS => ?_)
        refine lv_asI hw8 ?_
        refine lv_iload_n hx hb dX2_meanAround_49 rfl (lv_at hl 7 rfl) ?_
        refine lv_icmp_ne (tgt := 73) hx hb dX2_meanAround_50 (by decide) (fun c50 => ?_) (fun c50 => ?_)
        · have e8 : ¬ colN (x + i - 1) (y + j - 1) = k := fun e => c50 (by rw [e])
          refine lv_iinc (v := nI (x + i + 1) - nI 1) (lv' := [(7, .int (nI (x + i + 1) - nI 1)), (4, .int (nI (arX md x y k j a1 i))), (5, .int (nI (arX (fun _ => 1) x y k j a2 i))), (6, .int (nI (y + j) - nI 1)), (0, .ref (ad pb)), (1, .int (nI x)), (2, .int (nI y)), (3, .int (nI k))]) hx hb dX2_meanAround_73 hl (k := 2) rfl (inc_m1 _) (by decide) rfl (fun ls hl => ?_)
          refine lv_goto (tgt := 24) hx hb dX2_meanAround_76 (by decide) ?_
          have e9 : arX md x y k j a1 (i + 1) = arX md x y k j a1 i := by show arX md x y k j a1 i + _ = _; simp [*]
          have e10 : arX (fun _ => 1) x y k j a2 (i + 1) = arX (fun _ => 1) x y k j a2 i := by show arX (fun _ => 1) x y k j a2 i + _ = _; simp [*]
          exact ih (i + 1) H locs ls (by omega) (by omega) hP hD hS (by rw [e9, e10]; exact (lv_sub hl [1, 2, 0, 3, 4, 5, 6, 7] rfl))
        · have e8 : colN (x + i - 1) (y + j - 1) = k := (nI_eq (by have := colN_lt (x + i - 1) (y + j - 1); omega) (by omega)).mp c50
          refine lv_iload hx hb dX2_meanAround_53 (lv_at hl 0 rfl) ?_
          refine lv_aload_n hx hb dX2_meanAround_55 rfl (lv_at hl 4 rfl) ?_
          refine iw_get hx hb hts iu_X2_meanAround_2 hown hK hP lpb (hpb) rfl 1 (by decide) (hts _ il_X2_meanAround_15) (fun _ h9 => h9) rfl dX2_meanAround_56 ?_
          refine lv_iload hx hb dX2_meanAround_59 (lv_at hl 2 rfl) ?_
          refine lv_asI (y := nI (x + i - 1)) (pk_sub (by omega)) ?_
          refine lv_iload hx hb dX2_meanAround_61 (lv_at hl 3 rfl) ?_
          refine lv_asI (y := nI (y + j - 1)) (pk_sub (by omega)) ?_
          refine iw_pi (va_runSN (As := [.int (nI (x + i - 1)), .int (nI (y + j - 1))]) (rest := [.ref (ad pm), .int (nI (arX md x y k j a1 i))]) ⟨hx, hb, hml, hown, hts⟩ (kX6_placeOf l (x + i - 1) (y + j - 1)) ⟨va_cnB (host := RX6) 2 hts gX2_meanAround_X6_placeOf_n54 rfl rfl rfl (nw_RX2_54 hK.2) (hts _ il_X2_meanAround_iniX6) (by decide +kernel) ⟨Nat.le_of_ble_eq_true rfl, Nat.le_of_ble_eq_true rfl⟩, (hts _ il_X2_meanAround_st_X6_placeOf), trivial⟩ ⟨fun a U g mk q => q, fun U hU hW => ⟨rfl, trivial⟩⟩ rfl rfl hl.1 rfl (lv_room (Nat.le_of_ble_eq_true rfl)) dX2_meanAround_63 ⟨hcc, hcs⟩) hP hS (fun r8 u8 H locs hw8 hP hS => ?_)
          refine lv_asI hw8 ?_
          refine iw_iald (v := nI (md (8 * (y + j - 1) + (x + i - 1)))) hx hb hK hP lpm (hpm) (vp_in_nI (show 8 * (y + j - 1) + (x + i - 1) < 64 by omega) (by omega)) (congrArg (fun i => nI (md i)) (nI_clamp (by omega))) dX2_meanAround_66 ?_
          refine lv_iadd hx hb dX2_meanAround_67 ?_
          refine lv_asI (y := nI ((arX md x y k j a1 i) + (md (8 * (y + j - 1) + (x + i - 1))))) (nI_add _ _) ?_
          refine lv_istore (lv' := [(4, .int (nI ((arX md x y k j a1 i) + (md (8 * (y + j - 1) + (x + i - 1)))))), (5, .int (nI (arX (fun _ => 1) x y k j a2 i))), (7, .int (nI (x + i) - nI 1)), (6, .int (nI (y + j) - nI 1)), (0, .ref (ad pb)), (1, .int (nI x)), (2, .int (nI y)), (3, .int (nI k))]) hx hb dX2_meanAround_68 hl (by decide) rfl (fun ls hl => ?_)
          refine lv_iinc (v := nI ((arX (fun _ => 1) x y k j a2 i) + 1)) (lv' := [(5, .int (nI ((arX (fun _ => 1) x y k j a2 i) + 1))), (4, .int (nI ((arX md x y k j a1 i) + (md (8 * (y + j - 1) + (x + i - 1)))))), (7, .int (nI (x + i) - nI 1)), (6, .int (nI (y + j) - nI 1)), (0, .ref (ad pb)), (1, .int (nI x)), (2, .int (nI y)), (3, .int (nI k))]) hx hb dX2_meanAround_70 hl (k := 1) rfl (iinc_nat _ 1) (by decide) rfl (fun ls hl => ?_)
          refine lv_iinc (v := nI (x + i + 1) - nI 1) (lv' := [(7, .int (nI (x + i + 1) - nI 1)), (5, .int (nI ((arX (fun _ => 1) x y k j a2 i) + 1))), (4, .int (nI ((arX md x y k j a1 i) + (md (8 * (y + j - 1) + (x + i - 1)))))), (6, .int (nI (y + j) - nI 1)), (0, .ref (ad pb)), (1, .int (nI x)), (2, .int (nI y)), (3, .int (nI k))]) hx hb dX2_meanAround_73 hl (k := 2) rfl (inc_m1 _) (by decide) rfl (fun ls hl => ?_)
          refine lv_goto (tgt := 24) hx hb dX2_meanAround_76 (by decide) ?_
          have e9 : arX md x y k j a1 (i + 1) = (arX md x y k j a1 i) + (md (8 * (y + j - 1) + (x + i - 1))) := by show arX md x y k j a1 i + _ = _; simp [*]
          have e10 : arX (fun _ => 1) x y k j a2 (i + 1) = (arX (fun _ => 1) x y k j a2 i) + 1 := by show arX (fun _ => 1) x y k j a2 i + _ = _; simp [*]
          exact ih (i + 1) H locs ls (by omega) (by omega) hP hD hS (by rw [e9, e10]; exact (lv_sub hl [2, 1, 0, 3, 4, 5, 6, 7] rfl))
set_option maxHeartbeats 4000000 in
set_option maxRecDepth 100000 in
theorem lX2_meanAround_y {p : Program} {l : Launch} {e : Env} {s : State} {m : MethodId} {args : Array Value} {below : List Frame} {meth : Method} {c : Code} {Q : State → Prop} {A : Nat → Prop} {H0 : Heap} {cells slots : Nat} (hx : p.tables.exec = Jvm.exec) (hb : c.code = cX2_meanAround) (hml : c.maxLocals = 8) (hr : meth.sig.returnType = (some .float)) (hts : ∀ w ∈ wsX2_meanAround, w.before args s = true) (hown : s.vm.findClass RX2 = some m.cls) {G : iG} (hK : KB G s) (hA : ∀ q, H0.size ≤ q → A q) {N : Nat} {ad : Nat → Nat} {C : Nat → va_E}  (hcc : cells ≤ rmX2_meanAround.cells) (hcs : slots ≤ rmX2_meanAround.slots) {pb pn pm : Nat} {nu : Nat → UInt32} {md : Nat → Nat} (lpb : pb < N) (lpn : pn < N) (lpm : pm < N) (hpb : C pb = ob 2 [.ref (ad pn), .ref (ad pm)]) (hpn : C pn = fa G 192 nu) (hpm : C pm = ia G 64 (fun i => nI (md i))) (hm9 : ∀ i, i < 64 → md i ≤ 255) {x y k : Nat} (hx8 : x < 8) (hy8 : y < 8) (hk3 : k < 3) (kx : ∀ (H : Heap) (locs : List Loc) (ls : Array Slot), va_P G.1 vwB (wl N ad (C)) H → va_D A (wl N ad (C)) → va_S A H0 H locs → lv_has ls 8 [(4, .int (nI (arY md x y k 3))), (5, .int (nI (arY (fun _ => 1) x y k 3)))] → W p l e rmX2_meanAround s m args below meth c H locs cells slots Q (F0 m 85 ls [])) : ∀ (d : Nat) (j : Nat) (H : Heap) (locs : List Loc) (ls : Array Slot), 3 - j < d → j ≤ 3 → va_P G.1 vwB (wl N ad C) H → va_D A (wl N ad C) → va_S A H0 H locs → lv_has ls 8 [(4, .int (nI (arY md x y k j))), (5, .int (nI (arY (fun _ => 1) x y k j))), (6, .int (nI (y + j) - nI 1)), (0, .ref (ad pb)), (1, .int (nI x)), (2, .int (nI y)), (3, .int (nI k))] → W p l e rmX2_meanAround s m args below meth c H locs cells slots Q (F0 m 11 ls []) := by
  intro d
  induction d with
  | zero => intro j H locs ls hd; exact absurd hd (Nat.not_lt_zero _)
  | succ d ih =>
    intro j H locs ls hd h2 hP hD hS hl
    refine lv_iload hx hb dX2_meanAround_11 (lv_at hl 2 rfl) ?_
    refine lv_iload_n hx hb dX2_meanAround_13 rfl (lv_at hl 5 rfl) ?_
    refine lv_iconst (v := nI 1) hx hb dX2_meanAround_14 (by decide) ?_
    refine lv_iadd hx hb dX2_meanAround_15 ?_
    refine lv_asI (y := nI (y + 1)) (nI_add _ _) ?_
    refine lv_icmp_gt (tgt := 85) hx hb dX2_meanAround_16 (by decide) (fun c16 => ?_) (fun c16 => ?_)
    · have h5 : j = 3 := (cmp_gt hy8 (by omega)).mp c16
      subst h5
      exact kx H locs ls hP hD hS (lv_sub hl [0, 1] rfl)
    · have h4 : j < 3 := by have := mt (cmp_gt hy8 (by omega)).mpr c16; omega
      refine lv_iload_n hx hb dX2_meanAround_19 rfl (lv_at hl 4 rfl) ?_
      refine lv_iconst (v := nI 1) hx hb dX2_meanAround_20 (by decide) ?_
      refine lv_isub hx hb dX2_meanAround_21 ?_
      refine lv_istore (lv' := [(7, .int ((nI x) - (nI 1))), (4, .int (nI (arY md x y k j))), (5, .int (nI (arY (fun _ => 1) x y k j))), (6, .int (nI (y + j) - nI 1)), (0, .ref (ad pb)), (1, .int (nI x)), (2, .int (nI y)), (3, .int (nI k))]) hx hb dX2_meanAround_22 hl (by decide) rfl (fun ls hl => ?_)
      refine lX2_meanAround_x hx hb hml hr hts hown hK hA hcc hcs lpb lpn lpm hpb hpn hpm hm9 hx8 hy8 hk3 h4 (fun H locs ls hP hD hS hl => ?_) 4 0 H locs ls (by omega) (by omega) hP hD hS (lv_sub hl [1, 2, 0, 3, 4, 5, 6, 7] rfl)
      refine lv_iinc (v := nI (y + j + 1) - nI 1) (lv' := [(6, .int (nI (y + j + 1) - nI 1)), (4, .int (nI (arX md x y k j (arY md x y k j) 3))), (5, .int (nI (arX (fun _ => 1) x y k j (arY (fun _ => 1) x y k j) 3))), (0, .ref (ad pb)), (1, .int (nI x)), (2, .int (nI y)), (3, .int (nI k))]) hx hb dX2_meanAround_79 hl (k := 2) rfl (inc_m1 _) (by decide) rfl (fun ls hl => ?_)
      refine lv_goto (tgt := 11) hx hb dX2_meanAround_82 (by decide) ?_
      exact ih (j + 1) H locs ls (by omega) (by omega) hP hD hS (lv_sub hl [1, 2, 0, 3, 4, 5, 6] rfl)
set_option maxHeartbeats 4000000 in
set_option maxRecDepth 100000 in
theorem kX2_meanAround (l : Launch) (G : iG) (N : Nat) (ad : Nat → Nat) (C : Nat → va_E) {pb pn pm : Nat} {nu : Nat → UInt32} {md : Nat → Nat} (lpb : pb < N) (lpn : pn < N) (lpm : pm < N) (hpb : C pb = ob 2 [.ref (ad pn), .ref (ad pm)]) (hpn : C pn = fa G 192 nu) (hpm : C pm = ia G 64 (fun i => nI (md i))) (hm9 : ∀ i, i < 64 → md i ≤ 255) (x y k : Nat) (hx8 : x < 8) (hy8 : y < 8) (hk3 : k < 3) (sz : Nat) : Met l yX2_meanAround wsX2_meanAround rmX2_meanAround (iPre G N ad C sz [.ref (ad pb), .int (nI x), .int (nI y), .int (nI k)]) (va_Qf (fun (r : UInt32) (u : Nat → va_E) => r = arF md x y k ∧ u = C) (iB G N ad) (iA N ad sz)) 0 0 (iA N ad sz) := by
  refine Met.ofW (cc := cX2_meanAround) (maxL := 8) (ret := (some .float)) (by decide) rfl ?_
  intro p e s m args below meth c s₁ B hml hv
  obtain ⟨rfl, hsz, hP, hK, hD0⟩ := hv
  have hx := B.exec
  have hb := B.bytes
  have hr := B.returns
  have hts := atoms_spec (ws := wsX2_meanAround) B.pre
  have hown : s.vm.findClass RX2 = some m.cls := findClass_of_methodNamed B.named
  have hlocks := B.notSynchronized
  subst hsz
  have hD := wl_self hD0 s.heap.size
  have hA : ∀ q : Nat, s.heap.size ≤ q → iA N ad s.heap.size q := fun q h => Or.inr h
  have hS : va_S (iA N ad s.heap.size) s.heap s.heap [] := va_S.rf
  have hP : va_P G.1 vwB (wl N ad C) s.heap := hP
  have hl := lv_entry ([.ref (ad pb), .int (nI x), .int (nI y), .int (nI k)]) (n := 8) (Nat.le_of_ble_eq_true rfl)
  rw [lg_entry_eq]
  generalize (lg_sl ([.ref (ad pb), .int (nI x), .int (nI y), .int (nI k)]) ++ List.replicate (8 - (lg_sl ([.ref (ad pb), .int (nI x), .int (nI y), .int (nI k)])).length) Slot.unset).toArray = ls at hl ⊢
  have hl : lv_has ls 8 [(0, .ref (ad pb)), (1, .int (nI x)), (2, .int (nI y)), (3, .int (nI k))] := hl
  have b1 := arY_le md 255 hm9 x y k 3
  have b2 := arY_le (fun _ => 1) 1 (fun _ _ => Nat.le_refl _) x y k 3
  refine lv_iconst (v := nI 0) hx hb dX2_meanAround_0 (by decide) ?_
  refine lv_istore (lv' := [(4, .int (nI 0)), (0, .ref (ad pb)), (1, .int (nI x)), (2, .int (nI y)), (3, .int (nI k))]) hx hb dX2_meanAround_1 hl (by decide) rfl (fun ls hl => ?_)
  refine lv_iconst (v := nI 0) hx hb dX2_meanAround_3 (by decide) ?_
  refine lv_istore (lv' := [(5, .int (nI 0)), (4, .int (nI 0)), (0, .ref (ad pb)), (1, .int (nI x)), (2, .int (nI y)), (3, .int (nI k))]) hx hb dX2_meanAround_4 hl (by decide) rfl (fun ls hl => ?_)
  refine lv_iload_n hx hb dX2_meanAround_6 rfl (lv_at hl 4 rfl) ?_
  refine lv_iconst (v := nI 1) hx hb dX2_meanAround_7 (by decide) ?_
  refine lv_isub hx hb dX2_meanAround_8 ?_
  refine lv_istore (lv' := [(6, .int ((nI y) - (nI 1))), (5, .int (nI 0)), (4, .int (nI 0)), (0, .ref (ad pb)), (1, .int (nI x)), (2, .int (nI y)), (3, .int (nI k))]) hx hb dX2_meanAround_9 hl (by decide) rfl (fun ls hl => ?_)
  refine lX2_meanAround_y hx hb hml hr hts hown hK hA (Nat.le_refl _) (Nat.le_refl _) lpb lpn lpm hpb hpn hpm hm9 hx8 hy8 hk3 (fun H locs ls hP hD hS hl => ?_) 4 0 _ _ ls (by omega) (by omega) hP hD hS (lv_sub hl [2, 1, 0, 3, 4, 5, 6] rfl)
  refine lv_iload hx hb dX2_meanAround_85 (lv_at hl 1 rfl) ?_
  refine lv_if_ne (tgt := 94) hx hb dX2_meanAround_87 (by decide) (fun c87 => ?_) (fun c87 => ?_)
  · have e8 : arY (fun _ => 1) x y k 3 ≠ 0 := fun e => c87 (by rw [e]; exact nI_0)
    refine lv_iload hx hb dX2_meanAround_94 (lv_at hl 0 rfl) ?_
    refine lv_i2f hx hb dX2_meanAround_96 ?_
    refine lv_iload hx hb dX2_meanAround_97 (lv_at hl 1 rfl) ?_
    refine lv_i2f hx hb dX2_meanAround_99 ?_
    refine lv_fdiv hx hb dX2_meanAround_100 (fdiv_nz (fin32_n (i2f_fin32 _)) (i2f_nz (by omega) (by omega))) ?_
    exact W.fret (v := (FP.fdiv (FP.i2f (nI (arY md x y k 3))) (FP.i2f (nI (arY (fun _ => 1) x y k 3))))) hx hb hr (fun t ht hW => ⟨⟨_, _, rfl, ⟨by unfold arF; first | rw [if_pos e8] | rw [if_neg e8], rfl⟩, iB_of ht hP⟩, hS.F ht⟩) hS.2.2 dX2_meanAround_101
  · have e8 : arY (fun _ => 1) x y k 3 = 0 := (nI_eq (by omega) (by omega)).mp (c87.trans nI_0.symm)
    refine lv_fconst0 hx hb dX2_meanAround_90 ?_
    refine lv_goto (tgt := 101) hx hb dX2_meanAround_91 (by decide) ?_
    exact W.fret (v := FP.fconst0) hx hb hr (fun t ht hW => ⟨⟨_, _, rfl, ⟨by unfold arF; first | rw [if_pos e8] | rw [if_neg e8], rfl⟩, iB_of ht hP⟩, hS.F ht⟩) hS.2.2 dX2_meanAround_101
end
section
theorem flI_at {α : Type} (f g : Nat → α) (k : Nat) : flI f g k k = g k := by simp [flI]
/-- BLACK -/
def dkF (b : Nat) (x : UInt32) : UInt32 := if Op.cmpValue (FP.fcmp (FP.fsub x (FP.i2f (nI b))) FP.fconst0) .l ≤ 0 then FP.fconst0 else FP.fsub x (FP.i2f (nI b))
/-- WARM, COOL -/
def scF (k : Nat) (t : UInt32) (nu : Nat → UInt32) (i : Nat) : UInt32 := if i % 3 = k then FP.fmul (nu i) t else nu i
/-- TONE -/
def toF (n : Nat) (x : UInt32) : UInt32 := if n = 0 then FP.fmul x 1056964608 else if n = 1 then FP.fmul x FP.fconst2 else FP.fsub 1132396544 x
/-- FLIP -/
def fpF (nu : Nat → UInt32) (i : Nat) : UInt32 := nu (3 * (8 * (i / 3 / 8) + (7 - i / 3 % 8)) + i % 3)
/-- an edit -/
def apF (k n : Nat) (nu : Nat → UInt32) : Nat → UInt32 := if k = 0 then fun i => dkF n (nu i) else if k = 1 then scF 0 (quF n) nu else if k = 2 then scF 2 (quF n) nu else if k = 3 then fun i => toF n (nu i) else if k = 4 then fpF nu else nu
/-- an edit that can be told -/
def okE (k n : Nat) : Prop := k < 6 ∧ n < 65 ∧ (k = 1 ∨ k = 2 → 0 < n ∧ n < 17) ∧ (k = 3 → n < 3)
theorem dkF_n {b : Nat} {x : UInt32} (h : vf_n32 x) : vf_n32 (dkF b x) := by
  unfold dkF
  split
  · exact fin32_n f0_ok
  · exact fsub_nf h (i2f_fin32 _)
theorem toF_n {n : Nat} {x : UInt32} (h : vf_n32 x) : vf_n32 (toF n x) := by
  unfold toF
  split
  · exact fmul_nz h fhalf_ok
  · split
    · exact fmul_nz h f2_ok
    · exact fsub_fn (finz32_fin f255_ok) h
theorem scF_n {k : Nat} {t : UInt32} {nu : Nat → UInt32} (ht : finz32 t) {i : Nat} (h : vf_n32 (nu i)) : vf_n32 (scF k t nu i) := by
  unfold scF
  split
  · exact fmul_nz h ht
  · exact h
theorem apF_n {k n : Nat} (hk : okE k n) {nu : Nat → UInt32} (h : ∀ i, i < 192 → vf_n32 (nu i)) : ∀ i, i < 192 → vf_n32 (apF k n nu i) := by
  intro i hi
  unfold apF
  split
  · exact dkF_n (h i hi)
  · split
    · rename_i h1
      exact scF_n (quF_ok n (hk.2.2.1 (Or.inl h1)).2 (hk.2.2.1 (Or.inl h1)).1) (h i hi)
    · split
      · rename_i h1
        exact scF_n (quF_ok n (hk.2.2.1 (Or.inr h1)).2 (hk.2.2.1 (Or.inr h1)).1) (h i hi)
      · split
        · exact toF_n (h i hi)
        · split
          · exact h _ (by omega)
          · exact h i hi
/-- edit by edit -/
def cmF (kk nn : Nat → Nat) (nu : Nat → UInt32) : Nat → Nat → UInt32
  | 0 => nu
  | n + 1 => apF (kk n) (nn n) (cmF kk nn nu n)
theorem cmF_n {kk nn : Nat → Nat} {nu : Nat → UInt32} (h : ∀ i, i < 192 → vf_n32 (nu i)) : ∀ n, (∀ i, i < n → okE (kk i) (nn i)) → ∀ i, i < 192 → vf_n32 (cmF kk nn nu n i)
  | 0, _ => h
  | n + 1, hk => apF_n (hk n (Nat.lt_succ_self n)) (cmF_n h n (fun i hi => hk i (Nat.lt_succ_of_lt hi)))
theorem scF_up (k : Nat) (hk : k < 3) (t : UInt32) (nu : Nat → UInt32) (z : Nat) : vf_upd (flI (scF k t nu) nu (3 * z)) (3 * z + k) (FP.fmul (nu (3 * z + k)) t) = flI (scF k t nu) nu (3 * (z + 1)) := by
  funext i
  unfold vf_upd flI
  by_cases h : i = 3 * z + k
  · subst h
    rw [if_pos rfl, if_pos (by omega)]
    unfold scF
    rw [if_pos (by omega)]
  · rw [if_neg h]
    by_cases h1 : i < 3 * z
    · rw [if_pos h1, if_pos (by omega)]
    · rw [if_neg h1]
      by_cases h2 : i < 3 * (z + 1)
      · rw [if_pos h2]
        unfold scF
        rw [if_neg (by omega)]
      · rw [if_neg h2]
/-- FLIP under way -/
def toN (nu : Nat → UInt32) (n i : Nat) : UInt32 := if 12 * (i / 3 / 8) + 3 * (if i / 3 % 8 < 4 then i / 3 % 8 else 7 - i / 3 % 8) + i % 3 < n then fpF nu i else nu i
theorem toN_0 (nu : Nat → UInt32) : toN nu 0 = nu := by
  funext i
  unfold toN
  rw [if_neg (by omega)]
theorem fp_L (nu : Nat → UInt32) {x y k : Nat} (hx : x < 4) (hk : k < 3) : fpF nu (3 * (8 * y + x) + k) = nu (3 * (8 * y + (7 - x)) + k) := by
  unfold fpF
  rw [show (3 * (8 * y + x) + k) / 3 = 8 * y + x by omega, show (3 * (8 * y + x) + k) % 3 = k by omega, show (8 * y + x) / 8 = y by omega, show (8 * y + x) % 8 = x by omega]
theorem fp_R (nu : Nat → UInt32) {x y k : Nat} (hx : x < 4) (hk : k < 3) : fpF nu (3 * (8 * y + (7 - x)) + k) = nu (3 * (8 * y + x) + k) := by
  unfold fpF
  rw [show (3 * (8 * y + (7 - x)) + k) / 3 = 8 * y + (7 - x) by omega, show (3 * (8 * y + (7 - x)) + k) % 3 = k by omega, show (8 * y + (7 - x)) / 8 = y by omega, show (8 * y + (7 - x)) % 8 = 7 - x by omega, show 7 - (7 - x) = x by omega]
theorem toN_L (nu : Nat → UInt32) {x y k : Nat} (hx : x < 4) (hk : k < 3) : toN nu (12 * y + 3 * x + k) (3 * (8 * y + x) + k) = nu (3 * (8 * y + x) + k) := by
  unfold toN
  rw [show (3 * (8 * y + x) + k) / 3 = 8 * y + x by omega, show (3 * (8 * y + x) + k) % 3 = k by omega, show (8 * y + x) / 8 = y by omega, show (8 * y + x) % 8 = x by omega, if_pos hx, if_neg (by omega)]
theorem toN_R (nu : Nat → UInt32) {x y k : Nat} (hx : x < 4) (hk : k < 3) : toN nu (12 * y + 3 * x + k) (3 * (8 * y + (7 - x)) + k) = nu (3 * (8 * y + (7 - x)) + k) := by
  unfold toN
  rw [show (3 * (8 * y + (7 - x)) + k) / 3 = 8 * y + (7 - x) by omega, show (3 * (8 * y + (7 - x)) + k) % 3 = k by omega, show (8 * y + (7 - x)) / 8 = y by omega, show (8 * y + (7 - x)) % 8 = 7 - x by omega, if_neg (show ¬ 7 - x < 4 by omega), if_neg (by omega)]
theorem toN_up (nu : Nat → UInt32) {x y k : Nat} (hx : x < 4) (hk : k < 3) : vf_upd (vf_upd (toN nu (12 * y + 3 * x + k)) (3 * (8 * y + x) + k) (nu (3 * (8 * y + (7 - x)) + k))) (3 * (8 * y + (7 - x)) + k) (nu (3 * (8 * y + x) + k)) = toN nu (12 * y + 3 * x + k + 1) := by
  funext i
  by_cases hR : i = 3 * (8 * y + (7 - x)) + k
  · subst hR
    unfold vf_upd
    rw [if_pos rfl]
    unfold toN
    rw [if_pos, fp_R nu hx hk]
    rw [show (3 * (8 * y + (7 - x)) + k) / 3 = 8 * y + (7 - x) by omega, show (3 * (8 * y + (7 - x)) + k) % 3 = k by omega, show (8 * y + (7 - x)) / 8 = y by omega, show (8 * y + (7 - x)) % 8 = 7 - x by omega, if_neg (show ¬ 7 - x < 4 by omega)]
    omega
  · by_cases hL : i = 3 * (8 * y + x) + k
    · subst hL
      unfold vf_upd
      rw [if_neg hR, if_pos rfl]
      unfold toN
      rw [if_pos, fp_L nu hx hk]
      rw [show (3 * (8 * y + x) + k) / 3 = 8 * y + x by omega, show (3 * (8 * y + x) + k) % 3 = k by omega, show (8 * y + x) / 8 = y by omega, show (8 * y + x) % 8 = x by omega, if_pos hx]
      omega
    · unfold vf_upd
      rw [if_neg hR, if_neg hL]
      unfold toN
      have e : (12 * (i / 3 / 8) + 3 * (if i / 3 % 8 < 4 then i / 3 % 8 else 7 - i / 3 % 8) + i % 3 < 12 * y + 3 * x + k) ↔ (12 * (i / 3 / 8) + 3 * (if i / 3 % 8 < 4 then i / 3 % 8 else 7 - i / 3 % 8) + i % 3 < 12 * y + 3 * x + k + 1) := by
        split <;> omega
      simp only [e]
theorem toN_all (nu : Nat → UInt32) {i : Nat} (hi : i < 192) : toN nu 96 i = fpF nu i := by
  unfold toN
  rw [if_pos]
  split <;> omega
/-- the word of a picture -/
def suI (nu : Nat → UInt32) : Nat → Int32
  | 0 => nI 7
  | n + 1 => suI nu n * nI 31 + FP.f2i (nu n)
/-- the sum of a colour's tones, each number times t -/
def stI (nu : Nat → UInt32) (k : Nat) (t : UInt32) : Nat → Int32
  | 0 => nI 0
  | n + 1 => stI nu k t n + FP.f2i (bdF (FP.fmul (nu (3 * n + k)) t))
abbrev rmX2_makeWhole : Room := { frames := 2, cells := 0, slots := 0, locals := 48 }
set_option maxRecDepth 20000 in
theorem iu_X2_makeWhole_2 : ∀ w ∈ u_ws RX2 TX2 2, w ∈ wsX2_makeWhole := by decide +kernel
set_option maxRecDepth 20000 in
theorem il_X2_makeWhole_9 : (Cond.fieldLink RX2 9 "BayerGate$Picture" "numbers" "[F") ∈ wsX2_makeWhole := by decide +kernel
set_option maxRecDepth 20000 in
theorem il_X2_makeWhole_15 : (Cond.fieldLink RX2 15 "BayerGate$Picture" "mended" "[I") ∈ wsX2_makeWhole := by decide +kernel
set_option maxHeartbeats 4000000 in
set_option maxRecDepth 100000 in
theorem lX2_makeWhole_k {p : Program} {l : Launch} {e : Env} {s : State} {m : MethodId} {args : Array Value} {below : List Frame} {meth : Method} {c : Code} {Q : State → Prop} {A : Nat → Prop} {H0 : Heap} {cells slots : Nat} (hx : p.tables.exec = Jvm.exec) (hb : c.code = cX2_makeWhole) (hml : c.maxLocals = 7) (hr : meth.sig.returnType = none) (hts : ∀ w ∈ wsX2_makeWhole, w.before args s = true) (hown : s.vm.findClass RX2 = some m.cls) {G : iG} (hK : KB G s) (hA : ∀ q, H0.size ≤ q → A q) {N : Nat} {ad : Nat → Nat} {C : Nat → va_E}  (hcc : cells ≤ rmX2_makeWhole.cells) (hcs : slots ≤ rmX2_makeWhole.slots) {pb pn pm : Nat} {nu : Nat → UInt32} {md : Nat → Nat} (lpb : pb < N) (lpn : pn < N) (lpm : pm < N) (hpb : C pb = ob 2 [.ref (ad pn), .ref (ad pm)]) (hpn : C pn = fa G 192 nu) (hpm : C pm = ia G 64 (fun i => nI (md i))) (hm9 : ∀ i, i < 64 → md i ≤ 255) {x y : Nat} (hx8 : x < 8) (hy8 : y < 8) (kx : ∀ (H : Heap) (locs : List Loc) (ls : Array Slot), va_P G.1 vwB (wl N ad (va_up C pn (fa G 192 (flI (whF md) nu (3 * (8 * y + x) + 3))))) H → va_D A (wl N ad (va_up C pn (fa G 192 (flI (whF md) nu (3 * (8 * y + x) + 3))))) → va_S A H0 H locs → lv_has ls 7 [(2, .int (nI x)), (1, .int (nI y)), (0, .ref (ad pb))] → W p l e rmX2_makeWhole s m args below meth c H locs cells slots Q (F0 m 84 ls [])) : ∀ (d : Nat) (k : Nat) (H : Heap) (locs : List Loc) (ls : Array Slot), 3 - k < d → k ≤ 3 → va_P G.1 vwB (wl N ad (va_up C pn (fa G 192 (flI (whF md) nu (3 * (8 * y + x) + k))))) H → va_D A (wl N ad (va_up C pn (fa G 192 (flI (whF md) nu (3 * (8 * y + x) + k))))) → va_S A H0 H locs → lv_has ls 7 [(5, .int (nI k)), (3, .int (nI (8 * y + x))), (4, .int (nI (colN x y))), (2, .int (nI x)), (1, .int (nI y)), (0, .ref (ad pb))] → W p l e rmX2_makeWhole s m args below meth c H locs cells slots Q (F0 m 32 ls []) := by
  intro d
  induction d with
  | zero => intro k H locs ls hd; exact absurd hd (Nat.not_lt_zero _)
  | succ d ih =>
    intro k H locs ls hd h2 hP hD hS hl
    have n_pb_pn : pb ≠ pn := fun h => by rw [h, hpn] at hpb; simp at hpb
    have n_pb_pm : pb ≠ pm := fun h => by rw [h, hpm] at hpb; simp at hpb
    have n_pn_pm : pn ≠ pm := fun h => by rw [h, hpm] at hpn; simp at hpn
    refine lv_iload hx hb dX2_makeWhole_32 (lv_at hl 0 rfl) ?_
    refine lv_iconst (v := nI 3) hx hb dX2_makeWhole_34 (by decide) ?_
    refine lv_icmp_ge (tgt := 84) hx hb dX2_makeWhole_35 (by decide) (fun c35 => ?_) (fun c35 => ?_)
    · have h5 : k = 3 := by have := (nI_leI (by omega) (by omega)).mp c35; omega
      subst h5
      exact kx H locs ls hP hD hS (lv_sub hl [3, 4, 5] rfl)
    · have h4 : k < 3 := by have := mt (nI_leI (by omega) (by omega)).mpr c35; omega
      refine lv_iload hx hb dX2_makeWhole_38 (lv_at hl 0 rfl) ?_
      refine lv_iload hx hb dX2_makeWhole_40 (lv_at hl 2 rfl) ?_
      refine lv_icmp_ne (tgt := 55) hx hb dX2_makeWhole_42 (by decide) (fun c42 => ?_) (fun c42 => ?_)
      · have e8 : ¬ k = colN x y := fun e => c42 (by rw [e])
        refine lv_aload_n hx hb dX2_makeWhole_55 rfl (lv_at hl 5 rfl) ?_
        refine lv_iload_n hx hb dX2_makeWhole_56 rfl (lv_at hl 3 rfl) ?_
        refine lv_iload_n hx hb dX2_makeWhole_57 rfl (lv_at hl 4 rfl) ?_
        refine lv_iload hx hb dX2_makeWhole_58 (lv_at hl 0 rfl) ?_
        refine iw_f (va_runV (As := [.int (nI x), .int (nI y), .int (nI k)]) (rest := []) ⟨hx, hb, hml, hown, hts⟩ (kX2_meanAround l G N ad _ lpb lpn lpm ((va_un _ _ n_pb_pn).trans (hpb)) (va_us _ _ _) ((va_un _ _ (Ne.symm n_pn_pm)).trans (hpm)) hm9 x y k (by omega) (by omega) (by omega) _) (cwV 3 hts gX2_makeWhole_X2_meanAround rfl rfl rfl (by decide +kernel) ⟨Nat.le_of_ble_eq_true rfl, Nat.le_of_ble_eq_true rfl⟩) (iPV hK hP hD lpb ((va_un _ _ n_pb_pn).trans (hpb)) rfl [.int (nI x), .int (nI y), .int (nI k)]) rfl rfl hl.1 rfl (lv_room (Nat.le_of_ble_eq_true rfl)) dX2_makeWhole_60 ⟨hcc, hcs⟩) hD hS hA (fun r8 u8 H locs hw8 hP hD hS => ?_)
        obtain ⟨hr8, hu8⟩ := hw8
        refine lv_asF hr8 ?_
        rw [hu8] at hP hD
        refine lv_asF (y := whF md (3 * (8 * y + x) + k)) (by unfold whF; rw [show (3 * (8 * y + x) + k) / 3 = 8 * y + x by omega, show (3 * (8 * y + x) + k) % 3 = k by omega, show (8 * y + x) / 8 = y by omega, show (8 * y + x) % 8 = x by omega]; rw [if_neg e8]) ?_
        refine lv_fstore (lv' := [(6, .float (whF md (3 * (8 * y + x) + k))), (5, .int (nI k)), (3, .int (nI (8 * y + x))), (4, .int (nI (colN x y))), (2, .int (nI x)), (1, .int (nI y)), (0, .ref (ad pb))]) hx hb dX2_makeWhole_63 hl (by decide) rfl (fun ls hl => ?_)
        refine lv_aload_n hx hb dX2_makeWhole_65 rfl (lv_at hl 6 rfl) ?_
        refine iw_get hx hb hts iu_X2_makeWhole_2 hown hK hP lpb ((va_un _ _ n_pb_pn).trans (hpb)) rfl 0 (by decide) (hts _ il_X2_makeWhole_9) (fun _ h9 => h9) rfl dX2_makeWhole_66 ?_
        refine lv_iload_n hx hb dX2_makeWhole_69 rfl (lv_at hl 2 rfl) ?_
        refine lv_iload hx hb dX2_makeWhole_70 (lv_at hl 1 rfl) ?_
        refine iw_pi (va_runS (As := [.int (nI (8 * y + x)), .int (nI k)]) (rest := [.ref (ad pn)]) ⟨hx, hb, hml, hown, hts⟩ (kX2_indexOf l (8 * y + x) k) (va_cwS 2 hts gX2_makeWhole_X2_indexOf rfl rfl rfl (by decide +kernel) ⟨Nat.le_of_ble_eq_true rfl, Nat.le_of_ble_eq_true rfl⟩) ⟨fun a U g mk q => q, fun U hU hW => ⟨rfl, trivial⟩⟩ rfl rfl hl.1 rfl (lv_room (Nat.le_of_ble_eq_true rfl)) dX2_makeWhole_72 ⟨hcc, hcs⟩) hP hS (fun r8 u8 H locs hw8 hP hS => ?_)
        refine lv_asI hw8 ?_
        refine lv_fload hx hb dX2_makeWhole_75 (lv_at hl 0 rfl) ?_
        refine iw_fast hx hb hK hP hD hS lpn (va_us _ _ _) (vp_in_nI (show 3 * (8 * y + x) + k < 192 by omega) (by omega)) (nI_clamp (by omega)) dX2_makeWhole_77 (fun H locs hP hD hS => ?_)
        rw [va_uu _ _ _ _] at hP hD
        refine lv_iinc (v := nI (k + 1)) (lv' := [(5, .int (nI (k + 1))), (6, .float (whF md (3 * (8 * y + x) + k))), (3, .int (nI (8 * y + x))), (4, .int (nI (colN x y))), (2, .int (nI x)), (1, .int (nI y)), (0, .ref (ad pb))]) hx hb dX2_makeWhole_78 hl (k := 1) rfl (iinc_nat _ 1) (by decide) rfl (fun ls hl => ?_)
        refine lv_goto (tgt := 32) hx hb dX2_makeWhole_81 (by decide) ?_
        rw [flI_f] at hP hD
        exact ih (k + 1) H locs ls (by omega) (by omega) hP hD hS (lv_sub hl [0, 2, 3, 4, 5, 6] rfl)
      · have e8 : k = colN x y := (nI_eq (by omega) (by have := colN_lt x y; omega)).mp c42
        refine lv_aload_n hx hb dX2_makeWhole_45 rfl (lv_at hl 5 rfl) ?_
        refine iw_get hx hb hts iu_X2_makeWhole_2 hown hK hP lpb ((va_un _ _ n_pb_pn).trans (hpb)) rfl 1 (by decide) (hts _ il_X2_makeWhole_15) (fun _ h9 => h9) rfl dX2_makeWhole_46 ?_
        refine lv_iload_n hx hb dX2_makeWhole_49 rfl (lv_at hl 1 rfl) ?_
        refine iw_iald (v := nI (md (8 * y + x))) hx hb hK hP lpm ((va_un _ _ (Ne.symm n_pn_pm)).trans (hpm)) (vp_in_nI (show 8 * y + x < 64 by omega) (by omega)) (congrArg (fun i => nI (md i)) (nI_clamp (by omega))) dX2_makeWhole_50 ?_
        refine lv_i2f hx hb dX2_makeWhole_51 ?_
        refine lv_goto (tgt := 63) hx hb dX2_makeWhole_52 (by decide) ?_
        refine lv_asF (y := whF md (3 * (8 * y + x) + k)) (by unfold whF; rw [show (3 * (8 * y + x) + k) / 3 = 8 * y + x by omega, show (3 * (8 * y + x) + k) % 3 = k by omega, show (8 * y + x) / 8 = y by omega, show (8 * y + x) % 8 = x by omega]; rw [if_pos e8]) ?_
        refine lv_fstore (lv' := [(6, .float (whF md (3 * (8 * y + x) + k))), (5, .int (nI k)), (3, .int (nI (8 * y + x))), (4, .int (nI (colN x y))), (2, .int (nI x)), (1, .int (nI y)), (0, .ref (ad pb))]) hx hb dX2_makeWhole_63 hl (by decide) rfl (fun ls hl => ?_)
        refine lv_aload_n hx hb dX2_makeWhole_65 rfl (lv_at hl 6 rfl) ?_
        refine iw_get hx hb hts iu_X2_makeWhole_2 hown hK hP lpb ((va_un _ _ n_pb_pn).trans (hpb)) rfl 0 (by decide) (hts _ il_X2_makeWhole_9) (fun _ h9 => h9) rfl dX2_makeWhole_66 ?_
        refine lv_iload_n hx hb dX2_makeWhole_69 rfl (lv_at hl 2 rfl) ?_
        refine lv_iload hx hb dX2_makeWhole_70 (lv_at hl 1 rfl) ?_
        refine iw_pi (va_runS (As := [.int (nI (8 * y + x)), .int (nI k)]) (rest := [.ref (ad pn)]) ⟨hx, hb, hml, hown, hts⟩ (kX2_indexOf l (8 * y + x) k) (va_cwS 2 hts gX2_makeWhole_X2_indexOf rfl rfl rfl (by decide +kernel) ⟨Nat.le_of_ble_eq_true rfl, Nat.le_of_ble_eq_true rfl⟩) ⟨fun a U g mk q => q, fun U hU hW => ⟨rfl, trivial⟩⟩ rfl rfl hl.1 rfl (lv_room (Nat.le_of_ble_eq_true rfl)) dX2_makeWhole_72 ⟨hcc, hcs⟩) hP hS (fun r8 u8 H locs hw8 hP hS => ?_)
        refine lv_asI hw8 ?_
        refine lv_fload hx hb dX2_makeWhole_75 (lv_at hl 0 rfl) ?_
        refine iw_fast hx hb hK hP hD hS lpn (va_us _ _ _) (vp_in_nI (show 3 * (8 * y + x) + k < 192 by omega) (by omega)) (nI_clamp (by omega)) dX2_makeWhole_77 (fun H locs hP hD hS => ?_)
        rw [va_uu _ _ _ _] at hP hD
        refine lv_iinc (v := nI (k + 1)) (lv' := [(5, .int (nI (k + 1))), (6, .float (whF md (3 * (8 * y + x) + k))), (3, .int (nI (8 * y + x))), (4, .int (nI (colN x y))), (2, .int (nI x)), (1, .int (nI y)), (0, .ref (ad pb))]) hx hb dX2_makeWhole_78 hl (k := 1) rfl (iinc_nat _ 1) (by decide) rfl (fun ls hl => ?_)
        refine lv_goto (tgt := 32) hx hb dX2_makeWhole_81 (by decide) ?_
        rw [flI_f] at hP hD
        exact ih (k + 1) H locs ls (by omega) (by omega) hP hD hS (lv_sub hl [0, 2, 3, 4, 5, 6] rfl)
set_option maxRecDepth 20000 in
theorem il_X2_makeWhole_iniX6 : (Cond.initialized RX6) ∈ wsX2_makeWhole := by decide +kernel
set_option maxRecDepth 20000 in
theorem il_X2_makeWhole_st_X6_placeOf : (Cond.static yX6_placeOf) ∈ wsX2_makeWhole := by decide +kernel
set_option maxRecDepth 20000 in
theorem il_X2_makeWhole_st_X6_colourSeen : (Cond.static yX6_colourSeen) ∈ wsX2_makeWhole := by decide +kernel
set_option maxHeartbeats 4000000 in
set_option maxRecDepth 100000 in
theorem lX2_makeWhole_x {p : Program} {l : Launch} {e : Env} {s : State} {m : MethodId} {args : Array Value} {below : List Frame} {meth : Method} {c : Code} {Q : State → Prop} {A : Nat → Prop} {H0 : Heap} {cells slots : Nat} (hx : p.tables.exec = Jvm.exec) (hb : c.code = cX2_makeWhole) (hml : c.maxLocals = 7) (hr : meth.sig.returnType = none) (hts : ∀ w ∈ wsX2_makeWhole, w.before args s = true) (hown : s.vm.findClass RX2 = some m.cls) {G : iG} (hK : KB G s) (hA : ∀ q, H0.size ≤ q → A q) {N : Nat} {ad : Nat → Nat} {C : Nat → va_E}  (hcc : cells ≤ rmX2_makeWhole.cells) (hcs : slots ≤ rmX2_makeWhole.slots) {pb pn pm : Nat} {nu : Nat → UInt32} {md : Nat → Nat} (lpb : pb < N) (lpn : pn < N) (lpm : pm < N) (hpb : C pb = ob 2 [.ref (ad pn), .ref (ad pm)]) (hpn : C pn = fa G 192 nu) (hpm : C pm = ia G 64 (fun i => nI (md i))) (hm9 : ∀ i, i < 64 → md i ≤ 255) {y : Nat} (hy8 : y < 8) (kx : ∀ (H : Heap) (locs : List Loc) (ls : Array Slot), va_P G.1 vwB (wl N ad (va_up C pn (fa G 192 (flI (whF md) nu (3 * (8 * y + 8)))))) H → va_D A (wl N ad (va_up C pn (fa G 192 (flI (whF md) nu (3 * (8 * y + 8)))))) → va_S A H0 H locs → lv_has ls 7 [(1, .int (nI y)), (0, .ref (ad pb))] → W p l e rmX2_makeWhole s m args below meth c H locs cells slots Q (F0 m 90 ls [])) : ∀ (d : Nat) (x : Nat) (H : Heap) (locs : List Loc) (ls : Array Slot), 8 - x < d → x ≤ 8 → va_P G.1 vwB (wl N ad (va_up C pn (fa G 192 (flI (whF md) nu (3 * (8 * y + x)))))) H → va_D A (wl N ad (va_up C pn (fa G 192 (flI (whF md) nu (3 * (8 * y + x)))))) → va_S A H0 H locs → lv_has ls 7 [(2, .int (nI x)), (1, .int (nI y)), (0, .ref (ad pb))] → W p l e rmX2_makeWhole s m args below meth c H locs cells slots Q (F0 m 10 ls []) := by
  intro d
  induction d with
  | zero => intro x H locs ls hd; exact absurd hd (Nat.not_lt_zero _)
  | succ d ih =>
    intro x H locs ls hd h2 hP hD hS hl
    refine lv_iload_n hx hb dX2_makeWhole_10 rfl (lv_at hl 0 rfl) ?_
    refine lv_bipush (v := nI 8) hx hb dX2_makeWhole_11 (by decide) ?_
    refine lv_icmp_ge (tgt := 90) hx hb dX2_makeWhole_13 (by decide) (fun c13 => ?_) (fun c13 => ?_)
    · have h5 : x = 8 := by have := (nI_leI (by omega) (by omega)).mp c13; omega
      subst h5
      exact kx H locs ls hP hD hS (lv_sub hl [1, 2] rfl)
    · have h4 : x < 8 := by have := mt (nI_leI (by omega) (by omega)).mpr c13; omega
      refine lv_iload_n hx hb dX2_makeWhole_16 rfl (lv_at hl 0 rfl) ?_
      refine lv_iload_n hx hb dX2_makeWhole_17 rfl (lv_at hl 1 rfl) ?_
      refine iw_pi (va_runSN (As := [.int (nI x), .int (nI y)]) (rest := []) ⟨hx, hb, hml, hown, hts⟩ (kX6_placeOf l x y) ⟨va_cnB (host := RX6) 2 hts gX2_makeWhole_X6_placeOf_n54 rfl rfl rfl (nw_RX2_54 hK.2) (hts _ il_X2_makeWhole_iniX6) (by decide +kernel) ⟨Nat.le_of_ble_eq_true rfl, Nat.le_of_ble_eq_true rfl⟩, (hts _ il_X2_makeWhole_st_X6_placeOf), trivial⟩ ⟨fun a U g mk q => q, fun U hU hW => ⟨rfl, trivial⟩⟩ rfl rfl hl.1 rfl (lv_room (Nat.le_of_ble_eq_true rfl)) dX2_makeWhole_18 ⟨hcc, hcs⟩) hP hS (fun r8 u8 H locs hw8 hP hS => ?_)
      refine lv_asI hw8 ?_
      refine lv_istore_n (lv' := [(3, .int (nI (8 * y + x))), (2, .int (nI x)), (1, .int (nI y)), (0, .ref (ad pb))]) hx hb dX2_makeWhole_21 rfl hl (by decide) rfl (fun ls hl => ?_)
      refine lv_iload_n hx hb dX2_makeWhole_22 rfl (lv_at hl 1 rfl) ?_
      refine lv_iload_n hx hb dX2_makeWhole_23 rfl (lv_at hl 2 rfl) ?_
      refine iw_pi (va_runSN (As := [.int (nI x), .int (nI y)]) (rest := []) ⟨hx, hb, hml, hown, hts⟩ (kX6_colourSeen l x y (by omega) (by omega)) ⟨va_cnB (host := RX6) 2 hts gX2_makeWhole_X6_colourSeen_n65 rfl rfl rfl (nw_RX2_65 hK.2) (hts _ il_X2_makeWhole_iniX6) (by decide +kernel) ⟨Nat.le_of_ble_eq_true rfl, Nat.le_of_ble_eq_true rfl⟩, (hts _ il_X2_makeWhole_st_X6_colourSeen), trivial⟩ ⟨fun a U g mk q => q, fun U hU hW => ⟨rfl, trivial⟩⟩ rfl rfl hl.1 rfl (lv_room (Nat.le_of_ble_eq_true rfl)) dX2_makeWhole_24 ⟨hcc, hcs⟩) hP hS (fun r8 u8 H locs hw8 hP hS => ?_)
      refine lv_asI hw8 ?_
      refine lv_istore (lv' := [(4, .int (nI (colN x y))), (3, .int (nI (8 * y + x))), (2, .int (nI x)), (1, .int (nI y)), (0, .ref (ad pb))]) hx hb dX2_makeWhole_27 hl (by decide) rfl (fun ls hl => ?_)
      refine lv_iconst (v := nI 0) hx hb dX2_makeWhole_29 (by decide) ?_
      refine lv_istore (lv' := [(5, .int (nI 0)), (4, .int (nI (colN x y))), (3, .int (nI (8 * y + x))), (2, .int (nI x)), (1, .int (nI y)), (0, .ref (ad pb))]) hx hb dX2_makeWhole_30 hl (by decide) rfl (fun ls hl => ?_)
      refine lX2_makeWhole_k hx hb hml hr hts hown hK hA hcc hcs lpb lpn lpm hpb hpn hpm hm9 h4 hy8 (fun H locs ls hP hD hS hl => ?_) 4 0 H locs ls (by omega) (by omega) hP hD hS (lv_sub hl [0, 2, 1, 3, 4, 5] rfl)
      refine lv_iinc (v := nI (x + 1)) (lv' := [(2, .int (nI (x + 1))), (1, .int (nI y)), (0, .ref (ad pb))]) hx hb dX2_makeWhole_84 hl (k := 0) rfl (iinc_nat _ 1) (by decide) rfl (fun ls hl => ?_)
      refine lv_goto (tgt := 10) hx hb dX2_makeWhole_87 (by decide) ?_
      exact ih (x + 1) H locs ls (by omega) (by omega) hP hD hS (lv_sub hl [0, 1, 2] rfl)
set_option maxHeartbeats 4000000 in
set_option maxRecDepth 100000 in
theorem lX2_makeWhole_y {p : Program} {l : Launch} {e : Env} {s : State} {m : MethodId} {args : Array Value} {below : List Frame} {meth : Method} {c : Code} {Q : State → Prop} {A : Nat → Prop} {H0 : Heap} {cells slots : Nat} (hx : p.tables.exec = Jvm.exec) (hb : c.code = cX2_makeWhole) (hml : c.maxLocals = 7) (hr : meth.sig.returnType = none) (hts : ∀ w ∈ wsX2_makeWhole, w.before args s = true) (hown : s.vm.findClass RX2 = some m.cls) {G : iG} (hK : KB G s) (hA : ∀ q, H0.size ≤ q → A q) {N : Nat} {ad : Nat → Nat} {C : Nat → va_E}  (hcc : cells ≤ rmX2_makeWhole.cells) (hcs : slots ≤ rmX2_makeWhole.slots) {pb pn pm : Nat} {nu : Nat → UInt32} {md : Nat → Nat} (lpb : pb < N) (lpn : pn < N) (lpm : pm < N) (hpb : C pb = ob 2 [.ref (ad pn), .ref (ad pm)]) (hpn : C pn = fa G 192 nu) (hpm : C pm = ia G 64 (fun i => nI (md i))) (hm9 : ∀ i, i < 64 → md i ≤ 255) (kx : ∀ (H : Heap) (locs : List Loc) (ls : Array Slot), va_P G.1 vwB (wl N ad (va_up C pn (fa G 192 (flI (whF md) nu (3 * (8 * 8)))))) H → va_D A (wl N ad (va_up C pn (fa G 192 (flI (whF md) nu (3 * (8 * 8)))))) → va_S A H0 H locs → lv_has ls 7 [(0, .ref (ad pb))] → W p l e rmX2_makeWhole s m args below meth c H locs cells slots Q (F0 m 96 ls [])) : ∀ (d : Nat) (y : Nat) (H : Heap) (locs : List Loc) (ls : Array Slot), 8 - y < d → y ≤ 8 → va_P G.1 vwB (wl N ad (va_up C pn (fa G 192 (flI (whF md) nu (3 * (8 * y)))))) H → va_D A (wl N ad (va_up C pn (fa G 192 (flI (whF md) nu (3 * (8 * y)))))) → va_S A H0 H locs → lv_has ls 7 [(1, .int (nI y)), (0, .ref (ad pb))] → W p l e rmX2_makeWhole s m args below meth c H locs cells slots Q (F0 m 2 ls []) := by
  intro d
  induction d with
  | zero => intro y H locs ls hd; exact absurd hd (Nat.not_lt_zero _)
  | succ d ih =>
    intro y H locs ls hd h2 hP hD hS hl
    refine lv_iload_n hx hb dX2_makeWhole_2 rfl (lv_at hl 0 rfl) ?_
    refine lv_bipush (v := nI 8) hx hb dX2_makeWhole_3 (by decide) ?_
    refine lv_icmp_ge (tgt := 96) hx hb dX2_makeWhole_5 (by decide) (fun c5 => ?_) (fun c5 => ?_)
    · have h5 : y = 8 := by have := (nI_leI (by omega) (by omega)).mp c5; omega
      subst h5
      exact kx H locs ls hP hD hS (lv_sub hl [1] rfl)
    · have h4 : y < 8 := by have := mt (nI_leI (by omega) (by omega)).mpr c5; omega
      refine lv_iconst (v := nI 0) hx hb dX2_makeWhole_8 (by decide) ?_
      refine lv_istore_n (lv' := [(2, .int (nI 0)), (1, .int (nI y)), (0, .ref (ad pb))]) hx hb dX2_makeWhole_9 rfl hl (by decide) rfl (fun ls hl => ?_)
      refine lX2_makeWhole_x hx hb hml hr hts hown hK hA hcc hcs lpb lpn lpm hpb hpn hpm hm9 h4 (fun H locs ls hP hD hS hl => ?_) 9 0 H locs ls (by omega) (by omega) hP hD hS (lv_sub hl [0, 1, 2] rfl)
      refine lv_iinc (v := nI (y + 1)) (lv' := [(1, .int (nI (y + 1))), (0, .ref (ad pb))]) hx hb dX2_makeWhole_90 hl (k := 0) rfl (iinc_nat _ 1) (by decide) rfl (fun ls hl => ?_)
      refine lv_goto (tgt := 2) hx hb dX2_makeWhole_93 (by decide) ?_
      exact ih (y + 1) H locs ls (by omega) (by omega) hP hD hS (lv_sub hl [0, 1] rfl)
set_option maxHeartbeats 4000000 in
set_option maxRecDepth 100000 in
theorem kX2_makeWhole (l : Launch) (G : iG) (N : Nat) (ad : Nat → Nat) (C : Nat → va_E) {pb pn pm : Nat} {nu : Nat → UInt32} {md : Nat → Nat} (lpb : pb < N) (lpn : pn < N) (lpm : pm < N) (hpb : C pb = ob 2 [.ref (ad pn), .ref (ad pm)]) (hpn : C pn = fa G 192 nu) (hpm : C pm = ia G 64 (fun i => nI (md i))) (hm9 : ∀ i, i < 64 → md i ≤ 255) (sz : Nat) : Met l yX2_makeWhole wsX2_makeWhole rmX2_makeWhole (iPre G N ad C sz [.ref (ad pb)]) (va_Qv (fun (u : Nat → va_E) => u = va_up C pn (fa G 192 (whF md))) (iB G N ad) (iA N ad sz)) 0 0 (iA N ad sz) := by
  refine Met.ofW (cc := cX2_makeWhole) (maxL := 7) (ret := none) (by decide) rfl ?_
  intro p e s m args below meth c s₁ B hml hv
  obtain ⟨rfl, hsz, hP, hK, hD0⟩ := hv
  have hx := B.exec
  have hb := B.bytes
  have hr := B.returns
  have hts := atoms_spec (ws := wsX2_makeWhole) B.pre
  have hown : s.vm.findClass RX2 = some m.cls := findClass_of_methodNamed B.named
  have hlocks := B.notSynchronized
  subst hsz
  have hD := wl_self hD0 s.heap.size
  have hA : ∀ q : Nat, s.heap.size ≤ q → iA N ad s.heap.size q := fun q h => Or.inr h
  have hS : va_S (iA N ad s.heap.size) s.heap s.heap [] := va_S.rf
  have hP : va_P G.1 vwB (wl N ad C) s.heap := hP
  have hl := lv_entry ([.ref (ad pb)]) (n := 7) (Nat.le_of_ble_eq_true rfl)
  rw [lg_entry_eq]
  generalize (lg_sl ([.ref (ad pb)]) ++ List.replicate (7 - (lg_sl ([.ref (ad pb)])).length) Slot.unset).toArray = ls at hl ⊢
  have hl : lv_has ls 7 [(0, .ref (ad pb))] := hl
  have n_pb_pn : pb ≠ pn := fun h => by rw [h, hpn] at hpb; simp at hpb
  have n_pb_pm : pb ≠ pm := fun h => by rw [h, hpm] at hpb; simp at hpb
  have n_pn_pm : pn ≠ pm := fun h => by rw [h, hpm] at hpn; simp at hpn
  refine lv_iconst (v := nI 0) hx hb dX2_makeWhole_0 (by decide) ?_
  refine lv_istore_n (lv' := [(1, .int (nI 0)), (0, .ref (ad pb))]) hx hb dX2_makeWhole_1 rfl hl (by decide) rfl (fun ls hl => ?_)
  have hP := wl_selfE hP hpn
  have hD := wl_D hD (va_up C pn (fa G 192 nu))
  refine lX2_makeWhole_y hx hb hml hr hts hown hK hA (Nat.le_refl _) (Nat.le_refl _) lpb lpn lpm hpb hpn hpm hm9 (fun H locs ls hP hD hS hl => ?_) 9 0 _ _ ls (by omega) (by omega) (by rw [flI_0]; exact hP) (by rw [flI_0]; exact hD) hS (lv_sub hl [0, 1] rfl)
  have hP := wl_fa (g := whF md) hP (fun k hk => by simp [flI, show k < 192 from hk])
  have hD := wl_D hD (va_up C pn (fa G 192 (whF md)))
  exact W.vret hx hb hr (fun t ht hW => ⟨⟨_, rfl, rfl, iB_of ht hP⟩, hS.F ht⟩) hS.2.2 dX2_makeWhole_96
abbrev rmX2_darken : Room := { frames := 0, cells := 0, slots := 0, locals := 0 }
set_option maxRecDepth 20000 in
theorem iu_X2_darken_2 : ∀ w ∈ u_ws RX2 TX2 2, w ∈ wsX2_darken := by decide +kernel
set_option maxRecDepth 20000 in
theorem il_X2_darken_9 : (Cond.fieldLink RX2 9 "BayerGate$Picture" "numbers" "[F") ∈ wsX2_darken := by decide +kernel
set_option maxHeartbeats 4000000 in
set_option maxRecDepth 100000 in
theorem lX2_darken {p : Program} {l : Launch} {e : Env} {s : State} {m : MethodId} {args : Array Value} {below : List Frame} {meth : Method} {c : Code} {Q : State → Prop} {A : Nat → Prop} {H0 : Heap} {cells slots : Nat} (hx : p.tables.exec = Jvm.exec) (hb : c.code = cX2_darken) (hml : c.maxLocals = 4) (hr : meth.sig.returnType = none) (hts : ∀ w ∈ wsX2_darken, w.before args s = true) (hown : s.vm.findClass RX2 = some m.cls) {G : iG} (hK : KB G s) (hA : ∀ q, H0.size ≤ q → A q) {N : Nat} {ad : Nat → Nat} {C : Nat → va_E}  (hcc : cells ≤ rmX2_darken.cells) (hcs : slots ≤ rmX2_darken.slots) {pb pn pm : Nat} {nu : Nat → UInt32} {md : Nat → Nat} (lpb : pb < N) (lpn : pn < N) (lpm : pm < N) (hpb : C pb = ob 2 [.ref (ad pn), .ref (ad pm)]) (hpn : C pn = fa G 192 nu) (hpm : C pm = ia G 64 (fun i => nI (md i))) (hn9 : ∀ i, i < 192 → vf_n32 (nu i)) {b : Nat} (hb65 : b < 65) (kx : ∀ (H : Heap) (locs : List Loc) (ls : Array Slot), va_P G.1 vwB (wl N ad (va_up C pn (fa G 192 (flI (fun i => dkF b (nu i)) nu (192))))) H → va_D A (wl N ad (va_up C pn (fa G 192 (flI (fun i => dkF b (nu i)) nu (192))))) → va_S A H0 H locs → lv_has ls 4 [(0, .ref (ad pb))] → W p l e rmX2_darken s m args below meth c H locs cells slots Q (F0 m 44 ls [])) : ∀ (d : Nat) (k : Nat) (H : Heap) (locs : List Loc) (ls : Array Slot), 192 - k < d → k ≤ 192 → va_P G.1 vwB (wl N ad (va_up C pn (fa G 192 (flI (fun i => dkF b (nu i)) nu (k))))) H → va_D A (wl N ad (va_up C pn (fa G 192 (flI (fun i => dkF b (nu i)) nu (k))))) → va_S A H0 H locs → lv_has ls 4 [(2, .int (nI k)), (0, .ref (ad pb)), (1, .int (nI b))] → W p l e rmX2_darken s m args below meth c H locs cells slots Q (F0 m 2 ls []) := by
  intro d
  induction d with
  | zero => intro k H locs ls hd; exact absurd hd (Nat.not_lt_zero _)
  | succ d ih =>
    intro k H locs ls hd h2 hP hD hS hl
    have n_pb_pn : pb ≠ pn := fun h => by rw [h, hpn] at hpb; simp at hpb
    have n_pb_pm : pb ≠ pm := fun h => by rw [h, hpm] at hpb; simp at hpb
    have n_pn_pm : pn ≠ pm := fun h => by rw [h, hpm] at hpn; simp at hpn
    have hn0 := fun (h : k < 192) => hn9 k h
    refine lv_iload_n hx hb dX2_darken_2 rfl (lv_at hl 0 rfl) ?_
    refine lv_aload_n hx hb dX2_darken_3 rfl (lv_at hl 1 rfl) ?_
    refine iw_get hx hb hts iu_X2_darken_2 hown hK hP lpb ((va_un _ _ n_pb_pn).trans (hpb)) rfl 0 (by decide) (hts _ il_X2_darken_9) (fun _ h9 => h9) rfl dX2_darken_4 ?_
    refine iw_alenF (v := nI 192) hx hb hK hP lpn (va_us _ _ _) rfl dX2_darken_7 ?_
    refine lv_icmp_ge (tgt := 44) hx hb dX2_darken_8 (by decide) (fun c8 => ?_) (fun c8 => ?_)
    · have h5 : k = 192 := by have := (nI_leI (by omega) (by omega)).mp c8; omega
      subst h5
      exact kx H locs ls hP hD hS (lv_sub hl [1] rfl)
    · have h4 : k < 192 := by have := mt (nI_leI (by omega) (by omega)).mpr c8; omega
      refine lv_aload_n hx hb dX2_darken_11 rfl (lv_at hl 1 rfl) ?_
      refine iw_get hx hb hts iu_X2_darken_2 hown hK hP lpb ((va_un _ _ n_pb_pn).trans (hpb)) rfl 0 (by decide) (hts _ il_X2_darken_9) (fun _ h9 => h9) rfl dX2_darken_12 ?_
      refine lv_iload_n hx hb dX2_darken_15 rfl (lv_at hl 0 rfl) ?_
      refine iw_fald (v := (flI (fun i => dkF b (nu i)) nu (k)) k) hx hb hK hP lpn (va_us _ _ _) (vp_in_nI (show k < 192 by omega) (by omega)) (congrArg (flI (fun i => dkF b (nu i)) nu (k)) (nI_clamp (by omega))) dX2_darken_16 ?_
      refine lv_asF (y := nu k) (flI_at _ _ _) ?_
      refine lv_iload_n hx hb dX2_darken_17 rfl (lv_at hl 2 rfl) ?_
      refine lv_i2f hx hb dX2_darken_18 ?_
      refine lv_fsub hx hb dX2_darken_19 (fsub_nf (hn0 h4) (i2f_fin32 _)) ?_
      refine lv_fstore_n (lv' := [(3, .float (FP.fsub (nu k) (FP.i2f (nI b)))), (2, .int (nI k)), (0, .ref (ad pb)), (1, .int (nI b))]) hx hb dX2_darken_20 rfl hl (by decide) rfl (fun ls hl => ?_)
      refine lv_aload_n hx hb dX2_darken_21 rfl (lv_at hl 2 rfl) ?_
      refine iw_get hx hb hts iu_X2_darken_2 hown hK hP lpb ((va_un _ _ n_pb_pn).trans (hpb)) rfl 0 (by decide) (hts _ il_X2_darken_9) (fun _ h9 => h9) rfl dX2_darken_22 ?_
      refine lv_iload_n hx hb dX2_darken_25 rfl (lv_at hl 1 rfl) ?_
      refine lv_fload_n hx hb dX2_darken_26 rfl (lv_at hl 0 rfl) ?_
      refine lv_fconst0 hx hb dX2_darken_27 ?_
      refine lv_fcmp hx hb dX2_darken_28 ?_
      refine lv_if_le (tgt := 36) hx hb dX2_darken_29 (by decide) (fun c29 => ?_) (fun c29 => ?_)
      · refine lv_fconst0 hx hb dX2_darken_36 ?_
        refine lv_asF (y := (fun i => dkF b (nu i)) k) (by show _ = dkF b (nu k); unfold dkF; rw [if_pos c29]) ?_
        refine iw_fast hx hb hK hP hD hS lpn (va_us _ _ _) (vp_in_nI (show k < 192 by omega) (by omega)) (nI_clamp (by omega)) dX2_darken_37 (fun H locs hP hD hS => ?_)
        rw [va_uu _ _ _ _] at hP hD
        refine lv_iinc (v := nI (k + 1)) (lv' := [(2, .int (nI (k + 1))), (3, .float (FP.fsub (nu k) (FP.i2f (nI b)))), (0, .ref (ad pb)), (1, .int (nI b))]) hx hb dX2_darken_38 hl (k := 1) rfl (iinc_nat _ 1) (by decide) rfl (fun ls hl => ?_)
        refine lv_goto (tgt := 2) hx hb dX2_darken_41 (by decide) ?_
        rw [flI_f (fun i => dkF b (nu i))] at hP hD
        exact ih (k + 1) H locs ls (by omega) (by omega) hP hD hS (lv_sub hl [0, 2, 3] rfl)
      · refine lv_fload_n hx hb dX2_darken_32 rfl (lv_at hl 0 rfl) ?_
        refine lv_goto (tgt := 37) hx hb dX2_darken_33 (by decide) ?_
        refine lv_asF (y := (fun i => dkF b (nu i)) k) (by show _ = dkF b (nu k); unfold dkF; rw [if_neg c29]) ?_
        refine iw_fast hx hb hK hP hD hS lpn (va_us _ _ _) (vp_in_nI (show k < 192 by omega) (by omega)) (nI_clamp (by omega)) dX2_darken_37 (fun H locs hP hD hS => ?_)
        rw [va_uu _ _ _ _] at hP hD
        refine lv_iinc (v := nI (k + 1)) (lv' := [(2, .int (nI (k + 1))), (3, .float (FP.fsub (nu k) (FP.i2f (nI b)))), (0, .ref (ad pb)), (1, .int (nI b))]) hx hb dX2_darken_38 hl (k := 1) rfl (iinc_nat _ 1) (by decide) rfl (fun ls hl => ?_)
        refine lv_goto (tgt := 2) hx hb dX2_darken_41 (by decide) ?_
        rw [flI_f (fun i => dkF b (nu i))] at hP hD
        exact ih (k + 1) H locs ls (by omega) (by omega) hP hD hS (lv_sub hl [0, 2, 3] rfl)
set_option maxHeartbeats 4000000 in
set_option maxRecDepth 100000 in
theorem kX2_darken (l : Launch) (G : iG) (N : Nat) (ad : Nat → Nat) (C : Nat → va_E) {pb pn pm : Nat} {nu : Nat → UInt32} {md : Nat → Nat} (lpb : pb < N) (lpn : pn < N) (lpm : pm < N) (hpb : C pb = ob 2 [.ref (ad pn), .ref (ad pm)]) (hpn : C pn = fa G 192 nu) (hpm : C pm = ia G 64 (fun i => nI (md i))) (hn9 : ∀ i, i < 192 → vf_n32 (nu i)) {b : Nat} (hb65 : b < 65) (sz : Nat) : Met l yX2_darken wsX2_darken rmX2_darken (iPre G N ad C sz [.ref (ad pb), .int (nI b)]) (va_Qv (fun (u : Nat → va_E) => u = va_up C pn (fa G 192 (fun i => dkF b (nu i)))) (iB G N ad) (iA N ad sz)) 0 0 (iA N ad sz) := by
  refine Met.ofW (cc := cX2_darken) (maxL := 4) (ret := none) (by decide) rfl ?_
  intro p e s m args below meth c s₁ B hml hv
  obtain ⟨rfl, hsz, hP, hK, hD0⟩ := hv
  have hx := B.exec
  have hb := B.bytes
  have hr := B.returns
  have hts := atoms_spec (ws := wsX2_darken) B.pre
  have hown : s.vm.findClass RX2 = some m.cls := findClass_of_methodNamed B.named
  have hlocks := B.notSynchronized
  subst hsz
  have hD := wl_self hD0 s.heap.size
  have hA : ∀ q : Nat, s.heap.size ≤ q → iA N ad s.heap.size q := fun q h => Or.inr h
  have hS : va_S (iA N ad s.heap.size) s.heap s.heap [] := va_S.rf
  have hP : va_P G.1 vwB (wl N ad C) s.heap := hP
  have hl := lv_entry ([.ref (ad pb), .int (nI b)]) (n := 4) (Nat.le_of_ble_eq_true rfl)
  rw [lg_entry_eq]
  generalize (lg_sl ([.ref (ad pb), .int (nI b)]) ++ List.replicate (4 - (lg_sl ([.ref (ad pb), .int (nI b)])).length) Slot.unset).toArray = ls at hl ⊢
  have hl : lv_has ls 4 [(0, .ref (ad pb)), (1, .int (nI b))] := hl
  have n_pb_pn : pb ≠ pn := fun h => by rw [h, hpn] at hpb; simp at hpb
  have n_pb_pm : pb ≠ pm := fun h => by rw [h, hpm] at hpb; simp at hpb
  have n_pn_pm : pn ≠ pm := fun h => by rw [h, hpm] at hpn; simp at hpn
  refine lv_iconst (v := nI 0) hx hb dX2_darken_0 (by decide) ?_
  refine lv_istore_n (lv' := [(2, .int (nI 0)), (0, .ref (ad pb)), (1, .int (nI b))]) hx hb dX2_darken_1 rfl hl (by decide) rfl (fun ls hl => ?_)
  have hP := wl_selfE hP hpn
  have hD := wl_D hD (va_up C pn (fa G 192 nu))
  refine lX2_darken hx hb hml hr hts hown hK hA (Nat.le_refl _) (Nat.le_refl _) lpb lpn lpm hpb hpn hpm hn9 hb65 (fun H locs ls hP hD hS hl => ?_) 193 0 _ _ ls (by omega) (by omega) (by rw [flI_0]; exact hP) (by rw [flI_0]; exact hD) hS (lv_sub hl [0, 1, 2] rfl)
  have hP := wl_fa (g := fun i => dkF b (nu i)) hP (fun k hk => by simp [flI, show k < 192 from hk])
  have hD := wl_D hD (va_up C pn (fa G 192 (fun i => dkF b (nu i))))
  exact W.vret hx hb hr (fun t ht hW => ⟨⟨_, rfl, rfl, iB_of ht hP⟩, hS.F ht⟩) hS.2.2 dX2_darken_44
abbrev rmX2_changeTone : Room := { frames := 0, cells := 0, slots := 0, locals := 0 }
set_option maxRecDepth 20000 in
theorem iu_X2_changeTone_2 : ∀ w ∈ u_ws RX2 TX2 2, w ∈ wsX2_changeTone := by decide +kernel
set_option maxRecDepth 20000 in
theorem il_X2_changeTone_9 : (Cond.fieldLink RX2 9 "BayerGate$Picture" "numbers" "[F") ∈ wsX2_changeTone := by decide +kernel
set_option maxRecDepth 20000 in
theorem il_X2_changeTone_53 : (Cond.constantFloat RX2 53 (1132396544)) ∈ wsX2_changeTone := by decide +kernel
set_option maxRecDepth 20000 in
theorem il_X2_changeTone_87 : (Cond.constantFloat RX2 87 (1056964608)) ∈ wsX2_changeTone := by decide +kernel
set_option maxHeartbeats 4000000 in
set_option maxRecDepth 100000 in
theorem lX2_changeTone {p : Program} {l : Launch} {e : Env} {s : State} {m : MethodId} {args : Array Value} {below : List Frame} {meth : Method} {c : Code} {Q : State → Prop} {A : Nat → Prop} {H0 : Heap} {cells slots : Nat} (hx : p.tables.exec = Jvm.exec) (hb : c.code = cX2_changeTone) (hml : c.maxLocals = 3) (hr : meth.sig.returnType = none) (hts : ∀ w ∈ wsX2_changeTone, w.before args s = true) (hown : s.vm.findClass RX2 = some m.cls) {G : iG} (hK : KB G s) (hA : ∀ q, H0.size ≤ q → A q) {N : Nat} {ad : Nat → Nat} {C : Nat → va_E}  (hcc : cells ≤ rmX2_changeTone.cells) (hcs : slots ≤ rmX2_changeTone.slots) {pb pn pm : Nat} {nu : Nat → UInt32} {md : Nat → Nat} (lpb : pb < N) (lpn : pn < N) (lpm : pm < N) (hpb : C pb = ob 2 [.ref (ad pn), .ref (ad pm)]) (hpn : C pn = fa G 192 nu) (hpm : C pm = ia G 64 (fun i => nI (md i))) (hn9 : ∀ i, i < 192 → vf_n32 (nu i)) {n : Nat} (hn3 : n < 3) (kx : ∀ (H : Heap) (locs : List Loc) (ls : Array Slot), va_P G.1 vwB (wl N ad (va_up C pn (fa G 192 (flI (fun i => toF n (nu i)) nu (192))))) H → va_D A (wl N ad (va_up C pn (fa G 192 (flI (fun i => toF n (nu i)) nu (192))))) → va_S A H0 H locs → lv_has ls 3 [(0, .ref (ad pb))] → W p l e rmX2_changeTone s m args below meth c H locs cells slots Q (F0 m 76 ls [])) : ∀ (d : Nat) (k : Nat) (H : Heap) (locs : List Loc) (ls : Array Slot), 192 - k < d → k ≤ 192 → va_P G.1 vwB (wl N ad (va_up C pn (fa G 192 (flI (fun i => toF n (nu i)) nu (k))))) H → va_D A (wl N ad (va_up C pn (fa G 192 (flI (fun i => toF n (nu i)) nu (k))))) → va_S A H0 H locs → lv_has ls 3 [(2, .int (nI k)), (0, .ref (ad pb)), (1, .int (nI n))] → W p l e rmX2_changeTone s m args below meth c H locs cells slots Q (F0 m 2 ls []) := by
  intro d
  induction d with
  | zero => intro k H locs ls hd; exact absurd hd (Nat.not_lt_zero _)
  | succ d ih =>
    intro k H locs ls hd h2 hP hD hS hl
    have n_pb_pn : pb ≠ pn := fun h => by rw [h, hpn] at hpb; simp at hpb
    have n_pb_pm : pb ≠ pm := fun h => by rw [h, hpm] at hpb; simp at hpb
    have n_pn_pm : pn ≠ pm := fun h => by rw [h, hpm] at hpn; simp at hpn
    have hn0 := fun (h : k < 192) => hn9 k h
    refine lv_iload_n hx hb dX2_changeTone_2 rfl (lv_at hl 0 rfl) ?_
    refine lv_aload_n hx hb dX2_changeTone_3 rfl (lv_at hl 1 rfl) ?_
    refine iw_get hx hb hts iu_X2_changeTone_2 hown hK hP lpb ((va_un _ _ n_pb_pn).trans (hpb)) rfl 0 (by decide) (hts _ il_X2_changeTone_9) (fun _ h9 => h9) rfl dX2_changeTone_4 ?_
    refine iw_alenF (v := nI 192) hx hb hK hP lpn (va_us _ _ _) rfl dX2_changeTone_7 ?_
    refine lv_icmp_ge (tgt := 76) hx hb dX2_changeTone_8 (by decide) (fun c8 => ?_) (fun c8 => ?_)
    · have h5 : k = 192 := by have := (nI_leI (by omega) (by omega)).mp c8; omega
      subst h5
      exact kx H locs ls hP hD hS (lv_sub hl [1] rfl)
    · have h4 : k < 192 := by have := mt (nI_leI (by omega) (by omega)).mpr c8; omega
      refine lv_iload_n hx hb dX2_changeTone_11 rfl (lv_at hl 2 rfl) ?_
      refine lv_if_ne (tgt := 33) hx hb dX2_changeTone_12 (by decide) (fun c12 => ?_) (fun c12 => ?_)
      · have e8 : ¬ n = 0 := fun e => c12 (by rw [e]; exact nI_0)
        refine lv_iload_n hx hb dX2_changeTone_33 rfl (lv_at hl 2 rfl) ?_
        refine lv_iconst (v := nI 1) hx hb dX2_changeTone_34 (by decide) ?_
        refine lv_icmp_ne (tgt := 55) hx hb dX2_changeTone_35 (by decide) (fun c35 => ?_) (fun c35 => ?_)
        · have e9 : ¬ n = 1 := fun e => c35 (by rw [e])
          refine lv_aload_n hx hb dX2_changeTone_55 rfl (lv_at hl 1 rfl) ?_
          refine iw_get hx hb hts iu_X2_changeTone_2 hown hK hP lpb ((va_un _ _ n_pb_pn).trans (hpb)) rfl 0 (by decide) (hts _ il_X2_changeTone_9) (fun _ h9 => h9) rfl dX2_changeTone_56 ?_
          refine lv_iload_n hx hb dX2_changeTone_59 rfl (lv_at hl 0 rfl) ?_
          refine lv_ldcf hx hb hown (hts _ il_X2_changeTone_53) dX2_changeTone_60 ?_
          refine lv_aload_n hx hb dX2_changeTone_62 rfl (lv_at hl 1 rfl) ?_
          refine iw_get hx hb hts iu_X2_changeTone_2 hown hK hP lpb ((va_un _ _ n_pb_pn).trans (hpb)) rfl 0 (by decide) (hts _ il_X2_changeTone_9) (fun _ h9 => h9) rfl dX2_changeTone_63 ?_
          refine lv_iload_n hx hb dX2_changeTone_66 rfl (lv_at hl 0 rfl) ?_
          refine iw_fald (v := (flI (fun i => toF n (nu i)) nu (k)) k) hx hb hK hP lpn (va_us _ _ _) (vp_in_nI (show k < 192 by omega) (by omega)) (congrArg (flI (fun i => toF n (nu i)) nu (k)) (nI_clamp (by omega))) dX2_changeTone_67 ?_
          refine lv_asF (y := nu k) (flI_at _ _ _) ?_
          refine lv_fsub hx hb dX2_changeTone_68 (fsub_fn (finz32_fin f255_ok) (hn0 h4)) ?_
          refine lv_asF (y := (fun i => toF n (nu i)) k) (by show _ = toF n (nu k); unfold toF; rw [if_neg e8, if_neg e9]) ?_
          refine iw_fast hx hb hK hP hD hS lpn (va_us _ _ _) (vp_in_nI (show k < 192 by omega) (by omega)) (nI_clamp (by omega)) dX2_changeTone_69 (fun H locs hP hD hS => ?_)
          rw [va_uu _ _ _ _] at hP hD
          refine lv_iinc (v := nI (k + 1)) (lv' := [(2, .int (nI (k + 1))), (0, .ref (ad pb)), (1, .int (nI n))]) hx hb dX2_changeTone_70 hl (k := 0) rfl (iinc_nat _ 1) (by decide) rfl (fun ls hl => ?_)
          refine lv_goto (tgt := 2) hx hb dX2_changeTone_73 (by decide) ?_
          rw [flI_f (fun i => toF n (nu i))] at hP hD
          exact ih (k + 1) H locs ls (by omega) (by omega) hP hD hS (lv_sub hl [0, 1, 2] rfl)
        · have e9 : n = 1 := (nI_eq (by omega) (by omega)).mp c35
          refine lv_aload_n hx hb dX2_changeTone_38 rfl (lv_at hl 1 rfl) ?_
          refine iw_get hx hb hts iu_X2_changeTone_2 hown hK hP lpb ((va_un _ _ n_pb_pn).trans (hpb)) rfl 0 (by decide) (hts _ il_X2_changeTone_9) (fun _ h9 => h9) rfl dX2_changeTone_39 ?_
          refine lv_iload_n hx hb dX2_changeTone_42 rfl (lv_at hl 0 rfl) ?_
          refine lv_aload_n hx hb dX2_changeTone_43 rfl (lv_at hl 1 rfl) ?_
          refine iw_get hx hb hts iu_X2_changeTone_2 hown hK hP lpb ((va_un _ _ n_pb_pn).trans (hpb)) rfl 0 (by decide) (hts _ il_X2_changeTone_9) (fun _ h9 => h9) rfl dX2_changeTone_44 ?_
          refine lv_iload_n hx hb dX2_changeTone_47 rfl (lv_at hl 0 rfl) ?_
          refine iw_fald (v := (flI (fun i => toF n (nu i)) nu (k)) k) hx hb hK hP lpn (va_us _ _ _) (vp_in_nI (show k < 192 by omega) (by omega)) (congrArg (flI (fun i => toF n (nu i)) nu (k)) (nI_clamp (by omega))) dX2_changeTone_48 ?_
          refine lv_asF (y := nu k) (flI_at _ _ _) ?_
          refine lv_fconst2 hx hb dX2_changeTone_49 ?_
          refine lv_fmul hx hb dX2_changeTone_50 (fmul_nz (hn0 h4) f2_ok) ?_
          refine lv_asF (y := (fun i => toF n (nu i)) k) (by show _ = toF n (nu k); unfold toF; rw [if_neg e8, if_pos e9]) ?_
          refine iw_fast hx hb hK hP hD hS lpn (va_us _ _ _) (vp_in_nI (show k < 192 by omega) (by omega)) (nI_clamp (by omega)) dX2_changeTone_51 (fun H locs hP hD hS => ?_)
          rw [va_uu _ _ _ _] at hP hD
          refine lv_goto (tgt := 70) hx hb dX2_changeTone_52 (by decide) ?_
          refine lv_iinc (v := nI (k + 1)) (lv' := [(2, .int (nI (k + 1))), (0, .ref (ad pb)), (1, .int (nI n))]) hx hb dX2_changeTone_70 hl (k := 0) rfl (iinc_nat _ 1) (by decide) rfl (fun ls hl => ?_)
          refine lv_goto (tgt := 2) hx hb dX2_changeTone_73 (by decide) ?_
          rw [flI_f (fun i => toF n (nu i))] at hP hD
          exact ih (k + 1) H locs ls (by omega) (by omega) hP hD hS (lv_sub hl [0, 1, 2] rfl)
      · have e8 : n = 0 := (nI_eq (by omega) (by omega)).mp (c12.trans nI_0.symm)
        refine lv_aload_n hx hb dX2_changeTone_15 rfl (lv_at hl 1 rfl) ?_
        refine iw_get hx hb hts iu_X2_changeTone_2 hown hK hP lpb ((va_un _ _ n_pb_pn).trans (hpb)) rfl 0 (by decide) (hts _ il_X2_changeTone_9) (fun _ h9 => h9) rfl dX2_changeTone_16 ?_
        refine lv_iload_n hx hb dX2_changeTone_19 rfl (lv_at hl 0 rfl) ?_
        refine lv_aload_n hx hb dX2_changeTone_20 rfl (lv_at hl 1 rfl) ?_
        refine iw_get hx hb hts iu_X2_changeTone_2 hown hK hP lpb ((va_un _ _ n_pb_pn).trans (hpb)) rfl 0 (by decide) (hts _ il_X2_changeTone_9) (fun _ h9 => h9) rfl dX2_changeTone_21 ?_
        refine lv_iload_n hx hb dX2_changeTone_24 rfl (lv_at hl 0 rfl) ?_
        refine iw_fald (v := (flI (fun i => toF n (nu i)) nu (k)) k) hx hb hK hP lpn (va_us _ _ _) (vp_in_nI (show k < 192 by omega) (by omega)) (congrArg (flI (fun i => toF n (nu i)) nu (k)) (nI_clamp (by omega))) dX2_changeTone_25 ?_
        refine lv_asF (y := nu k) (flI_at _ _ _) ?_
        refine lv_ldcf hx hb hown (hts _ il_X2_changeTone_87) dX2_changeTone_26 ?_
        refine lv_fmul hx hb dX2_changeTone_28 (fmul_nz (hn0 h4) fhalf_ok) ?_
        refine lv_asF (y := (fun i => toF n (nu i)) k) (by show _ = toF n (nu k); unfold toF; rw [if_pos e8]) ?_
        refine iw_fast hx hb hK hP hD hS lpn (va_us _ _ _) (vp_in_nI (show k < 192 by omega) (by omega)) (nI_clamp (by omega)) dX2_changeTone_29 (fun H locs hP hD hS => ?_)
        rw [va_uu _ _ _ _] at hP hD
        refine lv_goto (tgt := 70) hx hb dX2_changeTone_30 (by decide) ?_
        refine lv_iinc (v := nI (k + 1)) (lv' := [(2, .int (nI (k + 1))), (0, .ref (ad pb)), (1, .int (nI n))]) hx hb dX2_changeTone_70 hl (k := 0) rfl (iinc_nat _ 1) (by decide) rfl (fun ls hl => ?_)
        refine lv_goto (tgt := 2) hx hb dX2_changeTone_73 (by decide) ?_
        rw [flI_f (fun i => toF n (nu i))] at hP hD
        exact ih (k + 1) H locs ls (by omega) (by omega) hP hD hS (lv_sub hl [0, 1, 2] rfl)
set_option maxHeartbeats 4000000 in
set_option maxRecDepth 100000 in
theorem kX2_changeTone (l : Launch) (G : iG) (N : Nat) (ad : Nat → Nat) (C : Nat → va_E) {pb pn pm : Nat} {nu : Nat → UInt32} {md : Nat → Nat} (lpb : pb < N) (lpn : pn < N) (lpm : pm < N) (hpb : C pb = ob 2 [.ref (ad pn), .ref (ad pm)]) (hpn : C pn = fa G 192 nu) (hpm : C pm = ia G 64 (fun i => nI (md i))) (hn9 : ∀ i, i < 192 → vf_n32 (nu i)) {n : Nat} (hn3 : n < 3) (sz : Nat) : Met l yX2_changeTone wsX2_changeTone rmX2_changeTone (iPre G N ad C sz [.ref (ad pb), .int (nI n)]) (va_Qv (fun (u : Nat → va_E) => u = va_up C pn (fa G 192 (fun i => toF n (nu i)))) (iB G N ad) (iA N ad sz)) 0 0 (iA N ad sz) := by
  refine Met.ofW (cc := cX2_changeTone) (maxL := 3) (ret := none) (by decide) rfl ?_
  intro p e s m args below meth c s₁ B hml hv
  obtain ⟨rfl, hsz, hP, hK, hD0⟩ := hv
  have hx := B.exec
  have hb := B.bytes
  have hr := B.returns
  have hts := atoms_spec (ws := wsX2_changeTone) B.pre
  have hown : s.vm.findClass RX2 = some m.cls := findClass_of_methodNamed B.named
  have hlocks := B.notSynchronized
  subst hsz
  have hD := wl_self hD0 s.heap.size
  have hA : ∀ q : Nat, s.heap.size ≤ q → iA N ad s.heap.size q := fun q h => Or.inr h
  have hS : va_S (iA N ad s.heap.size) s.heap s.heap [] := va_S.rf
  have hP : va_P G.1 vwB (wl N ad C) s.heap := hP
  have hl := lv_entry ([.ref (ad pb), .int (nI n)]) (n := 3) (Nat.le_of_ble_eq_true rfl)
  rw [lg_entry_eq]
  generalize (lg_sl ([.ref (ad pb), .int (nI n)]) ++ List.replicate (3 - (lg_sl ([.ref (ad pb), .int (nI n)])).length) Slot.unset).toArray = ls at hl ⊢
  have hl : lv_has ls 3 [(0, .ref (ad pb)), (1, .int (nI n))] := hl
  have n_pb_pn : pb ≠ pn := fun h => by rw [h, hpn] at hpb; simp at hpb
  have n_pb_pm : pb ≠ pm := fun h => by rw [h, hpm] at hpb; simp at hpb
  have n_pn_pm : pn ≠ pm := fun h => by rw [h, hpm] at hpn; simp at hpn
  refine lv_iconst (v := nI 0) hx hb dX2_changeTone_0 (by decide) ?_
  refine lv_istore_n (lv' := [(2, .int (nI 0)), (0, .ref (ad pb)), (1, .int (nI n))]) hx hb dX2_changeTone_1 rfl hl (by decide) rfl (fun ls hl => ?_)
  have hP := wl_selfE hP hpn
  have hD := wl_D hD (va_up C pn (fa G 192 nu))
  refine lX2_changeTone hx hb hml hr hts hown hK hA (Nat.le_refl _) (Nat.le_refl _) lpb lpn lpm hpb hpn hpm hn9 hn3 (fun H locs ls hP hD hS hl => ?_) 193 0 _ _ ls (by omega) (by omega) (by rw [flI_0]; exact hP) (by rw [flI_0]; exact hD) hS (lv_sub hl [0, 1, 2] rfl)
  have hP := wl_fa (g := fun i => toF n (nu i)) hP (fun k hk => by simp [flI, show k < 192 from hk])
  have hD := wl_D hD (va_up C pn (fa G 192 (fun i => toF n (nu i))))
  exact W.vret hx hb hr (fun t ht hW => ⟨⟨_, rfl, rfl, iB_of ht hP⟩, hS.F ht⟩) hS.2.2 dX2_changeTone_76
abbrev rmX2_bound : Room := { frames := 1, cells := 0, slots := 0, locals := 20 }
set_option maxRecDepth 20000 in
theorem iu_X2_bound_2 : ∀ w ∈ u_ws RX2 TX2 2, w ∈ wsX2_bound := by decide +kernel
set_option maxRecDepth 20000 in
theorem il_X2_bound_9 : (Cond.fieldLink RX2 9 "BayerGate$Picture" "numbers" "[F") ∈ wsX2_bound := by decide +kernel
set_option maxHeartbeats 4000000 in
set_option maxRecDepth 100000 in
theorem lX2_bound {p : Program} {l : Launch} {e : Env} {s : State} {m : MethodId} {args : Array Value} {below : List Frame} {meth : Method} {c : Code} {Q : State → Prop} {A : Nat → Prop} {H0 : Heap} {cells slots : Nat} (hx : p.tables.exec = Jvm.exec) (hb : c.code = cX2_bound) (hml : c.maxLocals = 2) (hr : meth.sig.returnType = none) (hts : ∀ w ∈ wsX2_bound, w.before args s = true) (hown : s.vm.findClass RX2 = some m.cls) {G : iG} (hK : KB G s) (hA : ∀ q, H0.size ≤ q → A q) {N : Nat} {ad : Nat → Nat} {C : Nat → va_E}  (hcc : cells ≤ rmX2_bound.cells) (hcs : slots ≤ rmX2_bound.slots) {pb pn pm : Nat} {nu : Nat → UInt32} {md : Nat → Nat} (lpb : pb < N) (lpn : pn < N) (lpm : pm < N) (hpb : C pb = ob 2 [.ref (ad pn), .ref (ad pm)]) (hpn : C pn = fa G 192 nu) (hpm : C pm = ia G 64 (fun i => nI (md i))) (hn9 : ∀ i, i < 192 → vf_n32 (nu i))  (kx : ∀ (H : Heap) (locs : List Loc) (ls : Array Slot), va_P G.1 vwB (wl N ad (va_up C pn (fa G 192 (flI (fun i => bdF (nu i)) nu (192))))) H → va_D A (wl N ad (va_up C pn (fa G 192 (flI (fun i => bdF (nu i)) nu (192))))) → va_S A H0 H locs → lv_has ls 2 [(0, .ref (ad pb))] → W p l e rmX2_bound s m args below meth c H locs cells slots Q (F0 m 32 ls [])) : ∀ (d : Nat) (k : Nat) (H : Heap) (locs : List Loc) (ls : Array Slot), 192 - k < d → k ≤ 192 → va_P G.1 vwB (wl N ad (va_up C pn (fa G 192 (flI (fun i => bdF (nu i)) nu (k))))) H → va_D A (wl N ad (va_up C pn (fa G 192 (flI (fun i => bdF (nu i)) nu (k))))) → va_S A H0 H locs → lv_has ls 2 [(1, .int (nI k)), (0, .ref (ad pb))] → W p l e rmX2_bound s m args below meth c H locs cells slots Q (F0 m 2 ls []) := by
  intro d
  induction d with
  | zero => intro k H locs ls hd; exact absurd hd (Nat.not_lt_zero _)
  | succ d ih =>
    intro k H locs ls hd h2 hP hD hS hl
    have n_pb_pn : pb ≠ pn := fun h => by rw [h, hpn] at hpb; simp at hpb
    have n_pb_pm : pb ≠ pm := fun h => by rw [h, hpm] at hpb; simp at hpb
    have n_pn_pm : pn ≠ pm := fun h => by rw [h, hpm] at hpn; simp at hpn
    have hn0 := fun (h : k < 192) => hn9 k h
    refine lv_iload_n hx hb dX2_bound_2 rfl (lv_at hl 0 rfl) ?_
    refine lv_aload_n hx hb dX2_bound_3 rfl (lv_at hl 1 rfl) ?_
    refine iw_get hx hb hts iu_X2_bound_2 hown hK hP lpb ((va_un _ _ n_pb_pn).trans (hpb)) rfl 0 (by decide) (hts _ il_X2_bound_9) (fun _ h9 => h9) rfl dX2_bound_4 ?_
    refine iw_alenF (v := nI 192) hx hb hK hP lpn (va_us _ _ _) rfl dX2_bound_7 ?_
    refine lv_icmp_ge (tgt := 32) hx hb dX2_bound_8 (by decide) (fun c8 => ?_) (fun c8 => ?_)
    · have h5 : k = 192 := by have := (nI_leI (by omega) (by omega)).mp c8; omega
      subst h5
      exact kx H locs ls hP hD hS (lv_sub hl [1] rfl)
    · have h4 : k < 192 := by have := mt (nI_leI (by omega) (by omega)).mpr c8; omega
      refine lv_aload_n hx hb dX2_bound_11 rfl (lv_at hl 1 rfl) ?_
      refine iw_get hx hb hts iu_X2_bound_2 hown hK hP lpb ((va_un _ _ n_pb_pn).trans (hpb)) rfl 0 (by decide) (hts _ il_X2_bound_9) (fun _ h9 => h9) rfl dX2_bound_12 ?_
      refine lv_iload_n hx hb dX2_bound_15 rfl (lv_at hl 0 rfl) ?_
      refine lv_aload_n hx hb dX2_bound_16 rfl (lv_at hl 1 rfl) ?_
      refine iw_get hx hb hts iu_X2_bound_2 hown hK hP lpb ((va_un _ _ n_pb_pn).trans (hpb)) rfl 0 (by decide) (hts _ il_X2_bound_9) (fun _ h9 => h9) rfl dX2_bound_17 ?_
      refine lv_iload_n hx hb dX2_bound_20 rfl (lv_at hl 0 rfl) ?_
      refine iw_fald (v := (flI (fun i => bdF (nu i)) nu (k)) k) hx hb hK hP lpn (va_us _ _ _) (vp_in_nI (show k < 192 by omega) (by omega)) (congrArg (flI (fun i => bdF (nu i)) nu (k)) (nI_clamp (by omega))) dX2_bound_21 ?_
      refine lv_asF (y := nu k) (flI_at _ _ _) ?_
      refine iw_pf (va_runS (As := [.float (nu k)]) (rest := [.int (nI k), .ref (ad pn)]) ⟨hx, hb, hml, hown, hts⟩ (kX2_bounded l (nu k)) (va_cwS 1 hts gX2_bound_X2_bounded rfl rfl rfl (by decide +kernel) ⟨Nat.le_of_ble_eq_true rfl, Nat.le_of_ble_eq_true rfl⟩) ⟨fun a U g mk q => q, fun U hU hW => ⟨rfl, trivial⟩⟩ rfl rfl hl.1 rfl (lv_room (Nat.le_of_ble_eq_true rfl)) dX2_bound_22 ⟨hcc, hcs⟩) hP hS (fun r8 u8 H locs hw8 hP hS => ?_)
      refine lv_asF hw8 ?_
      refine iw_fast hx hb hK hP hD hS lpn (va_us _ _ _) (vp_in_nI (show k < 192 by omega) (by omega)) (nI_clamp (by omega)) dX2_bound_25 (fun H locs hP hD hS => ?_)
      rw [va_uu _ _ _ _] at hP hD
      refine lv_iinc (v := nI (k + 1)) (lv' := [(1, .int (nI (k + 1))), (0, .ref (ad pb))]) hx hb dX2_bound_26 hl (k := 0) rfl (iinc_nat _ 1) (by decide) rfl (fun ls hl => ?_)
      refine lv_goto (tgt := 2) hx hb dX2_bound_29 (by decide) ?_
      rw [flI_f (fun i => bdF (nu i))] at hP hD
      exact ih (k + 1) H locs ls (by omega) (by omega) hP hD hS (lv_sub hl [0, 1] rfl)
set_option maxHeartbeats 4000000 in
set_option maxRecDepth 100000 in
theorem kX2_bound (l : Launch) (G : iG) (N : Nat) (ad : Nat → Nat) (C : Nat → va_E) {pb pn pm : Nat} {nu : Nat → UInt32} {md : Nat → Nat} (lpb : pb < N) (lpn : pn < N) (lpm : pm < N) (hpb : C pb = ob 2 [.ref (ad pn), .ref (ad pm)]) (hpn : C pn = fa G 192 nu) (hpm : C pm = ia G 64 (fun i => nI (md i))) (hn9 : ∀ i, i < 192 → vf_n32 (nu i))  (sz : Nat) : Met l yX2_bound wsX2_bound rmX2_bound (iPre G N ad C sz [.ref (ad pb)]) (va_Qv (fun (u : Nat → va_E) => u = va_up C pn (fa G 192 (fun i => bdF (nu i)))) (iB G N ad) (iA N ad sz)) 0 0 (iA N ad sz) := by
  refine Met.ofW (cc := cX2_bound) (maxL := 2) (ret := none) (by decide) rfl ?_
  intro p e s m args below meth c s₁ B hml hv
  obtain ⟨rfl, hsz, hP, hK, hD0⟩ := hv
  have hx := B.exec
  have hb := B.bytes
  have hr := B.returns
  have hts := atoms_spec (ws := wsX2_bound) B.pre
  have hown : s.vm.findClass RX2 = some m.cls := findClass_of_methodNamed B.named
  have hlocks := B.notSynchronized
  subst hsz
  have hD := wl_self hD0 s.heap.size
  have hA : ∀ q : Nat, s.heap.size ≤ q → iA N ad s.heap.size q := fun q h => Or.inr h
  have hS : va_S (iA N ad s.heap.size) s.heap s.heap [] := va_S.rf
  have hP : va_P G.1 vwB (wl N ad C) s.heap := hP
  have hl := lv_entry ([.ref (ad pb)]) (n := 2) (Nat.le_of_ble_eq_true rfl)
  rw [lg_entry_eq]
  generalize (lg_sl ([.ref (ad pb)]) ++ List.replicate (2 - (lg_sl ([.ref (ad pb)])).length) Slot.unset).toArray = ls at hl ⊢
  have hl : lv_has ls 2 [(0, .ref (ad pb))] := hl
  have n_pb_pn : pb ≠ pn := fun h => by rw [h, hpn] at hpb; simp at hpb
  have n_pb_pm : pb ≠ pm := fun h => by rw [h, hpm] at hpb; simp at hpb
  have n_pn_pm : pn ≠ pm := fun h => by rw [h, hpm] at hpn; simp at hpn
  refine lv_iconst (v := nI 0) hx hb dX2_bound_0 (by decide) ?_
  refine lv_istore_n (lv' := [(1, .int (nI 0)), (0, .ref (ad pb))]) hx hb dX2_bound_1 rfl hl (by decide) rfl (fun ls hl => ?_)
  have hP := wl_selfE hP hpn
  have hD := wl_D hD (va_up C pn (fa G 192 nu))
  refine lX2_bound hx hb hml hr hts hown hK hA (Nat.le_refl _) (Nat.le_refl _) lpb lpn lpm hpb hpn hpm hn9  (fun H locs ls hP hD hS hl => ?_) 193 0 _ _ ls (by omega) (by omega) (by rw [flI_0]; exact hP) (by rw [flI_0]; exact hD) hS (lv_sub hl [0, 1] rfl)
  have hP := wl_fa (g := fun i => bdF (nu i)) hP (fun k hk => by simp [flI, show k < 192 from hk])
  have hD := wl_D hD (va_up C pn (fa G 192 (fun i => bdF (nu i))))
  exact W.vret hx hb hr (fun t ht hW => ⟨⟨_, rfl, rfl, iB_of ht hP⟩, hS.F ht⟩) hS.2.2 dX2_bound_32
end
section
abbrev rmX2_scaleColour : Room := { frames := 1, cells := 0, slots := 0, locals := 21 }
set_option maxRecDepth 20000 in
theorem iu_X2_scaleColour_2 : ∀ w ∈ u_ws RX2 TX2 2, w ∈ wsX2_scaleColour := by decide +kernel
set_option maxRecDepth 20000 in
theorem il_X2_scaleColour_9 : (Cond.fieldLink RX2 9 "BayerGate$Picture" "numbers" "[F") ∈ wsX2_scaleColour := by decide +kernel
set_option maxHeartbeats 4000000 in
set_option maxRecDepth 100000 in
theorem lX2_scaleColour {p : Program} {l : Launch} {e : Env} {s : State} {m : MethodId} {args : Array Value} {below : List Frame} {meth : Method} {c : Code} {Q : State → Prop} {A : Nat → Prop} {H0 : Heap} {cells slots : Nat} (hx : p.tables.exec = Jvm.exec) (hb : c.code = cX2_scaleColour) (hml : c.maxLocals = 4) (hr : meth.sig.returnType = none) (hts : ∀ w ∈ wsX2_scaleColour, w.before args s = true) (hown : s.vm.findClass RX2 = some m.cls) {G : iG} (hK : KB G s) (hA : ∀ q, H0.size ≤ q → A q) {N : Nat} {ad : Nat → Nat} {C : Nat → va_E}  (hcc : cells ≤ rmX2_scaleColour.cells) (hcs : slots ≤ rmX2_scaleColour.slots) {pb pn pm : Nat} {nu : Nat → UInt32} {md : Nat → Nat} (lpb : pb < N) (lpn : pn < N) (lpm : pm < N) (hpb : C pb = ob 2 [.ref (ad pn), .ref (ad pm)]) (hpn : C pn = fa G 192 nu) (hpm : C pm = ia G 64 (fun i => nI (md i))) (hn9 : ∀ i, i < 192 → vf_n32 (nu i)) {k : Nat} {t : UInt32} (hk3 : k < 3) (ht9 : finz32 t) (kx : ∀ (H : Heap) (locs : List Loc) (ls : Array Slot), va_P G.1 vwB (wl N ad (va_up C pn (fa G 192 (flI (scF k t nu) nu (3 * 64))))) H → va_D A (wl N ad (va_up C pn (fa G 192 (flI (scF k t nu) nu (3 * 64))))) → va_S A H0 H locs → lv_has ls 4 [(0, .ref (ad pb))] → W p l e rmX2_scaleColour s m args below meth c H locs cells slots Q (F0 m 36 ls [])) : ∀ (d : Nat) (z : Nat) (H : Heap) (locs : List Loc) (ls : Array Slot), 64 - z < d → z ≤ 64 → va_P G.1 vwB (wl N ad (va_up C pn (fa G 192 (flI (scF k t nu) nu (3 * z))))) H → va_D A (wl N ad (va_up C pn (fa G 192 (flI (scF k t nu) nu (3 * z))))) → va_S A H0 H locs → lv_has ls 4 [(3, .int (nI z)), (0, .ref (ad pb)), (1, .int (nI k)), (2, .float t)] → W p l e rmX2_scaleColour s m args below meth c H locs cells slots Q (F0 m 2 ls []) := by
  intro d
  induction d with
  | zero => intro z H locs ls hd; exact absurd hd (Nat.not_lt_zero _)
  | succ d ih =>
    intro z H locs ls hd h2 hP hD hS hl
    have n_pb_pn : pb ≠ pn := fun h => by rw [h, hpn] at hpb; simp at hpb
    have n_pb_pm : pb ≠ pm := fun h => by rw [h, hpm] at hpb; simp at hpb
    have n_pn_pm : pn ≠ pm := fun h => by rw [h, hpm] at hpn; simp at hpn
    refine lv_iload_n hx hb dX2_scaleColour_2 rfl (lv_at hl 0 rfl) ?_
    refine lv_bipush (v := nI 64) hx hb dX2_scaleColour_3 (by decide) ?_
    refine lv_icmp_ge (tgt := 36) hx hb dX2_scaleColour_5 (by decide) (fun c5 => ?_) (fun c5 => ?_)
    · have h5 : z = 64 := by have := (nI_leI (by omega) (by omega)).mp c5; omega
      subst h5
      exact kx H locs ls hP hD hS (lv_sub hl [1] rfl)
    · have h4 : z < 64 := by have := mt (nI_leI (by omega) (by omega)).mpr c5; omega
      refine lv_aload_n hx hb dX2_scaleColour_8 rfl (lv_at hl 1 rfl) ?_
      refine iw_get hx hb hts iu_X2_scaleColour_2 hown hK hP lpb ((va_un _ _ n_pb_pn).trans (hpb)) rfl 0 (by decide) (hts _ il_X2_scaleColour_9) (fun _ h9 => h9) rfl dX2_scaleColour_9 ?_
      refine lv_iload_n hx hb dX2_scaleColour_12 rfl (lv_at hl 0 rfl) ?_
      refine lv_iload_n hx hb dX2_scaleColour_13 rfl (lv_at hl 2 rfl) ?_
      refine iw_pi (va_runS (As := [.int (nI z), .int (nI k)]) (rest := [.ref (ad pn)]) ⟨hx, hb, hml, hown, hts⟩ (kX2_indexOf l z k) (va_cwS 2 hts gX2_scaleColour_X2_indexOf rfl rfl rfl (by decide +kernel) ⟨Nat.le_of_ble_eq_true rfl, Nat.le_of_ble_eq_true rfl⟩) ⟨fun a U g mk q => q, fun U hU hW => ⟨rfl, trivial⟩⟩ rfl rfl hl.1 rfl (lv_room (Nat.le_of_ble_eq_true rfl)) dX2_scaleColour_14 ⟨hcc, hcs⟩) hP hS (fun r8 u8 H locs hw8 hP hS => ?_)
      refine lv_asI hw8 ?_
      refine lv_aload_n hx hb dX2_scaleColour_17 rfl (lv_at hl 1 rfl) ?_
      refine iw_get hx hb hts iu_X2_scaleColour_2 hown hK hP lpb ((va_un _ _ n_pb_pn).trans (hpb)) rfl 0 (by decide) (hts _ il_X2_scaleColour_9) (fun _ h9 => h9) rfl dX2_scaleColour_18 ?_
      refine lv_iload_n hx hb dX2_scaleColour_21 rfl (lv_at hl 0 rfl) ?_
      refine lv_iload_n hx hb dX2_scaleColour_22 rfl (lv_at hl 2 rfl) ?_
      refine iw_pi (va_runS (As := [.int (nI z), .int (nI k)]) (rest := [.ref (ad pn), .int (nI (3 * z + k)), .ref (ad pn)]) ⟨hx, hb, hml, hown, hts⟩ (kX2_indexOf l z k) (va_cwS 2 hts gX2_scaleColour_X2_indexOf rfl rfl rfl (by decide +kernel) ⟨Nat.le_of_ble_eq_true rfl, Nat.le_of_ble_eq_true rfl⟩) ⟨fun a U g mk q => q, fun U hU hW => ⟨rfl, trivial⟩⟩ rfl rfl hl.1 rfl (lv_room (Nat.le_of_ble_eq_true rfl)) dX2_scaleColour_23 ⟨hcc, hcs⟩) hP hS (fun r8 u8 H locs hw8 hP hS => ?_)
      refine lv_asI hw8 ?_
      refine iw_fald (v := (flI (scF k t nu) nu (3 * z)) (3 * z + k)) hx hb hK hP lpn (va_us _ _ _) (vp_in_nI (show 3 * z + k < 192 by omega) (by omega)) (congrArg (flI (scF k t nu) nu (3 * z)) (nI_clamp (by omega))) dX2_scaleColour_26 ?_
      refine lv_asF (y := nu (3 * z + k)) (by unfold flI; rw [if_neg (by omega)]) ?_
      refine lv_fload_n hx hb dX2_scaleColour_27 rfl (lv_at hl 3 rfl) ?_
      refine lv_fmul hx hb dX2_scaleColour_28 (fmul_nz (hn9 _ (by omega)) ht9) ?_
      refine iw_fast hx hb hK hP hD hS lpn (va_us _ _ _) (vp_in_nI (show 3 * z + k < 192 by omega) (by omega)) (nI_clamp (by omega)) dX2_scaleColour_29 (fun H locs hP hD hS => ?_)
      rw [va_uu _ _ _ _] at hP hD
      refine lv_iinc (v := nI (z + 1)) (lv' := [(3, .int (nI (z + 1))), (0, .ref (ad pb)), (1, .int (nI k)), (2, .float t)]) hx hb dX2_scaleColour_30 hl (k := 0) rfl (iinc_nat _ 1) (by decide) rfl (fun ls hl => ?_)
      refine lv_goto (tgt := 2) hx hb dX2_scaleColour_33 (by decide) ?_
      rw [scF_up k hk3] at hP hD
      exact ih (z + 1) H locs ls (by omega) (by omega) hP hD hS (lv_sub hl [0, 1, 2, 3] rfl)
set_option maxHeartbeats 4000000 in
set_option maxRecDepth 100000 in
theorem kX2_scaleColour (l : Launch) (G : iG) (N : Nat) (ad : Nat → Nat) (C : Nat → va_E) {pb pn pm : Nat} {nu : Nat → UInt32} {md : Nat → Nat} (lpb : pb < N) (lpn : pn < N) (lpm : pm < N) (hpb : C pb = ob 2 [.ref (ad pn), .ref (ad pm)]) (hpn : C pn = fa G 192 nu) (hpm : C pm = ia G 64 (fun i => nI (md i))) (hn9 : ∀ i, i < 192 → vf_n32 (nu i)) {k : Nat} {t : UInt32} (hk3 : k < 3) (ht9 : finz32 t) (sz : Nat) : Met l yX2_scaleColour wsX2_scaleColour rmX2_scaleColour (iPre G N ad C sz [.ref (ad pb), .int (nI k), .float t]) (va_Qv (fun (u : Nat → va_E) => u = va_up C pn (fa G 192 (scF k t nu))) (iB G N ad) (iA N ad sz)) 0 0 (iA N ad sz) := by
  refine Met.ofW (cc := cX2_scaleColour) (maxL := 4) (ret := none) (by decide) rfl ?_
  intro p e s m args below meth c s₁ B hml hv
  obtain ⟨rfl, hsz, hP, hK, hD0⟩ := hv
  have hx := B.exec
  have hb := B.bytes
  have hr := B.returns
  have hts := atoms_spec (ws := wsX2_scaleColour) B.pre
  have hown : s.vm.findClass RX2 = some m.cls := findClass_of_methodNamed B.named
  have hlocks := B.notSynchronized
  subst hsz
  have hD := wl_self hD0 s.heap.size
  have hA : ∀ q : Nat, s.heap.size ≤ q → iA N ad s.heap.size q := fun q h => Or.inr h
  have hS : va_S (iA N ad s.heap.size) s.heap s.heap [] := va_S.rf
  have hP : va_P G.1 vwB (wl N ad C) s.heap := hP
  have hl := lv_entry ([.ref (ad pb), .int (nI k), .float t]) (n := 4) (Nat.le_of_ble_eq_true rfl)
  rw [lg_entry_eq]
  generalize (lg_sl ([.ref (ad pb), .int (nI k), .float t]) ++ List.replicate (4 - (lg_sl ([.ref (ad pb), .int (nI k), .float t])).length) Slot.unset).toArray = ls at hl ⊢
  have hl : lv_has ls 4 [(0, .ref (ad pb)), (1, .int (nI k)), (2, .float t)] := hl
  have n_pb_pn : pb ≠ pn := fun h => by rw [h, hpn] at hpb; simp at hpb
  have n_pb_pm : pb ≠ pm := fun h => by rw [h, hpm] at hpb; simp at hpb
  have n_pn_pm : pn ≠ pm := fun h => by rw [h, hpm] at hpn; simp at hpn
  refine lv_iconst (v := nI 0) hx hb dX2_scaleColour_0 (by decide) ?_
  refine lv_istore_n (lv' := [(3, .int (nI 0)), (0, .ref (ad pb)), (1, .int (nI k)), (2, .float t)]) hx hb dX2_scaleColour_1 rfl hl (by decide) rfl (fun ls hl => ?_)
  have hP := wl_selfE hP hpn
  have hD := wl_D hD (va_up C pn (fa G 192 nu))
  refine lX2_scaleColour hx hb hml hr hts hown hK hA (Nat.le_refl _) (Nat.le_refl _) lpb lpn lpm hpb hpn hpm hn9 hk3 ht9 (fun H locs ls hP hD hS hl => ?_) 65 0 _ _ ls (by omega) (by omega) (by rw [flI_0]; exact hP) (by rw [flI_0]; exact hD) hS (lv_sub hl [0, 1, 2, 3] rfl)
  have hP := wl_fa (g := scF k t nu) hP (fun k hk => by simp [flI, show k < 192 from hk])
  have hD := wl_D hD (va_up C pn (fa G 192 (scF k t nu)))
  exact W.vret hx hb hr (fun t ht hW => ⟨⟨_, rfl, rfl, iB_of ht hP⟩, hS.F ht⟩) hS.2.2 dX2_scaleColour_36
abbrev rmX2_turnOver : Room := { frames := 1, cells := 0, slots := 0, locals := 21 }
set_option maxRecDepth 20000 in
theorem il_X2_turnOver_iniX6 : (Cond.initialized RX6) ∈ wsX2_turnOver := by decide +kernel
set_option maxRecDepth 20000 in
theorem il_X2_turnOver_st_X6_placeOf : (Cond.static yX6_placeOf) ∈ wsX2_turnOver := by decide +kernel
set_option maxRecDepth 20000 in
theorem iu_X2_turnOver_2 : ∀ w ∈ u_ws RX2 TX2 2, w ∈ wsX2_turnOver := by decide +kernel
set_option maxRecDepth 20000 in
theorem il_X2_turnOver_9 : (Cond.fieldLink RX2 9 "BayerGate$Picture" "numbers" "[F") ∈ wsX2_turnOver := by decide +kernel
set_option maxHeartbeats 4000000 in
set_option maxRecDepth 100000 in
theorem lX2_turnOver_k {p : Program} {l : Launch} {e : Env} {s : State} {m : MethodId} {args : Array Value} {below : List Frame} {meth : Method} {c : Code} {Q : State → Prop} {A : Nat → Prop} {H0 : Heap} {cells slots : Nat} (hx : p.tables.exec = Jvm.exec) (hb : c.code = cX2_turnOver) (hml : c.maxLocals = 7) (hr : meth.sig.returnType = none) (hts : ∀ w ∈ wsX2_turnOver, w.before args s = true) (hown : s.vm.findClass RX2 = some m.cls) {G : iG} (hK : KB G s) (hA : ∀ q, H0.size ≤ q → A q) {N : Nat} {ad : Nat → Nat} {C : Nat → va_E}  (hcc : cells ≤ rmX2_turnOver.cells) (hcs : slots ≤ rmX2_turnOver.slots) {pb pn pm : Nat} {nu : Nat → UInt32} {md : Nat → Nat} (lpb : pb < N) (lpn : pn < N) (lpm : pm < N) (hpb : C pb = ob 2 [.ref (ad pn), .ref (ad pm)]) (hpn : C pn = fa G 192 nu) (hpm : C pm = ia G 64 (fun i => nI (md i))) {x y : Nat} (hx4 : x < 4) (hy8 : y < 8) (kx : ∀ (H : Heap) (locs : List Loc) (ls : Array Slot), va_P G.1 vwB (wl N ad (va_up C pn (fa G 192 (toN nu (12 * y + 3 * x + 3))))) H → va_D A (wl N ad (va_up C pn (fa G 192 (toN nu (12 * y + 3 * x + 3))))) → va_S A H0 H locs → lv_has ls 7 [(2, .int (nI x)), (1, .int (nI y)), (0, .ref (ad pb))] → W p l e rmX2_turnOver s m args below meth c H locs cells slots Q (F0 m 85 ls [])) : ∀ (d : Nat) (k : Nat) (H : Heap) (locs : List Loc) (ls : Array Slot), 3 - k < d → k ≤ 3 → va_P G.1 vwB (wl N ad (va_up C pn (fa G 192 (toN nu (12 * y + 3 * x + k))))) H → va_D A (wl N ad (va_up C pn (fa G 192 (toN nu (12 * y + 3 * x + k))))) → va_S A H0 H locs → lv_has ls 7 [(3, .int (nI k)), (2, .int (nI x)), (1, .int (nI y)), (0, .ref (ad pb))] → W p l e rmX2_turnOver s m args below meth c H locs cells slots Q (F0 m 17 ls []) := by
  intro d
  induction d with
  | zero => intro k H locs ls hd; exact absurd hd (Nat.not_lt_zero _)
  | succ d ih =>
    intro k H locs ls hd h2 hP hD hS hl
    have n_pb_pn : pb ≠ pn := fun h => by rw [h, hpn] at hpb; simp at hpb
    have n_pb_pm : pb ≠ pm := fun h => by rw [h, hpm] at hpb; simp at hpb
    have n_pn_pm : pn ≠ pm := fun h => by rw [h, hpm] at hpn; simp at hpn
    refine lv_iload_n hx hb dX2_turnOver_17 rfl (lv_at hl 0 rfl) ?_
    refine lv_iconst (v := nI 3) hx hb dX2_turnOver_18 (by decide) ?_
    refine lv_icmp_ge (tgt := 85) hx hb dX2_turnOver_19 (by decide) (fun c19 => ?_) (fun c19 => ?_)
    · have h5 : k = 3 := by have := (nI_leI (by omega) (by omega)).mp c19; omega
      subst h5
      exact kx H locs ls hP hD hS (lv_sub hl [1, 2, 3] rfl)
    · have h4 : k < 3 := by have := mt (nI_leI (by omega) (by omega)).mpr c19; omega
      refine lv_iload_n hx hb dX2_turnOver_22 rfl (lv_at hl 1 rfl) ?_
      refine lv_iload_n hx hb dX2_turnOver_23 rfl (lv_at hl 2 rfl) ?_
      refine iw_pi (va_runSN (As := [.int (nI x), .int (nI y)]) (rest := []) ⟨hx, hb, hml, hown, hts⟩ (kX6_placeOf l (x) y) ⟨va_cnB (host := RX6) 2 hts gX2_turnOver_X6_placeOf_n54 rfl rfl rfl (nw_RX2_54 hK.2) (hts _ il_X2_turnOver_iniX6) (by decide +kernel) ⟨Nat.le_of_ble_eq_true rfl, Nat.le_of_ble_eq_true rfl⟩, (hts _ il_X2_turnOver_st_X6_placeOf), trivial⟩ ⟨fun a U g mk q => q, fun U hU hW => ⟨rfl, trivial⟩⟩ rfl rfl hl.1 rfl (lv_room (Nat.le_of_ble_eq_true rfl)) dX2_turnOver_24 ⟨hcc, hcs⟩) hP hS (fun r8 u8 H locs hw8 hP hS => ?_)
      refine lv_asI hw8 ?_
      refine lv_iload_n hx hb dX2_turnOver_27 rfl (lv_at hl 0 rfl) ?_
      refine iw_pi (va_runS (As := [.int (nI (8 * y + x)), .int (nI k)]) (rest := []) ⟨hx, hb, hml, hown, hts⟩ (kX2_indexOf l (8 * y + x) k) (va_cwS 2 hts gX2_turnOver_X2_indexOf rfl rfl rfl (by decide +kernel) ⟨Nat.le_of_ble_eq_true rfl, Nat.le_of_ble_eq_true rfl⟩) ⟨fun a U g mk q => q, fun U hU hW => ⟨rfl, trivial⟩⟩ rfl rfl hl.1 rfl (lv_room (Nat.le_of_ble_eq_true rfl)) dX2_turnOver_28 ⟨hcc, hcs⟩) hP hS (fun r8 u8 H locs hw8 hP hS => ?_)
      refine lv_asI hw8 ?_
      refine lv_istore (lv' := [(4, .int (nI (3 * (8 * y + x) + k))), (3, .int (nI k)), (2, .int (nI x)), (1, .int (nI y)), (0, .ref (ad pb))]) hx hb dX2_turnOver_31 hl (by decide) rfl (fun ls hl => ?_)
      refine lv_bipush (v := nI 7) hx hb dX2_turnOver_33 (by decide) ?_
      refine lv_iload_n hx hb dX2_turnOver_35 rfl (lv_at hl 2 rfl) ?_
      refine lv_isub hx hb dX2_turnOver_36 ?_
      refine lv_asI (y := nI (7 - x)) (pk_sub (by omega)) ?_
      refine lv_iload_n hx hb dX2_turnOver_37 rfl (lv_at hl 3 rfl) ?_
      refine iw_pi (va_runSN (As := [.int (nI (7 - x)), .int (nI y)]) (rest := []) ⟨hx, hb, hml, hown, hts⟩ (kX6_placeOf l (7 - x) y) ⟨va_cnB (host := RX6) 2 hts gX2_turnOver_X6_placeOf_n54 rfl rfl rfl (nw_RX2_54 hK.2) (hts _ il_X2_turnOver_iniX6) (by decide +kernel) ⟨Nat.le_of_ble_eq_true rfl, Nat.le_of_ble_eq_true rfl⟩, (hts _ il_X2_turnOver_st_X6_placeOf), trivial⟩ ⟨fun a U g mk q => q, fun U hU hW => ⟨rfl, trivial⟩⟩ rfl rfl hl.1 rfl (lv_room (Nat.le_of_ble_eq_true rfl)) dX2_turnOver_38 ⟨hcc, hcs⟩) hP hS (fun r8 u8 H locs hw8 hP hS => ?_)
      refine lv_asI hw8 ?_
      refine lv_iload_n hx hb dX2_turnOver_41 rfl (lv_at hl 1 rfl) ?_
      refine iw_pi (va_runS (As := [.int (nI (8 * y + (7 - x))), .int (nI k)]) (rest := []) ⟨hx, hb, hml, hown, hts⟩ (kX2_indexOf l (8 * y + (7 - x)) k) (va_cwS 2 hts gX2_turnOver_X2_indexOf rfl rfl rfl (by decide +kernel) ⟨Nat.le_of_ble_eq_true rfl, Nat.le_of_ble_eq_true rfl⟩) ⟨fun a U g mk q => q, fun U hU hW => ⟨rfl, trivial⟩⟩ rfl rfl hl.1 rfl (lv_room (Nat.le_of_ble_eq_true rfl)) dX2_turnOver_42 ⟨hcc, hcs⟩) hP hS (fun r8 u8 H locs hw8 hP hS => ?_)
      refine lv_asI hw8 ?_
      refine lv_istore (lv' := [(5, .int (nI (3 * (8 * y + (7 - x)) + k))), (4, .int (nI (3 * (8 * y + x) + k))), (3, .int (nI k)), (2, .int (nI x)), (1, .int (nI y)), (0, .ref (ad pb))]) hx hb dX2_turnOver_45 hl (by decide) rfl (fun ls hl => ?_)
      refine lv_aload_n hx hb dX2_turnOver_47 rfl (lv_at hl 5 rfl) ?_
      refine iw_get hx hb hts iu_X2_turnOver_2 hown hK hP lpb ((va_un _ _ n_pb_pn).trans (hpb)) rfl 0 (by decide) (hts _ il_X2_turnOver_9) (fun _ h9 => h9) rfl dX2_turnOver_48 ?_
      refine lv_iload hx hb dX2_turnOver_51 (lv_at hl 1 rfl) ?_
      refine iw_fald (v := (toN nu (12 * y + 3 * x + k)) (3 * (8 * y + x) + k)) hx hb hK hP lpn (va_us _ _ _) (vp_in_nI (show 3 * (8 * y + x) + k < 192 by omega) (by omega)) (congrArg (toN nu (12 * y + 3 * x + k)) (nI_clamp (by omega))) dX2_turnOver_53 ?_
      refine lv_asF (y := nu (3 * (8 * y + x) + k)) (toN_L nu hx4 h4) ?_
      refine lv_fstore (lv' := [(6, .float (nu (3 * (8 * y + x) + k))), (5, .int (nI (3 * (8 * y + (7 - x)) + k))), (4, .int (nI (3 * (8 * y + x) + k))), (3, .int (nI k)), (2, .int (nI x)), (1, .int (nI y)), (0, .ref (ad pb))]) hx hb dX2_turnOver_54 hl (by decide) rfl (fun ls hl => ?_)
      refine lv_aload_n hx hb dX2_turnOver_56 rfl (lv_at hl 6 rfl) ?_
      refine iw_get hx hb hts iu_X2_turnOver_2 hown hK hP lpb ((va_un _ _ n_pb_pn).trans (hpb)) rfl 0 (by decide) (hts _ il_X2_turnOver_9) (fun _ h9 => h9) rfl dX2_turnOver_57 ?_
      refine lv_iload hx hb dX2_turnOver_60 (lv_at hl 2 rfl) ?_
      refine lv_aload_n hx hb dX2_turnOver_62 rfl (lv_at hl 6 rfl) ?_
      refine iw_get hx hb hts iu_X2_turnOver_2 hown hK hP lpb ((va_un _ _ n_pb_pn).trans (hpb)) rfl 0 (by decide) (hts _ il_X2_turnOver_9) (fun _ h9 => h9) rfl dX2_turnOver_63 ?_
      refine lv_iload hx hb dX2_turnOver_66 (lv_at hl 1 rfl) ?_
      refine iw_fald (v := (toN nu (12 * y + 3 * x + k)) (3 * (8 * y + (7 - x)) + k)) hx hb hK hP lpn (va_us _ _ _) (vp_in_nI (show 3 * (8 * y + (7 - x)) + k < 192 by omega) (by omega)) (congrArg (toN nu (12 * y + 3 * x + k)) (nI_clamp (by omega))) dX2_turnOver_68 ?_
      refine lv_asF (y := nu (3 * (8 * y + (7 - x)) + k)) (toN_R nu hx4 h4) ?_
      refine iw_fast hx hb hK hP hD hS lpn (va_us _ _ _) (vp_in_nI (show 3 * (8 * y + x) + k < 192 by omega) (by omega)) (nI_clamp (by omega)) dX2_turnOver_69 (fun H locs hP hD hS => ?_)
      rw [va_uu _ _ _ _] at hP hD
      refine lv_aload_n hx hb dX2_turnOver_70 rfl (lv_at hl 6 rfl) ?_
      refine iw_get hx hb hts iu_X2_turnOver_2 hown hK hP lpb ((va_un _ _ n_pb_pn).trans (hpb)) rfl 0 (by decide) (hts _ il_X2_turnOver_9) (fun _ h9 => h9) rfl dX2_turnOver_71 ?_
      refine lv_iload hx hb dX2_turnOver_74 (lv_at hl 1 rfl) ?_
      refine lv_fload hx hb dX2_turnOver_76 (lv_at hl 0 rfl) ?_
      refine iw_fast hx hb hK hP hD hS lpn (va_us _ _ _) (vp_in_nI (show 3 * (8 * y + (7 - x)) + k < 192 by omega) (by omega)) (nI_clamp (by omega)) dX2_turnOver_78 (fun H locs hP hD hS => ?_)
      rw [va_uu _ _ _ _] at hP hD
      refine lv_iinc (v := nI (k + 1)) (lv' := [(3, .int (nI (k + 1))), (6, .float (nu (3 * (8 * y + x) + k))), (5, .int (nI (3 * (8 * y + (7 - x)) + k))), (4, .int (nI (3 * (8 * y + x) + k))), (2, .int (nI x)), (1, .int (nI y)), (0, .ref (ad pb))]) hx hb dX2_turnOver_79 hl (k := 3) rfl (iinc_nat _ 1) (by decide) rfl (fun ls hl => ?_)
      refine lv_goto (tgt := 17) hx hb dX2_turnOver_82 (by decide) ?_
      rw [toN_up nu hx4 h4] at hP hD
      exact ih (k + 1) H locs ls (by omega) (by omega) hP hD hS (lv_sub hl [0, 4, 5, 6] rfl)
set_option maxHeartbeats 4000000 in
set_option maxRecDepth 100000 in
theorem lX2_turnOver_x {p : Program} {l : Launch} {e : Env} {s : State} {m : MethodId} {args : Array Value} {below : List Frame} {meth : Method} {c : Code} {Q : State → Prop} {A : Nat → Prop} {H0 : Heap} {cells slots : Nat} (hx : p.tables.exec = Jvm.exec) (hb : c.code = cX2_turnOver) (hml : c.maxLocals = 7) (hr : meth.sig.returnType = none) (hts : ∀ w ∈ wsX2_turnOver, w.before args s = true) (hown : s.vm.findClass RX2 = some m.cls) {G : iG} (hK : KB G s) (hA : ∀ q, H0.size ≤ q → A q) {N : Nat} {ad : Nat → Nat} {C : Nat → va_E}  (hcc : cells ≤ rmX2_turnOver.cells) (hcs : slots ≤ rmX2_turnOver.slots) {pb pn pm : Nat} {nu : Nat → UInt32} {md : Nat → Nat} (lpb : pb < N) (lpn : pn < N) (lpm : pm < N) (hpb : C pb = ob 2 [.ref (ad pn), .ref (ad pm)]) (hpn : C pn = fa G 192 nu) (hpm : C pm = ia G 64 (fun i => nI (md i))) {y : Nat} (hy8 : y < 8) (kx : ∀ (H : Heap) (locs : List Loc) (ls : Array Slot), va_P G.1 vwB (wl N ad (va_up C pn (fa G 192 (toN nu (12 * y + 3 * 4))))) H → va_D A (wl N ad (va_up C pn (fa G 192 (toN nu (12 * y + 3 * 4))))) → va_S A H0 H locs → lv_has ls 7 [(1, .int (nI y)), (0, .ref (ad pb))] → W p l e rmX2_turnOver s m args below meth c H locs cells slots Q (F0 m 91 ls [])) : ∀ (d : Nat) (x : Nat) (H : Heap) (locs : List Loc) (ls : Array Slot), 4 - x < d → x ≤ 4 → va_P G.1 vwB (wl N ad (va_up C pn (fa G 192 (toN nu (12 * y + 3 * x))))) H → va_D A (wl N ad (va_up C pn (fa G 192 (toN nu (12 * y + 3 * x))))) → va_S A H0 H locs → lv_has ls 7 [(2, .int (nI x)), (1, .int (nI y)), (0, .ref (ad pb))] → W p l e rmX2_turnOver s m args below meth c H locs cells slots Q (F0 m 10 ls []) := by
  intro d
  induction d with
  | zero => intro x H locs ls hd; exact absurd hd (Nat.not_lt_zero _)
  | succ d ih =>
    intro x H locs ls hd h2 hP hD hS hl
    refine lv_iload_n hx hb dX2_turnOver_10 rfl (lv_at hl 0 rfl) ?_
    refine lv_iconst (v := nI 4) hx hb dX2_turnOver_11 (by decide) ?_
    refine lv_icmp_ge (tgt := 91) hx hb dX2_turnOver_12 (by decide) (fun c12 => ?_) (fun c12 => ?_)
    · have h5 : x = 4 := by have := (nI_leI (by omega) (by omega)).mp c12; omega
      subst h5
      exact kx H locs ls hP hD hS (lv_sub hl [1, 2] rfl)
    · have h4 : x < 4 := by have := mt (nI_leI (by omega) (by omega)).mpr c12; omega
      refine lv_iconst (v := nI 0) hx hb dX2_turnOver_15 (by decide) ?_
      refine lv_istore_n (lv' := [(3, .int (nI 0)), (2, .int (nI x)), (1, .int (nI y)), (0, .ref (ad pb))]) hx hb dX2_turnOver_16 rfl hl (by decide) rfl (fun ls hl => ?_)
      refine lX2_turnOver_k hx hb hml hr hts hown hK hA hcc hcs lpb lpn lpm hpb hpn hpm h4 hy8 (fun H locs ls hP hD hS hl => ?_) 4 0 H locs ls (by omega) (by omega) hP hD hS (lv_sub hl [0, 1, 2, 3] rfl)
      refine lv_iinc (v := nI (x + 1)) (lv' := [(2, .int (nI (x + 1))), (1, .int (nI y)), (0, .ref (ad pb))]) hx hb dX2_turnOver_85 hl (k := 0) rfl (iinc_nat _ 1) (by decide) rfl (fun ls hl => ?_)
      refine lv_goto (tgt := 10) hx hb dX2_turnOver_88 (by decide) ?_
      exact ih (x + 1) H locs ls (by omega) (by omega) hP hD hS (lv_sub hl [0, 1, 2] rfl)
set_option maxHeartbeats 4000000 in
set_option maxRecDepth 100000 in
theorem lX2_turnOver_y {p : Program} {l : Launch} {e : Env} {s : State} {m : MethodId} {args : Array Value} {below : List Frame} {meth : Method} {c : Code} {Q : State → Prop} {A : Nat → Prop} {H0 : Heap} {cells slots : Nat} (hx : p.tables.exec = Jvm.exec) (hb : c.code = cX2_turnOver) (hml : c.maxLocals = 7) (hr : meth.sig.returnType = none) (hts : ∀ w ∈ wsX2_turnOver, w.before args s = true) (hown : s.vm.findClass RX2 = some m.cls) {G : iG} (hK : KB G s) (hA : ∀ q, H0.size ≤ q → A q) {N : Nat} {ad : Nat → Nat} {C : Nat → va_E}  (hcc : cells ≤ rmX2_turnOver.cells) (hcs : slots ≤ rmX2_turnOver.slots) {pb pn pm : Nat} {nu : Nat → UInt32} {md : Nat → Nat} (lpb : pb < N) (lpn : pn < N) (lpm : pm < N) (hpb : C pb = ob 2 [.ref (ad pn), .ref (ad pm)]) (hpn : C pn = fa G 192 nu) (hpm : C pm = ia G 64 (fun i => nI (md i))) (kx : ∀ (H : Heap) (locs : List Loc) (ls : Array Slot), va_P G.1 vwB (wl N ad (va_up C pn (fa G 192 (toN nu (12 * 8))))) H → va_D A (wl N ad (va_up C pn (fa G 192 (toN nu (12 * 8))))) → va_S A H0 H locs → lv_has ls 7 [(0, .ref (ad pb))] → W p l e rmX2_turnOver s m args below meth c H locs cells slots Q (F0 m 97 ls [])) : ∀ (d : Nat) (y : Nat) (H : Heap) (locs : List Loc) (ls : Array Slot), 8 - y < d → y ≤ 8 → va_P G.1 vwB (wl N ad (va_up C pn (fa G 192 (toN nu (12 * y))))) H → va_D A (wl N ad (va_up C pn (fa G 192 (toN nu (12 * y))))) → va_S A H0 H locs → lv_has ls 7 [(1, .int (nI y)), (0, .ref (ad pb))] → W p l e rmX2_turnOver s m args below meth c H locs cells slots Q (F0 m 2 ls []) := by
  intro d
  induction d with
  | zero => intro y H locs ls hd; exact absurd hd (Nat.not_lt_zero _)
  | succ d ih =>
    intro y H locs ls hd h2 hP hD hS hl
    refine lv_iload_n hx hb dX2_turnOver_2 rfl (lv_at hl 0 rfl) ?_
    refine lv_bipush (v := nI 8) hx hb dX2_turnOver_3 (by decide) ?_
    refine lv_icmp_ge (tgt := 97) hx hb dX2_turnOver_5 (by decide) (fun c5 => ?_) (fun c5 => ?_)
    · have h5 : y = 8 := by have := (nI_leI (by omega) (by omega)).mp c5; omega
      subst h5
      exact kx H locs ls hP hD hS (lv_sub hl [1] rfl)
    · have h4 : y < 8 := by have := mt (nI_leI (by omega) (by omega)).mpr c5; omega
      refine lv_iconst (v := nI 0) hx hb dX2_turnOver_8 (by decide) ?_
      refine lv_istore_n (lv' := [(2, .int (nI 0)), (1, .int (nI y)), (0, .ref (ad pb))]) hx hb dX2_turnOver_9 rfl hl (by decide) rfl (fun ls hl => ?_)
      refine lX2_turnOver_x hx hb hml hr hts hown hK hA hcc hcs lpb lpn lpm hpb hpn hpm h4 (fun H locs ls hP hD hS hl => ?_) 5 0 H locs ls (by omega) (by omega) hP hD hS (lv_sub hl [0, 1, 2] rfl)
      refine lv_iinc (v := nI (y + 1)) (lv' := [(1, .int (nI (y + 1))), (0, .ref (ad pb))]) hx hb dX2_turnOver_91 hl (k := 0) rfl (iinc_nat _ 1) (by decide) rfl (fun ls hl => ?_)
      refine lv_goto (tgt := 2) hx hb dX2_turnOver_94 (by decide) ?_
      exact ih (y + 1) H locs ls (by omega) (by omega) hP hD hS (lv_sub hl [0, 1] rfl)
set_option maxHeartbeats 4000000 in
set_option maxRecDepth 100000 in
theorem kX2_turnOver (l : Launch) (G : iG) (N : Nat) (ad : Nat → Nat) (C : Nat → va_E) {pb pn pm : Nat} {nu : Nat → UInt32} {md : Nat → Nat} (lpb : pb < N) (lpn : pn < N) (lpm : pm < N) (hpb : C pb = ob 2 [.ref (ad pn), .ref (ad pm)]) (hpn : C pn = fa G 192 nu) (hpm : C pm = ia G 64 (fun i => nI (md i))) (sz : Nat) : Met l yX2_turnOver wsX2_turnOver rmX2_turnOver (iPre G N ad C sz [.ref (ad pb)]) (va_Qv (fun (u : Nat → va_E) => u = va_up C pn (fa G 192 (fpF nu))) (iB G N ad) (iA N ad sz)) 0 0 (iA N ad sz) := by
  refine Met.ofW (cc := cX2_turnOver) (maxL := 7) (ret := none) (by decide) rfl ?_
  intro p e s m args below meth c s₁ B hml hv
  obtain ⟨rfl, hsz, hP, hK, hD0⟩ := hv
  have hx := B.exec
  have hb := B.bytes
  have hr := B.returns
  have hts := atoms_spec (ws := wsX2_turnOver) B.pre
  have hown : s.vm.findClass RX2 = some m.cls := findClass_of_methodNamed B.named
  have hlocks := B.notSynchronized
  subst hsz
  have hD := wl_self hD0 s.heap.size
  have hA : ∀ q : Nat, s.heap.size ≤ q → iA N ad s.heap.size q := fun q h => Or.inr h
  have hS : va_S (iA N ad s.heap.size) s.heap s.heap [] := va_S.rf
  have hP : va_P G.1 vwB (wl N ad C) s.heap := hP
  have hl := lv_entry ([.ref (ad pb)]) (n := 7) (Nat.le_of_ble_eq_true rfl)
  rw [lg_entry_eq]
  generalize (lg_sl ([.ref (ad pb)]) ++ List.replicate (7 - (lg_sl ([.ref (ad pb)])).length) Slot.unset).toArray = ls at hl ⊢
  have hl : lv_has ls 7 [(0, .ref (ad pb))] := hl
  have n_pb_pn : pb ≠ pn := fun h => by rw [h, hpn] at hpb; simp at hpb
  have n_pb_pm : pb ≠ pm := fun h => by rw [h, hpm] at hpb; simp at hpb
  have n_pn_pm : pn ≠ pm := fun h => by rw [h, hpm] at hpn; simp at hpn
  refine lv_iconst (v := nI 0) hx hb dX2_turnOver_0 (by decide) ?_
  refine lv_istore_n (lv' := [(1, .int (nI 0)), (0, .ref (ad pb))]) hx hb dX2_turnOver_1 rfl hl (by decide) rfl (fun ls hl => ?_)
  have hP := wl_selfE hP hpn
  have hD := wl_D hD (va_up C pn (fa G 192 nu))
  refine lX2_turnOver_y hx hb hml hr hts hown hK hA (Nat.le_refl _) (Nat.le_refl _) lpb lpn lpm hpb hpn hpm (fun H locs ls hP hD hS hl => ?_) 9 0 _ _ ls (by omega) (by omega) (by rw [show 12 * 0 = 0 from rfl, toN_0]; exact hP) (by rw [show 12 * 0 = 0 from rfl, toN_0]; exact hD) hS (lv_sub hl [0, 1] rfl)
  have hP := wl_fa (g := fpF nu) hP (fun k hk => toN_all nu hk)
  have hD := wl_D hD (va_up C pn (fa G 192 (fpF nu)))
  exact W.vret hx hb hr (fun t ht hW => ⟨⟨_, rfl, rfl, iB_of ht hP⟩, hS.F ht⟩) hS.2.2 dX2_turnOver_97
abbrev rmX2_applyEdit : Room := { frames := 2, cells := 0, slots := 0, locals := 47 }
set_option maxRecDepth 20000 in
theorem il_X2_applyEdit_76 : (Cond.constantFloat RX2 76 (1082130432)) ∈ wsX2_applyEdit := by decide +kernel
set_option maxHeartbeats 4000000 in
set_option maxRecDepth 100000 in
theorem kX2_applyEdit (l : Launch) (G : iG) (N : Nat) (ad : Nat → Nat) (C : Nat → va_E) {pb pn pm : Nat} {nu : Nat → UInt32} {md : Nat → Nat} (lpb : pb < N) (lpn : pn < N) (lpm : pm < N) (hpb : C pb = ob 2 [.ref (ad pn), .ref (ad pm)]) (hpn : C pn = fa G 192 nu) (hpm : C pm = ia G 64 (fun i => nI (md i))) (hn9 : ∀ i, i < 192 → vf_n32 (nu i)) (k n : Nat) (hok : okE k n) (sz : Nat) : Met l yX2_applyEdit wsX2_applyEdit rmX2_applyEdit (iPre G N ad C sz [.ref (ad pb), .int (nI k), .int (nI n)]) (va_Qv (fun (u : Nat → va_E) => u = va_up C pn (fa G 192 (apF k n nu))) (iB G N ad) (iA N ad sz)) 0 0 (iA N ad sz) := by
  refine Met.ofW (cc := cX2_applyEdit) (maxL := 3) (ret := none) (by decide) rfl ?_
  intro p e s m args below meth c s₁ B hml hv
  obtain ⟨rfl, hsz, hP, hK, hD0⟩ := hv
  have hx := B.exec
  have hb := B.bytes
  have hr := B.returns
  have hts := atoms_spec (ws := wsX2_applyEdit) B.pre
  have hown : s.vm.findClass RX2 = some m.cls := findClass_of_methodNamed B.named
  have hlocks := B.notSynchronized
  subst hsz
  have hD := wl_self hD0 s.heap.size
  have hA : ∀ q : Nat, s.heap.size ≤ q → iA N ad s.heap.size q := fun q h => Or.inr h
  have hS : va_S (iA N ad s.heap.size) s.heap s.heap [] := va_S.rf
  have hP : va_P G.1 vwB (wl N ad C) s.heap := hP
  have hl := lv_entry ([.ref (ad pb), .int (nI k), .int (nI n)]) (n := 3) (Nat.le_of_ble_eq_true rfl)
  rw [lg_entry_eq]
  generalize (lg_sl ([.ref (ad pb), .int (nI k), .int (nI n)]) ++ List.replicate (3 - (lg_sl ([.ref (ad pb), .int (nI k), .int (nI n)])).length) Slot.unset).toArray = ls at hl ⊢
  have hl : lv_has ls 3 [(0, .ref (ad pb)), (1, .int (nI k)), (2, .int (nI n))] := hl
  have n_pb_pn : pb ≠ pn := fun h => by rw [h, hpn] at hpb; simp at hpb
  have n_pb_pm : pb ≠ pm := fun h => by rw [h, hpm] at hpb; simp at hpb
  have n_pn_pm : pn ≠ pm := fun h => by rw [h, hpm] at hpn; simp at hpn
  refine lv_iload_n hx hb dX2_applyEdit_0 rfl (lv_at hl 1 rfl) ?_
  rcases (show k = 0 ∨ k = 1 ∨ k = 2 ∨ k = 3 ∨ k = 4 ∨ k = 5 by have := hok.1; omega) with rfl | rfl | rfl | rfl | rfl | rfl
  · refine lv_tableIn (off := 35) (tgt := 36) hx hb dX2_applyEdit_1 (by decide) (by decide) (by decide) (by decide) ?_
    refine lv_aload_n hx hb dX2_applyEdit_36 rfl (lv_at hl 0 rfl) ?_
    refine lv_iload_n hx hb dX2_applyEdit_37 rfl (lv_at hl 2 rfl) ?_
    refine iw_v (va_runV (As := [.int (nI n)]) (rest := []) ⟨hx, hb, hml, hown, hts⟩ (kX2_darken l G N ad C lpb lpn lpm hpb hpn hpm hn9 (b := n) hok.2.1 _) (cwV 1 hts gX2_applyEdit_X2_darken rfl rfl rfl (by decide +kernel) ⟨Nat.le_of_ble_eq_true rfl, Nat.le_of_ble_eq_true rfl⟩) (iPV hK hP hD lpb (hpb) rfl [.int (nI n)]) rfl rfl hl.1 rfl (lv_room (Nat.le_of_ble_eq_true rfl)) dX2_applyEdit_38 ⟨Nat.le_of_ble_eq_true rfl, Nat.le_of_ble_eq_true rfl⟩) hD hS hA (fun u8 H locs hw8 hP hD hS => ?_)
    rw [hw8] at hP hD
    refine lv_goto (tgt := 85) hx hb dX2_applyEdit_41 (by decide) ?_
    exact W.vret hx hb hr (fun t ht hW => ⟨⟨_, rfl, rfl, iB_of ht hP⟩, hS.F ht⟩) hS.2.2 dX2_applyEdit_85
  · refine lv_tableIn (off := 43) (tgt := 44) hx hb dX2_applyEdit_1 (by decide) (by decide) (by decide) (by decide) ?_
    refine lv_aload_n hx hb dX2_applyEdit_44 rfl (lv_at hl 0 rfl) ?_
    refine lv_iconst (v := nI 0) hx hb dX2_applyEdit_45 (by decide) ?_
    refine lv_iload_n hx hb dX2_applyEdit_46 rfl (lv_at hl 2 rfl) ?_
    refine lv_i2f hx hb dX2_applyEdit_47 ?_
    refine lv_ldcf hx hb hown (hts _ il_X2_applyEdit_76) dX2_applyEdit_48 ?_
    refine lv_fdiv hx hb dX2_applyEdit_50 (fin32_n (finz32_fin (quF_ok n (hok.2.2.1 (Or.inl rfl)).2 (hok.2.2.1 (Or.inl rfl)).1))) ?_
    refine iw_v (va_runV (As := [.int (nI 0), .float (quF n)]) (rest := []) ⟨hx, hb, hml, hown, hts⟩ (kX2_scaleColour l G N ad C lpb lpn lpm hpb hpn hpm hn9 (k := 0) (t := quF n) (by omega) (quF_ok n (hok.2.2.1 (Or.inl rfl)).2 (hok.2.2.1 (Or.inl rfl)).1) _) (cwV 2 hts gX2_applyEdit_X2_scaleColour rfl rfl rfl (by decide +kernel) ⟨Nat.le_of_ble_eq_true rfl, Nat.le_of_ble_eq_true rfl⟩) (iPV hK hP hD lpb (hpb) rfl [.int (nI 0), .float (quF n)]) rfl rfl hl.1 rfl (lv_room (Nat.le_of_ble_eq_true rfl)) dX2_applyEdit_51 ⟨Nat.le_of_ble_eq_true rfl, Nat.le_of_ble_eq_true rfl⟩) hD hS hA (fun u8 H locs hw8 hP hD hS => ?_)
    rw [hw8] at hP hD
    refine lv_goto (tgt := 85) hx hb dX2_applyEdit_54 (by decide) ?_
    exact W.vret hx hb hr (fun t ht hW => ⟨⟨_, rfl, rfl, iB_of ht hP⟩, hS.F ht⟩) hS.2.2 dX2_applyEdit_85
  · refine lv_tableIn (off := 56) (tgt := 57) hx hb dX2_applyEdit_1 (by decide) (by decide) (by decide) (by decide) ?_
    refine lv_aload_n hx hb dX2_applyEdit_57 rfl (lv_at hl 0 rfl) ?_
    refine lv_iconst (v := nI 2) hx hb dX2_applyEdit_58 (by decide) ?_
    refine lv_iload_n hx hb dX2_applyEdit_59 rfl (lv_at hl 2 rfl) ?_
    refine lv_i2f hx hb dX2_applyEdit_60 ?_
    refine lv_ldcf hx hb hown (hts _ il_X2_applyEdit_76) dX2_applyEdit_61 ?_
    refine lv_fdiv hx hb dX2_applyEdit_63 (fin32_n (finz32_fin (quF_ok n (hok.2.2.1 (Or.inr rfl)).2 (hok.2.2.1 (Or.inr rfl)).1))) ?_
    refine iw_v (va_runV (As := [.int (nI 2), .float (quF n)]) (rest := []) ⟨hx, hb, hml, hown, hts⟩ (kX2_scaleColour l G N ad C lpb lpn lpm hpb hpn hpm hn9 (k := 2) (t := quF n) (by omega) (quF_ok n (hok.2.2.1 (Or.inr rfl)).2 (hok.2.2.1 (Or.inr rfl)).1) _) (cwV 2 hts gX2_applyEdit_X2_scaleColour rfl rfl rfl (by decide +kernel) ⟨Nat.le_of_ble_eq_true rfl, Nat.le_of_ble_eq_true rfl⟩) (iPV hK hP hD lpb (hpb) rfl [.int (nI 2), .float (quF n)]) rfl rfl hl.1 rfl (lv_room (Nat.le_of_ble_eq_true rfl)) dX2_applyEdit_64 ⟨Nat.le_of_ble_eq_true rfl, Nat.le_of_ble_eq_true rfl⟩) hD hS hA (fun u8 H locs hw8 hP hD hS => ?_)
    rw [hw8] at hP hD
    refine lv_goto (tgt := 85) hx hb dX2_applyEdit_67 (by decide) ?_
    exact W.vret hx hb hr (fun t ht hW => ⟨⟨_, rfl, rfl, iB_of ht hP⟩, hS.F ht⟩) hS.2.2 dX2_applyEdit_85
  · refine lv_tableIn (off := 69) (tgt := 70) hx hb dX2_applyEdit_1 (by decide) (by decide) (by decide) (by decide) ?_
    refine lv_aload_n hx hb dX2_applyEdit_70 rfl (lv_at hl 0 rfl) ?_
    refine lv_iload_n hx hb dX2_applyEdit_71 rfl (lv_at hl 2 rfl) ?_
    refine iw_v (va_runV (As := [.int (nI n)]) (rest := []) ⟨hx, hb, hml, hown, hts⟩ (kX2_changeTone l G N ad C lpb lpn lpm hpb hpn hpm hn9 (n := n) (hok.2.2.2 rfl) _) (cwV 1 hts gX2_applyEdit_X2_changeTone rfl rfl rfl (by decide +kernel) ⟨Nat.le_of_ble_eq_true rfl, Nat.le_of_ble_eq_true rfl⟩) (iPV hK hP hD lpb (hpb) rfl [.int (nI n)]) rfl rfl hl.1 rfl (lv_room (Nat.le_of_ble_eq_true rfl)) dX2_applyEdit_72 ⟨Nat.le_of_ble_eq_true rfl, Nat.le_of_ble_eq_true rfl⟩) hD hS hA (fun u8 H locs hw8 hP hD hS => ?_)
    rw [hw8] at hP hD
    refine lv_goto (tgt := 85) hx hb dX2_applyEdit_75 (by decide) ?_
    exact W.vret hx hb hr (fun t ht hW => ⟨⟨_, rfl, rfl, iB_of ht hP⟩, hS.F ht⟩) hS.2.2 dX2_applyEdit_85
  · refine lv_tableIn (off := 77) (tgt := 78) hx hb dX2_applyEdit_1 (by decide) (by decide) (by decide) (by decide) ?_
    refine lv_aload_n hx hb dX2_applyEdit_78 rfl (lv_at hl 0 rfl) ?_
    refine iw_v (va_runV (As := []) (rest := []) ⟨hx, hb, hml, hown, hts⟩ (kX2_turnOver l G N ad C lpb lpn lpm hpb hpn hpm _) (cwV 0 hts gX2_applyEdit_X2_turnOver rfl rfl rfl (by decide +kernel) ⟨Nat.le_of_ble_eq_true rfl, Nat.le_of_ble_eq_true rfl⟩) (iPV hK hP hD lpb (hpb) rfl []) rfl rfl hl.1 rfl (lv_room (Nat.le_of_ble_eq_true rfl)) dX2_applyEdit_79 ⟨Nat.le_of_ble_eq_true rfl, Nat.le_of_ble_eq_true rfl⟩) hD hS hA (fun u8 H locs hw8 hP hD hS => ?_)
    rw [hw8] at hP hD
    refine lv_goto (tgt := 85) hx hb dX2_applyEdit_82 (by decide) ?_
    exact W.vret hx hb hr (fun t ht hW => ⟨⟨_, rfl, rfl, iB_of ht hP⟩, hS.F ht⟩) hS.2.2 dX2_applyEdit_85
  · refine lv_tableOut (tgt := 85) hx hb dX2_applyEdit_1 (by decide) (by decide) ?_
    exact W.vret hx hb hr (fun t ht hW => ⟨⟨_, rfl, (va_self C hpn).symm, iB_of ht hP⟩, hS.F ht⟩) hS.2.2 dX2_applyEdit_85
abbrev rmX2_sumUp : Room := { frames := 0, cells := 0, slots := 0, locals := 0 }
set_option maxRecDepth 20000 in
theorem iu_X2_sumUp_2 : ∀ w ∈ u_ws RX2 TX2 2, w ∈ wsX2_sumUp := by decide +kernel
set_option maxRecDepth 20000 in
theorem il_X2_sumUp_9 : (Cond.fieldLink RX2 9 "BayerGate$Picture" "numbers" "[F") ∈ wsX2_sumUp := by decide +kernel
set_option maxHeartbeats 4000000 in
set_option maxRecDepth 100000 in
theorem lX2_sumUp {p : Program} {l : Launch} {e : Env} {s : State} {m : MethodId} {args : Array Value} {below : List Frame} {meth : Method} {c : Code} {Q : State → Prop} {A : Nat → Prop} {H0 : Heap} {cells slots : Nat} (hx : p.tables.exec = Jvm.exec) (hb : c.code = cX2_sumUp) (hml : c.maxLocals = 3) (hr : meth.sig.returnType = (some .int)) (hts : ∀ w ∈ wsX2_sumUp, w.before args s = true) (hown : s.vm.findClass RX2 = some m.cls) {G : iG} (hK : KB G s) (hA : ∀ q, H0.size ≤ q → A q) {N : Nat} {ad : Nat → Nat} {C : Nat → va_E}  (hcc : cells ≤ rmX2_sumUp.cells) (hcs : slots ≤ rmX2_sumUp.slots) {pb pn pm : Nat} {nu : Nat → UInt32} {md : Nat → Nat} (lpb : pb < N) (lpn : pn < N) (lpm : pm < N) (hpb : C pb = ob 2 [.ref (ad pn), .ref (ad pm)]) (hpn : C pn = fa G 192 nu) (hpm : C pm = ia G 64 (fun i => nI (md i))) (kx : ∀ (H : Heap) (locs : List Loc) (ls : Array Slot), va_P G.1 vwB (wl N ad (C)) H → va_D A (wl N ad (C)) → va_S A H0 H locs → lv_has ls 3 [(1, .int (suI nu 192))] → W p l e rmX2_sumUp s m args below meth c H locs cells slots Q (F0 m 33 ls [])) : ∀ (d : Nat) (k : Nat) (H : Heap) (locs : List Loc) (ls : Array Slot), 192 - k < d → k ≤ 192 → va_P G.1 vwB (wl N ad C) H → va_D A (wl N ad C) → va_S A H0 H locs → lv_has ls 3 [(1, .int (suI nu k)), (2, .int (nI k)), (0, .ref (ad pb))] → W p l e rmX2_sumUp s m args below meth c H locs cells slots Q (F0 m 5 ls []) := by
  intro d
  induction d with
  | zero => intro k H locs ls hd; exact absurd hd (Nat.not_lt_zero _)
  | succ d ih =>
    intro k H locs ls hd h2 hP hD hS hl
    refine lv_iload_n hx hb dX2_sumUp_5 rfl (lv_at hl 1 rfl) ?_
    refine lv_aload_n hx hb dX2_sumUp_6 rfl (lv_at hl 2 rfl) ?_
    refine iw_get hx hb hts iu_X2_sumUp_2 hown hK hP lpb (hpb) rfl 0 (by decide) (hts _ il_X2_sumUp_9) (fun _ h9 => h9) rfl dX2_sumUp_7 ?_
    refine iw_alenF (v := nI 192) hx hb hK hP lpn (hpn) rfl dX2_sumUp_10 ?_
    refine lv_icmp_ge (tgt := 33) hx hb dX2_sumUp_11 (by decide) (fun c11 => ?_) (fun c11 => ?_)
    · have h5 : k = 192 := by have := (nI_leI (by omega) (by omega)).mp c11; omega
      subst h5
      exact kx H locs ls hP hD hS (lv_sub hl [0] rfl)
    · have h4 : k < 192 := by have := mt (nI_leI (by omega) (by omega)).mpr c11; omega
      refine lv_iload_n hx hb dX2_sumUp_14 rfl (lv_at hl 0 rfl) ?_
      refine lv_bipush (v := nI 31) hx hb dX2_sumUp_15 (by decide) ?_
      refine lv_imul hx hb dX2_sumUp_17 ?_
      refine lv_aload_n hx hb dX2_sumUp_18 rfl (lv_at hl 2 rfl) ?_
      refine iw_get hx hb hts iu_X2_sumUp_2 hown hK hP lpb (hpb) rfl 0 (by decide) (hts _ il_X2_sumUp_9) (fun _ h9 => h9) rfl dX2_sumUp_19 ?_
      refine lv_iload_n hx hb dX2_sumUp_22 rfl (lv_at hl 1 rfl) ?_
      refine iw_fald (v := nu k) hx hb hK hP lpn (hpn) (vp_in_nI (show k < 192 by omega) (by omega)) (congrArg nu (nI_clamp (by omega))) dX2_sumUp_23 ?_
      refine lv_f2i hx hb dX2_sumUp_24 ?_
      refine lv_iadd hx hb dX2_sumUp_25 ?_
      refine lv_istore_n (lv' := [(1, .int (((suI nu k) * (nI 31)) + (FP.f2i (nu k)))), (2, .int (nI k)), (0, .ref (ad pb))]) hx hb dX2_sumUp_26 rfl hl (by decide) rfl (fun ls hl => ?_)
      refine lv_iinc (v := nI (k + 1)) (lv' := [(2, .int (nI (k + 1))), (1, .int (((suI nu k) * (nI 31)) + (FP.f2i (nu k)))), (0, .ref (ad pb))]) hx hb dX2_sumUp_27 hl (k := 1) rfl (iinc_nat _ 1) (by decide) rfl (fun ls hl => ?_)
      refine lv_goto (tgt := 5) hx hb dX2_sumUp_30 (by decide) ?_
      exact ih (k + 1) H locs ls (by omega) (by omega) hP hD hS (lv_sub hl [1, 0, 2] rfl)
set_option maxHeartbeats 4000000 in
set_option maxRecDepth 100000 in
theorem kX2_sumUp (l : Launch) (G : iG) (N : Nat) (ad : Nat → Nat) (C : Nat → va_E) {pb pn pm : Nat} {nu : Nat → UInt32} {md : Nat → Nat} (lpb : pb < N) (lpn : pn < N) (lpm : pm < N) (hpb : C pb = ob 2 [.ref (ad pn), .ref (ad pm)]) (hpn : C pn = fa G 192 nu) (hpm : C pm = ia G 64 (fun i => nI (md i))) (sz : Nat) : Met l yX2_sumUp wsX2_sumUp rmX2_sumUp (iPre G N ad C sz [.ref (ad pb)]) (va_Qi (fun (r : Int32) (u : Nat → va_E) => r = suI nu 192 ∧ u = C) (iB G N ad) (iA N ad sz)) 0 0 (iA N ad sz) := by
  refine Met.ofW (cc := cX2_sumUp) (maxL := 3) (ret := (some .int)) (by decide) rfl ?_
  intro p e s m args below meth c s₁ B hml hv
  obtain ⟨rfl, hsz, hP, hK, hD0⟩ := hv
  have hx := B.exec
  have hb := B.bytes
  have hr := B.returns
  have hts := atoms_spec (ws := wsX2_sumUp) B.pre
  have hown : s.vm.findClass RX2 = some m.cls := findClass_of_methodNamed B.named
  have hlocks := B.notSynchronized
  subst hsz
  have hD := wl_self hD0 s.heap.size
  have hA : ∀ q : Nat, s.heap.size ≤ q → iA N ad s.heap.size q := fun q h => Or.inr h
  have hS : va_S (iA N ad s.heap.size) s.heap s.heap [] := va_S.rf
  have hP : va_P G.1 vwB (wl N ad C) s.heap := hP
  have hl := lv_entry ([.ref (ad pb)]) (n := 3) (Nat.le_of_ble_eq_true rfl)
  rw [lg_entry_eq]
  generalize (lg_sl ([.ref (ad pb)]) ++ List.replicate (3 - (lg_sl ([.ref (ad pb)])).length) Slot.unset).toArray = ls at hl ⊢
  have hl : lv_has ls 3 [(0, .ref (ad pb))] := hl
  refine lv_bipush (v := nI 7) hx hb dX2_sumUp_0 (by decide) ?_
  refine lv_istore_n (lv' := [(1, .int (nI 7)), (0, .ref (ad pb))]) hx hb dX2_sumUp_2 rfl hl (by decide) rfl (fun ls hl => ?_)
  refine lv_iconst (v := nI 0) hx hb dX2_sumUp_3 (by decide) ?_
  refine lv_istore_n (lv' := [(2, .int (nI 0)), (1, .int (nI 7)), (0, .ref (ad pb))]) hx hb dX2_sumUp_4 rfl hl (by decide) rfl (fun ls hl => ?_)
  refine lX2_sumUp hx hb hml hr hts hown hK hA (Nat.le_refl _) (Nat.le_refl _) lpb lpn lpm hpb hpn hpm (fun H locs ls hP hD hS hl => ?_) 193 0 _ _ ls (by omega) (by omega) hP hD hS (lv_sub hl [1, 0, 2] rfl)
  refine lv_iload_n hx hb dX2_sumUp_33 rfl (lv_at hl 0 rfl) ?_
  exact W.iret (v := (suI nu 192)) hx hb hr (fun t ht hW => ⟨⟨_, _, rfl, ⟨rfl, rfl⟩, iB_of ht hP⟩, hS.F ht⟩) hS.2.2 dX2_sumUp_34
abbrev rmX2_sumTones : Room := { frames := 1, cells := 0, slots := 0, locals := 21 }
set_option maxRecDepth 20000 in
theorem iu_X2_sumTones_2 : ∀ w ∈ u_ws RX2 TX2 2, w ∈ wsX2_sumTones := by decide +kernel
set_option maxRecDepth 20000 in
theorem il_X2_sumTones_9 : (Cond.fieldLink RX2 9 "BayerGate$Picture" "numbers" "[F") ∈ wsX2_sumTones := by decide +kernel
set_option maxHeartbeats 4000000 in
set_option maxRecDepth 100000 in
theorem lX2_sumTones {p : Program} {l : Launch} {e : Env} {s : State} {m : MethodId} {args : Array Value} {below : List Frame} {meth : Method} {c : Code} {Q : State → Prop} {A : Nat → Prop} {H0 : Heap} {cells slots : Nat} (hx : p.tables.exec = Jvm.exec) (hb : c.code = cX2_sumTones) (hml : c.maxLocals = 5) (hr : meth.sig.returnType = (some .int)) (hts : ∀ w ∈ wsX2_sumTones, w.before args s = true) (hown : s.vm.findClass RX2 = some m.cls) {G : iG} (hK : KB G s) (hA : ∀ q, H0.size ≤ q → A q) {N : Nat} {ad : Nat → Nat} {C : Nat → va_E}  (hcc : cells ≤ rmX2_sumTones.cells) (hcs : slots ≤ rmX2_sumTones.slots) {pb pn pm : Nat} {nu : Nat → UInt32} {md : Nat → Nat} (lpb : pb < N) (lpn : pn < N) (lpm : pm < N) (hpb : C pb = ob 2 [.ref (ad pn), .ref (ad pm)]) (hpn : C pn = fa G 192 nu) (hpm : C pm = ia G 64 (fun i => nI (md i))) (hn9 : ∀ i, i < 192 → vf_n32 (nu i)) {k : Nat} {t : UInt32} (hk3 : k < 3) (ht9 : finz32 t) (kx : ∀ (H : Heap) (locs : List Loc) (ls : Array Slot), va_P G.1 vwB (wl N ad (C)) H → va_D A (wl N ad (C)) → va_S A H0 H locs → lv_has ls 5 [(3, .int (stI nu k t 64))] → W p l e rmX2_sumTones s m args below meth c H locs cells slots Q (F0 m 38 ls [])) : ∀ (d : Nat) (z : Nat) (H : Heap) (locs : List Loc) (ls : Array Slot), 64 - z < d → z ≤ 64 → va_P G.1 vwB (wl N ad C) H → va_D A (wl N ad C) → va_S A H0 H locs → lv_has ls 5 [(3, .int (stI nu k t z)), (4, .int (nI z)), (0, .ref (ad pb)), (1, .int (nI k)), (2, .float t)] → W p l e rmX2_sumTones s m args below meth c H locs cells slots Q (F0 m 5 ls []) := by
  intro d
  induction d with
  | zero => intro z H locs ls hd; exact absurd hd (Nat.not_lt_zero _)
  | succ d ih =>
    intro z H locs ls hd h2 hP hD hS hl
    refine lv_iload hx hb dX2_sumTones_5 (lv_at hl 1 rfl) ?_
    refine lv_bipush (v := nI 64) hx hb dX2_sumTones_7 (by decide) ?_
    refine lv_icmp_ge (tgt := 38) hx hb dX2_sumTones_9 (by decide) (fun c9 => ?_) (fun c9 => ?_)
    · have h5 : z = 64 := by have := (nI_leI (by omega) (by omega)).mp c9; omega
      subst h5
      exact kx H locs ls hP hD hS (lv_sub hl [0] rfl)
    · have h4 : z < 64 := by have := mt (nI_leI (by omega) (by omega)).mpr c9; omega
      refine lv_iload_n hx hb dX2_sumTones_12 rfl (lv_at hl 0 rfl) ?_
      refine lv_aload_n hx hb dX2_sumTones_13 rfl (lv_at hl 2 rfl) ?_
      refine iw_get hx hb hts iu_X2_sumTones_2 hown hK hP lpb (hpb) rfl 0 (by decide) (hts _ il_X2_sumTones_9) (fun _ h9 => h9) rfl dX2_sumTones_14 ?_
      refine lv_iload hx hb dX2_sumTones_17 (lv_at hl 1 rfl) ?_
      refine lv_iload_n hx hb dX2_sumTones_19 rfl (lv_at hl 3 rfl) ?_
      refine iw_pi (va_runS (As := [.int (nI z), .int (nI k)]) (rest := [.ref (ad pn), .int (stI nu k t z)]) ⟨hx, hb, hml, hown, hts⟩ (kX2_indexOf l z k) (va_cwS 2 hts gX2_sumTones_X2_indexOf rfl rfl rfl (by decide +kernel) ⟨Nat.le_of_ble_eq_true rfl, Nat.le_of_ble_eq_true rfl⟩) ⟨fun a U g mk q => q, fun U hU hW => ⟨rfl, trivial⟩⟩ rfl rfl hl.1 rfl (lv_room (Nat.le_of_ble_eq_true rfl)) dX2_sumTones_20 ⟨hcc, hcs⟩) hP hS (fun r8 u8 H locs hw8 hP hS => ?_)
      refine lv_asI hw8 ?_
      refine iw_fald (v := nu (3 * z + k)) hx hb hK hP lpn (hpn) (vp_in_nI (show 3 * z + k < 192 by omega) (by omega)) (congrArg nu (nI_clamp (by omega))) dX2_sumTones_23 ?_
      refine lv_fload_n hx hb dX2_sumTones_24 rfl (lv_at hl 4 rfl) ?_
      refine lv_fmul hx hb dX2_sumTones_25 (fmul_nz (hn9 _ (by omega)) ht9) ?_
      refine iw_pf (va_runS (As := [.float (FP.fmul (nu (3 * z + k)) t)]) (rest := [.int (stI nu k t z)]) ⟨hx, hb, hml, hown, hts⟩ (kX2_bounded l (FP.fmul (nu (3 * z + k)) t)) (va_cwS 1 hts gX2_sumTones_X2_bounded rfl rfl rfl (by decide +kernel) ⟨Nat.le_of_ble_eq_true rfl, Nat.le_of_ble_eq_true rfl⟩) ⟨fun a U g mk q => q, fun U hU hW => ⟨rfl, trivial⟩⟩ rfl rfl hl.1 rfl (lv_room (Nat.le_of_ble_eq_true rfl)) dX2_sumTones_26 ⟨hcc, hcs⟩) hP hS (fun r8 u8 H locs hw8 hP hS => ?_)
      refine lv_asF hw8 ?_
      refine lv_f2i hx hb dX2_sumTones_29 ?_
      refine lv_iadd hx hb dX2_sumTones_30 ?_
      refine lv_istore_n (lv' := [(3, .int ((stI nu k t z) + (FP.f2i (bdF (FP.fmul (nu (3 * z + k)) t))))), (4, .int (nI z)), (0, .ref (ad pb)), (1, .int (nI k)), (2, .float t)]) hx hb dX2_sumTones_31 rfl hl (by decide) rfl (fun ls hl => ?_)
      refine lv_iinc (v := nI (z + 1)) (lv' := [(4, .int (nI (z + 1))), (3, .int ((stI nu k t z) + (FP.f2i (bdF (FP.fmul (nu (3 * z + k)) t))))), (0, .ref (ad pb)), (1, .int (nI k)), (2, .float t)]) hx hb dX2_sumTones_32 hl (k := 1) rfl (iinc_nat _ 1) (by decide) rfl (fun ls hl => ?_)
      refine lv_goto (tgt := 5) hx hb dX2_sumTones_35 (by decide) ?_
      exact ih (z + 1) H locs ls (by omega) (by omega) hP hD hS (lv_sub hl [1, 0, 2, 3, 4] rfl)
set_option maxHeartbeats 4000000 in
set_option maxRecDepth 100000 in
theorem kX2_sumTones (l : Launch) (G : iG) (N : Nat) (ad : Nat → Nat) (C : Nat → va_E) {pb pn pm : Nat} {nu : Nat → UInt32} {md : Nat → Nat} (lpb : pb < N) (lpn : pn < N) (lpm : pm < N) (hpb : C pb = ob 2 [.ref (ad pn), .ref (ad pm)]) (hpn : C pn = fa G 192 nu) (hpm : C pm = ia G 64 (fun i => nI (md i))) (hn9 : ∀ i, i < 192 → vf_n32 (nu i)) {k : Nat} {t : UInt32} (hk3 : k < 3) (ht9 : finz32 t) (sz : Nat) : Met l yX2_sumTones wsX2_sumTones rmX2_sumTones (iPre G N ad C sz [.ref (ad pb), .int (nI k), .float t]) (va_Qi (fun (r : Int32) (u : Nat → va_E) => r = stI nu k t 64 ∧ u = C) (iB G N ad) (iA N ad sz)) 0 0 (iA N ad sz) := by
  refine Met.ofW (cc := cX2_sumTones) (maxL := 5) (ret := (some .int)) (by decide) rfl ?_
  intro p e s m args below meth c s₁ B hml hv
  obtain ⟨rfl, hsz, hP, hK, hD0⟩ := hv
  have hx := B.exec
  have hb := B.bytes
  have hr := B.returns
  have hts := atoms_spec (ws := wsX2_sumTones) B.pre
  have hown : s.vm.findClass RX2 = some m.cls := findClass_of_methodNamed B.named
  have hlocks := B.notSynchronized
  subst hsz
  have hD := wl_self hD0 s.heap.size
  have hA : ∀ q : Nat, s.heap.size ≤ q → iA N ad s.heap.size q := fun q h => Or.inr h
  have hS : va_S (iA N ad s.heap.size) s.heap s.heap [] := va_S.rf
  have hP : va_P G.1 vwB (wl N ad C) s.heap := hP
  have hl := lv_entry ([.ref (ad pb), .int (nI k), .float t]) (n := 5) (Nat.le_of_ble_eq_true rfl)
  rw [lg_entry_eq]
  generalize (lg_sl ([.ref (ad pb), .int (nI k), .float t]) ++ List.replicate (5 - (lg_sl ([.ref (ad pb), .int (nI k), .float t])).length) Slot.unset).toArray = ls at hl ⊢
  have hl : lv_has ls 5 [(0, .ref (ad pb)), (1, .int (nI k)), (2, .float t)] := hl
  refine lv_iconst (v := nI 0) hx hb dX2_sumTones_0 (by decide) ?_
  refine lv_istore_n (lv' := [(3, .int (nI 0)), (0, .ref (ad pb)), (1, .int (nI k)), (2, .float t)]) hx hb dX2_sumTones_1 rfl hl (by decide) rfl (fun ls hl => ?_)
  refine lv_iconst (v := nI 0) hx hb dX2_sumTones_2 (by decide) ?_
  refine lv_istore (lv' := [(4, .int (nI 0)), (3, .int (nI 0)), (0, .ref (ad pb)), (1, .int (nI k)), (2, .float t)]) hx hb dX2_sumTones_3 hl (by decide) rfl (fun ls hl => ?_)
  refine lX2_sumTones hx hb hml hr hts hown hK hA (Nat.le_refl _) (Nat.le_refl _) lpb lpn lpm hpb hpn hpm hn9 hk3 ht9 (fun H locs ls hP hD hS hl => ?_) 65 0 _ _ ls (by omega) (by omega) hP hD hS (lv_sub hl [1, 0, 2, 3, 4] rfl)
  refine lv_iload_n hx hb dX2_sumTones_38 rfl (lv_at hl 0 rfl) ?_
  exact W.iret (v := (stI nu k t 64)) hx hb hr (fun t ht hW => ⟨⟨_, _, rfl, ⟨rfl, rfl⟩, iB_of ht hP⟩, hS.F ht⟩) hS.2.2 dX2_sumTones_39
end
section
/-! THE STATE: edits (kinds, numbers, how many), a frame (RAW, edits, TIME, GAIN, GHOSTS), a file (edits, frame, version), a camera -/
abbrev Er : Type := (Nat → Nat) × (Nat → Nat) × Nat
abbrev Fr : Type := (Nat → Nat) × Er × Int32 × Int32 × Int32
abbrev Fi : Type := Er × Nat × Nat
abbrev Pi2 : Type := (Nat → UInt32) × (Nat → Nat)
abbrev St : Type := (Nat → Nat) × (Nat → UInt32) × Nat × (Nat → Nat) × (Nat → Bool) × Nat × Nat × Nat × (Nat → Fr) × (Nat → Fi)
abbrev sSh (S : St) := S.1
abbrev sFac (S : St) := S.2.1
abbrev sGq (S : St) := S.2.2.1
abbrev sHw (S : St) := S.2.2.2.1
abbrev sMp (S : St) := S.2.2.2.2.1
abbrev sDr (S : St) := S.2.2.2.2.2.1
abbrev sFn (S : St) := S.2.2.2.2.2.2.1
abbrev sFl (S : St) := S.2.2.2.2.2.2.2.1
abbrev sFr (S : St) := S.2.2.2.2.2.2.2.2.1
abbrev sFi (S : St) := S.2.2.2.2.2.2.2.2.2
abbrev mkS (sh : Nat → Nat) (fac : Nat → UInt32) (gq : Nat) (hw : Nat → Nat) (mp : Nat → Bool) (dr fn fl : Nat) (fr : Nat → Fr) (fi : Nat → Fi) : St := (sh, fac, gq, hw, mp, dr, fn, fl, fr, fi)
def isEr (G : iG) (ad : Nat → Nat) (C : Nat → va_E) (b : Nat) (E : Er) : Prop := C b = ob 0 [.ref (ad (b + 1)), .ref (ad (b + 2)), .int (nI E.2.2)] ∧ C (b + 1) = ia G 6 (fun i => nI (E.1 i)) ∧ C (b + 2) = ia G 6 (fun i => nI (E.2.1 i))
def isFr (G : iG) (ad : Nat → Nat) (C : Nat → va_E) (b : Nat) (F : Fr) : Prop := C b = ob 1 [.ref (ad (b + 1)), .ref (ad (b + 2)), .int F.2.2.1, .int F.2.2.2.1, .int F.2.2.2.2] ∧ C (b + 1) = ia G 64 (fun i => nI (F.1 i)) ∧ isEr G ad C (b + 2) F.2.1
def isFi (G : iG) (ad : Nat → Nat) (C : Nat → va_E) (b : Nat) (F : Fi) : Prop := C b = ob 5 [.ref (ad (b + 1)), .int (nI F.2.1), .int (nI F.2.2)] ∧ isEr G ad C (b + 1) F.1
def isPi (G : iG) (ad : Nat → Nat) (C : Nat → va_E) (b : Nat) (P : Pi2) : Prop := C b = ob 2 [.ref (ad (b + 1)), .ref (ad (b + 2))] ∧ C (b + 1) = fa G 192 P.1 ∧ C (b + 2) = ia G 64 (fun i => nI (P.2 i))
def okEr (E : Er) : Prop := E.2.2 ≤ 6 ∧ ∀ i, i < E.2.2 → okE (E.1 i) (E.2.1 i)
def okFr (F : Fr) : Prop := (∀ i, i < 64 → F.1 i ≤ 255) ∧ okEr F.2.1
def okFi (F : Fi) : Prop := okEr F.1 ∧ F.2.1 < 6
def okS (S : St) : Prop := (∀ i, i < 192 → sSh S i < 256) ∧ (∀ k, k < 3 → fin32 (sFac S k)) ∧ sGq S < 17 ∧ (∀ i, i < 64 → sHw S i < 3) ∧ sDr S < 61 ∧ sFn S ≤ 6 ∧ sFl S ≤ 6 ∧ (∀ k, k < 6 → okFr (sFr S k)) ∧ (∀ k, k < 6 → okFi (sFi S k))
/-- a camera whose cells are o, o + 1 .. o + 73 -/
def Cam (G : iG) (N : Nat) (ad : Nat → Nat) (C : Nat → va_E) (o : Nat) (S : St) : Prop :=
  o + 74 ≤ N ∧ okS S ∧ C o = ob 6 [.ref (ad (o + 1)), .ref (ad (o + 4)), .ref (ad (o + 7)), .ref (ad (o + 8)), .int (nI (sFn S)), .int (nI (sFl S)), .ref (ad (o + 9)), .ref (ad (o + 14)), .ref (ad (o + 17))] ∧
  (C (o + 1) = ob 3 [.ref (ad (o + 2)), .ref (ad (o + 3)), .int (nI (sGq S))] ∧ C (o + 2) = ia G 192 (fun i => nI (sSh S i)) ∧ C (o + 3) = fa G 3 (sFac S)) ∧
  (C (o + 4) = ob 4 [.ref (ad (o + 5)), .ref (ad (o + 6)), .int (nI (sDr S))] ∧ C (o + 5) = ia G 64 (fun i => nI (sHw S i)) ∧ C (o + 6) = za G 64 (bI (sMp S))) ∧
  C (o + 7) = ra G 3 6 (fun k => some (ad (o + 20 + 5 * k))) ∧ C (o + 8) = ra G 4 6 (fun k => some (ad (o + 50 + 4 * k))) ∧
  (∃ F : Fr, isFr G ad C (o + 9) F) ∧ (∃ P : Pi2, isPi G ad C (o + 14) P) ∧ (∃ P : Pi2, isPi G ad C (o + 17) P) ∧
  (∀ k, k < 6 → isFr G ad C (o + 20 + 5 * k) (sFr S k)) ∧ (∀ k, k < 6 → isFi G ad C (o + 50 + 4 * k) (sFi S k))
def same (C u : Nat → va_E) (o : Nat) : Prop := ∀ i, i < o ∨ o + 74 ≤ i → u i = C i
theorem same_rf {C : Nat → va_E} {o : Nat} : same C C o := fun _ _ => rfl
theorem same_up {C u : Nat → va_E} {o j : Nat} (h : same C u o) (e : va_E) (h1 : o ≤ j) (h2 : j < o + 74) : same C (va_up u j e) o := fun i hi => (va_un _ _ (by omega)).trans (h i hi)
theorem isEr_up {G : iG} {ad : Nat → Nat} {C : Nat → va_E} {b : Nat} {E : Er} (h : isEr G ad C b E) {j : Nat} {e : va_E} (hj : j < b ∨ b + 3 ≤ j) : isEr G ad (va_up C j e) b E := ⟨(va_un _ _ (by omega)).trans h.1, (va_un _ _ (by omega)).trans h.2.1, (va_un _ _ (by omega)).trans h.2.2⟩
theorem isFr_up {G : iG} {ad : Nat → Nat} {C : Nat → va_E} {b : Nat} {F : Fr} (h : isFr G ad C b F) {j : Nat} {e : va_E} (hj : j < b ∨ b + 5 ≤ j) : isFr G ad (va_up C j e) b F := ⟨(va_un _ _ (by omega)).trans h.1, (va_un _ _ (by omega)).trans h.2.1, isEr_up h.2.2 (by omega)⟩
theorem isFi_up {G : iG} {ad : Nat → Nat} {C : Nat → va_E} {b : Nat} {F : Fi} (h : isFi G ad C b F) {j : Nat} {e : va_E} (hj : j < b ∨ b + 4 ≤ j) : isFi G ad (va_up C j e) b F := ⟨(va_un _ _ (by omega)).trans h.1, isEr_up h.2 (by omega)⟩
theorem isPi_up {G : iG} {ad : Nat → Nat} {C : Nat → va_E} {b : Nat} {P : Pi2} (h : isPi G ad C b P) {j : Nat} {e : va_E} (hj : j < b ∨ b + 3 ≤ j) : isPi G ad (va_up C j e) b P := ⟨(va_un _ _ (by omega)).trans h.1, (va_un _ _ (by omega)).trans h.2.1, (va_un _ _ (by omega)).trans h.2.2⟩
theorem Cam_same {G : iG} {N : Nat} {ad : Nat → Nat} {C u : Nat → va_E} {o : Nat} {S : St} (h : Cam G N ad C o S) (hs : ∀ i, o ≤ i → i < o + 74 → u i = C i) : Cam G N ad u o S := by
  obtain ⟨hN, hok, h0, ⟨s1, s2, s3⟩, ⟨e1, e2, e3⟩, h7, h8, ⟨TF, t1, t2, t3, t4, t5⟩, ⟨TD, d1, d2, d3⟩, ⟨TC, c1, c2, c3⟩, hfr, hfi⟩ := h
  refine ⟨hN, hok, (hs _ (by omega) (by omega)).trans h0, ⟨(hs _ (by omega) (by omega)).trans s1, (hs _ (by omega) (by omega)).trans s2, (hs _ (by omega) (by omega)).trans s3⟩, ⟨(hs _ (by omega) (by omega)).trans e1, (hs _ (by omega) (by omega)).trans e2, (hs _ (by omega) (by omega)).trans e3⟩, (hs _ (by omega) (by omega)).trans h7, (hs _ (by omega) (by omega)).trans h8, ⟨TF, (hs _ (by omega) (by omega)).trans t1, (hs _ (by omega) (by omega)).trans t2, (hs _ (by omega) (by omega)).trans t3, (hs _ (by omega) (by omega)).trans t4, (hs _ (by omega) (by omega)).trans t5⟩, ⟨TD, (hs _ (by omega) (by omega)).trans d1, (hs _ (by omega) (by omega)).trans d2, (hs _ (by omega) (by omega)).trans d3⟩, ⟨TC, (hs _ (by omega) (by omega)).trans c1, (hs _ (by omega) (by omega)).trans c2, (hs _ (by omega) (by omega)).trans c3⟩, fun k hk => ?_, fun k hk => ?_⟩
  · obtain ⟨t1, t2, t3, t4, t5⟩ := hfr k hk
    exact ⟨(hs _ (by omega) (by omega)).trans t1, (hs _ (by omega) (by omega)).trans t2, (hs _ (by omega) (by omega)).trans t3, (hs _ (by omega) (by omega)).trans t4, (hs _ (by omega) (by omega)).trans t5⟩
  · obtain ⟨t1, t2, t3, t4⟩ := hfi k hk
    exact ⟨(hs _ (by omega) (by omega)).trans t1, (hs _ (by omega) (by omega)).trans t2, (hs _ (by omega) (by omega)).trans t3, (hs _ (by omega) (by omega)).trans t4⟩
theorem up_sh {G : iG} {N : Nat} {ad : Nat → Nat} {C : Nat → va_E} {o : Nat} {S : St} (h : Cam G N ad C o S) {sh : Nat → Nat} (hv : ∀ i, i < 192 → sh i < 256) : Cam G N ad (va_up C (o + 2) (ia G 192 (fun i => nI (sh i)))) o (mkS (sh) (sFac S) (sGq S) (sHw S) (sMp S) (sDr S) (sFn S) (sFl S) (sFr S) (sFi S)) := by
  obtain ⟨hN, ⟨ok1, ok2, ok3, ok4, ok5, ok6, ok7, ok8, ok9⟩, h0, ⟨s1, s2, s3⟩, ⟨e1, e2, e3⟩, h7, h8, ⟨TF, h9⟩, ⟨TD, h14⟩, ⟨TC, h17⟩, hfr, hfi⟩ := h
  exact ⟨hN, ⟨hv, ok2, ok3, ok4, ok5, ok6, ok7, ok8, ok9⟩, (va_un _ _ (by omega)).trans h0, ⟨(va_un _ _ (by omega)).trans s1, va_us _ _ _, (va_un _ _ (by omega)).trans s3⟩, ⟨(va_un _ _ (by omega)).trans e1, (va_un _ _ (by omega)).trans e2, (va_un _ _ (by omega)).trans e3⟩, (va_un _ _ (by omega)).trans h7, (va_un _ _ (by omega)).trans h8, ⟨TF, isFr_up h9 (by omega)⟩, ⟨TD, isPi_up h14 (by omega)⟩, ⟨TC, isPi_up h17 (by omega)⟩, fun i hi => isFr_up (hfr i hi) (by omega), fun i hi => isFi_up (hfi i hi) (by omega)⟩
theorem up_fac {G : iG} {N : Nat} {ad : Nat → Nat} {C : Nat → va_E} {o : Nat} {S : St} (h : Cam G N ad C o S) {fac : Nat → UInt32} (hv : ∀ k, k < 3 → fin32 (fac k)) : Cam G N ad (va_up C (o + 3) (fa G 3 fac)) o (mkS (sSh S) (fac) (sGq S) (sHw S) (sMp S) (sDr S) (sFn S) (sFl S) (sFr S) (sFi S)) := by
  obtain ⟨hN, ⟨ok1, ok2, ok3, ok4, ok5, ok6, ok7, ok8, ok9⟩, h0, ⟨s1, s2, s3⟩, ⟨e1, e2, e3⟩, h7, h8, ⟨TF, h9⟩, ⟨TD, h14⟩, ⟨TC, h17⟩, hfr, hfi⟩ := h
  exact ⟨hN, ⟨ok1, hv, ok3, ok4, ok5, ok6, ok7, ok8, ok9⟩, (va_un _ _ (by omega)).trans h0, ⟨(va_un _ _ (by omega)).trans s1, (va_un _ _ (by omega)).trans s2, va_us _ _ _⟩, ⟨(va_un _ _ (by omega)).trans e1, (va_un _ _ (by omega)).trans e2, (va_un _ _ (by omega)).trans e3⟩, (va_un _ _ (by omega)).trans h7, (va_un _ _ (by omega)).trans h8, ⟨TF, isFr_up h9 (by omega)⟩, ⟨TD, isPi_up h14 (by omega)⟩, ⟨TC, isPi_up h17 (by omega)⟩, fun i hi => isFr_up (hfr i hi) (by omega), fun i hi => isFi_up (hfi i hi) (by omega)⟩
theorem up_gq {G : iG} {N : Nat} {ad : Nat → Nat} {C : Nat → va_E} {o : Nat} {S : St} (h : Cam G N ad C o S) {g : Nat} (hv : g < 17) : Cam G N ad (va_up C (o + 1) (ob 3 [.ref (ad (o + 2)), .ref (ad (o + 3)), .int (nI g)])) o (mkS (sSh S) (sFac S) (g) (sHw S) (sMp S) (sDr S) (sFn S) (sFl S) (sFr S) (sFi S)) := by
  obtain ⟨hN, ⟨ok1, ok2, ok3, ok4, ok5, ok6, ok7, ok8, ok9⟩, h0, ⟨s1, s2, s3⟩, ⟨e1, e2, e3⟩, h7, h8, ⟨TF, h9⟩, ⟨TD, h14⟩, ⟨TC, h17⟩, hfr, hfi⟩ := h
  exact ⟨hN, ⟨ok1, ok2, hv, ok4, ok5, ok6, ok7, ok8, ok9⟩, (va_un _ _ (by omega)).trans h0, ⟨va_us _ _ _, (va_un _ _ (by omega)).trans s2, (va_un _ _ (by omega)).trans s3⟩, ⟨(va_un _ _ (by omega)).trans e1, (va_un _ _ (by omega)).trans e2, (va_un _ _ (by omega)).trans e3⟩, (va_un _ _ (by omega)).trans h7, (va_un _ _ (by omega)).trans h8, ⟨TF, isFr_up h9 (by omega)⟩, ⟨TD, isPi_up h14 (by omega)⟩, ⟨TC, isPi_up h17 (by omega)⟩, fun i hi => isFr_up (hfr i hi) (by omega), fun i hi => isFi_up (hfi i hi) (by omega)⟩
theorem up_hw {G : iG} {N : Nat} {ad : Nat → Nat} {C : Nat → va_E} {o : Nat} {S : St} (h : Cam G N ad C o S) {hw : Nat → Nat} (hv : ∀ i, i < 64 → hw i < 3) : Cam G N ad (va_up C (o + 5) (ia G 64 (fun i => nI (hw i)))) o (mkS (sSh S) (sFac S) (sGq S) (hw) (sMp S) (sDr S) (sFn S) (sFl S) (sFr S) (sFi S)) := by
  obtain ⟨hN, ⟨ok1, ok2, ok3, ok4, ok5, ok6, ok7, ok8, ok9⟩, h0, ⟨s1, s2, s3⟩, ⟨e1, e2, e3⟩, h7, h8, ⟨TF, h9⟩, ⟨TD, h14⟩, ⟨TC, h17⟩, hfr, hfi⟩ := h
  exact ⟨hN, ⟨ok1, ok2, ok3, hv, ok5, ok6, ok7, ok8, ok9⟩, (va_un _ _ (by omega)).trans h0, ⟨(va_un _ _ (by omega)).trans s1, (va_un _ _ (by omega)).trans s2, (va_un _ _ (by omega)).trans s3⟩, ⟨(va_un _ _ (by omega)).trans e1, va_us _ _ _, (va_un _ _ (by omega)).trans e3⟩, (va_un _ _ (by omega)).trans h7, (va_un _ _ (by omega)).trans h8, ⟨TF, isFr_up h9 (by omega)⟩, ⟨TD, isPi_up h14 (by omega)⟩, ⟨TC, isPi_up h17 (by omega)⟩, fun i hi => isFr_up (hfr i hi) (by omega), fun i hi => isFi_up (hfi i hi) (by omega)⟩
theorem up_mp {G : iG} {N : Nat} {ad : Nat → Nat} {C : Nat → va_E} {o : Nat} {S : St} (h : Cam G N ad C o S) (mp : Nat → Bool) : Cam G N ad (va_up C (o + 6) (za G 64 (bI mp))) o (mkS (sSh S) (sFac S) (sGq S) (sHw S) (mp) (sDr S) (sFn S) (sFl S) (sFr S) (sFi S)) := by
  obtain ⟨hN, ⟨ok1, ok2, ok3, ok4, ok5, ok6, ok7, ok8, ok9⟩, h0, ⟨s1, s2, s3⟩, ⟨e1, e2, e3⟩, h7, h8, ⟨TF, h9⟩, ⟨TD, h14⟩, ⟨TC, h17⟩, hfr, hfi⟩ := h
  exact ⟨hN, ⟨ok1, ok2, ok3, ok4, ok5, ok6, ok7, ok8, ok9⟩, (va_un _ _ (by omega)).trans h0, ⟨(va_un _ _ (by omega)).trans s1, (va_un _ _ (by omega)).trans s2, (va_un _ _ (by omega)).trans s3⟩, ⟨(va_un _ _ (by omega)).trans e1, (va_un _ _ (by omega)).trans e2, va_us _ _ _⟩, (va_un _ _ (by omega)).trans h7, (va_un _ _ (by omega)).trans h8, ⟨TF, isFr_up h9 (by omega)⟩, ⟨TD, isPi_up h14 (by omega)⟩, ⟨TC, isPi_up h17 (by omega)⟩, fun i hi => isFr_up (hfr i hi) (by omega), fun i hi => isFi_up (hfi i hi) (by omega)⟩
theorem up_dr {G : iG} {N : Nat} {ad : Nat → Nat} {C : Nat → va_E} {o : Nat} {S : St} (h : Cam G N ad C o S) {d : Nat} (hv : d < 61) : Cam G N ad (va_up C (o + 4) (ob 4 [.ref (ad (o + 5)), .ref (ad (o + 6)), .int (nI d)])) o (mkS (sSh S) (sFac S) (sGq S) (sHw S) (sMp S) (d) (sFn S) (sFl S) (sFr S) (sFi S)) := by
  obtain ⟨hN, ⟨ok1, ok2, ok3, ok4, ok5, ok6, ok7, ok8, ok9⟩, h0, ⟨s1, s2, s3⟩, ⟨e1, e2, e3⟩, h7, h8, ⟨TF, h9⟩, ⟨TD, h14⟩, ⟨TC, h17⟩, hfr, hfi⟩ := h
  exact ⟨hN, ⟨ok1, ok2, ok3, ok4, hv, ok6, ok7, ok8, ok9⟩, (va_un _ _ (by omega)).trans h0, ⟨(va_un _ _ (by omega)).trans s1, (va_un _ _ (by omega)).trans s2, (va_un _ _ (by omega)).trans s3⟩, ⟨va_us _ _ _, (va_un _ _ (by omega)).trans e2, (va_un _ _ (by omega)).trans e3⟩, (va_un _ _ (by omega)).trans h7, (va_un _ _ (by omega)).trans h8, ⟨TF, isFr_up h9 (by omega)⟩, ⟨TD, isPi_up h14 (by omega)⟩, ⟨TC, isPi_up h17 (by omega)⟩, fun i hi => isFr_up (hfr i hi) (by omega), fun i hi => isFi_up (hfi i hi) (by omega)⟩
theorem up_fn {G : iG} {N : Nat} {ad : Nat → Nat} {C : Nat → va_E} {o : Nat} {S : St} (h : Cam G N ad C o S) {n : Nat} (hv : n ≤ 6) : Cam G N ad (va_up C (o) (ob 6 [.ref (ad (o + 1)), .ref (ad (o + 4)), .ref (ad (o + 7)), .ref (ad (o + 8)), .int (nI n), .int (nI (sFl S)), .ref (ad (o + 9)), .ref (ad (o + 14)), .ref (ad (o + 17))])) o (mkS (sSh S) (sFac S) (sGq S) (sHw S) (sMp S) (sDr S) (n) (sFl S) (sFr S) (sFi S)) := by
  obtain ⟨hN, ⟨ok1, ok2, ok3, ok4, ok5, ok6, ok7, ok8, ok9⟩, h0, ⟨s1, s2, s3⟩, ⟨e1, e2, e3⟩, h7, h8, ⟨TF, h9⟩, ⟨TD, h14⟩, ⟨TC, h17⟩, hfr, hfi⟩ := h
  exact ⟨hN, ⟨ok1, ok2, ok3, ok4, ok5, hv, ok7, ok8, ok9⟩, va_us _ _ _, ⟨(va_un _ _ (by omega)).trans s1, (va_un _ _ (by omega)).trans s2, (va_un _ _ (by omega)).trans s3⟩, ⟨(va_un _ _ (by omega)).trans e1, (va_un _ _ (by omega)).trans e2, (va_un _ _ (by omega)).trans e3⟩, (va_un _ _ (by omega)).trans h7, (va_un _ _ (by omega)).trans h8, ⟨TF, isFr_up h9 (by omega)⟩, ⟨TD, isPi_up h14 (by omega)⟩, ⟨TC, isPi_up h17 (by omega)⟩, fun i hi => isFr_up (hfr i hi) (by omega), fun i hi => isFi_up (hfi i hi) (by omega)⟩
theorem up_fl {G : iG} {N : Nat} {ad : Nat → Nat} {C : Nat → va_E} {o : Nat} {S : St} (h : Cam G N ad C o S) {n : Nat} (hv : n ≤ 6) : Cam G N ad (va_up C (o) (ob 6 [.ref (ad (o + 1)), .ref (ad (o + 4)), .ref (ad (o + 7)), .ref (ad (o + 8)), .int (nI (sFn S)), .int (nI n), .ref (ad (o + 9)), .ref (ad (o + 14)), .ref (ad (o + 17))])) o (mkS (sSh S) (sFac S) (sGq S) (sHw S) (sMp S) (sDr S) (sFn S) (n) (sFr S) (sFi S)) := by
  obtain ⟨hN, ⟨ok1, ok2, ok3, ok4, ok5, ok6, ok7, ok8, ok9⟩, h0, ⟨s1, s2, s3⟩, ⟨e1, e2, e3⟩, h7, h8, ⟨TF, h9⟩, ⟨TD, h14⟩, ⟨TC, h17⟩, hfr, hfi⟩ := h
  exact ⟨hN, ⟨ok1, ok2, ok3, ok4, ok5, ok6, hv, ok8, ok9⟩, va_us _ _ _, ⟨(va_un _ _ (by omega)).trans s1, (va_un _ _ (by omega)).trans s2, (va_un _ _ (by omega)).trans s3⟩, ⟨(va_un _ _ (by omega)).trans e1, (va_un _ _ (by omega)).trans e2, (va_un _ _ (by omega)).trans e3⟩, (va_un _ _ (by omega)).trans h7, (va_un _ _ (by omega)).trans h8, ⟨TF, isFr_up h9 (by omega)⟩, ⟨TD, isPi_up h14 (by omega)⟩, ⟨TC, isPi_up h17 (by omega)⟩, fun i hi => isFr_up (hfr i hi) (by omega), fun i hi => isFi_up (hfi i hi) (by omega)⟩
theorem up_fraw {G : iG} {N : Nat} {ad : Nat → Nat} {C : Nat → va_E} {o : Nat} {S : St} (h : Cam G N ad C o S) {k : Nat} (hk : k < 6) {rw : Nat → Nat} (hv : ∀ i, i < 64 → rw i ≤ 255) : Cam G N ad (va_up C (o + 20 + 5 * k + 1) (ia G 64 (fun i => nI (rw i)))) o (mkS (sSh S) (sFac S) (sGq S) (sHw S) (sMp S) (sDr S) (sFn S) (sFl S) (va_up (sFr S) k (rw, (sFr S k).2)) (sFi S)) := by
  obtain ⟨hN, ⟨ok1, ok2, ok3, ok4, ok5, ok6, ok7, ok8, ok9⟩, h0, ⟨s1, s2, s3⟩, ⟨e1, e2, e3⟩, h7, h8, ⟨TF, h9⟩, ⟨TD, h14⟩, ⟨TC, h17⟩, hfr, hfi⟩ := h
  exact ⟨hN, ⟨ok1, ok2, ok3, ok4, ok5, ok6, ok7, fun i hi => by
    by_cases e : i = k
    · subst e
      show okFr (va_up (sFr S) i _ i)
      rw [va_us]
      obtain ⟨b1, b2, b3⟩ := ok8 i hi
      exact ⟨hv, b2, b3⟩
    · show okFr (va_up (sFr S) k _ i)
      rw [va_un _ _ e]
      exact ok8 i hi, ok9⟩, (va_un _ _ (by omega)).trans h0, ⟨(va_un _ _ (by omega)).trans s1, (va_un _ _ (by omega)).trans s2, (va_un _ _ (by omega)).trans s3⟩, ⟨(va_un _ _ (by omega)).trans e1, (va_un _ _ (by omega)).trans e2, (va_un _ _ (by omega)).trans e3⟩, (va_un _ _ (by omega)).trans h7, (va_un _ _ (by omega)).trans h8, ⟨TF, isFr_up h9 (by omega)⟩, ⟨TD, isPi_up h14 (by omega)⟩, ⟨TC, isPi_up h17 (by omega)⟩, fun i hi => by
    by_cases e : i = k
    · subst e
      show isFr G ad _ _ (va_up (sFr S) i _ i)
      rw [va_us]
      obtain ⟨a1, a2, a3, a4, a5⟩ := hfr i hi
      exact ⟨(va_un _ _ (by omega)).trans a1, va_us _ _ _, (va_un _ _ (by omega)).trans a3, (va_un _ _ (by omega)).trans a4, (va_un _ _ (by omega)).trans a5⟩
    · show isFr G ad _ _ (va_up (sFr S) k _ i)
      rw [va_un _ _ e]
      exact isFr_up (hfr i hi) (by omega), fun i hi => isFi_up (hfi i hi) (by omega)⟩
theorem up_fobj {G : iG} {N : Nat} {ad : Nat → Nat} {C : Nat → va_E} {o : Nat} {S : St} (h : Cam G N ad C o S) {k : Nat} (hk : k < 6) (t g q : Int32) : Cam G N ad (va_up C (o + 20 + 5 * k) (ob 1 [.ref (ad (o + 20 + 5 * k + 1)), .ref (ad (o + 20 + 5 * k + 2)), .int t, .int g, .int q])) o (mkS (sSh S) (sFac S) (sGq S) (sHw S) (sMp S) (sDr S) (sFn S) (sFl S) (va_up (sFr S) k ((sFr S k).1, (sFr S k).2.1, t, g, q)) (sFi S)) := by
  obtain ⟨hN, ⟨ok1, ok2, ok3, ok4, ok5, ok6, ok7, ok8, ok9⟩, h0, ⟨s1, s2, s3⟩, ⟨e1, e2, e3⟩, h7, h8, ⟨TF, h9⟩, ⟨TD, h14⟩, ⟨TC, h17⟩, hfr, hfi⟩ := h
  exact ⟨hN, ⟨ok1, ok2, ok3, ok4, ok5, ok6, ok7, fun i hi => by
    by_cases e : i = k
    · subst e
      show okFr (va_up (sFr S) i _ i)
      rw [va_us]
      obtain ⟨b1, b2, b3⟩ := ok8 i hi
      exact ⟨b1, b2, b3⟩
    · show okFr (va_up (sFr S) k _ i)
      rw [va_un _ _ e]
      exact ok8 i hi, ok9⟩, (va_un _ _ (by omega)).trans h0, ⟨(va_un _ _ (by omega)).trans s1, (va_un _ _ (by omega)).trans s2, (va_un _ _ (by omega)).trans s3⟩, ⟨(va_un _ _ (by omega)).trans e1, (va_un _ _ (by omega)).trans e2, (va_un _ _ (by omega)).trans e3⟩, (va_un _ _ (by omega)).trans h7, (va_un _ _ (by omega)).trans h8, ⟨TF, isFr_up h9 (by omega)⟩, ⟨TD, isPi_up h14 (by omega)⟩, ⟨TC, isPi_up h17 (by omega)⟩, fun i hi => by
    by_cases e : i = k
    · subst e
      show isFr G ad _ _ (va_up (sFr S) i _ i)
      rw [va_us]
      obtain ⟨a1, a2, a3, a4, a5⟩ := hfr i hi
      exact ⟨va_us _ _ _, (va_un _ _ (by omega)).trans a2, (va_un _ _ (by omega)).trans a3, (va_un _ _ (by omega)).trans a4, (va_un _ _ (by omega)).trans a5⟩
    · show isFr G ad _ _ (va_up (sFr S) k _ i)
      rw [va_un _ _ e]
      exact isFr_up (hfr i hi) (by omega), fun i hi => isFi_up (hfi i hi) (by omega)⟩
theorem up_fkin {G : iG} {N : Nat} {ad : Nat → Nat} {C : Nat → va_E} {o : Nat} {S : St} (h : Cam G N ad C o S) {k : Nat} (hk : k < 6) {kk : Nat → Nat} (hv : ∀ i, i < (sFr S k).2.1.2.2 → kk i = (sFr S k).2.1.1 i) : Cam G N ad (va_up C (o + 20 + 5 * k + 2 + 1) (ia G 6 (fun i => nI (kk i)))) o (mkS (sSh S) (sFac S) (sGq S) (sHw S) (sMp S) (sDr S) (sFn S) (sFl S) (va_up (sFr S) k ((sFr S k).1, (kk, (sFr S k).2.1.2), (sFr S k).2.2)) (sFi S)) := by
  obtain ⟨hN, ⟨ok1, ok2, ok3, ok4, ok5, ok6, ok7, ok8, ok9⟩, h0, ⟨s1, s2, s3⟩, ⟨e1, e2, e3⟩, h7, h8, ⟨TF, h9⟩, ⟨TD, h14⟩, ⟨TC, h17⟩, hfr, hfi⟩ := h
  exact ⟨hN, ⟨ok1, ok2, ok3, ok4, ok5, ok6, ok7, fun i hi => by
    by_cases e : i = k
    · subst e
      show okFr (va_up (sFr S) i _ i)
      rw [va_us]
      obtain ⟨b1, b2, b3⟩ := ok8 i hi
      exact ⟨b1, b2, fun q hq => by show okE (kk q) _; rw [hv q hq]; exact b3 q hq⟩
    · show okFr (va_up (sFr S) k _ i)
      rw [va_un _ _ e]
      exact ok8 i hi, ok9⟩, (va_un _ _ (by omega)).trans h0, ⟨(va_un _ _ (by omega)).trans s1, (va_un _ _ (by omega)).trans s2, (va_un _ _ (by omega)).trans s3⟩, ⟨(va_un _ _ (by omega)).trans e1, (va_un _ _ (by omega)).trans e2, (va_un _ _ (by omega)).trans e3⟩, (va_un _ _ (by omega)).trans h7, (va_un _ _ (by omega)).trans h8, ⟨TF, isFr_up h9 (by omega)⟩, ⟨TD, isPi_up h14 (by omega)⟩, ⟨TC, isPi_up h17 (by omega)⟩, fun i hi => by
    by_cases e : i = k
    · subst e
      show isFr G ad _ _ (va_up (sFr S) i _ i)
      rw [va_us]
      obtain ⟨a1, a2, a3, a4, a5⟩ := hfr i hi
      exact ⟨(va_un _ _ (by omega)).trans a1, (va_un _ _ (by omega)).trans a2, (va_un _ _ (by omega)).trans a3, va_us _ _ _, (va_un _ _ (by omega)).trans a5⟩
    · show isFr G ad _ _ (va_up (sFr S) k _ i)
      rw [va_un _ _ e]
      exact isFr_up (hfr i hi) (by omega), fun i hi => isFi_up (hfi i hi) (by omega)⟩
theorem up_fnum {G : iG} {N : Nat} {ad : Nat → Nat} {C : Nat → va_E} {o : Nat} {S : St} (h : Cam G N ad C o S) {k : Nat} (hk : k < 6) {nn : Nat → Nat} (hv : ∀ i, i < (sFr S k).2.1.2.2 → nn i = (sFr S k).2.1.2.1 i) : Cam G N ad (va_up C (o + 20 + 5 * k + 2 + 2) (ia G 6 (fun i => nI (nn i)))) o (mkS (sSh S) (sFac S) (sGq S) (sHw S) (sMp S) (sDr S) (sFn S) (sFl S) (va_up (sFr S) k ((sFr S k).1, ((sFr S k).2.1.1, nn, (sFr S k).2.1.2.2), (sFr S k).2.2)) (sFi S)) := by
  obtain ⟨hN, ⟨ok1, ok2, ok3, ok4, ok5, ok6, ok7, ok8, ok9⟩, h0, ⟨s1, s2, s3⟩, ⟨e1, e2, e3⟩, h7, h8, ⟨TF, h9⟩, ⟨TD, h14⟩, ⟨TC, h17⟩, hfr, hfi⟩ := h
  exact ⟨hN, ⟨ok1, ok2, ok3, ok4, ok5, ok6, ok7, fun i hi => by
    by_cases e : i = k
    · subst e
      show okFr (va_up (sFr S) i _ i)
      rw [va_us]
      obtain ⟨b1, b2, b3⟩ := ok8 i hi
      exact ⟨b1, b2, fun q hq => by show okE _ (nn q); rw [hv q hq]; exact b3 q hq⟩
    · show okFr (va_up (sFr S) k _ i)
      rw [va_un _ _ e]
      exact ok8 i hi, ok9⟩, (va_un _ _ (by omega)).trans h0, ⟨(va_un _ _ (by omega)).trans s1, (va_un _ _ (by omega)).trans s2, (va_un _ _ (by omega)).trans s3⟩, ⟨(va_un _ _ (by omega)).trans e1, (va_un _ _ (by omega)).trans e2, (va_un _ _ (by omega)).trans e3⟩, (va_un _ _ (by omega)).trans h7, (va_un _ _ (by omega)).trans h8, ⟨TF, isFr_up h9 (by omega)⟩, ⟨TD, isPi_up h14 (by omega)⟩, ⟨TC, isPi_up h17 (by omega)⟩, fun i hi => by
    by_cases e : i = k
    · subst e
      show isFr G ad _ _ (va_up (sFr S) i _ i)
      rw [va_us]
      obtain ⟨a1, a2, a3, a4, a5⟩ := hfr i hi
      exact ⟨(va_un _ _ (by omega)).trans a1, (va_un _ _ (by omega)).trans a2, (va_un _ _ (by omega)).trans a3, (va_un _ _ (by omega)).trans a4, va_us _ _ _⟩
    · show isFr G ad _ _ (va_up (sFr S) k _ i)
      rw [va_un _ _ e]
      exact isFr_up (hfr i hi) (by omega), fun i hi => isFi_up (hfi i hi) (by omega)⟩
theorem up_flen {G : iG} {N : Nat} {ad : Nat → Nat} {C : Nat → va_E} {o : Nat} {S : St} (h : Cam G N ad C o S) {k : Nat} (hk : k < 6) {n : Nat} (hv : okEr ((sFr S k).2.1.1, (sFr S k).2.1.2.1, n)) : Cam G N ad (va_up C (o + 20 + 5 * k + 2) (ob 0 [.ref (ad (o + 20 + 5 * k + 2 + 1)), .ref (ad (o + 20 + 5 * k + 2 + 2)), .int (nI n)])) o (mkS (sSh S) (sFac S) (sGq S) (sHw S) (sMp S) (sDr S) (sFn S) (sFl S) (va_up (sFr S) k ((sFr S k).1, ((sFr S k).2.1.1, (sFr S k).2.1.2.1, n), (sFr S k).2.2)) (sFi S)) := by
  obtain ⟨hN, ⟨ok1, ok2, ok3, ok4, ok5, ok6, ok7, ok8, ok9⟩, h0, ⟨s1, s2, s3⟩, ⟨e1, e2, e3⟩, h7, h8, ⟨TF, h9⟩, ⟨TD, h14⟩, ⟨TC, h17⟩, hfr, hfi⟩ := h
  exact ⟨hN, ⟨ok1, ok2, ok3, ok4, ok5, ok6, ok7, fun i hi => by
    by_cases e : i = k
    · subst e
      show okFr (va_up (sFr S) i _ i)
      rw [va_us]
      obtain ⟨b1, b2, b3⟩ := ok8 i hi
      exact ⟨b1, hv⟩
    · show okFr (va_up (sFr S) k _ i)
      rw [va_un _ _ e]
      exact ok8 i hi, ok9⟩, (va_un _ _ (by omega)).trans h0, ⟨(va_un _ _ (by omega)).trans s1, (va_un _ _ (by omega)).trans s2, (va_un _ _ (by omega)).trans s3⟩, ⟨(va_un _ _ (by omega)).trans e1, (va_un _ _ (by omega)).trans e2, (va_un _ _ (by omega)).trans e3⟩, (va_un _ _ (by omega)).trans h7, (va_un _ _ (by omega)).trans h8, ⟨TF, isFr_up h9 (by omega)⟩, ⟨TD, isPi_up h14 (by omega)⟩, ⟨TC, isPi_up h17 (by omega)⟩, fun i hi => by
    by_cases e : i = k
    · subst e
      show isFr G ad _ _ (va_up (sFr S) i _ i)
      rw [va_us]
      obtain ⟨a1, a2, a3, a4, a5⟩ := hfr i hi
      exact ⟨(va_un _ _ (by omega)).trans a1, (va_un _ _ (by omega)).trans a2, va_us _ _ _, (va_un _ _ (by omega)).trans a4, (va_un _ _ (by omega)).trans a5⟩
    · show isFr G ad _ _ (va_up (sFr S) k _ i)
      rw [va_un _ _ e]
      exact isFr_up (hfr i hi) (by omega), fun i hi => isFi_up (hfi i hi) (by omega)⟩
theorem up_iobj {G : iG} {N : Nat} {ad : Nat → Nat} {C : Nat → va_E} {o : Nat} {S : St} (h : Cam G N ad C o S) {k : Nat} (hk : k < 6) {f v : Nat} (hv : f < 6) : Cam G N ad (va_up C (o + 50 + 4 * k) (ob 5 [.ref (ad (o + 50 + 4 * k + 1)), .int (nI f), .int (nI v)])) o (mkS (sSh S) (sFac S) (sGq S) (sHw S) (sMp S) (sDr S) (sFn S) (sFl S) (sFr S) (va_up (sFi S) k ((sFi S k).1, f, v))) := by
  obtain ⟨hN, ⟨ok1, ok2, ok3, ok4, ok5, ok6, ok7, ok8, ok9⟩, h0, ⟨s1, s2, s3⟩, ⟨e1, e2, e3⟩, h7, h8, ⟨TF, h9⟩, ⟨TD, h14⟩, ⟨TC, h17⟩, hfr, hfi⟩ := h
  exact ⟨hN, ⟨ok1, ok2, ok3, ok4, ok5, ok6, ok7, ok8, fun i hi => by
    by_cases e : i = k
    · subst e
      show okFi (va_up (sFi S) i _ i)
      rw [va_us]
      obtain ⟨⟨b2, b3⟩, b4⟩ := ok9 i hi
      exact ⟨⟨b2, b3⟩, hv⟩
    · show okFi (va_up (sFi S) k _ i)
      rw [va_un _ _ e]
      exact ok9 i hi⟩, (va_un _ _ (by omega)).trans h0, ⟨(va_un _ _ (by omega)).trans s1, (va_un _ _ (by omega)).trans s2, (va_un _ _ (by omega)).trans s3⟩, ⟨(va_un _ _ (by omega)).trans e1, (va_un _ _ (by omega)).trans e2, (va_un _ _ (by omega)).trans e3⟩, (va_un _ _ (by omega)).trans h7, (va_un _ _ (by omega)).trans h8, ⟨TF, isFr_up h9 (by omega)⟩, ⟨TD, isPi_up h14 (by omega)⟩, ⟨TC, isPi_up h17 (by omega)⟩, fun i hi => isFr_up (hfr i hi) (by omega), fun i hi => by
    by_cases e : i = k
    · subst e
      show isFi G ad _ _ (va_up (sFi S) i _ i)
      rw [va_us]
      obtain ⟨a1, a2, a3, a4⟩ := hfi i hi
      exact ⟨va_us _ _ _, (va_un _ _ (by omega)).trans a2, (va_un _ _ (by omega)).trans a3, (va_un _ _ (by omega)).trans a4⟩
    · show isFi G ad _ _ (va_up (sFi S) k _ i)
      rw [va_un _ _ e]
      exact isFi_up (hfi i hi) (by omega)⟩
theorem up_traw {G : iG} {N : Nat} {ad : Nat → Nat} {C : Nat → va_E} {o : Nat} {S : St} (h : Cam G N ad C o S) (rw : Nat → Nat) : Cam G N ad (va_up C (o + 9 + 1) (ia G 64 (fun i => nI (rw i)))) o (mkS (sSh S) (sFac S) (sGq S) (sHw S) (sMp S) (sDr S) (sFn S) (sFl S) (sFr S) (sFi S)) := by
  obtain ⟨hN, ⟨ok1, ok2, ok3, ok4, ok5, ok6, ok7, ok8, ok9⟩, h0, ⟨s1, s2, s3⟩, ⟨e1, e2, e3⟩, h7, h8, ⟨TF, h9⟩, ⟨TD, h14⟩, ⟨TC, h17⟩, hfr, hfi⟩ := h
  exact ⟨hN, ⟨ok1, ok2, ok3, ok4, ok5, ok6, ok7, ok8, ok9⟩, (va_un _ _ (by omega)).trans h0, ⟨(va_un _ _ (by omega)).trans s1, (va_un _ _ (by omega)).trans s2, (va_un _ _ (by omega)).trans s3⟩, ⟨(va_un _ _ (by omega)).trans e1, (va_un _ _ (by omega)).trans e2, (va_un _ _ (by omega)).trans e3⟩, (va_un _ _ (by omega)).trans h7, (va_un _ _ (by omega)).trans h8, ⟨(rw, TF.2), by obtain ⟨a1, a2, a3, a4, a5⟩ := h9; exact ⟨(va_un _ _ (by omega)).trans a1, va_us _ _ _, (va_un _ _ (by omega)).trans a3, (va_un _ _ (by omega)).trans a4, (va_un _ _ (by omega)).trans a5⟩⟩, ⟨TD, isPi_up h14 (by omega)⟩, ⟨TC, isPi_up h17 (by omega)⟩, fun i hi => isFr_up (hfr i hi) (by omega), fun i hi => isFi_up (hfi i hi) (by omega)⟩
theorem up_tobj {G : iG} {N : Nat} {ad : Nat → Nat} {C : Nat → va_E} {o : Nat} {S : St} (h : Cam G N ad C o S) (t g q : Int32) : Cam G N ad (va_up C (o + 9) (ob 1 [.ref (ad (o + 9 + 1)), .ref (ad (o + 9 + 2)), .int t, .int g, .int q])) o (mkS (sSh S) (sFac S) (sGq S) (sHw S) (sMp S) (sDr S) (sFn S) (sFl S) (sFr S) (sFi S)) := by
  obtain ⟨hN, ⟨ok1, ok2, ok3, ok4, ok5, ok6, ok7, ok8, ok9⟩, h0, ⟨s1, s2, s3⟩, ⟨e1, e2, e3⟩, h7, h8, ⟨TF, h9⟩, ⟨TD, h14⟩, ⟨TC, h17⟩, hfr, hfi⟩ := h
  exact ⟨hN, ⟨ok1, ok2, ok3, ok4, ok5, ok6, ok7, ok8, ok9⟩, (va_un _ _ (by omega)).trans h0, ⟨(va_un _ _ (by omega)).trans s1, (va_un _ _ (by omega)).trans s2, (va_un _ _ (by omega)).trans s3⟩, ⟨(va_un _ _ (by omega)).trans e1, (va_un _ _ (by omega)).trans e2, (va_un _ _ (by omega)).trans e3⟩, (va_un _ _ (by omega)).trans h7, (va_un _ _ (by omega)).trans h8, ⟨(TF.1, TF.2.1, t, g, q), by obtain ⟨a1, a2, a3, a4, a5⟩ := h9; exact ⟨va_us _ _ _, (va_un _ _ (by omega)).trans a2, (va_un _ _ (by omega)).trans a3, (va_un _ _ (by omega)).trans a4, (va_un _ _ (by omega)).trans a5⟩⟩, ⟨TD, isPi_up h14 (by omega)⟩, ⟨TC, isPi_up h17 (by omega)⟩, fun i hi => isFr_up (hfr i hi) (by omega), fun i hi => isFi_up (hfi i hi) (by omega)⟩
theorem up_dnum {G : iG} {N : Nat} {ad : Nat → Nat} {C : Nat → va_E} {o : Nat} {S : St} (h : Cam G N ad C o S) (nu : Nat → UInt32) : Cam G N ad (va_up C (o + 14 + 1) (fa G 192 nu)) o (mkS (sSh S) (sFac S) (sGq S) (sHw S) (sMp S) (sDr S) (sFn S) (sFl S) (sFr S) (sFi S)) := by
  obtain ⟨hN, ⟨ok1, ok2, ok3, ok4, ok5, ok6, ok7, ok8, ok9⟩, h0, ⟨s1, s2, s3⟩, ⟨e1, e2, e3⟩, h7, h8, ⟨TF, h9⟩, ⟨TD, h14⟩, ⟨TC, h17⟩, hfr, hfi⟩ := h
  exact ⟨hN, ⟨ok1, ok2, ok3, ok4, ok5, ok6, ok7, ok8, ok9⟩, (va_un _ _ (by omega)).trans h0, ⟨(va_un _ _ (by omega)).trans s1, (va_un _ _ (by omega)).trans s2, (va_un _ _ (by omega)).trans s3⟩, ⟨(va_un _ _ (by omega)).trans e1, (va_un _ _ (by omega)).trans e2, (va_un _ _ (by omega)).trans e3⟩, (va_un _ _ (by omega)).trans h7, (va_un _ _ (by omega)).trans h8, ⟨TF, isFr_up h9 (by omega)⟩, ⟨(nu, TD.2), by obtain ⟨a1, a2, a3⟩ := h14; exact ⟨(va_un _ _ (by omega)).trans a1, va_us _ _ _, (va_un _ _ (by omega)).trans a3⟩⟩, ⟨TC, isPi_up h17 (by omega)⟩, fun i hi => isFr_up (hfr i hi) (by omega), fun i hi => isFi_up (hfi i hi) (by omega)⟩
theorem up_dmen {G : iG} {N : Nat} {ad : Nat → Nat} {C : Nat → va_E} {o : Nat} {S : St} (h : Cam G N ad C o S) (md : Nat → Nat) : Cam G N ad (va_up C (o + 14 + 2) (ia G 64 (fun i => nI (md i)))) o (mkS (sSh S) (sFac S) (sGq S) (sHw S) (sMp S) (sDr S) (sFn S) (sFl S) (sFr S) (sFi S)) := by
  obtain ⟨hN, ⟨ok1, ok2, ok3, ok4, ok5, ok6, ok7, ok8, ok9⟩, h0, ⟨s1, s2, s3⟩, ⟨e1, e2, e3⟩, h7, h8, ⟨TF, h9⟩, ⟨TD, h14⟩, ⟨TC, h17⟩, hfr, hfi⟩ := h
  exact ⟨hN, ⟨ok1, ok2, ok3, ok4, ok5, ok6, ok7, ok8, ok9⟩, (va_un _ _ (by omega)).trans h0, ⟨(va_un _ _ (by omega)).trans s1, (va_un _ _ (by omega)).trans s2, (va_un _ _ (by omega)).trans s3⟩, ⟨(va_un _ _ (by omega)).trans e1, (va_un _ _ (by omega)).trans e2, (va_un _ _ (by omega)).trans e3⟩, (va_un _ _ (by omega)).trans h7, (va_un _ _ (by omega)).trans h8, ⟨TF, isFr_up h9 (by omega)⟩, ⟨(TD.1, md), by obtain ⟨a1, a2, a3⟩ := h14; exact ⟨(va_un _ _ (by omega)).trans a1, (va_un _ _ (by omega)).trans a2, va_us _ _ _⟩⟩, ⟨TC, isPi_up h17 (by omega)⟩, fun i hi => isFr_up (hfr i hi) (by omega), fun i hi => isFi_up (hfi i hi) (by omega)⟩
theorem up_cnum {G : iG} {N : Nat} {ad : Nat → Nat} {C : Nat → va_E} {o : Nat} {S : St} (h : Cam G N ad C o S) (nu : Nat → UInt32) : Cam G N ad (va_up C (o + 17 + 1) (fa G 192 nu)) o (mkS (sSh S) (sFac S) (sGq S) (sHw S) (sMp S) (sDr S) (sFn S) (sFl S) (sFr S) (sFi S)) := by
  obtain ⟨hN, ⟨ok1, ok2, ok3, ok4, ok5, ok6, ok7, ok8, ok9⟩, h0, ⟨s1, s2, s3⟩, ⟨e1, e2, e3⟩, h7, h8, ⟨TF, h9⟩, ⟨TD, h14⟩, ⟨TC, h17⟩, hfr, hfi⟩ := h
  exact ⟨hN, ⟨ok1, ok2, ok3, ok4, ok5, ok6, ok7, ok8, ok9⟩, (va_un _ _ (by omega)).trans h0, ⟨(va_un _ _ (by omega)).trans s1, (va_un _ _ (by omega)).trans s2, (va_un _ _ (by omega)).trans s3⟩, ⟨(va_un _ _ (by omega)).trans e1, (va_un _ _ (by omega)).trans e2, (va_un _ _ (by omega)).trans e3⟩, (va_un _ _ (by omega)).trans h7, (va_un _ _ (by omega)).trans h8, ⟨TF, isFr_up h9 (by omega)⟩, ⟨TD, isPi_up h14 (by omega)⟩, ⟨(nu, TC.2), by obtain ⟨a1, a2, a3⟩ := h17; exact ⟨(va_un _ _ (by omega)).trans a1, va_us _ _ _, (va_un _ _ (by omega)).trans a3⟩⟩, fun i hi => isFr_up (hfr i hi) (by omega), fun i hi => isFi_up (hfi i hi) (by omega)⟩
theorem up_cmen {G : iG} {N : Nat} {ad : Nat → Nat} {C : Nat → va_E} {o : Nat} {S : St} (h : Cam G N ad C o S) (md : Nat → Nat) : Cam G N ad (va_up C (o + 17 + 2) (ia G 64 (fun i => nI (md i)))) o (mkS (sSh S) (sFac S) (sGq S) (sHw S) (sMp S) (sDr S) (sFn S) (sFl S) (sFr S) (sFi S)) := by
  obtain ⟨hN, ⟨ok1, ok2, ok3, ok4, ok5, ok6, ok7, ok8, ok9⟩, h0, ⟨s1, s2, s3⟩, ⟨e1, e2, e3⟩, h7, h8, ⟨TF, h9⟩, ⟨TD, h14⟩, ⟨TC, h17⟩, hfr, hfi⟩ := h
  exact ⟨hN, ⟨ok1, ok2, ok3, ok4, ok5, ok6, ok7, ok8, ok9⟩, (va_un _ _ (by omega)).trans h0, ⟨(va_un _ _ (by omega)).trans s1, (va_un _ _ (by omega)).trans s2, (va_un _ _ (by omega)).trans s3⟩, ⟨(va_un _ _ (by omega)).trans e1, (va_un _ _ (by omega)).trans e2, (va_un _ _ (by omega)).trans e3⟩, (va_un _ _ (by omega)).trans h7, (va_un _ _ (by omega)).trans h8, ⟨TF, isFr_up h9 (by omega)⟩, ⟨TD, isPi_up h14 (by omega)⟩, ⟨(TC.1, md), by obtain ⟨a1, a2, a3⟩ := h17; exact ⟨(va_un _ _ (by omega)).trans a1, (va_un _ _ (by omega)).trans a2, va_us _ _ _⟩⟩, fun i hi => isFr_up (hfr i hi) (by omega), fun i hi => isFi_up (hfi i hi) (by omega)⟩
abbrev rmX6_needRange : Room := { frames := 0, cells := 0, slots := 0, locals := 0 }
set_option maxHeartbeats 4000000 in
set_option maxRecDepth 100000 in
theorem kX6_needRange (l : Launch) (n1 lo hi : Int32) (h1 : ¬ n1 < lo) (h2 : n1 ≤ hi) : Met l yX6_needRange wsX6_needRange rmX6_needRange (va_Pc [.int n1, .int lo, .int hi] (fun _ => True)) (va_Qv (fun (_ : Unit) => True) (fun _ _ => True) (fun _ => False)) 0 0 (fun _ => False) := by
  refine Met.ofW (cc := cX6_needRange) (maxL := 3) (ret := none) (by decide) rfl ?_
  intro p e s m args below meth c s₁ B hml hv
  obtain ⟨rfl, -⟩ := hv
  have hx := B.exec
  have hb := B.bytes
  have hr := B.returns
  have hts := atoms_spec (ws := wsX6_needRange) B.pre
  have hown : s.vm.findClass RX6 = some m.cls := findClass_of_methodNamed B.named
  have hlocks := B.notSynchronized
  have hS : va_S (fun _ => False) s.heap s.heap [] := va_S.rf
  have hP : va_P (fun _ => 0, fun _ _ => 0) [] [] s.heap := fun k q h => by simp at h
  have hl := lv_entry ([.int n1, .int lo, .int hi]) (n := 3) (Nat.le_of_ble_eq_true rfl)
  rw [lg_entry_eq]
  generalize (lg_sl ([.int n1, .int lo, .int hi]) ++ List.replicate (3 - (lg_sl ([.int n1, .int lo, .int hi])).length) Slot.unset).toArray = ls at hl ⊢
  have hl : lv_has ls 3 [(0, .int n1), (1, .int lo), (2, .int hi)] := hl
  refine lv_iload_n hx hb dX6_needRange_0 rfl (lv_at hl 0 rfl) ?_
  refine lv_iload_n hx hb dX6_needRange_1 rfl (lv_at hl 1 rfl) ?_
  refine lv_icmp_lt (tgt := 10) hx hb dX6_needRange_2 (by decide) (fun c9 => absurd c9 (h1)) (fun _ => ?_)
  refine lv_iload_n hx hb dX6_needRange_5 rfl (lv_at hl 0 rfl) ?_
  refine lv_iload_n hx hb dX6_needRange_6 rfl (lv_at hl 2 rfl) ?_
  refine lv_icmp_le (tgt := 21) hx hb dX6_needRange_7 (by decide) (fun _ => ?_) (fun c9 => absurd (h2) c9)
  exact W.vret hx hb hr (fun t ht hW => ⟨⟨(), rfl, trivial, trivial⟩, hS.F ht⟩) hS.2.2 dX6_needRange_21
abbrev rmX6_needPlace : Room := { frames := 1, cells := 0, slots := 0, locals := 21 }
set_option maxHeartbeats 4000000 in
set_option maxRecDepth 100000 in
theorem kX6_needPlace (l : Launch) (x y : Nat) (hx8 : x < 8) (hy8 : y < 8) : Met l yX6_needPlace wsX6_needPlace rmX6_needPlace (va_Pc [.int (nI x), .int (nI y)] (fun _ => True)) (va_Qv (fun (_ : Unit) => True) (fun _ _ => True) (fun _ => False)) 0 0 (fun _ => False) := by
  refine Met.ofW (cc := cX6_needPlace) (maxL := 2) (ret := none) (by decide) rfl ?_
  intro p e s m args below meth c s₁ B hml hv
  obtain ⟨rfl, -⟩ := hv
  have hx := B.exec
  have hb := B.bytes
  have hr := B.returns
  have hts := atoms_spec (ws := wsX6_needPlace) B.pre
  have hown : s.vm.findClass RX6 = some m.cls := findClass_of_methodNamed B.named
  have hlocks := B.notSynchronized
  have hS : va_S (fun _ => False) s.heap s.heap [] := va_S.rf
  have hP : va_P (fun _ => 0, fun _ _ => 0) [] [] s.heap := fun k q h => by simp at h
  have hl := lv_entry ([.int (nI x), .int (nI y)]) (n := 2) (Nat.le_of_ble_eq_true rfl)
  rw [lg_entry_eq]
  generalize (lg_sl ([.int (nI x), .int (nI y)]) ++ List.replicate (2 - (lg_sl ([.int (nI x), .int (nI y)])).length) Slot.unset).toArray = ls at hl ⊢
  have hl : lv_has ls 2 [(0, .int (nI x)), (1, .int (nI y))] := hl
  refine lv_iload_n hx hb dX6_needPlace_0 rfl (lv_at hl 0 rfl) ?_
  refine lv_iload_n hx hb dX6_needPlace_1 rfl (lv_at hl 1 rfl) ?_
  refine iw_pi (va_runS (As := [.int (nI x), .int (nI y)]) (rest := []) ⟨hx, hb, hml, hown, hts⟩ (kX6_isPlace l (nI x) (nI y)) (va_cwS 2 hts gX6_needPlace_X6_isPlace rfl rfl rfl (by decide +kernel) ⟨Nat.le_of_ble_eq_true rfl, Nat.le_of_ble_eq_true rfl⟩) ⟨fun a U g mk q => q, fun U hU hW => ⟨rfl, trivial⟩⟩ rfl rfl hl.1 rfl (lv_room (Nat.le_of_ble_eq_true rfl)) dX6_needPlace_2 ⟨Nat.le_of_ble_eq_true rfl, Nat.le_of_ble_eq_true rfl⟩) hP hS (fun r8 u8 H locs hw8 hP hS => ?_)
  refine lv_asI hw8 ?_
  refine lv_asI (y := nI 1) (by rw [isPl_in hx8 hy8]; rfl) ?_
  refine lv_if_ne (tgt := 19) hx hb dX6_needPlace_5 (by decide) (fun _ => ?_) (fun c9 => absurd c9 (by decide))
  exact W.vret hx hb hr (fun t ht hW => ⟨⟨(), rfl, trivial, trivial⟩, hS.F ht⟩) hS.2.2 dX6_needPlace_19
abbrev rmX6_needIndex : Room := { frames := 0, cells := 0, slots := 0, locals := 0 }
set_option maxHeartbeats 4000000 in
set_option maxRecDepth 100000 in
theorem kX6_needIndex (l : Launch) (k n : Nat) (hk : k < n) (hn : n < 2 ^ 31) : Met l yX6_needIndex wsX6_needIndex rmX6_needIndex (va_Pc [.int (nI k), .int (nI n)] (fun _ => True)) (va_Qv (fun (_ : Unit) => True) (fun _ _ => True) (fun _ => False)) 0 0 (fun _ => False) := by
  refine Met.ofW (cc := cX6_needIndex) (maxL := 2) (ret := none) (by decide) rfl ?_
  intro p e s m args below meth c s₁ B hml hv
  obtain ⟨rfl, -⟩ := hv
  have hx := B.exec
  have hb := B.bytes
  have hr := B.returns
  have hts := atoms_spec (ws := wsX6_needIndex) B.pre
  have hown : s.vm.findClass RX6 = some m.cls := findClass_of_methodNamed B.named
  have hlocks := B.notSynchronized
  have hS : va_S (fun _ => False) s.heap s.heap [] := va_S.rf
  have hP : va_P (fun _ => 0, fun _ _ => 0) [] [] s.heap := fun k q h => by simp at h
  have hl := lv_entry ([.int (nI k), .int (nI n)]) (n := 2) (Nat.le_of_ble_eq_true rfl)
  rw [lg_entry_eq]
  generalize (lg_sl ([.int (nI k), .int (nI n)]) ++ List.replicate (2 - (lg_sl ([.int (nI k), .int (nI n)])).length) Slot.unset).toArray = ls at hl ⊢
  have hl : lv_has ls 2 [(0, .int (nI k)), (1, .int (nI n))] := hl
  refine lv_iload_n hx hb dX6_needIndex_0 rfl (lv_at hl 0 rfl) ?_
  refine lv_if_lt (tgt := 9) hx hb dX6_needIndex_1 (by decide) (fun c9 => absurd c9 (nI_pos (by omega))) (fun _ => ?_)
  refine lv_iload_n hx hb dX6_needIndex_4 rfl (lv_at hl 0 rfl) ?_
  refine lv_iload_n hx hb dX6_needIndex_5 rfl (lv_at hl 1 rfl) ?_
  refine lv_icmp_lt (tgt := 20) hx hb dX6_needIndex_6 (by decide) (fun _ => ?_) (fun c9 => absurd (nI_lt hk hn) c9)
  exact W.vret hx hb hr (fun t ht hW => ⟨⟨(), rfl, trivial, trivial⟩, hS.F ht⟩) hS.2.2 dX6_needIndex_20
abbrev rmX6_needRoom : Room := { frames := 0, cells := 0, slots := 0, locals := 0 }
set_option maxHeartbeats 4000000 in
set_option maxRecDepth 100000 in
theorem kX6_needRoom (l : Launch) (k n : Nat) (hk : k < n) (hn : n < 2 ^ 31) : Met l yX6_needRoom wsX6_needRoom rmX6_needRoom (va_Pc [.int (nI k), .int (nI n)] (fun _ => True)) (va_Qv (fun (_ : Unit) => True) (fun _ _ => True) (fun _ => False)) 0 0 (fun _ => False) := by
  refine Met.ofW (cc := cX6_needRoom) (maxL := 2) (ret := none) (by decide) rfl ?_
  intro p e s m args below meth c s₁ B hml hv
  obtain ⟨rfl, -⟩ := hv
  have hx := B.exec
  have hb := B.bytes
  have hr := B.returns
  have hts := atoms_spec (ws := wsX6_needRoom) B.pre
  have hown : s.vm.findClass RX6 = some m.cls := findClass_of_methodNamed B.named
  have hlocks := B.notSynchronized
  have hS : va_S (fun _ => False) s.heap s.heap [] := va_S.rf
  have hP : va_P (fun _ => 0, fun _ _ => 0) [] [] s.heap := fun k q h => by simp at h
  have hl := lv_entry ([.int (nI k), .int (nI n)]) (n := 2) (Nat.le_of_ble_eq_true rfl)
  rw [lg_entry_eq]
  generalize (lg_sl ([.int (nI k), .int (nI n)]) ++ List.replicate (2 - (lg_sl ([.int (nI k), .int (nI n)])).length) Slot.unset).toArray = ls at hl ⊢
  have hl : lv_has ls 2 [(0, .int (nI k)), (1, .int (nI n))] := hl
  refine lv_iload_n hx hb dX6_needRoom_0 rfl (lv_at hl 0 rfl) ?_
  refine lv_iload_n hx hb dX6_needRoom_1 rfl (lv_at hl 1 rfl) ?_
  refine lv_icmp_lt (tgt := 16) hx hb dX6_needRoom_2 (by decide) (fun _ => ?_) (fun c9 => absurd (nI_lt hk hn) c9)
  exact W.vret hx hb hr (fun t ht hW => ⟨⟨(), rfl, trivial, trivial⟩, hS.F ht⟩) hS.2.2 dX6_needRoom_16
abbrev rmX6_needExposure : Room := { frames := 1, cells := 0, slots := 0, locals := 22 }
set_option maxHeartbeats 4000000 in
set_option maxRecDepth 100000 in
theorem kX6_needExposure (l : Launch) (t1 g1 : Nat) (ht : 0 < t1 ∧ t1 < 65) (hg : 0 < g1 ∧ g1 < 9) : Met l yX6_needExposure wsX6_needExposure rmX6_needExposure (va_Pc [.int (nI t1), .int (nI g1)] (fun _ => True)) (va_Qv (fun (_ : Unit) => True) (fun _ _ => True) (fun _ => False)) 0 0 (fun _ => False) := by
  refine Met.ofW (cc := cX6_needExposure) (maxL := 2) (ret := none) (by decide) rfl ?_
  intro p e s m args below meth c s₁ B hml hv
  obtain ⟨rfl, -⟩ := hv
  have hx := B.exec
  have hb := B.bytes
  have hr := B.returns
  have hts := atoms_spec (ws := wsX6_needExposure) B.pre
  have hown : s.vm.findClass RX6 = some m.cls := findClass_of_methodNamed B.named
  have hlocks := B.notSynchronized
  have hS : va_S (fun _ => False) s.heap s.heap [] := va_S.rf
  have hP : va_P (fun _ => 0, fun _ _ => 0) [] [] s.heap := fun k q h => by simp at h
  have hl := lv_entry ([.int (nI t1), .int (nI g1)]) (n := 2) (Nat.le_of_ble_eq_true rfl)
  rw [lg_entry_eq]
  generalize (lg_sl ([.int (nI t1), .int (nI g1)]) ++ List.replicate (2 - (lg_sl ([.int (nI t1), .int (nI g1)])).length) Slot.unset).toArray = ls at hl ⊢
  have hl : lv_has ls 2 [(0, .int (nI t1)), (1, .int (nI g1))] := hl
  refine lv_iload_n hx hb dX6_needExposure_0 rfl (lv_at hl 0 rfl) ?_
  refine lv_iconst (v := nI 1) hx hb dX6_needExposure_1 (by decide) ?_
  refine lv_bipush (v := nI 64) hx hb dX6_needExposure_2 (by decide) ?_
  refine iw_pv (va_runS (As := [.int (nI t1), .int (nI 1), .int (nI 64)]) (rest := []) ⟨hx, hb, hml, hown, hts⟩ (kX6_needRange l (nI t1) (nI 1) (nI 64) (nI_nlt (by omega) (by omega)) (nI_le (by omega) (by omega))) (va_cwS 3 hts gX6_needExposure_X6_needRange rfl rfl rfl (by decide +kernel) ⟨Nat.le_of_ble_eq_true rfl, Nat.le_of_ble_eq_true rfl⟩) ⟨fun a U g mk q => q, fun U hU hW => ⟨rfl, trivial⟩⟩ rfl rfl hl.1 rfl (lv_room (Nat.le_of_ble_eq_true rfl)) dX6_needExposure_4 ⟨Nat.le_of_ble_eq_true rfl, Nat.le_of_ble_eq_true rfl⟩) hP hS (fun u8 H locs hw8 hP hS => ?_)
  refine None hw8 ?_
  refine lv_iload_n hx hb dX6_needExposure_7 rfl (lv_at hl 1 rfl) ?_
  refine lv_iconst (v := nI 1) hx hb dX6_needExposure_8 (by decide) ?_
  refine lv_bipush (v := nI 8) hx hb dX6_needExposure_9 (by decide) ?_
  refine iw_pv (va_runS (As := [.int (nI g1), .int (nI 1), .int (nI 8)]) (rest := []) ⟨hx, hb, hml, hown, hts⟩ (kX6_needRange l (nI g1) (nI 1) (nI 8) (nI_nlt (by omega) (by omega)) (nI_le (by omega) (by omega))) (va_cwS 3 hts gX6_needExposure_X6_needRange rfl rfl rfl (by decide +kernel) ⟨Nat.le_of_ble_eq_true rfl, Nat.le_of_ble_eq_true rfl⟩) ⟨fun a U g mk q => q, fun U hU hW => ⟨rfl, trivial⟩⟩ rfl rfl hl.1 rfl (lv_room (Nat.le_of_ble_eq_true rfl)) dX6_needExposure_11 ⟨Nat.le_of_ble_eq_true rfl, Nat.le_of_ble_eq_true rfl⟩) hP hS (fun u8 H locs hw8 hP hS => ?_)
  refine None hw8 ?_
  exact W.vret hx hb hr (fun t ht hW => ⟨⟨(), rfl, trivial, trivial⟩, hS.F ht⟩) hS.2.2 dX6_needExposure_14
end
