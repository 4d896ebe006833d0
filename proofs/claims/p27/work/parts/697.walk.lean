set_option maxHeartbeats 4000000 in
theorem law_walk27 {p : Program} {l : Launch} {e : Env} {s : State} {m : MethodId} {below : List Frame} {meth : Method} {c : Code} {b L : Nat} {xs : Nat → Int32} (hx : p.tables.exec = Jvm.exec) (hb : c.code = cL_law) (hml : c.maxLocals = 16) (hr : meth.sig.returnType = ret) (hlocks : meth.locks = false) (hts : ∀ w ∈ wsL_law, w.before #[Value.ref b] s = true) (hown : s.vm.findClass RL = some m.cls) {G : iG} (hK : KB G s) (hV : VX s) (hX : XS b L xs 0 (fun _ => 0) s s.heap) (hbA : ¬ aA s b) : W p l e room_1 s m #[Value.ref b] below meth c s.heap [] 0 0 (lw_Z below #[Value.ref b] s) (entryFrame m ([Value.ref b] : List Value).toArray 16) := by
  have hr2 : meth.sig.returnType = (some .boolean) := hr
  have hS : va_S (aA s) s.heap s.heap [] := va_S.rf
  have hl := lv_entry ([.ref b]) (n := 16) (Nat.le_of_ble_eq_true rfl)
  rw [lg_entry_eq]
  generalize (lg_sl ([.ref b]) ++ List.replicate (16 - (lg_sl ([.ref b])).length) Slot.unset).toArray = ls at hl ⊢
  have hl : lv_has ls 16 [(0, .ref b)] := hl
  have hr0 : room_1.cells = 600086 := rfl
  have hr1 : room_1.slots = 7301442 := rfl
  refine lv_iconst (v := nI 0) hx hb dL_law_0 (by decide) ?_
  refine lv_istore_n (lv' := [(1, .int (nI 0)), (0, .ref b)]) hx hb dL_law_1 rfl hl (by decide) rfl (fun ls hl => ?_)
  refine lv_iload_n hx hb dL_law_2 rfl (lv_at hl 0 rfl) ?_
  refine lv_iconst (v := nI 3) hx hb dL_law_3 (by decide) ?_
  refine lv_icmp_ge (tgt := 697) hx hb dL_law_4 (by decide) (fun c9 => absurd c9 (by decide)) (fun _ => ?_)
  refine law_round hx hb hml hr2 hts hown hK hV hX hbA (by omega) (by omega) (tm := 0) (by decide) hS hl (fun H locs ls hS hl => ?_)
  refine lv_iload_n hx hb dL_law_2 rfl (lv_at hl 0 rfl) ?_
  refine lv_iconst (v := nI 3) hx hb dL_law_3 (by decide) ?_
  refine lv_icmp_ge (tgt := 697) hx hb dL_law_4 (by decide) (fun c9 => absurd c9 (by decide)) (fun _ => ?_)
  refine law_round hx hb hml hr2 hts hown hK hV hX hbA (by omega) (by omega) (tm := 1) (by decide) hS hl (fun H locs ls hS hl => ?_)
  refine lv_iload_n hx hb dL_law_2 rfl (lv_at hl 0 rfl) ?_
  refine lv_iconst (v := nI 3) hx hb dL_law_3 (by decide) ?_
  refine lv_icmp_ge (tgt := 697) hx hb dL_law_4 (by decide) (fun c9 => absurd c9 (by decide)) (fun _ => ?_)
  refine law_round hx hb hml hr2 hts hown hK hV hX hbA (by omega) (by omega) (tm := 2) (by decide) hS hl (fun H locs ls hS hl => ?_)
  refine lv_iload_n hx hb dL_law_2 rfl (lv_at hl 0 rfl) ?_
  refine lv_iconst (v := nI 3) hx hb dL_law_3 (by decide) ?_
  refine lv_icmp_ge (tgt := 697) hx hb dL_law_4 (by decide) (fun _ => ?_) (fun c9 => absurd (by decide) c9)
  refine lv_iconst (v := 1) hx hb dL_law_697 (by decide) ?_
  refine va_forget (fun q hq => hS.2.2 q hq) ?_
  refine W.widen (k := 600086) (n := 7301442) (Nat.le_of_ble_eq_true rfl) (Nat.le_of_ble_eq_true rfl) ?_
  exact lw_ret (Drawn.sameBut.refl s.drawn lw_cs) hx hb hr hlocks dL_law_698
