/-! THE LAW'S WALK -/
abbrev aA (s : State) : Nat → Prop := fun q : Nat => s.heap.size ≤ q
section IWL
variable {p : Program} {l : Launch} {e : Env} {R : Room} {s : State} {m : MethodId} {args : Array Value} {below : List Frame} {meth : Method} {c : Code} {H : Heap} {locs : List Loc} {cells slots : Nat} {Q : State → Prop}
variable {pc : Nat} {ls : Array Slot} {rest st0 : List Value} {G : iG} {N : Nat} {ad : Nat → Nat} {C : Nat → va_E}
theorem lv_lcmpE {cc : ByteArray} (hexec : p.tables.exec = Jvm.exec) (hb : c.code = cc) {x : Int64} (hdg : decode cc pc = .ok (.lcmp, 1))
    (k : W p l e R s m args below meth c H locs cells slots Q (F0 m (pc + 1) ls (.int 0 :: rest))) : W p l e R s m args below meth c H locs cells slots Q (F0 m pc ls (.long x :: .long x :: rest)) := by
  intro T hT X
  obtain ⟨t, a, b⟩ := k T hT X
  refine ⟨t, ?_, b⟩
  have hdg : decode c.code pc = .ok (.lcmp, 1) := by rw [hb]; exact hdg
  exact X.lcmpEq hexec hdg _ a
end IWL
/-- a camera that has been painted and lit, and no more -/
def FR00 : Nat → Fr := fun _ => (fun _ => 0, (fun _ => 0, fun _ => 0, 0), nI 0, nI 0, nI 0)
def FI00 : Nat → Fi := fun _ => ((fun _ => 0, fun _ => 0, 0), 0, 0)
abbrev SL (sh : Nat → Nat) (fac : Nat → UInt32) (gq : Nat) : St := mkS sh fac gq (fun _ => 0) (fun _ => false) 0 0 0 FR00 FI00
def LFac (a b c : Nat) : Nat → UInt32 := vf_upd (vf_upd (vf_upd (fun _ => 0) 0 (quF a)) 1 (quF b)) 2 (quF c)
/-- the scene and the lamp, by their numbers -/
def F1 (sh sn : Nat → Nat) (fac : Nat → UInt32) (l1 l2 l3 : Nat) : Prop := SnI sh sn ∧ ((0 < l1 ∧ l1 < 17) ∧ (0 < l2 ∧ l2 < 17) ∧ 0 < l3 ∧ l3 < 17) ∧ ∀ k, k < 3 → fac k = LFac l1 l2 l3 k
/-- the reckoner and its camera before the first frame -/
def W1 (G : iG) (N B : Nat) (ad : Nat → Nat) (C : Nat → va_E) (b d : Nat) (S : St) (sn : Nat → Nat) (l1 l2 l3 : Nat) : Prop :=
  Cam G N ad C 1 S ∧ isTs G ad C B sn ∧ C 0 = ob 7 [.ref (ad 1), .ref b, .int (nI d), .ref (ad 75), .ref (ad 140), .ref (ad 141), .ref (ad 142), .int (nI 0), .ref (ad 143), .ref (ad 144), .ref (ad 145), .ref (ad 146)] ∧
  (∃ fl : Nat → Int32, C 140 = ia G 3 fl ∧ ∀ i, i < 3 → fl i = nI (rw3 l1 l2 l3 i)) ∧ C 141 = ia G 64 (fun _ => nI 0) ∧ (∃ F : Nat → Option Nat, C 143 = ra G 5 0 F) ∧ (∃ F : Nat → Option Nat, C 144 = ra G 5 0 F) ∧ (∃ F : Nat → Option Nat, C 145 = ra G 5 0 F) ∧ ∃ F : Nat → Option Nat, C 146 = ra G 5 0 F
def rwk (a b : Nat) (k : Nat) : Nat := if k = 0 then a else b
/-- the two shots: the best one, and another -/
def F2 (S : St) (v : Nat) (tk gk : Nat → Nat) : Prop := (∀ k, k < 2 → (0 < tk k ∧ tk k < 65) ∧ 0 < gk k ∧ gk k < 9) ∧ bkN S v (tk 0) (gk 0) ≤ bkN S v (tk 1) (gk 1) ∧ (bkN S v (tk 1) (gk 1) = bkN S v (tk 0) (gk 0) → gk 0 ≤ gk 1 ∧ (gk 0 = gk 1 → tk 0 ≤ tk 1))
theorem F2_mk {S : St} {v q0 p0 q1 p1 : Nat} (h0 : q0 < 7) (h1 : p0 < 8) (h2 : q1 < 7) (h3 : p1 < 8) (h : bkN S v (2 ^ q0) (p0 + 1) ≤ bkN S v (2 ^ q1) (p1 + 1) ∧ (bkN S v (2 ^ q1) (p1 + 1) = bkN S v (2 ^ q0) (p0 + 1) → p0 ≤ p1 ∧ (p0 = p1 → q0 ≤ q1))) : F2 S v (rwk (2 ^ q0) (2 ^ q1)) (rwk (p0 + 1) (1 + p1)) := by
  rw [Nat.add_comm 1 p1]
  refine ⟨fun k hk => ?_, h.1, fun e => ?_⟩
  · rcases (show k = 0 ∨ k = 1 by omega) with rfl | rfl
    · exact ⟨p2_64 h0, (show 0 < p0 + 1 by omega), (show p0 + 1 < 9 by omega)⟩
    · exact ⟨p2_64 h2, (show 0 < p1 + 1 by omega), (show p1 + 1 < 9 by omega)⟩
  · have q := h.2 e
    exact ⟨(show p0 + 1 ≤ p1 + 1 by omega), fun e2 => p2_mono (q.2 (by have e3 : p0 + 1 = p1 + 1 := e2; omega))⟩
theorem upd_id (f : Nat → Int32) (k : Nat) {v : Int32} (h : f k = v) : upd f k v = f := by
  funext i
  by_cases e : i = k
  · subst e; simp [upd, h]
  · simp [upd, e]
theorem upd_two (f : Nat → Int32) (k : Nat) (v w : Int32) : upd (upd f k v) k w = upd f k w := by
  funext i
  by_cases e : i = k <;> simp [upd, e]
/-- the same camera with one frame, that has n edits, and one file -/
abbrev SB (sh : Nat → Nat) (fac : Nat → UInt32) (gq : Nat) (rw e1 e2 : Nat → Nat) (n : Nat) (z : Int32 × Int32 × Int32) : St := mkS sh fac gq (fun _ => 0) (fun _ => false) (drN 0 64) 1 0 (va_up FR00 0 (rw, (e1, e2, n), z)) FI00
abbrev SC (sh : Nat → Nat) (fac : Nat → UInt32) (gq : Nat) (rw e1 e2 : Nat → Nat) (n : Nat) (z : Int32 × Int32 × Int32) (fi : Nat → Fi) : St := mkS sh fac gq (fun _ => 0) (fun _ => false) (drN 0 64) 1 1 (va_up FR00 0 (rw, (e1, e2, n), z)) fi
theorem min16 {n : Nat} (h : n < 2 ^ 31) : (if nI n < nI 16 then nI n else nI 16) = nI (min 16 n) := by
  by_cases q : n < 16
  · rw [if_pos ((nI_ltI h (by decide)).mpr q), Nat.min_eq_right (by omega)]
  · rw [if_neg (fun c9 => q ((nI_ltI h (by decide)).mp c9)), Nat.min_eq_left (by omega)]
def rwt (a b c : Nat) (k : Nat) : Nat := if k = 0 then a else if k = 1 then b else c
abbrev coN (rw e1 e2 : Nat → Nat) (n : Nat) : Nat → UInt32 := coF rw (fun _ => false) (e1, e2, n)
/-- three numbers of white: the best, another, the next -/
def F3 (nu : Nat → UInt32) (cc : Nat) (nk : Nat → Nat) : Prop := (∀ k, k < 3 → 0 < nk k ∧ nk k < 17) ∧ ∀ k, k < 3 → (bwO nu cc (nk 0)).toInt ≤ (bwO nu cc (nk k)).toInt ∧ ((bwO nu cc (nk k)).toInt = (bwO nu cc (nk 0)).toInt → nk 0 ≤ nk k)
