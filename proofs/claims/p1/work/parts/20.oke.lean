/-- an edit that can be told -/
def okE (k n : Nat) : Prop := k < 6 ∧ n < 65 ∧ (k = 1 ∨ k = 2 → 0 < n ∧ n < 17) ∧ (k = 3 → n < 3)
theorem isPl_in {a b : Nat} (ha : a < 8) (hb : b < 8) : isPl (nI a) (nI b) = true := by
  have h1 : ¬ nI a < 0 := nI_pos (by omega)
  have h2 : ¬ nI b < 0 := nI_pos (by omega)
  have h3 : ¬ nI 8 ≤ nI a := nI_ge ha (by omega)
  have h4 : ¬ nI 8 ≤ nI b := nI_ge hb (by omega)
  simp [isPl, h1, h2, h3, h4]
