/-- an edit that can be told -/
def okE (k n : Nat) : Prop := k < 6 ∧ n < 65 ∧ (k = 1 ∨ k = 2 → 0 < n ∧ n < 17) ∧ (k = 3 → n < 3)
