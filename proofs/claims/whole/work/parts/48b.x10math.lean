theorem sol_c {T : Nat → Nat} {fin n : Nat} (hn : n ≤ 7) : (solF T fin n ≤ n ∧ solR T fin n = solF T fin n) ∨ (¬ solF T fin n ≤ n ∧ solR T fin n = 4294967295) := by
  unfold solR
  by_cases h : solF T fin n ≤ n
  · exact Or.inl ⟨h, if_pos h⟩
  · exact Or.inr ⟨h, if_neg h⟩
