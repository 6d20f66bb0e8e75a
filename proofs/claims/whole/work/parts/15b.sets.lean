/-! ===== the counting sets in one row of 42 cells ===== -/
def OkC (c : Nat → Nat) : Prop := ∀ s, s < 2 → c (s * 21) ≤ 4 ∧ ∀ l, l < c (s * 21) → c (s * 21 + 1 + l * 5) < 1000 ∧ c (s * 21 + 1 + l * 5 + 1) ≤ 3 ∧ ∀ i, i < c (s * 21 + 1 + l * 5 + 1) → 0 < c (s * 21 + 1 + l * 5 + 2 + i) ∧ c (s * 21 + 1 + l * 5 + 2 + i) < 1000
