theorem sb1 {n x : Nat} (hn : n ≤ 8) : (0 ≤ x ∧ x ≤ sb n 1 ∧ sb n 1 < 2147483648) ↔ x < n := by unfold sb; split <;> omega
