def σ0 : SS := (fun k => if k = 2 then 4294967295 else if k = 5 then 63 else if k = 12 then 1 else 0, fun _ _ => 0, fun _ _ => 0)
def adF (qs : List Nat) (q7 : Nat) : Nat → Nat := fun k => if 8 ≤ k ∧ k < 16 then q7 + 1 + (k - 8) else qs.getD k 0
theorem adF_7 (qs : List Nat) (q7 : Nat) : (fun i => if i < 8 then some (q7 + 1 + i) else none) = (fun i => if i < 8 then some (adF qs q7 (8 + i)) else none) := by
  funext i
  by_cases h : i < 8
  · rw [if_pos h, if_pos h, adF, if_pos (by omega), show 8 + i - 8 = i by omega]
  · rw [if_neg h, if_neg h]
