/-! ===== the reference: small things ===== -/
theorem popB : ∀ x, x < 32 → fb_sm (fun k => if x.testBit k = true then 1 else 0) 32 = pop x := by decide +kernel
theorem orU_s (f : Nat → Nat) (n : Nat) : orU f (n + 1) = orU f n ||| f n := rfl
/-- what the reference keeps: c changes, old rows, the new one behind -/
def KpO (old now : Nat → Nat) (c : Nat) (kp : Nat → Nat) : Prop :=
  (∀ j k, k < 122 → j + 1 < min (c + 1) 8 → kp (j * 122 + k) = old ((j + (if c = 8 then 1 else 0)) * 122 + k)) ∧ ∀ k, k < 122 → kp ((min (c + 1) 8 - 1) * 122 + k) = now k
theorem kp_a {old now kp : Nat → Nat} {c : Nat} (hc : c = 8) (h1 : ∀ k, k < 854 → kp k = old (k + 122)) (h2 : ∀ k, k < 122 → kp (7 * 122 + k) = now k) : KpO old now c kp := by
  subst hc
  refine ⟨fun j k hk hj => ?_, fun k hk => h2 k hk⟩
  rw [h1 _ (by have : min (8 + 1) 8 = 8 := by decide
               omega), if_pos rfl]
  congr 1; omega
theorem kp_b {old now kp : Nat → Nat} {c : Nat} (hc : c < 8) (h1 : ∀ k, k < c * 122 → kp k = old k) (h2 : ∀ k, k < 122 → kp (c * 122 + k) = now k) : KpO old now c kp := by
  have e : min (c + 1) 8 = c + 1 := by omega
  refine ⟨fun j k hk hj => ?_, fun k hk => by rw [e, Nat.add_sub_cancel]; exact h2 k hk⟩
  rw [e] at hj
  rw [h1 _ (by have : j + 1 ≤ c := by omega
               have := Nat.mul_le_mul_right 122 this; omega), if_neg (by omega)]
  rfl
/-! ===== reading the text ===== -/
/-- one sign: its number, the place behind it, the fault (none: 2^32 - 1) -/
def sgn (w : Nat → Nat) (n at0 fl lo hi : Nat) : Nat × Nat × Nat :=
  if fl < 2147483648 then (0, at0, fl) else if n ≤ at0 ∨ ¬ (lo ≤ w at0 ∧ w at0 ≤ hi) then (0, at0, at0) else (w at0 - lo, at0 + 1, fl)
