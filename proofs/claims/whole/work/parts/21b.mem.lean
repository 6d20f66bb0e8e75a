/-! ===== what is remembered ===== -/
/-- a row behind 'write': what the automaton and the counting sets are -/
def snp (σ : SS) (old : Nat → Nat) : Nat → Nat := va_cpy (σ.2.1 2) (va_up (va_cpy (σ.2.1 0) old 0 0 15) 15 (σ.1 0)) 0 16 42
def OkM (σ : SS) : Prop := σ.1 9 < 8 ∧ σ.1 10 ≤ 8 ∧ σ.1 11 < 2
theorem and7 {k : Nat} (h : k < 8) : k &&& 7 = k := Nat.and_two_pow_sub_one_of_lt_two_pow (n := 3) h
theorem and7m (k : Nat) : k &&& 7 = k % 8 := Nat.and_two_pow_sub_one_eq_mod k 3
