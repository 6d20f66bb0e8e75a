theorem rR_at {T : Nat → Nat} {fin a b c : Nat} (hb : b < 10) (hc : c < 10) : rR T fin (100 * a + 10 * b + c) ↔ rch T a b c &&& fin ≠ 0 := by
  unfold rR; rw [show (100 * a + 10 * b + c) / 100 = a by omega, show (100 * a + 10 * b + c) / 10 % 10 = b by omega, show (100 * a + 10 * b + c) % 10 = c by omega]
theorem dsum_at {a b c : Nat} (hb : b < 10) (hc : c < 10) : dsum (100 * a + 10 * b + c) = a + b + c := by unfold dsum; omega
theorem ds_big {a b x z : Nat} (h : 4 < a + b) (h1 : 100 * a + 10 * b ≤ z) (h2 : z < 100 * (a + 1)) (hb : b < 10) : 4 < dsum z := by
  unfold dsum
  have : z / 100 = a := by omega
  have : b ≤ z / 10 % 10 := by omega
  omega
theorem ds_big2 {a b c z : Nat} (h : 4 < a + b + c) (h1 : 100 * a + 10 * b + c ≤ z) (h2 : z < 100 * a + 10 * (b + 1)) (hb : b < 10) : 4 < dsum z := by
  unfold dsum
  have : z / 100 = a := by omega
  have : z / 10 % 10 = b := by omega
  omega
theorem df_1 {A : Prop} [Decidable A] {X v b : Nat} (hb : b < 2) (h1 : (if A then 1 else 0) = b) (hv : v = if X ≠ 0 then 1 else 0) (h2 : v ≠ b) : (A ↔ b = 1) ∧ ¬ (X ≠ 0 ↔ b = 1) := by
  by_cases hA : A
  · rw [if_pos hA] at h1
    by_cases hX : X ≠ 0
    · rw [if_pos hX] at hv; omega
    · exact ⟨⟨fun _ => h1.symm, fun _ => hA⟩, fun q => hX (q.mpr h1.symm)⟩
  · rw [if_neg hA] at h1
    by_cases hX : X ≠ 0
    · exact ⟨⟨fun q => absurd q hA, fun q => by omega⟩, fun q => by have := q.mp hX; omega⟩
    · rw [if_neg hX] at hv; omega
theorem df_a {A B : Prop} [Decidable A] {b : Nat} (hb : b < 2) (h1 : (if A then 1 else 0) ≠ b) : ¬ ((A ↔ b = 1) ∧ B) := by
  rintro ⟨q, _⟩
  by_cases hA : A
  · rw [if_pos hA] at h1; exact h1 (q.mp hA).symm
  · rw [if_neg hA] at h1; exact hA (q.mpr (by omega))
theorem df_b {B : Prop} {X v b : Nat} (hb : b < 2) (hv : v = if X ≠ 0 then 1 else 0) (h2 : v = b) : ¬ (B ∧ ¬ (X ≠ 0 ↔ b = 1)) := by
  rintro ⟨_, q⟩
  apply q
  by_cases hX : X ≠ 0
  · rw [if_pos hX] at hv; exact ⟨fun _ => by omega, fun _ => hX⟩
  · rw [if_neg hX] at hv; exact ⟨fun z => absurd z hX, fun z => by omega⟩
theorem sm_y {f : Nat → Nat} {S b v : Nat} (h : f b = v) : S + fb_sm f b + v = S + fb_sm f (b + 1) := by rw [Nat.add_assoc, ← h]; rfl
theorem sm_n {f : Nat → Nat} {S b : Nat} (h : f b = 0) : S + fb_sm f b = S + fb_sm f (b + 1) := by
  show _ = S + (fb_sm f b + f b)
  rw [h]; rfl
theorem fb_sm_bd {f : Nat → Nat} {m : Nat} : ∀ n, (∀ k, k < n → f k ≤ m) → fb_sm f n ≤ n * m
  | 0, _ => by simp [fb_sm]
  | n + 1, h => by
    have h1 := fb_sm_bd (f := f) (m := m) n (fun k hk => h k (by omega))
    have h2 := h n (by omega)
    show fb_sm f n + f n ≤ _
    rw [Nat.succ_mul]; omega
theorem dpI_bd (T : Nat → Nat) : ∀ i z, dpI T i z ≤ 96 ^ i
  | 0, z => by rw [dpI]; split <;> decide
  | i + 1, z => by
    rw [dpI]
    refine Nat.le_trans (fb_sm_bd (m := 3 * 96 ^ i) 32 (fun m _ => ?_)) (by rw [Nat.pow_succ]; omega)
    refine Nat.le_trans (fb_sm_bd (m := 96 ^ i) 3 (fun l _ => ?_)) (Nat.le_refl _)
    split
    · exact dpI_bd T i m
    · exact Nat.zero_le _
theorem ciO_lt (T : Nat → Nat) (fin : Nat) {n : Nat} (hn : n ≤ 8) : ciO T fin n < 2 ^ 63 := by
  unfold ciO
  refine Nat.lt_of_le_of_lt (fb_sm_bd (m := 96 ^ 8) 32 (fun m _ => ?_)) (by decide)
  split
  · exact Nat.le_trans (dpI_bd T n m) (Nat.pow_le_pow_right (by decide) hn)
  · exact Nat.zero_le _
theorem cjT_lt (f : Nat → Nat) (fin : Nat) {n : Nat} (hn : n ≤ 8) : cjT f fin n < 2 ^ 63 := by
  unfold cjT
  refine Nat.lt_of_le_of_lt (fb_sm_bd (m := 9 * 10000000000000000) (n + 1) (fun a ha => ?_)) (Nat.lt_of_le_of_lt (Nat.mul_le_mul_right _ (show n + 1 ≤ 9 by omega)) (by decide))
  refine Nat.le_trans (fb_sm_bd (m := 10000000000000000) (n - a + 1) (fun b hb => ?_)) (Nat.mul_le_mul_right _ (by omega))
  split
  · have h1 := chF_lt (a := n) (s := a) (i := a) hn (by omega) (by omega)
    have h2 := chF_lt (a := b + (n - a - b)) (s := b) (i := b) (by omega) (by omega) (by omega)
    exact Nat.mul_le_mul (Nat.le_of_lt h1) (Nat.le_of_lt h2)
  · exact Nat.zero_le _
def solR (T : Nat → Nat) (fin n : Nat) : Nat := if solF T fin n ≤ n then solF T fin n else 4294967295
theorem sol_hit {T : Nat → Nat} {fin n k : Nat} (hk : k ≤ n) (h : cjR T fin k ≠ ciO T fin k) (h2 : ∀ z, z < k → cjR T fin z = ciO T fin z) : k = solR T fin n := by
  have e : solF T fin n = k := first_eq (by omega) (by simpa using h) (fun z hz => by simpa using h2 z hz)
  unfold solR; rw [e, if_pos hk]
theorem sol_no {T : Nat → Nat} {fin n : Nat} (h2 : ∀ z, z < n + 1 → cjR T fin z = ciO T fin z) : 4294967295 = solR T fin n := by
  unfold solR
  rw [if_neg]
  intro q
  have := fa_first_yes (fun k => !(cjR T fin k == ciO T fin k)) (n + 1) (by unfold solF at q; omega)
  have h3 := h2 (solF T fin n) (by omega)
  unfold solF at h3
  rw [h3] at this
  simp at this
