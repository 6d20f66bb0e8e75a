/-- the reference's answer of transition and foundAt: the place of rank idx -/
theorem kth_lt {p : Nat → Bool} {idx n : Nat} (h : idx < fb_ct p n) : kth p idx n < n ∧ p (kth p idx n) = true ∧ fb_ct p (kth p idx n) = idx := by
  obtain ⟨i, hi, h1, h2⟩ := fb_ct_kth h
  rw [kth_eq hi h1 h2]
  exact ⟨hi, h1, h2⟩
/-- least counts, as the reference looks for them -/
def mnR (T : Nat → Nat) (fin a b c : Nat) : Prop := rch T a b c &&& fin ≠ 0 ∧ ∀ x y z, x ≤ a → y ≤ b → z ≤ c → x + y + z < a + b + c → ¬ rch T x y z &&& fin ≠ 0
def mnK (T : Nat → Nat) (fin k : Nat) : Prop := k / 100 < 5 ∧ k / 10 % 10 < 5 ∧ k % 10 < 5 ∧ mnR T fin (k / 100) (k / 10 % 10) (k % 10)
/-- the flags of a set of codes -/
def FdO (f : Nat → Nat) (P : Nat → Prop) (n : Nat) : Prop := ∀ k, k < n → (P k ∧ f k = 1) ∨ (¬ P k ∧ f k = 0)
theorem fd_put {f : Nat → Nat} {P : Nat → Prop} {n v : Nat} (h : FdO f P n) (hv : (P n ∧ v = 1) ∨ (¬ P n ∧ v = 0)) : FdO (va_up f n v) P (n + 1) := by
  intro k hk
  unfold va_up
  split
  · rename_i e; rw [e]; exact hv
  · exact h k (by omega)
theorem fd_bit {f : Nat → Nat} {P : Nat → Prop} {n k : Nat} (h : FdO f P n) (hk : k < n) : f k < 2 := by rcases h k hk with z | z <;> omega
abbrev fdB (f : Nat → Nat) : Nat → Bool := fun k => decide (f k ≠ 0)
/-- no lesser counts are reached ahead of (x, y, z) -/
def nLs (T : Nat → Nat) (fin a b c x y z : Nat) : Prop := ∀ x1 y1 z1, x1 ≤ a → y1 ≤ b → z1 ≤ c → (x1 < x ∨ (x1 = x ∧ (y1 < y ∨ (y1 = y ∧ z1 < z)))) → x1 + y1 + z1 < a + b + c → ¬ rch T x1 y1 z1 &&& fin ≠ 0
theorem nl_0 {T : Nat → Nat} {fin a b c : Nat} : nLs T fin a b c 0 0 0 := fun _ _ _ _ _ _ q => absurd q (by omega)
theorem nl_z {T : Nat → Nat} {fin a b c x y z : Nat} (h : nLs T fin a b c x y z) (hp : x + y + z < a + b + c → ¬ rch T x y z &&& fin ≠ 0) : nLs T fin a b c x y (z + 1) := by
  intro x1 y1 z1 h1 h2 h3 q hs
  by_cases e : x1 = x ∧ y1 = y ∧ z1 = z
  · obtain ⟨rfl, rfl, rfl⟩ := e; exact hp hs
  · exact h x1 y1 z1 h1 h2 h3 (by omega) hs
theorem nl_y {T : Nat → Nat} {fin a b c x y z : Nat} (h : nLs T fin a b c x y z) (hz : c < z) : nLs T fin a b c x (y + 1) 0 := fun x1 y1 z1 h1 h2 h3 q => h x1 y1 z1 h1 h2 h3 (by omega)
theorem nl_x {T : Nat → Nat} {fin a b c x y : Nat} (h : nLs T fin a b c x y 0) (hy : b < y) : nLs T fin a b c (x + 1) 0 0 := fun x1 y1 z1 h1 h2 h3 q => h x1 y1 z1 h1 h2 h3 (by omega)
theorem nl_end {T : Nat → Nat} {fin a b c x : Nat} (h : nLs T fin a b c x 0 0) (hx : a < x) : ∀ x1 y1 z1, x1 ≤ a → y1 ≤ b → z1 ≤ c → x1 + y1 + z1 < a + b + c → ¬ rch T x1 y1 z1 &&& fin ≠ 0 := fun x1 y1 z1 h1 h2 h3 => h x1 y1 z1 h1 h2 h3 (by omega)
theorem ct_y {p : Nat → Bool} {k z : Nat} (h : z = fb_ct p k) (hp : p k = true) : z + 1 = fb_ct p (k + 1) := by rw [fb_ct_succ, hp, h]; rfl
theorem ct_n {p : Nat → Bool} {k z : Nat} (h : z = fb_ct p k) (hp : p k = false) : z = fb_ct p (k + 1) := by rw [fb_ct_succ, hp, h]; rfl
theorem ct_l {p : Nat → Bool} {k lf idx : Nat} (h : lf + fb_ct p k = idx) (h0 : 0 < lf) (hp : p k = true) : lf - 1 + fb_ct p (k + 1) = idx := by rw [fb_ct_succ, hp]; simp; omega
theorem ct_m {p : Nat → Bool} {k lf idx : Nat} (h : lf + fb_ct p k = idx) (hp : p k = false) : lf + fb_ct p (k + 1) = idx := by rw [fb_ct_succ, hp]; simpa using h
/-- the numbers of a set of codes, and their sum -/
def smF (f : Nat → Nat) : Nat → Nat := fb_sm (fun k => if f k ≠ 0 then dsum k else 0)
