theorem pop5 : ∀ x, x < 32 → pop x = fb_ct (fun k => x.testBit k) 5 := by decide +kernel
theorem cntT_n {T : Nat → Nat} (h : OkT T) : ∀ n, n ≤ 15 → fb_sm (fun k => pop (T k)) n = fb_ct (pT T) (5 * n)
  | 0, _ => rfl
  | n + 1, hn => by
    have ih := cntT_n h n (by omega)
    show fb_sm (fun k => pop (T k)) n + pop (T n) = _
    rw [ih, show 5 * (n + 1) = 5 * n + 5 by omega, fb_ct_split, pop5 _ (h n (by omega))]
    congr 1
    apply fb_ct_cong
    intro k hk
    unfold pT
    rw [show (5 * n + k) / 5 = n by omega, show (5 * n + k) % 5 = k by omega]
theorem cntT_ct {T : Nat → Nat} (h : OkT T) : cntT T = fb_ct (pT T) 75 := cntT_n h 15 (by decide)
theorem cntT_le {T : Nat → Nat} (h : OkT T) : cntT T ≤ 75 := by rw [cntT_ct h]; exact fb_ct_le _ _
theorem okT_up {T : Nat → Nat} {k v : Nat} (h : OkT T) (hv : v < 32) : OkT (va_up T k v) := by
  intro i hi
  unfold va_up
  split
  · exact hv
  · exact h i hi
theorem okT_put {T : Nat → Nat} {k z : Nat} (h : OkT T) (hk : k < 15) (hz : z < 5) : OkT (va_up T k (T k ||| 2 ^ z)) := okT_up h (or32 (h k hk) ((by decide : ∀ k, k < 5 → 2 ^ k < 32) z hz))
theorem okT_drop {T : Nat → Nat} {k z : Nat} (h : OkT T) (hk : k < 15) : OkT (va_up T k (T k &&& z)) := okT_up h (and_ltl (h k hk))
theorem okT_or {T f f2 : Nat → Nat} (h : OkT T) (h2 : ∀ k, k < 15 → f k < 32) (h3 : ∀ k, k < 15 → f2 k = T k ||| f k) : OkT f2 := fun k hk => by rw [h3 k hk]; exact or32 (h k hk) (h2 k hk)
theorem okT_cpy {T f : Nat → Nat} (h : ∀ k, k < 15 → f k < 32) : OkT (va_cpy f T 0 0 15) := fun k hk => by rw [cpy0 k hk]; exact h k hk
theorem sm_or_le {T f : Nat → Nat} (h : OkT T) (h2 : ∀ k, k < 15 → f k < 32) : fb_sm (fun k => pop (T k ||| f k)) 15 ≤ 75 := by
  refine Nat.le_trans (fb_sm_bd (m := 5) 15 (fun k hk => pop_le _ (or32 (h k hk) (h2 k hk)))) (by decide)
/-- the answer of accepts -/
abbrev acP (T w : Nat → Nat) (fin n md : Nat) : Prop := (md = 0 ∧ wrun T w n &&& fin ≠ 0) ∨ (md = 1 ∧ wrc T w fin n) ∨ (md = 2 ∧ (readO T w n).2.1.length = 0 ∧ (readO T w n).1 &&& fin ≠ 0)
/-- members of a counting set -/
def mbS (c : Nat → Nat) (s x y z : Nat) : Prop := ∃ l, l < c (s * 21) ∧ mem1 c s l x y z
theorem mb_bits {c f : Nat → Nat} {s ta tb tc x y z : Nat} (h : Mbr c f s ta tb tc (c (s * 21))) (hx : x ≤ ta) (hy : y ≤ tb) (hz : z ≤ tc) : f (100 * x + 10 * y + z) ≠ 0 ↔ mbS c s x y z := by
  constructor
  · intro q
    rcases Classical.em (∃ i, (f (100 * x + 10 * y + z)).testBit i = true) with ⟨i, hi⟩ | r
    · obtain ⟨h1, h2⟩ := (h x y z hx hy hz i).mp hi
      exact ⟨i, h1, h2⟩
    · exfalso
      apply q
      apply Nat.eq_of_testBit_eq
      intro i
      rw [Nat.zero_testBit]
      rcases Bool.eq_false_or_eq_true ((f (100 * x + 10 * y + z)).testBit i) with w | w
      · exact absurd ⟨i, w⟩ r
      · exact w
  · rintro ⟨l, h1, h2⟩ q
    have := (h x y z hx hy hz l).mpr ⟨h1, h2⟩
    rw [q, Nat.zero_testBit] at this
    cases this
theorem mb_16 {c f : Nat → Nat} {s ta tb tc x y z : Nat} (h : Mbr c f s ta tb tc (c (s * 21))) (h4 : c (s * 21) ≤ 4) (hx : x ≤ ta) (hy : y ≤ tb) (hz : z ≤ tc) : f (100 * x + 10 * y + z) < 16 := by
  apply Nat.lt_pow_two_of_testBit (n := 4)
  intro i hi
  rcases Bool.eq_false_or_eq_true ((f (100 * x + 10 * y + z)).testBit i) with w | w
  · have := ((h x y z hx hy hz i).mp w).1; omega
  · exact w
theorem mb_and {c f : Nat → Nat} {s ta tb tc x y z : Nat} (h : Mbr c f s ta tb tc (c (s * 21))) (h4 : c (s * 21) ≤ 4) (hx : x ≤ ta) (hy : y ≤ tb) (hz : z ≤ tc) : f (100 * x + 10 * y + z) &&& 15 ≠ 0 ↔ mbS c s x y z := by
  rw [← mb_bits h hx hy hz, show f (100 * x + 10 * y + z) &&& 15 = f (100 * x + 10 * y + z) from Nat.and_two_pow_sub_one_of_lt_two_pow (n := 4) (mb_16 h h4 hx hy hz)]
/-- reached and no member, or the other way round -/
def dfS (T : Nat → Nat) (fin : Nat) (c : Nat → Nat) (s wr x y z : Nat) : Prop := (rch T x y z &&& fin ≠ 0 ↔ wr = 1) ∧ ¬ (mbS c s x y z ↔ wr = 1)
theorem df_S {T c f15 f16 : Nat → Nat} {fin s bd wr x y z : Nat} (h1 : ∀ a b c, a ≤ bd → b ≤ bd → c ≤ bd → f15 (100 * a + 10 * b + c) = rch T a b c) (h2 : Mbr c f16 s bd bd bd (c (s * 21))) (hx : x ≤ bd) (hy : y ≤ bd) (hz : z ≤ bd) :
    dfP f15 f16 fin wr (100 * x + 10 * y + z) ↔ dfS T fin c s wr x y z := by
  unfold dfP dfS
  rw [h1 x y z hx hy hz, mb_bits h2 hx hy hz]
/-- no place of the order ahead of (sum, a, b) -/
def nDf (P : Nat → Nat → Nat → Prop) (bd s a b : Nat) : Prop := ∀ x y z, x ≤ bd → y ≤ bd → z ≤ bd → (x + y + z < s ∨ (x + y + z = s ∧ (x < a ∨ (x = a ∧ y < b)))) → ¬ P x y z
/-- the first one of the order -/
def isDf (P : Nat → Nat → Nat → Prop) (bd r : Nat) : Prop := ∃ x y z, x ≤ bd ∧ y ≤ bd ∧ z ≤ bd ∧ P x y z ∧ r = 100 * x + 10 * y + z ∧ nDf P bd (x + y + z) x y
theorem nd_b {P : Nat → Nat → Nat → Prop} {bd s a b : Nat} (h : nDf P bd s a b) (hp : a + b ≤ s → s - a - b ≤ bd → ¬ P a b (s - a - b)) : nDf P bd s a (b + 1) := by
  intro x y z hx hy hz q
  by_cases e : x + y + z = s ∧ x = a ∧ y = b
  · obtain ⟨e1, rfl, rfl⟩ := e
    have := hp (by omega) (by omega)
    rw [show s - x - y = z by omega] at this
    exact this
  · exact h x y z hx hy hz (by omega)
theorem nd_a {P : Nat → Nat → Nat → Prop} {bd s a b : Nat} (h : nDf P bd s a b) (hb : bd < b ∨ s < a + b) : nDf P bd s (a + 1) 0 := fun x y z hx hy hz q => h x y z hx hy hz (by omega)
theorem nd_s {P : Nat → Nat → Nat → Prop} {bd s a : Nat} (h : nDf P bd s a 0) (ha : bd < a ∨ s < a) : nDf P bd (s + 1) 0 0 := fun x y z hx hy hz q => h x y z hx hy hz (by omega)
theorem nd_0 {P : Nat → Nat → Nat → Prop} {bd : Nat} : nDf P bd 0 0 0 := fun x y z _ _ _ q => absurd q (by omega)
theorem nd_end {P : Nat → Nat → Nat → Prop} {bd s : Nat} (h : nDf P bd s 0 0) (hs : 3 * bd < s) : ∀ x y z, x ≤ bd → y ≤ bd → z ≤ bd → ¬ P x y z := fun x y z hx hy hz => h x y z hx hy hz (by omega)
