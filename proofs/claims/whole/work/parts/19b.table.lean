/-! ===== tables by counts ===== -/
def rchF (T : Nat → Nat) : Nat → Nat → Nat → Nat → Nat
  | 0, _, _, _ => 0
  | n + 1, a, b, c => (((if a = 0 ∧ b = 0 ∧ c = 0 then 1 else 0) ||| (if 0 < a then stp T 0 (rchF T n (a - 1) b c) else 0)) ||| (if 0 < b then stp T 1 (rchF T n a (b - 1) c) else 0)) ||| (if 0 < c then stp T 2 (rchF T n a b (c - 1)) else 0)
/-- the states behind words with these counts -/
def rch (T : Nat → Nat) (a b c : Nat) : Nat := rchF T (a + b + c + 1) a b c
theorem rch_eq (T : Nat → Nat) (a b c : Nat) : rch T a b c = (((if a = 0 ∧ b = 0 ∧ c = 0 then 1 else 0) ||| (if 0 < a then stp T 0 (rch T (a - 1) b c) else 0)) ||| (if 0 < b then stp T 1 (rch T a (b - 1) c) else 0)) ||| (if 0 < c then stp T 2 (rch T a b (c - 1)) else 0) := by
  have ea : (if 0 < a then stp T 0 (rchF T (a + b + c) (a - 1) b c) else 0) = (if 0 < a then stp T 0 (rch T (a - 1) b c) else 0) := by
    split
    · rw [rch, show a + b + c = a - 1 + b + c + 1 by omega]
    · rfl
  have eb : (if 0 < b then stp T 1 (rchF T (a + b + c) a (b - 1) c) else 0) = (if 0 < b then stp T 1 (rch T a (b - 1) c) else 0) := by
    split
    · rw [rch, show a + b + c = a + (b - 1) + c + 1 by omega]
    · rfl
  have ec : (if 0 < c then stp T 2 (rchF T (a + b + c) a b (c - 1)) else 0) = (if 0 < c then stp T 2 (rch T a b (c - 1)) else 0) := by
    split
    · rw [rch, show a + b + c = a + b + (c - 1) + 1 by omega]
    · rfl
  rw [← ea, ← eb, ← ec]
  rfl
theorem rchF_lt {T : Nat → Nat} (h : OkT T) : ∀ n a b c, rchF T n a b c < 32
  | 0, _, _, _ => (by decide : 0 < 32)
  | n + 1, a, b, c => by
    rw [rchF]
    refine or32 (or32 (or32 ?_ ?_) ?_) ?_
    · split <;> decide
    · split
      · exact stp_lt h (by decide)
      · decide
    · split
      · exact stp_lt h (by decide)
      · decide
    · split
      · exact stp_lt h (by decide)
      · decide
theorem rch_lt {T : Nat → Nat} (h : OkT T) (a b c : Nat) : rch T a b c < 32 := rchF_lt h _ _ _ _
/-- laid up to (a, b, c) in the order of the loops -/
def Dn (T f : Nat → Nat) (tb tc a b c : Nat) : Prop := ∀ x y z, y ≤ tb → z ≤ tc → (x < a ∨ (x = a ∧ (y < b ∨ (y = b ∧ z < c)))) → f (100 * x + 10 * y + z) = rch T x y z
theorem dn_put {T f : Nat → Nat} {tb tc a b c v : Nat} (htb : tb < 10) (htc : tc < 10) (hb : b ≤ tb) (hc : c ≤ tc) (h : Dn T f tb tc a b c) (hv : v = rch T a b c) : Dn T (va_up f (100 * a + 10 * b + c) v) tb tc a b (c + 1) := by
  intro x y z hy hz q
  unfold va_up
  split
  · rename_i e
    rw [hv, show x = a by omega, show y = b by omega, show z = c by omega]
  · rename_i e
    exact h x y z hy hz (by omega)
theorem dn_b {T f : Nat → Nat} {tb tc a b c : Nat} (h : Dn T f tb tc a b c) (hc : tc < c) : Dn T f tb tc a (b + 1) 0 := fun x y z hy hz q => h x y z hy hz (by omega)
theorem dn_a {T f : Nat → Nat} {tb tc a b : Nat} (h : Dn T f tb tc a b 0) (hb : tb < b) : Dn T f tb tc (a + 1) 0 0 := fun x y z hy hz q => h x y z hy hz (by omega)
theorem c0_eq (a b c : Nat) : (if 100 * a + 10 * b + c = 0 then 1 else 0) = (if a = 0 ∧ b = 0 ∧ c = 0 then 1 else 0) := by
  by_cases h : 100 * a + 10 * b + c = 0
  · rw [if_pos h, if_pos (by omega)]
  · rw [if_neg h, if_neg (by omega)]
/-- counted over a cube -/
def cnt3 (p : Nat → Nat → Nat → Bool) (n : Nat) : Nat := fb_sm (fun a => fb_sm (fun b => fb_ct (fun c => p a b c) n) n) n
theorem cnt3_cong {p q : Nat → Nat → Nat → Bool} {n : Nat} (h : ∀ a b c, a < n → b < n → c < n → p a b c = q a b c) : cnt3 p n = cnt3 q n :=
  fb_sm_cong fun a ha => fb_sm_cong fun b hb => fb_ct_cong fun c hc => h a b c ha hb hc
/-! members of linear sets: the base, then any number of copies of the first k periods -/
def mkP (B : Nat) (P : Nat → Nat) : Nat → Nat → Nat → Nat → Prop
  | 0, x, y, z => x = B / 100 ∧ y = B / 10 % 10 ∧ z = B % 10
  | k + 1, x, y, z => ∃ n, n * (P k / 100) ≤ x ∧ n * (P k / 10 % 10) ≤ y ∧ n * (P k % 10) ≤ z ∧ mkP B P k (x - n * (P k / 100)) (y - n * (P k / 10 % 10)) (z - n * (P k % 10))
/-- a copy of a period under a marked place -/
def hit (f : Nat → Nat) (p l x y z : Nat) : Prop := ∃ n, n * (p / 100) ≤ x ∧ n * (p / 10 % 10) ≤ y ∧ n * (p % 10) ≤ z ∧ (f (100 * (x - n * (p / 100)) + 10 * (y - n * (p / 10 % 10)) + (z - n * (p % 10)))).testBit l = true
def GdA (f f2 : Nat → Nat) (p l x y z : Nat) : Prop := ∀ i, (f2 (100 * x + 10 * y + z)).testBit i = true ↔ (f (100 * x + 10 * y + z)).testBit i = true ∨ (i = l ∧ hit f p l x y z)
theorem hit_0 {f : Nat → Nat} {p l x y z : Nat} (h : (f (100 * x + 10 * y + z)).testBit l = true) : hit f p l x y z := ⟨0, by omega, by omega, by omega, by simpa using h⟩
theorem hit_out {f : Nat → Nat} {p l x y z : Nat} (ho : x < p / 100 ∨ y < p / 10 % 10 ∨ z < p % 10) (h : hit f p l x y z) : (f (100 * x + 10 * y + z)).testBit l = true := by
  obtain ⟨n, h1, h2, h3, h4⟩ := h
  have hn : n = 0 := by
    rcases Nat.eq_zero_or_pos n with q | q
    · exact q
    · exfalso
      have e1 : 1 * (p / 100) ≤ n * (p / 100) := Nat.mul_le_mul_right _ q
      have e2 : 1 * (p / 10 % 10) ≤ n * (p / 10 % 10) := Nat.mul_le_mul_right _ q
      have e3 : 1 * (p % 10) ≤ n * (p % 10) := Nat.mul_le_mul_right _ q
      omega
  subst hn
  simpa using h4
theorem hit_in {f : Nat → Nat} {p l x y z : Nat} (h1 : p / 100 ≤ x) (h2 : p / 10 % 10 ≤ y) (h3 : p % 10 ≤ z) : hit f p l x y z ↔ (f (100 * x + 10 * y + z)).testBit l = true ∨ hit f p l (x - p / 100) (y - p / 10 % 10) (z - p % 10) := by
  constructor
  · rintro ⟨n, a1, a2, a3, a4⟩
    rcases Nat.eq_zero_or_pos n with q | q
    · subst q; left; simpa using a4
    · right
      obtain ⟨m, rfl⟩ : ∃ m, n = m + 1 := ⟨n - 1, by omega⟩
      rw [Nat.add_mul, Nat.one_mul] at a1 a2 a3
      refine ⟨m, by omega, by omega, by omega, ?_⟩
      rw [Nat.add_mul, Nat.add_mul, Nat.add_mul, Nat.one_mul, Nat.one_mul, Nat.one_mul] at a4
      rw [show x - p / 100 - m * (p / 100) = x - (m * (p / 100) + p / 100) by omega, show y - p / 10 % 10 - m * (p / 10 % 10) = y - (m * (p / 10 % 10) + p / 10 % 10) by omega, show z - p % 10 - m * (p % 10) = z - (m * (p % 10) + p % 10) by omega]
      exact a4
  · rintro (h | ⟨n, a1, a2, a3, a4⟩)
    · exact hit_0 h
    · refine ⟨n + 1, ?_, ?_, ?_, ?_⟩
      · rw [Nat.add_mul, Nat.one_mul]; omega
      · rw [Nat.add_mul, Nat.one_mul]; omega
      · rw [Nat.add_mul, Nat.one_mul]; omega
      · rw [Nat.add_mul, Nat.add_mul, Nat.add_mul, Nat.one_mul, Nat.one_mul, Nat.one_mul]
        rw [show x - p / 100 - n * (p / 100) = x - (n * (p / 100) + p / 100) by omega, show y - p / 10 % 10 - n * (p / 10 % 10) = y - (n * (p / 10 % 10) + p / 10 % 10) by omega, show z - p % 10 - n * (p % 10) = z - (n * (p % 10) + p % 10) by omega] at a4
        exact a4
/-- where the loops of 'spread' have been, and where not -/
def Spr (f f2 : Nat → Nat) (p l ta tb tc a b c : Nat) : Prop := ∀ x y z, x ≤ ta → y ≤ tb → z ≤ tc →
  ((x < p / 100 ∨ y < p / 10 % 10 ∨ z < p % 10 ∨ x < a ∨ (x = a ∧ (y < b ∨ (y = b ∧ z < c)))) → GdA f f2 p l x y z) ∧
  (¬ (x < p / 100 ∨ y < p / 10 % 10 ∨ z < p % 10 ∨ x < a ∨ (x = a ∧ (y < b ∨ (y = b ∧ z < c)))) → f2 (100 * x + 10 * y + z) = f (100 * x + 10 * y + z))
theorem gd_out {f : Nat → Nat} {p l x y z : Nat} (ho : x < p / 100 ∨ y < p / 10 % 10 ∨ z < p % 10) : GdA f f p l x y z := fun i => ⟨Or.inl, fun h => h.elim id (fun q => by rw [q.1]; exact hit_out ho q.2)⟩
theorem spr_0 {f : Nat → Nat} {p l ta tb tc : Nat} : Spr f f p l ta tb tc (p / 100) (p / 10 % 10) (p % 10) := by
  intro x y z hx hy hz
  refine ⟨fun h => ?_, fun _ => rfl⟩
  exact gd_out (by omega)
theorem spr_put {f f2 : Nat → Nat} {p l ta tb tc a b c : Nat} (hta : ta < 10) (htb : tb < 10) (htc : tc < 10) (hp : 0 < p) (hp2 : p < 1000) (ha : a ≤ ta) (hb : b ≤ tb) (hc : c ≤ tc) (ha2 : p / 100 ≤ a) (hb2 : p / 10 % 10 ≤ b) (hc2 : p % 10 ≤ c) (h : Spr f f2 p l ta tb tc a b c) :
    Spr f (va_up f2 (100 * a + 10 * b + c) (f2 (100 * a + 10 * b + c) ||| (f2 (100 * a + 10 * b + c - p) &&& 2 ^ l))) p l ta tb tc a b (c + 1) := by
  have hpe : 100 * a + 10 * b + c - p = 100 * (a - p / 100) + 10 * (b - p / 10 % 10) + (c - p % 10) := by omega
  intro x y z hx hy hz
  by_cases e : x = a ∧ y = b ∧ z = c
  · obtain ⟨rfl, rfl, rfl⟩ := e
    refine ⟨fun _ i => ?_, fun q => absurd (by omega) q⟩
    rw [va_up, if_pos rfl, Nat.testBit_or, Bool.or_eq_true, Nat.testBit_and, Bool.and_eq_true, hpe]
    rw [(h x y z hx hy hz).2 (by omega)]
    have hg := (h (x - p / 100) (y - p / 10 % 10) (z - p % 10) (by omega) (by omega) (by omega)).1 (by omega) l
    rw [hit_in ha2 hb2 hc2, Nat.testBit_two_pow]
    constructor
    · rintro (q | ⟨q1, q2⟩)
      · exact Or.inl q
      · have q3 : l = i := by simpa using q2
        subst q3
        right
        refine ⟨rfl, Or.inr ?_⟩
        rcases hg.mp q1 with r | r
        · exact hit_0 r
        · exact r.2
    · rintro (q | ⟨rfl, q | q⟩)
      · exact Or.inl q
      · exact Or.inl q
      · exact Or.inr ⟨hg.mpr (Or.inr ⟨rfl, q⟩), by simp⟩
  · have hne : ¬ 100 * x + 10 * y + z = 100 * a + 10 * b + c := by omega
    have hv : va_up f2 (100 * a + 10 * b + c) (f2 (100 * a + 10 * b + c) ||| (f2 (100 * a + 10 * b + c - p) &&& 2 ^ l)) (100 * x + 10 * y + z) = f2 (100 * x + 10 * y + z) := if_neg hne
    refine ⟨fun q i => ?_, fun q => ?_⟩
    · rw [hv]; exact (h x y z hx hy hz).1 (by omega) i
    · rw [hv]; exact (h x y z hx hy hz).2 (by omega)
theorem spr_b {f f2 : Nat → Nat} {p l ta tb tc a b c : Nat} (h : Spr f f2 p l ta tb tc a b c) (hc : tc < c) : Spr f f2 p l ta tb tc a (b + 1) (p % 10) := fun x y z hx hy hz => ⟨fun q => (h x y z hx hy hz).1 (by omega), fun q => (h x y z hx hy hz).2 (by omega)⟩
theorem spr_a {f f2 : Nat → Nat} {p l ta tb tc a b : Nat} (h : Spr f f2 p l ta tb tc a b (p % 10)) (hb : tb < b) : Spr f f2 p l ta tb tc (a + 1) (p / 10 % 10) (p % 10) := fun x y z hx hy hz => ⟨fun q => (h x y z hx hy hz).1 (by omega), fun q => (h x y z hx hy hz).2 (by omega)⟩
theorem spr_end {f f2 : Nat → Nat} {p l ta tb tc a : Nat} (h : Spr f f2 p l ta tb tc a (p / 10 % 10) (p % 10)) (ha : ta < a) : ∀ x y z, x ≤ ta → y ≤ tb → z ≤ tc → GdA f f2 p l x y z := fun x y z hx hy hz => (h x y z hx hy hz).1 (by omega)
/-- what the table holds while linear set l is laid, with k of its periods -/
def mem1 (c : Nat → Nat) (s l x y z : Nat) : Prop := mkP (c (s * 21 + 1 + l * 5)) (fun i => c (s * 21 + 1 + l * 5 + 2 + i)) (c (s * 21 + 1 + l * 5 + 1)) x y z
def Mbr (c f : Nat → Nat) (s ta tb tc l : Nat) : Prop := ∀ x y z, x ≤ ta → y ≤ tb → z ≤ tc → ∀ i, (f (100 * x + 10 * y + z)).testBit i = true ↔ i < l ∧ mem1 c s i x y z
def MbrK (c f : Nat → Nat) (s ta tb tc l k : Nat) : Prop := ∀ x y z, x ≤ ta → y ≤ tb → z ≤ tc → ∀ i, (f (100 * x + 10 * y + z)).testBit i = true ↔ (i < l ∧ mem1 c s i x y z) ∨ (i = l ∧ mkP (c (s * 21 + 1 + l * 5)) (fun i => c (s * 21 + 1 + l * 5 + 2 + i)) k x y z)
theorem mbr_0 {c f : Nat → Nat} {s ta tb tc : Nat} (htb : tb < 10) (htc : tc < 10) (h : ∀ k, k ≤ 100 * ta + 10 * tb + tc → f k = 0) (h2 : ta < 10) : Mbr c f s ta tb tc 0 := by
  intro x y z hx hy hz i
  rw [h _ (by omega), Nat.zero_testBit]
  exact ⟨fun q => absurd q (by decide), fun q => absurd q.1 (by omega)⟩
theorem mbr_mark {c f : Nat → Nat} {s ta tb tc l : Nat} (hta : ta < 10) (htb : tb < 10) (htc : tc < 10) (hB : c (s * 21 + 1 + l * 5) < 1000) (h : Mbr c f s ta tb tc l) : MbrK c (va_up f (c (s * 21 + 1 + l * 5)) (f (c (s * 21 + 1 + l * 5)) ||| 2 ^ l)) s ta tb tc l 0 := by
  intro x y z hx hy hz i
  have h1 := h x y z hx hy hz i
  unfold va_up
  split
  · rename_i e
    rw [Nat.testBit_or, Bool.or_eq_true, ← e, h1, Nat.testBit_two_pow]
    refine or_congr Iff.rfl ⟨fun q => ?_, fun q => ?_⟩
    · have q2 : l = i := by simpa using q
      exact ⟨q2.symm, by omega, by omega, by omega⟩
    · simp [q.1]
  · rename_i e
    rw [h1]
    refine ⟨Or.inl, fun q => q.elim id (fun w => absurd ?_ e)⟩
    have := w.2
    unfold mkP at this
    omega
theorem mbr_spread {c f f2 : Nat → Nat} {s ta tb tc l k : Nat} (hta : ta < 10) (htb : tb < 10) (htc : tc < 10) (h : MbrK c f s ta tb tc l k) (hg : ∀ x y z, x ≤ ta → y ≤ tb → z ≤ tc → GdA f f2 (c (s * 21 + 1 + l * 5 + 2 + k)) l x y z) : MbrK c f2 s ta tb tc l (k + 1) := by
  intro x y z hx hy hz i
  rw [hg x y z hx hy hz i, h x y z hx hy hz i]
  have key : hit f (c (s * 21 + 1 + l * 5 + 2 + k)) l x y z ↔ mkP (c (s * 21 + 1 + l * 5)) (fun i => c (s * 21 + 1 + l * 5 + 2 + i)) (k + 1) x y z := by
    constructor
    · rintro ⟨n, a1, a2, a3, a4⟩
      refine ⟨n, a1, a2, a3, ?_⟩
      rcases (h _ _ _ (by omega) (by omega) (by omega) l).mp a4 with q | q
      · exact absurd q.1 (by omega)
      · exact q.2
    · rintro ⟨n, a1, a2, a3, a4⟩
      exact ⟨n, a1, a2, a3, (h _ _ _ (by omega) (by omega) (by omega) l).mpr (Or.inr ⟨rfl, a4⟩)⟩
  constructor
  · rintro ((q | q) | ⟨rfl, q⟩)
    · exact Or.inl q
    · refine Or.inr ⟨q.1, key.mp (hit_0 ((h x y z hx hy hz l).mpr (Or.inr ⟨rfl, q.2⟩)))⟩
    · exact Or.inr ⟨rfl, key.mp q⟩
  · rintro (q | ⟨rfl, q⟩)
    · exact Or.inl (Or.inl q)
    · exact Or.inr ⟨rfl, key.mpr q⟩
theorem mbr_next {c f : Nat → Nat} {s ta tb tc l k : Nat} (hk : k = c (s * 21 + 1 + l * 5 + 1)) (h : MbrK c f s ta tb tc l k) : Mbr c f s ta tb tc (l + 1) := by
  intro x y z hx hy hz i
  rw [h x y z hx hy hz i]
  constructor
  · rintro (q | ⟨rfl, q⟩)
    · exact ⟨by omega, q.2⟩
    · refine ⟨by omega, ?_⟩
      unfold mem1
      rw [← hk]; exact q
  · rintro ⟨q1, q2⟩
    rcases Nat.lt_or_ge i l with r | r
    · exact Or.inl ⟨r, q2⟩
    · have e : i = l := by omega
      subst e
      right
      refine ⟨rfl, ?_⟩
      unfold mem1 at q2
      rw [← hk] at q2; exact q2
