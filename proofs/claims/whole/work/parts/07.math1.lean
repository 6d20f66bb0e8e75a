/-! ===== the automaton, in numbers: targets T (3 q + x), a mask a set of states ===== -/
def orU (f : Nat → Nat) : Nat → Nat
  | 0 => 0
  | n + 1 => orU f n ||| f n
theorem orU_lt {f : Nat → Nat} {e : Nat} : ∀ {n : Nat}, (∀ k, k < n → f k < 2 ^ e) → orU f n < 2 ^ e
  | 0, _ => Nat.two_pow_pos e
  | n + 1, h => Nat.or_lt_two_pow (orU_lt (fun k hk => h k (by omega))) (h n (by omega))
theorem orU_cong {f g : Nat → Nat} : ∀ {n : Nat}, (∀ k, k < n → f k = g k) → orU f n = orU g n
  | 0, _ => rfl
  | n + 1, h => by rw [orU, orU, orU_cong (fun k hk => h k (by omega)), h n (by omega)]
theorem orU_bit {f : Nat → Nat} {i : Nat} : ∀ {n : Nat}, (orU f n).testBit i = true ↔ ∃ k, k < n ∧ (f k).testBit i = true
  | 0 => by
    show Nat.testBit 0 i = true ↔ _
    rw [Nat.zero_testBit]
    exact ⟨fun h => absurd h (by decide), fun ⟨k, h, _⟩ => absurd h (by omega)⟩
  | n + 1 => by
    show (orU f n ||| f n).testBit i = true ↔ _
    rw [Nat.testBit_or, Bool.or_eq_true, orU_bit]
    constructor
    · rintro (⟨k, h1, h2⟩ | h)
      · exact ⟨k, by omega, h2⟩
      · exact ⟨n, by omega, h⟩
    · rintro ⟨k, h1, h2⟩
      by_cases e : k = n
      · right; rw [← e]; exact h2
      · left; exact ⟨k, by omega, h2⟩
/-- the states behind a letter -/
def stp (T : Nat → Nat) (x m : Nat) : Nat := orU (fun q => if m.testBit q = true then T (q * 3 + x) else 0) 5
def OkT (T : Nat → Nat) : Prop := ∀ k, k < 15 → T k < 32
theorem stp_lt {T : Nat → Nat} (h : OkT T) {x m : Nat} (hx : x < 3) : stp T x m < 32 := by
  refine orU_lt (e := 5) (fun k hk => ?_)
  show (if m.testBit k = true then T (k * 3 + x) else 0) < 2 ^ 5
  split
  · exact h _ (by omega)
  · decide
theorem and31 {k : Nat} (h : k < 32) : k &&& 31 = k := Nat.and_two_pow_sub_one_of_lt_two_pow (n := 5) h
theorem or32 {a b : Nat} (ha : a < 32) (hb : b < 32) : a ||| b < 32 := Nat.or_lt_two_pow (n := 5) ha hb
theorem and_lt {a b n : Nat} (hb : b < n) : a &&& b < n := Nat.lt_of_le_of_lt Nat.and_le_right hb
theorem and_ltl {a b n : Nat} (hb : a < n) : a &&& b < n := Nat.lt_of_le_of_lt Nat.and_le_left hb
theorem pow5 : ∀ s, s < 5 → 1 ≤ 2 ^ s ∧ 2 ^ s ≤ 16 := by decide
theorem pow5s : ∀ s, s < 5 → 2 ^ (s + 1) = 2 ^ s + 2 ^ s := by decide
theorem stp_0 (T : Nat → Nat) (x : Nat) : stp T x 0 = 0 := by
  unfold stp
  simp [orU]
theorem stp_split : ∀ s, s < 5 → ∀ m, m < 2 ^ s → ∀ q, q < 5 → (2 ^ s + m).testBit q = (m.testBit q || decide (q = s)) := by decide
theorem bit_hi : ∀ s, s < 5 → ∀ m, m < 2 ^ s → ∀ q, q < 5 → s ≤ q → m.testBit q = false := by decide
theorem stp_hi (T : Nat → Nat) (x : Nat) {s m : Nat} (hs : s < 5) (hm : m < 2 ^ s) : stp T x (2 ^ s + m) = stp T x m ||| T (s * 3 + x) := by
  apply Nat.eq_of_testBit_eq
  intro i
  rw [Nat.testBit_or]
  apply Bool.eq_iff_iff.mpr
  rw [Bool.or_eq_true]
  unfold stp
  rw [orU_bit, orU_bit]
  constructor
  · rintro ⟨q, hq, h⟩
    rw [stp_split s hs m hm q hq] at h
    by_cases e : q = s
    · right; subst e; simpa using h
    · left; refine ⟨q, hq, ?_⟩; simpa [e] using h
  · rintro (⟨q, hq, h⟩ | h)
    · refine ⟨q, hq, ?_⟩
      rw [stp_split s hs m hm q hq]
      split at h
      · rename_i h1; rw [h1]; simpa using h
      · rw [Nat.zero_testBit] at h; cases h
    · refine ⟨s, hs, ?_⟩
      rw [stp_split s hs m hm s hs]
      simpa using h
/-- the class's automaton: masks, and the table of steps -/
def OkA (σ : SS) : Prop := OkT (σ.2.1 0) ∧ σ.1 0 < 32 ∧ ∀ x, x < 3 → ∀ m, m < 32 → σ.2.1 1 (x * 32 + m) = stp (σ.2.1 0) x m
/-- the rows of letters below i are laid -/
def RbO (T f : Nat → Nat) (i : Nat) : Prop := ∀ x, x < i → ∀ m, m < 32 → f (x * 32 + m) = stp T x m
def RbI (T f : Nat → Nat) (i n : Nat) : Prop := ∀ m, m < n → f (i * 32 + m) = stp T i m
theorem rb_first {T f : Nat → Nat} {i : Nat} (h : RbO T f i) : RbO T (va_up f (i * 32) 0) i ∧ RbI T (va_up f (i * 32) 0) i (2 ^ 0) := by
  constructor
  · intro x hx m hm
    rw [va_up, if_neg (by omega)]
    exact h x hx m hm
  · intro m hm
    have e : m = 0 := by simpa using hm
    subst e
    rw [va_up, if_pos (by omega), stp_0]
theorem rb_in {T f : Nat → Nat} {i s lo : Nat} (hs : s < 5) (hlo : lo < 2 ^ s) (h : RbO T f i) (h2 : RbI T f i (2 ^ s + lo)) :
    RbO T (va_up f (i * 32 + 2 ^ s + lo) (f (i * 32 + lo) ||| T (s * 3 + i))) i ∧ RbI T (va_up f (i * 32 + 2 ^ s + lo) (f (i * 32 + lo) ||| T (s * 3 + i))) i (2 ^ s + (lo + 1)) := by
  have p5 := pow5 s hs
  constructor
  · intro x hx m hm
    rw [va_up, if_neg (by omega)]
    exact h x hx m hm
  · intro m hm
    by_cases e : m = 2 ^ s + lo
    · subst e
      rw [va_up, if_pos (by omega), h2 lo (by omega), stp_hi T i hs hlo]
    · rw [va_up, if_neg (by omega)]
      exact h2 m (by omega)
theorem rb_next {T f : Nat → Nat} {i : Nat} (h : RbO T f i) (h2 : RbI T f i (2 ^ 5)) : RbO T f (i + 1) := by
  intro x hx m hm
  by_cases e : x = i
  · subst e; exact h2 m hm
  · exact h x (by omega) m hm
/-- how many bits -/
def pop (x : Nat) : Nat := fb_sm (fun k => x / 2 ^ k % 2) 32
theorem pop_le : ∀ x, x < 32 → pop x ≤ 5 := by decide +kernel
theorem pop_det : ∀ x, x < 32 → (x &&& (x + 4294967296 - 1) = 0 ↔ pop x ≤ 1) := by decide +kernel
def cntT (T : Nat → Nat) : Nat := fb_sm (fun k => pop (T k)) 15
abbrev detT (T : Nat → Nat) : Prop := ∀ k, k < 15 → pop (T k) ≤ 1
/-- the places of the transitions: 5 k + to -/
def pT (T : Nat → Nat) (j : Nat) : Bool := (T (j / 5)).testBit (j % 5)
def cdT (j : Nat) : Nat := 100 * (j / 15) + 10 * (j / 5 % 3) + j % 5
def kth (p : Nat → Bool) (idx n : Nat) : Nat := fa_first (fun i => p i && (fb_ct p i == idx)) n
theorem kth_eq {p : Nat → Bool} {idx n j : Nat} (hj : j < n) (h1 : p j = true) (h2 : fb_ct p j = idx) : kth p idx n = j := by
  have hp : (fun i => p i && (fb_ct p i == idx)) j = true := by simp [h1, h2]
  have hlt : kth p idx n < n := by
    rcases Nat.lt_or_ge (kth p idx n) n with h | h
    · exact h
    · have := fa_first_no (fun i => p i && (fb_ct p i == idx)) n j (Nat.lt_of_lt_of_le hj h)
      exact absurd (hp.symm.trans this) (by decide)
  have hy := fa_first_yes (fun i => p i && (fb_ct p i == idx)) n hlt
  rw [Bool.and_eq_true] at hy
  have h3 := hy.2
  rw [beq_iff_eq] at h3
  exact fb_ct_kth_one hy.1 h1 (h3.trans h2.symm)
def bef (T : Nat → Nat) (m : Nat) : Nat → Nat
  | 0 => 0
  | i + 1 => if T i &&& m = 0 then bef T m i else bef T m i ||| 2 ^ (i / 3)
theorem bef_lt (T : Nat → Nat) (m : Nat) : ∀ i, i ≤ 15 → bef T m i < 32
  | 0, _ => (by decide : 0 < 32)
  | i + 1, h => by
    rw [bef]
    split
    · exact bef_lt T m i (by omega)
    · refine or32 (bef_lt T m i (by omega)) ?_
      exact (by decide : ∀ k, k < 5 → 2 ^ k < 32) _ (by omega)
def frm (T : Nat → Nat) : Nat → Nat
  | 0 => 1
  | k + 1 => frm T k ||| ((stp T 0 (frm T k) ||| stp T 1 (frm T k)) ||| stp T 2 (frm T k))
def twd (T : Nat → Nat) (fin : Nat) : Nat → Nat
  | 0 => fin
  | k + 1 => twd T fin k ||| bef T (twd T fin k) 15
theorem frm_lt {T : Nat → Nat} (h : OkT T) : ∀ k, frm T k < 32
  | 0 => (by decide : 1 < 32)
  | k + 1 => or32 (frm_lt h k) (or32 (or32 (stp_lt h (by decide)) (stp_lt h (by decide))) (stp_lt h (by decide)))
theorem twd_lt {T : Nat → Nat} {fin : Nat} (h : fin < 32) : ∀ k, twd T fin k < 32
  | 0 => h
  | k + 1 => or32 (twd_lt h k) (bef_lt T _ 15 (Nat.le_refl _))
/-- the states behind a word -/
def wrun (T w : Nat → Nat) : Nat → Nat
  | 0 => 1
  | i + 1 => stp T (w i) (wrun T w i)
theorem wrun_lt {T w : Nat → Nat} (h : OkT T) : ∀ n, (∀ i, i < n → w i < 3) → wrun T w n < 32
  | 0, _ => (by decide : 1 < 32)
  | n + 1, hw => stp_lt h (hw n (by omega))
/-- a letter's weight in a code of counts -/
def wt (l : Nat) : Nat := if l = 0 then 100 else if l = 1 then 10 else 1
