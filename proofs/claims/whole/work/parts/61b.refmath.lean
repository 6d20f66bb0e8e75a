/-- all targets of a set of states -/
def alG (T : Nat → Nat) (set q : Nat) : Nat := if set.testBit q = true then orU (fun x => T (q * 3 + x)) 3 else 0
def alF (T : Nat → Nat) (set : Nat) : Nat := orU (alG T set) 5
theorem alF_lt {T : Nat → Nat} (h : OkT T) (set : Nat) : alF T set < 32 := orU_lt (e := 5) (fun q hq => by
  unfold alG
  split
  · exact orU_lt (e := 5) (fun x hx => h _ (by omega))
  · decide)
theorem al_0 {T : Nat → Nat} {set q z : Nat} (h : z = orU (alG T set) q ||| orU (fun x => T (q * 3 + x)) 0) (hb : ¬ set.testBit q = true) : z = orU (alG T set) (q + 1) := by
  rw [h, orU_s]; unfold alG; rw [if_neg hb]; rfl
theorem al_3 {T : Nat → Nat} {set q z : Nat} (h : z = orU (alG T set) q ||| orU (fun x => T (q * 3 + x)) 3) (hb : set.testBit q = true) : z = orU (alG T set) (q + 1) := by
  have e : alG T set q = orU (fun x => T (q * 3 + x)) 3 := if_pos hb
  rw [orU_s (alG T set) q, e]
  exact h
def fR (T : Nat → Nat) : Nat → Nat
  | 0 => 1
  | k + 1 => fR T k ||| alF T (fR T k)
def bI (T : Nat → Nat) (b : Nat) : Nat → Nat
  | 0 => b
  | q + 1 => if alF T (2 ^ q) &&& bI T b q = 0 then bI T b q else bI T b q ||| 2 ^ q
def bR (T : Nat → Nat) (fin : Nat) : Nat → Nat
  | 0 => fin
  | k + 1 => bI T (bR T fin k) 5
theorem fR_lt {T : Nat → Nat} (h : OkT T) : ∀ k, fR T k < 32
  | 0 => (by decide : 1 < 32)
  | k + 1 => or32 (fR_lt h k) (alF_lt h _)
theorem bI_lt {T : Nat → Nat} {b : Nat} (hb : b < 32) : ∀ q, q ≤ 5 → bI T b q < 32
  | 0, _ => hb
  | q + 1, hq => by
    rw [bI]
    split
    · exact bI_lt hb q (by omega)
    · exact or32 (bI_lt hb q (by omega)) ((by decide : ∀ k, k < 5 → 2 ^ k < 32) q (by omega))
theorem bR_lt {T : Nat → Nat} {fin : Nat} (h : fin < 32) : ∀ k, bR T fin k < 32
  | 0 => h
  | k + 1 => bI_lt (bR_lt h k) 5 (by decide)
theorem rc_v {T : Nat → Nat} {a b c v0 v1 v2 v3 : Nat} (h3 : (c = 0 ∧ v3 = v2) ∨ (0 < c ∧ v3 = v2 ||| stp T 2 (rch T a b (c - 1)))) (h2 : (b = 0 ∧ v2 = v1) ∨ (0 < b ∧ v2 = v1 ||| stp T 1 (rch T a (b - 1) c))) (h1 : (a = 0 ∧ v1 = v0) ∨ (0 < a ∧ v1 = v0 ||| stp T 0 (rch T (a - 1) b c))) (h0 : v0 = if a + b + c = 0 then 1 else 0) : v3 = rch T a b c := by
  rw [rch_eq]
  have e0 : v0 = if a = 0 ∧ b = 0 ∧ c = 0 then 1 else 0 := by
    rw [h0]
    by_cases q : a + b + c = 0
    · rw [if_pos q, if_pos (by omega)]
    · rw [if_neg q, if_neg (by omega)]
  have e1 : v1 = v0 ||| (if 0 < a then stp T 0 (rch T (a - 1) b c) else 0) := by
    rcases h1 with ⟨q, e⟩ | ⟨q, e⟩
    · rw [if_neg (by omega), e, Nat.or_zero]
    · rw [if_pos q, e]
  have e2 : v2 = v1 ||| (if 0 < b then stp T 1 (rch T a (b - 1) c) else 0) := by
    rcases h2 with ⟨q, e⟩ | ⟨q, e⟩
    · rw [if_neg (by omega), e, Nat.or_zero]
    · rw [if_pos q, e]
  have e3 : v3 = v2 ||| (if 0 < c then stp T 2 (rch T a b (c - 1)) else 0) := by
    rcases h3 with ⟨q, e⟩ | ⟨q, e⟩
    · rw [if_neg (by omega), e, Nat.or_zero]
    · rw [if_pos q, e]
  rw [e3, e2, e1, e0]
def sgl (x : Nat) : Nat := if x < 2 then 0 else if x < 4 then 1 else if x < 8 then 2 else if x < 16 then 3 else 4
theorem sgl_eq : ∀ x, x < 32 → ∀ q, q < 6 → (∀ j, j < q → 1 < x / 2 ^ j) → x / 2 ^ q ≤ 1 → sgl x = q := by decide +kernel
theorem sgl_q : ∀ x, x < 32 → ∀ q, q < 6 → (∀ j, j < q → 1 < x / 2 ^ j) → q ≤ 4 := by decide +kernel
theorem sgl_lt (x : Nat) : sgl x < 5 := by unfold sgl; repeat' split
                                           all_goals decide
/-- the word of a code: its letters, the first one the heaviest -/
def dgt (cd n k : Nat) : Nat := cd / 3 ^ (n - 1 - k) % 3
theorem n_if1 {P : Prop} [Decidable P] (h : P) : nI 1 = nI (if P then 1 else 0) := by rw [if_pos h]
theorem n_if0 {P : Prop} [Decidable P] (h : ¬ P) : nI 0 = nI (if P then 1 else 0) := by rw [if_neg h]
