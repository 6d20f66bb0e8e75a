/-! ===== the useful states, both ways ===== -/
theorem and_ne {a b : Nat} : a &&& b ≠ 0 ↔ ∃ i, a.testBit i = true ∧ b.testBit i = true := by
  constructor
  · intro h
    refine Classical.byContradiction fun hn => h (Nat.eq_of_testBit_eq fun i => ?_)
    rw [Nat.testBit_and, Nat.zero_testBit]
    cases ha : a.testBit i with
    | false => rfl
    | true =>
      cases hb : b.testBit i with
      | false => rfl
      | true => exact absurd ⟨i, ha, hb⟩ hn
  · rintro ⟨i, ha, hb⟩ h
    have : (a &&& b).testBit i = true := by rw [Nat.testBit_and, ha, hb]; rfl
    rw [h, Nat.zero_testBit] at this
    cases this
theorem alF_stp {T : Nat → Nat} (m : Nat) : alF T m = (stp T 0 m ||| stp T 1 m) ||| stp T 2 m := by
  apply Nat.eq_of_testBit_eq
  intro i
  apply Bool.eq_iff_iff.mpr
  rw [Nat.testBit_or, Nat.testBit_or, Bool.or_eq_true, Bool.or_eq_true]
  unfold alF
  rw [orU_bit]
  constructor
  · rintro ⟨q, hq, h⟩
    unfold alG at h
    by_cases hb : m.testBit q = true
    · rw [if_pos hb, orU_bit] at h
      obtain ⟨x, hx, h2⟩ := h
      have h3 := stp_bit (T := T) (x := x) hq hb h2
      rcases (by omega : x = 0 ∨ x = 1 ∨ x = 2) with e | e | e
      · subst e; exact Or.inl (Or.inl h3)
      · subst e; exact Or.inl (Or.inr h3)
      · subst e; exact Or.inr h3
    · rw [if_neg hb, Nat.zero_testBit] at h; cases h
  · have key : ∀ x, x < 3 → (stp T x m).testBit i = true → ∃ k, k < 5 ∧ (alG T m k).testBit i = true := by
      intro x hx h
      obtain ⟨q, hq, h1, h2⟩ := stp_of h
      exact ⟨q, hq, by unfold alG; rw [if_pos h1, orU_bit]; exact ⟨x, hx, h2⟩⟩
    rintro ((h | h) | h)
    · exact key 0 (by decide) h
    · exact key 1 (by decide) h
    · exact key 2 (by decide) h
theorem fR_frm (T : Nat → Nat) : ∀ k, fR T k = frm T k
  | 0 => rfl
  | k + 1 => by rw [fR, frm, fR_frm T k, alF_stp]
def ct5 (m : Nat) : Nat := fb_ct (fun i => m.testBit i) 5
theorem ct5_lt : ∀ a, a < 32 → ∀ b, b < 32 → a ≠ a ||| b → ct5 a < ct5 (a ||| b) := by decide +kernel
theorem ct5_1 : ∀ a, a < 32 → a ≠ 0 → 1 ≤ ct5 a := by decide +kernel
theorem ct5_5 : ∀ a, a < 32 → 5 ≤ ct5 a → a = 31 := by decide +kernel
theorem or31 : ∀ b, b < 32 → 31 ||| b = 31 := by decide
/-- a growing row of masks stands still after four steps -/
theorem grow4 {s h : Nat → Nat} (hl : ∀ k, s k < 32) (hh : ∀ k, h (s k) < 32) (hs : ∀ k, s (k + 1) = s k ||| h (s k)) (h0 : s 0 ≠ 0 ∨ h 0 = 0) : s 5 = s 4 := by
  by_cases z : s 0 = 0
  · have e0 : h 0 = 0 := h0.resolve_left (fun q => q z)
    have all : ∀ k, s k = 0 := by
      intro k
      induction k with
      | zero => exact z
      | succ k ih => rw [hs, ih, e0]; rfl
    rw [all, all]
  · have key : ∀ k, k + 1 ≤ ct5 (s k) ∨ s (k + 1) = s k := by
      intro k
      induction k with
      | zero => exact Or.inl (ct5_1 _ (hl 0) z)
      | succ k ih =>
        by_cases e : s (k + 1) = s k
        · right; rw [hs (k + 1), e, ← hs k, e]
        · left
          have h1 := ih.resolve_right e
          have h2 := ct5_lt (s k) (hl k) (h (s k)) (hh k) (fun q => e (by rw [hs k]; exact q.symm))
          rw [← hs k] at h2
          omega
    rcases key 4 with h1 | h1
    · have e := ct5_5 _ (hl 4) h1
      rw [hs 4, e]
      exact or31 _ (by have := hh 4; rw [e] at this; exact this)
    · exact h1
theorem frm_54 {T : Nat → Nat} (hT : OkT T) : frm T 5 = frm T 4 :=
  grow4 (s := frm T) (h := fun m => (stp T 0 m ||| stp T 1 m) ||| stp T 2 m) (frm_lt hT) (fun k => or32 (or32 (stp_lt hT (by decide)) (stp_lt hT (by decide))) (stp_lt hT (by decide))) (fun k => rfl) (Or.inl (by show (1 : Nat) ≠ 0; decide))
theorem bef_bit {T : Nat → Nat} {m q : Nat} : ∀ n, (bef T m n).testBit q = true ↔ ∃ i, i < n ∧ T i &&& m ≠ 0 ∧ i / 3 = q
  | 0 => by
    show Nat.testBit 0 q = true ↔ _
    rw [Nat.zero_testBit]
    exact ⟨fun h => absurd h (by decide), fun ⟨i, h, _⟩ => absurd h (by omega)⟩
  | n + 1 => by
    have ih := bef_bit (T := T) (m := m) (q := q) n
    rw [bef]
    by_cases z : T n &&& m = 0
    · rw [if_pos z, ih]
      constructor
      · rintro ⟨i, h1, h2⟩; exact ⟨i, by omega, h2⟩
      · rintro ⟨i, h1, h2, h3⟩
        by_cases e : i = n
        · subst e; exact absurd z h2
        · exact ⟨i, by omega, h2, h3⟩
    · rw [if_neg z, or_bit, Bool.or_eq_true, ih, decide_eq_true_iff]
      constructor
      · rintro (⟨i, h1, h2⟩ | e)
        · exact ⟨i, by omega, h2⟩
        · exact ⟨n, by omega, z, e.symm⟩
      · rintro ⟨i, h1, h2, h3⟩
        by_cases e : i = n
        · subst e; exact Or.inr h3.symm
        · exact Or.inl ⟨i, by omega, h2, h3⟩
theorem twd_54 {T : Nat → Nat} {fin : Nat} (hf : fin < 32) : twd T fin 5 = twd T fin 4 := by
  refine grow4 (s := twd T fin) (h := fun m => bef T m 15) (twd_lt hf) (fun k => bef_lt T _ 15 (Nat.le_refl _)) (fun k => rfl) (Or.inr ?_)
  apply Nat.eq_of_testBit_eq
  intro i
  rw [Nat.zero_testBit]
  apply Bool.eq_false_iff.mpr
  intro h
  obtain ⟨k, -, h2, -⟩ := (bef_bit 15).mp h
  exact h2 (Nat.and_zero _)
abbrev sbs (a b : Nat) : Prop := ∀ i, a.testBit i = true → b.testBit i = true
theorem sbs_eq {a b : Nat} (h1 : sbs a b) (h2 : sbs b a) : a = b := Nat.eq_of_testBit_eq fun i => Bool.eq_iff_iff.mpr ⟨h1 i, h2 i⟩
theorem al_one {T : Nat → Nat} {q i : Nat} (hq : q < 5) : (alF T (2 ^ q)).testBit i = true ↔ ∃ x, x < 3 ∧ (T (q * 3 + x)).testBit i = true := by
  unfold alF
  rw [orU_bit]
  constructor
  · rintro ⟨k, hk, h⟩
    unfold alG at h
    by_cases hb : (2 ^ q).testBit k = true
    · rw [if_pos hb, orU_bit] at h
      rw [bit_pow q hq k hk, decide_eq_true_iff] at hb
      subst hb; exact h
    · rw [if_neg hb, Nat.zero_testBit] at h; cases h
  · rintro ⟨x, hx, h⟩
    exact ⟨q, hq, by unfold alG; rw [if_pos (by rw [bit_pow q hq q hq]; simp), orU_bit]; exact ⟨x, hx, h⟩⟩
theorem bI_mono {T : Nat → Nat} {b : Nat} : ∀ n k, n ≤ k → sbs (bI T b n) (bI T b k)
  | n, 0, h => by rw [show n = 0 by omega]; exact fun _ => id
  | n, k + 1, h => by
    by_cases e : n = k + 1
    · rw [e]; exact fun _ => id
    · intro i hi
      have h1 := bI_mono n k (by omega) i hi
      rw [bI]
      split
      · exact h1
      · rw [or_bit, h1]; rfl
theorem bI_in {T : Nat → Nat} {b C : Nat} (hC : sbs (bef T C 15) C) (hb : sbs b C) : ∀ n, n ≤ 5 → sbs (bI T b n) C
  | 0, _ => hb
  | n + 1, hn => by
    have ih := bI_in hC hb n (by omega)
    intro i hi
    rw [bI] at hi
    split at hi
    · exact ih i hi
    · rename_i z
      rw [or_bit, Bool.or_eq_true, decide_eq_true_iff] at hi
      rcases hi with hi | hi
      · exact ih i hi
      · subst hi
        obtain ⟨j, h1, h2⟩ := and_ne.mp z
        obtain ⟨x, hx, h3⟩ := (al_one (by omega)).mp h1
        exact hC _ ((bef_bit 15).mpr ⟨i * 3 + x, by omega, and_ne.mpr ⟨j, h3, ih j h2⟩, by omega⟩)
theorem bR_in {T : Nat → Nat} {fin C : Nat} (hC : sbs (bef T C 15) C) (hb : sbs fin C) : ∀ k, sbs (bR T fin k) C
  | 0 => hb
  | k + 1 => bI_in hC (bR_in hC hb k) 5 (Nat.le_refl _)
theorem twd_bR {T : Nat → Nat} {fin : Nat} : ∀ k, sbs (twd T fin k) (bR T fin k)
  | 0 => fun _ => id
  | k + 1 => by
    have ih := twd_bR (T := T) (fin := fin) k
    intro i hi
    rw [twd, Nat.testBit_or, Bool.or_eq_true] at hi
    rcases hi with hi | hi
    · exact bI_mono (T := T) 0 5 (by decide) i (ih i hi)
    · obtain ⟨z, hz, h2, h3⟩ := (bef_bit 15).mp hi
      obtain ⟨j, h4, h5⟩ := and_ne.mp h2
      have hi5 : i < 5 := by omega
      refine bI_mono (T := T) (i + 1) 5 (by omega) i ?_
      rw [bI, if_neg]
      · rw [or_bit]; simp
      · exact and_ne.mpr ⟨j, (al_one hi5).mpr ⟨z % 3, Nat.mod_lt _ (by decide), by rw [show i * 3 + z % 3 = z by omega]; exact h4⟩, bI_mono (T := T) 0 i (by omega) j (ih j h5)⟩
theorem useful_eq {T : Nat → Nat} {fin : Nat} (hT : OkT T) (hf : fin < 32) : frm T 4 &&& twd T fin 4 = fR T 5 &&& bR T fin 5 := by
  have e1 : fR T 5 = frm T 4 := by rw [fR_frm, frm_54 hT]
  have e5 := twd_54 (T := T) hf
  have hC : sbs (bef T (twd T fin 4) 15) (twd T fin 4) := fun i hi => by
    rw [← e5, twd, Nat.testBit_or, hi, Bool.or_true]
  have hb : sbs fin (twd T fin 4) := by
    have : ∀ k, sbs fin (twd T fin k) := by
      intro k
      induction k with
      | zero => exact fun _ => id
      | succ k ih => intro i hi; rw [twd, Nat.testBit_or, ih i hi]; rfl
    exact this 4
  have e2 : bR T fin 5 = twd T fin 4 := sbs_eq (bR_in hC hb 5) (fun i hi => twd_bR 5 i (by rw [e5]; exact hi))
  rw [e1, e2]
