/-! ===== cycles, as the class walks them ===== -/
def cyW (T : Nat → Nat) (st : Nat) : Nat → Nat → Nat → Nat → Nat → Prop
  | 0, _, _, _, _ => False
  | k + 1, q, fr, cd, x => ∃ l, l < 3 ∧ (((T (q * 3 + l)).testBit st = true ∧ x = cd + wt l) ∨ ∃ to, st < to ∧ to < 5 ∧ (T (q * 3 + l)).testBit to = true ∧ fr.testBit to = true ∧ cyW T st k to (fr &&& (2 ^ to ^^^ 4294967295)) (cd + wt l) x)
/-- one letter's part, with the targets below t -/
def cyT (T : Nat → Nat) (st k q fr cd l t x : Nat) : Prop := ((T (q * 3 + l)).testBit st = true ∧ x = cd + wt l) ∨ ∃ to, st < to ∧ to < t ∧ (T (q * 3 + l)).testBit to = true ∧ fr.testBit to = true ∧ cyW T st k to (fr &&& (2 ^ to ^^^ 4294967295)) (cd + wt l) x
def cyL (T : Nat → Nat) (st k q fr cd n x : Nat) : Prop := ∃ l, l < n ∧ cyT T st k q fr cd l 5 x
theorem bit3 {t f k : Nat} : (t &&& f) &&& 2 ^ k = 0 ↔ ¬ (t.testBit k = true ∧ f.testBit k = true) := by
  rw [fb_bit_nat, Nat.testBit_and]
  cases t.testBit k <;> cases f.testBit k <;> simp
theorem cs5_all : ∀ cd, cd < 1000 → dsum cd ≤ 4 → ∀ l, l < 3 → cs5 (cd + wt l) ∧ dsum (cd + wt l) = dsum cd + 1 := by decide +kernel
theorem cs5_wt {cd d l : Nat} (h0 : cd < 1000) (h1 : dsum cd = d) (h2 : d ≤ 4) (hl : l < 3) : cs5 (cd + wt l) ∧ dsum (cd + wt l) = d + 1 := by
  rw [← h1]; exact cs5_all cd h0 (by omega) l hl
theorem cy_1 {T : Nat → Nat} {st k q fr cd l x : Nat} {A : Prop} (h : (T (q * 3 + l)).testBit st = true) : (A ∨ x = cd + wt l) ↔ A ∨ cyT T st k q fr cd l (st + 1) x := by
  unfold cyT
  refine or_congr Iff.rfl ⟨fun e => Or.inl ⟨h, e⟩, ?_⟩
  rintro (e | ⟨to, h1, h2, -⟩)
  · exact e.2
  · omega
theorem cy_0 {T : Nat → Nat} {st k q fr cd l x : Nat} {A : Prop} (h : ¬ (T (q * 3 + l)).testBit st = true) : A ↔ A ∨ cyT T st k q fr cd l (st + 1) x := by
  unfold cyT
  refine ⟨Or.inl, ?_⟩
  rintro (e | e | ⟨to, h1, h2, -⟩)
  · exact e
  · exact absurd e.1 h
  · omega
theorem cy_t0 {T : Nat → Nat} {st k q fr cd l t x : Nat} (ht : st < t) (h : ¬ ((T (q * 3 + l)).testBit t = true ∧ fr.testBit t = true)) : cyT T st k q fr cd l t x ↔ cyT T st k q fr cd l (t + 1) x := by
  unfold cyT
  refine or_congr Iff.rfl ⟨?_, ?_⟩
  · rintro ⟨to, h1, h2, h3⟩; exact ⟨to, h1, by omega, h3⟩
  · rintro ⟨to, h1, h2, h3, h4, h5⟩
    rcases Nat.lt_or_ge to t with z | z
    · exact ⟨to, h1, z, h3, h4, h5⟩
    · rw [show to = t by omega] at h3 h4; exact absurd ⟨h3, h4⟩ h
theorem cy_t1 {T : Nat → Nat} {st k q fr cd l t x : Nat} (ht : st < t) (h : (T (q * 3 + l)).testBit t = true ∧ fr.testBit t = true) : cyT T st k q fr cd l (t + 1) x ↔ cyT T st k q fr cd l t x ∨ cyW T st k t (fr &&& (2 ^ t ^^^ 4294967295)) (cd + wt l) x := by
  unfold cyT
  rw [or_assoc]
  refine or_congr Iff.rfl ⟨?_, ?_⟩
  · rintro ⟨to, h1, h2, h3, h4, h5⟩
    rcases Nat.lt_or_ge to t with z | z
    · exact Or.inl ⟨to, h1, z, h3, h4, h5⟩
    · have e : to = t := by omega
      subst e; exact Or.inr h5
  · rintro (⟨to, h1, h2, h3⟩ | h5)
    · exact ⟨to, h1, by omega, h3⟩
    · exact ⟨t, ht, by omega, h.1, h.2, h5⟩
theorem cy_l {T : Nat → Nat} {st k q fr cd n x : Nat} : cyL T st k q fr cd (n + 1) x ↔ cyL T st k q fr cd n x ∨ cyT T st k q fr cd n 5 x := by
  unfold cyL
  constructor
  · rintro ⟨l, h1, h2⟩
    rcases Nat.lt_or_ge l n with z | z
    · exact Or.inl ⟨l, z, h2⟩
    · have e : l = n := by omega
      subst e; exact Or.inr h2
  · rintro (⟨l, h1, h2⟩ | h2)
    · exact ⟨l, by omega, h2⟩
    · exact ⟨n, by omega, h2⟩
theorem cy_end {T : Nat → Nat} {st k q fr cd x : Nat} : cyL T st k q fr cd 3 x ↔ cyW T st (k + 1) q fr cd x := Iff.rfl
theorem cy_no {T : Nat → Nat} {st k q fr cd x : Nat} : ¬ cyL T st k q fr cd 0 x := by rintro ⟨l, h, -⟩; omega
/-- the cycle counts, as the class finds them; U: the useful states -/
def cyA (T : Nat → Nat) (U n x : Nat) : Prop := ∃ st, st < n ∧ U.testBit st = true ∧ cyW T st 5 st (U &&& (4294967296 - 2 ^ (st + 1))) 0 x
theorem cyA_1 {T : Nat → Nat} {U n x : Nat} (h : U.testBit n = true) : cyA T U (n + 1) x ↔ cyA T U n x ∨ cyW T n 5 n (U &&& (4294967296 - 2 ^ (n + 1))) 0 x := by
  unfold cyA
  constructor
  · rintro ⟨st, h1, h2⟩
    rcases Nat.lt_or_ge st n with z | z
    · exact Or.inl ⟨st, z, h2⟩
    · have e : st = n := by omega
      subst e; exact Or.inr h2.2
  · rintro (⟨st, h1, h2⟩ | h2)
    · exact ⟨st, by omega, h2⟩
    · exact ⟨n, by omega, h, h2⟩
theorem cyA_0 {T : Nat → Nat} {U n x : Nat} (h : ¬ U.testBit n = true) : cyA T U (n + 1) x ↔ cyA T U n x := by
  unfold cyA
  constructor
  · rintro ⟨st, h1, h2⟩
    rcases Nat.lt_or_ge st n with z | z
    · exact ⟨st, z, h2⟩
    · rw [show st = n by omega] at h2; exact absurd h2.1 h
  · rintro ⟨st, h1, h2⟩
    exact ⟨st, by omega, h2⟩
abbrev usf (σ : SS) : Nat := frm (σ.2.1 0) 4 &&& twd (σ.2.1 0) (σ.1 0) 4
