/-! ===== the text ===== -/
abbrev isD (c : Nat) : Prop := 48 ≤ c ∧ c < 53
abbrev isL (c : Nat) : Prop := 97 ≤ c ∧ c < 100
def stg (s c : Nat) : Nat :=
  if s = 0 then (if isD c then 1 else if c = 33 then 3 else 5)
  else if s = 1 then (if isL c then 2 else 5)
  else if s ≤ 3 then (if isD c then 4 else 5)
  else (if c = 44 then 0 else 5)
theorem stg_le (s c : Nat) : stg s c ≤ 5 := by
  unfold stg
  repeat' split
  all_goals decide
def stgs (w : Nat → Nat) : Nat → Nat
  | 0 => 0
  | i + 1 => stg (stgs w i) (w i)
def fltC (w : Nat → Nat) (n : Nat) : Nat :=
  if fa_first (fun i => stgs w (i + 1) == 5) n < n then fa_first (fun i => stgs w (i + 1) == 5) n else if stgs w n = 4 then 4294967295 else n
theorem first_eq {p : Nat → Bool} {n i : Nat} (hi : i < n) (h : p i = true) (h2 : ∀ k, k < i → p k = false) : fa_first p n = i := by
  have hlt : fa_first p n < n := by
    rcases Nat.lt_or_ge (fa_first p n) n with q | q
    · exact q
    · exact absurd (fa_first_no p n i (Nat.lt_of_lt_of_le hi q)) (by rw [h]; decide)
  rcases Nat.lt_trichotomy (fa_first p n) i with q | q | q
  · exact absurd (fa_first_yes p n hlt) (by rw [h2 _ q]; decide)
  · exact q
  · exact absurd (fa_first_no p n i q) (by rw [h]; decide)
theorem first_no {p : Nat → Bool} {n : Nat} (h2 : ∀ k, k < n → p k = false) : ¬ fa_first p n < n := fun q => absurd (fa_first_yes p n q) (by rw [h2 _ q]; decide)
theorem fltC_hit {w : Nat → Nat} {n i : Nat} (hi : i < n) (h : stgs w (i + 1) = 5) (h2 : ∀ k, k < i → stgs w (k + 1) ≠ 5) : fltC w n = i := by
  have e := first_eq (p := fun i => stgs w (i + 1) == 5) hi (by simp [h]) (fun k hk => by simp [h2 k hk])
  unfold fltC
  rw [e, if_pos hi]
theorem fltC_end {w : Nat → Nat} {n : Nat} (h2 : ∀ k, k < n → stgs w (k + 1) ≠ 5) : fltC w n = if stgs w n = 4 then 4294967295 else n := by
  have e := first_no (p := fun i => stgs w (i + 1) == 5) (n := n) (fun k hk => by simp [h2 k hk])
  unfold fltC
  rw [if_neg e]
/-- what the class gathers of the signs below i -/
def gi (w : Nat → Nat) : Nat → (Nat → Nat) × Nat
  | 0 => (fun _ => 0, 0)
  | i + 1 =>
    if i = 0 then gi w i
    else if isD (w i) ∧ w (i - 1) = 33 then ((gi w i).1, (gi w i).2 ||| 2 ^ (w i - 48))
    else if isD (w i) ∧ isL (w (i - 1)) ∧ 2 ≤ i ∧ isD (w (i - 2)) then
      (va_up (gi w i).1 ((w (i - 2) - 48) * 3 + (w (i - 1) - 97)) ((gi w i).1 ((w (i - 2) - 48) * 3 + (w (i - 1) - 97)) ||| 2 ^ (w i - 48)), (gi w i).2)
    else gi w i
theorem gi_1 (w : Nat → Nat) : gi w 1 = (fun _ => 0, 0) := by
  show (if 0 = 0 then gi w 0 else _) = _
  rw [if_pos rfl]; rfl
theorem gi_fin {w : Nat → Nat} {i : Nat} (h0 : i ≠ 0) (h1 : isD (w i)) (h2 : w (i - 1) = 33) : gi w (i + 1) = ((gi w i).1, (gi w i).2 ||| 2 ^ (w i - 48)) := by
  rw [gi, if_neg h0, if_pos ⟨h1, h2⟩]
theorem gi_tr {w : Nat → Nat} {i : Nat} (h1 : isD (w i)) (h2 : isL (w (i - 1))) (h3 : 2 ≤ i) (h4 : isD (w (i - 2))) : gi w (i + 1) = (va_up (gi w i).1 ((w (i - 2) - 48) * 3 + (w (i - 1) - 97)) ((gi w i).1 ((w (i - 2) - 48) * 3 + (w (i - 1) - 97)) ||| 2 ^ (w i - 48)), (gi w i).2) := by
  rw [gi, if_neg (by omega), if_neg (by omega), if_pos ⟨h1, h2, h3, h4⟩]
theorem gi_no {w : Nat → Nat} {i : Nat} (h1 : ¬ (isD (w i) ∧ w (i - 1) = 33)) (h2 : ¬ (isD (w i) ∧ isL (w (i - 1)) ∧ 2 ≤ i ∧ isD (w (i - 2)))) : gi w (i + 1) = gi w i := by
  rw [gi]
  by_cases h0 : i = 0
  · rw [if_pos h0]
  · rw [if_neg h0, if_neg h1, if_neg h2]
theorem gi_lt (w : Nat → Nat) : ∀ i, (∀ k, (gi w i).1 k < 32) ∧ (gi w i).2 < 32
  | 0 => ⟨fun _ => (by decide : 0 < 32), (by decide : 0 < 32)⟩
  | i + 1 => by
    have ih := gi_lt w i
    have p5 : ∀ k, k < 5 → 2 ^ k < 32 := by decide
    rw [gi]
    split
    · exact ih
    · split
      · rename_i h; exact ⟨ih.1, or32 ih.2 (p5 _ (by omega))⟩
      · split
        · rename_i h
          refine ⟨fun k => ?_, ih.2⟩
          show va_up _ _ _ k < 32
          unfold va_up
          split
          · exact or32 (ih.1 _) (p5 _ (by omega))
          · exact ih.1 k
        · exact ih
/-- the class's text: at most 40 signs from 33 to 126 -/
def OkX (σ : SS) : Prop := σ.1 1 ≤ 40 ∧ (∀ k, k < σ.1 1 → 33 ≤ σ.2.1 12 k ∧ σ.2.1 12 k < 127)
theorem sbD {c : Nat} (hc : c < 127) : sb c 48 < 5 ↔ isD c := sb_small (n := 5) (by omega) (by decide) (by decide)
theorem sbL {c : Nat} (hc : c < 127) : sb c 97 < 3 ↔ isL c := sb_small (n := 3) (by omega) (by decide) (by decide)
theorem giA1 {w f : Nat → Nat} {i : Nat} (h0 : i ≠ 0) (hb : ∀ k, k ≤ i → w k < 127) (hs : sb (w i) 48 < 5) (h33 : w (i - 1) = 33) (h2 : ∀ k, k < 15 → f k = (gi w i).1 k) : ∀ k, k < 15 → f k = (gi w (i + 1)).1 k := by
  rw [gi_fin h0 ((sbD (hb i (by omega))).mp hs) h33]; exact h2
theorem giA2 {w : Nat → Nat} {i v : Nat} (h0 : i ≠ 0) (hb : ∀ k, k ≤ i → w k < 127) (hs : sb (w i) 48 < 5) (h33 : w (i - 1) = 33) (h3 : v = (gi w i).2) : v ||| 2 ^ (sb (w i) 48) = (gi w (i + 1)).2 := by
  have hd := (sbD (hb i (by omega))).mp hs
  rw [gi_fin h0 hd h33, h3, sb_eq hd.1]
theorem giB1 {w f f2 : Nat → Nat} {i : Nat} (hb : ∀ k, k ≤ i → w k < 127) (hs : sb (w i) 48 < 5) (hn : w (i - 1) ≠ 33) (hl : sb (w (i - 1)) 97 < 3) (hi : 2 ≤ i)
    (e : f2 = if sb (w (i - 2)) 48 < 5 then va_up f (sb (w (i - 2)) 48 * 3 + sb (w (i - 1)) 97) (f (sb (w (i - 2)) 48 * 3 + sb (w (i - 1)) 97) ||| 2 ^ (sb (w i) 48)) else f) (h2 : ∀ k, k < 15 → f k = (gi w i).1 k) : ∀ k, k < 15 → f2 k = (gi w (i + 1)).1 k := by
  have hd := (sbD (hb i (by omega))).mp hs
  have hL := (sbL (hb (i - 1) (by omega))).mp hl
  intro k hk
  by_cases q : sb (w (i - 2)) 48 < 5
  · have h4 := (sbD (hb (i - 2) (by omega))).mp q
    rw [gi_tr hd hL hi h4, e, if_pos q, sb_eq hd.1, sb_eq hL.1, sb_eq h4.1]
    show va_up _ _ _ k = va_up _ _ _ k
    unfold va_up
    rw [h2 _ (by omega), h2 k hk]
  · rw [gi_no (by omega) (fun z => q ((sbD (hb (i - 2) (by omega))).mpr z.2.2.2)), e, if_neg q]
    exact h2 k hk
theorem giB2 {w : Nat → Nat} {i v : Nat} (hb : ∀ k, k ≤ i → w k < 127) (hs : sb (w i) 48 < 5) (hn : w (i - 1) ≠ 33) (hl : sb (w (i - 1)) 97 < 3) (hi : 2 ≤ i) (h3 : v = (gi w i).2) : v = (gi w (i + 1)).2 := by
  have hd := (sbD (hb i (by omega))).mp hs
  have hL := (sbL (hb (i - 1) (by omega))).mp hl
  by_cases q : sb (w (i - 2)) 48 < 5
  · rw [gi_tr hd hL hi ((sbD (hb (i - 2) (by omega))).mp q)]; exact h3
  · rw [gi_no (by omega) (fun z => q ((sbD (hb (i - 2) (by omega))).mpr z.2.2.2))]; exact h3
theorem giC {w : Nat → Nat} {i : Nat} (hb : ∀ k, k ≤ i → w k < 127) (h1 : ¬ (sb (w i) 48 < 5 ∧ w (i - 1) = 33)) (h2 : ¬ (sb (w i) 48 < 5 ∧ sb (w (i - 1)) 97 < 3 ∧ 2 ≤ i)) : gi w (i + 1) = gi w i :=
  gi_no (fun z => h1 ⟨(sbD (hb i (by omega))).mpr z.1, z.2⟩) (fun z => h2 ⟨(sbD (hb i (by omega))).mpr z.1, (sbL (hb (i - 1) (by omega))).mpr z.2.1, z.2.2.1⟩)
theorem fltC_cases (w : Nat → Nat) (n : Nat) : (fltC w n = 4294967295 ∧ (fltC w n ≤ n ∨ 1 ≤ n)) ∨ fltC w n ≤ n := by
  unfold fltC
  split
  · right; omega
  · split
    · rename_i h
      left
      refine ⟨rfl, Or.inr ?_⟩
      rcases Nat.eq_zero_or_pos n with q | q
      · rw [q] at h; exact absurd (show (0 : Nat) = 4 from h) (by decide)
      · exact q
    · right; omega
