/-! ===== reading the text: the reference's way and the class's stages ===== -/
def TxG (w : Nat → Nat) (n at0 : Nat) : Prop := at0 ≤ n ∧ ∀ k, k ≤ at0 → stgs w k ≠ 5
def TxT (w nw th : Nat → Nat) (at0 : Nat) : Prop := (∀ k, k < 15 → th k = nw k ||| (gi w at0).1 k) ∧ th 15 = nw 15 ||| (gi w at0).2
theorem tx_hit {w : Nat → Nat} {n k : Nat} (h : TxG w n k) (hk : k < n) (h5 : stg (stgs w k) (w k) = 5) : fltC w n = k := fltC_hit hk h5 (fun j hj => h.2 (j + 1) (by omega))
theorem tx_end {w : Nat → Nat} {n : Nat} (h : TxG w n n) (h4 : stgs w n ≠ 4) : fltC w n = n := by
  rw [fltC_end (fun j hj => h.2 (j + 1) (by omega)), if_neg h4]
theorem tx_e {w : Nat → Nat} {n k : Nat} (h : TxG w n k) (hk : n ≤ k) (h4 : stgs w k ≠ 4) : fltC w n = k := by
  have e : k = n := by have := h.1; omega
  subst e; exact tx_end h h4
theorem tx_ok {w : Nat → Nat} {n : Nat} (h : TxG w n n) (h4 : stgs w n = 4) : fltC w n = 4294967295 := by
  rw [fltC_end (fun j hj => h.2 (j + 1) (by omega)), if_pos h4]
theorem tx_s {w : Nat → Nat} {n k : Nat} (h : TxG w n k) (hk : k < n) (h5 : stg (stgs w k) (w k) ≠ 5) : TxG w n (k + 1) := ⟨hk, fun j hj => by
  rcases Nat.lt_or_ge j (k + 1) with q | q
  · exact h.2 j (by omega)
  · rw [show j = k + 1 by omega]; exact h5⟩
theorem stg_0 {s c : Nat} (h : stg s c = 0) : c = 44 := by
  unfold stg at h
  repeat' split at h
  all_goals first | assumption | (exfalso; exact absurd h (by decide))
theorem stgs_0 {w : Nat → Nat} {k : Nat} (h : stgs w k = 0) : k = 0 ∨ w (k - 1) = 44 := by
  cases k with
  | zero => exact Or.inl rfl
  | succ k => exact Or.inr (stg_0 h)
theorem sgn_c {w : Nat → Nat} {n at0 lo hi r a2 f2 : Nat} (h : (r, a2, f2) = sgn w n at0 4294967295 lo hi) : (at0 < n ∧ lo ≤ w at0 ∧ w at0 ≤ hi ∧ r = w at0 - lo ∧ a2 = at0 + 1 ∧ f2 = 4294967295) ∨ (¬ (at0 < n ∧ lo ≤ w at0 ∧ w at0 ≤ hi) ∧ r = 0 ∧ a2 = at0 ∧ f2 = at0) := by
  unfold sgn at h
  rw [if_neg (by decide)] at h
  split at h
  · rename_i q
    simp only [Prod.mk.injEq] at h
    exact Or.inr ⟨by omega, h.1, h.2.1, h.2.2⟩
  · rename_i q
    simp only [Prod.mk.injEq] at h
    exact Or.inl ⟨by omega, by omega, by omega, h.1, h.2.1, h.2.2⟩
theorem sgn_f {w : Nat → Nat} {n at0 fl lo hi r a2 f2 : Nat} (hf : fl < 2147483648) (h : (r, a2, f2) = sgn w n at0 fl lo hi) : r = 0 ∧ a2 = at0 ∧ f2 = fl := by
  unfold sgn at h
  rw [if_pos hf] at h
  simp only [Prod.mk.injEq] at h
  exact h
theorem sgn_b {w : Nat → Nat} {n at0 fl lo hi r a2 f2 : Nat} (hh : lo ≤ hi) (h : (r, a2, f2) = sgn w n at0 fl lo hi) (hf : fl < 4294967296) (hn : n ≤ 40) (ha : at0 ≤ 40) : r ≤ hi - lo ∧ a2 ≤ 40 ∧ f2 < 4294967296 ∧ (f2 < 2147483648 → fl < 2147483648 ∨ f2 = at0) := by
  unfold sgn at h
  split at h
  · simp only [Prod.mk.injEq] at h; omega
  · split at h
    · simp only [Prod.mk.injEq] at h; omega
    · simp only [Prod.mk.injEq] at h; omega
/-- one transition: three signs -/
theorem rd_3 {w : Nat → Nat} {n at0 r1 a1 f1 r2 a2 f2 r3 a3 f3 : Nat} (hn : n ≤ 40) (hg : TxG w n at0) (h0 : stgs w at0 = 0) (h33 : ¬ (at0 < n ∧ w at0 = 33)) (h1 : (r1, a1, f1) = sgn w n at0 4294967295 48 52) (h2 : (r2, a2, f2) = sgn w n a1 f1 97 99) (h3 : (r3, a3, f3) = sgn w n a2 f2 48 52) :
    (f3 < 2147483648 ∧ f3 = fltC w n) ∨ (f3 = 4294967295 ∧ at0 + 3 ≤ n ∧ isD (w at0) ∧ isL (w (at0 + 1)) ∧ isD (w (at0 + 2)) ∧ r1 = w at0 - 48 ∧ r2 = w (at0 + 1) - 97 ∧ r3 = w (at0 + 2) - 48 ∧ a3 = at0 + 3 ∧ TxG w n (at0 + 3) ∧ stgs w (at0 + 3) = 4) := by
  have hg0 := hg.1
  rcases sgn_c h1 with ⟨p1, p2, p3, p4, p5, p6⟩ | ⟨p1, p2, p3, p4⟩
  · have s1 : stgs w (at0 + 1) = 1 := by
      show stg (stgs w at0) (w at0) = 1
      rw [h0]; unfold stg; rw [if_pos rfl, if_pos (by omega)]
    have g1 : TxG w n (at0 + 1) := tx_s hg p1 (by show stgs w (at0 + 1) ≠ 5; rw [s1]; decide)
    subst p5 p6
    rcases sgn_c h2 with ⟨q1, q2, q3, q4, q5, q6⟩ | ⟨q1, q2, q3, q4⟩
    · have s2 : stgs w (at0 + 1 + 1) = 2 := by
        show stg (stgs w (at0 + 1)) (w (at0 + 1)) = 2
        rw [s1]; unfold stg; rw [if_neg (by decide), if_pos rfl, if_pos (by omega)]
      have g2 : TxG w n (at0 + 1 + 1) := tx_s g1 q1 (by show stgs w (at0 + 1 + 1) ≠ 5; rw [s2]; decide)
      subst q5 q6
      rcases sgn_c h3 with ⟨t1, t2, t3, t4, t5, t6⟩ | ⟨t1, t2, t3, t4⟩
      · have s3 : stgs w (at0 + 1 + 1 + 1) = 4 := by
          show stg (stgs w (at0 + 1 + 1)) (w (at0 + 1 + 1)) = 4
          rw [s2]; unfold stg; rw [if_neg (by decide), if_neg (by decide), if_pos (by decide), if_pos (by omega)]
        have g3 : TxG w n (at0 + 1 + 1 + 1) := tx_s g2 t1 (by show stgs w (at0 + 1 + 1 + 1) ≠ 5; rw [s3]; decide)
        refine Or.inr ⟨t6, by omega, by omega, by omega, ?_, by omega, by omega, ?_, by omega, g3, s3⟩
        · show isD (w (at0 + 1 + 1)); omega
        · show r3 = w (at0 + 1 + 1) - 48; omega
      · left
        subst t4
        refine ⟨by omega, ?_⟩
        rcases Nat.lt_or_ge (at0 + 1 + 1) n with z | z
        · rw [tx_hit g2 z (by rw [s2]; unfold stg; rw [if_neg (by decide), if_neg (by decide), if_pos (by decide), if_neg (by omega)])]
        · rw [tx_e g2 z (by rw [s2]; decide)]
    · left
      obtain ⟨-, -, e3⟩ := sgn_f (by omega) h3
      subst q4
      refine ⟨by omega, ?_⟩
      rcases Nat.lt_or_ge (at0 + 1) n with z | z
      · rw [tx_hit g1 z (by rw [s1]; unfold stg; rw [if_neg (by decide), if_pos rfl, if_neg (by omega)])]; exact e3
      · rw [tx_e g1 z (by rw [s1]; decide)]; exact e3
  · left
    obtain ⟨-, -, e2⟩ := sgn_f (by omega) h2
    obtain ⟨-, -, e3⟩ := sgn_f (by omega) h3
    refine ⟨by omega, ?_⟩
    rcases Nat.lt_or_ge at0 n with z | z
    · rw [tx_hit hg z (by rw [h0]; unfold stg; rw [if_pos rfl, if_neg (by omega), if_neg (fun q => h33 ⟨z, q⟩)])]; omega
    · rw [tx_e hg z (by rw [h0]; decide)]; omega
theorem rd_1 {w : Nat → Nat} {n at0 r1 a1 f1 : Nat} (hn : n ≤ 40) (hg : TxG w n at0) (h0 : stgs w at0 = 0) (h33 : at0 < n ∧ w at0 = 33) (h1 : (r1, a1, f1) = sgn w n (at0 + 1) 4294967295 48 52) :
    (f1 < 2147483648 ∧ f1 = fltC w n) ∨ (f1 = 4294967295 ∧ at0 + 2 ≤ n ∧ isD (w (at0 + 1)) ∧ r1 = w (at0 + 1) - 48 ∧ a1 = at0 + 2 ∧ TxG w n (at0 + 2) ∧ stgs w (at0 + 2) = 4) := by
  have s1 : stgs w (at0 + 1) = 3 := by
    show stg (stgs w at0) (w at0) = 3
    rw [h0]; unfold stg; rw [if_pos rfl, if_neg (by omega), if_pos h33.2]
  have g1 : TxG w n (at0 + 1) := tx_s hg h33.1 (by show stgs w (at0 + 1) ≠ 5; rw [s1]; decide)
  rcases sgn_c h1 with ⟨p1, p2, p3, p4, p5, p6⟩ | ⟨p1, p2, p3, p4⟩
  · have s2 : stgs w (at0 + 1 + 1) = 4 := by
      show stg (stgs w (at0 + 1)) (w (at0 + 1)) = 4
      rw [s1]; unfold stg; rw [if_neg (by decide), if_neg (by decide), if_pos (by decide), if_pos (by omega)]
    have g2 : TxG w n (at0 + 1 + 1) := tx_s g1 p1 (by show stgs w (at0 + 1 + 1) ≠ 5; rw [s2]; decide)
    exact Or.inr ⟨p6, by omega, by omega, p4, by omega, g2, s2⟩
  · left
    have := g1.1
    refine ⟨by omega, ?_⟩
    rcases Nat.lt_or_ge (at0 + 1) n with z | z
    · rw [tx_hit g1 z (by rw [s1]; unfold stg; rw [if_neg (by decide), if_neg (by decide), if_pos (by decide), if_neg (by omega)])]; exact p4
    · rw [tx_e g1 z (by rw [s1]; decide)]; exact p4
theorem gi_same {w : Nat → Nat} {k : Nat} (h : stgs w k = 0) : gi w (k + 1) = gi w k := by
  rcases stgs_0 h with e | e
  · subst e; exact gi_1 w
  · exact gi_no (fun q => by omega) (fun q => by omega)
theorem gi_3 {w : Nat → Nat} {k : Nat} (h : stgs w k = 0) (h1 : isD (w k)) (h2 : isL (w (k + 1))) (h3 : isD (w (k + 2))) : gi w (k + 3) = (va_up (gi w k).1 (3 * (w k - 48) + (w (k + 1) - 97)) ((gi w k).1 (3 * (w k - 48) + (w (k + 1) - 97)) ||| 2 ^ (w (k + 2) - 48)), (gi w k).2) := by
  have e1 := gi_same h
  have e2 : gi w (k + 2) = gi w (k + 1) := gi_no (i := k + 1) (fun q => by omega) (fun q => by omega)
  have e3 := gi_tr (w := w) (i := k + 2) h3 (by rw [show k + 2 - 1 = k + 1 by omega]; exact h2) (by omega) (by rw [show k + 2 - 2 = k by omega]; exact h1)
  rw [show k + 2 - 1 = k + 1 by omega, show k + 2 - 2 = k by omega, e2, e1, Nat.mul_comm (w k - 48) 3] at e3
  exact e3
theorem gi_2 {w : Nat → Nat} {k : Nat} (h : stgs w k = 0) (h1 : w k = 33) (h3 : isD (w (k + 1))) : gi w (k + 2) = ((gi w k).1, (gi w k).2 ||| 2 ^ (w (k + 1) - 48)) := by
  have e1 := gi_same h
  have e3 := gi_fin (w := w) (i := k + 1) (by omega) h3 (by rw [show k + 1 - 1 = k by omega]; exact h1)
  rw [e1] at e3
  exact e3
theorem gi_c {w : Nat → Nat} {k : Nat} (h : w k = 44) : gi w (k + 1) = gi w k := gi_no (fun q => by omega) (fun q => by omega)
theorem txt_3 {w nw th : Nat → Nat} {k : Nat} (h : TxT w nw th k) (h0 : stgs w k = 0) (h1 : isD (w k)) (h2 : isL (w (k + 1))) (h3 : isD (w (k + 2))) :
    TxT w nw (va_up th (3 * (w k - 48) + (w (k + 1) - 97)) (th (3 * (w k - 48) + (w (k + 1) - 97)) ||| 2 ^ (w (k + 2) - 48))) (k + 3) := by
  unfold TxT
  rw [gi_3 h0 h1 h2 h3]
  refine ⟨fun j hj => ?_, by rw [va_up, if_neg (by omega)]; exact h.2⟩
  show va_up _ _ _ j = nw j ||| va_up _ _ _ j
  unfold va_up
  split
  · rename_i e; subst e; rw [h.1 _ hj, Nat.or_assoc]
  · exact h.1 j hj
theorem txt_2 {w nw th : Nat → Nat} {k : Nat} (h : TxT w nw th k) (h0 : stgs w k = 0) (h1 : w k = 33) (h3 : isD (w (k + 1))) :
    TxT w nw (va_up th 15 (th 15 ||| 2 ^ (w (k + 1) - 48))) (k + 2) := by
  unfold TxT
  rw [gi_2 h0 h1 h3]
  refine ⟨fun j hj => by rw [va_up, if_neg (by omega)]; exact h.1 j hj, ?_⟩
  rw [va_up, if_pos rfl, h.2, Nat.or_assoc]
theorem txt_c {w nw th : Nat → Nat} {k : Nat} (h : TxT w nw th k) (h1 : w k = 44) : TxT w nw th (k + 1) := by
  unfold TxT; rw [gi_c h1]; exact h
/-- where the loop of addText stands -/
def TxL (w nw : Nat → Nat) (n at0 fl : Nat) (th : Nat → Nat) : Prop := at0 ≤ 40 ∧ ((fl = fltC w n ∧ fl < 2147483648) ∨ (fl = 4294967295 ∧ TxG w n at0 ∧ stgs w at0 = 4 ∧ TxT w nw th at0))
def msx (fl at0 : Nat) : Nat := if fl < 2147483648 then 0 else 42 - at0
theorem ms_d {fl at0 fl2 at2 fu : Nat} (hf : msx fl at0 < fu + 1) (h0 : 2147483648 ≤ fl) (ha : at0 < 40) (h : fl2 < 2147483648 ∨ at0 < at2) : msx fl2 at2 < fu := by
  unfold msx at *
  rw [if_neg (by omega)] at hf
  split <;> omega
theorem rd_c {w : Nat → Nat} {n at0 r a2 f2 : Nat} (hn : n ≤ 40) (hg : TxG w n at0) (h4 : stgs w at0 = 4) (hlt : at0 < n) (h : (r, a2, f2) = sgn w n at0 4294967295 44 44) : (f2 < 2147483648 ∧ f2 = fltC w n) ∨ (f2 = 4294967295 ∧ w at0 = 44 ∧ a2 = at0 + 1 ∧ TxG w n (at0 + 1) ∧ stgs w (at0 + 1) = 0) := by
  rcases sgn_c h with ⟨p1, p2, p3, p4, p5, p6⟩ | ⟨p1, p2, p3, p4⟩
  · have s1 : stgs w (at0 + 1) = 0 := by
      show stg (stgs w at0) (w at0) = 0
      rw [h4]; unfold stg; rw [if_neg (by decide), if_neg (by decide), if_neg (by decide), if_pos (by omega)]
    exact Or.inr ⟨p6, by omega, p5, tx_s hg p1 (by show stgs w (at0 + 1) ≠ 5; rw [s1]; decide), s1⟩
  · have e : fltC w n = at0 := tx_hit hg hlt (by rw [h4]; unfold stg; rw [if_neg (by decide), if_neg (by decide), if_neg (by decide), if_neg (by omega)])
    have := fltC_cases w n
    exact Or.inl ⟨by omega, by omega⟩
