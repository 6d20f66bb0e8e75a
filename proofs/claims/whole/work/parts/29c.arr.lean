/-- how often each letter stands in a word -/
def cntW (w : Nat → Nat) (n : Nat) : Nat → Nat := fun x => fb_ct (fun j => decide (w j = x)) n
theorem cntW_sum {w : Nat → Nat} : ∀ n, (∀ i, i < n → w i < 3) → cntW w n 0 + cntW w n 1 + cntW w n 2 = n
  | 0, _ => rfl
  | n + 1, h => by
    have ih := cntW_sum n (fun i hi => h i (by omega))
    have hn := h n (by omega)
    unfold cntW at *
    rw [fb_ct_succ, fb_ct_succ, fb_ct_succ]
    rcases (by omega : w n = 0 ∨ w n = 1 ∨ w n = 2) with e | e | e <;> simp only [e] <;> simp <;> omega
theorem cntW_put {f w : Nat → Nat} {i : Nat} (h : ∀ x, x < 3 → f x = cntW w i x) (hw : w i < 3) : ∀ x, x < 3 → va_up f (w i) (f (w i) + 1) x = cntW w (i + 1) x := by
  intro x hx
  show _ = fb_ct (fun j => decide (w j = x)) i + _
  unfold va_up
  split
  · rename_i e; subst e; rw [if_pos (by simp), h _ hw]; rfl
  · rename_i e; rw [if_neg (by simpa using fun q => e q.symm), h x hx]; rfl
theorem op_cases {T tab : Nat → Nat} {fin k m cd x : Nat} (hx : x ≤ 3) (h : ∀ y, y < x → ¬ opP T tab fin k (stp T y m) (cd + wt y)) (h3 : x = 3) : ¬ opP T tab fin (k + 1) m cd := by
  rintro ⟨y, hy, q⟩
  exact h y (by omega) q
