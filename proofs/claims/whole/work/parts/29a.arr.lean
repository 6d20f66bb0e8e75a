theorem ar_le3 (f : Nat → Nat) (x : Nat) (hx : x < 3) : f x ≤ f 0 + f 1 + f 2 := by
  rcases (by omega : x = 0 ∨ x = 1 ∨ x = 2) with rfl | rfl | rfl <;> omega
theorem ar_sum (f : Nat → Nat) (x : Nat) (hx : x < 3) (h0 : 0 < f x) : va_up f x (f x - 1) 0 + va_up f x (f x - 1) 1 + va_up f x (f x - 1) 2 = f 0 + f 1 + f 2 - 1 := by
  rcases (by omega : x = 0 ∨ x = 1 ∨ x = 2) with rfl | rfl | rfl
  · show f 0 - 1 + f 1 + f 2 = _; omega
  · show f 0 + (f 1 - 1) + f 2 = _; omega
  · show f 0 + f 1 + (f 2 - 1) = _; omega
theorem ar_vu {f lf : Nat → Nat} {x : Nat} (h : ∀ x, x < 3 → f x = lf x) (hx : x < 3) : ∀ y, y < 3 → va_up f x (f x - 1) y = va_up lf x (lf x - 1) y := by
  intro y hy
  unfold va_up
  split
  · rw [h x hx]
  · exact h y hy
theorem ar_lf {f2 f1 lf : Nat → Nat} {x0 : Nat} (h1 : ∀ x, x < 3 → f1 x = lf x) (h2 : ∀ x, x < 3 → f2 x = va_up f1 x0 (f1 x0 - 1) x) (h0 : x0 < 3 ∧ 0 < f1 x0) : ∀ x, x < 3 → va_up f2 x0 (f2 x0 + 1) x = lf x := by
  intro x hx
  unfold va_up
  split
  · rename_i e; subst e; rw [h2 x hx, va_up, if_pos rfl, ← h1 x hx]; omega
  · rename_i e; rw [h2 x hx, va_up, if_neg e]; exact h1 x hx
theorem ar_cum {T : Nat → Nat} {fin k K m : Nat} {lf : Nat → Nat} (n : Nat) (hn : n ≤ 3) (eK : K = k + 1) : fb_sm (arrB T fin k lf m) n ≤ 3 ^ K := by
  subst eK
  have h := fb_sm_bound (f := arrB T fin k lf m) (c := 3 ^ k) (n := n) (fun x _ => by
    show (if 0 < lf x then _ else _) ≤ _
    split
    · exact arrN_le T fin k _ _
    · exact Nat.zero_le _)
  have h2 : n * 3 ^ k ≤ 3 * 3 ^ k := Nat.mul_le_mul_right _ hn
  rw [Nat.pow_succ]; omega
theorem ar_hs {T : Nat → Nat} {fin k K m x : Nat} {lf : Nat → Nat} {s : Nat} (hs : s + 3 ^ K ≤ 10000) (eK : K = k + 1) (h : fb_sm (arrB T fin k lf m) x ≤ 3 ^ K) (h2 : x < 3 := by omega) : s + fb_sm (arrB T fin k lf m) x + 3 ^ k ≤ 10000 := by
  subst eK
  have h1 := fb_sm_bound (f := arrB T fin k lf m) (c := 3 ^ k) (n := x) (fun x _ => by
    show (if 0 < lf x then _ else _) ≤ _
    split
    · exact arrN_le T fin k _ _
    · exact Nat.zero_le _)
  have h3 : x * 3 ^ k ≤ 2 * 3 ^ k := Nat.mul_le_mul_right _ (by omega)
  rw [Nat.pow_succ] at hs; omega
theorem ar_s0 {T : Nat → Nat} {fin k m x s sn : Nat} {lf : Nat → Nat} (h : sn = s + fb_sm (arrB T fin k lf m) x) (h2 : ¬ 0 < lf x ∨ stp T x m = 0) : sn = s + fb_sm (arrB T fin k lf m) (x + 1) := by
  rw [h, fb_sm_succ]
  have : arrB T fin k lf m x = 0 := by
    show (if 0 < lf x then _ else _) = 0
    rcases h2 with q | q
    · rw [if_neg q]
    · rw [q, arrN_0]; split <;> rfl
  omega
theorem ar_s1 {T : Nat → Nat} {fin k m x s sn sn2 N : Nat} {lf : Nat → Nat} (h : sn = s + fb_sm (arrB T fin k lf m) x) (h0 : 0 < lf x) (h1 : sn2 = sn + N) (eN : N = arrN T fin k (va_up lf x (lf x - 1)) (stp T x m)) : sn2 = s + fb_sm (arrB T fin k lf m) (x + 1) := by
  rw [h1, h, fb_sm_succ, eN]
  have : arrB T fin k lf m x = arrN T fin k (va_up lf x (lf x - 1)) (stp T x m) := if_pos h0
  omega
theorem ar_hit {T : Nat → Nat} {fin k K m x s sn wv N : Nat} {lf f1 : Nat → Nat} (h : sn = s + fb_sm (arrB T fin k lf m) x) (h5 : ¬ (s ≤ wv ∧ wv < sn)) (eK : K = k + 1) (hx : x ≤ 3) (hh : sn ≤ wv ∧ wv < sn + N) (h0 : x < 3 ∧ 0 < f1 x) (h3 : ∀ x, x < 3 → f1 x = lf x) (eN : N = arrN T fin k (va_up lf x (lf x - 1)) (stp T x m)) : s ≤ wv ∧ wv < s + arrN T fin K lf m := by
  subst eK
  have e1 : arrB T fin k lf m x = N := by rw [eN]; exact if_pos (by rw [← h3 x h0.1]; exact h0.2)
  have e2 := fb_sm_part (arrB T fin k lf m) h0.1
  show s ≤ wv ∧ wv < s + fb_sm (arrB T fin k lf m) 3
  omega
theorem ar_is {T : Nat → Nat} {fin k K m x s sn wv N d : Nat} {lf f1 w : Nat → Nat} (h : sn = s + fb_sm (arrB T fin k lf m) x) (eK : K = k + 1) (hx : x < 3) (h3 : ∀ x, x < 3 → f1 x = lf x) (hh : sn ≤ wv ∧ wv < sn + N) (hi : isArr T fin k (va_up f1 x (f1 x - 1)) (stp T x m) (wv - sn) (fun i => w (d + 1 + i))) (hw : w d = x) (h0 : 0 < f1 x ∧ f1 x < 2147483648) (eN : N = arrN T fin k (va_up lf x (lf x - 1)) (stp T x m)) : isArr T fin K lf m (wv - s) (fun i => w (d + i)) := by
  subst eK
  have h0' : 0 < lf x := by rw [← h3 x hx]; exact h0.1
  have e1 : arrB T fin k lf m x = N := by rw [eN]; exact if_pos h0'
  refine ⟨x, hx, h0', by omega, by rw [fb_sm_succ]; omega, hw, ?_⟩
  rw [show wv - s - fb_sm (arrB T fin k lf m) x = wv - sn by omega]
  exact isArr_cong T fin k _ _ _ _ _ _ (ar_vu h3 hx) (fun i _ => by show w (d + 1 + i) = w (d + (i + 1)); rw [show d + 1 + i = d + (i + 1) by omega]) hi
