theorem gCrE (g : GC) (σ : SS) (tl : va_W) (j : Nat) (hj : j < 9) {f : Nat → Nat} (h : σ.2.2 (2 + j) = f) : (wC g σ ++ tl)[8 + j]? = some (g.2.2.2 (8 + j), .inl (g.2.2.1 0, 58, .inl (fun k => nI (f k)))) := by
  rw [gCr g σ tl j hj, h]
theorem pT_at (T : Nat → Nat) (a b : Nat) {c : Nat} (hc : c < 5) : pT T (15 * a + 5 * b + c) = (T (a * 3 + b)).testBit c := by
  unfold pT
  rw [show (15 * a + 5 * b + c) / 5 = a * 3 + b by omega, show (15 * a + 5 * b + c) % 5 = c by omega]
theorem cdT_at (a b c : Nat) (hb : b < 3) (hc : c < 5) : cdT (15 * a + 5 * b + c) = 100 * a + 10 * b + c := by
  unfold cdT
  rw [show (15 * a + 5 * b + c) / 15 = a by omega, show (15 * a + 5 * b + c) / 5 % 3 = b by omega, show (15 * a + 5 * b + c) % 5 = c by omega]
