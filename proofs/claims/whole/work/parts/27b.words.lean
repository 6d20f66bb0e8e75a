/-! ===== words: runs, accepted words in order, arrangements, words that are accepted jumping alone ===== -/
def rn (T w : Nat → Nat) : Nat → Nat → Nat
  | 0, q => if q = 0 then 1 else 0
  | i + 1, q => fb_sm (fun p => if (T (p * 3 + w i)).testBit q = true then rn T w i p else 0) 5
def dpI (T : Nat → Nat) : Nat → Nat → Nat
  | 0, m => if m = 1 then 1 else 0
  | i + 1, z => fb_sm (fun m => fb_sm (fun l => if stp T l m = z then dpI T i m else 0) 3) 32
/-- a sum under one more term at one place alone -/
theorem sm_up {f g : Nat → Nat} {k n a b : Nat} (h : ∀ q, q < n → f q = if q < k then a else b) (hk : k < n) : True := trivial
/-- accepted arrangements of the letters that are left -/
def arrN (T : Nat → Nat) (fin : Nat) : Nat → (Nat → Nat) → Nat → Nat
  | 0, _, m => if m &&& fin ≠ 0 then 1 else 0
  | k + 1, lf, m => fb_sm (fun x => if 0 < lf x then arrN T fin k (va_up lf x (lf x - 1)) (stp T x m) else 0) 3
abbrev arrB (T : Nat → Nat) (fin k : Nat) (lf : Nat → Nat) (m x : Nat) : Nat := if 0 < lf x then arrN T fin k (va_up lf x (lf x - 1)) (stp T x m) else 0
theorem arrN_cong (T : Nat → Nat) (fin : Nat) : ∀ k (lf lf2 : Nat → Nat) (m : Nat), (∀ x, x < 3 → lf x = lf2 x) → arrN T fin k lf m = arrN T fin k lf2 m
  | 0, _, _, _, _ => rfl
  | k + 1, lf, lf2, m, h => by
    rw [arrN, arrN]
    apply fb_sm_cong
    intro x hx
    show (if 0 < lf x then _ else _) = (if 0 < lf2 x then _ else _)
    rw [h x hx]
    split
    · apply arrN_cong T fin k
      intro y hy
      unfold va_up
      split
      · rfl
      · exact h y hy
    · rfl
theorem stp_m0 (T : Nat → Nat) (x : Nat) : stp T x 0 = 0 := stp_0 T x
theorem arrN_0 (T : Nat → Nat) (fin : Nat) : ∀ k (lf : Nat → Nat), arrN T fin k lf 0 = 0
  | 0, _ => by rw [arrN, if_neg]; simp
  | k + 1, lf => by
    rw [arrN]
    have : ∀ x, x < 3 → (if 0 < lf x then arrN T fin k (va_up lf x (lf x - 1)) (stp T x 0) else 0) = 0 := fun x _ => by
      rw [stp_m0, arrN_0 T fin k]; split <;> rfl
    rw [fb_sm_cong (g := fun _ => 0) this, fb_sm_const]
theorem arrN_le (T : Nat → Nat) (fin : Nat) : ∀ k (lf : Nat → Nat) (m : Nat), arrN T fin k lf m ≤ 3 ^ k
  | 0, _, _ => by rw [arrN]; split <;> decide
  | k + 1, lf, m => by
    rw [arrN]
    refine Nat.le_trans (fb_sm_bound (c := 3 ^ k) (fun x _ => ?_)) (by rw [Nat.pow_succ]; omega)
    split
    · exact arrN_le T fin k _ _
    · exact Nat.zero_le _
/-- the letters of the arrangement of rank r -/
def isArr (T : Nat → Nat) (fin : Nat) : Nat → (Nat → Nat) → Nat → Nat → (Nat → Nat) → Prop
  | 0, _, _, _, _ => True
  | k + 1, lf, m, r, w => ∃ x, x < 3 ∧ 0 < lf x ∧ fb_sm (arrB T fin k lf m) x ≤ r ∧ r < fb_sm (arrB T fin k lf m) (x + 1) ∧ w 0 = x ∧ isArr T fin k (va_up lf x (lf x - 1)) (stp T x m) (r - fb_sm (arrB T fin k lf m) x) (fun i => w (i + 1))
theorem isArr_cong (T : Nat → Nat) (fin : Nat) : ∀ k (lf lf2 : Nat → Nat) (m r : Nat) (w w2 : Nat → Nat), (∀ x, x < 3 → lf x = lf2 x) → (∀ i, i < k → w i = w2 i) → isArr T fin k lf m r w → isArr T fin k lf2 m r w2
  | 0, _, _, _, _, _, _, _, _, _ => trivial
  | k + 1, lf, lf2, m, r, w, w2, h, hw, hi => by
    obtain ⟨x, hx, h0, h1, h2, h3, h4⟩ := hi
    have hv : ∀ y, y < 3 → ∀ z, z < 3 → va_up lf y (lf y - 1) z = va_up lf2 y (lf2 y - 1) z := fun y hy z hz => by
      unfold va_up
      split
      · rw [h y hy]
      · exact h z hz
    have hs : ∀ n, n ≤ 3 → fb_sm (arrB T fin k lf m) n = fb_sm (arrB T fin k lf2 m) n := fun n hn => fb_sm_cong fun y hy => by
      show (if 0 < lf y then _ else _) = (if 0 < lf2 y then _ else _)
      rw [h y (by omega), arrN_cong T fin k _ (va_up lf2 y (lf2 y - 1)) _ (by rw [← h y (by omega)]; exact fun z hz => by rw [hv y (by omega) z hz, h y (by omega)])]
    refine ⟨x, hx, by rw [← h x hx]; exact h0, by rw [← hs x (by omega)]; exact h1, by rw [← hs (x + 1) (by omega)]; exact h2, by rw [← hw 0 (by omega)]; exact h3, ?_⟩
    rw [← hs x (by omega)]
    exact isArr_cong T fin k _ _ _ _ _ _ (hv x hx) (fun i hi => hw (i + 1) (by omega)) h4
theorem isArr_one (T : Nat → Nat) (fin : Nat) : ∀ k (lf : Nat → Nat) (m r : Nat) (w w2 : Nat → Nat), isArr T fin k lf m r w → isArr T fin k lf m r w2 → ∀ i, i < k → w i = w2 i
  | 0, _, _, _, _, _, _, _, i, hi => absurd hi (by omega)
  | k + 1, lf, m, r, w, w2, h, h2, i, hi => by
    obtain ⟨x, hx, -, a1, a2, a3, a4⟩ := h
    obtain ⟨y, hy, -, b1, b2, b3, b4⟩ := h2
    have e : x = y := by
      rcases Nat.lt_trichotomy x y with q | q | q
      · have := fb_sm_mono (arrB T fin k lf m) (x + 1) (y - (x + 1)); rw [show x + 1 + (y - (x + 1)) = y by omega] at this; omega
      · exact q
      · have := fb_sm_mono (arrB T fin k lf m) (y + 1) (x - (y + 1)); rw [show y + 1 + (x - (y + 1)) = x by omega] at this; omega
    subst e
    cases i with
    | zero => rw [a3, b3]
    | succ i => exact isArr_one T fin k _ _ _ _ _ a4 b4 i (by omega)
theorem dsum_all : ∀ cd, cd < 1000 → dsum cd ≤ 8 → ∀ l, l < 3 → cd + wt l < 1000 ∧ dsum (cd + wt l) = dsum cd + 1 := by decide +kernel
/-- a word of k letters more that is accepted jumping alone -/
def opP (T tab : Nat → Nat) (fin : Nat) : Nat → Nat → Nat → Prop
  | 0, m, cd => tab cd &&& fin ≠ 0 ∧ ¬ m &&& fin ≠ 0
  | k + 1, m, cd => ∃ x, x < 3 ∧ opP T tab fin k (stp T x m) (cd + wt x)
/-- the first one of them -/
def isOp (T tab : Nat → Nat) (fin : Nat) : Nat → Nat → Nat → (Nat → Nat) → Prop
  | 0, _, _, _ => True
  | k + 1, m, cd, w => ∃ x, x < 3 ∧ (∀ y, y < x → ¬ opP T tab fin k (stp T y m) (cd + wt y)) ∧ opP T tab fin k (stp T x m) (cd + wt x) ∧ w 0 = x ∧ isOp T tab fin k (stp T x m) (cd + wt x) (fun i => w (i + 1))
theorem isOp_cong (T tab : Nat → Nat) (fin : Nat) : ∀ k (m cd : Nat) (w w2 : Nat → Nat), (∀ i, i < k → w i = w2 i) → isOp T tab fin k m cd w → isOp T tab fin k m cd w2
  | 0, _, _, _, _, _, _ => trivial
  | k + 1, m, cd, w, w2, hw, h => by
    obtain ⟨x, hx, h1, h2, h3, h4⟩ := h
    exact ⟨x, hx, h1, h2, by rw [← hw 0 (by omega)]; exact h3, isOp_cong T tab fin k _ _ _ _ (fun i hi => hw (i + 1) (by omega)) h4⟩
