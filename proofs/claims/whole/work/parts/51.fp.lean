/-! ===== the two quotients: never no number, like themselves ===== -/
def ddQ (n k : Nat) : UInt64 := FP.ddiv (FP.l2d (lN k)) (FP.l2d (lN (3 ^ n)))
def ddB (n k : Nat) : Bool := decide (ddQ n k &&& 0x7fffffffffffffff ≤ 0x7ff0000000000000) && decide (FP.dcmp (ddQ n k) (ddQ n k) = some .eq)
theorem dd7 : (List.range 2188).all (ddB 7) = true := by decide +kernel
theorem dd6 : (List.range 730).all (ddB 6) = true := by decide +kernel
theorem dd5 : (List.range 244).all (ddB 5) = true := by decide +kernel
theorem dd4 : (List.range 82).all (ddB 4) = true := by decide +kernel
theorem dd3 : (List.range 28).all (ddB 3) = true := by decide +kernel
theorem dd2 : (List.range 10).all (ddB 2) = true := by decide +kernel
theorem dd1 : (List.range 4).all (ddB 1) = true := by decide +kernel
theorem dd0 : (List.range 2).all (ddB 0) = true := by decide +kernel
theorem all_r {p : Nat → Bool} {n k : Nat} (h : (List.range n).all p = true) (hk : k < n) : p k = true := by
  rw [List.all_eq_true] at h
  exact h k (List.mem_range.mpr hk)
theorem ddB_all {n k : Nat} (hn : n ≤ 7) (hk : k ≤ 3 ^ n) : ddB n k = true := by
  rcases (by omega : n = 0 ∨ n = 1 ∨ n = 2 ∨ n = 3 ∨ n = 4 ∨ n = 5 ∨ n = 6 ∨ n = 7) with rfl | rfl | rfl | rfl | rfl | rfl | rfl | rfl
  · exact all_r dd0 (by omega)
  · exact all_r dd1 (by omega)
  · exact all_r dd2 (by omega)
  · exact all_r dd3 (by omega)
  · exact all_r dd4 (by omega)
  · exact all_r dd5 (by omega)
  · exact all_r dd6 (by omega)
  · exact all_r dd7 (by omega)
theorem dd_n {n k : Nat} (hn : n ≤ 7) (hk : k ≤ 3 ^ n) : vf_n64 (ddQ n k) := by
  have h := ddB_all hn hk
  unfold ddB at h
  rw [Bool.and_eq_true] at h
  have h1 := of_decide_eq_true h.1
  exact h1
theorem dd_e {n k : Nat} (hn : n ≤ 7) (hk : k ≤ 3 ^ n) : FP.dcmp (ddQ n k) (ddQ n k) = some .eq := by
  have h := ddB_all hn hk
  unfold ddB at h
  rw [Bool.and_eq_true] at h
  exact of_decide_eq_true h.2
theorem dd_i : ∀ n, n < 8 → FP.l2d (lN (3 ^ n)) = FP.i2d (nI (3 ^ n)) := by decide +kernel
def ffQ (n k : Nat) : UInt32 := FP.fdiv (FP.i2f (nI k)) (FP.i2f (nI n))
def ffB (n k : Nat) : Bool := decide (ffQ n k &&& 0x7fffffff ≤ 0x7f800000) && decide (FP.f2d (ffQ n k) &&& 0x7fffffffffffffff ≤ 0x7ff0000000000000) && decide (FP.dcmp (FP.f2d (ffQ n k)) (FP.f2d (ffQ n k)) = some .eq) && decide (FP.fcmp (ffQ n k) (ffQ n k) = some .eq)
def ffA (n : Nat) : Bool := (List.range (4 * n + 1)).all (ffB n)
theorem ff_a : ∀ n, n < 20 → ffA (n + 1) = true := by decide +kernel
theorem ff_b : ∀ n, n < 16 → ffA (n + 21) = true := by decide +kernel
theorem ff_c : ∀ n, n < 10 → ffA (n + 37) = true := by decide +kernel
theorem ff_d : ∀ n, n < 10 → ffA (n + 47) = true := by decide +kernel
theorem ffB_all {n k : Nat} (h0 : 0 < n) (hn : n ≤ 56) (hk : k ≤ 4 * n) : ffB n k = true := by
  have h : ffA n = true := by
    rcases Nat.lt_or_ge n 21 with q | q
    · have := ff_a (n - 1) (by omega); rwa [show n - 1 + 1 = n by omega] at this
    · rcases Nat.lt_or_ge n 37 with q2 | q2
      · have := ff_b (n - 21) (by omega); rwa [show n - 21 + 21 = n by omega] at this
      · rcases Nat.lt_or_ge n 47 with q3 | q3
        · have := ff_c (n - 37) (by omega); rwa [show n - 37 + 37 = n by omega] at this
        · have := ff_d (n - 47) (by omega); rwa [show n - 47 + 47 = n by omega] at this
  exact all_r h (by omega)
theorem ff_n {n k : Nat} (h0 : 0 < n) (hn : n ≤ 56) (hk : k ≤ 4 * n) : vf_n32 (ffQ n k) ∧ vf_n64 (FP.f2d (ffQ n k)) ∧ FP.dcmp (FP.f2d (ffQ n k)) (FP.f2d (ffQ n k)) = some .eq ∧ FP.fcmp (ffQ n k) (ffQ n k) = some .eq := by
  have h := ffB_all h0 hn hk
  unfold ffB at h
  rw [Bool.and_eq_true, Bool.and_eq_true, Bool.and_eq_true] at h
  have h1 := of_decide_eq_true h.1.1.1
  have h2 := of_decide_eq_true h.1.1.2
  exact ⟨h1, h2, of_decide_eq_true h.1.2, of_decide_eq_true h.2⟩
/-- the sum of the least counts' numbers -/
theorem mn_sum {T f : Nat → Nat} {fin n : Nat} (h : LOk f n) (h2 : ∀ z, inL f n z ↔ mnC T fin z) : fb_sm (fun i => dsum (f i)) n ≤ 4 * n := by
  rw [Nat.mul_comm]
  exact fb_sm_bd n (fun k hk => ((h2 (f k)).mp ⟨k, hk, rfl⟩).2.1)
