theorem if_ac0 {T w : Nat → Nat} {fin n md : Nat} (h : md = 0) : (if wrun T w n &&& fin ≠ 0 then 1 else 0) = (if acP T w fin n md then 1 else 0) := by
  by_cases q : wrun T w n &&& fin ≠ 0
  · rw [if_pos q, if_pos (Or.inl ⟨h, q⟩)]
  · rw [if_neg q, if_neg (by rintro (⟨_, r⟩ | ⟨r, _⟩ | ⟨r, _⟩); { exact q r }; { omega }; { omega })]
theorem if_ac1 {T w : Nat → Nat} {fin n md : Nat} (h : md = 1) : (if wrc T w fin n then 1 else 0) = (if acP T w fin n md then 1 else 0) := by
  by_cases q : wrc T w fin n
  · rw [if_pos q, if_pos (Or.inr (Or.inl ⟨h, q⟩))]
  · rw [if_neg q, if_neg (by rintro (⟨r, _⟩ | ⟨_, r⟩ | ⟨r, _⟩); { omega }; { exact q r }; { omega })]
theorem if_ac2 {T w : Nat → Nat} {fin n md : Nat} (h : md = 2) : (if (readO T w n).2.1.length = 0 ∧ (readO T w n).1 &&& fin ≠ 0 then 1 else 0) = (if acP T w fin n md then 1 else 0) := by
  by_cases q : (readO T w n).2.1.length = 0 ∧ (readO T w n).1 &&& fin ≠ 0
  · rw [if_pos q, if_pos (Or.inr (Or.inr ⟨h, q⟩))]
  · rw [if_neg q, if_neg (by rintro (⟨r, _⟩ | ⟨r, _⟩ | ⟨_, r⟩); { omega }; { omega }; { exact q r })]
theorem rd_ok {T w : Nat → Nat} (hT : OkT T) : ∀ i, i ≤ 8 → (∀ k, k < i → w k < 3) → OkW ((wl w i).foldl (meetL T) (1, [], 0, 0)) i
  | 0, _, _ => ⟨(by decide : 1 < 32), Nat.zero_le _, fun x h => absurd h List.not_mem_nil, (by decide : 0 < 2)⟩
  | i + 1, hi, h => by
    rw [wl_s, List.foldl_append]
    exact okw_meet hT (rd_ok hT i (by omega) (fun k hk => h k (by omega))) (h i (by omega))
theorem readO_ok {T w : Nat → Nat} {n : Nat} (hT : OkT T) (hn : n ≤ 8) (h : ∀ k, k < n → w k < 3) : OkW (readO T w n) 8 := by
  have h1 := rd_ok hT n hn h
  exact okw_fin hT 8 n _ 8 ⟨h1.1, by have := h1.2.1; omega, h1.2.2⟩
