/-! ===== one-way jumping, as the class goes round: state, letters that wait, jumps, passing ===== -/
/-- letters packed, two bits each -/
def pkL : List Nat → Nat
  | [] => 0
  | x :: L => x + 4 * pkL L
theorem pkL_app (x : Nat) : ∀ L, pkL (L ++ [x]) = pkL L + x * 4 ^ L.length
  | [] => by show x + 4 * 0 = 0 + x * 1; omega
  | y :: L => by
    show y + 4 * pkL (L ++ [x]) = y + 4 * pkL L + x * 4 ^ (L.length + 1)
    rw [pkL_app x L, Nat.pow_succ, Nat.mul_add, ← Nat.mul_assoc x, Nat.mul_comm 4 (x * 4 ^ L.length)]
    omega
theorem pkL_lt : ∀ L : List Nat, (∀ x ∈ L, x < 3) → pkL L < 4 ^ L.length
  | [], _ => by decide
  | y :: L, h => by
    have h1 := pkL_lt L (fun x hx => h x (List.mem_cons_of_mem _ hx))
    have h2 := h y List.mem_cons_self
    show y + 4 * pkL L < 4 ^ (L.length + 1)
    rw [Nat.pow_succ]; omega
theorem pkL_at : ∀ (L : List Nat), (∀ x ∈ L, x < 3) → ∀ i, i < L.length → pkL L / 4 ^ i % 4 = L.getD i 0
  | [], _, i, hi => absurd hi (by simp)
  | y :: L, h, 0, _ => by
    have h2 := h y List.mem_cons_self
    show (y + 4 * pkL L) / 1 % 4 = y
    omega
  | y :: L, h, i + 1, hi => by
    have h2 := h y List.mem_cons_self
    have ih := pkL_at L (fun x hx => h x (List.mem_cons_of_mem _ hx)) i (by simpa using hi)
    show (y + 4 * pkL L) / 4 ^ (i + 1) % 4 = L.getD i 0
    rw [Nat.pow_succ, Nat.mul_comm (4 ^ i) 4, ← Nat.div_div_eq_div_mul, show (y + 4 * pkL L) / 4 = pkL L by omega]
    exact ih
theorem pow4 (k : Nat) : 2 ^ (2 * k) = 4 ^ k := by rw [Nat.pow_mul]
theorem pk_or {L : List Nat} (h : ∀ x ∈ L, x < 3) {x : Nat} : pkL L ||| x * 2 ^ (2 * L.length) = pkL (L ++ [x]) := by
  have h1 := pkL_lt L h
  rw [pkL_app, ← pow4, Nat.or_comm, Nat.mul_comm x, ← Nat.two_pow_add_eq_or_of_lt (by rw [pow4]; exact h1)]
  omega
abbrev OW : Type := Nat × List Nat × Nat × Nat
def meetL (T : Nat → Nat) (s : OW) (x : Nat) : OW := if stp T x s.1 = 0 then (s.1, s.2.1 ++ [x], s.2.2.1, 1) else (stp T x s.1, s.2.1, s.2.2.1 + s.2.2.2, 0)
def finL (T : Nat → Nat) : Nat → Nat → OW → OW
  | 0, _, s => s
  | f + 1, b, s => if 0 < s.2.1.length ∧ s.2.1.length < b then finL T f s.2.1.length (s.2.1.foldl (meetL T) (s.1, [], s.2.2.1, s.2.2.2)) else s
/-- at most n letters wait; they are letters; the state is a mask, 'passing' 0 or 1 -/
def OkW (s : OW) (n : Nat) : Prop := s.1 < 32 ∧ s.2.1.length ≤ n ∧ (∀ x ∈ s.2.1, x < 3) ∧ s.2.2.2 < 2
theorem okw_meet {T : Nat → Nat} (hT : OkT T) {s : OW} {n x : Nat} (h : OkW s n) (hx : x < 3) : OkW (meetL T s x) (n + 1) := by
  unfold meetL
  split
  · refine ⟨h.1, ?_, fun y hy => ?_, (by decide : 1 < 2)⟩
    · have := h.2.1; simp; omega
    · rcases List.mem_append.mp hy with q | q
      · exact h.2.2.1 y q
      · rw [List.mem_singleton.mp q]; exact hx
  · exact ⟨stp_lt hT hx, by have := h.2.1; show s.2.1.length ≤ n + 1; omega, h.2.2.1, (by decide : 0 < 2)⟩
theorem take_s {L : List Nat} {i : Nat} (h : i < L.length) : L.take (i + 1) = L.take i ++ [L.getD i 0] := by
  rw [List.take_succ, List.getD_eq_getElem?_getD]
  have : L[i]? = some L[i] := List.getElem?_eq_getElem h
  rw [this]; rfl
theorem fold_s {T : Nat → Nat} {L : List Nat} {i : Nat} {s0 : OW} (h : i < L.length) : (L.take (i + 1)).foldl (meetL T) s0 = meetL T ((L.take i).foldl (meetL T) s0) (L.getD i 0) := by
  rw [take_s h, List.foldl_append]; rfl
theorem getD_mem {L : List Nat} {i : Nat} (h : i < L.length) : L.getD i 0 ∈ L := by
  rw [List.getD_eq_getElem?_getD, List.getElem?_eq_getElem h]; exact List.getElem_mem h
/-- the letters of a word as a list -/
def wl (w : Nat → Nat) (n : Nat) : List Nat := (List.range n).map w
theorem wl_s (w : Nat → Nat) (n : Nat) : wl w (n + 1) = wl w n ++ [w n] := by unfold wl; rw [List.range_succ, List.map_append]; rfl
def readO (T w : Nat → Nat) (n : Nat) : OW := finL T 8 n ((wl w n).foldl (meetL T) (1, [], 0, 0))
/-! counting: the state and the waiting letters alone -/
def mM (T : Nat → Nat) (s : Nat × List Nat) (x : Nat) : Nat × List Nat := if stp T x s.1 = 0 then (s.1, s.2 ++ [x]) else (stp T x s.1, s.2)
def finM (T : Nat → Nat) : Nat → Nat → Nat × List Nat → Nat × List Nat
  | 0, _, s => s
  | f + 1, b, s => if 0 < s.2.length ∧ s.2.length < b then finM T f s.2.length (s.2.foldl (mM T) (s.1, [])) else s
abbrev pr2 (s : OW) : Nat × List Nat := (s.1, s.2.1)
theorem mM_pr (T : Nat → Nat) (s : OW) (x : Nat) : pr2 (meetL T s x) = mM T (pr2 s) x := by unfold meetL mM; by_cases h : stp T x s.1 = 0 <;> simp [h]
theorem fold_pr (T : Nat → Nat) : ∀ (L : List Nat) (s : OW), pr2 (L.foldl (meetL T) s) = L.foldl (mM T) (pr2 s)
  | [], _ => rfl
  | x :: L, s => by rw [List.foldl_cons, List.foldl_cons, fold_pr T L, mM_pr]
theorem fin_pr (T : Nat → Nat) : ∀ (f b : Nat) (s : OW), pr2 (finL T f b s) = finM T f b (pr2 s)
  | 0, _, _ => rfl
  | f + 1, b, s => by
    rw [finL, finM]
    by_cases h : 0 < s.2.1.length ∧ s.2.1.length < b
    · rw [if_pos h, if_pos h, fin_pr T f, fold_pr]
    · rw [if_neg h, if_neg h]
abbrev accO (fin : Nat) (s : Nat × List Nat) : Prop := s.2.length = 0 ∧ s.1 &&& fin ≠ 0
/-- how many words of k letters more are accepted, of n in all -/
def cO (T : Nat → Nat) (fin n : Nat) : Nat → Nat × List Nat → Nat
  | 0, s => if accO fin (finM T 8 n s) then 1 else 0
  | k + 1, s => fb_sm (fun x => cO T fin n k (mM T s x)) 3
theorem and3 (k : Nat) : k &&& 3 = k % 4 := Nat.and_two_pow_sub_one_eq_mod k 2
theorem pow4_8 : ∀ k, k ≤ 8 → 4 ^ k ≤ 65536 := by decide
/-- the class's reader holds s -/
def OwIs (σ : SS) (s : OW) : Prop := σ.1 12 = s.1 ∧ σ.1 13 = pkL s.2.1 ∧ σ.1 14 = s.2.1.length ∧ σ.1 15 = s.2.2.1 ∧ σ.1 16 = s.2.2.2
theorem fin_stop {T : Nat → Nat} {f b : Nat} {s : OW} (h : ¬ (0 < s.2.1.length ∧ s.2.1.length < b)) : finL T f b s = s := by
  cases f with
  | zero => rfl
  | succ f => rw [finL, if_neg h]
theorem fin_go {T : Nat → Nat} {f b : Nat} {s : OW} (hf : 0 < f) (h : 0 < s.2.1.length ∧ s.2.1.length < b) : finL T f b s = finL T (f - 1) s.2.1.length (s.2.1.foldl (meetL T) (s.1, [], s.2.2.1, s.2.2.2)) := by
  obtain ⟨g, rfl⟩ : ∃ g, f = g + 1 := ⟨f - 1, by omega⟩
  rw [finL, if_pos h]; rfl
theorem okw_fold {T : Nat → Nat} (hT : OkT T) : ∀ (L : List Nat) (s : OW) (n : Nat), (∀ x ∈ L, x < 3) → OkW s n → OkW (L.foldl (meetL T) s) (n + L.length)
  | [], s, n, _, h => h
  | x :: L, s, n, hL, h => by
    have := okw_fold hT L (meetL T s x) (n + 1) (fun y hy => hL y (List.mem_cons_of_mem _ hy)) (okw_meet hT h (hL x List.mem_cons_self))
    rw [List.foldl_cons, List.length_cons, show n + (L.length + 1) = n + 1 + L.length by omega]; exact this
theorem okw_fin {T : Nat → Nat} (hT : OkT T) : ∀ (f b : Nat) (s : OW) (n : Nat), OkW s n → OkW (finL T f b s) n
  | 0, _, _, _, h => h
  | f + 1, b, s, n, h => by
    rw [finL]
    split
    · have h1 := okw_fold hT s.2.1 (s.1, [], s.2.2.1, s.2.2.2) 0 h.2.2.1 ⟨h.1, Nat.le_refl _, fun x hx => absurd hx List.not_mem_nil, h.2.2.2⟩
      rw [Nat.zero_add] at h1
      exact okw_fin hT f _ _ n ⟨h1.1, Nat.le_trans h1.2.1 h.2.1, h1.2.2⟩
    · exact h
