/-! ===== lists of counts ===== -/
def dsum (c : Nat) : Nat := c / 100 + c / 10 % 10 + c % 10
/-- counts of at most 5 letters -/
abbrev cs5 (c : Nat) : Prop := c < 1000 ∧ dsum c ≤ 5
def LOk (f : Nat → Nat) (n : Nat) : Prop := n ≤ 56 ∧ (∀ i j, i < j → j < n → f i < f j) ∧ ∀ i, i < n → cs5 (f i)
abbrev inL (f : Nat → Nat) (n x : Nat) : Prop := ∃ i, i < n ∧ f i = x
theorem cs5_56 : fb_ct (fun c => decide (cs5 c)) 1000 = 56 := by decide +kernel
/-- how many of the codes below x stand in the list -/
theorem ct_list {f : Nat → Nat} {n : Nat} (hs : ∀ i j, i < j → j < n → f i < f j) : ∀ m, m ≤ n → ∀ x, (∀ i, i < m → f i < x) → (∀ i, m ≤ i → i < n → x ≤ f i) → fb_ct (fun c => decide (inL f n c)) x = m
  | 0, _, x, _, h2 => by
    rw [fb_ct_zero]
    intro k hk
    apply decide_eq_false
    rintro ⟨i, hi, rfl⟩
    exact absurd (h2 i (Nat.zero_le _) hi) (by omega)
  | m + 1, hm, x, h1, h2 => by
    have ih := ct_list hs m (by omega) (f m) (fun i hi => hs i m hi (by omega)) (fun i h3 h4 => by
      rcases Nat.lt_or_ge m i with q | q
      · exact Nat.le_of_lt (hs m i q h4)
      · rw [show i = m by omega]; exact Nat.le_refl _)
    have hmx := h1 m (by omega)
    have hsp := fb_ct_split (fun c => decide (inL f n c)) (f m + 1) (x - (f m + 1))
    rw [show f m + 1 + (x - (f m + 1)) = x by omega, fb_ct_succ, ih] at hsp
    rw [hsp, if_pos (by rw [decide_eq_true_iff]; exact ⟨m, by omega, rfl⟩)]
    have hz : fb_ct (fun k => decide (inL f n (f m + 1 + k))) (x - (f m + 1)) = 0 := by
      rw [fb_ct_zero]
      intro k hk
      apply decide_eq_false
      rintro ⟨i, hi, he⟩
      rcases Nat.lt_trichotomy i m with q | q | q
      · have := hs i m q (by omega); omega
      · subst q; omega
      · have := h2 i (by omega) hi; omega
    rw [hz]
theorem list_ct {f : Nat → Nat} {n : Nat} (h : LOk f n) : fb_ct (fun c => decide (inL f n c)) 1000 = n :=
  ct_list h.2.1 n (Nat.le_refl _) 1000 (fun i hi => (h.2.2 i hi).1) (fun i h1 h2 => absurd h1 (by omega))
theorem list_kth {f : Nat → Nat} {n i : Nat} (h : LOk f n) (hi : i < n) : kth (fun c => decide (inL f n c)) i 1000 = f i :=
  kth_eq (h.2.2 i hi).1 (by rw [decide_eq_true_iff]; exact ⟨i, hi, rfl⟩) (ct_list h.2.1 i (by omega) (f i) (fun j hj => h.2.1 j i hj hi) (fun j h3 h4 => by
      rcases Nat.lt_or_ge i j with q | q
      · exact Nat.le_of_lt (h.2.1 i j q h4)
      · rw [show j = i by omega]; exact Nat.le_refl _))
/-- a list that lacks one of the 56 is not full -/
theorem list_room {f : Nat → Nat} {n c : Nat} (h : LOk f n) (hc : cs5 c) (hn : ¬ inL f n c) : n < 56 := by
  have h1 : fb_ct (fun x => decide (inL f n x) || decide (x = c)) 1000 ≤ fb_ct (fun c => decide (cs5 c)) 1000 := by
    apply fb_ct_sub
    intro k hk hp
    rw [Bool.or_eq_true, decide_eq_true_iff, decide_eq_true_iff] at hp
    rw [decide_eq_true_iff]
    rcases hp with ⟨i, hi, rfl⟩ | rfl
    · exact h.2.2 i hi
    · exact hc
  have h2 : fb_ct (fun x => decide (inL f n x) || decide (x = c)) 1000 = fb_ct (fun x => decide (inL f n x)) 1000 + fb_ct (fun x => decide (x = c)) 1000 := by
    apply fb_ct_or
    intro k hk hp
    rw [decide_eq_true_iff, decide_eq_true_iff] at hp
    rw [hp.2] at hp
    exact hn hp.1
  have h3 : 0 < fb_ct (fun x => decide (x = c)) 1000 := fb_ct_pos.mpr ⟨c, hc.1, by simp⟩
  rw [h2, list_ct h, cs5_56] at h1
  omega
/-- the shift: places below p as before, those behind it one on -/
def Shf (f f2 : Nat → Nat) (n p c : Nat) : Prop := (∀ i, i < p → f2 i = f i) ∧ (∀ i, p < i → i ≤ n → f2 i = f (i - 1)) ∧ ∀ i, p ≤ i → i < n → c < f i
theorem shf_0 {f : Nat → Nat} {n c : Nat} : Shf f f n n c := ⟨fun _ _ => rfl, fun i h1 h2 => absurd h1 (by omega), fun i h1 h2 => absurd h1 (by omega)⟩
theorem shf_step {f f2 : Nat → Nat} {n p c : Nat} (hp : 0 < p) (hpn : p ≤ n) (h : Shf f f2 n p c) (hc : c < f2 (p - 1)) : Shf f (va_up f2 p (f2 (p - 1))) n (p - 1) c := by
  refine ⟨fun i hi => ?_, fun i h1 h2 => ?_, fun i h1 h2 => ?_⟩
  · rw [va_up, if_neg (by omega)]; exact h.1 i (by omega)
  · unfold va_up
    split
    · rename_i e; rw [e, h.1 (p - 1) (by omega)]
    · exact h.2.1 i (by omega) h2
  · rcases Nat.lt_or_ge i p with q | q
    · have e : i = p - 1 := by omega
      rw [e, ← h.1 (p - 1) (by omega)]; exact hc
    · exact h.2.2 i q h2
theorem shf_ok {f f2 : Nat → Nat} {n p c : Nat} (h0 : LOk f n) (hc : cs5 c) (hn : ¬ inL f n c) (hpn : p ≤ n) (h : Shf f f2 n p c) (hb : ∀ i, i < p → f i ≤ c) :
    LOk (va_up f2 p c) (n + 1) ∧ ∀ x, inL (va_up f2 p c) (n + 1) x ↔ inL f n x ∨ x = c := by
  have hlt : ∀ i, i < p → f i < c := fun i hi => Nat.lt_of_le_of_ne (hb i hi) (fun e => hn ⟨i, by omega, e⟩)
  have v1 : ∀ i, i < p → va_up f2 p c i = f i := fun i hi => by rw [va_up, if_neg (by omega)]; exact h.1 i hi
  have v2 : va_up f2 p c p = c := if_pos rfl
  have v3 : ∀ i, p < i → i ≤ n → va_up f2 p c i = f (i - 1) := fun i h1 h2 => by rw [va_up, if_neg (by omega)]; exact h.2.1 i h1 h2
  refine ⟨⟨by have := list_room h0 hc hn; omega, fun i j hij hj => ?_, fun i hi => ?_⟩, fun x => ⟨?_, ?_⟩⟩
  · rcases Nat.lt_trichotomy j p with q | q | q
    · rw [v1 i (by omega), v1 j q]; exact h0.2.1 i j hij (by omega)
    · rw [q, v2, v1 i (by omega)]; exact hlt i (by omega)
    · rw [v3 j q (by omega)]
      rcases Nat.lt_trichotomy i p with r | r | r
      · rw [v1 i r]; exact h0.2.1 i (j - 1) (by omega) (by omega)
      · rw [r, v2]; exact h.2.2 (j - 1) (by omega) (by omega)
      · rw [v3 i r (by omega)]; exact h0.2.1 (i - 1) (j - 1) (by omega) (by omega)
  · rcases Nat.lt_trichotomy i p with q | q | q
    · rw [v1 i q]; exact h0.2.2 i (by omega)
    · rw [q, v2]; exact hc
    · rw [v3 i q (by omega)]; exact h0.2.2 (i - 1) (by omega)
  · rintro ⟨i, hi, rfl⟩
    rcases Nat.lt_trichotomy i p with q | q | q
    · left; exact ⟨i, by omega, (v1 i q).symm⟩
    · right; rw [q, v2]
    · left; exact ⟨i - 1, by omega, (v3 i q (by omega)).symm⟩
  · rintro (⟨i, hi, rfl⟩ | rfl)
    · rcases Nat.lt_or_ge i p with q | q
      · exact ⟨i, by omega, v1 i q⟩
      · exact ⟨i + 1, by omega, by rw [v3 (i + 1) (by omega) (by omega)]; rfl⟩
    · exact ⟨p, by omega, v2⟩
abbrev blw (c d : Nat) : Prop := c / 100 ≤ d / 100 ∧ c / 10 % 10 ≤ d / 10 % 10 ∧ c % 10 ≤ d % 10
theorem shf_b1 {f f2 : Nat → Nat} {n p c : Nat} (h0 : LOk f n) (h : Shf f f2 n p c) (hp : 0 < p) (hpn : p ≤ n) (hc : f2 (p - 1) ≤ c) : ∀ i, i < p → f i ≤ c := by
  intro i hi
  have e1 := h.1 (p - 1) (by omega)
  rcases Nat.lt_or_ge i (p - 1) with z | z
  · have := h0.2.1 i (p - 1) z (by omega); omega
  · rw [show i = p - 1 by omega]; omega
