/-! ===== words, their counts, and the least counts ===== -/
theorem bit5 {a i : Nat} (h : a < 32) (hb : a.testBit i = true) : i < 5 := by
  rcases Nat.lt_or_ge i 5 with q | q
  · exact q
  · have h2 : 2 ^ 5 ≤ 2 ^ i := Nat.pow_le_pow_right (by decide) q
    have : a < 2 ^ i := Nat.lt_of_lt_of_le h h2
    rw [Nat.testBit_lt_two_pow this] at hb; cases hb
/-- a run: states st, letters w -/
def pth (T w st : Nat → Nat) (n : Nat) : Prop := st 0 = 0 ∧ ∀ i, i < n → w i < 3 ∧ st (i + 1) < 5 ∧ (T (st i * 3 + w i)).testBit (st (i + 1)) = true
theorem pth_lt {T w st : Nat → Nat} {n : Nat} (h : pth T w st n) : ∀ i, i ≤ n → st i < 5
  | 0, _ => by rw [h.1]; decide
  | i + 1, hi => (h.2 i (by omega)).2.1
theorem rch_s {T : Nat → Nat} {a b c q : Nat} : (rch T a b c).testBit q = true ↔ (a = 0 ∧ b = 0 ∧ c = 0 ∧ q = 0) ∨ (0 < a ∧ (stp T 0 (rch T (a - 1) b c)).testBit q = true) ∨ (0 < b ∧ (stp T 1 (rch T a (b - 1) c)).testBit q = true) ∨ (0 < c ∧ (stp T 2 (rch T a b (c - 1))).testBit q = true) := by
  have one : ∀ P : Prop, [Decidable P] → ((if P then 1 else 0 : Nat).testBit q = true ↔ P ∧ q = 0) := by
    intro P _
    by_cases p : P
    · rw [if_pos p]
      constructor
      · intro h; refine ⟨p, ?_⟩
        cases q with
        | zero => rfl
        | succ q => rw [Nat.testBit_succ] at h; simp at h
      · rintro ⟨-, e⟩; subst e; rfl
    · rw [if_neg p, Nat.zero_testBit]; exact ⟨fun h => absurd h (by decide), fun h => absurd h.1 p⟩
  have two : ∀ (P : Prop) (v : Nat), [Decidable P] → ((if P then v else 0 : Nat).testBit q = true ↔ P ∧ v.testBit q = true) := by
    intro P v _
    by_cases p : P
    · rw [if_pos p]; exact ⟨fun h => ⟨p, h⟩, fun h => h.2⟩
    · rw [if_neg p, Nat.zero_testBit]; exact ⟨fun h => absurd h (by decide), fun h => absurd h.1 p⟩
  rw [rch_eq, Nat.testBit_or, Nat.testBit_or, Nat.testBit_or, Bool.or_eq_true, Bool.or_eq_true, Bool.or_eq_true, one, two, two, two]
  constructor
  · rintro (((h | h) | h) | h)
    · exact Or.inl ⟨h.1.1, h.1.2.1, h.1.2.2, h.2⟩
    · exact Or.inr (Or.inl h)
    · exact Or.inr (Or.inr (Or.inl h))
    · exact Or.inr (Or.inr (Or.inr h))
  · rintro (h | h | h | h)
    · exact Or.inl (Or.inl (Or.inl ⟨⟨h.1, h.2.1, h.2.2.1⟩, h.2.2.2⟩))
    · exact Or.inl (Or.inl (Or.inr h))
    · exact Or.inl (Or.inr h)
    · exact Or.inr h
theorem cntW_s (w : Nat → Nat) (n x : Nat) : cntW w (n + 1) x = cntW w n x + (if w n = x then 1 else 0) := by
  unfold cntW
  rw [fb_ct_succ]
  congr 1
  by_cases h : w n = x
  · rw [if_pos h, if_pos (decide_eq_true h)]
  · rw [if_neg h, if_neg (by rw [decide_eq_true_iff]; exact h)]
/-- one step more of a run -/
theorem rch_put {T : Nat → Nat} {a b c x q r : Nat} (hx : x < 3) (hq : q < 5) (h : (rch T a b c).testBit q = true) (h2 : (T (q * 3 + x)).testBit r = true) : (rch T (a + if x = 0 then 1 else 0) (b + if x = 1 then 1 else 0) (c + if x = 2 then 1 else 0)).testBit r = true := by
  have h3 := stp_bit (T := T) (x := x) hq h h2
  rw [rch_s]
  rcases (by omega : x = 0 ∨ x = 1 ∨ x = 2) with e | e | e
  · subst e; exact Or.inr (Or.inl ⟨by simp, by simpa using h3⟩)
  · subst e; exact Or.inr (Or.inr (Or.inl ⟨by simp, by simpa using h3⟩))
  · subst e; exact Or.inr (Or.inr (Or.inr ⟨by simp, by simpa using h3⟩))
theorem pth_rch {T w st : Nat → Nat} : ∀ n, pth T w st n → (rch T (cntW w n 0) (cntW w n 1) (cntW w n 2)).testBit (st n) = true
  | 0, h => by rw [rch_s, h.1]; exact Or.inl ⟨rfl, rfl, rfl, rfl⟩
  | n + 1, h => by
    have ih := pth_rch n ⟨h.1, fun i hi => h.2 i (by omega)⟩
    have hn := h.2 n (by omega)
    rw [cntW_s, cntW_s, cntW_s]
    exact rch_put hn.1 (pth_lt h n (by omega)) ih hn.2.2
/-- every reached state is the end of a run with these counts -/
theorem rch_pth {T : Nat → Nat} (hT : OkT T) : ∀ n a b c q, a + b + c = n → (rch T a b c).testBit q = true → ∃ w st : Nat → Nat, pth T w st n ∧ st n = q ∧ cntW w n 0 = a ∧ cntW w n 1 = b ∧ cntW w n 2 = c
  | 0, a, b, c, q, hn, h => by
    rcases rch_s.mp h with e | e | e | e
    · exact ⟨fun _ => 0, fun _ => 0, ⟨rfl, fun i hi => absurd hi (by omega)⟩, e.2.2.2.symm, e.1.symm, e.2.1.symm, e.2.2.1.symm⟩
    · omega
    · omega
    · omega
  | n + 1, a, b, c, q, hn, h => by
    have hq := bit5 (rch_lt hT _ _ _) h
    have go : ∀ x a1 b1 c1, x < 3 → a1 + b1 + c1 = n → (stp T x (rch T a1 b1 c1)).testBit q = true → a = a1 + (if x = 0 then 1 else 0) → b = b1 + (if x = 1 then 1 else 0) → c = c1 + (if x = 2 then 1 else 0) → ∃ w st : Nat → Nat, pth T w st (n + 1) ∧ st (n + 1) = q ∧ cntW w (n + 1) 0 = a ∧ cntW w (n + 1) 1 = b ∧ cntW w (n + 1) 2 = c := by
      intro x a1 b1 c1 hx hs hb ea eb ec
      obtain ⟨q1, hq1, h1, h2⟩ := stp_of hb
      obtain ⟨w, st, hp, e0, e1, e2, e3⟩ := rch_pth hT n a1 b1 c1 q1 hs h1
      have wl : ∀ i, i < n → va_up w n x i = w i := fun i hi => by rw [va_up, if_neg (by omega)]
      have wn : va_up w n x n = x := if_pos rfl
      have sl : ∀ i, i ≤ n → va_up st (n + 1) q i = st i := fun i hi => by rw [va_up, if_neg (by omega)]
      have sn : va_up st (n + 1) q (n + 1) = q := if_pos rfl
      have cw : ∀ y, cntW (va_up w n x) (n + 1) y = cntW w n y + if x = y then 1 else 0 := fun y => by rw [cntW_s, wn, cntW_w (fun i hi => wl i hi)]
      refine ⟨va_up w n x, va_up st (n + 1) q, ⟨?_, fun i hi => ?_⟩, sn, ?_, ?_, ?_⟩
      · rw [sl 0 (by omega)]; exact hp.1
      · rcases Nat.lt_or_ge i n with z | z
        · rw [wl i z, sl i (by omega), sl (i + 1) (by omega)]; exact hp.2 i z
        · have e : i = n := by omega
          subst e
          rw [wn, sl i (Nat.le_refl _), sn, e0]
          exact ⟨hx, hq, h2⟩
      · rw [cw, e1, ea]
      · rw [cw, e2, eb]
      · rw [cw, e3, ec]
    rcases rch_s.mp h with e | e | e | e
    · omega
    · exact go 0 (a - 1) b c (by decide) (by omega) e.2 (by simp; omega) (by simp) (by simp)
    · exact go 1 a (b - 1) c (by decide) (by omega) e.2 (by simp) (by simp; omega) (by simp)
    · exact go 2 a b (c - 1) (by decide) (by omega) e.2 (by simp) (by simp) (by simp; omega)
def pigB (a b c d e : Nat) : Bool := decide (0 = a) || decide (0 = b) || decide (0 = c) || decide (0 = d) || decide (0 = e) || decide (a = b) || decide (a = c) || decide (a = d) || decide (a = e) || decide (b = c) || decide (b = d) || decide (b = e) || decide (c = d) || decide (c = e) || decide (d = e)
theorem pigA : ((List.range 5).all fun a => (List.range 5).all fun b => (List.range 5).all fun c => (List.range 5).all fun d => (List.range 5).all fun e => pigB a b c d e) = true := by decide +kernel
theorem pig5 (a : Nat) (ha : a < 5) (b : Nat) (hb : b < 5) (c : Nat) (hc : c < 5) (d : Nat) (hd : d < 5) (e : Nat) (he : e < 5) : 0 = a ∨ 0 = b ∨ 0 = c ∨ 0 = d ∨ 0 = e ∨ a = b ∨ a = c ∨ a = d ∨ a = e ∨ b = c ∨ b = d ∨ b = e ∨ c = d ∨ c = e ∨ d = e := by
  have h := all_r (all_r (all_r (all_r (all_r pigA ha) hb) hc) hd) he
  unfold pigB at h
  simp only [Bool.or_eq_true, decide_eq_true_iff] at h
  omega
theorem pig {st : Nat → Nat} (h0 : st 0 = 0) (h : ∀ i, i ≤ 5 → st i < 5) : ∃ i j, i < j ∧ j ≤ 5 ∧ st i = st j := by
  rcases pig5 (st 1) (h 1 (by decide)) (st 2) (h 2 (by decide)) (st 3) (h 3 (by decide)) (st 4) (h 4 (by decide)) (st 5) (h 5 (by decide)) with e | e | e | e | e | e | e | e | e | e | e | e | e | e | e
  · exact ⟨0, 1, by decide, by decide, h0.trans e⟩
  · exact ⟨0, 2, by decide, by decide, h0.trans e⟩
  · exact ⟨0, 3, by decide, by decide, h0.trans e⟩
  · exact ⟨0, 4, by decide, by decide, h0.trans e⟩
  · exact ⟨0, 5, by decide, by decide, h0.trans e⟩
  · exact ⟨1, 2, by decide, by decide, e⟩
  · exact ⟨1, 3, by decide, by decide, e⟩
  · exact ⟨1, 4, by decide, by decide, e⟩
  · exact ⟨1, 5, by decide, by decide, e⟩
  · exact ⟨2, 3, by decide, by decide, e⟩
  · exact ⟨2, 4, by decide, by decide, e⟩
  · exact ⟨2, 5, by decide, by decide, e⟩
  · exact ⟨3, 4, by decide, by decide, e⟩
  · exact ⟨3, 5, by decide, by decide, e⟩
  · exact ⟨4, 5, by decide, by decide, e⟩
theorem cut_cnt {w : Nat → Nat} {i j n x : Nat} (hij : i < j) (hj : j ≤ n) : cntW (fun k => if k < i then w k else w (k + (j - i))) (n - (j - i)) x ≤ cntW w n x := by
  unfold cntW
  have e1 := fb_ct_split (fun k => decide ((if k < i then w k else w (k + (j - i))) = x)) i (n - j)
  have e2 := fb_ct_split (fun k => decide (w k = x)) i (n - i)
  have e3 := fb_ct_split (fun k => decide (w (i + k) = x)) (j - i) (n - j)
  rw [show n - (j - i) = i + (n - j) by omega, e1]
  rw [show i + (n - i) = n by omega] at e2
  rw [show j - i + (n - j) = n - i by omega] at e3
  have c1 : fb_ct (fun k => decide ((if k < i then w k else w (k + (j - i))) = x)) i = fb_ct (fun k => decide (w k = x)) i := fb_ct_cong (fun k hk => by rw [if_pos hk])
  have c2 : fb_ct (fun k => decide ((if i + k < i then w (i + k) else w (i + k + (j - i))) = x)) (n - j) = fb_ct (fun k => decide (w (i + (j - i + k)) = x)) (n - j) := fb_ct_cong (fun k hk => by rw [if_neg (by omega), show i + k + (j - i) = i + (j - i + k) by omega])
  rw [c1, c2]
  omega
/-- a run of five letters or more can be cut -/
theorem cut5 {T : Nat → Nat} (hT : OkT T) {a b c q : Nat} (h5 : 5 ≤ a + b + c) (h : (rch T a b c).testBit q = true) : ∃ x y z, x ≤ a ∧ y ≤ b ∧ z ≤ c ∧ x + y + z < a + b + c ∧ (rch T x y z).testBit q = true := by
  obtain ⟨w, st, hp, e0, e1, e2, e3⟩ := rch_pth hT (a + b + c) a b c q rfl h
  obtain ⟨i, j, hij, hj, es⟩ := pig hp.1 (fun k hk => pth_lt hp k (by omega))
  have hjn : j ≤ a + b + c := by omega
  have hp2 : pth T (fun k => if k < i then w k else w (k + (j - i))) (fun k => if k ≤ i then st k else st (k + (j - i))) (a + b + c - (j - i)) := by
    refine ⟨by show (if 0 ≤ i then st 0 else _) = 0; rw [if_pos (by omega)]; exact hp.1, fun k hk => ?_⟩
    show (if k < i then w k else w (k + (j - i))) < 3 ∧ (if k + 1 ≤ i then st (k + 1) else st (k + 1 + (j - i))) < 5 ∧ _
    show _ ∧ _ ∧ (T ((if k ≤ i then st k else st (k + (j - i))) * 3 + (if k < i then w k else w (k + (j - i))))).testBit (if k + 1 ≤ i then st (k + 1) else st (k + 1 + (j - i))) = true
    rcases Nat.lt_or_ge k i with z | z
    · rw [if_pos z, if_pos (show k + 1 ≤ i by omega), if_pos (show k ≤ i by omega)]
      exact hp.2 k (by omega)
    · have g := hp.2 (k + (j - i)) (by omega)
      rw [if_neg (by omega), if_neg (by omega), show k + 1 + (j - i) = k + (j - i) + 1 by omega]
      refine ⟨g.1, g.2.1, ?_⟩
      have e : (if k ≤ i then st k else st (k + (j - i))) = st (k + (j - i)) := by
        by_cases y : k ≤ i
        · rw [if_pos y, show k = i by omega, show i + (j - i) = j by omega]; exact es
        · rw [if_neg y]
      rw [e]; exact g.2.2
  have hr := pth_rch _ hp2
  have el : (if a + b + c - (j - i) ≤ i then st (a + b + c - (j - i)) else st (a + b + c - (j - i) + (j - i))) = q := by
    by_cases y : a + b + c - (j - i) ≤ i
    · rw [if_pos y, show a + b + c - (j - i) = i by omega, es, show j = a + b + c by omega]; exact e0
    · rw [if_neg y, show a + b + c - (j - i) + (j - i) = a + b + c by omega]; exact e0
  rw [el] at hr
  have hs := cntW_sum (a + b + c - (j - i)) (fun k hk => (hp2.2 k hk).1)
  refine ⟨_, _, _, ?_, ?_, ?_, ?_, hr⟩
  · exact Nat.le_trans (cut_cnt hij hjn) (Nat.le_of_eq e1)
  · exact Nat.le_trans (cut_cnt hij hjn) (Nat.le_of_eq e2)
  · exact Nat.le_trans (cut_cnt hij hjn) (Nat.le_of_eq e3)
  · omega
theorem mnR_4 {T : Nat → Nat} {fin a b c : Nat} (hT : OkT T) (h : mnR T fin a b c) : a + b + c ≤ 4 := by
  rcases Nat.lt_or_ge 4 (a + b + c) with z | z
  · obtain ⟨q, h1, h2⟩ := and_ne.mp h.1
    obtain ⟨x, y, v, g1, g2, g3, g4, g5⟩ := cut5 hT z h1
    exact absurd (and_ne.mpr ⟨q, g5, h2⟩) (h.2 x y v g1 g2 g3 g4)
  · exact z
theorem mnK_4 {T : Nat → Nat} {fin k : Nat} (hT : OkT T) (h : mnK T fin k) : dsum k ≤ 4 := mnR_4 hT h.2.2.2
theorem mnC_K {T : Nat → Nat} {fin k : Nat} (hT : OkT T) (hk : k < 1000) : mnC T fin k ↔ mnK T fin k := by
  constructor
  · rintro ⟨h1, h2, h3, h4⟩
    unfold dsum at h2
    refine ⟨by omega, by omega, by omega, h3, fun x y z hx hy hz hs hr => ?_⟩
    have e := h4 (100 * x + 10 * y + z) (by omega) (by
      unfold rR
      rw [show (100 * x + 10 * y + z) / 100 = x by omega, show (100 * x + 10 * y + z) / 10 % 10 = y by omega, show (100 * x + 10 * y + z) % 10 = z by omega]
      exact hr) (by unfold blw; omega)
    omega
  · intro h
    have h4 := mnK_4 hT h
    refine ⟨hk, h4, h.2.2.2.1, fun y hy hr hb => ?_⟩
    refine Classical.byContradiction fun hne => h.2.2.2.2 (y / 100) (y / 10 % 10) (y % 10) hb.1 hb.2.1 hb.2.2 ?_ hr
    have := hb.1
    have := hb.2.1
    have := hb.2.2
    omega
/-- what a list and a row of marks say of the same set -/
theorem fd_list {f g : Nat → Nat} {n : Nat} {P Q : Nat → Prop} (hL : LOk f n) (h1 : ∀ z, inL f n z ↔ P z) (h2 : FdN g Q) (he : ∀ z, z < 1000 → (P z ↔ Q z)) : ∀ z, z < 1000 → fdB g z = decide (inL f n z) := by
  intro z hz
  have h3 := (h2 z hz).2
  show decide (g z ≠ 0) = decide (inL f n z)
  rw [decide_eq_decide, h3, ← he z hz, ← h1 z]
theorem fd_ct {f g : Nat → Nat} {n : Nat} (hL : LOk f n) (h : ∀ z, z < 1000 → fdB g z = decide (inL f n z)) : fb_ct (fdB g) 1000 = n := by
  rw [fb_ct_cong h]; exact list_ct hL
theorem fd_kth {f g : Nat → Nat} {n i : Nat} (hL : LOk f n) (h : ∀ z, z < 1000 → fdB g z = decide (inL f n z)) (hi : i < n) : kth (fdB g) i 1000 = f i := by
  have hf := (hL.2.2 i hi).1
  refine kth_eq hf (by rw [h _ hf, decide_eq_true_iff]; exact ⟨i, hi, rfl⟩) ?_
  rw [fb_ct_cong (fun k hk => h k (by omega))]
  exact ct_list hL.2.1 i (by omega) (f i) (fun j hj => hL.2.1 j i hj hi) (fun j h3 h4 => by
    rcases Nat.lt_or_ge i j with q | q
    · exact Nat.le_of_lt (hL.2.1 i j q h4)
    · rw [show j = i by omega]; exact Nat.le_refl _)
theorem fd_sm {f g : Nat → Nat} {n : Nat} (hL : LOk f n) (h : ∀ z, z < 1000 → fdB g z = decide (inL f n z)) : smF g 1000 = fb_sm (fun i => dsum (f i)) n := by
  have key : ∀ x, x ≤ 1000 → ∃ m, m ≤ n ∧ (∀ i, i < m → f i < x) ∧ (∀ i, m ≤ i → i < n → x ≤ f i) ∧ smF g x = fb_sm (fun i => dsum (f i)) m := by
    intro x
    induction x with
    | zero => exact fun _ => ⟨0, Nat.zero_le _, fun i hi => absurd hi (by omega), fun i _ _ => Nat.zero_le _, rfl⟩
    | succ x ih =>
      intro hx
      obtain ⟨m, h0, h1, h2, h3⟩ := ih (by omega)
      have hz := h x (by omega)
      have hg : g x ≠ 0 ↔ inL f n x := by
        have : decide (g x ≠ 0) = decide (inL f n x) := hz
        rwa [decide_eq_decide] at this
      by_cases q : inL f n x
      · obtain ⟨i, hi, e⟩ := q
        have him : m ≤ i := by
          rcases Nat.lt_or_ge i m with z | z
          · have := h1 i z; omega
          · exact z
        have e2 : i = m := by
          rcases Nat.lt_or_ge m i with z | z
          · have := hL.2.1 m i z hi; have := h2 m (Nat.le_refl _) (by omega); omega
          · omega
        subst e2
        refine ⟨i + 1, by omega, fun k hk => ?_, fun k hk hk2 => ?_, ?_⟩
        · rcases Nat.lt_or_ge k i with z | z
          · have := h1 k z; omega
          · rw [show k = i by omega]; omega
        · have := hL.2.1 i k (by omega) hk2; omega
        · have hne := hg.mpr ⟨i, hi, e⟩
          unfold smF at *
          rw [fb_sm_succ, fb_sm_succ, if_pos hne, h3, e]
      · refine ⟨m, h0, fun i hi => by have := h1 i hi; omega, fun i hi hi2 => ?_, ?_⟩
        · have := h2 i hi hi2
          rcases Nat.lt_or_ge x (f i) with z | z
          · exact z
          · exact absurd ⟨i, hi2, by omega⟩ q
        · unfold smF at *
          rw [fb_sm_succ, if_neg (fun w => q (hg.mp w)), h3]; rfl
  obtain ⟨m, h0, h1, h2, h3⟩ := key 1000 (Nat.le_refl _)
  have e : m = n := by
    rcases Nat.lt_or_ge m n with z | z
    · have := h2 m (Nat.le_refl _) z; have := (hL.2.2 m z).1; omega
    · omega
  rw [h3, e]
