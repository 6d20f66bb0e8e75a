/-! ===== all words of a length ===== -/
theorem dg_last {cd x n k : Nat} (hx : x < 3) (hk : k < n) : dgt (3 * cd + x) (n + 1) k = dgt cd n k := by
  unfold dgt
  rw [show n + 1 - 1 - k = (n - 1 - k) + 1 by omega, Nat.pow_succ, Nat.mul_comm (3 ^ (n - 1 - k)) 3, ← Nat.div_div_eq_div_mul, show (3 * cd + x) / 3 = cd by omega]
theorem dg_lastn {cd x n : Nat} (hx : x < 3) : dgt (3 * cd + x) (n + 1) n = x := by
  unfold dgt
  rw [show n + 1 - 1 - n = 0 by omega, Nat.pow_zero, Nat.div_one]; omega
theorem dg_first {cd x n : Nat} (hx : x < 3) (hc : cd < 3 ^ n) : dgt (x * 3 ^ n + cd) (n + 1) 0 = x := by
  unfold dgt
  rw [show n + 1 - 1 - 0 = n by omega, Nat.add_comm, Nat.add_mul_div_right _ _ (Nat.pow_pos (by decide)), Nat.div_eq_of_lt hc, Nat.zero_add, Nat.mod_eq_of_lt hx]
theorem dg_firstk {cd x n k : Nat} (hk : k < n) : dgt (x * 3 ^ n + cd) (n + 1) (k + 1) = dgt cd n k := by
  unfold dgt
  rw [show n + 1 - 1 - (k + 1) = n - 1 - k by omega]
  have e : x * 3 ^ n = (x * 3 ^ k * 3) * 3 ^ (n - 1 - k) := by
    rw [Nat.mul_assoc, Nat.mul_assoc, ← Nat.pow_succ', ← Nat.pow_add, show k + (n - 1 - k).succ = n by omega]
  rw [e, Nat.add_comm, Nat.add_mul_div_right _ _ (Nat.pow_pos (by decide)), Nat.add_mul_mod_self_right]
theorem ct_3l {p : Nat → Bool} : ∀ N, fb_ct p (3 * N) = fb_sm (fun c => fb_ct (fun x => p (3 * c + x)) 3) N
  | 0 => rfl
  | N + 1 => by rw [show 3 * (N + 1) = 3 * N + 3 by omega, fb_ct_split, fb_sm_succ, ct_3l N]
theorem ct_3f {p : Nat → Bool} (N : Nat) : fb_ct p (3 * N) = fb_sm (fun x => fb_ct (fun c => p (x * N + c)) N) 3 := by
  rw [show 3 * N = N + (N + N) by omega, fb_ct_split, fb_ct_split]
  show _ = ((0 + fb_ct (fun c => p (0 * N + c)) N) + fb_ct (fun c => p (1 * N + c)) N) + fb_ct (fun c => p (2 * N + c)) N
  rw [Nat.zero_add, Nat.add_assoc]
  congr 1
  · exact fb_ct_cong (fun k _ => by rw [Nat.zero_mul, Nat.zero_add])
  congr 1
  · exact fb_ct_cong (fun k _ => by rw [Nat.one_mul])
  · exact fb_ct_cong (fun k _ => by rw [show 2 * N + k = N + (N + k) by omega])
theorem sm_pick {G : Nat → Nat} {r : Nat} : ∀ {K : Nat}, r < K → fb_sm (fun m => G m * (if r = m then 1 else 0)) K = G r
  | 0, h => absurd h (by omega)
  | K + 1, h => by
    rw [fb_sm_succ]
    by_cases e : r = K
    · subst e
      rw [if_pos rfl, Nat.mul_one]
      have : fb_sm (fun m => G m * (if r = m then 1 else 0)) r = fb_sm (fun _ => 0) r := fb_sm_cong (fun m hm => by rw [if_neg (by omega), Nat.mul_zero])
      rw [this, fb_sm_const, Nat.mul_zero, Nat.zero_add]
    · rw [if_neg e, Nat.mul_zero, Nat.add_zero, sm_pick (by omega)]
theorem ct_d {P : Prop} [Decidable P] : (if decide P = true then 1 else 0 : Nat) = if P then 1 else 0 := by
  by_cases p : P
  · rw [if_pos p, if_pos (decide_eq_true p)]
  · rw [if_neg p, if_neg (by rw [decide_eq_true_iff]; exact p)]
theorem sm_fib {G r : Nat → Nat} {K : Nat} : ∀ N, (∀ c, c < N → r c < K) → fb_sm (fun c => G (r c)) N = fb_sm (fun m => G m * fb_ct (fun c => decide (r c = m)) N) K
  | 0, _ => by
    show 0 = _
    rw [fb_sm_cong (g := fun _ => 0) (fun m _ => by show G m * 0 = 0; rw [Nat.mul_zero]), fb_sm_const, Nat.mul_zero]
  | N + 1, h => by
    rw [fb_sm_succ, sm_fib N (fun c hc => h c (by omega)), ← sm_pick (G := G) (h N (by omega)), ← fb_sm_add]
    exact fb_sm_cong (fun m _ => by rw [fb_ct_succ, ct_d, Nat.mul_add])
theorem ct_sm {p : Nat → Bool} : ∀ N, fb_ct p N = fb_sm (fun c => if p c = true then 1 else 0) N
  | 0 => rfl
  | N + 1 => by rw [fb_ct_succ, fb_sm_succ, ct_sm N]
theorem wr_last {T : Nat → Nat} {n c x : Nat} (hx : x < 3) : wrun T (dgt (3 * c + x) (n + 1)) (n + 1) = stp T x (wrun T (dgt c n) n) := by
  rw [wrun, dg_lastn hx, wrun_w n (fun i hi => dg_last hx hi)]
theorem dp_ct {T : Nat → Nat} (hT : OkT T) : ∀ n z, dpI T n z = fb_ct (fun cd => decide (wrun T (dgt cd n) n = z)) (3 ^ n)
  | 0, z => by
    show (if z = 1 then 1 else 0) = 0 + (if decide (1 = z) = true then 1 else 0)
    rw [Nat.zero_add, ct_d]
    by_cases e : z = 1
    · rw [if_pos e, if_pos e.symm]
    · rw [if_neg e, if_neg (fun q => e q.symm)]
  | n + 1, z => by
    rw [Nat.pow_succ, Nat.mul_comm, ct_3l]
    have e1 : fb_sm (fun c => fb_ct (fun x => decide (wrun T (dgt (3 * c + x) (n + 1)) (n + 1) = z)) 3) (3 ^ n) = fb_sm (fun c => (fun m => fb_ct (fun x => decide (stp T x m = z)) 3) (wrun T (dgt c n) n)) (3 ^ n) :=
      fb_sm_cong (fun c _ => fb_ct_cong (fun x hx => by rw [wr_last hx]))
    rw [e1, sm_fib (G := fun m => fb_ct (fun x => decide (stp T x m = z)) 3) (r := fun c => wrun T (dgt c n) n) (K := 32) (3 ^ n) (fun c _ => wrun_lt hT n (fun i _ => dgt_lt _ _ _)), dpI]
    refine fb_sm_cong (fun m _ => ?_)
    rw [← dp_ct hT n m]
    show ((0 + (if stp T 0 m = z then dpI T n m else 0)) + (if stp T 1 m = z then dpI T n m else 0)) + (if stp T 2 m = z then dpI T n m else 0) = (((0 + (if decide (stp T 0 m = z) = true then 1 else 0)) + (if decide (stp T 1 m = z) = true then 1 else 0)) + (if decide (stp T 2 m = z) = true then 1 else 0)) * dpI T n m
    rw [ct_d, ct_d, ct_d]
    repeat' split
    all_goals omega
theorem ciO_ct {T : Nat → Nat} {fin n : Nat} (hT : OkT T) : ciO T fin n = fb_ct (fun cd => decide (wrun T (dgt cd n) n &&& fin ≠ 0)) (3 ^ n) := by
  rw [ct_sm]
  have e := sm_fib (G := fun m => if m &&& fin ≠ 0 then 1 else 0) (r := fun c => wrun T (dgt c n) n) (K := 32) (3 ^ n) (fun c _ => wrun_lt hT n (fun i _ => dgt_lt _ _ _))
  have e2 : fb_sm (fun c => if decide (wrun T (dgt c n) n &&& fin ≠ 0) = true then 1 else 0) (3 ^ n) = fb_sm (fun c => (fun m => if m &&& fin ≠ 0 then 1 else 0) (wrun T (dgt c n) n)) (3 ^ n) := fb_sm_cong (fun c _ => by rw [ct_d])
  rw [e2, e]
  unfold ciO
  refine fb_sm_cong (fun m _ => ?_)
  rw [← dp_ct hT n m]
  split
  · rw [Nat.one_mul]
  · rw [Nat.zero_mul]
/-! jumping: the words with the same counts -/
def nw3 (n a b c : Nat) : Nat := fb_ct (fun cd => decide (cntW (dgt cd n) n 0 = a ∧ cntW (dgt cd n) n 1 = b ∧ cntW (dgt cd n) n 2 = c)) (3 ^ n)
theorem cn_last {n c x y : Nat} (hx : x < 3) : cntW (dgt (3 * c + x) (n + 1)) (n + 1) y = cntW (dgt c n) n y + if x = y then 1 else 0 := by
  rw [cntW_s, dg_lastn hx, cntW_w (fun i hi => dg_last hx hi)]
theorem nw3_s (n a b c : Nat) : nw3 (n + 1) a b c = ((if 0 < a then nw3 n (a - 1) b c else 0) + (if 0 < b then nw3 n a (b - 1) c else 0)) + (if 0 < c then nw3 n a b (c - 1) else 0) := by
  have h0 : ∀ (P : Prop) [Decidable P] (k : Nat) (f : Nat → Bool), (if P then fb_ct f k else 0) = fb_sm (fun i => if P ∧ f i = true then 1 else 0) k := by
    intro P _ k f
    by_cases p : P
    · rw [if_pos p, ct_sm]; exact fb_sm_cong (fun i _ => by simp only [p, true_and])
    · rw [if_neg p, fb_sm_cong (g := fun _ => 0) (fun i _ => if_neg (fun q => p q.1)), fb_sm_const, Nat.mul_zero]
  unfold nw3
  rw [Nat.pow_succ, Nat.mul_comm, ct_3l, h0, h0, h0, ← fb_sm_add, ← fb_sm_add]
  refine fb_sm_cong (fun k _ => ?_)
  show ((0 + (if decide _ = true then 1 else 0)) + (if decide _ = true then 1 else 0)) + (if decide _ = true then 1 else 0) = _
  rw [ct_d, ct_d, ct_d, Nat.zero_add]
  simp only [cn_last (show 0 < 3 by decide), cn_last (show 1 < 3 by decide), cn_last (show 2 < 3 by decide), decide_eq_true_iff]
  congr 1
  · congr 1
    · exact ifc (by simp; omega)
    · exact ifc (by simp; omega)
  · exact ifc (by simp; omega)
def mul3 (n a b : Nat) : Nat := chF n a a * chF (n - a) b b
theorem mul3_s : ∀ n, n < 7 → ∀ a, a < n + 2 → ∀ b, b < n + 2 - a → mul3 (n + 1) a b = ((if 0 < a then mul3 n (a - 1) b else 0) + (if 0 < b then mul3 n a (b - 1) else 0)) + (if 0 < n + 1 - a - b then mul3 n a b else 0) := by decide +kernel
theorem nw3_m : ∀ n, n ≤ 7 → ∀ a b c, a + b + c = n → nw3 n a b c = mul3 n a b
  | 0, _, a, b, c, h => by
    have e1 : a = 0 := by omega
    have e2 : b = 0 := by omega
    have e3 : c = 0 := by omega
    subst e1 e2 e3
    rfl
  | n + 1, hn, a, b, c, h => by
    rw [nw3_s, mul3_s n (by omega) a (by omega) b (by omega), show n + 1 - a - b = c by omega]
    congr 1
    · congr 1
      · by_cases q : 0 < a
        · rw [if_pos q, if_pos q, nw3_m n (by omega) _ _ _ (by omega)]
        · rw [if_neg q, if_neg q]
      · by_cases q : 0 < b
        · rw [if_pos q, if_pos q, nw3_m n (by omega) _ _ _ (by omega)]
        · rw [if_neg q, if_neg q]
    · by_cases q : 0 < c
      · rw [if_pos q, if_pos q, nw3_m n (by omega) _ _ _ (by omega)]
      · rw [if_neg q, if_neg q]
theorem sm_one {b : Bool} {r : Nat} : ∀ {K : Nat}, (b = true → r < K) → fb_sm (fun m => if (b && decide (r = m)) = true then 1 else 0) K = if b = true then 1 else 0
  | 0, h => by
    cases b with
    | false => rfl
    | true => exact absurd (h rfl) (by omega)
  | K + 1, h => by
    cases b with
    | false => rw [fb_sm_cong (g := fun _ => 0) (fun m _ => by simp), fb_sm_const]; simp
    | true =>
      have e := sm_pick (G := fun _ => 1) (h rfl)
      rw [← if_pos (c := true = true) (t := (1 : Nat)) (e := 0) rfl] at e
      rw [← e]
      exact fb_sm_cong (fun m _ => by simp)
theorem ct_fib {p : Nat → Bool} {r : Nat → Nat} {K : Nat} : ∀ N, (∀ c, c < N → p c = true → r c < K) → fb_ct p N = fb_sm (fun m => fb_ct (fun c => p c && decide (r c = m)) N) K
  | 0, _ => by
    show 0 = _
    rw [fb_sm_cong (f := fun m => fb_ct (fun c => p c && decide (r c = m)) 0) (g := fun _ => 0) (fun m _ => rfl), fb_sm_const, Nat.mul_zero]
  | N + 1, h => by
    rw [fb_ct_succ, ct_fib N (fun c hc => h c (by omega)), ← sm_one (r := r N) (h N (by omega)), ← fb_sm_add]
    rfl
theorem cjR_ct {T : Nat → Nat} {fin n : Nat} (hn : n ≤ 7) : cjR T fin n = fb_ct (fun cd => decide (wrc T (dgt cd n) fin n)) (3 ^ n) := by
  have hs : ∀ cd, cntW (dgt cd n) n 0 + cntW (dgt cd n) n 1 + cntW (dgt cd n) n 2 = n := fun cd => cntW_sum n (fun i _ => dgt_lt _ _ _)
  rw [ct_fib (r := fun cd => cntW (dgt cd n) n 0) (K := n + 1) (3 ^ n) (fun c _ _ => by have := hs c; omega)]
  unfold cjR cjT
  refine fb_sm_cong (fun a ha => ?_)
  rw [ct_fib (r := fun cd => cntW (dgt cd n) n 1) (K := n - a + 1) (3 ^ n) (fun c _ hp => by
    rw [Bool.and_eq_true, decide_eq_true_iff, decide_eq_true_iff] at hp
    have := hs c
    have := hp.2
    omega)]
  refine fb_sm_cong (fun b hb => ?_)
  have hr : rtab T (100 * a + 10 * b + (n - a - b)) = rch T a b (n - a - b) := rtab_at (by omega) (by omega)
  rw [hr, show b + (n - a - b) = n - a by omega]
  by_cases q : rch T a b (n - a - b) &&& fin ≠ 0
  · rw [if_pos q]
    show mul3 n a b = _
    rw [← nw3_m n hn a b (n - a - b) (by omega)]
    unfold nw3
    refine fb_ct_cong (fun cd _ => ?_)
    rw [Bool.eq_iff_iff, Bool.and_eq_true, Bool.and_eq_true, decide_eq_true_iff, decide_eq_true_iff, decide_eq_true_iff, decide_eq_true_iff]
    have := hs cd
    constructor
    · rintro ⟨h1, h2, h3⟩
      refine ⟨⟨?_, h1⟩, h2⟩
      show rch T _ _ _ &&& fin ≠ 0
      rw [h1, h2, h3]; exact q
    · rintro ⟨⟨h1, h2⟩, h3⟩
      exact ⟨h2, h3, by omega⟩
  · rw [if_neg q]
    symm
    rw [fb_ct_zero]
    intro cd _
    apply Bool.eq_false_iff.mpr
    intro h
    rw [Bool.and_eq_true, Bool.and_eq_true, decide_eq_true_iff, decide_eq_true_iff, decide_eq_true_iff] at h
    obtain ⟨⟨h1, h2⟩, h3⟩ := h
    have := hs cd
    have h1 : rch T (cntW (dgt cd n) n 0) (cntW (dgt cd n) n 1) (cntW (dgt cd n) n 2) &&& fin ≠ 0 := h1
    rw [h2, h3, show cntW (dgt cd n) n 2 = n - a - b by omega] at h1
    exact q h1
/-! one-way -/
theorem wl_c (w : Nat → Nat) (n : Nat) : wl w (n + 1) = w 0 :: wl (fun i => w (i + 1)) n := by
  unfold wl
  rw [List.range_succ_eq_map, List.map_cons, List.map_map]
  rfl
theorem wl_first {cd x n : Nat} (hx : x < 3) (hc : cd < 3 ^ n) : wl (dgt (x * 3 ^ n + cd) (n + 1)) (n + 1) = x :: wl (dgt cd n) n := by
  rw [wl_c, dg_first hx hc, wl_w (fun i hi => dg_firstk hi)]
theorem cO_ct {T : Nat → Nat} {fin n : Nat} : ∀ k s, cO T fin n k s = fb_ct (fun cd => decide (accO fin (finM T 8 n ((wl (dgt cd k) k).foldl (mM T) s)))) (3 ^ k)
  | 0, s => by
    show (if accO fin (finM T 8 n s) then 1 else 0) = 0 + (if decide (accO fin (finM T 8 n s)) = true then 1 else 0)
    rw [Nat.zero_add, ct_d]
  | k + 1, s => by
    rw [Nat.pow_succ, Nat.mul_comm, ct_3f, cO]
    refine fb_sm_cong (fun x hx => ?_)
    rw [cO_ct k]
    exact fb_ct_cong (fun c hc => by rw [wl_first hx hc, List.foldl_cons])
theorem cB_dec {P Q : Prop} [Decidable Q] (h : P ↔ Q) : cB P = decide Q := by
  rw [Bool.eq_iff_iff, cB_iff, decide_eq_true_iff, h]
theorem acR_2 {T w : Nat → Nat} {fin n : Nat} (hn : n ≤ 8) : acR T w fin n 2 ↔ accO fin (finM T 8 n ((wl w n).foldl (mM T) (1, []))) := by
  have e1 : pr2 (readO T w n) = finM T 8 n ((wl w n).foldl (mM T) (1, [])) := by
    unfold readO
    rw [fin_pr, fold_pr]
  have e2 := readO_V (T := T) (w := w) hn
  rw [← e1]
  unfold acR
  rw [← e2]
  constructor
  · rintro (h | h | h)
    · exact absurd h.1 (by decide)
    · exact absurd h.1 (by decide)
    · exact ⟨h.2.1, h.2.2⟩
  · intro h
    exact Or.inr (Or.inr ⟨rfl, h.1, h.2⟩)
theorem cw_eq {T : Nat → Nat} {fin md n : Nat} (hT : OkT T) (hmd : md < 3) (hn : n ≤ 7) : cwN T fin md n = fb_ct (fun cd => cB (acR T (dgt cd n) fin n md)) (3 ^ n) := by
  unfold cwN
  rcases (by omega : md = 0 ∨ md = 1 ∨ md = 2) with e | e | e
  · subst e
    rw [if_pos rfl, ciO_ct hT]
    exact fb_ct_cong (fun cd _ => (cB_dec (ac_0 rfl)).symm)
  · subst e
    rw [if_neg (by decide), if_pos rfl, cjR_ct hn]
    exact fb_ct_cong (fun cd _ => (cB_dec (ac_1 rfl)).symm)
  · subst e
    rw [if_neg (by decide), if_neg (by decide), cO_ct]
    exact fb_ct_cong (fun cd _ => (cB_dec (acR_2 (by omega))).symm)
theorem cw_le {T : Nat → Nat} {fin md n : Nat} (hT : OkT T) (hmd : md < 3) (hn : n ≤ 7) : cwN T fin md n ≤ 3 ^ n := by
  rw [cw_eq hT hmd hn]; exact fb_ct_le _ _
/-- the class's and the reference's reading of a word -/
theorem acP_R {T w : Nat → Nat} {fin n md : Nat} (hn : n ≤ 8) : acP T w fin n md ↔ acR T w fin n md := by
  have e2 := readO_V (T := T) (w := w) hn
  unfold acR
  rw [← e2]
/-! open words -/
theorem wrun_rch {T w : Nat → Nat} : ∀ n q, (∀ i, i < n → w i < 3) → (wrun T w n).testBit q = true → (rch T (cntW w n 0) (cntW w n 1) (cntW w n 2)).testBit q = true
  | 0, q, _, h => by
    rw [rch_s]
    refine Or.inl ⟨rfl, rfl, rfl, ?_⟩
    have h : Nat.testBit 1 q = true := h
    cases q with
    | zero => rfl
    | succ q => rw [Nat.testBit_succ] at h; simp at h
  | n + 1, q, hw, h => by
    obtain ⟨p, hp, h1, h2⟩ := stp_of h
    rw [cntW_s, cntW_s, cntW_s]
    exact rch_put (hw n (by omega)) hp (wrun_rch n p (fun i hi => hw i (by omega)) h1) h2
theorem in_jump {T w : Nat → Nat} {fin n : Nat} (hw : ∀ i, i < n → w i < 3) (h : wrun T w n &&& fin ≠ 0) : wrc T w fin n := by
  obtain ⟨q, h1, h2⟩ := and_ne.mp h
  exact and_ne.mpr ⟨q, wrun_rch n q hw h1, h2⟩
theorem ct_two (p q : Nat → Bool) : ∀ N, fb_ct p N = fb_ct (fun c => p c && q c) N + fb_ct (fun c => p c && !q c) N
  | 0 => rfl
  | N + 1 => by
    rw [fb_ct_succ, fb_ct_succ, fb_ct_succ, ct_two p q N]
    cases p N <;> cases q N <;> simp <;> omega
theorem open_iff {T : Nat → Nat} {fin n : Nat} (hT : OkT T) (hn : n ≤ 7) : cjR T fin n ≠ ciO T fin n ↔ ∃ cd, cd < 3 ^ n ∧ opR T fin n cd := by
  rw [cjR_ct hn, ciO_ct hT, ct_two _ (fun cd => decide (wrun T (dgt cd n) n &&& fin ≠ 0))]
  have e : fb_ct (fun c => decide (wrc T (dgt c n) fin n) && decide (wrun T (dgt c n) n &&& fin ≠ 0)) (3 ^ n) = fb_ct (fun cd => decide (wrun T (dgt cd n) n &&& fin ≠ 0)) (3 ^ n) := fb_ct_cong (fun c _ => by
    rw [Bool.eq_iff_iff, Bool.and_eq_true, decide_eq_true_iff, decide_eq_true_iff]
    exact ⟨fun h => h.2, fun h => ⟨in_jump (fun i _ => dgt_lt _ _ _) h, h⟩⟩)
  rw [e]
  have e2 : ∀ a b : Nat, a + b ≠ a ↔ 0 < b := fun a b => by omega
  rw [e2, fb_ct_pos]
  constructor
  · rintro ⟨c, h1, h2⟩
    rw [Bool.and_eq_true, decide_eq_true_iff, Bool.not_eq_true', decide_eq_false_iff_not] at h2
    exact ⟨c, h1, h2⟩
  · rintro ⟨c, h1, h2⟩
    refine ⟨c, h1, ?_⟩
    rw [Bool.and_eq_true, decide_eq_true_iff, Bool.not_eq_true', decide_eq_false_iff_not]
    exact h2
theorem sol_no_iff {T : Nat → Nat} {fin n : Nat} (hT : OkT T) (hn : n ≤ 7) : ¬ solF T fin n ≤ n ↔ noR T fin n := by
  constructor
  · intro h k hk c hc ho
    have := fa_first_no (fun k => !(cjR T fin k == ciO T fin k)) (n + 1) k (by unfold solF at h; omega)
    have e : cjR T fin k = ciO T fin k := by simpa using this
    exact (open_iff hT (by omega)).mpr ⟨c, hc, ho⟩ e
  · intro h hs
    have := fa_first_yes (fun k => !(cjR T fin k == ciO T fin k)) (n + 1) (by unfold solF at hs; omega)
    have hne : cjR T fin (solF T fin n) ≠ ciO T fin (solF T fin n) := by
      unfold solF
      simpa using this
    obtain ⟨c, hc, ho⟩ := (open_iff hT (by omega)).mp hne
    exact h _ hs c hc ho
theorem sol_or {T w : Nat → Nat} {fin n ol : Nat} (hT : OkT T) (hn : n ≤ 7) (h : isOR T fin n ol w) : solF T fin n = ol := by
  obtain ⟨h0, cd, g1, g2, g3, -, -⟩ := h
  refine first_eq (by omega) ?_ (fun k hk => ?_)
  · simpa using (open_iff hT (by omega)).mpr ⟨cd, g1, g2⟩
  · have : ¬ cjR T fin k ≠ ciO T fin k := fun q => by
      obtain ⟨c, hc, ho⟩ := (open_iff hT (by omega)).mp q
      exact g3 k hk c hc ho
    simpa using this
/-- reading on from a mask and a code -/
abbrev stF2 (T : Nat → Nat) : Nat × Nat → Nat → Nat × Nat := fun s x => (stp T x s.1, s.2 + wt x)
def flw (T : Nat → Nat) (k c : Nat) (s : Nat × Nat) : Nat × Nat := (wl (dgt c k) k).foldl (stF2 T) s
abbrev OpF (tab : Nat → Nat) (fin : Nat) (s : Nat × Nat) : Prop := tab s.2 &&& fin ≠ 0 ∧ ¬ s.1 &&& fin ≠ 0
theorem flw_first {T : Nat → Nat} {k x c : Nat} {s : Nat × Nat} (hx : x < 3) (hc : c < 3 ^ k) : flw T (k + 1) (x * 3 ^ k + c) s = flw T k c (stF2 T s x) := by
  unfold flw
  rw [wl_first hx hc, List.foldl_cons]
theorem code_lt {k x c : Nat} (hx : x < 3) (hc : c < 3 ^ k) : x * 3 ^ k + c < 3 ^ (k + 1) := by
  rw [Nat.pow_succ]
  have := Nat.mul_le_mul_right (3 ^ k) (show x ≤ 2 by omega)
  omega
theorem code_ex {k c : Nat} (hc : c < 3 ^ (k + 1)) : ∃ x c1, x < 3 ∧ c1 < 3 ^ k ∧ c = x * 3 ^ k + c1 := by
  rw [Nat.pow_succ] at hc
  refine ⟨c / 3 ^ k, c % 3 ^ k, Nat.div_lt_of_lt_mul hc, Nat.mod_lt _ (Nat.pow_pos (by decide)), ?_⟩
  rw [Nat.mul_comm]; exact (Nat.div_add_mod c (3 ^ k)).symm
theorem opP_iff {T tab : Nat → Nat} {fin : Nat} : ∀ k m cd, opP T tab fin k m cd ↔ ∃ c, c < 3 ^ k ∧ OpF tab fin (flw T k c (m, cd))
  | 0, m, cd => ⟨fun h => ⟨0, by decide, h⟩, fun ⟨c, _, h⟩ => h⟩
  | k + 1, m, cd => by
    constructor
    · rintro ⟨x, hx, h⟩
      obtain ⟨c, hc, h2⟩ := (opP_iff k _ _).mp h
      exact ⟨x * 3 ^ k + c, code_lt hx hc, by rw [flw_first hx hc]; exact h2⟩
    · rintro ⟨c, hc, h⟩
      obtain ⟨x, c1, hx, h1, e⟩ := code_ex hc
      subst e
      rw [flw_first hx h1] at h
      exact ⟨x, hx, (opP_iff k _ _).mpr ⟨c1, h1, h⟩⟩
theorem isOp_min {T tab : Nat → Nat} {fin : Nat} : ∀ k m cd c (w : Nat → Nat), isOp T tab fin k m cd w → c < 3 ^ k → OpF tab fin (flw T k c (m, cd)) → (∀ c1, c1 < c → ¬ OpF tab fin (flw T k c1 (m, cd))) → ∀ i, i < k → w i = dgt c k i
  | 0, _, _, _, _, _, _, _, _, i, hi => absurd hi (by omega)
  | k + 1, m, cd, c, w, hw, hc, ho, hm, i, hi => by
    obtain ⟨x, c1, hx, h1, e⟩ := code_ex hc
    obtain ⟨x0, hx0, g1, g2, g3, g4⟩ := hw
    subst e
    rw [flw_first hx h1] at ho
    have ex : x = x0 := by
      rcases Nat.lt_trichotomy x x0 with z | z | z
      · exact absurd ((opP_iff k _ _).mpr ⟨c1, h1, ho⟩) (g1 x z)
      · exact z
      · obtain ⟨c2, hc2, ho2⟩ := (opP_iff k _ _).mp g2
        have hlt : x0 * 3 ^ k + c2 < x * 3 ^ k + c1 := by
          have := Nat.mul_le_mul_right (3 ^ k) (show x0 + 1 ≤ x by omega)
          rw [Nat.succ_mul] at this
          omega
        exact absurd (by rw [flw_first hx0 hc2]; exact ho2) (hm _ hlt)
    subst ex
    cases i with
    | zero => rw [dg_first hx h1]; exact g3
    | succ i =>
      rw [dg_firstk (by omega)]
      exact isOp_min k _ _ c1 _ g4 h1 ho (fun c2 hc2 => by
        have := hm (x * 3 ^ k + c2) (by omega)
        rw [flw_first hx (by omega)] at this
        exact this) i (by omega)
theorem flw_run {T w : Nat → Nat} : ∀ n, (wl w n).foldl (stF2 T) (1, 0) = (wrun T w n, wcd w n)
  | 0 => rfl
  | n + 1 => by rw [wl_s, List.foldl_append, flw_run n]; rfl
theorem op_eq {T tab : Nat → Nat} {fin n k c : Nat} (hn : n ≤ 7) (hk : k ≤ n) (hR : ∀ a b c, a ≤ n → b ≤ n → c ≤ n → tab (100 * a + 10 * b + c) = rch T a b c) : OpF tab fin (flw T k c (1, 0)) ↔ opR T fin k c := by
  unfold flw
  rw [flw_run]
  show (tab (wcd (dgt c k) k) &&& fin ≠ 0 ∧ _) ↔ _
  have h0 := cntW_le (dgt c k) k 0
  have h1 := cntW_le (dgt c k) k 1
  have h2 := cntW_le (dgt c k) k 2
  rw [wcd_cnt (w := dgt c k) k (fun i _ => dgt_lt _ _ _), hR _ _ _ (by omega) (by omega) (by omega)]
  rfl
theorem open_word {T tab w lt : Nat → Nat} {fin n : Nat} (hn : n ≤ 7) (hT : OkT T) (hR : ∀ a b c, a ≤ n → b ≤ n → c ≤ n → tab (100 * a + 10 * b + c) = rch T a b c) {ol : Nat} (ho : isOR T fin n ol w) (hi : isOp T tab fin (solF T fin n) 1 0 lt) : solF T fin n = ol ∧ ∀ i, i < ol → lt i = w i := by
  have e := sol_or hT hn ho
  obtain ⟨h0, cd, g1, g2, g3, g4, g5⟩ := ho
  refine ⟨e, fun i hi2 => ?_⟩
  rw [e] at hi
  rw [g5 i hi2]
  exact isOp_min ol 1 0 cd lt hi g1 ((op_eq hn h0 hR).mpr g2) (fun c1 hc1 q => g4 c1 hc1 ((op_eq hn h0 hR).mp q)) i hi2
theorem open_has {T tab : Nat → Nat} {fin n : Nat} (hn : n ≤ 7) (hT : OkT T) (hR : ∀ a b c, a ≤ n → b ≤ n → c ≤ n → tab (100 * a + 10 * b + c) = rch T a b c) (hs : solF T fin n ≤ n) : opP T tab fin (solF T fin n) 1 0 := by
  have := fa_first_yes (fun k => !(cjR T fin k == ciO T fin k)) (n + 1) (by unfold solF at hs; omega)
  have hne : cjR T fin (solF T fin n) ≠ ciO T fin (solF T fin n) := by
    unfold solF
    simpa using this
  obtain ⟨c, hc, ho⟩ := (open_iff hT (by omega)).mp hne
  exact (opP_iff _ 1 0).mpr ⟨c, hc, (op_eq hn hs hR).mpr ho⟩
