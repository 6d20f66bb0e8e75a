/-! ===== the best reading order ===== -/
/-- the least of c over the states of a mask, 63 if there is none -/
def lstF (c : Nat → Nat) (m : Nat) : Nat → Nat
  | 0 => 63
  | q + 1 => if m.testBit q = true then min (lstF c m q) (c q) else lstF c m q
abbrev lst (c : Nat → Nat) (m : Nat) : Nat := lstF c m 5
theorem lstF_le (c : Nat → Nat) (m : Nat) : ∀ n, lstF c m n ≤ 63
  | 0 => Nat.le_refl _
  | n + 1 => by have := lstF_le c m n; rw [lstF]; split <;> omega
theorem lstF_cong {c c2 : Nat → Nat} {m : Nat} : ∀ n, (∀ q, q < n → m.testBit q = true → c q = c2 q) → lstF c m n = lstF c2 m n
  | 0, _ => rfl
  | n + 1, h => by
    rw [lstF, lstF, lstF_cong n (fun q hq => h q (by omega))]
    split
    · rename_i z; rw [h n (by omega) z]
    · rfl
/-- five costs of six bits -/
def pkF (c : Nat → Nat) : Nat → Nat
  | 0 => 0
  | q + 1 => pkF c q + c q * 2 ^ (6 * q)
theorem pkF_lt {c : Nat → Nat} : ∀ n, (∀ q, q < n → c q < 64) → pkF c n < 2 ^ (6 * n)
  | 0, _ => (by decide : 0 < 1)
  | n + 1, h => by
    have h1 := pkF_lt n (fun q hq => h q (by omega))
    have h2 := h n (by omega)
    have h3 : c n * 2 ^ (6 * n) ≤ 63 * 2 ^ (6 * n) := Nat.mul_le_mul_right _ (by omega)
    rw [pkF, show 6 * (n + 1) = 6 * n + 6 by omega, Nat.pow_add]
    omega
theorem pkF_or {c : Nat → Nat} {n : Nat} (h : ∀ q, q < n → c q < 64) : pkF c n ||| c n * 2 ^ (6 * n) = pkF c (n + 1) := by
  rw [pkF, Nat.or_comm, Nat.mul_comm (c n), ← Nat.two_pow_add_eq_or_of_lt (pkF_lt n h)]
  omega
theorem pkF_at {c : Nat → Nat} : ∀ n, (∀ q, q < n → c q < 64) → ∀ k, k < n → pkF c n / 2 ^ (6 * k) % 64 = c k
  | 0, _, k, hk => absurd hk (by omega)
  | n + 1, h, k, hk => by
    have h1 := pkF_lt n (fun q hq => h q (by omega))
    rw [pkF]
    rcases Nat.lt_or_ge k n with z | z
    · have ih := pkF_at n (fun q hq => h q (by omega)) k z
      have e : c n * 2 ^ (6 * n) = 2 ^ (6 * k) * (64 * (c n * 2 ^ (6 * (n - k - 1)))) := by
        rw [show 6 * n = 6 * k + (6 + 6 * (n - k - 1)) by omega, Nat.pow_add, Nat.pow_add, show (2 : Nat) ^ 6 = 64 by decide]
        rw [Nat.mul_left_comm (c n), Nat.mul_left_comm (c n) 64]
      rw [e, Nat.add_mul_div_left _ _ (Nat.two_pow_pos _), Nat.add_mul_mod_self_left]
      exact ih
    · have e : k = n := by omega
      subst e
      rw [Nat.mul_comm (c k), Nat.add_mul_div_left _ _ (Nat.two_pow_pos _), Nat.div_eq_of_lt h1, Nat.zero_add, Nat.mod_eq_of_lt (h k (by omega))]
theorem and63 (k : Nat) : k &&& 63 = k % 64 := Nat.and_two_pow_sub_one_eq_mod k 6
abbrev adf (x y : Nat) : Nat := (x - y) + (y - x)
/-- the least cost of reading what isn't read, with k positions left; read: a mask of positions -/
def stF (f : Nat → Nat) (rd : Nat) : Nat → Nat
  | 0 => 63
  | p + 1 => if rd.testBit p = true then stF f rd p else min (stF f rd p) (f p)
theorem stF_le (f : Nat → Nat) (rd : Nat) : ∀ n, stF f rd n ≤ 63
  | 0 => Nat.le_refl _
  | n + 1 => by have := stF_le f rd n; rw [stF]; split <;> omega
theorem stF_cong {f f2 : Nat → Nat} {rd : Nat} : ∀ n, (∀ p, p < n → ¬ rd.testBit p = true → f p = f2 p) → stF f rd n = stF f2 rd n
  | 0, _ => rfl
  | n + 1, h => by
    rw [stF, stF, stF_cong n (fun q hq => h q (by omega))]
    split
    · rfl
    · rename_i z; rw [h n (by omega) z]
def cF (T w : Nat → Nat) (fin n : Nat) : Nat → Nat → Nat → Nat → Nat
  | 0, _, _, q => if 2 ^ q &&& fin ≠ 0 then 0 else 63
  | k + 1, rd, ls, q => stF (fun p => adf ls p + lst (cF T w fin n k (rd ||| 2 ^ p) p) (T (q * 3 + w p))) rd n
/-- how many positions aren't read -/
def unr (n rd : Nat) : Nat := fb_ct (fun p => !rd.testBit p) n
abbrev CF (T w : Nat → Nat) (fin n rd ls q : Nat) : Nat := cF T w fin n (unr n rd) rd ls q
theorem cF_le (T w : Nat → Nat) (fin n : Nat) : ∀ k rd ls q, cF T w fin n k rd ls q ≤ 63
  | 0, _, _, _ => by rw [cF]; split <;> decide
  | k + 1, _, _, _ => stF_le _ _ _
theorem or_bit (rd p i : Nat) : (rd ||| 2 ^ p).testBit i = (rd.testBit i || decide (i = p)) := fb_bit_set rd p i
theorem unr_put {n rd p : Nat} (hp : p < n) (h : ¬ rd.testBit p = true) : unr n rd = unr n (rd ||| 2 ^ p) + 1 := by
  unfold unr
  have e : fb_ct (fun q => !(rd ||| 2 ^ p).testBit q) n = fb_ct (fun q => if q = p then false else !rd.testBit q) n := fb_ct_cong fun q _ => by
    rw [or_bit]
    by_cases z : q = p
    · simp [z]
    · simp [z]
  have h2 := fb_ct_upd (fun q => !rd.testBit q) false hp
  have h3 : rd.testBit p = false := by simpa using h
  rw [h3] at h2
  rw [e]
  simpa using h2.symm
theorem CF_step {T w : Nat → Nat} {fin n rd ls q p0 : Nat} (hp : p0 < n) (h : ¬ rd.testBit p0 = true) : CF T w fin n rd ls q = stF (fun p => adf ls p + lst (CF T w fin n (rd ||| 2 ^ p) p) (T (q * 3 + w p))) rd n := by
  have e := unr_put hp h
  unfold CF
  rw [e, cF]
  apply stF_cong
  intro p hp2 h2
  have e2 := unr_put hp2 h2
  rw [show unr n (rd ||| 2 ^ p0) = unr n (rd ||| 2 ^ p) by omega]
theorem unr_full {n : Nat} : unr n (2 ^ n - 1) = 0 := by
  unfold unr
  rw [fb_ct_zero]
  intro p hp
  rw [Nat.testBit_two_pow_sub_one]; simp [hp]
theorem CF_full {T w : Nat → Nat} {fin n ls q : Nat} : CF T w fin n (2 ^ n - 1) ls q = if 2 ^ q &&& fin ≠ 0 then 0 else 63 := by
  unfold CF; rw [unr_full]; rfl
theorem unr_0 {n rd : Nat} (h : rd < 2 ^ n) (hf : rd ≠ 2 ^ n - 1) : ∃ p, p < n ∧ ¬ rd.testBit p = true := by
  rcases Classical.em (∃ p, p < n ∧ ¬ rd.testBit p = true) with q | q
  · exact q
  · exfalso
    apply hf
    apply Nat.eq_of_testBit_eq
    intro i
    rw [Nat.testBit_two_pow_sub_one]
    rcases Nat.lt_or_ge i n with z | z
    · simp only [z, decide_true]
      exact Classical.not_not.mp (fun r => q ⟨i, z, r⟩)
    · rw [Nat.testBit_lt_two_pow (Nat.lt_of_lt_of_le h (Nat.pow_le_pow_right (by decide) z))]
      simp; omega
theorem pow8 : ∀ n, n ≤ 8 → 1 ≤ 2 ^ n ∧ 2 ^ n ≤ 256 := by decide
theorem or_lt8 {rd p n : Nat} (h : rd < 2 ^ n) (hp : p < n) : rd ||| 2 ^ p < 2 ^ n := Nat.or_lt_two_pow h (Nat.pow_lt_pow_right (by decide) hp)
/-- without one of its bits a set is less -/
theorem clr_lt {st p : Nat} (h : st.testBit p = true) (hp : p < 8) : st &&& (2 ^ p ^^^ 4294967295) < st := by
  have hle : st &&& (2 ^ p ^^^ 4294967295) ≤ st := Nat.and_le_left
  rcases Nat.lt_or_ge (st &&& (2 ^ p ^^^ 4294967295)) st with q | q
  · exact q
  · exfalso
    have e : st &&& (2 ^ p ^^^ 4294967295) = st := by omega
    have h2 : (st &&& (2 ^ p ^^^ 4294967295)).testBit p = true := by rw [e]; exact h
    rw [Nat.testBit_and, Nat.testBit_xor, Nat.testBit_two_pow_self] at h2
    rw [show (4294967295 : Nat) = 2 ^ 32 - 1 by decide, Nat.testBit_two_pow_sub_one] at h2
    simp at h2
    omega
theorem clr_put {rd p : Nat} (h : ¬ rd.testBit p = true) (hr : rd < 256) (hp : p < 8) : (rd ||| 2 ^ p) &&& (2 ^ p ^^^ 4294967295) = rd := by
  apply Nat.eq_of_testBit_eq
  intro i
  rw [Nat.testBit_and, or_bit, Nat.testBit_xor, Nat.testBit_two_pow, show (4294967295 : Nat) = 2 ^ 32 - 1 by decide, Nat.testBit_two_pow_sub_one]
  have h3 : rd.testBit p = false := by simpa using h
  by_cases e : i = p
  · subst e; simp [h3]; omega
  · by_cases z : i < 32
    · simp [e, z, Ne.symm e, show ¬ p = i from fun q => e q.symm]
    · rw [Nat.testBit_lt_two_pow (Nat.lt_of_lt_of_le hr (Nat.le_trans (by decide : 256 ≤ 2 ^ 32) (Nat.pow_le_pow_right (by decide) (show 32 ≤ i by omega))))]
      simp [e]
/-- the states behind a set of positions: at least those behind one position more -/
def StK (T w S : Nat → Nat) (n lim : Nat) : Prop := S 0 = 1 ∧ (∀ st, st < lim → S st < 32) ∧ ∀ rd p, p < n → ¬ rd.testBit p = true → rd ||| 2 ^ p < lim → ∀ i, (stp T (w p) (S rd)).testBit i = true → (S (rd ||| 2 ^ p)).testBit i = true
def StI (T w S : Nat → Nat) (st p mk : Nat) : Prop := mk < 32 ∧ ∀ z, z < p → st.testBit z = true → ∀ i, (stp T (w z) (S (st &&& (2 ^ z ^^^ 4294967295)))).testBit i = true → mk.testBit i = true
theorem sti_put {T w S : Nat → Nat} {st p mk v : Nat} (h : StI T w S st p mk) (hv : v = stp T (w p) (S (st &&& (2 ^ p ^^^ 4294967295)))) (h32 : v < 32) : StI T w S st (p + 1) (mk ||| v) := by
  refine ⟨or32 h.1 h32, fun z hz hb i hi => ?_⟩
  rw [Nat.testBit_or, Bool.or_eq_true]
  rcases Nat.lt_or_ge z p with q | q
  · exact Or.inl (h.2 z q hb i hi)
  · rw [show z = p by omega] at hi; right; rw [hv]; exact hi
theorem sti_no {T w S : Nat → Nat} {st p mk : Nat} (h : StI T w S st p mk) (hb : ¬ st.testBit p = true) : StI T w S st (p + 1) mk := ⟨h.1, fun z hz hb2 i hi => by
  rcases Nat.lt_or_ge z p with q | q
  · exact h.2 z q hb2 i hi
  · rw [show z = p by omega] at hb2; exact absurd hb2 hb⟩
theorem stk_put {T w S : Nat → Nat} {n lim mk : Nat} (hn : n ≤ 8) (hl : 1 ≤ lim) (hl2 : lim < 256) (h : StK T w S n lim) (hi : StI T w S lim n mk) : StK T w (va_up S lim mk) n (lim + 1) := by
  refine ⟨by rw [va_up, if_neg (by omega)]; exact h.1, fun st hst => ?_, fun rd p hp hb hlt i q => ?_⟩
  · unfold va_up
    split
    · exact hi.1
    · exact h.2.1 st (by omega)
  · have hlt2 : rd < rd ||| 2 ^ p := by
      have := Nat.left_le_or (n := rd) (m := 2 ^ p)
      rcases Nat.lt_or_ge rd (rd ||| 2 ^ p) with z | z
      · exact z
      · exfalso; apply hb
        have e : rd ||| 2 ^ p = rd := by omega
        rw [← e, or_bit]; simp
    rw [va_up, if_neg (by omega)] at q
    unfold va_up
    split
    · rename_i e
      refine hi.2 p hp (by rw [← e, or_bit]; simp) i ?_
      rw [← e, clr_put hb (by omega) (by omega)]
      exact q
    · rename_i e
      exact h.2.2 rd p hp hb (by omega) i q
theorem jn_imB (a : Nat) : nI a + Int32.ofInt (-1) = nI (sb a 1) := by
  rw [← jn_sb (by decide), Int32.sub_eq_add_neg]; rfl
theorem pow6 : ∀ q, q < 5 → 2 ^ (6 * q) ≤ 16777216 := by decide
theorem sh6 {v q : Nat} (hv : v < 64) (hq : q < 5) : v * 2 ^ (6 * q) < 4294967296 := by
  have h1 := pow6 q hq
  have h2 := Nat.mul_le_mul (show v ≤ 63 by omega) h1
  omega
abbrev at6 (v q : Nat) : Nat := v / 2 ^ (6 * q) % 64
theorem at6_lt (v q : Nat) : at6 v q < 64 := Nat.mod_lt _ (by decide)
/-- the class's table holds the least costs, from the set lo on, at the states that can be met -/
def TbK (T w S pc : Nat → Nat) (fin n lo : Nat) : Prop := ∀ rd ls, lo ≤ rd → rd < 2 ^ n → ls < 8 → (rd = 2 ^ n - 1 ∨ rd.testBit ls = true ∨ (rd = 0 ∧ ls = 0)) → pc (rd * 8 + ls) < 1073741824 ∧ ∀ q, q < 5 → (rd = 2 ^ n - 1 ∨ (S rd).testBit q = true) → at6 (pc (rd * 8 + ls)) q = CF T w fin n rd ls q
abbrev fin6 (fin q : Nat) : Nat := if 2 ^ q &&& fin ≠ 0 then 0 else 63
theorem fin6_lt (fin q : Nat) : fin6 fin q < 64 := by show (if _ then _ else _) < 64; split <;> decide
theorem pk30 {c : Nat → Nat} (h : ∀ q, q < 5 → c q < 64) : pkF c 5 < 1073741824 := pkF_lt 5 h
theorem tb_full {T w S pc : Nat → Nat} {fin n : Nat} (h : ∀ l, l < 8 → pc ((2 ^ n - 1) * 8 + l) = pkF (fin6 fin) 5) : TbK T w S pc fin n (2 ^ n - 1) := by
  intro rd ls h1 h2 h3 h4
  have e : rd = 2 ^ n - 1 := by omega
  subst e
  rw [h ls h3]
  refine ⟨pk30 (fun q _ => fin6_lt fin q), fun q hq _ => ?_⟩
  rw [CF_full]
  exact pkF_at 5 (fun q _ => fin6_lt fin q) q hq
/-- the costs before a position is read next -/
def cBf (T w pc : Nat → Nat) (st p mk q : Nat) : Nat := lst (fun t => at6 (pc ((st ||| 2 ^ p) * 8 + p)) t) (if mk.testBit q = true then T (q * 3 + w p) else 0)
theorem cBf_lt (T w pc : Nat → Nat) (st p mk q : Nat) : cBf T w pc st p mk q < 64 := Nat.lt_succ_of_le (lstF_le _ _ _)
def cFm (bf : Nat → Nat) (n st ls mk q : Nat) : Nat := if mk.testBit q = true then stF (fun p => adf ls p + at6 (bf p) q) st n else 63
theorem cFm_lt (bf : Nat → Nat) (n st ls mk q : Nat) : cFm bf n st ls mk q < 64 := by unfold cFm; split; { exact Nat.lt_succ_of_le (stF_le _ _ _) }; { decide }
theorem stp_bit {T : Nat → Nat} {x m q i : Nat} (hq : q < 5) (h1 : m.testBit q = true) (h2 : (T (q * 3 + x)).testBit i = true) : (stp T x m).testBit i = true := by
  unfold stp
  rw [orU_bit]
  exact ⟨q, hq, by rw [if_pos h1]; exact h2⟩
theorem tb_step {T w S pc pc2 bf : Nat → Nat} {fin n st : Nat} (hT : OkT T) (hn : n ≤ 8) (hw : ∀ p, p < n → w p < 3) (hst : st < 2 ^ n - 1) (hS : StK T w S n (2 ^ n)) (h : TbK T w S pc fin n (st + 1)) (hbf : ∀ p, p < n → ¬ st.testBit p = true → bf p = pkF (cBf T w pc st p (S st)) 5)
    (hk : ∀ k, (k < st * 8 ∨ st * 8 + 8 ≤ k) → pc2 k = pc k) (hv : ∀ l, l < n → (st.testBit l = true ∨ (st = 0 ∧ l = 0)) → pc2 (st * 8 + l) = pkF (cFm bf n st l (S st)) 5) : TbK T w S pc2 fin n st := by
  intro rd ls h1 h2 h3 h4
  by_cases e : rd = st
  · subst e
    have hln : ls < n := by
      rcases h4 with q | q | q
      · omega
      · rcases Nat.lt_or_ge ls n with z | z
        · exact z
        · rw [Nat.testBit_lt_two_pow (Nat.lt_of_lt_of_le h2 (Nat.pow_le_pow_right (by decide) z))] at q; cases q
      · rcases Nat.eq_zero_or_pos n with z | z
        · rw [z] at hst; exact absurd hst (Nat.not_lt_zero _)
        · omega
    rw [hv ls hln (h4.resolve_left (by omega))]
    refine ⟨pk30 (fun q _ => cFm_lt _ _ _ _ _ q), fun q hq hb => ?_⟩
    have hb2 := hb.resolve_left (by omega)
    unfold at6
    rw [pkF_at 5 (fun q _ => cFm_lt _ _ _ _ _ q) q hq]
    obtain ⟨p0, hp0, hb0⟩ := unr_0 h2 (show rd ≠ 2 ^ n - 1 by omega)
    rw [CF_step hp0 hb0]
    unfold cFm
    rw [if_pos hb2]
    apply stF_cong
    intro p hp hnb
    show adf ls p + at6 (bf p) q = adf ls p + _
    congr 1
    unfold at6
    rw [hbf p hp hnb, pkF_at 5 (fun q _ => cBf_lt _ _ _ _ _ _ q) q hq]
    unfold cBf
    rw [if_pos hb2]
    apply lstF_cong
    intro t ht htb
    have hlt := or_lt8 h2 hp
    have hgt : rd < rd ||| 2 ^ p := by
      have := Nat.left_le_or (n := rd) (m := 2 ^ p)
      rcases Nat.lt_or_ge rd (rd ||| 2 ^ p) with z | z
      · exact z
      · exfalso; apply hnb; rw [← show rd ||| 2 ^ p = rd by omega, or_bit]; simp
    exact (h (rd ||| 2 ^ p) p (by omega) hlt (by omega) (Or.inr (Or.inl (by rw [or_bit]; simp)))).2 t ht (Or.inr (hS.2.2 rd p hp hnb hlt t (stp_bit hq hb2 htb)))
  · rw [hk _ (by omega)]
    exact h rd ls (by omega) h2 h3 h4
/-- the order that the class lays: at each step the least position that still allows the cost -/
def isOrd (T w : Nat → Nat) (fin n : Nat) : Nat → Nat → Nat → Nat → Nat → (Nat → Nat) → Prop
  | 0, _, _, _, _, _ => True
  | k + 1, rd, ls, mq, lf, od => ∃ p, p < n ∧ ¬ rd.testBit p = true ∧ adf ls p + lst (CF T w fin n (rd ||| 2 ^ p) p) (stp T (w p) mq) = lf ∧ (∀ z, z < p → ¬ rd.testBit z = true → adf ls z + lst (CF T w fin n (rd ||| 2 ^ z) z) (stp T (w z) mq) ≠ lf) ∧ od 0 = p ∧ isOrd T w fin n k (rd ||| 2 ^ p) p (stp T (w p) mq) (lf - adf ls p) (fun i => od (i + 1))
theorem isOrd_cong (T w : Nat → Nat) (fin n : Nat) : ∀ k rd ls mq lf (od od2 : Nat → Nat), (∀ i, i < k → od i = od2 i) → isOrd T w fin n k rd ls mq lf od → isOrd T w fin n k rd ls mq lf od2
  | 0, _, _, _, _, _, _, _, _ => trivial
  | k + 1, rd, ls, mq, lf, od, od2, h, hi => by
    obtain ⟨p, h1, h2, h3, h4, h5, h6⟩ := hi
    exact ⟨p, h1, h2, h3, h4, by rw [← h 0 (by omega)]; exact h5, isOrd_cong T w fin n k _ _ _ _ _ _ (fun i hi => h (i + 1) (by omega)) h6⟩
theorem lst_le {c : Nat → Nat} {m q : Nat} : ∀ n, q < n → m.testBit q = true → lstF c m n ≤ c q
  | 0, h, _ => absurd h (by omega)
  | n + 1, h, hb => by
    rw [lstF]
    rcases Nat.lt_or_ge q n with z | z
    · have := lst_le (c := c) n z hb; split <;> omega
    · have e : q = n := by omega
      subst e; rw [if_pos hb]; omega
theorem lst_at {c : Nat → Nat} {m : Nat} : ∀ n, lstF c m n < 63 → ∃ q, q < n ∧ m.testBit q = true ∧ c q = lstF c m n
  | 0, h => absurd h (by show ¬ 63 < 63; decide)
  | n + 1, h => by
    rw [lstF] at h ⊢
    split at h
    · rename_i hb
      rw [if_pos hb]
      rcases Nat.lt_or_ge (lstF c m n) (c n) with z | z
      · obtain ⟨q, h1, h2, h3⟩ := lst_at (c := c) (m := m) n (by omega)
        exact ⟨q, by omega, h2, by omega⟩
      · exact ⟨n, by omega, hb, by omega⟩
    · rename_i hb
      rw [if_neg hb]
      obtain ⟨q, h1, h2, h3⟩ := lst_at (c := c) (m := m) n h
      exact ⟨q, by omega, h2, h3⟩
theorem st_le {f : Nat → Nat} {rd p : Nat} : ∀ n, p < n → ¬ rd.testBit p = true → stF f rd n ≤ f p
  | 0, h, _ => absurd h (by omega)
  | n + 1, h, hb => by
    rw [stF]
    rcases Nat.lt_or_ge p n with z | z
    · have := st_le (f := f) n z hb; split <;> omega
    · have e : p = n := by omega
      subst e; rw [if_neg hb]; omega
theorem st_at {f : Nat → Nat} {rd : Nat} : ∀ n, stF f rd n < 63 → ∃ p, p < n ∧ ¬ rd.testBit p = true ∧ f p = stF f rd n
  | 0, h => absurd h (by show ¬ 63 < 63; decide)
  | n + 1, h => by
    rw [stF] at h ⊢
    split at h
    · rename_i hb
      rw [if_pos hb]
      obtain ⟨q, h1, h2, h3⟩ := st_at (f := f) (rd := rd) n h
      exact ⟨q, by omega, h2, h3⟩
    · rename_i hb
      rw [if_neg hb]
      rcases Nat.lt_or_ge (stF f rd n) (f n) with z | z
      · obtain ⟨q, h1, h2, h3⟩ := st_at (f := f) (rd := rd) n (by omega)
        exact ⟨q, by omega, h2, by omega⟩
      · exact ⟨n, by omega, hb, by omega⟩
theorem stp_of {T : Nat → Nat} {x m i : Nat} (h : (stp T x m).testBit i = true) : ∃ q, q < 5 ∧ m.testBit q = true ∧ (T (q * 3 + x)).testBit i = true := by
  unfold stp at h
  rw [orU_bit] at h
  obtain ⟨q, hq, h2⟩ := h
  by_cases z : m.testBit q = true
  · rw [if_pos z] at h2; exact ⟨q, hq, z, h2⟩
  · rw [if_neg z, Nat.zero_testBit] at h2; cases h2
/-- a step of the way: some position allows the least cost, and none less -/
theorem ord_step {T w : Nat → Nat} {fin n rd ls mk p0 : Nat} (hp0 : p0 < n) (hb0 : ¬ rd.testBit p0 = true) (hlf : lst (CF T w fin n rd ls) mk < 63) : (∃ p, p < n ∧ ¬ rd.testBit p = true ∧ adf ls p + lst (CF T w fin n (rd ||| 2 ^ p) p) (stp T (w p) mk) = lst (CF T w fin n rd ls) mk) := by
  obtain ⟨q, hq, hb, hc⟩ := lst_at 5 hlf
  rw [CF_step hp0 hb0] at hc
  obtain ⟨p, hp, hnb, hv⟩ := st_at n (by rw [hc]; exact hlf)
  refine ⟨p, hp, hnb, Nat.le_antisymm ?_ ?_⟩
  · show adf ls p + _ ≤ lstF (CF T w fin n rd ls) mk 5
    rw [← hc, ← hv]
    show adf ls p + _ ≤ adf ls p + _
    apply Nat.add_le_add_left
    rcases Nat.lt_or_ge (lst (CF T w fin n (rd ||| 2 ^ p) p) (T (q * 3 + w p))) 63 with z | z
    · obtain ⟨t, ht, htb, htc⟩ := lst_at 5 z
      show lstF _ _ 5 ≤ lstF _ _ 5
      rw [← htc]
      exact lst_le 5 ht (stp_bit hq hb htb)
    · exact Nat.le_trans (lstF_le _ _ _) z
  · rcases Nat.lt_or_ge (lst (CF T w fin n (rd ||| 2 ^ p) p) (stp T (w p) mk)) 63 with z | z
    · obtain ⟨t, ht, htb, htc⟩ := lst_at 5 z
      obtain ⟨q2, hq2, hb2, ht2⟩ := stp_of htb
      refine Nat.le_trans (lst_le 5 hq2 hb2) ?_
      rw [CF_step hp0 hb0]
      refine Nat.le_trans (st_le n hp hnb) ?_
      show adf ls p + lst _ _ ≤ adf ls p + lst _ _
      apply Nat.add_le_add_left
      show lstF _ _ 5 ≤ lstF _ _ 5
      rw [← htc]
      exact lst_le 5 ht ht2
    · omega
theorem or_gt {st n p : Nat} (hs : st < n) (hb : ¬ st.testBit p = true) : st + 1 ≤ st ||| 2 ^ p := by
  have := Nat.left_le_or (n := st) (m := 2 ^ p)
  rcases Nat.lt_or_ge st (st ||| 2 ^ p) with z | z
  · exact z
  · exfalso; apply hb; rw [← show st ||| 2 ^ p = st by omega, or_bit]; simp
theorem fs_put {P : Nat → Prop} {pc F : Nat → Nat} {b k v : Nat} (hv : v = F k) (h : ∀ z, z < k → P z → pc (b + z) = F z) : ∀ z, z < k + 1 → P z → va_up pc (b + k) v (b + z) = F z := by
  intro z hz hp
  unfold va_up
  split
  · rename_i e; rw [hv, show z = k by omega]
  · exact h z (by omega) hp
theorem fs_keep {P : Nat → Prop} {pc F : Nat → Nat} {b k : Nat} (hn : ¬ P k) (h : ∀ z, z < k → P z → pc (b + z) = F z) : ∀ z, z < k + 1 → P z → pc (b + z) = F z := by
  intro z hz hp
  rcases Nat.lt_or_ge z k with q | q
  · exact h z q hp
  · rw [show z = k by omega] at hp; exact absurd hp hn
theorem ft_put {P : Nat → Prop} {pc F : Nat → Nat} {k v : Nat} (hv : v = F k) (h : ∀ z, z < k → P z → pc z = F z) : ∀ z, z < k + 1 → P z → va_up pc k v z = F z := by
  intro z hz hp
  unfold va_up
  split
  · rename_i e; rw [hv, e]
  · exact h z (by omega) hp
theorem ft_keep {P : Nat → Prop} {pc F : Nat → Nat} {k : Nat} (hn : ¬ P k) (h : ∀ z, z < k → P z → pc z = F z) : ∀ z, z < k + 1 → P z → pc z = F z := by
  intro z hz hp
  rcases Nat.lt_or_ge z k with q | q
  · exact h z q hp
  · rw [show z = k by omega] at hp; exact absurd hp hn
theorem nx_no {A B : Bool} (h : A = true ∨ B = false) : (!A && B) = false := by
  rcases h with h | h <;> rw [h] <;> simp
theorem nx_yes {A B : Bool} (h : A = false) (h2 : B = true) : (!A && B) = true := by rw [h, h2]; rfl
theorem adf_le8 {la p : Nat} (h : la < 8) (h2 : p < 8) : adf la p ≤ 7 := by show (la - p) + (p - la) ≤ 7; omega
theorem jn_small {a b : Nat} (h : a ≤ 7) (h2 : b ≤ 63) : a + b < 2147483648 := by omega
