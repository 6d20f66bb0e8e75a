/-! ===== the way of the best order ===== -/
abbrev nxP (T w pc : Nat → Nat) (rd la mq lf : Nat) : Nat → Bool := fun p => !Nat.testBit rd p && (adf la p + lst (fun t => at6 (pc ((rd ||| 2 ^ p) * 8 + p)) t) (stp T (w p) mq) == lf)
def TrI (T w S : Nat → Nat) (fin n i rd la mq lf : Nat) (od : Nat → Nat) : Prop :=
  rd < 2 ^ n ∧ la < 8 ∧ mq < 32 ∧ lf = lst (CF T w fin n rd la) mq ∧ lf < 63 ∧ unr n rd = n - i ∧ (∀ q, mq.testBit q = true → (S rd).testBit q = true) ∧ (∀ j, j < i → od j < n) ∧
  ∀ od2 : Nat → Nat, (∀ j, j < i → od2 j = od j) → isOrd T w fin n (n - i) rd la mq lf (fun j => od2 (i + j)) → isOrd T w fin n n 0 0 1 (lst (CF T w fin n 0 0) 1) od2
theorem unr_le (n rd : Nat) : unr n rd ≤ n := fb_ct_le _ _
theorem unr_free {n rd : Nat} (h : 0 < unr n rd) : ∃ p, p < n ∧ ¬ rd.testBit p = true := by
  rcases Classical.em (∃ p, p < n ∧ ¬ rd.testBit p = true) with q | q
  · exact q
  · exfalso
    have e : unr n rd = 0 := by
      unfold unr
      rw [fb_ct_zero]
      intro p hp
      have : rd.testBit p = true := Classical.not_not.mp (fun r => q ⟨p, hp, r⟩)
      simp [this]
    omega
theorem stp_mono {T : Nat → Nat} {x m m2 i : Nat} (h : ∀ q, m.testBit q = true → m2.testBit q = true) (hb : (stp T x m).testBit i = true) : (stp T x m2).testBit i = true := by
  obtain ⟨q, hq, h1, h2⟩ := stp_of hb
  exact stp_bit hq (h q h1) h2
theorem tr_cost {T w S pc : Nat → Nat} {fin n i rd la mq lf p : Nat} {od : Nat → Nat} (hn : n ≤ 8) (hS : StK T w S n (2 ^ n)) (hK : TbK T w S pc fin n 0) (h : TrI T w S fin n i rd la mq lf od) (hp : p < n) (hb : ¬ rd.testBit p = true) :
    lst (fun t => at6 (pc ((rd ||| 2 ^ p) * 8 + p)) t) (stp T (w p) mq) = lst (CF T w fin n (rd ||| 2 ^ p) p) (stp T (w p) mq) := by
  have hlt := or_lt8 h.1 hp
  apply lstF_cong
  intro q hq hbq
  exact (hK (rd ||| 2 ^ p) p (by omega) hlt (by omega) (Or.inr (Or.inl (by rw [or_bit]; simp)))).2 q hq (Or.inr (hS.2.2 rd p hp hb hlt q (stp_mono h.2.2.2.2.2.2.1 hbq)))
theorem tr_pc {T w S pc : Nat → Nat} {fin n rd : Nat} (hn : n ≤ 8) (hK : TbK T w S pc fin n 0) (hrd : rd < 2 ^ n) : ∀ p, p < n → ¬ rd.testBit p = true → pc ((rd ||| 2 ^ p) * 8 + p) < 1073741824 := fun p hp _ =>
  (hK (rd ||| 2 ^ p) p (by omega) (or_lt8 hrd hp) (by omega) (Or.inr (Or.inl (by rw [or_bit]; simp)))).1
theorem tr_hex {T w S pc : Nat → Nat} {fin n i rd la mq lf : Nat} {od : Nat → Nat} (hn : n ≤ 8) (hS : StK T w S n (2 ^ n)) (hK : TbK T w S pc fin n 0) (h : TrI T w S fin n i rd la mq lf od) (hi : i < n) : ∃ p, p < n ∧ nxP T w pc rd la mq lf p = true := by
  obtain ⟨p0, hp0, hb0⟩ := unr_free (n := n) (rd := rd) (by rw [h.2.2.2.2.2.1]; omega)
  obtain ⟨p, hp, hb, hc⟩ := ord_step (T := T) (w := w) (fin := fin) (ls := la) (mk := mq) hp0 hb0 (by rw [← h.2.2.2.1]; exact h.2.2.2.2.1)
  refine ⟨p, hp, nx_yes (by simpa using hb) (beq_iff_eq.mpr ?_)⟩
  rw [tr_cost hn hS hK h hp hb, hc, h.2.2.2.1]
theorem tr_step {T w S pc : Nat → Nat} {fin n i rd la mq lf p : Nat} {od : Nat → Nat} (hT : OkT T) (hn : n ≤ 8) (hw : ∀ p, p < n → w p < 3) (hS : StK T w S n (2 ^ n)) (hK : TbK T w S pc fin n 0) (h : TrI T w S fin n i rd la mq lf od) (hi : i < n) (hp : p = fa_first (nxP T w pc rd la mq lf) n) :
    p < n ∧ adf la p ≤ lf ∧ TrI T w S fin n (i + 1) (rd ||| 2 ^ p) p (stp T (w p) mq) (lf - adf la p) (va_up od i p) := by
  obtain ⟨p1, hp1, hv1⟩ := tr_hex hn hS hK h hi
  have hlt : p < n := by
    rw [hp]
    rcases Nat.lt_or_ge (fa_first (nxP T w pc rd la mq lf) n) n with q | q
    · exact q
    · exact absurd (fa_first_no _ n p1 (Nat.lt_of_lt_of_le hp1 q)) (by rw [hv1]; decide)
  have hy := fa_first_yes (nxP T w pc rd la mq lf) n (by rw [← hp]; exact hlt)
  rw [← hp] at hy
  have hno : ∀ z, z < p → nxP T w pc rd la mq lf z = false := fun z hz => fa_first_no _ n z (by rw [← hp]; exact hz)
  have hy2 : rd.testBit p = false ∧ adf la p + lst (fun t => at6 (pc ((rd ||| 2 ^ p) * 8 + p)) t) (stp T (w p) mq) = lf := by
    have hy3 : (!Nat.testBit rd p && (adf la p + lst (fun t => at6 (pc ((rd ||| 2 ^ p) * 8 + p)) t) (stp T (w p) mq) == lf)) = true := hy
    rw [Bool.and_eq_true] at hy3
    exact ⟨by simpa using hy3.1, by simpa using hy3.2⟩
  have hb : ¬ rd.testBit p = true := by rw [hy2.1]; decide
  have hc := hy2.2
  rw [tr_cost hn hS hK h hlt hb] at hc
  have hor := or_lt8 h.1 hlt
  have hu := unr_put hlt hb
  obtain ⟨h1, h2, h3, h4, h5, h6, h7, h8, h9⟩ := h
  refine ⟨hlt, by omega, hor, by omega, stp_lt hT (hw p hlt), by omega, by omega, by omega, ?_, ?_, ?_⟩
  · intro q hq
    exact hS.2.2 rd p hlt hb hor q (stp_mono h7 hq)
  · intro j hj
    unfold va_up
    split
    · exact hlt
    · exact h8 j (by omega)
  · intro od2 ho hi2
    refine h9 od2 (fun j hj => by rw [ho j (by omega), va_up, if_neg (by omega)]) ?_
    rw [show n - i = (n - (i + 1)) + 1 by omega]
    refine ⟨p, hlt, hb, hc, ?_, ?_, ?_⟩
    · intro z hz hbz hcz
      have hzf := hno z hz
      have : nxP T w pc rd la mq lf z = true := nx_yes (by simpa using hbz) (beq_iff_eq.mpr (by rw [tr_cost hn hS hK ⟨h1, h2, h3, h4, h5, h6, h7, h8, h9⟩ (by omega) hbz]; exact hcz))
      rw [hzf] at this; cases this
    · show od2 (i + 0) = p
      rw [Nat.add_zero, ho i (by omega), va_up, if_pos rfl]
    · have e : (fun j => od2 (i + (j + 1))) = fun j => od2 (i + 1 + j) := funext fun j => by rw [show i + (j + 1) = i + 1 + j by omega]
      rw [e]
      exact hi2
theorem tr_start {T w S : Nat → Nat} {fin n : Nat} {od : Nat → Nat} (hS : S 0 = 1) (hlf : lst (CF T w fin n 0 0) 1 < 63) : TrI T w S fin n 0 0 0 1 (lst (CF T w fin n 0 0) 1) od := by
  refine ⟨Nat.two_pow_pos _, by decide, by decide, rfl, hlf, ?_, fun q hq => by rw [hS]; exact hq, fun j hj => absurd hj (by omega), ?_⟩
  · unfold unr
    rw [Nat.sub_zero]
    exact fb_ct_all.mpr (fun p _ => by simp)
  · intro od2 _ h
    have e : (fun j => od2 (0 + j)) = od2 := funext fun j => by rw [Nat.zero_add]
    rw [e] at h
    exact h
theorem tr_end {T w S : Nat → Nat} {fin n i rd la mq lf : Nat} {od : Nat → Nat} (h : TrI T w S fin n i rd la mq lf od) (hi : n ≤ i) : isOrd T w fin n n 0 0 1 (lst (CF T w fin n 0 0) 1) od := by
  refine h.2.2.2.2.2.2.2.2 od (fun _ _ => rfl) ?_
  rw [show n - i = 0 by omega]
  trivial
theorem lst1 (c : Nat → Nat) (h : c 0 ≤ 63) : lst c 1 = c 0 := by
  show lstF c 1 5 = c 0
  simp only [lstF, show Nat.testBit 1 0 = true by decide, show Nat.testBit 1 1 = false by decide, show Nat.testBit 1 2 = false by decide, show Nat.testBit 1 3 = false by decide, show Nat.testBit 1 4 = false by decide, if_true]
  simp
  omega
/-- the cost of the best order -/
def ocost (T w : Nat → Nat) (fin n : Nat) : Nat := CF T w fin n 0 0 0
theorem oc_le (T w : Nat → Nat) (fin n : Nat) : ocost T w fin n ≤ 63 := cF_le _ _ _ _ _ _ _ _
theorem oc_lst (T w : Nat → Nat) (fin n : Nat) : lst (CF T w fin n 0 0) 1 = ocost T w fin n := lst1 _ (oc_le T w fin n)
theorem tb_cost {T w S pc : Nat → Nat} {fin n : Nat} (hS : StK T w S n (2 ^ n)) (hK : TbK T w S pc fin n 0) : at6 (pc 0) 0 = ocost T w fin n := by
  have := (hK 0 0 (by omega) (Nat.two_pow_pos _) (by decide) (Or.inr (Or.inr ⟨rfl, rfl⟩))).2 0 (by decide) (Or.inr (by rw [hS.1]; decide))
  rw [Nat.zero_mul] at this
  exact this
theorem tb_pc0 {T w S pc : Nat → Nat} {fin n : Nat} (hK : TbK T w S pc fin n 0) : pc 0 < 1073741824 := by
  have := (hK 0 0 (by omega) (Nat.two_pow_pos _) (by decide) (Or.inr (Or.inr ⟨rfl, rfl⟩))).1
  rw [Nat.zero_mul] at this
  exact this
theorem cF_w {T w w2 : Nat → Nat} {fin n : Nat} (h : ∀ p, p < n → w p = w2 p) : ∀ k rd ls q, cF T w fin n k rd ls q = cF T w2 fin n k rd ls q
  | 0, _, _, _ => rfl
  | k + 1, rd, ls, q => by
    rw [cF, cF]
    apply stF_cong
    intro p hp _
    rw [h p hp]
    congr 1
    apply lstF_cong
    intro t _ _
    exact cF_w h k _ _ _
theorem CF_w {T w w2 : Nat → Nat} {fin n : Nat} (h : ∀ p, p < n → w p = w2 p) (rd ls : Nat) : CF T w fin n rd ls = CF T w2 fin n rd ls := funext fun q => cF_w h _ _ _ _
theorem oc_w {T w w2 : Nat → Nat} {fin n : Nat} (h : ∀ p, p < n → w p = w2 p) : ocost T w fin n = ocost T w2 fin n := cF_w h _ _ _ _
theorem isOrd_w {T w w2 : Nat → Nat} {fin n : Nat} (h : ∀ p, p < n → w p = w2 p) : ∀ k rd ls mq lf (od : Nat → Nat), isOrd T w fin n k rd ls mq lf od → isOrd T w2 fin n k rd ls mq lf od
  | 0, _, _, _, _, _, _ => trivial
  | k + 1, rd, ls, mq, lf, od, hi => by
    obtain ⟨p, h1, h2, h3, h4, h5, h6⟩ := hi
    refine ⟨p, h1, h2, ?_, ?_, h5, ?_⟩
    · rw [← CF_w h, ← h p h1]; exact h3
    · intro z hz hb; rw [← CF_w h, ← h z (by omega)]; exact h4 z hz hb
    · rw [← h p h1]; exact isOrd_w h k _ _ _ _ _ h6
theorem cpy0 {f g : Nat → Nat} {n : Nat} : ∀ p, p < n → va_cpy f g 0 0 n p = f p := fun p hp => by unfold va_cpy; simp [hp]
theorem sb_neg {k v : Nat} (h : v = sb k 1) (hk : k ≤ 256) : (2147483648 ≤ v ↔ k = 0) ∧ v < 4294967296 ∧ (0 < k → v = k - 1) := by
  subst h; unfold sb; split <;> omega
