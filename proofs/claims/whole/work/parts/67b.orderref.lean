/-! ===== the best order, as the reference finds it: 63 is 1000000 there ===== -/
def upF (v : Nat) : Nat := if v < 63 then v else 1000000
theorem upF_le (v : Nat) : upF v ≤ 1000000 := by unfold upF; split <;> omega
theorem upF_lt (v : Nat) : upF v < 1000000 ↔ v < 63 := by unfold upF; split <;> omega
theorem upF_min {a b d : Nat} (ha : a ≤ 63) (hb : b = 63 ∨ b ≤ 49) (hd : d ≤ 7) : min (upF a) (d + upF b) = upF (min a (d + b)) := by
  unfold upF
  repeat' split
  all_goals omega
def lsRF (c : Nat → Nat) (m : Nat) : Nat → Nat
  | 0 => 1000000
  | q + 1 => if m.testBit q = true then min (lsRF c m q) (c q) else lsRF c m q
abbrev lsR (c : Nat → Nat) (m : Nat) : Nat := lsRF c m 5
theorem lsRF_le (c : Nat → Nat) (m : Nat) : ∀ n, lsRF c m n ≤ 1000000
  | 0 => Nat.le_refl _
  | n + 1 => by have := lsRF_le c m n; rw [lsRF]; split <;> omega
theorem lsR_up {c c2 : Nat → Nat} {m : Nat} : ∀ n, (∀ q, q < n → m.testBit q = true → c q = upF (c2 q) ∧ c2 q ≤ 63) → lsRF c m n = upF (lstF c2 m n)
  | 0, _ => rfl
  | n + 1, h => by
    have ih := lsR_up n (fun q hq => h q (by omega))
    have hl := lstF_le c2 m n
    rw [lsRF, lstF, ih]
    split
    · rename_i z
      obtain ⟨h1, h2⟩ := h n (by omega) z
      rw [h1]
      unfold upF
      repeat' split
      all_goals omega
    · rfl
/-- true costs are small -/
theorem lst_sm {c : Nat → Nat} {m b : Nat} (h : ∀ q, q < 5 → c q = 63 ∨ c q ≤ b) : lst c m = 63 ∨ lst c m ≤ b := by
  rcases Nat.lt_or_ge (lst c m) 63 with z | z
  · obtain ⟨q, hq, -, e⟩ := lst_at 5 z
    have := h q hq
    right
    show lstF c m 5 ≤ b
    have z2 : lstF c m 5 < 63 := z
    omega
  · have := lstF_le c m 5; left; show lstF c m 5 = 63; have z2 : 63 ≤ lstF c m 5 := z; omega
theorem cF_sm {T w : Nat → Nat} {fin n : Nat} (hn : n ≤ 8) : ∀ k, k ≤ 8 → ∀ rd ls q, ls < 8 → cF T w fin n k rd ls q = 63 ∨ cF T w fin n k rd ls q ≤ 7 * k
  | 0, _, rd, ls, q, _ => by rw [cF]; split <;> omega
  | k + 1, hk, rd, ls, q, hls => by
    rw [cF]
    rcases Nat.lt_or_ge (stF (fun p => adf ls p + lst (cF T w fin n k (rd ||| 2 ^ p) p) (T (q * 3 + w p))) rd n) 63 with z | z
    · obtain ⟨p, hp, -, e⟩ := st_at n z
      have h1 := lst_sm (c := cF T w fin n k (rd ||| 2 ^ p) p) (m := T (q * 3 + w p)) (b := 7 * k) (fun q _ => cF_sm hn k (by omega) _ p q (by omega))
      have h2 := adf_le8 hls (show p < 8 by omega)
      right
      rw [← e]
      rw [← e] at z
      show adf ls p + _ ≤ _
      have z3 : adf ls p + lst (cF T w fin n k (rd ||| 2 ^ p) p) (T (q * 3 + w p)) < 63 := z
      omega
    · left
      have := stF_le (fun p => adf ls p + lst (cF T w fin n k (rd ||| 2 ^ p) p) (T (q * 3 + w p))) rd n
      omega
theorem CF_sm {T w : Nat → Nat} {fin n rd ls q k : Nat} (hn : n ≤ 8) (hu : unr n rd ≤ k) (hk : k ≤ 8) (hls : ls < 8) : CF T w fin n rd ls q = 63 ∨ CF T w fin n rd ls q ≤ 7 * k := by
  have := cF_sm (T := T) (w := w) (fin := fin) hn (unr n rd) (by omega) rd ls q hls
  show cF T w fin n (unr n rd) rd ls q = 63 ∨ cF T w fin n (unr n rd) rd ls q ≤ 7 * k
  omega
/-- the least cost behind one more position is none or at most 49 -/
theorem lst_49 {T w : Nat → Nat} {fin n rd p m : Nat} (hn : n ≤ 8) (hp : p < n) (hb : ¬ rd.testBit p = true) : lst (CF T w fin n (rd ||| 2 ^ p) p) m = 63 ∨ lst (CF T w fin n (rd ||| 2 ^ p) p) m ≤ 49 := by
  have h1 := unr_put hp hb
  have h2 := unr_le n rd
  exact lst_sm (b := 49) (fun q _ => CF_sm (k := 7) hn (by omega) (by decide) (by omega))
theorem st_up {T w : Nat → Nat} {fin n rd ls q p : Nat} (hn : n ≤ 8) (hls : ls < 8) (hp : p < n) (hb : ¬ rd.testBit p = true) :
    min (upF (stF (fun p => adf ls p + lst (CF T w fin n (rd ||| 2 ^ p) p) (T (q * 3 + w p))) rd p)) (((p - ls) + (ls - p)) + upF (lst (CF T w fin n (rd ||| 2 ^ p) p) (T (q * 3 + w p)))) = upF (stF (fun p => adf ls p + lst (CF T w fin n (rd ||| 2 ^ p) p) (T (q * 3 + w p))) rd (p + 1)) := by
  rw [stF, if_neg hb]
  have h1 := adf_le8 hls (show p < 8 by omega)
  have e : (p - ls) + (ls - p) = adf ls p := by show _ = (ls - p) + (p - ls); omega
  rw [e]
  exact upF_min (stF_le _ _ _) (lst_49 hn hp hb) h1
theorem st_same {f : Nat → Nat} {rd p : Nat} (hb : rd.testBit p = true) : stF f rd (p + 1) = stF f rd p := by rw [stF, if_pos hb]
/-- laid behind (rd, ls, q), the sets from above -/
def TbP (T w : Nat → Nat) (fin n rd ls q : Nat) (f : Nat → Nat) : Prop := ∀ r l t, r < 2 ^ n → l < n → t < 5 → (rd < r ∨ (r = rd ∧ (l < ls ∨ (l = ls ∧ t < q)))) → f ((r * 8 + l) * 5 + t) = upF (CF T w fin n r l t)
theorem tbp_put {T w f : Nat → Nat} {fin n rd ls q v : Nat} (hn : n ≤ 8) (hl : ls < n) (hq : q < 5) (h : TbP T w fin n rd ls q f) (hv : v = upF (CF T w fin n rd ls q)) : TbP T w fin n rd ls (q + 1) (va_up f ((rd * 8 + ls) * 5 + q) v) := by
  intro r l t h1 h2 h3 h4
  unfold va_up
  split
  · rename_i e
    rw [hv, show r = rd by omega, show l = ls by omega, show t = q by omega]
  · exact h r l t h1 h2 h3 (by omega)
theorem tbp_q {T w f : Nat → Nat} {fin n rd ls q : Nat} (h : TbP T w fin n rd ls q f) (hq : 5 ≤ q) : TbP T w fin n rd (ls + 1) 0 f := fun r l t h1 h2 h3 h4 => h r l t h1 h2 h3 (by omega)
theorem tbp_l {T w f : Nat → Nat} {fin n rd ls : Nat} (h : TbP T w fin n rd ls 0 f) (hl : n ≤ ls) (hr : 0 < rd) : TbP T w fin n (rd - 1) 0 0 f := fun r l t h1 h2 h3 h4 => h r l t h1 h2 h3 (by omega)
theorem tbp_0 {T w f : Nat → Nat} {fin n : Nat} : TbP T w fin n (2 ^ n - 1) 0 0 f := fun r l t h1 h2 h3 h4 => absurd h4 (by omega)
/-- one cost under way -/
def BsI (T w : Nat → Nat) (fin n rd ls q p bs : Nat) : Prop := (rd = 2 ^ n - 1 ∧ bs = if fin.testBit q = true then 0 else 1000000) ∨ (rd ≠ 2 ^ n - 1 ∧ bs = upF (stF (fun p => adf ls p + lst (CF T w fin n (rd ||| 2 ^ p) p) (T (q * 3 + w p))) rd p))
theorem bsi_le {T w : Nat → Nat} {fin n rd ls q p bs : Nat} (h : BsI T w fin n rd ls q p bs) : bs ≤ 1000000 := by
  rcases h with ⟨_, e⟩ | ⟨_, e⟩
  · rw [e]; split <;> omega
  · rw [e]; exact upF_le _
theorem bsi_0 {T w : Nat → Nat} {fin n rd ls q v : Nat} (h : v = if rd = 2 ^ n - 1 ∧ fin.testBit q = true then 0 else 1000000) : BsI T w fin n rd ls q 0 v := by
  by_cases e : rd = 2 ^ n - 1
  · refine Or.inl ⟨e, ?_⟩
    rw [h]
    by_cases b : fin.testBit q = true
    · rw [if_pos ⟨e, b⟩, if_pos b]
    · rw [if_neg (fun z => b z.2), if_neg b]
  · refine Or.inr ⟨e, ?_⟩
    rw [h, if_neg (fun z => e z.1)]; rfl
theorem bsi_y {T w : Nat → Nat} {fin n rd ls q p bs : Nat} (h : BsI T w fin n rd ls q p bs) (hb : rd.testBit p = true) : BsI T w fin n rd ls q (p + 1) bs := by
  rcases h with z | z
  · exact Or.inl z
  · refine Or.inr ⟨z.1, ?_⟩
    rw [st_same hb]; exact z.2
theorem bsi_n {T w : Nat → Nat} {fin n rd ls q p bs : Nat} (hn : n ≤ 8) (hls : ls < 8) (hp : p < n) (h : BsI T w fin n rd ls q p bs) (hb : ¬ rd.testBit p = true) : BsI T w fin n rd ls q (p + 1) (min bs (((p - ls) + (ls - p)) + upF (lst (CF T w fin n (rd ||| 2 ^ p) p) (T (q * 3 + w p))))) := by
  rcases h with z | z
  · exfalso; apply hb; rw [z.1, Nat.testBit_two_pow_sub_one]; simp [hp]
  · refine Or.inr ⟨z.1, ?_⟩
    rw [z.2, st_up hn hls hp hb]
theorem bit_fin {fin q : Nat} : 2 ^ q &&& fin ≠ 0 ↔ fin.testBit q = true := by
  rw [Nat.and_comm]
  have := fb_bit_nat fin q
  constructor
  · intro z; exact Classical.not_not.mp (fun r => z (this.mpr (by simpa using r)))
  · intro z r; rw [this, z] at r; cases r
theorem bsi_end {T w : Nat → Nat} {fin n rd ls q p bs : Nat} (hr : rd < 2 ^ n) (hp : p = n) (h : BsI T w fin n rd ls q p bs) : bs = upF (CF T w fin n rd ls q) := by
  rcases h with z | z
  · rw [z.2, z.1, CF_full]
    by_cases b : fin.testBit q = true
    · rw [if_pos b, if_pos (bit_fin.mpr b)]; rfl
    · rw [if_neg b, if_neg (fun r => b (bit_fin.mp r))]; rfl
  · obtain ⟨p0, h0, hb0⟩ := unr_0 hr z.1
    rw [z.2, CF_step h0 hb0, hp]
/-- what leastOf reads -/
theorem ls_tab {T w f : Nat → Nat} {fin n rd ls q p m : Nat} (h : TbP T w fin n rd ls q f) (hr : rd < 2 ^ n) (hp : p < n) (hb : ¬ rd.testBit p = true) : lsR (fun t => f (((rd ||| 2 ^ p) * 8 + p) * 5 + t)) m = upF (lst (CF T w fin n (rd ||| 2 ^ p) p) m) :=
  lsR_up 5 (fun t ht _ => ⟨h _ _ _ (or_lt8 hr hp) hp ht (Or.inl (by have := or_gt hr hb; omega)), cF_le _ _ _ _ _ _ _ _⟩)
theorem ls_le {T w f : Nat → Nat} {fin n rd ls q p m : Nat} (h : TbP T w fin n rd ls q f) (hr : rd < 2 ^ n) (hp : p < n) (hb : ¬ rd.testBit p = true) : ∀ t, t < 5 → m.testBit t = true → f (((rd ||| 2 ^ p) * 8 + p) * 5 + t) ≤ 1000000 := fun t ht _ => by
  rw [h _ _ _ (or_lt8 hr hp) hp ht (Or.inl (by have := or_gt hr hb; omega))]; exact upF_le _
theorem oc_0 {T w : Nat → Nat} {fin : Nat} : upF (ocost T w fin 0) = if fin.testBit 0 = true then 0 else 1000000 := by
  have e : ocost T w fin 0 = if 2 ^ 0 &&& fin ≠ 0 then 0 else 63 := rfl
  rw [e]
  by_cases b : fin.testBit 0 = true
  · rw [if_pos b, if_pos (bit_fin.mpr b)]; rfl
  · rw [if_neg b, if_neg (fun r => b (bit_fin.mp r))]; rfl
/-- the first step -/
abbrev oc1 (T w : Nat → Nat) (fin n p : Nat) : Nat := upF (stF (fun p => adf 0 p + lst (CF T w fin n (0 ||| 2 ^ p) p) (T (0 * 3 + w p))) 0 p)
theorem oc_n {T w : Nat → Nat} {fin n : Nat} (hn : 0 < n) : oc1 T w fin n n = upF (ocost T w fin n) := by
  show _ = upF (CF T w fin n 0 0 0)
  rw [CF_step (p0 := 0) hn (by simp)]
theorem oc_s {T w : Nat → Nat} {fin n p : Nat} (hn : n ≤ 8) (hp : p < n) : min (oc1 T w fin n p) (p + upF (lst (CF T w fin n (2 ^ p) p) (T (0 * 3 + w p)))) = oc1 T w fin n (p + 1) := by
  have h := st_up (T := T) (w := w) (fin := fin) (rd := 0) (ls := 0) (q := 0) hn (by decide) hp (by simp)
  rw [Nat.zero_or, show (p - 0) + (0 - p) = p by omega] at h
  exact h
/-- where orderPosition stands -/
def OrI (T w : Nat → Nat) (fin n k rd ls mq lf : Nat) (f : Nat → Nat) : Prop := k ≤ n ∧ rd < 2 ^ n ∧ ls < 8 ∧ mq < 32 ∧ lf = lst (CF T w fin n rd ls) mq ∧ lf < 63 ∧ unr n rd = n - k ∧
  ∀ od : Nat → Nat, isOrd T w fin n n 0 0 1 (ocost T w fin n) od → (∀ j, j < k → f j = od j) ∧ isOrd T w fin n (n - k) rd ls mq lf (fun i => od (k + i))
theorem ori_0 {T w f : Nat → Nat} {fin n : Nat} (h : ocost T w fin n < 63) : OrI T w fin n 0 0 0 1 (ocost T w fin n) f := by
  refine ⟨Nat.zero_le _, Nat.two_pow_pos _, by decide, by decide, (oc_lst T w fin n).symm, h, ?_, fun od ho => ⟨fun j hj => absurd hj (by omega), ?_⟩⟩
  · unfold unr
    rw [Nat.sub_zero]
    exact fb_ct_all.mpr (fun p _ => by simp)
  · have e : (fun i => od (0 + i)) = od := funext fun j => by rw [Nat.zero_add]
    rw [e]; exact ho
abbrev orP (T w : Nat → Nat) (fin n rd ls mq lf p : Nat) : Prop := ¬ rd.testBit p = true ∧ adf ls p + lst (CF T w fin n (rd ||| 2 ^ p) p) (stp T (w p) mq) = lf
theorem ori_ex {T w f : Nat → Nat} {fin n k rd ls mq lf : Nat} (h : OrI T w fin n k rd ls mq lf f) (hk : k < n) : ∃ p, p < n ∧ orP T w fin n rd ls mq lf p := by
  obtain ⟨h1, h2, h3, h4, h5, h6, h7, h8⟩ := h
  obtain ⟨p0, hp0, hb0⟩ := unr_free (n := n) (rd := rd) (by omega)
  obtain ⟨p, hp, hb, hc⟩ := ord_step (T := T) (w := w) (fin := fin) (ls := ls) (mk := mq) hp0 hb0 (by rw [← h5]; exact h6)
  exact ⟨p, hp, hb, by rw [hc, h5]⟩
theorem ori_lt {T w f : Nat → Nat} {fin n k rd ls mq lf p : Nat} (h : OrI T w fin n k rd ls mq lf f) (hk : k < n) (hno : ∀ z, z < p → ¬ orP T w fin n rd ls mq lf z) : p < n := by
  obtain ⟨p1, hp1, h1⟩ := ori_ex h hk
  rcases Nat.lt_or_ge p n with q | q
  · exact q
  · exact absurd h1 (hno p1 (by omega))
theorem ori_s {T w f : Nat → Nat} {fin n k rd ls mq lf p : Nat} (hT : OkT T) (hn : n ≤ 8) (hw : ∀ i, i < n → w i < 3) (h : OrI T w fin n k rd ls mq lf f) (hk : k < n) (hp : p < n) (hy : orP T w fin n rd ls mq lf p) (hno : ∀ z, z < p → ¬ orP T w fin n rd ls mq lf z) :
    adf ls p ≤ lf ∧ OrI T w fin n (k + 1) (rd ||| 2 ^ p) p (stp T (w p) mq) (lf - adf ls p) (va_up f k p) := by
  obtain ⟨h1, h2, h3, h4, h5, h6, h7, h8⟩ := h
  have hu := unr_put hp hy.1
  have hc := hy.2
  refine ⟨by omega, by omega, or_lt8 h2 hp, by omega, stp_lt hT (hw p hp), by omega, by omega, by omega, fun od ho => ?_⟩
  obtain ⟨g1, g2⟩ := h8 od ho
  rw [show n - k = (n - (k + 1)) + 1 by omega] at g2
  obtain ⟨p2, e1, e2, e3, e4, e5, e6⟩ := g2
  have ep : p2 = p := by
    rcases Nat.lt_trichotomy p2 p with q | q | q
    · exact absurd ⟨e2, e3⟩ (hno p2 q)
    · exact q
    · exact absurd hc (e4 p q hy.1)
  subst ep
  refine ⟨fun j hj => ?_, ?_⟩
  · unfold va_up
    split
    · rename_i e; subst e; exact e5.symm
    · exact g1 j (by omega)
  · have e : (fun i => od (k + 1 + i)) = fun i => od (k + (i + 1)) := funext fun i => by rw [show k + 1 + i = k + (i + 1) by omega]
    rw [e]; exact e6
theorem or_cmp {T w f : Nat → Nat} {fin n rd ls mq lf p : Nat} (hn : n ≤ 8) (hp : p < n) (hb : ¬ rd.testBit p = true) (hlf : lf < 63) (hls : ls < 8) : ((p - ls) + (ls - p)) + upF (lst (CF T w fin n (rd ||| 2 ^ p) p) (stp T (w p) mq)) = lf ↔ orP T w fin n rd ls mq lf p := by
  have h := lst_49 (T := T) (w := w) (fin := fin) (m := stp T (w p) mq) hn hp hb
  have h1 := adf_le8 hls (show p < 8 by omega)
  have e : (p - ls) + (ls - p) = adf ls p := by show _ = (ls - p) + (p - ls); omega
  rw [e]
  unfold orP
  constructor
  · intro q
    refine ⟨hb, ?_⟩
    rcases h with z | z
    · rw [z] at q; unfold upF at q; rw [if_neg (by decide)] at q; omega
    · unfold upF at q; rw [if_pos (by omega)] at q; exact q
  · rintro ⟨-, q⟩
    rcases h with z | z
    · omega
    · unfold upF; rw [if_pos (by omega)]; exact q
theorem ls_tab_w {T w f : Nat → Nat} {fin n rd p m : Nat} (h : TbP T w fin n 0 0 0 f) (hr : rd < 2 ^ n) (hp : p < n) (hb : ¬ rd.testBit p = true) : lsR (fun t => f (((rd ||| 2 ^ p) * 8 + p) * 5 + t)) m = upF (lst (CF T w fin n (rd ||| 2 ^ p) p) m) :=
  lsR_up 5 (fun t ht _ => ⟨h _ _ _ (or_lt8 hr hp) hp ht (Or.inl (by have := or_gt hr hb; omega)), cF_le _ _ _ _ _ _ _ _⟩)
theorem ls_le_w {T w f : Nat → Nat} {fin n rd p m : Nat} (h : TbP T w fin n 0 0 0 f) (hr : rd < 2 ^ n) (hp : p < n) (hb : ¬ rd.testBit p = true) : ∀ t, t < 5 → m.testBit t = true → f (((rd ||| 2 ^ p) * 8 + p) * 5 + t) ≤ 1000000 := fun t ht _ => by
  rw [h _ _ _ (or_lt8 hr hp) hp ht (Or.inl (by have := or_gt hr hb; omega))]; exact upF_le _
