/-! ===== what the class's own methods share ===== -/
/-- the loop of choose: ways behind i rounds -/
def chF (a s : Nat) : Nat → Nat
  | 0 => 1
  | i + 1 => chF a s i * (a - s + (i + 1)) / (i + 1)
def chB (a s : Nat) : Bool := (List.range 10).all fun i => decide (chF a s i < 100000000)
theorem chB_all : ∀ a, a < 9 → ∀ s, s < 9 → chB a s = true := by decide +kernel
theorem chF_lt {a s i : Nat} (ha : a ≤ 8) (hs : s ≤ 8) (hi : i ≤ 9) : chF a s i < 100000000 := by
  have h := chB_all a (by omega) s (by omega)
  unfold chB at h
  rw [List.all_eq_true] at h
  simpa using h i (List.mem_range.mpr (by omega))
/-- how many words of a length are accepted jumping, by their counts -/
def cjT (tab : Nat → Nat) (fin n : Nat) : Nat := fb_sm (fun a => fb_sm (fun b => if tab (100 * a + 10 * b + (n - a - b)) &&& fin ≠ 0 then chF n a a * chF (b + (n - a - b)) b b else 0) (n - a + 1)) (n + 1)
def wcd (w : Nat → Nat) (n : Nat) : Nat := fb_sm (fun i => wt (w i)) n
theorem wcd_s (w : Nat → Nat) (n : Nat) : wcd w (n + 1) = wcd w n + wt (w n) := rfl
theorem wcd_cnt {w : Nat → Nat} : ∀ n, (∀ i, i < n → w i < 3) → wcd w n = 100 * cntW w n 0 + 10 * cntW w n 1 + cntW w n 2
  | 0, _ => rfl
  | n + 1, h => by
    have ih := wcd_cnt (w := w) n (fun i hi => h i (by omega))
    have hn := h n (by omega)
    rw [wcd_s, ih]
    have e : ∀ x, cntW w (n + 1) x = cntW w n x + (if w n = x then 1 else 0) := fun x => by
      show fb_ct _ (n + 1) = _
      rw [fb_ct_succ]; by_cases q : w n = x <;> simp [q, cntW]
    rw [e 0, e 1, e 2]
    rcases (by omega : w n = 0 ∨ w n = 1 ∨ w n = 2) with q | q | q <;> rw [q] <;> simp [wt] <;> omega
theorem cntW_le (w : Nat → Nat) (n x : Nat) : cntW w n x ≤ n := fb_ct_le _ _
theorem wcd_lt {w : Nat → Nat} {n : Nat} (hn : n ≤ 8) (h : ∀ i, i < n → w i < 3) : wcd w n / 100 = cntW w n 0 ∧ wcd w n / 10 % 10 = cntW w n 1 ∧ wcd w n % 10 = cntW w n 2 ∧ wcd w n < 1000 := by
  have e := wcd_cnt n h
  have h0 := cntW_le w n 0; have h1 := cntW_le w n 1; have h2 := cntW_le w n 2
  omega
/-- the word's counts are reached -/
abbrev wrc (T w : Nat → Nat) (fin n : Nat) : Prop := rch T (cntW w n 0) (cntW w n 1) (cntW w n 2) &&& fin ≠ 0
/-- what is known of the best order -/
def ordK (T w : Nat → Nat) (fin n co : Nat) (od : Nat → Nat) : Prop := co = ocost T w fin n ∧ (co < 63 → isOrd T w fin n n 0 0 1 (ocost T w fin n) od ∧ ∀ j, j < n → od j < n)
/-- the counts that are reached and least -/
def rR (T : Nat → Nat) (fin x : Nat) : Prop := rch T (x / 100) (x / 10 % 10) (x % 10) &&& fin ≠ 0
def mnC (T : Nat → Nat) (fin x : Nat) : Prop := x < 1000 ∧ dsum x ≤ 4 ∧ rR T fin x ∧ ∀ y, y < 1000 → rR T fin y → blw y x → y = x
theorem blw_le {y x : Nat} (h : blw y x) : y ≤ x := by unfold blw at h; omega
theorem blw_ds {y x : Nat} (h : blw y x) : dsum y ≤ dsum x := by unfold blw at h; unfold dsum; omega
theorem blw_tr {z y x : Nat} (h : blw z y) (h2 : blw y x) : blw z x := by unfold blw at *; omega
theorem blw_rf (x : Nat) : blw x x := by unfold blw; omega
theorem mn_ex {T : Nat → Nat} {fin : Nat} : ∀ n y, y < n → y < 1000 → dsum y ≤ 4 → rR T fin y → ∃ z, mnC T fin z ∧ blw z y
  | 0, _, h, _, _, _ => absurd h (by omega)
  | n + 1, y, h, hy, hd, hr => by
    rcases Classical.em (∀ z, z < 1000 → rR T fin z → blw z y → z = y) with q | q
    · exact ⟨y, ⟨hy, hd, hr, q⟩, blw_rf y⟩
    · obtain ⟨z, hz⟩ := Classical.not_forall.mp q
      obtain ⟨h1, hz⟩ := Classical.not_imp.mp hz
      obtain ⟨h2, hz⟩ := Classical.not_imp.mp hz
      obtain ⟨h3, h4⟩ := Classical.not_imp.mp hz
      have := blw_le h3
      obtain ⟨v, hv, hb⟩ := mn_ex n z (by omega) h1 (by have := blw_ds h3; omega) h2
      exact ⟨v, hv, blw_tr hb h3⟩
/-- the list under way: the least counts below x -/
def MnL (T : Nat → Nat) (fin : Nat) (f : Nat → Nat) (n x : Nat) : Prop := LOk f n ∧ ∀ z, inL f n z ↔ z < x ∧ mnC T fin z
theorem mn_skip {T f : Nat → Nat} {fin n x y : Nat} (hxy : x ≤ y) (h : MnL T fin f n x) (hs : ∀ z, x ≤ z → z < y → 4 < dsum z) : MnL T fin f n y := by
  refine ⟨h.1, fun z => ?_⟩
  rw [h.2 z]
  constructor
  · rintro ⟨h1, h2⟩; exact ⟨by omega, h2⟩
  · rintro ⟨h1, h2⟩
    refine ⟨?_, h2⟩
    rcases Nat.lt_or_ge z x with q | q
    · exact q
    · have := hs z q h1; have := h2.2.1; omega
theorem mn_no {T f : Nat → Nat} {fin n x : Nat} (h : MnL T fin f n x) (hx : ¬ mnC T fin x) : MnL T fin f n (x + 1) := by
  refine ⟨h.1, fun z => ?_⟩
  rw [h.2 z]
  constructor
  · rintro ⟨h1, h2⟩; exact ⟨by omega, h2⟩
  · rintro ⟨h1, h2⟩
    refine ⟨?_, h2⟩
    rcases Nat.lt_or_ge z x with q | q
    · exact q
    · rw [show z = x by omega] at h2; exact absurd h2 hx
theorem mn_yes {T f f2 : Nat → Nat} {fin n n2 x : Nat} (h : MnL T fin f n x) (hx : mnC T fin x) (h1 : LOk f2 n2) (h2 : ∀ z, inL f2 n2 z ↔ inL f n z ∨ z = x) : MnL T fin f2 n2 (x + 1) := by
  refine ⟨h1, fun z => ?_⟩
  rw [h2 z, h.2 z]
  constructor
  · rintro (⟨h3, h4⟩ | rfl)
    · exact ⟨by omega, h4⟩
    · exact ⟨by omega, hx⟩
  · rintro ⟨h3, h4⟩
    rcases Nat.lt_or_ge z x with q | q
    · exact Or.inl ⟨q, h4⟩
    · exact Or.inr (by omega)
theorem mn_is {T f : Nat → Nat} {fin n x : Nat} (h : MnL T fin f n x) (hx : x < 1000) (hd : dsum x ≤ 4) (hr : rR T fin x) (hb : ¬ ∃ j, j < n ∧ blw (f j) x) : mnC T fin x := by
  refine ⟨hx, hd, hr, fun y hy hry hyx => ?_⟩
  rcases Nat.lt_or_ge y x with q | q
  · exfalso
    obtain ⟨z, hz, hzy⟩ := mn_ex (y + 1) y (by omega) hy (by have := blw_ds hyx; omega) hry
    have := blw_le hzy
    obtain ⟨j, hj, e⟩ := (h.2 z).mpr ⟨by omega, hz⟩
    exact hb ⟨j, hj, by rw [e]; exact blw_tr hzy hyx⟩
  · have := blw_le hyx; omega
theorem mn_isnt {T f : Nat → Nat} {fin n x : Nat} (h : MnL T fin f n x) (hb : ∃ j, j < n ∧ blw (f j) x) : ¬ mnC T fin x := by
  intro hm
  obtain ⟨j, hj, hbl⟩ := hb
  obtain ⟨h1, h2⟩ := (h.2 (f j)).mp ⟨j, hj, rfl⟩
  have := hm.2.2.2 (f j) h2.1 h2.2.2.1 hbl
  omega
theorem mn_all {T f : Nat → Nat} {fin n : Nat} (h : MnL T fin f n 500) : LOk f n ∧ ∀ z, inL f n z ↔ mnC T fin z := by
  refine ⟨h.1, fun z => ?_⟩
  rw [h.2 z]
  constructor
  · exact fun q => q.2
  · intro q
    refine ⟨?_, q⟩
    have := q.2.1; unfold dsum at this; omega
/-- how many words of a length are accepted in order -/
def ciO (T : Nat → Nat) (fin n : Nat) : Nat := fb_sm (fun m => if m &&& fin ≠ 0 then dpI T n m else 0) 32
def rtab (T : Nat → Nat) (x : Nat) : Nat := rch T (x / 100) (x / 10 % 10) (x % 10)
theorem rtab_at {T : Nat → Nat} {a b c : Nat} (hb : b < 10) (hc : c < 10) : rtab T (100 * a + 10 * b + c) = rch T a b c := by
  unfold rtab; rw [show (100 * a + 10 * b + c) / 100 = a by omega, show (100 * a + 10 * b + c) / 10 % 10 = b by omega, show (100 * a + 10 * b + c) % 10 = c by omega]
def cjR (T : Nat → Nat) (fin n : Nat) : Nat := cjT (rtab T) fin n
theorem cjT_R {T f : Nat → Nat} {fin n m : Nat} (hm : m < 10) (hn : n ≤ m) (h : ∀ a b c, a ≤ m → b ≤ m → c ≤ m → f (100 * a + 10 * b + c) = rch T a b c) : cjT f fin n = cjR T fin n := by
  unfold cjR cjT
  apply fb_sm_cong
  intro a ha
  apply fb_sm_cong
  intro b hb
  rw [h a b (n - a - b) (by omega) (by omega) (by omega), rtab_at (by omega) (by omega)]
/-- the answer of countWords -/
def cwN (T : Nat → Nat) (fin md n : Nat) : Nat := if md = 0 then ciO T fin n else if md = 1 then cjR T fin n else cO T fin n n (1, [])
/-- the least length with an open word, by the numbers of words -/
def solF (T : Nat → Nat) (fin n : Nat) : Nat := fa_first (fun k => !(cjR T fin k == ciO T fin k)) (n + 1)
/-- the first difference in the class's order of looking -/
abbrev dfP (f15 f16 : Nat → Nat) (fin wr x : Nat) : Prop := (f15 x &&& fin ≠ 0 ↔ wr = 1) ∧ ¬ (f16 x ≠ 0 ↔ wr = 1)
/-- the places below (sum, a, b) in the order of looking -/
def lkB (s a b s1 a1 b1 : Nat) : Prop := s1 < s ∨ (s1 = s ∧ (a1 < a ∨ (a1 = a ∧ b1 < b)))
def noD (P : Nat → Prop) (bd s a b : Nat) : Prop := ∀ s1 a1 b1 c1, a1 ≤ bd → b1 ≤ bd → c1 ≤ bd → a1 + b1 + c1 = s1 → lkB s a b s1 a1 b1 → ¬ P (100 * a1 + 10 * b1 + c1)
