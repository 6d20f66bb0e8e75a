/-! ===== the reference: minimal counts, cycles, counting sets ===== -/
noncomputable def cB (P : Prop) : Bool := @decide P (Classical.propDecidable P)
theorem cB_iff {P : Prop} : cB P = true ↔ P := @decide_eq_true_iff P (Classical.propDecidable P)
theorem mnk_iff {T : Nat → Nat} {fin k : Nat} : cB (mnK T fin k) = true ↔ mnK T fin k := cB_iff
/-- a closed walk of the reference -/
def grW (T : Nat → Nat) (U b : Nat) : Nat → Nat → Nat → Nat → Nat → Prop
  | 0, _, _, _, _ => False
  | k + 1, q, mt, cd, x => ∃ l, l < 3 ∧ ∃ to, to < 5 ∧ (T (q * 3 + l) &&& U).testBit to = true ∧ ((to = b ∧ x = cd + wt l) ∨ (to ≠ b ∧ ¬ mt.testBit to = true ∧ grW T U b k to (mt ||| 2 ^ to) (cd + wt l) x))
def grT (T : Nat → Nat) (U b k q mt cd l t x : Nat) : Prop := ∃ to, to < t ∧ (T (q * 3 + l) &&& U).testBit to = true ∧ ((to = b ∧ x = cd + wt l) ∨ (to ≠ b ∧ ¬ mt.testBit to = true ∧ grW T U b k to (mt ||| 2 ^ to) (cd + wt l) x))
def grL (T : Nat → Nat) (U b k q mt cd n x : Nat) : Prop := ∃ l, l < n ∧ grT T U b k q mt cd l 5 x
def GrO (f f2 : Nat → Nat) (P : Nat → Prop) : Prop := ∀ z, z < 1000 → f2 z < 2 ∧ (f2 z ≠ 0 ↔ f z ≠ 0 ∨ P z)
theorem gro_iff {f f2 : Nat → Nat} {P P2 : Nat → Prop} (h : GrO f f2 P) (hi : ∀ z, P z ↔ P2 z) : GrO f f2 P2 := fun z hz => ⟨(h z hz).1, by rw [(h z hz).2, hi z]⟩
theorem gro_0 {f : Nat → Nat} {P : Nat → Prop} (hf : ∀ k, k < 1000 → f k < 2) (hP : ∀ z, ¬ P z) : GrO f f P := fun z hz => ⟨hf z hz, ⟨Or.inl, fun q => q.elim id (fun w => absurd w (hP z))⟩⟩
theorem grt_s {T : Nat → Nat} {U b k q mt cd l t x : Nat} : grT T U b k q mt cd l (t + 1) x ↔ grT T U b k q mt cd l t x ∨ ((T (q * 3 + l) &&& U).testBit t = true ∧ ((t = b ∧ x = cd + wt l) ∨ (t ≠ b ∧ ¬ mt.testBit t = true ∧ grW T U b k t (mt ||| 2 ^ t) (cd + wt l) x))) := by
  constructor
  · rintro ⟨to, h1, h2⟩
    by_cases e : to = t
    · subst e; exact Or.inr h2
    · exact Or.inl ⟨to, by omega, h2⟩
  · rintro (⟨to, h1, h2⟩ | h)
    · exact ⟨to, by omega, h2⟩
    · exact ⟨t, by omega, h⟩
theorem grl_s {T : Nat → Nat} {U b k q mt cd n x : Nat} : grL T U b k q mt cd (n + 1) x ↔ grL T U b k q mt cd n x ∨ grT T U b k q mt cd n 5 x := by
  constructor
  · rintro ⟨l, h1, h2⟩
    by_cases e : l = n
    · subst e; exact Or.inr h2
    · exact Or.inl ⟨l, by omega, h2⟩
  · rintro (⟨l, h1, h2⟩ | h)
    · exact ⟨l, by omega, h2⟩
    · exact ⟨n, by omega, h⟩
theorem grl_0 {T : Nat → Nat} {U b k q mt cd x : Nat} : ¬ grL T U b k q mt cd 0 x := fun ⟨l, h, _⟩ => absurd h (by omega)
theorem grt_0 {T : Nat → Nat} {U b k q mt cd l x : Nat} : ¬ grT T U b k q mt cd l 0 x := fun ⟨l, h, _⟩ => absurd h (by omega)
section GRI
variable {T f f1 f2 : Nat → Nat} {U b k q mt cd l t v : Nat}
abbrev grI (T : Nat → Nat) (U b k q mt cd l t : Nat) : Nat → Prop := fun x => grL T U b k q mt cd l x ∨ grT T U b k q mt cd l t x
theorem gri_0 (h : GrO f f1 (grL T U b k q mt cd l)) : GrO f f1 (grI T U b k q mt cd l 0) := gro_iff h (fun z => ⟨Or.inl, fun w => w.elim id (fun y => absurd y grt_0)⟩)
theorem gri_end (h : GrO f f1 (grI T U b k q mt cd l t)) (ht : t = 5) : GrO f f1 (grL T U b k q mt cd (l + 1)) := gro_iff h (fun z => by rw [grl_s, ht])
theorem gri_no (h : GrO f f1 (grI T U b k q mt cd l t)) (hn : ¬ (T (q * 3 + l) &&& U).testBit t = true) : GrO f f1 (grI T U b k q mt cd l (t + 1)) := gro_iff h (fun z => by
  show _ ∨ _ ↔ _ ∨ _
  rw [grt_s]
  constructor
  · rintro (h | h)
    · exact Or.inl h
    · exact Or.inr (Or.inl h)
  · rintro (h | h | h)
    · exact Or.inl h
    · exact Or.inr h
    · exact absurd h.1 hn)
theorem gri_met (h : GrO f f1 (grI T U b k q mt cd l t)) (hb : t ≠ b) (hm : mt.testBit t = true) : GrO f f1 (grI T U b k q mt cd l (t + 1)) := gro_iff h (fun z => by
  show _ ∨ _ ↔ _ ∨ _
  rw [grt_s]
  constructor
  · rintro (h | h)
    · exact Or.inl h
    · exact Or.inr (Or.inl h)
  · rintro (h | h | h)
    · exact Or.inl h
    · exact Or.inr h
    · rcases h.2 with w | w
      · exact absurd w.1 hb
      · exact absurd hm w.2.1)
theorem gri_hit (h : GrO f f1 (grI T U b k q mt cd l t)) (hy : (T (q * 3 + l) &&& U).testBit t = true) (hb : t = b) (hv : v = wt l) : GrO f (va_up f1 (cd + v) 1) (grI T U b k q mt cd l (t + 1)) := by
  intro z hz
  have h0 := h z hz
  unfold va_up
  have e : grI T U b k q mt cd l (t + 1) z ↔ grI T U b k q mt cd l t z ∨ z = cd + v := by
    show _ ∨ _ ↔ (_ ∨ _) ∨ _
    rw [grt_s, hv]
    constructor
    · rintro (h | h | h)
      · exact Or.inl (Or.inl h)
      · exact Or.inl (Or.inr h)
      · rcases h.2 with w | w
        · exact Or.inr w.2
        · exact absurd hb w.1
    · rintro ((h | h) | h)
      · exact Or.inl h
      · exact Or.inr (Or.inl h)
      · exact Or.inr (Or.inr ⟨hy, Or.inl ⟨hb, h⟩⟩)
  split
  · rename_i q
    exact ⟨by decide, ⟨fun _ => Or.inr (e.mpr (Or.inr q)), fun _ => by decide⟩⟩
  · rename_i q
    refine ⟨h0.1, ?_⟩
    rw [h0.2, e]
    constructor
    · rintro (w | w)
      · exact Or.inl w
      · exact Or.inr (Or.inl w)
    · rintro (w | w | w)
      · exact Or.inl w
      · exact Or.inr w
      · exact absurd w q
theorem gri_call (h : GrO f f1 (grI T U b k q mt cd l t)) (hy : (T (q * 3 + l) &&& U).testBit t = true) (hb : t ≠ b) (hm : ¬ mt.testBit t = true) (hv : v = wt l) (h2 : GrO f1 f2 (grW T U b k t (mt ||| 2 ^ t) (cd + v))) : GrO f f2 (grI T U b k q mt cd l (t + 1)) := by
  intro z hz
  have h0 := h z hz
  have h3 := h2 z hz
  refine ⟨h3.1, ?_⟩
  rw [h3.2, h0.2]
  show (_ ∨ (_ ∨ _)) ∨ _ ↔ _ ∨ (_ ∨ _)
  rw [grt_s, hv]
  constructor
  · rintro ((w | w | w) | w)
    · exact Or.inl w
    · exact Or.inr (Or.inl w)
    · exact Or.inr (Or.inr (Or.inl w))
    · exact Or.inr (Or.inr (Or.inr ⟨hy, Or.inr ⟨hb, hm, w⟩⟩))
  · rintro (w | w | w | w)
    · exact Or.inl (Or.inl w)
    · exact Or.inl (Or.inr (Or.inl w))
    · exact Or.inl (Or.inr (Or.inr w))
    · rcases w.2 with y | y
      · exact absurd y.1 hb
      · exact Or.inr y.2.2
end GRI
theorem un0 {mt t : Nat} (h : unr 5 mt = 0) (ht : t < 5) : mt.testBit t = true := by
  have h1 := fb_ct_zero.mp h t ht
  simpa using h1
theorem un4 : ∀ q, q < 5 → unr 5 (2 ^ q) = 4 := by decide
/-- the cycles of the reference, from the states below n -/
def cyN (T : Nat → Nat) (U n z : Nat) : Prop := ∃ q, q < n ∧ U.testBit q = true ∧ grW T U q 5 q (2 ^ q) 0 z
def FdN (f : Nat → Nat) (P : Nat → Prop) : Prop := ∀ z, z < 1000 → f z < 2 ∧ (f z ≠ 0 ↔ P z)
theorem fdn_0 {f : Nat → Nat} {T : Nat → Nat} {U : Nat} (h : ∀ z, z < 1000 → f z = 0) : FdN f (cyN T U 0) := fun z hz => ⟨by rw [h z hz]; decide, ⟨fun q => absurd (h z hz) q, fun ⟨q, h1, _⟩ => absurd h1 (by omega)⟩⟩
theorem fdn_n {f T : Nat → Nat} {U n : Nat} (h : FdN f (cyN T U n)) (hn : ¬ U.testBit n = true) : FdN f (cyN T U (n + 1)) := fun z hz => ⟨(h z hz).1, by
  rw [(h z hz).2]
  constructor
  · rintro ⟨q, h1, h2⟩; exact ⟨q, by omega, h2⟩
  · rintro ⟨q, h1, h2, h3⟩
    by_cases e : q = n
    · subst e; exact absurd h2 hn
    · exact ⟨q, by omega, h2, h3⟩⟩
theorem fdn_y {f f2 T : Nat → Nat} {U n : Nat} (h : FdN f (cyN T U n)) (hn : U.testBit n = true) (h2 : GrO f f2 (grW T U n 5 n (2 ^ n) 0)) : FdN f2 (cyN T U (n + 1)) := fun z hz => ⟨(h2 z hz).1, by
  rw [(h2 z hz).2, (h z hz).2]
  constructor
  · rintro (⟨q, h1, h2⟩ | w)
    · exact ⟨q, by omega, h2⟩
    · exact ⟨n, by omega, hn, w⟩
  · rintro ⟨q, h1, h2, h3⟩
    by_cases e : q = n
    · subst e; exact Or.inr h3
    · exact Or.inl ⟨q, by omega, h2, h3⟩⟩
theorem fdo_n {f : Nat → Nat} {P : Nat → Prop} (h : FdO f P 1000) : FdN f P := fun z hz => by
  rcases h z hz with w | w
  · exact ⟨by omega, ⟨fun _ => w.1, fun _ => by omega⟩⟩
  · exact ⟨by omega, ⟨fun q => absurd w.2 q, fun q => absurd q w.1⟩⟩
/-! ===== what periods make ===== -/
def mdF (nw : Nat → Nat) (l : Nat) : Nat → Nat → Nat → Nat → Nat → Prop
  | 0, _, x, y, z => x = 0 ∧ y = 0 ∧ z = 0
  | k + 1, p, x, y, z => ∃ n, n * nw (50 + 9 * l + 3 * p) ≤ x ∧ n * nw (50 + 9 * l + 3 * p + 1) ≤ y ∧ n * nw (50 + 9 * l + 3 * p + 2) ≤ z ∧ mdF nw l k (p + 1) (x - n * nw (50 + 9 * l + 3 * p)) (y - n * nw (50 + 9 * l + 3 * p + 1)) (z - n * nw (50 + 9 * l + 3 * p + 2))
theorem md_0 (nw : Nat → Nat) (l : Nat) : ∀ k p, mdF nw l k p 0 0 0
  | 0, _ => ⟨rfl, rfl, rfl⟩
  | k + 1, p => ⟨0, by omega, by omega, by omega, by simpa using md_0 nw l k (p + 1)⟩
theorem md_s {nw : Nat → Nat} {l k p x y z : Nat} : mdF nw l (k + 1) p x y z ↔ mdF nw l k (p + 1) x y z ∨ (nw (50 + 9 * l + 3 * p) ≤ x ∧ nw (50 + 9 * l + 3 * p + 1) ≤ y ∧ nw (50 + 9 * l + 3 * p + 2) ≤ z ∧ mdF nw l (k + 1) p (x - nw (50 + 9 * l + 3 * p)) (y - nw (50 + 9 * l + 3 * p + 1)) (z - nw (50 + 9 * l + 3 * p + 2))) := by
  constructor
  · rintro ⟨n, h1, h2, h3, h4⟩
    cases n with
    | zero => exact Or.inl (by simpa using h4)
    | succ n =>
      rw [Nat.succ_mul n (nw (50 + 9 * l + 3 * p))] at h1
      rw [Nat.succ_mul n (nw (50 + 9 * l + 3 * p + 1))] at h2
      rw [Nat.succ_mul n (nw (50 + 9 * l + 3 * p + 2))] at h3
      refine Or.inr ⟨by omega, by omega, by omega, n, by omega, by omega, by omega, ?_⟩
      rw [Nat.succ_mul n (nw (50 + 9 * l + 3 * p)), Nat.succ_mul n (nw (50 + 9 * l + 3 * p + 1)), Nat.succ_mul n (nw (50 + 9 * l + 3 * p + 2))] at h4
      rw [Nat.sub_sub, Nat.sub_sub, Nat.sub_sub, Nat.add_comm (nw (50 + 9 * l + 3 * p)), Nat.add_comm (nw (50 + 9 * l + 3 * p + 1)), Nat.add_comm (nw (50 + 9 * l + 3 * p + 2))]
      exact h4
  · rintro (h | ⟨h1, h2, h3, n, h4, h5, h6, h7⟩)
    · exact ⟨0, by omega, by omega, by omega, by simpa using h⟩
    · refine ⟨n + 1, by rw [Nat.succ_mul n (nw (50 + 9 * l + 3 * p))]; omega, by rw [Nat.succ_mul n (nw (50 + 9 * l + 3 * p + 1))]; omega, by rw [Nat.succ_mul n (nw (50 + 9 * l + 3 * p + 2))]; omega, ?_⟩
      rw [Nat.succ_mul n (nw (50 + 9 * l + 3 * p)), Nat.succ_mul n (nw (50 + 9 * l + 3 * p + 1)), Nat.succ_mul n (nw (50 + 9 * l + 3 * p + 2))]
      rw [Nat.sub_sub, Nat.sub_sub, Nat.sub_sub, Nat.add_comm (nw (50 + 9 * l + 3 * p)), Nat.add_comm (nw (50 + 9 * l + 3 * p + 1)), Nat.add_comm (nw (50 + 9 * l + 3 * p + 2))] at h7
      exact h7
/-- a linear set of the reference, as it must be -/
def Ln (nw : Nat → Nat) (j : Nat) : Prop := (nw (18 + 3 * j) < 10 ∧ nw (18 + 3 * j + 1) < 10 ∧ nw (18 + 3 * j + 2) < 10) ∧ nw (42 + j) ≤ 3 ∧ ∀ i, i < nw (42 + j) → nw (50 + 9 * j + 3 * i) < 10 ∧ nw (50 + 9 * j + 3 * i + 1) < 10 ∧ nw (50 + 9 * j + 3 * i + 2) < 10 ∧ nw (50 + 9 * j + 3 * i) + nw (50 + 9 * j + 3 * i + 1) + nw (50 + 9 * j + 3 * i + 2) ≠ 0
def OkS (nw : Nat → Nat) : Prop := ∀ s, s < 2 → nw (16 + s) ≤ 4 ∧ ∀ l, l < nw (16 + s) → Ln nw (4 * s + l)
abbrev mdQ (nw : Nat → Nat) (l k p a b c : Nat) : Prop := a < 10 ∧ b < 10 ∧ c < 10 ∧ cB (mdF nw l k p a b c) = true
theorem sb_or {a x : Nat} (ha : a < 10) (hx : x < 10) : sb a x < 10 ∨ (2147483648 ≤ sb a x ∧ sb a x < 4294967296) := by unfold sb; split <;> omega
theorem md_step {nw : Nat → Nat} {l H p a b c : Nat} (hp : p < H) (ha : a < 10) (hb : b < 10) (hc : c < 10) (h1 : nw (50 + 9 * l + 3 * p) < 10) (h2 : nw (50 + 9 * l + 3 * p + 1) < 10) (h3 : nw (50 + 9 * l + 3 * p + 2) < 10) :
    mdQ nw l (H - p) p a b c ↔ mdQ nw l (H - (p + 1)) (p + 1) a b c ∨ mdQ nw l (H - p) p (sb a (nw (50 + 9 * l + 3 * p))) (sb b (nw (50 + 9 * l + 3 * p + 1))) (sb c (nw (50 + 9 * l + 3 * p + 2))) := by
  have e : H - p = (H - (p + 1)) + 1 := by omega
  show _ ∧ _ ∧ _ ∧ _ ↔ (_ ∧ _ ∧ _ ∧ _) ∨ (_ ∧ _ ∧ _ ∧ _)
  rw [e, cB_iff, cB_iff, cB_iff, md_s]
  have s1 := sb_small (x := a) (y := nw (50 + 9 * l + 3 * p)) (n := 10) (by omega) (by omega) (by decide)
  have s2 := sb_small (x := b) (y := nw (50 + 9 * l + 3 * p + 1)) (n := 10) (by omega) (by omega) (by decide)
  have s3 := sb_small (x := c) (y := nw (50 + 9 * l + 3 * p + 2)) (n := 10) (by omega) (by omega) (by decide)
  constructor
  · rintro ⟨g1, g2, g3, w | ⟨w1, w2, w3, w4⟩⟩
    · exact Or.inl ⟨g1, g2, g3, w⟩
    · rw [sb_eq w1, sb_eq w2, sb_eq w3]
      exact Or.inr ⟨by omega, by omega, by omega, w4⟩
  · rintro (⟨g1, g2, g3, w⟩ | ⟨g1, g2, g3, w⟩)
    · exact ⟨g1, g2, g3, Or.inl w⟩
    · have w1 := (s1.mp g1).1
      have w2 := (s2.mp g2).1
      have w3 := (s3.mp g3).1
      rw [sb_eq w1, sb_eq w2, sb_eq w3] at w
      exact ⟨ha, hb, hc, Or.inr ⟨w1, w2, w3, w⟩⟩
theorem md_fuel {nw : Nat → Nat} {l H p a b c d : Nat} (hp : p < H) (ha : a < 10) (hb : b < 10) (hc : c < 10) (h1 : nw (50 + 9 * l + 3 * p) < 10) (h2 : nw (50 + 9 * l + 3 * p + 1) < 10) (h3 : nw (50 + 9 * l + 3 * p + 2) < 10) (h4 : nw (50 + 9 * l + 3 * p) + nw (50 + 9 * l + 3 * p + 1) + nw (50 + 9 * l + 3 * p + 2) ≠ 0) (hd : H - p + (a + b + c) ≤ d + 1) :
    sb a (nw (50 + 9 * l + 3 * p)) < 10 → sb b (nw (50 + 9 * l + 3 * p + 1)) < 10 → sb c (nw (50 + 9 * l + 3 * p + 2)) < 10 → H - p + (sb a (nw (50 + 9 * l + 3 * p)) + sb b (nw (50 + 9 * l + 3 * p + 1)) + sb c (nw (50 + 9 * l + 3 * p + 2))) ≤ d := by
  intro g1 g2 g3
  have w1 := ((sb_small (x := a) (y := nw (50 + 9 * l + 3 * p)) (n := 10) (by omega) (by omega) (by decide)).mp g1).1
  have w2 := ((sb_small (x := b) (y := nw (50 + 9 * l + 3 * p + 1)) (n := 10) (by omega) (by omega) (by decide)).mp g2).1
  have w3 := ((sb_small (x := c) (y := nw (50 + 9 * l + 3 * p + 2)) (n := 10) (by omega) (by omega) (by decide)).mp g3).1
  rw [sb_eq w1, sb_eq w2, sb_eq w3]
  omega
/-- a linear set has the counts -/
def mdI (nw : Nat → Nat) (j x y z : Nat) : Prop := nw (18 + 3 * j) ≤ x ∧ nw (18 + 3 * j + 1) ≤ y ∧ nw (18 + 3 * j + 2) ≤ z ∧ mdF nw j (nw (42 + j)) 0 (x - nw (18 + 3 * j)) (y - nw (18 + 3 * j + 1)) (z - nw (18 + 3 * j + 2))
def inR (nw : Nat → Nat) (s x y z : Nat) : Prop := ∃ l, l < nw (16 + s) ∧ mdI nw (4 * s + l) x y z
theorem md_in {nw : Nat → Nat} {j x y z : Nat} (hx : x < 10) (hy : y < 10) (hz : z < 10) (hL : Ln nw j) : mdQ nw j (nw (42 + j) - 0) 0 (sb x (nw (18 + 3 * j))) (sb y (nw (18 + 3 * j + 1))) (sb z (nw (18 + 3 * j + 2))) ↔ mdI nw j x y z := by
  have s1 := sb_small (x := x) (y := nw (18 + 3 * j)) (n := 10) (by omega) (by have := hL.1.1; omega) (by decide)
  have s2 := sb_small (x := y) (y := nw (18 + 3 * j + 1)) (n := 10) (by omega) (by have := hL.1.2.1; omega) (by decide)
  have s3 := sb_small (x := z) (y := nw (18 + 3 * j + 2)) (n := 10) (by omega) (by have := hL.1.2.2; omega) (by decide)
  show _ ∧ _ ∧ _ ∧ _ ↔ _ ∧ _ ∧ _ ∧ _
  rw [cB_iff, Nat.sub_zero]
  constructor
  · rintro ⟨g1, g2, g3, w⟩
    have w1 := (s1.mp g1).1
    have w2 := (s2.mp g2).1
    have w3 := (s3.mp g3).1
    rw [sb_eq w1, sb_eq w2, sb_eq w3] at w
    exact ⟨w1, w2, w3, w⟩
  · rintro ⟨w1, w2, w3, w⟩
    rw [sb_eq w1, sb_eq w2, sb_eq w3]
    exact ⟨by omega, by omega, by omega, w⟩
theorem in_y {nw : Nat → Nat} {s x y z j : Nat} (h0 : 4 * s ≤ j) (h1 : j < 4 * s + nw (16 + s)) (h : mdI nw j x y z) : inR nw s x y z := ⟨j - 4 * s, by omega, by rw [show 4 * s + (j - 4 * s) = j by omega]; exact h⟩
theorem in_n {nw : Nat → Nat} {s x y z j : Nat} (h1 : 4 * s + nw (16 + s) ≤ j) (h : ∀ k, 4 * s ≤ k → k < j → ¬ mdI nw k x y z) : ¬ inR nw s x y z := fun ⟨l, h2, h3⟩ => h (4 * s + l) (by omega) (by omega) h3
theorem ok_ln {nw : Nat → Nat} (h : OkS nw) {s j : Nat} (hs : s < 2) (h0 : 4 * s ≤ j) (h1 : j < 4 * s + nw (16 + s)) : Ln nw j := by
  have := (h s hs).2 (j - 4 * s) (by omega)
  rw [show 4 * s + (j - 4 * s) = j by omega] at this
  exact this
/-- what firstUnlike looks for -/
def dfR (T : Nat → Nat) (fin : Nat) (nw : Nat → Nat) (s wr x y z : Nat) : Prop := (rch T x y z &&& fin ≠ 0 ↔ wr = 1) ∧ ¬ (inR nw s x y z ↔ wr = 1)
theorem ite_eq {P : Prop} [Decidable P] {b : Nat} (hb : b < 2) (h : (if P then 1 else 0 : Nat) = b) : P ↔ b = 1 := by
  by_cases p : P
  · rw [if_pos p] at h; exact ⟨fun _ => h.symm, fun _ => p⟩
  · rw [if_neg p] at h; exact ⟨fun q => absurd q p, fun q => by omega⟩
theorem ite_ne {P : Prop} [Decidable P] {b : Nat} (hb : b < 2) (h : (if P then 1 else 0 : Nat) ≠ b) : ¬ (P ↔ b = 1) := by
  intro w
  by_cases p : P
  · rw [if_pos p] at h; exact h (w.mp p).symm
  · rw [if_neg p] at h; exact p (w.mpr (by omega))
theorem ite_2 {P : Prop} [Decidable P] : (if P then 1 else 0 : Nat) < 2 := by split <;> decide
theorem ct_if {p : Nat → Bool} {S c v : Nat} (h : v = if p c = true then 1 else 0) : S + fb_ct p c + v = S + fb_ct p (c + 1) := by
  rw [fb_ct_succ, h, Nat.add_assoc]
theorem sum3_b {f : Nat → Nat} {S b : Nat} {v : Nat} (h : f b = v) : S + fb_sm f b + v = S + fb_sm f (b + 1) := sm_y h
theorem ss_in {s a b bd : Nat} (hs : s ≤ 18) (ha : a ≤ 6) (hb : b ≤ 6) (hd : bd < 7) : (0 ≤ sb (sb s a) b ∧ sb (sb s a) b ≤ bd ∧ bd < 2147483648) ↔ a + b ≤ s ∧ s - a - b ≤ bd := by
  unfold sb
  split <;> split <;> omega
theorem ss_eq {s a b : Nat} (h : a + b ≤ s) : sb (sb s a) b = s - a - b := by
  rw [sb_eq (show a ≤ s by omega), sb_eq (by omega)]
/-! ===== the reference: all words of a length ===== -/
theorem pow3_7 : ∀ n, n ≤ 7 → 1 ≤ 3 ^ n ∧ 3 ^ n ≤ 2187 := by decide
theorem dgt_lt (cd n k : Nat) : dgt cd n k < 3 := Nat.mod_lt _ (by decide)
theorem dg_put {f : Nat → Nat} {cd n j k lf : Nat} (hk : k = j - 1) (hj : 0 < j) (hjn : j ≤ n) (hl : lf = cd / 3 ^ (n - j)) (h : ∀ i, j ≤ i → i < n → f i = dgt cd n i) : ∀ i, j - 1 ≤ i → i < n → va_up f k (lf % 3) i = dgt cd n i := by
  intro i h1 h2
  unfold va_up
  split
  · rename_i e
    rw [e, hk, hl]
    unfold dgt
    rw [show n - 1 - (j - 1) = n - j by omega]
  · exact h i (by omega) h2
theorem dg_lf {cd n j lf : Nat} (hj : 0 < j) (hjn : j ≤ n) (hl : lf = cd / 3 ^ (n - j)) : lf / 3 = cd / 3 ^ (n - (j - 1)) := by
  rw [hl, Nat.div_div_eq_div_mul, show n - (j - 1) = (n - j) + 1 by omega, Nat.pow_succ]
theorem wrun_w {T w w2 : Nat → Nat} : ∀ n, (∀ i, i < n → w i = w2 i) → wrun T w n = wrun T w2 n
  | 0, _ => rfl
  | n + 1, h => by rw [wrun, wrun, wrun_w n (fun i hi => h i (by omega)), h n (by omega)]
theorem cntW_w {w w2 : Nat → Nat} {n : Nat} (h : ∀ i, i < n → w i = w2 i) (x : Nat) : cntW w n x = cntW w2 n x := fb_ct_cong (fun j hj => by rw [h j hj])
theorem wrc_w {T w w2 : Nat → Nat} {fin n : Nat} (h : ∀ i, i < n → w i = w2 i) : wrc T w fin n ↔ wrc T w2 fin n := by
  show _ ≠ 0 ↔ _ ≠ 0
  rw [cntW_w h, cntW_w h, cntW_w h]
theorem wl_w {w w2 : Nat → Nat} {n : Nat} (h : ∀ i, i < n → w i = w2 i) : wl w n = wl w2 n := List.map_congr_left (fun i hi => h i (List.mem_range.mp hi))
theorem acR_w {T w w2 : Nat → Nat} {fin n md : Nat} (h : ∀ i, i < n → w i = w2 i) : acR T w fin n md ↔ acR T w2 fin n md := by
  unfold acR
  rw [wrun_w n h, wrc_w h, wl_w h]
def opR (T : Nat → Nat) (fin n cd : Nat) : Prop := wrc T (dgt cd n) fin n ∧ ¬ wrun T (dgt cd n) n &&& fin ≠ 0
def noR (T : Nat → Nat) (fin mo : Nat) : Prop := ∀ n, n ≤ mo → ∀ c, c < 3 ^ n → ¬ opR T fin n c
def isOR (T : Nat → Nat) (fin mo ol : Nat) (w : Nat → Nat) : Prop := ol ≤ mo ∧ ∃ cd, cd < 3 ^ ol ∧ opR T fin ol cd ∧ (∀ n, n < ol → ∀ c, c < 3 ^ n → ¬ opR T fin n c) ∧ (∀ c, c < cd → ¬ opR T fin ol c) ∧ ∀ k, k < ol → w k = dgt cd ol k
theorem ff_ok {f : Nat → Nat} {P : Nat → Prop} (h : FdO f P 1000) (hp : ∀ k, k < 1000 → P k → dsum k ≤ 4) : fb_ct (fdB f) 1000 ≤ 56 ∧ smF f 1000 ≤ 4 * fb_ct (fdB f) 1000 := by
  have hd : ∀ k, k < 1000 → f k ≠ 0 → dsum k ≤ 4 := fun k hk hf => hp k hk (by rcases h k hk with w | w; { exact w.1 }; { exact absurd w.2 hf })
  constructor
  · rw [← cs5_56]
    exact fb_ct_sub (fun k hk hq => decide_eq_true ⟨hk, Nat.le_trans (hd k hk (of_decide_eq_true hq)) (by decide)⟩)
  · have : ∀ n, n ≤ 1000 → smF f n ≤ 4 * fb_ct (fdB f) n := by
      intro n
      induction n with
      | zero => intro _; exact Nat.le_refl _
      | succ n ih =>
        intro hn
        have i0 := ih (by omega)
        unfold smF at *
        rw [fb_sm_succ, fb_ct_succ]
        by_cases q : f n ≠ 0
        · have := hd n (by omega) q
          rw [if_pos q, if_pos (decide_eq_true q)]; omega
        · rw [if_neg q, if_neg (by simpa using q)]; omega
    exact this 1000 (Nat.le_refl _)
theorem or_w {T : Nat → Nat} {fin mo ol : Nat} {w w2 : Nat → Nat} (h : isOR T fin mo ol w) (h2 : ∀ k, k < ol → w2 k = w k) : isOR T fin mo ol w2 := by
  obtain ⟨h0, cd, g1, g2, g3, g4, g5⟩ := h
  exact ⟨h0, cd, g1, g2, g3, g4, fun k hk => by rw [h2 k hk]; exact g5 k hk⟩
theorem sf_y {f : Nat → Nat} {k z : Nat} (h : z = smF f k) (hf : f k ≠ 0) : z + (k / 100 + k / 10 % 10 + k % 10) = smF f (k + 1) := by
  unfold smF; rw [fb_sm_succ, if_pos hf, h]; rfl
theorem sf_n {f : Nat → Nat} {k z : Nat} (h : z = smF f k) (hf : f k = 0) : z = smF f (k + 1) := by
  unfold smF; rw [fb_sm_succ, if_neg (fun q => q hf), h]; rfl
