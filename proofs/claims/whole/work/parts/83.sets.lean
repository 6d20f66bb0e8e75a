/-! ===== the counting sets: the class's row and the reference's ===== -/
theorem fb_sm_front (f : Nat → Nat) : ∀ n, fb_sm f (n + 1) = f 0 + fb_sm (fun i => f (i + 1)) n
  | 0 => by rw [fb_sm_succ]; show fb_sm f 0 + f 0 = f 0 + fb_sm _ 0; simp [fb_sm]
  | n + 1 => by rw [fb_sm_succ, fb_sm_front f n, fb_sm_succ, Nat.add_assoc]
theorem mkP_sm {B : Nat} {P : Nat → Nat} : ∀ k x y z, mkP B P k x y z ↔ ∃ n : Nat → Nat, x = B / 100 + fb_sm (fun i => n i * (P i / 100)) k ∧ y = B / 10 % 10 + fb_sm (fun i => n i * (P i / 10 % 10)) k ∧ z = B % 10 + fb_sm (fun i => n i * (P i % 10)) k
  | 0, x, y, z => by
    constructor
    · rintro ⟨h1, h2, h3⟩; exact ⟨fun _ => 0, h1, h2, h3⟩
    · rintro ⟨n, h1, h2, h3⟩; exact ⟨h1, h2, h3⟩
  | k + 1, x, y, z => by
    constructor
    · rintro ⟨m, h1, h2, h3, h4⟩
      obtain ⟨n, g1, g2, g3⟩ := (mkP_sm k _ _ _).mp h4
      have c : ∀ (F : Nat → Nat), fb_sm (fun i => va_up n k m i * F i) (k + 1) = fb_sm (fun i => n i * F i) k + m * F k := fun F => by
        rw [fb_sm_succ]
        show _ + va_up n k m k * F k = _
        rw [show va_up n k m k = m from if_pos rfl]
        congr 1
        exact fb_sm_cong (fun i hi => by show va_up n k m i * F i = _; rw [va_up, if_neg (by omega)])
      refine ⟨va_up n k m, ?_, ?_, ?_⟩
      · rw [c (fun i => P i / 100)]; omega
      · rw [c (fun i => P i / 10 % 10)]; omega
      · rw [c (fun i => P i % 10)]; omega
    · rintro ⟨n, h1, h2, h3⟩
      rw [fb_sm_succ] at h1 h2 h3
      exact ⟨n k, by omega, by omega, by omega, (mkP_sm k _ _ _).mpr ⟨n, by omega, by omega, by omega⟩⟩
theorem mdF_sm {nw : Nat → Nat} {l : Nat} : ∀ k p x y z, mdF nw l k p x y z ↔ ∃ n : Nat → Nat, x = fb_sm (fun i => n i * nw (50 + 9 * l + 3 * (p + i))) k ∧ y = fb_sm (fun i => n i * nw (50 + 9 * l + 3 * (p + i) + 1)) k ∧ z = fb_sm (fun i => n i * nw (50 + 9 * l + 3 * (p + i) + 2)) k
  | 0, p, x, y, z => by
    constructor
    · rintro ⟨h1, h2, h3⟩; exact ⟨fun _ => 0, h1, h2, h3⟩
    · rintro ⟨n, h1, h2, h3⟩; exact ⟨h1, h2, h3⟩
  | k + 1, p, x, y, z => by
    have sh : ∀ i, p + 1 + i = p + (i + 1) := fun i => by omega
    constructor
    · rintro ⟨m, h1, h2, h3, h4⟩
      obtain ⟨n, g1, g2, g3⟩ := (mdF_sm k (p + 1) _ _ _).mp h4
      simp only [sh] at g1 g2 g3
      refine ⟨fun i => if i = 0 then m else n (i - 1), ?_, ?_, ?_⟩
      · rw [fb_sm_front]; simp only [Nat.add_eq_zero_iff, Nat.one_ne_zero, and_false, if_false, if_true, Nat.add_sub_cancel, Nat.add_zero]; omega
      · rw [fb_sm_front]; simp only [Nat.add_eq_zero_iff, Nat.one_ne_zero, and_false, if_false, if_true, Nat.add_sub_cancel, Nat.add_zero]; omega
      · rw [fb_sm_front]; simp only [Nat.add_eq_zero_iff, Nat.one_ne_zero, and_false, if_false, if_true, Nat.add_sub_cancel, Nat.add_zero]; omega
    · rintro ⟨n, h1, h2, h3⟩
      rw [fb_sm_front] at h1 h2 h3
      simp only [Nat.add_zero] at h1 h2 h3
      refine ⟨n 0, by omega, by omega, by omega, (mdF_sm k (p + 1) _ _ _).mpr ⟨fun i => n (i + 1), ?_, ?_, ?_⟩⟩
      · simp only [sh]; omega
      · simp only [sh]; omega
      · simp only [sh]; omega
/-- the class's row c and the reference's cells nw hold the same counting sets -/
def SetR (c nw : Nat → Nat) : Prop := ∀ s, s < 2 → c (s * 21) = nw (16 + s) ∧ ∀ l, l < nw (16 + s) → c (s * 21 + 1 + l * 5) = 100 * nw (18 + 3 * (4 * s + l)) + 10 * nw (18 + 3 * (4 * s + l) + 1) + nw (18 + 3 * (4 * s + l) + 2) ∧ c (s * 21 + 1 + l * 5 + 1) = nw (42 + (4 * s + l)) ∧ ∀ i, i < nw (42 + (4 * s + l)) → c (s * 21 + 1 + l * 5 + 2 + i) = 100 * nw (50 + 9 * (4 * s + l) + 3 * i) + 10 * nw (50 + 9 * (4 * s + l) + 3 * i + 1) + nw (50 + 9 * (4 * s + l) + 3 * i + 2)
theorem dg3 {v a b c : Nat} (h : v = 100 * a + 10 * b + c) (hb : b < 10) (hc : c < 10) : v / 100 = a ∧ v / 10 % 10 = b ∧ v % 10 = c := by omega
theorem mem_eq {c nw : Nat → Nat} {s l x y z : Nat} (hS : OkS nw) (hR : SetR c nw) (hs : s < 2) (hl : l < nw (16 + s)) : mem1 c s l x y z ↔ mdI nw (4 * s + l) x y z := by
  obtain ⟨b1, b2, b3⟩ := ((hS s hs).2 l hl).1
  obtain ⟨r1, r2, r3⟩ := (hR s hs).2 l hl
  have hp := ((hS s hs).2 l hl).2.2
  obtain ⟨d1, d2, d3⟩ := dg3 r1 b2 b3
  unfold mem1 mdI
  rw [mkP_sm, mdF_sm, d1, d2, d3, r2]
  have c1 : ∀ n : Nat → Nat, fb_sm (fun i => n i * (c (s * 21 + 1 + l * 5 + 2 + i) / 100)) (nw (42 + (4 * s + l))) = fb_sm (fun i => n i * nw (50 + 9 * (4 * s + l) + 3 * (0 + i))) (nw (42 + (4 * s + l))) := fun n => fb_sm_cong (fun i hi => by
    rw [(dg3 (r3 i hi) (hp i hi).2.1 (hp i hi).2.2.1).1, Nat.zero_add])
  have c2 : ∀ n : Nat → Nat, fb_sm (fun i => n i * (c (s * 21 + 1 + l * 5 + 2 + i) / 10 % 10)) (nw (42 + (4 * s + l))) = fb_sm (fun i => n i * nw (50 + 9 * (4 * s + l) + 3 * (0 + i) + 1)) (nw (42 + (4 * s + l))) := fun n => fb_sm_cong (fun i hi => by
    rw [(dg3 (r3 i hi) (hp i hi).2.1 (hp i hi).2.2.1).2.1, Nat.zero_add])
  have c3 : ∀ n : Nat → Nat, fb_sm (fun i => n i * (c (s * 21 + 1 + l * 5 + 2 + i) % 10)) (nw (42 + (4 * s + l))) = fb_sm (fun i => n i * nw (50 + 9 * (4 * s + l) + 3 * (0 + i) + 2)) (nw (42 + (4 * s + l))) := fun n => fb_sm_cong (fun i hi => by
    rw [(dg3 (r3 i hi) (hp i hi).2.1 (hp i hi).2.2.1).2.2, Nat.zero_add])
  constructor
  · rintro ⟨n, h1, h2, h3⟩
    rw [c1] at h1
    rw [c2] at h2
    rw [c3] at h3
    exact ⟨by omega, by omega, by omega, n, by omega, by omega, by omega⟩
  · rintro ⟨h1, h2, h3, n, g1, g2, g3⟩
    exact ⟨n, by rw [c1]; omega, by rw [c2]; omega, by rw [c3]; omega⟩
theorem mbS_eq {c nw : Nat → Nat} {s x y z : Nat} (hS : OkS nw) (hR : SetR c nw) (hs : s < 2) : mbS c s x y z ↔ inR nw s x y z := by
  have e := (hR s hs).1
  constructor
  · rintro ⟨l, hl, h⟩
    rw [e] at hl
    exact ⟨l, hl, (mem_eq hS hR hs hl).mp h⟩
  · rintro ⟨l, hl, h⟩
    exact ⟨l, by rw [e]; exact hl, (mem_eq hS hR hs hl).mpr h⟩
/-- so the class's row is as it must be -/
theorem okC_of {c nw : Nat → Nat} (hS : OkS nw) (hR : SetR c nw) : OkC c := by
  intro s hs
  obtain ⟨h1, h2⟩ := hS s hs
  obtain ⟨r1, r2⟩ := hR s hs
  refine ⟨by omega, fun l hl => ?_⟩
  rw [r1] at hl
  obtain ⟨⟨b1, b2, b3⟩, b4, b5⟩ := h2 l hl
  obtain ⟨q1, q2, q3⟩ := r2 l hl
  refine ⟨by omega, by omega, fun i hi => ?_⟩
  rw [q2] at hi
  obtain ⟨p1, p2, p3, p4⟩ := b5 i hi
  have := q3 i hi
  omega
