/-! ===== class and reference answer alike, third ===== -/
section TIES3
variable {σ τ τ' : SS} {ov : Nat → Int64} {dv : Nat → UInt64} {r : Int32} {z : HZ}
theorem tie_clearSet {s2 v : Nat} (hI : Inv σ τ) (h1 : RH_clearSet σ s2 ov dv r z) (h2 : RM_clearSet τ s2 v τ') : Tie r z τ' (nI v).toInt64 := by
  obtain ⟨r0, th, ch, nw, kp, rfl, h2, rfl⟩ := h2
  have hT := hI.t
  rcases h1 with ⟨rfl, c1, rfl⟩ | ⟨rfl, c1, rfl⟩ <;> rcases h2 with ⟨d1, rfl, rfl, rfl, rfl⟩ | ⟨d1, rfl, d4, rfl, rfl, rfl⟩
  · exact absurd c1 d1
  · have hS : OkS (va_up (τ.2.1 0) (16 + s2) 0) ∧ SetR (va_up (σ.2.1 2) (s2 * 21) 0) (va_up (τ.2.1 0) (16 + s2) 0) := by
      refine ⟨fun s hs => ?_, fun s hs => ?_⟩
      · by_cases e : s = s2
        · subst e
          have : va_up (τ.2.1 0) (16 + s) 0 (16 + s) = 0 := if_pos rfl
          rw [this]
          exact ⟨by decide, fun l hl => absurd hl (Nat.not_lt_zero _)⟩
        · obtain ⟨h1, h2⟩ := hI.okS s hs
          rw [va_up, if_neg (by omega)]
          refine ⟨h1, fun l hl => ?_⟩
          have hl4 : l < 4 := by omega
          have hL := h2 l hl
          have hne : ∀ k, 18 ≤ k → va_up (τ.2.1 0) (16 + s2) 0 k = τ.2.1 0 k := fun k hk => by rw [va_up, if_neg (by omega)]
          unfold Ln
          rw [hne _ (by omega), hne _ (by omega), hne _ (by omega), hne _ (by omega)]
          refine ⟨hL.1, hL.2.1, fun i hi => ?_⟩
          rw [hne _ (by omega), hne _ (by omega), hne _ (by omega)]
          exact hL.2.2 i hi
      · by_cases e : s = s2
        · subst e
          have e1 : va_up (τ.2.1 0) (16 + s) 0 (16 + s) = 0 := if_pos rfl
          have e2 : va_up (σ.2.1 2) (s * 21) 0 (s * 21) = 0 := if_pos rfl
          rw [e1, e2]
          exact ⟨rfl, fun l hl => absurd hl (Nat.not_lt_zero _)⟩
        · obtain ⟨h1, h2⟩ := hI.okS s hs
          obtain ⟨g1, g2⟩ := hI.set s hs
          have hne : ∀ k, 18 ≤ k → va_up (τ.2.1 0) (16 + s2) 0 k = τ.2.1 0 k := fun k hk => by rw [va_up, if_neg (by omega)]
          rw [va_up, if_neg (by omega), va_up, if_neg (by omega)]
          refine ⟨g1, fun l hl => ?_⟩
          have hl4 : l < 4 := by omega
          have hL := h2 l hl
          have h3 := hL.2.1
          have hnc : ∀ k, k < 20 → va_up (σ.2.1 2) (s2 * 21) 0 (s * 21 + 1 + k) = σ.2.1 2 (s * 21 + 1 + k) := fun k hk => by rw [va_up, if_neg (by omega)]
          obtain ⟨q1, q2, q3⟩ := g2 l hl
          rw [hne _ (by omega), hne _ (by omega), hne _ (by omega), hne _ (by omega), hnc (l * 5) (by omega), show s * 21 + 1 + l * 5 + 1 = s * 21 + 1 + (l * 5 + 1) by omega, hnc _ (by omega)]
          refine ⟨q1, q2, fun i hi => ?_⟩
          rw [hne _ (by omega), hne _ (by omega), hne _ (by omega), show s * 21 + 1 + l * 5 + 2 + i = s * 21 + 1 + (l * 5 + 2 + i) by omega, hnc _ (by omega), show s * 21 + 1 + (l * 5 + 2 + i) = s * 21 + 1 + l * 5 + 2 + i by omega]
          exact q3 i hi
    refine ⟨rfl, fun _ => ?_, chg_R hI rfl rfl (fun i => rfl) rfl d4 (fun k hk => ?_) ?_ ⟨fun k hk => ?_, ?_, hS.1, ?_⟩ hS.2 (fun x hx m hm => hI.st x hx m hm) rfl hI.od rfl rfl hI.tx hI.wd⟩
    · show (nI (σ.2.1 2 (s2 * 21))).toInt64 = _
      rw [(hI.set s2 c1).1]
    · show σ.2.1 0 k = va_up (τ.2.1 0) (16 + s2) 0 k
      rw [va_up, if_neg (by omega), hT]
    · show σ.1 0 = va_up (τ.2.1 0) (16 + s2) 0 15
      rw [va_up, if_neg (by omega)]; exact hI.f
    · show va_up (τ.2.1 0) (16 + s2) 0 k < 32
      rw [va_up, if_neg (by omega)]; exact hI.okT k hk
    · show va_up (τ.2.1 0) (16 + s2) 0 15 < 32
      rw [va_up, if_neg (by omega)]; exact hI.fin
    · show cntT (va_up (τ.2.1 0) (16 + s2) 0) ≤ 15
      rw [cnt_eq (T := τ.2.1 0) (fun k hk => by rw [va_up, if_neg (by omega)])]; exact hI.c15
  · exact ⟨rfl, fun q => absurd q n01, hI.1⟩
  · exact absurd d1 c1
theorem tie_addLinearSet {s2 x1 x2 x3 v : Nat} (hI : Inv σ τ) (h1 : RH_addLinearSet σ s2 x1 x2 x3 ov dv r z) (h2 : RM_addLinearSet τ s2 x1 x2 x3 v τ') : Tie r z τ' (nI v).toInt64 := by
  obtain ⟨r0, th, ch, nw, kp, rfl, h2, rfl⟩ := h2
  have hT := hI.t
  rcases h1 with ⟨rfl, c1, c2, c3, rfl⟩ | ⟨rfl, c1, rfl⟩ | ⟨rfl, c1, rfl⟩ | ⟨rfl, c1, rfl⟩
  · have es := (hI.set s2 c1).1
    rw [es] at c3
    rcases h2 with ⟨d1, rfl, rfl, rfl, rfl⟩ | ⟨d1, d2, rfl, rfl, rfl, rfl⟩ | ⟨d1, d2, d3, rfl, rfl, rfl, rfl⟩ | ⟨d1, d2, d3, rfl, d4, rfl, rfl, e1, e2, e3, e4, e5, e6⟩
    · exact absurd c1 d1
    · exact absurd c2 d2
    · omega
    · obtain ⟨N, eN⟩ : ∃ N, N = τ.2.1 0 (16 + s2) := ⟨_, rfl⟩
      rw [es, ← eN]
      rw [← eN] at c3 e1 e2 e3 e4 e5 e6 d3
      have lo : ∀ k, k < 16 → nw k = τ.2.1 0 k := fun k hk => e6 k (by omega) (by omega) (by omega) (by omega) (by omega)
      have hold : ∀ s l, s < 2 → l < 4 → ¬ (s = s2 ∧ l = N) → nw (18 + 3 * (4 * s + l)) = τ.2.1 0 (18 + 3 * (4 * s + l)) ∧ nw (18 + 3 * (4 * s + l) + 1) = τ.2.1 0 (18 + 3 * (4 * s + l) + 1) ∧ nw (18 + 3 * (4 * s + l) + 2) = τ.2.1 0 (18 + 3 * (4 * s + l) + 2) ∧ nw (42 + (4 * s + l)) = τ.2.1 0 (42 + (4 * s + l)) := fun s l h1 h2 h3 => ⟨e6 _ (by omega) (by omega) (by omega) (by omega) (by omega), e6 _ (by omega) (by omega) (by omega) (by omega) (by omega), e6 _ (by omega) (by omega) (by omega) (by omega) (by omega), e6 _ (by omega) (by omega) (by omega) (by omega) (by omega)⟩
      have hper : ∀ k, 50 ≤ k → nw k = τ.2.1 0 k := fun k hk => e6 k (by omega) (by omega) (by omega) (by omega) (by omega)
      have hS : OkS nw := by
        intro s hs
        obtain ⟨h1, h2⟩ := hI.okS s hs
        by_cases e : s = s2
        · subst e
          rw [e1]
          refine ⟨by omega, fun l hl => ?_⟩
          by_cases q : l = N
          · subst q
            unfold Ln
            rw [e2, e3, e4, e5]
            exact ⟨c2, by decide, fun i hi => absurd hi (Nat.not_lt_zero _)⟩
          · obtain ⟨g1, g2, g3, g4⟩ := hold s l hs (by omega) (fun w => q w.2)
            have hL := h2 l (by omega)
            unfold Ln
            rw [g1, g2, g3, g4]
            refine ⟨hL.1, hL.2.1, fun i hi => ?_⟩
            rw [hper _ (by omega), hper _ (by omega), hper _ (by omega)]
            exact hL.2.2 i hi
        · have e16 : nw (16 + s) = τ.2.1 0 (16 + s) := e6 _ (by omega) (by omega) (by omega) (by omega) (by omega)
          rw [e16]
          refine ⟨h1, fun l hl => ?_⟩
          obtain ⟨g1, g2, g3, g4⟩ := hold s l hs (by omega) (fun w => e w.1)
          have hL := h2 l hl
          unfold Ln
          rw [g1, g2, g3, g4]
          refine ⟨hL.1, hL.2.1, fun i hi => ?_⟩
          rw [hper _ (by omega), hper _ (by omega), hper _ (by omega)]
          exact hL.2.2 i hi
      have hset : SetR (va_up (va_up (va_up (σ.2.1 2) (s2 * 21) (N + 1)) (s2 * 21 + 1 + N * 5) (100 * x1 + 10 * x2 + x3)) (s2 * 21 + 1 + N * 5 + 1) 0) nw := by
        intro s hs
        obtain ⟨h1, h2⟩ := hI.okS s hs
        obtain ⟨g1, g2⟩ := hI.set s hs
        by_cases e : s = s2
        · subst e
          rw [e1]
          refine ⟨by unfold va_up; rw [if_neg (by omega), if_neg (by omega), if_pos rfl], fun l hl => ?_⟩
          by_cases q : l = N
          · subst q
            rw [e2, e3, e4, e5]
            refine ⟨by unfold va_up; rw [if_neg (by omega), if_pos rfl], by unfold va_up; rw [if_pos rfl], fun i hi => absurd hi (Nat.not_lt_zero _)⟩
          · obtain ⟨k1, k2, k3, k4⟩ := hold s l hs (by omega) (fun w => q w.2)
            have h3 := (h2 l (by omega)).2.1
            obtain ⟨q1, q2, q3⟩ := g2 l (by omega)
            rw [k1, k2, k3, k4]
            refine ⟨by unfold va_up; rw [if_neg (by omega), if_neg (by omega), if_neg (by omega)]; exact q1, by unfold va_up; rw [if_neg (by omega), if_neg (by omega), if_neg (by omega)]; exact q2, fun i hi => ?_⟩
            rw [hper _ (by omega), hper _ (by omega), hper _ (by omega)]
            unfold va_up
            rw [if_neg (by omega), if_neg (by omega), if_neg (by omega)]
            exact q3 i hi
        · have e16 : nw (16 + s) = τ.2.1 0 (16 + s) := e6 _ (by omega) (by omega) (by omega) (by omega) (by omega)
          rw [e16]
          refine ⟨by unfold va_up; rw [if_neg (by omega), if_neg (by omega), if_neg (by omega)]; exact g1, fun l hl => ?_⟩
          obtain ⟨k1, k2, k3, k4⟩ := hold s l hs (by omega) (fun w => e w.1)
          have h3 := (h2 l hl).2.1
          obtain ⟨q1, q2, q3⟩ := g2 l hl
          rw [k1, k2, k3, k4]
          refine ⟨by unfold va_up; rw [if_neg (by omega), if_neg (by omega), if_neg (by omega)]; exact q1, by unfold va_up; rw [if_neg (by omega), if_neg (by omega), if_neg (by omega)]; exact q2, fun i hi => ?_⟩
          rw [hper _ (by omega), hper _ (by omega), hper _ (by omega)]
          unfold va_up
          rw [if_neg (by omega), if_neg (by omega), if_neg (by omega)]
          exact q3 i hi
      refine ⟨rfl, fun _ => rfl, chg_R hI rfl rfl (fun i => rfl) rfl d4 (fun k hk => ?_) ?_ ⟨fun k hk => ?_, ?_, hS, ?_⟩ hset (fun x hx m hm => hI.st x hx m hm) rfl hI.od rfl rfl hI.tx hI.wd⟩
      · show σ.2.1 0 k = nw k
        rw [lo k (by omega), hT]
      · show σ.1 0 = nw 15
        rw [lo 15 (by decide)]; exact hI.f
      · show nw k < 32
        rw [lo k (by omega)]; exact hI.okT k hk
      · show nw 15 < 32
        rw [lo 15 (by decide)]; exact hI.fin
      · show cntT nw ≤ 15
        rw [cnt_eq (T := τ.2.1 0) (fun k hk => lo k (by omega))]; exact hI.c15
  · rcases h2 with ⟨d1, rfl, rfl, rfl, rfl⟩ | ⟨d1, d2, rfl, rfl, rfl, rfl⟩ | ⟨d1, d2, d3, rfl, rfl, rfl, rfl⟩ | ⟨d1, -⟩
    · exact ⟨rfl, fun q => absurd q n01, hI.1⟩
    · exact absurd d1 c1
    · exact absurd d1 c1
    · exact absurd d1 c1
  · rcases h2 with ⟨d1, rfl, rfl, rfl, rfl⟩ | ⟨d1, d2, rfl, rfl, rfl, rfl⟩ | ⟨d1, d2, d3, rfl, rfl, rfl, rfl⟩ | ⟨d1, d2, -⟩
    · exact absurd c1.1 d1
    · exact ⟨rfl, fun q => absurd q n02, hI.1⟩
    · exact absurd d2 c1.2
    · exact absurd d2 c1.2
  · have es := (hI.set s2 c1.1).1
    rw [es] at c1
    rcases h2 with ⟨d1, rfl, rfl, rfl, rfl⟩ | ⟨d1, d2, rfl, rfl, rfl, rfl⟩ | ⟨d1, d2, d3, rfl, rfl, rfl, rfl⟩ | ⟨d1, d2, d3, -⟩
    · exact absurd c1.1 d1
    · exact absurd c1.2.1 d2
    · exact ⟨rfl, fun q => absurd q n03, hI.1⟩
    · omega
theorem ps_A {s s2 ln k : Nat} (hs : s < 2) (h2 : s2 < 2) (hl : ln < 4) (hk : k < 5) : s * 21 ≠ s2 * 21 + 1 + ln * 5 + k := by
  rcases (by omega : s = 0 ∨ s = 1) with rfl | rfl <;> rcases (by omega : s2 = 0 ∨ s2 = 1) with rfl | rfl <;> omega
theorem ps_B {s s2 l ln j k : Nat} (hs : s < 2) (h2 : s2 < 2) (hl : l < 4) (hn : ln < 4) (hj : j < 5) (hk : k < 5) (h : ¬ (s = s2 ∧ l = ln) ∨ j ≠ k) : s * 21 + 1 + l * 5 + j ≠ s2 * 21 + 1 + ln * 5 + k := by
  rcases (by omega : s = 0 ∨ s = 1) with rfl | rfl <;> rcases (by omega : s2 = 0 ∨ s2 = 1) with rfl | rfl <;> rcases (by omega : l = 0 ∨ l = 1 ∨ l = 2 ∨ l = 3) with rfl | rfl | rfl | rfl <;> rcases (by omega : ln = 0 ∨ ln = 1 ∨ ln = 2 ∨ ln = 3) with rfl | rfl | rfl | rfl <;> omega
theorem up2 {f : Nat → Nat} {a b x y k : Nat} (h1 : k ≠ a) (h2 : k ≠ b) : va_up (va_up f a x) b y k = f k := (if_neg h2).trans (if_neg h1)
theorem tie_addPeriod {s2 ln x1 x2 x3 v : Nat} (hI : Inv σ τ) (h1 : RH_addPeriod σ s2 ln x1 x2 x3 ov dv r z) (h2 : RM_addPeriod τ s2 ln x1 x2 x3 v τ') : Tie r z τ' (nI v).toInt64 := by
  obtain ⟨r0, th, ch, nw, kp, rfl, h2, rfl⟩ := h2
  have hT := hI.t
  have eL : (s2 < 2 ∧ ln < σ.2.1 2 (s2 * 21)) ↔ (s2 < 2 ∧ ln < τ.2.1 0 (16 + s2)) := by
    constructor
    · rintro ⟨q1, q2⟩; exact ⟨q1, by rw [← (hI.set s2 q1).1]; exact q2⟩
    · rintro ⟨q1, q2⟩; exact ⟨q1, by rw [(hI.set s2 q1).1]; exact q2⟩
  have e0 : 100 * x1 + 10 * x2 + x3 = 0 ↔ x1 + x2 + x3 = 0 := by omega
  rcases h1 with ⟨rfl, c1, c2, c3, c4, rfl⟩ | ⟨rfl, c1, rfl⟩ | ⟨rfl, c1, rfl⟩ | ⟨rfl, c1, rfl⟩
  · rw [eL] at c1
    have es := ((hI.set s2 c1.1).2 ln c1.2).2.1
    rw [es] at c4
    have hm4 := hI.mm4 s2 c1.1
    rcases h2 with ⟨d1, rfl, rfl, rfl, rfl⟩ | ⟨d1, d2, rfl, rfl, rfl, rfl⟩ | ⟨d1, d2, d5, d3, rfl, rfl, rfl, rfl⟩ | ⟨d1, d2, d5, d3, rfl, d4, rfl, rfl, e1, e2, e3, e4, e6⟩
    · exact absurd c1 d1
    · rcases d2 with w | w
      · exact absurd c2 w
      · omega
    · omega
    · obtain ⟨N, eN⟩ : ∃ N, N = τ.2.1 0 (42 + (4 * s2 + ln)) := ⟨_, rfl⟩
      rw [es, ← eN]
      rw [← eN] at c4 e1 e2 e3 e4 e6 d3
      have lo : ∀ k, k < 42 → nw k = τ.2.1 0 k := fun k hk => e6 k (by omega) (by omega) (by omega) (by omega)
      have hS : OkS nw := by
        intro s hs
        obtain ⟨h1, h2⟩ := hI.okS s hs
        rw [lo (16 + s) (by omega)]
        refine ⟨h1, fun l hl => ?_⟩
        have hL := h2 l hl
        have h3 := hL.2.1
        unfold Ln
        rw [lo _ (by omega), lo _ (by omega), lo _ (by omega)]
        by_cases e : s = s2 ∧ l = ln
        · obtain ⟨ea, eb⟩ := e
          subst ea; subst eb
          rw [e1]
          refine ⟨hL.1, by omega, fun i hi => ?_⟩
          by_cases q : i = N
          · subst q
            rw [e2, e3, e4]
            exact ⟨c2.1, c2.2.1, c2.2.2, d5⟩
          · rw [e6 _ (by omega) (by omega) (by omega) (by omega), e6 _ (by omega) (by omega) (by omega) (by omega), e6 _ (by omega) (by omega) (by omega) (by omega)]
            exact hL.2.2 i (by omega)
        · have e42 : nw (42 + (4 * s + l)) = τ.2.1 0 (42 + (4 * s + l)) := e6 _ (by omega) (by omega) (by omega) (by omega)
          rw [e42]
          refine ⟨hL.1, h3, fun i hi => ?_⟩
          rw [e6 _ (by omega) (by omega) (by omega) (by omega), e6 _ (by omega) (by omega) (by omega) (by omega), e6 _ (by omega) (by omega) (by omega) (by omega)]
          exact hL.2.2 i hi
      have hln : ln < 4 := by have := c1.2; omega
      have hA2 : ∀ s, s < 2 → va_up (va_up (σ.2.1 2) (s2 * 21 + 1 + ln * 5 + 2 + N) (100 * x1 + 10 * x2 + x3)) (s2 * 21 + 1 + ln * 5 + 1) (N + 1) (s * 21) = σ.2.1 2 (s * 21) := fun s hs => up2 (fun q => ps_A (k := 2 + N) hs c1.1 hln (by omega) (by omega)) (ps_A hs c1.1 hln (by decide))
      have hB2 : ∀ s l j, s < 2 → l < 4 → j < 5 → (¬ (s = s2 ∧ l = ln) ∨ (j ≠ 2 + N ∧ j ≠ 1)) → va_up (va_up (σ.2.1 2) (s2 * 21 + 1 + ln * 5 + 2 + N) (100 * x1 + 10 * x2 + x3)) (s2 * 21 + 1 + ln * 5 + 1) (N + 1) (s * 21 + 1 + l * 5 + j) = σ.2.1 2 (s * 21 + 1 + l * 5 + j) := fun s l j hs hl hj h => up2 (fun q => ps_B (j := j) (k := 2 + N) hs c1.1 hl hln hj (by omega) (h.imp id (fun w => w.1)) (by omega)) (ps_B hs c1.1 hl hln hj (by decide) (h.imp id (fun w => w.2)))
      have hset : SetR (va_up (va_up (σ.2.1 2) (s2 * 21 + 1 + ln * 5 + 2 + N) (100 * x1 + 10 * x2 + x3)) (s2 * 21 + 1 + ln * 5 + 1) (N + 1)) nw := by
        intro s hs
        obtain ⟨h1, h2⟩ := hI.okS s hs
        obtain ⟨g1, g2⟩ := hI.set s hs
        rw [lo (16 + s) (by omega)]
        refine ⟨by rw [hA2 s hs]; exact g1, fun l hl => ?_⟩
        have h3 := (h2 l hl).2.1
        have hl4 : l < 4 := by omega
        obtain ⟨q1, q2, q3⟩ := g2 l hl
        rw [lo _ (by omega), lo _ (by omega), lo _ (by omega)]
        refine ⟨(hB2 s l 0 hs hl4 (by decide) (Or.inr ⟨by omega, by decide⟩)).trans q1, ?_⟩
        by_cases e : s = s2 ∧ l = ln
        · obtain ⟨ea, eb⟩ := e
          subst ea; subst eb
          rw [e1]
          refine ⟨if_pos rfl, fun i hi => ?_⟩
          by_cases q : i = N
          · subst q
            rw [e2, e3, e4]
            exact (if_neg (by omega)).trans (if_pos rfl)
          · rw [e6 _ (by omega) (by omega) (by omega) (by omega), e6 _ (by omega) (by omega) (by omega) (by omega), e6 _ (by omega) (by omega) (by omega) (by omega)]
            rw [Nat.add_assoc _ 2 i, hB2 s l (2 + i) hs hl4 (by omega) (Or.inr ⟨by omega, by omega⟩), ← Nat.add_assoc _ 2 i]
            exact q3 i (by omega)
        · have e42 : nw (42 + (4 * s + l)) = τ.2.1 0 (42 + (4 * s + l)) := e6 _ (by omega) (by omega) (by omega) (by omega)
          rw [e42]
          refine ⟨by rw [hB2 s l 1 hs hl4 (by decide) (Or.inl e)]; exact q2, fun i hi => ?_⟩
          rw [e6 _ (by omega) (by omega) (by omega) (by omega), e6 _ (by omega) (by omega) (by omega) (by omega), e6 _ (by omega) (by omega) (by omega) (by omega)]
          rw [Nat.add_assoc _ 2 i, hB2 s l (2 + i) hs hl4 (by omega) (Or.inl e), ← Nat.add_assoc _ 2 i]
          exact q3 i hi
      refine ⟨rfl, fun _ => rfl, chg_R hI rfl rfl (fun i => rfl) rfl d4 (fun k hk => ?_) ?_ ⟨fun k hk => ?_, ?_, hS, ?_⟩ hset (fun x hx m hm => hI.st x hx m hm) rfl hI.od rfl rfl hI.tx hI.wd⟩
      · show σ.2.1 0 k = nw k
        rw [lo k (by omega), hT]
      · show σ.1 0 = nw 15
        rw [lo 15 (by decide)]; exact hI.f
      · show nw k < 32
        rw [lo k (by omega)]; exact hI.okT k hk
      · show nw 15 < 32
        rw [lo 15 (by decide)]; exact hI.fin
      · show cntT nw ≤ 15
        rw [cnt_eq (T := τ.2.1 0) (fun k hk => lo k (by omega))]; exact hI.c15
  · rw [eL] at c1
    rcases h2 with ⟨d1, rfl, rfl, rfl, rfl⟩ | ⟨d1, d2, rfl, rfl, rfl, rfl⟩ | ⟨d1, d2, d5, d3, rfl, rfl, rfl, rfl⟩ | ⟨d1, -⟩
    · exact ⟨rfl, fun q => absurd q n01, hI.1⟩
    · exact absurd d1 c1
    · exact absurd d1 c1
    · exact absurd d1 c1
  · rw [eL, e0] at c1
    rcases h2 with ⟨d1, rfl, rfl, rfl, rfl⟩ | ⟨d1, d2, rfl, rfl, rfl, rfl⟩ | ⟨d1, d2, d5, d3, rfl, rfl, rfl, rfl⟩ | ⟨d1, d2, d5, -⟩
    · exact absurd c1.1 d1
    · exact ⟨rfl, fun q => absurd q n02, hI.1⟩
    · rcases c1.2 with w | w
      · exact absurd d2 w
      · exact absurd w d5
    · rcases c1.2 with w | w
      · exact absurd d2 w
      · exact absurd w d5
  · obtain ⟨c1, c2, c3, c4⟩ := c1
    rw [eL] at c1
    have es := ((hI.set s2 c1.1).2 ln c1.2).2.1
    rw [es] at c4
    rcases h2 with ⟨d1, rfl, rfl, rfl, rfl⟩ | ⟨d1, d2, rfl, rfl, rfl, rfl⟩ | ⟨d1, d2, d5, d3, rfl, rfl, rfl, rfl⟩ | ⟨d1, d2, d5, d3, -⟩
    · exact absurd c1 d1
    · rcases d2 with w | w
      · exact absurd c2 w
      · omega
    · exact ⟨rfl, fun q => absurd q n03, hI.1⟩
    · omega
/-- what is taken back from a row -/
theorem back_R {row nw nw2 c T : Nat → Nat} (h : SnR row nw) (he : ∀ k, k < 122 → nw2 k = nw k) : (∀ k, k < 15 → va_cpy row T 0 0 15 k = nw2 k) ∧ row 15 = nw2 15 ∧ SetR (va_cpy row c 16 0 42) nw2 ∧ OkN nw2 := by
  have h2 := h.cong (fun _ _ => rfl) (fun k hk => (he k hk).symm)
  refine ⟨fun k hk => by rw [cpy0 k hk]; exact h2.1 k hk, h2.2.1, h2.2.2.1.hi h2.2.2.2.2.2.1 (fun _ _ _ => rfl) (fun k hk => ?_), h2.2.2.2⟩
  unfold va_cpy
  rw [if_pos (by omega), Nat.sub_zero]
theorem tie_undo {v : Nat} (hI : Inv σ τ) (h1 : RH_undo σ ov dv r z) (h2 : RM_undo τ v τ') : Tie r z τ' (nI v).toInt64 := by
  obtain ⟨r0, th, ch, nw, rfl, h2, rfl⟩ := h2
  obtain ⟨m1, m2, m3, m4⟩ := hI.mm
  rcases h1 with ⟨f1, rfl, c1, c2, rfl⟩ | ⟨rfl, c1, rfl⟩ <;> rcases h2 with ⟨d1, rfl, rfl, rfl⟩ | ⟨d1, rfl, rfl, d3, rfl⟩
  · omega
  · have hb := m4 0 c1
    rw [show (σ.1 9 + 7 - 0) % 8 = (σ.1 9 + 7) % 8 by omega] at hb
    obtain ⟨b1, b2, b3, b4⟩ := back_R (nw2 := nw) (c := σ.2.1 2) (T := σ.2.1 0) hb (fun k hk => by rw [d3 k hk, m3, Nat.sub_zero])
    refine ⟨rfl, fun _ => ?_, ⟨b1, b2, b3, b4⟩, c2, ⟨?_, ?_, ?_, fun j hj => ?_⟩, hI.sv, hI.tx, hI.wd, od0 hI.od rfl rfl⟩
    · show (nI (σ.1 10 - 1)).toInt64 = (nI (τ.1 1 - 1)).toInt64
      rw [m3]
    · show (σ.1 9 + 7) % 8 < 8
      omega
    · show σ.1 10 - 1 ≤ 8
      omega
    · show τ.1 1 - 1 = σ.1 10 - 1
      rw [m3]
    · have hj : j < σ.1 10 - 1 := hj
      show SnR (σ.2.2 (2 + ((σ.1 9 + 7) % 8 + 7 - j) % 8)) (fun k => τ.2.1 2 ((σ.1 10 - 1 - 1 - j) * 122 + k))
      have h := m4 (j + 1) (by omega)
      rw [show (σ.1 9 + 7 - (j + 1)) % 8 = ((σ.1 9 + 7) % 8 + 7 - j) % 8 by omega, show σ.1 10 - 1 - (j + 1) = σ.1 10 - 1 - 1 - j by omega] at h
      exact h
  · exact ⟨rfl, fun q => absurd q n01, hI.1⟩
  · omega
theorem tie_restore (hI : Inv σ τ) (h1 : RH_restore σ ov dv r z) (h2 : RM_restore τ τ') : r = nI (τ'.1 0) ∧ InvW z.1 τ' := by
  obtain ⟨th, ch, nw, kp, h2, rfl⟩ := h2
  obtain ⟨s1, s2, s3⟩ := hI.sv
  rcases h1 with ⟨f1, rfl, c1, c2, rfl⟩ | ⟨rfl, c1, rfl⟩ <;> rcases h2 with ⟨d1, rfl, rfl, rfl, rfl⟩ | ⟨d1, rfl, d4, rfl, d5⟩
  · omega
  · obtain ⟨b1, b2, b3, b4⟩ := back_R (nw2 := nw) (c := σ.2.1 2) (T := σ.2.1 0) (s3 c1) (fun k hk => d5 k hk)
    exact ⟨rfl, chg_R hI rfl rfl (fun i => rfl) rfl d4 b1 b2 b4 b3 c2 rfl (od0 hI.od rfl rfl) rfl rfl hI.tx hI.wd⟩
  · exact ⟨rfl, hI.1⟩
  · omega
variable {σ' : SS}
theorem tie_clearAutomaton (hI : Inv σ τ) (h1 : RC_clearAutomaton σ σ') (h2 : RM_clearAutomaton τ τ') : InvW σ' τ' := by
  obtain ⟨f0, f1, c1, c2, rfl⟩ := h1
  obtain ⟨ch, nw, kp, d1, rfl, d2, d3, rfl⟩ := h2
  refine chg_R hI rfl rfl (fun i => rfl) rfl d1 (fun k hk => ?_) ?_ ⟨fun k hk => ?_, ?_, hI.okS.hi (fun k h _ => (d3 k h).symm), ?_⟩ (hiSet hI (fun k h _ => (d3 k h).symm) (fun _ _ => rfl)) c2 rfl (od0 hI.od rfl rfl) rfl rfl hI.tx hI.wd
  · show f0 k = nw k
    rw [c1 k hk, d2 k (by omega)]
  · show 0 = nw 15
    rw [d2 15 (by decide)]
  · show nw k < 32
    rw [d2 k (by omega)]; decide
  · show nw 15 < 32
    rw [d2 15 (by decide)]; decide
  · show cntT nw ≤ 15
    rw [cnt_eq (T := fun _ => 0) (fun k hk => d2 k (by omega))]; decide
theorem tie_clearWord {v v2 : Nat} (hI : Inv σ τ) (h1 : RC_clearWord σ v σ') (h2 : RM_clearWord τ v2 τ') : v = v2 ∧ v < 2147483648 ∧ InvW σ' τ' := by
  obtain ⟨rfl, rfl⟩ := h1
  obtain ⟨rfl, rfl⟩ := h2
  have h8 := hI.w8
  exact ⟨hI.wd.1, by omega, hI.lv, hI.st, hI.mm, hI.sv, hI.tx, wd_new (n := 0) rfl rfl rfl rfl (by decide) (fun i hi => absurd hi (Nat.not_lt_zero _)), od0 hI.od rfl rfl⟩
theorem rn_w {T w w2 : Nat → Nat} : ∀ n q, (∀ i, i < n → w i = w2 i) → rn T w n q = rn T w2 n q
  | 0, _, _ => rfl
  | n + 1, q, h => by
    rw [rn, rn]
    exact fb_sm_cong (fun p _ => by rw [h n (by omega), rn_w n p (fun i hi => h i (by omega))])
theorem tie_runCount {v v2 : Nat} (hI : Inv σ τ) (h1 : RC_runCount σ v σ') (h2 : RM_runCount τ v2 τ') : v = v2 ∧ InvW σ' τ' := by
  obtain ⟨f, g1, rfl, rfl⟩ := h1
  obtain ⟨l0, l1, rfl, rfl⟩ := h2
  refine ⟨fb_sm_cong (fun q _ => ?_), hI.lv, hI.st, mmL (σ := σ) (l0 := f) (l1 := g1) hI.mm, svL (σ := σ) (l0 := f) (l1 := g1) hI.sv, hI.tx, hI.wd, hI.od⟩
  rw [hI.t, hI.f, hI.wd.1, rn_w _ _ hI.weq]
  by_cases w : Nat.testBit (τ.2.1 0 15) q = true
  · rw [if_pos (bit_fin.mpr w), if_pos w]
  · rw [if_neg (fun y => w (bit_fin.mp y)), if_neg w]
theorem tie_acceptedArrangements {v v2 : Nat} (hI : Inv σ τ) (h1 : RC_acceptedArrangements σ v σ') (h2 : RM_acceptedArrangements τ v2 τ') : v = v2 ∧ InvW σ' τ' := by
  obtain ⟨b, lt2, lf2, sn2, rfl, rfl⟩ := h1
  obtain ⟨rl, fo, ot, lf, rfl, rfl⟩ := h2
  refine ⟨?_, hI.1⟩
  rw [hI.t, hI.f, hI.wd.1, cnt_weq hI]
theorem tie_minimalCount {v v2 : Nat} (hI : Inv σ τ) (h1 : RC_minimalCount σ v σ') (h2 : RM_minimalCount τ v2 τ') : v = v2 ∧ v < 2147483648 ∧ InvW σ' τ' := by
  obtain ⟨n6, f15, f17, rfl, c1, c2, rfl⟩ := h1
  obtain ⟨f7, f13, rfl, d1, rfl⟩ := h2
  have h56 := c1.1
  exact ⟨(fd_ct c1 (mn_fd hI c1 c2 d1)).symm, by omega, hI.1⟩
theorem tie_cycleCount {v v2 : Nat} (hI : Inv σ τ) (h1 : RC_cycleCount σ v σ') (h2 : RM_cycleCount τ v2 τ') : v = v2 ∧ v < 2147483648 ∧ InvW σ' τ' := by
  obtain ⟨n7, s8, f18, rfl, c1, c2, c3, rfl⟩ := h1
  obtain ⟨us, f13, rfl, d1, d2, rfl⟩ := h2
  have h56 := c1.1
  exact ⟨(fd_ct c1 (cy_fd hI c1 c2 d1 d2)).symm, by omega, hI.lv, hI.st, hI.mm, hI.sv, hI.tx, hI.wd, hI.od.1, hI.od.2.1, c3⟩
theorem tie_save (hI : Inv σ τ) (h1 : RC_save σ σ') (h2 : RM_save τ τ') : InvW σ' τ' := by
  have h1 : σ' = _ := h1
  subst h1
  obtain ⟨v, sv, rfl, d1, rfl⟩ := h2
  obtain ⟨m1, m2, m3, m4⟩ := hI.mm
  refine ⟨hI.lv, hI.st, ⟨m1, m2, m3, fun j hj => ?_⟩, ⟨by show (1 : Nat) < 2; decide, rfl, fun _ => ?_⟩, hI.tx, hI.wd, hI.od⟩
  · show SnR (va_up σ.2.2 10 _ (2 + (σ.1 9 + 7 - j) % 8)) _
    rw [va_up, if_neg (by omega)]
    exact m4 j hj
  · show SnR (va_up σ.2.2 10 (snp σ (σ.2.2 10)) 10) sv
    rw [show va_up σ.2.2 10 (snp σ (σ.2.2 10)) 10 = snp σ (σ.2.2 10) from if_pos rfl]
    exact (snp_R hI.lv).cong (fun _ _ => rfl) (fun k hk => (d1 k hk).symm)
theorem tie_useful (hI : Inv σ τ) : frm (σ.2.1 0) 4 &&& twd (σ.2.1 0) (σ.1 0) 4 = fR (τ.2.1 0) 5 &&& bR (τ.2.1 0) (τ.2.1 0 15) 5 := by
  rw [hI.t, hI.f, useful_eq hI.okT hI.fin]
end TIES3
