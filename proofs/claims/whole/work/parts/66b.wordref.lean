/-! ===== arrangements, as the reference counts them ===== -/
abbrev arS (T : Nat → Nat) (fin k : Nat) (lf : Nat → Nat) (st x : Nat) : Nat := fb_sm (arrB T fin k lf st) x
def ArI (T : Nat → Nat) (fin k : Nat) (lf : Nat → Nat) (st R x rl z fo d : Nat) (ot : Nat → Nat) : Prop :=
  (fo = 0 ∧ arS T fin k lf st x ≤ R ∧ rl = R - arS T fin k lf st x ∧ z = arS T fin k lf st x) ∨ (fo = 1 ∧ R < arrN T fin (k + 1) lf st ∧ isArr T fin (k + 1) lf st R (fun i => ot (d + i)))
theorem ari_no {T : Nat → Nat} {fin k st R x rl z fo d : Nat} {lf ot : Nat → Nat} (h : ArI T fin k lf st R x rl z fo d ot) (hf : fo = 0) (h0 : lf x = 0) : ArI T fin k lf st R (x + 1) rl z fo d ot := by
  have h1 := h.resolve_right (fun q => by have := q.1; omega)
  have e : arS T fin k lf st (x + 1) = arS T fin k lf st x := by
    show fb_sm _ (x + 1) = _
    rw [fb_sm_succ]
    have : arrB T fin k lf st x = 0 := if_neg (by omega)
    rw [this, Nat.add_zero]
  unfold ArI
  rw [e]
  exact Or.inl h1
theorem ari_call {T : Nat → Nat} {fin k st R x rl z fo d r2 rl2 fo2 : Nat} {lf lf1 ot ot2 : Nat → Nat} (h : ArI T fin k lf st R x rl z fo d ot) (hf : fo = 0) (hx : x < 3) (h0 : lf1 x ≠ 0) (h3 : ∀ y, y < 3 → lf1 y = lf y) (hd : ot2 d = x)
    (hc : (rl < arrN T fin k (va_up lf1 x (lf1 x - 1)) (stp T x st) ∧ fo2 = 1 ∧ isArr T fin k (va_up lf1 x (lf1 x - 1)) (stp T x st) rl (fun i => ot2 (d + 1 + i))) ∨ (¬ rl < arrN T fin k (va_up lf1 x (lf1 x - 1)) (stp T x st) ∧ fo2 = 0 ∧ rl2 = rl - arrN T fin k (va_up lf1 x (lf1 x - 1)) (stp T x st) ∧ r2 = arrN T fin k (va_up lf1 x (lf1 x - 1)) (stp T x st))) : ArI T fin k lf st R (x + 1) rl2 (z + r2) fo2 d ot2 := by
  obtain ⟨-, g1, g2, g3⟩ := h.resolve_right (fun q => by have := q.1; omega)
  have h0' : 0 < lf x := by rw [← h3 x hx]; omega
  have eN : arrN T fin k (va_up lf1 x (lf1 x - 1)) (stp T x st) = arrN T fin k (va_up lf x (lf x - 1)) (stp T x st) := arrN_cong T fin k _ _ _ (ar_vu h3 hx)
  have eB : arrB T fin k lf st x = arrN T fin k (va_up lf x (lf x - 1)) (stp T x st) := if_pos h0'
  have eS : arS T fin k lf st (x + 1) = arS T fin k lf st x + arrN T fin k (va_up lf x (lf x - 1)) (stp T x st) := by
    show fb_sm _ (x + 1) = _
    rw [fb_sm_succ, eB]
  rw [eN] at hc
  rcases hc with ⟨c1, c2, c3⟩ | ⟨c1, c2, c3, c4⟩
  · right
    have hp := fb_sm_part (arrB T fin k lf st) hx
    have hlt : R < arrN T fin (k + 1) lf st := by
      show R < fb_sm (arrB T fin k lf st) 3
      rw [eB] at hp
      have : arS T fin k lf st x = fb_sm (arrB T fin k lf st) x := rfl
      omega
    refine ⟨c2, hlt, x, hx, h0', g1, ?_, hd, ?_⟩
    · show R < arS T fin k lf st (x + 1); rw [eS]; omega
    · have e2 : R - fb_sm (arrB T fin k lf st) x = rl := g2.symm
      rw [e2]
      exact isArr_cong T fin k _ _ _ _ _ _ (ar_vu h3 hx) (fun i _ => by show ot2 (d + 1 + i) = ot2 (d + (i + 1)); rw [show d + 1 + i = d + (i + 1) by omega]) c3
  · left
    rw [eS]
    exact ⟨c2, by omega, by omega, by omega⟩
theorem ari_end {T : Nat → Nat} {fin k st R x rl z fo d K : Nat} {lf ot : Nat → Nat} (h : ArI T fin k lf st R x rl z fo d ot) (eK : K = k + 1) (hx : x = 3 ∨ fo ≠ 0) :
    (R < arrN T fin K lf st ∧ fo = 1 ∧ isArr T fin K lf st R (fun i => ot (d + i))) ∨ (¬ R < arrN T fin K lf st ∧ fo = 0 ∧ rl = R - arrN T fin K lf st ∧ z = arrN T fin K lf st) := by
  subst eK
  rcases h with ⟨g0, g1, g2, g3⟩ | ⟨g0, g1, g2⟩
  · have e : x = 3 := hx.resolve_right (fun q => q g0)
    subst e
    have e2 : arrN T fin (k + 1) lf st = arS T fin k lf st 3 := rfl
    rw [e2]
    exact Or.inr ⟨by omega, g0, g2, g3⟩
  · exact Or.inl ⟨g1, g0, g2⟩
theorem ari_0 {T : Nat → Nat} {fin k st R d : Nat} {lf ot : Nat → Nat} : ArI T fin k lf st R 0 R 0 0 d ot := Or.inl ⟨rfl, Nat.zero_le _, rfl, rfl⟩
/-- the runs, a row more -/
def RnI (T w : Nat → Nat) (i q t0 : Nat) (f : Nat → Nat) : Prop := ∀ t, t < 5 → f t = fb_sm (fun p => if (T (p * 3 + w i)).testBit t = true then rn T w i p else 0) (if t < t0 then q + 1 else q)
theorem rni_y {T w f : Nat → Nat} {i q t0 v : Nat} (h : RnI T w i q t0 f) (ht : t0 < 5) (hb : (T (q * 3 + w i)).testBit t0 = true) (hv : v = rn T w i q) : RnI T w i q (t0 + 1) (va_up f t0 (f t0 + v)) := by
  intro t hlt
  unfold va_up
  split
  · rename_i e; subst e
    rw [if_pos (Nat.lt_succ_self _), fb_sm_succ, if_pos hb, h t hlt, if_neg (Nat.lt_irrefl _), hv]
  · rename_i e
    rw [h t hlt]
    by_cases z : t < t0
    · rw [if_pos z, if_pos (by omega)]
    · rw [if_neg z, if_neg (by omega)]
theorem rni_n {T w f : Nat → Nat} {i q t0 : Nat} (h : RnI T w i q t0 f) (ht : t0 < 5) (hb : ¬ (T (q * 3 + w i)).testBit t0 = true) : RnI T w i q (t0 + 1) f := by
  intro t hlt
  by_cases e : t = t0
  · subst e
    rw [if_pos (Nat.lt_succ_self _), fb_sm_succ, if_neg hb, h t hlt, if_neg (Nat.lt_irrefl _), Nat.add_zero]
  · rw [h t hlt]
    by_cases z : t < t0
    · rw [if_pos z, if_pos (by omega)]
    · rw [if_neg z, if_neg (by omega)]
theorem rni_q {T w f : Nat → Nat} {i q t0 : Nat} (h : RnI T w i q t0 f) (ht : 5 ≤ t0) : RnI T w i (q + 1) 0 f := by
  intro t hlt
  rw [h t hlt, if_pos (by omega), if_neg (by omega)]
theorem rni_end {T w f : Nat → Nat} {i q : Nat} (h : RnI T w i q 0 f) (hq : q = 5) : ∀ t, t < 5 → f t = rn T w (i + 1) t := by
  intro t ht
  rw [h t ht, if_neg (by omega), hq]; rfl
