/-! ===== class and reference answer alike ===== -/
def Tie (r : Int32) (z : HZ) (τ' : SS) (X : Int64) : Prop := r = nI (τ'.1 0) ∧ (r = nI 0 → z.2.1 0 = X) ∧ InvW z.1 τ'
def TieZ (r : Int32) (z : HZ) (τ' : SS) (v : Nat) : Prop := r = nI (τ'.1 0) ∧ (r = nI 0 → v < 2 ∧ z.2.1 0 = if v ≠ 0 then 1 else 0) ∧ InvW z.1 τ'
theorem n01 : ¬ (nI 1 = nI 0) := by decide
theorem n02 : ¬ (nI 2 = nI 0) := by decide
theorem n03 : ¬ (nI 3 = nI 0) := by decide
theorem if_z {P : Prop} [Decidable P] {v : Nat} (h : v = if P then 1 else 0) : v < 2 ∧ (if P then 1 else 0 : Int64) = if v ≠ 0 then 1 else 0 := by
  by_cases p : P
  · rw [if_pos p] at h; rw [h, if_pos p]; exact ⟨by decide, by decide⟩
  · rw [if_neg p] at h; rw [h, if_neg p]; exact ⟨by decide, by decide⟩
theorem chg_R {σ τ σ2 τ2 : SS} {old : Nat → Nat} (hI : Inv σ τ) (h9 : σ2.1 9 = (σ.1 9 + 1) % 8) (h10 : σ2.1 10 = min (σ.1 10 + 1) 8) (hR : ∀ i, σ2.2.2 i = if i = 2 + σ.1 9 then snp σ old else σ.2.2 i) (hc : τ2.1 1 = min (τ.1 1 + 1) 8) (hk : KpO (τ.2.1 2) (τ.2.1 0) (τ.1 1) (τ2.2.1 2))
    (hT : ∀ k, k < 15 → σ2.2.1 0 k = τ2.2.1 0 k) (hF : σ2.1 0 = τ2.2.1 0 15) (hN : OkN (τ2.2.1 0)) (hset : SetR (σ2.2.1 2) (τ2.2.1 0)) (hst : StR σ2) (h11 : σ2.1 11 = σ.1 11) (hod : OrR σ2) (ht2 : τ2.1 2 = τ.1 2) (ht1 : τ2.2.1 1 = τ.2.1 1) (hx : TxR σ2 τ2) (hw : WdR σ2 τ2) : InvW σ2 τ2 :=
  ⟨⟨hT, hF, hset, hN⟩, hst, push_R hI.lv hI.mm h9 h10 hR hc hk, sv_push hI.mm hI.sv h11 hR ht2 ht1, hx, hw, hod⟩
theorem od0 {σ σ2 : SS} (h : OrR σ) (h21 : σ2.1 21 = 0) (h8 : σ2.1 8 = σ.1 8) : OrR σ2 := ⟨by rw [h21]; decide, fun q => (by rw [h21] at q; exact absurd q (by decide)), by rw [h8]; exact h.2.2⟩
theorem hiSet {σ τ : SS} {c nw : Nat → Nat} (hI : Inv σ τ) (h : ∀ k, 16 ≤ k → k < 122 → τ.2.1 0 k = nw k) (hc : ∀ k, k < 42 → σ.2.1 2 k = c k) : SetR c nw := hI.set.hi hI.okS h hc
theorem tie_appendCharacter {σ τ τ' : SS} {x v : Nat} {ov : Nat → Int64} {dv : Nat → UInt64} {r : Int32} {z : HZ} (hI : Inv σ τ) (h1 : RH_appendCharacter σ x ov dv r z) (h2 : RM_appendCharacter τ x v τ') : Tie r z τ' (nI v).toInt64 := by
  obtain ⟨r0, th, n, f, rfl, h2, rfl⟩ := h2
  have e := hI.tx
  have e1 := e.1
  rcases h1 with ⟨rfl, c1, c2, rfl⟩ | ⟨rfl, c1, rfl⟩ | ⟨rfl, c1, rfl⟩
  · rcases h2 with ⟨d1, rfl, rfl, rfl⟩ | ⟨d1, d2, rfl, rfl, rfl⟩ | ⟨d1, d2, rfl, rfl, rfl, rfl⟩
    · exact absurd c1 d1
    · omega
    · refine ⟨rfl, fun _ => ?_, hI.lv, hI.st, hI.mm, hI.sv, ⟨?_, ?_, ?_, fun k hk => ?_, e.2.2.2.2.1, e.2.2.2.2.2⟩, hI.wd, hI.od⟩
      · show (nI (σ.1 1 + 1)).toInt64 = (nI (τ.1 3 + 1)).toInt64
        rw [e1]
      · show σ.1 1 + 1 = τ.1 3 + 1
        rw [e1]
      · show σ.1 1 + 1 ≤ 40
        omega
      · show va_up (σ.2.1 12) (σ.1 1) x = va_up (τ.2.1 3) (τ.1 3) x
        rw [e1, e.2.2.1]
      · have hk : k < σ.1 1 + 1 := hk
        show 33 ≤ va_up (σ.2.1 12) (σ.1 1) x k ∧ va_up (σ.2.1 12) (σ.1 1) x k < 127
        unfold va_up
        split
        · exact c1
        · exact e.2.2.2.1 k (by omega)
  · rcases h2 with ⟨d1, rfl, rfl, rfl⟩ | ⟨d1, d2, rfl, rfl, rfl⟩ | ⟨d1, d2, rfl, rfl, rfl, rfl⟩
    · exact ⟨rfl, fun q => absurd q n01, hI.1⟩
    · exact absurd d1 c1
    · exact absurd d1 c1
  · rcases h2 with ⟨d1, rfl, rfl, rfl⟩ | ⟨d1, d2, rfl, rfl, rfl⟩ | ⟨d1, d2, rfl, rfl, rfl, rfl⟩
    · exact absurd c1.1 d1
    · exact ⟨rfl, fun q => absurd q n02, hI.1⟩
    · omega
theorem tie_addText {σ τ τ' : SS} {v : Nat} {ov : Nat → Int64} {dv : Nat → UInt64} {r : Int32} {z : HZ} (hI : Inv σ τ) (h1 : RH_addText σ ov dv r z) (h2 : RM_addText τ v τ') : Tie r z τ' (nI v).toInt64 := by
  obtain ⟨r0, th, ch, n2, at2, fl2, nw, kp, f4, rfl, rfl, rfl, h2, rfl⟩ := h2
  have e := hI.tx
  have e1 := e.1
  have e2 := e.2.2.1
  have hT := hI.t
  have hfl : fltC (τ.2.1 3) (τ.1 3) < 4294967296 := by
    have := fltC_cases (τ.2.1 3) (τ.1 3)
    have := hI.mtx
    omega
  have hx : ∀ σ2 τ2 : SS, σ2.1 1 = 0 → τ2.1 3 = 0 → σ2.2.1 12 = σ.2.1 12 → τ2.2.1 3 = τ.2.1 3 → σ2.1 2 = fltC (σ.2.1 12) (σ.1 1) → τ2.1 5 = fltC (τ.2.1 3) (τ.1 3) → TxR σ2 τ2 := by
    intro σ2 τ2 g1 g2 g3 g4 g5 g6
    exact ⟨by rw [g1, g2], by rw [g1]; decide, by rw [g3, g4]; exact e2, fun k hk => by rw [g1] at hk; exact absurd hk (Nat.not_lt_zero _), by rw [g5, g6, e1, e2], by rw [g5, e1, e2]; exact hfl⟩
  rcases h1 with ⟨v3, f13, f0, f1, rfl, c1, c2, c3, c4, c5, rfl⟩ | ⟨v3, f13, rfl, c1, rfl⟩ | ⟨v3, f13, rfl, c1, rfl⟩
  · have es : fb_sm (fun k => pop (σ.2.1 0 k ||| f13 k)) 15 = fb_sm (fun k => pop (τ.2.1 0 k ||| (gi (τ.2.1 3) (τ.1 3)).1 k)) 15 := fb_sm_cong (fun k hk => by rw [c2.1 k hk, hT, e1, e2])
    rw [e1, e2] at c1
    rcases h2 with ⟨d1, rfl, rfl, rfl, rfl⟩ | ⟨d1, d2, rfl, rfl, rfl, rfl⟩ | ⟨d1, d2, rfl, d4, rfl, d6, d7, d8, rfl⟩
    · exact absurd c1 d1
    · omega
    · have gl := gi_lt (τ.2.1 3) (τ.1 3)
      have hok : OkT nw := fun k hk => by rw [d6 k hk]; exact or32 (hI.okT k hk) (gl.1 k)
      refine ⟨rfl, fun _ => ?_, chg_R hI rfl rfl (fun i => rfl) rfl d4 (fun k hk => ?_) ?_ ⟨hok, ?_, hI.okS.hi (fun k h _ => (d8 k h).symm), ?_⟩ (hiSet hI (fun k h _ => (d8 k h).symm) (fun _ _ => rfl)) c5 rfl (od0 hI.od rfl rfl) rfl rfl (hx _ _ rfl rfl rfl rfl rfl rfl) hI.wd⟩
      · show (nI (cntT f0)).toInt64 = (nI (fb_sm (fun k => pop (τ.2.1 0 k ||| (gi (τ.2.1 3) (τ.1 3)).1 k)) 15)).toInt64
        rw [← es]
        unfold cntT
        rw [fb_sm_cong (fun k hk => by rw [c4 k hk])]
      · show f0 k = nw k
        rw [c4 k hk, d6 k hk, c2.1 k hk, hT, e1, e2]
      · show σ.1 0 ||| v3 = nw 15
        rw [d7, hI.f, c2.2, e1, e2]
      · show nw 15 < 32
        rw [d7]; exact or32 hI.fin gl.2
      · show fb_sm (fun k => pop (nw k)) 15 ≤ 15
        rw [fb_sm_cong (fun k hk => by rw [d6 k hk])]; omega
  · rw [e1, e2] at c1
    rcases h2 with ⟨d1, rfl, rfl, rfl, rfl⟩ | ⟨d1, d2, rfl, rfl, rfl, rfl⟩ | ⟨d1, d2, rfl, d4, rfl, d6, d7, d8, rfl⟩
    · exact ⟨rfl, fun q => absurd q n01, hI.lv, hI.st, hI.mm, hI.sv, hx _ _ rfl rfl rfl rfl rfl rfl, hI.wd, hI.od⟩
    · exact absurd d1 c1
    · exact absurd d1 c1
  · obtain ⟨c1, c2, c3⟩ := c1
    have es : fb_sm (fun k => pop (σ.2.1 0 k ||| f13 k)) 15 = fb_sm (fun k => pop (τ.2.1 0 k ||| (gi (τ.2.1 3) (τ.1 3)).1 k)) 15 := fb_sm_cong (fun k hk => by rw [c2.1 k hk, hT, e1, e2])
    rw [e1, e2] at c1
    rcases h2 with ⟨d1, rfl, rfl, rfl, rfl⟩ | ⟨d1, d2, rfl, rfl, rfl, rfl⟩ | ⟨d1, d2, rfl, d4, rfl, d6, d7, d8, rfl⟩
    · exact absurd c1 d1
    · exact ⟨rfl, fun q => absurd q n02, hI.lv, hI.st, hI.mm, hI.sv, hx _ _ rfl rfl rfl rfl rfl rfl, hI.wd, hI.od⟩
    · omega
theorem tie_addTransition {σ τ τ' : SS} {a b c2 v : Nat} {ov : Nat → Int64} {dv : Nat → UInt64} {r : Int32} {z : HZ} (hI : Inv σ τ) (h1 : RH_addTransition σ a b c2 ov dv r z) (h2 : RM_addTransition τ a b c2 v τ') : TieZ r z τ' v := by
  obtain ⟨r0, th, ch, nw, kp, rfl, h2, rfl⟩ := h2
  have hT := hI.t
  rcases h1 with ⟨f1, rfl, c1, c3, c4, rfl⟩ | ⟨rfl, c1, rfl⟩ | ⟨rfl, c1, rfl⟩
  · rcases h2 with ⟨d1, rfl, rfl, rfl, rfl⟩ | ⟨d1, d2, d3, rfl, rfl, rfl, rfl⟩ | ⟨d1, d2, rfl, d4, rfl, rfl, rfl⟩
    · exact absurd c1 d1
    · rw [hT] at c3
      rcases c3 with w | w
      · exact absurd w d2
      · omega
    · have hlt : τ.2.1 0 (3 * a + b) < 32 := hI.okT _ (by omega)
      refine ⟨rfl, fun _ => ?_, chg_R hI rfl rfl (fun i => rfl) rfl d4 (fun k hk => ?_) ?_ ⟨okT_put hI.okT (by omega) c1.2.2, ?_, hI.okS.hi (fun k h _ => ?_), ?_⟩ (hiSet hI (fun k h _ => ?_) (fun _ _ => rfl)) c4 rfl (od0 hI.od rfl rfl) rfl rfl hI.tx hI.wd⟩
      · have e := if_z (P := ¬ Nat.testBit (τ.2.1 0 (a * 3 + b)) c2 = true) rfl
        refine ⟨e.1, ?_⟩
        rw [← e.2]
        show (if ¬ Nat.testBit (σ.2.1 0 (a * 3 + b)) c2 = true then 1 else 0 : Int64) = _
        rw [hT]
      · show va_up (σ.2.1 0) (a * 3 + b) _ k = va_up (τ.2.1 0) (3 * a + b) _ k
        rw [hT, Nat.mul_comm a 3]
      · show σ.1 0 = va_up (τ.2.1 0) (3 * a + b) _ 15
        rw [va_up, if_neg (by omega)]; exact hI.f
      · show va_up (τ.2.1 0) (3 * a + b) _ 15 < 32
        rw [va_up, if_neg (by omega)]; exact hI.fin
      · show τ.2.1 0 k = va_up (τ.2.1 0) (3 * a + b) _ k
        rw [va_up, if_neg (by omega)]
      · show cntT (va_up (τ.2.1 0) (3 * a + b) (τ.2.1 0 (3 * a + b) ||| 2 ^ c2)) ≤ 15
        have e := cnt_up (T := τ.2.1 0) (v := τ.2.1 0 (3 * a + b) ||| 2 ^ c2) (show 3 * a + b < 15 by omega)
        have p := pop_or1 _ hlt c2 c1.2.2
        have h15 := hI.c15
        rcases d2 with w | w
        · rw [Nat.mul_comm a 3] at w
          rw [p.2 w] at e ⊢; omega
        · omega
      · show τ.2.1 0 k = va_up (τ.2.1 0) (3 * a + b) _ k
        rw [va_up, if_neg (by omega)]
  · rcases h2 with ⟨d1, rfl, rfl, rfl, rfl⟩ | ⟨d1, d2, d3, rfl, rfl, rfl, rfl⟩ | ⟨d1, d2, rfl, d4, rfl, rfl, rfl⟩
    · exact ⟨rfl, fun q => absurd q n01, hI.1⟩
    · exact absurd d1 c1
    · exact absurd d1 c1
  · rw [hT] at c1
    have hcl := cntT_le hI.okT
    rcases h2 with ⟨d1, rfl, rfl, rfl, rfl⟩ | ⟨d1, d2, d3, rfl, rfl, rfl, rfl⟩ | ⟨d1, d2, rfl, d4, rfl, rfl, rfl⟩
    · exact absurd c1.1 d1
    · exact ⟨rfl, fun q => absurd q n02, hI.1⟩
    · exfalso
      rcases d2 with w | w
      · exact c1.2.1 w
      · have := hI.c15; omega
theorem tie_removeTransition {σ τ τ' : SS} {a b c2 : Nat} {ov : Nat → Int64} {dv : Nat → UInt64} {r : Int32} {z : HZ} (hI : Inv σ τ) (h1 : RH_removeTransition σ a b c2 ov dv r z) (h2 : RM_removeTransition τ a b c2 τ') : r = nI (τ'.1 0) ∧ InvW z.1 τ' := by
  obtain ⟨th, ch, nw, kp, h2, rfl⟩ := h2
  have hT := hI.t
  rcases h1 with ⟨f1, rfl, c1, c3, c4, rfl⟩ | ⟨rfl, c1, rfl⟩ | ⟨rfl, c1, rfl⟩
  · rcases h2 with ⟨d1, rfl, rfl, rfl, rfl⟩ | ⟨d1, d2, rfl, rfl, rfl, rfl⟩ | ⟨d1, d2, rfl, d4, rfl, rfl⟩
    · exact absurd c1 d1
    · rw [hT] at c3; exact absurd c3 d2
    · refine ⟨rfl, chg_R hI rfl rfl (fun i => rfl) rfl d4 (fun k hk => ?_) ?_ ⟨okT_drop hI.okT (by omega), ?_, hI.okS.hi (fun k h _ => ?_), ?_⟩ (hiSet hI (fun k h _ => ?_) (fun _ _ => rfl)) c4 rfl (od0 hI.od rfl rfl) rfl rfl hI.tx hI.wd⟩
      · show va_up (σ.2.1 0) (a * 3 + b) _ k = va_up (τ.2.1 0) (3 * a + b) _ k
        rw [hT, Nat.mul_comm a 3]
      · show σ.1 0 = va_up (τ.2.1 0) (3 * a + b) _ 15
        rw [va_up, if_neg (by omega)]; exact hI.f
      · show va_up (τ.2.1 0) (3 * a + b) _ 15 < 32
        rw [va_up, if_neg (by omega)]; exact hI.fin
      · show τ.2.1 0 k = va_up (τ.2.1 0) (3 * a + b) _ k
        rw [va_up, if_neg (by omega)]
      · show cntT (va_up (τ.2.1 0) (3 * a + b) (τ.2.1 0 (3 * a + b) &&& (2 ^ c2 ^^^ 4294967295))) ≤ 15
        have e := cnt_up (T := τ.2.1 0) (v := τ.2.1 0 (3 * a + b) &&& (2 ^ c2 ^^^ 4294967295)) (show 3 * a + b < 15 by omega)
        have p := pop_and1 _ (hI.okT (3 * a + b) (by omega)) c2 c1.2.2
        have h15 := hI.c15
        omega
      · show τ.2.1 0 k = va_up (τ.2.1 0) (3 * a + b) _ k
        rw [va_up, if_neg (by omega)]
  · rcases h2 with ⟨d1, rfl, rfl, rfl, rfl⟩ | ⟨d1, d2, rfl, rfl, rfl, rfl⟩ | ⟨d1, d2, rfl, d4, rfl, rfl⟩
    · exact ⟨rfl, hI.1⟩
    · exact absurd d1 c1
    · exact absurd d1 c1
  · rw [hT] at c1
    rcases h2 with ⟨d1, rfl, rfl, rfl, rfl⟩ | ⟨d1, d2, rfl, rfl, rfl, rfl⟩ | ⟨d1, d2, rfl, d4, rfl, rfl⟩
    · exact absurd c1.1 d1
    · exact ⟨rfl, hI.1⟩
    · exact absurd d2 c1.2
theorem tie_setFinal {σ τ τ' : SS} {x b v : Nat} {ov : Nat → Int64} {dv : Nat → UInt64} {r : Int32} {z : HZ} (hI : Inv σ τ) (h1 : RH_setFinal σ x b ov dv r z) (h2 : RM_setFinal τ x b v τ') : TieZ r z τ' v := by
  obtain ⟨r0, th, ch, nw, kp, rfl, h2, rfl⟩ := h2
  have hT := hI.t
  rcases h1 with ⟨f1, rfl, c1, c4, rfl⟩ | ⟨rfl, c1, rfl⟩
  · rcases h2 with ⟨d1, rfl, rfl, rfl, rfl⟩ | ⟨d1, rfl, d4, rfl, rfl, rfl⟩
    · exact absurd c1 d1
    · have h15 : (if b = 0 then τ.2.1 0 15 &&& (2 ^ x ^^^ 4294967295) else τ.2.1 0 15 ||| 2 ^ x) < 32 := by
        split
        · exact and_ltl hI.fin
        · exact or32 hI.fin ((by decide : ∀ k, k < 5 → 2 ^ k < 32) x c1)
      refine ⟨rfl, fun _ => ?_, chg_R hI rfl rfl (fun i => rfl) rfl d4 (fun k hk => ?_) ?_ ⟨fun k hk => ?_, ?_, hI.okS.hi (fun k h _ => ?_), ?_⟩ (hiSet hI (fun k h _ => ?_) (fun _ _ => rfl)) c4 rfl (od0 hI.od rfl rfl) rfl rfl hI.tx hI.wd⟩
      · have e := if_z (P := Nat.testBit (τ.2.1 0 15) x = true) rfl
        refine ⟨e.1, ?_⟩
        rw [← e.2]
        show (if 2 ^ x &&& σ.1 0 ≠ 0 then 1 else 0 : Int64) = _
        rw [hI.f]
        by_cases q : Nat.testBit (τ.2.1 0 15) x = true
        · rw [if_pos (bit_fin.mpr q), if_pos q]
        · rw [if_neg (fun w => q (bit_fin.mp w)), if_neg q]
      · show σ.2.1 0 k = va_up (τ.2.1 0) 15 _ k
        rw [va_up, if_neg (by omega), hT]
      · show (if b = 0 then σ.1 0 &&& (2 ^ x ^^^ 4294967295) else σ.1 0 ||| 2 ^ x) = (if b = 0 then τ.2.1 0 15 &&& (2 ^ x ^^^ 4294967295) else τ.2.1 0 15 ||| 2 ^ x)
        rw [hI.f]
      · show va_up (τ.2.1 0) 15 _ k < 32
        rw [va_up, if_neg (by omega)]; exact hI.okT k hk
      · show va_up (τ.2.1 0) 15 _ 15 < 32
        rw [va_up, if_pos rfl]; exact h15
      · show τ.2.1 0 k = va_up (τ.2.1 0) 15 _ k
        rw [va_up, if_neg (by omega)]
      · show cntT (va_up (τ.2.1 0) 15 _) ≤ 15
        rw [cnt_eq (T := τ.2.1 0) (fun k hk => by rw [va_up, if_neg (by omega)])]; exact hI.c15
      · show τ.2.1 0 k = va_up (τ.2.1 0) 15 _ k
        rw [va_up, if_neg (by omega)]
  · rcases h2 with ⟨d1, rfl, rfl, rfl, rfl⟩ | ⟨d1, rfl, d4, rfl, rfl, rfl⟩
    · exact ⟨rfl, fun q => absurd q n01, hI.1⟩
    · exact absurd d1 c1
