abbrev r_c_X2_isPlace : Room := { frames := 0, cells := 0, slots := 0, locals := 0 }
set_option maxHeartbeats 4000000 in
set_option maxRecDepth 100000 in
theorem c_X2_isPlace (l : Launch) (a b : Nat) (h1 : a < 4294967296) (h2 : b < 4294967296) : Met l yX2_isPlace wsX2_isPlace r_c_X2_isPlace (va_Pc [.int (nI a), .int (nI b)] (fun _ => True)) (vp_Si (fun r => r = nI (if a < 256 ∧ b < 8 then 1 else 0))) 0 0 (fun _ => False) := by
  refine jn_pz (cc := cX2_isPlace) (maxL := 2) (own := RX2) (by decide) rfl rfl (Nat.le_of_ble_eq_true rfl) ?_
  intro p e s m below meth c Q hx hb hml hown hts _ hq ls hl
  have hl : lv_has ls 2 [(0, .int (nI a)), (1, .int (nI b))] := hl
  refine lv_iload_n hx hb dX2_isPlace_0 rfl (lv_at hl 0 rfl) ?_
  refine jn_zlt hx hb (by omega) (tgt := 25) dX2_isPlace_1 (by decide) (fun c_1 => ?_) (fun c_1 => ?_)
  · refine lv_iconst (v := nI 0) hx hb dX2_isPlace_25 (by decide) ?_
    exact hq _ _ ((nI 0)) dX2_isPlace_26 jn_n0 (by first | rw [if_pos (by omega)] | rw [if_neg (by omega)])
  · refine lv_iload_n hx hb dX2_isPlace_4 rfl (lv_at hl 0 rfl) ?_
    refine lv_sipush (v := nI 256) hx hb dX2_isPlace_5 (by decide) ?_
    refine jn_cge hx hb (by omega) (by decide) (tgt := 25) dX2_isPlace_8 (by decide) (fun c_8 => ?_) (fun c_8 => ?_)
    · refine lv_iconst (v := nI 0) hx hb dX2_isPlace_25 (by decide) ?_
      exact hq _ _ ((nI 0)) dX2_isPlace_26 jn_n0 (by first | rw [if_pos (by omega)] | rw [if_neg (by omega)])
    · refine lv_iload_n hx hb dX2_isPlace_11 rfl (lv_at hl 1 rfl) ?_
      refine jn_zlt hx hb (by omega) (tgt := 25) dX2_isPlace_12 (by decide) (fun c_12 => ?_) (fun c_12 => ?_)
      · refine lv_iconst (v := nI 0) hx hb dX2_isPlace_25 (by decide) ?_
        exact hq _ _ ((nI 0)) dX2_isPlace_26 jn_n0 (by first | rw [if_pos (by omega)] | rw [if_neg (by omega)])
      · refine lv_iload_n hx hb dX2_isPlace_15 rfl (lv_at hl 1 rfl) ?_
        refine lv_bipush (v := nI 8) hx hb dX2_isPlace_16 (by decide) ?_
        refine jn_cge hx hb (by omega) (by decide) (tgt := 25) dX2_isPlace_18 (by decide) (fun c_18 => ?_) (fun c_18 => ?_)
        · refine lv_iconst (v := nI 0) hx hb dX2_isPlace_25 (by decide) ?_
          exact hq _ _ ((nI 0)) dX2_isPlace_26 jn_n0 (by first | rw [if_pos (by omega)] | rw [if_neg (by omega)])
        · refine lv_iconst (v := nI 1) hx hb dX2_isPlace_21 (by decide) ?_
          refine lv_goto (tgt := 26) hx hb dX2_isPlace_22 (by decide) ?_
          exact hq _ _ ((nI 1)) dX2_isPlace_26 jn_n1 (by first | rw [if_pos (by omega)] | rw [if_neg (by omega)])

abbrev r_c_X2_costOf : Room := { frames := 0, cells := 0, slots := 0, locals := 0 }
set_option maxHeartbeats 4000000 in
set_option maxRecDepth 100000 in
theorem c_X2_costOf (l : Launch) (v q : Nat) (h1 : v < 2147483648) (h2 : q < 5) : Met l yX2_costOf wsX2_costOf r_c_X2_costOf (va_Pc [.int (nI v), .int (nI q)] (fun _ => True)) (vp_Si (fun r => r = nI (at6 v q))) 0 0 (fun _ => False) := by
  refine jn_pi (cc := cX2_costOf) (maxL := 2) (own := RX2) (by decide) rfl rfl (Nat.le_of_ble_eq_true rfl) ?_
  intro p e s m below meth c Q hx hb hml hown hts _ hq ls hl
  have hl : lv_has ls 2 [(0, .int (nI v)), (1, .int (nI q))] := hl
  refine lv_iload_n hx hb dX2_costOf_0 rfl (lv_at hl 0 rfl) ?_
  refine lv_bipush (v := nI 6) hx hb dX2_costOf_1 (by decide) ?_
  refine lv_iload_n hx hb dX2_costOf_3 rfl (lv_at hl 1 rfl) ?_
  refine jn_imul hx hb dX2_costOf_4 ?_
  refine jn_ishr hx hb (by omega) (by omega) dX2_costOf_5 ?_
  refine lv_bipush (v := nI 63) hx hb dX2_costOf_6 (by decide) ?_
  refine jn_iand hx hb dX2_costOf_8 ?_
  exact hq _ _ ((nI ((v / 2 ^ (6 * q)) &&& 63))) dX2_costOf_9 (by rw [and63])

abbrev r_c_X2_costsAt : Room := { frames := 1, cells := 0, slots := 0, locals := 21 }
set_option maxHeartbeats 4000000 in
set_option maxRecDepth 100000 in
theorem c_X2_costsAt (l : Launch) (g : GC) (tl : va_W) (σ : SS) (a b : Nat) (h1 : a < 256) (h2 : b < 8) : Met l yX2_costsAt wsX2_costsAt r_c_X2_costsAt (va_Pc [.ref (g.2.2.2 36), .int (nI a), .int (nI b)] (PP g (wC g σ ++ tl))) (vp_Si (fun r => r = nI ((σ.2.1 21) (a * 8 + b)))) 0 0 (fun _ => False) := by
  refine jn_pi (cc := cX2_costsAt) (maxL := 3) (own := RX2) (by decide) rfl rfl (Nat.le_of_ble_eq_true rfl) ?_
  intro p e s m below meth c Q hx hb hml hown hts ⟨hP, hK⟩ hq ls hl
  have hl : lv_has ls 3 [(0, .ref (g.2.2.2 36)), (1, .int (nI a)), (2, .int (nI b))] := hl
  have iX2 : ∀ w ∈ wsX20, w ∈ wsX2_costsAt := by decide +kernel
  have k11 := hts (.fieldLink RX2 11 "JumpingAutomata$BestOrder" "packedCosts" "[I") (by decide +kernel)
  refine lv_iload_n hx hb dX2_costsAt_0 rfl (lv_at hl 1 rfl) ?_
  refine lv_iload_n hx hb dX2_costsAt_1 rfl (lv_at hl 2 rfl) ?_
  refine vp_callSi (va_Run.run (va_runS (As := [.int (nI a), .int (nI b)]) (rest := []) ⟨hx, hb, hml, hown, hts⟩ (c_X2_isPlace l a b (by omega) (by omega)) (va_cwS 2 hts gX2_costsAt_X2_isPlace rfl rfl rfl (by decide +kernel) ⟨Nat.le_of_ble_eq_true rfl, Nat.le_of_ble_eq_true rfl⟩) okTS rfl rfl hl.1 rfl (lv_room (Nat.le_of_ble_eq_true rfl)) dX2_costsAt_2 ⟨Nat.le_of_ble_eq_true rfl, Nat.le_of_ble_eq_true rfl⟩)) (fun r_2 h_2 => ?_)
  subst h_2
  refine jn_beq hx hb (tgt := 22) dX2_costsAt_5 (by decide) (fun c_5 => absurd c_5 (by omega)) (fun c_5 => ?_)
  refine lv_aload_n hx hb dX2_costsAt_8 rfl (lv_at hl 0 rfl) ?_
  refine va_get (D := (g.1, g.2.1)) (ci := 4) (v := .ref (g.2.2.2 37)) (C := RX2) (T := TX2) (N := 7) hx hb hts iX2 hown hK.1 hP 36 (gC36 g σ tl) rfl 0 (by decide) k11 (fun _ h9 => h9) rfl dX2_costsAt_9 ?_
  refine lv_iload_n hx hb dX2_costsAt_12 rfl (lv_at hl 1 rfl) ?_
  refine lv_bipush (v := nI 8) hx hb dX2_costsAt_13 (by decide) ?_
  refine jn_imul hx hb dX2_costsAt_15 ?_
  refine lv_iload_n hx hb dX2_costsAt_16 rfl (lv_at hl 2 rfl) ?_
  refine jn_iadd hx hb dX2_costsAt_17 ?_
  refine jn_iald (f := σ.2.1 21) hx hb hK.1 hP 37 0 (gC37 g σ tl) rfl (by omega) (Nat.le_of_ble_eq_true rfl) dX2_costsAt_18 ?_
  refine lv_goto (tgt := 23) hx hb dX2_costsAt_19 (by decide) ?_
  exact hq _ _ ((nI ((σ.2.1 21) ((a * 8) + b)))) dX2_costsAt_23 rfl

abbrev r_c_X2_putCosts : Room := { frames := 1, cells := 0, slots := 0, locals := 21 }
set_option maxHeartbeats 4000000 in
set_option maxRecDepth 100000 in
theorem c_X2_putCosts (l : Launch) (g : GC) (tl : va_W) (sz : Nat) (σ : SS) (a b v : Nat) (h1 : a < 256) (h2 : b < 8) : Met l yX2_putCosts wsX2_putCosts r_c_X2_putCosts (va_Pc [.ref (g.2.2.2 36), .int (nI a), .int (nI b), .int (nI v)] (PW g (wC g σ ++ tl) sz)) (va_Qv (fun (_ : Unit) => True) (fun (_ : Unit) t => BW g (va_A (wC g σ ++ tl) sz) (wC g (sA σ 21 (va_up (σ.2.1 21) (a * 8 + b) v)) ++ tl) t) (va_A (wC g σ ++ tl) sz)) 0 0 (va_A (wC g σ ++ tl) sz) := by
  refine jn_sv (wf := fun _ : Unit => wC g (sA σ 21 (va_up (σ.2.1 21) (a * 8 + b) v)) ++ tl) (cc := cX2_putCosts) (maxL := 4) (own := RX2) (by decide) rfl rfl (Nat.le_of_ble_eq_true rfl) ?_
  intro p e s m below meth c Q A hx hb hml hown hts hK hP hD hS hAA hq ls hl
  obtain ⟨H, eH⟩ : ∃ z, z = s.heap := ⟨_, rfl⟩
  obtain ⟨locs, el⟩ : ∃ z : List Loc, z = [] := ⟨_, rfl⟩
  rw [← eH] at hP
  have hS : va_S A s.heap H locs := by rw [eH, el]; exact hS
  have goal0 : W p l e r_c_X2_putCosts s m ([.ref (g.2.2.2 36), .int (nI a), .int (nI b), .int (nI v)] : List Value).toArray below meth c H locs 0 0 Q (F0 m 0 ls []) → W p l e r_c_X2_putCosts s m ([.ref (g.2.2.2 36), .int (nI a), .int (nI b), .int (nI v)] : List Value).toArray below meth c s.heap [] 0 0 Q (F0 m 0 ls []) := fun h => by rw [eH, el] at h; exact h
  refine goal0 ?_
  have hl : lv_has ls 4 [(0, .ref (g.2.2.2 36)), (1, .int (nI a)), (2, .int (nI b)), (3, .int (nI v))] := hl
  have iX2 : ∀ w ∈ wsX20, w ∈ wsX2_putCosts := by decide +kernel
  have k11 := hts (.fieldLink RX2 11 "JumpingAutomata$BestOrder" "packedCosts" "[I") (by decide +kernel)
  refine lv_iload_n hx hb dX2_putCosts_0 rfl (lv_at hl 1 rfl) ?_
  refine lv_iload_n hx hb dX2_putCosts_1 rfl (lv_at hl 2 rfl) ?_
  refine vp_callSi (va_Run.run (va_runS (As := [.int (nI a), .int (nI b)]) (rest := []) ⟨hx, hb, hml, hown, hts⟩ (c_X2_isPlace l a b (by omega) (by omega)) (va_cwS 2 hts gX2_putCosts_X2_isPlace rfl rfl rfl (by decide +kernel) ⟨Nat.le_of_ble_eq_true rfl, Nat.le_of_ble_eq_true rfl⟩) okTS rfl rfl hl.1 rfl (lv_room (Nat.le_of_ble_eq_true rfl)) dX2_putCosts_2 ⟨Nat.le_of_ble_eq_true rfl, Nat.le_of_ble_eq_true rfl⟩)) (fun r_2 h_2 => ?_)
  subst h_2
  refine jn_beq hx hb (tgt := 20) dX2_putCosts_5 (by decide) (fun c_5 => absurd c_5 (by omega)) (fun c_5 => ?_)
  refine lv_aload_n hx hb dX2_putCosts_8 rfl (lv_at hl 0 rfl) ?_
  refine va_get (D := (g.1, g.2.1)) (ci := 4) (v := .ref (g.2.2.2 37)) (C := RX2) (T := TX2) (N := 7) hx hb hts iX2 hown hK.1 hP 36 (gC36 g σ tl) rfl 0 (by decide) k11 (fun _ h9 => h9) rfl dX2_putCosts_9 ?_
  refine lv_iload_n hx hb dX2_putCosts_12 rfl (lv_at hl 1 rfl) ?_
  refine lv_bipush (v := nI 8) hx hb dX2_putCosts_13 (by decide) ?_
  refine jn_imul hx hb dX2_putCosts_15 ?_
  refine lv_iload_n hx hb dX2_putCosts_16 rfl (lv_at hl 2 rfl) ?_
  refine jn_iadd hx hb dX2_putCosts_17 ?_
  refine lv_iload_n hx hb dX2_putCosts_18 rfl (lv_at hl 3 rfl) ?_
  refine jn_iast (f := σ.2.1 21) hx hb hK.1 hP hD hS 37 0 (gC37 g σ tl) rfl (by omega) (Nat.le_of_ble_eq_true rfl) (uC_A21 g σ tl _) dX2_putCosts_19 (fun H locs hP hD hS => ?_)
  exact hq _ _ _ _ () dX2_putCosts_20 trivial hP hD hS

abbrev r_c_X2_leastOf : Room := { frames := 1, cells := 0, slots := 0, locals := 24 }
set_option maxHeartbeats 4000000 in
set_option maxRecDepth 100000 in
theorem c_X2_leastOf (l : Launch) (v mq : Nat) (h1 : v < 2147483648) (h2 : mq < 32) : Met l yX2_leastOf wsX2_leastOf r_c_X2_leastOf (va_Pc [.int (nI v), .int (nI mq)] (fun _ => True)) (vp_Si (fun r => r = nI (lst (fun q => at6 v q) mq))) 0 0 (fun _ => False) := by
  refine jn_pi (cc := cX2_leastOf) (maxL := 4) (own := RX2) (by decide) rfl rfl (Nat.le_of_ble_eq_true rfl) ?_
  intro p e s m below meth c Q hx hb hml hown hts _ hq ls hl
  have hl : lv_has ls 4 [(0, .int (nI v)), (1, .int (nI mq))] := hl
  refine lv_bipush (v := nI 63) hx hb dX2_leastOf_0 (by decide) ?_
  refine lv_istore_n (lv' := [(2, .int (nI 63)), (0, .int (nI v)), (1, .int (nI mq))]) hx hb dX2_leastOf_2 rfl hl (by decide) rfl (fun ls hl => ?_)
  refine lv_iconst (v := nI 0) hx hb dX2_leastOf_3 (by decide) ?_
  refine lv_istore_n (lv' := [(3, .int (nI 0)), (2, .int (nI 63)), (0, .int (nI v)), (1, .int (nI mq))]) hx hb dX2_leastOf_4 rfl hl (by decide) rfl (fun ls hl => ?_)
  have lp5 : ∀ (fu : Nat), ∀ (q : Nat) (z : Nat), (q ≤ 5) → (z = lstF (fun q => at6 v q) mq q) → 5 - q < fu → ∀ ls : Array Slot, lv_has ls 4 [(0, .int (nI v)), (1, .int (nI mq)), (2, .int (nI z)), (3, .int (nI q))] → W p l e r_c_X2_leastOf s m ([.int (nI v), .int (nI mq)] : List Value).toArray below meth c s.heap [] 0 0 Q (F0 m 5 ls []) := by
    intro fu
    induction fu with
    | zero => intro q z h3 h4 hf; exact absurd hf (Nat.not_lt_zero _)
    | succ fu ih5 =>
      intro q z h3 h4 hf ls hl
      refine lv_iload_n hx hb dX2_leastOf_5 rfl (lv_at hl 3 rfl) ?_
      refine lv_iconst (v := nI 5) hx hb dX2_leastOf_6 (by decide) ?_
      refine jn_cge hx hb (by omega) (by decide) (tgt := 34) dX2_leastOf_7 (by decide) (fun c_7 => ?_) (fun c_7 => ?_)
      · refine lv_iload_n hx hb dX2_leastOf_34 rfl (lv_at hl 2 rfl) ?_
        exact hq _ _ ((nI z)) dX2_leastOf_35 (by rw [h4, show q = 5 by omega])
      · refine lv_iload_n hx hb dX2_leastOf_10 rfl (lv_at hl 1 rfl) ?_
        refine lv_iload_n hx hb dX2_leastOf_11 rfl (lv_at hl 3 rfl) ?_
        refine jn_ishr hx hb (by omega) (by omega) dX2_leastOf_12 ?_
        refine lv_iconst (v := nI 1) hx hb dX2_leastOf_13 (by decide) ?_
        refine jn_and1 hx hb dX2_leastOf_14 ?_
        refine jn_beq hx hb (tgt := 28) dX2_leastOf_15 (by decide) (fun c_15 => ?_) (fun c_15 => ?_)
        · refine lv_iinc (v := nI (q + 1)) (lv' := [(3, .int (nI (q + 1))), (0, .int (nI v)), (1, .int (nI mq)), (2, .int (nI z))]) hx hb dX2_leastOf_28 hl (k := 3) rfl (jn_ii _ 1) (by decide) rfl (fun ls hl => ?_)
          refine lv_goto (tgt := 5) hx hb dX2_leastOf_31 (by decide) ?_
          exact ih5 (q + 1) z (by omega) (by rw [h4]; first | rw [lstF, if_pos c_15] | rw [lstF, if_neg c_15]) (by omega) _ (lv_sub hl [1, 2, 3, 0] rfl)
        · refine lv_iload_n hx hb dX2_leastOf_18 rfl (lv_at hl 2 rfl) ?_
          refine lv_iload_n hx hb dX2_leastOf_19 rfl (lv_at hl 0 rfl) ?_
          refine lv_iload_n hx hb dX2_leastOf_20 rfl (lv_at hl 3 rfl) ?_
          refine vp_callSi (va_Run.run (va_runS (As := [.int (nI v), .int (nI q)]) (rest := [.int (nI z)]) ⟨hx, hb, hml, hown, hts⟩ (c_X2_costOf l v q (by omega) (by omega)) (va_cwS 2 hts gX2_leastOf_X2_costOf rfl rfl rfl (by decide +kernel) ⟨Nat.le_of_ble_eq_true rfl, Nat.le_of_ble_eq_true rfl⟩) okTS rfl rfl hl.1 rfl (lv_room (Nat.le_of_ble_eq_true rfl)) dX2_leastOf_21 ⟨Nat.le_of_ble_eq_true rfl, Nat.le_of_ble_eq_true rfl⟩)) (fun r_21 h_21 => ?_)
          subst h_21
          refine jn_min hx hb (hml.trans hl.1.symm) hown (hts (.methodLink RX2 94 Lib.Math.min.name) (by decide +kernel)) (hts (.static Lib.Math.min.name) (by decide +kernel)) (hts (.initialized "java/lang/Math") (by decide +kernel)) (hts (.code Lib.Math.min.name Lib.Math.min.code 2 (some .int)) (by decide +kernel)) (Nat.le_of_ble_eq_true rfl) (Nat.le_of_ble_eq_true rfl) (Nat.le_of_ble_eq_true rfl) (Nat.le_of_ble_eq_true rfl) (by have := lstF_le (fun q => at6 v q) mq q; omega) (by have := at6_lt v q; omega) dX2_leastOf_24 ?_
          refine lv_istore_n (lv' := [(2, .int (nI (min z (at6 v q)))), (0, .int (nI v)), (1, .int (nI mq)), (3, .int (nI q))]) hx hb dX2_leastOf_27 rfl hl (by decide) rfl (fun ls hl => ?_)
          refine lv_iinc (v := nI (q + 1)) (lv' := [(3, .int (nI (q + 1))), (2, .int (nI (min z (at6 v q)))), (0, .int (nI v)), (1, .int (nI mq))]) hx hb dX2_leastOf_28 hl (k := 3) rfl (jn_ii _ 1) (by decide) rfl (fun ls hl => ?_)
          refine lv_goto (tgt := 5) hx hb dX2_leastOf_31 (by decide) ?_
          exact ih5 (q + 1) (min z (at6 v q)) (by omega) (by rw [h4]; first | rw [lstF, if_pos c_15] | rw [lstF, if_neg c_15]) (by omega) _ (lv_sub hl [2, 3, 1, 0] rfl)
  exact lp5 _ 0 63 (by decide) rfl (Nat.lt_succ_self _) _ (lv_sub hl [2, 3, 1, 0] rfl)

abbrev r_c_X2_fillStates : Room := { frames := 2, cells := 0, slots := 0, locals := 42 }
set_option maxHeartbeats 4000000 in
set_option maxRecDepth 100000 in
theorem c_X2_fillStates (l : Launch) (g : GC) (tl : va_W) (sz : Nat) (σ : SS) (n : Nat) (hA : OkA σ) (hl4 : σ.1 4 = n) (hn : n ≤ 8) (hw : ∀ i, i < n → (σ.2.1 24) i < 3) : Met l yX2_fillStates wsX2_fillStates r_c_X2_fillStates (va_Pc [.ref (g.2.2.2 36), .ref (g.2.2.2 1), .int (nI (2 ^ n - 1))] (PW g (wC g σ ++ tl) sz)) (va_Qv (fun (S : (Nat → Nat)) => StK (σ.2.1 0) (σ.2.1 24) S n (2 ^ n)) (fun (S : (Nat → Nat)) t => BW g (va_A (wC g σ ++ tl) sz) (wC g (sA σ 22 S) ++ tl) t) (va_A (wC g σ ++ tl) sz)) 0 0 (va_A (wC g σ ++ tl) sz) := by
  refine jn_sv (wf := fun S : (Nat → Nat) => wC g (sA σ 22 S) ++ tl) (cc := cX2_fillStates) (maxL := 6) (own := RX2) (by decide) rfl rfl (Nat.le_of_ble_eq_true rfl) ?_
  intro p e s m below meth c Q A hx hb hml hown hts hK hP hD hS hAA hq ls hl
  obtain ⟨H, eH⟩ : ∃ z, z = s.heap := ⟨_, rfl⟩
  obtain ⟨locs, el⟩ : ∃ z : List Loc, z = [] := ⟨_, rfl⟩
  rw [← eH] at hP
  have hS : va_S A s.heap H locs := by rw [eH, el]; exact hS
  have goal0 : W p l e r_c_X2_fillStates s m ([.ref (g.2.2.2 36), .ref (g.2.2.2 1), .int (nI (2 ^ n - 1))] : List Value).toArray below meth c H locs 0 0 Q (F0 m 0 ls []) → W p l e r_c_X2_fillStates s m ([.ref (g.2.2.2 36), .ref (g.2.2.2 1), .int (nI (2 ^ n - 1))] : List Value).toArray below meth c s.heap [] 0 0 Q (F0 m 0 ls []) := fun h => by rw [eH, el] at h; exact h
  refine goal0 ?_
  have hl : lv_has ls 6 [(0, .ref (g.2.2.2 36)), (1, .ref (g.2.2.2 1)), (2, .int (nI (2 ^ n - 1)))] := hl
  have iX2 : ∀ w ∈ wsX20, w ∈ wsX2_fillStates := by decide +kernel
  have k15 := hts (.fieldLink RX2 15 "JumpingAutomata$BestOrder" "states" "[I") (by decide +kernel)
  have k24 := hts (.fieldLink RX2 24 "JumpingAutomata$BestOrder" "length" "I") (by decide +kernel)
  have k21 := hts (.fieldLink RX2 21 "JumpingAutomata$BestOrder" "letters" "[I") (by decide +kernel)
  have p8 := pow8 n hn
  refine lv_aload_n hx hb dX2_fillStates_0 rfl (lv_at hl 0 rfl) ?_
  refine va_get (D := (g.1, g.2.1)) (ci := 4) (v := .ref (g.2.2.2 38)) (C := RX2) (T := TX2) (N := 7) hx hb hts iX2 hown hK.1 hP 36 (gC36 g σ tl) rfl 1 (by decide) k15 (fun _ h9 => h9) rfl dX2_fillStates_1 ?_
  refine lv_iconst (v := nI 0) hx hb dX2_fillStates_4 (by decide) ?_
  refine lv_iconst (v := nI 1) hx hb dX2_fillStates_5 (by decide) ?_
  refine jn_iast (f := σ.2.1 22) hx hb hK.1 hP hD hS 38 0 (gC38 g σ tl) rfl (by decide) (Nat.le_of_ble_eq_true rfl) (uC_A22 g σ tl _) dX2_fillStates_6 (fun H locs hP hD hS => ?_)
  refine lv_iconst (v := nI 1) hx hb dX2_fillStates_7 (by decide) ?_
  refine lv_istore_n (lv' := [(3, .int (nI 1)), (0, .ref (g.2.2.2 36)), (1, .ref (g.2.2.2 1)), (2, .int (nI (2 ^ n - 1)))]) hx hb dX2_fillStates_8 rfl hl (by decide) rfl (fun ls hl => ?_)
  have lp9 : ∀ (fu : Nat), ∀ (st : Nat) (S : Nat → Nat), (1 ≤ st ∧ st ≤ 2 ^ n) → (StK (σ.2.1 0) (σ.2.1 24) S n st) → 2 ^ n - st < fu → ∀ (H : Heap) (locs : List Loc), va_P (g.1, g.2.1) vwCl (wC g (sA σ 22 S) ++ tl) H → va_D A (wC g (sA σ 22 S) ++ tl) → va_S A s.heap H locs → ∀ ls : Array Slot, lv_has ls 6 [(0, .ref (g.2.2.2 36)), (1, .ref (g.2.2.2 1)), (2, .int (nI (2 ^ n - 1))), (3, .int (nI st))] → W p l e r_c_X2_fillStates s m ([.ref (g.2.2.2 36), .ref (g.2.2.2 1), .int (nI (2 ^ n - 1))] : List Value).toArray below meth c H locs 0 0 Q (F0 m 9 ls []) := by
    intro fu
    induction fu with
    | zero => intro st S h1 h2 hf; exact absurd hf (Nat.not_lt_zero _)
    | succ fu ih9 =>
      intro st S h1 h2 hf H locs hP hD hS ls hl
      refine lv_iload_n hx hb dX2_fillStates_9 rfl (lv_at hl 3 rfl) ?_
      refine lv_iload_n hx hb dX2_fillStates_10 rfl (lv_at hl 2 rfl) ?_
      refine jn_cgt hx hb (by omega) (by omega) (tgt := 101) dX2_fillStates_11 (by decide) (fun c_11 => ?_) (fun c_11 => ?_)
      · exact hq _ _ _ _ (S) dX2_fillStates_101 (by rw [← show st = 2 ^ n by omega]; exact h2) hP hD hS
      · refine lv_iload_n hx hb dX2_fillStates_14 rfl (lv_at hl 3 rfl) ?_
        refine lv_sipush (v := nI 256) hx hb dX2_fillStates_15 (by decide) ?_
        refine jn_cge hx hb (by omega) (by decide) (tgt := 101) dX2_fillStates_18 (by decide) (fun c_18 => ?_) (fun c_18 => ?_)
        · exact hq _ _ _ _ (S) dX2_fillStates_101 (by rw [← show st = 2 ^ n by omega]; exact h2) hP hD hS
        · refine lv_iconst (v := nI 0) hx hb dX2_fillStates_21 (by decide) ?_
          refine lv_istore (lv' := [(4, .int (nI 0)), (0, .ref (g.2.2.2 36)), (1, .ref (g.2.2.2 1)), (2, .int (nI (2 ^ n - 1))), (3, .int (nI st))]) hx hb dX2_fillStates_22 hl (by decide) rfl (fun ls hl => ?_)
          refine lv_iconst (v := nI 0) hx hb dX2_fillStates_24 (by decide) ?_
          refine lv_istore (lv' := [(5, .int (nI 0)), (4, .int (nI 0)), (0, .ref (g.2.2.2 36)), (1, .ref (g.2.2.2 1)), (2, .int (nI (2 ^ n - 1))), (3, .int (nI st))]) hx hb dX2_fillStates_25 hl (by decide) rfl (fun ls hl => ?_)
          have lp27 : ∀ (fu : Nat), ∀ (p0 : Nat) (mq : Nat), (p0 ≤ n) → (StI (σ.2.1 0) (σ.2.1 24) S st p0 mq) → n - p0 < fu → ∀ (H : Heap) (locs : List Loc), va_P (g.1, g.2.1) vwCl (wC g (sA σ 22 S) ++ tl) H → va_D A (wC g (sA σ 22 S) ++ tl) → va_S A s.heap H locs → ∀ ls : Array Slot, lv_has ls 6 [(0, .ref (g.2.2.2 36)), (1, .ref (g.2.2.2 1)), (2, .int (nI (2 ^ n - 1))), (3, .int (nI st)), (4, .int (nI mq)), (5, .int (nI p0))] → W p l e r_c_X2_fillStates s m ([.ref (g.2.2.2 36), .ref (g.2.2.2 1), .int (nI (2 ^ n - 1))] : List Value).toArray below meth c H locs 0 0 Q (F0 m 27 ls []) := by
            intro fu
            induction fu with
            | zero => intro p0 mq h3 h4 hf; exact absurd hf (Nat.not_lt_zero _)
            | succ fu ih27 =>
              intro p0 mq h3 h4 hf H locs hP hD hS ls hl
              refine lv_iload hx hb dX2_fillStates_27 (lv_at hl 5 rfl) ?_
              refine lv_aload_n hx hb dX2_fillStates_29 rfl (lv_at hl 0 rfl) ?_
              refine va_get (D := (g.1, g.2.1)) (ci := 4) (v := .int (nI (σ.1 4))) (C := RX2) (T := TX2) (N := 7) hx hb hts iX2 hown hK.1 hP 36 (gC36 g (sA σ 22 S) tl) rfl 4 (by decide) k24 (fun _ h9 => h9) rfl dX2_fillStates_30 ?_
              refine jn_cge hx hb (by omega) (by omega) (tgt := 87) dX2_fillStates_33 (by decide) (fun c_33 => ?_) (fun c_33 => ?_)
              · refine lv_aload_n hx hb dX2_fillStates_87 rfl (lv_at hl 0 rfl) ?_
                refine va_get (D := (g.1, g.2.1)) (ci := 4) (v := .ref (g.2.2.2 38)) (C := RX2) (T := TX2) (N := 7) hx hb hts iX2 hown hK.1 hP 36 (gC36 g (sA σ 22 S) tl) rfl 1 (by decide) k15 (fun _ h9 => h9) rfl dX2_fillStates_88 ?_
                refine lv_iload_n hx hb dX2_fillStates_91 rfl (lv_at hl 3 rfl) ?_
                refine lv_iload hx hb dX2_fillStates_92 (lv_at hl 4 rfl) ?_
                refine jn_iast (f := S) hx hb hK.1 hP hD hS 38 0 (gC38 g (sA σ 22 S) tl) rfl (by omega) (Nat.le_of_ble_eq_true rfl) (uC_A22 g (sA σ 22 S) tl _) dX2_fillStates_94 (fun H locs hP hD hS => ?_)
                refine lv_iinc (v := nI (st + 1)) (lv' := [(3, .int (nI (st + 1))), (0, .ref (g.2.2.2 36)), (1, .ref (g.2.2.2 1)), (2, .int (nI (2 ^ n - 1))), (4, .int (nI mq)), (5, .int (nI p0))]) hx hb dX2_fillStates_95 hl (k := 3) rfl (jn_ii _ 1) (by decide) rfl (fun ls hl => ?_)
                refine lv_goto (tgt := 9) hx hb dX2_fillStates_98 (by decide) ?_
                exact ih9 (st + 1) (va_up S st mq) (by omega) (stk_put hn (by omega) (by omega) h2 (by rw [← show p0 = n by omega]; exact h4)) (by omega) _ _ hP hD hS _ (lv_sub hl [1, 2, 3, 0] rfl)
              · refine lv_iload hx hb dX2_fillStates_36 (lv_at hl 5 rfl) ?_
                refine lv_bipush (v := nI 8) hx hb dX2_fillStates_38 (by decide) ?_
                refine jn_cge hx hb (by omega) (by decide) (tgt := 87) dX2_fillStates_40 (by decide) (fun c_40 => ?_) (fun c_40 => ?_)
                · refine lv_aload_n hx hb dX2_fillStates_87 rfl (lv_at hl 0 rfl) ?_
                  refine va_get (D := (g.1, g.2.1)) (ci := 4) (v := .ref (g.2.2.2 38)) (C := RX2) (T := TX2) (N := 7) hx hb hts iX2 hown hK.1 hP 36 (gC36 g (sA σ 22 S) tl) rfl 1 (by decide) k15 (fun _ h9 => h9) rfl dX2_fillStates_88 ?_
                  refine lv_iload_n hx hb dX2_fillStates_91 rfl (lv_at hl 3 rfl) ?_
                  refine lv_iload hx hb dX2_fillStates_92 (lv_at hl 4 rfl) ?_
                  refine jn_iast (f := S) hx hb hK.1 hP hD hS 38 0 (gC38 g (sA σ 22 S) tl) rfl (by omega) (Nat.le_of_ble_eq_true rfl) (uC_A22 g (sA σ 22 S) tl _) dX2_fillStates_94 (fun H locs hP hD hS => ?_)
                  refine lv_iinc (v := nI (st + 1)) (lv' := [(3, .int (nI (st + 1))), (0, .ref (g.2.2.2 36)), (1, .ref (g.2.2.2 1)), (2, .int (nI (2 ^ n - 1))), (4, .int (nI mq)), (5, .int (nI p0))]) hx hb dX2_fillStates_95 hl (k := 3) rfl (jn_ii _ 1) (by decide) rfl (fun ls hl => ?_)
                  refine lv_goto (tgt := 9) hx hb dX2_fillStates_98 (by decide) ?_
                  exact ih9 (st + 1) (va_up S st mq) (by omega) (stk_put hn (by omega) (by omega) h2 (by rw [← show p0 = n by omega]; exact h4)) (by omega) _ _ hP hD hS _ (lv_sub hl [1, 2, 3, 0] rfl)
                · refine lv_iload_n hx hb dX2_fillStates_43 rfl (lv_at hl 3 rfl) ?_
                  refine lv_iload hx hb dX2_fillStates_44 (lv_at hl 5 rfl) ?_
                  refine jn_ishr hx hb (by omega) (by omega) dX2_fillStates_46 ?_
                  refine lv_iconst (v := nI 1) hx hb dX2_fillStates_47 (by decide) ?_
                  refine jn_and1 hx hb dX2_fillStates_48 ?_
                  refine jn_beq hx hb (tgt := 81) dX2_fillStates_49 (by decide) (fun c_49 => ?_) (fun c_49 => ?_)
                  · refine lv_iinc (v := nI (p0 + 1)) (lv' := [(5, .int (nI (p0 + 1))), (0, .ref (g.2.2.2 36)), (1, .ref (g.2.2.2 1)), (2, .int (nI (2 ^ n - 1))), (3, .int (nI st)), (4, .int (nI mq))]) hx hb dX2_fillStates_81 hl (k := 5) rfl (jn_ii _ 1) (by decide) rfl (fun ls hl => ?_)
                    refine lv_goto (tgt := 27) hx hb dX2_fillStates_84 (by decide) ?_
                    exact ih27 (p0 + 1) mq (by omega) (by first | exact sti_put h4 rfl st32 | exact sti_no h4 c_49) (by omega) _ _ hP hD hS _ (lv_sub hl [1, 2, 3, 4, 5, 0] rfl)
                  · refine lv_iload hx hb dX2_fillStates_52 (lv_at hl 4 rfl) ?_
                    refine lv_aload_n hx hb dX2_fillStates_54 rfl (lv_at hl 1 rfl) ?_
                    refine lv_aload_n hx hb dX2_fillStates_55 rfl (lv_at hl 0 rfl) ?_
                    refine va_get (D := (g.1, g.2.1)) (ci := 4) (v := .ref (g.2.2.2 40)) (C := RX2) (T := TX2) (N := 7) hx hb hts iX2 hown hK.1 hP 36 (gC36 g (sA σ 22 S) tl) rfl 3 (by decide) k21 (fun _ h9 => h9) rfl dX2_fillStates_56 ?_
                    refine lv_iload hx hb dX2_fillStates_59 (lv_at hl 5 rfl) ?_
                    refine jn_iald (f := σ.2.1 24) hx hb hK.1 hP 40 0 (gC40 g (sA σ 22 S) tl) rfl (by omega) (Nat.le_of_ble_eq_true rfl) dX2_fillStates_61 ?_
                    refine lv_aload_n hx hb dX2_fillStates_62 rfl (lv_at hl 0 rfl) ?_
                    refine va_get (D := (g.1, g.2.1)) (ci := 4) (v := .ref (g.2.2.2 38)) (C := RX2) (T := TX2) (N := 7) hx hb hts iX2 hown hK.1 hP 36 (gC36 g (sA σ 22 S) tl) rfl 1 (by decide) k15 (fun _ h9 => h9) rfl dX2_fillStates_63 ?_
                    refine lv_iload_n hx hb dX2_fillStates_66 rfl (lv_at hl 3 rfl) ?_
                    refine lv_iconst (v := nI 1) hx hb dX2_fillStates_67 (by decide) ?_
                    refine lv_iload hx hb dX2_fillStates_68 (lv_at hl 5 rfl) ?_
                    refine jn_shl1 hx hb (by omega) dX2_fillStates_70 ?_
                    refine lv_iconst (v := nI 4294967295) hx hb dX2_fillStates_71 (by decide) ?_
                    refine jn_ixor hx hb dX2_fillStates_72 ?_
                    refine jn_iand hx hb dX2_fillStates_73 ?_
                    refine jn_iald (f := S) hx hb hK.1 hP 38 0 (gC38 g (sA σ 22 S) tl) rfl (and_ltl (by omega)) (Nat.le_of_ble_eq_true rfl) dX2_fillStates_74 ?_
                    refine vp_callSi (va_Run.run (va_runV (As := [.int (nI ((σ.2.1 24) p0)), .int (nI (S (st &&& ((2 ^ p0) ^^^ 4294967295))))]) (rest := [.int (nI mq)]) ⟨hx, hb, hml, hown, hts⟩ (c_X0_step l g tl (sA σ 22 S) ((σ.2.1 24) p0) (S (st &&& ((2 ^ p0) ^^^ 4294967295))) hA (hw p0 (by omega)) (h2.2.1 _ (clr_lt c_49 (by omega)))) (cwV 2 hts gX2_fillStates_X0_step rfl rfl rfl (by decide +kernel) ⟨Nat.le_of_ble_eq_true rfl, Nat.le_of_ble_eq_true rfl⟩) (okPV hK hP rfl (gC1 g (sA σ 22 S) tl)) rfl rfl hl.1 rfl (lv_room (Nat.le_of_ble_eq_true rfl)) dX2_fillStates_75 ⟨Nat.le_of_ble_eq_true rfl, Nat.le_of_ble_eq_true rfl⟩)) (fun r_75 h_75 => ?_)
                    have h_75 : r_75 = (nI (stp (σ.2.1 0) ((σ.2.1 24) p0) (S (st &&& ((2 ^ p0) ^^^ 4294967295))))) := h_75
                    subst h_75
                    have st32 : stp (σ.2.1 0) ((σ.2.1 24) p0) (S (st &&& (2 ^ p0 ^^^ 4294967295))) < 32 := stp_lt hA.1 (hw p0 (by omega))
                    refine jn_ior hx hb dX2_fillStates_78 ?_
                    refine lv_istore (lv' := [(4, .int (nI (mq ||| (stp (σ.2.1 0) ((σ.2.1 24) p0) (S (st &&& ((2 ^ p0) ^^^ 4294967295))))))), (0, .ref (g.2.2.2 36)), (1, .ref (g.2.2.2 1)), (2, .int (nI (2 ^ n - 1))), (3, .int (nI st)), (5, .int (nI p0))]) hx hb dX2_fillStates_79 hl (by decide) rfl (fun ls hl => ?_)
                    refine lv_iinc (v := nI (p0 + 1)) (lv' := [(5, .int (nI (p0 + 1))), (4, .int (nI (mq ||| (stp (σ.2.1 0) ((σ.2.1 24) p0) (S (st &&& ((2 ^ p0) ^^^ 4294967295))))))), (0, .ref (g.2.2.2 36)), (1, .ref (g.2.2.2 1)), (2, .int (nI (2 ^ n - 1))), (3, .int (nI st))]) hx hb dX2_fillStates_81 hl (k := 5) rfl (jn_ii _ 1) (by decide) rfl (fun ls hl => ?_)
                    refine lv_goto (tgt := 27) hx hb dX2_fillStates_84 (by decide) ?_
                    exact ih27 (p0 + 1) (mq ||| (stp (σ.2.1 0) ((σ.2.1 24) p0) (S (st &&& ((2 ^ p0) ^^^ 4294967295))))) (by omega) (by first | exact sti_put h4 rfl st32 | exact sti_no h4 c_49) (by omega) _ _ hP hD hS _ (lv_sub hl [2, 3, 4, 5, 1, 0] rfl)
          exact lp27 _ 0 0 (by omega) ⟨by decide, fun z hz => absurd hz (by omega)⟩ (Nat.lt_succ_self _) _ _ hP hD hS _ (lv_sub hl [2, 3, 4, 5, 1, 0] rfl)
  exact lp9 _ 1 (va_up (σ.2.1 22) 0 1) (by omega) ⟨if_pos rfl, fun z hz => by rw [show z = 0 by omega, va_up, if_pos rfl]; decide, fun rd p hp hb hlt => by exfalso; apply hb; have := Nat.right_le_or (n := rd) (m := 2 ^ p); have := Nat.two_pow_pos p; omega⟩ (Nat.lt_succ_self _) _ _ hP hD hS _ (lv_sub hl [1, 2, 3, 0] rfl)

abbrev r_c_X2_packFinals : Room := { frames := 2, cells := 0, slots := 0, locals := 44 }
set_option maxHeartbeats 4000000 in
set_option maxRecDepth 100000 in
theorem c_X2_packFinals (l : Launch) (g : GC) (tl : va_W) (sz : Nat) (σ : SS) (n : Nat) (hA : OkA σ) (hn : n ≤ 8) : Met l yX2_packFinals wsX2_packFinals r_c_X2_packFinals (va_Pc [.ref (g.2.2.2 36), .ref (g.2.2.2 1), .int (nI (2 ^ n - 1))] (PW g (wC g σ ++ tl) sz)) (va_Qv (fun (pc2 : (Nat → Nat)) => ∀ k, k < 8 → pc2 ((2 ^ n - 1) * 8 + k) = pkF (fin6 (σ.1 0)) 5) (fun (pc2 : (Nat → Nat)) t => BW g (va_A (wC g σ ++ tl) sz) (wC g (sA σ 21 pc2) ++ tl) t) (va_A (wC g σ ++ tl) sz)) 0 0 (va_A (wC g σ ++ tl) sz) := by
  refine jn_sv (wf := fun pc2 : (Nat → Nat) => wC g (sA σ 21 pc2) ++ tl) (cc := cX2_packFinals) (maxL := 5) (own := RX2) (by decide) rfl rfl (Nat.le_of_ble_eq_true rfl) ?_
  intro p e s m below meth c Q A hx hb hml hown hts hK hP hD hS hAA hq ls hl
  obtain ⟨H, eH⟩ : ∃ z, z = s.heap := ⟨_, rfl⟩
  obtain ⟨locs, el⟩ : ∃ z : List Loc, z = [] := ⟨_, rfl⟩
  rw [← eH] at hP
  have hS : va_S A s.heap H locs := by rw [eH, el]; exact hS
  have goal0 : W p l e r_c_X2_packFinals s m ([.ref (g.2.2.2 36), .ref (g.2.2.2 1), .int (nI (2 ^ n - 1))] : List Value).toArray below meth c H locs 0 0 Q (F0 m 0 ls []) → W p l e r_c_X2_packFinals s m ([.ref (g.2.2.2 36), .ref (g.2.2.2 1), .int (nI (2 ^ n - 1))] : List Value).toArray below meth c s.heap [] 0 0 Q (F0 m 0 ls []) := fun h => by rw [eH, el] at h; exact h
  refine goal0 ?_
  have hl : lv_has ls 5 [(0, .ref (g.2.2.2 36)), (1, .ref (g.2.2.2 1)), (2, .int (nI (2 ^ n - 1)))] := hl
  have p8 := pow8 n hn
  refine lv_iconst (v := nI 0) hx hb dX2_packFinals_0 (by decide) ?_
  refine lv_istore_n (lv' := [(3, .int (nI 0)), (0, .ref (g.2.2.2 36)), (1, .ref (g.2.2.2 1)), (2, .int (nI (2 ^ n - 1)))]) hx hb dX2_packFinals_1 rfl hl (by decide) rfl (fun ls hl => ?_)
  refine lv_iconst (v := nI 0) hx hb dX2_packFinals_2 (by decide) ?_
  refine lv_istore (lv' := [(4, .int (nI 0)), (3, .int (nI 0)), (0, .ref (g.2.2.2 36)), (1, .ref (g.2.2.2 1)), (2, .int (nI (2 ^ n - 1)))]) hx hb dX2_packFinals_3 hl (by decide) rfl (fun ls hl => ?_)
  have lp5 : ∀ (fu : Nat), ∀ (q : Nat) (pk : Nat), (q ≤ 5) → (pk = pkF (fin6 (σ.1 0)) q) → 5 - q < fu → ∀ (H : Heap) (locs : List Loc), va_P (g.1, g.2.1) vwCl (wC g σ ++ tl) H → va_D A (wC g σ ++ tl) → va_S A s.heap H locs → ∀ ls : Array Slot, lv_has ls 5 [(0, .ref (g.2.2.2 36)), (1, .ref (g.2.2.2 1)), (2, .int (nI (2 ^ n - 1))), (3, .int (nI pk)), (4, .int (nI q))] → W p l e r_c_X2_packFinals s m ([.ref (g.2.2.2 36), .ref (g.2.2.2 1), .int (nI (2 ^ n - 1))] : List Value).toArray below meth c H locs 0 0 Q (F0 m 5 ls []) := by
    intro fu
    induction fu with
    | zero => intro q pk h1 h2 hf; exact absurd hf (Nat.not_lt_zero _)
    | succ fu ih5 =>
      intro q pk h1 h2 hf H locs hP hD hS ls hl
      refine lv_iload hx hb dX2_packFinals_5 (lv_at hl 4 rfl) ?_
      refine lv_iconst (v := nI 5) hx hb dX2_packFinals_7 (by decide) ?_
      refine jn_cge hx hb (by omega) (by decide) (tgt := 43) dX2_packFinals_8 (by decide) (fun c_8 => ?_) (fun c_8 => ?_)
      · refine lv_iconst (v := nI 0) hx hb dX2_packFinals_43 (by decide) ?_
        refine lv_istore (lv' := [(4, .int (nI 0)), (0, .ref (g.2.2.2 36)), (1, .ref (g.2.2.2 1)), (2, .int (nI (2 ^ n - 1))), (3, .int (nI pk))]) hx hb dX2_packFinals_44 hl (by decide) rfl (fun ls hl => ?_)
        have lp46 : ∀ (fu : Nat), ∀ (k : Nat) (pc2 : Nat → Nat), (k ≤ 8) → (∀ z, z < k → pc2 ((2 ^ n - 1) * 8 + z) = pk) → 8 - k < fu → ∀ (H : Heap) (locs : List Loc), va_P (g.1, g.2.1) vwCl (wC g (sA σ 21 pc2) ++ tl) H → va_D A (wC g (sA σ 21 pc2) ++ tl) → va_S A s.heap H locs → ∀ ls : Array Slot, lv_has ls 5 [(0, .ref (g.2.2.2 36)), (1, .ref (g.2.2.2 1)), (2, .int (nI (2 ^ n - 1))), (3, .int (nI pk)), (4, .int (nI k))] → W p l e r_c_X2_packFinals s m ([.ref (g.2.2.2 36), .ref (g.2.2.2 1), .int (nI (2 ^ n - 1))] : List Value).toArray below meth c H locs 0 0 Q (F0 m 46 ls []) := by
          intro fu
          induction fu with
          | zero => intro k pc2 h3 h4 hf; exact absurd hf (Nat.not_lt_zero _)
          | succ fu ih46 =>
            intro k pc2 h3 h4 hf H locs hP hD hS ls hl
            refine lv_iload hx hb dX2_packFinals_46 (lv_at hl 4 rfl) ?_
            refine lv_bipush (v := nI 8) hx hb dX2_packFinals_48 (by decide) ?_
            refine jn_cge hx hb (by omega) (by decide) (tgt := 67) dX2_packFinals_50 (by decide) (fun c_50 => ?_) (fun c_50 => ?_)
            · exact hq _ _ _ _ (pc2) dX2_packFinals_67 (fun z hz => by rw [h4 z (by omega), h2, show q = 5 by omega]) hP hD hS
            · refine lv_aload_n hx hb dX2_packFinals_53 rfl (lv_at hl 0 rfl) ?_
              refine lv_iload_n hx hb dX2_packFinals_54 rfl (lv_at hl 2 rfl) ?_
              refine lv_iload hx hb dX2_packFinals_55 (lv_at hl 4 rfl) ?_
              refine lv_iload_n hx hb dX2_packFinals_57 rfl (lv_at hl 3 rfl) ?_
              refine jn_callv (va_runV (As := [.int (nI (2 ^ n - 1)), .int (nI k), .int (nI pk)]) (rest := []) ⟨hx, hb, hml, hown, hts⟩ (c_X2_putCosts l g tl H.size (sA σ 21 pc2) (2 ^ n - 1) k pk (by omega) (by omega)) (cwV 3 hts gX2_packFinals_X2_putCosts rfl rfl rfl (by decide +kernel) ⟨Nat.le_of_ble_eq_true rfl, Nat.le_of_ble_eq_true rfl⟩) (okWV hK hP hD rfl (gC36 g (sA σ 21 pc2) tl)) rfl rfl hl.1 rfl (lv_room (Nat.le_of_ble_eq_true rfl)) dX2_packFinals_58 ⟨Nat.le_of_ble_eq_true rfl, Nat.le_of_ble_eq_true rfl⟩) hD hS hAA (fun u H locs hw_ hP hD hS => ?_)
              have hP : va_P (g.1, g.2.1) vwCl (wC g (sA (sA σ 21 pc2) 21 (va_up (pc2) ((2 ^ n - 1) * 8 + k) pk)) ++ tl) H := hP
              have hD : va_D A (wC g (sA (sA σ 21 pc2) 21 (va_up (pc2) ((2 ^ n - 1) * 8 + k) pk)) ++ tl) := hD
              refine lv_iinc (v := nI (k + 1)) (lv' := [(4, .int (nI (k + 1))), (0, .ref (g.2.2.2 36)), (1, .ref (g.2.2.2 1)), (2, .int (nI (2 ^ n - 1))), (3, .int (nI pk))]) hx hb dX2_packFinals_61 hl (k := 4) rfl (jn_ii _ 1) (by decide) rfl (fun ls hl => ?_)
              refine lv_goto (tgt := 46) hx hb dX2_packFinals_64 (by decide) ?_
              exact ih46 (k + 1) (va_up (pc2) ((2 ^ n - 1) * 8 + k) pk) (by omega) (fun z hz => by unfold va_up; split; { rfl }; { exact h4 z (by omega) }) (by omega) _ _ hP hD hS _ (lv_sub hl [1, 2, 3, 4, 0] rfl)
        exact lp46 _ 0 (σ.2.1 21) (by decide) (fun z hz => absurd hz (by omega)) (Nat.lt_succ_self _) _ _ hP hD hS _ (lv_sub hl [1, 2, 3, 4, 0] rfl)
      · refine lv_iload_n hx hb dX2_packFinals_11 rfl (lv_at hl 3 rfl) ?_
        refine lv_aload_n hx hb dX2_packFinals_12 rfl (lv_at hl 1 rfl) ?_
        refine lv_iconst (v := nI 1) hx hb dX2_packFinals_13 (by decide) ?_
        refine lv_iload hx hb dX2_packFinals_14 (lv_at hl 4 rfl) ?_
        refine jn_shl1 hx hb (by omega) dX2_packFinals_16 ?_
        refine vp_callSi (va_Run.run (va_runV (As := [.int (nI (2 ^ q))]) (rest := [.int (nI pk)]) ⟨hx, hb, hml, hown, hts⟩ (c_X0_accepting l g tl σ (2 ^ q) hA) (cwV 1 hts gX2_packFinals_X0_accepting rfl rfl rfl (by decide +kernel) ⟨Nat.le_of_ble_eq_true rfl, Nat.le_of_ble_eq_true rfl⟩) (okPV hK hP rfl (gC1 g σ tl)) rfl rfl hl.1 rfl (lv_room (Nat.le_of_ble_eq_true rfl)) dX2_packFinals_17 ⟨Nat.le_of_ble_eq_true rfl, Nat.le_of_ble_eq_true rfl⟩)) (fun r_17 h_17 => ?_)
        subst h_17
        have jp29 : ∀ v29 : Nat, v29 = (fin6 (σ.1 0) q) → W p l e r_c_X2_packFinals s m ([.ref (g.2.2.2 36), .ref (g.2.2.2 1), .int (nI (2 ^ n - 1))] : List Value).toArray below meth c H locs 0 0 Q (F0 m 29 ls [.int (nI v29), .int (nI pk)]) := by
          intro v29 ev29
          refine lv_bipush (v := nI 6) hx hb dX2_packFinals_29 (by decide) ?_
          refine lv_iload hx hb dX2_packFinals_31 (lv_at hl 4 rfl) ?_
          refine jn_imul hx hb dX2_packFinals_33 ?_
          refine jn_ishl hx hb (by omega) (by rw [ev29]; exact sh6 (fin6_lt _ _) (by omega)) dX2_packFinals_34 ?_
          refine jn_ior hx hb dX2_packFinals_35 ?_
          refine lv_istore_n (lv' := [(3, .int (nI (pk ||| (v29 * 2 ^ (6 * q))))), (0, .ref (g.2.2.2 36)), (1, .ref (g.2.2.2 1)), (2, .int (nI (2 ^ n - 1))), (4, .int (nI q))]) hx hb dX2_packFinals_36 rfl hl (by decide) rfl (fun ls hl => ?_)
          refine lv_iinc (v := nI (q + 1)) (lv' := [(4, .int (nI (q + 1))), (3, .int (nI (pk ||| (v29 * 2 ^ (6 * q))))), (0, .ref (g.2.2.2 36)), (1, .ref (g.2.2.2 1)), (2, .int (nI (2 ^ n - 1)))]) hx hb dX2_packFinals_37 hl (k := 4) rfl (jn_ii _ 1) (by decide) rfl (fun ls hl => ?_)
          refine lv_goto (tgt := 5) hx hb dX2_packFinals_40 (by decide) ?_
          exact ih5 (q + 1) (pk ||| (v29 * 2 ^ (6 * q))) (by omega) (by rw [h2, ev29, pkF_or (fun z _ => fin6_lt _ z)]) (by omega) _ _ hP hD hS _ (lv_sub hl [2, 3, 4, 1, 0] rfl)
        refine jn_beq hx hb (tgt := 27) dX2_packFinals_20 (by decide) (fun c_20 => ?_) (fun c_20 => ?_)
        · refine lv_bipush (v := nI 63) hx hb dX2_packFinals_27 (by decide) ?_
          exact jp29 63 (by show _ = ite _ _ _; rw [if_neg c_20])
        · refine lv_iconst (v := nI 0) hx hb dX2_packFinals_23 (by decide) ?_
          refine lv_goto (tgt := 29) hx hb dX2_packFinals_24 (by decide) ?_
          exact jp29 0 (by show _ = ite _ _ _; rw [if_pos c_20])
  exact lp5 _ 0 0 (by decide) rfl (Nat.lt_succ_self _) _ _ hP hD hS _ (lv_sub hl [2, 3, 4, 1, 0] rfl)

abbrev r_c_X2_costsBefore : Room := { frames := 2, cells := 0, slots := 0, locals := 47 }
set_option maxHeartbeats 4000000 in
set_option maxRecDepth 100000 in
theorem c_X2_costsBefore (l : Launch) (g : GC) (tl : va_W) (σ : SS) (st p0 mq : Nat) (hA : OkA σ) (hs : st < 256) (hp : p0 < 8) (hw : (σ.2.1 24) p0 < 3) (hm : mq < 32) (hpc : (σ.2.1 21) ((st ||| 2 ^ p0) * 8 + p0) < 1073741824) : Met l yX2_costsBefore wsX2_costsBefore r_c_X2_costsBefore (va_Pc [.ref (g.2.2.2 36), .ref (g.2.2.2 1), .int (nI st), .int (nI p0), .int (nI mq)] (PP g (wC g σ ++ tl))) (vp_Si (fun r => r = nI (pkF (cBf (σ.2.1 0) (σ.2.1 24) (σ.2.1 21) st p0 mq) 5))) 0 0 (fun _ => False) := by
  refine jn_pi (cc := cX2_costsBefore) (maxL := 9) (own := RX2) (by decide) rfl rfl (Nat.le_of_ble_eq_true rfl) ?_
  intro p e s m below meth c Q hx hb hml hown hts ⟨hP, hK⟩ hq ls hl
  have hl : lv_has ls 9 [(0, .ref (g.2.2.2 36)), (1, .ref (g.2.2.2 1)), (2, .int (nI st)), (3, .int (nI p0)), (4, .int (nI mq))] := hl
  have iX2 : ∀ w ∈ wsX20, w ∈ wsX2_costsBefore := by decide +kernel
  have k21 := hts (.fieldLink RX2 21 "JumpingAutomata$BestOrder" "letters" "[I") (by decide +kernel)
  have hor : st ||| 2 ^ p0 < 256 := or_lt8 (n := 8) hs hp
  refine lv_aload_n hx hb dX2_costsBefore_0 rfl (lv_at hl 0 rfl) ?_
  refine lv_iload_n hx hb dX2_costsBefore_1 rfl (lv_at hl 2 rfl) ?_
  refine lv_iconst (v := nI 1) hx hb dX2_costsBefore_2 (by decide) ?_
  refine lv_iload_n hx hb dX2_costsBefore_3 rfl (lv_at hl 3 rfl) ?_
  refine jn_shl1 hx hb (by omega) dX2_costsBefore_4 ?_
  refine jn_ior hx hb dX2_costsBefore_5 ?_
  refine lv_iload_n hx hb dX2_costsBefore_6 rfl (lv_at hl 3 rfl) ?_
  refine vp_callSi (va_Run.run (va_runV (As := [.int (nI (st ||| (2 ^ p0))), .int (nI p0)]) (rest := []) ⟨hx, hb, hml, hown, hts⟩ (c_X2_costsAt l g tl σ (st ||| (2 ^ p0)) p0 hor hp) (cwV 2 hts gX2_costsBefore_X2_costsAt rfl rfl rfl (by decide +kernel) ⟨Nat.le_of_ble_eq_true rfl, Nat.le_of_ble_eq_true rfl⟩) (okPV hK hP rfl (gC36 g σ tl)) rfl rfl hl.1 rfl (lv_room (Nat.le_of_ble_eq_true rfl)) dX2_costsBefore_7 ⟨Nat.le_of_ble_eq_true rfl, Nat.le_of_ble_eq_true rfl⟩)) (fun r_7 h_7 => ?_)
  subst h_7
  refine lv_istore (lv' := [(5, .int (nI ((σ.2.1 21) ((st ||| (2 ^ p0)) * 8 + p0)))), (0, .ref (g.2.2.2 36)), (1, .ref (g.2.2.2 1)), (2, .int (nI st)), (3, .int (nI p0)), (4, .int (nI mq))]) hx hb dX2_costsBefore_10 hl (by decide) rfl (fun ls hl => ?_)
  refine lv_iconst (v := nI 0) hx hb dX2_costsBefore_12 (by decide) ?_
  refine lv_istore (lv' := [(6, .int (nI 0)), (5, .int (nI ((σ.2.1 21) ((st ||| (2 ^ p0)) * 8 + p0)))), (0, .ref (g.2.2.2 36)), (1, .ref (g.2.2.2 1)), (2, .int (nI st)), (3, .int (nI p0)), (4, .int (nI mq))]) hx hb dX2_costsBefore_13 hl (by decide) rfl (fun ls hl => ?_)
  refine lv_iconst (v := nI 0) hx hb dX2_costsBefore_15 (by decide) ?_
  refine lv_istore (lv' := [(7, .int (nI 0)), (6, .int (nI 0)), (5, .int (nI ((σ.2.1 21) ((st ||| (2 ^ p0)) * 8 + p0)))), (0, .ref (g.2.2.2 36)), (1, .ref (g.2.2.2 1)), (2, .int (nI st)), (3, .int (nI p0)), (4, .int (nI mq))]) hx hb dX2_costsBefore_16 hl (by decide) rfl (fun ls hl => ?_)
  have lp18 : ∀ (fu : Nat), ∀ (q : Nat) (pk : Nat), (q ≤ 5) → (pk = pkF (cBf (σ.2.1 0) (σ.2.1 24) (σ.2.1 21) st p0 mq) q) → 5 - q < fu → ∀ ls : Array Slot, lv_has ls 9 [(0, .ref (g.2.2.2 36)), (1, .ref (g.2.2.2 1)), (2, .int (nI st)), (3, .int (nI p0)), (4, .int (nI mq)), (5, .int (nI ((σ.2.1 21) ((st ||| (2 ^ p0)) * 8 + p0)))), (6, .int (nI pk)), (7, .int (nI q))] → W p l e r_c_X2_costsBefore s m ([.ref (g.2.2.2 36), .ref (g.2.2.2 1), .int (nI st), .int (nI p0), .int (nI mq)] : List Value).toArray below meth c s.heap [] 0 0 Q (F0 m 18 ls []) := by
    intro fu
    induction fu with
    | zero => intro q pk h1 h2 hf; exact absurd hf (Nat.not_lt_zero _)
    | succ fu ih18 =>
      intro q pk h1 h2 hf ls hl
      refine lv_iload hx hb dX2_costsBefore_18 (lv_at hl 7 rfl) ?_
      refine lv_iconst (v := nI 5) hx hb dX2_costsBefore_20 (by decide) ?_
      refine jn_cge hx hb (by omega) (by decide) (tgt := 76) dX2_costsBefore_21 (by decide) (fun c_21 => ?_) (fun c_21 => ?_)
      · refine lv_iload hx hb dX2_costsBefore_76 (lv_at hl 6 rfl) ?_
        exact hq _ _ ((nI pk)) dX2_costsBefore_78 (by rw [h2, show q = 5 by omega])
      · refine lv_iload hx hb dX2_costsBefore_24 (lv_at hl 4 rfl) ?_
        refine lv_iload hx hb dX2_costsBefore_26 (lv_at hl 7 rfl) ?_
        refine jn_ishr hx hb (by omega) (by omega) dX2_costsBefore_28 ?_
        refine lv_iconst (v := nI 1) hx hb dX2_costsBefore_29 (by decide) ?_
        refine jn_and1 hx hb dX2_costsBefore_30 ?_
        have jp50 : ∀ v50 : Nat, v50 = (if Nat.testBit mq q = true then (σ.2.1 0) (q * 3 + (σ.2.1 24) p0) else 0) → W p l e r_c_X2_costsBefore s m ([.ref (g.2.2.2 36), .ref (g.2.2.2 1), .int (nI st), .int (nI p0), .int (nI mq)] : List Value).toArray below meth c s.heap [] 0 0 Q (F0 m 50 ls [.int (nI v50)]) := by
          intro v50 ev50
          have v32 : v50 < 32 := by rw [ev50]; split; { exact hA.1 _ (by omega) }; { decide }
          refine lv_istore (lv' := [(8, .int (nI v50)), (0, .ref (g.2.2.2 36)), (1, .ref (g.2.2.2 1)), (2, .int (nI st)), (3, .int (nI p0)), (4, .int (nI mq)), (5, .int (nI ((σ.2.1 21) ((st ||| (2 ^ p0)) * 8 + p0)))), (6, .int (nI pk)), (7, .int (nI q))]) hx hb dX2_costsBefore_50 hl (by decide) rfl (fun ls hl => ?_)
          refine lv_iload hx hb dX2_costsBefore_52 (lv_at hl 7 rfl) ?_
          refine lv_iload hx hb dX2_costsBefore_54 (lv_at hl 6 rfl) ?_
          refine lv_iload hx hb dX2_costsBefore_56 (lv_at hl 0 rfl) ?_
          refine vp_callSi (va_Run.run (va_runS (As := [.int (nI ((σ.2.1 21) ((st ||| (2 ^ p0)) * 8 + p0))), .int (nI v50)]) (rest := [.int (nI pk)]) ⟨hx, hb, hml, hown, hts⟩ (c_X2_leastOf l ((σ.2.1 21) ((st ||| (2 ^ p0)) * 8 + p0)) v50 (by omega) v32) (va_cwS 2 hts gX2_costsBefore_X2_leastOf rfl rfl rfl (by decide +kernel) ⟨Nat.le_of_ble_eq_true rfl, Nat.le_of_ble_eq_true rfl⟩) okTS rfl rfl hl.1 rfl (lv_room (Nat.le_of_ble_eq_true rfl)) dX2_costsBefore_58 ⟨Nat.le_of_ble_eq_true rfl, Nat.le_of_ble_eq_true rfl⟩)) (fun r_58 h_58 => ?_)
          subst h_58
          refine lv_bipush (v := nI 6) hx hb dX2_costsBefore_61 (by decide) ?_
          refine lv_iload hx hb dX2_costsBefore_63 (lv_at hl 8 rfl) ?_
          refine jn_imul hx hb dX2_costsBefore_65 ?_
          refine jn_ishl hx hb (by omega) (sh6 (Nat.lt_succ_of_le (lstF_le _ _ _)) (by omega)) dX2_costsBefore_66 ?_
          refine jn_ior hx hb dX2_costsBefore_67 ?_
          refine lv_istore (lv' := [(6, .int (nI (pk ||| ((lst (fun q => at6 ((σ.2.1 21) ((st ||| (2 ^ p0)) * 8 + p0)) q) v50) * 2 ^ (6 * q))))), (8, .int (nI v50)), (0, .ref (g.2.2.2 36)), (1, .ref (g.2.2.2 1)), (2, .int (nI st)), (3, .int (nI p0)), (4, .int (nI mq)), (5, .int (nI ((σ.2.1 21) ((st ||| (2 ^ p0)) * 8 + p0)))), (7, .int (nI q))]) hx hb dX2_costsBefore_68 hl (by decide) rfl (fun ls hl => ?_)
          refine lv_iinc (v := nI (q + 1)) (lv' := [(7, .int (nI (q + 1))), (6, .int (nI (pk ||| ((lst (fun q => at6 ((σ.2.1 21) ((st ||| (2 ^ p0)) * 8 + p0)) q) v50) * 2 ^ (6 * q))))), (8, .int (nI v50)), (0, .ref (g.2.2.2 36)), (1, .ref (g.2.2.2 1)), (2, .int (nI st)), (3, .int (nI p0)), (4, .int (nI mq)), (5, .int (nI ((σ.2.1 21) ((st ||| (2 ^ p0)) * 8 + p0))))]) hx hb dX2_costsBefore_70 hl (k := 8) rfl (jn_ii _ 1) (by decide) rfl (fun ls hl => ?_)
          refine lv_goto (tgt := 18) hx hb dX2_costsBefore_73 (by decide) ?_
          exact ih18 (q + 1) (pk ||| ((lst (fun q => at6 ((σ.2.1 21) ((st ||| (2 ^ p0)) * 8 + p0)) q) v50) * 2 ^ (6 * q))) (by omega) (by rw [h2, ev50]; exact pkF_or (c := (cBf (σ.2.1 0) (σ.2.1 24) (σ.2.1 21) st p0 mq)) (fun z _ => cBf_lt _ _ _ _ _ _ z)) (by omega) _ (lv_sub hl [3, 4, 5, 6, 7, 8, 1, 0] rfl)
        refine jn_beq hx hb (tgt := 49) dX2_costsBefore_31 (by decide) (fun c_31 => ?_) (fun c_31 => ?_)
        · refine lv_iconst (v := nI 0) hx hb dX2_costsBefore_49 (by decide) ?_
          exact jp50 0 (by rw [if_neg c_31])
        · refine lv_aload_n hx hb dX2_costsBefore_34 rfl (lv_at hl 1 rfl) ?_
          refine lv_iload hx hb dX2_costsBefore_35 (lv_at hl 7 rfl) ?_
          refine lv_aload_n hx hb dX2_costsBefore_37 rfl (lv_at hl 0 rfl) ?_
          refine va_get (D := (g.1, g.2.1)) (ci := 4) (v := .ref (g.2.2.2 40)) (C := RX2) (T := TX2) (N := 7) hx hb hts iX2 hown hK.1 hP 36 (gC36 g σ tl) rfl 3 (by decide) k21 (fun _ h9 => h9) rfl dX2_costsBefore_38 ?_
          refine lv_iload_n hx hb dX2_costsBefore_41 rfl (lv_at hl 3 rfl) ?_
          refine jn_iald (f := σ.2.1 24) hx hb hK.1 hP 40 0 (gC40 g σ tl) rfl (by omega) (Nat.le_of_ble_eq_true rfl) dX2_costsBefore_42 ?_
          refine vp_callSi (va_Run.run (va_runV (As := [.int (nI q), .int (nI ((σ.2.1 24) p0))]) (rest := []) ⟨hx, hb, hml, hown, hts⟩ (c_X0_targetsOf l g tl σ q ((σ.2.1 24) p0) hA (by omega) hw) (cwV 2 hts gX2_costsBefore_X0_targetsOf rfl rfl rfl (by decide +kernel) ⟨Nat.le_of_ble_eq_true rfl, Nat.le_of_ble_eq_true rfl⟩) (okPV hK hP rfl (gC1 g σ tl)) rfl rfl hl.1 rfl (lv_room (Nat.le_of_ble_eq_true rfl)) dX2_costsBefore_43 ⟨Nat.le_of_ble_eq_true rfl, Nat.le_of_ble_eq_true rfl⟩)) (fun r_43 h_43 => ?_)
          subst h_43
          refine lv_goto (tgt := 50) hx hb dX2_costsBefore_46 (by decide) ?_
          exact jp50 (σ.2.1 0 (q * 3 + ((σ.2.1 24) p0))) (by rw [if_pos c_31])
  exact lp18 _ 0 0 (by decide) rfl (Nat.lt_succ_self _) _ (lv_sub hl [3, 4, 5, 6, 7, 2, 1, 0] rfl)

abbrev r_c_X2_costsFrom : Room := { frames := 1, cells := 0, slots := 0, locals := 24 }
set_option maxHeartbeats 4000000 in
set_option maxRecDepth 100000 in
theorem c_X2_costsFrom (l : Launch) (g : GC) (tl : va_W) (σ : SS) (n st la mq : Nat) (hl4 : σ.1 4 = n) (hn : n ≤ 8) (hs : st < 256) (hl5 : la < 8) (hm : mq < 32) (hb5 : ∀ p, p < n → ¬ st.testBit p = true → (σ.2.1 23) p < 1073741824) : Met l yX2_costsFrom wsX2_costsFrom r_c_X2_costsFrom (va_Pc [.ref (g.2.2.2 36), .int (nI st), .int (nI la), .int (nI mq)] (PP g (wC g σ ++ tl))) (vp_Si (fun r => r = nI (pkF (cFm (σ.2.1 23) n st la mq) 5))) 0 0 (fun _ => False) := by
  refine jn_pi (cc := cX2_costsFrom) (maxL := 8) (own := RX2) (by decide) rfl rfl (Nat.le_of_ble_eq_true rfl) ?_
  intro p e s m below meth c Q hx hb hml hown hts ⟨hP, hK⟩ hq ls hl
  have hl : lv_has ls 8 [(0, .ref (g.2.2.2 36)), (1, .int (nI st)), (2, .int (nI la)), (3, .int (nI mq))] := hl
  have iX2 : ∀ w ∈ wsX20, w ∈ wsX2_costsFrom := by decide +kernel
  have k24 := hts (.fieldLink RX2 24 "JumpingAutomata$BestOrder" "length" "I") (by decide +kernel)
  have k18 := hts (.fieldLink RX2 18 "JumpingAutomata$BestOrder" "before" "[I") (by decide +kernel)
  refine lv_iconst (v := nI 0) hx hb dX2_costsFrom_0 (by decide) ?_
  refine lv_istore (lv' := [(4, .int (nI 0)), (0, .ref (g.2.2.2 36)), (1, .int (nI st)), (2, .int (nI la)), (3, .int (nI mq))]) hx hb dX2_costsFrom_1 hl (by decide) rfl (fun ls hl => ?_)
  refine lv_iconst (v := nI 0) hx hb dX2_costsFrom_3 (by decide) ?_
  refine lv_istore (lv' := [(5, .int (nI 0)), (4, .int (nI 0)), (0, .ref (g.2.2.2 36)), (1, .int (nI st)), (2, .int (nI la)), (3, .int (nI mq))]) hx hb dX2_costsFrom_4 hl (by decide) rfl (fun ls hl => ?_)
  have lp6 : ∀ (fu : Nat), ∀ (q : Nat) (pk : Nat), (q ≤ 5) → (pk = pkF (cFm (σ.2.1 23) n st la mq) q) → 5 - q < fu → ∀ ls : Array Slot, lv_has ls 8 [(0, .ref (g.2.2.2 36)), (1, .int (nI st)), (2, .int (nI la)), (3, .int (nI mq)), (4, .int (nI pk)), (5, .int (nI q))] → W p l e r_c_X2_costsFrom s m ([.ref (g.2.2.2 36), .int (nI st), .int (nI la), .int (nI mq)] : List Value).toArray below meth c s.heap [] 0 0 Q (F0 m 6 ls []) := by
    intro fu
    induction fu with
    | zero => intro q pk h1 h2 hf; exact absurd hf (Nat.not_lt_zero _)
    | succ fu ih6 =>
      intro q pk h1 h2 hf ls hl
      refine lv_iload hx hb dX2_costsFrom_6 (lv_at hl 5 rfl) ?_
      refine lv_iconst (v := nI 5) hx hb dX2_costsFrom_8 (by decide) ?_
      refine jn_cge hx hb (by omega) (by decide) (tgt := 105) dX2_costsFrom_9 (by decide) (fun c_9 => ?_) (fun c_9 => ?_)
      · refine lv_iload hx hb dX2_costsFrom_105 (lv_at hl 4 rfl) ?_
        exact hq _ _ ((nI pk)) dX2_costsFrom_107 (by rw [h2, show q = 5 by omega])
      · refine lv_bipush (v := nI 63) hx hb dX2_costsFrom_12 (by decide) ?_
        refine lv_istore (lv' := [(6, .int (nI 63)), (0, .ref (g.2.2.2 36)), (1, .int (nI st)), (2, .int (nI la)), (3, .int (nI mq)), (4, .int (nI pk)), (5, .int (nI q))]) hx hb dX2_costsFrom_14 hl (by decide) rfl (fun ls hl => ?_)
        refine lv_iload_n hx hb dX2_costsFrom_16 rfl (lv_at hl 4 rfl) ?_
        refine lv_iload hx hb dX2_costsFrom_17 (lv_at hl 6 rfl) ?_
        refine jn_ishr hx hb (by omega) (by omega) dX2_costsFrom_19 ?_
        refine lv_iconst (v := nI 1) hx hb dX2_costsFrom_20 (by decide) ?_
        refine jn_and1 hx hb dX2_costsFrom_21 ?_
        refine jn_beq hx hb (tgt := 86) dX2_costsFrom_22 (by decide) (fun c_22 => ?_) (fun c_22 => ?_)
        · have ecm : 63 = (cFm (σ.2.1 23) n st la mq) q := by unfold cFm; rw [if_neg c_22]
          refine lv_iload hx hb dX2_costsFrom_86 (lv_at hl 5 rfl) ?_
          refine lv_iload hx hb dX2_costsFrom_88 (lv_at hl 0 rfl) ?_
          refine lv_bipush (v := nI 6) hx hb dX2_costsFrom_90 (by decide) ?_
          refine lv_iload hx hb dX2_costsFrom_92 (lv_at hl 6 rfl) ?_
          refine jn_imul hx hb dX2_costsFrom_94 ?_
          refine jn_ishl hx hb (by omega) (by rw [ecm]; exact sh6 (cFm_lt _ _ _ _ _ _) (by omega)) dX2_costsFrom_95 ?_
          refine jn_ior hx hb dX2_costsFrom_96 ?_
          refine lv_istore (lv' := [(4, .int (nI (pk ||| (63 * 2 ^ (6 * q))))), (6, .int (nI 63)), (0, .ref (g.2.2.2 36)), (1, .int (nI st)), (2, .int (nI la)), (3, .int (nI mq)), (5, .int (nI q))]) hx hb dX2_costsFrom_97 hl (by decide) rfl (fun ls hl => ?_)
          refine lv_iinc (v := nI (q + 1)) (lv' := [(5, .int (nI (q + 1))), (4, .int (nI (pk ||| (63 * 2 ^ (6 * q))))), (6, .int (nI 63)), (0, .ref (g.2.2.2 36)), (1, .int (nI st)), (2, .int (nI la)), (3, .int (nI mq))]) hx hb dX2_costsFrom_99 hl (k := 6) rfl (jn_ii _ 1) (by decide) rfl (fun ls hl => ?_)
          refine lv_goto (tgt := 6) hx hb dX2_costsFrom_102 (by decide) ?_
          exact ih6 (q + 1) (pk ||| (63 * 2 ^ (6 * q))) (by omega) (by rw [h2, ecm]; exact pkF_or (c := (cFm (σ.2.1 23) n st la mq)) (fun z _ => cFm_lt _ _ _ _ _ z)) (by omega) _ (lv_sub hl [3, 4, 5, 6, 1, 0] rfl)
        · refine lv_iconst (v := nI 0) hx hb dX2_costsFrom_25 (by decide) ?_
          refine lv_istore (lv' := [(7, .int (nI 0)), (6, .int (nI 63)), (0, .ref (g.2.2.2 36)), (1, .int (nI st)), (2, .int (nI la)), (3, .int (nI mq)), (4, .int (nI pk)), (5, .int (nI q))]) hx hb dX2_costsFrom_26 hl (by decide) rfl (fun ls hl => ?_)
          have lp28 : ∀ (fu : Nat), ∀ (p0 : Nat) (le : Nat), (p0 ≤ n) → (le = stF (fun p => adf la p + at6 ((σ.2.1 23) p) q) st p0) → n - p0 < fu → ∀ ls : Array Slot, lv_has ls 8 [(0, .ref (g.2.2.2 36)), (1, .int (nI st)), (2, .int (nI la)), (3, .int (nI mq)), (4, .int (nI pk)), (5, .int (nI q)), (6, .int (nI le)), (7, .int (nI p0))] → W p l e r_c_X2_costsFrom s m ([.ref (g.2.2.2 36), .int (nI st), .int (nI la), .int (nI mq)] : List Value).toArray below meth c s.heap [] 0 0 Q (F0 m 28 ls []) := by
            intro fu
            induction fu with
            | zero => intro p0 le h3 h4 hf; exact absurd hf (Nat.not_lt_zero _)
            | succ fu ih28 =>
              intro p0 le h3 h4 hf ls hl
              have le63 : le ≤ 63 := by rw [h4]; exact stF_le _ _ _
              refine lv_iload hx hb dX2_costsFrom_28 (lv_at hl 7 rfl) ?_
              refine lv_aload_n hx hb dX2_costsFrom_30 rfl (lv_at hl 0 rfl) ?_
              refine va_get (D := (g.1, g.2.1)) (ci := 4) (v := .int (nI (σ.1 4))) (C := RX2) (T := TX2) (N := 7) hx hb hts iX2 hown hK.1 hP 36 (gC36 g σ tl) rfl 4 (by decide) k24 (fun _ h9 => h9) rfl dX2_costsFrom_31 ?_
              refine jn_cge hx hb (by omega) (by omega) (tgt := 86) dX2_costsFrom_34 (by decide) (fun c_34 => ?_) (fun c_34 => ?_)
              · have ecm : le = (cFm (σ.2.1 23) n st la mq) q := by unfold cFm; rw [if_pos c_22, h4, show p0 = n by omega]
                refine lv_iload hx hb dX2_costsFrom_86 (lv_at hl 4 rfl) ?_
                refine lv_iload hx hb dX2_costsFrom_88 (lv_at hl 6 rfl) ?_
                refine lv_bipush (v := nI 6) hx hb dX2_costsFrom_90 (by decide) ?_
                refine lv_iload hx hb dX2_costsFrom_92 (lv_at hl 5 rfl) ?_
                refine jn_imul hx hb dX2_costsFrom_94 ?_
                refine jn_ishl hx hb (by omega) (by rw [ecm]; exact sh6 (cFm_lt _ _ _ _ _ _) (by omega)) dX2_costsFrom_95 ?_
                refine jn_ior hx hb dX2_costsFrom_96 ?_
                refine lv_istore (lv' := [(4, .int (nI (pk ||| (le * 2 ^ (6 * q))))), (0, .ref (g.2.2.2 36)), (1, .int (nI st)), (2, .int (nI la)), (3, .int (nI mq)), (5, .int (nI q)), (6, .int (nI le)), (7, .int (nI p0))]) hx hb dX2_costsFrom_97 hl (by decide) rfl (fun ls hl => ?_)
                refine lv_iinc (v := nI (q + 1)) (lv' := [(5, .int (nI (q + 1))), (4, .int (nI (pk ||| (le * 2 ^ (6 * q))))), (0, .ref (g.2.2.2 36)), (1, .int (nI st)), (2, .int (nI la)), (3, .int (nI mq)), (6, .int (nI le)), (7, .int (nI p0))]) hx hb dX2_costsFrom_99 hl (k := 5) rfl (jn_ii _ 1) (by decide) rfl (fun ls hl => ?_)
                refine lv_goto (tgt := 6) hx hb dX2_costsFrom_102 (by decide) ?_
                exact ih6 (q + 1) (pk ||| (le * 2 ^ (6 * q))) (by omega) (by rw [h2, ecm]; exact pkF_or (c := (cFm (σ.2.1 23) n st la mq)) (fun z _ => cFm_lt _ _ _ _ _ z)) (by omega) _ (lv_sub hl [2, 3, 4, 5, 1, 0] rfl)
              · refine lv_iload hx hb dX2_costsFrom_37 (lv_at hl 7 rfl) ?_
                refine lv_bipush (v := nI 8) hx hb dX2_costsFrom_39 (by decide) ?_
                refine jn_cge hx hb (by omega) (by decide) (tgt := 86) dX2_costsFrom_41 (by decide) (fun c_41 => absurd c_41 (by omega)) (fun c_41 => ?_)
                refine lv_iload_n hx hb dX2_costsFrom_44 rfl (lv_at hl 1 rfl) ?_
                refine lv_iload hx hb dX2_costsFrom_45 (lv_at hl 7 rfl) ?_
                refine jn_ishr hx hb (by omega) (by omega) dX2_costsFrom_47 ?_
                refine lv_iconst (v := nI 1) hx hb dX2_costsFrom_48 (by decide) ?_
                refine jn_and1 hx hb dX2_costsFrom_49 ?_
                refine jn_bne hx hb (tgt := 80) dX2_costsFrom_50 (by decide) (fun c_50 => ?_) (fun c_50 => ?_)
                · refine lv_iinc (v := nI (p0 + 1)) (lv' := [(7, .int (nI (p0 + 1))), (0, .ref (g.2.2.2 36)), (1, .int (nI st)), (2, .int (nI la)), (3, .int (nI mq)), (4, .int (nI pk)), (5, .int (nI q)), (6, .int (nI le))]) hx hb dX2_costsFrom_80 hl (k := 7) rfl (jn_ii _ 1) (by decide) rfl (fun ls hl => ?_)
                  refine lv_goto (tgt := 28) hx hb dX2_costsFrom_83 (by decide) ?_
                  exact ih28 (p0 + 1) le (by omega) (by rw [h4]; first | rw [stF, if_pos c_50] | rw [stF, if_neg c_50]) (by omega) _ (lv_sub hl [1, 2, 3, 4, 5, 6, 7, 0] rfl)
                · refine lv_iload hx hb dX2_costsFrom_53 (lv_at hl 6 rfl) ?_
                  refine lv_iload_n hx hb dX2_costsFrom_55 rfl (lv_at hl 2 rfl) ?_
                  refine lv_iload hx hb dX2_costsFrom_56 (lv_at hl 7 rfl) ?_
                  refine lv_isub hx hb dX2_costsFrom_58 ?_
                  refine jn_abs hx hb (hml.trans hl.1.symm) hown (hts (.methodLink RX2 88 Lib.Math.abs.name) (by decide +kernel)) (hts (.static Lib.Math.abs.name) (by decide +kernel)) (hts (.initialized "java/lang/Math") (by decide +kernel)) (hts (.code Lib.Math.abs.name Lib.Math.abs.code 1 (some .int)) (by decide +kernel)) (Nat.le_of_ble_eq_true rfl) (Nat.le_of_ble_eq_true rfl) (Nat.le_of_ble_eq_true rfl) (Nat.le_of_ble_eq_true rfl) (by omega) (by omega) dX2_costsFrom_59 ?_
                  refine lv_aload_n hx hb dX2_costsFrom_62 rfl (lv_at hl 0 rfl) ?_
                  refine va_get (D := (g.1, g.2.1)) (ci := 4) (v := .ref (g.2.2.2 39)) (C := RX2) (T := TX2) (N := 7) hx hb hts iX2 hown hK.1 hP 36 (gC36 g σ tl) rfl 2 (by decide) k18 (fun _ h9 => h9) rfl dX2_costsFrom_63 ?_
                  refine lv_iload hx hb dX2_costsFrom_66 (lv_at hl 7 rfl) ?_
                  refine jn_iald (f := σ.2.1 23) hx hb hK.1 hP 39 0 (gC39 g σ tl) rfl (by omega) (Nat.le_of_ble_eq_true rfl) dX2_costsFrom_68 ?_
                  refine lv_iload hx hb dX2_costsFrom_69 (lv_at hl 5 rfl) ?_
                  refine vp_callSi (va_Run.run (va_runS (As := [.int (nI ((σ.2.1 23) p0)), .int (nI q)]) (rest := [.int (nI ((la - p0) + (p0 - la))), .int (nI le)]) ⟨hx, hb, hml, hown, hts⟩ (c_X2_costOf l ((σ.2.1 23) p0) q (by have := hb5 p0 (by omega) c_50; omega) (by omega)) (va_cwS 2 hts gX2_costsFrom_X2_costOf rfl rfl rfl (by decide +kernel) ⟨Nat.le_of_ble_eq_true rfl, Nat.le_of_ble_eq_true rfl⟩) okTS rfl rfl hl.1 rfl (lv_room (Nat.le_of_ble_eq_true rfl)) dX2_costsFrom_71 ⟨Nat.le_of_ble_eq_true rfl, Nat.le_of_ble_eq_true rfl⟩)) (fun r_71 h_71 => ?_)
                  subst h_71
                  refine jn_iadd hx hb dX2_costsFrom_74 ?_
                  refine jn_min hx hb (hml.trans hl.1.symm) hown (hts (.methodLink RX2 94 Lib.Math.min.name) (by decide +kernel)) (hts (.static Lib.Math.min.name) (by decide +kernel)) (hts (.initialized "java/lang/Math") (by decide +kernel)) (hts (.code Lib.Math.min.name Lib.Math.min.code 2 (some .int)) (by decide +kernel)) (Nat.le_of_ble_eq_true rfl) (Nat.le_of_ble_eq_true rfl) (Nat.le_of_ble_eq_true rfl) (Nat.le_of_ble_eq_true rfl) (by omega) (by have := at6_lt ((σ.2.1 23) p0) q; omega) dX2_costsFrom_75 ?_
                  refine lv_istore (lv' := [(6, .int (nI (min le (((la - p0) + (p0 - la)) + (at6 ((σ.2.1 23) p0) q))))), (0, .ref (g.2.2.2 36)), (1, .int (nI st)), (2, .int (nI la)), (3, .int (nI mq)), (4, .int (nI pk)), (5, .int (nI q)), (7, .int (nI p0))]) hx hb dX2_costsFrom_78 hl (by decide) rfl (fun ls hl => ?_)
                  refine lv_iinc (v := nI (p0 + 1)) (lv' := [(7, .int (nI (p0 + 1))), (6, .int (nI (min le (((la - p0) + (p0 - la)) + (at6 ((σ.2.1 23) p0) q))))), (0, .ref (g.2.2.2 36)), (1, .int (nI st)), (2, .int (nI la)), (3, .int (nI mq)), (4, .int (nI pk)), (5, .int (nI q))]) hx hb dX2_costsFrom_80 hl (k := 7) rfl (jn_ii _ 1) (by decide) rfl (fun ls hl => ?_)
                  refine lv_goto (tgt := 28) hx hb dX2_costsFrom_83 (by decide) ?_
                  exact ih28 (p0 + 1) (min le (((la - p0) + (p0 - la)) + (at6 ((σ.2.1 23) p0) q))) (by omega) (by rw [h4]; first | rw [stF, if_pos c_50] | rw [stF, if_neg c_50]) (by omega) _ (lv_sub hl [2, 3, 4, 5, 6, 7, 1, 0] rfl)
          exact lp28 _ 0 63 (by omega) rfl (Nat.lt_succ_self _) _ (lv_sub hl [2, 3, 4, 5, 6, 7, 1, 0] rfl)
  exact lp6 _ 0 0 (by decide) rfl (Nat.lt_succ_self _) _ (lv_sub hl [2, 3, 4, 5, 1, 0] rfl)
