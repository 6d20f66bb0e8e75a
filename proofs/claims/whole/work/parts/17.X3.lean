abbrev r_c_X3_placeOf : Room := { frames := 0, cells := 0, slots := 0, locals := 0 }
set_option maxHeartbeats 4000000 in
set_option maxRecDepth 100000 in
theorem c_X3_placeOf (l : Launch) (s2 ln : Nat) : Met l yX3_placeOf wsX3_placeOf r_c_X3_placeOf (va_Pc [.int (nI s2), .int (nI ln)] (fun _ => True)) (vp_Si (fun r => r = nI (s2 * 21 + 1 + ln * 5))) 0 0 (fun _ => False) := by
  refine jn_pi (cc := cX3_placeOf) (maxL := 2) (own := RX3) (by decide) rfl rfl (Nat.le_of_ble_eq_true rfl) ?_
  intro p e s m below meth c Q hx hb hml hown hts _ hq ls hl
  have hl : lv_has ls 2 [(0, .int (nI s2)), (1, .int (nI ln))] := hl
  refine lv_iload_n hx hb dX3_placeOf_0 rfl (lv_at hl 0 rfl) ?_
  refine lv_bipush (v := nI 21) hx hb dX3_placeOf_1 (by decide) ?_
  refine jn_imul hx hb dX3_placeOf_3 ?_
  refine lv_iconst (v := nI 1) hx hb dX3_placeOf_4 (by decide) ?_
  refine jn_iadd hx hb dX3_placeOf_5 ?_
  refine lv_iload_n hx hb dX3_placeOf_6 rfl (lv_at hl 1 rfl) ?_
  refine lv_iconst (v := nI 5) hx hb dX3_placeOf_7 (by decide) ?_
  refine jn_imul hx hb dX3_placeOf_8 ?_
  refine jn_iadd hx hb dX3_placeOf_9 ?_
  exact hq _ _ ((nI (((s2 * 21) + 1) + (ln * 5)))) dX3_placeOf_10 rfl

abbrev r_c_X3_linearCount : Room := { frames := 1, cells := 0, slots := 0, locals := 20 }
set_option maxHeartbeats 4000000 in
set_option maxRecDepth 100000 in
theorem c_X3_linearCount (l : Launch) (g : GC) (tl : va_W) (σ : SS) (s2 : Nat) (hC : OkC (σ.2.1 2)) (hs : s2 < 4294967296) : Met l yX3_linearCount wsX3_linearCount r_c_X3_linearCount (va_Pc [.ref (g.2.2.2 4), .int (nI s2)] (PP g (wC g σ ++ tl))) (vp_Si (fun r => r = nI (if s2 < 2 then (σ.2.1 2) (s2 * 21) else 0))) 0 0 (fun _ => False) := by
  refine jn_pi (cc := cX3_linearCount) (maxL := 2) (own := RX3) (by decide) rfl rfl (Nat.le_of_ble_eq_true rfl) ?_
  intro p e s m below meth c Q hx hb hml hown hts ⟨hP, hK⟩ hq ls hl
  have hl : lv_has ls 2 [(0, .ref (g.2.2.2 4)), (1, .int (nI s2))] := hl
  have iX3 : ∀ w ∈ wsX30, w ∈ wsX3_linearCount := by decide +kernel
  have k11 := hts (.fieldLink RX3 11 "JumpingAutomata$CountingSets" "cells" "[I") (by decide +kernel)
  refine lv_iload_n hx hb dX3_linearCount_0 rfl (lv_at hl 1 rfl) ?_
  refine vp_callSi (va_Run.run (va_runSN (As := [.int (nI s2)]) (rest := []) ⟨hx, hb, hml, hown, hts⟩ (c_X10_isSet l s2 (by omega)) ⟨(va_cnB 1 hts gX3_linearCount_X10_isSet_n15 rfl rfl rfl (hK.2 _ (List.mem_of_getElem? (i := 24) rfl)) (hts (.initialized RX10) (by decide +kernel)) (by decide +kernel) ⟨Nat.le_of_ble_eq_true rfl, Nat.le_of_ble_eq_true rfl⟩), hts (.static yX10_isSet) (by decide +kernel), trivial⟩ okTS rfl rfl hl.1 rfl (lv_room (Nat.le_of_ble_eq_true rfl)) dX3_linearCount_1 ⟨Nat.le_of_ble_eq_true rfl, Nat.le_of_ble_eq_true rfl⟩)) (fun r_1 h_1 => ?_)
  subst h_1
  refine jn_beq hx hb (tgt := 19) dX3_linearCount_4 (by decide) (fun c_4 => ?_) (fun c_4 => ?_)
  · refine lv_iconst (v := nI 0) hx hb dX3_linearCount_19 (by decide) ?_
    exact hq _ _ ((nI 0)) dX3_linearCount_20 (by first | rw [if_pos (by omega)] | rw [if_neg (by omega)])
  · refine lv_aload_n hx hb dX3_linearCount_7 rfl (lv_at hl 0 rfl) ?_
    refine va_get (D := (g.1, g.2.1)) (ci := 5) (v := .ref (g.2.2.2 5)) (C := RX3) (T := TX3) (N := 1) hx hb hts iX3 hown hK.1 hP 4 (gC4 g σ tl) rfl 0 (by decide) k11 (fun _ h9 => h9) rfl dX3_linearCount_8 ?_
    refine lv_iload_n hx hb dX3_linearCount_11 rfl (lv_at hl 1 rfl) ?_
    refine lv_bipush (v := nI 21) hx hb dX3_linearCount_12 (by decide) ?_
    refine jn_imul hx hb dX3_linearCount_14 ?_
    refine jn_iald (f := σ.2.1 2) hx hb hK.1 hP 5 0 (gC5 g σ tl) rfl (by omega) (Nat.le_of_ble_eq_true rfl) dX3_linearCount_15 ?_
    refine lv_goto (tgt := 20) hx hb dX3_linearCount_16 (by decide) ?_
    exact hq _ _ ((nI ((σ.2.1 2) (s2 * 21)))) dX3_linearCount_20 (by first | rw [if_pos (by omega)] | rw [if_neg (by omega)])

abbrev r_c_X3_hasLinear : Room := { frames := 1, cells := 0, slots := 0, locals := 20 }
set_option maxHeartbeats 4000000 in
set_option maxRecDepth 100000 in
theorem c_X3_hasLinear (l : Launch) (g : GC) (tl : va_W) (σ : SS) (s2 ln : Nat) (hC : OkC (σ.2.1 2)) (hs : s2 < 4294967296) (ht : ln < 4294967296) : Met l yX3_hasLinear wsX3_hasLinear r_c_X3_hasLinear (va_Pc [.ref (g.2.2.2 4), .int (nI s2), .int (nI ln)] (PP g (wC g σ ++ tl))) (vp_Si (fun r => r = nI (if s2 < 2 ∧ ln < (σ.2.1 2) (s2 * 21) then 1 else 0))) 0 0 (fun _ => False) := by
  refine jn_pz (cc := cX3_hasLinear) (maxL := 3) (own := RX3) (by decide) rfl rfl (Nat.le_of_ble_eq_true rfl) ?_
  intro p e s m below meth c Q hx hb hml hown hts ⟨hP, hK⟩ hq ls hl
  have hl : lv_has ls 3 [(0, .ref (g.2.2.2 4)), (1, .int (nI s2)), (2, .int (nI ln))] := hl
  have iX3 : ∀ w ∈ wsX30, w ∈ wsX3_hasLinear := by decide +kernel
  have k11 := hts (.fieldLink RX3 11 "JumpingAutomata$CountingSets" "cells" "[I") (by decide +kernel)
  have hc4 : s2 < 2 → (σ.2.1 2) (s2 * 21) ≤ 4 := fun q => (hC s2 q).1
  refine lv_iload_n hx hb dX3_hasLinear_0 rfl (lv_at hl 1 rfl) ?_
  refine vp_callSi (va_Run.run (va_runSN (As := [.int (nI s2)]) (rest := []) ⟨hx, hb, hml, hown, hts⟩ (c_X10_isSet l s2 (by omega)) ⟨(va_cnB 1 hts gX3_hasLinear_X10_isSet_n15 rfl rfl rfl (hK.2 _ (List.mem_of_getElem? (i := 24) rfl)) (hts (.initialized RX10) (by decide +kernel)) (by decide +kernel) ⟨Nat.le_of_ble_eq_true rfl, Nat.le_of_ble_eq_true rfl⟩), hts (.static yX10_isSet) (by decide +kernel), trivial⟩ okTS rfl rfl hl.1 rfl (lv_room (Nat.le_of_ble_eq_true rfl)) dX3_hasLinear_1 ⟨Nat.le_of_ble_eq_true rfl, Nat.le_of_ble_eq_true rfl⟩)) (fun r_1 h_1 => ?_)
  subst h_1
  refine jn_beq hx hb (tgt := 33) dX3_hasLinear_4 (by decide) (fun c_4 => ?_) (fun c_4 => ?_)
  · refine lv_iconst (v := nI 0) hx hb dX3_hasLinear_33 (by decide) ?_
    exact hq _ _ ((nI 0)) dX3_hasLinear_34 jn_n0 (by first | rw [if_pos (by omega)] | rw [if_neg (by omega)])
  · refine lv_iload_n hx hb dX3_hasLinear_7 rfl (lv_at hl 2 rfl) ?_
    refine jn_zlt hx hb (by omega) (tgt := 33) dX3_hasLinear_8 (by decide) (fun c_8 => ?_) (fun c_8 => ?_)
    · refine lv_iconst (v := nI 0) hx hb dX3_hasLinear_33 (by decide) ?_
      exact hq _ _ ((nI 0)) dX3_hasLinear_34 jn_n0 (by first | rw [if_pos (by omega)] | rw [if_neg (by omega)])
    · refine lv_iload_n hx hb dX3_hasLinear_11 rfl (lv_at hl 2 rfl) ?_
      refine lv_iconst (v := nI 4) hx hb dX3_hasLinear_12 (by decide) ?_
      refine jn_cge hx hb (by omega) (by decide) (tgt := 33) dX3_hasLinear_13 (by decide) (fun c_13 => ?_) (fun c_13 => ?_)
      · refine lv_iconst (v := nI 0) hx hb dX3_hasLinear_33 (by decide) ?_
        exact hq _ _ ((nI 0)) dX3_hasLinear_34 jn_n0 (by first | rw [if_pos (by omega)] | rw [if_neg (by omega)])
      · refine lv_iload_n hx hb dX3_hasLinear_16 rfl (lv_at hl 2 rfl) ?_
        refine lv_aload_n hx hb dX3_hasLinear_17 rfl (lv_at hl 0 rfl) ?_
        refine va_get (D := (g.1, g.2.1)) (ci := 5) (v := .ref (g.2.2.2 5)) (C := RX3) (T := TX3) (N := 1) hx hb hts iX3 hown hK.1 hP 4 (gC4 g σ tl) rfl 0 (by decide) k11 (fun _ h9 => h9) rfl dX3_hasLinear_18 ?_
        refine lv_iload_n hx hb dX3_hasLinear_21 rfl (lv_at hl 1 rfl) ?_
        refine lv_bipush (v := nI 21) hx hb dX3_hasLinear_22 (by decide) ?_
        refine jn_imul hx hb dX3_hasLinear_24 ?_
        refine jn_iald (f := σ.2.1 2) hx hb hK.1 hP 5 0 (gC5 g σ tl) rfl (by omega) (Nat.le_of_ble_eq_true rfl) dX3_hasLinear_25 ?_
        refine jn_cge hx hb (by omega) (by omega) (tgt := 33) dX3_hasLinear_26 (by decide) (fun c_26 => ?_) (fun c_26 => ?_)
        · refine lv_iconst (v := nI 0) hx hb dX3_hasLinear_33 (by decide) ?_
          exact hq _ _ ((nI 0)) dX3_hasLinear_34 jn_n0 (by first | rw [if_pos (by omega)] | rw [if_neg (by omega)])
        · refine lv_iconst (v := nI 1) hx hb dX3_hasLinear_29 (by decide) ?_
          refine lv_goto (tgt := 34) hx hb dX3_hasLinear_30 (by decide) ?_
          exact hq _ _ ((nI 1)) dX3_hasLinear_34 jn_n1 (by first | rw [if_pos (by omega)] | rw [if_neg (by omega)])

abbrev r_c_X3_base : Room := { frames := 2, cells := 0, slots := 0, locals := 42 }
set_option maxHeartbeats 4000000 in
set_option maxRecDepth 100000 in
theorem c_X3_base (l : Launch) (g : GC) (tl : va_W) (σ : SS) (s2 ln : Nat) (hC : OkC (σ.2.1 2)) (hs : s2 < 2) (ht : ln < (σ.2.1 2) (s2 * 21)) : Met l yX3_base wsX3_base r_c_X3_base (va_Pc [.ref (g.2.2.2 4), .int (nI s2), .int (nI ln)] (PP g (wC g σ ++ tl))) (vp_Si (fun r => r = nI ((σ.2.1 2) (s2 * 21 + 1 + ln * 5)))) 0 0 (fun _ => False) := by
  refine jn_pi (cc := cX3_base) (maxL := 3) (own := RX3) (by decide) rfl rfl (Nat.le_of_ble_eq_true rfl) ?_
  intro p e s m below meth c Q hx hb hml hown hts ⟨hP, hK⟩ hq ls hl
  have hl : lv_has ls 3 [(0, .ref (g.2.2.2 4)), (1, .int (nI s2)), (2, .int (nI ln))] := hl
  have iX3 : ∀ w ∈ wsX30, w ∈ wsX3_base := by decide +kernel
  have k11 := hts (.fieldLink RX3 11 "JumpingAutomata$CountingSets" "cells" "[I") (by decide +kernel)
  have hc4 := (hC s2 hs).1
  have hc5 := (hC s2 hs).2 ln ht
  refine lv_aload_n hx hb dX3_base_0 rfl (lv_at hl 0 rfl) ?_
  refine lv_iload_n hx hb dX3_base_1 rfl (lv_at hl 1 rfl) ?_
  refine lv_iload_n hx hb dX3_base_2 rfl (lv_at hl 2 rfl) ?_
  refine vp_callSi (va_Run.run (va_runV (As := [.int (nI s2), .int (nI ln)]) (rest := []) ⟨hx, hb, hml, hown, hts⟩ (c_X3_hasLinear l g tl σ s2 ln hC (by omega) (by omega)) (cwV 2 hts gX3_base_X3_hasLinear rfl rfl rfl (by decide +kernel) ⟨Nat.le_of_ble_eq_true rfl, Nat.le_of_ble_eq_true rfl⟩) (okPV hK hP rfl (gC4 g σ tl)) rfl rfl hl.1 rfl (lv_room (Nat.le_of_ble_eq_true rfl)) dX3_base_3 ⟨Nat.le_of_ble_eq_true rfl, Nat.le_of_ble_eq_true rfl⟩)) (fun r_3 h_3 => ?_)
  subst h_3
  refine jn_beq hx hb (tgt := 22) dX3_base_6 (by decide) (fun c_6 => absurd c_6 (fun q => q ⟨hs, ht⟩)) (fun c_6 => ?_)
  refine lv_aload_n hx hb dX3_base_9 rfl (lv_at hl 0 rfl) ?_
  refine va_get (D := (g.1, g.2.1)) (ci := 5) (v := .ref (g.2.2.2 5)) (C := RX3) (T := TX3) (N := 1) hx hb hts iX3 hown hK.1 hP 4 (gC4 g σ tl) rfl 0 (by decide) k11 (fun _ h9 => h9) rfl dX3_base_10 ?_
  refine lv_iload_n hx hb dX3_base_13 rfl (lv_at hl 1 rfl) ?_
  refine lv_iload_n hx hb dX3_base_14 rfl (lv_at hl 2 rfl) ?_
  refine vp_callSi (va_Run.run (va_runS (As := [.int (nI s2), .int (nI ln)]) (rest := [.ref (g.2.2.2 5)]) ⟨hx, hb, hml, hown, hts⟩ (c_X3_placeOf l s2 ln) (va_cwS 2 hts gX3_base_X3_placeOf rfl rfl rfl (by decide +kernel) ⟨Nat.le_of_ble_eq_true rfl, Nat.le_of_ble_eq_true rfl⟩) okTS rfl rfl hl.1 rfl (lv_room (Nat.le_of_ble_eq_true rfl)) dX3_base_15 ⟨Nat.le_of_ble_eq_true rfl, Nat.le_of_ble_eq_true rfl⟩)) (fun r_15 h_15 => ?_)
  subst h_15
  refine jn_iald (f := σ.2.1 2) hx hb hK.1 hP 5 0 (gC5 g σ tl) rfl (by omega) (Nat.le_of_ble_eq_true rfl) dX3_base_18 ?_
  refine lv_goto (tgt := 23) hx hb dX3_base_19 (by decide) ?_
  exact hq _ _ ((nI ((σ.2.1 2) (s2 * 21 + 1 + ln * 5)))) dX3_base_23 rfl

abbrev r_c_X3_periodCount : Room := { frames := 2, cells := 0, slots := 0, locals := 42 }
set_option maxHeartbeats 4000000 in
set_option maxRecDepth 100000 in
theorem c_X3_periodCount (l : Launch) (g : GC) (tl : va_W) (σ : SS) (s2 ln : Nat) (hC : OkC (σ.2.1 2)) (hs : s2 < 2) (ht : ln < (σ.2.1 2) (s2 * 21)) : Met l yX3_periodCount wsX3_periodCount r_c_X3_periodCount (va_Pc [.ref (g.2.2.2 4), .int (nI s2), .int (nI ln)] (PP g (wC g σ ++ tl))) (vp_Si (fun r => r = nI ((σ.2.1 2) (s2 * 21 + 1 + ln * 5 + 1)))) 0 0 (fun _ => False) := by
  refine jn_pi (cc := cX3_periodCount) (maxL := 3) (own := RX3) (by decide) rfl rfl (Nat.le_of_ble_eq_true rfl) ?_
  intro p e s m below meth c Q hx hb hml hown hts ⟨hP, hK⟩ hq ls hl
  have hl : lv_has ls 3 [(0, .ref (g.2.2.2 4)), (1, .int (nI s2)), (2, .int (nI ln))] := hl
  have iX3 : ∀ w ∈ wsX30, w ∈ wsX3_periodCount := by decide +kernel
  have k11 := hts (.fieldLink RX3 11 "JumpingAutomata$CountingSets" "cells" "[I") (by decide +kernel)
  have hc4 := (hC s2 hs).1
  have hc5 := (hC s2 hs).2 ln ht
  refine lv_aload_n hx hb dX3_periodCount_0 rfl (lv_at hl 0 rfl) ?_
  refine lv_iload_n hx hb dX3_periodCount_1 rfl (lv_at hl 1 rfl) ?_
  refine lv_iload_n hx hb dX3_periodCount_2 rfl (lv_at hl 2 rfl) ?_
  refine vp_callSi (va_Run.run (va_runV (As := [.int (nI s2), .int (nI ln)]) (rest := []) ⟨hx, hb, hml, hown, hts⟩ (c_X3_hasLinear l g tl σ s2 ln hC (by omega) (by omega)) (cwV 2 hts gX3_periodCount_X3_hasLinear rfl rfl rfl (by decide +kernel) ⟨Nat.le_of_ble_eq_true rfl, Nat.le_of_ble_eq_true rfl⟩) (okPV hK hP rfl (gC4 g σ tl)) rfl rfl hl.1 rfl (lv_room (Nat.le_of_ble_eq_true rfl)) dX3_periodCount_3 ⟨Nat.le_of_ble_eq_true rfl, Nat.le_of_ble_eq_true rfl⟩)) (fun r_3 h_3 => ?_)
  subst h_3
  refine jn_beq hx hb (tgt := 24) dX3_periodCount_6 (by decide) (fun c_6 => absurd c_6 (fun q => q ⟨hs, ht⟩)) (fun c_6 => ?_)
  refine lv_aload_n hx hb dX3_periodCount_9 rfl (lv_at hl 0 rfl) ?_
  refine va_get (D := (g.1, g.2.1)) (ci := 5) (v := .ref (g.2.2.2 5)) (C := RX3) (T := TX3) (N := 1) hx hb hts iX3 hown hK.1 hP 4 (gC4 g σ tl) rfl 0 (by decide) k11 (fun _ h9 => h9) rfl dX3_periodCount_10 ?_
  refine lv_iload_n hx hb dX3_periodCount_13 rfl (lv_at hl 1 rfl) ?_
  refine lv_iload_n hx hb dX3_periodCount_14 rfl (lv_at hl 2 rfl) ?_
  refine vp_callSi (va_Run.run (va_runS (As := [.int (nI s2), .int (nI ln)]) (rest := [.ref (g.2.2.2 5)]) ⟨hx, hb, hml, hown, hts⟩ (c_X3_placeOf l s2 ln) (va_cwS 2 hts gX3_periodCount_X3_placeOf rfl rfl rfl (by decide +kernel) ⟨Nat.le_of_ble_eq_true rfl, Nat.le_of_ble_eq_true rfl⟩) okTS rfl rfl hl.1 rfl (lv_room (Nat.le_of_ble_eq_true rfl)) dX3_periodCount_15 ⟨Nat.le_of_ble_eq_true rfl, Nat.le_of_ble_eq_true rfl⟩)) (fun r_15 h_15 => ?_)
  subst h_15
  refine lv_iconst (v := nI 1) hx hb dX3_periodCount_18 (by decide) ?_
  refine jn_iadd hx hb dX3_periodCount_19 ?_
  refine jn_iald (f := σ.2.1 2) hx hb hK.1 hP 5 0 (gC5 g σ tl) rfl (by omega) (Nat.le_of_ble_eq_true rfl) dX3_periodCount_20 ?_
  refine lv_goto (tgt := 25) hx hb dX3_periodCount_21 (by decide) ?_
  exact hq _ _ ((nI ((σ.2.1 2) ((s2 * 21 + 1 + ln * 5) + 1)))) dX3_periodCount_25 rfl

abbrev r_c_X3_period : Room := { frames := 3, cells := 0, slots := 0, locals := 64 }
set_option maxHeartbeats 4000000 in
set_option maxRecDepth 100000 in
theorem c_X3_period (l : Launch) (g : GC) (tl : va_W) (σ : SS) (s2 ln k : Nat) (hC : OkC (σ.2.1 2)) (hs : s2 < 2) (ht : ln < (σ.2.1 2) (s2 * 21)) (hk : k < (σ.2.1 2) (s2 * 21 + 1 + ln * 5 + 1)) : Met l yX3_period wsX3_period r_c_X3_period (va_Pc [.ref (g.2.2.2 4), .int (nI s2), .int (nI ln), .int (nI k)] (PP g (wC g σ ++ tl))) (vp_Si (fun r => r = nI ((σ.2.1 2) (s2 * 21 + 1 + ln * 5 + 2 + k)))) 0 0 (fun _ => False) := by
  refine jn_pi (cc := cX3_period) (maxL := 5) (own := RX3) (by decide) rfl rfl (Nat.le_of_ble_eq_true rfl) ?_
  intro p e s m below meth c Q hx hb hml hown hts ⟨hP, hK⟩ hq ls hl
  have hl : lv_has ls 5 [(0, .ref (g.2.2.2 4)), (1, .int (nI s2)), (2, .int (nI ln)), (3, .int (nI k))] := hl
  have iX3 : ∀ w ∈ wsX30, w ∈ wsX3_period := by decide +kernel
  have k11 := hts (.fieldLink RX3 11 "JumpingAutomata$CountingSets" "cells" "[I") (by decide +kernel)
  have hc4 := (hC s2 hs).1
  have hc5 := (hC s2 hs).2 ln ht
  refine lv_iload_n hx hb dX3_period_0 rfl (lv_at hl 3 rfl) ?_
  refine jn_zlt hx hb (by omega) (tgt := 23) dX3_period_1 (by decide) (fun c_1 => absurd c_1 (by omega)) (fun c_1 => ?_)
  refine lv_iload_n hx hb dX3_period_4 rfl (lv_at hl 3 rfl) ?_
  refine lv_iconst (v := nI 3) hx hb dX3_period_5 (by decide) ?_
  refine jn_cge hx hb (by omega) (by decide) (tgt := 23) dX3_period_6 (by decide) (fun c_6 => absurd c_6 (by omega)) (fun c_6 => ?_)
  refine lv_iload_n hx hb dX3_period_9 rfl (lv_at hl 3 rfl) ?_
  refine lv_aload_n hx hb dX3_period_10 rfl (lv_at hl 0 rfl) ?_
  refine lv_iload_n hx hb dX3_period_11 rfl (lv_at hl 1 rfl) ?_
  refine lv_iload_n hx hb dX3_period_12 rfl (lv_at hl 2 rfl) ?_
  refine vp_callSi (va_Run.run (va_runV (As := [.int (nI s2), .int (nI ln)]) (rest := [.int (nI k)]) ⟨hx, hb, hml, hown, hts⟩ (c_X3_periodCount l g tl σ s2 ln hC (by omega) (by omega)) (cwV 2 hts gX3_period_X3_periodCount rfl rfl rfl (by decide +kernel) ⟨Nat.le_of_ble_eq_true rfl, Nat.le_of_ble_eq_true rfl⟩) (okPV hK hP rfl (gC4 g σ tl)) rfl rfl hl.1 rfl (lv_room (Nat.le_of_ble_eq_true rfl)) dX3_period_13 ⟨Nat.le_of_ble_eq_true rfl, Nat.le_of_ble_eq_true rfl⟩)) (fun r_13 h_13 => ?_)
  subst h_13
  refine jn_cge hx hb (by omega) (by omega) (tgt := 23) dX3_period_16 (by decide) (fun c_16 => absurd c_16 (by omega)) (fun c_16 => ?_)
  refine lv_iconst (v := nI 1) hx hb dX3_period_19 (by decide) ?_
  refine lv_goto (tgt := 24) hx hb dX3_period_20 (by decide) ?_
  refine lv_istore (lv' := [(4, .int (nI 1)), (0, .ref (g.2.2.2 4)), (1, .int (nI s2)), (2, .int (nI ln)), (3, .int (nI k))]) hx hb dX3_period_24 hl (by decide) rfl (fun ls hl => ?_)
  refine lv_iload hx hb dX3_period_26 (lv_at hl 0 rfl) ?_
  refine jn_zeq hx hb (by decide) (tgt := 48) dX3_period_28 (by decide) (fun c_28 => absurd c_28 (by decide)) (fun c_28 => ?_)
  refine lv_aload_n hx hb dX3_period_31 rfl (lv_at hl 1 rfl) ?_
  refine va_get (D := (g.1, g.2.1)) (ci := 5) (v := .ref (g.2.2.2 5)) (C := RX3) (T := TX3) (N := 1) hx hb hts iX3 hown hK.1 hP 4 (gC4 g σ tl) rfl 0 (by decide) k11 (fun _ h9 => h9) rfl dX3_period_32 ?_
  refine lv_iload_n hx hb dX3_period_35 rfl (lv_at hl 2 rfl) ?_
  refine lv_iload_n hx hb dX3_period_36 rfl (lv_at hl 3 rfl) ?_
  refine vp_callSi (va_Run.run (va_runS (As := [.int (nI s2), .int (nI ln)]) (rest := [.ref (g.2.2.2 5)]) ⟨hx, hb, hml, hown, hts⟩ (c_X3_placeOf l s2 ln) (va_cwS 2 hts gX3_period_X3_placeOf rfl rfl rfl (by decide +kernel) ⟨Nat.le_of_ble_eq_true rfl, Nat.le_of_ble_eq_true rfl⟩) okTS rfl rfl hl.1 rfl (lv_room (Nat.le_of_ble_eq_true rfl)) dX3_period_37 ⟨Nat.le_of_ble_eq_true rfl, Nat.le_of_ble_eq_true rfl⟩)) (fun r_37 h_37 => ?_)
  subst h_37
  refine lv_iconst (v := nI 2) hx hb dX3_period_40 (by decide) ?_
  refine jn_iadd hx hb dX3_period_41 ?_
  refine lv_iload_n hx hb dX3_period_42 rfl (lv_at hl 4 rfl) ?_
  refine jn_iadd hx hb dX3_period_43 ?_
  refine jn_iald (f := σ.2.1 2) hx hb hK.1 hP 5 0 (gC5 g σ tl) rfl (by omega) (Nat.le_of_ble_eq_true rfl) dX3_period_44 ?_
  refine lv_goto (tgt := 49) hx hb dX3_period_45 (by decide) ?_
  exact hq _ _ ((nI ((σ.2.1 2) (((s2 * 21 + 1 + ln * 5) + 2) + k)))) dX3_period_49 rfl

abbrev r_c_X3_addLinear : Room := { frames := 2, cells := 0, slots := 0, locals := 41 }
set_option maxHeartbeats 4000000 in
set_option maxRecDepth 100000 in
theorem c_X3_addLinear (l : Launch) (g : GC) (tl : va_W) (sz : Nat) (σ : SS) (s2 b : Nat) (hC : OkC (σ.2.1 2)) (hs : s2 < 2) (hn : (σ.2.1 2) (s2 * 21) < 4) : Met l yX3_addLinear wsX3_addLinear r_c_X3_addLinear (va_Pc [.ref (g.2.2.2 4), .int (nI s2), .int (nI b)] (PW g (wC g σ ++ tl) sz)) (va_Qi (fun (r : Int32) (_ : Unit) => r = nI ((σ.2.1 2) (s2 * 21))) (fun (_ : Unit) t => BW g (va_A (wC g σ ++ tl) sz) (wC g (sA σ 2 (va_up (va_up (va_up (σ.2.1 2) (s2 * 21) ((σ.2.1 2) (s2 * 21) + 1)) (s2 * 21 + 1 + (σ.2.1 2) (s2 * 21) * 5) b) (s2 * 21 + 1 + (σ.2.1 2) (s2 * 21) * 5 + 1) 0)) ++ tl) t) (va_A (wC g σ ++ tl) sz)) 0 0 (va_A (wC g σ ++ tl) sz) := by
  refine jn_si (wf := fun _ : Unit => wC g (sA σ 2 (va_up (va_up (va_up (σ.2.1 2) (s2 * 21) ((σ.2.1 2) (s2 * 21) + 1)) (s2 * 21 + 1 + (σ.2.1 2) (s2 * 21) * 5) b) (s2 * 21 + 1 + (σ.2.1 2) (s2 * 21) * 5 + 1) 0)) ++ tl) (cc := cX3_addLinear) (maxL := 4) (own := RX3) (by decide) rfl rfl (Nat.le_of_ble_eq_true rfl) ?_
  intro p e s m below meth c Q A hx hb hml hown hts hK hP hD hS hAA hq ls hl
  obtain ⟨H, eH⟩ : ∃ z, z = s.heap := ⟨_, rfl⟩
  obtain ⟨locs, el⟩ : ∃ z : List Loc, z = [] := ⟨_, rfl⟩
  rw [← eH] at hP
  have hS : va_S A s.heap H locs := by rw [eH, el]; exact hS
  have goal0 : W p l e r_c_X3_addLinear s m ([.ref (g.2.2.2 4), .int (nI s2), .int (nI b)] : List Value).toArray below meth c H locs 0 0 Q (F0 m 0 ls []) → W p l e r_c_X3_addLinear s m ([.ref (g.2.2.2 4), .int (nI s2), .int (nI b)] : List Value).toArray below meth c s.heap [] 0 0 Q (F0 m 0 ls []) := fun h => by rw [eH, el] at h; exact h
  refine goal0 ?_
  have hl : lv_has ls 4 [(0, .ref (g.2.2.2 4)), (1, .int (nI s2)), (2, .int (nI b))] := hl
  have iX3 : ∀ w ∈ wsX30, w ∈ wsX3_addLinear := by decide +kernel
  have k11 := hts (.fieldLink RX3 11 "JumpingAutomata$CountingSets" "cells" "[I") (by decide +kernel)
  refine lv_aload_n hx hb dX3_addLinear_0 rfl (lv_at hl 0 rfl) ?_
  refine lv_iload_n hx hb dX3_addLinear_1 rfl (lv_at hl 1 rfl) ?_
  refine vp_callSi (va_Run.run (va_runV (As := [.int (nI s2)]) (rest := []) ⟨hx, hb, hml, hown, hts⟩ (c_X3_linearCount l g tl σ s2 hC (by omega)) (cwV 1 hts gX3_addLinear_X3_linearCount rfl rfl rfl (by decide +kernel) ⟨Nat.le_of_ble_eq_true rfl, Nat.le_of_ble_eq_true rfl⟩) (okPV hK hP rfl (gC4 g σ tl)) rfl rfl hl.1 rfl (lv_room (Nat.le_of_ble_eq_true rfl)) dX3_addLinear_2 ⟨Nat.le_of_ble_eq_true rfl, Nat.le_of_ble_eq_true rfl⟩)) (fun r_2 h_2 => ?_)
  subst h_2
  rw [if_pos hs]
  refine lv_istore_n (lv' := [(3, .int (nI ((σ.2.1 2) (s2 * 21)))), (0, .ref (g.2.2.2 4)), (1, .int (nI s2)), (2, .int (nI b))]) hx hb dX3_addLinear_5 rfl hl (by decide) rfl (fun ls hl => ?_)
  refine lv_iload_n hx hb dX3_addLinear_6 rfl (lv_at hl 2 rfl) ?_
  refine vp_callSi (va_Run.run (va_runSN (As := [.int (nI s2)]) (rest := []) ⟨hx, hb, hml, hown, hts⟩ (c_X10_isSet l s2 (by omega)) ⟨(va_cnB 1 hts gX3_addLinear_X10_isSet_n15 rfl rfl rfl (hK.2 _ (List.mem_of_getElem? (i := 24) rfl)) (hts (.initialized RX10) (by decide +kernel)) (by decide +kernel) ⟨Nat.le_of_ble_eq_true rfl, Nat.le_of_ble_eq_true rfl⟩), hts (.static yX10_isSet) (by decide +kernel), trivial⟩ okTS rfl rfl hl.1 rfl (lv_room (Nat.le_of_ble_eq_true rfl)) dX3_addLinear_7 ⟨Nat.le_of_ble_eq_true rfl, Nat.le_of_ble_eq_true rfl⟩)) (fun r_7 h_7 => ?_)
  subst h_7
  refine jn_beq hx hb (tgt := 58) dX3_addLinear_10 (by decide) (fun c_10 => absurd c_10 (by omega)) (fun c_10 => ?_)
  refine lv_iload_n hx hb dX3_addLinear_13 rfl (lv_at hl 0 rfl) ?_
  refine jn_zlt hx hb (by omega) (tgt := 58) dX3_addLinear_14 (by decide) (fun c_14 => absurd c_14 (by omega)) (fun c_14 => ?_)
  refine lv_iload_n hx hb dX3_addLinear_17 rfl (lv_at hl 0 rfl) ?_
  refine lv_iconst (v := nI 4) hx hb dX3_addLinear_18 (by decide) ?_
  refine jn_cge hx hb (by omega) (by decide) (tgt := 58) dX3_addLinear_19 (by decide) (fun c_19 => absurd c_19 (by omega)) (fun c_19 => ?_)
  refine lv_aload_n hx hb dX3_addLinear_22 rfl (lv_at hl 1 rfl) ?_
  refine va_get (D := (g.1, g.2.1)) (ci := 5) (v := .ref (g.2.2.2 5)) (C := RX3) (T := TX3) (N := 1) hx hb hts iX3 hown hK.1 hP 4 (gC4 g σ tl) rfl 0 (by decide) k11 (fun _ h9 => h9) rfl dX3_addLinear_23 ?_
  refine lv_iload_n hx hb dX3_addLinear_26 rfl (lv_at hl 2 rfl) ?_
  refine lv_bipush (v := nI 21) hx hb dX3_addLinear_27 (by decide) ?_
  refine jn_imul hx hb dX3_addLinear_29 ?_
  refine lv_iload_n hx hb dX3_addLinear_30 rfl (lv_at hl 0 rfl) ?_
  refine lv_iconst (v := nI 1) hx hb dX3_addLinear_31 (by decide) ?_
  refine jn_iadd hx hb dX3_addLinear_32 ?_
  refine jn_iast (f := σ.2.1 2) hx hb hK.1 hP hD hS 5 0 (gC5 g σ tl) rfl (by omega) (Nat.le_of_ble_eq_true rfl) (uC_A2 g σ tl _) dX3_addLinear_33 (fun H locs hP hD hS => ?_)
  refine lv_aload_n hx hb dX3_addLinear_34 rfl (lv_at hl 1 rfl) ?_
  refine va_get (D := (g.1, g.2.1)) (ci := 5) (v := .ref (g.2.2.2 5)) (C := RX3) (T := TX3) (N := 1) hx hb hts iX3 hown hK.1 hP 4 (gC4 g (sA σ 2 (va_up (σ.2.1 2) (s2 * 21) (((σ.2.1 2) (s2 * 21)) + 1))) tl) rfl 0 (by decide) k11 (fun _ h9 => h9) rfl dX3_addLinear_35 ?_
  refine lv_iload_n hx hb dX3_addLinear_38 rfl (lv_at hl 2 rfl) ?_
  refine lv_iload_n hx hb dX3_addLinear_39 rfl (lv_at hl 0 rfl) ?_
  refine vp_callSi (va_Run.run (va_runS (As := [.int (nI s2), .int (nI ((σ.2.1 2) (s2 * 21)))]) (rest := [.ref (g.2.2.2 5)]) ⟨hx, hb, hml, hown, hts⟩ (c_X3_placeOf l s2 ((σ.2.1 2) (s2 * 21))) (va_cwS 2 hts gX3_addLinear_X3_placeOf rfl rfl rfl (by decide +kernel) ⟨Nat.le_of_ble_eq_true rfl, Nat.le_of_ble_eq_true rfl⟩) okTS rfl rfl hl.1 rfl (lv_room (Nat.le_of_ble_eq_true rfl)) dX3_addLinear_40 ⟨Nat.le_of_ble_eq_true rfl, Nat.le_of_ble_eq_true rfl⟩)) (fun r_40 h_40 => ?_)
  subst h_40
  refine lv_iload_n hx hb dX3_addLinear_43 rfl (lv_at hl 3 rfl) ?_
  refine jn_iast (f := va_up (σ.2.1 2) (s2 * 21) (((σ.2.1 2) (s2 * 21)) + 1)) hx hb hK.1 hP hD hS 5 0 (gC5 g (sA σ 2 (va_up (σ.2.1 2) (s2 * 21) (((σ.2.1 2) (s2 * 21)) + 1))) tl) rfl (by omega) (Nat.le_of_ble_eq_true rfl) (uC_A2 g (sA σ 2 (va_up (σ.2.1 2) (s2 * 21) (((σ.2.1 2) (s2 * 21)) + 1))) tl _) dX3_addLinear_44 (fun H locs hP hD hS => ?_)
  refine lv_aload_n hx hb dX3_addLinear_45 rfl (lv_at hl 1 rfl) ?_
  refine va_get (D := (g.1, g.2.1)) (ci := 5) (v := .ref (g.2.2.2 5)) (C := RX3) (T := TX3) (N := 1) hx hb hts iX3 hown hK.1 hP 4 (gC4 g (sA (sA σ 2 (va_up (σ.2.1 2) (s2 * 21) (((σ.2.1 2) (s2 * 21)) + 1))) 2 (va_up (va_up (σ.2.1 2) (s2 * 21) (((σ.2.1 2) (s2 * 21)) + 1)) (s2 * 21 + 1 + ((σ.2.1 2) (s2 * 21)) * 5) b)) tl) rfl 0 (by decide) k11 (fun _ h9 => h9) rfl dX3_addLinear_46 ?_
  refine lv_iload_n hx hb dX3_addLinear_49 rfl (lv_at hl 2 rfl) ?_
  refine lv_iload_n hx hb dX3_addLinear_50 rfl (lv_at hl 0 rfl) ?_
  refine vp_callSi (va_Run.run (va_runS (As := [.int (nI s2), .int (nI ((σ.2.1 2) (s2 * 21)))]) (rest := [.ref (g.2.2.2 5)]) ⟨hx, hb, hml, hown, hts⟩ (c_X3_placeOf l s2 ((σ.2.1 2) (s2 * 21))) (va_cwS 2 hts gX3_addLinear_X3_placeOf rfl rfl rfl (by decide +kernel) ⟨Nat.le_of_ble_eq_true rfl, Nat.le_of_ble_eq_true rfl⟩) okTS rfl rfl hl.1 rfl (lv_room (Nat.le_of_ble_eq_true rfl)) dX3_addLinear_51 ⟨Nat.le_of_ble_eq_true rfl, Nat.le_of_ble_eq_true rfl⟩)) (fun r_51 h_51 => ?_)
  subst h_51
  refine lv_iconst (v := nI 1) hx hb dX3_addLinear_54 (by decide) ?_
  refine jn_iadd hx hb dX3_addLinear_55 ?_
  refine lv_iconst (v := nI 0) hx hb dX3_addLinear_56 (by decide) ?_
  refine jn_iast (f := va_up (va_up (σ.2.1 2) (s2 * 21) (((σ.2.1 2) (s2 * 21)) + 1)) (s2 * 21 + 1 + ((σ.2.1 2) (s2 * 21)) * 5) b) hx hb hK.1 hP hD hS 5 0 (gC5 g (sA (sA σ 2 (va_up (σ.2.1 2) (s2 * 21) (((σ.2.1 2) (s2 * 21)) + 1))) 2 (va_up (va_up (σ.2.1 2) (s2 * 21) (((σ.2.1 2) (s2 * 21)) + 1)) (s2 * 21 + 1 + ((σ.2.1 2) (s2 * 21)) * 5) b)) tl) rfl (by omega) (Nat.le_of_ble_eq_true rfl) (uC_A2 g (sA (sA σ 2 (va_up (σ.2.1 2) (s2 * 21) (((σ.2.1 2) (s2 * 21)) + 1))) 2 (va_up (va_up (σ.2.1 2) (s2 * 21) (((σ.2.1 2) (s2 * 21)) + 1)) (s2 * 21 + 1 + ((σ.2.1 2) (s2 * 21)) * 5) b)) tl _) dX3_addLinear_57 (fun H locs hP hD hS => ?_)
  refine lv_iload_n hx hb dX3_addLinear_58 rfl (lv_at hl 0 rfl) ?_
  exact hq _ _ _ _ ((nI ((σ.2.1 2) (s2 * 21)))) () dX3_addLinear_59 rfl hP hD hS

abbrev r_c_X3_putPeriod : Room := { frames := 3, cells := 0, slots := 0, locals := 64 }
set_option maxHeartbeats 4000000 in
set_option maxRecDepth 100000 in
theorem c_X3_putPeriod (l : Launch) (g : GC) (tl : va_W) (sz : Nat) (σ : SS) (s2 ln v : Nat) (hC : OkC (σ.2.1 2)) (hs : s2 < 2) (ht : ln < (σ.2.1 2) (s2 * 21)) (hn : (σ.2.1 2) (s2 * 21 + 1 + ln * 5 + 1) < 3) : Met l yX3_putPeriod wsX3_putPeriod r_c_X3_putPeriod (va_Pc [.ref (g.2.2.2 4), .int (nI s2), .int (nI ln), .int (nI v)] (PW g (wC g σ ++ tl) sz)) (va_Qi (fun (r : Int32) (_ : Unit) => r = nI ((σ.2.1 2) (s2 * 21 + 1 + ln * 5 + 1) + 1)) (fun (_ : Unit) t => BW g (va_A (wC g σ ++ tl) sz) (wC g (sA σ 2 (va_up (va_up (σ.2.1 2) (s2 * 21 + 1 + ln * 5 + 2 + (σ.2.1 2) (s2 * 21 + 1 + ln * 5 + 1)) v) (s2 * 21 + 1 + ln * 5 + 1) ((σ.2.1 2) (s2 * 21 + 1 + ln * 5 + 1) + 1))) ++ tl) t) (va_A (wC g σ ++ tl) sz)) 0 0 (va_A (wC g σ ++ tl) sz) := by
  refine jn_si (wf := fun _ : Unit => wC g (sA σ 2 (va_up (va_up (σ.2.1 2) (s2 * 21 + 1 + ln * 5 + 2 + (σ.2.1 2) (s2 * 21 + 1 + ln * 5 + 1)) v) (s2 * 21 + 1 + ln * 5 + 1) ((σ.2.1 2) (s2 * 21 + 1 + ln * 5 + 1) + 1))) ++ tl) (cc := cX3_putPeriod) (maxL := 5) (own := RX3) (by decide) rfl rfl (Nat.le_of_ble_eq_true rfl) ?_
  intro p e s m below meth c Q A hx hb hml hown hts hK hP hD hS hAA hq ls hl
  obtain ⟨H, eH⟩ : ∃ z, z = s.heap := ⟨_, rfl⟩
  obtain ⟨locs, el⟩ : ∃ z : List Loc, z = [] := ⟨_, rfl⟩
  rw [← eH] at hP
  have hS : va_S A s.heap H locs := by rw [eH, el]; exact hS
  have goal0 : W p l e r_c_X3_putPeriod s m ([.ref (g.2.2.2 4), .int (nI s2), .int (nI ln), .int (nI v)] : List Value).toArray below meth c H locs 0 0 Q (F0 m 0 ls []) → W p l e r_c_X3_putPeriod s m ([.ref (g.2.2.2 4), .int (nI s2), .int (nI ln), .int (nI v)] : List Value).toArray below meth c s.heap [] 0 0 Q (F0 m 0 ls []) := fun h => by rw [eH, el] at h; exact h
  refine goal0 ?_
  have hl : lv_has ls 5 [(0, .ref (g.2.2.2 4)), (1, .int (nI s2)), (2, .int (nI ln)), (3, .int (nI v))] := hl
  have iX3 : ∀ w ∈ wsX30, w ∈ wsX3_putPeriod := by decide +kernel
  have k11 := hts (.fieldLink RX3 11 "JumpingAutomata$CountingSets" "cells" "[I") (by decide +kernel)
  have hc4 := (hC s2 hs).1
  have hc5 := (hC s2 hs).2 ln ht
  refine lv_aload_n hx hb dX3_putPeriod_0 rfl (lv_at hl 0 rfl) ?_
  refine lv_iload_n hx hb dX3_putPeriod_1 rfl (lv_at hl 1 rfl) ?_
  refine lv_iload_n hx hb dX3_putPeriod_2 rfl (lv_at hl 2 rfl) ?_
  refine vp_callSi (va_Run.run (va_runV (As := [.int (nI s2), .int (nI ln)]) (rest := []) ⟨hx, hb, hml, hown, hts⟩ (c_X3_periodCount l g tl σ s2 ln hC (by omega) (by omega)) (cwV 2 hts gX3_putPeriod_X3_periodCount rfl rfl rfl (by decide +kernel) ⟨Nat.le_of_ble_eq_true rfl, Nat.le_of_ble_eq_true rfl⟩) (okPV hK hP rfl (gC4 g σ tl)) rfl rfl hl.1 rfl (lv_room (Nat.le_of_ble_eq_true rfl)) dX3_putPeriod_3 ⟨Nat.le_of_ble_eq_true rfl, Nat.le_of_ble_eq_true rfl⟩)) (fun r_3 h_3 => ?_)
  subst h_3
  refine lv_istore (lv' := [(4, .int (nI ((σ.2.1 2) (s2 * 21 + 1 + ln * 5 + 1)))), (0, .ref (g.2.2.2 4)), (1, .int (nI s2)), (2, .int (nI ln)), (3, .int (nI v))]) hx hb dX3_putPeriod_6 hl (by decide) rfl (fun ls hl => ?_)
  refine lv_aload_n hx hb dX3_putPeriod_8 rfl (lv_at hl 1 rfl) ?_
  refine lv_iload_n hx hb dX3_putPeriod_9 rfl (lv_at hl 2 rfl) ?_
  refine lv_iload_n hx hb dX3_putPeriod_10 rfl (lv_at hl 3 rfl) ?_
  refine vp_callSi (va_Run.run (va_runV (As := [.int (nI s2), .int (nI ln)]) (rest := []) ⟨hx, hb, hml, hown, hts⟩ (c_X3_hasLinear l g tl σ s2 ln hC (by omega) (by omega)) (cwV 2 hts gX3_putPeriod_X3_hasLinear rfl rfl rfl (by decide +kernel) ⟨Nat.le_of_ble_eq_true rfl, Nat.le_of_ble_eq_true rfl⟩) (okPV hK hP rfl (gC4 g σ tl)) rfl rfl hl.1 rfl (lv_room (Nat.le_of_ble_eq_true rfl)) dX3_putPeriod_11 ⟨Nat.le_of_ble_eq_true rfl, Nat.le_of_ble_eq_true rfl⟩)) (fun r_11 h_11 => ?_)
  subst h_11
  refine jn_beq hx hb (tgt := 28) dX3_putPeriod_14 (by decide) (fun c_14 => absurd c_14 (fun q => q ⟨hs, ht⟩)) (fun c_14 => ?_)
  refine lv_iload hx hb dX3_putPeriod_17 (lv_at hl 0 rfl) ?_
  refine jn_zlt hx hb (by omega) (tgt := 28) dX3_putPeriod_19 (by decide) (fun c_19 => absurd c_19 (by omega)) (fun c_19 => ?_)
  refine lv_iload hx hb dX3_putPeriod_22 (lv_at hl 0 rfl) ?_
  refine lv_iconst (v := nI 3) hx hb dX3_putPeriod_24 (by decide) ?_
  refine jn_clt hx hb (by omega) (by decide) (tgt := 31) dX3_putPeriod_25 (by decide) (fun c_25 => ?_) (fun c_25 => absurd c_25 (by omega))
  refine lv_aload_n hx hb dX3_putPeriod_31 rfl (lv_at hl 1 rfl) ?_
  refine va_get (D := (g.1, g.2.1)) (ci := 5) (v := .ref (g.2.2.2 5)) (C := RX3) (T := TX3) (N := 1) hx hb hts iX3 hown hK.1 hP 4 (gC4 g σ tl) rfl 0 (by decide) k11 (fun _ h9 => h9) rfl dX3_putPeriod_32 ?_
  refine lv_iload_n hx hb dX3_putPeriod_35 rfl (lv_at hl 2 rfl) ?_
  refine lv_iload_n hx hb dX3_putPeriod_36 rfl (lv_at hl 3 rfl) ?_
  refine vp_callSi (va_Run.run (va_runS (As := [.int (nI s2), .int (nI ln)]) (rest := [.ref (g.2.2.2 5)]) ⟨hx, hb, hml, hown, hts⟩ (c_X3_placeOf l s2 ln) (va_cwS 2 hts gX3_putPeriod_X3_placeOf rfl rfl rfl (by decide +kernel) ⟨Nat.le_of_ble_eq_true rfl, Nat.le_of_ble_eq_true rfl⟩) okTS rfl rfl hl.1 rfl (lv_room (Nat.le_of_ble_eq_true rfl)) dX3_putPeriod_37 ⟨Nat.le_of_ble_eq_true rfl, Nat.le_of_ble_eq_true rfl⟩)) (fun r_37 h_37 => ?_)
  subst h_37
  refine lv_iconst (v := nI 2) hx hb dX3_putPeriod_40 (by decide) ?_
  refine jn_iadd hx hb dX3_putPeriod_41 ?_
  refine lv_iload hx hb dX3_putPeriod_42 (lv_at hl 0 rfl) ?_
  refine jn_iadd hx hb dX3_putPeriod_44 ?_
  refine lv_iload_n hx hb dX3_putPeriod_45 rfl (lv_at hl 4 rfl) ?_
  refine jn_iast (f := σ.2.1 2) hx hb hK.1 hP hD hS 5 0 (gC5 g σ tl) rfl (by omega) (Nat.le_of_ble_eq_true rfl) (uC_A2 g σ tl _) dX3_putPeriod_46 (fun H locs hP hD hS => ?_)
  refine lv_aload_n hx hb dX3_putPeriod_47 rfl (lv_at hl 1 rfl) ?_
  refine va_get (D := (g.1, g.2.1)) (ci := 5) (v := .ref (g.2.2.2 5)) (C := RX3) (T := TX3) (N := 1) hx hb hts iX3 hown hK.1 hP 4 (gC4 g (sA σ 2 (va_up (σ.2.1 2) (((s2 * 21 + 1 + ln * 5) + 2) + ((σ.2.1 2) (s2 * 21 + 1 + ln * 5 + 1))) v)) tl) rfl 0 (by decide) k11 (fun _ h9 => h9) rfl dX3_putPeriod_48 ?_
  refine lv_iload_n hx hb dX3_putPeriod_51 rfl (lv_at hl 2 rfl) ?_
  refine lv_iload_n hx hb dX3_putPeriod_52 rfl (lv_at hl 3 rfl) ?_
  refine vp_callSi (va_Run.run (va_runS (As := [.int (nI s2), .int (nI ln)]) (rest := [.ref (g.2.2.2 5)]) ⟨hx, hb, hml, hown, hts⟩ (c_X3_placeOf l s2 ln) (va_cwS 2 hts gX3_putPeriod_X3_placeOf rfl rfl rfl (by decide +kernel) ⟨Nat.le_of_ble_eq_true rfl, Nat.le_of_ble_eq_true rfl⟩) okTS rfl rfl hl.1 rfl (lv_room (Nat.le_of_ble_eq_true rfl)) dX3_putPeriod_53 ⟨Nat.le_of_ble_eq_true rfl, Nat.le_of_ble_eq_true rfl⟩)) (fun r_53 h_53 => ?_)
  subst h_53
  refine lv_iconst (v := nI 1) hx hb dX3_putPeriod_56 (by decide) ?_
  refine jn_iadd hx hb dX3_putPeriod_57 ?_
  refine lv_iload hx hb dX3_putPeriod_58 (lv_at hl 0 rfl) ?_
  refine lv_iconst (v := nI 1) hx hb dX3_putPeriod_60 (by decide) ?_
  refine jn_iadd hx hb dX3_putPeriod_61 ?_
  refine jn_iast (f := va_up (σ.2.1 2) (((s2 * 21 + 1 + ln * 5) + 2) + ((σ.2.1 2) (s2 * 21 + 1 + ln * 5 + 1))) v) hx hb hK.1 hP hD hS 5 0 (gC5 g (sA σ 2 (va_up (σ.2.1 2) (((s2 * 21 + 1 + ln * 5) + 2) + ((σ.2.1 2) (s2 * 21 + 1 + ln * 5 + 1))) v)) tl) rfl (by omega) (Nat.le_of_ble_eq_true rfl) (uC_A2 g (sA σ 2 (va_up (σ.2.1 2) (((s2 * 21 + 1 + ln * 5) + 2) + ((σ.2.1 2) (s2 * 21 + 1 + ln * 5 + 1))) v)) tl _) dX3_putPeriod_62 (fun H locs hP hD hS => ?_)
  refine lv_iload hx hb dX3_putPeriod_63 (lv_at hl 0 rfl) ?_
  refine lv_iconst (v := nI 1) hx hb dX3_putPeriod_65 (by decide) ?_
  refine jn_iadd hx hb dX3_putPeriod_66 ?_
  exact hq _ _ _ _ ((nI (((σ.2.1 2) (s2 * 21 + 1 + ln * 5 + 1)) + 1))) () dX3_putPeriod_67 rfl hP hD hS

abbrev r_c_X3_wipe : Room := { frames := 2, cells := 0, slots := 0, locals := 41 }
set_option maxHeartbeats 4000000 in
set_option maxRecDepth 100000 in
theorem c_X3_wipe (l : Launch) (g : GC) (tl : va_W) (sz : Nat) (σ : SS) (s2 : Nat) (hC : OkC (σ.2.1 2)) (hs : s2 < 2) : Met l yX3_wipe wsX3_wipe r_c_X3_wipe (va_Pc [.ref (g.2.2.2 4), .int (nI s2)] (PW g (wC g σ ++ tl) sz)) (va_Qi (fun (r : Int32) (_ : Unit) => r = nI ((σ.2.1 2) (s2 * 21))) (fun (_ : Unit) t => BW g (va_A (wC g σ ++ tl) sz) (wC g (sA σ 2 (va_up (σ.2.1 2) (s2 * 21) 0)) ++ tl) t) (va_A (wC g σ ++ tl) sz)) 0 0 (va_A (wC g σ ++ tl) sz) := by
  refine jn_si (wf := fun _ : Unit => wC g (sA σ 2 (va_up (σ.2.1 2) (s2 * 21) 0)) ++ tl) (cc := cX3_wipe) (maxL := 3) (own := RX3) (by decide) rfl rfl (Nat.le_of_ble_eq_true rfl) ?_
  intro p e s m below meth c Q A hx hb hml hown hts hK hP hD hS hAA hq ls hl
  obtain ⟨H, eH⟩ : ∃ z, z = s.heap := ⟨_, rfl⟩
  obtain ⟨locs, el⟩ : ∃ z : List Loc, z = [] := ⟨_, rfl⟩
  rw [← eH] at hP
  have hS : va_S A s.heap H locs := by rw [eH, el]; exact hS
  have goal0 : W p l e r_c_X3_wipe s m ([.ref (g.2.2.2 4), .int (nI s2)] : List Value).toArray below meth c H locs 0 0 Q (F0 m 0 ls []) → W p l e r_c_X3_wipe s m ([.ref (g.2.2.2 4), .int (nI s2)] : List Value).toArray below meth c s.heap [] 0 0 Q (F0 m 0 ls []) := fun h => by rw [eH, el] at h; exact h
  refine goal0 ?_
  have hl : lv_has ls 3 [(0, .ref (g.2.2.2 4)), (1, .int (nI s2))] := hl
  have iX3 : ∀ w ∈ wsX30, w ∈ wsX3_wipe := by decide +kernel
  have k11 := hts (.fieldLink RX3 11 "JumpingAutomata$CountingSets" "cells" "[I") (by decide +kernel)
  refine lv_aload_n hx hb dX3_wipe_0 rfl (lv_at hl 0 rfl) ?_
  refine lv_iload_n hx hb dX3_wipe_1 rfl (lv_at hl 1 rfl) ?_
  refine vp_callSi (va_Run.run (va_runV (As := [.int (nI s2)]) (rest := []) ⟨hx, hb, hml, hown, hts⟩ (c_X3_linearCount l g tl σ s2 hC (by omega)) (cwV 1 hts gX3_wipe_X3_linearCount rfl rfl rfl (by decide +kernel) ⟨Nat.le_of_ble_eq_true rfl, Nat.le_of_ble_eq_true rfl⟩) (okPV hK hP rfl (gC4 g σ tl)) rfl rfl hl.1 rfl (lv_room (Nat.le_of_ble_eq_true rfl)) dX3_wipe_2 ⟨Nat.le_of_ble_eq_true rfl, Nat.le_of_ble_eq_true rfl⟩)) (fun r_2 h_2 => ?_)
  subst h_2
  rw [if_pos hs]
  refine lv_istore_n (lv' := [(2, .int (nI ((σ.2.1 2) (s2 * 21)))), (0, .ref (g.2.2.2 4)), (1, .int (nI s2))]) hx hb dX3_wipe_5 rfl hl (by decide) rfl (fun ls hl => ?_)
  refine lv_iload_n hx hb dX3_wipe_6 rfl (lv_at hl 2 rfl) ?_
  refine vp_callSi (va_Run.run (va_runSN (As := [.int (nI s2)]) (rest := []) ⟨hx, hb, hml, hown, hts⟩ (c_X10_isSet l s2 (by omega)) ⟨(va_cnB 1 hts gX3_wipe_X10_isSet_n15 rfl rfl rfl (hK.2 _ (List.mem_of_getElem? (i := 24) rfl)) (hts (.initialized RX10) (by decide +kernel)) (by decide +kernel) ⟨Nat.le_of_ble_eq_true rfl, Nat.le_of_ble_eq_true rfl⟩), hts (.static yX10_isSet) (by decide +kernel), trivial⟩ okTS rfl rfl hl.1 rfl (lv_room (Nat.le_of_ble_eq_true rfl)) dX3_wipe_7 ⟨Nat.le_of_ble_eq_true rfl, Nat.le_of_ble_eq_true rfl⟩)) (fun r_7 h_7 => ?_)
  subst h_7
  refine jn_beq hx hb (tgt := 23) dX3_wipe_10 (by decide) (fun c_10 => absurd c_10 (by omega)) (fun c_10 => ?_)
  refine lv_aload_n hx hb dX3_wipe_13 rfl (lv_at hl 1 rfl) ?_
  refine va_get (D := (g.1, g.2.1)) (ci := 5) (v := .ref (g.2.2.2 5)) (C := RX3) (T := TX3) (N := 1) hx hb hts iX3 hown hK.1 hP 4 (gC4 g σ tl) rfl 0 (by decide) k11 (fun _ h9 => h9) rfl dX3_wipe_14 ?_
  refine lv_iload_n hx hb dX3_wipe_17 rfl (lv_at hl 2 rfl) ?_
  refine lv_bipush (v := nI 21) hx hb dX3_wipe_18 (by decide) ?_
  refine jn_imul hx hb dX3_wipe_20 ?_
  refine lv_iconst (v := nI 0) hx hb dX3_wipe_21 (by decide) ?_
  refine jn_iast (f := σ.2.1 2) hx hb hK.1 hP hD hS 5 0 (gC5 g σ tl) rfl (by omega) (Nat.le_of_ble_eq_true rfl) (uC_A2 g σ tl _) dX3_wipe_22 (fun H locs hP hD hS => ?_)
  refine lv_iload_n hx hb dX3_wipe_23 rfl (lv_at hl 0 rfl) ?_
  exact hq _ _ _ _ ((nI ((σ.2.1 2) (s2 * 21)))) () dX3_wipe_24 rfl hP hD hS

abbrev r_c_X3_writeTo : Room := { frames := 1, cells := 0, slots := 0, locals := 64 }
set_option maxHeartbeats 4000000 in
set_option maxRecDepth 100000 in
theorem c_X3_writeTo (l : Launch) (g : GC) (tl : va_W) (sz : Nat) (σ : SS) (j : Nat) (hj : j < 9) : Met l yX3_writeTo wsX3_writeTo r_c_X3_writeTo (va_Pc [.ref (g.2.2.2 4), .ref (g.2.2.2 (8 + j)), .int (nI 16)] (PW g (wC g σ ++ tl) sz)) (va_Qv (fun (_ : Unit) => True) (fun (_ : Unit) t => BW g (va_A (wC g σ ++ tl) sz) (wC g (sL σ (2 + j) (va_cpy (σ.2.1 2) (σ.2.2 (2 + j)) 0 16 42)) ++ tl) t) (va_A (wC g σ ++ tl) sz)) 0 0 (va_A (wC g σ ++ tl) sz) := by
  refine jn_sv (wf := fun _ : Unit => wC g (sL σ (2 + j) (va_cpy (σ.2.1 2) (σ.2.2 (2 + j)) 0 16 42)) ++ tl) (cc := cX3_writeTo) (maxL := 3) (own := RX3) (by decide) rfl rfl (Nat.le_of_ble_eq_true rfl) ?_
  intro p e s m below meth c Q A hx hb hml hown hts hK hP hD hS hAA hq ls hl
  obtain ⟨H, eH⟩ : ∃ z, z = s.heap := ⟨_, rfl⟩
  obtain ⟨locs, el⟩ : ∃ z : List Loc, z = [] := ⟨_, rfl⟩
  rw [← eH] at hP
  have hS : va_S A s.heap H locs := by rw [eH, el]; exact hS
  have goal0 : W p l e r_c_X3_writeTo s m ([.ref (g.2.2.2 4), .ref (g.2.2.2 (8 + j)), .int (nI 16)] : List Value).toArray below meth c H locs 0 0 Q (F0 m 0 ls []) → W p l e r_c_X3_writeTo s m ([.ref (g.2.2.2 4), .ref (g.2.2.2 (8 + j)), .int (nI 16)] : List Value).toArray below meth c s.heap [] 0 0 Q (F0 m 0 ls []) := fun h => by rw [eH, el] at h; exact h
  refine goal0 ?_
  have hl : lv_has ls 3 [(0, .ref (g.2.2.2 4)), (1, .ref (g.2.2.2 (8 + j))), (2, .int (nI 16))] := hl
  have iX3 : ∀ w ∈ wsX30, w ∈ wsX3_writeTo := by decide +kernel
  have k11 := hts (.fieldLink RX3 11 "JumpingAutomata$CountingSets" "cells" "[I") (by decide +kernel)
  refine lv_iload_n hx hb dX3_writeTo_0 rfl (lv_at hl 2 rfl) ?_
  refine jn_zlt hx hb (by decide) (tgt := 25) dX3_writeTo_1 (by decide) (fun c_1 => absurd c_1 (by decide)) (fun c_1 => ?_)
  refine lv_iload_n hx hb dX3_writeTo_4 rfl (lv_at hl 2 rfl) ?_
  refine lv_aload_n hx hb dX3_writeTo_5 rfl (lv_at hl 1 rfl) ?_
  refine va_alen hx hb hK.1 hP (8 + j) 0 (gCrE g σ tl j hj (f := σ.2.2 (2 + j)) (by first | rfl | exact sL_same _ _ _ | exact if_neg (by omega))) rfl (v := nI 58) rfl dX3_writeTo_6 ?_
  refine lv_bipush (v := nI 42) hx hb dX3_writeTo_7 (by decide) ?_
  refine jn_isub hx hb (by decide) dX3_writeTo_9 ?_
  refine jn_cgt hx hb (by decide) (by decide) (tgt := 25) dX3_writeTo_10 (by decide) (fun c_10 => absurd c_10 (by decide)) (fun c_10 => ?_)
  refine lv_aload_n hx hb dX3_writeTo_13 rfl (lv_at hl 0 rfl) ?_
  refine va_get (D := (g.1, g.2.1)) (ci := 5) (v := .ref (g.2.2.2 5)) (C := RX3) (T := TX3) (N := 1) hx hb hts iX3 hown hK.1 hP 4 (gC4 g σ tl) rfl 0 (by decide) k11 (fun _ h9 => h9) rfl dX3_writeTo_14 ?_
  refine lv_iconst (v := nI 0) hx hb dX3_writeTo_17 (by decide) ?_
  refine lv_aload_n hx hb dX3_writeTo_18 rfl (lv_at hl 1 rfl) ?_
  refine lv_iload_n hx hb dX3_writeTo_19 rfl (lv_at hl 2 rfl) ?_
  refine lv_bipush (v := nI 42) hx hb dX3_writeTo_20 (by decide) ?_
  refine jn_copyi (f := σ.2.1 2) (f2 := σ.2.2 (2 + j)) hx hb (hml.trans hl.1.symm) hown (hts (.methodLink RX3 34 arraycopyName) (by decide +kernel)) (hts (.native arraycopyName) (by decide +kernel)) (hts (.static arraycopyName) (by decide +kernel)) (hts (.initialized "java/lang/System") (by decide +kernel)) hK.1 hP hD hS 5 (8 + j) 0 0 (gC5 g σ tl) (gCrE g σ tl j hj (f := σ.2.2 (2 + j)) (by first | rfl | exact sL_same _ _ _ | exact if_neg (by omega))) rfl rfl (by decide) (by decide) (by decide) (by decide) (by decide) (Nat.le_of_ble_eq_true rfl) (Nat.le_of_ble_eq_true rfl) (uC_Ar g σ tl j hj _) dX3_writeTo_22 (fun H locs hP hD hS => ?_)
  exact hq _ _ _ _ () dX3_writeTo_25 trivial hP hD hS

abbrev r_c_X3_readFrom : Room := { frames := 1, cells := 0, slots := 0, locals := 64 }
set_option maxHeartbeats 4000000 in
set_option maxRecDepth 100000 in
theorem c_X3_readFrom (l : Launch) (g : GC) (tl : va_W) (sz : Nat) (σ : SS) (j : Nat) (hj : j < 9) : Met l yX3_readFrom wsX3_readFrom r_c_X3_readFrom (va_Pc [.ref (g.2.2.2 4), .ref (g.2.2.2 (8 + j)), .int (nI 16)] (PW g (wC g σ ++ tl) sz)) (va_Qv (fun (_ : Unit) => True) (fun (_ : Unit) t => BW g (va_A (wC g σ ++ tl) sz) (wC g (sA σ 2 (va_cpy (σ.2.2 (2 + j)) (σ.2.1 2) 16 0 42)) ++ tl) t) (va_A (wC g σ ++ tl) sz)) 0 0 (va_A (wC g σ ++ tl) sz) := by
  refine jn_sv (wf := fun _ : Unit => wC g (sA σ 2 (va_cpy (σ.2.2 (2 + j)) (σ.2.1 2) 16 0 42)) ++ tl) (cc := cX3_readFrom) (maxL := 3) (own := RX3) (by decide) rfl rfl (Nat.le_of_ble_eq_true rfl) ?_
  intro p e s m below meth c Q A hx hb hml hown hts hK hP hD hS hAA hq ls hl
  obtain ⟨H, eH⟩ : ∃ z, z = s.heap := ⟨_, rfl⟩
  obtain ⟨locs, el⟩ : ∃ z : List Loc, z = [] := ⟨_, rfl⟩
  rw [← eH] at hP
  have hS : va_S A s.heap H locs := by rw [eH, el]; exact hS
  have goal0 : W p l e r_c_X3_readFrom s m ([.ref (g.2.2.2 4), .ref (g.2.2.2 (8 + j)), .int (nI 16)] : List Value).toArray below meth c H locs 0 0 Q (F0 m 0 ls []) → W p l e r_c_X3_readFrom s m ([.ref (g.2.2.2 4), .ref (g.2.2.2 (8 + j)), .int (nI 16)] : List Value).toArray below meth c s.heap [] 0 0 Q (F0 m 0 ls []) := fun h => by rw [eH, el] at h; exact h
  refine goal0 ?_
  have hl : lv_has ls 3 [(0, .ref (g.2.2.2 4)), (1, .ref (g.2.2.2 (8 + j))), (2, .int (nI 16))] := hl
  have iX3 : ∀ w ∈ wsX30, w ∈ wsX3_readFrom := by decide +kernel
  have k11 := hts (.fieldLink RX3 11 "JumpingAutomata$CountingSets" "cells" "[I") (by decide +kernel)
  refine lv_iload_n hx hb dX3_readFrom_0 rfl (lv_at hl 2 rfl) ?_
  refine jn_zlt hx hb (by decide) (tgt := 25) dX3_readFrom_1 (by decide) (fun c_1 => absurd c_1 (by decide)) (fun c_1 => ?_)
  refine lv_iload_n hx hb dX3_readFrom_4 rfl (lv_at hl 2 rfl) ?_
  refine lv_aload_n hx hb dX3_readFrom_5 rfl (lv_at hl 1 rfl) ?_
  refine va_alen hx hb hK.1 hP (8 + j) 0 (gCrE g σ tl j hj (f := σ.2.2 (2 + j)) (by first | rfl | exact sL_same _ _ _ | exact if_neg (by omega))) rfl (v := nI 58) rfl dX3_readFrom_6 ?_
  refine lv_bipush (v := nI 42) hx hb dX3_readFrom_7 (by decide) ?_
  refine jn_isub hx hb (by decide) dX3_readFrom_9 ?_
  refine jn_cgt hx hb (by decide) (by decide) (tgt := 25) dX3_readFrom_10 (by decide) (fun c_10 => absurd c_10 (by decide)) (fun c_10 => ?_)
  refine lv_aload_n hx hb dX3_readFrom_13 rfl (lv_at hl 1 rfl) ?_
  refine lv_iload_n hx hb dX3_readFrom_14 rfl (lv_at hl 2 rfl) ?_
  refine lv_aload_n hx hb dX3_readFrom_15 rfl (lv_at hl 0 rfl) ?_
  refine va_get (D := (g.1, g.2.1)) (ci := 5) (v := .ref (g.2.2.2 5)) (C := RX3) (T := TX3) (N := 1) hx hb hts iX3 hown hK.1 hP 4 (gC4 g σ tl) rfl 0 (by decide) k11 (fun _ h9 => h9) rfl dX3_readFrom_16 ?_
  refine lv_iconst (v := nI 0) hx hb dX3_readFrom_19 (by decide) ?_
  refine lv_bipush (v := nI 42) hx hb dX3_readFrom_20 (by decide) ?_
  refine jn_copyi (f := σ.2.2 (2 + j)) (f2 := σ.2.1 2) hx hb (hml.trans hl.1.symm) hown (hts (.methodLink RX3 34 arraycopyName) (by decide +kernel)) (hts (.native arraycopyName) (by decide +kernel)) (hts (.static arraycopyName) (by decide +kernel)) (hts (.initialized "java/lang/System") (by decide +kernel)) hK.1 hP hD hS (8 + j) 5 0 0 (gCrE g σ tl j hj (f := σ.2.2 (2 + j)) (by first | rfl | exact sL_same _ _ _ | exact if_neg (by omega))) (gC5 g σ tl) rfl rfl (by decide) (by decide) (by decide) (by decide) (by decide) (Nat.le_of_ble_eq_true rfl) (Nat.le_of_ble_eq_true rfl) (uC_A2 g σ tl _) dX3_readFrom_22 (fun H locs hP hD hS => ?_)
  exact hq _ _ _ _ () dX3_readFrom_25 trivial hP hD hS
