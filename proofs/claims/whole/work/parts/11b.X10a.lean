abbrev r_c_X10_isState : Room := { frames := 0, cells := 0, slots := 0, locals := 0 }
set_option maxHeartbeats 4000000 in
set_option maxRecDepth 100000 in
theorem c_X10_isState (l : Launch) (x : Nat) (hx : x < 4294967296) : Met l yX10_isState wsX10_isState r_c_X10_isState (va_Pc [.int (nI x)] (fun _ => True)) (vp_Si (fun r => r = nI (if x < 5 then 1 else 0))) 0 0 (fun _ => False) := by
  refine jn_pz (cc := cX10_isState) (maxL := 1) (own := RX10) (by decide) rfl rfl (Nat.le_of_ble_eq_true rfl) ?_
  intro p e s m below meth c Q hx hb hml hown hts _ hq ls hl
  have hl : lv_has ls 1 [(0, .int (nI x))] := hl
  refine lv_iload_n hx hb dX10_isState_0 rfl (lv_at hl 0 rfl) ?_
  refine jn_zlt hx hb (by omega) (tgt := 13) dX10_isState_1 (by decide) (fun c_1 => ?_) (fun c_1 => ?_)
  · refine lv_iconst (v := nI 0) hx hb dX10_isState_13 (by decide) ?_
    exact hq _ _ _ dX10_isState_14 jn_n0 (by first | rw [if_pos (by omega)] | rw [if_neg (by omega)])
  · refine lv_iload_n hx hb dX10_isState_4 rfl (lv_at hl 0 rfl) ?_
    refine lv_iconst (v := nI 5) hx hb dX10_isState_5 (by decide) ?_
    refine jn_cge hx hb (by omega) (by decide) (tgt := 13) dX10_isState_6 (by decide) (fun c_6 => ?_) (fun c_6 => ?_)
    · refine lv_iconst (v := nI 0) hx hb dX10_isState_13 (by decide) ?_
      exact hq _ _ _ dX10_isState_14 jn_n0 (by first | rw [if_pos (by omega)] | rw [if_neg (by omega)])
    · refine lv_iconst (v := nI 1) hx hb dX10_isState_9 (by decide) ?_
      refine lv_goto (tgt := 14) hx hb dX10_isState_10 (by decide) ?_
      exact hq _ _ _ dX10_isState_14 jn_n1 (by first | rw [if_pos (by omega)] | rw [if_neg (by omega)])

abbrev r_c_X10_isLetter : Room := { frames := 0, cells := 0, slots := 0, locals := 0 }
set_option maxHeartbeats 4000000 in
set_option maxRecDepth 100000 in
theorem c_X10_isLetter (l : Launch) (x : Nat) (hx : x < 4294967296) : Met l yX10_isLetter wsX10_isLetter r_c_X10_isLetter (va_Pc [.int (nI x)] (fun _ => True)) (vp_Si (fun r => r = nI (if x < 3 then 1 else 0))) 0 0 (fun _ => False) := by
  refine jn_pz (cc := cX10_isLetter) (maxL := 1) (own := RX10) (by decide) rfl rfl (Nat.le_of_ble_eq_true rfl) ?_
  intro p e s m below meth c Q hx hb hml hown hts _ hq ls hl
  have hl : lv_has ls 1 [(0, .int (nI x))] := hl
  refine lv_iload_n hx hb dX10_isLetter_0 rfl (lv_at hl 0 rfl) ?_
  refine jn_zlt hx hb (by omega) (tgt := 13) dX10_isLetter_1 (by decide) (fun c_1 => ?_) (fun c_1 => ?_)
  · refine lv_iconst (v := nI 0) hx hb dX10_isLetter_13 (by decide) ?_
    exact hq _ _ _ dX10_isLetter_14 jn_n0 (by first | rw [if_pos (by omega)] | rw [if_neg (by omega)])
  · refine lv_iload_n hx hb dX10_isLetter_4 rfl (lv_at hl 0 rfl) ?_
    refine lv_iconst (v := nI 3) hx hb dX10_isLetter_5 (by decide) ?_
    refine jn_cge hx hb (by omega) (by decide) (tgt := 13) dX10_isLetter_6 (by decide) (fun c_6 => ?_) (fun c_6 => ?_)
    · refine lv_iconst (v := nI 0) hx hb dX10_isLetter_13 (by decide) ?_
      exact hq _ _ _ dX10_isLetter_14 jn_n0 (by first | rw [if_pos (by omega)] | rw [if_neg (by omega)])
    · refine lv_iconst (v := nI 1) hx hb dX10_isLetter_9 (by decide) ?_
      refine lv_goto (tgt := 14) hx hb dX10_isLetter_10 (by decide) ?_
      exact hq _ _ _ dX10_isLetter_14 jn_n1 (by first | rw [if_pos (by omega)] | rw [if_neg (by omega)])

abbrev r_c_X10_isSet : Room := { frames := 0, cells := 0, slots := 0, locals := 0 }
set_option maxHeartbeats 4000000 in
set_option maxRecDepth 100000 in
theorem c_X10_isSet (l : Launch) (x : Nat) (hx : x < 4294967296) : Met l yX10_isSet wsX10_isSet r_c_X10_isSet (va_Pc [.int (nI x)] (fun _ => True)) (vp_Si (fun r => r = nI (if x < 2 then 1 else 0))) 0 0 (fun _ => False) := by
  refine jn_pz (cc := cX10_isSet) (maxL := 1) (own := RX10) (by decide) rfl rfl (Nat.le_of_ble_eq_true rfl) ?_
  intro p e s m below meth c Q hx hb hml hown hts _ hq ls hl
  have hl : lv_has ls 1 [(0, .int (nI x))] := hl
  refine lv_iload_n hx hb dX10_isSet_0 rfl (lv_at hl 0 rfl) ?_
  refine jn_zlt hx hb (by omega) (tgt := 13) dX10_isSet_1 (by decide) (fun c_1 => ?_) (fun c_1 => ?_)
  · refine lv_iconst (v := nI 0) hx hb dX10_isSet_13 (by decide) ?_
    exact hq _ _ _ dX10_isSet_14 jn_n0 (by first | rw [if_pos (by omega)] | rw [if_neg (by omega)])
  · refine lv_iload_n hx hb dX10_isSet_4 rfl (lv_at hl 0 rfl) ?_
    refine lv_iconst (v := nI 2) hx hb dX10_isSet_5 (by decide) ?_
    refine jn_cge hx hb (by omega) (by decide) (tgt := 13) dX10_isSet_6 (by decide) (fun c_6 => ?_) (fun c_6 => ?_)
    · refine lv_iconst (v := nI 0) hx hb dX10_isSet_13 (by decide) ?_
      exact hq _ _ _ dX10_isSet_14 jn_n0 (by first | rw [if_pos (by omega)] | rw [if_neg (by omega)])
    · refine lv_iconst (v := nI 1) hx hb dX10_isSet_9 (by decide) ?_
      refine lv_goto (tgt := 14) hx hb dX10_isSet_10 (by decide) ?_
      exact hq _ _ _ dX10_isSet_14 jn_n1 (by first | rw [if_pos (by omega)] | rw [if_neg (by omega)])

abbrev r_c_X10_isDigit : Room := { frames := 0, cells := 0, slots := 0, locals := 0 }
set_option maxHeartbeats 4000000 in
set_option maxRecDepth 100000 in
theorem c_X10_isDigit (l : Launch) (x : Nat) (hx : x < 4294967296) : Met l yX10_isDigit wsX10_isDigit r_c_X10_isDigit (va_Pc [.int (nI x)] (fun _ => True)) (vp_Si (fun r => r = nI (if x < 10 then 1 else 0))) 0 0 (fun _ => False) := by
  refine jn_pz (cc := cX10_isDigit) (maxL := 1) (own := RX10) (by decide) rfl rfl (Nat.le_of_ble_eq_true rfl) ?_
  intro p e s m below meth c Q hx hb hml hown hts _ hq ls hl
  have hl : lv_has ls 1 [(0, .int (nI x))] := hl
  refine lv_iload_n hx hb dX10_isDigit_0 rfl (lv_at hl 0 rfl) ?_
  refine jn_zlt hx hb (by omega) (tgt := 14) dX10_isDigit_1 (by decide) (fun c_1 => ?_) (fun c_1 => ?_)
  · refine lv_iconst (v := nI 0) hx hb dX10_isDigit_14 (by decide) ?_
    exact hq _ _ _ dX10_isDigit_15 jn_n0 (by first | rw [if_pos (by omega)] | rw [if_neg (by omega)])
  · refine lv_iload_n hx hb dX10_isDigit_4 rfl (lv_at hl 0 rfl) ?_
    refine lv_bipush (v := nI 9) hx hb dX10_isDigit_5 (by decide) ?_
    refine jn_cgt hx hb (by omega) (by decide) (tgt := 14) dX10_isDigit_7 (by decide) (fun c_7 => ?_) (fun c_7 => ?_)
    · refine lv_iconst (v := nI 0) hx hb dX10_isDigit_14 (by decide) ?_
      exact hq _ _ _ dX10_isDigit_15 jn_n0 (by first | rw [if_pos (by omega)] | rw [if_neg (by omega)])
    · refine lv_iconst (v := nI 1) hx hb dX10_isDigit_10 (by decide) ?_
      refine lv_goto (tgt := 15) hx hb dX10_isDigit_11 (by decide) ?_
      exact hq _ _ _ dX10_isDigit_15 jn_n1 (by first | rw [if_pos (by omega)] | rw [if_neg (by omega)])

abbrev r_c_X10_isTransition : Room := { frames := 1, cells := 0, slots := 0, locals := 20 }
set_option maxHeartbeats 4000000 in
set_option maxRecDepth 100000 in
theorem c_X10_isTransition (l : Launch) (a b c2 : Nat) (ha : a < 4294967296) (hb2 : b < 4294967296) (hc : c2 < 4294967296) : Met l yX10_isTransition wsX10_isTransition r_c_X10_isTransition (va_Pc [.int (nI a), .int (nI b), .int (nI c2)] (fun _ => True)) (vp_Si (fun r => r = nI (if a < 5 ∧ b < 3 ∧ c2 < 5 then 1 else 0))) 0 0 (fun _ => False) := by
  refine jn_pz (cc := cX10_isTransition) (maxL := 3) (own := RX10) (by decide) rfl rfl (Nat.le_of_ble_eq_true rfl) ?_
  intro p e s m below meth c Q hx hb hml hown hts _ hq ls hl
  have hl : lv_has ls 3 [(0, .int (nI a)), (1, .int (nI b)), (2, .int (nI c2))] := hl
  refine lv_iload_n hx hb dX10_isTransition_0 rfl (lv_at hl 0 rfl) ?_
  refine vp_callSi (va_Run.run (va_runS (As := [.int (nI a)]) (rest := []) ⟨hx, hb, hml, hown, hts⟩ (c_X10_isState l a (by omega)) (va_cwS 1 hts gX10_isTransition_X10_isState rfl rfl rfl (by decide +kernel) ⟨Nat.le_of_ble_eq_true rfl, Nat.le_of_ble_eq_true rfl⟩) okTS rfl rfl hl.1 rfl (lv_room (Nat.le_of_ble_eq_true rfl)) dX10_isTransition_1 ⟨Nat.le_of_ble_eq_true rfl, Nat.le_of_ble_eq_true rfl⟩)) (fun r_1 h_1 => ?_)
  subst h_1
  refine jn_beq hx hb (tgt := 25) dX10_isTransition_4 (by decide) (fun c_4 => ?_) (fun c_4 => ?_)
  · refine lv_iconst (v := nI 0) hx hb dX10_isTransition_25 (by decide) ?_
    exact hq _ _ _ dX10_isTransition_26 jn_n0 (by first | rw [if_pos (by omega)] | rw [if_neg (by omega)])
  · refine lv_iload_n hx hb dX10_isTransition_7 rfl (lv_at hl 1 rfl) ?_
    refine vp_callSi (va_Run.run (va_runS (As := [.int (nI b)]) (rest := []) ⟨hx, hb, hml, hown, hts⟩ (c_X10_isLetter l b (by omega)) (va_cwS 1 hts gX10_isTransition_X10_isLetter rfl rfl rfl (by decide +kernel) ⟨Nat.le_of_ble_eq_true rfl, Nat.le_of_ble_eq_true rfl⟩) okTS rfl rfl hl.1 rfl (lv_room (Nat.le_of_ble_eq_true rfl)) dX10_isTransition_8 ⟨Nat.le_of_ble_eq_true rfl, Nat.le_of_ble_eq_true rfl⟩)) (fun r_8 h_8 => ?_)
    subst h_8
    refine jn_beq hx hb (tgt := 25) dX10_isTransition_11 (by decide) (fun c_11 => ?_) (fun c_11 => ?_)
    · refine lv_iconst (v := nI 0) hx hb dX10_isTransition_25 (by decide) ?_
      exact hq _ _ _ dX10_isTransition_26 jn_n0 (by first | rw [if_pos (by omega)] | rw [if_neg (by omega)])
    · refine lv_iload_n hx hb dX10_isTransition_14 rfl (lv_at hl 2 rfl) ?_
      refine vp_callSi (va_Run.run (va_runS (As := [.int (nI c2)]) (rest := []) ⟨hx, hb, hml, hown, hts⟩ (c_X10_isState l c2 (by omega)) (va_cwS 1 hts gX10_isTransition_X10_isState rfl rfl rfl (by decide +kernel) ⟨Nat.le_of_ble_eq_true rfl, Nat.le_of_ble_eq_true rfl⟩) okTS rfl rfl hl.1 rfl (lv_room (Nat.le_of_ble_eq_true rfl)) dX10_isTransition_15 ⟨Nat.le_of_ble_eq_true rfl, Nat.le_of_ble_eq_true rfl⟩)) (fun r_15 h_15 => ?_)
      subst h_15
      refine jn_beq hx hb (tgt := 25) dX10_isTransition_18 (by decide) (fun c_18 => ?_) (fun c_18 => ?_)
      · refine lv_iconst (v := nI 0) hx hb dX10_isTransition_25 (by decide) ?_
        exact hq _ _ _ dX10_isTransition_26 jn_n0 (by first | rw [if_pos (by omega)] | rw [if_neg (by omega)])
      · refine lv_iconst (v := nI 1) hx hb dX10_isTransition_21 (by decide) ?_
        refine lv_goto (tgt := 26) hx hb dX10_isTransition_22 (by decide) ?_
        exact hq _ _ _ dX10_isTransition_26 jn_n1 (by first | rw [if_pos (by omega)] | rw [if_neg (by omega)])

abbrev r_c_X10_areDigits : Room := { frames := 1, cells := 0, slots := 0, locals := 20 }
set_option maxHeartbeats 4000000 in
set_option maxRecDepth 100000 in
theorem c_X10_areDigits (l : Launch) (a b c2 : Nat) (ha : a < 4294967296) (hb2 : b < 4294967296) (hc : c2 < 4294967296) : Met l yX10_areDigits wsX10_areDigits r_c_X10_areDigits (va_Pc [.int (nI a), .int (nI b), .int (nI c2)] (fun _ => True)) (vp_Si (fun r => r = nI (if a < 10 ∧ b < 10 ∧ c2 < 10 then 1 else 0))) 0 0 (fun _ => False) := by
  refine jn_pz (cc := cX10_areDigits) (maxL := 3) (own := RX10) (by decide) rfl rfl (Nat.le_of_ble_eq_true rfl) ?_
  intro p e s m below meth c Q hx hb hml hown hts _ hq ls hl
  have hl : lv_has ls 3 [(0, .int (nI a)), (1, .int (nI b)), (2, .int (nI c2))] := hl
  refine lv_iload_n hx hb dX10_areDigits_0 rfl (lv_at hl 0 rfl) ?_
  refine vp_callSi (va_Run.run (va_runS (As := [.int (nI a)]) (rest := []) ⟨hx, hb, hml, hown, hts⟩ (c_X10_isDigit l a (by omega)) (va_cwS 1 hts gX10_areDigits_X10_isDigit rfl rfl rfl (by decide +kernel) ⟨Nat.le_of_ble_eq_true rfl, Nat.le_of_ble_eq_true rfl⟩) okTS rfl rfl hl.1 rfl (lv_room (Nat.le_of_ble_eq_true rfl)) dX10_areDigits_1 ⟨Nat.le_of_ble_eq_true rfl, Nat.le_of_ble_eq_true rfl⟩)) (fun r_1 h_1 => ?_)
  subst h_1
  refine jn_beq hx hb (tgt := 25) dX10_areDigits_4 (by decide) (fun c_4 => ?_) (fun c_4 => ?_)
  · refine lv_iconst (v := nI 0) hx hb dX10_areDigits_25 (by decide) ?_
    exact hq _ _ _ dX10_areDigits_26 jn_n0 (by first | rw [if_pos (by omega)] | rw [if_neg (by omega)])
  · refine lv_iload_n hx hb dX10_areDigits_7 rfl (lv_at hl 1 rfl) ?_
    refine vp_callSi (va_Run.run (va_runS (As := [.int (nI b)]) (rest := []) ⟨hx, hb, hml, hown, hts⟩ (c_X10_isDigit l b (by omega)) (va_cwS 1 hts gX10_areDigits_X10_isDigit rfl rfl rfl (by decide +kernel) ⟨Nat.le_of_ble_eq_true rfl, Nat.le_of_ble_eq_true rfl⟩) okTS rfl rfl hl.1 rfl (lv_room (Nat.le_of_ble_eq_true rfl)) dX10_areDigits_8 ⟨Nat.le_of_ble_eq_true rfl, Nat.le_of_ble_eq_true rfl⟩)) (fun r_8 h_8 => ?_)
    subst h_8
    refine jn_beq hx hb (tgt := 25) dX10_areDigits_11 (by decide) (fun c_11 => ?_) (fun c_11 => ?_)
    · refine lv_iconst (v := nI 0) hx hb dX10_areDigits_25 (by decide) ?_
      exact hq _ _ _ dX10_areDigits_26 jn_n0 (by first | rw [if_pos (by omega)] | rw [if_neg (by omega)])
    · refine lv_iload_n hx hb dX10_areDigits_14 rfl (lv_at hl 2 rfl) ?_
      refine vp_callSi (va_Run.run (va_runS (As := [.int (nI c2)]) (rest := []) ⟨hx, hb, hml, hown, hts⟩ (c_X10_isDigit l c2 (by omega)) (va_cwS 1 hts gX10_areDigits_X10_isDigit rfl rfl rfl (by decide +kernel) ⟨Nat.le_of_ble_eq_true rfl, Nat.le_of_ble_eq_true rfl⟩) okTS rfl rfl hl.1 rfl (lv_room (Nat.le_of_ble_eq_true rfl)) dX10_areDigits_15 ⟨Nat.le_of_ble_eq_true rfl, Nat.le_of_ble_eq_true rfl⟩)) (fun r_15 h_15 => ?_)
      subst h_15
      refine jn_beq hx hb (tgt := 25) dX10_areDigits_18 (by decide) (fun c_18 => ?_) (fun c_18 => ?_)
      · refine lv_iconst (v := nI 0) hx hb dX10_areDigits_25 (by decide) ?_
        exact hq _ _ _ dX10_areDigits_26 jn_n0 (by first | rw [if_pos (by omega)] | rw [if_neg (by omega)])
      · refine lv_iconst (v := nI 1) hx hb dX10_areDigits_21 (by decide) ?_
        refine lv_goto (tgt := 26) hx hb dX10_areDigits_22 (by decide) ?_
        exact hq _ _ _ dX10_areDigits_26 jn_n1 (by first | rw [if_pos (by omega)] | rw [if_neg (by omega)])

abbrev r_c_X10_codeOf : Room := { frames := 0, cells := 0, slots := 0, locals := 0 }
set_option maxHeartbeats 4000000 in
set_option maxRecDepth 100000 in
theorem c_X10_codeOf (l : Launch) (a b c2 : Nat) : Met l yX10_codeOf wsX10_codeOf r_c_X10_codeOf (va_Pc [.int (nI a), .int (nI b), .int (nI c2)] (fun _ => True)) (vp_Si (fun r => r = nI (100 * a + 10 * b + c2))) 0 0 (fun _ => False) := by
  refine jn_pi (cc := cX10_codeOf) (maxL := 3) (own := RX10) (by decide) rfl rfl (Nat.le_of_ble_eq_true rfl) ?_
  intro p e s m below meth c Q hx hb hml hown hts _ hq ls hl
  have hl : lv_has ls 3 [(0, .int (nI a)), (1, .int (nI b)), (2, .int (nI c2))] := hl
  refine lv_bipush (v := nI 100) hx hb dX10_codeOf_0 (by decide) ?_
  refine lv_iload_n hx hb dX10_codeOf_2 rfl (lv_at hl 0 rfl) ?_
  refine jn_imul hx hb dX10_codeOf_3 ?_
  refine lv_bipush (v := nI 10) hx hb dX10_codeOf_4 (by decide) ?_
  refine lv_iload_n hx hb dX10_codeOf_6 rfl (lv_at hl 1 rfl) ?_
  refine jn_imul hx hb dX10_codeOf_7 ?_
  refine jn_iadd hx hb dX10_codeOf_8 ?_
  refine lv_iload_n hx hb dX10_codeOf_9 rfl (lv_at hl 2 rfl) ?_
  refine jn_iadd hx hb dX10_codeOf_10 ?_
  exact hq _ _ _ dX10_codeOf_11 rfl

abbrev r_c_X10_weightOf : Room := { frames := 0, cells := 0, slots := 0, locals := 0 }
set_option maxHeartbeats 4000000 in
set_option maxRecDepth 100000 in
theorem c_X10_weightOf (l : Launch) (x : Nat) (hx : x < 2147483648) : Met l yX10_weightOf wsX10_weightOf r_c_X10_weightOf (va_Pc [.int (nI x)] (fun _ => True)) (vp_Si (fun r => r = nI (if x = 0 then 100 else if x = 1 then 10 else 1))) 0 0 (fun _ => False) := by
  refine jn_pi (cc := cX10_weightOf) (maxL := 1) (own := RX10) (by decide) rfl rfl (Nat.le_of_ble_eq_true rfl) ?_
  intro p e s m below meth c Q hx hb hml hown hts _ hq ls hl
  have hl : lv_has ls 1 [(0, .int (nI x))] := hl
  refine lv_iload_n hx hb dX10_weightOf_0 rfl (lv_at hl 0 rfl) ?_
  refine jn_zne hx hb (by omega) (tgt := 9) dX10_weightOf_1 (by decide) (fun c_1 => ?_) (fun c_1 => ?_)
  · refine lv_iload_n hx hb dX10_weightOf_9 rfl (lv_at hl 0 rfl) ?_
    refine lv_iconst (v := nI 1) hx hb dX10_weightOf_10 (by decide) ?_
    refine jn_cne hx hb (by omega) (by decide) (tgt := 19) dX10_weightOf_11 (by decide) (fun c_11 => ?_) (fun c_11 => ?_)
    · refine lv_iconst (v := nI 1) hx hb dX10_weightOf_19 (by decide) ?_
      exact hq _ _ _ dX10_weightOf_20 (by first | rw [if_pos (by omega)] | rw [if_neg (by omega), if_pos (by omega)] | rw [if_neg (by omega), if_neg (by omega)])
    · refine lv_bipush (v := nI 10) hx hb dX10_weightOf_14 (by decide) ?_
      refine lv_goto (tgt := 20) hx hb dX10_weightOf_16 (by decide) ?_
      exact hq _ _ _ dX10_weightOf_20 (by first | rw [if_pos (by omega)] | rw [if_neg (by omega), if_pos (by omega)] | rw [if_neg (by omega), if_neg (by omega)])
  · refine lv_bipush (v := nI 100) hx hb dX10_weightOf_4 (by decide) ?_
    refine lv_goto (tgt := 20) hx hb dX10_weightOf_6 (by decide) ?_
    exact hq _ _ _ dX10_weightOf_20 (by first | rw [if_pos (by omega)] | rw [if_neg (by omega), if_pos (by omega)] | rw [if_neg (by omega), if_neg (by omega)])

abbrev r_c_X10_firstOf : Room := { frames := 0, cells := 0, slots := 0, locals := 0 }
set_option maxHeartbeats 4000000 in
set_option maxRecDepth 100000 in
theorem c_X10_firstOf (l : Launch) (x : Nat) (hx : x < 2147483648) : Met l yX10_firstOf wsX10_firstOf r_c_X10_firstOf (va_Pc [.int (nI x)] (fun _ => True)) (vp_Si (fun r => r = nI (x / 100))) 0 0 (fun _ => False) := by
  refine jn_pi (cc := cX10_firstOf) (maxL := 1) (own := RX10) (by decide) rfl rfl (Nat.le_of_ble_eq_true rfl) ?_
  intro p e s m below meth c Q hx hb hml hown hts _ hq ls hl
  have hl : lv_has ls 1 [(0, .int (nI x))] := hl
  refine lv_iload_n hx hb dX10_firstOf_0 rfl (lv_at hl 0 rfl) ?_
  refine lv_bipush (v := nI 100) hx hb dX10_firstOf_1 (by decide) ?_
  refine jn_idiv hx hb (by omega) (by decide) (by decide) dX10_firstOf_3 ?_
  exact hq _ _ _ dX10_firstOf_4 rfl

abbrev r_c_X10_secondOf : Room := { frames := 0, cells := 0, slots := 0, locals := 0 }
set_option maxHeartbeats 4000000 in
set_option maxRecDepth 100000 in
theorem c_X10_secondOf (l : Launch) (x : Nat) (hx : x < 2147483648) : Met l yX10_secondOf wsX10_secondOf r_c_X10_secondOf (va_Pc [.int (nI x)] (fun _ => True)) (vp_Si (fun r => r = nI (x / 10 % 10))) 0 0 (fun _ => False) := by
  refine jn_pi (cc := cX10_secondOf) (maxL := 1) (own := RX10) (by decide) rfl rfl (Nat.le_of_ble_eq_true rfl) ?_
  intro p e s m below meth c Q hx hb hml hown hts _ hq ls hl
  have hl : lv_has ls 1 [(0, .int (nI x))] := hl
  refine lv_iload_n hx hb dX10_secondOf_0 rfl (lv_at hl 0 rfl) ?_
  refine lv_bipush (v := nI 10) hx hb dX10_secondOf_1 (by decide) ?_
  refine jn_idiv hx hb (by omega) (by decide) (by decide) dX10_secondOf_3 ?_
  refine lv_bipush (v := nI 10) hx hb dX10_secondOf_4 (by decide) ?_
  refine jn_irem hx hb (by omega) (by decide) (by decide) dX10_secondOf_6 ?_
  exact hq _ _ _ dX10_secondOf_7 rfl

abbrev r_c_X10_thirdOf : Room := { frames := 0, cells := 0, slots := 0, locals := 0 }
set_option maxHeartbeats 4000000 in
set_option maxRecDepth 100000 in
theorem c_X10_thirdOf (l : Launch) (x : Nat) (hx : x < 2147483648) : Met l yX10_thirdOf wsX10_thirdOf r_c_X10_thirdOf (va_Pc [.int (nI x)] (fun _ => True)) (vp_Si (fun r => r = nI (x % 10))) 0 0 (fun _ => False) := by
  refine jn_pi (cc := cX10_thirdOf) (maxL := 1) (own := RX10) (by decide) rfl rfl (Nat.le_of_ble_eq_true rfl) ?_
  intro p e s m below meth c Q hx hb hml hown hts _ hq ls hl
  have hl : lv_has ls 1 [(0, .int (nI x))] := hl
  refine lv_iload_n hx hb dX10_thirdOf_0 rfl (lv_at hl 0 rfl) ?_
  refine lv_bipush (v := nI 10) hx hb dX10_thirdOf_1 (by decide) ?_
  refine jn_irem hx hb (by omega) (by decide) (by decide) dX10_thirdOf_3 ?_
  exact hq _ _ _ dX10_thirdOf_4 rfl
