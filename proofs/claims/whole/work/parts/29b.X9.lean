abbrev r_c_X9_arrange_d8 : Room := { frames := 1, cells := 0, slots := 0, locals := 21 }
set_option maxHeartbeats 4000000 in
set_option maxRecDepth 100000 in
theorem c_X9_arrange_d8 (l : Launch) (g : GC) (tl : va_W) (sz : Nat) (σ : SS) (mk : Nat) (hA : OkA σ) (h1 : (σ.1 17) ≤ 8) (h2 : 8 ≤ (σ.1 17)) (hm : mk < 32) (hw2 : (σ.1 19) < 4294967296) (hs : (σ.1 18) + 3 ^ ((σ.1 17) - 8) ≤ 10000) (hlf : (σ.2.1 20) 0 + (σ.2.1 20) 1 + (σ.2.1 20) 2 = ((σ.1 17) - 8)) : Met l yX9_arrange wsX9_arrange r_c_X9_arrange_d8 (va_Pc [.ref (g.2.2.2 30), .ref (g.2.2.2 1), .int (nI 8), .int (nI mk)] (PW g (wC g σ ++ tl) sz)) (va_Qi (fun (r : Int32) (z : Nat × (Nat → Nat) × (Nat → Nat) × Nat) => match z with | (b, lt2, lf2, sn2) => (r = nI (b)) ∧ ((b = 1 ∧ ((σ.1 18) ≤ (σ.1 19) ∧ (σ.1 19) < (σ.1 18) + arrN (σ.2.1 0) (σ.1 0) ((σ.1 17) - 8) (σ.2.1 20) mk) ∧ isArr (σ.2.1 0) (σ.1 0) ((σ.1 17) - 8) (σ.2.1 20) mk ((σ.1 19) - (σ.1 18)) (fun i => lt2 (8 + i))) ∨ (b = 0 ∧ ¬ ((σ.1 18) ≤ (σ.1 19) ∧ (σ.1 19) < (σ.1 18) + arrN (σ.2.1 0) (σ.1 0) ((σ.1 17) - 8) (σ.2.1 20) mk) ∧ sn2 = (σ.1 18) + arrN (σ.2.1 0) (σ.1 0) ((σ.1 17) - 8) (σ.2.1 20) mk ∧ ∀ x, x < 3 → lf2 x = (σ.2.1 20) x)) ∧ (∀ i, i < 8 → lt2 i = (σ.2.1 19) i)) (fun (z : Nat × (Nat → Nat) × (Nat → Nat) × Nat) t => BW g (va_A (wC g σ ++ tl) sz) ((fun z : Nat × (Nat → Nat) × (Nat → Nat) × Nat => match z with | (b, lt2, lf2, sn2) => wC g (sA (sA (sF σ 18 sn2) 19 lt2) 20 lf2) ++ tl) z) t) (va_A (wC g σ ++ tl) sz)) 0 0 (va_A (wC g σ ++ tl) sz) := by
  refine jn_sz (wf := fun z : Nat × (Nat → Nat) × (Nat → Nat) × Nat => match z with | (b, lt2, lf2, sn2) => wC g (sA (sA (sF σ 18 sn2) 19 lt2) 20 lf2) ++ tl) (cc := cX9_arrange) (maxL := 6) (own := RX9) (by decide) rfl rfl (Nat.le_of_ble_eq_true rfl) ?_
  intro p e s m below meth c Q A hx hb hml hown hts hK hP hD hS hAA hq ls hl
  obtain ⟨H, eH⟩ : ∃ z, z = s.heap := ⟨_, rfl⟩
  obtain ⟨locs, el⟩ : ∃ z : List Loc, z = [] := ⟨_, rfl⟩
  rw [← eH] at hP
  have hS : va_S A s.heap H locs := by rw [eH, el]; exact hS
  have goal0 : W p l e r_c_X9_arrange_d8 s m ([.ref (g.2.2.2 30), .ref (g.2.2.2 1), .int (nI 8), .int (nI mk)] : List Value).toArray below meth c H locs 0 0 Q (F0 m 0 ls []) → W p l e r_c_X9_arrange_d8 s m ([.ref (g.2.2.2 30), .ref (g.2.2.2 1), .int (nI 8), .int (nI mk)] : List Value).toArray below meth c s.heap [] 0 0 Q (F0 m 0 ls []) := fun h => by rw [eH, el] at h; exact h
  refine goal0 ?_
  have hl : lv_has ls 6 [(0, .ref (g.2.2.2 30)), (1, .ref (g.2.2.2 1)), (2, .int (nI 8)), (3, .int (nI mk))] := hl
  have iX9 : ∀ w ∈ wsX90, w ∈ wsX9_arrange := by decide +kernel
  have k18 := hts (.fieldLink RX9 18 "JumpingAutomata$WordSearch" "length" "I") (by decide +kernel)
  have k22 := hts (.fieldLink RX9 22 "JumpingAutomata$WordSearch" "seen" "I") (by decide +kernel)
  have k25 := hts (.fieldLink RX9 25 "JumpingAutomata$WordSearch" "wanted" "I") (by decide +kernel)
  have hs9 : (σ.1 18) ≤ 10000 := Nat.le_trans (Nat.le_add_right _ _) hs
  refine lv_iload_n hx hb dX9_arrange_0 rfl (lv_at hl 2 rfl) ?_
  refine lv_aload_n hx hb dX9_arrange_1 rfl (lv_at hl 0 rfl) ?_
  refine va_get (D := (g.1, g.2.1)) (ci := 11) (v := .int (nI (σ.1 17))) (C := RX9) (T := TX9) (N := 7) hx hb hts iX9 hown hK.1 hP 30 (gC30 g σ tl) rfl 2 (by decide) k18 (fun _ h9 => h9) rfl dX9_arrange_2 ?_
  refine jn_cge hx hb (by decide) (by omega) (tgt := 14) dX9_arrange_5 (by decide) (fun c_5 => ?_) (fun c_5 => absurd c_5 (by omega))
  refine lv_aload_n hx hb dX9_arrange_14 rfl (lv_at hl 1 rfl) ?_
  refine lv_iload_n hx hb dX9_arrange_15 rfl (lv_at hl 3 rfl) ?_
  refine vp_callSi (va_Run.run (va_runV (As := [.int (nI mk)]) (rest := []) ⟨hx, hb, hml, hown, hts⟩ (c_X0_accepting l g tl σ mk hA) (cwV 1 hts gX9_arrange_X0_accepting rfl rfl rfl (by decide +kernel) ⟨Nat.le_of_ble_eq_true rfl, Nat.le_of_ble_eq_true rfl⟩) (okPV hK hP rfl (gC1 g σ tl)) rfl rfl hl.1 rfl (lv_room (Nat.le_of_ble_eq_true rfl)) dX9_arrange_16 ⟨Nat.le_of_ble_eq_true rfl, Nat.le_of_ble_eq_true rfl⟩)) (fun r_16 h_16 => ?_)
  subst h_16
  have e0 : ((σ.1 17) - 8) = 0 := by omega
  refine jn_bne hx hb (tgt := 24) dX9_arrange_19 (by decide) (fun c_19 => ?_) (fun c_19 => ?_)
  · refine lv_aload_n hx hb dX9_arrange_24 rfl (lv_at hl 0 rfl) ?_
    refine lv_dup hx hb dX9_arrange_25 rfl ?_
    refine va_get (D := (g.1, g.2.1)) (ci := 11) (v := .int (nI (σ.1 18))) (C := RX9) (T := TX9) (N := 7) hx hb hts iX9 hown hK.1 hP 30 (gC30 g σ tl) rfl 3 (by decide) k22 (fun _ h9 => h9) rfl dX9_arrange_26 ?_
    refine lv_iconst (v := nI 1) hx hb dX9_arrange_29 (by decide) ?_
    refine jn_iadd hx hb dX9_arrange_30 ?_
    refine jn_put (D := (g.1, g.2.1)) (ci := 11) (v := .int (nI ((σ.1 18) + 1))) (ty := .int) (C := RX9) (T := TX9) (N := 7) hx hb hts iX9 tyX9 tyX9_ok nmX9 hown hK.1 hP hD hS 30 (gC30 g σ tl) rfl 3 (by decide) k22 (fun _ h9 => h9) rfl (by decide +kernel) rfl rfl (Nat.le_of_ble_eq_true rfl) (uC_F18 g σ tl ((σ.1 18) + 1)) dX9_arrange_31 (fun H locs hP hD hS => ?_)
    refine lv_aload_n hx hb dX9_arrange_34 rfl (lv_at hl 0 rfl) ?_
    refine va_get (D := (g.1, g.2.1)) (ci := 11) (v := .int (nI ((σ.1 18) + 1))) (C := RX9) (T := TX9) (N := 7) hx hb hts iX9 hown hK.1 hP 30 (gC30 g (sF σ 18 ((σ.1 18) + 1)) tl) rfl 3 (by decide) k22 (fun _ h9 => h9) rfl dX9_arrange_35 ?_
    refine lv_iconst (v := nI 1) hx hb dX9_arrange_38 (by decide) ?_
    refine jn_isub hx hb (by omega) dX9_arrange_39 ?_
    refine lv_aload_n hx hb dX9_arrange_40 rfl (lv_at hl 0 rfl) ?_
    refine va_get (D := (g.1, g.2.1)) (ci := 11) (v := .int (nI (σ.1 19))) (C := RX9) (T := TX9) (N := 7) hx hb hts iX9 hown hK.1 hP 30 (gC30 g (sF σ 18 ((σ.1 18) + 1)) tl) rfl 4 (by decide) k25 (fun _ h9 => h9) rfl dX9_arrange_41 ?_
    refine jn_cneW hx hb (by omega) hw2 (tgt := 51) dX9_arrange_44 (by decide) (fun c_44 => ?_) (fun c_44 => ?_)
    · refine lv_iconst (v := nI 0) hx hb dX9_arrange_51 (by decide) ?_
      exact hq _ _ _ _ ((nI 0)) (0, (σ.2.1 19), (σ.2.1 20), (σ.1 18) + 1) dX9_arrange_52 jn_n0 ⟨rfl, by first | exact Or.inl ⟨rfl, by rw [e0, arrN, if_pos c_19]; omega, by rw [e0]; trivial⟩ | exact Or.inr ⟨rfl, by rw [e0, arrN, if_pos c_19]; omega, by rw [e0, arrN, if_pos c_19], fun _ _ => rfl⟩, fun _ _ => rfl⟩ hP hD hS
    · refine lv_iconst (v := nI 1) hx hb dX9_arrange_47 (by decide) ?_
      refine lv_goto (tgt := 52) hx hb dX9_arrange_48 (by decide) ?_
      exact hq _ _ _ _ ((nI 1)) (1, (σ.2.1 19), (σ.2.1 20), (σ.1 18) + 1) dX9_arrange_52 jn_n1 ⟨rfl, by first | exact Or.inl ⟨rfl, by rw [e0, arrN, if_pos c_19]; omega, by rw [e0]; trivial⟩ | exact Or.inr ⟨rfl, by rw [e0, arrN, if_pos c_19]; omega, by rw [e0, arrN, if_pos c_19], fun _ _ => rfl⟩, fun _ _ => rfl⟩ hP hD hS
  · refine lv_iconst (v := nI 0) hx hb dX9_arrange_22 (by decide) ?_
    exact hq _ _ _ _ ((nI 0)) (0, (σ.2.1 19), (σ.2.1 20), (σ.1 18)) dX9_arrange_23 jn_n0 ⟨rfl, Or.inr ⟨rfl, by rw [e0, arrN, if_neg c_19]; omega, by rw [e0, arrN, if_neg c_19, Nat.add_zero], fun _ _ => rfl⟩, fun _ _ => rfl⟩ hP hD hS

abbrev r_c_X9_arrange_d7 : Room := { frames := 2, cells := 0, slots := 0, locals := 46 }
set_option maxHeartbeats 4000000 in
set_option maxRecDepth 100000 in
theorem c_X9_arrange_d7 (l : Launch) (g : GC) (tl : va_W) (sz : Nat) (σ : SS) (mk : Nat) (hA : OkA σ) (h1 : (σ.1 17) ≤ 8) (h2 : 7 ≤ (σ.1 17)) (hm : mk < 32) (hw2 : (σ.1 19) < 4294967296) (hs : (σ.1 18) + 3 ^ ((σ.1 17) - 7) ≤ 10000) (hlf : (σ.2.1 20) 0 + (σ.2.1 20) 1 + (σ.2.1 20) 2 = ((σ.1 17) - 7)) : Met l yX9_arrange wsX9_arrange r_c_X9_arrange_d7 (va_Pc [.ref (g.2.2.2 30), .ref (g.2.2.2 1), .int (nI 7), .int (nI mk)] (PW g (wC g σ ++ tl) sz)) (va_Qi (fun (r : Int32) (z : Nat × (Nat → Nat) × (Nat → Nat) × Nat) => match z with | (b, lt2, lf2, sn2) => (r = nI (b)) ∧ ((b = 1 ∧ ((σ.1 18) ≤ (σ.1 19) ∧ (σ.1 19) < (σ.1 18) + arrN (σ.2.1 0) (σ.1 0) ((σ.1 17) - 7) (σ.2.1 20) mk) ∧ isArr (σ.2.1 0) (σ.1 0) ((σ.1 17) - 7) (σ.2.1 20) mk ((σ.1 19) - (σ.1 18)) (fun i => lt2 (7 + i))) ∨ (b = 0 ∧ ¬ ((σ.1 18) ≤ (σ.1 19) ∧ (σ.1 19) < (σ.1 18) + arrN (σ.2.1 0) (σ.1 0) ((σ.1 17) - 7) (σ.2.1 20) mk) ∧ sn2 = (σ.1 18) + arrN (σ.2.1 0) (σ.1 0) ((σ.1 17) - 7) (σ.2.1 20) mk ∧ ∀ x, x < 3 → lf2 x = (σ.2.1 20) x)) ∧ (∀ i, i < 7 → lt2 i = (σ.2.1 19) i)) (fun (z : Nat × (Nat → Nat) × (Nat → Nat) × Nat) t => BW g (va_A (wC g σ ++ tl) sz) ((fun z : Nat × (Nat → Nat) × (Nat → Nat) × Nat => match z with | (b, lt2, lf2, sn2) => wC g (sA (sA (sF σ 18 sn2) 19 lt2) 20 lf2) ++ tl) z) t) (va_A (wC g σ ++ tl) sz)) 0 0 (va_A (wC g σ ++ tl) sz) := by
  refine jn_sz (wf := fun z : Nat × (Nat → Nat) × (Nat → Nat) × Nat => match z with | (b, lt2, lf2, sn2) => wC g (sA (sA (sF σ 18 sn2) 19 lt2) 20 lf2) ++ tl) (cc := cX9_arrange) (maxL := 6) (own := RX9) (by decide) rfl rfl (Nat.le_of_ble_eq_true rfl) ?_
  intro p e s m below meth c Q A hx hb hml hown hts hK hP hD hS hAA hq ls hl
  obtain ⟨H, eH⟩ : ∃ z, z = s.heap := ⟨_, rfl⟩
  obtain ⟨locs, el⟩ : ∃ z : List Loc, z = [] := ⟨_, rfl⟩
  rw [← eH] at hP
  have hS : va_S A s.heap H locs := by rw [eH, el]; exact hS
  have goal0 : W p l e r_c_X9_arrange_d7 s m ([.ref (g.2.2.2 30), .ref (g.2.2.2 1), .int (nI 7), .int (nI mk)] : List Value).toArray below meth c H locs 0 0 Q (F0 m 0 ls []) → W p l e r_c_X9_arrange_d7 s m ([.ref (g.2.2.2 30), .ref (g.2.2.2 1), .int (nI 7), .int (nI mk)] : List Value).toArray below meth c s.heap [] 0 0 Q (F0 m 0 ls []) := fun h => by rw [eH, el] at h; exact h
  refine goal0 ?_
  have hl : lv_has ls 6 [(0, .ref (g.2.2.2 30)), (1, .ref (g.2.2.2 1)), (2, .int (nI 7)), (3, .int (nI mk))] := hl
  have iX9 : ∀ w ∈ wsX90, w ∈ wsX9_arrange := by decide +kernel
  have k18 := hts (.fieldLink RX9 18 "JumpingAutomata$WordSearch" "length" "I") (by decide +kernel)
  have k22 := hts (.fieldLink RX9 22 "JumpingAutomata$WordSearch" "seen" "I") (by decide +kernel)
  have k25 := hts (.fieldLink RX9 25 "JumpingAutomata$WordSearch" "wanted" "I") (by decide +kernel)
  have k15 := hts (.fieldLink RX9 15 "JumpingAutomata$WordSearch" "left" "[I") (by decide +kernel)
  have k9 := hts (.fieldLink RX9 9 "JumpingAutomata$WordSearch" "letters" "[I") (by decide +kernel)
  have hs9 : (σ.1 18) ≤ 10000 := Nat.le_trans (Nat.le_add_right _ _) hs
  refine lv_iload_n hx hb dX9_arrange_0 rfl (lv_at hl 2 rfl) ?_
  refine lv_aload_n hx hb dX9_arrange_1 rfl (lv_at hl 0 rfl) ?_
  refine va_get (D := (g.1, g.2.1)) (ci := 11) (v := .int (nI (σ.1 17))) (C := RX9) (T := TX9) (N := 7) hx hb hts iX9 hown hK.1 hP 30 (gC30 g σ tl) rfl 2 (by decide) k18 (fun _ h9 => h9) rfl dX9_arrange_2 ?_
  refine jn_cge hx hb (by decide) (by omega) (tgt := 14) dX9_arrange_5 (by decide) (fun c_5 => ?_) (fun c_5 => ?_)
  · refine lv_aload_n hx hb dX9_arrange_14 rfl (lv_at hl 1 rfl) ?_
    refine lv_iload_n hx hb dX9_arrange_15 rfl (lv_at hl 3 rfl) ?_
    refine vp_callSi (va_Run.run (va_runV (As := [.int (nI mk)]) (rest := []) ⟨hx, hb, hml, hown, hts⟩ (c_X0_accepting l g tl σ mk hA) (cwV 1 hts gX9_arrange_X0_accepting rfl rfl rfl (by decide +kernel) ⟨Nat.le_of_ble_eq_true rfl, Nat.le_of_ble_eq_true rfl⟩) (okPV hK hP rfl (gC1 g σ tl)) rfl rfl hl.1 rfl (lv_room (Nat.le_of_ble_eq_true rfl)) dX9_arrange_16 ⟨Nat.le_of_ble_eq_true rfl, Nat.le_of_ble_eq_true rfl⟩)) (fun r_16 h_16 => ?_)
    subst h_16
    have e0 : ((σ.1 17) - 7) = 0 := by omega
    refine jn_bne hx hb (tgt := 24) dX9_arrange_19 (by decide) (fun c_19 => ?_) (fun c_19 => ?_)
    · refine lv_aload_n hx hb dX9_arrange_24 rfl (lv_at hl 0 rfl) ?_
      refine lv_dup hx hb dX9_arrange_25 rfl ?_
      refine va_get (D := (g.1, g.2.1)) (ci := 11) (v := .int (nI (σ.1 18))) (C := RX9) (T := TX9) (N := 7) hx hb hts iX9 hown hK.1 hP 30 (gC30 g σ tl) rfl 3 (by decide) k22 (fun _ h9 => h9) rfl dX9_arrange_26 ?_
      refine lv_iconst (v := nI 1) hx hb dX9_arrange_29 (by decide) ?_
      refine jn_iadd hx hb dX9_arrange_30 ?_
      refine jn_put (D := (g.1, g.2.1)) (ci := 11) (v := .int (nI ((σ.1 18) + 1))) (ty := .int) (C := RX9) (T := TX9) (N := 7) hx hb hts iX9 tyX9 tyX9_ok nmX9 hown hK.1 hP hD hS 30 (gC30 g σ tl) rfl 3 (by decide) k22 (fun _ h9 => h9) rfl (by decide +kernel) rfl rfl (Nat.le_of_ble_eq_true rfl) (uC_F18 g σ tl ((σ.1 18) + 1)) dX9_arrange_31 (fun H locs hP hD hS => ?_)
      refine lv_aload_n hx hb dX9_arrange_34 rfl (lv_at hl 0 rfl) ?_
      refine va_get (D := (g.1, g.2.1)) (ci := 11) (v := .int (nI ((σ.1 18) + 1))) (C := RX9) (T := TX9) (N := 7) hx hb hts iX9 hown hK.1 hP 30 (gC30 g (sF σ 18 ((σ.1 18) + 1)) tl) rfl 3 (by decide) k22 (fun _ h9 => h9) rfl dX9_arrange_35 ?_
      refine lv_iconst (v := nI 1) hx hb dX9_arrange_38 (by decide) ?_
      refine jn_isub hx hb (by omega) dX9_arrange_39 ?_
      refine lv_aload_n hx hb dX9_arrange_40 rfl (lv_at hl 0 rfl) ?_
      refine va_get (D := (g.1, g.2.1)) (ci := 11) (v := .int (nI (σ.1 19))) (C := RX9) (T := TX9) (N := 7) hx hb hts iX9 hown hK.1 hP 30 (gC30 g (sF σ 18 ((σ.1 18) + 1)) tl) rfl 4 (by decide) k25 (fun _ h9 => h9) rfl dX9_arrange_41 ?_
      refine jn_cneW hx hb (by omega) hw2 (tgt := 51) dX9_arrange_44 (by decide) (fun c_44 => ?_) (fun c_44 => ?_)
      · refine lv_iconst (v := nI 0) hx hb dX9_arrange_51 (by decide) ?_
        exact hq _ _ _ _ ((nI 0)) (0, (σ.2.1 19), (σ.2.1 20), (σ.1 18) + 1) dX9_arrange_52 jn_n0 ⟨rfl, by first | exact Or.inl ⟨rfl, by rw [e0, arrN, if_pos c_19]; omega, by rw [e0]; trivial⟩ | exact Or.inr ⟨rfl, by rw [e0, arrN, if_pos c_19]; omega, by rw [e0, arrN, if_pos c_19], fun _ _ => rfl⟩, fun _ _ => rfl⟩ hP hD hS
      · refine lv_iconst (v := nI 1) hx hb dX9_arrange_47 (by decide) ?_
        refine lv_goto (tgt := 52) hx hb dX9_arrange_48 (by decide) ?_
        exact hq _ _ _ _ ((nI 1)) (1, (σ.2.1 19), (σ.2.1 20), (σ.1 18) + 1) dX9_arrange_52 jn_n1 ⟨rfl, by first | exact Or.inl ⟨rfl, by rw [e0, arrN, if_pos c_19]; omega, by rw [e0]; trivial⟩ | exact Or.inr ⟨rfl, by rw [e0, arrN, if_pos c_19]; omega, by rw [e0, arrN, if_pos c_19], fun _ _ => rfl⟩, fun _ _ => rfl⟩ hP hD hS
    · refine lv_iconst (v := nI 0) hx hb dX9_arrange_22 (by decide) ?_
      exact hq _ _ _ _ ((nI 0)) (0, (σ.2.1 19), (σ.2.1 20), (σ.1 18)) dX9_arrange_23 jn_n0 ⟨rfl, Or.inr ⟨rfl, by rw [e0, arrN, if_neg c_19]; omega, by rw [e0, arrN, if_neg c_19, Nat.add_zero], fun _ _ => rfl⟩, fun _ _ => rfl⟩ hP hD hS
  · refine lv_iload_n hx hb dX9_arrange_8 rfl (lv_at hl 2 rfl) ?_
    refine lv_bipush (v := nI 8) hx hb dX9_arrange_9 (by decide) ?_
    refine jn_clt hx hb (by decide) (by decide) (tgt := 53) dX9_arrange_11 (by decide) (fun c_11 => ?_) (fun c_11 => absurd c_11 (by decide))
    refine lv_iconst (v := nI 0) hx hb dX9_arrange_53 (by decide) ?_
    refine lv_istore (lv' := [(4, .int (nI 0)), (0, .ref (g.2.2.2 30)), (1, .ref (g.2.2.2 1)), (2, .int (nI 7)), (3, .int (nI mk))]) hx hb dX9_arrange_54 hl (by decide) rfl (fun ls hl => ?_)
    have lp56 : ∀ (fu : Nat), ∀ (x0 : Nat) (sn1 : Nat) (lt1 : Nat → Nat) (lf1 : Nat → Nat), (x0 ≤ 3) → (sn1 = (σ.1 18) + fb_sm (arrB (σ.2.1 0) (σ.1 0) ((σ.1 17) - 8) (σ.2.1 20) mk) x0) → (∀ x, x < 3 → lf1 x = (σ.2.1 20) x) → (∀ i, i < 7 → lt1 i = (σ.2.1 19) i) → (¬ ((σ.1 18) ≤ (σ.1 19) ∧ (σ.1 19) < sn1)) → 3 - x0 < fu → ∀ (H : Heap) (locs : List Loc), va_P (g.1, g.2.1) vwCl (wC g (sA (sA (sF σ 18 sn1) 19 lt1) 20 lf1) ++ tl) H → va_D A (wC g (sA (sA (sF σ 18 sn1) 19 lt1) 20 lf1) ++ tl) → va_S A s.heap H locs → ∀ ls : Array Slot, lv_has ls 6 [(0, .ref (g.2.2.2 30)), (1, .ref (g.2.2.2 1)), (2, .int (nI 7)), (3, .int (nI mk)), (4, .int (nI x0))] → W p l e r_c_X9_arrange_d7 s m ([.ref (g.2.2.2 30), .ref (g.2.2.2 1), .int (nI 7), .int (nI mk)] : List Value).toArray below meth c H locs 0 0 Q (F0 m 56 ls []) := by
      intro fu
      induction fu with
      | zero => intro x0 sn1 lt1 lf1 i1 i2 i3 i4 i5 hf; exact absurd hf (Nat.not_lt_zero _)
      | succ fu ih56 =>
        intro x0 sn1 lt1 lf1 i1 i2 i3 i4 i5 hf H locs hP hD hS ls hl
        have eK : ((σ.1 17) - 7) = ((σ.1 17) - 8) + 1 := by omega
        have hcl : fb_sm (arrB (σ.2.1 0) (σ.1 0) ((σ.1 17) - 8) (σ.2.1 20) mk) x0 ≤ 3 ^ ((σ.1 17) - 7) := ar_cum x0 i1 eK
        have i3x : x0 < 3 → lf1 x0 = (σ.2.1 20) x0 := fun h => i3 x0 h
        refine lv_iload hx hb dX9_arrange_56 (lv_at hl 4 rfl) ?_
        refine lv_iconst (v := nI 3) hx hb dX9_arrange_58 (by decide) ?_
        refine jn_cge hx hb (by omega) (by decide) (tgt := 137) dX9_arrange_59 (by decide) (fun c_59 => ?_) (fun c_59 => ?_)
        · refine lv_iconst (v := nI 0) hx hb dX9_arrange_137 (by decide) ?_
          exact hq _ _ _ _ ((nI 0)) (0, lt1, lf1, sn1) dX9_arrange_138 jn_n0 ⟨rfl, Or.inr ⟨rfl, by rw [eK, arrN]; rw [show x0 = 3 by omega] at i2; rw [i2] at i5; exact i5, by rw [i2, eK, arrN, show x0 = 3 by omega], i3⟩, i4⟩ hP hD hS
        · refine lv_aload_n hx hb dX9_arrange_62 rfl (lv_at hl 1 rfl) ?_
          refine lv_iload hx hb dX9_arrange_63 (lv_at hl 4 rfl) ?_
          refine lv_iload_n hx hb dX9_arrange_65 rfl (lv_at hl 3 rfl) ?_
          refine vp_callSi (va_Run.run (va_runV (As := [.int (nI x0), .int (nI mk)]) (rest := []) ⟨hx, hb, hml, hown, hts⟩ (c_X0_step l g tl (sA (sA (sF σ 18 sn1) 19 lt1) 20 lf1) x0 mk hA (by omega) hm) (cwV 2 hts gX9_arrange_X0_step rfl rfl rfl (by decide +kernel) ⟨Nat.le_of_ble_eq_true rfl, Nat.le_of_ble_eq_true rfl⟩) (okPV hK hP rfl (gC1 g (sA (sA (sF σ 18 sn1) 19 lt1) 20 lf1) tl)) rfl rfl hl.1 rfl (lv_room (Nat.le_of_ble_eq_true rfl)) dX9_arrange_66 ⟨Nat.le_of_ble_eq_true rfl, Nat.le_of_ble_eq_true rfl⟩)) (fun r_66 h_66 => ?_)
          have h_66 : r_66 = (nI (stp (σ.2.1 0) x0 mk)) := h_66
          subst h_66
          have st32 : stp (σ.2.1 0) x0 mk < 32 := stp_lt hA.1 (by omega)
          have hcl2 : fb_sm (arrB (σ.2.1 0) (σ.1 0) ((σ.1 17) - 8) (σ.2.1 20) mk) (x0 + 1) ≤ 3 ^ ((σ.1 17) - 7) := ar_cum (x0 + 1) (by omega) eK
          refine lv_istore (lv' := [(5, .int (nI (stp (σ.2.1 0) x0 mk))), (0, .ref (g.2.2.2 30)), (1, .ref (g.2.2.2 1)), (2, .int (nI 7)), (3, .int (nI mk)), (4, .int (nI x0))]) hx hb dX9_arrange_69 hl (by decide) rfl (fun ls hl => ?_)
          refine lv_aload_n hx hb dX9_arrange_71 rfl (lv_at hl 1 rfl) ?_
          refine va_get (D := (g.1, g.2.1)) (ci := 11) (v := .ref (g.2.2.2 32)) (C := RX9) (T := TX9) (N := 7) hx hb hts iX9 hown hK.1 hP 30 (gC30 g (sA (sA (sF σ 18 sn1) 19 lt1) 20 lf1) tl) rfl 1 (by decide) k15 (fun _ h9 => h9) rfl dX9_arrange_72 ?_
          refine lv_iload hx hb dX9_arrange_75 (lv_at hl 5 rfl) ?_
          refine jn_iald (f := lf1) hx hb hK.1 hP 32 0 (gC32 g (sA (sA (sF σ 18 sn1) 19 lt1) 20 lf1) tl) rfl (by omega) (Nat.le_of_ble_eq_true rfl) dX9_arrange_77 ?_
          have hlfb : lf1 x0 ≤ 8 := by have e1 := i3 0 (by decide); have e2 := i3 1 (by decide); have e3 := i3 2 (by decide); have := ar_le3 lf1 x0 (by omega); omega
          refine jn_zle hx hb (by omega) (tgt := 131) dX9_arrange_78 (by decide) (fun c_78 => ?_) (fun c_78 => ?_)
          · refine lv_iinc (v := nI (x0 + 1)) (lv' := [(4, .int (nI (x0 + 1))), (5, .int (nI (stp (σ.2.1 0) x0 mk))), (0, .ref (g.2.2.2 30)), (1, .ref (g.2.2.2 1)), (2, .int (nI 7)), (3, .int (nI mk))]) hx hb dX9_arrange_131 hl (k := 5) rfl (jn_ii _ 1) (by decide) rfl (fun ls hl => ?_)
            refine lv_goto (tgt := 56) hx hb dX9_arrange_134 (by decide) ?_
            exact ih56 (x0 + 1) sn1 lt1 lf1 (by omega) (by first | exact ar_s0 i2 (Or.inl (by rw [← i3 x0 (by omega)]; omega)) | exact ar_s0 i2 (Or.inr c_83) | exact ar_s1 i2 (by rw [← i3 x0 (by omega)]; omega) hr.2.2.1 eN) (by first | exact i3 | exact ar_lf i3 hr.2.2.2 (by omega)) (by first | exact i4 | exact fun i hi => by rw [h_112.2 i (by omega), va_up, if_neg (by omega)]; exact i4 i hi) (by first | exact i5 | (rw [hr.2.2.1]; have := hr.2.1; omega)) (by omega) _ _ hP hD hS _ (lv_sub hl [2, 3, 4, 5, 0] rfl)
          · refine lv_iload hx hb dX9_arrange_81 (lv_at hl 0 rfl) ?_
            refine jn_zeq hx hb (by omega) (tgt := 131) dX9_arrange_83 (by decide) (fun c_83 => ?_) (fun c_83 => ?_)
            · refine lv_iinc (v := nI (x0 + 1)) (lv' := [(4, .int (nI (x0 + 1))), (5, .int (nI (stp (σ.2.1 0) x0 mk))), (0, .ref (g.2.2.2 30)), (1, .ref (g.2.2.2 1)), (2, .int (nI 7)), (3, .int (nI mk))]) hx hb dX9_arrange_131 hl (k := 5) rfl (jn_ii _ 1) (by decide) rfl (fun ls hl => ?_)
              refine lv_goto (tgt := 56) hx hb dX9_arrange_134 (by decide) ?_
              exact ih56 (x0 + 1) sn1 lt1 lf1 (by omega) (by first | exact ar_s0 i2 (Or.inl (by rw [← i3 x0 (by omega)]; omega)) | exact ar_s0 i2 (Or.inr c_83) | exact ar_s1 i2 (by rw [← i3 x0 (by omega)]; omega) hr.2.2.1 eN) (by first | exact i3 | exact ar_lf i3 hr.2.2.2 (by omega)) (by first | exact i4 | exact fun i hi => by rw [h_112.2 i (by omega), va_up, if_neg (by omega)]; exact i4 i hi) (by first | exact i5 | (rw [hr.2.2.1]; have := hr.2.1; omega)) (by omega) _ _ hP hD hS _ (lv_sub hl [2, 3, 4, 5, 0] rfl)
            · refine lv_aload_n hx hb dX9_arrange_86 rfl (lv_at hl 1 rfl) ?_
              refine va_get (D := (g.1, g.2.1)) (ci := 11) (v := .ref (g.2.2.2 31)) (C := RX9) (T := TX9) (N := 7) hx hb hts iX9 hown hK.1 hP 30 (gC30 g (sA (sA (sF σ 18 sn1) 19 lt1) 20 lf1) tl) rfl 0 (by decide) k9 (fun _ h9 => h9) rfl dX9_arrange_87 ?_
              refine lv_iload_n hx hb dX9_arrange_90 rfl (lv_at hl 3 rfl) ?_
              refine lv_iload hx hb dX9_arrange_91 (lv_at hl 5 rfl) ?_
              refine jn_iast (f := lt1) hx hb hK.1 hP hD hS 31 0 (gC31 g (sA (sA (sF σ 18 sn1) 19 lt1) 20 lf1) tl) rfl (by decide) (Nat.le_of_ble_eq_true rfl) (uC_A19 g (sA (sA (sF σ 18 sn1) 19 lt1) 20 lf1) tl _) dX9_arrange_93 (fun H locs hP hD hS => ?_)
              refine lv_aload_n hx hb dX9_arrange_94 rfl (lv_at hl 1 rfl) ?_
              refine va_get (D := (g.1, g.2.1)) (ci := 11) (v := .ref (g.2.2.2 32)) (C := RX9) (T := TX9) (N := 7) hx hb hts iX9 hown hK.1 hP 30 (gC30 g (sA (sA (sA (sF σ 18 sn1) 19 lt1) 20 lf1) 19 (va_up lt1 7 x0)) tl) rfl 1 (by decide) k15 (fun _ h9 => h9) rfl dX9_arrange_95 ?_
              refine lv_iload hx hb dX9_arrange_98 (lv_at hl 5 rfl) ?_
              refine lv_dup2_11 hx hb dX9_arrange_100 rfl rfl ?_
              refine jn_iald (f := lf1) hx hb hK.1 hP 32 0 (gC32 g (sA (sA (sA (sF σ 18 sn1) 19 lt1) 20 lf1) 19 (va_up lt1 7 x0)) tl) rfl (by omega) (Nat.le_of_ble_eq_true rfl) dX9_arrange_101 ?_
              refine lv_iconst (v := nI 1) hx hb dX9_arrange_102 (by decide) ?_
              refine jn_isub hx hb (by omega) dX9_arrange_103 ?_
              refine jn_iast (f := lf1) hx hb hK.1 hP hD hS 32 0 (gC32 g (sA (sA (sA (sF σ 18 sn1) 19 lt1) 20 lf1) 19 (va_up lt1 7 x0)) tl) rfl (by omega) (Nat.le_of_ble_eq_true rfl) (uC_A20 g (sA (sA (sA (sF σ 18 sn1) 19 lt1) 20 lf1) 19 (va_up lt1 7 x0)) tl _) dX9_arrange_104 (fun H locs hP hD hS => ?_)
              refine lv_aload_n hx hb dX9_arrange_105 rfl (lv_at hl 1 rfl) ?_
              refine lv_aload_n hx hb dX9_arrange_106 rfl (lv_at hl 2 rfl) ?_
              refine lv_iload_n hx hb dX9_arrange_107 rfl (lv_at hl 3 rfl) ?_
              refine lv_iconst (v := nI 1) hx hb dX9_arrange_108 (by decide) ?_
              refine jn_iadd hx hb dX9_arrange_109 ?_
              refine lv_iload hx hb dX9_arrange_110 (lv_at hl 0 rfl) ?_
              refine jn_calli (va_runV (As := [.ref (g.2.2.2 1), .int (nI (7 + 1)), .int (nI (stp (σ.2.1 0) x0 mk))]) (rest := []) ⟨hx, hb, hml, hown, hts⟩ (c_X9_arrange_d8 l g tl H.size (sA (sA (sA (sA (sF σ 18 sn1) 19 lt1) 20 lf1) 19 (va_up lt1 7 x0)) 20 (va_up lf1 x0 ((lf1 x0) - 1))) (stp (σ.2.1 0) x0 mk) hA h1 (show 8 ≤ (σ.1 17) by omega) st32 hw2 (show sn1 + 3 ^ ((σ.1 17) - 8) ≤ 10000 by rw [i2]; exact ar_hs hs eK hcl) (show (va_up lf1 x0 (lf1 x0 - 1)) 0 + (va_up lf1 x0 (lf1 x0 - 1)) 1 + (va_up lf1 x0 (lf1 x0 - 1)) 2 = ((σ.1 17) - 8) by have e1 := i3 0 (by decide); have e2 := i3 1 (by decide); have e3 := i3 2 (by decide); rw [ar_sum lf1 x0 (by omega) (by omega)]; omega)) (cwV 3 hts gX9_arrange_X9_arrange rfl rfl rfl (by decide +kernel) ⟨Nat.le_of_ble_eq_true rfl, Nat.le_of_ble_eq_true rfl⟩) (okWV hK hP hD rfl (gC30 g (sA (sA (sA (sA (sF σ 18 sn1) 19 lt1) 20 lf1) 19 (va_up lt1 7 x0)) 20 (va_up lf1 x0 ((lf1 x0) - 1))) tl)) rfl rfl hl.1 rfl (lv_room (Nat.le_of_ble_eq_true rfl)) dX9_arrange_112 ⟨Nat.le_of_ble_eq_true rfl, Nat.le_of_ble_eq_true rfl⟩) hD hS hAA (fun r_112 u H locs hw_ hP hD hS => ?_)
              obtain ⟨b_112, lt2_112, lf2_112, sn2_112⟩ := u
              obtain ⟨rfl, h_112⟩ := hw_
              have h_112 : ((b_112 = 1 ∧ ((sn1) ≤ (σ.1 19) ∧ (σ.1 19) < (sn1) + arrN (σ.2.1 0) (σ.1 0) ((σ.1 17) - 8) ((va_up lf1 x0 ((lf1 x0) - 1))) (stp (σ.2.1 0) x0 mk)) ∧ isArr (σ.2.1 0) (σ.1 0) ((σ.1 17) - 8) ((va_up lf1 x0 ((lf1 x0) - 1))) (stp (σ.2.1 0) x0 mk) ((σ.1 19) - (sn1)) (fun i => lt2_112 (8 + i))) ∨ (b_112 = 0 ∧ ¬ ((sn1) ≤ (σ.1 19) ∧ (σ.1 19) < (sn1) + arrN (σ.2.1 0) (σ.1 0) ((σ.1 17) - 8) ((va_up lf1 x0 ((lf1 x0) - 1))) (stp (σ.2.1 0) x0 mk)) ∧ sn2_112 = (sn1) + arrN (σ.2.1 0) (σ.1 0) ((σ.1 17) - 8) ((va_up lf1 x0 ((lf1 x0) - 1))) (stp (σ.2.1 0) x0 mk) ∧ ∀ x, x < 3 → lf2_112 x = ((va_up lf1 x0 ((lf1 x0) - 1))) x)) ∧ (∀ i, i < 8 → lt2_112 i = ((va_up lt1 7 x0)) i) := h_112
              have hP : va_P (g.1, g.2.1) vwCl (wC g (sA (sA (sF (sA (sA (sA (sA (sF σ 18 sn1) 19 lt1) 20 lf1) 19 (va_up lt1 7 x0)) 20 (va_up lf1 x0 ((lf1 x0) - 1))) 18 sn2_112) 19 lt2_112) 20 lf2_112) ++ tl) H := hP
              have hD : va_D A (wC g (sA (sA (sF (sA (sA (sA (sA (sF σ 18 sn1) 19 lt1) 20 lf1) 19 (va_up lt1 7 x0)) 20 (va_up lf1 x0 ((lf1 x0) - 1))) 18 sn2_112) 19 lt2_112) 20 lf2_112) ++ tl) := hD
              have eN : arrN (σ.2.1 0) (σ.1 0) ((σ.1 17) - 8) (va_up lf1 x0 (lf1 x0 - 1)) (stp (σ.2.1 0) x0 mk) = arrN (σ.2.1 0) (σ.1 0) ((σ.1 17) - 8) (va_up (σ.2.1 20) x0 ((σ.2.1 20) x0 - 1)) (stp (σ.2.1 0) x0 mk) := arrN_cong _ _ _ _ _ _ (ar_vu i3 (by omega))
              have hb12 : b_112 = 1 ∨ b_112 = 0 := h_112.1.imp (fun z => z.1) (fun z => z.1)
              refine jn_zeq hx hb (by omega) (tgt := 120) dX9_arrange_115 (by decide) (fun c_115 => ?_) (fun c_115 => ?_)
              · have hr := h_112.1.resolve_left (fun z => by have := z.1; omega)
                refine lv_aload_n hx hb dX9_arrange_120 rfl (lv_at hl 1 rfl) ?_
                refine va_get (D := (g.1, g.2.1)) (ci := 11) (v := .ref (g.2.2.2 32)) (C := RX9) (T := TX9) (N := 7) hx hb hts iX9 hown hK.1 hP 30 (gC30 g (sA (sA (sF (sA (sA (sA (sA (sF σ 18 sn1) 19 lt1) 20 lf1) 19 (va_up lt1 7 x0)) 20 (va_up lf1 x0 ((lf1 x0) - 1))) 18 sn2_112) 19 lt2_112) 20 lf2_112) tl) rfl 1 (by decide) k15 (fun _ h9 => h9) rfl dX9_arrange_121 ?_
                refine lv_iload hx hb dX9_arrange_124 (lv_at hl 5 rfl) ?_
                refine lv_dup2_11 hx hb dX9_arrange_126 rfl rfl ?_
                refine jn_iald (f := lf2_112) hx hb hK.1 hP 32 0 (gC32 g (sA (sA (sF (sA (sA (sA (sA (sF σ 18 sn1) 19 lt1) 20 lf1) 19 (va_up lt1 7 x0)) 20 (va_up lf1 x0 ((lf1 x0) - 1))) 18 sn2_112) 19 lt2_112) 20 lf2_112) tl) rfl (by omega) (Nat.le_of_ble_eq_true rfl) dX9_arrange_127 ?_
                refine lv_iconst (v := nI 1) hx hb dX9_arrange_128 (by decide) ?_
                refine jn_iadd hx hb dX9_arrange_129 ?_
                refine jn_iast (f := lf2_112) hx hb hK.1 hP hD hS 32 0 (gC32 g (sA (sA (sF (sA (sA (sA (sA (sF σ 18 sn1) 19 lt1) 20 lf1) 19 (va_up lt1 7 x0)) 20 (va_up lf1 x0 ((lf1 x0) - 1))) 18 sn2_112) 19 lt2_112) 20 lf2_112) tl) rfl (by omega) (Nat.le_of_ble_eq_true rfl) (uC_A20 g (sA (sA (sF (sA (sA (sA (sA (sF σ 18 sn1) 19 lt1) 20 lf1) 19 (va_up lt1 7 x0)) 20 (va_up lf1 x0 ((lf1 x0) - 1))) 18 sn2_112) 19 lt2_112) 20 lf2_112) tl _) dX9_arrange_130 (fun H locs hP hD hS => ?_)
                refine lv_iinc (v := nI (x0 + 1)) (lv' := [(4, .int (nI (x0 + 1))), (5, .int (nI (stp (σ.2.1 0) x0 mk))), (0, .ref (g.2.2.2 30)), (1, .ref (g.2.2.2 1)), (2, .int (nI 7)), (3, .int (nI mk))]) hx hb dX9_arrange_131 hl (k := 5) rfl (jn_ii _ 1) (by decide) rfl (fun ls hl => ?_)
                refine lv_goto (tgt := 56) hx hb dX9_arrange_134 (by decide) ?_
                exact ih56 (x0 + 1) sn2_112 lt2_112 (va_up lf2_112 x0 ((lf2_112 x0) + 1)) (by omega) (by first | exact ar_s0 i2 (Or.inl (by rw [← i3 x0 (by omega)]; omega)) | exact ar_s0 i2 (Or.inr c_83) | exact ar_s1 i2 (by rw [← i3 x0 (by omega)]; omega) hr.2.2.1 eN) (by first | exact i3 | exact ar_lf i3 hr.2.2.2 (by omega)) (by first | exact i4 | exact fun i hi => by rw [h_112.2 i (by omega), va_up, if_neg (by omega)]; exact i4 i hi) (by first | exact i5 | (rw [hr.2.2.1]; have := hr.2.1; omega)) (by omega) _ _ hP hD hS _ (lv_sub hl [2, 3, 4, 5, 0] rfl)
              · have hr := h_112.1.resolve_right (fun z => by have := z.1; omega)
                refine lv_iconst (v := nI 1) hx hb dX9_arrange_118 (by decide) ?_
                exact hq _ _ _ _ ((nI 1)) (1, lt2_112, lf2_112, sn2_112) dX9_arrange_119 jn_n1 ⟨rfl, Or.inl (⟨rfl, ar_hit i2 i5 eK i1 hr.2.1 (by omega) i3 eN, ar_is i2 eK (by omega) i3 hr.2.1 hr.2.2 (by rw [h_112.2 7 (by omega), va_up, if_pos rfl]) c_78 eN⟩), fun i hi => by rw [h_112.2 i (by omega), va_up, if_neg (by omega)]; exact i4 i hi⟩ hP hD hS
    exact lp56 _ 0 (σ.1 18) (σ.2.1 19) (σ.2.1 20) (by decide) rfl (fun _ _ => rfl) (fun _ _ => rfl) (by omega) (Nat.lt_succ_self _) _ _ hP hD hS _ (lv_sub hl [1, 2, 3, 4, 0] rfl)

abbrev r_c_X9_arrange_d6 : Room := { frames := 3, cells := 0, slots := 0, locals := 71 }
set_option maxHeartbeats 4000000 in
set_option maxRecDepth 100000 in
theorem c_X9_arrange_d6 (l : Launch) (g : GC) (tl : va_W) (sz : Nat) (σ : SS) (mk : Nat) (hA : OkA σ) (h1 : (σ.1 17) ≤ 8) (h2 : 6 ≤ (σ.1 17)) (hm : mk < 32) (hw2 : (σ.1 19) < 4294967296) (hs : (σ.1 18) + 3 ^ ((σ.1 17) - 6) ≤ 10000) (hlf : (σ.2.1 20) 0 + (σ.2.1 20) 1 + (σ.2.1 20) 2 = ((σ.1 17) - 6)) : Met l yX9_arrange wsX9_arrange r_c_X9_arrange_d6 (va_Pc [.ref (g.2.2.2 30), .ref (g.2.2.2 1), .int (nI 6), .int (nI mk)] (PW g (wC g σ ++ tl) sz)) (va_Qi (fun (r : Int32) (z : Nat × (Nat → Nat) × (Nat → Nat) × Nat) => match z with | (b, lt2, lf2, sn2) => (r = nI (b)) ∧ ((b = 1 ∧ ((σ.1 18) ≤ (σ.1 19) ∧ (σ.1 19) < (σ.1 18) + arrN (σ.2.1 0) (σ.1 0) ((σ.1 17) - 6) (σ.2.1 20) mk) ∧ isArr (σ.2.1 0) (σ.1 0) ((σ.1 17) - 6) (σ.2.1 20) mk ((σ.1 19) - (σ.1 18)) (fun i => lt2 (6 + i))) ∨ (b = 0 ∧ ¬ ((σ.1 18) ≤ (σ.1 19) ∧ (σ.1 19) < (σ.1 18) + arrN (σ.2.1 0) (σ.1 0) ((σ.1 17) - 6) (σ.2.1 20) mk) ∧ sn2 = (σ.1 18) + arrN (σ.2.1 0) (σ.1 0) ((σ.1 17) - 6) (σ.2.1 20) mk ∧ ∀ x, x < 3 → lf2 x = (σ.2.1 20) x)) ∧ (∀ i, i < 6 → lt2 i = (σ.2.1 19) i)) (fun (z : Nat × (Nat → Nat) × (Nat → Nat) × Nat) t => BW g (va_A (wC g σ ++ tl) sz) ((fun z : Nat × (Nat → Nat) × (Nat → Nat) × Nat => match z with | (b, lt2, lf2, sn2) => wC g (sA (sA (sF σ 18 sn2) 19 lt2) 20 lf2) ++ tl) z) t) (va_A (wC g σ ++ tl) sz)) 0 0 (va_A (wC g σ ++ tl) sz) := by
  refine jn_sz (wf := fun z : Nat × (Nat → Nat) × (Nat → Nat) × Nat => match z with | (b, lt2, lf2, sn2) => wC g (sA (sA (sF σ 18 sn2) 19 lt2) 20 lf2) ++ tl) (cc := cX9_arrange) (maxL := 6) (own := RX9) (by decide) rfl rfl (Nat.le_of_ble_eq_true rfl) ?_
  intro p e s m below meth c Q A hx hb hml hown hts hK hP hD hS hAA hq ls hl
  obtain ⟨H, eH⟩ : ∃ z, z = s.heap := ⟨_, rfl⟩
  obtain ⟨locs, el⟩ : ∃ z : List Loc, z = [] := ⟨_, rfl⟩
  rw [← eH] at hP
  have hS : va_S A s.heap H locs := by rw [eH, el]; exact hS
  have goal0 : W p l e r_c_X9_arrange_d6 s m ([.ref (g.2.2.2 30), .ref (g.2.2.2 1), .int (nI 6), .int (nI mk)] : List Value).toArray below meth c H locs 0 0 Q (F0 m 0 ls []) → W p l e r_c_X9_arrange_d6 s m ([.ref (g.2.2.2 30), .ref (g.2.2.2 1), .int (nI 6), .int (nI mk)] : List Value).toArray below meth c s.heap [] 0 0 Q (F0 m 0 ls []) := fun h => by rw [eH, el] at h; exact h
  refine goal0 ?_
  have hl : lv_has ls 6 [(0, .ref (g.2.2.2 30)), (1, .ref (g.2.2.2 1)), (2, .int (nI 6)), (3, .int (nI mk))] := hl
  have iX9 : ∀ w ∈ wsX90, w ∈ wsX9_arrange := by decide +kernel
  have k18 := hts (.fieldLink RX9 18 "JumpingAutomata$WordSearch" "length" "I") (by decide +kernel)
  have k22 := hts (.fieldLink RX9 22 "JumpingAutomata$WordSearch" "seen" "I") (by decide +kernel)
  have k25 := hts (.fieldLink RX9 25 "JumpingAutomata$WordSearch" "wanted" "I") (by decide +kernel)
  have k15 := hts (.fieldLink RX9 15 "JumpingAutomata$WordSearch" "left" "[I") (by decide +kernel)
  have k9 := hts (.fieldLink RX9 9 "JumpingAutomata$WordSearch" "letters" "[I") (by decide +kernel)
  have hs9 : (σ.1 18) ≤ 10000 := Nat.le_trans (Nat.le_add_right _ _) hs
  refine lv_iload_n hx hb dX9_arrange_0 rfl (lv_at hl 2 rfl) ?_
  refine lv_aload_n hx hb dX9_arrange_1 rfl (lv_at hl 0 rfl) ?_
  refine va_get (D := (g.1, g.2.1)) (ci := 11) (v := .int (nI (σ.1 17))) (C := RX9) (T := TX9) (N := 7) hx hb hts iX9 hown hK.1 hP 30 (gC30 g σ tl) rfl 2 (by decide) k18 (fun _ h9 => h9) rfl dX9_arrange_2 ?_
  refine jn_cge hx hb (by decide) (by omega) (tgt := 14) dX9_arrange_5 (by decide) (fun c_5 => ?_) (fun c_5 => ?_)
  · refine lv_aload_n hx hb dX9_arrange_14 rfl (lv_at hl 1 rfl) ?_
    refine lv_iload_n hx hb dX9_arrange_15 rfl (lv_at hl 3 rfl) ?_
    refine vp_callSi (va_Run.run (va_runV (As := [.int (nI mk)]) (rest := []) ⟨hx, hb, hml, hown, hts⟩ (c_X0_accepting l g tl σ mk hA) (cwV 1 hts gX9_arrange_X0_accepting rfl rfl rfl (by decide +kernel) ⟨Nat.le_of_ble_eq_true rfl, Nat.le_of_ble_eq_true rfl⟩) (okPV hK hP rfl (gC1 g σ tl)) rfl rfl hl.1 rfl (lv_room (Nat.le_of_ble_eq_true rfl)) dX9_arrange_16 ⟨Nat.le_of_ble_eq_true rfl, Nat.le_of_ble_eq_true rfl⟩)) (fun r_16 h_16 => ?_)
    subst h_16
    have e0 : ((σ.1 17) - 6) = 0 := by omega
    refine jn_bne hx hb (tgt := 24) dX9_arrange_19 (by decide) (fun c_19 => ?_) (fun c_19 => ?_)
    · refine lv_aload_n hx hb dX9_arrange_24 rfl (lv_at hl 0 rfl) ?_
      refine lv_dup hx hb dX9_arrange_25 rfl ?_
      refine va_get (D := (g.1, g.2.1)) (ci := 11) (v := .int (nI (σ.1 18))) (C := RX9) (T := TX9) (N := 7) hx hb hts iX9 hown hK.1 hP 30 (gC30 g σ tl) rfl 3 (by decide) k22 (fun _ h9 => h9) rfl dX9_arrange_26 ?_
      refine lv_iconst (v := nI 1) hx hb dX9_arrange_29 (by decide) ?_
      refine jn_iadd hx hb dX9_arrange_30 ?_
      refine jn_put (D := (g.1, g.2.1)) (ci := 11) (v := .int (nI ((σ.1 18) + 1))) (ty := .int) (C := RX9) (T := TX9) (N := 7) hx hb hts iX9 tyX9 tyX9_ok nmX9 hown hK.1 hP hD hS 30 (gC30 g σ tl) rfl 3 (by decide) k22 (fun _ h9 => h9) rfl (by decide +kernel) rfl rfl (Nat.le_of_ble_eq_true rfl) (uC_F18 g σ tl ((σ.1 18) + 1)) dX9_arrange_31 (fun H locs hP hD hS => ?_)
      refine lv_aload_n hx hb dX9_arrange_34 rfl (lv_at hl 0 rfl) ?_
      refine va_get (D := (g.1, g.2.1)) (ci := 11) (v := .int (nI ((σ.1 18) + 1))) (C := RX9) (T := TX9) (N := 7) hx hb hts iX9 hown hK.1 hP 30 (gC30 g (sF σ 18 ((σ.1 18) + 1)) tl) rfl 3 (by decide) k22 (fun _ h9 => h9) rfl dX9_arrange_35 ?_
      refine lv_iconst (v := nI 1) hx hb dX9_arrange_38 (by decide) ?_
      refine jn_isub hx hb (by omega) dX9_arrange_39 ?_
      refine lv_aload_n hx hb dX9_arrange_40 rfl (lv_at hl 0 rfl) ?_
      refine va_get (D := (g.1, g.2.1)) (ci := 11) (v := .int (nI (σ.1 19))) (C := RX9) (T := TX9) (N := 7) hx hb hts iX9 hown hK.1 hP 30 (gC30 g (sF σ 18 ((σ.1 18) + 1)) tl) rfl 4 (by decide) k25 (fun _ h9 => h9) rfl dX9_arrange_41 ?_
      refine jn_cneW hx hb (by omega) hw2 (tgt := 51) dX9_arrange_44 (by decide) (fun c_44 => ?_) (fun c_44 => ?_)
      · refine lv_iconst (v := nI 0) hx hb dX9_arrange_51 (by decide) ?_
        exact hq _ _ _ _ ((nI 0)) (0, (σ.2.1 19), (σ.2.1 20), (σ.1 18) + 1) dX9_arrange_52 jn_n0 ⟨rfl, by first | exact Or.inl ⟨rfl, by rw [e0, arrN, if_pos c_19]; omega, by rw [e0]; trivial⟩ | exact Or.inr ⟨rfl, by rw [e0, arrN, if_pos c_19]; omega, by rw [e0, arrN, if_pos c_19], fun _ _ => rfl⟩, fun _ _ => rfl⟩ hP hD hS
      · refine lv_iconst (v := nI 1) hx hb dX9_arrange_47 (by decide) ?_
        refine lv_goto (tgt := 52) hx hb dX9_arrange_48 (by decide) ?_
        exact hq _ _ _ _ ((nI 1)) (1, (σ.2.1 19), (σ.2.1 20), (σ.1 18) + 1) dX9_arrange_52 jn_n1 ⟨rfl, by first | exact Or.inl ⟨rfl, by rw [e0, arrN, if_pos c_19]; omega, by rw [e0]; trivial⟩ | exact Or.inr ⟨rfl, by rw [e0, arrN, if_pos c_19]; omega, by rw [e0, arrN, if_pos c_19], fun _ _ => rfl⟩, fun _ _ => rfl⟩ hP hD hS
    · refine lv_iconst (v := nI 0) hx hb dX9_arrange_22 (by decide) ?_
      exact hq _ _ _ _ ((nI 0)) (0, (σ.2.1 19), (σ.2.1 20), (σ.1 18)) dX9_arrange_23 jn_n0 ⟨rfl, Or.inr ⟨rfl, by rw [e0, arrN, if_neg c_19]; omega, by rw [e0, arrN, if_neg c_19, Nat.add_zero], fun _ _ => rfl⟩, fun _ _ => rfl⟩ hP hD hS
  · refine lv_iload_n hx hb dX9_arrange_8 rfl (lv_at hl 2 rfl) ?_
    refine lv_bipush (v := nI 8) hx hb dX9_arrange_9 (by decide) ?_
    refine jn_clt hx hb (by decide) (by decide) (tgt := 53) dX9_arrange_11 (by decide) (fun c_11 => ?_) (fun c_11 => absurd c_11 (by decide))
    refine lv_iconst (v := nI 0) hx hb dX9_arrange_53 (by decide) ?_
    refine lv_istore (lv' := [(4, .int (nI 0)), (0, .ref (g.2.2.2 30)), (1, .ref (g.2.2.2 1)), (2, .int (nI 6)), (3, .int (nI mk))]) hx hb dX9_arrange_54 hl (by decide) rfl (fun ls hl => ?_)
    have lp56 : ∀ (fu : Nat), ∀ (x0 : Nat) (sn1 : Nat) (lt1 : Nat → Nat) (lf1 : Nat → Nat), (x0 ≤ 3) → (sn1 = (σ.1 18) + fb_sm (arrB (σ.2.1 0) (σ.1 0) ((σ.1 17) - 7) (σ.2.1 20) mk) x0) → (∀ x, x < 3 → lf1 x = (σ.2.1 20) x) → (∀ i, i < 6 → lt1 i = (σ.2.1 19) i) → (¬ ((σ.1 18) ≤ (σ.1 19) ∧ (σ.1 19) < sn1)) → 3 - x0 < fu → ∀ (H : Heap) (locs : List Loc), va_P (g.1, g.2.1) vwCl (wC g (sA (sA (sF σ 18 sn1) 19 lt1) 20 lf1) ++ tl) H → va_D A (wC g (sA (sA (sF σ 18 sn1) 19 lt1) 20 lf1) ++ tl) → va_S A s.heap H locs → ∀ ls : Array Slot, lv_has ls 6 [(0, .ref (g.2.2.2 30)), (1, .ref (g.2.2.2 1)), (2, .int (nI 6)), (3, .int (nI mk)), (4, .int (nI x0))] → W p l e r_c_X9_arrange_d6 s m ([.ref (g.2.2.2 30), .ref (g.2.2.2 1), .int (nI 6), .int (nI mk)] : List Value).toArray below meth c H locs 0 0 Q (F0 m 56 ls []) := by
      intro fu
      induction fu with
      | zero => intro x0 sn1 lt1 lf1 i1 i2 i3 i4 i5 hf; exact absurd hf (Nat.not_lt_zero _)
      | succ fu ih56 =>
        intro x0 sn1 lt1 lf1 i1 i2 i3 i4 i5 hf H locs hP hD hS ls hl
        have eK : ((σ.1 17) - 6) = ((σ.1 17) - 7) + 1 := by omega
        have hcl : fb_sm (arrB (σ.2.1 0) (σ.1 0) ((σ.1 17) - 7) (σ.2.1 20) mk) x0 ≤ 3 ^ ((σ.1 17) - 6) := ar_cum x0 i1 eK
        have i3x : x0 < 3 → lf1 x0 = (σ.2.1 20) x0 := fun h => i3 x0 h
        refine lv_iload hx hb dX9_arrange_56 (lv_at hl 4 rfl) ?_
        refine lv_iconst (v := nI 3) hx hb dX9_arrange_58 (by decide) ?_
        refine jn_cge hx hb (by omega) (by decide) (tgt := 137) dX9_arrange_59 (by decide) (fun c_59 => ?_) (fun c_59 => ?_)
        · refine lv_iconst (v := nI 0) hx hb dX9_arrange_137 (by decide) ?_
          exact hq _ _ _ _ ((nI 0)) (0, lt1, lf1, sn1) dX9_arrange_138 jn_n0 ⟨rfl, Or.inr ⟨rfl, by rw [eK, arrN]; rw [show x0 = 3 by omega] at i2; rw [i2] at i5; exact i5, by rw [i2, eK, arrN, show x0 = 3 by omega], i3⟩, i4⟩ hP hD hS
        · refine lv_aload_n hx hb dX9_arrange_62 rfl (lv_at hl 1 rfl) ?_
          refine lv_iload hx hb dX9_arrange_63 (lv_at hl 4 rfl) ?_
          refine lv_iload_n hx hb dX9_arrange_65 rfl (lv_at hl 3 rfl) ?_
          refine vp_callSi (va_Run.run (va_runV (As := [.int (nI x0), .int (nI mk)]) (rest := []) ⟨hx, hb, hml, hown, hts⟩ (c_X0_step l g tl (sA (sA (sF σ 18 sn1) 19 lt1) 20 lf1) x0 mk hA (by omega) hm) (cwV 2 hts gX9_arrange_X0_step rfl rfl rfl (by decide +kernel) ⟨Nat.le_of_ble_eq_true rfl, Nat.le_of_ble_eq_true rfl⟩) (okPV hK hP rfl (gC1 g (sA (sA (sF σ 18 sn1) 19 lt1) 20 lf1) tl)) rfl rfl hl.1 rfl (lv_room (Nat.le_of_ble_eq_true rfl)) dX9_arrange_66 ⟨Nat.le_of_ble_eq_true rfl, Nat.le_of_ble_eq_true rfl⟩)) (fun r_66 h_66 => ?_)
          have h_66 : r_66 = (nI (stp (σ.2.1 0) x0 mk)) := h_66
          subst h_66
          have st32 : stp (σ.2.1 0) x0 mk < 32 := stp_lt hA.1 (by omega)
          have hcl2 : fb_sm (arrB (σ.2.1 0) (σ.1 0) ((σ.1 17) - 7) (σ.2.1 20) mk) (x0 + 1) ≤ 3 ^ ((σ.1 17) - 6) := ar_cum (x0 + 1) (by omega) eK
          refine lv_istore (lv' := [(5, .int (nI (stp (σ.2.1 0) x0 mk))), (0, .ref (g.2.2.2 30)), (1, .ref (g.2.2.2 1)), (2, .int (nI 6)), (3, .int (nI mk)), (4, .int (nI x0))]) hx hb dX9_arrange_69 hl (by decide) rfl (fun ls hl => ?_)
          refine lv_aload_n hx hb dX9_arrange_71 rfl (lv_at hl 1 rfl) ?_
          refine va_get (D := (g.1, g.2.1)) (ci := 11) (v := .ref (g.2.2.2 32)) (C := RX9) (T := TX9) (N := 7) hx hb hts iX9 hown hK.1 hP 30 (gC30 g (sA (sA (sF σ 18 sn1) 19 lt1) 20 lf1) tl) rfl 1 (by decide) k15 (fun _ h9 => h9) rfl dX9_arrange_72 ?_
          refine lv_iload hx hb dX9_arrange_75 (lv_at hl 5 rfl) ?_
          refine jn_iald (f := lf1) hx hb hK.1 hP 32 0 (gC32 g (sA (sA (sF σ 18 sn1) 19 lt1) 20 lf1) tl) rfl (by omega) (Nat.le_of_ble_eq_true rfl) dX9_arrange_77 ?_
          have hlfb : lf1 x0 ≤ 8 := by have e1 := i3 0 (by decide); have e2 := i3 1 (by decide); have e3 := i3 2 (by decide); have := ar_le3 lf1 x0 (by omega); omega
          refine jn_zle hx hb (by omega) (tgt := 131) dX9_arrange_78 (by decide) (fun c_78 => ?_) (fun c_78 => ?_)
          · refine lv_iinc (v := nI (x0 + 1)) (lv' := [(4, .int (nI (x0 + 1))), (5, .int (nI (stp (σ.2.1 0) x0 mk))), (0, .ref (g.2.2.2 30)), (1, .ref (g.2.2.2 1)), (2, .int (nI 6)), (3, .int (nI mk))]) hx hb dX9_arrange_131 hl (k := 5) rfl (jn_ii _ 1) (by decide) rfl (fun ls hl => ?_)
            refine lv_goto (tgt := 56) hx hb dX9_arrange_134 (by decide) ?_
            exact ih56 (x0 + 1) sn1 lt1 lf1 (by omega) (by first | exact ar_s0 i2 (Or.inl (by rw [← i3 x0 (by omega)]; omega)) | exact ar_s0 i2 (Or.inr c_83) | exact ar_s1 i2 (by rw [← i3 x0 (by omega)]; omega) hr.2.2.1 eN) (by first | exact i3 | exact ar_lf i3 hr.2.2.2 (by omega)) (by first | exact i4 | exact fun i hi => by rw [h_112.2 i (by omega), va_up, if_neg (by omega)]; exact i4 i hi) (by first | exact i5 | (rw [hr.2.2.1]; have := hr.2.1; omega)) (by omega) _ _ hP hD hS _ (lv_sub hl [2, 3, 4, 5, 0] rfl)
          · refine lv_iload hx hb dX9_arrange_81 (lv_at hl 0 rfl) ?_
            refine jn_zeq hx hb (by omega) (tgt := 131) dX9_arrange_83 (by decide) (fun c_83 => ?_) (fun c_83 => ?_)
            · refine lv_iinc (v := nI (x0 + 1)) (lv' := [(4, .int (nI (x0 + 1))), (5, .int (nI (stp (σ.2.1 0) x0 mk))), (0, .ref (g.2.2.2 30)), (1, .ref (g.2.2.2 1)), (2, .int (nI 6)), (3, .int (nI mk))]) hx hb dX9_arrange_131 hl (k := 5) rfl (jn_ii _ 1) (by decide) rfl (fun ls hl => ?_)
              refine lv_goto (tgt := 56) hx hb dX9_arrange_134 (by decide) ?_
              exact ih56 (x0 + 1) sn1 lt1 lf1 (by omega) (by first | exact ar_s0 i2 (Or.inl (by rw [← i3 x0 (by omega)]; omega)) | exact ar_s0 i2 (Or.inr c_83) | exact ar_s1 i2 (by rw [← i3 x0 (by omega)]; omega) hr.2.2.1 eN) (by first | exact i3 | exact ar_lf i3 hr.2.2.2 (by omega)) (by first | exact i4 | exact fun i hi => by rw [h_112.2 i (by omega), va_up, if_neg (by omega)]; exact i4 i hi) (by first | exact i5 | (rw [hr.2.2.1]; have := hr.2.1; omega)) (by omega) _ _ hP hD hS _ (lv_sub hl [2, 3, 4, 5, 0] rfl)
            · refine lv_aload_n hx hb dX9_arrange_86 rfl (lv_at hl 1 rfl) ?_
              refine va_get (D := (g.1, g.2.1)) (ci := 11) (v := .ref (g.2.2.2 31)) (C := RX9) (T := TX9) (N := 7) hx hb hts iX9 hown hK.1 hP 30 (gC30 g (sA (sA (sF σ 18 sn1) 19 lt1) 20 lf1) tl) rfl 0 (by decide) k9 (fun _ h9 => h9) rfl dX9_arrange_87 ?_
              refine lv_iload_n hx hb dX9_arrange_90 rfl (lv_at hl 3 rfl) ?_
              refine lv_iload hx hb dX9_arrange_91 (lv_at hl 5 rfl) ?_
              refine jn_iast (f := lt1) hx hb hK.1 hP hD hS 31 0 (gC31 g (sA (sA (sF σ 18 sn1) 19 lt1) 20 lf1) tl) rfl (by decide) (Nat.le_of_ble_eq_true rfl) (uC_A19 g (sA (sA (sF σ 18 sn1) 19 lt1) 20 lf1) tl _) dX9_arrange_93 (fun H locs hP hD hS => ?_)
              refine lv_aload_n hx hb dX9_arrange_94 rfl (lv_at hl 1 rfl) ?_
              refine va_get (D := (g.1, g.2.1)) (ci := 11) (v := .ref (g.2.2.2 32)) (C := RX9) (T := TX9) (N := 7) hx hb hts iX9 hown hK.1 hP 30 (gC30 g (sA (sA (sA (sF σ 18 sn1) 19 lt1) 20 lf1) 19 (va_up lt1 6 x0)) tl) rfl 1 (by decide) k15 (fun _ h9 => h9) rfl dX9_arrange_95 ?_
              refine lv_iload hx hb dX9_arrange_98 (lv_at hl 5 rfl) ?_
              refine lv_dup2_11 hx hb dX9_arrange_100 rfl rfl ?_
              refine jn_iald (f := lf1) hx hb hK.1 hP 32 0 (gC32 g (sA (sA (sA (sF σ 18 sn1) 19 lt1) 20 lf1) 19 (va_up lt1 6 x0)) tl) rfl (by omega) (Nat.le_of_ble_eq_true rfl) dX9_arrange_101 ?_
              refine lv_iconst (v := nI 1) hx hb dX9_arrange_102 (by decide) ?_
              refine jn_isub hx hb (by omega) dX9_arrange_103 ?_
              refine jn_iast (f := lf1) hx hb hK.1 hP hD hS 32 0 (gC32 g (sA (sA (sA (sF σ 18 sn1) 19 lt1) 20 lf1) 19 (va_up lt1 6 x0)) tl) rfl (by omega) (Nat.le_of_ble_eq_true rfl) (uC_A20 g (sA (sA (sA (sF σ 18 sn1) 19 lt1) 20 lf1) 19 (va_up lt1 6 x0)) tl _) dX9_arrange_104 (fun H locs hP hD hS => ?_)
              refine lv_aload_n hx hb dX9_arrange_105 rfl (lv_at hl 1 rfl) ?_
              refine lv_aload_n hx hb dX9_arrange_106 rfl (lv_at hl 2 rfl) ?_
              refine lv_iload_n hx hb dX9_arrange_107 rfl (lv_at hl 3 rfl) ?_
              refine lv_iconst (v := nI 1) hx hb dX9_arrange_108 (by decide) ?_
              refine jn_iadd hx hb dX9_arrange_109 ?_
              refine lv_iload hx hb dX9_arrange_110 (lv_at hl 0 rfl) ?_
              refine jn_calli (va_runV (As := [.ref (g.2.2.2 1), .int (nI (6 + 1)), .int (nI (stp (σ.2.1 0) x0 mk))]) (rest := []) ⟨hx, hb, hml, hown, hts⟩ (c_X9_arrange_d7 l g tl H.size (sA (sA (sA (sA (sF σ 18 sn1) 19 lt1) 20 lf1) 19 (va_up lt1 6 x0)) 20 (va_up lf1 x0 ((lf1 x0) - 1))) (stp (σ.2.1 0) x0 mk) hA h1 (show 7 ≤ (σ.1 17) by omega) st32 hw2 (show sn1 + 3 ^ ((σ.1 17) - 7) ≤ 10000 by rw [i2]; exact ar_hs hs eK hcl) (show (va_up lf1 x0 (lf1 x0 - 1)) 0 + (va_up lf1 x0 (lf1 x0 - 1)) 1 + (va_up lf1 x0 (lf1 x0 - 1)) 2 = ((σ.1 17) - 7) by have e1 := i3 0 (by decide); have e2 := i3 1 (by decide); have e3 := i3 2 (by decide); rw [ar_sum lf1 x0 (by omega) (by omega)]; omega)) (cwV 3 hts gX9_arrange_X9_arrange rfl rfl rfl (by decide +kernel) ⟨Nat.le_of_ble_eq_true rfl, Nat.le_of_ble_eq_true rfl⟩) (okWV hK hP hD rfl (gC30 g (sA (sA (sA (sA (sF σ 18 sn1) 19 lt1) 20 lf1) 19 (va_up lt1 6 x0)) 20 (va_up lf1 x0 ((lf1 x0) - 1))) tl)) rfl rfl hl.1 rfl (lv_room (Nat.le_of_ble_eq_true rfl)) dX9_arrange_112 ⟨Nat.le_of_ble_eq_true rfl, Nat.le_of_ble_eq_true rfl⟩) hD hS hAA (fun r_112 u H locs hw_ hP hD hS => ?_)
              obtain ⟨b_112, lt2_112, lf2_112, sn2_112⟩ := u
              obtain ⟨rfl, h_112⟩ := hw_
              have h_112 : ((b_112 = 1 ∧ ((sn1) ≤ (σ.1 19) ∧ (σ.1 19) < (sn1) + arrN (σ.2.1 0) (σ.1 0) ((σ.1 17) - 7) ((va_up lf1 x0 ((lf1 x0) - 1))) (stp (σ.2.1 0) x0 mk)) ∧ isArr (σ.2.1 0) (σ.1 0) ((σ.1 17) - 7) ((va_up lf1 x0 ((lf1 x0) - 1))) (stp (σ.2.1 0) x0 mk) ((σ.1 19) - (sn1)) (fun i => lt2_112 (7 + i))) ∨ (b_112 = 0 ∧ ¬ ((sn1) ≤ (σ.1 19) ∧ (σ.1 19) < (sn1) + arrN (σ.2.1 0) (σ.1 0) ((σ.1 17) - 7) ((va_up lf1 x0 ((lf1 x0) - 1))) (stp (σ.2.1 0) x0 mk)) ∧ sn2_112 = (sn1) + arrN (σ.2.1 0) (σ.1 0) ((σ.1 17) - 7) ((va_up lf1 x0 ((lf1 x0) - 1))) (stp (σ.2.1 0) x0 mk) ∧ ∀ x, x < 3 → lf2_112 x = ((va_up lf1 x0 ((lf1 x0) - 1))) x)) ∧ (∀ i, i < 7 → lt2_112 i = ((va_up lt1 6 x0)) i) := h_112
              have hP : va_P (g.1, g.2.1) vwCl (wC g (sA (sA (sF (sA (sA (sA (sA (sF σ 18 sn1) 19 lt1) 20 lf1) 19 (va_up lt1 6 x0)) 20 (va_up lf1 x0 ((lf1 x0) - 1))) 18 sn2_112) 19 lt2_112) 20 lf2_112) ++ tl) H := hP
              have hD : va_D A (wC g (sA (sA (sF (sA (sA (sA (sA (sF σ 18 sn1) 19 lt1) 20 lf1) 19 (va_up lt1 6 x0)) 20 (va_up lf1 x0 ((lf1 x0) - 1))) 18 sn2_112) 19 lt2_112) 20 lf2_112) ++ tl) := hD
              have eN : arrN (σ.2.1 0) (σ.1 0) ((σ.1 17) - 7) (va_up lf1 x0 (lf1 x0 - 1)) (stp (σ.2.1 0) x0 mk) = arrN (σ.2.1 0) (σ.1 0) ((σ.1 17) - 7) (va_up (σ.2.1 20) x0 ((σ.2.1 20) x0 - 1)) (stp (σ.2.1 0) x0 mk) := arrN_cong _ _ _ _ _ _ (ar_vu i3 (by omega))
              have hb12 : b_112 = 1 ∨ b_112 = 0 := h_112.1.imp (fun z => z.1) (fun z => z.1)
              refine jn_zeq hx hb (by omega) (tgt := 120) dX9_arrange_115 (by decide) (fun c_115 => ?_) (fun c_115 => ?_)
              · have hr := h_112.1.resolve_left (fun z => by have := z.1; omega)
                refine lv_aload_n hx hb dX9_arrange_120 rfl (lv_at hl 1 rfl) ?_
                refine va_get (D := (g.1, g.2.1)) (ci := 11) (v := .ref (g.2.2.2 32)) (C := RX9) (T := TX9) (N := 7) hx hb hts iX9 hown hK.1 hP 30 (gC30 g (sA (sA (sF (sA (sA (sA (sA (sF σ 18 sn1) 19 lt1) 20 lf1) 19 (va_up lt1 6 x0)) 20 (va_up lf1 x0 ((lf1 x0) - 1))) 18 sn2_112) 19 lt2_112) 20 lf2_112) tl) rfl 1 (by decide) k15 (fun _ h9 => h9) rfl dX9_arrange_121 ?_
                refine lv_iload hx hb dX9_arrange_124 (lv_at hl 5 rfl) ?_
                refine lv_dup2_11 hx hb dX9_arrange_126 rfl rfl ?_
                refine jn_iald (f := lf2_112) hx hb hK.1 hP 32 0 (gC32 g (sA (sA (sF (sA (sA (sA (sA (sF σ 18 sn1) 19 lt1) 20 lf1) 19 (va_up lt1 6 x0)) 20 (va_up lf1 x0 ((lf1 x0) - 1))) 18 sn2_112) 19 lt2_112) 20 lf2_112) tl) rfl (by omega) (Nat.le_of_ble_eq_true rfl) dX9_arrange_127 ?_
                refine lv_iconst (v := nI 1) hx hb dX9_arrange_128 (by decide) ?_
                refine jn_iadd hx hb dX9_arrange_129 ?_
                refine jn_iast (f := lf2_112) hx hb hK.1 hP hD hS 32 0 (gC32 g (sA (sA (sF (sA (sA (sA (sA (sF σ 18 sn1) 19 lt1) 20 lf1) 19 (va_up lt1 6 x0)) 20 (va_up lf1 x0 ((lf1 x0) - 1))) 18 sn2_112) 19 lt2_112) 20 lf2_112) tl) rfl (by omega) (Nat.le_of_ble_eq_true rfl) (uC_A20 g (sA (sA (sF (sA (sA (sA (sA (sF σ 18 sn1) 19 lt1) 20 lf1) 19 (va_up lt1 6 x0)) 20 (va_up lf1 x0 ((lf1 x0) - 1))) 18 sn2_112) 19 lt2_112) 20 lf2_112) tl _) dX9_arrange_130 (fun H locs hP hD hS => ?_)
                refine lv_iinc (v := nI (x0 + 1)) (lv' := [(4, .int (nI (x0 + 1))), (5, .int (nI (stp (σ.2.1 0) x0 mk))), (0, .ref (g.2.2.2 30)), (1, .ref (g.2.2.2 1)), (2, .int (nI 6)), (3, .int (nI mk))]) hx hb dX9_arrange_131 hl (k := 5) rfl (jn_ii _ 1) (by decide) rfl (fun ls hl => ?_)
                refine lv_goto (tgt := 56) hx hb dX9_arrange_134 (by decide) ?_
                exact ih56 (x0 + 1) sn2_112 lt2_112 (va_up lf2_112 x0 ((lf2_112 x0) + 1)) (by omega) (by first | exact ar_s0 i2 (Or.inl (by rw [← i3 x0 (by omega)]; omega)) | exact ar_s0 i2 (Or.inr c_83) | exact ar_s1 i2 (by rw [← i3 x0 (by omega)]; omega) hr.2.2.1 eN) (by first | exact i3 | exact ar_lf i3 hr.2.2.2 (by omega)) (by first | exact i4 | exact fun i hi => by rw [h_112.2 i (by omega), va_up, if_neg (by omega)]; exact i4 i hi) (by first | exact i5 | (rw [hr.2.2.1]; have := hr.2.1; omega)) (by omega) _ _ hP hD hS _ (lv_sub hl [2, 3, 4, 5, 0] rfl)
              · have hr := h_112.1.resolve_right (fun z => by have := z.1; omega)
                refine lv_iconst (v := nI 1) hx hb dX9_arrange_118 (by decide) ?_
                exact hq _ _ _ _ ((nI 1)) (1, lt2_112, lf2_112, sn2_112) dX9_arrange_119 jn_n1 ⟨rfl, Or.inl (⟨rfl, ar_hit i2 i5 eK i1 hr.2.1 (by omega) i3 eN, ar_is i2 eK (by omega) i3 hr.2.1 hr.2.2 (by rw [h_112.2 6 (by omega), va_up, if_pos rfl]) c_78 eN⟩), fun i hi => by rw [h_112.2 i (by omega), va_up, if_neg (by omega)]; exact i4 i hi⟩ hP hD hS
    exact lp56 _ 0 (σ.1 18) (σ.2.1 19) (σ.2.1 20) (by decide) rfl (fun _ _ => rfl) (fun _ _ => rfl) (by omega) (Nat.lt_succ_self _) _ _ hP hD hS _ (lv_sub hl [1, 2, 3, 4, 0] rfl)

abbrev r_c_X9_arrange_d5 : Room := { frames := 4, cells := 0, slots := 0, locals := 96 }
set_option maxHeartbeats 4000000 in
set_option maxRecDepth 100000 in
theorem c_X9_arrange_d5 (l : Launch) (g : GC) (tl : va_W) (sz : Nat) (σ : SS) (mk : Nat) (hA : OkA σ) (h1 : (σ.1 17) ≤ 8) (h2 : 5 ≤ (σ.1 17)) (hm : mk < 32) (hw2 : (σ.1 19) < 4294967296) (hs : (σ.1 18) + 3 ^ ((σ.1 17) - 5) ≤ 10000) (hlf : (σ.2.1 20) 0 + (σ.2.1 20) 1 + (σ.2.1 20) 2 = ((σ.1 17) - 5)) : Met l yX9_arrange wsX9_arrange r_c_X9_arrange_d5 (va_Pc [.ref (g.2.2.2 30), .ref (g.2.2.2 1), .int (nI 5), .int (nI mk)] (PW g (wC g σ ++ tl) sz)) (va_Qi (fun (r : Int32) (z : Nat × (Nat → Nat) × (Nat → Nat) × Nat) => match z with | (b, lt2, lf2, sn2) => (r = nI (b)) ∧ ((b = 1 ∧ ((σ.1 18) ≤ (σ.1 19) ∧ (σ.1 19) < (σ.1 18) + arrN (σ.2.1 0) (σ.1 0) ((σ.1 17) - 5) (σ.2.1 20) mk) ∧ isArr (σ.2.1 0) (σ.1 0) ((σ.1 17) - 5) (σ.2.1 20) mk ((σ.1 19) - (σ.1 18)) (fun i => lt2 (5 + i))) ∨ (b = 0 ∧ ¬ ((σ.1 18) ≤ (σ.1 19) ∧ (σ.1 19) < (σ.1 18) + arrN (σ.2.1 0) (σ.1 0) ((σ.1 17) - 5) (σ.2.1 20) mk) ∧ sn2 = (σ.1 18) + arrN (σ.2.1 0) (σ.1 0) ((σ.1 17) - 5) (σ.2.1 20) mk ∧ ∀ x, x < 3 → lf2 x = (σ.2.1 20) x)) ∧ (∀ i, i < 5 → lt2 i = (σ.2.1 19) i)) (fun (z : Nat × (Nat → Nat) × (Nat → Nat) × Nat) t => BW g (va_A (wC g σ ++ tl) sz) ((fun z : Nat × (Nat → Nat) × (Nat → Nat) × Nat => match z with | (b, lt2, lf2, sn2) => wC g (sA (sA (sF σ 18 sn2) 19 lt2) 20 lf2) ++ tl) z) t) (va_A (wC g σ ++ tl) sz)) 0 0 (va_A (wC g σ ++ tl) sz) := by
  refine jn_sz (wf := fun z : Nat × (Nat → Nat) × (Nat → Nat) × Nat => match z with | (b, lt2, lf2, sn2) => wC g (sA (sA (sF σ 18 sn2) 19 lt2) 20 lf2) ++ tl) (cc := cX9_arrange) (maxL := 6) (own := RX9) (by decide) rfl rfl (Nat.le_of_ble_eq_true rfl) ?_
  intro p e s m below meth c Q A hx hb hml hown hts hK hP hD hS hAA hq ls hl
  obtain ⟨H, eH⟩ : ∃ z, z = s.heap := ⟨_, rfl⟩
  obtain ⟨locs, el⟩ : ∃ z : List Loc, z = [] := ⟨_, rfl⟩
  rw [← eH] at hP
  have hS : va_S A s.heap H locs := by rw [eH, el]; exact hS
  have goal0 : W p l e r_c_X9_arrange_d5 s m ([.ref (g.2.2.2 30), .ref (g.2.2.2 1), .int (nI 5), .int (nI mk)] : List Value).toArray below meth c H locs 0 0 Q (F0 m 0 ls []) → W p l e r_c_X9_arrange_d5 s m ([.ref (g.2.2.2 30), .ref (g.2.2.2 1), .int (nI 5), .int (nI mk)] : List Value).toArray below meth c s.heap [] 0 0 Q (F0 m 0 ls []) := fun h => by rw [eH, el] at h; exact h
  refine goal0 ?_
  have hl : lv_has ls 6 [(0, .ref (g.2.2.2 30)), (1, .ref (g.2.2.2 1)), (2, .int (nI 5)), (3, .int (nI mk))] := hl
  have iX9 : ∀ w ∈ wsX90, w ∈ wsX9_arrange := by decide +kernel
  have k18 := hts (.fieldLink RX9 18 "JumpingAutomata$WordSearch" "length" "I") (by decide +kernel)
  have k22 := hts (.fieldLink RX9 22 "JumpingAutomata$WordSearch" "seen" "I") (by decide +kernel)
  have k25 := hts (.fieldLink RX9 25 "JumpingAutomata$WordSearch" "wanted" "I") (by decide +kernel)
  have k15 := hts (.fieldLink RX9 15 "JumpingAutomata$WordSearch" "left" "[I") (by decide +kernel)
  have k9 := hts (.fieldLink RX9 9 "JumpingAutomata$WordSearch" "letters" "[I") (by decide +kernel)
  have hs9 : (σ.1 18) ≤ 10000 := Nat.le_trans (Nat.le_add_right _ _) hs
  refine lv_iload_n hx hb dX9_arrange_0 rfl (lv_at hl 2 rfl) ?_
  refine lv_aload_n hx hb dX9_arrange_1 rfl (lv_at hl 0 rfl) ?_
  refine va_get (D := (g.1, g.2.1)) (ci := 11) (v := .int (nI (σ.1 17))) (C := RX9) (T := TX9) (N := 7) hx hb hts iX9 hown hK.1 hP 30 (gC30 g σ tl) rfl 2 (by decide) k18 (fun _ h9 => h9) rfl dX9_arrange_2 ?_
  refine jn_cge hx hb (by decide) (by omega) (tgt := 14) dX9_arrange_5 (by decide) (fun c_5 => ?_) (fun c_5 => ?_)
  · refine lv_aload_n hx hb dX9_arrange_14 rfl (lv_at hl 1 rfl) ?_
    refine lv_iload_n hx hb dX9_arrange_15 rfl (lv_at hl 3 rfl) ?_
    refine vp_callSi (va_Run.run (va_runV (As := [.int (nI mk)]) (rest := []) ⟨hx, hb, hml, hown, hts⟩ (c_X0_accepting l g tl σ mk hA) (cwV 1 hts gX9_arrange_X0_accepting rfl rfl rfl (by decide +kernel) ⟨Nat.le_of_ble_eq_true rfl, Nat.le_of_ble_eq_true rfl⟩) (okPV hK hP rfl (gC1 g σ tl)) rfl rfl hl.1 rfl (lv_room (Nat.le_of_ble_eq_true rfl)) dX9_arrange_16 ⟨Nat.le_of_ble_eq_true rfl, Nat.le_of_ble_eq_true rfl⟩)) (fun r_16 h_16 => ?_)
    subst h_16
    have e0 : ((σ.1 17) - 5) = 0 := by omega
    refine jn_bne hx hb (tgt := 24) dX9_arrange_19 (by decide) (fun c_19 => ?_) (fun c_19 => ?_)
    · refine lv_aload_n hx hb dX9_arrange_24 rfl (lv_at hl 0 rfl) ?_
      refine lv_dup hx hb dX9_arrange_25 rfl ?_
      refine va_get (D := (g.1, g.2.1)) (ci := 11) (v := .int (nI (σ.1 18))) (C := RX9) (T := TX9) (N := 7) hx hb hts iX9 hown hK.1 hP 30 (gC30 g σ tl) rfl 3 (by decide) k22 (fun _ h9 => h9) rfl dX9_arrange_26 ?_
      refine lv_iconst (v := nI 1) hx hb dX9_arrange_29 (by decide) ?_
      refine jn_iadd hx hb dX9_arrange_30 ?_
      refine jn_put (D := (g.1, g.2.1)) (ci := 11) (v := .int (nI ((σ.1 18) + 1))) (ty := .int) (C := RX9) (T := TX9) (N := 7) hx hb hts iX9 tyX9 tyX9_ok nmX9 hown hK.1 hP hD hS 30 (gC30 g σ tl) rfl 3 (by decide) k22 (fun _ h9 => h9) rfl (by decide +kernel) rfl rfl (Nat.le_of_ble_eq_true rfl) (uC_F18 g σ tl ((σ.1 18) + 1)) dX9_arrange_31 (fun H locs hP hD hS => ?_)
      refine lv_aload_n hx hb dX9_arrange_34 rfl (lv_at hl 0 rfl) ?_
      refine va_get (D := (g.1, g.2.1)) (ci := 11) (v := .int (nI ((σ.1 18) + 1))) (C := RX9) (T := TX9) (N := 7) hx hb hts iX9 hown hK.1 hP 30 (gC30 g (sF σ 18 ((σ.1 18) + 1)) tl) rfl 3 (by decide) k22 (fun _ h9 => h9) rfl dX9_arrange_35 ?_
      refine lv_iconst (v := nI 1) hx hb dX9_arrange_38 (by decide) ?_
      refine jn_isub hx hb (by omega) dX9_arrange_39 ?_
      refine lv_aload_n hx hb dX9_arrange_40 rfl (lv_at hl 0 rfl) ?_
      refine va_get (D := (g.1, g.2.1)) (ci := 11) (v := .int (nI (σ.1 19))) (C := RX9) (T := TX9) (N := 7) hx hb hts iX9 hown hK.1 hP 30 (gC30 g (sF σ 18 ((σ.1 18) + 1)) tl) rfl 4 (by decide) k25 (fun _ h9 => h9) rfl dX9_arrange_41 ?_
      refine jn_cneW hx hb (by omega) hw2 (tgt := 51) dX9_arrange_44 (by decide) (fun c_44 => ?_) (fun c_44 => ?_)
      · refine lv_iconst (v := nI 0) hx hb dX9_arrange_51 (by decide) ?_
        exact hq _ _ _ _ ((nI 0)) (0, (σ.2.1 19), (σ.2.1 20), (σ.1 18) + 1) dX9_arrange_52 jn_n0 ⟨rfl, by first | exact Or.inl ⟨rfl, by rw [e0, arrN, if_pos c_19]; omega, by rw [e0]; trivial⟩ | exact Or.inr ⟨rfl, by rw [e0, arrN, if_pos c_19]; omega, by rw [e0, arrN, if_pos c_19], fun _ _ => rfl⟩, fun _ _ => rfl⟩ hP hD hS
      · refine lv_iconst (v := nI 1) hx hb dX9_arrange_47 (by decide) ?_
        refine lv_goto (tgt := 52) hx hb dX9_arrange_48 (by decide) ?_
        exact hq _ _ _ _ ((nI 1)) (1, (σ.2.1 19), (σ.2.1 20), (σ.1 18) + 1) dX9_arrange_52 jn_n1 ⟨rfl, by first | exact Or.inl ⟨rfl, by rw [e0, arrN, if_pos c_19]; omega, by rw [e0]; trivial⟩ | exact Or.inr ⟨rfl, by rw [e0, arrN, if_pos c_19]; omega, by rw [e0, arrN, if_pos c_19], fun _ _ => rfl⟩, fun _ _ => rfl⟩ hP hD hS
    · refine lv_iconst (v := nI 0) hx hb dX9_arrange_22 (by decide) ?_
      exact hq _ _ _ _ ((nI 0)) (0, (σ.2.1 19), (σ.2.1 20), (σ.1 18)) dX9_arrange_23 jn_n0 ⟨rfl, Or.inr ⟨rfl, by rw [e0, arrN, if_neg c_19]; omega, by rw [e0, arrN, if_neg c_19, Nat.add_zero], fun _ _ => rfl⟩, fun _ _ => rfl⟩ hP hD hS
  · refine lv_iload_n hx hb dX9_arrange_8 rfl (lv_at hl 2 rfl) ?_
    refine lv_bipush (v := nI 8) hx hb dX9_arrange_9 (by decide) ?_
    refine jn_clt hx hb (by decide) (by decide) (tgt := 53) dX9_arrange_11 (by decide) (fun c_11 => ?_) (fun c_11 => absurd c_11 (by decide))
    refine lv_iconst (v := nI 0) hx hb dX9_arrange_53 (by decide) ?_
    refine lv_istore (lv' := [(4, .int (nI 0)), (0, .ref (g.2.2.2 30)), (1, .ref (g.2.2.2 1)), (2, .int (nI 5)), (3, .int (nI mk))]) hx hb dX9_arrange_54 hl (by decide) rfl (fun ls hl => ?_)
    have lp56 : ∀ (fu : Nat), ∀ (x0 : Nat) (sn1 : Nat) (lt1 : Nat → Nat) (lf1 : Nat → Nat), (x0 ≤ 3) → (sn1 = (σ.1 18) + fb_sm (arrB (σ.2.1 0) (σ.1 0) ((σ.1 17) - 6) (σ.2.1 20) mk) x0) → (∀ x, x < 3 → lf1 x = (σ.2.1 20) x) → (∀ i, i < 5 → lt1 i = (σ.2.1 19) i) → (¬ ((σ.1 18) ≤ (σ.1 19) ∧ (σ.1 19) < sn1)) → 3 - x0 < fu → ∀ (H : Heap) (locs : List Loc), va_P (g.1, g.2.1) vwCl (wC g (sA (sA (sF σ 18 sn1) 19 lt1) 20 lf1) ++ tl) H → va_D A (wC g (sA (sA (sF σ 18 sn1) 19 lt1) 20 lf1) ++ tl) → va_S A s.heap H locs → ∀ ls : Array Slot, lv_has ls 6 [(0, .ref (g.2.2.2 30)), (1, .ref (g.2.2.2 1)), (2, .int (nI 5)), (3, .int (nI mk)), (4, .int (nI x0))] → W p l e r_c_X9_arrange_d5 s m ([.ref (g.2.2.2 30), .ref (g.2.2.2 1), .int (nI 5), .int (nI mk)] : List Value).toArray below meth c H locs 0 0 Q (F0 m 56 ls []) := by
      intro fu
      induction fu with
      | zero => intro x0 sn1 lt1 lf1 i1 i2 i3 i4 i5 hf; exact absurd hf (Nat.not_lt_zero _)
      | succ fu ih56 =>
        intro x0 sn1 lt1 lf1 i1 i2 i3 i4 i5 hf H locs hP hD hS ls hl
        have eK : ((σ.1 17) - 5) = ((σ.1 17) - 6) + 1 := by omega
        have hcl : fb_sm (arrB (σ.2.1 0) (σ.1 0) ((σ.1 17) - 6) (σ.2.1 20) mk) x0 ≤ 3 ^ ((σ.1 17) - 5) := ar_cum x0 i1 eK
        have i3x : x0 < 3 → lf1 x0 = (σ.2.1 20) x0 := fun h => i3 x0 h
        refine lv_iload hx hb dX9_arrange_56 (lv_at hl 4 rfl) ?_
        refine lv_iconst (v := nI 3) hx hb dX9_arrange_58 (by decide) ?_
        refine jn_cge hx hb (by omega) (by decide) (tgt := 137) dX9_arrange_59 (by decide) (fun c_59 => ?_) (fun c_59 => ?_)
        · refine lv_iconst (v := nI 0) hx hb dX9_arrange_137 (by decide) ?_
          exact hq _ _ _ _ ((nI 0)) (0, lt1, lf1, sn1) dX9_arrange_138 jn_n0 ⟨rfl, Or.inr ⟨rfl, by rw [eK, arrN]; rw [show x0 = 3 by omega] at i2; rw [i2] at i5; exact i5, by rw [i2, eK, arrN, show x0 = 3 by omega], i3⟩, i4⟩ hP hD hS
        · refine lv_aload_n hx hb dX9_arrange_62 rfl (lv_at hl 1 rfl) ?_
          refine lv_iload hx hb dX9_arrange_63 (lv_at hl 4 rfl) ?_
          refine lv_iload_n hx hb dX9_arrange_65 rfl (lv_at hl 3 rfl) ?_
          refine vp_callSi (va_Run.run (va_runV (As := [.int (nI x0), .int (nI mk)]) (rest := []) ⟨hx, hb, hml, hown, hts⟩ (c_X0_step l g tl (sA (sA (sF σ 18 sn1) 19 lt1) 20 lf1) x0 mk hA (by omega) hm) (cwV 2 hts gX9_arrange_X0_step rfl rfl rfl (by decide +kernel) ⟨Nat.le_of_ble_eq_true rfl, Nat.le_of_ble_eq_true rfl⟩) (okPV hK hP rfl (gC1 g (sA (sA (sF σ 18 sn1) 19 lt1) 20 lf1) tl)) rfl rfl hl.1 rfl (lv_room (Nat.le_of_ble_eq_true rfl)) dX9_arrange_66 ⟨Nat.le_of_ble_eq_true rfl, Nat.le_of_ble_eq_true rfl⟩)) (fun r_66 h_66 => ?_)
          have h_66 : r_66 = (nI (stp (σ.2.1 0) x0 mk)) := h_66
          subst h_66
          have st32 : stp (σ.2.1 0) x0 mk < 32 := stp_lt hA.1 (by omega)
          have hcl2 : fb_sm (arrB (σ.2.1 0) (σ.1 0) ((σ.1 17) - 6) (σ.2.1 20) mk) (x0 + 1) ≤ 3 ^ ((σ.1 17) - 5) := ar_cum (x0 + 1) (by omega) eK
          refine lv_istore (lv' := [(5, .int (nI (stp (σ.2.1 0) x0 mk))), (0, .ref (g.2.2.2 30)), (1, .ref (g.2.2.2 1)), (2, .int (nI 5)), (3, .int (nI mk)), (4, .int (nI x0))]) hx hb dX9_arrange_69 hl (by decide) rfl (fun ls hl => ?_)
          refine lv_aload_n hx hb dX9_arrange_71 rfl (lv_at hl 1 rfl) ?_
          refine va_get (D := (g.1, g.2.1)) (ci := 11) (v := .ref (g.2.2.2 32)) (C := RX9) (T := TX9) (N := 7) hx hb hts iX9 hown hK.1 hP 30 (gC30 g (sA (sA (sF σ 18 sn1) 19 lt1) 20 lf1) tl) rfl 1 (by decide) k15 (fun _ h9 => h9) rfl dX9_arrange_72 ?_
          refine lv_iload hx hb dX9_arrange_75 (lv_at hl 5 rfl) ?_
          refine jn_iald (f := lf1) hx hb hK.1 hP 32 0 (gC32 g (sA (sA (sF σ 18 sn1) 19 lt1) 20 lf1) tl) rfl (by omega) (Nat.le_of_ble_eq_true rfl) dX9_arrange_77 ?_
          have hlfb : lf1 x0 ≤ 8 := by have e1 := i3 0 (by decide); have e2 := i3 1 (by decide); have e3 := i3 2 (by decide); have := ar_le3 lf1 x0 (by omega); omega
          refine jn_zle hx hb (by omega) (tgt := 131) dX9_arrange_78 (by decide) (fun c_78 => ?_) (fun c_78 => ?_)
          · refine lv_iinc (v := nI (x0 + 1)) (lv' := [(4, .int (nI (x0 + 1))), (5, .int (nI (stp (σ.2.1 0) x0 mk))), (0, .ref (g.2.2.2 30)), (1, .ref (g.2.2.2 1)), (2, .int (nI 5)), (3, .int (nI mk))]) hx hb dX9_arrange_131 hl (k := 5) rfl (jn_ii _ 1) (by decide) rfl (fun ls hl => ?_)
            refine lv_goto (tgt := 56) hx hb dX9_arrange_134 (by decide) ?_
            exact ih56 (x0 + 1) sn1 lt1 lf1 (by omega) (by first | exact ar_s0 i2 (Or.inl (by rw [← i3 x0 (by omega)]; omega)) | exact ar_s0 i2 (Or.inr c_83) | exact ar_s1 i2 (by rw [← i3 x0 (by omega)]; omega) hr.2.2.1 eN) (by first | exact i3 | exact ar_lf i3 hr.2.2.2 (by omega)) (by first | exact i4 | exact fun i hi => by rw [h_112.2 i (by omega), va_up, if_neg (by omega)]; exact i4 i hi) (by first | exact i5 | (rw [hr.2.2.1]; have := hr.2.1; omega)) (by omega) _ _ hP hD hS _ (lv_sub hl [2, 3, 4, 5, 0] rfl)
          · refine lv_iload hx hb dX9_arrange_81 (lv_at hl 0 rfl) ?_
            refine jn_zeq hx hb (by omega) (tgt := 131) dX9_arrange_83 (by decide) (fun c_83 => ?_) (fun c_83 => ?_)
            · refine lv_iinc (v := nI (x0 + 1)) (lv' := [(4, .int (nI (x0 + 1))), (5, .int (nI (stp (σ.2.1 0) x0 mk))), (0, .ref (g.2.2.2 30)), (1, .ref (g.2.2.2 1)), (2, .int (nI 5)), (3, .int (nI mk))]) hx hb dX9_arrange_131 hl (k := 5) rfl (jn_ii _ 1) (by decide) rfl (fun ls hl => ?_)
              refine lv_goto (tgt := 56) hx hb dX9_arrange_134 (by decide) ?_
              exact ih56 (x0 + 1) sn1 lt1 lf1 (by omega) (by first | exact ar_s0 i2 (Or.inl (by rw [← i3 x0 (by omega)]; omega)) | exact ar_s0 i2 (Or.inr c_83) | exact ar_s1 i2 (by rw [← i3 x0 (by omega)]; omega) hr.2.2.1 eN) (by first | exact i3 | exact ar_lf i3 hr.2.2.2 (by omega)) (by first | exact i4 | exact fun i hi => by rw [h_112.2 i (by omega), va_up, if_neg (by omega)]; exact i4 i hi) (by first | exact i5 | (rw [hr.2.2.1]; have := hr.2.1; omega)) (by omega) _ _ hP hD hS _ (lv_sub hl [2, 3, 4, 5, 0] rfl)
            · refine lv_aload_n hx hb dX9_arrange_86 rfl (lv_at hl 1 rfl) ?_
              refine va_get (D := (g.1, g.2.1)) (ci := 11) (v := .ref (g.2.2.2 31)) (C := RX9) (T := TX9) (N := 7) hx hb hts iX9 hown hK.1 hP 30 (gC30 g (sA (sA (sF σ 18 sn1) 19 lt1) 20 lf1) tl) rfl 0 (by decide) k9 (fun _ h9 => h9) rfl dX9_arrange_87 ?_
              refine lv_iload_n hx hb dX9_arrange_90 rfl (lv_at hl 3 rfl) ?_
              refine lv_iload hx hb dX9_arrange_91 (lv_at hl 5 rfl) ?_
              refine jn_iast (f := lt1) hx hb hK.1 hP hD hS 31 0 (gC31 g (sA (sA (sF σ 18 sn1) 19 lt1) 20 lf1) tl) rfl (by decide) (Nat.le_of_ble_eq_true rfl) (uC_A19 g (sA (sA (sF σ 18 sn1) 19 lt1) 20 lf1) tl _) dX9_arrange_93 (fun H locs hP hD hS => ?_)
              refine lv_aload_n hx hb dX9_arrange_94 rfl (lv_at hl 1 rfl) ?_
              refine va_get (D := (g.1, g.2.1)) (ci := 11) (v := .ref (g.2.2.2 32)) (C := RX9) (T := TX9) (N := 7) hx hb hts iX9 hown hK.1 hP 30 (gC30 g (sA (sA (sA (sF σ 18 sn1) 19 lt1) 20 lf1) 19 (va_up lt1 5 x0)) tl) rfl 1 (by decide) k15 (fun _ h9 => h9) rfl dX9_arrange_95 ?_
              refine lv_iload hx hb dX9_arrange_98 (lv_at hl 5 rfl) ?_
              refine lv_dup2_11 hx hb dX9_arrange_100 rfl rfl ?_
              refine jn_iald (f := lf1) hx hb hK.1 hP 32 0 (gC32 g (sA (sA (sA (sF σ 18 sn1) 19 lt1) 20 lf1) 19 (va_up lt1 5 x0)) tl) rfl (by omega) (Nat.le_of_ble_eq_true rfl) dX9_arrange_101 ?_
              refine lv_iconst (v := nI 1) hx hb dX9_arrange_102 (by decide) ?_
              refine jn_isub hx hb (by omega) dX9_arrange_103 ?_
              refine jn_iast (f := lf1) hx hb hK.1 hP hD hS 32 0 (gC32 g (sA (sA (sA (sF σ 18 sn1) 19 lt1) 20 lf1) 19 (va_up lt1 5 x0)) tl) rfl (by omega) (Nat.le_of_ble_eq_true rfl) (uC_A20 g (sA (sA (sA (sF σ 18 sn1) 19 lt1) 20 lf1) 19 (va_up lt1 5 x0)) tl _) dX9_arrange_104 (fun H locs hP hD hS => ?_)
              refine lv_aload_n hx hb dX9_arrange_105 rfl (lv_at hl 1 rfl) ?_
              refine lv_aload_n hx hb dX9_arrange_106 rfl (lv_at hl 2 rfl) ?_
              refine lv_iload_n hx hb dX9_arrange_107 rfl (lv_at hl 3 rfl) ?_
              refine lv_iconst (v := nI 1) hx hb dX9_arrange_108 (by decide) ?_
              refine jn_iadd hx hb dX9_arrange_109 ?_
              refine lv_iload hx hb dX9_arrange_110 (lv_at hl 0 rfl) ?_
              refine jn_calli (va_runV (As := [.ref (g.2.2.2 1), .int (nI (5 + 1)), .int (nI (stp (σ.2.1 0) x0 mk))]) (rest := []) ⟨hx, hb, hml, hown, hts⟩ (c_X9_arrange_d6 l g tl H.size (sA (sA (sA (sA (sF σ 18 sn1) 19 lt1) 20 lf1) 19 (va_up lt1 5 x0)) 20 (va_up lf1 x0 ((lf1 x0) - 1))) (stp (σ.2.1 0) x0 mk) hA h1 (show 6 ≤ (σ.1 17) by omega) st32 hw2 (show sn1 + 3 ^ ((σ.1 17) - 6) ≤ 10000 by rw [i2]; exact ar_hs hs eK hcl) (show (va_up lf1 x0 (lf1 x0 - 1)) 0 + (va_up lf1 x0 (lf1 x0 - 1)) 1 + (va_up lf1 x0 (lf1 x0 - 1)) 2 = ((σ.1 17) - 6) by have e1 := i3 0 (by decide); have e2 := i3 1 (by decide); have e3 := i3 2 (by decide); rw [ar_sum lf1 x0 (by omega) (by omega)]; omega)) (cwV 3 hts gX9_arrange_X9_arrange rfl rfl rfl (by decide +kernel) ⟨Nat.le_of_ble_eq_true rfl, Nat.le_of_ble_eq_true rfl⟩) (okWV hK hP hD rfl (gC30 g (sA (sA (sA (sA (sF σ 18 sn1) 19 lt1) 20 lf1) 19 (va_up lt1 5 x0)) 20 (va_up lf1 x0 ((lf1 x0) - 1))) tl)) rfl rfl hl.1 rfl (lv_room (Nat.le_of_ble_eq_true rfl)) dX9_arrange_112 ⟨Nat.le_of_ble_eq_true rfl, Nat.le_of_ble_eq_true rfl⟩) hD hS hAA (fun r_112 u H locs hw_ hP hD hS => ?_)
              obtain ⟨b_112, lt2_112, lf2_112, sn2_112⟩ := u
              obtain ⟨rfl, h_112⟩ := hw_
              have h_112 : ((b_112 = 1 ∧ ((sn1) ≤ (σ.1 19) ∧ (σ.1 19) < (sn1) + arrN (σ.2.1 0) (σ.1 0) ((σ.1 17) - 6) ((va_up lf1 x0 ((lf1 x0) - 1))) (stp (σ.2.1 0) x0 mk)) ∧ isArr (σ.2.1 0) (σ.1 0) ((σ.1 17) - 6) ((va_up lf1 x0 ((lf1 x0) - 1))) (stp (σ.2.1 0) x0 mk) ((σ.1 19) - (sn1)) (fun i => lt2_112 (6 + i))) ∨ (b_112 = 0 ∧ ¬ ((sn1) ≤ (σ.1 19) ∧ (σ.1 19) < (sn1) + arrN (σ.2.1 0) (σ.1 0) ((σ.1 17) - 6) ((va_up lf1 x0 ((lf1 x0) - 1))) (stp (σ.2.1 0) x0 mk)) ∧ sn2_112 = (sn1) + arrN (σ.2.1 0) (σ.1 0) ((σ.1 17) - 6) ((va_up lf1 x0 ((lf1 x0) - 1))) (stp (σ.2.1 0) x0 mk) ∧ ∀ x, x < 3 → lf2_112 x = ((va_up lf1 x0 ((lf1 x0) - 1))) x)) ∧ (∀ i, i < 6 → lt2_112 i = ((va_up lt1 5 x0)) i) := h_112
              have hP : va_P (g.1, g.2.1) vwCl (wC g (sA (sA (sF (sA (sA (sA (sA (sF σ 18 sn1) 19 lt1) 20 lf1) 19 (va_up lt1 5 x0)) 20 (va_up lf1 x0 ((lf1 x0) - 1))) 18 sn2_112) 19 lt2_112) 20 lf2_112) ++ tl) H := hP
              have hD : va_D A (wC g (sA (sA (sF (sA (sA (sA (sA (sF σ 18 sn1) 19 lt1) 20 lf1) 19 (va_up lt1 5 x0)) 20 (va_up lf1 x0 ((lf1 x0) - 1))) 18 sn2_112) 19 lt2_112) 20 lf2_112) ++ tl) := hD
              have eN : arrN (σ.2.1 0) (σ.1 0) ((σ.1 17) - 6) (va_up lf1 x0 (lf1 x0 - 1)) (stp (σ.2.1 0) x0 mk) = arrN (σ.2.1 0) (σ.1 0) ((σ.1 17) - 6) (va_up (σ.2.1 20) x0 ((σ.2.1 20) x0 - 1)) (stp (σ.2.1 0) x0 mk) := arrN_cong _ _ _ _ _ _ (ar_vu i3 (by omega))
              have hb12 : b_112 = 1 ∨ b_112 = 0 := h_112.1.imp (fun z => z.1) (fun z => z.1)
              refine jn_zeq hx hb (by omega) (tgt := 120) dX9_arrange_115 (by decide) (fun c_115 => ?_) (fun c_115 => ?_)
              · have hr := h_112.1.resolve_left (fun z => by have := z.1; omega)
                refine lv_aload_n hx hb dX9_arrange_120 rfl (lv_at hl 1 rfl) ?_
                refine va_get (D := (g.1, g.2.1)) (ci := 11) (v := .ref (g.2.2.2 32)) (C := RX9) (T := TX9) (N := 7) hx hb hts iX9 hown hK.1 hP 30 (gC30 g (sA (sA (sF (sA (sA (sA (sA (sF σ 18 sn1) 19 lt1) 20 lf1) 19 (va_up lt1 5 x0)) 20 (va_up lf1 x0 ((lf1 x0) - 1))) 18 sn2_112) 19 lt2_112) 20 lf2_112) tl) rfl 1 (by decide) k15 (fun _ h9 => h9) rfl dX9_arrange_121 ?_
                refine lv_iload hx hb dX9_arrange_124 (lv_at hl 5 rfl) ?_
                refine lv_dup2_11 hx hb dX9_arrange_126 rfl rfl ?_
                refine jn_iald (f := lf2_112) hx hb hK.1 hP 32 0 (gC32 g (sA (sA (sF (sA (sA (sA (sA (sF σ 18 sn1) 19 lt1) 20 lf1) 19 (va_up lt1 5 x0)) 20 (va_up lf1 x0 ((lf1 x0) - 1))) 18 sn2_112) 19 lt2_112) 20 lf2_112) tl) rfl (by omega) (Nat.le_of_ble_eq_true rfl) dX9_arrange_127 ?_
                refine lv_iconst (v := nI 1) hx hb dX9_arrange_128 (by decide) ?_
                refine jn_iadd hx hb dX9_arrange_129 ?_
                refine jn_iast (f := lf2_112) hx hb hK.1 hP hD hS 32 0 (gC32 g (sA (sA (sF (sA (sA (sA (sA (sF σ 18 sn1) 19 lt1) 20 lf1) 19 (va_up lt1 5 x0)) 20 (va_up lf1 x0 ((lf1 x0) - 1))) 18 sn2_112) 19 lt2_112) 20 lf2_112) tl) rfl (by omega) (Nat.le_of_ble_eq_true rfl) (uC_A20 g (sA (sA (sF (sA (sA (sA (sA (sF σ 18 sn1) 19 lt1) 20 lf1) 19 (va_up lt1 5 x0)) 20 (va_up lf1 x0 ((lf1 x0) - 1))) 18 sn2_112) 19 lt2_112) 20 lf2_112) tl _) dX9_arrange_130 (fun H locs hP hD hS => ?_)
                refine lv_iinc (v := nI (x0 + 1)) (lv' := [(4, .int (nI (x0 + 1))), (5, .int (nI (stp (σ.2.1 0) x0 mk))), (0, .ref (g.2.2.2 30)), (1, .ref (g.2.2.2 1)), (2, .int (nI 5)), (3, .int (nI mk))]) hx hb dX9_arrange_131 hl (k := 5) rfl (jn_ii _ 1) (by decide) rfl (fun ls hl => ?_)
                refine lv_goto (tgt := 56) hx hb dX9_arrange_134 (by decide) ?_
                exact ih56 (x0 + 1) sn2_112 lt2_112 (va_up lf2_112 x0 ((lf2_112 x0) + 1)) (by omega) (by first | exact ar_s0 i2 (Or.inl (by rw [← i3 x0 (by omega)]; omega)) | exact ar_s0 i2 (Or.inr c_83) | exact ar_s1 i2 (by rw [← i3 x0 (by omega)]; omega) hr.2.2.1 eN) (by first | exact i3 | exact ar_lf i3 hr.2.2.2 (by omega)) (by first | exact i4 | exact fun i hi => by rw [h_112.2 i (by omega), va_up, if_neg (by omega)]; exact i4 i hi) (by first | exact i5 | (rw [hr.2.2.1]; have := hr.2.1; omega)) (by omega) _ _ hP hD hS _ (lv_sub hl [2, 3, 4, 5, 0] rfl)
              · have hr := h_112.1.resolve_right (fun z => by have := z.1; omega)
                refine lv_iconst (v := nI 1) hx hb dX9_arrange_118 (by decide) ?_
                exact hq _ _ _ _ ((nI 1)) (1, lt2_112, lf2_112, sn2_112) dX9_arrange_119 jn_n1 ⟨rfl, Or.inl (⟨rfl, ar_hit i2 i5 eK i1 hr.2.1 (by omega) i3 eN, ar_is i2 eK (by omega) i3 hr.2.1 hr.2.2 (by rw [h_112.2 5 (by omega), va_up, if_pos rfl]) c_78 eN⟩), fun i hi => by rw [h_112.2 i (by omega), va_up, if_neg (by omega)]; exact i4 i hi⟩ hP hD hS
    exact lp56 _ 0 (σ.1 18) (σ.2.1 19) (σ.2.1 20) (by decide) rfl (fun _ _ => rfl) (fun _ _ => rfl) (by omega) (Nat.lt_succ_self _) _ _ hP hD hS _ (lv_sub hl [1, 2, 3, 4, 0] rfl)

abbrev r_c_X9_arrange_d4 : Room := { frames := 5, cells := 0, slots := 0, locals := 121 }
set_option maxHeartbeats 4000000 in
set_option maxRecDepth 100000 in
theorem c_X9_arrange_d4 (l : Launch) (g : GC) (tl : va_W) (sz : Nat) (σ : SS) (mk : Nat) (hA : OkA σ) (h1 : (σ.1 17) ≤ 8) (h2 : 4 ≤ (σ.1 17)) (hm : mk < 32) (hw2 : (σ.1 19) < 4294967296) (hs : (σ.1 18) + 3 ^ ((σ.1 17) - 4) ≤ 10000) (hlf : (σ.2.1 20) 0 + (σ.2.1 20) 1 + (σ.2.1 20) 2 = ((σ.1 17) - 4)) : Met l yX9_arrange wsX9_arrange r_c_X9_arrange_d4 (va_Pc [.ref (g.2.2.2 30), .ref (g.2.2.2 1), .int (nI 4), .int (nI mk)] (PW g (wC g σ ++ tl) sz)) (va_Qi (fun (r : Int32) (z : Nat × (Nat → Nat) × (Nat → Nat) × Nat) => match z with | (b, lt2, lf2, sn2) => (r = nI (b)) ∧ ((b = 1 ∧ ((σ.1 18) ≤ (σ.1 19) ∧ (σ.1 19) < (σ.1 18) + arrN (σ.2.1 0) (σ.1 0) ((σ.1 17) - 4) (σ.2.1 20) mk) ∧ isArr (σ.2.1 0) (σ.1 0) ((σ.1 17) - 4) (σ.2.1 20) mk ((σ.1 19) - (σ.1 18)) (fun i => lt2 (4 + i))) ∨ (b = 0 ∧ ¬ ((σ.1 18) ≤ (σ.1 19) ∧ (σ.1 19) < (σ.1 18) + arrN (σ.2.1 0) (σ.1 0) ((σ.1 17) - 4) (σ.2.1 20) mk) ∧ sn2 = (σ.1 18) + arrN (σ.2.1 0) (σ.1 0) ((σ.1 17) - 4) (σ.2.1 20) mk ∧ ∀ x, x < 3 → lf2 x = (σ.2.1 20) x)) ∧ (∀ i, i < 4 → lt2 i = (σ.2.1 19) i)) (fun (z : Nat × (Nat → Nat) × (Nat → Nat) × Nat) t => BW g (va_A (wC g σ ++ tl) sz) ((fun z : Nat × (Nat → Nat) × (Nat → Nat) × Nat => match z with | (b, lt2, lf2, sn2) => wC g (sA (sA (sF σ 18 sn2) 19 lt2) 20 lf2) ++ tl) z) t) (va_A (wC g σ ++ tl) sz)) 0 0 (va_A (wC g σ ++ tl) sz) := by
  refine jn_sz (wf := fun z : Nat × (Nat → Nat) × (Nat → Nat) × Nat => match z with | (b, lt2, lf2, sn2) => wC g (sA (sA (sF σ 18 sn2) 19 lt2) 20 lf2) ++ tl) (cc := cX9_arrange) (maxL := 6) (own := RX9) (by decide) rfl rfl (Nat.le_of_ble_eq_true rfl) ?_
  intro p e s m below meth c Q A hx hb hml hown hts hK hP hD hS hAA hq ls hl
  obtain ⟨H, eH⟩ : ∃ z, z = s.heap := ⟨_, rfl⟩
  obtain ⟨locs, el⟩ : ∃ z : List Loc, z = [] := ⟨_, rfl⟩
  rw [← eH] at hP
  have hS : va_S A s.heap H locs := by rw [eH, el]; exact hS
  have goal0 : W p l e r_c_X9_arrange_d4 s m ([.ref (g.2.2.2 30), .ref (g.2.2.2 1), .int (nI 4), .int (nI mk)] : List Value).toArray below meth c H locs 0 0 Q (F0 m 0 ls []) → W p l e r_c_X9_arrange_d4 s m ([.ref (g.2.2.2 30), .ref (g.2.2.2 1), .int (nI 4), .int (nI mk)] : List Value).toArray below meth c s.heap [] 0 0 Q (F0 m 0 ls []) := fun h => by rw [eH, el] at h; exact h
  refine goal0 ?_
  have hl : lv_has ls 6 [(0, .ref (g.2.2.2 30)), (1, .ref (g.2.2.2 1)), (2, .int (nI 4)), (3, .int (nI mk))] := hl
  have iX9 : ∀ w ∈ wsX90, w ∈ wsX9_arrange := by decide +kernel
  have k18 := hts (.fieldLink RX9 18 "JumpingAutomata$WordSearch" "length" "I") (by decide +kernel)
  have k22 := hts (.fieldLink RX9 22 "JumpingAutomata$WordSearch" "seen" "I") (by decide +kernel)
  have k25 := hts (.fieldLink RX9 25 "JumpingAutomata$WordSearch" "wanted" "I") (by decide +kernel)
  have k15 := hts (.fieldLink RX9 15 "JumpingAutomata$WordSearch" "left" "[I") (by decide +kernel)
  have k9 := hts (.fieldLink RX9 9 "JumpingAutomata$WordSearch" "letters" "[I") (by decide +kernel)
  have hs9 : (σ.1 18) ≤ 10000 := Nat.le_trans (Nat.le_add_right _ _) hs
  refine lv_iload_n hx hb dX9_arrange_0 rfl (lv_at hl 2 rfl) ?_
  refine lv_aload_n hx hb dX9_arrange_1 rfl (lv_at hl 0 rfl) ?_
  refine va_get (D := (g.1, g.2.1)) (ci := 11) (v := .int (nI (σ.1 17))) (C := RX9) (T := TX9) (N := 7) hx hb hts iX9 hown hK.1 hP 30 (gC30 g σ tl) rfl 2 (by decide) k18 (fun _ h9 => h9) rfl dX9_arrange_2 ?_
  refine jn_cge hx hb (by decide) (by omega) (tgt := 14) dX9_arrange_5 (by decide) (fun c_5 => ?_) (fun c_5 => ?_)
  · refine lv_aload_n hx hb dX9_arrange_14 rfl (lv_at hl 1 rfl) ?_
    refine lv_iload_n hx hb dX9_arrange_15 rfl (lv_at hl 3 rfl) ?_
    refine vp_callSi (va_Run.run (va_runV (As := [.int (nI mk)]) (rest := []) ⟨hx, hb, hml, hown, hts⟩ (c_X0_accepting l g tl σ mk hA) (cwV 1 hts gX9_arrange_X0_accepting rfl rfl rfl (by decide +kernel) ⟨Nat.le_of_ble_eq_true rfl, Nat.le_of_ble_eq_true rfl⟩) (okPV hK hP rfl (gC1 g σ tl)) rfl rfl hl.1 rfl (lv_room (Nat.le_of_ble_eq_true rfl)) dX9_arrange_16 ⟨Nat.le_of_ble_eq_true rfl, Nat.le_of_ble_eq_true rfl⟩)) (fun r_16 h_16 => ?_)
    subst h_16
    have e0 : ((σ.1 17) - 4) = 0 := by omega
    refine jn_bne hx hb (tgt := 24) dX9_arrange_19 (by decide) (fun c_19 => ?_) (fun c_19 => ?_)
    · refine lv_aload_n hx hb dX9_arrange_24 rfl (lv_at hl 0 rfl) ?_
      refine lv_dup hx hb dX9_arrange_25 rfl ?_
      refine va_get (D := (g.1, g.2.1)) (ci := 11) (v := .int (nI (σ.1 18))) (C := RX9) (T := TX9) (N := 7) hx hb hts iX9 hown hK.1 hP 30 (gC30 g σ tl) rfl 3 (by decide) k22 (fun _ h9 => h9) rfl dX9_arrange_26 ?_
      refine lv_iconst (v := nI 1) hx hb dX9_arrange_29 (by decide) ?_
      refine jn_iadd hx hb dX9_arrange_30 ?_
      refine jn_put (D := (g.1, g.2.1)) (ci := 11) (v := .int (nI ((σ.1 18) + 1))) (ty := .int) (C := RX9) (T := TX9) (N := 7) hx hb hts iX9 tyX9 tyX9_ok nmX9 hown hK.1 hP hD hS 30 (gC30 g σ tl) rfl 3 (by decide) k22 (fun _ h9 => h9) rfl (by decide +kernel) rfl rfl (Nat.le_of_ble_eq_true rfl) (uC_F18 g σ tl ((σ.1 18) + 1)) dX9_arrange_31 (fun H locs hP hD hS => ?_)
      refine lv_aload_n hx hb dX9_arrange_34 rfl (lv_at hl 0 rfl) ?_
      refine va_get (D := (g.1, g.2.1)) (ci := 11) (v := .int (nI ((σ.1 18) + 1))) (C := RX9) (T := TX9) (N := 7) hx hb hts iX9 hown hK.1 hP 30 (gC30 g (sF σ 18 ((σ.1 18) + 1)) tl) rfl 3 (by decide) k22 (fun _ h9 => h9) rfl dX9_arrange_35 ?_
      refine lv_iconst (v := nI 1) hx hb dX9_arrange_38 (by decide) ?_
      refine jn_isub hx hb (by omega) dX9_arrange_39 ?_
      refine lv_aload_n hx hb dX9_arrange_40 rfl (lv_at hl 0 rfl) ?_
      refine va_get (D := (g.1, g.2.1)) (ci := 11) (v := .int (nI (σ.1 19))) (C := RX9) (T := TX9) (N := 7) hx hb hts iX9 hown hK.1 hP 30 (gC30 g (sF σ 18 ((σ.1 18) + 1)) tl) rfl 4 (by decide) k25 (fun _ h9 => h9) rfl dX9_arrange_41 ?_
      refine jn_cneW hx hb (by omega) hw2 (tgt := 51) dX9_arrange_44 (by decide) (fun c_44 => ?_) (fun c_44 => ?_)
      · refine lv_iconst (v := nI 0) hx hb dX9_arrange_51 (by decide) ?_
        exact hq _ _ _ _ ((nI 0)) (0, (σ.2.1 19), (σ.2.1 20), (σ.1 18) + 1) dX9_arrange_52 jn_n0 ⟨rfl, by first | exact Or.inl ⟨rfl, by rw [e0, arrN, if_pos c_19]; omega, by rw [e0]; trivial⟩ | exact Or.inr ⟨rfl, by rw [e0, arrN, if_pos c_19]; omega, by rw [e0, arrN, if_pos c_19], fun _ _ => rfl⟩, fun _ _ => rfl⟩ hP hD hS
      · refine lv_iconst (v := nI 1) hx hb dX9_arrange_47 (by decide) ?_
        refine lv_goto (tgt := 52) hx hb dX9_arrange_48 (by decide) ?_
        exact hq _ _ _ _ ((nI 1)) (1, (σ.2.1 19), (σ.2.1 20), (σ.1 18) + 1) dX9_arrange_52 jn_n1 ⟨rfl, by first | exact Or.inl ⟨rfl, by rw [e0, arrN, if_pos c_19]; omega, by rw [e0]; trivial⟩ | exact Or.inr ⟨rfl, by rw [e0, arrN, if_pos c_19]; omega, by rw [e0, arrN, if_pos c_19], fun _ _ => rfl⟩, fun _ _ => rfl⟩ hP hD hS
    · refine lv_iconst (v := nI 0) hx hb dX9_arrange_22 (by decide) ?_
      exact hq _ _ _ _ ((nI 0)) (0, (σ.2.1 19), (σ.2.1 20), (σ.1 18)) dX9_arrange_23 jn_n0 ⟨rfl, Or.inr ⟨rfl, by rw [e0, arrN, if_neg c_19]; omega, by rw [e0, arrN, if_neg c_19, Nat.add_zero], fun _ _ => rfl⟩, fun _ _ => rfl⟩ hP hD hS
  · refine lv_iload_n hx hb dX9_arrange_8 rfl (lv_at hl 2 rfl) ?_
    refine lv_bipush (v := nI 8) hx hb dX9_arrange_9 (by decide) ?_
    refine jn_clt hx hb (by decide) (by decide) (tgt := 53) dX9_arrange_11 (by decide) (fun c_11 => ?_) (fun c_11 => absurd c_11 (by decide))
    refine lv_iconst (v := nI 0) hx hb dX9_arrange_53 (by decide) ?_
    refine lv_istore (lv' := [(4, .int (nI 0)), (0, .ref (g.2.2.2 30)), (1, .ref (g.2.2.2 1)), (2, .int (nI 4)), (3, .int (nI mk))]) hx hb dX9_arrange_54 hl (by decide) rfl (fun ls hl => ?_)
    have lp56 : ∀ (fu : Nat), ∀ (x0 : Nat) (sn1 : Nat) (lt1 : Nat → Nat) (lf1 : Nat → Nat), (x0 ≤ 3) → (sn1 = (σ.1 18) + fb_sm (arrB (σ.2.1 0) (σ.1 0) ((σ.1 17) - 5) (σ.2.1 20) mk) x0) → (∀ x, x < 3 → lf1 x = (σ.2.1 20) x) → (∀ i, i < 4 → lt1 i = (σ.2.1 19) i) → (¬ ((σ.1 18) ≤ (σ.1 19) ∧ (σ.1 19) < sn1)) → 3 - x0 < fu → ∀ (H : Heap) (locs : List Loc), va_P (g.1, g.2.1) vwCl (wC g (sA (sA (sF σ 18 sn1) 19 lt1) 20 lf1) ++ tl) H → va_D A (wC g (sA (sA (sF σ 18 sn1) 19 lt1) 20 lf1) ++ tl) → va_S A s.heap H locs → ∀ ls : Array Slot, lv_has ls 6 [(0, .ref (g.2.2.2 30)), (1, .ref (g.2.2.2 1)), (2, .int (nI 4)), (3, .int (nI mk)), (4, .int (nI x0))] → W p l e r_c_X9_arrange_d4 s m ([.ref (g.2.2.2 30), .ref (g.2.2.2 1), .int (nI 4), .int (nI mk)] : List Value).toArray below meth c H locs 0 0 Q (F0 m 56 ls []) := by
      intro fu
      induction fu with
      | zero => intro x0 sn1 lt1 lf1 i1 i2 i3 i4 i5 hf; exact absurd hf (Nat.not_lt_zero _)
      | succ fu ih56 =>
        intro x0 sn1 lt1 lf1 i1 i2 i3 i4 i5 hf H locs hP hD hS ls hl
        have eK : ((σ.1 17) - 4) = ((σ.1 17) - 5) + 1 := by omega
        have hcl : fb_sm (arrB (σ.2.1 0) (σ.1 0) ((σ.1 17) - 5) (σ.2.1 20) mk) x0 ≤ 3 ^ ((σ.1 17) - 4) := ar_cum x0 i1 eK
        have i3x : x0 < 3 → lf1 x0 = (σ.2.1 20) x0 := fun h => i3 x0 h
        refine lv_iload hx hb dX9_arrange_56 (lv_at hl 4 rfl) ?_
        refine lv_iconst (v := nI 3) hx hb dX9_arrange_58 (by decide) ?_
        refine jn_cge hx hb (by omega) (by decide) (tgt := 137) dX9_arrange_59 (by decide) (fun c_59 => ?_) (fun c_59 => ?_)
        · refine lv_iconst (v := nI 0) hx hb dX9_arrange_137 (by decide) ?_
          exact hq _ _ _ _ ((nI 0)) (0, lt1, lf1, sn1) dX9_arrange_138 jn_n0 ⟨rfl, Or.inr ⟨rfl, by rw [eK, arrN]; rw [show x0 = 3 by omega] at i2; rw [i2] at i5; exact i5, by rw [i2, eK, arrN, show x0 = 3 by omega], i3⟩, i4⟩ hP hD hS
        · refine lv_aload_n hx hb dX9_arrange_62 rfl (lv_at hl 1 rfl) ?_
          refine lv_iload hx hb dX9_arrange_63 (lv_at hl 4 rfl) ?_
          refine lv_iload_n hx hb dX9_arrange_65 rfl (lv_at hl 3 rfl) ?_
          refine vp_callSi (va_Run.run (va_runV (As := [.int (nI x0), .int (nI mk)]) (rest := []) ⟨hx, hb, hml, hown, hts⟩ (c_X0_step l g tl (sA (sA (sF σ 18 sn1) 19 lt1) 20 lf1) x0 mk hA (by omega) hm) (cwV 2 hts gX9_arrange_X0_step rfl rfl rfl (by decide +kernel) ⟨Nat.le_of_ble_eq_true rfl, Nat.le_of_ble_eq_true rfl⟩) (okPV hK hP rfl (gC1 g (sA (sA (sF σ 18 sn1) 19 lt1) 20 lf1) tl)) rfl rfl hl.1 rfl (lv_room (Nat.le_of_ble_eq_true rfl)) dX9_arrange_66 ⟨Nat.le_of_ble_eq_true rfl, Nat.le_of_ble_eq_true rfl⟩)) (fun r_66 h_66 => ?_)
          have h_66 : r_66 = (nI (stp (σ.2.1 0) x0 mk)) := h_66
          subst h_66
          have st32 : stp (σ.2.1 0) x0 mk < 32 := stp_lt hA.1 (by omega)
          have hcl2 : fb_sm (arrB (σ.2.1 0) (σ.1 0) ((σ.1 17) - 5) (σ.2.1 20) mk) (x0 + 1) ≤ 3 ^ ((σ.1 17) - 4) := ar_cum (x0 + 1) (by omega) eK
          refine lv_istore (lv' := [(5, .int (nI (stp (σ.2.1 0) x0 mk))), (0, .ref (g.2.2.2 30)), (1, .ref (g.2.2.2 1)), (2, .int (nI 4)), (3, .int (nI mk)), (4, .int (nI x0))]) hx hb dX9_arrange_69 hl (by decide) rfl (fun ls hl => ?_)
          refine lv_aload_n hx hb dX9_arrange_71 rfl (lv_at hl 1 rfl) ?_
          refine va_get (D := (g.1, g.2.1)) (ci := 11) (v := .ref (g.2.2.2 32)) (C := RX9) (T := TX9) (N := 7) hx hb hts iX9 hown hK.1 hP 30 (gC30 g (sA (sA (sF σ 18 sn1) 19 lt1) 20 lf1) tl) rfl 1 (by decide) k15 (fun _ h9 => h9) rfl dX9_arrange_72 ?_
          refine lv_iload hx hb dX9_arrange_75 (lv_at hl 5 rfl) ?_
          refine jn_iald (f := lf1) hx hb hK.1 hP 32 0 (gC32 g (sA (sA (sF σ 18 sn1) 19 lt1) 20 lf1) tl) rfl (by omega) (Nat.le_of_ble_eq_true rfl) dX9_arrange_77 ?_
          have hlfb : lf1 x0 ≤ 8 := by have e1 := i3 0 (by decide); have e2 := i3 1 (by decide); have e3 := i3 2 (by decide); have := ar_le3 lf1 x0 (by omega); omega
          refine jn_zle hx hb (by omega) (tgt := 131) dX9_arrange_78 (by decide) (fun c_78 => ?_) (fun c_78 => ?_)
          · refine lv_iinc (v := nI (x0 + 1)) (lv' := [(4, .int (nI (x0 + 1))), (5, .int (nI (stp (σ.2.1 0) x0 mk))), (0, .ref (g.2.2.2 30)), (1, .ref (g.2.2.2 1)), (2, .int (nI 4)), (3, .int (nI mk))]) hx hb dX9_arrange_131 hl (k := 5) rfl (jn_ii _ 1) (by decide) rfl (fun ls hl => ?_)
            refine lv_goto (tgt := 56) hx hb dX9_arrange_134 (by decide) ?_
            exact ih56 (x0 + 1) sn1 lt1 lf1 (by omega) (by first | exact ar_s0 i2 (Or.inl (by rw [← i3 x0 (by omega)]; omega)) | exact ar_s0 i2 (Or.inr c_83) | exact ar_s1 i2 (by rw [← i3 x0 (by omega)]; omega) hr.2.2.1 eN) (by first | exact i3 | exact ar_lf i3 hr.2.2.2 (by omega)) (by first | exact i4 | exact fun i hi => by rw [h_112.2 i (by omega), va_up, if_neg (by omega)]; exact i4 i hi) (by first | exact i5 | (rw [hr.2.2.1]; have := hr.2.1; omega)) (by omega) _ _ hP hD hS _ (lv_sub hl [2, 3, 4, 5, 0] rfl)
          · refine lv_iload hx hb dX9_arrange_81 (lv_at hl 0 rfl) ?_
            refine jn_zeq hx hb (by omega) (tgt := 131) dX9_arrange_83 (by decide) (fun c_83 => ?_) (fun c_83 => ?_)
            · refine lv_iinc (v := nI (x0 + 1)) (lv' := [(4, .int (nI (x0 + 1))), (5, .int (nI (stp (σ.2.1 0) x0 mk))), (0, .ref (g.2.2.2 30)), (1, .ref (g.2.2.2 1)), (2, .int (nI 4)), (3, .int (nI mk))]) hx hb dX9_arrange_131 hl (k := 5) rfl (jn_ii _ 1) (by decide) rfl (fun ls hl => ?_)
              refine lv_goto (tgt := 56) hx hb dX9_arrange_134 (by decide) ?_
              exact ih56 (x0 + 1) sn1 lt1 lf1 (by omega) (by first | exact ar_s0 i2 (Or.inl (by rw [← i3 x0 (by omega)]; omega)) | exact ar_s0 i2 (Or.inr c_83) | exact ar_s1 i2 (by rw [← i3 x0 (by omega)]; omega) hr.2.2.1 eN) (by first | exact i3 | exact ar_lf i3 hr.2.2.2 (by omega)) (by first | exact i4 | exact fun i hi => by rw [h_112.2 i (by omega), va_up, if_neg (by omega)]; exact i4 i hi) (by first | exact i5 | (rw [hr.2.2.1]; have := hr.2.1; omega)) (by omega) _ _ hP hD hS _ (lv_sub hl [2, 3, 4, 5, 0] rfl)
            · refine lv_aload_n hx hb dX9_arrange_86 rfl (lv_at hl 1 rfl) ?_
              refine va_get (D := (g.1, g.2.1)) (ci := 11) (v := .ref (g.2.2.2 31)) (C := RX9) (T := TX9) (N := 7) hx hb hts iX9 hown hK.1 hP 30 (gC30 g (sA (sA (sF σ 18 sn1) 19 lt1) 20 lf1) tl) rfl 0 (by decide) k9 (fun _ h9 => h9) rfl dX9_arrange_87 ?_
              refine lv_iload_n hx hb dX9_arrange_90 rfl (lv_at hl 3 rfl) ?_
              refine lv_iload hx hb dX9_arrange_91 (lv_at hl 5 rfl) ?_
              refine jn_iast (f := lt1) hx hb hK.1 hP hD hS 31 0 (gC31 g (sA (sA (sF σ 18 sn1) 19 lt1) 20 lf1) tl) rfl (by decide) (Nat.le_of_ble_eq_true rfl) (uC_A19 g (sA (sA (sF σ 18 sn1) 19 lt1) 20 lf1) tl _) dX9_arrange_93 (fun H locs hP hD hS => ?_)
              refine lv_aload_n hx hb dX9_arrange_94 rfl (lv_at hl 1 rfl) ?_
              refine va_get (D := (g.1, g.2.1)) (ci := 11) (v := .ref (g.2.2.2 32)) (C := RX9) (T := TX9) (N := 7) hx hb hts iX9 hown hK.1 hP 30 (gC30 g (sA (sA (sA (sF σ 18 sn1) 19 lt1) 20 lf1) 19 (va_up lt1 4 x0)) tl) rfl 1 (by decide) k15 (fun _ h9 => h9) rfl dX9_arrange_95 ?_
              refine lv_iload hx hb dX9_arrange_98 (lv_at hl 5 rfl) ?_
              refine lv_dup2_11 hx hb dX9_arrange_100 rfl rfl ?_
              refine jn_iald (f := lf1) hx hb hK.1 hP 32 0 (gC32 g (sA (sA (sA (sF σ 18 sn1) 19 lt1) 20 lf1) 19 (va_up lt1 4 x0)) tl) rfl (by omega) (Nat.le_of_ble_eq_true rfl) dX9_arrange_101 ?_
              refine lv_iconst (v := nI 1) hx hb dX9_arrange_102 (by decide) ?_
              refine jn_isub hx hb (by omega) dX9_arrange_103 ?_
              refine jn_iast (f := lf1) hx hb hK.1 hP hD hS 32 0 (gC32 g (sA (sA (sA (sF σ 18 sn1) 19 lt1) 20 lf1) 19 (va_up lt1 4 x0)) tl) rfl (by omega) (Nat.le_of_ble_eq_true rfl) (uC_A20 g (sA (sA (sA (sF σ 18 sn1) 19 lt1) 20 lf1) 19 (va_up lt1 4 x0)) tl _) dX9_arrange_104 (fun H locs hP hD hS => ?_)
              refine lv_aload_n hx hb dX9_arrange_105 rfl (lv_at hl 1 rfl) ?_
              refine lv_aload_n hx hb dX9_arrange_106 rfl (lv_at hl 2 rfl) ?_
              refine lv_iload_n hx hb dX9_arrange_107 rfl (lv_at hl 3 rfl) ?_
              refine lv_iconst (v := nI 1) hx hb dX9_arrange_108 (by decide) ?_
              refine jn_iadd hx hb dX9_arrange_109 ?_
              refine lv_iload hx hb dX9_arrange_110 (lv_at hl 0 rfl) ?_
              refine jn_calli (va_runV (As := [.ref (g.2.2.2 1), .int (nI (4 + 1)), .int (nI (stp (σ.2.1 0) x0 mk))]) (rest := []) ⟨hx, hb, hml, hown, hts⟩ (c_X9_arrange_d5 l g tl H.size (sA (sA (sA (sA (sF σ 18 sn1) 19 lt1) 20 lf1) 19 (va_up lt1 4 x0)) 20 (va_up lf1 x0 ((lf1 x0) - 1))) (stp (σ.2.1 0) x0 mk) hA h1 (show 5 ≤ (σ.1 17) by omega) st32 hw2 (show sn1 + 3 ^ ((σ.1 17) - 5) ≤ 10000 by rw [i2]; exact ar_hs hs eK hcl) (show (va_up lf1 x0 (lf1 x0 - 1)) 0 + (va_up lf1 x0 (lf1 x0 - 1)) 1 + (va_up lf1 x0 (lf1 x0 - 1)) 2 = ((σ.1 17) - 5) by have e1 := i3 0 (by decide); have e2 := i3 1 (by decide); have e3 := i3 2 (by decide); rw [ar_sum lf1 x0 (by omega) (by omega)]; omega)) (cwV 3 hts gX9_arrange_X9_arrange rfl rfl rfl (by decide +kernel) ⟨Nat.le_of_ble_eq_true rfl, Nat.le_of_ble_eq_true rfl⟩) (okWV hK hP hD rfl (gC30 g (sA (sA (sA (sA (sF σ 18 sn1) 19 lt1) 20 lf1) 19 (va_up lt1 4 x0)) 20 (va_up lf1 x0 ((lf1 x0) - 1))) tl)) rfl rfl hl.1 rfl (lv_room (Nat.le_of_ble_eq_true rfl)) dX9_arrange_112 ⟨Nat.le_of_ble_eq_true rfl, Nat.le_of_ble_eq_true rfl⟩) hD hS hAA (fun r_112 u H locs hw_ hP hD hS => ?_)
              obtain ⟨b_112, lt2_112, lf2_112, sn2_112⟩ := u
              obtain ⟨rfl, h_112⟩ := hw_
              have h_112 : ((b_112 = 1 ∧ ((sn1) ≤ (σ.1 19) ∧ (σ.1 19) < (sn1) + arrN (σ.2.1 0) (σ.1 0) ((σ.1 17) - 5) ((va_up lf1 x0 ((lf1 x0) - 1))) (stp (σ.2.1 0) x0 mk)) ∧ isArr (σ.2.1 0) (σ.1 0) ((σ.1 17) - 5) ((va_up lf1 x0 ((lf1 x0) - 1))) (stp (σ.2.1 0) x0 mk) ((σ.1 19) - (sn1)) (fun i => lt2_112 (5 + i))) ∨ (b_112 = 0 ∧ ¬ ((sn1) ≤ (σ.1 19) ∧ (σ.1 19) < (sn1) + arrN (σ.2.1 0) (σ.1 0) ((σ.1 17) - 5) ((va_up lf1 x0 ((lf1 x0) - 1))) (stp (σ.2.1 0) x0 mk)) ∧ sn2_112 = (sn1) + arrN (σ.2.1 0) (σ.1 0) ((σ.1 17) - 5) ((va_up lf1 x0 ((lf1 x0) - 1))) (stp (σ.2.1 0) x0 mk) ∧ ∀ x, x < 3 → lf2_112 x = ((va_up lf1 x0 ((lf1 x0) - 1))) x)) ∧ (∀ i, i < 5 → lt2_112 i = ((va_up lt1 4 x0)) i) := h_112
              have hP : va_P (g.1, g.2.1) vwCl (wC g (sA (sA (sF (sA (sA (sA (sA (sF σ 18 sn1) 19 lt1) 20 lf1) 19 (va_up lt1 4 x0)) 20 (va_up lf1 x0 ((lf1 x0) - 1))) 18 sn2_112) 19 lt2_112) 20 lf2_112) ++ tl) H := hP
              have hD : va_D A (wC g (sA (sA (sF (sA (sA (sA (sA (sF σ 18 sn1) 19 lt1) 20 lf1) 19 (va_up lt1 4 x0)) 20 (va_up lf1 x0 ((lf1 x0) - 1))) 18 sn2_112) 19 lt2_112) 20 lf2_112) ++ tl) := hD
              have eN : arrN (σ.2.1 0) (σ.1 0) ((σ.1 17) - 5) (va_up lf1 x0 (lf1 x0 - 1)) (stp (σ.2.1 0) x0 mk) = arrN (σ.2.1 0) (σ.1 0) ((σ.1 17) - 5) (va_up (σ.2.1 20) x0 ((σ.2.1 20) x0 - 1)) (stp (σ.2.1 0) x0 mk) := arrN_cong _ _ _ _ _ _ (ar_vu i3 (by omega))
              have hb12 : b_112 = 1 ∨ b_112 = 0 := h_112.1.imp (fun z => z.1) (fun z => z.1)
              refine jn_zeq hx hb (by omega) (tgt := 120) dX9_arrange_115 (by decide) (fun c_115 => ?_) (fun c_115 => ?_)
              · have hr := h_112.1.resolve_left (fun z => by have := z.1; omega)
                refine lv_aload_n hx hb dX9_arrange_120 rfl (lv_at hl 1 rfl) ?_
                refine va_get (D := (g.1, g.2.1)) (ci := 11) (v := .ref (g.2.2.2 32)) (C := RX9) (T := TX9) (N := 7) hx hb hts iX9 hown hK.1 hP 30 (gC30 g (sA (sA (sF (sA (sA (sA (sA (sF σ 18 sn1) 19 lt1) 20 lf1) 19 (va_up lt1 4 x0)) 20 (va_up lf1 x0 ((lf1 x0) - 1))) 18 sn2_112) 19 lt2_112) 20 lf2_112) tl) rfl 1 (by decide) k15 (fun _ h9 => h9) rfl dX9_arrange_121 ?_
                refine lv_iload hx hb dX9_arrange_124 (lv_at hl 5 rfl) ?_
                refine lv_dup2_11 hx hb dX9_arrange_126 rfl rfl ?_
                refine jn_iald (f := lf2_112) hx hb hK.1 hP 32 0 (gC32 g (sA (sA (sF (sA (sA (sA (sA (sF σ 18 sn1) 19 lt1) 20 lf1) 19 (va_up lt1 4 x0)) 20 (va_up lf1 x0 ((lf1 x0) - 1))) 18 sn2_112) 19 lt2_112) 20 lf2_112) tl) rfl (by omega) (Nat.le_of_ble_eq_true rfl) dX9_arrange_127 ?_
                refine lv_iconst (v := nI 1) hx hb dX9_arrange_128 (by decide) ?_
                refine jn_iadd hx hb dX9_arrange_129 ?_
                refine jn_iast (f := lf2_112) hx hb hK.1 hP hD hS 32 0 (gC32 g (sA (sA (sF (sA (sA (sA (sA (sF σ 18 sn1) 19 lt1) 20 lf1) 19 (va_up lt1 4 x0)) 20 (va_up lf1 x0 ((lf1 x0) - 1))) 18 sn2_112) 19 lt2_112) 20 lf2_112) tl) rfl (by omega) (Nat.le_of_ble_eq_true rfl) (uC_A20 g (sA (sA (sF (sA (sA (sA (sA (sF σ 18 sn1) 19 lt1) 20 lf1) 19 (va_up lt1 4 x0)) 20 (va_up lf1 x0 ((lf1 x0) - 1))) 18 sn2_112) 19 lt2_112) 20 lf2_112) tl _) dX9_arrange_130 (fun H locs hP hD hS => ?_)
                refine lv_iinc (v := nI (x0 + 1)) (lv' := [(4, .int (nI (x0 + 1))), (5, .int (nI (stp (σ.2.1 0) x0 mk))), (0, .ref (g.2.2.2 30)), (1, .ref (g.2.2.2 1)), (2, .int (nI 4)), (3, .int (nI mk))]) hx hb dX9_arrange_131 hl (k := 5) rfl (jn_ii _ 1) (by decide) rfl (fun ls hl => ?_)
                refine lv_goto (tgt := 56) hx hb dX9_arrange_134 (by decide) ?_
                exact ih56 (x0 + 1) sn2_112 lt2_112 (va_up lf2_112 x0 ((lf2_112 x0) + 1)) (by omega) (by first | exact ar_s0 i2 (Or.inl (by rw [← i3 x0 (by omega)]; omega)) | exact ar_s0 i2 (Or.inr c_83) | exact ar_s1 i2 (by rw [← i3 x0 (by omega)]; omega) hr.2.2.1 eN) (by first | exact i3 | exact ar_lf i3 hr.2.2.2 (by omega)) (by first | exact i4 | exact fun i hi => by rw [h_112.2 i (by omega), va_up, if_neg (by omega)]; exact i4 i hi) (by first | exact i5 | (rw [hr.2.2.1]; have := hr.2.1; omega)) (by omega) _ _ hP hD hS _ (lv_sub hl [2, 3, 4, 5, 0] rfl)
              · have hr := h_112.1.resolve_right (fun z => by have := z.1; omega)
                refine lv_iconst (v := nI 1) hx hb dX9_arrange_118 (by decide) ?_
                exact hq _ _ _ _ ((nI 1)) (1, lt2_112, lf2_112, sn2_112) dX9_arrange_119 jn_n1 ⟨rfl, Or.inl (⟨rfl, ar_hit i2 i5 eK i1 hr.2.1 (by omega) i3 eN, ar_is i2 eK (by omega) i3 hr.2.1 hr.2.2 (by rw [h_112.2 4 (by omega), va_up, if_pos rfl]) c_78 eN⟩), fun i hi => by rw [h_112.2 i (by omega), va_up, if_neg (by omega)]; exact i4 i hi⟩ hP hD hS
    exact lp56 _ 0 (σ.1 18) (σ.2.1 19) (σ.2.1 20) (by decide) rfl (fun _ _ => rfl) (fun _ _ => rfl) (by omega) (Nat.lt_succ_self _) _ _ hP hD hS _ (lv_sub hl [1, 2, 3, 4, 0] rfl)

abbrev r_c_X9_arrange_d3 : Room := { frames := 6, cells := 0, slots := 0, locals := 146 }
set_option maxHeartbeats 4000000 in
set_option maxRecDepth 100000 in
theorem c_X9_arrange_d3 (l : Launch) (g : GC) (tl : va_W) (sz : Nat) (σ : SS) (mk : Nat) (hA : OkA σ) (h1 : (σ.1 17) ≤ 8) (h2 : 3 ≤ (σ.1 17)) (hm : mk < 32) (hw2 : (σ.1 19) < 4294967296) (hs : (σ.1 18) + 3 ^ ((σ.1 17) - 3) ≤ 10000) (hlf : (σ.2.1 20) 0 + (σ.2.1 20) 1 + (σ.2.1 20) 2 = ((σ.1 17) - 3)) : Met l yX9_arrange wsX9_arrange r_c_X9_arrange_d3 (va_Pc [.ref (g.2.2.2 30), .ref (g.2.2.2 1), .int (nI 3), .int (nI mk)] (PW g (wC g σ ++ tl) sz)) (va_Qi (fun (r : Int32) (z : Nat × (Nat → Nat) × (Nat → Nat) × Nat) => match z with | (b, lt2, lf2, sn2) => (r = nI (b)) ∧ ((b = 1 ∧ ((σ.1 18) ≤ (σ.1 19) ∧ (σ.1 19) < (σ.1 18) + arrN (σ.2.1 0) (σ.1 0) ((σ.1 17) - 3) (σ.2.1 20) mk) ∧ isArr (σ.2.1 0) (σ.1 0) ((σ.1 17) - 3) (σ.2.1 20) mk ((σ.1 19) - (σ.1 18)) (fun i => lt2 (3 + i))) ∨ (b = 0 ∧ ¬ ((σ.1 18) ≤ (σ.1 19) ∧ (σ.1 19) < (σ.1 18) + arrN (σ.2.1 0) (σ.1 0) ((σ.1 17) - 3) (σ.2.1 20) mk) ∧ sn2 = (σ.1 18) + arrN (σ.2.1 0) (σ.1 0) ((σ.1 17) - 3) (σ.2.1 20) mk ∧ ∀ x, x < 3 → lf2 x = (σ.2.1 20) x)) ∧ (∀ i, i < 3 → lt2 i = (σ.2.1 19) i)) (fun (z : Nat × (Nat → Nat) × (Nat → Nat) × Nat) t => BW g (va_A (wC g σ ++ tl) sz) ((fun z : Nat × (Nat → Nat) × (Nat → Nat) × Nat => match z with | (b, lt2, lf2, sn2) => wC g (sA (sA (sF σ 18 sn2) 19 lt2) 20 lf2) ++ tl) z) t) (va_A (wC g σ ++ tl) sz)) 0 0 (va_A (wC g σ ++ tl) sz) := by
  refine jn_sz (wf := fun z : Nat × (Nat → Nat) × (Nat → Nat) × Nat => match z with | (b, lt2, lf2, sn2) => wC g (sA (sA (sF σ 18 sn2) 19 lt2) 20 lf2) ++ tl) (cc := cX9_arrange) (maxL := 6) (own := RX9) (by decide) rfl rfl (Nat.le_of_ble_eq_true rfl) ?_
  intro p e s m below meth c Q A hx hb hml hown hts hK hP hD hS hAA hq ls hl
  obtain ⟨H, eH⟩ : ∃ z, z = s.heap := ⟨_, rfl⟩
  obtain ⟨locs, el⟩ : ∃ z : List Loc, z = [] := ⟨_, rfl⟩
  rw [← eH] at hP
  have hS : va_S A s.heap H locs := by rw [eH, el]; exact hS
  have goal0 : W p l e r_c_X9_arrange_d3 s m ([.ref (g.2.2.2 30), .ref (g.2.2.2 1), .int (nI 3), .int (nI mk)] : List Value).toArray below meth c H locs 0 0 Q (F0 m 0 ls []) → W p l e r_c_X9_arrange_d3 s m ([.ref (g.2.2.2 30), .ref (g.2.2.2 1), .int (nI 3), .int (nI mk)] : List Value).toArray below meth c s.heap [] 0 0 Q (F0 m 0 ls []) := fun h => by rw [eH, el] at h; exact h
  refine goal0 ?_
  have hl : lv_has ls 6 [(0, .ref (g.2.2.2 30)), (1, .ref (g.2.2.2 1)), (2, .int (nI 3)), (3, .int (nI mk))] := hl
  have iX9 : ∀ w ∈ wsX90, w ∈ wsX9_arrange := by decide +kernel
  have k18 := hts (.fieldLink RX9 18 "JumpingAutomata$WordSearch" "length" "I") (by decide +kernel)
  have k22 := hts (.fieldLink RX9 22 "JumpingAutomata$WordSearch" "seen" "I") (by decide +kernel)
  have k25 := hts (.fieldLink RX9 25 "JumpingAutomata$WordSearch" "wanted" "I") (by decide +kernel)
  have k15 := hts (.fieldLink RX9 15 "JumpingAutomata$WordSearch" "left" "[I") (by decide +kernel)
  have k9 := hts (.fieldLink RX9 9 "JumpingAutomata$WordSearch" "letters" "[I") (by decide +kernel)
  have hs9 : (σ.1 18) ≤ 10000 := Nat.le_trans (Nat.le_add_right _ _) hs
  refine lv_iload_n hx hb dX9_arrange_0 rfl (lv_at hl 2 rfl) ?_
  refine lv_aload_n hx hb dX9_arrange_1 rfl (lv_at hl 0 rfl) ?_
  refine va_get (D := (g.1, g.2.1)) (ci := 11) (v := .int (nI (σ.1 17))) (C := RX9) (T := TX9) (N := 7) hx hb hts iX9 hown hK.1 hP 30 (gC30 g σ tl) rfl 2 (by decide) k18 (fun _ h9 => h9) rfl dX9_arrange_2 ?_
  refine jn_cge hx hb (by decide) (by omega) (tgt := 14) dX9_arrange_5 (by decide) (fun c_5 => ?_) (fun c_5 => ?_)
  · refine lv_aload_n hx hb dX9_arrange_14 rfl (lv_at hl 1 rfl) ?_
    refine lv_iload_n hx hb dX9_arrange_15 rfl (lv_at hl 3 rfl) ?_
    refine vp_callSi (va_Run.run (va_runV (As := [.int (nI mk)]) (rest := []) ⟨hx, hb, hml, hown, hts⟩ (c_X0_accepting l g tl σ mk hA) (cwV 1 hts gX9_arrange_X0_accepting rfl rfl rfl (by decide +kernel) ⟨Nat.le_of_ble_eq_true rfl, Nat.le_of_ble_eq_true rfl⟩) (okPV hK hP rfl (gC1 g σ tl)) rfl rfl hl.1 rfl (lv_room (Nat.le_of_ble_eq_true rfl)) dX9_arrange_16 ⟨Nat.le_of_ble_eq_true rfl, Nat.le_of_ble_eq_true rfl⟩)) (fun r_16 h_16 => ?_)
    subst h_16
    have e0 : ((σ.1 17) - 3) = 0 := by omega
    refine jn_bne hx hb (tgt := 24) dX9_arrange_19 (by decide) (fun c_19 => ?_) (fun c_19 => ?_)
    · refine lv_aload_n hx hb dX9_arrange_24 rfl (lv_at hl 0 rfl) ?_
      refine lv_dup hx hb dX9_arrange_25 rfl ?_
      refine va_get (D := (g.1, g.2.1)) (ci := 11) (v := .int (nI (σ.1 18))) (C := RX9) (T := TX9) (N := 7) hx hb hts iX9 hown hK.1 hP 30 (gC30 g σ tl) rfl 3 (by decide) k22 (fun _ h9 => h9) rfl dX9_arrange_26 ?_
      refine lv_iconst (v := nI 1) hx hb dX9_arrange_29 (by decide) ?_
      refine jn_iadd hx hb dX9_arrange_30 ?_
      refine jn_put (D := (g.1, g.2.1)) (ci := 11) (v := .int (nI ((σ.1 18) + 1))) (ty := .int) (C := RX9) (T := TX9) (N := 7) hx hb hts iX9 tyX9 tyX9_ok nmX9 hown hK.1 hP hD hS 30 (gC30 g σ tl) rfl 3 (by decide) k22 (fun _ h9 => h9) rfl (by decide +kernel) rfl rfl (Nat.le_of_ble_eq_true rfl) (uC_F18 g σ tl ((σ.1 18) + 1)) dX9_arrange_31 (fun H locs hP hD hS => ?_)
      refine lv_aload_n hx hb dX9_arrange_34 rfl (lv_at hl 0 rfl) ?_
      refine va_get (D := (g.1, g.2.1)) (ci := 11) (v := .int (nI ((σ.1 18) + 1))) (C := RX9) (T := TX9) (N := 7) hx hb hts iX9 hown hK.1 hP 30 (gC30 g (sF σ 18 ((σ.1 18) + 1)) tl) rfl 3 (by decide) k22 (fun _ h9 => h9) rfl dX9_arrange_35 ?_
      refine lv_iconst (v := nI 1) hx hb dX9_arrange_38 (by decide) ?_
      refine jn_isub hx hb (by omega) dX9_arrange_39 ?_
      refine lv_aload_n hx hb dX9_arrange_40 rfl (lv_at hl 0 rfl) ?_
      refine va_get (D := (g.1, g.2.1)) (ci := 11) (v := .int (nI (σ.1 19))) (C := RX9) (T := TX9) (N := 7) hx hb hts iX9 hown hK.1 hP 30 (gC30 g (sF σ 18 ((σ.1 18) + 1)) tl) rfl 4 (by decide) k25 (fun _ h9 => h9) rfl dX9_arrange_41 ?_
      refine jn_cneW hx hb (by omega) hw2 (tgt := 51) dX9_arrange_44 (by decide) (fun c_44 => ?_) (fun c_44 => ?_)
      · refine lv_iconst (v := nI 0) hx hb dX9_arrange_51 (by decide) ?_
        exact hq _ _ _ _ ((nI 0)) (0, (σ.2.1 19), (σ.2.1 20), (σ.1 18) + 1) dX9_arrange_52 jn_n0 ⟨rfl, by first | exact Or.inl ⟨rfl, by rw [e0, arrN, if_pos c_19]; omega, by rw [e0]; trivial⟩ | exact Or.inr ⟨rfl, by rw [e0, arrN, if_pos c_19]; omega, by rw [e0, arrN, if_pos c_19], fun _ _ => rfl⟩, fun _ _ => rfl⟩ hP hD hS
      · refine lv_iconst (v := nI 1) hx hb dX9_arrange_47 (by decide) ?_
        refine lv_goto (tgt := 52) hx hb dX9_arrange_48 (by decide) ?_
        exact hq _ _ _ _ ((nI 1)) (1, (σ.2.1 19), (σ.2.1 20), (σ.1 18) + 1) dX9_arrange_52 jn_n1 ⟨rfl, by first | exact Or.inl ⟨rfl, by rw [e0, arrN, if_pos c_19]; omega, by rw [e0]; trivial⟩ | exact Or.inr ⟨rfl, by rw [e0, arrN, if_pos c_19]; omega, by rw [e0, arrN, if_pos c_19], fun _ _ => rfl⟩, fun _ _ => rfl⟩ hP hD hS
    · refine lv_iconst (v := nI 0) hx hb dX9_arrange_22 (by decide) ?_
      exact hq _ _ _ _ ((nI 0)) (0, (σ.2.1 19), (σ.2.1 20), (σ.1 18)) dX9_arrange_23 jn_n0 ⟨rfl, Or.inr ⟨rfl, by rw [e0, arrN, if_neg c_19]; omega, by rw [e0, arrN, if_neg c_19, Nat.add_zero], fun _ _ => rfl⟩, fun _ _ => rfl⟩ hP hD hS
  · refine lv_iload_n hx hb dX9_arrange_8 rfl (lv_at hl 2 rfl) ?_
    refine lv_bipush (v := nI 8) hx hb dX9_arrange_9 (by decide) ?_
    refine jn_clt hx hb (by decide) (by decide) (tgt := 53) dX9_arrange_11 (by decide) (fun c_11 => ?_) (fun c_11 => absurd c_11 (by decide))
    refine lv_iconst (v := nI 0) hx hb dX9_arrange_53 (by decide) ?_
    refine lv_istore (lv' := [(4, .int (nI 0)), (0, .ref (g.2.2.2 30)), (1, .ref (g.2.2.2 1)), (2, .int (nI 3)), (3, .int (nI mk))]) hx hb dX9_arrange_54 hl (by decide) rfl (fun ls hl => ?_)
    have lp56 : ∀ (fu : Nat), ∀ (x0 : Nat) (sn1 : Nat) (lt1 : Nat → Nat) (lf1 : Nat → Nat), (x0 ≤ 3) → (sn1 = (σ.1 18) + fb_sm (arrB (σ.2.1 0) (σ.1 0) ((σ.1 17) - 4) (σ.2.1 20) mk) x0) → (∀ x, x < 3 → lf1 x = (σ.2.1 20) x) → (∀ i, i < 3 → lt1 i = (σ.2.1 19) i) → (¬ ((σ.1 18) ≤ (σ.1 19) ∧ (σ.1 19) < sn1)) → 3 - x0 < fu → ∀ (H : Heap) (locs : List Loc), va_P (g.1, g.2.1) vwCl (wC g (sA (sA (sF σ 18 sn1) 19 lt1) 20 lf1) ++ tl) H → va_D A (wC g (sA (sA (sF σ 18 sn1) 19 lt1) 20 lf1) ++ tl) → va_S A s.heap H locs → ∀ ls : Array Slot, lv_has ls 6 [(0, .ref (g.2.2.2 30)), (1, .ref (g.2.2.2 1)), (2, .int (nI 3)), (3, .int (nI mk)), (4, .int (nI x0))] → W p l e r_c_X9_arrange_d3 s m ([.ref (g.2.2.2 30), .ref (g.2.2.2 1), .int (nI 3), .int (nI mk)] : List Value).toArray below meth c H locs 0 0 Q (F0 m 56 ls []) := by
      intro fu
      induction fu with
      | zero => intro x0 sn1 lt1 lf1 i1 i2 i3 i4 i5 hf; exact absurd hf (Nat.not_lt_zero _)
      | succ fu ih56 =>
        intro x0 sn1 lt1 lf1 i1 i2 i3 i4 i5 hf H locs hP hD hS ls hl
        have eK : ((σ.1 17) - 3) = ((σ.1 17) - 4) + 1 := by omega
        have hcl : fb_sm (arrB (σ.2.1 0) (σ.1 0) ((σ.1 17) - 4) (σ.2.1 20) mk) x0 ≤ 3 ^ ((σ.1 17) - 3) := ar_cum x0 i1 eK
        have i3x : x0 < 3 → lf1 x0 = (σ.2.1 20) x0 := fun h => i3 x0 h
        refine lv_iload hx hb dX9_arrange_56 (lv_at hl 4 rfl) ?_
        refine lv_iconst (v := nI 3) hx hb dX9_arrange_58 (by decide) ?_
        refine jn_cge hx hb (by omega) (by decide) (tgt := 137) dX9_arrange_59 (by decide) (fun c_59 => ?_) (fun c_59 => ?_)
        · refine lv_iconst (v := nI 0) hx hb dX9_arrange_137 (by decide) ?_
          exact hq _ _ _ _ ((nI 0)) (0, lt1, lf1, sn1) dX9_arrange_138 jn_n0 ⟨rfl, Or.inr ⟨rfl, by rw [eK, arrN]; rw [show x0 = 3 by omega] at i2; rw [i2] at i5; exact i5, by rw [i2, eK, arrN, show x0 = 3 by omega], i3⟩, i4⟩ hP hD hS
        · refine lv_aload_n hx hb dX9_arrange_62 rfl (lv_at hl 1 rfl) ?_
          refine lv_iload hx hb dX9_arrange_63 (lv_at hl 4 rfl) ?_
          refine lv_iload_n hx hb dX9_arrange_65 rfl (lv_at hl 3 rfl) ?_
          refine vp_callSi (va_Run.run (va_runV (As := [.int (nI x0), .int (nI mk)]) (rest := []) ⟨hx, hb, hml, hown, hts⟩ (c_X0_step l g tl (sA (sA (sF σ 18 sn1) 19 lt1) 20 lf1) x0 mk hA (by omega) hm) (cwV 2 hts gX9_arrange_X0_step rfl rfl rfl (by decide +kernel) ⟨Nat.le_of_ble_eq_true rfl, Nat.le_of_ble_eq_true rfl⟩) (okPV hK hP rfl (gC1 g (sA (sA (sF σ 18 sn1) 19 lt1) 20 lf1) tl)) rfl rfl hl.1 rfl (lv_room (Nat.le_of_ble_eq_true rfl)) dX9_arrange_66 ⟨Nat.le_of_ble_eq_true rfl, Nat.le_of_ble_eq_true rfl⟩)) (fun r_66 h_66 => ?_)
          have h_66 : r_66 = (nI (stp (σ.2.1 0) x0 mk)) := h_66
          subst h_66
          have st32 : stp (σ.2.1 0) x0 mk < 32 := stp_lt hA.1 (by omega)
          have hcl2 : fb_sm (arrB (σ.2.1 0) (σ.1 0) ((σ.1 17) - 4) (σ.2.1 20) mk) (x0 + 1) ≤ 3 ^ ((σ.1 17) - 3) := ar_cum (x0 + 1) (by omega) eK
          refine lv_istore (lv' := [(5, .int (nI (stp (σ.2.1 0) x0 mk))), (0, .ref (g.2.2.2 30)), (1, .ref (g.2.2.2 1)), (2, .int (nI 3)), (3, .int (nI mk)), (4, .int (nI x0))]) hx hb dX9_arrange_69 hl (by decide) rfl (fun ls hl => ?_)
          refine lv_aload_n hx hb dX9_arrange_71 rfl (lv_at hl 1 rfl) ?_
          refine va_get (D := (g.1, g.2.1)) (ci := 11) (v := .ref (g.2.2.2 32)) (C := RX9) (T := TX9) (N := 7) hx hb hts iX9 hown hK.1 hP 30 (gC30 g (sA (sA (sF σ 18 sn1) 19 lt1) 20 lf1) tl) rfl 1 (by decide) k15 (fun _ h9 => h9) rfl dX9_arrange_72 ?_
          refine lv_iload hx hb dX9_arrange_75 (lv_at hl 5 rfl) ?_
          refine jn_iald (f := lf1) hx hb hK.1 hP 32 0 (gC32 g (sA (sA (sF σ 18 sn1) 19 lt1) 20 lf1) tl) rfl (by omega) (Nat.le_of_ble_eq_true rfl) dX9_arrange_77 ?_
          have hlfb : lf1 x0 ≤ 8 := by have e1 := i3 0 (by decide); have e2 := i3 1 (by decide); have e3 := i3 2 (by decide); have := ar_le3 lf1 x0 (by omega); omega
          refine jn_zle hx hb (by omega) (tgt := 131) dX9_arrange_78 (by decide) (fun c_78 => ?_) (fun c_78 => ?_)
          · refine lv_iinc (v := nI (x0 + 1)) (lv' := [(4, .int (nI (x0 + 1))), (5, .int (nI (stp (σ.2.1 0) x0 mk))), (0, .ref (g.2.2.2 30)), (1, .ref (g.2.2.2 1)), (2, .int (nI 3)), (3, .int (nI mk))]) hx hb dX9_arrange_131 hl (k := 5) rfl (jn_ii _ 1) (by decide) rfl (fun ls hl => ?_)
            refine lv_goto (tgt := 56) hx hb dX9_arrange_134 (by decide) ?_
            exact ih56 (x0 + 1) sn1 lt1 lf1 (by omega) (by first | exact ar_s0 i2 (Or.inl (by rw [← i3 x0 (by omega)]; omega)) | exact ar_s0 i2 (Or.inr c_83) | exact ar_s1 i2 (by rw [← i3 x0 (by omega)]; omega) hr.2.2.1 eN) (by first | exact i3 | exact ar_lf i3 hr.2.2.2 (by omega)) (by first | exact i4 | exact fun i hi => by rw [h_112.2 i (by omega), va_up, if_neg (by omega)]; exact i4 i hi) (by first | exact i5 | (rw [hr.2.2.1]; have := hr.2.1; omega)) (by omega) _ _ hP hD hS _ (lv_sub hl [2, 3, 4, 5, 0] rfl)
          · refine lv_iload hx hb dX9_arrange_81 (lv_at hl 0 rfl) ?_
            refine jn_zeq hx hb (by omega) (tgt := 131) dX9_arrange_83 (by decide) (fun c_83 => ?_) (fun c_83 => ?_)
            · refine lv_iinc (v := nI (x0 + 1)) (lv' := [(4, .int (nI (x0 + 1))), (5, .int (nI (stp (σ.2.1 0) x0 mk))), (0, .ref (g.2.2.2 30)), (1, .ref (g.2.2.2 1)), (2, .int (nI 3)), (3, .int (nI mk))]) hx hb dX9_arrange_131 hl (k := 5) rfl (jn_ii _ 1) (by decide) rfl (fun ls hl => ?_)
              refine lv_goto (tgt := 56) hx hb dX9_arrange_134 (by decide) ?_
              exact ih56 (x0 + 1) sn1 lt1 lf1 (by omega) (by first | exact ar_s0 i2 (Or.inl (by rw [← i3 x0 (by omega)]; omega)) | exact ar_s0 i2 (Or.inr c_83) | exact ar_s1 i2 (by rw [← i3 x0 (by omega)]; omega) hr.2.2.1 eN) (by first | exact i3 | exact ar_lf i3 hr.2.2.2 (by omega)) (by first | exact i4 | exact fun i hi => by rw [h_112.2 i (by omega), va_up, if_neg (by omega)]; exact i4 i hi) (by first | exact i5 | (rw [hr.2.2.1]; have := hr.2.1; omega)) (by omega) _ _ hP hD hS _ (lv_sub hl [2, 3, 4, 5, 0] rfl)
            · refine lv_aload_n hx hb dX9_arrange_86 rfl (lv_at hl 1 rfl) ?_
              refine va_get (D := (g.1, g.2.1)) (ci := 11) (v := .ref (g.2.2.2 31)) (C := RX9) (T := TX9) (N := 7) hx hb hts iX9 hown hK.1 hP 30 (gC30 g (sA (sA (sF σ 18 sn1) 19 lt1) 20 lf1) tl) rfl 0 (by decide) k9 (fun _ h9 => h9) rfl dX9_arrange_87 ?_
              refine lv_iload_n hx hb dX9_arrange_90 rfl (lv_at hl 3 rfl) ?_
              refine lv_iload hx hb dX9_arrange_91 (lv_at hl 5 rfl) ?_
              refine jn_iast (f := lt1) hx hb hK.1 hP hD hS 31 0 (gC31 g (sA (sA (sF σ 18 sn1) 19 lt1) 20 lf1) tl) rfl (by decide) (Nat.le_of_ble_eq_true rfl) (uC_A19 g (sA (sA (sF σ 18 sn1) 19 lt1) 20 lf1) tl _) dX9_arrange_93 (fun H locs hP hD hS => ?_)
              refine lv_aload_n hx hb dX9_arrange_94 rfl (lv_at hl 1 rfl) ?_
              refine va_get (D := (g.1, g.2.1)) (ci := 11) (v := .ref (g.2.2.2 32)) (C := RX9) (T := TX9) (N := 7) hx hb hts iX9 hown hK.1 hP 30 (gC30 g (sA (sA (sA (sF σ 18 sn1) 19 lt1) 20 lf1) 19 (va_up lt1 3 x0)) tl) rfl 1 (by decide) k15 (fun _ h9 => h9) rfl dX9_arrange_95 ?_
              refine lv_iload hx hb dX9_arrange_98 (lv_at hl 5 rfl) ?_
              refine lv_dup2_11 hx hb dX9_arrange_100 rfl rfl ?_
              refine jn_iald (f := lf1) hx hb hK.1 hP 32 0 (gC32 g (sA (sA (sA (sF σ 18 sn1) 19 lt1) 20 lf1) 19 (va_up lt1 3 x0)) tl) rfl (by omega) (Nat.le_of_ble_eq_true rfl) dX9_arrange_101 ?_
              refine lv_iconst (v := nI 1) hx hb dX9_arrange_102 (by decide) ?_
              refine jn_isub hx hb (by omega) dX9_arrange_103 ?_
              refine jn_iast (f := lf1) hx hb hK.1 hP hD hS 32 0 (gC32 g (sA (sA (sA (sF σ 18 sn1) 19 lt1) 20 lf1) 19 (va_up lt1 3 x0)) tl) rfl (by omega) (Nat.le_of_ble_eq_true rfl) (uC_A20 g (sA (sA (sA (sF σ 18 sn1) 19 lt1) 20 lf1) 19 (va_up lt1 3 x0)) tl _) dX9_arrange_104 (fun H locs hP hD hS => ?_)
              refine lv_aload_n hx hb dX9_arrange_105 rfl (lv_at hl 1 rfl) ?_
              refine lv_aload_n hx hb dX9_arrange_106 rfl (lv_at hl 2 rfl) ?_
              refine lv_iload_n hx hb dX9_arrange_107 rfl (lv_at hl 3 rfl) ?_
              refine lv_iconst (v := nI 1) hx hb dX9_arrange_108 (by decide) ?_
              refine jn_iadd hx hb dX9_arrange_109 ?_
              refine lv_iload hx hb dX9_arrange_110 (lv_at hl 0 rfl) ?_
              refine jn_calli (va_runV (As := [.ref (g.2.2.2 1), .int (nI (3 + 1)), .int (nI (stp (σ.2.1 0) x0 mk))]) (rest := []) ⟨hx, hb, hml, hown, hts⟩ (c_X9_arrange_d4 l g tl H.size (sA (sA (sA (sA (sF σ 18 sn1) 19 lt1) 20 lf1) 19 (va_up lt1 3 x0)) 20 (va_up lf1 x0 ((lf1 x0) - 1))) (stp (σ.2.1 0) x0 mk) hA h1 (show 4 ≤ (σ.1 17) by omega) st32 hw2 (show sn1 + 3 ^ ((σ.1 17) - 4) ≤ 10000 by rw [i2]; exact ar_hs hs eK hcl) (show (va_up lf1 x0 (lf1 x0 - 1)) 0 + (va_up lf1 x0 (lf1 x0 - 1)) 1 + (va_up lf1 x0 (lf1 x0 - 1)) 2 = ((σ.1 17) - 4) by have e1 := i3 0 (by decide); have e2 := i3 1 (by decide); have e3 := i3 2 (by decide); rw [ar_sum lf1 x0 (by omega) (by omega)]; omega)) (cwV 3 hts gX9_arrange_X9_arrange rfl rfl rfl (by decide +kernel) ⟨Nat.le_of_ble_eq_true rfl, Nat.le_of_ble_eq_true rfl⟩) (okWV hK hP hD rfl (gC30 g (sA (sA (sA (sA (sF σ 18 sn1) 19 lt1) 20 lf1) 19 (va_up lt1 3 x0)) 20 (va_up lf1 x0 ((lf1 x0) - 1))) tl)) rfl rfl hl.1 rfl (lv_room (Nat.le_of_ble_eq_true rfl)) dX9_arrange_112 ⟨Nat.le_of_ble_eq_true rfl, Nat.le_of_ble_eq_true rfl⟩) hD hS hAA (fun r_112 u H locs hw_ hP hD hS => ?_)
              obtain ⟨b_112, lt2_112, lf2_112, sn2_112⟩ := u
              obtain ⟨rfl, h_112⟩ := hw_
              have h_112 : ((b_112 = 1 ∧ ((sn1) ≤ (σ.1 19) ∧ (σ.1 19) < (sn1) + arrN (σ.2.1 0) (σ.1 0) ((σ.1 17) - 4) ((va_up lf1 x0 ((lf1 x0) - 1))) (stp (σ.2.1 0) x0 mk)) ∧ isArr (σ.2.1 0) (σ.1 0) ((σ.1 17) - 4) ((va_up lf1 x0 ((lf1 x0) - 1))) (stp (σ.2.1 0) x0 mk) ((σ.1 19) - (sn1)) (fun i => lt2_112 (4 + i))) ∨ (b_112 = 0 ∧ ¬ ((sn1) ≤ (σ.1 19) ∧ (σ.1 19) < (sn1) + arrN (σ.2.1 0) (σ.1 0) ((σ.1 17) - 4) ((va_up lf1 x0 ((lf1 x0) - 1))) (stp (σ.2.1 0) x0 mk)) ∧ sn2_112 = (sn1) + arrN (σ.2.1 0) (σ.1 0) ((σ.1 17) - 4) ((va_up lf1 x0 ((lf1 x0) - 1))) (stp (σ.2.1 0) x0 mk) ∧ ∀ x, x < 3 → lf2_112 x = ((va_up lf1 x0 ((lf1 x0) - 1))) x)) ∧ (∀ i, i < 4 → lt2_112 i = ((va_up lt1 3 x0)) i) := h_112
              have hP : va_P (g.1, g.2.1) vwCl (wC g (sA (sA (sF (sA (sA (sA (sA (sF σ 18 sn1) 19 lt1) 20 lf1) 19 (va_up lt1 3 x0)) 20 (va_up lf1 x0 ((lf1 x0) - 1))) 18 sn2_112) 19 lt2_112) 20 lf2_112) ++ tl) H := hP
              have hD : va_D A (wC g (sA (sA (sF (sA (sA (sA (sA (sF σ 18 sn1) 19 lt1) 20 lf1) 19 (va_up lt1 3 x0)) 20 (va_up lf1 x0 ((lf1 x0) - 1))) 18 sn2_112) 19 lt2_112) 20 lf2_112) ++ tl) := hD
              have eN : arrN (σ.2.1 0) (σ.1 0) ((σ.1 17) - 4) (va_up lf1 x0 (lf1 x0 - 1)) (stp (σ.2.1 0) x0 mk) = arrN (σ.2.1 0) (σ.1 0) ((σ.1 17) - 4) (va_up (σ.2.1 20) x0 ((σ.2.1 20) x0 - 1)) (stp (σ.2.1 0) x0 mk) := arrN_cong _ _ _ _ _ _ (ar_vu i3 (by omega))
              have hb12 : b_112 = 1 ∨ b_112 = 0 := h_112.1.imp (fun z => z.1) (fun z => z.1)
              refine jn_zeq hx hb (by omega) (tgt := 120) dX9_arrange_115 (by decide) (fun c_115 => ?_) (fun c_115 => ?_)
              · have hr := h_112.1.resolve_left (fun z => by have := z.1; omega)
                refine lv_aload_n hx hb dX9_arrange_120 rfl (lv_at hl 1 rfl) ?_
                refine va_get (D := (g.1, g.2.1)) (ci := 11) (v := .ref (g.2.2.2 32)) (C := RX9) (T := TX9) (N := 7) hx hb hts iX9 hown hK.1 hP 30 (gC30 g (sA (sA (sF (sA (sA (sA (sA (sF σ 18 sn1) 19 lt1) 20 lf1) 19 (va_up lt1 3 x0)) 20 (va_up lf1 x0 ((lf1 x0) - 1))) 18 sn2_112) 19 lt2_112) 20 lf2_112) tl) rfl 1 (by decide) k15 (fun _ h9 => h9) rfl dX9_arrange_121 ?_
                refine lv_iload hx hb dX9_arrange_124 (lv_at hl 5 rfl) ?_
                refine lv_dup2_11 hx hb dX9_arrange_126 rfl rfl ?_
                refine jn_iald (f := lf2_112) hx hb hK.1 hP 32 0 (gC32 g (sA (sA (sF (sA (sA (sA (sA (sF σ 18 sn1) 19 lt1) 20 lf1) 19 (va_up lt1 3 x0)) 20 (va_up lf1 x0 ((lf1 x0) - 1))) 18 sn2_112) 19 lt2_112) 20 lf2_112) tl) rfl (by omega) (Nat.le_of_ble_eq_true rfl) dX9_arrange_127 ?_
                refine lv_iconst (v := nI 1) hx hb dX9_arrange_128 (by decide) ?_
                refine jn_iadd hx hb dX9_arrange_129 ?_
                refine jn_iast (f := lf2_112) hx hb hK.1 hP hD hS 32 0 (gC32 g (sA (sA (sF (sA (sA (sA (sA (sF σ 18 sn1) 19 lt1) 20 lf1) 19 (va_up lt1 3 x0)) 20 (va_up lf1 x0 ((lf1 x0) - 1))) 18 sn2_112) 19 lt2_112) 20 lf2_112) tl) rfl (by omega) (Nat.le_of_ble_eq_true rfl) (uC_A20 g (sA (sA (sF (sA (sA (sA (sA (sF σ 18 sn1) 19 lt1) 20 lf1) 19 (va_up lt1 3 x0)) 20 (va_up lf1 x0 ((lf1 x0) - 1))) 18 sn2_112) 19 lt2_112) 20 lf2_112) tl _) dX9_arrange_130 (fun H locs hP hD hS => ?_)
                refine lv_iinc (v := nI (x0 + 1)) (lv' := [(4, .int (nI (x0 + 1))), (5, .int (nI (stp (σ.2.1 0) x0 mk))), (0, .ref (g.2.2.2 30)), (1, .ref (g.2.2.2 1)), (2, .int (nI 3)), (3, .int (nI mk))]) hx hb dX9_arrange_131 hl (k := 5) rfl (jn_ii _ 1) (by decide) rfl (fun ls hl => ?_)
                refine lv_goto (tgt := 56) hx hb dX9_arrange_134 (by decide) ?_
                exact ih56 (x0 + 1) sn2_112 lt2_112 (va_up lf2_112 x0 ((lf2_112 x0) + 1)) (by omega) (by first | exact ar_s0 i2 (Or.inl (by rw [← i3 x0 (by omega)]; omega)) | exact ar_s0 i2 (Or.inr c_83) | exact ar_s1 i2 (by rw [← i3 x0 (by omega)]; omega) hr.2.2.1 eN) (by first | exact i3 | exact ar_lf i3 hr.2.2.2 (by omega)) (by first | exact i4 | exact fun i hi => by rw [h_112.2 i (by omega), va_up, if_neg (by omega)]; exact i4 i hi) (by first | exact i5 | (rw [hr.2.2.1]; have := hr.2.1; omega)) (by omega) _ _ hP hD hS _ (lv_sub hl [2, 3, 4, 5, 0] rfl)
              · have hr := h_112.1.resolve_right (fun z => by have := z.1; omega)
                refine lv_iconst (v := nI 1) hx hb dX9_arrange_118 (by decide) ?_
                exact hq _ _ _ _ ((nI 1)) (1, lt2_112, lf2_112, sn2_112) dX9_arrange_119 jn_n1 ⟨rfl, Or.inl (⟨rfl, ar_hit i2 i5 eK i1 hr.2.1 (by omega) i3 eN, ar_is i2 eK (by omega) i3 hr.2.1 hr.2.2 (by rw [h_112.2 3 (by omega), va_up, if_pos rfl]) c_78 eN⟩), fun i hi => by rw [h_112.2 i (by omega), va_up, if_neg (by omega)]; exact i4 i hi⟩ hP hD hS
    exact lp56 _ 0 (σ.1 18) (σ.2.1 19) (σ.2.1 20) (by decide) rfl (fun _ _ => rfl) (fun _ _ => rfl) (by omega) (Nat.lt_succ_self _) _ _ hP hD hS _ (lv_sub hl [1, 2, 3, 4, 0] rfl)

abbrev r_c_X9_arrange_d2 : Room := { frames := 7, cells := 0, slots := 0, locals := 171 }
set_option maxHeartbeats 4000000 in
set_option maxRecDepth 100000 in
theorem c_X9_arrange_d2 (l : Launch) (g : GC) (tl : va_W) (sz : Nat) (σ : SS) (mk : Nat) (hA : OkA σ) (h1 : (σ.1 17) ≤ 8) (h2 : 2 ≤ (σ.1 17)) (hm : mk < 32) (hw2 : (σ.1 19) < 4294967296) (hs : (σ.1 18) + 3 ^ ((σ.1 17) - 2) ≤ 10000) (hlf : (σ.2.1 20) 0 + (σ.2.1 20) 1 + (σ.2.1 20) 2 = ((σ.1 17) - 2)) : Met l yX9_arrange wsX9_arrange r_c_X9_arrange_d2 (va_Pc [.ref (g.2.2.2 30), .ref (g.2.2.2 1), .int (nI 2), .int (nI mk)] (PW g (wC g σ ++ tl) sz)) (va_Qi (fun (r : Int32) (z : Nat × (Nat → Nat) × (Nat → Nat) × Nat) => match z with | (b, lt2, lf2, sn2) => (r = nI (b)) ∧ ((b = 1 ∧ ((σ.1 18) ≤ (σ.1 19) ∧ (σ.1 19) < (σ.1 18) + arrN (σ.2.1 0) (σ.1 0) ((σ.1 17) - 2) (σ.2.1 20) mk) ∧ isArr (σ.2.1 0) (σ.1 0) ((σ.1 17) - 2) (σ.2.1 20) mk ((σ.1 19) - (σ.1 18)) (fun i => lt2 (2 + i))) ∨ (b = 0 ∧ ¬ ((σ.1 18) ≤ (σ.1 19) ∧ (σ.1 19) < (σ.1 18) + arrN (σ.2.1 0) (σ.1 0) ((σ.1 17) - 2) (σ.2.1 20) mk) ∧ sn2 = (σ.1 18) + arrN (σ.2.1 0) (σ.1 0) ((σ.1 17) - 2) (σ.2.1 20) mk ∧ ∀ x, x < 3 → lf2 x = (σ.2.1 20) x)) ∧ (∀ i, i < 2 → lt2 i = (σ.2.1 19) i)) (fun (z : Nat × (Nat → Nat) × (Nat → Nat) × Nat) t => BW g (va_A (wC g σ ++ tl) sz) ((fun z : Nat × (Nat → Nat) × (Nat → Nat) × Nat => match z with | (b, lt2, lf2, sn2) => wC g (sA (sA (sF σ 18 sn2) 19 lt2) 20 lf2) ++ tl) z) t) (va_A (wC g σ ++ tl) sz)) 0 0 (va_A (wC g σ ++ tl) sz) := by
  refine jn_sz (wf := fun z : Nat × (Nat → Nat) × (Nat → Nat) × Nat => match z with | (b, lt2, lf2, sn2) => wC g (sA (sA (sF σ 18 sn2) 19 lt2) 20 lf2) ++ tl) (cc := cX9_arrange) (maxL := 6) (own := RX9) (by decide) rfl rfl (Nat.le_of_ble_eq_true rfl) ?_
  intro p e s m below meth c Q A hx hb hml hown hts hK hP hD hS hAA hq ls hl
  obtain ⟨H, eH⟩ : ∃ z, z = s.heap := ⟨_, rfl⟩
  obtain ⟨locs, el⟩ : ∃ z : List Loc, z = [] := ⟨_, rfl⟩
  rw [← eH] at hP
  have hS : va_S A s.heap H locs := by rw [eH, el]; exact hS
  have goal0 : W p l e r_c_X9_arrange_d2 s m ([.ref (g.2.2.2 30), .ref (g.2.2.2 1), .int (nI 2), .int (nI mk)] : List Value).toArray below meth c H locs 0 0 Q (F0 m 0 ls []) → W p l e r_c_X9_arrange_d2 s m ([.ref (g.2.2.2 30), .ref (g.2.2.2 1), .int (nI 2), .int (nI mk)] : List Value).toArray below meth c s.heap [] 0 0 Q (F0 m 0 ls []) := fun h => by rw [eH, el] at h; exact h
  refine goal0 ?_
  have hl : lv_has ls 6 [(0, .ref (g.2.2.2 30)), (1, .ref (g.2.2.2 1)), (2, .int (nI 2)), (3, .int (nI mk))] := hl
  have iX9 : ∀ w ∈ wsX90, w ∈ wsX9_arrange := by decide +kernel
  have k18 := hts (.fieldLink RX9 18 "JumpingAutomata$WordSearch" "length" "I") (by decide +kernel)
  have k22 := hts (.fieldLink RX9 22 "JumpingAutomata$WordSearch" "seen" "I") (by decide +kernel)
  have k25 := hts (.fieldLink RX9 25 "JumpingAutomata$WordSearch" "wanted" "I") (by decide +kernel)
  have k15 := hts (.fieldLink RX9 15 "JumpingAutomata$WordSearch" "left" "[I") (by decide +kernel)
  have k9 := hts (.fieldLink RX9 9 "JumpingAutomata$WordSearch" "letters" "[I") (by decide +kernel)
  have hs9 : (σ.1 18) ≤ 10000 := Nat.le_trans (Nat.le_add_right _ _) hs
  refine lv_iload_n hx hb dX9_arrange_0 rfl (lv_at hl 2 rfl) ?_
  refine lv_aload_n hx hb dX9_arrange_1 rfl (lv_at hl 0 rfl) ?_
  refine va_get (D := (g.1, g.2.1)) (ci := 11) (v := .int (nI (σ.1 17))) (C := RX9) (T := TX9) (N := 7) hx hb hts iX9 hown hK.1 hP 30 (gC30 g σ tl) rfl 2 (by decide) k18 (fun _ h9 => h9) rfl dX9_arrange_2 ?_
  refine jn_cge hx hb (by decide) (by omega) (tgt := 14) dX9_arrange_5 (by decide) (fun c_5 => ?_) (fun c_5 => ?_)
  · refine lv_aload_n hx hb dX9_arrange_14 rfl (lv_at hl 1 rfl) ?_
    refine lv_iload_n hx hb dX9_arrange_15 rfl (lv_at hl 3 rfl) ?_
    refine vp_callSi (va_Run.run (va_runV (As := [.int (nI mk)]) (rest := []) ⟨hx, hb, hml, hown, hts⟩ (c_X0_accepting l g tl σ mk hA) (cwV 1 hts gX9_arrange_X0_accepting rfl rfl rfl (by decide +kernel) ⟨Nat.le_of_ble_eq_true rfl, Nat.le_of_ble_eq_true rfl⟩) (okPV hK hP rfl (gC1 g σ tl)) rfl rfl hl.1 rfl (lv_room (Nat.le_of_ble_eq_true rfl)) dX9_arrange_16 ⟨Nat.le_of_ble_eq_true rfl, Nat.le_of_ble_eq_true rfl⟩)) (fun r_16 h_16 => ?_)
    subst h_16
    have e0 : ((σ.1 17) - 2) = 0 := by omega
    refine jn_bne hx hb (tgt := 24) dX9_arrange_19 (by decide) (fun c_19 => ?_) (fun c_19 => ?_)
    · refine lv_aload_n hx hb dX9_arrange_24 rfl (lv_at hl 0 rfl) ?_
      refine lv_dup hx hb dX9_arrange_25 rfl ?_
      refine va_get (D := (g.1, g.2.1)) (ci := 11) (v := .int (nI (σ.1 18))) (C := RX9) (T := TX9) (N := 7) hx hb hts iX9 hown hK.1 hP 30 (gC30 g σ tl) rfl 3 (by decide) k22 (fun _ h9 => h9) rfl dX9_arrange_26 ?_
      refine lv_iconst (v := nI 1) hx hb dX9_arrange_29 (by decide) ?_
      refine jn_iadd hx hb dX9_arrange_30 ?_
      refine jn_put (D := (g.1, g.2.1)) (ci := 11) (v := .int (nI ((σ.1 18) + 1))) (ty := .int) (C := RX9) (T := TX9) (N := 7) hx hb hts iX9 tyX9 tyX9_ok nmX9 hown hK.1 hP hD hS 30 (gC30 g σ tl) rfl 3 (by decide) k22 (fun _ h9 => h9) rfl (by decide +kernel) rfl rfl (Nat.le_of_ble_eq_true rfl) (uC_F18 g σ tl ((σ.1 18) + 1)) dX9_arrange_31 (fun H locs hP hD hS => ?_)
      refine lv_aload_n hx hb dX9_arrange_34 rfl (lv_at hl 0 rfl) ?_
      refine va_get (D := (g.1, g.2.1)) (ci := 11) (v := .int (nI ((σ.1 18) + 1))) (C := RX9) (T := TX9) (N := 7) hx hb hts iX9 hown hK.1 hP 30 (gC30 g (sF σ 18 ((σ.1 18) + 1)) tl) rfl 3 (by decide) k22 (fun _ h9 => h9) rfl dX9_arrange_35 ?_
      refine lv_iconst (v := nI 1) hx hb dX9_arrange_38 (by decide) ?_
      refine jn_isub hx hb (by omega) dX9_arrange_39 ?_
      refine lv_aload_n hx hb dX9_arrange_40 rfl (lv_at hl 0 rfl) ?_
      refine va_get (D := (g.1, g.2.1)) (ci := 11) (v := .int (nI (σ.1 19))) (C := RX9) (T := TX9) (N := 7) hx hb hts iX9 hown hK.1 hP 30 (gC30 g (sF σ 18 ((σ.1 18) + 1)) tl) rfl 4 (by decide) k25 (fun _ h9 => h9) rfl dX9_arrange_41 ?_
      refine jn_cneW hx hb (by omega) hw2 (tgt := 51) dX9_arrange_44 (by decide) (fun c_44 => ?_) (fun c_44 => ?_)
      · refine lv_iconst (v := nI 0) hx hb dX9_arrange_51 (by decide) ?_
        exact hq _ _ _ _ ((nI 0)) (0, (σ.2.1 19), (σ.2.1 20), (σ.1 18) + 1) dX9_arrange_52 jn_n0 ⟨rfl, by first | exact Or.inl ⟨rfl, by rw [e0, arrN, if_pos c_19]; omega, by rw [e0]; trivial⟩ | exact Or.inr ⟨rfl, by rw [e0, arrN, if_pos c_19]; omega, by rw [e0, arrN, if_pos c_19], fun _ _ => rfl⟩, fun _ _ => rfl⟩ hP hD hS
      · refine lv_iconst (v := nI 1) hx hb dX9_arrange_47 (by decide) ?_
        refine lv_goto (tgt := 52) hx hb dX9_arrange_48 (by decide) ?_
        exact hq _ _ _ _ ((nI 1)) (1, (σ.2.1 19), (σ.2.1 20), (σ.1 18) + 1) dX9_arrange_52 jn_n1 ⟨rfl, by first | exact Or.inl ⟨rfl, by rw [e0, arrN, if_pos c_19]; omega, by rw [e0]; trivial⟩ | exact Or.inr ⟨rfl, by rw [e0, arrN, if_pos c_19]; omega, by rw [e0, arrN, if_pos c_19], fun _ _ => rfl⟩, fun _ _ => rfl⟩ hP hD hS
    · refine lv_iconst (v := nI 0) hx hb dX9_arrange_22 (by decide) ?_
      exact hq _ _ _ _ ((nI 0)) (0, (σ.2.1 19), (σ.2.1 20), (σ.1 18)) dX9_arrange_23 jn_n0 ⟨rfl, Or.inr ⟨rfl, by rw [e0, arrN, if_neg c_19]; omega, by rw [e0, arrN, if_neg c_19, Nat.add_zero], fun _ _ => rfl⟩, fun _ _ => rfl⟩ hP hD hS
  · refine lv_iload_n hx hb dX9_arrange_8 rfl (lv_at hl 2 rfl) ?_
    refine lv_bipush (v := nI 8) hx hb dX9_arrange_9 (by decide) ?_
    refine jn_clt hx hb (by decide) (by decide) (tgt := 53) dX9_arrange_11 (by decide) (fun c_11 => ?_) (fun c_11 => absurd c_11 (by decide))
    refine lv_iconst (v := nI 0) hx hb dX9_arrange_53 (by decide) ?_
    refine lv_istore (lv' := [(4, .int (nI 0)), (0, .ref (g.2.2.2 30)), (1, .ref (g.2.2.2 1)), (2, .int (nI 2)), (3, .int (nI mk))]) hx hb dX9_arrange_54 hl (by decide) rfl (fun ls hl => ?_)
    have lp56 : ∀ (fu : Nat), ∀ (x0 : Nat) (sn1 : Nat) (lt1 : Nat → Nat) (lf1 : Nat → Nat), (x0 ≤ 3) → (sn1 = (σ.1 18) + fb_sm (arrB (σ.2.1 0) (σ.1 0) ((σ.1 17) - 3) (σ.2.1 20) mk) x0) → (∀ x, x < 3 → lf1 x = (σ.2.1 20) x) → (∀ i, i < 2 → lt1 i = (σ.2.1 19) i) → (¬ ((σ.1 18) ≤ (σ.1 19) ∧ (σ.1 19) < sn1)) → 3 - x0 < fu → ∀ (H : Heap) (locs : List Loc), va_P (g.1, g.2.1) vwCl (wC g (sA (sA (sF σ 18 sn1) 19 lt1) 20 lf1) ++ tl) H → va_D A (wC g (sA (sA (sF σ 18 sn1) 19 lt1) 20 lf1) ++ tl) → va_S A s.heap H locs → ∀ ls : Array Slot, lv_has ls 6 [(0, .ref (g.2.2.2 30)), (1, .ref (g.2.2.2 1)), (2, .int (nI 2)), (3, .int (nI mk)), (4, .int (nI x0))] → W p l e r_c_X9_arrange_d2 s m ([.ref (g.2.2.2 30), .ref (g.2.2.2 1), .int (nI 2), .int (nI mk)] : List Value).toArray below meth c H locs 0 0 Q (F0 m 56 ls []) := by
      intro fu
      induction fu with
      | zero => intro x0 sn1 lt1 lf1 i1 i2 i3 i4 i5 hf; exact absurd hf (Nat.not_lt_zero _)
      | succ fu ih56 =>
        intro x0 sn1 lt1 lf1 i1 i2 i3 i4 i5 hf H locs hP hD hS ls hl
        have eK : ((σ.1 17) - 2) = ((σ.1 17) - 3) + 1 := by omega
        have hcl : fb_sm (arrB (σ.2.1 0) (σ.1 0) ((σ.1 17) - 3) (σ.2.1 20) mk) x0 ≤ 3 ^ ((σ.1 17) - 2) := ar_cum x0 i1 eK
        have i3x : x0 < 3 → lf1 x0 = (σ.2.1 20) x0 := fun h => i3 x0 h
        refine lv_iload hx hb dX9_arrange_56 (lv_at hl 4 rfl) ?_
        refine lv_iconst (v := nI 3) hx hb dX9_arrange_58 (by decide) ?_
        refine jn_cge hx hb (by omega) (by decide) (tgt := 137) dX9_arrange_59 (by decide) (fun c_59 => ?_) (fun c_59 => ?_)
        · refine lv_iconst (v := nI 0) hx hb dX9_arrange_137 (by decide) ?_
          exact hq _ _ _ _ ((nI 0)) (0, lt1, lf1, sn1) dX9_arrange_138 jn_n0 ⟨rfl, Or.inr ⟨rfl, by rw [eK, arrN]; rw [show x0 = 3 by omega] at i2; rw [i2] at i5; exact i5, by rw [i2, eK, arrN, show x0 = 3 by omega], i3⟩, i4⟩ hP hD hS
        · refine lv_aload_n hx hb dX9_arrange_62 rfl (lv_at hl 1 rfl) ?_
          refine lv_iload hx hb dX9_arrange_63 (lv_at hl 4 rfl) ?_
          refine lv_iload_n hx hb dX9_arrange_65 rfl (lv_at hl 3 rfl) ?_
          refine vp_callSi (va_Run.run (va_runV (As := [.int (nI x0), .int (nI mk)]) (rest := []) ⟨hx, hb, hml, hown, hts⟩ (c_X0_step l g tl (sA (sA (sF σ 18 sn1) 19 lt1) 20 lf1) x0 mk hA (by omega) hm) (cwV 2 hts gX9_arrange_X0_step rfl rfl rfl (by decide +kernel) ⟨Nat.le_of_ble_eq_true rfl, Nat.le_of_ble_eq_true rfl⟩) (okPV hK hP rfl (gC1 g (sA (sA (sF σ 18 sn1) 19 lt1) 20 lf1) tl)) rfl rfl hl.1 rfl (lv_room (Nat.le_of_ble_eq_true rfl)) dX9_arrange_66 ⟨Nat.le_of_ble_eq_true rfl, Nat.le_of_ble_eq_true rfl⟩)) (fun r_66 h_66 => ?_)
          have h_66 : r_66 = (nI (stp (σ.2.1 0) x0 mk)) := h_66
          subst h_66
          have st32 : stp (σ.2.1 0) x0 mk < 32 := stp_lt hA.1 (by omega)
          have hcl2 : fb_sm (arrB (σ.2.1 0) (σ.1 0) ((σ.1 17) - 3) (σ.2.1 20) mk) (x0 + 1) ≤ 3 ^ ((σ.1 17) - 2) := ar_cum (x0 + 1) (by omega) eK
          refine lv_istore (lv' := [(5, .int (nI (stp (σ.2.1 0) x0 mk))), (0, .ref (g.2.2.2 30)), (1, .ref (g.2.2.2 1)), (2, .int (nI 2)), (3, .int (nI mk)), (4, .int (nI x0))]) hx hb dX9_arrange_69 hl (by decide) rfl (fun ls hl => ?_)
          refine lv_aload_n hx hb dX9_arrange_71 rfl (lv_at hl 1 rfl) ?_
          refine va_get (D := (g.1, g.2.1)) (ci := 11) (v := .ref (g.2.2.2 32)) (C := RX9) (T := TX9) (N := 7) hx hb hts iX9 hown hK.1 hP 30 (gC30 g (sA (sA (sF σ 18 sn1) 19 lt1) 20 lf1) tl) rfl 1 (by decide) k15 (fun _ h9 => h9) rfl dX9_arrange_72 ?_
          refine lv_iload hx hb dX9_arrange_75 (lv_at hl 5 rfl) ?_
          refine jn_iald (f := lf1) hx hb hK.1 hP 32 0 (gC32 g (sA (sA (sF σ 18 sn1) 19 lt1) 20 lf1) tl) rfl (by omega) (Nat.le_of_ble_eq_true rfl) dX9_arrange_77 ?_
          have hlfb : lf1 x0 ≤ 8 := by have e1 := i3 0 (by decide); have e2 := i3 1 (by decide); have e3 := i3 2 (by decide); have := ar_le3 lf1 x0 (by omega); omega
          refine jn_zle hx hb (by omega) (tgt := 131) dX9_arrange_78 (by decide) (fun c_78 => ?_) (fun c_78 => ?_)
          · refine lv_iinc (v := nI (x0 + 1)) (lv' := [(4, .int (nI (x0 + 1))), (5, .int (nI (stp (σ.2.1 0) x0 mk))), (0, .ref (g.2.2.2 30)), (1, .ref (g.2.2.2 1)), (2, .int (nI 2)), (3, .int (nI mk))]) hx hb dX9_arrange_131 hl (k := 5) rfl (jn_ii _ 1) (by decide) rfl (fun ls hl => ?_)
            refine lv_goto (tgt := 56) hx hb dX9_arrange_134 (by decide) ?_
            exact ih56 (x0 + 1) sn1 lt1 lf1 (by omega) (by first | exact ar_s0 i2 (Or.inl (by rw [← i3 x0 (by omega)]; omega)) | exact ar_s0 i2 (Or.inr c_83) | exact ar_s1 i2 (by rw [← i3 x0 (by omega)]; omega) hr.2.2.1 eN) (by first | exact i3 | exact ar_lf i3 hr.2.2.2 (by omega)) (by first | exact i4 | exact fun i hi => by rw [h_112.2 i (by omega), va_up, if_neg (by omega)]; exact i4 i hi) (by first | exact i5 | (rw [hr.2.2.1]; have := hr.2.1; omega)) (by omega) _ _ hP hD hS _ (lv_sub hl [2, 3, 4, 5, 0] rfl)
          · refine lv_iload hx hb dX9_arrange_81 (lv_at hl 0 rfl) ?_
            refine jn_zeq hx hb (by omega) (tgt := 131) dX9_arrange_83 (by decide) (fun c_83 => ?_) (fun c_83 => ?_)
            · refine lv_iinc (v := nI (x0 + 1)) (lv' := [(4, .int (nI (x0 + 1))), (5, .int (nI (stp (σ.2.1 0) x0 mk))), (0, .ref (g.2.2.2 30)), (1, .ref (g.2.2.2 1)), (2, .int (nI 2)), (3, .int (nI mk))]) hx hb dX9_arrange_131 hl (k := 5) rfl (jn_ii _ 1) (by decide) rfl (fun ls hl => ?_)
              refine lv_goto (tgt := 56) hx hb dX9_arrange_134 (by decide) ?_
              exact ih56 (x0 + 1) sn1 lt1 lf1 (by omega) (by first | exact ar_s0 i2 (Or.inl (by rw [← i3 x0 (by omega)]; omega)) | exact ar_s0 i2 (Or.inr c_83) | exact ar_s1 i2 (by rw [← i3 x0 (by omega)]; omega) hr.2.2.1 eN) (by first | exact i3 | exact ar_lf i3 hr.2.2.2 (by omega)) (by first | exact i4 | exact fun i hi => by rw [h_112.2 i (by omega), va_up, if_neg (by omega)]; exact i4 i hi) (by first | exact i5 | (rw [hr.2.2.1]; have := hr.2.1; omega)) (by omega) _ _ hP hD hS _ (lv_sub hl [2, 3, 4, 5, 0] rfl)
            · refine lv_aload_n hx hb dX9_arrange_86 rfl (lv_at hl 1 rfl) ?_
              refine va_get (D := (g.1, g.2.1)) (ci := 11) (v := .ref (g.2.2.2 31)) (C := RX9) (T := TX9) (N := 7) hx hb hts iX9 hown hK.1 hP 30 (gC30 g (sA (sA (sF σ 18 sn1) 19 lt1) 20 lf1) tl) rfl 0 (by decide) k9 (fun _ h9 => h9) rfl dX9_arrange_87 ?_
              refine lv_iload_n hx hb dX9_arrange_90 rfl (lv_at hl 3 rfl) ?_
              refine lv_iload hx hb dX9_arrange_91 (lv_at hl 5 rfl) ?_
              refine jn_iast (f := lt1) hx hb hK.1 hP hD hS 31 0 (gC31 g (sA (sA (sF σ 18 sn1) 19 lt1) 20 lf1) tl) rfl (by decide) (Nat.le_of_ble_eq_true rfl) (uC_A19 g (sA (sA (sF σ 18 sn1) 19 lt1) 20 lf1) tl _) dX9_arrange_93 (fun H locs hP hD hS => ?_)
              refine lv_aload_n hx hb dX9_arrange_94 rfl (lv_at hl 1 rfl) ?_
              refine va_get (D := (g.1, g.2.1)) (ci := 11) (v := .ref (g.2.2.2 32)) (C := RX9) (T := TX9) (N := 7) hx hb hts iX9 hown hK.1 hP 30 (gC30 g (sA (sA (sA (sF σ 18 sn1) 19 lt1) 20 lf1) 19 (va_up lt1 2 x0)) tl) rfl 1 (by decide) k15 (fun _ h9 => h9) rfl dX9_arrange_95 ?_
              refine lv_iload hx hb dX9_arrange_98 (lv_at hl 5 rfl) ?_
              refine lv_dup2_11 hx hb dX9_arrange_100 rfl rfl ?_
              refine jn_iald (f := lf1) hx hb hK.1 hP 32 0 (gC32 g (sA (sA (sA (sF σ 18 sn1) 19 lt1) 20 lf1) 19 (va_up lt1 2 x0)) tl) rfl (by omega) (Nat.le_of_ble_eq_true rfl) dX9_arrange_101 ?_
              refine lv_iconst (v := nI 1) hx hb dX9_arrange_102 (by decide) ?_
              refine jn_isub hx hb (by omega) dX9_arrange_103 ?_
              refine jn_iast (f := lf1) hx hb hK.1 hP hD hS 32 0 (gC32 g (sA (sA (sA (sF σ 18 sn1) 19 lt1) 20 lf1) 19 (va_up lt1 2 x0)) tl) rfl (by omega) (Nat.le_of_ble_eq_true rfl) (uC_A20 g (sA (sA (sA (sF σ 18 sn1) 19 lt1) 20 lf1) 19 (va_up lt1 2 x0)) tl _) dX9_arrange_104 (fun H locs hP hD hS => ?_)
              refine lv_aload_n hx hb dX9_arrange_105 rfl (lv_at hl 1 rfl) ?_
              refine lv_aload_n hx hb dX9_arrange_106 rfl (lv_at hl 2 rfl) ?_
              refine lv_iload_n hx hb dX9_arrange_107 rfl (lv_at hl 3 rfl) ?_
              refine lv_iconst (v := nI 1) hx hb dX9_arrange_108 (by decide) ?_
              refine jn_iadd hx hb dX9_arrange_109 ?_
              refine lv_iload hx hb dX9_arrange_110 (lv_at hl 0 rfl) ?_
              refine jn_calli (va_runV (As := [.ref (g.2.2.2 1), .int (nI (2 + 1)), .int (nI (stp (σ.2.1 0) x0 mk))]) (rest := []) ⟨hx, hb, hml, hown, hts⟩ (c_X9_arrange_d3 l g tl H.size (sA (sA (sA (sA (sF σ 18 sn1) 19 lt1) 20 lf1) 19 (va_up lt1 2 x0)) 20 (va_up lf1 x0 ((lf1 x0) - 1))) (stp (σ.2.1 0) x0 mk) hA h1 (show 3 ≤ (σ.1 17) by omega) st32 hw2 (show sn1 + 3 ^ ((σ.1 17) - 3) ≤ 10000 by rw [i2]; exact ar_hs hs eK hcl) (show (va_up lf1 x0 (lf1 x0 - 1)) 0 + (va_up lf1 x0 (lf1 x0 - 1)) 1 + (va_up lf1 x0 (lf1 x0 - 1)) 2 = ((σ.1 17) - 3) by have e1 := i3 0 (by decide); have e2 := i3 1 (by decide); have e3 := i3 2 (by decide); rw [ar_sum lf1 x0 (by omega) (by omega)]; omega)) (cwV 3 hts gX9_arrange_X9_arrange rfl rfl rfl (by decide +kernel) ⟨Nat.le_of_ble_eq_true rfl, Nat.le_of_ble_eq_true rfl⟩) (okWV hK hP hD rfl (gC30 g (sA (sA (sA (sA (sF σ 18 sn1) 19 lt1) 20 lf1) 19 (va_up lt1 2 x0)) 20 (va_up lf1 x0 ((lf1 x0) - 1))) tl)) rfl rfl hl.1 rfl (lv_room (Nat.le_of_ble_eq_true rfl)) dX9_arrange_112 ⟨Nat.le_of_ble_eq_true rfl, Nat.le_of_ble_eq_true rfl⟩) hD hS hAA (fun r_112 u H locs hw_ hP hD hS => ?_)
              obtain ⟨b_112, lt2_112, lf2_112, sn2_112⟩ := u
              obtain ⟨rfl, h_112⟩ := hw_
              have h_112 : ((b_112 = 1 ∧ ((sn1) ≤ (σ.1 19) ∧ (σ.1 19) < (sn1) + arrN (σ.2.1 0) (σ.1 0) ((σ.1 17) - 3) ((va_up lf1 x0 ((lf1 x0) - 1))) (stp (σ.2.1 0) x0 mk)) ∧ isArr (σ.2.1 0) (σ.1 0) ((σ.1 17) - 3) ((va_up lf1 x0 ((lf1 x0) - 1))) (stp (σ.2.1 0) x0 mk) ((σ.1 19) - (sn1)) (fun i => lt2_112 (3 + i))) ∨ (b_112 = 0 ∧ ¬ ((sn1) ≤ (σ.1 19) ∧ (σ.1 19) < (sn1) + arrN (σ.2.1 0) (σ.1 0) ((σ.1 17) - 3) ((va_up lf1 x0 ((lf1 x0) - 1))) (stp (σ.2.1 0) x0 mk)) ∧ sn2_112 = (sn1) + arrN (σ.2.1 0) (σ.1 0) ((σ.1 17) - 3) ((va_up lf1 x0 ((lf1 x0) - 1))) (stp (σ.2.1 0) x0 mk) ∧ ∀ x, x < 3 → lf2_112 x = ((va_up lf1 x0 ((lf1 x0) - 1))) x)) ∧ (∀ i, i < 3 → lt2_112 i = ((va_up lt1 2 x0)) i) := h_112
              have hP : va_P (g.1, g.2.1) vwCl (wC g (sA (sA (sF (sA (sA (sA (sA (sF σ 18 sn1) 19 lt1) 20 lf1) 19 (va_up lt1 2 x0)) 20 (va_up lf1 x0 ((lf1 x0) - 1))) 18 sn2_112) 19 lt2_112) 20 lf2_112) ++ tl) H := hP
              have hD : va_D A (wC g (sA (sA (sF (sA (sA (sA (sA (sF σ 18 sn1) 19 lt1) 20 lf1) 19 (va_up lt1 2 x0)) 20 (va_up lf1 x0 ((lf1 x0) - 1))) 18 sn2_112) 19 lt2_112) 20 lf2_112) ++ tl) := hD
              have eN : arrN (σ.2.1 0) (σ.1 0) ((σ.1 17) - 3) (va_up lf1 x0 (lf1 x0 - 1)) (stp (σ.2.1 0) x0 mk) = arrN (σ.2.1 0) (σ.1 0) ((σ.1 17) - 3) (va_up (σ.2.1 20) x0 ((σ.2.1 20) x0 - 1)) (stp (σ.2.1 0) x0 mk) := arrN_cong _ _ _ _ _ _ (ar_vu i3 (by omega))
              have hb12 : b_112 = 1 ∨ b_112 = 0 := h_112.1.imp (fun z => z.1) (fun z => z.1)
              refine jn_zeq hx hb (by omega) (tgt := 120) dX9_arrange_115 (by decide) (fun c_115 => ?_) (fun c_115 => ?_)
              · have hr := h_112.1.resolve_left (fun z => by have := z.1; omega)
                refine lv_aload_n hx hb dX9_arrange_120 rfl (lv_at hl 1 rfl) ?_
                refine va_get (D := (g.1, g.2.1)) (ci := 11) (v := .ref (g.2.2.2 32)) (C := RX9) (T := TX9) (N := 7) hx hb hts iX9 hown hK.1 hP 30 (gC30 g (sA (sA (sF (sA (sA (sA (sA (sF σ 18 sn1) 19 lt1) 20 lf1) 19 (va_up lt1 2 x0)) 20 (va_up lf1 x0 ((lf1 x0) - 1))) 18 sn2_112) 19 lt2_112) 20 lf2_112) tl) rfl 1 (by decide) k15 (fun _ h9 => h9) rfl dX9_arrange_121 ?_
                refine lv_iload hx hb dX9_arrange_124 (lv_at hl 5 rfl) ?_
                refine lv_dup2_11 hx hb dX9_arrange_126 rfl rfl ?_
                refine jn_iald (f := lf2_112) hx hb hK.1 hP 32 0 (gC32 g (sA (sA (sF (sA (sA (sA (sA (sF σ 18 sn1) 19 lt1) 20 lf1) 19 (va_up lt1 2 x0)) 20 (va_up lf1 x0 ((lf1 x0) - 1))) 18 sn2_112) 19 lt2_112) 20 lf2_112) tl) rfl (by omega) (Nat.le_of_ble_eq_true rfl) dX9_arrange_127 ?_
                refine lv_iconst (v := nI 1) hx hb dX9_arrange_128 (by decide) ?_
                refine jn_iadd hx hb dX9_arrange_129 ?_
                refine jn_iast (f := lf2_112) hx hb hK.1 hP hD hS 32 0 (gC32 g (sA (sA (sF (sA (sA (sA (sA (sF σ 18 sn1) 19 lt1) 20 lf1) 19 (va_up lt1 2 x0)) 20 (va_up lf1 x0 ((lf1 x0) - 1))) 18 sn2_112) 19 lt2_112) 20 lf2_112) tl) rfl (by omega) (Nat.le_of_ble_eq_true rfl) (uC_A20 g (sA (sA (sF (sA (sA (sA (sA (sF σ 18 sn1) 19 lt1) 20 lf1) 19 (va_up lt1 2 x0)) 20 (va_up lf1 x0 ((lf1 x0) - 1))) 18 sn2_112) 19 lt2_112) 20 lf2_112) tl _) dX9_arrange_130 (fun H locs hP hD hS => ?_)
                refine lv_iinc (v := nI (x0 + 1)) (lv' := [(4, .int (nI (x0 + 1))), (5, .int (nI (stp (σ.2.1 0) x0 mk))), (0, .ref (g.2.2.2 30)), (1, .ref (g.2.2.2 1)), (2, .int (nI 2)), (3, .int (nI mk))]) hx hb dX9_arrange_131 hl (k := 5) rfl (jn_ii _ 1) (by decide) rfl (fun ls hl => ?_)
                refine lv_goto (tgt := 56) hx hb dX9_arrange_134 (by decide) ?_
                exact ih56 (x0 + 1) sn2_112 lt2_112 (va_up lf2_112 x0 ((lf2_112 x0) + 1)) (by omega) (by first | exact ar_s0 i2 (Or.inl (by rw [← i3 x0 (by omega)]; omega)) | exact ar_s0 i2 (Or.inr c_83) | exact ar_s1 i2 (by rw [← i3 x0 (by omega)]; omega) hr.2.2.1 eN) (by first | exact i3 | exact ar_lf i3 hr.2.2.2 (by omega)) (by first | exact i4 | exact fun i hi => by rw [h_112.2 i (by omega), va_up, if_neg (by omega)]; exact i4 i hi) (by first | exact i5 | (rw [hr.2.2.1]; have := hr.2.1; omega)) (by omega) _ _ hP hD hS _ (lv_sub hl [2, 3, 4, 5, 0] rfl)
              · have hr := h_112.1.resolve_right (fun z => by have := z.1; omega)
                refine lv_iconst (v := nI 1) hx hb dX9_arrange_118 (by decide) ?_
                exact hq _ _ _ _ ((nI 1)) (1, lt2_112, lf2_112, sn2_112) dX9_arrange_119 jn_n1 ⟨rfl, Or.inl (⟨rfl, ar_hit i2 i5 eK i1 hr.2.1 (by omega) i3 eN, ar_is i2 eK (by omega) i3 hr.2.1 hr.2.2 (by rw [h_112.2 2 (by omega), va_up, if_pos rfl]) c_78 eN⟩), fun i hi => by rw [h_112.2 i (by omega), va_up, if_neg (by omega)]; exact i4 i hi⟩ hP hD hS
    exact lp56 _ 0 (σ.1 18) (σ.2.1 19) (σ.2.1 20) (by decide) rfl (fun _ _ => rfl) (fun _ _ => rfl) (by omega) (Nat.lt_succ_self _) _ _ hP hD hS _ (lv_sub hl [1, 2, 3, 4, 0] rfl)

abbrev r_c_X9_arrange_d1 : Room := { frames := 8, cells := 0, slots := 0, locals := 196 }
set_option maxHeartbeats 4000000 in
set_option maxRecDepth 100000 in
theorem c_X9_arrange_d1 (l : Launch) (g : GC) (tl : va_W) (sz : Nat) (σ : SS) (mk : Nat) (hA : OkA σ) (h1 : (σ.1 17) ≤ 8) (h2 : 1 ≤ (σ.1 17)) (hm : mk < 32) (hw2 : (σ.1 19) < 4294967296) (hs : (σ.1 18) + 3 ^ ((σ.1 17) - 1) ≤ 10000) (hlf : (σ.2.1 20) 0 + (σ.2.1 20) 1 + (σ.2.1 20) 2 = ((σ.1 17) - 1)) : Met l yX9_arrange wsX9_arrange r_c_X9_arrange_d1 (va_Pc [.ref (g.2.2.2 30), .ref (g.2.2.2 1), .int (nI 1), .int (nI mk)] (PW g (wC g σ ++ tl) sz)) (va_Qi (fun (r : Int32) (z : Nat × (Nat → Nat) × (Nat → Nat) × Nat) => match z with | (b, lt2, lf2, sn2) => (r = nI (b)) ∧ ((b = 1 ∧ ((σ.1 18) ≤ (σ.1 19) ∧ (σ.1 19) < (σ.1 18) + arrN (σ.2.1 0) (σ.1 0) ((σ.1 17) - 1) (σ.2.1 20) mk) ∧ isArr (σ.2.1 0) (σ.1 0) ((σ.1 17) - 1) (σ.2.1 20) mk ((σ.1 19) - (σ.1 18)) (fun i => lt2 (1 + i))) ∨ (b = 0 ∧ ¬ ((σ.1 18) ≤ (σ.1 19) ∧ (σ.1 19) < (σ.1 18) + arrN (σ.2.1 0) (σ.1 0) ((σ.1 17) - 1) (σ.2.1 20) mk) ∧ sn2 = (σ.1 18) + arrN (σ.2.1 0) (σ.1 0) ((σ.1 17) - 1) (σ.2.1 20) mk ∧ ∀ x, x < 3 → lf2 x = (σ.2.1 20) x)) ∧ (∀ i, i < 1 → lt2 i = (σ.2.1 19) i)) (fun (z : Nat × (Nat → Nat) × (Nat → Nat) × Nat) t => BW g (va_A (wC g σ ++ tl) sz) ((fun z : Nat × (Nat → Nat) × (Nat → Nat) × Nat => match z with | (b, lt2, lf2, sn2) => wC g (sA (sA (sF σ 18 sn2) 19 lt2) 20 lf2) ++ tl) z) t) (va_A (wC g σ ++ tl) sz)) 0 0 (va_A (wC g σ ++ tl) sz) := by
  refine jn_sz (wf := fun z : Nat × (Nat → Nat) × (Nat → Nat) × Nat => match z with | (b, lt2, lf2, sn2) => wC g (sA (sA (sF σ 18 sn2) 19 lt2) 20 lf2) ++ tl) (cc := cX9_arrange) (maxL := 6) (own := RX9) (by decide) rfl rfl (Nat.le_of_ble_eq_true rfl) ?_
  intro p e s m below meth c Q A hx hb hml hown hts hK hP hD hS hAA hq ls hl
  obtain ⟨H, eH⟩ : ∃ z, z = s.heap := ⟨_, rfl⟩
  obtain ⟨locs, el⟩ : ∃ z : List Loc, z = [] := ⟨_, rfl⟩
  rw [← eH] at hP
  have hS : va_S A s.heap H locs := by rw [eH, el]; exact hS
  have goal0 : W p l e r_c_X9_arrange_d1 s m ([.ref (g.2.2.2 30), .ref (g.2.2.2 1), .int (nI 1), .int (nI mk)] : List Value).toArray below meth c H locs 0 0 Q (F0 m 0 ls []) → W p l e r_c_X9_arrange_d1 s m ([.ref (g.2.2.2 30), .ref (g.2.2.2 1), .int (nI 1), .int (nI mk)] : List Value).toArray below meth c s.heap [] 0 0 Q (F0 m 0 ls []) := fun h => by rw [eH, el] at h; exact h
  refine goal0 ?_
  have hl : lv_has ls 6 [(0, .ref (g.2.2.2 30)), (1, .ref (g.2.2.2 1)), (2, .int (nI 1)), (3, .int (nI mk))] := hl
  have iX9 : ∀ w ∈ wsX90, w ∈ wsX9_arrange := by decide +kernel
  have k18 := hts (.fieldLink RX9 18 "JumpingAutomata$WordSearch" "length" "I") (by decide +kernel)
  have k22 := hts (.fieldLink RX9 22 "JumpingAutomata$WordSearch" "seen" "I") (by decide +kernel)
  have k25 := hts (.fieldLink RX9 25 "JumpingAutomata$WordSearch" "wanted" "I") (by decide +kernel)
  have k15 := hts (.fieldLink RX9 15 "JumpingAutomata$WordSearch" "left" "[I") (by decide +kernel)
  have k9 := hts (.fieldLink RX9 9 "JumpingAutomata$WordSearch" "letters" "[I") (by decide +kernel)
  have hs9 : (σ.1 18) ≤ 10000 := Nat.le_trans (Nat.le_add_right _ _) hs
  refine lv_iload_n hx hb dX9_arrange_0 rfl (lv_at hl 2 rfl) ?_
  refine lv_aload_n hx hb dX9_arrange_1 rfl (lv_at hl 0 rfl) ?_
  refine va_get (D := (g.1, g.2.1)) (ci := 11) (v := .int (nI (σ.1 17))) (C := RX9) (T := TX9) (N := 7) hx hb hts iX9 hown hK.1 hP 30 (gC30 g σ tl) rfl 2 (by decide) k18 (fun _ h9 => h9) rfl dX9_arrange_2 ?_
  refine jn_cge hx hb (by decide) (by omega) (tgt := 14) dX9_arrange_5 (by decide) (fun c_5 => ?_) (fun c_5 => ?_)
  · refine lv_aload_n hx hb dX9_arrange_14 rfl (lv_at hl 1 rfl) ?_
    refine lv_iload_n hx hb dX9_arrange_15 rfl (lv_at hl 3 rfl) ?_
    refine vp_callSi (va_Run.run (va_runV (As := [.int (nI mk)]) (rest := []) ⟨hx, hb, hml, hown, hts⟩ (c_X0_accepting l g tl σ mk hA) (cwV 1 hts gX9_arrange_X0_accepting rfl rfl rfl (by decide +kernel) ⟨Nat.le_of_ble_eq_true rfl, Nat.le_of_ble_eq_true rfl⟩) (okPV hK hP rfl (gC1 g σ tl)) rfl rfl hl.1 rfl (lv_room (Nat.le_of_ble_eq_true rfl)) dX9_arrange_16 ⟨Nat.le_of_ble_eq_true rfl, Nat.le_of_ble_eq_true rfl⟩)) (fun r_16 h_16 => ?_)
    subst h_16
    have e0 : ((σ.1 17) - 1) = 0 := by omega
    refine jn_bne hx hb (tgt := 24) dX9_arrange_19 (by decide) (fun c_19 => ?_) (fun c_19 => ?_)
    · refine lv_aload_n hx hb dX9_arrange_24 rfl (lv_at hl 0 rfl) ?_
      refine lv_dup hx hb dX9_arrange_25 rfl ?_
      refine va_get (D := (g.1, g.2.1)) (ci := 11) (v := .int (nI (σ.1 18))) (C := RX9) (T := TX9) (N := 7) hx hb hts iX9 hown hK.1 hP 30 (gC30 g σ tl) rfl 3 (by decide) k22 (fun _ h9 => h9) rfl dX9_arrange_26 ?_
      refine lv_iconst (v := nI 1) hx hb dX9_arrange_29 (by decide) ?_
      refine jn_iadd hx hb dX9_arrange_30 ?_
      refine jn_put (D := (g.1, g.2.1)) (ci := 11) (v := .int (nI ((σ.1 18) + 1))) (ty := .int) (C := RX9) (T := TX9) (N := 7) hx hb hts iX9 tyX9 tyX9_ok nmX9 hown hK.1 hP hD hS 30 (gC30 g σ tl) rfl 3 (by decide) k22 (fun _ h9 => h9) rfl (by decide +kernel) rfl rfl (Nat.le_of_ble_eq_true rfl) (uC_F18 g σ tl ((σ.1 18) + 1)) dX9_arrange_31 (fun H locs hP hD hS => ?_)
      refine lv_aload_n hx hb dX9_arrange_34 rfl (lv_at hl 0 rfl) ?_
      refine va_get (D := (g.1, g.2.1)) (ci := 11) (v := .int (nI ((σ.1 18) + 1))) (C := RX9) (T := TX9) (N := 7) hx hb hts iX9 hown hK.1 hP 30 (gC30 g (sF σ 18 ((σ.1 18) + 1)) tl) rfl 3 (by decide) k22 (fun _ h9 => h9) rfl dX9_arrange_35 ?_
      refine lv_iconst (v := nI 1) hx hb dX9_arrange_38 (by decide) ?_
      refine jn_isub hx hb (by omega) dX9_arrange_39 ?_
      refine lv_aload_n hx hb dX9_arrange_40 rfl (lv_at hl 0 rfl) ?_
      refine va_get (D := (g.1, g.2.1)) (ci := 11) (v := .int (nI (σ.1 19))) (C := RX9) (T := TX9) (N := 7) hx hb hts iX9 hown hK.1 hP 30 (gC30 g (sF σ 18 ((σ.1 18) + 1)) tl) rfl 4 (by decide) k25 (fun _ h9 => h9) rfl dX9_arrange_41 ?_
      refine jn_cneW hx hb (by omega) hw2 (tgt := 51) dX9_arrange_44 (by decide) (fun c_44 => ?_) (fun c_44 => ?_)
      · refine lv_iconst (v := nI 0) hx hb dX9_arrange_51 (by decide) ?_
        exact hq _ _ _ _ ((nI 0)) (0, (σ.2.1 19), (σ.2.1 20), (σ.1 18) + 1) dX9_arrange_52 jn_n0 ⟨rfl, by first | exact Or.inl ⟨rfl, by rw [e0, arrN, if_pos c_19]; omega, by rw [e0]; trivial⟩ | exact Or.inr ⟨rfl, by rw [e0, arrN, if_pos c_19]; omega, by rw [e0, arrN, if_pos c_19], fun _ _ => rfl⟩, fun _ _ => rfl⟩ hP hD hS
      · refine lv_iconst (v := nI 1) hx hb dX9_arrange_47 (by decide) ?_
        refine lv_goto (tgt := 52) hx hb dX9_arrange_48 (by decide) ?_
        exact hq _ _ _ _ ((nI 1)) (1, (σ.2.1 19), (σ.2.1 20), (σ.1 18) + 1) dX9_arrange_52 jn_n1 ⟨rfl, by first | exact Or.inl ⟨rfl, by rw [e0, arrN, if_pos c_19]; omega, by rw [e0]; trivial⟩ | exact Or.inr ⟨rfl, by rw [e0, arrN, if_pos c_19]; omega, by rw [e0, arrN, if_pos c_19], fun _ _ => rfl⟩, fun _ _ => rfl⟩ hP hD hS
    · refine lv_iconst (v := nI 0) hx hb dX9_arrange_22 (by decide) ?_
      exact hq _ _ _ _ ((nI 0)) (0, (σ.2.1 19), (σ.2.1 20), (σ.1 18)) dX9_arrange_23 jn_n0 ⟨rfl, Or.inr ⟨rfl, by rw [e0, arrN, if_neg c_19]; omega, by rw [e0, arrN, if_neg c_19, Nat.add_zero], fun _ _ => rfl⟩, fun _ _ => rfl⟩ hP hD hS
  · refine lv_iload_n hx hb dX9_arrange_8 rfl (lv_at hl 2 rfl) ?_
    refine lv_bipush (v := nI 8) hx hb dX9_arrange_9 (by decide) ?_
    refine jn_clt hx hb (by decide) (by decide) (tgt := 53) dX9_arrange_11 (by decide) (fun c_11 => ?_) (fun c_11 => absurd c_11 (by decide))
    refine lv_iconst (v := nI 0) hx hb dX9_arrange_53 (by decide) ?_
    refine lv_istore (lv' := [(4, .int (nI 0)), (0, .ref (g.2.2.2 30)), (1, .ref (g.2.2.2 1)), (2, .int (nI 1)), (3, .int (nI mk))]) hx hb dX9_arrange_54 hl (by decide) rfl (fun ls hl => ?_)
    have lp56 : ∀ (fu : Nat), ∀ (x0 : Nat) (sn1 : Nat) (lt1 : Nat → Nat) (lf1 : Nat → Nat), (x0 ≤ 3) → (sn1 = (σ.1 18) + fb_sm (arrB (σ.2.1 0) (σ.1 0) ((σ.1 17) - 2) (σ.2.1 20) mk) x0) → (∀ x, x < 3 → lf1 x = (σ.2.1 20) x) → (∀ i, i < 1 → lt1 i = (σ.2.1 19) i) → (¬ ((σ.1 18) ≤ (σ.1 19) ∧ (σ.1 19) < sn1)) → 3 - x0 < fu → ∀ (H : Heap) (locs : List Loc), va_P (g.1, g.2.1) vwCl (wC g (sA (sA (sF σ 18 sn1) 19 lt1) 20 lf1) ++ tl) H → va_D A (wC g (sA (sA (sF σ 18 sn1) 19 lt1) 20 lf1) ++ tl) → va_S A s.heap H locs → ∀ ls : Array Slot, lv_has ls 6 [(0, .ref (g.2.2.2 30)), (1, .ref (g.2.2.2 1)), (2, .int (nI 1)), (3, .int (nI mk)), (4, .int (nI x0))] → W p l e r_c_X9_arrange_d1 s m ([.ref (g.2.2.2 30), .ref (g.2.2.2 1), .int (nI 1), .int (nI mk)] : List Value).toArray below meth c H locs 0 0 Q (F0 m 56 ls []) := by
      intro fu
      induction fu with
      | zero => intro x0 sn1 lt1 lf1 i1 i2 i3 i4 i5 hf; exact absurd hf (Nat.not_lt_zero _)
      | succ fu ih56 =>
        intro x0 sn1 lt1 lf1 i1 i2 i3 i4 i5 hf H locs hP hD hS ls hl
        have eK : ((σ.1 17) - 1) = ((σ.1 17) - 2) + 1 := by omega
        have hcl : fb_sm (arrB (σ.2.1 0) (σ.1 0) ((σ.1 17) - 2) (σ.2.1 20) mk) x0 ≤ 3 ^ ((σ.1 17) - 1) := ar_cum x0 i1 eK
        have i3x : x0 < 3 → lf1 x0 = (σ.2.1 20) x0 := fun h => i3 x0 h
        refine lv_iload hx hb dX9_arrange_56 (lv_at hl 4 rfl) ?_
        refine lv_iconst (v := nI 3) hx hb dX9_arrange_58 (by decide) ?_
        refine jn_cge hx hb (by omega) (by decide) (tgt := 137) dX9_arrange_59 (by decide) (fun c_59 => ?_) (fun c_59 => ?_)
        · refine lv_iconst (v := nI 0) hx hb dX9_arrange_137 (by decide) ?_
          exact hq _ _ _ _ ((nI 0)) (0, lt1, lf1, sn1) dX9_arrange_138 jn_n0 ⟨rfl, Or.inr ⟨rfl, by rw [eK, arrN]; rw [show x0 = 3 by omega] at i2; rw [i2] at i5; exact i5, by rw [i2, eK, arrN, show x0 = 3 by omega], i3⟩, i4⟩ hP hD hS
        · refine lv_aload_n hx hb dX9_arrange_62 rfl (lv_at hl 1 rfl) ?_
          refine lv_iload hx hb dX9_arrange_63 (lv_at hl 4 rfl) ?_
          refine lv_iload_n hx hb dX9_arrange_65 rfl (lv_at hl 3 rfl) ?_
          refine vp_callSi (va_Run.run (va_runV (As := [.int (nI x0), .int (nI mk)]) (rest := []) ⟨hx, hb, hml, hown, hts⟩ (c_X0_step l g tl (sA (sA (sF σ 18 sn1) 19 lt1) 20 lf1) x0 mk hA (by omega) hm) (cwV 2 hts gX9_arrange_X0_step rfl rfl rfl (by decide +kernel) ⟨Nat.le_of_ble_eq_true rfl, Nat.le_of_ble_eq_true rfl⟩) (okPV hK hP rfl (gC1 g (sA (sA (sF σ 18 sn1) 19 lt1) 20 lf1) tl)) rfl rfl hl.1 rfl (lv_room (Nat.le_of_ble_eq_true rfl)) dX9_arrange_66 ⟨Nat.le_of_ble_eq_true rfl, Nat.le_of_ble_eq_true rfl⟩)) (fun r_66 h_66 => ?_)
          have h_66 : r_66 = (nI (stp (σ.2.1 0) x0 mk)) := h_66
          subst h_66
          have st32 : stp (σ.2.1 0) x0 mk < 32 := stp_lt hA.1 (by omega)
          have hcl2 : fb_sm (arrB (σ.2.1 0) (σ.1 0) ((σ.1 17) - 2) (σ.2.1 20) mk) (x0 + 1) ≤ 3 ^ ((σ.1 17) - 1) := ar_cum (x0 + 1) (by omega) eK
          refine lv_istore (lv' := [(5, .int (nI (stp (σ.2.1 0) x0 mk))), (0, .ref (g.2.2.2 30)), (1, .ref (g.2.2.2 1)), (2, .int (nI 1)), (3, .int (nI mk)), (4, .int (nI x0))]) hx hb dX9_arrange_69 hl (by decide) rfl (fun ls hl => ?_)
          refine lv_aload_n hx hb dX9_arrange_71 rfl (lv_at hl 1 rfl) ?_
          refine va_get (D := (g.1, g.2.1)) (ci := 11) (v := .ref (g.2.2.2 32)) (C := RX9) (T := TX9) (N := 7) hx hb hts iX9 hown hK.1 hP 30 (gC30 g (sA (sA (sF σ 18 sn1) 19 lt1) 20 lf1) tl) rfl 1 (by decide) k15 (fun _ h9 => h9) rfl dX9_arrange_72 ?_
          refine lv_iload hx hb dX9_arrange_75 (lv_at hl 5 rfl) ?_
          refine jn_iald (f := lf1) hx hb hK.1 hP 32 0 (gC32 g (sA (sA (sF σ 18 sn1) 19 lt1) 20 lf1) tl) rfl (by omega) (Nat.le_of_ble_eq_true rfl) dX9_arrange_77 ?_
          have hlfb : lf1 x0 ≤ 8 := by have e1 := i3 0 (by decide); have e2 := i3 1 (by decide); have e3 := i3 2 (by decide); have := ar_le3 lf1 x0 (by omega); omega
          refine jn_zle hx hb (by omega) (tgt := 131) dX9_arrange_78 (by decide) (fun c_78 => ?_) (fun c_78 => ?_)
          · refine lv_iinc (v := nI (x0 + 1)) (lv' := [(4, .int (nI (x0 + 1))), (5, .int (nI (stp (σ.2.1 0) x0 mk))), (0, .ref (g.2.2.2 30)), (1, .ref (g.2.2.2 1)), (2, .int (nI 1)), (3, .int (nI mk))]) hx hb dX9_arrange_131 hl (k := 5) rfl (jn_ii _ 1) (by decide) rfl (fun ls hl => ?_)
            refine lv_goto (tgt := 56) hx hb dX9_arrange_134 (by decide) ?_
            exact ih56 (x0 + 1) sn1 lt1 lf1 (by omega) (by first | exact ar_s0 i2 (Or.inl (by rw [← i3 x0 (by omega)]; omega)) | exact ar_s0 i2 (Or.inr c_83) | exact ar_s1 i2 (by rw [← i3 x0 (by omega)]; omega) hr.2.2.1 eN) (by first | exact i3 | exact ar_lf i3 hr.2.2.2 (by omega)) (by first | exact i4 | exact fun i hi => by rw [h_112.2 i (by omega), va_up, if_neg (by omega)]; exact i4 i hi) (by first | exact i5 | (rw [hr.2.2.1]; have := hr.2.1; omega)) (by omega) _ _ hP hD hS _ (lv_sub hl [2, 3, 4, 5, 0] rfl)
          · refine lv_iload hx hb dX9_arrange_81 (lv_at hl 0 rfl) ?_
            refine jn_zeq hx hb (by omega) (tgt := 131) dX9_arrange_83 (by decide) (fun c_83 => ?_) (fun c_83 => ?_)
            · refine lv_iinc (v := nI (x0 + 1)) (lv' := [(4, .int (nI (x0 + 1))), (5, .int (nI (stp (σ.2.1 0) x0 mk))), (0, .ref (g.2.2.2 30)), (1, .ref (g.2.2.2 1)), (2, .int (nI 1)), (3, .int (nI mk))]) hx hb dX9_arrange_131 hl (k := 5) rfl (jn_ii _ 1) (by decide) rfl (fun ls hl => ?_)
              refine lv_goto (tgt := 56) hx hb dX9_arrange_134 (by decide) ?_
              exact ih56 (x0 + 1) sn1 lt1 lf1 (by omega) (by first | exact ar_s0 i2 (Or.inl (by rw [← i3 x0 (by omega)]; omega)) | exact ar_s0 i2 (Or.inr c_83) | exact ar_s1 i2 (by rw [← i3 x0 (by omega)]; omega) hr.2.2.1 eN) (by first | exact i3 | exact ar_lf i3 hr.2.2.2 (by omega)) (by first | exact i4 | exact fun i hi => by rw [h_112.2 i (by omega), va_up, if_neg (by omega)]; exact i4 i hi) (by first | exact i5 | (rw [hr.2.2.1]; have := hr.2.1; omega)) (by omega) _ _ hP hD hS _ (lv_sub hl [2, 3, 4, 5, 0] rfl)
            · refine lv_aload_n hx hb dX9_arrange_86 rfl (lv_at hl 1 rfl) ?_
              refine va_get (D := (g.1, g.2.1)) (ci := 11) (v := .ref (g.2.2.2 31)) (C := RX9) (T := TX9) (N := 7) hx hb hts iX9 hown hK.1 hP 30 (gC30 g (sA (sA (sF σ 18 sn1) 19 lt1) 20 lf1) tl) rfl 0 (by decide) k9 (fun _ h9 => h9) rfl dX9_arrange_87 ?_
              refine lv_iload_n hx hb dX9_arrange_90 rfl (lv_at hl 3 rfl) ?_
              refine lv_iload hx hb dX9_arrange_91 (lv_at hl 5 rfl) ?_
              refine jn_iast (f := lt1) hx hb hK.1 hP hD hS 31 0 (gC31 g (sA (sA (sF σ 18 sn1) 19 lt1) 20 lf1) tl) rfl (by decide) (Nat.le_of_ble_eq_true rfl) (uC_A19 g (sA (sA (sF σ 18 sn1) 19 lt1) 20 lf1) tl _) dX9_arrange_93 (fun H locs hP hD hS => ?_)
              refine lv_aload_n hx hb dX9_arrange_94 rfl (lv_at hl 1 rfl) ?_
              refine va_get (D := (g.1, g.2.1)) (ci := 11) (v := .ref (g.2.2.2 32)) (C := RX9) (T := TX9) (N := 7) hx hb hts iX9 hown hK.1 hP 30 (gC30 g (sA (sA (sA (sF σ 18 sn1) 19 lt1) 20 lf1) 19 (va_up lt1 1 x0)) tl) rfl 1 (by decide) k15 (fun _ h9 => h9) rfl dX9_arrange_95 ?_
              refine lv_iload hx hb dX9_arrange_98 (lv_at hl 5 rfl) ?_
              refine lv_dup2_11 hx hb dX9_arrange_100 rfl rfl ?_
              refine jn_iald (f := lf1) hx hb hK.1 hP 32 0 (gC32 g (sA (sA (sA (sF σ 18 sn1) 19 lt1) 20 lf1) 19 (va_up lt1 1 x0)) tl) rfl (by omega) (Nat.le_of_ble_eq_true rfl) dX9_arrange_101 ?_
              refine lv_iconst (v := nI 1) hx hb dX9_arrange_102 (by decide) ?_
              refine jn_isub hx hb (by omega) dX9_arrange_103 ?_
              refine jn_iast (f := lf1) hx hb hK.1 hP hD hS 32 0 (gC32 g (sA (sA (sA (sF σ 18 sn1) 19 lt1) 20 lf1) 19 (va_up lt1 1 x0)) tl) rfl (by omega) (Nat.le_of_ble_eq_true rfl) (uC_A20 g (sA (sA (sA (sF σ 18 sn1) 19 lt1) 20 lf1) 19 (va_up lt1 1 x0)) tl _) dX9_arrange_104 (fun H locs hP hD hS => ?_)
              refine lv_aload_n hx hb dX9_arrange_105 rfl (lv_at hl 1 rfl) ?_
              refine lv_aload_n hx hb dX9_arrange_106 rfl (lv_at hl 2 rfl) ?_
              refine lv_iload_n hx hb dX9_arrange_107 rfl (lv_at hl 3 rfl) ?_
              refine lv_iconst (v := nI 1) hx hb dX9_arrange_108 (by decide) ?_
              refine jn_iadd hx hb dX9_arrange_109 ?_
              refine lv_iload hx hb dX9_arrange_110 (lv_at hl 0 rfl) ?_
              refine jn_calli (va_runV (As := [.ref (g.2.2.2 1), .int (nI (1 + 1)), .int (nI (stp (σ.2.1 0) x0 mk))]) (rest := []) ⟨hx, hb, hml, hown, hts⟩ (c_X9_arrange_d2 l g tl H.size (sA (sA (sA (sA (sF σ 18 sn1) 19 lt1) 20 lf1) 19 (va_up lt1 1 x0)) 20 (va_up lf1 x0 ((lf1 x0) - 1))) (stp (σ.2.1 0) x0 mk) hA h1 (show 2 ≤ (σ.1 17) by omega) st32 hw2 (show sn1 + 3 ^ ((σ.1 17) - 2) ≤ 10000 by rw [i2]; exact ar_hs hs eK hcl) (show (va_up lf1 x0 (lf1 x0 - 1)) 0 + (va_up lf1 x0 (lf1 x0 - 1)) 1 + (va_up lf1 x0 (lf1 x0 - 1)) 2 = ((σ.1 17) - 2) by have e1 := i3 0 (by decide); have e2 := i3 1 (by decide); have e3 := i3 2 (by decide); rw [ar_sum lf1 x0 (by omega) (by omega)]; omega)) (cwV 3 hts gX9_arrange_X9_arrange rfl rfl rfl (by decide +kernel) ⟨Nat.le_of_ble_eq_true rfl, Nat.le_of_ble_eq_true rfl⟩) (okWV hK hP hD rfl (gC30 g (sA (sA (sA (sA (sF σ 18 sn1) 19 lt1) 20 lf1) 19 (va_up lt1 1 x0)) 20 (va_up lf1 x0 ((lf1 x0) - 1))) tl)) rfl rfl hl.1 rfl (lv_room (Nat.le_of_ble_eq_true rfl)) dX9_arrange_112 ⟨Nat.le_of_ble_eq_true rfl, Nat.le_of_ble_eq_true rfl⟩) hD hS hAA (fun r_112 u H locs hw_ hP hD hS => ?_)
              obtain ⟨b_112, lt2_112, lf2_112, sn2_112⟩ := u
              obtain ⟨rfl, h_112⟩ := hw_
              have h_112 : ((b_112 = 1 ∧ ((sn1) ≤ (σ.1 19) ∧ (σ.1 19) < (sn1) + arrN (σ.2.1 0) (σ.1 0) ((σ.1 17) - 2) ((va_up lf1 x0 ((lf1 x0) - 1))) (stp (σ.2.1 0) x0 mk)) ∧ isArr (σ.2.1 0) (σ.1 0) ((σ.1 17) - 2) ((va_up lf1 x0 ((lf1 x0) - 1))) (stp (σ.2.1 0) x0 mk) ((σ.1 19) - (sn1)) (fun i => lt2_112 (2 + i))) ∨ (b_112 = 0 ∧ ¬ ((sn1) ≤ (σ.1 19) ∧ (σ.1 19) < (sn1) + arrN (σ.2.1 0) (σ.1 0) ((σ.1 17) - 2) ((va_up lf1 x0 ((lf1 x0) - 1))) (stp (σ.2.1 0) x0 mk)) ∧ sn2_112 = (sn1) + arrN (σ.2.1 0) (σ.1 0) ((σ.1 17) - 2) ((va_up lf1 x0 ((lf1 x0) - 1))) (stp (σ.2.1 0) x0 mk) ∧ ∀ x, x < 3 → lf2_112 x = ((va_up lf1 x0 ((lf1 x0) - 1))) x)) ∧ (∀ i, i < 2 → lt2_112 i = ((va_up lt1 1 x0)) i) := h_112
              have hP : va_P (g.1, g.2.1) vwCl (wC g (sA (sA (sF (sA (sA (sA (sA (sF σ 18 sn1) 19 lt1) 20 lf1) 19 (va_up lt1 1 x0)) 20 (va_up lf1 x0 ((lf1 x0) - 1))) 18 sn2_112) 19 lt2_112) 20 lf2_112) ++ tl) H := hP
              have hD : va_D A (wC g (sA (sA (sF (sA (sA (sA (sA (sF σ 18 sn1) 19 lt1) 20 lf1) 19 (va_up lt1 1 x0)) 20 (va_up lf1 x0 ((lf1 x0) - 1))) 18 sn2_112) 19 lt2_112) 20 lf2_112) ++ tl) := hD
              have eN : arrN (σ.2.1 0) (σ.1 0) ((σ.1 17) - 2) (va_up lf1 x0 (lf1 x0 - 1)) (stp (σ.2.1 0) x0 mk) = arrN (σ.2.1 0) (σ.1 0) ((σ.1 17) - 2) (va_up (σ.2.1 20) x0 ((σ.2.1 20) x0 - 1)) (stp (σ.2.1 0) x0 mk) := arrN_cong _ _ _ _ _ _ (ar_vu i3 (by omega))
              have hb12 : b_112 = 1 ∨ b_112 = 0 := h_112.1.imp (fun z => z.1) (fun z => z.1)
              refine jn_zeq hx hb (by omega) (tgt := 120) dX9_arrange_115 (by decide) (fun c_115 => ?_) (fun c_115 => ?_)
              · have hr := h_112.1.resolve_left (fun z => by have := z.1; omega)
                refine lv_aload_n hx hb dX9_arrange_120 rfl (lv_at hl 1 rfl) ?_
                refine va_get (D := (g.1, g.2.1)) (ci := 11) (v := .ref (g.2.2.2 32)) (C := RX9) (T := TX9) (N := 7) hx hb hts iX9 hown hK.1 hP 30 (gC30 g (sA (sA (sF (sA (sA (sA (sA (sF σ 18 sn1) 19 lt1) 20 lf1) 19 (va_up lt1 1 x0)) 20 (va_up lf1 x0 ((lf1 x0) - 1))) 18 sn2_112) 19 lt2_112) 20 lf2_112) tl) rfl 1 (by decide) k15 (fun _ h9 => h9) rfl dX9_arrange_121 ?_
                refine lv_iload hx hb dX9_arrange_124 (lv_at hl 5 rfl) ?_
                refine lv_dup2_11 hx hb dX9_arrange_126 rfl rfl ?_
                refine jn_iald (f := lf2_112) hx hb hK.1 hP 32 0 (gC32 g (sA (sA (sF (sA (sA (sA (sA (sF σ 18 sn1) 19 lt1) 20 lf1) 19 (va_up lt1 1 x0)) 20 (va_up lf1 x0 ((lf1 x0) - 1))) 18 sn2_112) 19 lt2_112) 20 lf2_112) tl) rfl (by omega) (Nat.le_of_ble_eq_true rfl) dX9_arrange_127 ?_
                refine lv_iconst (v := nI 1) hx hb dX9_arrange_128 (by decide) ?_
                refine jn_iadd hx hb dX9_arrange_129 ?_
                refine jn_iast (f := lf2_112) hx hb hK.1 hP hD hS 32 0 (gC32 g (sA (sA (sF (sA (sA (sA (sA (sF σ 18 sn1) 19 lt1) 20 lf1) 19 (va_up lt1 1 x0)) 20 (va_up lf1 x0 ((lf1 x0) - 1))) 18 sn2_112) 19 lt2_112) 20 lf2_112) tl) rfl (by omega) (Nat.le_of_ble_eq_true rfl) (uC_A20 g (sA (sA (sF (sA (sA (sA (sA (sF σ 18 sn1) 19 lt1) 20 lf1) 19 (va_up lt1 1 x0)) 20 (va_up lf1 x0 ((lf1 x0) - 1))) 18 sn2_112) 19 lt2_112) 20 lf2_112) tl _) dX9_arrange_130 (fun H locs hP hD hS => ?_)
                refine lv_iinc (v := nI (x0 + 1)) (lv' := [(4, .int (nI (x0 + 1))), (5, .int (nI (stp (σ.2.1 0) x0 mk))), (0, .ref (g.2.2.2 30)), (1, .ref (g.2.2.2 1)), (2, .int (nI 1)), (3, .int (nI mk))]) hx hb dX9_arrange_131 hl (k := 5) rfl (jn_ii _ 1) (by decide) rfl (fun ls hl => ?_)
                refine lv_goto (tgt := 56) hx hb dX9_arrange_134 (by decide) ?_
                exact ih56 (x0 + 1) sn2_112 lt2_112 (va_up lf2_112 x0 ((lf2_112 x0) + 1)) (by omega) (by first | exact ar_s0 i2 (Or.inl (by rw [← i3 x0 (by omega)]; omega)) | exact ar_s0 i2 (Or.inr c_83) | exact ar_s1 i2 (by rw [← i3 x0 (by omega)]; omega) hr.2.2.1 eN) (by first | exact i3 | exact ar_lf i3 hr.2.2.2 (by omega)) (by first | exact i4 | exact fun i hi => by rw [h_112.2 i (by omega), va_up, if_neg (by omega)]; exact i4 i hi) (by first | exact i5 | (rw [hr.2.2.1]; have := hr.2.1; omega)) (by omega) _ _ hP hD hS _ (lv_sub hl [2, 3, 4, 5, 0] rfl)
              · have hr := h_112.1.resolve_right (fun z => by have := z.1; omega)
                refine lv_iconst (v := nI 1) hx hb dX9_arrange_118 (by decide) ?_
                exact hq _ _ _ _ ((nI 1)) (1, lt2_112, lf2_112, sn2_112) dX9_arrange_119 jn_n1 ⟨rfl, Or.inl (⟨rfl, ar_hit i2 i5 eK i1 hr.2.1 (by omega) i3 eN, ar_is i2 eK (by omega) i3 hr.2.1 hr.2.2 (by rw [h_112.2 1 (by omega), va_up, if_pos rfl]) c_78 eN⟩), fun i hi => by rw [h_112.2 i (by omega), va_up, if_neg (by omega)]; exact i4 i hi⟩ hP hD hS
    exact lp56 _ 0 (σ.1 18) (σ.2.1 19) (σ.2.1 20) (by decide) rfl (fun _ _ => rfl) (fun _ _ => rfl) (by omega) (Nat.lt_succ_self _) _ _ hP hD hS _ (lv_sub hl [1, 2, 3, 4, 0] rfl)

abbrev r_c_X9_arrange_d0 : Room := { frames := 9, cells := 0, slots := 0, locals := 221 }
set_option maxHeartbeats 4000000 in
set_option maxRecDepth 100000 in
theorem c_X9_arrange_d0 (l : Launch) (g : GC) (tl : va_W) (sz : Nat) (σ : SS) (mk : Nat) (hA : OkA σ) (h1 : (σ.1 17) ≤ 8) (h2 : 0 ≤ (σ.1 17)) (hm : mk < 32) (hw2 : (σ.1 19) < 4294967296) (hs : (σ.1 18) + 3 ^ ((σ.1 17) - 0) ≤ 10000) (hlf : (σ.2.1 20) 0 + (σ.2.1 20) 1 + (σ.2.1 20) 2 = ((σ.1 17) - 0)) : Met l yX9_arrange wsX9_arrange r_c_X9_arrange_d0 (va_Pc [.ref (g.2.2.2 30), .ref (g.2.2.2 1), .int (nI 0), .int (nI mk)] (PW g (wC g σ ++ tl) sz)) (va_Qi (fun (r : Int32) (z : Nat × (Nat → Nat) × (Nat → Nat) × Nat) => match z with | (b, lt2, lf2, sn2) => (r = nI (b)) ∧ ((b = 1 ∧ ((σ.1 18) ≤ (σ.1 19) ∧ (σ.1 19) < (σ.1 18) + arrN (σ.2.1 0) (σ.1 0) ((σ.1 17) - 0) (σ.2.1 20) mk) ∧ isArr (σ.2.1 0) (σ.1 0) ((σ.1 17) - 0) (σ.2.1 20) mk ((σ.1 19) - (σ.1 18)) (fun i => lt2 (0 + i))) ∨ (b = 0 ∧ ¬ ((σ.1 18) ≤ (σ.1 19) ∧ (σ.1 19) < (σ.1 18) + arrN (σ.2.1 0) (σ.1 0) ((σ.1 17) - 0) (σ.2.1 20) mk) ∧ sn2 = (σ.1 18) + arrN (σ.2.1 0) (σ.1 0) ((σ.1 17) - 0) (σ.2.1 20) mk ∧ ∀ x, x < 3 → lf2 x = (σ.2.1 20) x)) ∧ (∀ i, i < 0 → lt2 i = (σ.2.1 19) i)) (fun (z : Nat × (Nat → Nat) × (Nat → Nat) × Nat) t => BW g (va_A (wC g σ ++ tl) sz) ((fun z : Nat × (Nat → Nat) × (Nat → Nat) × Nat => match z with | (b, lt2, lf2, sn2) => wC g (sA (sA (sF σ 18 sn2) 19 lt2) 20 lf2) ++ tl) z) t) (va_A (wC g σ ++ tl) sz)) 0 0 (va_A (wC g σ ++ tl) sz) := by
  refine jn_sz (wf := fun z : Nat × (Nat → Nat) × (Nat → Nat) × Nat => match z with | (b, lt2, lf2, sn2) => wC g (sA (sA (sF σ 18 sn2) 19 lt2) 20 lf2) ++ tl) (cc := cX9_arrange) (maxL := 6) (own := RX9) (by decide) rfl rfl (Nat.le_of_ble_eq_true rfl) ?_
  intro p e s m below meth c Q A hx hb hml hown hts hK hP hD hS hAA hq ls hl
  obtain ⟨H, eH⟩ : ∃ z, z = s.heap := ⟨_, rfl⟩
  obtain ⟨locs, el⟩ : ∃ z : List Loc, z = [] := ⟨_, rfl⟩
  rw [← eH] at hP
  have hS : va_S A s.heap H locs := by rw [eH, el]; exact hS
  have goal0 : W p l e r_c_X9_arrange_d0 s m ([.ref (g.2.2.2 30), .ref (g.2.2.2 1), .int (nI 0), .int (nI mk)] : List Value).toArray below meth c H locs 0 0 Q (F0 m 0 ls []) → W p l e r_c_X9_arrange_d0 s m ([.ref (g.2.2.2 30), .ref (g.2.2.2 1), .int (nI 0), .int (nI mk)] : List Value).toArray below meth c s.heap [] 0 0 Q (F0 m 0 ls []) := fun h => by rw [eH, el] at h; exact h
  refine goal0 ?_
  have hl : lv_has ls 6 [(0, .ref (g.2.2.2 30)), (1, .ref (g.2.2.2 1)), (2, .int (nI 0)), (3, .int (nI mk))] := hl
  have iX9 : ∀ w ∈ wsX90, w ∈ wsX9_arrange := by decide +kernel
  have k18 := hts (.fieldLink RX9 18 "JumpingAutomata$WordSearch" "length" "I") (by decide +kernel)
  have k22 := hts (.fieldLink RX9 22 "JumpingAutomata$WordSearch" "seen" "I") (by decide +kernel)
  have k25 := hts (.fieldLink RX9 25 "JumpingAutomata$WordSearch" "wanted" "I") (by decide +kernel)
  have k15 := hts (.fieldLink RX9 15 "JumpingAutomata$WordSearch" "left" "[I") (by decide +kernel)
  have k9 := hts (.fieldLink RX9 9 "JumpingAutomata$WordSearch" "letters" "[I") (by decide +kernel)
  have hs9 : (σ.1 18) ≤ 10000 := Nat.le_trans (Nat.le_add_right _ _) hs
  refine lv_iload_n hx hb dX9_arrange_0 rfl (lv_at hl 2 rfl) ?_
  refine lv_aload_n hx hb dX9_arrange_1 rfl (lv_at hl 0 rfl) ?_
  refine va_get (D := (g.1, g.2.1)) (ci := 11) (v := .int (nI (σ.1 17))) (C := RX9) (T := TX9) (N := 7) hx hb hts iX9 hown hK.1 hP 30 (gC30 g σ tl) rfl 2 (by decide) k18 (fun _ h9 => h9) rfl dX9_arrange_2 ?_
  refine jn_cge hx hb (by decide) (by omega) (tgt := 14) dX9_arrange_5 (by decide) (fun c_5 => ?_) (fun c_5 => ?_)
  · refine lv_aload_n hx hb dX9_arrange_14 rfl (lv_at hl 1 rfl) ?_
    refine lv_iload_n hx hb dX9_arrange_15 rfl (lv_at hl 3 rfl) ?_
    refine vp_callSi (va_Run.run (va_runV (As := [.int (nI mk)]) (rest := []) ⟨hx, hb, hml, hown, hts⟩ (c_X0_accepting l g tl σ mk hA) (cwV 1 hts gX9_arrange_X0_accepting rfl rfl rfl (by decide +kernel) ⟨Nat.le_of_ble_eq_true rfl, Nat.le_of_ble_eq_true rfl⟩) (okPV hK hP rfl (gC1 g σ tl)) rfl rfl hl.1 rfl (lv_room (Nat.le_of_ble_eq_true rfl)) dX9_arrange_16 ⟨Nat.le_of_ble_eq_true rfl, Nat.le_of_ble_eq_true rfl⟩)) (fun r_16 h_16 => ?_)
    subst h_16
    have e0 : ((σ.1 17) - 0) = 0 := by omega
    refine jn_bne hx hb (tgt := 24) dX9_arrange_19 (by decide) (fun c_19 => ?_) (fun c_19 => ?_)
    · refine lv_aload_n hx hb dX9_arrange_24 rfl (lv_at hl 0 rfl) ?_
      refine lv_dup hx hb dX9_arrange_25 rfl ?_
      refine va_get (D := (g.1, g.2.1)) (ci := 11) (v := .int (nI (σ.1 18))) (C := RX9) (T := TX9) (N := 7) hx hb hts iX9 hown hK.1 hP 30 (gC30 g σ tl) rfl 3 (by decide) k22 (fun _ h9 => h9) rfl dX9_arrange_26 ?_
      refine lv_iconst (v := nI 1) hx hb dX9_arrange_29 (by decide) ?_
      refine jn_iadd hx hb dX9_arrange_30 ?_
      refine jn_put (D := (g.1, g.2.1)) (ci := 11) (v := .int (nI ((σ.1 18) + 1))) (ty := .int) (C := RX9) (T := TX9) (N := 7) hx hb hts iX9 tyX9 tyX9_ok nmX9 hown hK.1 hP hD hS 30 (gC30 g σ tl) rfl 3 (by decide) k22 (fun _ h9 => h9) rfl (by decide +kernel) rfl rfl (Nat.le_of_ble_eq_true rfl) (uC_F18 g σ tl ((σ.1 18) + 1)) dX9_arrange_31 (fun H locs hP hD hS => ?_)
      refine lv_aload_n hx hb dX9_arrange_34 rfl (lv_at hl 0 rfl) ?_
      refine va_get (D := (g.1, g.2.1)) (ci := 11) (v := .int (nI ((σ.1 18) + 1))) (C := RX9) (T := TX9) (N := 7) hx hb hts iX9 hown hK.1 hP 30 (gC30 g (sF σ 18 ((σ.1 18) + 1)) tl) rfl 3 (by decide) k22 (fun _ h9 => h9) rfl dX9_arrange_35 ?_
      refine lv_iconst (v := nI 1) hx hb dX9_arrange_38 (by decide) ?_
      refine jn_isub hx hb (by omega) dX9_arrange_39 ?_
      refine lv_aload_n hx hb dX9_arrange_40 rfl (lv_at hl 0 rfl) ?_
      refine va_get (D := (g.1, g.2.1)) (ci := 11) (v := .int (nI (σ.1 19))) (C := RX9) (T := TX9) (N := 7) hx hb hts iX9 hown hK.1 hP 30 (gC30 g (sF σ 18 ((σ.1 18) + 1)) tl) rfl 4 (by decide) k25 (fun _ h9 => h9) rfl dX9_arrange_41 ?_
      refine jn_cneW hx hb (by omega) hw2 (tgt := 51) dX9_arrange_44 (by decide) (fun c_44 => ?_) (fun c_44 => ?_)
      · refine lv_iconst (v := nI 0) hx hb dX9_arrange_51 (by decide) ?_
        exact hq _ _ _ _ ((nI 0)) (0, (σ.2.1 19), (σ.2.1 20), (σ.1 18) + 1) dX9_arrange_52 jn_n0 ⟨rfl, by first | exact Or.inl ⟨rfl, by rw [e0, arrN, if_pos c_19]; omega, by rw [e0]; trivial⟩ | exact Or.inr ⟨rfl, by rw [e0, arrN, if_pos c_19]; omega, by rw [e0, arrN, if_pos c_19], fun _ _ => rfl⟩, fun _ _ => rfl⟩ hP hD hS
      · refine lv_iconst (v := nI 1) hx hb dX9_arrange_47 (by decide) ?_
        refine lv_goto (tgt := 52) hx hb dX9_arrange_48 (by decide) ?_
        exact hq _ _ _ _ ((nI 1)) (1, (σ.2.1 19), (σ.2.1 20), (σ.1 18) + 1) dX9_arrange_52 jn_n1 ⟨rfl, by first | exact Or.inl ⟨rfl, by rw [e0, arrN, if_pos c_19]; omega, by rw [e0]; trivial⟩ | exact Or.inr ⟨rfl, by rw [e0, arrN, if_pos c_19]; omega, by rw [e0, arrN, if_pos c_19], fun _ _ => rfl⟩, fun _ _ => rfl⟩ hP hD hS
    · refine lv_iconst (v := nI 0) hx hb dX9_arrange_22 (by decide) ?_
      exact hq _ _ _ _ ((nI 0)) (0, (σ.2.1 19), (σ.2.1 20), (σ.1 18)) dX9_arrange_23 jn_n0 ⟨rfl, Or.inr ⟨rfl, by rw [e0, arrN, if_neg c_19]; omega, by rw [e0, arrN, if_neg c_19, Nat.add_zero], fun _ _ => rfl⟩, fun _ _ => rfl⟩ hP hD hS
  · refine lv_iload_n hx hb dX9_arrange_8 rfl (lv_at hl 2 rfl) ?_
    refine lv_bipush (v := nI 8) hx hb dX9_arrange_9 (by decide) ?_
    refine jn_clt hx hb (by decide) (by decide) (tgt := 53) dX9_arrange_11 (by decide) (fun c_11 => ?_) (fun c_11 => absurd c_11 (by decide))
    refine lv_iconst (v := nI 0) hx hb dX9_arrange_53 (by decide) ?_
    refine lv_istore (lv' := [(4, .int (nI 0)), (0, .ref (g.2.2.2 30)), (1, .ref (g.2.2.2 1)), (2, .int (nI 0)), (3, .int (nI mk))]) hx hb dX9_arrange_54 hl (by decide) rfl (fun ls hl => ?_)
    have lp56 : ∀ (fu : Nat), ∀ (x0 : Nat) (sn1 : Nat) (lt1 : Nat → Nat) (lf1 : Nat → Nat), (x0 ≤ 3) → (sn1 = (σ.1 18) + fb_sm (arrB (σ.2.1 0) (σ.1 0) ((σ.1 17) - 1) (σ.2.1 20) mk) x0) → (∀ x, x < 3 → lf1 x = (σ.2.1 20) x) → (∀ i, i < 0 → lt1 i = (σ.2.1 19) i) → (¬ ((σ.1 18) ≤ (σ.1 19) ∧ (σ.1 19) < sn1)) → 3 - x0 < fu → ∀ (H : Heap) (locs : List Loc), va_P (g.1, g.2.1) vwCl (wC g (sA (sA (sF σ 18 sn1) 19 lt1) 20 lf1) ++ tl) H → va_D A (wC g (sA (sA (sF σ 18 sn1) 19 lt1) 20 lf1) ++ tl) → va_S A s.heap H locs → ∀ ls : Array Slot, lv_has ls 6 [(0, .ref (g.2.2.2 30)), (1, .ref (g.2.2.2 1)), (2, .int (nI 0)), (3, .int (nI mk)), (4, .int (nI x0))] → W p l e r_c_X9_arrange_d0 s m ([.ref (g.2.2.2 30), .ref (g.2.2.2 1), .int (nI 0), .int (nI mk)] : List Value).toArray below meth c H locs 0 0 Q (F0 m 56 ls []) := by
      intro fu
      induction fu with
      | zero => intro x0 sn1 lt1 lf1 i1 i2 i3 i4 i5 hf; exact absurd hf (Nat.not_lt_zero _)
      | succ fu ih56 =>
        intro x0 sn1 lt1 lf1 i1 i2 i3 i4 i5 hf H locs hP hD hS ls hl
        have eK : ((σ.1 17) - 0) = ((σ.1 17) - 1) + 1 := by omega
        have hcl : fb_sm (arrB (σ.2.1 0) (σ.1 0) ((σ.1 17) - 1) (σ.2.1 20) mk) x0 ≤ 3 ^ ((σ.1 17) - 0) := ar_cum x0 i1 eK
        have i3x : x0 < 3 → lf1 x0 = (σ.2.1 20) x0 := fun h => i3 x0 h
        refine lv_iload hx hb dX9_arrange_56 (lv_at hl 4 rfl) ?_
        refine lv_iconst (v := nI 3) hx hb dX9_arrange_58 (by decide) ?_
        refine jn_cge hx hb (by omega) (by decide) (tgt := 137) dX9_arrange_59 (by decide) (fun c_59 => ?_) (fun c_59 => ?_)
        · refine lv_iconst (v := nI 0) hx hb dX9_arrange_137 (by decide) ?_
          exact hq _ _ _ _ ((nI 0)) (0, lt1, lf1, sn1) dX9_arrange_138 jn_n0 ⟨rfl, Or.inr ⟨rfl, by rw [eK, arrN]; rw [show x0 = 3 by omega] at i2; rw [i2] at i5; exact i5, by rw [i2, eK, arrN, show x0 = 3 by omega], i3⟩, i4⟩ hP hD hS
        · refine lv_aload_n hx hb dX9_arrange_62 rfl (lv_at hl 1 rfl) ?_
          refine lv_iload hx hb dX9_arrange_63 (lv_at hl 4 rfl) ?_
          refine lv_iload_n hx hb dX9_arrange_65 rfl (lv_at hl 3 rfl) ?_
          refine vp_callSi (va_Run.run (va_runV (As := [.int (nI x0), .int (nI mk)]) (rest := []) ⟨hx, hb, hml, hown, hts⟩ (c_X0_step l g tl (sA (sA (sF σ 18 sn1) 19 lt1) 20 lf1) x0 mk hA (by omega) hm) (cwV 2 hts gX9_arrange_X0_step rfl rfl rfl (by decide +kernel) ⟨Nat.le_of_ble_eq_true rfl, Nat.le_of_ble_eq_true rfl⟩) (okPV hK hP rfl (gC1 g (sA (sA (sF σ 18 sn1) 19 lt1) 20 lf1) tl)) rfl rfl hl.1 rfl (lv_room (Nat.le_of_ble_eq_true rfl)) dX9_arrange_66 ⟨Nat.le_of_ble_eq_true rfl, Nat.le_of_ble_eq_true rfl⟩)) (fun r_66 h_66 => ?_)
          have h_66 : r_66 = (nI (stp (σ.2.1 0) x0 mk)) := h_66
          subst h_66
          have st32 : stp (σ.2.1 0) x0 mk < 32 := stp_lt hA.1 (by omega)
          have hcl2 : fb_sm (arrB (σ.2.1 0) (σ.1 0) ((σ.1 17) - 1) (σ.2.1 20) mk) (x0 + 1) ≤ 3 ^ ((σ.1 17) - 0) := ar_cum (x0 + 1) (by omega) eK
          refine lv_istore (lv' := [(5, .int (nI (stp (σ.2.1 0) x0 mk))), (0, .ref (g.2.2.2 30)), (1, .ref (g.2.2.2 1)), (2, .int (nI 0)), (3, .int (nI mk)), (4, .int (nI x0))]) hx hb dX9_arrange_69 hl (by decide) rfl (fun ls hl => ?_)
          refine lv_aload_n hx hb dX9_arrange_71 rfl (lv_at hl 1 rfl) ?_
          refine va_get (D := (g.1, g.2.1)) (ci := 11) (v := .ref (g.2.2.2 32)) (C := RX9) (T := TX9) (N := 7) hx hb hts iX9 hown hK.1 hP 30 (gC30 g (sA (sA (sF σ 18 sn1) 19 lt1) 20 lf1) tl) rfl 1 (by decide) k15 (fun _ h9 => h9) rfl dX9_arrange_72 ?_
          refine lv_iload hx hb dX9_arrange_75 (lv_at hl 5 rfl) ?_
          refine jn_iald (f := lf1) hx hb hK.1 hP 32 0 (gC32 g (sA (sA (sF σ 18 sn1) 19 lt1) 20 lf1) tl) rfl (by omega) (Nat.le_of_ble_eq_true rfl) dX9_arrange_77 ?_
          have hlfb : lf1 x0 ≤ 8 := by have e1 := i3 0 (by decide); have e2 := i3 1 (by decide); have e3 := i3 2 (by decide); have := ar_le3 lf1 x0 (by omega); omega
          refine jn_zle hx hb (by omega) (tgt := 131) dX9_arrange_78 (by decide) (fun c_78 => ?_) (fun c_78 => ?_)
          · refine lv_iinc (v := nI (x0 + 1)) (lv' := [(4, .int (nI (x0 + 1))), (5, .int (nI (stp (σ.2.1 0) x0 mk))), (0, .ref (g.2.2.2 30)), (1, .ref (g.2.2.2 1)), (2, .int (nI 0)), (3, .int (nI mk))]) hx hb dX9_arrange_131 hl (k := 5) rfl (jn_ii _ 1) (by decide) rfl (fun ls hl => ?_)
            refine lv_goto (tgt := 56) hx hb dX9_arrange_134 (by decide) ?_
            exact ih56 (x0 + 1) sn1 lt1 lf1 (by omega) (by first | exact ar_s0 i2 (Or.inl (by rw [← i3 x0 (by omega)]; omega)) | exact ar_s0 i2 (Or.inr c_83) | exact ar_s1 i2 (by rw [← i3 x0 (by omega)]; omega) hr.2.2.1 eN) (by first | exact i3 | exact ar_lf i3 hr.2.2.2 (by omega)) (by first | exact i4 | exact fun i hi => by rw [h_112.2 i (by omega), va_up, if_neg (by omega)]; exact i4 i hi) (by first | exact i5 | (rw [hr.2.2.1]; have := hr.2.1; omega)) (by omega) _ _ hP hD hS _ (lv_sub hl [2, 3, 4, 5, 0] rfl)
          · refine lv_iload hx hb dX9_arrange_81 (lv_at hl 0 rfl) ?_
            refine jn_zeq hx hb (by omega) (tgt := 131) dX9_arrange_83 (by decide) (fun c_83 => ?_) (fun c_83 => ?_)
            · refine lv_iinc (v := nI (x0 + 1)) (lv' := [(4, .int (nI (x0 + 1))), (5, .int (nI (stp (σ.2.1 0) x0 mk))), (0, .ref (g.2.2.2 30)), (1, .ref (g.2.2.2 1)), (2, .int (nI 0)), (3, .int (nI mk))]) hx hb dX9_arrange_131 hl (k := 5) rfl (jn_ii _ 1) (by decide) rfl (fun ls hl => ?_)
              refine lv_goto (tgt := 56) hx hb dX9_arrange_134 (by decide) ?_
              exact ih56 (x0 + 1) sn1 lt1 lf1 (by omega) (by first | exact ar_s0 i2 (Or.inl (by rw [← i3 x0 (by omega)]; omega)) | exact ar_s0 i2 (Or.inr c_83) | exact ar_s1 i2 (by rw [← i3 x0 (by omega)]; omega) hr.2.2.1 eN) (by first | exact i3 | exact ar_lf i3 hr.2.2.2 (by omega)) (by first | exact i4 | exact fun i hi => by rw [h_112.2 i (by omega), va_up, if_neg (by omega)]; exact i4 i hi) (by first | exact i5 | (rw [hr.2.2.1]; have := hr.2.1; omega)) (by omega) _ _ hP hD hS _ (lv_sub hl [2, 3, 4, 5, 0] rfl)
            · refine lv_aload_n hx hb dX9_arrange_86 rfl (lv_at hl 1 rfl) ?_
              refine va_get (D := (g.1, g.2.1)) (ci := 11) (v := .ref (g.2.2.2 31)) (C := RX9) (T := TX9) (N := 7) hx hb hts iX9 hown hK.1 hP 30 (gC30 g (sA (sA (sF σ 18 sn1) 19 lt1) 20 lf1) tl) rfl 0 (by decide) k9 (fun _ h9 => h9) rfl dX9_arrange_87 ?_
              refine lv_iload_n hx hb dX9_arrange_90 rfl (lv_at hl 3 rfl) ?_
              refine lv_iload hx hb dX9_arrange_91 (lv_at hl 5 rfl) ?_
              refine jn_iast (f := lt1) hx hb hK.1 hP hD hS 31 0 (gC31 g (sA (sA (sF σ 18 sn1) 19 lt1) 20 lf1) tl) rfl (by decide) (Nat.le_of_ble_eq_true rfl) (uC_A19 g (sA (sA (sF σ 18 sn1) 19 lt1) 20 lf1) tl _) dX9_arrange_93 (fun H locs hP hD hS => ?_)
              refine lv_aload_n hx hb dX9_arrange_94 rfl (lv_at hl 1 rfl) ?_
              refine va_get (D := (g.1, g.2.1)) (ci := 11) (v := .ref (g.2.2.2 32)) (C := RX9) (T := TX9) (N := 7) hx hb hts iX9 hown hK.1 hP 30 (gC30 g (sA (sA (sA (sF σ 18 sn1) 19 lt1) 20 lf1) 19 (va_up lt1 0 x0)) tl) rfl 1 (by decide) k15 (fun _ h9 => h9) rfl dX9_arrange_95 ?_
              refine lv_iload hx hb dX9_arrange_98 (lv_at hl 5 rfl) ?_
              refine lv_dup2_11 hx hb dX9_arrange_100 rfl rfl ?_
              refine jn_iald (f := lf1) hx hb hK.1 hP 32 0 (gC32 g (sA (sA (sA (sF σ 18 sn1) 19 lt1) 20 lf1) 19 (va_up lt1 0 x0)) tl) rfl (by omega) (Nat.le_of_ble_eq_true rfl) dX9_arrange_101 ?_
              refine lv_iconst (v := nI 1) hx hb dX9_arrange_102 (by decide) ?_
              refine jn_isub hx hb (by omega) dX9_arrange_103 ?_
              refine jn_iast (f := lf1) hx hb hK.1 hP hD hS 32 0 (gC32 g (sA (sA (sA (sF σ 18 sn1) 19 lt1) 20 lf1) 19 (va_up lt1 0 x0)) tl) rfl (by omega) (Nat.le_of_ble_eq_true rfl) (uC_A20 g (sA (sA (sA (sF σ 18 sn1) 19 lt1) 20 lf1) 19 (va_up lt1 0 x0)) tl _) dX9_arrange_104 (fun H locs hP hD hS => ?_)
              refine lv_aload_n hx hb dX9_arrange_105 rfl (lv_at hl 1 rfl) ?_
              refine lv_aload_n hx hb dX9_arrange_106 rfl (lv_at hl 2 rfl) ?_
              refine lv_iload_n hx hb dX9_arrange_107 rfl (lv_at hl 3 rfl) ?_
              refine lv_iconst (v := nI 1) hx hb dX9_arrange_108 (by decide) ?_
              refine jn_iadd hx hb dX9_arrange_109 ?_
              refine lv_iload hx hb dX9_arrange_110 (lv_at hl 0 rfl) ?_
              refine jn_calli (va_runV (As := [.ref (g.2.2.2 1), .int (nI (0 + 1)), .int (nI (stp (σ.2.1 0) x0 mk))]) (rest := []) ⟨hx, hb, hml, hown, hts⟩ (c_X9_arrange_d1 l g tl H.size (sA (sA (sA (sA (sF σ 18 sn1) 19 lt1) 20 lf1) 19 (va_up lt1 0 x0)) 20 (va_up lf1 x0 ((lf1 x0) - 1))) (stp (σ.2.1 0) x0 mk) hA h1 (show 1 ≤ (σ.1 17) by omega) st32 hw2 (show sn1 + 3 ^ ((σ.1 17) - 1) ≤ 10000 by rw [i2]; exact ar_hs hs eK hcl) (show (va_up lf1 x0 (lf1 x0 - 1)) 0 + (va_up lf1 x0 (lf1 x0 - 1)) 1 + (va_up lf1 x0 (lf1 x0 - 1)) 2 = ((σ.1 17) - 1) by have e1 := i3 0 (by decide); have e2 := i3 1 (by decide); have e3 := i3 2 (by decide); rw [ar_sum lf1 x0 (by omega) (by omega)]; omega)) (cwV 3 hts gX9_arrange_X9_arrange rfl rfl rfl (by decide +kernel) ⟨Nat.le_of_ble_eq_true rfl, Nat.le_of_ble_eq_true rfl⟩) (okWV hK hP hD rfl (gC30 g (sA (sA (sA (sA (sF σ 18 sn1) 19 lt1) 20 lf1) 19 (va_up lt1 0 x0)) 20 (va_up lf1 x0 ((lf1 x0) - 1))) tl)) rfl rfl hl.1 rfl (lv_room (Nat.le_of_ble_eq_true rfl)) dX9_arrange_112 ⟨Nat.le_of_ble_eq_true rfl, Nat.le_of_ble_eq_true rfl⟩) hD hS hAA (fun r_112 u H locs hw_ hP hD hS => ?_)
              obtain ⟨b_112, lt2_112, lf2_112, sn2_112⟩ := u
              obtain ⟨rfl, h_112⟩ := hw_
              have h_112 : ((b_112 = 1 ∧ ((sn1) ≤ (σ.1 19) ∧ (σ.1 19) < (sn1) + arrN (σ.2.1 0) (σ.1 0) ((σ.1 17) - 1) ((va_up lf1 x0 ((lf1 x0) - 1))) (stp (σ.2.1 0) x0 mk)) ∧ isArr (σ.2.1 0) (σ.1 0) ((σ.1 17) - 1) ((va_up lf1 x0 ((lf1 x0) - 1))) (stp (σ.2.1 0) x0 mk) ((σ.1 19) - (sn1)) (fun i => lt2_112 (1 + i))) ∨ (b_112 = 0 ∧ ¬ ((sn1) ≤ (σ.1 19) ∧ (σ.1 19) < (sn1) + arrN (σ.2.1 0) (σ.1 0) ((σ.1 17) - 1) ((va_up lf1 x0 ((lf1 x0) - 1))) (stp (σ.2.1 0) x0 mk)) ∧ sn2_112 = (sn1) + arrN (σ.2.1 0) (σ.1 0) ((σ.1 17) - 1) ((va_up lf1 x0 ((lf1 x0) - 1))) (stp (σ.2.1 0) x0 mk) ∧ ∀ x, x < 3 → lf2_112 x = ((va_up lf1 x0 ((lf1 x0) - 1))) x)) ∧ (∀ i, i < 1 → lt2_112 i = ((va_up lt1 0 x0)) i) := h_112
              have hP : va_P (g.1, g.2.1) vwCl (wC g (sA (sA (sF (sA (sA (sA (sA (sF σ 18 sn1) 19 lt1) 20 lf1) 19 (va_up lt1 0 x0)) 20 (va_up lf1 x0 ((lf1 x0) - 1))) 18 sn2_112) 19 lt2_112) 20 lf2_112) ++ tl) H := hP
              have hD : va_D A (wC g (sA (sA (sF (sA (sA (sA (sA (sF σ 18 sn1) 19 lt1) 20 lf1) 19 (va_up lt1 0 x0)) 20 (va_up lf1 x0 ((lf1 x0) - 1))) 18 sn2_112) 19 lt2_112) 20 lf2_112) ++ tl) := hD
              have eN : arrN (σ.2.1 0) (σ.1 0) ((σ.1 17) - 1) (va_up lf1 x0 (lf1 x0 - 1)) (stp (σ.2.1 0) x0 mk) = arrN (σ.2.1 0) (σ.1 0) ((σ.1 17) - 1) (va_up (σ.2.1 20) x0 ((σ.2.1 20) x0 - 1)) (stp (σ.2.1 0) x0 mk) := arrN_cong _ _ _ _ _ _ (ar_vu i3 (by omega))
              have hb12 : b_112 = 1 ∨ b_112 = 0 := h_112.1.imp (fun z => z.1) (fun z => z.1)
              refine jn_zeq hx hb (by omega) (tgt := 120) dX9_arrange_115 (by decide) (fun c_115 => ?_) (fun c_115 => ?_)
              · have hr := h_112.1.resolve_left (fun z => by have := z.1; omega)
                refine lv_aload_n hx hb dX9_arrange_120 rfl (lv_at hl 1 rfl) ?_
                refine va_get (D := (g.1, g.2.1)) (ci := 11) (v := .ref (g.2.2.2 32)) (C := RX9) (T := TX9) (N := 7) hx hb hts iX9 hown hK.1 hP 30 (gC30 g (sA (sA (sF (sA (sA (sA (sA (sF σ 18 sn1) 19 lt1) 20 lf1) 19 (va_up lt1 0 x0)) 20 (va_up lf1 x0 ((lf1 x0) - 1))) 18 sn2_112) 19 lt2_112) 20 lf2_112) tl) rfl 1 (by decide) k15 (fun _ h9 => h9) rfl dX9_arrange_121 ?_
                refine lv_iload hx hb dX9_arrange_124 (lv_at hl 5 rfl) ?_
                refine lv_dup2_11 hx hb dX9_arrange_126 rfl rfl ?_
                refine jn_iald (f := lf2_112) hx hb hK.1 hP 32 0 (gC32 g (sA (sA (sF (sA (sA (sA (sA (sF σ 18 sn1) 19 lt1) 20 lf1) 19 (va_up lt1 0 x0)) 20 (va_up lf1 x0 ((lf1 x0) - 1))) 18 sn2_112) 19 lt2_112) 20 lf2_112) tl) rfl (by omega) (Nat.le_of_ble_eq_true rfl) dX9_arrange_127 ?_
                refine lv_iconst (v := nI 1) hx hb dX9_arrange_128 (by decide) ?_
                refine jn_iadd hx hb dX9_arrange_129 ?_
                refine jn_iast (f := lf2_112) hx hb hK.1 hP hD hS 32 0 (gC32 g (sA (sA (sF (sA (sA (sA (sA (sF σ 18 sn1) 19 lt1) 20 lf1) 19 (va_up lt1 0 x0)) 20 (va_up lf1 x0 ((lf1 x0) - 1))) 18 sn2_112) 19 lt2_112) 20 lf2_112) tl) rfl (by omega) (Nat.le_of_ble_eq_true rfl) (uC_A20 g (sA (sA (sF (sA (sA (sA (sA (sF σ 18 sn1) 19 lt1) 20 lf1) 19 (va_up lt1 0 x0)) 20 (va_up lf1 x0 ((lf1 x0) - 1))) 18 sn2_112) 19 lt2_112) 20 lf2_112) tl _) dX9_arrange_130 (fun H locs hP hD hS => ?_)
                refine lv_iinc (v := nI (x0 + 1)) (lv' := [(4, .int (nI (x0 + 1))), (5, .int (nI (stp (σ.2.1 0) x0 mk))), (0, .ref (g.2.2.2 30)), (1, .ref (g.2.2.2 1)), (2, .int (nI 0)), (3, .int (nI mk))]) hx hb dX9_arrange_131 hl (k := 5) rfl (jn_ii _ 1) (by decide) rfl (fun ls hl => ?_)
                refine lv_goto (tgt := 56) hx hb dX9_arrange_134 (by decide) ?_
                exact ih56 (x0 + 1) sn2_112 lt2_112 (va_up lf2_112 x0 ((lf2_112 x0) + 1)) (by omega) (by first | exact ar_s0 i2 (Or.inl (by rw [← i3 x0 (by omega)]; omega)) | exact ar_s0 i2 (Or.inr c_83) | exact ar_s1 i2 (by rw [← i3 x0 (by omega)]; omega) hr.2.2.1 eN) (by first | exact i3 | exact ar_lf i3 hr.2.2.2 (by omega)) (by first | exact i4 | exact fun i hi => by rw [h_112.2 i (by omega), va_up, if_neg (by omega)]; exact i4 i hi) (by first | exact i5 | (rw [hr.2.2.1]; have := hr.2.1; omega)) (by omega) _ _ hP hD hS _ (lv_sub hl [2, 3, 4, 5, 0] rfl)
              · have hr := h_112.1.resolve_right (fun z => by have := z.1; omega)
                refine lv_iconst (v := nI 1) hx hb dX9_arrange_118 (by decide) ?_
                exact hq _ _ _ _ ((nI 1)) (1, lt2_112, lf2_112, sn2_112) dX9_arrange_119 jn_n1 ⟨rfl, Or.inl (⟨rfl, ar_hit i2 i5 eK i1 hr.2.1 (by omega) i3 eN, ar_is i2 eK (by omega) i3 hr.2.1 hr.2.2 (by rw [h_112.2 0 (by omega), va_up, if_pos rfl]) c_78 eN⟩), fun i hi => by rw [h_112.2 i (by omega), va_up, if_neg (by omega)]; exact i4 i hi⟩ hP hD hS
    exact lp56 _ 0 (σ.1 18) (σ.2.1 19) (σ.2.1 20) (by decide) rfl (fun _ _ => rfl) (fun _ _ => rfl) (by omega) (Nat.lt_succ_self _) _ _ hP hD hS _ (lv_sub hl [1, 2, 3, 4, 0] rfl)
