abbrev r_c_X7_recall2 : Room := { frames := 3, cells := 0, slots := 0, locals := 108 }
set_option maxHeartbeats 4000000 in
set_option maxRecDepth 100000 in
theorem c_X7_recall2 (l : Launch) (g : GC) (tl : va_W) (sz : Nat) (σ : SS) (r10 : Nat → Nat) (h10 : σ.2.2 10 = r10) (hM : OkM σ) (h0 : σ.1 11 ≠ 0) : Met l yX7_recall wsX7_recall r_c_X7_recall2 (va_Pc [.ref (g.2.2.2 6), .ref (g.2.2.2 1), .ref (g.2.2.2 4)] (PW g (wC g σ ++ tl) sz)) (va_Qv (fun (_ : Unit) => True) (fun (_ : Unit) t => BW g (va_A (wC g σ ++ tl) sz) (wC g (sF (sA (sA σ 0 (va_cpy r10 (σ.2.1 0) 0 0 15)) 2 (va_cpy r10 (σ.2.1 2) 16 0 42)) 0 (r10 15)) ++ tl) t) (va_A (wC g σ ++ tl) sz)) 0 0 (va_A (wC g σ ++ tl) sz) := by
  subst h10
  exact c_X7_recall l g tl sz σ hM h0

abbrev r_c_X10_addLinearSet : Room := { frames := 7, cells := 3, slots := 18, locals := 150 }
set_option maxHeartbeats 4000000 in
set_option maxRecDepth 100000 in
theorem c_X10_addLinearSet (l : Launch) (hflg : l.stackTraces = false) (g : GC) (tl : va_W) (sz : Nat) (σ : SS) (s2 x1 x2 x3 : Nat) (hC : OkC (σ.2.1 2)) (hM : OkM σ) (hs2 : s2 < 4294967296) (hx1 : x1 < 4294967296) (hx2 : x2 < 4294967296) (hx3 : x3 < 4294967296) : vx_Met l yX10_addLinearSet wsX10_addLinearSet r_c_X10_addLinearSet (va_Pc [.ref (g.2.2.2 0), .int (nI s2), .int (nI x1), .int (nI x2), .int (nI x3)] (PX g (wC g σ ++ tl) sz)) (va_Qi (fun (r : Int32) (_ : Unit) => (r = nI ((σ.2.1 2) (s2 * 21))) ∧ (s2 < 2) ∧ (x1 < 10 ∧ x2 < 10 ∧ x3 < 10) ∧ ((σ.2.1 2) (s2 * 21) < 4)) (fun (_ : Unit) t => BW g (va_A (wC g σ ++ tl) sz) (wC g (sA (sF (sF (sL σ (2 + σ.1 9) (snp σ (σ.2.2 (2 + σ.1 9)))) 9 ((σ.1 9 + 1) % 8)) 10 (min (σ.1 10 + 1) 8)) 2 (va_up (va_up (va_up (σ.2.1 2) (s2 * 21) ((σ.2.1 2) (s2 * 21) + 1)) (s2 * 21 + 1 + (σ.2.1 2) (s2 * 21) * 5) (100 * x1 + 10 * x2 + x3)) (s2 * 21 + 1 + (σ.2.1 2) (s2 * 21) * 5 + 1) 0)) ++ tl) t) (va_A (wC g σ ++ tl) sz)) (XW g (va_A (wC g σ ++ tl) sz) (fun (E : String) (_ : Unit) => (E = "java/lang/IndexOutOfBoundsException" ∧ (¬ s2 < 2)) ∨ (E = "java/lang/IllegalArgumentException" ∧ (s2 < 2 ∧ ¬ (x1 < 10 ∧ x2 < 10 ∧ x3 < 10))) ∨ (E = "java/lang/IllegalStateException" ∧ (s2 < 2 ∧ (x1 < 10 ∧ x2 < 10 ∧ x3 < 10) ∧ 4 ≤ (σ.2.1 2) (s2 * 21)))) (fun _ : Unit => wC g σ ++ tl)) 3 18 (va_A (wC g σ ++ tl) sz) := by
  refine jx_i hflg (wf := fun _ : Unit => wC g (sA (sF (sF (sL σ (2 + σ.1 9) (snp σ (σ.2.2 (2 + σ.1 9)))) 9 ((σ.1 9 + 1) % 8)) 10 (min (σ.1 10 + 1) 8)) 2 (va_up (va_up (va_up (σ.2.1 2) (s2 * 21) ((σ.2.1 2) (s2 * 21) + 1)) (s2 * 21 + 1 + (σ.2.1 2) (s2 * 21) * 5) (100 * x1 + 10 * x2 + x3)) (s2 * 21 + 1 + (σ.2.1 2) (s2 * 21) * 5 + 1) 0)) ++ tl) (wx := fun _ : Unit => wC g σ ++ tl) (cc := cX10_addLinearSet) (maxL := 5) (by decide) rfl rfl (Nat.le_of_ble_eq_true rfl) ?_
  intro p e s m below meth c Q A hx hb hml hown hts hKX hP hD hS hAA hZ hq hqt hqw hqo ls hl
  have hK := hKX.1
  obtain ⟨H, eH⟩ : ∃ z, z = s.heap := ⟨_, rfl⟩
  obtain ⟨locs, el⟩ : ∃ z : List Loc, z = [] := ⟨_, rfl⟩
  rw [← eH] at hP
  have hS : va_S A s.heap H locs := by rw [eH, el]; exact hS
  have goal0 : W p l e r_c_X10_addLinearSet s m ([.ref (g.2.2.2 0), .int (nI s2), .int (nI x1), .int (nI x2), .int (nI x3)] : List Value).toArray below meth c H locs 0 0 Q (F0 m 0 ls []) → W p l e r_c_X10_addLinearSet s m ([.ref (g.2.2.2 0), .int (nI s2), .int (nI x1), .int (nI x2), .int (nI x3)] : List Value).toArray below meth c s.heap [] 0 0 Q (F0 m 0 ls []) := fun h => by rw [eH, el] at h; exact h
  refine goal0 ?_
  have hl : lv_has ls 5 [(0, .ref (g.2.2.2 0)), (1, .int (nI s2)), (2, .int (nI x1)), (3, .int (nI x2)), (4, .int (nI x3))] := hl
  have iX10 : ∀ w ∈ wsX100, w ∈ wsX10_addLinearSet := by decide +kernel
  have k19 := hts (.fieldLink RX10 19 "JumpingAutomata" "sets" "LJumpingAutomata$CountingSets;") (by decide +kernel)
  refine lv_iload_n hx hb dX10_addLinearSet_0 rfl (lv_at hl 1 rfl) ?_
  refine jx_callv (vx_runS (As := [.int (nI s2)]) (rest := []) ⟨hx, hb, hml, hown, hts⟩ (c_X10_requireSet l hflg g tl H.size σ s2 (by omega)) (va_cwS 1 hts gX10_addLinearSet_X10_requireSet rfl rfl rfl (by decide +kernel) ⟨Nat.le_of_ble_eq_true rfl, Nat.le_of_ble_eq_true rfl⟩) (okXS hKX hP hD hZ hS hAA) rfl rfl hl.1 rfl (lv_room (Nat.le_of_ble_eq_true rfl)) dX10_addLinearSet_1 ⟨Nat.le_of_ble_eq_true rfl, Nat.le_of_ble_eq_true rfl⟩) hD hS hAA (fun E ce q9 u H locs hxp hP hD hS h7 h8 h9 => ?_) (fun u H locs hw_ hP hD hS => ?_)
  · have hxp : (E = "java/lang/IndexOutOfBoundsException" ∧ (¬ s2 < 2)) := hxp
    rcases hxp with ⟨eE, hc⟩
    · exact hqo _ _ _ _ _ _ _ _ _ _ () (Nat.le_of_ble_eq_true rfl) (Nat.le_of_ble_eq_true rfl) h7 h8 h9 (Or.inl ⟨eE, (by first | exact hc | omega)⟩) hP hD hS
  have h_1 := hw_
  have h_1 : s2 < 2 := h_1
  have hP : va_P (g.1, g.2.1) vwCl (wC g σ ++ tl) H := hP
  have hD : va_D A (wC g σ ++ tl) := hD
  refine lv_iload_n hx hb dX10_addLinearSet_4 rfl (lv_at hl 2 rfl) ?_
  refine lv_iload_n hx hb dX10_addLinearSet_5 rfl (lv_at hl 3 rfl) ?_
  refine lv_iload hx hb dX10_addLinearSet_6 (lv_at hl 4 rfl) ?_
  refine jx_callv (vx_runS (As := [.int (nI x1), .int (nI x2), .int (nI x3)]) (rest := []) ⟨hx, hb, hml, hown, hts⟩ (c_X10_requireDigits l hflg g tl H.size σ x1 x2 x3 hx1 hx2 hx3) (va_cwS 3 hts gX10_addLinearSet_X10_requireDigits rfl rfl rfl (by decide +kernel) ⟨Nat.le_of_ble_eq_true rfl, Nat.le_of_ble_eq_true rfl⟩) (okXS hKX hP hD hZ hS hAA) rfl rfl hl.1 rfl (lv_room (Nat.le_of_ble_eq_true rfl)) dX10_addLinearSet_8 ⟨Nat.le_of_ble_eq_true rfl, Nat.le_of_ble_eq_true rfl⟩) hD hS hAA (fun E ce q9 u H locs hxp hP hD hS h7 h8 h9 => ?_) (fun u H locs hw_ hP hD hS => ?_)
  · have hxp : (E = "java/lang/IllegalArgumentException" ∧ (¬ (x1 < 10 ∧ x2 < 10 ∧ x3 < 10))) := hxp
    rcases hxp with ⟨eE, hc⟩
    · exact hqo _ _ _ _ _ _ _ _ _ _ () (Nat.le_of_ble_eq_true rfl) (Nat.le_of_ble_eq_true rfl) h7 h8 h9 (Or.inr (Or.inl ⟨eE, ⟨h_1, hc⟩⟩)) hP hD hS
  have h_8 := hw_
  have h_8 : x1 < 10 ∧ x2 < 10 ∧ x3 < 10 := h_8
  have hP : va_P (g.1, g.2.1) vwCl (wC g σ ++ tl) H := hP
  have hD : va_D A (wC g σ ++ tl) := hD
  refine lv_aload_n hx hb dX10_addLinearSet_11 rfl (lv_at hl 0 rfl) ?_
  refine va_get (D := (g.1, g.2.1)) (ci := 12) (v := .ref (g.2.2.2 4)) (C := RX10) (T := TX10) (N := 15) hx hb hts iX10 hown hK.1 hP 0 (gC0 g σ tl) rfl 1 (by decide) k19 (fun _ h9 => h9) rfl dX10_addLinearSet_12 ?_
  refine lv_iload_n hx hb dX10_addLinearSet_15 rfl (lv_at hl 1 rfl) ?_
  refine vp_callSi (va_Run.run (va_runV (As := [.int (nI s2)]) (rest := []) ⟨hx, hb, hml, hown, hts⟩ (c_X3_linearCount l g tl σ s2 hC hs2) (cwV 1 hts gX10_addLinearSet_X3_linearCount rfl rfl rfl (by decide +kernel) ⟨Nat.le_of_ble_eq_true rfl, Nat.le_of_ble_eq_true rfl⟩) (okPV hK hP rfl (gC4 g σ tl)) rfl rfl hl.1 rfl (lv_room (Nat.le_of_ble_eq_true rfl)) dX10_addLinearSet_16 ⟨Nat.le_of_ble_eq_true rfl, Nat.le_of_ble_eq_true rfl⟩)) (fun r_16 h_16 => ?_)
  subst h_16
  rw [if_pos h_1]
  have hc4 := (hC s2 h_1).1
  refine lv_iconst (v := nI 4) hx hb dX10_addLinearSet_19 (by decide) ?_
  refine jn_clt hx hb (by omega) (by decide) (tgt := 34) dX10_addLinearSet_20 (by decide) (fun c_20 => ?_) (fun c_20 => ?_)
  · refine lv_aload_n hx hb dX10_addLinearSet_34 rfl (lv_at hl 0 rfl) ?_
    refine jn_callv (va_runV (As := []) (rest := []) ⟨hx, hb, hml, hown, hts⟩ (c_X10_beginChange l g tl H.size σ hM) (cwV 0 hts gX10_addLinearSet_X10_beginChange rfl rfl rfl (by decide +kernel) ⟨Nat.le_of_ble_eq_true rfl, Nat.le_of_ble_eq_true rfl⟩) (okWV hK hP hD rfl (gC0 g σ tl)) rfl rfl hl.1 rfl (lv_room (Nat.le_of_ble_eq_true rfl)) dX10_addLinearSet_35 ⟨Nat.le_of_ble_eq_true rfl, Nat.le_of_ble_eq_true rfl⟩) hD hS hAA (fun u H locs hw_ hP hD hS => ?_)
    have hP : va_P (g.1, g.2.1) vwCl (wC g (sF (sF (sL σ (2 + σ.1 9) (snp σ (σ.2.2 (2 + σ.1 9)))) 9 ((σ.1 9 + 1) % 8)) 10 (min (σ.1 10 + 1) 8)) ++ tl) H := hP
    have hD : va_D A (wC g (sF (sF (sL σ (2 + σ.1 9) (snp σ (σ.2.2 (2 + σ.1 9)))) 9 ((σ.1 9 + 1) % 8)) 10 (min (σ.1 10 + 1) 8)) ++ tl) := hD
    refine lv_aload_n hx hb dX10_addLinearSet_38 rfl (lv_at hl 0 rfl) ?_
    refine va_get (D := (g.1, g.2.1)) (ci := 12) (v := .ref (g.2.2.2 4)) (C := RX10) (T := TX10) (N := 15) hx hb hts iX10 hown hK.1 hP 0 (gC0 g (sF (sF (sL σ (2 + σ.1 9) (snp σ (σ.2.2 (2 + σ.1 9)))) 9 ((σ.1 9 + 1) % 8)) 10 (min (σ.1 10 + 1) 8)) tl) rfl 1 (by decide) k19 (fun _ h9 => h9) rfl dX10_addLinearSet_39 ?_
    refine lv_iload_n hx hb dX10_addLinearSet_42 rfl (lv_at hl 1 rfl) ?_
    refine lv_iload_n hx hb dX10_addLinearSet_43 rfl (lv_at hl 2 rfl) ?_
    refine lv_iload_n hx hb dX10_addLinearSet_44 rfl (lv_at hl 3 rfl) ?_
    refine lv_iload hx hb dX10_addLinearSet_45 (lv_at hl 4 rfl) ?_
    refine vp_callSi (va_Run.run (va_runS (As := [.int (nI x1), .int (nI x2), .int (nI x3)]) (rest := [.int (nI s2), .ref (g.2.2.2 4)]) ⟨hx, hb, hml, hown, hts⟩ (c_X10_codeOf l x1 x2 x3) (va_cwS 3 hts gX10_addLinearSet_X10_codeOf rfl rfl rfl (by decide +kernel) ⟨Nat.le_of_ble_eq_true rfl, Nat.le_of_ble_eq_true rfl⟩) okTS rfl rfl hl.1 rfl (lv_room (Nat.le_of_ble_eq_true rfl)) dX10_addLinearSet_47 ⟨Nat.le_of_ble_eq_true rfl, Nat.le_of_ble_eq_true rfl⟩)) (fun r_47 h_47 => ?_)
    subst h_47
    refine jn_calli (va_runV (As := [.int (nI s2), .int (nI (100 * x1 + 10 * x2 + x3))]) (rest := []) ⟨hx, hb, hml, hown, hts⟩ (c_X3_addLinear l g tl H.size (sF (sF (sL σ (2 + σ.1 9) (snp σ (σ.2.2 (2 + σ.1 9)))) 9 ((σ.1 9 + 1) % 8)) 10 (min (σ.1 10 + 1) 8)) s2 (100 * x1 + 10 * x2 + x3) hC h_1 c_20) (cwV 2 hts gX10_addLinearSet_X3_addLinear rfl rfl rfl (by decide +kernel) ⟨Nat.le_of_ble_eq_true rfl, Nat.le_of_ble_eq_true rfl⟩) (okWV hK hP hD rfl (gC4 g (sF (sF (sL σ (2 + σ.1 9) (snp σ (σ.2.2 (2 + σ.1 9)))) 9 ((σ.1 9 + 1) % 8)) 10 (min (σ.1 10 + 1) 8)) tl)) rfl rfl hl.1 rfl (lv_room (Nat.le_of_ble_eq_true rfl)) dX10_addLinearSet_50 ⟨Nat.le_of_ble_eq_true rfl, Nat.le_of_ble_eq_true rfl⟩) hD hS hAA (fun r_50 u H locs hw_ hP hD hS => ?_)
    obtain rfl := hw_
    have hP : va_P (g.1, g.2.1) vwCl (wC g (sA (sF (sF (sL σ (2 + σ.1 9) (snp σ (σ.2.2 (2 + σ.1 9)))) 9 ((σ.1 9 + 1) % 8)) 10 (min (σ.1 10 + 1) 8)) 2 (va_up (va_up (va_up (σ.2.1 2) (s2 * 21) ((σ.2.1 2) (s2 * 21) + 1)) (s2 * 21 + 1 + (σ.2.1 2) (s2 * 21) * 5) (100 * x1 + 10 * x2 + x3)) (s2 * 21 + 1 + (σ.2.1 2) (s2 * 21) * 5 + 1) 0)) ++ tl) H := hP
    have hD : va_D A (wC g (sA (sF (sF (sL σ (2 + σ.1 9) (snp σ (σ.2.2 (2 + σ.1 9)))) 9 ((σ.1 9 + 1) % 8)) 10 (min (σ.1 10 + 1) 8)) 2 (va_up (va_up (va_up (σ.2.1 2) (s2 * 21) ((σ.2.1 2) (s2 * 21) + 1)) (s2 * 21 + 1 + (σ.2.1 2) (s2 * 21) * 5) (100 * x1 + 10 * x2 + x3)) (s2 * 21 + 1 + (σ.2.1 2) (s2 * 21) * 5 + 1) 0)) ++ tl) := hD
    exact hq _ _ _ _ _ _ ((nI ((σ.2.1 2) (s2 * 21)))) () (Nat.le_of_ble_eq_true rfl) (Nat.le_of_ble_eq_true rfl) dX10_addLinearSet_53 ⟨rfl, h_1, h_8, c_20⟩ hP hD hS
  · exact hqw _ _ _ _ 23 108 309 112 "java/lang/IllegalStateException" "the counting set has 4 linear sets" _ () hl.1 dX10_addLinearSet_23 dX10_addLinearSet_26 dX10_addLinearSet_27 dX10_addLinearSet_30 dX10_addLinearSet_33 ⟨by decide +kernel, by decide +kernel, fun w hw => List.mem_cons_of_mem _ (List.mem_append_left _ (List.mem_append_left _ (List.mem_append_left _ (List.mem_append_right _ hw)))), by decide +kernel, by decide +kernel, by decide +kernel, by decide +kernel, by decide +kernel, Nat.le_of_ble_eq_true rfl, Nat.le_of_ble_eq_true rfl⟩ (Nat.le_of_ble_eq_true rfl) (Nat.le_of_ble_eq_true rfl) (Nat.le_of_ble_eq_true rfl) (Nat.le_of_ble_eq_true rfl) (Or.inr (Or.inr ⟨rfl, ⟨h_1, h_8, by omega⟩⟩)) hP hD hS

abbrev r_c_X10_addPeriod : Room := { frames := 7, cells := 2, slots := 12, locals := 150 }
set_option maxHeartbeats 4000000 in
set_option maxRecDepth 100000 in
theorem c_X10_addPeriod (l : Launch) (hflg : l.stackTraces = false) (g : GC) (tl : va_W) (sz : Nat) (σ : SS) (s2 ln x1 x2 x3 : Nat) (hC : OkC (σ.2.1 2)) (hM : OkM σ) (hs2 : s2 < 4294967296) (hln : ln < 4294967296) (hx1 : x1 < 4294967296) (hx2 : x2 < 4294967296) (hx3 : x3 < 4294967296) : vx_Met l yX10_addPeriod wsX10_addPeriod r_c_X10_addPeriod (va_Pc [.ref (g.2.2.2 0), .int (nI s2), .int (nI ln), .int (nI x1), .int (nI x2), .int (nI x3)] (PX g (wC g σ ++ tl) sz)) (va_Qi (fun (r : Int32) (_ : Unit) => (r = nI ((σ.2.1 2) (s2 * 21 + 1 + ln * 5 + 1) + 1)) ∧ (s2 < 2 ∧ ln < (σ.2.1 2) (s2 * 21)) ∧ (x1 < 10 ∧ x2 < 10 ∧ x3 < 10) ∧ (100 * x1 + 10 * x2 + x3 ≠ 0) ∧ ((σ.2.1 2) (s2 * 21 + 1 + ln * 5 + 1) < 3)) (fun (_ : Unit) t => BW g (va_A (wC g σ ++ tl) sz) (wC g (sA (sF (sF (sL σ (2 + σ.1 9) (snp σ (σ.2.2 (2 + σ.1 9)))) 9 ((σ.1 9 + 1) % 8)) 10 (min (σ.1 10 + 1) 8)) 2 (va_up (va_up (σ.2.1 2) (s2 * 21 + 1 + ln * 5 + 2 + (σ.2.1 2) (s2 * 21 + 1 + ln * 5 + 1)) (100 * x1 + 10 * x2 + x3)) (s2 * 21 + 1 + ln * 5 + 1) ((σ.2.1 2) (s2 * 21 + 1 + ln * 5 + 1) + 1))) ++ tl) t) (va_A (wC g σ ++ tl) sz)) (XW g (va_A (wC g σ ++ tl) sz) (fun (E : String) (_ : Unit) => (E = "java/lang/IndexOutOfBoundsException" ∧ (¬ (s2 < 2 ∧ ln < (σ.2.1 2) (s2 * 21)))) ∨ (E = "java/lang/IllegalArgumentException" ∧ ((s2 < 2 ∧ ln < (σ.2.1 2) (s2 * 21)) ∧ (¬ (x1 < 10 ∧ x2 < 10 ∧ x3 < 10) ∨ 100 * x1 + 10 * x2 + x3 = 0))) ∨ (E = "java/lang/IllegalStateException" ∧ ((s2 < 2 ∧ ln < (σ.2.1 2) (s2 * 21)) ∧ (x1 < 10 ∧ x2 < 10 ∧ x3 < 10) ∧ 100 * x1 + 10 * x2 + x3 ≠ 0 ∧ 3 ≤ (σ.2.1 2) (s2 * 21 + 1 + ln * 5 + 1)))) (fun _ : Unit => wC g σ ++ tl)) 2 12 (va_A (wC g σ ++ tl) sz) := by
  refine jx_i hflg (wf := fun _ : Unit => wC g (sA (sF (sF (sL σ (2 + σ.1 9) (snp σ (σ.2.2 (2 + σ.1 9)))) 9 ((σ.1 9 + 1) % 8)) 10 (min (σ.1 10 + 1) 8)) 2 (va_up (va_up (σ.2.1 2) (s2 * 21 + 1 + ln * 5 + 2 + (σ.2.1 2) (s2 * 21 + 1 + ln * 5 + 1)) (100 * x1 + 10 * x2 + x3)) (s2 * 21 + 1 + ln * 5 + 1) ((σ.2.1 2) (s2 * 21 + 1 + ln * 5 + 1) + 1))) ++ tl) (wx := fun _ : Unit => wC g σ ++ tl) (cc := cX10_addPeriod) (maxL := 6) (by decide) rfl rfl (Nat.le_of_ble_eq_true rfl) ?_
  intro p e s m below meth c Q A hx hb hml hown hts hKX hP hD hS hAA hZ hq hqt hqw hqo ls hl
  have hK := hKX.1
  obtain ⟨H, eH⟩ : ∃ z, z = s.heap := ⟨_, rfl⟩
  obtain ⟨locs, el⟩ : ∃ z : List Loc, z = [] := ⟨_, rfl⟩
  rw [← eH] at hP
  have hS : va_S A s.heap H locs := by rw [eH, el]; exact hS
  have goal0 : W p l e r_c_X10_addPeriod s m ([.ref (g.2.2.2 0), .int (nI s2), .int (nI ln), .int (nI x1), .int (nI x2), .int (nI x3)] : List Value).toArray below meth c H locs 0 0 Q (F0 m 0 ls []) → W p l e r_c_X10_addPeriod s m ([.ref (g.2.2.2 0), .int (nI s2), .int (nI ln), .int (nI x1), .int (nI x2), .int (nI x3)] : List Value).toArray below meth c s.heap [] 0 0 Q (F0 m 0 ls []) := fun h => by rw [eH, el] at h; exact h
  refine goal0 ?_
  have hl : lv_has ls 6 [(0, .ref (g.2.2.2 0)), (1, .int (nI s2)), (2, .int (nI ln)), (3, .int (nI x1)), (4, .int (nI x2)), (5, .int (nI x3))] := hl
  have iX10 : ∀ w ∈ wsX100, w ∈ wsX10_addPeriod := by decide +kernel
  have k19 := hts (.fieldLink RX10 19 "JumpingAutomata" "sets" "LJumpingAutomata$CountingSets;") (by decide +kernel)
  refine lv_aload_n hx hb dX10_addPeriod_0 rfl (lv_at hl 0 rfl) ?_
  refine lv_iload_n hx hb dX10_addPeriod_1 rfl (lv_at hl 1 rfl) ?_
  refine lv_iload_n hx hb dX10_addPeriod_2 rfl (lv_at hl 2 rfl) ?_
  refine jx_callv (vx_runV (As := [.int (nI s2), .int (nI ln)]) (rest := []) ⟨hx, hb, hml, hown, hts⟩ (c_X10_requireLinear l hflg g tl H.size σ s2 ln hC hs2 hln) (cwV 2 hts gX10_addPeriod_X10_requireLinear rfl rfl rfl (by decide +kernel) ⟨Nat.le_of_ble_eq_true rfl, Nat.le_of_ble_eq_true rfl⟩) (okXV hKX hP hD hZ hS hAA rfl (gC0 g σ tl)) rfl rfl hl.1 rfl (lv_room (Nat.le_of_ble_eq_true rfl)) dX10_addPeriod_3 ⟨Nat.le_of_ble_eq_true rfl, Nat.le_of_ble_eq_true rfl⟩) hD hS hAA (fun E ce q9 u H locs hxp hP hD hS h7 h8 h9 => ?_) (fun u H locs hw_ hP hD hS => ?_)
  · have hxp : (E = "java/lang/IndexOutOfBoundsException" ∧ (¬ (s2 < 2 ∧ ln < (σ.2.1 2) (s2 * 21)))) := hxp
    rcases hxp with ⟨eE, hc⟩
    · exact hqo _ _ _ _ _ _ _ _ _ _ () (Nat.le_of_ble_eq_true rfl) (Nat.le_of_ble_eq_true rfl) h7 h8 h9 (Or.inl ⟨eE, (by first | exact hc | omega)⟩) hP hD hS
  have h_3 := hw_
  have h_3 : s2 < 2 ∧ ln < (σ.2.1 2) (s2 * 21) := h_3
  have hP : va_P (g.1, g.2.1) vwCl (wC g σ ++ tl) H := hP
  have hD : va_D A (wC g σ ++ tl) := hD
  refine lv_iload_n hx hb dX10_addPeriod_6 rfl (lv_at hl 3 rfl) ?_
  refine lv_iload hx hb dX10_addPeriod_7 (lv_at hl 4 rfl) ?_
  refine lv_iload hx hb dX10_addPeriod_9 (lv_at hl 5 rfl) ?_
  refine vp_callSi (va_Run.run (va_runS (As := [.int (nI x1), .int (nI x2), .int (nI x3)]) (rest := []) ⟨hx, hb, hml, hown, hts⟩ (c_X10_areDigits l x1 x2 x3 hx1 hx2 hx3) (va_cwS 3 hts gX10_addPeriod_X10_areDigits rfl rfl rfl (by decide +kernel) ⟨Nat.le_of_ble_eq_true rfl, Nat.le_of_ble_eq_true rfl⟩) okTS rfl rfl hl.1 rfl (lv_room (Nat.le_of_ble_eq_true rfl)) dX10_addPeriod_11 ⟨Nat.le_of_ble_eq_true rfl, Nat.le_of_ble_eq_true rfl⟩)) (fun r_11 h_11 => ?_)
  subst h_11
  refine jn_beq hx hb (tgt := 28) dX10_addPeriod_14 (by decide) (fun c_14 => ?_) (fun c_14 => ?_)
  · exact hqw _ _ _ _ 28 97 322 101 "java/lang/IllegalArgumentException" "a number is out of range, or all are 0" _ () hl.1 dX10_addPeriod_28 dX10_addPeriod_31 dX10_addPeriod_32 dX10_addPeriod_35 dX10_addPeriod_38 ⟨by decide +kernel, by decide +kernel, fun w hw => List.mem_cons_of_mem _ (List.mem_append_left _ (List.mem_append_left _ (List.mem_append_left _ (List.mem_append_right _ hw)))), by decide +kernel, by decide +kernel, by decide +kernel, by decide +kernel, by decide +kernel, Nat.le_of_ble_eq_true rfl, Nat.le_of_ble_eq_true rfl⟩ (Nat.le_of_ble_eq_true rfl) (Nat.le_of_ble_eq_true rfl) (Nat.le_of_ble_eq_true rfl) (Nat.le_of_ble_eq_true rfl) (Or.inr (Or.inl ⟨rfl, ⟨h_3, by first | exact Or.inl c_14 | exact Or.inr c_25⟩⟩)) hP hD hS
  · have hd3 := c_14
    refine lv_iload_n hx hb dX10_addPeriod_17 rfl (lv_at hl 3 rfl) ?_
    refine lv_iload hx hb dX10_addPeriod_18 (lv_at hl 4 rfl) ?_
    refine lv_iload hx hb dX10_addPeriod_20 (lv_at hl 5 rfl) ?_
    refine vp_callSi (va_Run.run (va_runS (As := [.int (nI x1), .int (nI x2), .int (nI x3)]) (rest := []) ⟨hx, hb, hml, hown, hts⟩ (c_X10_codeOf l x1 x2 x3) (va_cwS 3 hts gX10_addPeriod_X10_codeOf rfl rfl rfl (by decide +kernel) ⟨Nat.le_of_ble_eq_true rfl, Nat.le_of_ble_eq_true rfl⟩) okTS rfl rfl hl.1 rfl (lv_room (Nat.le_of_ble_eq_true rfl)) dX10_addPeriod_22 ⟨Nat.le_of_ble_eq_true rfl, Nat.le_of_ble_eq_true rfl⟩)) (fun r_22 h_22 => ?_)
    subst h_22
    refine jn_zne hx hb (by omega) (tgt := 39) dX10_addPeriod_25 (by decide) (fun c_25 => ?_) (fun c_25 => ?_)
    · refine lv_aload_n hx hb dX10_addPeriod_39 rfl (lv_at hl 0 rfl) ?_
      refine va_get (D := (g.1, g.2.1)) (ci := 12) (v := .ref (g.2.2.2 4)) (C := RX10) (T := TX10) (N := 15) hx hb hts iX10 hown hK.1 hP 0 (gC0 g σ tl) rfl 1 (by decide) k19 (fun _ h9 => h9) rfl dX10_addPeriod_40 ?_
      refine lv_iload_n hx hb dX10_addPeriod_43 rfl (lv_at hl 1 rfl) ?_
      refine lv_iload_n hx hb dX10_addPeriod_44 rfl (lv_at hl 2 rfl) ?_
      refine vp_callSi (va_Run.run (va_runV (As := [.int (nI s2), .int (nI ln)]) (rest := []) ⟨hx, hb, hml, hown, hts⟩ (c_X3_periodCount l g tl σ s2 ln hC h_3.1 h_3.2) (cwV 2 hts gX10_addPeriod_X3_periodCount rfl rfl rfl (by decide +kernel) ⟨Nat.le_of_ble_eq_true rfl, Nat.le_of_ble_eq_true rfl⟩) (okPV hK hP rfl (gC4 g σ tl)) rfl rfl hl.1 rfl (lv_room (Nat.le_of_ble_eq_true rfl)) dX10_addPeriod_45 ⟨Nat.le_of_ble_eq_true rfl, Nat.le_of_ble_eq_true rfl⟩)) (fun r_45 h_45 => ?_)
      subst h_45
      have hc5 := ((hC s2 h_3.1).2 ln h_3.2).2.1
      refine lv_iconst (v := nI 3) hx hb dX10_addPeriod_48 (by decide) ?_
      refine jn_clt hx hb (by omega) (by decide) (tgt := 63) dX10_addPeriod_49 (by decide) (fun c_49 => ?_) (fun c_49 => ?_)
      · refine lv_aload_n hx hb dX10_addPeriod_63 rfl (lv_at hl 0 rfl) ?_
        refine jn_callv (va_runV (As := []) (rest := []) ⟨hx, hb, hml, hown, hts⟩ (c_X10_beginChange l g tl H.size σ hM) (cwV 0 hts gX10_addPeriod_X10_beginChange rfl rfl rfl (by decide +kernel) ⟨Nat.le_of_ble_eq_true rfl, Nat.le_of_ble_eq_true rfl⟩) (okWV hK hP hD rfl (gC0 g σ tl)) rfl rfl hl.1 rfl (lv_room (Nat.le_of_ble_eq_true rfl)) dX10_addPeriod_64 ⟨Nat.le_of_ble_eq_true rfl, Nat.le_of_ble_eq_true rfl⟩) hD hS hAA (fun u H locs hw_ hP hD hS => ?_)
        have hP : va_P (g.1, g.2.1) vwCl (wC g (sF (sF (sL σ (2 + σ.1 9) (snp σ (σ.2.2 (2 + σ.1 9)))) 9 ((σ.1 9 + 1) % 8)) 10 (min (σ.1 10 + 1) 8)) ++ tl) H := hP
        have hD : va_D A (wC g (sF (sF (sL σ (2 + σ.1 9) (snp σ (σ.2.2 (2 + σ.1 9)))) 9 ((σ.1 9 + 1) % 8)) 10 (min (σ.1 10 + 1) 8)) ++ tl) := hD
        refine lv_aload_n hx hb dX10_addPeriod_67 rfl (lv_at hl 0 rfl) ?_
        refine va_get (D := (g.1, g.2.1)) (ci := 12) (v := .ref (g.2.2.2 4)) (C := RX10) (T := TX10) (N := 15) hx hb hts iX10 hown hK.1 hP 0 (gC0 g (sF (sF (sL σ (2 + σ.1 9) (snp σ (σ.2.2 (2 + σ.1 9)))) 9 ((σ.1 9 + 1) % 8)) 10 (min (σ.1 10 + 1) 8)) tl) rfl 1 (by decide) k19 (fun _ h9 => h9) rfl dX10_addPeriod_68 ?_
        refine lv_iload_n hx hb dX10_addPeriod_71 rfl (lv_at hl 1 rfl) ?_
        refine lv_iload_n hx hb dX10_addPeriod_72 rfl (lv_at hl 2 rfl) ?_
        refine lv_iload_n hx hb dX10_addPeriod_73 rfl (lv_at hl 3 rfl) ?_
        refine lv_iload hx hb dX10_addPeriod_74 (lv_at hl 4 rfl) ?_
        refine lv_iload hx hb dX10_addPeriod_76 (lv_at hl 5 rfl) ?_
        refine vp_callSi (va_Run.run (va_runS (As := [.int (nI x1), .int (nI x2), .int (nI x3)]) (rest := [.int (nI ln), .int (nI s2), .ref (g.2.2.2 4)]) ⟨hx, hb, hml, hown, hts⟩ (c_X10_codeOf l x1 x2 x3) (va_cwS 3 hts gX10_addPeriod_X10_codeOf rfl rfl rfl (by decide +kernel) ⟨Nat.le_of_ble_eq_true rfl, Nat.le_of_ble_eq_true rfl⟩) okTS rfl rfl hl.1 rfl (lv_room (Nat.le_of_ble_eq_true rfl)) dX10_addPeriod_78 ⟨Nat.le_of_ble_eq_true rfl, Nat.le_of_ble_eq_true rfl⟩)) (fun r_78 h_78 => ?_)
        subst h_78
        refine jn_calli (va_runV (As := [.int (nI s2), .int (nI ln), .int (nI (100 * x1 + 10 * x2 + x3))]) (rest := []) ⟨hx, hb, hml, hown, hts⟩ (c_X3_putPeriod l g tl H.size (sF (sF (sL σ (2 + σ.1 9) (snp σ (σ.2.2 (2 + σ.1 9)))) 9 ((σ.1 9 + 1) % 8)) 10 (min (σ.1 10 + 1) 8)) s2 ln (100 * x1 + 10 * x2 + x3) hC h_3.1 h_3.2 c_49) (cwV 3 hts gX10_addPeriod_X3_putPeriod rfl rfl rfl (by decide +kernel) ⟨Nat.le_of_ble_eq_true rfl, Nat.le_of_ble_eq_true rfl⟩) (okWV hK hP hD rfl (gC4 g (sF (sF (sL σ (2 + σ.1 9) (snp σ (σ.2.2 (2 + σ.1 9)))) 9 ((σ.1 9 + 1) % 8)) 10 (min (σ.1 10 + 1) 8)) tl)) rfl rfl hl.1 rfl (lv_room (Nat.le_of_ble_eq_true rfl)) dX10_addPeriod_81 ⟨Nat.le_of_ble_eq_true rfl, Nat.le_of_ble_eq_true rfl⟩) hD hS hAA (fun r_81 u H locs hw_ hP hD hS => ?_)
        obtain rfl := hw_
        have hP : va_P (g.1, g.2.1) vwCl (wC g (sA (sF (sF (sL σ (2 + σ.1 9) (snp σ (σ.2.2 (2 + σ.1 9)))) 9 ((σ.1 9 + 1) % 8)) 10 (min (σ.1 10 + 1) 8)) 2 (va_up (va_up (σ.2.1 2) (s2 * 21 + 1 + ln * 5 + 2 + (σ.2.1 2) (s2 * 21 + 1 + ln * 5 + 1)) (100 * x1 + 10 * x2 + x3)) (s2 * 21 + 1 + ln * 5 + 1) ((σ.2.1 2) (s2 * 21 + 1 + ln * 5 + 1) + 1))) ++ tl) H := hP
        have hD : va_D A (wC g (sA (sF (sF (sL σ (2 + σ.1 9) (snp σ (σ.2.2 (2 + σ.1 9)))) 9 ((σ.1 9 + 1) % 8)) 10 (min (σ.1 10 + 1) 8)) 2 (va_up (va_up (σ.2.1 2) (s2 * 21 + 1 + ln * 5 + 2 + (σ.2.1 2) (s2 * 21 + 1 + ln * 5 + 1)) (100 * x1 + 10 * x2 + x3)) (s2 * 21 + 1 + ln * 5 + 1) ((σ.2.1 2) (s2 * 21 + 1 + ln * 5 + 1) + 1))) ++ tl) := hD
        exact hq _ _ _ _ _ _ ((nI ((σ.2.1 2) (s2 * 21 + 1 + ln * 5 + 1) + 1))) () (Nat.le_of_ble_eq_true rfl) (Nat.le_of_ble_eq_true rfl) dX10_addPeriod_84 ⟨rfl, h_3, c_14, c_25, c_49⟩ hP hD hS
      · exact hqw _ _ _ _ 52 108 327 112 "java/lang/IllegalStateException" "the linear set has 3 periods" _ () hl.1 dX10_addPeriod_52 dX10_addPeriod_55 dX10_addPeriod_56 dX10_addPeriod_59 dX10_addPeriod_62 ⟨by decide +kernel, by decide +kernel, fun w hw => List.mem_cons_of_mem _ (List.mem_append_left _ (List.mem_append_left _ (List.mem_append_right _ hw))), by decide +kernel, by decide +kernel, by decide +kernel, by decide +kernel, by decide +kernel, Nat.le_of_ble_eq_true rfl, Nat.le_of_ble_eq_true rfl⟩ (Nat.le_of_ble_eq_true rfl) (Nat.le_of_ble_eq_true rfl) (Nat.le_of_ble_eq_true rfl) (Nat.le_of_ble_eq_true rfl) (Or.inr (Or.inr ⟨rfl, ⟨h_3, c_14, c_25, by omega⟩⟩)) hP hD hS
    · exact hqw _ _ _ _ 28 97 322 101 "java/lang/IllegalArgumentException" "a number is out of range, or all are 0" _ () hl.1 dX10_addPeriod_28 dX10_addPeriod_31 dX10_addPeriod_32 dX10_addPeriod_35 dX10_addPeriod_38 ⟨by decide +kernel, by decide +kernel, fun w hw => List.mem_cons_of_mem _ (List.mem_append_left _ (List.mem_append_left _ (List.mem_append_left _ (List.mem_append_right _ hw)))), by decide +kernel, by decide +kernel, by decide +kernel, by decide +kernel, by decide +kernel, Nat.le_of_ble_eq_true rfl, Nat.le_of_ble_eq_true rfl⟩ (Nat.le_of_ble_eq_true rfl) (Nat.le_of_ble_eq_true rfl) (Nat.le_of_ble_eq_true rfl) (Nat.le_of_ble_eq_true rfl) (Or.inr (Or.inl ⟨rfl, ⟨h_3, by first | exact Or.inl c_14 | exact Or.inr c_25⟩⟩)) hP hD hS

abbrev r_c_X10_clearSet : Room := { frames := 7, cells := 1, slots := 6, locals := 150 }
set_option maxHeartbeats 4000000 in
set_option maxRecDepth 100000 in
theorem c_X10_clearSet (l : Launch) (hflg : l.stackTraces = false) (g : GC) (tl : va_W) (sz : Nat) (σ : SS) (s2 : Nat) (hC : OkC (σ.2.1 2)) (hM : OkM σ) (hs2 : s2 < 4294967296) : vx_Met l yX10_clearSet wsX10_clearSet r_c_X10_clearSet (va_Pc [.ref (g.2.2.2 0), .int (nI s2)] (PX g (wC g σ ++ tl) sz)) (va_Qi (fun (r : Int32) (_ : Unit) => (r = nI ((σ.2.1 2) (s2 * 21))) ∧ (s2 < 2)) (fun (_ : Unit) t => BW g (va_A (wC g σ ++ tl) sz) (wC g (sA (sF (sF (sL σ (2 + σ.1 9) (snp σ (σ.2.2 (2 + σ.1 9)))) 9 ((σ.1 9 + 1) % 8)) 10 (min (σ.1 10 + 1) 8)) 2 (va_up (σ.2.1 2) (s2 * 21) 0)) ++ tl) t) (va_A (wC g σ ++ tl) sz)) (XW g (va_A (wC g σ ++ tl) sz) (fun (E : String) (_ : Unit) => (E = "java/lang/IndexOutOfBoundsException" ∧ (¬ s2 < 2))) (fun _ : Unit => wC g σ ++ tl)) 1 6 (va_A (wC g σ ++ tl) sz) := by
  refine jx_i hflg (wf := fun _ : Unit => wC g (sA (sF (sF (sL σ (2 + σ.1 9) (snp σ (σ.2.2 (2 + σ.1 9)))) 9 ((σ.1 9 + 1) % 8)) 10 (min (σ.1 10 + 1) 8)) 2 (va_up (σ.2.1 2) (s2 * 21) 0)) ++ tl) (wx := fun _ : Unit => wC g σ ++ tl) (cc := cX10_clearSet) (maxL := 2) (by decide) rfl rfl (Nat.le_of_ble_eq_true rfl) ?_
  intro p e s m below meth c Q A hx hb hml hown hts hKX hP hD hS hAA hZ hq hqt hqw hqo ls hl
  have hK := hKX.1
  obtain ⟨H, eH⟩ : ∃ z, z = s.heap := ⟨_, rfl⟩
  obtain ⟨locs, el⟩ : ∃ z : List Loc, z = [] := ⟨_, rfl⟩
  rw [← eH] at hP
  have hS : va_S A s.heap H locs := by rw [eH, el]; exact hS
  have goal0 : W p l e r_c_X10_clearSet s m ([.ref (g.2.2.2 0), .int (nI s2)] : List Value).toArray below meth c H locs 0 0 Q (F0 m 0 ls []) → W p l e r_c_X10_clearSet s m ([.ref (g.2.2.2 0), .int (nI s2)] : List Value).toArray below meth c s.heap [] 0 0 Q (F0 m 0 ls []) := fun h => by rw [eH, el] at h; exact h
  refine goal0 ?_
  have hl : lv_has ls 2 [(0, .ref (g.2.2.2 0)), (1, .int (nI s2))] := hl
  have iX10 : ∀ w ∈ wsX100, w ∈ wsX10_clearSet := by decide +kernel
  have k19 := hts (.fieldLink RX10 19 "JumpingAutomata" "sets" "LJumpingAutomata$CountingSets;") (by decide +kernel)
  refine lv_iload_n hx hb dX10_clearSet_0 rfl (lv_at hl 1 rfl) ?_
  refine jx_callv (vx_runS (As := [.int (nI s2)]) (rest := []) ⟨hx, hb, hml, hown, hts⟩ (c_X10_requireSet l hflg g tl H.size σ s2 (by omega)) (va_cwS 1 hts gX10_clearSet_X10_requireSet rfl rfl rfl (by decide +kernel) ⟨Nat.le_of_ble_eq_true rfl, Nat.le_of_ble_eq_true rfl⟩) (okXS hKX hP hD hZ hS hAA) rfl rfl hl.1 rfl (lv_room (Nat.le_of_ble_eq_true rfl)) dX10_clearSet_1 ⟨Nat.le_of_ble_eq_true rfl, Nat.le_of_ble_eq_true rfl⟩) hD hS hAA (fun E ce q9 u H locs hxp hP hD hS h7 h8 h9 => ?_) (fun u H locs hw_ hP hD hS => ?_)
  · have hxp : (E = "java/lang/IndexOutOfBoundsException" ∧ (¬ s2 < 2)) := hxp
    rcases hxp with ⟨eE, hc⟩
    · exact hqo _ _ _ _ _ _ _ _ _ _ () (Nat.le_of_ble_eq_true rfl) (Nat.le_of_ble_eq_true rfl) h7 h8 h9 ⟨eE, (by first | exact hc | omega)⟩ hP hD hS
  have h_1 := hw_
  have h_1 : s2 < 2 := h_1
  have hP : va_P (g.1, g.2.1) vwCl (wC g σ ++ tl) H := hP
  have hD : va_D A (wC g σ ++ tl) := hD
  refine lv_aload_n hx hb dX10_clearSet_4 rfl (lv_at hl 0 rfl) ?_
  refine jn_callv (va_runV (As := []) (rest := []) ⟨hx, hb, hml, hown, hts⟩ (c_X10_beginChange l g tl H.size σ hM) (cwV 0 hts gX10_clearSet_X10_beginChange rfl rfl rfl (by decide +kernel) ⟨Nat.le_of_ble_eq_true rfl, Nat.le_of_ble_eq_true rfl⟩) (okWV hK hP hD rfl (gC0 g σ tl)) rfl rfl hl.1 rfl (lv_room (Nat.le_of_ble_eq_true rfl)) dX10_clearSet_5 ⟨Nat.le_of_ble_eq_true rfl, Nat.le_of_ble_eq_true rfl⟩) hD hS hAA (fun u H locs hw_ hP hD hS => ?_)
  have hP : va_P (g.1, g.2.1) vwCl (wC g (sF (sF (sL σ (2 + σ.1 9) (snp σ (σ.2.2 (2 + σ.1 9)))) 9 ((σ.1 9 + 1) % 8)) 10 (min (σ.1 10 + 1) 8)) ++ tl) H := hP
  have hD : va_D A (wC g (sF (sF (sL σ (2 + σ.1 9) (snp σ (σ.2.2 (2 + σ.1 9)))) 9 ((σ.1 9 + 1) % 8)) 10 (min (σ.1 10 + 1) 8)) ++ tl) := hD
  refine lv_aload_n hx hb dX10_clearSet_8 rfl (lv_at hl 0 rfl) ?_
  refine va_get (D := (g.1, g.2.1)) (ci := 12) (v := .ref (g.2.2.2 4)) (C := RX10) (T := TX10) (N := 15) hx hb hts iX10 hown hK.1 hP 0 (gC0 g (sF (sF (sL σ (2 + σ.1 9) (snp σ (σ.2.2 (2 + σ.1 9)))) 9 ((σ.1 9 + 1) % 8)) 10 (min (σ.1 10 + 1) 8)) tl) rfl 1 (by decide) k19 (fun _ h9 => h9) rfl dX10_clearSet_9 ?_
  refine lv_iload_n hx hb dX10_clearSet_12 rfl (lv_at hl 1 rfl) ?_
  refine jn_calli (va_runV (As := [.int (nI s2)]) (rest := []) ⟨hx, hb, hml, hown, hts⟩ (c_X3_wipe l g tl H.size (sF (sF (sL σ (2 + σ.1 9) (snp σ (σ.2.2 (2 + σ.1 9)))) 9 ((σ.1 9 + 1) % 8)) 10 (min (σ.1 10 + 1) 8)) s2 hC h_1) (cwV 1 hts gX10_clearSet_X3_wipe rfl rfl rfl (by decide +kernel) ⟨Nat.le_of_ble_eq_true rfl, Nat.le_of_ble_eq_true rfl⟩) (okWV hK hP hD rfl (gC4 g (sF (sF (sL σ (2 + σ.1 9) (snp σ (σ.2.2 (2 + σ.1 9)))) 9 ((σ.1 9 + 1) % 8)) 10 (min (σ.1 10 + 1) 8)) tl)) rfl rfl hl.1 rfl (lv_room (Nat.le_of_ble_eq_true rfl)) dX10_clearSet_13 ⟨Nat.le_of_ble_eq_true rfl, Nat.le_of_ble_eq_true rfl⟩) hD hS hAA (fun r_13 u H locs hw_ hP hD hS => ?_)
  obtain rfl := hw_
  have hP : va_P (g.1, g.2.1) vwCl (wC g (sA (sF (sF (sL σ (2 + σ.1 9) (snp σ (σ.2.2 (2 + σ.1 9)))) 9 ((σ.1 9 + 1) % 8)) 10 (min (σ.1 10 + 1) 8)) 2 (va_up (σ.2.1 2) (s2 * 21) 0)) ++ tl) H := hP
  have hD : va_D A (wC g (sA (sF (sF (sL σ (2 + σ.1 9) (snp σ (σ.2.2 (2 + σ.1 9)))) 9 ((σ.1 9 + 1) % 8)) 10 (min (σ.1 10 + 1) 8)) 2 (va_up (σ.2.1 2) (s2 * 21) 0)) ++ tl) := hD
  exact hq _ _ _ _ _ _ ((nI ((σ.2.1 2) (s2 * 21)))) () (Nat.le_of_ble_eq_true rfl) (Nat.le_of_ble_eq_true rfl) dX10_clearSet_16 ⟨rfl, h_1⟩ hP hD hS

abbrev r_c_X10_contains : Room := { frames := 7, cells := 2, slots := 12, locals := 118 }
set_option maxHeartbeats 4000000 in
set_option maxRecDepth 100000 in
theorem c_X10_contains (l : Launch) (hflg : l.stackTraces = false) (g : GC) (tl : va_W) (sz : Nat) (σ : SS) (s2 x1 x2 x3 : Nat) (hC : OkC (σ.2.1 2)) (hs2 : s2 < 4294967296) (hx1 : x1 < 4294967296) (hx2 : x2 < 4294967296) (hx3 : x3 < 4294967296) : vx_Met l yX10_contains wsX10_contains r_c_X10_contains (va_Pc [.ref (g.2.2.2 0), .int (nI s2), .int (nI x1), .int (nI x2), .int (nI x3)] (PX g (wC g σ ++ tl) sz)) (va_Qi (fun (r : Int32) (z : Nat × (Nat → Nat)) => match z with | (b, f16) => (r = nI (b)) ∧ (s2 < 2) ∧ (x1 < 10 ∧ x2 < 10 ∧ x3 < 10) ∧ ((b = 1 ∧ mbS (σ.2.1 2) s2 x1 x2 x3) ∨ (b = 0 ∧ ¬ mbS (σ.2.1 2) s2 x1 x2 x3))) (fun (z : Nat × (Nat → Nat)) t => BW g (va_A (wC g σ ++ tl) sz) ((fun z : Nat × (Nat → Nat) => match z with | (b, f16) => wC g (sA σ 16 f16) ++ tl) z) t) (va_A (wC g σ ++ tl) sz)) (XW g (va_A (wC g σ ++ tl) sz) (fun (E : String) (_ : Unit) => (E = "java/lang/IndexOutOfBoundsException" ∧ (¬ s2 < 2)) ∨ (E = "java/lang/IllegalArgumentException" ∧ (s2 < 2 ∧ ¬ (x1 < 10 ∧ x2 < 10 ∧ x3 < 10)))) (fun _ : Unit => wC g σ ++ tl)) 2 12 (va_A (wC g σ ++ tl) sz) := by
  refine jx_z hflg (wf := fun z : Nat × (Nat → Nat) => match z with | (b, f16) => wC g (sA σ 16 f16) ++ tl) (wx := fun _ : Unit => wC g σ ++ tl) (cc := cX10_contains) (maxL := 5) (by decide) rfl rfl (Nat.le_of_ble_eq_true rfl) ?_
  intro p e s m below meth c Q A hx hb hml hown hts hKX hP hD hS hAA hZ hq hqt hqw hqo ls hl
  have hK := hKX.1
  obtain ⟨H, eH⟩ : ∃ z, z = s.heap := ⟨_, rfl⟩
  obtain ⟨locs, el⟩ : ∃ z : List Loc, z = [] := ⟨_, rfl⟩
  rw [← eH] at hP
  have hS : va_S A s.heap H locs := by rw [eH, el]; exact hS
  have goal0 : W p l e r_c_X10_contains s m ([.ref (g.2.2.2 0), .int (nI s2), .int (nI x1), .int (nI x2), .int (nI x3)] : List Value).toArray below meth c H locs 0 0 Q (F0 m 0 ls []) → W p l e r_c_X10_contains s m ([.ref (g.2.2.2 0), .int (nI s2), .int (nI x1), .int (nI x2), .int (nI x3)] : List Value).toArray below meth c s.heap [] 0 0 Q (F0 m 0 ls []) := fun h => by rw [eH, el] at h; exact h
  refine goal0 ?_
  have hl : lv_has ls 5 [(0, .ref (g.2.2.2 0)), (1, .int (nI s2)), (2, .int (nI x1)), (3, .int (nI x2)), (4, .int (nI x3))] := hl
  have iX10 : ∀ w ∈ wsX100, w ∈ wsX10_contains := by decide +kernel
  have k52 := hts (.fieldLink RX10 52 "JumpingAutomata" "members" "LJumpingAutomata$CountsTable;") (by decide +kernel)
  have k19 := hts (.fieldLink RX10 19 "JumpingAutomata" "sets" "LJumpingAutomata$CountingSets;") (by decide +kernel)
  refine lv_iload_n hx hb dX10_contains_0 rfl (lv_at hl 1 rfl) ?_
  refine jx_callv (vx_runS (As := [.int (nI s2)]) (rest := []) ⟨hx, hb, hml, hown, hts⟩ (c_X10_requireSet l hflg g tl H.size σ s2 (by omega)) (va_cwS 1 hts gX10_contains_X10_requireSet rfl rfl rfl (by decide +kernel) ⟨Nat.le_of_ble_eq_true rfl, Nat.le_of_ble_eq_true rfl⟩) (okXS hKX hP hD hZ hS hAA) rfl rfl hl.1 rfl (lv_room (Nat.le_of_ble_eq_true rfl)) dX10_contains_1 ⟨Nat.le_of_ble_eq_true rfl, Nat.le_of_ble_eq_true rfl⟩) hD hS hAA (fun E ce q9 u H locs hxp hP hD hS h7 h8 h9 => ?_) (fun u H locs hw_ hP hD hS => ?_)
  · have hxp : (E = "java/lang/IndexOutOfBoundsException" ∧ (¬ s2 < 2)) := hxp
    rcases hxp with ⟨eE, hc⟩
    · exact hqo _ _ _ _ _ _ _ _ _ _ () (Nat.le_of_ble_eq_true rfl) (Nat.le_of_ble_eq_true rfl) h7 h8 h9 (Or.inl ⟨eE, (by first | exact hc | omega)⟩) hP hD hS
  have h_1 := hw_
  have h_1 : s2 < 2 := h_1
  have hP : va_P (g.1, g.2.1) vwCl (wC g σ ++ tl) H := hP
  have hD : va_D A (wC g σ ++ tl) := hD
  refine lv_iload_n hx hb dX10_contains_4 rfl (lv_at hl 2 rfl) ?_
  refine lv_iload_n hx hb dX10_contains_5 rfl (lv_at hl 3 rfl) ?_
  refine lv_iload hx hb dX10_contains_6 (lv_at hl 4 rfl) ?_
  refine jx_callv (vx_runS (As := [.int (nI x1), .int (nI x2), .int (nI x3)]) (rest := []) ⟨hx, hb, hml, hown, hts⟩ (c_X10_requireDigits l hflg g tl H.size σ x1 x2 x3 hx1 hx2 hx3) (va_cwS 3 hts gX10_contains_X10_requireDigits rfl rfl rfl (by decide +kernel) ⟨Nat.le_of_ble_eq_true rfl, Nat.le_of_ble_eq_true rfl⟩) (okXS hKX hP hD hZ hS hAA) rfl rfl hl.1 rfl (lv_room (Nat.le_of_ble_eq_true rfl)) dX10_contains_8 ⟨Nat.le_of_ble_eq_true rfl, Nat.le_of_ble_eq_true rfl⟩) hD hS hAA (fun E ce q9 u H locs hxp hP hD hS h7 h8 h9 => ?_) (fun u H locs hw_ hP hD hS => ?_)
  · have hxp : (E = "java/lang/IllegalArgumentException" ∧ (¬ (x1 < 10 ∧ x2 < 10 ∧ x3 < 10))) := hxp
    rcases hxp with ⟨eE, hc⟩
    · exact hqo _ _ _ _ _ _ _ _ _ _ () (Nat.le_of_ble_eq_true rfl) (Nat.le_of_ble_eq_true rfl) h7 h8 h9 (Or.inr ⟨eE, ⟨h_1, hc⟩⟩) hP hD hS
  have h_8 := hw_
  have h_8 : x1 < 10 ∧ x2 < 10 ∧ x3 < 10 := h_8
  have hP : va_P (g.1, g.2.1) vwCl (wC g σ ++ tl) H := hP
  have hD : va_D A (wC g σ ++ tl) := hD
  refine lv_aload_n hx hb dX10_contains_11 rfl (lv_at hl 0 rfl) ?_
  refine va_get (D := (g.1, g.2.1)) (ci := 12) (v := .ref (g.2.2.2 23)) (C := RX10) (T := TX10) (N := 15) hx hb hts iX10 hown hK.1 hP 0 (gC0 g σ tl) rfl 7 (by decide) k52 (fun _ h9 => h9) rfl dX10_contains_12 ?_
  refine lv_aload_n hx hb dX10_contains_15 rfl (lv_at hl 0 rfl) ?_
  refine va_get (D := (g.1, g.2.1)) (ci := 12) (v := .ref (g.2.2.2 4)) (C := RX10) (T := TX10) (N := 15) hx hb hts iX10 hown hK.1 hP 0 (gC0 g σ tl) rfl 1 (by decide) k19 (fun _ h9 => h9) rfl dX10_contains_16 ?_
  refine lv_iload_n hx hb dX10_contains_19 rfl (lv_at hl 1 rfl) ?_
  refine lv_iload_n hx hb dX10_contains_20 rfl (lv_at hl 2 rfl) ?_
  refine lv_iload_n hx hb dX10_contains_21 rfl (lv_at hl 3 rfl) ?_
  refine lv_iload hx hb dX10_contains_22 (lv_at hl 4 rfl) ?_
  refine jn_callv (va_runV (As := [.ref (g.2.2.2 4), .int (nI s2), .int (nI x1), .int (nI x2), .int (nI x3)]) (rest := []) ⟨hx, hb, hml, hown, hts⟩ (c_X5_fillMembers_23 l g tl H.size σ s2 x1 x2 x3 hC h_1 h_8.1 h_8.2.1 h_8.2.2) (cwV 5 hts gX10_contains_X5_fillMembers rfl rfl rfl (by decide +kernel) ⟨Nat.le_of_ble_eq_true rfl, Nat.le_of_ble_eq_true rfl⟩) (okWV hK hP hD rfl (gC23 g σ tl)) rfl rfl hl.1 rfl (lv_room (Nat.le_of_ble_eq_true rfl)) dX10_contains_24 ⟨Nat.le_of_ble_eq_true rfl, Nat.le_of_ble_eq_true rfl⟩) hD hS hAA (fun u H locs hw_ hP hD hS => ?_)
  obtain ⟨f_24, rfl⟩ : ∃ z, z = u := ⟨_, rfl⟩
  have h_24 := hw_
  have h_24 : Mbr (σ.2.1 2) f_24 s2 x1 x2 x3 ((σ.2.1 2) (s2 * 21)) := h_24
  have hP : va_P (g.1, g.2.1) vwCl (wC g (sA σ 16 f_24) ++ tl) H := hP
  have hD : va_D A (wC g (sA σ 16 f_24) ++ tl) := hD
  have hv16 := mb_16 h_24 (hC s2 h_1).1 (Nat.le_refl x1) (Nat.le_refl x2) (Nat.le_refl x3)
  have hmb := mb_bits h_24 (Nat.le_refl x1) (Nat.le_refl x2) (Nat.le_refl x3)
  refine lv_aload_n hx hb dX10_contains_27 rfl (lv_at hl 0 rfl) ?_
  refine va_get (D := (g.1, g.2.1)) (ci := 12) (v := .ref (g.2.2.2 23)) (C := RX10) (T := TX10) (N := 15) hx hb hts iX10 hown hK.1 hP 0 (gC0 g (sA σ 16 f_24) tl) rfl 7 (by decide) k52 (fun _ h9 => h9) rfl dX10_contains_28 ?_
  refine lv_iload_n hx hb dX10_contains_31 rfl (lv_at hl 2 rfl) ?_
  refine lv_iload_n hx hb dX10_contains_32 rfl (lv_at hl 3 rfl) ?_
  refine lv_iload hx hb dX10_contains_33 (lv_at hl 4 rfl) ?_
  refine vp_callSi (va_Run.run (va_runS (As := [.int (nI x1), .int (nI x2), .int (nI x3)]) (rest := [.ref (g.2.2.2 23)]) ⟨hx, hb, hml, hown, hts⟩ (c_X10_codeOf l x1 x2 x3) (va_cwS 3 hts gX10_contains_X10_codeOf rfl rfl rfl (by decide +kernel) ⟨Nat.le_of_ble_eq_true rfl, Nat.le_of_ble_eq_true rfl⟩) okTS rfl rfl hl.1 rfl (lv_room (Nat.le_of_ble_eq_true rfl)) dX10_contains_35 ⟨Nat.le_of_ble_eq_true rfl, Nat.le_of_ble_eq_true rfl⟩)) (fun r_35 h_35 => ?_)
  subst h_35
  refine vp_callSi (va_Run.run (va_runV (As := [.int (nI (100 * x1 + 10 * x2 + x3))]) (rest := []) ⟨hx, hb, hml, hown, hts⟩ (c_X5_at_23 l g tl (sA σ 16 f_24) (100 * x1 + 10 * x2 + x3) (by omega)) (cwV 1 hts gX10_contains_X5_at rfl rfl rfl (by decide +kernel) ⟨Nat.le_of_ble_eq_true rfl, Nat.le_of_ble_eq_true rfl⟩) (okPV hK hP rfl (gC23 g (sA σ 16 f_24) tl)) rfl rfl hl.1 rfl (lv_room (Nat.le_of_ble_eq_true rfl)) dX10_contains_38 ⟨Nat.le_of_ble_eq_true rfl, Nat.le_of_ble_eq_true rfl⟩)) (fun r_38 h_38 => ?_)
  have h_38 : r_38 = (nI ((f_24) (100 * x1 + 10 * x2 + x3))) := h_38
  subst h_38
  refine jn_zeq hx hb (by omega) (tgt := 48) dX10_contains_41 (by decide) (fun c_41 => ?_) (fun c_41 => ?_)
  · refine lv_iconst (v := nI 0) hx hb dX10_contains_48 (by decide) ?_
    exact hq _ _ _ _ _ _ ((nI 0)) (0, f_24) (Nat.le_of_ble_eq_true rfl) (Nat.le_of_ble_eq_true rfl) dX10_contains_49 jn_n0 ⟨rfl, h_1, h_8, by first | exact Or.inl ⟨rfl, hmb.mp c_41⟩ | exact Or.inr ⟨rfl, fun q => hmb.mpr q c_41⟩⟩ hP hD hS
  · refine lv_iconst (v := nI 1) hx hb dX10_contains_44 (by decide) ?_
    refine lv_goto (tgt := 49) hx hb dX10_contains_45 (by decide) ?_
    exact hq _ _ _ _ _ _ ((nI 1)) (1, f_24) (Nat.le_of_ble_eq_true rfl) (Nat.le_of_ble_eq_true rfl) dX10_contains_49 jn_n1 ⟨rfl, h_1, h_8, by first | exact Or.inl ⟨rfl, hmb.mp c_41⟩ | exact Or.inr ⟨rfl, fun q => hmb.mpr q c_41⟩⟩ hP hD hS

abbrev r_c_X10_elements : Room := { frames := 7, cells := 2, slots := 12, locals := 118 }
set_option maxHeartbeats 4000000 in
set_option maxRecDepth 100000 in
theorem c_X10_elements (l : Launch) (hflg : l.stackTraces = false) (g : GC) (tl : va_W) (sz : Nat) (σ : SS) (s2 bd : Nat) (hC : OkC (σ.2.1 2)) (hs2 : s2 < 4294967296) (hbd : bd < 4294967296) : vx_Met l yX10_elements wsX10_elements r_c_X10_elements (va_Pc [.ref (g.2.2.2 0), .int (nI s2), .int (nI bd)] (PX g (wC g σ ++ tl) sz)) (va_Qi (fun (r : Int32) (f16 : (Nat → Nat)) => (r = nI (cnt3 (fun a b c => decide (f16 (100 * a + 10 * b + c) &&& 15 ≠ 0)) (bd + 1))) ∧ (s2 < 2) ∧ (bd < 7) ∧ (Mbr (σ.2.1 2) f16 s2 bd bd bd ((σ.2.1 2) (s2 * 21)))) (fun (f16 : (Nat → Nat)) t => BW g (va_A (wC g σ ++ tl) sz) (wC g (sA σ 16 f16) ++ tl) t) (va_A (wC g σ ++ tl) sz)) (XW g (va_A (wC g σ ++ tl) sz) (fun (E : String) (_ : Unit) => (E = "java/lang/IndexOutOfBoundsException" ∧ (¬ s2 < 2)) ∨ (E = "java/lang/IllegalArgumentException" ∧ (s2 < 2 ∧ ¬ bd < 7))) (fun _ : Unit => wC g σ ++ tl)) 2 12 (va_A (wC g σ ++ tl) sz) := by
  refine jx_i hflg (wf := fun f16 : (Nat → Nat) => wC g (sA σ 16 f16) ++ tl) (wx := fun _ : Unit => wC g σ ++ tl) (cc := cX10_elements) (maxL := 3) (by decide) rfl rfl (Nat.le_of_ble_eq_true rfl) ?_
  intro p e s m below meth c Q A hx hb hml hown hts hKX hP hD hS hAA hZ hq hqt hqw hqo ls hl
  have hK := hKX.1
  obtain ⟨H, eH⟩ : ∃ z, z = s.heap := ⟨_, rfl⟩
  obtain ⟨locs, el⟩ : ∃ z : List Loc, z = [] := ⟨_, rfl⟩
  rw [← eH] at hP
  have hS : va_S A s.heap H locs := by rw [eH, el]; exact hS
  have goal0 : W p l e r_c_X10_elements s m ([.ref (g.2.2.2 0), .int (nI s2), .int (nI bd)] : List Value).toArray below meth c H locs 0 0 Q (F0 m 0 ls []) → W p l e r_c_X10_elements s m ([.ref (g.2.2.2 0), .int (nI s2), .int (nI bd)] : List Value).toArray below meth c s.heap [] 0 0 Q (F0 m 0 ls []) := fun h => by rw [eH, el] at h; exact h
  refine goal0 ?_
  have hl : lv_has ls 3 [(0, .ref (g.2.2.2 0)), (1, .int (nI s2)), (2, .int (nI bd))] := hl
  have iX10 : ∀ w ∈ wsX100, w ∈ wsX10_elements := by decide +kernel
  have k52 := hts (.fieldLink RX10 52 "JumpingAutomata" "members" "LJumpingAutomata$CountsTable;") (by decide +kernel)
  have k19 := hts (.fieldLink RX10 19 "JumpingAutomata" "sets" "LJumpingAutomata$CountingSets;") (by decide +kernel)
  refine lv_iload_n hx hb dX10_elements_0 rfl (lv_at hl 1 rfl) ?_
  refine jx_callv (vx_runS (As := [.int (nI s2)]) (rest := []) ⟨hx, hb, hml, hown, hts⟩ (c_X10_requireSet l hflg g tl H.size σ s2 (by omega)) (va_cwS 1 hts gX10_elements_X10_requireSet rfl rfl rfl (by decide +kernel) ⟨Nat.le_of_ble_eq_true rfl, Nat.le_of_ble_eq_true rfl⟩) (okXS hKX hP hD hZ hS hAA) rfl rfl hl.1 rfl (lv_room (Nat.le_of_ble_eq_true rfl)) dX10_elements_1 ⟨Nat.le_of_ble_eq_true rfl, Nat.le_of_ble_eq_true rfl⟩) hD hS hAA (fun E ce q9 u H locs hxp hP hD hS h7 h8 h9 => ?_) (fun u H locs hw_ hP hD hS => ?_)
  · have hxp : (E = "java/lang/IndexOutOfBoundsException" ∧ (¬ s2 < 2)) := hxp
    rcases hxp with ⟨eE, hc⟩
    · exact hqo _ _ _ _ _ _ _ _ _ _ () (Nat.le_of_ble_eq_true rfl) (Nat.le_of_ble_eq_true rfl) h7 h8 h9 (Or.inl ⟨eE, (by first | exact hc | omega)⟩) hP hD hS
  have h_1 := hw_
  have h_1 : s2 < 2 := h_1
  have hP : va_P (g.1, g.2.1) vwCl (wC g σ ++ tl) H := hP
  have hD : va_D A (wC g σ ++ tl) := hD
  refine lv_iload_n hx hb dX10_elements_4 rfl (lv_at hl 2 rfl) ?_
  refine jx_callv (vx_runS (As := [.int (nI bd)]) (rest := []) ⟨hx, hb, hml, hown, hts⟩ (c_X10_requireBound l hflg g tl H.size σ bd (by omega)) (va_cwS 1 hts gX10_elements_X10_requireBound rfl rfl rfl (by decide +kernel) ⟨Nat.le_of_ble_eq_true rfl, Nat.le_of_ble_eq_true rfl⟩) (okXS hKX hP hD hZ hS hAA) rfl rfl hl.1 rfl (lv_room (Nat.le_of_ble_eq_true rfl)) dX10_elements_5 ⟨Nat.le_of_ble_eq_true rfl, Nat.le_of_ble_eq_true rfl⟩) hD hS hAA (fun E ce q9 u H locs hxp hP hD hS h7 h8 h9 => ?_) (fun u H locs hw_ hP hD hS => ?_)
  · have hxp : (E = "java/lang/IllegalArgumentException" ∧ (¬ bd < 7)) := hxp
    rcases hxp with ⟨eE, hc⟩
    · exact hqo _ _ _ _ _ _ _ _ _ _ () (Nat.le_of_ble_eq_true rfl) (Nat.le_of_ble_eq_true rfl) h7 h8 h9 (Or.inr ⟨eE, ⟨h_1, hc⟩⟩) hP hD hS
  have h_5 := hw_
  have h_5 : bd < 7 := h_5
  have hP : va_P (g.1, g.2.1) vwCl (wC g σ ++ tl) H := hP
  have hD : va_D A (wC g σ ++ tl) := hD
  refine lv_aload_n hx hb dX10_elements_8 rfl (lv_at hl 0 rfl) ?_
  refine va_get (D := (g.1, g.2.1)) (ci := 12) (v := .ref (g.2.2.2 23)) (C := RX10) (T := TX10) (N := 15) hx hb hts iX10 hown hK.1 hP 0 (gC0 g σ tl) rfl 7 (by decide) k52 (fun _ h9 => h9) rfl dX10_elements_9 ?_
  refine lv_aload_n hx hb dX10_elements_12 rfl (lv_at hl 0 rfl) ?_
  refine va_get (D := (g.1, g.2.1)) (ci := 12) (v := .ref (g.2.2.2 4)) (C := RX10) (T := TX10) (N := 15) hx hb hts iX10 hown hK.1 hP 0 (gC0 g σ tl) rfl 1 (by decide) k19 (fun _ h9 => h9) rfl dX10_elements_13 ?_
  refine lv_iload_n hx hb dX10_elements_16 rfl (lv_at hl 1 rfl) ?_
  refine lv_iload_n hx hb dX10_elements_17 rfl (lv_at hl 2 rfl) ?_
  refine lv_iload_n hx hb dX10_elements_18 rfl (lv_at hl 2 rfl) ?_
  refine lv_iload_n hx hb dX10_elements_19 rfl (lv_at hl 2 rfl) ?_
  refine jn_callv (va_runV (As := [.ref (g.2.2.2 4), .int (nI s2), .int (nI bd), .int (nI bd), .int (nI bd)]) (rest := []) ⟨hx, hb, hml, hown, hts⟩ (c_X5_fillMembers_23 l g tl H.size σ s2 bd bd bd hC h_1 (by omega) (by omega) (by omega)) (cwV 5 hts gX10_elements_X5_fillMembers rfl rfl rfl (by decide +kernel) ⟨Nat.le_of_ble_eq_true rfl, Nat.le_of_ble_eq_true rfl⟩) (okWV hK hP hD rfl (gC23 g σ tl)) rfl rfl hl.1 rfl (lv_room (Nat.le_of_ble_eq_true rfl)) dX10_elements_20 ⟨Nat.le_of_ble_eq_true rfl, Nat.le_of_ble_eq_true rfl⟩) hD hS hAA (fun u H locs hw_ hP hD hS => ?_)
  obtain ⟨f_20, rfl⟩ : ∃ z, z = u := ⟨_, rfl⟩
  have h_20 := hw_
  have h_20 : Mbr (σ.2.1 2) f_20 s2 bd bd bd ((σ.2.1 2) (s2 * 21)) := h_20
  have hP : va_P (g.1, g.2.1) vwCl (wC g (sA σ 16 f_20) ++ tl) H := hP
  have hD : va_D A (wC g (sA σ 16 f_20) ++ tl) := hD
  refine lv_aload_n hx hb dX10_elements_23 rfl (lv_at hl 0 rfl) ?_
  refine va_get (D := (g.1, g.2.1)) (ci := 12) (v := .ref (g.2.2.2 23)) (C := RX10) (T := TX10) (N := 15) hx hb hts iX10 hown hK.1 hP 0 (gC0 g (sA σ 16 f_20) tl) rfl 7 (by decide) k52 (fun _ h9 => h9) rfl dX10_elements_24 ?_
  refine lv_bipush (v := nI 15) hx hb dX10_elements_27 (by decide) ?_
  refine lv_iload_n hx hb dX10_elements_29 rfl (lv_at hl 2 rfl) ?_
  refine vp_callSi (va_Run.run (va_runV (As := [.int (nI 15), .int (nI bd)]) (rest := []) ⟨hx, hb, hml, hown, hts⟩ (c_X5_countMeeting_23 l g tl (sA σ 16 f_20) 15 bd (by decide) (by omega)) (cwV 2 hts gX10_elements_X5_countMeeting rfl rfl rfl (by decide +kernel) ⟨Nat.le_of_ble_eq_true rfl, Nat.le_of_ble_eq_true rfl⟩) (okPV hK hP rfl (gC23 g (sA σ 16 f_20) tl)) rfl rfl hl.1 rfl (lv_room (Nat.le_of_ble_eq_true rfl)) dX10_elements_30 ⟨Nat.le_of_ble_eq_true rfl, Nat.le_of_ble_eq_true rfl⟩)) (fun r_30 h_30 => ?_)
  have h_30 : r_30 = (nI (cnt3 (fun a b c => decide ((f_20) (100 * a + 10 * b + c) &&& 15 ≠ 0)) (bd + 1))) := h_30
  subst h_30
  exact hq _ _ _ _ _ _ ((nI (cnt3 (fun a b c => decide ((f_20) (100 * a + 10 * b + c) &&& 15 ≠ 0)) (bd + 1)))) (f_20) (Nat.le_of_ble_eq_true rfl) (Nat.le_of_ble_eq_true rfl) dX10_elements_33 ⟨rfl, h_1, h_5, h_20⟩ hP hD hS

abbrev r_c_X10_reachedCounts : Room := { frames := 7, cells := 1, slots := 6, locals := 102 }
set_option maxHeartbeats 4000000 in
set_option maxRecDepth 100000 in
theorem c_X10_reachedCounts (l : Launch) (hflg : l.stackTraces = false) (g : GC) (tl : va_W) (sz : Nat) (σ : SS) (bd : Nat) (hA : OkA σ) (hbd : bd < 4294967296) : vx_Met l yX10_reachedCounts wsX10_reachedCounts r_c_X10_reachedCounts (va_Pc [.ref (g.2.2.2 0), .int (nI bd)] (PX g (wC g σ ++ tl) sz)) (va_Qi (fun (r : Int32) (f15 : (Nat → Nat)) => (r = nI (cnt3 (fun a b c => decide (rch (σ.2.1 0) a b c &&& (σ.1 0) ≠ 0)) (bd + 1))) ∧ (bd < 7)) (fun (f15 : (Nat → Nat)) t => BW g (va_A (wC g σ ++ tl) sz) (wC g (sA σ 15 f15) ++ tl) t) (va_A (wC g σ ++ tl) sz)) (XW g (va_A (wC g σ ++ tl) sz) (fun (E : String) (_ : Unit) => (E = "java/lang/IllegalArgumentException" ∧ (¬ bd < 7))) (fun _ : Unit => wC g σ ++ tl)) 1 6 (va_A (wC g σ ++ tl) sz) := by
  refine jx_i hflg (wf := fun f15 : (Nat → Nat) => wC g (sA σ 15 f15) ++ tl) (wx := fun _ : Unit => wC g σ ++ tl) (cc := cX10_reachedCounts) (maxL := 2) (by decide) rfl rfl (Nat.le_of_ble_eq_true rfl) ?_
  intro p e s m below meth c Q A hx hb hml hown hts hKX hP hD hS hAA hZ hq hqt hqw hqo ls hl
  have hK := hKX.1
  obtain ⟨H, eH⟩ : ∃ z, z = s.heap := ⟨_, rfl⟩
  obtain ⟨locs, el⟩ : ∃ z : List Loc, z = [] := ⟨_, rfl⟩
  rw [← eH] at hP
  have hS : va_S A s.heap H locs := by rw [eH, el]; exact hS
  have goal0 : W p l e r_c_X10_reachedCounts s m ([.ref (g.2.2.2 0), .int (nI bd)] : List Value).toArray below meth c H locs 0 0 Q (F0 m 0 ls []) → W p l e r_c_X10_reachedCounts s m ([.ref (g.2.2.2 0), .int (nI bd)] : List Value).toArray below meth c s.heap [] 0 0 Q (F0 m 0 ls []) := fun h => by rw [eH, el] at h; exact h
  refine goal0 ?_
  have hl : lv_has ls 2 [(0, .ref (g.2.2.2 0)), (1, .int (nI bd))] := hl
  have iX10 : ∀ w ∈ wsX100, w ∈ wsX10_reachedCounts := by decide +kernel
  have iX0 : ∀ w ∈ wsX00, w ∈ wsX10_reachedCounts := by decide +kernel
  have k48 := hts (.fieldLink RX10 48 "JumpingAutomata" "reached" "LJumpingAutomata$CountsTable;") (by decide +kernel)
  have k12 := hts (.fieldLink RX10 12 "JumpingAutomata" "automaton" "LJumpingAutomata$Automaton;") (by decide +kernel)
  have k344 := hts (.fieldLink RX10 344 "JumpingAutomata$Automaton" "finals" "I") (by decide +kernel)
  refine lv_iload_n hx hb dX10_reachedCounts_0 rfl (lv_at hl 1 rfl) ?_
  refine jx_callv (vx_runS (As := [.int (nI bd)]) (rest := []) ⟨hx, hb, hml, hown, hts⟩ (c_X10_requireBound l hflg g tl H.size σ bd (by omega)) (va_cwS 1 hts gX10_reachedCounts_X10_requireBound rfl rfl rfl (by decide +kernel) ⟨Nat.le_of_ble_eq_true rfl, Nat.le_of_ble_eq_true rfl⟩) (okXS hKX hP hD hZ hS hAA) rfl rfl hl.1 rfl (lv_room (Nat.le_of_ble_eq_true rfl)) dX10_reachedCounts_1 ⟨Nat.le_of_ble_eq_true rfl, Nat.le_of_ble_eq_true rfl⟩) hD hS hAA (fun E ce q9 u H locs hxp hP hD hS h7 h8 h9 => ?_) (fun u H locs hw_ hP hD hS => ?_)
  · have hxp : (E = "java/lang/IllegalArgumentException" ∧ (¬ bd < 7)) := hxp
    rcases hxp with ⟨eE, hc⟩
    · exact hqo _ _ _ _ _ _ _ _ _ _ () (Nat.le_of_ble_eq_true rfl) (Nat.le_of_ble_eq_true rfl) h7 h8 h9 ⟨eE, (by first | exact hc | omega)⟩ hP hD hS
  have h_1 := hw_
  have h_1 : bd < 7 := h_1
  have hP : va_P (g.1, g.2.1) vwCl (wC g σ ++ tl) H := hP
  have hD : va_D A (wC g σ ++ tl) := hD
  refine lv_aload_n hx hb dX10_reachedCounts_4 rfl (lv_at hl 0 rfl) ?_
  refine va_get (D := (g.1, g.2.1)) (ci := 12) (v := .ref (g.2.2.2 21)) (C := RX10) (T := TX10) (N := 15) hx hb hts iX10 hown hK.1 hP 0 (gC0 g σ tl) rfl 6 (by decide) k48 (fun _ h9 => h9) rfl dX10_reachedCounts_5 ?_
  refine lv_aload_n hx hb dX10_reachedCounts_8 rfl (lv_at hl 0 rfl) ?_
  refine va_get (D := (g.1, g.2.1)) (ci := 12) (v := .ref (g.2.2.2 1)) (C := RX10) (T := TX10) (N := 15) hx hb hts iX10 hown hK.1 hP 0 (gC0 g σ tl) rfl 0 (by decide) k12 (fun _ h9 => h9) rfl dX10_reachedCounts_9 ?_
  refine lv_iload_n hx hb dX10_reachedCounts_12 rfl (lv_at hl 1 rfl) ?_
  refine lv_iload_n hx hb dX10_reachedCounts_13 rfl (lv_at hl 1 rfl) ?_
  refine lv_iload_n hx hb dX10_reachedCounts_14 rfl (lv_at hl 1 rfl) ?_
  refine jn_callv (va_runV (As := [.ref (g.2.2.2 1), .int (nI bd), .int (nI bd), .int (nI bd)]) (rest := []) ⟨hx, hb, hml, hown, hts⟩ (c_X5_fillReached_21 l g tl H.size σ bd bd bd hA (by omega) (by omega) (by omega)) (cwV 4 hts gX10_reachedCounts_X5_fillReached rfl rfl rfl (by decide +kernel) ⟨Nat.le_of_ble_eq_true rfl, Nat.le_of_ble_eq_true rfl⟩) (okWV hK hP hD rfl (gC21 g σ tl)) rfl rfl hl.1 rfl (lv_room (Nat.le_of_ble_eq_true rfl)) dX10_reachedCounts_15 ⟨Nat.le_of_ble_eq_true rfl, Nat.le_of_ble_eq_true rfl⟩) hD hS hAA (fun u H locs hw_ hP hD hS => ?_)
  obtain ⟨f_15, rfl⟩ : ∃ z, z = u := ⟨_, rfl⟩
  have h_15 := hw_
  have h_15 : ∀ a b c, a ≤ bd → b ≤ bd → c ≤ bd → f_15 (100 * a + 10 * b + c) = rch (σ.2.1 0) a b c := h_15
  have hP : va_P (g.1, g.2.1) vwCl (wC g (sA σ 15 f_15) ++ tl) H := hP
  have hD : va_D A (wC g (sA σ 15 f_15) ++ tl) := hD
  refine lv_aload_n hx hb dX10_reachedCounts_18 rfl (lv_at hl 0 rfl) ?_
  refine va_get (D := (g.1, g.2.1)) (ci := 12) (v := .ref (g.2.2.2 21)) (C := RX10) (T := TX10) (N := 15) hx hb hts iX10 hown hK.1 hP 0 (gC0 g (sA σ 15 f_15) tl) rfl 6 (by decide) k48 (fun _ h9 => h9) rfl dX10_reachedCounts_19 ?_
  refine lv_aload_n hx hb dX10_reachedCounts_22 rfl (lv_at hl 0 rfl) ?_
  refine va_get (D := (g.1, g.2.1)) (ci := 12) (v := .ref (g.2.2.2 1)) (C := RX10) (T := TX10) (N := 15) hx hb hts iX10 hown hK.1 hP 0 (gC0 g (sA σ 15 f_15) tl) rfl 0 (by decide) k12 (fun _ h9 => h9) rfl dX10_reachedCounts_23 ?_
  refine va_get (D := (g.1, g.2.1)) (ci := 2) (v := .int (nI (σ.1 0))) (C := RX0) (T := TX0) (N := 3) hx hb hts iX0 hown hK.1 hP 1 (gC1 g (sA σ 15 f_15) tl) rfl 2 (by decide) k344 (fun _ h9 => h9) rfl dX10_reachedCounts_26 ?_
  refine lv_iload_n hx hb dX10_reachedCounts_29 rfl (lv_at hl 1 rfl) ?_
  refine vp_callSi (va_Run.run (va_runV (As := [.int (nI (σ.1 0)), .int (nI bd)]) (rest := []) ⟨hx, hb, hml, hown, hts⟩ (c_X5_countMeeting_21 l g tl (sA σ 15 f_15) (σ.1 0) bd (by have := hA.2.1; omega) (by omega)) (cwV 2 hts gX10_reachedCounts_X5_countMeeting rfl rfl rfl (by decide +kernel) ⟨Nat.le_of_ble_eq_true rfl, Nat.le_of_ble_eq_true rfl⟩) (okPV hK hP rfl (gC21 g (sA σ 15 f_15) tl)) rfl rfl hl.1 rfl (lv_room (Nat.le_of_ble_eq_true rfl)) dX10_reachedCounts_30 ⟨Nat.le_of_ble_eq_true rfl, Nat.le_of_ble_eq_true rfl⟩)) (fun r_30 h_30 => ?_)
  have h_30 : r_30 = (nI (cnt3 (fun a b c => decide ((f_15) (100 * a + 10 * b + c) &&& (σ.1 0) ≠ 0)) (bd + 1))) := h_30
  subst h_30
  exact hq _ _ _ _ _ _ ((nI (cnt3 (fun a b c => decide ((f_15) (100 * a + 10 * b + c) &&& (σ.1 0) ≠ 0)) (bd + 1)))) (f_15) (Nat.le_of_ble_eq_true rfl) (Nat.le_of_ble_eq_true rfl) dX10_reachedCounts_33 ⟨by congr 1; exact cnt3_cong fun x y z h1 h2 h3 => by rw [h_15 x y z (by omega) (by omega) (by omega)], h_1⟩ hP hD hS

abbrev r_c_X10_firstDifference : Room := { frames := 6, cells := 1, slots := 6, locals := 118 }
set_option maxHeartbeats 4000000 in
set_option maxRecDepth 100000 in
theorem c_X10_firstDifference (l : Launch) (hflg : l.stackTraces = false) (g : GC) (tl : va_W) (sz : Nat) (σ : SS) (s2 bd wr : Nat) (hA : OkA σ) (hC : OkC (σ.2.1 2)) (hs2 : s2 < 2) (hbd : bd < 7) (hwr : wr < 2) : vx_Met l yX10_firstDifference wsX10_firstDifference r_c_X10_firstDifference (va_Pc [.ref (g.2.2.2 0), .int (nI s2), .int (nI bd), .int (nI wr)] (PX g (wC g σ ++ tl) sz)) (va_Qi (fun (r : Int32) (z : Nat × (Nat → Nat) × (Nat → Nat)) => match z with | (r0, f15, f16) => (r = nI (r0)) ∧ (isDf (dfS (σ.2.1 0) (σ.1 0) (σ.2.1 2) s2 wr) bd r0)) (fun (z : Nat × (Nat → Nat) × (Nat → Nat)) t => BW g (va_A (wC g σ ++ tl) sz) ((fun z : Nat × (Nat → Nat) × (Nat → Nat) => match z with | (r0, f15, f16) => wC g (sA (sA σ 15 f15) 16 f16) ++ tl) z) t) (va_A (wC g σ ++ tl) sz)) (XW g (va_A (wC g σ ++ tl) sz) (fun (E : String) (z : (Nat → Nat) × (Nat → Nat)) => match z with | (f15, f16) => (E = "java/util/NoSuchElementException" ∧ (∀ x y z, x ≤ bd → y ≤ bd → z ≤ bd → ¬ (dfS (σ.2.1 0) (σ.1 0) (σ.2.1 2) s2 wr) x y z))) (fun z : (Nat → Nat) × (Nat → Nat) => match z with | (f15, f16) => wC g (sA (sA σ 15 f15) 16 f16) ++ tl)) 1 6 (va_A (wC g σ ++ tl) sz) := by
  refine jx_i hflg (wf := fun z : Nat × (Nat → Nat) × (Nat → Nat) => match z with | (r0, f15, f16) => wC g (sA (sA σ 15 f15) 16 f16) ++ tl) (wx := fun z : (Nat → Nat) × (Nat → Nat) => match z with | (f15, f16) => wC g (sA (sA σ 15 f15) 16 f16) ++ tl) (cc := cX10_firstDifference) (maxL := 8) (by decide) rfl rfl (Nat.le_of_ble_eq_true rfl) ?_
  intro p e s m below meth c Q A hx hb hml hown hts hKX hP hD hS hAA hZ hq hqt hqw hqo ls hl
  have hK := hKX.1
  obtain ⟨H, eH⟩ : ∃ z, z = s.heap := ⟨_, rfl⟩
  obtain ⟨locs, el⟩ : ∃ z : List Loc, z = [] := ⟨_, rfl⟩
  rw [← eH] at hP
  have hS : va_S A s.heap H locs := by rw [eH, el]; exact hS
  have goal0 : W p l e r_c_X10_firstDifference s m ([.ref (g.2.2.2 0), .int (nI s2), .int (nI bd), .int (nI wr)] : List Value).toArray below meth c H locs 0 0 Q (F0 m 0 ls []) → W p l e r_c_X10_firstDifference s m ([.ref (g.2.2.2 0), .int (nI s2), .int (nI bd), .int (nI wr)] : List Value).toArray below meth c s.heap [] 0 0 Q (F0 m 0 ls []) := fun h => by rw [eH, el] at h; exact h
  refine goal0 ?_
  have hl : lv_has ls 8 [(0, .ref (g.2.2.2 0)), (1, .int (nI s2)), (2, .int (nI bd)), (3, .int (nI wr))] := hl
  have iX10 : ∀ w ∈ wsX100, w ∈ wsX10_firstDifference := by decide +kernel
  have k48 := hts (.fieldLink RX10 48 "JumpingAutomata" "reached" "LJumpingAutomata$CountsTable;") (by decide +kernel)
  have k12 := hts (.fieldLink RX10 12 "JumpingAutomata" "automaton" "LJumpingAutomata$Automaton;") (by decide +kernel)
  have k52 := hts (.fieldLink RX10 52 "JumpingAutomata" "members" "LJumpingAutomata$CountsTable;") (by decide +kernel)
  have k19 := hts (.fieldLink RX10 19 "JumpingAutomata" "sets" "LJumpingAutomata$CountingSets;") (by decide +kernel)
  have hc4 := (hC s2 hs2).1
  refine lv_aload_n hx hb dX10_firstDifference_0 rfl (lv_at hl 0 rfl) ?_
  refine va_get (D := (g.1, g.2.1)) (ci := 12) (v := .ref (g.2.2.2 21)) (C := RX10) (T := TX10) (N := 15) hx hb hts iX10 hown hK.1 hP 0 (gC0 g σ tl) rfl 6 (by decide) k48 (fun _ h9 => h9) rfl dX10_firstDifference_1 ?_
  refine lv_aload_n hx hb dX10_firstDifference_4 rfl (lv_at hl 0 rfl) ?_
  refine va_get (D := (g.1, g.2.1)) (ci := 12) (v := .ref (g.2.2.2 1)) (C := RX10) (T := TX10) (N := 15) hx hb hts iX10 hown hK.1 hP 0 (gC0 g σ tl) rfl 0 (by decide) k12 (fun _ h9 => h9) rfl dX10_firstDifference_5 ?_
  refine lv_iload_n hx hb dX10_firstDifference_8 rfl (lv_at hl 2 rfl) ?_
  refine lv_iload_n hx hb dX10_firstDifference_9 rfl (lv_at hl 2 rfl) ?_
  refine lv_iload_n hx hb dX10_firstDifference_10 rfl (lv_at hl 2 rfl) ?_
  refine jn_callv (va_runV (As := [.ref (g.2.2.2 1), .int (nI bd), .int (nI bd), .int (nI bd)]) (rest := []) ⟨hx, hb, hml, hown, hts⟩ (c_X5_fillReached_21 l g tl H.size σ bd bd bd hA (by omega) (by omega) (by omega)) (cwV 4 hts gX10_firstDifference_X5_fillReached rfl rfl rfl (by decide +kernel) ⟨Nat.le_of_ble_eq_true rfl, Nat.le_of_ble_eq_true rfl⟩) (okWV hK hP hD rfl (gC21 g σ tl)) rfl rfl hl.1 rfl (lv_room (Nat.le_of_ble_eq_true rfl)) dX10_firstDifference_11 ⟨Nat.le_of_ble_eq_true rfl, Nat.le_of_ble_eq_true rfl⟩) hD hS hAA (fun u H locs hw_ hP hD hS => ?_)
  obtain ⟨f_11, rfl⟩ : ∃ z, z = u := ⟨_, rfl⟩
  have h_11 := hw_
  have h_11 : ∀ a b c, a ≤ bd → b ≤ bd → c ≤ bd → f_11 (100 * a + 10 * b + c) = rch (σ.2.1 0) a b c := h_11
  have hP : va_P (g.1, g.2.1) vwCl (wC g (sA σ 15 f_11) ++ tl) H := hP
  have hD : va_D A (wC g (sA σ 15 f_11) ++ tl) := hD
  refine lv_aload_n hx hb dX10_firstDifference_14 rfl (lv_at hl 0 rfl) ?_
  refine va_get (D := (g.1, g.2.1)) (ci := 12) (v := .ref (g.2.2.2 23)) (C := RX10) (T := TX10) (N := 15) hx hb hts iX10 hown hK.1 hP 0 (gC0 g (sA σ 15 f_11) tl) rfl 7 (by decide) k52 (fun _ h9 => h9) rfl dX10_firstDifference_15 ?_
  refine lv_aload_n hx hb dX10_firstDifference_18 rfl (lv_at hl 0 rfl) ?_
  refine va_get (D := (g.1, g.2.1)) (ci := 12) (v := .ref (g.2.2.2 4)) (C := RX10) (T := TX10) (N := 15) hx hb hts iX10 hown hK.1 hP 0 (gC0 g (sA σ 15 f_11) tl) rfl 1 (by decide) k19 (fun _ h9 => h9) rfl dX10_firstDifference_19 ?_
  refine lv_iload_n hx hb dX10_firstDifference_22 rfl (lv_at hl 1 rfl) ?_
  refine lv_iload_n hx hb dX10_firstDifference_23 rfl (lv_at hl 2 rfl) ?_
  refine lv_iload_n hx hb dX10_firstDifference_24 rfl (lv_at hl 2 rfl) ?_
  refine lv_iload_n hx hb dX10_firstDifference_25 rfl (lv_at hl 2 rfl) ?_
  refine jn_callv (va_runV (As := [.ref (g.2.2.2 4), .int (nI s2), .int (nI bd), .int (nI bd), .int (nI bd)]) (rest := []) ⟨hx, hb, hml, hown, hts⟩ (c_X5_fillMembers_23 l g tl H.size (sA σ 15 f_11) s2 bd bd bd hC hs2 (by omega) (by omega) (by omega)) (cwV 5 hts gX10_firstDifference_X5_fillMembers rfl rfl rfl (by decide +kernel) ⟨Nat.le_of_ble_eq_true rfl, Nat.le_of_ble_eq_true rfl⟩) (okWV hK hP hD rfl (gC23 g (sA σ 15 f_11) tl)) rfl rfl hl.1 rfl (lv_room (Nat.le_of_ble_eq_true rfl)) dX10_firstDifference_26 ⟨Nat.le_of_ble_eq_true rfl, Nat.le_of_ble_eq_true rfl⟩) hD hS hAA (fun u H locs hw_ hP hD hS => ?_)
  obtain ⟨f_26, rfl⟩ : ∃ z, z = u := ⟨_, rfl⟩
  have h_26 := hw_
  have h_26 : Mbr (σ.2.1 2) f_26 s2 bd bd bd ((σ.2.1 2) (s2 * 21)) := h_26
  have hP : va_P (g.1, g.2.1) vwCl (wC g (sA (sA σ 15 f_11) 16 f_26) ++ tl) H := hP
  have hD : va_D A (wC g (sA (sA σ 15 f_11) 16 f_26) ++ tl) := hD
  refine lv_iconst (v := nI 0) hx hb dX10_firstDifference_29 (by decide) ?_
  refine lv_istore (lv' := [(4, .int (nI 0)), (0, .ref (g.2.2.2 0)), (1, .int (nI s2)), (2, .int (nI bd)), (3, .int (nI wr))]) hx hb dX10_firstDifference_30 hl (by decide) rfl (fun ls hl => ?_)
  have lp32 : ∀ (fu : Nat), ∀ (sm : Nat), (sm ≤ 3 * bd + 1) → (nDf (dfS (σ.2.1 0) (σ.1 0) (σ.2.1 2) s2 wr) bd sm 0 0) → 3 * bd + 1 - sm < fu → ∀ (H : Heap) (locs : List Loc), va_P (g.1, g.2.1) vwCl (wC g (sA (sA σ 15 f_11) 16 f_26) ++ tl) H → va_D A (wC g (sA (sA σ 15 f_11) 16 f_26) ++ tl) → va_S A s.heap H locs → ∀ ls : Array Slot, lv_has ls 8 [(0, .ref (g.2.2.2 0)), (1, .int (nI s2)), (2, .int (nI bd)), (3, .int (nI wr)), (4, .int (nI sm))] → W p l e r_c_X10_firstDifference s m ([.ref (g.2.2.2 0), .int (nI s2), .int (nI bd), .int (nI wr)] : List Value).toArray below meth c H locs 0 0 Q (F0 m 32 ls []) := by
    intro fu
    induction fu with
    | zero => intro sm h1 h2 hf; exact absurd hf (Nat.not_lt_zero _)
    | succ fu ih32 =>
      intro sm h1 h2 hf H locs hP hD hS ls hl
      refine lv_iload hx hb dX10_firstDifference_32 (lv_at hl 4 rfl) ?_
      refine lv_iconst (v := nI 3) hx hb dX10_firstDifference_34 (by decide) ?_
      refine lv_iload_n hx hb dX10_firstDifference_35 rfl (lv_at hl 2 rfl) ?_
      refine jn_imul hx hb dX10_firstDifference_36 ?_
      refine jn_cgt hx hb (by omega) (by omega) (tgt := 136) dX10_firstDifference_37 (by decide) (fun c_37 => ?_) (fun c_37 => ?_)
      · exact hqw _ _ _ _ 136 164 476 168 "java/util/NoSuchElementException" "there are no such counts" _ (f_11, f_26) hl.1 dX10_firstDifference_136 dX10_firstDifference_139 dX10_firstDifference_140 dX10_firstDifference_143 dX10_firstDifference_146 ⟨by decide +kernel, by decide +kernel, fun w hw => List.mem_cons_of_mem _ (List.mem_append_left _ (List.mem_append_right _ hw)), by decide +kernel, by decide +kernel, by decide +kernel, by decide +kernel, by decide +kernel, Nat.le_of_ble_eq_true rfl, Nat.le_of_ble_eq_true rfl⟩ (Nat.le_of_ble_eq_true rfl) (Nat.le_of_ble_eq_true rfl) (Nat.le_of_ble_eq_true rfl) (Nat.le_of_ble_eq_true rfl) ⟨rfl, (nd_end h2 (by omega))⟩ hP hD hS
      · refine lv_iconst (v := nI 0) hx hb dX10_firstDifference_40 (by decide) ?_
        refine lv_istore (lv' := [(5, .int (nI 0)), (0, .ref (g.2.2.2 0)), (1, .int (nI s2)), (2, .int (nI bd)), (3, .int (nI wr)), (4, .int (nI sm))]) hx hb dX10_firstDifference_41 hl (by decide) rfl (fun ls hl => ?_)
        have lp43 : ∀ (fu : Nat), ∀ (a : Nat), (a ≤ bd + 1) → (nDf (dfS (σ.2.1 0) (σ.1 0) (σ.2.1 2) s2 wr) bd sm a 0) → bd + 1 - a < fu → ∀ (H : Heap) (locs : List Loc), va_P (g.1, g.2.1) vwCl (wC g (sA (sA σ 15 f_11) 16 f_26) ++ tl) H → va_D A (wC g (sA (sA σ 15 f_11) 16 f_26) ++ tl) → va_S A s.heap H locs → ∀ ls : Array Slot, lv_has ls 8 [(0, .ref (g.2.2.2 0)), (1, .int (nI s2)), (2, .int (nI bd)), (3, .int (nI wr)), (4, .int (nI sm)), (5, .int (nI a))] → W p l e r_c_X10_firstDifference s m ([.ref (g.2.2.2 0), .int (nI s2), .int (nI bd), .int (nI wr)] : List Value).toArray below meth c H locs 0 0 Q (F0 m 43 ls []) := by
          intro fu
          induction fu with
          | zero => intro a h3 h4 hf; exact absurd hf (Nat.not_lt_zero _)
          | succ fu ih43 =>
            intro a h3 h4 hf H locs hP hD hS ls hl
            refine lv_iload hx hb dX10_firstDifference_43 (lv_at hl 5 rfl) ?_
            refine lv_iload_n hx hb dX10_firstDifference_45 rfl (lv_at hl 2 rfl) ?_
            refine jn_cgt hx hb (by omega) (by omega) (tgt := 130) dX10_firstDifference_46 (by decide) (fun c_46 => ?_) (fun c_46 => ?_)
            · refine lv_iinc (v := nI (sm + 1)) (lv' := [(4, .int (nI (sm + 1))), (0, .ref (g.2.2.2 0)), (1, .int (nI s2)), (2, .int (nI bd)), (3, .int (nI wr)), (5, .int (nI a))]) hx hb dX10_firstDifference_130 hl (k := 4) rfl (jn_ii _ 1) (by decide) rfl (fun ls hl => ?_)
              refine lv_goto (tgt := 32) hx hb dX10_firstDifference_133 (by decide) ?_
              exact ih32 (sm + 1) (by omega) (nd_s h4 (by omega)) (by omega) _ _ hP hD hS _ (lv_sub hl [1, 2, 3, 4, 0] rfl)
            · refine lv_iload hx hb dX10_firstDifference_49 (lv_at hl 5 rfl) ?_
              refine lv_iload hx hb dX10_firstDifference_51 (lv_at hl 4 rfl) ?_
              refine jn_cgt hx hb (by omega) (by omega) (tgt := 130) dX10_firstDifference_53 (by decide) (fun c_53 => ?_) (fun c_53 => ?_)
              · refine lv_iinc (v := nI (sm + 1)) (lv' := [(4, .int (nI (sm + 1))), (0, .ref (g.2.2.2 0)), (1, .int (nI s2)), (2, .int (nI bd)), (3, .int (nI wr)), (5, .int (nI a))]) hx hb dX10_firstDifference_130 hl (k := 4) rfl (jn_ii _ 1) (by decide) rfl (fun ls hl => ?_)
                refine lv_goto (tgt := 32) hx hb dX10_firstDifference_133 (by decide) ?_
                exact ih32 (sm + 1) (by omega) (nd_s h4 (by omega)) (by omega) _ _ hP hD hS _ (lv_sub hl [1, 2, 3, 4, 0] rfl)
              · refine lv_iconst (v := nI 0) hx hb dX10_firstDifference_56 (by decide) ?_
                refine lv_istore (lv' := [(6, .int (nI 0)), (0, .ref (g.2.2.2 0)), (1, .int (nI s2)), (2, .int (nI bd)), (3, .int (nI wr)), (4, .int (nI sm)), (5, .int (nI a))]) hx hb dX10_firstDifference_57 hl (by decide) rfl (fun ls hl => ?_)
                have lp59 : ∀ (fu : Nat), ∀ (b : Nat), (b ≤ bd + 1) → (nDf (dfS (σ.2.1 0) (σ.1 0) (σ.2.1 2) s2 wr) bd sm a b) → bd + 1 - b < fu → ∀ (H : Heap) (locs : List Loc), va_P (g.1, g.2.1) vwCl (wC g (sA (sA σ 15 f_11) 16 f_26) ++ tl) H → va_D A (wC g (sA (sA σ 15 f_11) 16 f_26) ++ tl) → va_S A s.heap H locs → ∀ ls : Array Slot, lv_has ls 8 [(0, .ref (g.2.2.2 0)), (1, .int (nI s2)), (2, .int (nI bd)), (3, .int (nI wr)), (4, .int (nI sm)), (5, .int (nI a)), (6, .int (nI b))] → W p l e r_c_X10_firstDifference s m ([.ref (g.2.2.2 0), .int (nI s2), .int (nI bd), .int (nI wr)] : List Value).toArray below meth c H locs 0 0 Q (F0 m 59 ls []) := by
                  intro fu
                  induction fu with
                  | zero => intro b h5 h6 hf; exact absurd hf (Nat.not_lt_zero _)
                  | succ fu ih59 =>
                    intro b h5 h6 hf H locs hP hD hS ls hl
                    refine lv_iload hx hb dX10_firstDifference_59 (lv_at hl 6 rfl) ?_
                    refine lv_iload_n hx hb dX10_firstDifference_61 rfl (lv_at hl 2 rfl) ?_
                    refine jn_cgt hx hb (by omega) (by omega) (tgt := 124) dX10_firstDifference_62 (by decide) (fun c_62 => ?_) (fun c_62 => ?_)
                    · refine lv_iinc (v := nI (a + 1)) (lv' := [(5, .int (nI (a + 1))), (0, .ref (g.2.2.2 0)), (1, .int (nI s2)), (2, .int (nI bd)), (3, .int (nI wr)), (4, .int (nI sm)), (6, .int (nI b))]) hx hb dX10_firstDifference_124 hl (k := 5) rfl (jn_ii _ 1) (by decide) rfl (fun ls hl => ?_)
                      refine lv_goto (tgt := 43) hx hb dX10_firstDifference_127 (by decide) ?_
                      exact ih43 (a + 1) (by omega) (nd_a h6 (by omega)) (by omega) _ _ hP hD hS _ (lv_sub hl [1, 2, 3, 4, 5, 0] rfl)
                    · refine lv_iload hx hb dX10_firstDifference_65 (lv_at hl 5 rfl) ?_
                      refine lv_iload hx hb dX10_firstDifference_67 (lv_at hl 6 rfl) ?_
                      refine jn_iadd hx hb dX10_firstDifference_69 ?_
                      refine lv_iload hx hb dX10_firstDifference_70 (lv_at hl 4 rfl) ?_
                      refine jn_cgt hx hb (by omega) (by omega) (tgt := 124) dX10_firstDifference_72 (by decide) (fun c_72 => ?_) (fun c_72 => ?_)
                      · refine lv_iinc (v := nI (a + 1)) (lv' := [(5, .int (nI (a + 1))), (0, .ref (g.2.2.2 0)), (1, .int (nI s2)), (2, .int (nI bd)), (3, .int (nI wr)), (4, .int (nI sm)), (6, .int (nI b))]) hx hb dX10_firstDifference_124 hl (k := 5) rfl (jn_ii _ 1) (by decide) rfl (fun ls hl => ?_)
                        refine lv_goto (tgt := 43) hx hb dX10_firstDifference_127 (by decide) ?_
                        exact ih43 (a + 1) (by omega) (nd_a h6 (by omega)) (by omega) _ _ hP hD hS _ (lv_sub hl [1, 2, 3, 4, 5, 0] rfl)
                      · refine lv_iload hx hb dX10_firstDifference_75 (lv_at hl 4 rfl) ?_
                        refine lv_iload hx hb dX10_firstDifference_77 (lv_at hl 5 rfl) ?_
                        refine jn_isub hx hb (by omega) dX10_firstDifference_79 ?_
                        refine lv_iload hx hb dX10_firstDifference_80 (lv_at hl 6 rfl) ?_
                        refine jn_isub hx hb (by omega) dX10_firstDifference_82 ?_
                        refine lv_istore (lv' := [(7, .int (nI ((sm - a) - b))), (0, .ref (g.2.2.2 0)), (1, .int (nI s2)), (2, .int (nI bd)), (3, .int (nI wr)), (4, .int (nI sm)), (5, .int (nI a)), (6, .int (nI b))]) hx hb dX10_firstDifference_83 hl (by decide) rfl (fun ls hl => ?_)
                        refine lv_iload hx hb dX10_firstDifference_85 (lv_at hl 0 rfl) ?_
                        refine lv_iload_n hx hb dX10_firstDifference_87 rfl (lv_at hl 3 rfl) ?_
                        refine jn_cgt hx hb (by omega) (by omega) (tgt := 118) dX10_firstDifference_88 (by decide) (fun c_88 => ?_) (fun c_88 => ?_)
                        · refine lv_iinc (v := nI (b + 1)) (lv' := [(6, .int (nI (b + 1))), (7, .int (nI ((sm - a) - b))), (0, .ref (g.2.2.2 0)), (1, .int (nI s2)), (2, .int (nI bd)), (3, .int (nI wr)), (4, .int (nI sm)), (5, .int (nI a))]) hx hb dX10_firstDifference_118 hl (k := 7) rfl (jn_ii _ 1) (by decide) rfl (fun ls hl => ?_)
                          refine lv_goto (tgt := 59) hx hb dX10_firstDifference_121 (by decide) ?_
                          exact ih59 (b + 1) (by omega) (nd_b h6 (fun q1 q2 => by first | exact absurd q2 (by omega) | exact fun z => c_105 ((df_S h_11 h_26 (by omega) (by omega) (by omega)).mpr z))) (by omega) _ _ hP hD hS _ (lv_sub hl [2, 3, 4, 5, 6, 7, 0] rfl)
                        · refine lv_aload_n hx hb dX10_firstDifference_91 rfl (lv_at hl 1 rfl) ?_
                          refine lv_iload hx hb dX10_firstDifference_92 (lv_at hl 6 rfl) ?_
                          refine lv_iload hx hb dX10_firstDifference_94 (lv_at hl 7 rfl) ?_
                          refine lv_iload hx hb dX10_firstDifference_96 (lv_at hl 0 rfl) ?_
                          refine vp_callSi (va_Run.run (va_runS (As := [.int (nI a), .int (nI b), .int (nI ((sm - a) - b))]) (rest := [.ref (g.2.2.2 0)]) ⟨hx, hb, hml, hown, hts⟩ (c_X10_codeOf l a b ((sm - a) - b)) (va_cwS 3 hts gX10_firstDifference_X10_codeOf rfl rfl rfl (by decide +kernel) ⟨Nat.le_of_ble_eq_true rfl, Nat.le_of_ble_eq_true rfl⟩) okTS rfl rfl hl.1 rfl (lv_room (Nat.le_of_ble_eq_true rfl)) dX10_firstDifference_98 ⟨Nat.le_of_ble_eq_true rfl, Nat.le_of_ble_eq_true rfl⟩)) (fun r_98 h_98 => ?_)
                          subst h_98
                          refine lv_iload_n hx hb dX10_firstDifference_101 rfl (lv_at hl 4 rfl) ?_
                          refine vp_callSi (va_Run.run (va_runV (As := [.int (nI (100 * a + 10 * b + ((sm - a) - b))), .int (nI wr)]) (rest := []) ⟨hx, hb, hml, hown, hts⟩ (c_X10_isDifference l g tl (sA (sA σ 15 f_11) 16 f_26) (100 * a + 10 * b + ((sm - a) - b)) wr hA (by omega) hwr (mb_16 h_26 hc4 (by omega) (by omega) (by omega))) (cwV 2 hts gX10_firstDifference_X10_isDifference rfl rfl rfl (by decide +kernel) ⟨Nat.le_of_ble_eq_true rfl, Nat.le_of_ble_eq_true rfl⟩) (okPV hK hP rfl (gC0 g (sA (sA σ 15 f_11) 16 f_26) tl)) rfl rfl hl.1 rfl (lv_room (Nat.le_of_ble_eq_true rfl)) dX10_firstDifference_102 ⟨Nat.le_of_ble_eq_true rfl, Nat.le_of_ble_eq_true rfl⟩)) (fun r_102 h_102 => ?_)
                          have h_102 : r_102 = (nI (if dfP (f_11) (f_26) (σ.1 0) wr (100 * a + 10 * b + ((sm - a) - b)) then 1 else 0)) := h_102
                          subst h_102
                          refine jn_beq hx hb (tgt := 118) dX10_firstDifference_105 (by decide) (fun c_105 => ?_) (fun c_105 => ?_)
                          · refine lv_iinc (v := nI (b + 1)) (lv' := [(6, .int (nI (b + 1))), (7, .int (nI ((sm - a) - b))), (0, .ref (g.2.2.2 0)), (1, .int (nI s2)), (2, .int (nI bd)), (3, .int (nI wr)), (4, .int (nI sm)), (5, .int (nI a))]) hx hb dX10_firstDifference_118 hl (k := 7) rfl (jn_ii _ 1) (by decide) rfl (fun ls hl => ?_)
                            refine lv_goto (tgt := 59) hx hb dX10_firstDifference_121 (by decide) ?_
                            exact ih59 (b + 1) (by omega) (nd_b h6 (fun q1 q2 => by first | exact absurd q2 (by omega) | exact fun z => c_105 ((df_S h_11 h_26 (by omega) (by omega) (by omega)).mpr z))) (by omega) _ _ hP hD hS _ (lv_sub hl [2, 3, 4, 5, 6, 7, 0] rfl)
                          · refine lv_iload hx hb dX10_firstDifference_108 (lv_at hl 6 rfl) ?_
                            refine lv_iload hx hb dX10_firstDifference_110 (lv_at hl 7 rfl) ?_
                            refine lv_iload hx hb dX10_firstDifference_112 (lv_at hl 0 rfl) ?_
                            refine vp_callSi (va_Run.run (va_runS (As := [.int (nI a), .int (nI b), .int (nI ((sm - a) - b))]) (rest := []) ⟨hx, hb, hml, hown, hts⟩ (c_X10_codeOf l a b ((sm - a) - b)) (va_cwS 3 hts gX10_firstDifference_X10_codeOf rfl rfl rfl (by decide +kernel) ⟨Nat.le_of_ble_eq_true rfl, Nat.le_of_ble_eq_true rfl⟩) okTS rfl rfl hl.1 rfl (lv_room (Nat.le_of_ble_eq_true rfl)) dX10_firstDifference_114 ⟨Nat.le_of_ble_eq_true rfl, Nat.le_of_ble_eq_true rfl⟩)) (fun r_114 h_114 => ?_)
                            subst h_114
                            exact hq _ _ _ _ _ _ ((nI (100 * a + 10 * b + ((sm - a) - b)))) (_, f_11, f_26) (Nat.le_of_ble_eq_true rfl) (Nat.le_of_ble_eq_true rfl) dX10_firstDifference_117 ⟨rfl, a, b, sm - a - b, by omega, by omega, by omega, (df_S h_11 h_26 (by omega) (by omega) (by omega)).mp c_105, rfl, by rw [show a + b + (sm - a - b) = sm by omega]; exact h6⟩ hP hD hS
                exact lp59 _ 0 (by omega) h4 (Nat.lt_succ_self _) _ _ hP hD hS _ (lv_sub hl [1, 2, 3, 4, 5, 6, 0] rfl)
        exact lp43 _ 0 (by omega) h2 (Nat.lt_succ_self _) _ _ hP hD hS _ (lv_sub hl [1, 2, 3, 4, 5, 0] rfl)
  exact lp32 _ 0 (by omega) nd_0 (Nat.lt_succ_self _) _ _ hP hD hS _ (lv_sub hl [1, 2, 3, 4, 0] rfl)

abbrev r_c_X10_firstMissing : Room := { frames := 7, cells := 3, slots := 18, locals := 145 }
set_option maxHeartbeats 4000000 in
set_option maxRecDepth 100000 in
theorem c_X10_firstMissing (l : Launch) (hflg : l.stackTraces = false) (g : GC) (tl : va_W) (sz : Nat) (σ : SS) (s2 bd : Nat) (hA : OkA σ) (hC : OkC (σ.2.1 2)) (hs2 : s2 < 4294967296) (hbd : bd < 4294967296) : vx_Met l yX10_firstMissing wsX10_firstMissing r_c_X10_firstMissing (va_Pc [.ref (g.2.2.2 0), .int (nI s2), .int (nI bd)] (PX g (wC g σ ++ tl) sz)) (va_Qi (fun (r : Int32) (z : Nat × (Nat → Nat) × (Nat → Nat)) => match z with | (r0, f15, f16) => (r = nI (r0)) ∧ (s2 < 2) ∧ (bd < 7) ∧ (isDf (dfS (σ.2.1 0) (σ.1 0) (σ.2.1 2) s2 1) bd r0)) (fun (z : Nat × (Nat → Nat) × (Nat → Nat)) t => BW g (va_A (wC g σ ++ tl) sz) ((fun z : Nat × (Nat → Nat) × (Nat → Nat) => match z with | (r0, f15, f16) => wC g (sA (sA σ 15 f15) 16 f16) ++ tl) z) t) (va_A (wC g σ ++ tl) sz)) (XW g (va_A (wC g σ ++ tl) sz) (fun (E : String) (z : (Nat → Nat) × (Nat → Nat)) => match z with | (f15, f16) => (E = "java/lang/IndexOutOfBoundsException" ∧ (¬ s2 < 2)) ∨ (E = "java/lang/IllegalArgumentException" ∧ (s2 < 2 ∧ ¬ bd < 7)) ∨ (E = "java/util/NoSuchElementException" ∧ (s2 < 2 ∧ bd < 7 ∧ ∀ x y z, x ≤ bd → y ≤ bd → z ≤ bd → ¬ (dfS (σ.2.1 0) (σ.1 0) (σ.2.1 2) s2 1) x y z))) (fun z : (Nat → Nat) × (Nat → Nat) => match z with | (f15, f16) => wC g (sA (sA σ 15 f15) 16 f16) ++ tl)) 3 18 (va_A (wC g σ ++ tl) sz) := by
  refine jx_i hflg (wf := fun z : Nat × (Nat → Nat) × (Nat → Nat) => match z with | (r0, f15, f16) => wC g (sA (sA σ 15 f15) 16 f16) ++ tl) (wx := fun z : (Nat → Nat) × (Nat → Nat) => match z with | (f15, f16) => wC g (sA (sA σ 15 f15) 16 f16) ++ tl) (cc := cX10_firstMissing) (maxL := 3) (by decide) rfl rfl (Nat.le_of_ble_eq_true rfl) ?_
  intro p e s m below meth c Q A hx hb hml hown hts hKX hP hD hS hAA hZ hq hqt hqw hqo ls hl
  have hK := hKX.1
  obtain ⟨H, eH⟩ : ∃ z, z = s.heap := ⟨_, rfl⟩
  obtain ⟨locs, el⟩ : ∃ z : List Loc, z = [] := ⟨_, rfl⟩
  rw [← eH] at hP
  have hS : va_S A s.heap H locs := by rw [eH, el]; exact hS
  have goal0 : W p l e r_c_X10_firstMissing s m ([.ref (g.2.2.2 0), .int (nI s2), .int (nI bd)] : List Value).toArray below meth c H locs 0 0 Q (F0 m 0 ls []) → W p l e r_c_X10_firstMissing s m ([.ref (g.2.2.2 0), .int (nI s2), .int (nI bd)] : List Value).toArray below meth c s.heap [] 0 0 Q (F0 m 0 ls []) := fun h => by rw [eH, el] at h; exact h
  refine goal0 ?_
  have hl : lv_has ls 3 [(0, .ref (g.2.2.2 0)), (1, .int (nI s2)), (2, .int (nI bd))] := hl
  refine lv_iload_n hx hb dX10_firstMissing_0 rfl (lv_at hl 1 rfl) ?_
  refine jx_callv (vx_runS (As := [.int (nI s2)]) (rest := []) ⟨hx, hb, hml, hown, hts⟩ (c_X10_requireSet l hflg g tl H.size σ s2 (by omega)) (va_cwS 1 hts gX10_firstMissing_X10_requireSet rfl rfl rfl (by decide +kernel) ⟨Nat.le_of_ble_eq_true rfl, Nat.le_of_ble_eq_true rfl⟩) (okXS hKX hP hD hZ hS hAA) rfl rfl hl.1 rfl (lv_room (Nat.le_of_ble_eq_true rfl)) dX10_firstMissing_1 ⟨Nat.le_of_ble_eq_true rfl, Nat.le_of_ble_eq_true rfl⟩) hD hS hAA (fun E ce q9 u H locs hxp hP hD hS h7 h8 h9 => ?_) (fun u H locs hw_ hP hD hS => ?_)
  · have hxp : (E = "java/lang/IndexOutOfBoundsException" ∧ (¬ s2 < 2)) := hxp
    rcases hxp with ⟨eE, hc⟩
    · exact hqo _ _ _ _ _ _ _ _ _ _ ((σ.2.1 15), (σ.2.1 16)) (Nat.le_of_ble_eq_true rfl) (Nat.le_of_ble_eq_true rfl) h7 h8 h9 (Or.inl ⟨eE, (by first | exact hc | omega)⟩) hP hD hS
  have h_1 := hw_
  have h_1 : s2 < 2 := h_1
  have hP : va_P (g.1, g.2.1) vwCl (wC g σ ++ tl) H := hP
  have hD : va_D A (wC g σ ++ tl) := hD
  refine lv_iload_n hx hb dX10_firstMissing_4 rfl (lv_at hl 2 rfl) ?_
  refine jx_callv (vx_runS (As := [.int (nI bd)]) (rest := []) ⟨hx, hb, hml, hown, hts⟩ (c_X10_requireBound l hflg g tl H.size σ bd (by omega)) (va_cwS 1 hts gX10_firstMissing_X10_requireBound rfl rfl rfl (by decide +kernel) ⟨Nat.le_of_ble_eq_true rfl, Nat.le_of_ble_eq_true rfl⟩) (okXS hKX hP hD hZ hS hAA) rfl rfl hl.1 rfl (lv_room (Nat.le_of_ble_eq_true rfl)) dX10_firstMissing_5 ⟨Nat.le_of_ble_eq_true rfl, Nat.le_of_ble_eq_true rfl⟩) hD hS hAA (fun E ce q9 u H locs hxp hP hD hS h7 h8 h9 => ?_) (fun u H locs hw_ hP hD hS => ?_)
  · have hxp : (E = "java/lang/IllegalArgumentException" ∧ (¬ bd < 7)) := hxp
    rcases hxp with ⟨eE, hc⟩
    · exact hqo _ _ _ _ _ _ _ _ _ _ ((σ.2.1 15), (σ.2.1 16)) (Nat.le_of_ble_eq_true rfl) (Nat.le_of_ble_eq_true rfl) h7 h8 h9 (Or.inr (Or.inl ⟨eE, ⟨h_1, hc⟩⟩)) hP hD hS
  have h_5 := hw_
  have h_5 : bd < 7 := h_5
  have hP : va_P (g.1, g.2.1) vwCl (wC g σ ++ tl) H := hP
  have hD : va_D A (wC g σ ++ tl) := hD
  refine lv_aload_n hx hb dX10_firstMissing_8 rfl (lv_at hl 0 rfl) ?_
  refine lv_iload_n hx hb dX10_firstMissing_9 rfl (lv_at hl 1 rfl) ?_
  refine lv_iload_n hx hb dX10_firstMissing_10 rfl (lv_at hl 2 rfl) ?_
  refine lv_iconst (v := nI 1) hx hb dX10_firstMissing_11 (by decide) ?_
  refine jx_calli (vx_runV (As := [.int (nI s2), .int (nI bd), .int (nI 1)]) (rest := []) ⟨hx, hb, hml, hown, hts⟩ (c_X10_firstDifference l hflg g tl H.size σ s2 bd 1 hA hC h_1 h_5 (by decide)) (cwV 3 hts gX10_firstMissing_X10_firstDifference rfl rfl rfl (by decide +kernel) ⟨Nat.le_of_ble_eq_true rfl, Nat.le_of_ble_eq_true rfl⟩) (okXV hKX hP hD hZ hS hAA rfl (gC0 g σ tl)) rfl rfl hl.1 rfl (lv_room (Nat.le_of_ble_eq_true rfl)) dX10_firstMissing_12 ⟨Nat.le_of_ble_eq_true rfl, Nat.le_of_ble_eq_true rfl⟩) hD hS hAA (fun E ce q9 u H locs hxp hP hD hS h7 h8 h9 => ?_) (fun r_12 u H locs hw_ hP hD hS => ?_)
  · obtain ⟨f15_x12, f16_x12⟩ := u
    have hxp : (E = "java/util/NoSuchElementException" ∧ (∀ x y z, x ≤ bd → y ≤ bd → z ≤ bd → ¬ (dfS (σ.2.1 0) (σ.1 0) (σ.2.1 2) s2 1) x y z)) := hxp
    rcases hxp with ⟨eE, hc⟩
    · exact hqo _ _ _ _ _ _ _ _ _ _ (f15_x12, f16_x12) (Nat.le_of_ble_eq_true rfl) (Nat.le_of_ble_eq_true rfl) h7 h8 h9 (Or.inr (Or.inr ⟨eE, ⟨h_1, h_5, hc⟩⟩)) hP hD hS
  obtain ⟨r0_12, f15_12, f16_12⟩ := u
  obtain ⟨rfl, h_12⟩ := hw_
  have h_12 : isDf (dfS (σ.2.1 0) (σ.1 0) (σ.2.1 2) s2 1) bd r0_12 := h_12
  have hP : va_P (g.1, g.2.1) vwCl (wC g (sA (sA σ 15 f15_12) 16 f16_12) ++ tl) H := hP
  have hD : va_D A (wC g (sA (sA σ 15 f15_12) 16 f16_12) ++ tl) := hD
  exact hq _ _ _ _ _ _ ((nI r0_12)) (r0_12, f15_12, f16_12) (Nat.le_of_ble_eq_true rfl) (Nat.le_of_ble_eq_true rfl) dX10_firstMissing_15 ⟨rfl, h_1, h_5, h_12⟩ hP hD hS

abbrev r_c_X10_firstExtra : Room := { frames := 7, cells := 3, slots := 18, locals := 145 }
set_option maxHeartbeats 4000000 in
set_option maxRecDepth 100000 in
theorem c_X10_firstExtra (l : Launch) (hflg : l.stackTraces = false) (g : GC) (tl : va_W) (sz : Nat) (σ : SS) (s2 bd : Nat) (hA : OkA σ) (hC : OkC (σ.2.1 2)) (hs2 : s2 < 4294967296) (hbd : bd < 4294967296) : vx_Met l yX10_firstExtra wsX10_firstExtra r_c_X10_firstExtra (va_Pc [.ref (g.2.2.2 0), .int (nI s2), .int (nI bd)] (PX g (wC g σ ++ tl) sz)) (va_Qi (fun (r : Int32) (z : Nat × (Nat → Nat) × (Nat → Nat)) => match z with | (r0, f15, f16) => (r = nI (r0)) ∧ (s2 < 2) ∧ (bd < 7) ∧ (isDf (dfS (σ.2.1 0) (σ.1 0) (σ.2.1 2) s2 0) bd r0)) (fun (z : Nat × (Nat → Nat) × (Nat → Nat)) t => BW g (va_A (wC g σ ++ tl) sz) ((fun z : Nat × (Nat → Nat) × (Nat → Nat) => match z with | (r0, f15, f16) => wC g (sA (sA σ 15 f15) 16 f16) ++ tl) z) t) (va_A (wC g σ ++ tl) sz)) (XW g (va_A (wC g σ ++ tl) sz) (fun (E : String) (z : (Nat → Nat) × (Nat → Nat)) => match z with | (f15, f16) => (E = "java/lang/IndexOutOfBoundsException" ∧ (¬ s2 < 2)) ∨ (E = "java/lang/IllegalArgumentException" ∧ (s2 < 2 ∧ ¬ bd < 7)) ∨ (E = "java/util/NoSuchElementException" ∧ (s2 < 2 ∧ bd < 7 ∧ ∀ x y z, x ≤ bd → y ≤ bd → z ≤ bd → ¬ (dfS (σ.2.1 0) (σ.1 0) (σ.2.1 2) s2 0) x y z))) (fun z : (Nat → Nat) × (Nat → Nat) => match z with | (f15, f16) => wC g (sA (sA σ 15 f15) 16 f16) ++ tl)) 3 18 (va_A (wC g σ ++ tl) sz) := by
  refine jx_i hflg (wf := fun z : Nat × (Nat → Nat) × (Nat → Nat) => match z with | (r0, f15, f16) => wC g (sA (sA σ 15 f15) 16 f16) ++ tl) (wx := fun z : (Nat → Nat) × (Nat → Nat) => match z with | (f15, f16) => wC g (sA (sA σ 15 f15) 16 f16) ++ tl) (cc := cX10_firstExtra) (maxL := 3) (by decide) rfl rfl (Nat.le_of_ble_eq_true rfl) ?_
  intro p e s m below meth c Q A hx hb hml hown hts hKX hP hD hS hAA hZ hq hqt hqw hqo ls hl
  have hK := hKX.1
  obtain ⟨H, eH⟩ : ∃ z, z = s.heap := ⟨_, rfl⟩
  obtain ⟨locs, el⟩ : ∃ z : List Loc, z = [] := ⟨_, rfl⟩
  rw [← eH] at hP
  have hS : va_S A s.heap H locs := by rw [eH, el]; exact hS
  have goal0 : W p l e r_c_X10_firstExtra s m ([.ref (g.2.2.2 0), .int (nI s2), .int (nI bd)] : List Value).toArray below meth c H locs 0 0 Q (F0 m 0 ls []) → W p l e r_c_X10_firstExtra s m ([.ref (g.2.2.2 0), .int (nI s2), .int (nI bd)] : List Value).toArray below meth c s.heap [] 0 0 Q (F0 m 0 ls []) := fun h => by rw [eH, el] at h; exact h
  refine goal0 ?_
  have hl : lv_has ls 3 [(0, .ref (g.2.2.2 0)), (1, .int (nI s2)), (2, .int (nI bd))] := hl
  refine lv_iload_n hx hb dX10_firstExtra_0 rfl (lv_at hl 1 rfl) ?_
  refine jx_callv (vx_runS (As := [.int (nI s2)]) (rest := []) ⟨hx, hb, hml, hown, hts⟩ (c_X10_requireSet l hflg g tl H.size σ s2 (by omega)) (va_cwS 1 hts gX10_firstExtra_X10_requireSet rfl rfl rfl (by decide +kernel) ⟨Nat.le_of_ble_eq_true rfl, Nat.le_of_ble_eq_true rfl⟩) (okXS hKX hP hD hZ hS hAA) rfl rfl hl.1 rfl (lv_room (Nat.le_of_ble_eq_true rfl)) dX10_firstExtra_1 ⟨Nat.le_of_ble_eq_true rfl, Nat.le_of_ble_eq_true rfl⟩) hD hS hAA (fun E ce q9 u H locs hxp hP hD hS h7 h8 h9 => ?_) (fun u H locs hw_ hP hD hS => ?_)
  · have hxp : (E = "java/lang/IndexOutOfBoundsException" ∧ (¬ s2 < 2)) := hxp
    rcases hxp with ⟨eE, hc⟩
    · exact hqo _ _ _ _ _ _ _ _ _ _ ((σ.2.1 15), (σ.2.1 16)) (Nat.le_of_ble_eq_true rfl) (Nat.le_of_ble_eq_true rfl) h7 h8 h9 (Or.inl ⟨eE, (by first | exact hc | omega)⟩) hP hD hS
  have h_1 := hw_
  have h_1 : s2 < 2 := h_1
  have hP : va_P (g.1, g.2.1) vwCl (wC g σ ++ tl) H := hP
  have hD : va_D A (wC g σ ++ tl) := hD
  refine lv_iload_n hx hb dX10_firstExtra_4 rfl (lv_at hl 2 rfl) ?_
  refine jx_callv (vx_runS (As := [.int (nI bd)]) (rest := []) ⟨hx, hb, hml, hown, hts⟩ (c_X10_requireBound l hflg g tl H.size σ bd (by omega)) (va_cwS 1 hts gX10_firstExtra_X10_requireBound rfl rfl rfl (by decide +kernel) ⟨Nat.le_of_ble_eq_true rfl, Nat.le_of_ble_eq_true rfl⟩) (okXS hKX hP hD hZ hS hAA) rfl rfl hl.1 rfl (lv_room (Nat.le_of_ble_eq_true rfl)) dX10_firstExtra_5 ⟨Nat.le_of_ble_eq_true rfl, Nat.le_of_ble_eq_true rfl⟩) hD hS hAA (fun E ce q9 u H locs hxp hP hD hS h7 h8 h9 => ?_) (fun u H locs hw_ hP hD hS => ?_)
  · have hxp : (E = "java/lang/IllegalArgumentException" ∧ (¬ bd < 7)) := hxp
    rcases hxp with ⟨eE, hc⟩
    · exact hqo _ _ _ _ _ _ _ _ _ _ ((σ.2.1 15), (σ.2.1 16)) (Nat.le_of_ble_eq_true rfl) (Nat.le_of_ble_eq_true rfl) h7 h8 h9 (Or.inr (Or.inl ⟨eE, ⟨h_1, hc⟩⟩)) hP hD hS
  have h_5 := hw_
  have h_5 : bd < 7 := h_5
  have hP : va_P (g.1, g.2.1) vwCl (wC g σ ++ tl) H := hP
  have hD : va_D A (wC g σ ++ tl) := hD
  refine lv_aload_n hx hb dX10_firstExtra_8 rfl (lv_at hl 0 rfl) ?_
  refine lv_iload_n hx hb dX10_firstExtra_9 rfl (lv_at hl 1 rfl) ?_
  refine lv_iload_n hx hb dX10_firstExtra_10 rfl (lv_at hl 2 rfl) ?_
  refine lv_iconst (v := nI 0) hx hb dX10_firstExtra_11 (by decide) ?_
  refine jx_calli (vx_runV (As := [.int (nI s2), .int (nI bd), .int (nI 0)]) (rest := []) ⟨hx, hb, hml, hown, hts⟩ (c_X10_firstDifference l hflg g tl H.size σ s2 bd 0 hA hC h_1 h_5 (by decide)) (cwV 3 hts gX10_firstExtra_X10_firstDifference rfl rfl rfl (by decide +kernel) ⟨Nat.le_of_ble_eq_true rfl, Nat.le_of_ble_eq_true rfl⟩) (okXV hKX hP hD hZ hS hAA rfl (gC0 g σ tl)) rfl rfl hl.1 rfl (lv_room (Nat.le_of_ble_eq_true rfl)) dX10_firstExtra_12 ⟨Nat.le_of_ble_eq_true rfl, Nat.le_of_ble_eq_true rfl⟩) hD hS hAA (fun E ce q9 u H locs hxp hP hD hS h7 h8 h9 => ?_) (fun r_12 u H locs hw_ hP hD hS => ?_)
  · obtain ⟨f15_x12, f16_x12⟩ := u
    have hxp : (E = "java/util/NoSuchElementException" ∧ (∀ x y z, x ≤ bd → y ≤ bd → z ≤ bd → ¬ (dfS (σ.2.1 0) (σ.1 0) (σ.2.1 2) s2 0) x y z)) := hxp
    rcases hxp with ⟨eE, hc⟩
    · exact hqo _ _ _ _ _ _ _ _ _ _ (f15_x12, f16_x12) (Nat.le_of_ble_eq_true rfl) (Nat.le_of_ble_eq_true rfl) h7 h8 h9 (Or.inr (Or.inr ⟨eE, ⟨h_1, h_5, hc⟩⟩)) hP hD hS
  obtain ⟨r0_12, f15_12, f16_12⟩ := u
  obtain ⟨rfl, h_12⟩ := hw_
  have h_12 : isDf (dfS (σ.2.1 0) (σ.1 0) (σ.2.1 2) s2 0) bd r0_12 := h_12
  have hP : va_P (g.1, g.2.1) vwCl (wC g (sA (sA σ 15 f15_12) 16 f16_12) ++ tl) H := hP
  have hD : va_D A (wC g (sA (sA σ 15 f15_12) 16 f16_12) ++ tl) := hD
  exact hq _ _ _ _ _ _ ((nI r0_12)) (r0_12, f15_12, f16_12) (Nat.le_of_ble_eq_true rfl) (Nat.le_of_ble_eq_true rfl) dX10_firstExtra_15 ⟨rfl, h_1, h_5, h_12⟩ hP hD hS
