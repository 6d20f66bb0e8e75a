abbrev r_c_X10_accepts : Room := { frames := 8, cells := 2, slots := 12, locals := 123 }
set_option maxHeartbeats 4000000 in
set_option maxRecDepth 100000 in
theorem c_X10_accepts (l : Launch) (hflg : l.stackTraces = false) (g : GC) (tl : va_W) (sz : Nat) (σ : SS) (md : Nat) (hA : OkA σ) (hw8 : (σ.1 20) ≤ 8) (hw : ∀ i, i < (σ.1 20) → (σ.2.1 14) i < 3) (hmd : md < 4294967296) : vx_Met l yX10_accepts wsX10_accepts r_c_X10_accepts (va_Pc [.ref (g.2.2.2 0), .int (nI md)] (PX g (wC g σ ++ tl) sz)) (va_Qi (fun (r : Int32) (z : (Nat → Nat) × Nat × Nat × Nat × Nat × Nat) => match z with | (f15, m2, r2, k2, j2, p2) => (r = nI (if acP (σ.2.1 0) (σ.2.1 14) (σ.1 0) (σ.1 20) md then 1 else 0)) ∧ (md < 3) ∧ (md = 2 → detT (σ.2.1 0))) (fun (z : (Nat → Nat) × Nat × Nat × Nat × Nat × Nat) t => BW g (va_A (wC g σ ++ tl) sz) ((fun z : (Nat → Nat) × Nat × Nat × Nat × Nat × Nat => match z with | (f15, m2, r2, k2, j2, p2) => wC g (sF (sF (sF (sF (sF (sA σ 15 f15) 12 m2) 13 r2) 14 k2) 15 j2) 16 p2) ++ tl) z) t) (va_A (wC g σ ++ tl) sz)) (XW g (va_A (wC g σ ++ tl) sz) (fun (E : String) (_ : Unit) => (E = "java/lang/IllegalArgumentException" ∧ (¬ md < 3)) ∨ (E = "java/lang/UnsupportedOperationException" ∧ (md = 2 ∧ ¬ detT (σ.2.1 0)))) (fun _ : Unit => wC g σ ++ tl)) 2 12 (va_A (wC g σ ++ tl) sz) := by
  refine jx_z hflg (wf := fun z : (Nat → Nat) × Nat × Nat × Nat × Nat × Nat => match z with | (f15, m2, r2, k2, j2, p2) => wC g (sF (sF (sF (sF (sF (sA σ 15 f15) 12 m2) 13 r2) 14 k2) 15 j2) 16 p2) ++ tl) (wx := fun _ : Unit => wC g σ ++ tl) (cc := cX10_accepts) (maxL := 2) (by decide) rfl rfl (Nat.le_of_ble_eq_true rfl) ?_
  intro p e s m below meth c Q A hx hb hml hown hts hKX hP hD hS hAA hZ hq hqt hqw hqo ls hl
  have hK := hKX.1
  obtain ⟨H, eH⟩ : ∃ z, z = s.heap := ⟨_, rfl⟩
  obtain ⟨locs, el⟩ : ∃ z : List Loc, z = [] := ⟨_, rfl⟩
  rw [← eH] at hP
  have hS : va_S A s.heap H locs := by rw [eH, el]; exact hS
  have goal0 : W p l e r_c_X10_accepts s m ([.ref (g.2.2.2 0), .int (nI md)] : List Value).toArray below meth c H locs 0 0 Q (F0 m 0 ls []) → W p l e r_c_X10_accepts s m ([.ref (g.2.2.2 0), .int (nI md)] : List Value).toArray below meth c s.heap [] 0 0 Q (F0 m 0 ls []) := fun h => by rw [eH, el] at h; exact h
  refine goal0 ?_
  have hl : lv_has ls 2 [(0, .ref (g.2.2.2 0)), (1, .int (nI md))] := hl
  have iX10 : ∀ w ∈ wsX100, w ∈ wsX10_accepts := by decide +kernel
  have k82 := hts (.fieldLink RX10 82 "JumpingAutomata" "oneWay" "LJumpingAutomata$OneWayReader;") (by decide +kernel)
  have k12 := hts (.fieldLink RX10 12 "JumpingAutomata" "automaton" "LJumpingAutomata$Automaton;") (by decide +kernel)
  have k37 := hts (.fieldLink RX10 37 "JumpingAutomata" "word" "[I") (by decide +kernel)
  have k41 := hts (.fieldLink RX10 41 "JumpingAutomata" "wordSize" "I") (by decide +kernel)
  refine lv_iload_n hx hb dX10_accepts_0 rfl (lv_at hl 1 rfl) ?_
  refine jx_callv (vx_runS (As := [.int (nI md)]) (rest := []) ⟨hx, hb, hml, hown, hts⟩ (c_X10_requireMode l hflg g tl H.size σ md (by omega)) (va_cwS 1 hts gX10_accepts_X10_requireMode rfl rfl rfl (by decide +kernel) ⟨Nat.le_of_ble_eq_true rfl, Nat.le_of_ble_eq_true rfl⟩) (okXS hKX hP hD hZ hS hAA) rfl rfl hl.1 rfl (lv_room (Nat.le_of_ble_eq_true rfl)) dX10_accepts_1 ⟨Nat.le_of_ble_eq_true rfl, Nat.le_of_ble_eq_true rfl⟩) hD hS hAA (fun E ce q9 u H locs hxp hP hD hS h7 h8 h9 => ?_) (fun u H locs hw_ hP hD hS => ?_)
  · have hxp : (E = "java/lang/IllegalArgumentException" ∧ (¬ md < 3)) := hxp
    rcases hxp with ⟨eE, hc⟩
    · exact hqo _ _ _ _ _ _ _ _ _ _ () (Nat.le_of_ble_eq_true rfl) (Nat.le_of_ble_eq_true rfl) h7 h8 h9 (Or.inl ⟨eE, (by first | exact hc | omega)⟩) hP hD hS
  have h_1 := hw_
  have h_1 : md < 3 := h_1
  have hP : va_P (g.1, g.2.1) vwCl (wC g σ ++ tl) H := hP
  have hD : va_D A (wC g σ ++ tl) := hD
  refine lv_aload_n hx hb dX10_accepts_4 rfl (lv_at hl 0 rfl) ?_
  refine lv_iload_n hx hb dX10_accepts_5 rfl (lv_at hl 1 rfl) ?_
  refine jx_callv (vx_runV (As := [.int (nI md)]) (rest := []) ⟨hx, hb, hml, hown, hts⟩ (c_X10_requireReadable l hflg g tl H.size σ md hA h_1) (cwV 1 hts gX10_accepts_X10_requireReadable rfl rfl rfl (by decide +kernel) ⟨Nat.le_of_ble_eq_true rfl, Nat.le_of_ble_eq_true rfl⟩) (okXV hKX hP hD hZ hS hAA rfl (gC0 g σ tl)) rfl rfl hl.1 rfl (lv_room (Nat.le_of_ble_eq_true rfl)) dX10_accepts_6 ⟨Nat.le_of_ble_eq_true rfl, Nat.le_of_ble_eq_true rfl⟩) hD hS hAA (fun E ce q9 u H locs hxp hP hD hS h7 h8 h9 => ?_) (fun u H locs hw_ hP hD hS => ?_)
  · have hxp : (E = "java/lang/UnsupportedOperationException" ∧ (md = 2 ∧ ¬ detT (σ.2.1 0))) := hxp
    rcases hxp with ⟨eE, hc⟩
    · exact hqo _ _ _ _ _ _ _ _ _ _ () (Nat.le_of_ble_eq_true rfl) (Nat.le_of_ble_eq_true rfl) h7 h8 h9 (Or.inr ⟨eE, (by first | exact hc | omega)⟩) hP hD hS
  have h_6 := hw_
  have h_6 : md = 2 → detT (σ.2.1 0) := h_6
  have hP : va_P (g.1, g.2.1) vwCl (wC g σ ++ tl) H := hP
  have hD : va_D A (wC g σ ++ tl) := hD
  refine lv_iload_n hx hb dX10_accepts_9 rfl (lv_at hl 1 rfl) ?_
  refine jn_zne hx hb (by omega) (tgt := 36) dX10_accepts_10 (by decide) (fun c_10 => ?_) (fun c_10 => ?_)
  · refine lv_iload_n hx hb dX10_accepts_36 rfl (lv_at hl 1 rfl) ?_
    refine lv_iconst (v := nI 1) hx hb dX10_accepts_37 (by decide) ?_
    refine jn_cne hx hb (by omega) (by decide) (tgt := 46) dX10_accepts_38 (by decide) (fun c_38 => ?_) (fun c_38 => ?_)
    · refine lv_aload_n hx hb dX10_accepts_46 rfl (lv_at hl 0 rfl) ?_
      refine va_get (D := (g.1, g.2.1)) (ci := 12) (v := .ref (g.2.2.2 35)) (C := RX10) (T := TX10) (N := 15) hx hb hts iX10 hown hK.1 hP 0 (gC0 g σ tl) rfl 12 (by decide) k82 (fun _ h9 => h9) rfl dX10_accepts_47 ?_
      refine lv_aload_n hx hb dX10_accepts_50 rfl (lv_at hl 0 rfl) ?_
      refine va_get (D := (g.1, g.2.1)) (ci := 12) (v := .ref (g.2.2.2 1)) (C := RX10) (T := TX10) (N := 15) hx hb hts iX10 hown hK.1 hP 0 (gC0 g σ tl) rfl 0 (by decide) k12 (fun _ h9 => h9) rfl dX10_accepts_51 ?_
      refine lv_aload_n hx hb dX10_accepts_54 rfl (lv_at hl 0 rfl) ?_
      refine va_get (D := (g.1, g.2.1)) (ci := 12) (v := .ref (g.2.2.2 20)) (C := RX10) (T := TX10) (N := 15) hx hb hts iX10 hown hK.1 hP 0 (gC0 g σ tl) rfl 4 (by decide) k37 (fun _ h9 => h9) rfl dX10_accepts_55 ?_
      refine lv_aload_n hx hb dX10_accepts_58 rfl (lv_at hl 0 rfl) ?_
      refine va_get (D := (g.1, g.2.1)) (ci := 12) (v := .int (nI (σ.1 20))) (C := RX10) (T := TX10) (N := 15) hx hb hts iX10 hown hK.1 hP 0 (gC0 g σ tl) rfl 5 (by decide) k41 (fun _ h9 => h9) rfl dX10_accepts_59 ?_
      refine jn_callv (va_runV (As := [.ref (g.2.2.2 1), .ref (g.2.2.2 20), .int (nI (σ.1 20))]) (rest := []) ⟨hx, hb, hml, hown, hts⟩ (c_X8_read l g tl H.size σ (σ.1 20) hA hw8 hw) (cwV 3 hts gX10_accepts_X8_read rfl rfl rfl (by decide +kernel) ⟨Nat.le_of_ble_eq_true rfl, Nat.le_of_ble_eq_true rfl⟩) (okWV hK hP hD rfl (gC35 g σ tl)) rfl rfl hl.1 rfl (lv_room (Nat.le_of_ble_eq_true rfl)) dX10_accepts_62 ⟨Nat.le_of_ble_eq_true rfl, Nat.le_of_ble_eq_true rfl⟩) hD hS hAA (fun u H locs hw_ hP hD hS => ?_)
      have hP : va_P (g.1, g.2.1) vwCl (wC g (sF (sF (sF (sF (sF σ 12 ((readO (σ.2.1 0) (σ.2.1 14) (σ.1 20)).1)) 13 (pkL (readO (σ.2.1 0) (σ.2.1 14) (σ.1 20)).2.1)) 14 ((readO (σ.2.1 0) (σ.2.1 14) (σ.1 20)).2.1.length)) 15 ((readO (σ.2.1 0) (σ.2.1 14) (σ.1 20)).2.2.1)) 16 ((readO (σ.2.1 0) (σ.2.1 14) (σ.1 20)).2.2.2)) ++ tl) H := hP
      have hD : va_D A (wC g (sF (sF (sF (sF (sF σ 12 ((readO (σ.2.1 0) (σ.2.1 14) (σ.1 20)).1)) 13 (pkL (readO (σ.2.1 0) (σ.2.1 14) (σ.1 20)).2.1)) 14 ((readO (σ.2.1 0) (σ.2.1 14) (σ.1 20)).2.1.length)) 15 ((readO (σ.2.1 0) (σ.2.1 14) (σ.1 20)).2.2.1)) 16 ((readO (σ.2.1 0) (σ.2.1 14) (σ.1 20)).2.2.2)) ++ tl) := hD
      have rk := readO_ok hA.1 hw8 hw
      refine lv_aload_n hx hb dX10_accepts_65 rfl (lv_at hl 0 rfl) ?_
      refine va_get (D := (g.1, g.2.1)) (ci := 12) (v := .ref (g.2.2.2 35)) (C := RX10) (T := TX10) (N := 15) hx hb hts iX10 hown hK.1 hP 0 (gC0 g (sF (sF (sF (sF (sF σ 12 ((readO (σ.2.1 0) (σ.2.1 14) (σ.1 20)).1)) 13 (pkL (readO (σ.2.1 0) (σ.2.1 14) (σ.1 20)).2.1)) 14 ((readO (σ.2.1 0) (σ.2.1 14) (σ.1 20)).2.1.length)) 15 ((readO (σ.2.1 0) (σ.2.1 14) (σ.1 20)).2.2.1)) 16 ((readO (σ.2.1 0) (σ.2.1 14) (σ.1 20)).2.2.2)) tl) rfl 12 (by decide) k82 (fun _ h9 => h9) rfl dX10_accepts_66 ?_
      refine lv_aload_n hx hb dX10_accepts_69 rfl (lv_at hl 0 rfl) ?_
      refine va_get (D := (g.1, g.2.1)) (ci := 12) (v := .ref (g.2.2.2 1)) (C := RX10) (T := TX10) (N := 15) hx hb hts iX10 hown hK.1 hP 0 (gC0 g (sF (sF (sF (sF (sF σ 12 ((readO (σ.2.1 0) (σ.2.1 14) (σ.1 20)).1)) 13 (pkL (readO (σ.2.1 0) (σ.2.1 14) (σ.1 20)).2.1)) 14 ((readO (σ.2.1 0) (σ.2.1 14) (σ.1 20)).2.1.length)) 15 ((readO (σ.2.1 0) (σ.2.1 14) (σ.1 20)).2.2.1)) 16 ((readO (σ.2.1 0) (σ.2.1 14) (σ.1 20)).2.2.2)) tl) rfl 0 (by decide) k12 (fun _ h9 => h9) rfl dX10_accepts_70 ?_
      refine vp_callSi (va_Run.run (va_runV (As := [.ref (g.2.2.2 1)]) (rest := []) ⟨hx, hb, hml, hown, hts⟩ (c_X8_accepted l g tl (sF (sF (sF (sF (sF σ 12 ((readO (σ.2.1 0) (σ.2.1 14) (σ.1 20)).1)) 13 (pkL (readO (σ.2.1 0) (σ.2.1 14) (σ.1 20)).2.1)) 14 ((readO (σ.2.1 0) (σ.2.1 14) (σ.1 20)).2.1.length)) 15 ((readO (σ.2.1 0) (σ.2.1 14) (σ.1 20)).2.2.1)) 16 ((readO (σ.2.1 0) (σ.2.1 14) (σ.1 20)).2.2.2)) hA (show (readO (σ.2.1 0) (σ.2.1 14) (σ.1 20)).2.1.length < 4294967296 by have := rk.2.1; omega)) (cwV 1 hts gX10_accepts_X8_accepted rfl rfl rfl (by decide +kernel) ⟨Nat.le_of_ble_eq_true rfl, Nat.le_of_ble_eq_true rfl⟩) (okPV hK hP rfl (gC35 g (sF (sF (sF (sF (sF σ 12 ((readO (σ.2.1 0) (σ.2.1 14) (σ.1 20)).1)) 13 (pkL (readO (σ.2.1 0) (σ.2.1 14) (σ.1 20)).2.1)) 14 ((readO (σ.2.1 0) (σ.2.1 14) (σ.1 20)).2.1.length)) 15 ((readO (σ.2.1 0) (σ.2.1 14) (σ.1 20)).2.2.1)) 16 ((readO (σ.2.1 0) (σ.2.1 14) (σ.1 20)).2.2.2)) tl)) rfl rfl hl.1 rfl (lv_room (Nat.le_of_ble_eq_true rfl)) dX10_accepts_73 ⟨Nat.le_of_ble_eq_true rfl, Nat.le_of_ble_eq_true rfl⟩)) (fun r_73 h_73 => ?_)
      have h_73 : r_73 = (nI (if ((readO (σ.2.1 0) (σ.2.1 14) (σ.1 20)).2.1.length) = 0 ∧ ((readO (σ.2.1 0) (σ.2.1 14) (σ.1 20)).1) &&& σ.1 0 ≠ 0 then 1 else 0)) := h_73
      subst h_73
      exact hq _ _ _ _ _ _ ((nI (if ((readO (σ.2.1 0) (σ.2.1 14) (σ.1 20)).2.1.length) = 0 ∧ ((readO (σ.2.1 0) (σ.2.1 14) (σ.1 20)).1) &&& σ.1 0 ≠ 0 then 1 else 0))) ((σ.2.1 15), ((readO (σ.2.1 0) (σ.2.1 14) (σ.1 20)).1), (pkL (readO (σ.2.1 0) (σ.2.1 14) (σ.1 20)).2.1), ((readO (σ.2.1 0) (σ.2.1 14) (σ.1 20)).2.1.length), ((readO (σ.2.1 0) (σ.2.1 14) (σ.1 20)).2.2.1), ((readO (σ.2.1 0) (σ.2.1 14) (σ.1 20)).2.2.2)) (Nat.le_of_ble_eq_true rfl) (Nat.le_of_ble_eq_true rfl) dX10_accepts_76 (jn_nb _) ⟨by congr 1; apply if_ac2; omega, h_1, h_6⟩ hP hD hS
    · refine lv_aload_n hx hb dX10_accepts_41 rfl (lv_at hl 0 rfl) ?_
      refine jn_calli (va_runV (As := []) (rest := []) ⟨hx, hb, hml, hown, hts⟩ (c_X10_wordIsReached l g tl H.size σ hA hw8 hw) (cwV 0 hts gX10_accepts_X10_wordIsReached rfl rfl rfl (by decide +kernel) ⟨Nat.le_of_ble_eq_true rfl, Nat.le_of_ble_eq_true rfl⟩) (okWV hK hP hD rfl (gC0 g σ tl)) rfl rfl hl.1 rfl (lv_room (Nat.le_of_ble_eq_true rfl)) dX10_accepts_42 ⟨Nat.le_of_ble_eq_true rfl, Nat.le_of_ble_eq_true rfl⟩) hD hS hAA (fun r_42 u H locs hw_ hP hD hS => ?_)
      obtain ⟨f15_42, rfl⟩ : ∃ z, z = u := ⟨_, rfl⟩
      obtain rfl := hw_
      have hP : va_P (g.1, g.2.1) vwCl (wC g (sA σ 15 f15_42) ++ tl) H := hP
      have hD : va_D A (wC g (sA σ 15 f15_42) ++ tl) := hD
      exact hq _ _ _ _ _ _ ((nI (if wrc (σ.2.1 0) (σ.2.1 14) (σ.1 0) (σ.1 20) then 1 else 0))) (f15_42, (σ.1 12), (σ.1 13), (σ.1 14), (σ.1 15), (σ.1 16)) (Nat.le_of_ble_eq_true rfl) (Nat.le_of_ble_eq_true rfl) dX10_accepts_45 (jn_nb _) ⟨by congr 1; apply if_ac1; omega, h_1, h_6⟩ hP hD hS
  · refine lv_aload_n hx hb dX10_accepts_13 rfl (lv_at hl 0 rfl) ?_
    refine va_get (D := (g.1, g.2.1)) (ci := 12) (v := .ref (g.2.2.2 1)) (C := RX10) (T := TX10) (N := 15) hx hb hts iX10 hown hK.1 hP 0 (gC0 g σ tl) rfl 0 (by decide) k12 (fun _ h9 => h9) rfl dX10_accepts_14 ?_
    refine lv_aload_n hx hb dX10_accepts_17 rfl (lv_at hl 0 rfl) ?_
    refine va_get (D := (g.1, g.2.1)) (ci := 12) (v := .ref (g.2.2.2 1)) (C := RX10) (T := TX10) (N := 15) hx hb hts iX10 hown hK.1 hP 0 (gC0 g σ tl) rfl 0 (by decide) k12 (fun _ h9 => h9) rfl dX10_accepts_18 ?_
    refine lv_aload_n hx hb dX10_accepts_21 rfl (lv_at hl 0 rfl) ?_
    refine va_get (D := (g.1, g.2.1)) (ci := 12) (v := .ref (g.2.2.2 20)) (C := RX10) (T := TX10) (N := 15) hx hb hts iX10 hown hK.1 hP 0 (gC0 g σ tl) rfl 4 (by decide) k37 (fun _ h9 => h9) rfl dX10_accepts_22 ?_
    refine lv_aload_n hx hb dX10_accepts_25 rfl (lv_at hl 0 rfl) ?_
    refine va_get (D := (g.1, g.2.1)) (ci := 12) (v := .int (nI (σ.1 20))) (C := RX10) (T := TX10) (N := 15) hx hb hts iX10 hown hK.1 hP 0 (gC0 g σ tl) rfl 5 (by decide) k41 (fun _ h9 => h9) rfl dX10_accepts_26 ?_
    refine vp_callSi (va_Run.run (va_runV (As := [.ref (g.2.2.2 20), .int (nI (σ.1 20))]) (rest := [.ref (g.2.2.2 1)]) ⟨hx, hb, hml, hown, hts⟩ (c_X0_statesAfter l g tl σ (σ.1 20) hA hw8 hw) (cwV 2 hts gX10_accepts_X0_statesAfter rfl rfl rfl (by decide +kernel) ⟨Nat.le_of_ble_eq_true rfl, Nat.le_of_ble_eq_true rfl⟩) (okPV hK hP rfl (gC1 g σ tl)) rfl rfl hl.1 rfl (lv_room (Nat.le_of_ble_eq_true rfl)) dX10_accepts_29 ⟨Nat.le_of_ble_eq_true rfl, Nat.le_of_ble_eq_true rfl⟩)) (fun r_29 h_29 => ?_)
    subst h_29
    refine vp_callSi (va_Run.run (va_runV (As := [.int (nI (wrun (σ.2.1 0) (σ.2.1 14) (σ.1 20)))]) (rest := []) ⟨hx, hb, hml, hown, hts⟩ (c_X0_accepting l g tl σ (wrun (σ.2.1 0) (σ.2.1 14) (σ.1 20)) hA) (cwV 1 hts gX10_accepts_X0_accepting rfl rfl rfl (by decide +kernel) ⟨Nat.le_of_ble_eq_true rfl, Nat.le_of_ble_eq_true rfl⟩) (okPV hK hP rfl (gC1 g σ tl)) rfl rfl hl.1 rfl (lv_room (Nat.le_of_ble_eq_true rfl)) dX10_accepts_32 ⟨Nat.le_of_ble_eq_true rfl, Nat.le_of_ble_eq_true rfl⟩)) (fun r_32 h_32 => ?_)
    subst h_32
    exact hq _ _ _ _ _ _ ((nI (if (wrun (σ.2.1 0) (σ.2.1 14) (σ.1 20)) &&& σ.1 0 ≠ 0 then 1 else 0))) ((σ.2.1 15), (σ.1 12), (σ.1 13), (σ.1 14), (σ.1 15), (σ.1 16)) (Nat.le_of_ble_eq_true rfl) (Nat.le_of_ble_eq_true rfl) dX10_accepts_35 (jn_nb _) ⟨by congr 1; apply if_ac0; omega, h_1, h_6⟩ hP hD hS

abbrev r_c_X10_takeArrangement : Room := { frames := 11, cells := 1, slots := 6, locals := 271 }
set_option maxHeartbeats 4000000 in
set_option maxRecDepth 100000 in
theorem c_X10_takeArrangement (l : Launch) (hflg : l.stackTraces = false) (g : GC) (tl : va_W) (sz : Nat) (σ : SS) (rk : Nat) (hA : OkA σ) (hw8 : (σ.1 20) ≤ 8) (hw : ∀ i, i < (σ.1 20) → (σ.2.1 14) i < 3) (hrk : rk < 4294967296) : vx_Met l yX10_takeArrangement wsX10_takeArrangement r_c_X10_takeArrangement (va_Pc [.ref (g.2.2.2 0), .int (nI rk)] (PX g (wC g σ ++ tl) sz)) (va_Qi (fun (r : Int32) (z : Nat × (Nat → Nat) × (Nat → Nat)) => match z with | (sn2, lt2, lf2) => (r = nI ((σ.1 20))) ∧ (rk < 2147483648) ∧ (rk < arrN (σ.2.1 0) (σ.1 0) (σ.1 20) (cntW (σ.2.1 14) (σ.1 20)) 1) ∧ (isArr (σ.2.1 0) (σ.1 0) (σ.1 20) (cntW (σ.2.1 14) (σ.1 20)) 1 rk lt2)) (fun (z : Nat × (Nat → Nat) × (Nat → Nat)) t => BW g (va_A (wC g σ ++ tl) sz) ((fun z : Nat × (Nat → Nat) × (Nat → Nat) => match z with | (sn2, lt2, lf2) => wC g (sF (sF (sA (sA (sA (sF (sF (sF σ 17 ((σ.1 20))) 18 sn2) 19 rk) 19 lt2) 20 lf2) 14 (va_cpy lt2 (σ.2.1 14) 0 0 (σ.1 20))) 20 ((σ.1 20))) 21 0) ++ tl) z) t) (va_A (wC g σ ++ tl) sz)) (XW g (va_A (wC g σ ++ tl) sz) (fun (E : String) (z : Nat × Nat × Nat × (Nat → Nat) × (Nat → Nat)) => match z with | (n17, sn2, n19, lt2, lf2) => (E = "java/lang/IllegalArgumentException" ∧ (2147483648 ≤ rk)) ∨ (E = "java/util/NoSuchElementException" ∧ (rk < 2147483648 ∧ ¬ rk < arrN (σ.2.1 0) (σ.1 0) (σ.1 20) (cntW (σ.2.1 14) (σ.1 20)) 1))) (fun z : Nat × Nat × Nat × (Nat → Nat) × (Nat → Nat) => match z with | (n17, sn2, n19, lt2, lf2) => wC g (sA (sA (sF (sF (sF σ 17 n17) 18 sn2) 19 n19) 19 lt2) 20 lf2) ++ tl)) 1 6 (va_A (wC g σ ++ tl) sz) := by
  refine jx_i hflg (wf := fun z : Nat × (Nat → Nat) × (Nat → Nat) => match z with | (sn2, lt2, lf2) => wC g (sF (sF (sA (sA (sA (sF (sF (sF σ 17 ((σ.1 20))) 18 sn2) 19 rk) 19 lt2) 20 lf2) 14 (va_cpy lt2 (σ.2.1 14) 0 0 (σ.1 20))) 20 ((σ.1 20))) 21 0) ++ tl) (wx := fun z : Nat × Nat × Nat × (Nat → Nat) × (Nat → Nat) => match z with | (n17, sn2, n19, lt2, lf2) => wC g (sA (sA (sF (sF (sF σ 17 n17) 18 sn2) 19 n19) 19 lt2) 20 lf2) ++ tl) (cc := cX10_takeArrangement) (maxL := 2) (by decide) rfl rfl (Nat.le_of_ble_eq_true rfl) ?_
  intro p e s m below meth c Q A hx hb hml hown hts hKX hP hD hS hAA hZ hq hqt hqw hqo ls hl
  have hK := hKX.1
  obtain ⟨H, eH⟩ : ∃ z, z = s.heap := ⟨_, rfl⟩
  obtain ⟨locs, el⟩ : ∃ z : List Loc, z = [] := ⟨_, rfl⟩
  rw [← eH] at hP
  have hS : va_S A s.heap H locs := by rw [eH, el]; exact hS
  have goal0 : W p l e r_c_X10_takeArrangement s m ([.ref (g.2.2.2 0), .int (nI rk)] : List Value).toArray below meth c H locs 0 0 Q (F0 m 0 ls []) → W p l e r_c_X10_takeArrangement s m ([.ref (g.2.2.2 0), .int (nI rk)] : List Value).toArray below meth c s.heap [] 0 0 Q (F0 m 0 ls []) := fun h => by rw [eH, el] at h; exact h
  refine goal0 ?_
  have hl : lv_has ls 2 [(0, .ref (g.2.2.2 0)), (1, .int (nI rk))] := hl
  have iX10 : ∀ w ∈ wsX100, w ∈ wsX10_takeArrangement := by decide +kernel
  have k75 := hts (.fieldLink RX10 75 "JumpingAutomata" "search" "LJumpingAutomata$WordSearch;") (by decide +kernel)
  have k12 := hts (.fieldLink RX10 12 "JumpingAutomata" "automaton" "LJumpingAutomata$Automaton;") (by decide +kernel)
  have k37 := hts (.fieldLink RX10 37 "JumpingAutomata" "word" "[I") (by decide +kernel)
  have k41 := hts (.fieldLink RX10 41 "JumpingAutomata" "wordSize" "I") (by decide +kernel)
  refine lv_iload_n hx hb dX10_takeArrangement_0 rfl (lv_at hl 1 rfl) ?_
  refine jn_zge hx hb (by omega) (tgt := 14) dX10_takeArrangement_1 (by decide) (fun c_1 => ?_) (fun c_1 => ?_)
  · refine lv_aload_n hx hb dX10_takeArrangement_14 rfl (lv_at hl 0 rfl) ?_
    refine va_get (D := (g.1, g.2.1)) (ci := 12) (v := .ref (g.2.2.2 30)) (C := RX10) (T := TX10) (N := 15) hx hb hts iX10 hown hK.1 hP 0 (gC0 g σ tl) rfl 11 (by decide) k75 (fun _ h9 => h9) rfl dX10_takeArrangement_15 ?_
    refine lv_aload_n hx hb dX10_takeArrangement_18 rfl (lv_at hl 0 rfl) ?_
    refine va_get (D := (g.1, g.2.1)) (ci := 12) (v := .ref (g.2.2.2 1)) (C := RX10) (T := TX10) (N := 15) hx hb hts iX10 hown hK.1 hP 0 (gC0 g σ tl) rfl 0 (by decide) k12 (fun _ h9 => h9) rfl dX10_takeArrangement_19 ?_
    refine lv_aload_n hx hb dX10_takeArrangement_22 rfl (lv_at hl 0 rfl) ?_
    refine va_get (D := (g.1, g.2.1)) (ci := 12) (v := .ref (g.2.2.2 20)) (C := RX10) (T := TX10) (N := 15) hx hb hts iX10 hown hK.1 hP 0 (gC0 g σ tl) rfl 4 (by decide) k37 (fun _ h9 => h9) rfl dX10_takeArrangement_23 ?_
    refine lv_aload_n hx hb dX10_takeArrangement_26 rfl (lv_at hl 0 rfl) ?_
    refine va_get (D := (g.1, g.2.1)) (ci := 12) (v := .int (nI (σ.1 20))) (C := RX10) (T := TX10) (N := 15) hx hb hts iX10 hown hK.1 hP 0 (gC0 g σ tl) rfl 5 (by decide) k41 (fun _ h9 => h9) rfl dX10_takeArrangement_27 ?_
    refine lv_iload_n hx hb dX10_takeArrangement_30 rfl (lv_at hl 1 rfl) ?_
    refine jn_calli (va_runV (As := [.ref (g.2.2.2 1), .ref (g.2.2.2 20), .int (nI (σ.1 20)), .int (nI rk)]) (rest := []) ⟨hx, hb, hml, hown, hts⟩ (c_X9_findArrangement l g tl H.size σ (σ.1 20) rk hA hw8 hw hrk) (cwV 4 hts gX10_takeArrangement_X9_findArrangement rfl rfl rfl (by decide +kernel) ⟨Nat.le_of_ble_eq_true rfl, Nat.le_of_ble_eq_true rfl⟩) (okWV hK hP hD rfl (gC30 g σ tl)) rfl rfl hl.1 rfl (lv_room (Nat.le_of_ble_eq_true rfl)) dX10_takeArrangement_31 ⟨Nat.le_of_ble_eq_true rfl, Nat.le_of_ble_eq_true rfl⟩) hD hS hAA (fun r_31 u H locs hw_ hP hD hS => ?_)
    obtain ⟨b_31, lt2_31, lf2_31, sn2_31⟩ := u
    obtain ⟨rfl, h_31⟩ := hw_
    have h_31 : (b_31 = 1 ∧ rk < arrN (σ.2.1 0) (σ.1 0) (σ.1 20) (cntW (σ.2.1 14) (σ.1 20)) 1 ∧ isArr (σ.2.1 0) (σ.1 0) (σ.1 20) (cntW (σ.2.1 14) (σ.1 20)) 1 rk lt2_31) ∨ (b_31 = 0 ∧ ¬ rk < arrN (σ.2.1 0) (σ.1 0) (σ.1 20) (cntW (σ.2.1 14) (σ.1 20)) 1 ∧ sn2_31 = arrN (σ.2.1 0) (σ.1 0) (σ.1 20) (cntW (σ.2.1 14) (σ.1 20)) 1) := h_31
    have hP : va_P (g.1, g.2.1) vwCl (wC g (sA (sA (sF (sF (sF σ 17 ((σ.1 20))) 18 sn2_31) 19 rk) 19 lt2_31) 20 lf2_31) ++ tl) H := hP
    have hD : va_D A (wC g (sA (sA (sF (sF (sF σ 17 ((σ.1 20))) 18 sn2_31) 19 rk) 19 lt2_31) 20 lf2_31) ++ tl) := hD
    have hb01 : b_31 = 1 ∨ b_31 = 0 := h_31.imp (fun z => z.1) (fun z => z.1)
    refine jn_zne hx hb (by omega) (tgt := 47) dX10_takeArrangement_34 (by decide) (fun c_34 => ?_) (fun c_34 => ?_)
    · refine lv_aload_n hx hb dX10_takeArrangement_47 rfl (lv_at hl 0 rfl) ?_
      refine lv_aload_n hx hb dX10_takeArrangement_48 rfl (lv_at hl 0 rfl) ?_
      refine va_get (D := (g.1, g.2.1)) (ci := 12) (v := .int (nI (σ.1 20))) (C := RX10) (T := TX10) (N := 15) hx hb hts iX10 hown hK.1 hP 0 (gC0 g (sA (sA (sF (sF (sF σ 17 ((σ.1 20))) 18 sn2_31) 19 rk) 19 lt2_31) 20 lf2_31) tl) rfl 5 (by decide) k41 (fun _ h9 => h9) rfl dX10_takeArrangement_49 ?_
      refine jn_callv (va_runV (As := [.int (nI (σ.1 20))]) (rest := []) ⟨hx, hb, hml, hown, hts⟩ (c_X10_takeWord l g tl H.size (sA (sA (sF (sF (sF σ 17 ((σ.1 20))) 18 sn2_31) 19 rk) 19 lt2_31) 20 lf2_31) (σ.1 20) hw8) (cwV 1 hts gX10_takeArrangement_X10_takeWord rfl rfl rfl (by decide +kernel) ⟨Nat.le_of_ble_eq_true rfl, Nat.le_of_ble_eq_true rfl⟩) (okWV hK hP hD rfl (gC0 g (sA (sA (sF (sF (sF σ 17 ((σ.1 20))) 18 sn2_31) 19 rk) 19 lt2_31) 20 lf2_31) tl)) rfl rfl hl.1 rfl (lv_room (Nat.le_of_ble_eq_true rfl)) dX10_takeArrangement_52 ⟨Nat.le_of_ble_eq_true rfl, Nat.le_of_ble_eq_true rfl⟩) hD hS hAA (fun u H locs hw_ hP hD hS => ?_)
      have hP : va_P (g.1, g.2.1) vwCl (wC g (sF (sF (sA (sA (sA (sF (sF (sF σ 17 ((σ.1 20))) 18 sn2_31) 19 rk) 19 lt2_31) 20 lf2_31) 14 (va_cpy (lt2_31) (σ.2.1 14) 0 0 (σ.1 20))) 20 ((σ.1 20))) 21 0) ++ tl) H := hP
      have hD : va_D A (wC g (sF (sF (sA (sA (sA (sF (sF (sF σ 17 ((σ.1 20))) 18 sn2_31) 19 rk) 19 lt2_31) 20 lf2_31) 14 (va_cpy (lt2_31) (σ.2.1 14) 0 0 (σ.1 20))) 20 ((σ.1 20))) 21 0) ++ tl) := hD
      refine lv_aload_n hx hb dX10_takeArrangement_55 rfl (lv_at hl 0 rfl) ?_
      refine va_get (D := (g.1, g.2.1)) (ci := 12) (v := .int (nI ((σ.1 20)))) (C := RX10) (T := TX10) (N := 15) hx hb hts iX10 hown hK.1 hP 0 (gC0 g (sF (sF (sA (sA (sA (sF (sF (sF σ 17 ((σ.1 20))) 18 sn2_31) 19 rk) 19 lt2_31) 20 lf2_31) 14 (va_cpy (lt2_31) (σ.2.1 14) 0 0 (σ.1 20))) 20 ((σ.1 20))) 21 0) tl) rfl 5 (by decide) k41 (fun _ h9 => h9) rfl dX10_takeArrangement_56 ?_
      exact hq _ _ _ _ _ _ ((nI ((σ.1 20)))) (sn2_31, lt2_31, lf2_31) (Nat.le_of_ble_eq_true rfl) (Nat.le_of_ble_eq_true rfl) dX10_takeArrangement_59 (by have z := h_31.resolve_right (fun z => by have := z.1; omega); exact ⟨rfl, by omega, z.2.1, z.2.2⟩) hP hD hS
    · exact hqt _ _ _ _ 37 164 248 168 "java/util/NoSuchElementException" "there is no such arrangement" _ (((σ.1 20)), sn2_31, rk, lt2_31, lf2_31) hl.1 dX10_takeArrangement_37 dX10_takeArrangement_40 dX10_takeArrangement_41 dX10_takeArrangement_43 dX10_takeArrangement_46 ⟨by decide +kernel, by decide +kernel, fun w hw => List.mem_cons_of_mem _ (List.mem_append_left _ (List.mem_append_right _ hw)), by decide +kernel, by decide +kernel, by decide +kernel, by decide +kernel, by decide +kernel, Nat.le_of_ble_eq_true rfl, Nat.le_of_ble_eq_true rfl⟩ (Nat.le_of_ble_eq_true rfl) (Nat.le_of_ble_eq_true rfl) (Nat.le_of_ble_eq_true rfl) (Nat.le_of_ble_eq_true rfl) (Or.inr ⟨rfl, ⟨by omega, (h_31.resolve_left (fun z => by have := z.1; omega)).2.1⟩⟩) hP hD hS
  · exact hqt _ _ _ _ 4 97 242 101 "java/lang/IllegalArgumentException" "the rank is negative" _ ((σ.1 17), (σ.1 18), (σ.1 19), (σ.2.1 19), (σ.2.1 20)) hl.1 dX10_takeArrangement_4 dX10_takeArrangement_7 dX10_takeArrangement_8 dX10_takeArrangement_10 dX10_takeArrangement_13 ⟨by decide +kernel, by decide +kernel, fun w hw => List.mem_cons_of_mem _ (List.mem_append_left _ (List.mem_append_left _ (List.mem_append_right _ hw))), by decide +kernel, by decide +kernel, by decide +kernel, by decide +kernel, by decide +kernel, Nat.le_of_ble_eq_true rfl, Nat.le_of_ble_eq_true rfl⟩ (Nat.le_of_ble_eq_true rfl) (Nat.le_of_ble_eq_true rfl) (Nat.le_of_ble_eq_true rfl) (Nat.le_of_ble_eq_true rfl) (Or.inl ⟨rfl, (by omega)⟩) hP hD hS

abbrev r_c_X10_oneWayJumps : Room := { frames := 7, cells := 1, slots := 6, locals := 115 }
set_option maxHeartbeats 4000000 in
set_option maxRecDepth 100000 in
theorem c_X10_oneWayJumps (l : Launch) (hflg : l.stackTraces = false) (g : GC) (tl : va_W) (sz : Nat) (σ : SS) (hA : OkA σ) (hw8 : (σ.1 20) ≤ 8) (hw : ∀ i, i < (σ.1 20) → (σ.2.1 14) i < 3) : vx_Met l yX10_oneWayJumps wsX10_oneWayJumps r_c_X10_oneWayJumps (va_Pc [.ref (g.2.2.2 0)] (PX g (wC g σ ++ tl) sz)) (va_Qi (fun (r : Int32) (z : Nat × Nat × Nat × Nat × Nat) => match z with | (m2, r2, k2, j2, p2) => (r = nI ((readO (σ.2.1 0) (σ.2.1 14) (σ.1 20)).2.2.1)) ∧ (detT (σ.2.1 0))) (fun (z : Nat × Nat × Nat × Nat × Nat) t => BW g (va_A (wC g σ ++ tl) sz) ((fun z : Nat × Nat × Nat × Nat × Nat => match z with | (m2, r2, k2, j2, p2) => wC g (sF (sF (sF (sF (sF σ 12 m2) 13 r2) 14 k2) 15 j2) 16 p2) ++ tl) z) t) (va_A (wC g σ ++ tl) sz)) (XW g (va_A (wC g σ ++ tl) sz) (fun (E : String) (_ : Unit) => (E = "java/lang/UnsupportedOperationException" ∧ (¬ detT (σ.2.1 0)))) (fun _ : Unit => wC g σ ++ tl)) 1 6 (va_A (wC g σ ++ tl) sz) := by
  refine jx_i hflg (wf := fun z : Nat × Nat × Nat × Nat × Nat => match z with | (m2, r2, k2, j2, p2) => wC g (sF (sF (sF (sF (sF σ 12 m2) 13 r2) 14 k2) 15 j2) 16 p2) ++ tl) (wx := fun _ : Unit => wC g σ ++ tl) (cc := cX10_oneWayJumps) (maxL := 1) (by decide) rfl rfl (Nat.le_of_ble_eq_true rfl) ?_
  intro p e s m below meth c Q A hx hb hml hown hts hKX hP hD hS hAA hZ hq hqt hqw hqo ls hl
  have hK := hKX.1
  obtain ⟨H, eH⟩ : ∃ z, z = s.heap := ⟨_, rfl⟩
  obtain ⟨locs, el⟩ : ∃ z : List Loc, z = [] := ⟨_, rfl⟩
  rw [← eH] at hP
  have hS : va_S A s.heap H locs := by rw [eH, el]; exact hS
  have goal0 : W p l e r_c_X10_oneWayJumps s m ([.ref (g.2.2.2 0)] : List Value).toArray below meth c H locs 0 0 Q (F0 m 0 ls []) → W p l e r_c_X10_oneWayJumps s m ([.ref (g.2.2.2 0)] : List Value).toArray below meth c s.heap [] 0 0 Q (F0 m 0 ls []) := fun h => by rw [eH, el] at h; exact h
  refine goal0 ?_
  have hl : lv_has ls 1 [(0, .ref (g.2.2.2 0))] := hl
  have iX10 : ∀ w ∈ wsX100, w ∈ wsX10_oneWayJumps := by decide +kernel
  have iX8 : ∀ w ∈ wsX80, w ∈ wsX10_oneWayJumps := by decide +kernel
  have k82 := hts (.fieldLink RX10 82 "JumpingAutomata" "oneWay" "LJumpingAutomata$OneWayReader;") (by decide +kernel)
  have k12 := hts (.fieldLink RX10 12 "JumpingAutomata" "automaton" "LJumpingAutomata$Automaton;") (by decide +kernel)
  have k37 := hts (.fieldLink RX10 37 "JumpingAutomata" "word" "[I") (by decide +kernel)
  have k41 := hts (.fieldLink RX10 41 "JumpingAutomata" "wordSize" "I") (by decide +kernel)
  have k256 := hts (.fieldLink RX10 256 "JumpingAutomata$OneWayReader" "jumps" "I") (by decide +kernel)
  refine lv_aload_n hx hb dX10_oneWayJumps_0 rfl (lv_at hl 0 rfl) ?_
  refine jx_callv (vx_runV (As := []) (rest := []) ⟨hx, hb, hml, hown, hts⟩ (c_X10_requireSingleTargets l hflg g tl H.size σ hA) (cwV 0 hts gX10_oneWayJumps_X10_requireSingleTargets rfl rfl rfl (by decide +kernel) ⟨Nat.le_of_ble_eq_true rfl, Nat.le_of_ble_eq_true rfl⟩) (okXV hKX hP hD hZ hS hAA rfl (gC0 g σ tl)) rfl rfl hl.1 rfl (lv_room (Nat.le_of_ble_eq_true rfl)) dX10_oneWayJumps_1 ⟨Nat.le_of_ble_eq_true rfl, Nat.le_of_ble_eq_true rfl⟩) hD hS hAA (fun E ce q9 u H locs hxp hP hD hS h7 h8 h9 => ?_) (fun u H locs hw_ hP hD hS => ?_)
  · have hxp : (E = "java/lang/UnsupportedOperationException" ∧ (¬ detT (σ.2.1 0))) := hxp
    rcases hxp with ⟨eE, hc⟩
    · exact hqo _ _ _ _ _ _ _ _ _ _ () (Nat.le_of_ble_eq_true rfl) (Nat.le_of_ble_eq_true rfl) h7 h8 h9 ⟨eE, (by first | exact hc | omega)⟩ hP hD hS
  have h_1 := hw_
  have h_1 : detT (σ.2.1 0) := h_1
  have hP : va_P (g.1, g.2.1) vwCl (wC g σ ++ tl) H := hP
  have hD : va_D A (wC g σ ++ tl) := hD
  refine lv_aload_n hx hb dX10_oneWayJumps_4 rfl (lv_at hl 0 rfl) ?_
  refine va_get (D := (g.1, g.2.1)) (ci := 12) (v := .ref (g.2.2.2 35)) (C := RX10) (T := TX10) (N := 15) hx hb hts iX10 hown hK.1 hP 0 (gC0 g σ tl) rfl 12 (by decide) k82 (fun _ h9 => h9) rfl dX10_oneWayJumps_5 ?_
  refine lv_aload_n hx hb dX10_oneWayJumps_8 rfl (lv_at hl 0 rfl) ?_
  refine va_get (D := (g.1, g.2.1)) (ci := 12) (v := .ref (g.2.2.2 1)) (C := RX10) (T := TX10) (N := 15) hx hb hts iX10 hown hK.1 hP 0 (gC0 g σ tl) rfl 0 (by decide) k12 (fun _ h9 => h9) rfl dX10_oneWayJumps_9 ?_
  refine lv_aload_n hx hb dX10_oneWayJumps_12 rfl (lv_at hl 0 rfl) ?_
  refine va_get (D := (g.1, g.2.1)) (ci := 12) (v := .ref (g.2.2.2 20)) (C := RX10) (T := TX10) (N := 15) hx hb hts iX10 hown hK.1 hP 0 (gC0 g σ tl) rfl 4 (by decide) k37 (fun _ h9 => h9) rfl dX10_oneWayJumps_13 ?_
  refine lv_aload_n hx hb dX10_oneWayJumps_16 rfl (lv_at hl 0 rfl) ?_
  refine va_get (D := (g.1, g.2.1)) (ci := 12) (v := .int (nI (σ.1 20))) (C := RX10) (T := TX10) (N := 15) hx hb hts iX10 hown hK.1 hP 0 (gC0 g σ tl) rfl 5 (by decide) k41 (fun _ h9 => h9) rfl dX10_oneWayJumps_17 ?_
  refine jn_callv (va_runV (As := [.ref (g.2.2.2 1), .ref (g.2.2.2 20), .int (nI (σ.1 20))]) (rest := []) ⟨hx, hb, hml, hown, hts⟩ (c_X8_read l g tl H.size σ (σ.1 20) hA hw8 hw) (cwV 3 hts gX10_oneWayJumps_X8_read rfl rfl rfl (by decide +kernel) ⟨Nat.le_of_ble_eq_true rfl, Nat.le_of_ble_eq_true rfl⟩) (okWV hK hP hD rfl (gC35 g σ tl)) rfl rfl hl.1 rfl (lv_room (Nat.le_of_ble_eq_true rfl)) dX10_oneWayJumps_20 ⟨Nat.le_of_ble_eq_true rfl, Nat.le_of_ble_eq_true rfl⟩) hD hS hAA (fun u H locs hw_ hP hD hS => ?_)
  have hP : va_P (g.1, g.2.1) vwCl (wC g (sF (sF (sF (sF (sF σ 12 ((readO (σ.2.1 0) (σ.2.1 14) (σ.1 20)).1)) 13 (pkL (readO (σ.2.1 0) (σ.2.1 14) (σ.1 20)).2.1)) 14 ((readO (σ.2.1 0) (σ.2.1 14) (σ.1 20)).2.1.length)) 15 ((readO (σ.2.1 0) (σ.2.1 14) (σ.1 20)).2.2.1)) 16 ((readO (σ.2.1 0) (σ.2.1 14) (σ.1 20)).2.2.2)) ++ tl) H := hP
  have hD : va_D A (wC g (sF (sF (sF (sF (sF σ 12 ((readO (σ.2.1 0) (σ.2.1 14) (σ.1 20)).1)) 13 (pkL (readO (σ.2.1 0) (σ.2.1 14) (σ.1 20)).2.1)) 14 ((readO (σ.2.1 0) (σ.2.1 14) (σ.1 20)).2.1.length)) 15 ((readO (σ.2.1 0) (σ.2.1 14) (σ.1 20)).2.2.1)) 16 ((readO (σ.2.1 0) (σ.2.1 14) (σ.1 20)).2.2.2)) ++ tl) := hD
  refine lv_aload_n hx hb dX10_oneWayJumps_23 rfl (lv_at hl 0 rfl) ?_
  refine va_get (D := (g.1, g.2.1)) (ci := 12) (v := .ref (g.2.2.2 35)) (C := RX10) (T := TX10) (N := 15) hx hb hts iX10 hown hK.1 hP 0 (gC0 g (sF (sF (sF (sF (sF σ 12 ((readO (σ.2.1 0) (σ.2.1 14) (σ.1 20)).1)) 13 (pkL (readO (σ.2.1 0) (σ.2.1 14) (σ.1 20)).2.1)) 14 ((readO (σ.2.1 0) (σ.2.1 14) (σ.1 20)).2.1.length)) 15 ((readO (σ.2.1 0) (σ.2.1 14) (σ.1 20)).2.2.1)) 16 ((readO (σ.2.1 0) (σ.2.1 14) (σ.1 20)).2.2.2)) tl) rfl 12 (by decide) k82 (fun _ h9 => h9) rfl dX10_oneWayJumps_24 ?_
  refine va_get (D := (g.1, g.2.1)) (ci := 10) (v := .int (nI ((readO (σ.2.1 0) (σ.2.1 14) (σ.1 20)).2.2.1))) (C := RX8) (T := TX8) (N := 5) hx hb hts iX8 hown hK.1 hP 35 (gC35 g (sF (sF (sF (sF (sF σ 12 ((readO (σ.2.1 0) (σ.2.1 14) (σ.1 20)).1)) 13 (pkL (readO (σ.2.1 0) (σ.2.1 14) (σ.1 20)).2.1)) 14 ((readO (σ.2.1 0) (σ.2.1 14) (σ.1 20)).2.1.length)) 15 ((readO (σ.2.1 0) (σ.2.1 14) (σ.1 20)).2.2.1)) 16 ((readO (σ.2.1 0) (σ.2.1 14) (σ.1 20)).2.2.2)) tl) rfl 3 (by decide) k256 (fun _ h9 => h9) rfl dX10_oneWayJumps_27 ?_
  exact hq _ _ _ _ _ _ ((nI ((readO (σ.2.1 0) (σ.2.1 14) (σ.1 20)).2.2.1))) (((readO (σ.2.1 0) (σ.2.1 14) (σ.1 20)).1), (pkL (readO (σ.2.1 0) (σ.2.1 14) (σ.1 20)).2.1), ((readO (σ.2.1 0) (σ.2.1 14) (σ.1 20)).2.1.length), ((readO (σ.2.1 0) (σ.2.1 14) (σ.1 20)).2.2.1), ((readO (σ.2.1 0) (σ.2.1 14) (σ.1 20)).2.2.2)) (Nat.le_of_ble_eq_true rfl) (Nat.le_of_ble_eq_true rfl) dX10_oneWayJumps_30 ⟨rfl, h_1⟩ hP hD hS

abbrev r_c_X10_oneWayRest : Room := { frames := 7, cells := 1, slots := 6, locals := 115 }
set_option maxHeartbeats 4000000 in
set_option maxRecDepth 100000 in
theorem c_X10_oneWayRest (l : Launch) (hflg : l.stackTraces = false) (g : GC) (tl : va_W) (sz : Nat) (σ : SS) (hA : OkA σ) (hw8 : (σ.1 20) ≤ 8) (hw : ∀ i, i < (σ.1 20) → (σ.2.1 14) i < 3) : vx_Met l yX10_oneWayRest wsX10_oneWayRest r_c_X10_oneWayRest (va_Pc [.ref (g.2.2.2 0)] (PX g (wC g σ ++ tl) sz)) (va_Qi (fun (r : Int32) (z : Nat × Nat × Nat × Nat × Nat) => match z with | (m2, r2, k2, j2, p2) => (r = nI ((readO (σ.2.1 0) (σ.2.1 14) (σ.1 20)).2.1.length)) ∧ (detT (σ.2.1 0))) (fun (z : Nat × Nat × Nat × Nat × Nat) t => BW g (va_A (wC g σ ++ tl) sz) ((fun z : Nat × Nat × Nat × Nat × Nat => match z with | (m2, r2, k2, j2, p2) => wC g (sF (sF (sF (sF (sF σ 12 m2) 13 r2) 14 k2) 15 j2) 16 p2) ++ tl) z) t) (va_A (wC g σ ++ tl) sz)) (XW g (va_A (wC g σ ++ tl) sz) (fun (E : String) (_ : Unit) => (E = "java/lang/UnsupportedOperationException" ∧ (¬ detT (σ.2.1 0)))) (fun _ : Unit => wC g σ ++ tl)) 1 6 (va_A (wC g σ ++ tl) sz) := by
  refine jx_i hflg (wf := fun z : Nat × Nat × Nat × Nat × Nat => match z with | (m2, r2, k2, j2, p2) => wC g (sF (sF (sF (sF (sF σ 12 m2) 13 r2) 14 k2) 15 j2) 16 p2) ++ tl) (wx := fun _ : Unit => wC g σ ++ tl) (cc := cX10_oneWayRest) (maxL := 1) (by decide) rfl rfl (Nat.le_of_ble_eq_true rfl) ?_
  intro p e s m below meth c Q A hx hb hml hown hts hKX hP hD hS hAA hZ hq hqt hqw hqo ls hl
  have hK := hKX.1
  obtain ⟨H, eH⟩ : ∃ z, z = s.heap := ⟨_, rfl⟩
  obtain ⟨locs, el⟩ : ∃ z : List Loc, z = [] := ⟨_, rfl⟩
  rw [← eH] at hP
  have hS : va_S A s.heap H locs := by rw [eH, el]; exact hS
  have goal0 : W p l e r_c_X10_oneWayRest s m ([.ref (g.2.2.2 0)] : List Value).toArray below meth c H locs 0 0 Q (F0 m 0 ls []) → W p l e r_c_X10_oneWayRest s m ([.ref (g.2.2.2 0)] : List Value).toArray below meth c s.heap [] 0 0 Q (F0 m 0 ls []) := fun h => by rw [eH, el] at h; exact h
  refine goal0 ?_
  have hl : lv_has ls 1 [(0, .ref (g.2.2.2 0))] := hl
  have iX10 : ∀ w ∈ wsX100, w ∈ wsX10_oneWayRest := by decide +kernel
  have iX8 : ∀ w ∈ wsX80, w ∈ wsX10_oneWayRest := by decide +kernel
  have k82 := hts (.fieldLink RX10 82 "JumpingAutomata" "oneWay" "LJumpingAutomata$OneWayReader;") (by decide +kernel)
  have k12 := hts (.fieldLink RX10 12 "JumpingAutomata" "automaton" "LJumpingAutomata$Automaton;") (by decide +kernel)
  have k37 := hts (.fieldLink RX10 37 "JumpingAutomata" "word" "[I") (by decide +kernel)
  have k41 := hts (.fieldLink RX10 41 "JumpingAutomata" "wordSize" "I") (by decide +kernel)
  have k259 := hts (.fieldLink RX10 259 "JumpingAutomata$OneWayReader" "restSize" "I") (by decide +kernel)
  refine lv_aload_n hx hb dX10_oneWayRest_0 rfl (lv_at hl 0 rfl) ?_
  refine jx_callv (vx_runV (As := []) (rest := []) ⟨hx, hb, hml, hown, hts⟩ (c_X10_requireSingleTargets l hflg g tl H.size σ hA) (cwV 0 hts gX10_oneWayRest_X10_requireSingleTargets rfl rfl rfl (by decide +kernel) ⟨Nat.le_of_ble_eq_true rfl, Nat.le_of_ble_eq_true rfl⟩) (okXV hKX hP hD hZ hS hAA rfl (gC0 g σ tl)) rfl rfl hl.1 rfl (lv_room (Nat.le_of_ble_eq_true rfl)) dX10_oneWayRest_1 ⟨Nat.le_of_ble_eq_true rfl, Nat.le_of_ble_eq_true rfl⟩) hD hS hAA (fun E ce q9 u H locs hxp hP hD hS h7 h8 h9 => ?_) (fun u H locs hw_ hP hD hS => ?_)
  · have hxp : (E = "java/lang/UnsupportedOperationException" ∧ (¬ detT (σ.2.1 0))) := hxp
    rcases hxp with ⟨eE, hc⟩
    · exact hqo _ _ _ _ _ _ _ _ _ _ () (Nat.le_of_ble_eq_true rfl) (Nat.le_of_ble_eq_true rfl) h7 h8 h9 ⟨eE, (by first | exact hc | omega)⟩ hP hD hS
  have h_1 := hw_
  have h_1 : detT (σ.2.1 0) := h_1
  have hP : va_P (g.1, g.2.1) vwCl (wC g σ ++ tl) H := hP
  have hD : va_D A (wC g σ ++ tl) := hD
  refine lv_aload_n hx hb dX10_oneWayRest_4 rfl (lv_at hl 0 rfl) ?_
  refine va_get (D := (g.1, g.2.1)) (ci := 12) (v := .ref (g.2.2.2 35)) (C := RX10) (T := TX10) (N := 15) hx hb hts iX10 hown hK.1 hP 0 (gC0 g σ tl) rfl 12 (by decide) k82 (fun _ h9 => h9) rfl dX10_oneWayRest_5 ?_
  refine lv_aload_n hx hb dX10_oneWayRest_8 rfl (lv_at hl 0 rfl) ?_
  refine va_get (D := (g.1, g.2.1)) (ci := 12) (v := .ref (g.2.2.2 1)) (C := RX10) (T := TX10) (N := 15) hx hb hts iX10 hown hK.1 hP 0 (gC0 g σ tl) rfl 0 (by decide) k12 (fun _ h9 => h9) rfl dX10_oneWayRest_9 ?_
  refine lv_aload_n hx hb dX10_oneWayRest_12 rfl (lv_at hl 0 rfl) ?_
  refine va_get (D := (g.1, g.2.1)) (ci := 12) (v := .ref (g.2.2.2 20)) (C := RX10) (T := TX10) (N := 15) hx hb hts iX10 hown hK.1 hP 0 (gC0 g σ tl) rfl 4 (by decide) k37 (fun _ h9 => h9) rfl dX10_oneWayRest_13 ?_
  refine lv_aload_n hx hb dX10_oneWayRest_16 rfl (lv_at hl 0 rfl) ?_
  refine va_get (D := (g.1, g.2.1)) (ci := 12) (v := .int (nI (σ.1 20))) (C := RX10) (T := TX10) (N := 15) hx hb hts iX10 hown hK.1 hP 0 (gC0 g σ tl) rfl 5 (by decide) k41 (fun _ h9 => h9) rfl dX10_oneWayRest_17 ?_
  refine jn_callv (va_runV (As := [.ref (g.2.2.2 1), .ref (g.2.2.2 20), .int (nI (σ.1 20))]) (rest := []) ⟨hx, hb, hml, hown, hts⟩ (c_X8_read l g tl H.size σ (σ.1 20) hA hw8 hw) (cwV 3 hts gX10_oneWayRest_X8_read rfl rfl rfl (by decide +kernel) ⟨Nat.le_of_ble_eq_true rfl, Nat.le_of_ble_eq_true rfl⟩) (okWV hK hP hD rfl (gC35 g σ tl)) rfl rfl hl.1 rfl (lv_room (Nat.le_of_ble_eq_true rfl)) dX10_oneWayRest_20 ⟨Nat.le_of_ble_eq_true rfl, Nat.le_of_ble_eq_true rfl⟩) hD hS hAA (fun u H locs hw_ hP hD hS => ?_)
  have hP : va_P (g.1, g.2.1) vwCl (wC g (sF (sF (sF (sF (sF σ 12 ((readO (σ.2.1 0) (σ.2.1 14) (σ.1 20)).1)) 13 (pkL (readO (σ.2.1 0) (σ.2.1 14) (σ.1 20)).2.1)) 14 ((readO (σ.2.1 0) (σ.2.1 14) (σ.1 20)).2.1.length)) 15 ((readO (σ.2.1 0) (σ.2.1 14) (σ.1 20)).2.2.1)) 16 ((readO (σ.2.1 0) (σ.2.1 14) (σ.1 20)).2.2.2)) ++ tl) H := hP
  have hD : va_D A (wC g (sF (sF (sF (sF (sF σ 12 ((readO (σ.2.1 0) (σ.2.1 14) (σ.1 20)).1)) 13 (pkL (readO (σ.2.1 0) (σ.2.1 14) (σ.1 20)).2.1)) 14 ((readO (σ.2.1 0) (σ.2.1 14) (σ.1 20)).2.1.length)) 15 ((readO (σ.2.1 0) (σ.2.1 14) (σ.1 20)).2.2.1)) 16 ((readO (σ.2.1 0) (σ.2.1 14) (σ.1 20)).2.2.2)) ++ tl) := hD
  refine lv_aload_n hx hb dX10_oneWayRest_23 rfl (lv_at hl 0 rfl) ?_
  refine va_get (D := (g.1, g.2.1)) (ci := 12) (v := .ref (g.2.2.2 35)) (C := RX10) (T := TX10) (N := 15) hx hb hts iX10 hown hK.1 hP 0 (gC0 g (sF (sF (sF (sF (sF σ 12 ((readO (σ.2.1 0) (σ.2.1 14) (σ.1 20)).1)) 13 (pkL (readO (σ.2.1 0) (σ.2.1 14) (σ.1 20)).2.1)) 14 ((readO (σ.2.1 0) (σ.2.1 14) (σ.1 20)).2.1.length)) 15 ((readO (σ.2.1 0) (σ.2.1 14) (σ.1 20)).2.2.1)) 16 ((readO (σ.2.1 0) (σ.2.1 14) (σ.1 20)).2.2.2)) tl) rfl 12 (by decide) k82 (fun _ h9 => h9) rfl dX10_oneWayRest_24 ?_
  refine va_get (D := (g.1, g.2.1)) (ci := 10) (v := .int (nI ((readO (σ.2.1 0) (σ.2.1 14) (σ.1 20)).2.1.length))) (C := RX8) (T := TX8) (N := 5) hx hb hts iX8 hown hK.1 hP 35 (gC35 g (sF (sF (sF (sF (sF σ 12 ((readO (σ.2.1 0) (σ.2.1 14) (σ.1 20)).1)) 13 (pkL (readO (σ.2.1 0) (σ.2.1 14) (σ.1 20)).2.1)) 14 ((readO (σ.2.1 0) (σ.2.1 14) (σ.1 20)).2.1.length)) 15 ((readO (σ.2.1 0) (σ.2.1 14) (σ.1 20)).2.2.1)) 16 ((readO (σ.2.1 0) (σ.2.1 14) (σ.1 20)).2.2.2)) tl) rfl 2 (by decide) k259 (fun _ h9 => h9) rfl dX10_oneWayRest_27 ?_
  exact hq _ _ _ _ _ _ ((nI ((readO (σ.2.1 0) (σ.2.1 14) (σ.1 20)).2.1.length))) (((readO (σ.2.1 0) (σ.2.1 14) (σ.1 20)).1), (pkL (readO (σ.2.1 0) (σ.2.1 14) (σ.1 20)).2.1), ((readO (σ.2.1 0) (σ.2.1 14) (σ.1 20)).2.1.length), ((readO (σ.2.1 0) (σ.2.1 14) (σ.1 20)).2.2.1), ((readO (σ.2.1 0) (σ.2.1 14) (σ.1 20)).2.2.2)) (Nat.le_of_ble_eq_true rfl) (Nat.le_of_ble_eq_true rfl) dX10_oneWayRest_30 ⟨rfl, h_1⟩ hP hD hS

abbrev r_c_X10_orderCost : Room := { frames := 6, cells := 1, slots := 6, locals := 146 }
set_option maxHeartbeats 4000000 in
set_option maxRecDepth 100000 in
theorem c_X10_orderCost (l : Launch) (hflg : l.stackTraces = false) (g : GC) (tl : va_W) (sz : Nat) (σ : SS) (hA : OkA σ) (hw8 : (σ.1 20) ≤ 8) (hw : ∀ i, i < (σ.1 20) → (σ.2.1 14) i < 3) (hk2 : σ.1 21 < 2) (hko : σ.1 21 = 1 → ordK (σ.2.1 0) (σ.2.1 14) (σ.1 0) (σ.1 20) (σ.1 5) (σ.2.1 25)) : vx_Met l yX10_orderCost wsX10_orderCost r_c_X10_orderCost (va_Pc [.ref (g.2.2.2 0)] (PX g (wC g σ ++ tl) sz)) (va_Qi (fun (r : Int32) (z : Nat × Nat × Nat × (Nat → Nat) × (Nat → Nat) × (Nat → Nat) × (Nat → Nat) × (Nat → Nat)) => match z with | (n4, co, kn, pc2, S, bf2, w2, od) => (r = nI (co)) ∧ (ordK (σ.2.1 0) (σ.2.1 14) (σ.1 0) (σ.1 20) co od) ∧ (kn = 1) ∧ (co < 63)) (fun (z : Nat × Nat × Nat × (Nat → Nat) × (Nat → Nat) × (Nat → Nat) × (Nat → Nat) × (Nat → Nat)) t => BW g (va_A (wC g σ ++ tl) sz) ((fun z : Nat × Nat × Nat × (Nat → Nat) × (Nat → Nat) × (Nat → Nat) × (Nat → Nat) × (Nat → Nat) => match z with | (n4, co, kn, pc2, S, bf2, w2, od) => wC g (sA (sA (sA (sA (sA (sF (sF (sF σ 4 n4) 5 co) 21 kn) 21 pc2) 22 S) 23 bf2) 24 w2) 25 od) ++ tl) z) t) (va_A (wC g σ ++ tl) sz)) (XW g (va_A (wC g σ ++ tl) sz) (fun (E : String) (z : Nat × Nat × Nat × (Nat → Nat) × (Nat → Nat) × (Nat → Nat) × (Nat → Nat) × (Nat → Nat)) => match z with | (n4, co, kn, pc2, S, bf2, w2, od) => (E = "java/util/NoSuchElementException" ∧ ((ordK (σ.2.1 0) (σ.2.1 14) (σ.1 0) (σ.1 20) co od) ∧ kn = 1 ∧ ¬ co < 63))) (fun z : Nat × Nat × Nat × (Nat → Nat) × (Nat → Nat) × (Nat → Nat) × (Nat → Nat) × (Nat → Nat) => match z with | (n4, co, kn, pc2, S, bf2, w2, od) => wC g (sA (sA (sA (sA (sA (sF (sF (sF σ 4 n4) 5 co) 21 kn) 21 pc2) 22 S) 23 bf2) 24 w2) 25 od) ++ tl)) 1 6 (va_A (wC g σ ++ tl) sz) := by
  refine jx_i hflg (wf := fun z : Nat × Nat × Nat × (Nat → Nat) × (Nat → Nat) × (Nat → Nat) × (Nat → Nat) × (Nat → Nat) => match z with | (n4, co, kn, pc2, S, bf2, w2, od) => wC g (sA (sA (sA (sA (sA (sF (sF (sF σ 4 n4) 5 co) 21 kn) 21 pc2) 22 S) 23 bf2) 24 w2) 25 od) ++ tl) (wx := fun z : Nat × Nat × Nat × (Nat → Nat) × (Nat → Nat) × (Nat → Nat) × (Nat → Nat) × (Nat → Nat) => match z with | (n4, co, kn, pc2, S, bf2, w2, od) => wC g (sA (sA (sA (sA (sA (sF (sF (sF σ 4 n4) 5 co) 21 kn) 21 pc2) 22 S) 23 bf2) 24 w2) 25 od) ++ tl) (cc := cX10_orderCost) (maxL := 1) (by decide) rfl rfl (Nat.le_of_ble_eq_true rfl) ?_
  intro p e s m below meth c Q A hx hb hml hown hts hKX hP hD hS hAA hZ hq hqt hqw hqo ls hl
  have hK := hKX.1
  obtain ⟨H, eH⟩ : ∃ z, z = s.heap := ⟨_, rfl⟩
  obtain ⟨locs, el⟩ : ∃ z : List Loc, z = [] := ⟨_, rfl⟩
  rw [← eH] at hP
  have hS : va_S A s.heap H locs := by rw [eH, el]; exact hS
  have goal0 : W p l e r_c_X10_orderCost s m ([.ref (g.2.2.2 0)] : List Value).toArray below meth c H locs 0 0 Q (F0 m 0 ls []) → W p l e r_c_X10_orderCost s m ([.ref (g.2.2.2 0)] : List Value).toArray below meth c s.heap [] 0 0 Q (F0 m 0 ls []) := fun h => by rw [eH, el] at h; exact h
  refine goal0 ?_
  have hl : lv_has ls 1 [(0, .ref (g.2.2.2 0))] := hl
  have iX10 : ∀ w ∈ wsX100, w ∈ wsX10_orderCost := by decide +kernel
  have iX2 : ∀ w ∈ wsX20, w ∈ wsX10_orderCost := by decide +kernel
  have k89 := hts (.fieldLink RX10 89 "JumpingAutomata" "bestOrder" "LJumpingAutomata$BestOrder;") (by decide +kernel)
  have k267 := hts (.fieldLink RX10 267 "JumpingAutomata$BestOrder" "cost" "I") (by decide +kernel)
  refine lv_aload_n hx hb dX10_orderCost_0 rfl (lv_at hl 0 rfl) ?_
  refine jn_calli (va_runV (As := []) (rest := []) ⟨hx, hb, hml, hown, hts⟩ (c_X10_findBestOrder l g tl H.size σ hA hw8 hw hk2 hko) (cwV 0 hts gX10_orderCost_X10_findBestOrder rfl rfl rfl (by decide +kernel) ⟨Nat.le_of_ble_eq_true rfl, Nat.le_of_ble_eq_true rfl⟩) (okWV hK hP hD rfl (gC0 g σ tl)) rfl rfl hl.1 rfl (lv_room (Nat.le_of_ble_eq_true rfl)) dX10_orderCost_1 ⟨Nat.le_of_ble_eq_true rfl, Nat.le_of_ble_eq_true rfl⟩) hD hS hAA (fun r_1 u H locs hw_ hP hD hS => ?_)
  obtain ⟨n4_1, co_1, kn_1, pc2_1, S_1, bf2_1, w2_1, od_1⟩ := u
  obtain ⟨rfl, h_1⟩ := hw_
  have h_1 : (ordK (σ.2.1 0) (σ.2.1 14) (σ.1 0) (σ.1 20) co_1 od_1) ∧ (kn_1 = 1) := h_1
  have hP : va_P (g.1, g.2.1) vwCl (wC g (sA (sA (sA (sA (sA (sF (sF (sF σ 4 n4_1) 5 co_1) 21 kn_1) 21 pc2_1) 22 S_1) 23 bf2_1) 24 w2_1) 25 od_1) ++ tl) H := hP
  have hD : va_D A (wC g (sA (sA (sA (sA (sA (sF (sF (sF σ 4 n4_1) 5 co_1) 21 kn_1) 21 pc2_1) 22 S_1) 23 bf2_1) 24 w2_1) 25 od_1) ++ tl) := hD
  refine jn_bne hx hb (tgt := 18) dX10_orderCost_4 (by decide) (fun c_4 => ?_) (fun c_4 => ?_)
  · refine lv_aload_n hx hb dX10_orderCost_18 rfl (lv_at hl 0 rfl) ?_
    refine va_get (D := (g.1, g.2.1)) (ci := 12) (v := .ref (g.2.2.2 36)) (C := RX10) (T := TX10) (N := 15) hx hb hts iX10 hown hK.1 hP 0 (gC0 g (sA (sA (sA (sA (sA (sF (sF (sF σ 4 n4_1) 5 co_1) 21 kn_1) 21 pc2_1) 22 S_1) 23 bf2_1) 24 w2_1) 25 od_1) tl) rfl 13 (by decide) k89 (fun _ h9 => h9) rfl dX10_orderCost_19 ?_
    refine va_get (D := (g.1, g.2.1)) (ci := 4) (v := .int (nI co_1)) (C := RX2) (T := TX2) (N := 7) hx hb hts iX2 hown hK.1 hP 36 (gC36 g (sA (sA (sA (sA (sA (sF (sF (sF σ 4 n4_1) 5 co_1) 21 kn_1) 21 pc2_1) 22 S_1) 23 bf2_1) 24 w2_1) 25 od_1) tl) rfl 6 (by decide) k267 (fun _ h9 => h9) rfl dX10_orderCost_22 ?_
    exact hq _ _ _ _ _ _ ((nI co_1)) (n4_1, co_1, kn_1, pc2_1, S_1, bf2_1, w2_1, od_1) (Nat.le_of_ble_eq_true rfl) (Nat.le_of_ble_eq_true rfl) dX10_orderCost_25 ⟨rfl, h_1.1, h_1.2, c_4⟩ hP hD hS
  · exact hqw _ _ _ _ 7 164 265 168 "java/util/NoSuchElementException" "there is no reading orde\x72" _ (n4_1, co_1, kn_1, pc2_1, S_1, bf2_1, w2_1, od_1) hl.1 dX10_orderCost_7 dX10_orderCost_10 dX10_orderCost_11 dX10_orderCost_14 dX10_orderCost_17 ⟨by decide +kernel, by decide +kernel, fun w hw => List.mem_cons_of_mem _ (List.mem_append_left _ (List.mem_append_right _ hw)), by decide +kernel, by decide +kernel, by decide +kernel, by decide +kernel, by decide +kernel, Nat.le_of_ble_eq_true rfl, Nat.le_of_ble_eq_true rfl⟩ (Nat.le_of_ble_eq_true rfl) (Nat.le_of_ble_eq_true rfl) (Nat.le_of_ble_eq_true rfl) (Nat.le_of_ble_eq_true rfl) ⟨rfl, ⟨h_1.1, h_1.2, c_4⟩⟩ hP hD hS

abbrev r_c_X10_orderPosition : Room := { frames := 6, cells := 1, slots := 6, locals := 146 }
set_option maxHeartbeats 4000000 in
set_option maxRecDepth 100000 in
theorem c_X10_orderPosition (l : Launch) (hflg : l.stackTraces = false) (g : GC) (tl : va_W) (sz : Nat) (σ : SS) (x : Nat) (hA : OkA σ) (hw8 : (σ.1 20) ≤ 8) (hw : ∀ i, i < (σ.1 20) → (σ.2.1 14) i < 3) (hk2 : σ.1 21 < 2) (hko : σ.1 21 = 1 → ordK (σ.2.1 0) (σ.2.1 14) (σ.1 0) (σ.1 20) (σ.1 5) (σ.2.1 25)) (hx : x < 4294967296) : vx_Met l yX10_orderPosition wsX10_orderPosition r_c_X10_orderPosition (va_Pc [.ref (g.2.2.2 0), .int (nI x)] (PX g (wC g σ ++ tl) sz)) (va_Qi (fun (r : Int32) (z : Nat × Nat × Nat × (Nat → Nat) × (Nat → Nat) × (Nat → Nat) × (Nat → Nat) × (Nat → Nat)) => match z with | (n4, co, kn, pc2, S, bf2, w2, od) => (r = nI (od x)) ∧ (x < (σ.1 20)) ∧ (ordK (σ.2.1 0) (σ.2.1 14) (σ.1 0) (σ.1 20) co od) ∧ (kn = 1) ∧ (co < 63)) (fun (z : Nat × Nat × Nat × (Nat → Nat) × (Nat → Nat) × (Nat → Nat) × (Nat → Nat) × (Nat → Nat)) t => BW g (va_A (wC g σ ++ tl) sz) ((fun z : Nat × Nat × Nat × (Nat → Nat) × (Nat → Nat) × (Nat → Nat) × (Nat → Nat) × (Nat → Nat) => match z with | (n4, co, kn, pc2, S, bf2, w2, od) => wC g (sA (sA (sA (sA (sA (sF (sF (sF σ 4 n4) 5 co) 21 kn) 21 pc2) 22 S) 23 bf2) 24 w2) 25 od) ++ tl) z) t) (va_A (wC g σ ++ tl) sz)) (XW g (va_A (wC g σ ++ tl) sz) (fun (E : String) (z : Nat × Nat × Nat × (Nat → Nat) × (Nat → Nat) × (Nat → Nat) × (Nat → Nat) × (Nat → Nat)) => match z with | (n4, co, kn, pc2, S, bf2, w2, od) => (E = "java/lang/IndexOutOfBoundsException" ∧ (¬ x < (σ.1 20) ∧ n4 = σ.1 4 ∧ co = σ.1 5 ∧ kn = σ.1 21 ∧ od = σ.2.1 25)) ∨ (E = "java/util/NoSuchElementException" ∧ (x < (σ.1 20) ∧ (ordK (σ.2.1 0) (σ.2.1 14) (σ.1 0) (σ.1 20) co od) ∧ kn = 1 ∧ ¬ co < 63))) (fun z : Nat × Nat × Nat × (Nat → Nat) × (Nat → Nat) × (Nat → Nat) × (Nat → Nat) × (Nat → Nat) => match z with | (n4, co, kn, pc2, S, bf2, w2, od) => wC g (sA (sA (sA (sA (sA (sF (sF (sF σ 4 n4) 5 co) 21 kn) 21 pc2) 22 S) 23 bf2) 24 w2) 25 od) ++ tl)) 1 6 (va_A (wC g σ ++ tl) sz) := by
  refine jx_i hflg (wf := fun z : Nat × Nat × Nat × (Nat → Nat) × (Nat → Nat) × (Nat → Nat) × (Nat → Nat) × (Nat → Nat) => match z with | (n4, co, kn, pc2, S, bf2, w2, od) => wC g (sA (sA (sA (sA (sA (sF (sF (sF σ 4 n4) 5 co) 21 kn) 21 pc2) 22 S) 23 bf2) 24 w2) 25 od) ++ tl) (wx := fun z : Nat × Nat × Nat × (Nat → Nat) × (Nat → Nat) × (Nat → Nat) × (Nat → Nat) × (Nat → Nat) => match z with | (n4, co, kn, pc2, S, bf2, w2, od) => wC g (sA (sA (sA (sA (sA (sF (sF (sF σ 4 n4) 5 co) 21 kn) 21 pc2) 22 S) 23 bf2) 24 w2) 25 od) ++ tl) (cc := cX10_orderPosition) (maxL := 2) (by decide) rfl rfl (Nat.le_of_ble_eq_true rfl) ?_
  intro p e s m below meth c Q A hx hb hml hown hts hKX hP hD hS hAA hZ hq hqt hqw hqo ls hl
  have hK := hKX.1
  obtain ⟨H, eH⟩ : ∃ z, z = s.heap := ⟨_, rfl⟩
  obtain ⟨locs, el⟩ : ∃ z : List Loc, z = [] := ⟨_, rfl⟩
  rw [← eH] at hP
  have hS : va_S A s.heap H locs := by rw [eH, el]; exact hS
  have goal0 : W p l e r_c_X10_orderPosition s m ([.ref (g.2.2.2 0), .int (nI x)] : List Value).toArray below meth c H locs 0 0 Q (F0 m 0 ls []) → W p l e r_c_X10_orderPosition s m ([.ref (g.2.2.2 0), .int (nI x)] : List Value).toArray below meth c s.heap [] 0 0 Q (F0 m 0 ls []) := fun h => by rw [eH, el] at h; exact h
  refine goal0 ?_
  have hl : lv_has ls 2 [(0, .ref (g.2.2.2 0)), (1, .int (nI x))] := hl
  have iX10 : ∀ w ∈ wsX100, w ∈ wsX10_orderPosition := by decide +kernel
  have iX2 : ∀ w ∈ wsX20, w ∈ wsX10_orderPosition := by decide +kernel
  have k89 := hts (.fieldLink RX10 89 "JumpingAutomata" "bestOrder" "LJumpingAutomata$BestOrder;") (by decide +kernel)
  have k272 := hts (.fieldLink RX10 272 "JumpingAutomata$BestOrder" "order" "[I") (by decide +kernel)
  refine lv_aload_n hx hb dX10_orderPosition_0 rfl (lv_at hl 0 rfl) ?_
  refine lv_iload_n hx hb dX10_orderPosition_1 rfl (lv_at hl 1 rfl) ?_
  refine vp_callSi (va_Run.run (va_runV (As := [.int (nI x)]) (rest := []) ⟨hx, hb, hml, hown, hts⟩ (c_X10_isPosition l g tl σ x (by omega) hw8) (cwV 1 hts gX10_orderPosition_X10_isPosition rfl rfl rfl (by decide +kernel) ⟨Nat.le_of_ble_eq_true rfl, Nat.le_of_ble_eq_true rfl⟩) (okPV hK hP rfl (gC0 g σ tl)) rfl rfl hl.1 rfl (lv_room (Nat.le_of_ble_eq_true rfl)) dX10_orderPosition_2 ⟨Nat.le_of_ble_eq_true rfl, Nat.le_of_ble_eq_true rfl⟩)) (fun r_2 h_2 => ?_)
  subst h_2
  refine jn_bne hx hb (tgt := 19) dX10_orderPosition_5 (by decide) (fun c_5 => ?_) (fun c_5 => ?_)
  · refine lv_aload_n hx hb dX10_orderPosition_19 rfl (lv_at hl 0 rfl) ?_
    refine jn_calli (va_runV (As := []) (rest := []) ⟨hx, hb, hml, hown, hts⟩ (c_X10_findBestOrder l g tl H.size σ hA hw8 hw hk2 hko) (cwV 0 hts gX10_orderPosition_X10_findBestOrder rfl rfl rfl (by decide +kernel) ⟨Nat.le_of_ble_eq_true rfl, Nat.le_of_ble_eq_true rfl⟩) (okWV hK hP hD rfl (gC0 g σ tl)) rfl rfl hl.1 rfl (lv_room (Nat.le_of_ble_eq_true rfl)) dX10_orderPosition_20 ⟨Nat.le_of_ble_eq_true rfl, Nat.le_of_ble_eq_true rfl⟩) hD hS hAA (fun r_20 u H locs hw_ hP hD hS => ?_)
    obtain ⟨n4_20, co_20, kn_20, pc2_20, S_20, bf2_20, w2_20, od_20⟩ := u
    obtain ⟨rfl, h_20⟩ := hw_
    have h_20 : (ordK (σ.2.1 0) (σ.2.1 14) (σ.1 0) (σ.1 20) co_20 od_20) ∧ (kn_20 = 1) := h_20
    have hP : va_P (g.1, g.2.1) vwCl (wC g (sA (sA (sA (sA (sA (sF (sF (sF σ 4 n4_20) 5 co_20) 21 kn_20) 21 pc2_20) 22 S_20) 23 bf2_20) 24 w2_20) 25 od_20) ++ tl) H := hP
    have hD : va_D A (wC g (sA (sA (sA (sA (sA (sF (sF (sF σ 4 n4_20) 5 co_20) 21 kn_20) 21 pc2_20) 22 S_20) 23 bf2_20) 24 w2_20) 25 od_20) ++ tl) := hD
    refine jn_bne hx hb (tgt := 37) dX10_orderPosition_23 (by decide) (fun c_23 => ?_) (fun c_23 => ?_)
    · refine lv_aload_n hx hb dX10_orderPosition_37 rfl (lv_at hl 0 rfl) ?_
      refine va_get (D := (g.1, g.2.1)) (ci := 12) (v := .ref (g.2.2.2 36)) (C := RX10) (T := TX10) (N := 15) hx hb hts iX10 hown hK.1 hP 0 (gC0 g (sA (sA (sA (sA (sA (sF (sF (sF σ 4 n4_20) 5 co_20) 21 kn_20) 21 pc2_20) 22 S_20) 23 bf2_20) 24 w2_20) 25 od_20) tl) rfl 13 (by decide) k89 (fun _ h9 => h9) rfl dX10_orderPosition_38 ?_
      refine va_get (D := (g.1, g.2.1)) (ci := 4) (v := .ref (g.2.2.2 41)) (C := RX2) (T := TX2) (N := 7) hx hb hts iX2 hown hK.1 hP 36 (gC36 g (sA (sA (sA (sA (sA (sF (sF (sF σ 4 n4_20) 5 co_20) 21 kn_20) 21 pc2_20) 22 S_20) 23 bf2_20) 24 w2_20) 25 od_20) tl) rfl 5 (by decide) k272 (fun _ h9 => h9) rfl dX10_orderPosition_41 ?_
      refine lv_iload_n hx hb dX10_orderPosition_44 rfl (lv_at hl 1 rfl) ?_
      refine jn_iald (f := od_20) hx hb hK.1 hP 41 0 (gC41 g (sA (sA (sA (sA (sA (sF (sF (sF σ 4 n4_20) 5 co_20) 21 kn_20) 21 pc2_20) 22 S_20) 23 bf2_20) 24 w2_20) 25 od_20) tl) rfl (by omega) (Nat.le_of_ble_eq_true rfl) dX10_orderPosition_45 ?_
      exact hq _ _ _ _ _ _ ((nI (od_20 x))) (n4_20, co_20, kn_20, pc2_20, S_20, bf2_20, w2_20, od_20) (Nat.le_of_ble_eq_true rfl) (Nat.le_of_ble_eq_true rfl) dX10_orderPosition_46 ⟨rfl, c_5, h_20.1, h_20.2, c_23⟩ hP hD hS
    · exact hqw _ _ _ _ 26 164 265 168 "java/util/NoSuchElementException" "there is no reading orde\x72" _ (n4_20, co_20, kn_20, pc2_20, S_20, bf2_20, w2_20, od_20) hl.1 dX10_orderPosition_26 dX10_orderPosition_29 dX10_orderPosition_30 dX10_orderPosition_33 dX10_orderPosition_36 ⟨by decide +kernel, by decide +kernel, fun w hw => List.mem_cons_of_mem _ (List.mem_append_left _ (List.mem_append_right _ hw)), by decide +kernel, by decide +kernel, by decide +kernel, by decide +kernel, by decide +kernel, Nat.le_of_ble_eq_true rfl, Nat.le_of_ble_eq_true rfl⟩ (Nat.le_of_ble_eq_true rfl) (Nat.le_of_ble_eq_true rfl) (Nat.le_of_ble_eq_true rfl) (Nat.le_of_ble_eq_true rfl) (Or.inr ⟨rfl, ⟨c_5, h_20.1, h_20.2, c_23⟩⟩) hP hD hS
  · exact hqw _ _ _ _ 8 176 270 180 "java/lang/IndexOutOfBoundsException" "there is no such index" _ ((σ.1 4), (σ.1 5), (σ.1 21), (σ.2.1 21), (σ.2.1 22), (σ.2.1 23), (σ.2.1 24), (σ.2.1 25)) hl.1 dX10_orderPosition_8 dX10_orderPosition_11 dX10_orderPosition_12 dX10_orderPosition_15 dX10_orderPosition_18 ⟨by decide +kernel, by decide +kernel, fun w hw => List.mem_cons_of_mem _ (List.mem_append_left _ (List.mem_append_left _ (List.mem_append_right _ hw))), by decide +kernel, by decide +kernel, by decide +kernel, by decide +kernel, by decide +kernel, Nat.le_of_ble_eq_true rfl, Nat.le_of_ble_eq_true rfl⟩ (Nat.le_of_ble_eq_true rfl) (Nat.le_of_ble_eq_true rfl) (Nat.le_of_ble_eq_true rfl) (Nat.le_of_ble_eq_true rfl) (Or.inl ⟨rfl, ⟨c_5, rfl, rfl, rfl, rfl⟩⟩) hP hD hS

abbrev r_c_X10_reaches : Room := { frames := 7, cells := 1, slots := 6, locals := 104 }
set_option maxHeartbeats 4000000 in
set_option maxRecDepth 100000 in
theorem c_X10_reaches (l : Launch) (hflg : l.stackTraces = false) (g : GC) (tl : va_W) (sz : Nat) (σ : SS) (x1 x2 x3 : Nat) (hA : OkA σ) (hx1 : x1 < 4294967296) (hx2 : x2 < 4294967296) (hx3 : x3 < 4294967296) : vx_Met l yX10_reaches wsX10_reaches r_c_X10_reaches (va_Pc [.ref (g.2.2.2 0), .int (nI x1), .int (nI x2), .int (nI x3)] (PX g (wC g σ ++ tl) sz)) (va_Qi (fun (r : Int32) (f15 : (Nat → Nat)) => (r = nI (if rch (σ.2.1 0) x1 x2 x3 &&& (σ.1 0) ≠ 0 then 1 else 0)) ∧ (x1 < 10 ∧ x2 < 10 ∧ x3 < 10)) (fun (f15 : (Nat → Nat)) t => BW g (va_A (wC g σ ++ tl) sz) (wC g (sA σ 15 f15) ++ tl) t) (va_A (wC g σ ++ tl) sz)) (XW g (va_A (wC g σ ++ tl) sz) (fun (E : String) (_ : Unit) => (E = "java/lang/IllegalArgumentException" ∧ (¬ (x1 < 10 ∧ x2 < 10 ∧ x3 < 10)))) (fun _ : Unit => wC g σ ++ tl)) 1 6 (va_A (wC g σ ++ tl) sz) := by
  refine jx_z hflg (wf := fun f15 : (Nat → Nat) => wC g (sA σ 15 f15) ++ tl) (wx := fun _ : Unit => wC g σ ++ tl) (cc := cX10_reaches) (maxL := 4) (by decide) rfl rfl (Nat.le_of_ble_eq_true rfl) ?_
  intro p e s m below meth c Q A hx hb hml hown hts hKX hP hD hS hAA hZ hq hqt hqw hqo ls hl
  have hK := hKX.1
  obtain ⟨H, eH⟩ : ∃ z, z = s.heap := ⟨_, rfl⟩
  obtain ⟨locs, el⟩ : ∃ z : List Loc, z = [] := ⟨_, rfl⟩
  rw [← eH] at hP
  have hS : va_S A s.heap H locs := by rw [eH, el]; exact hS
  have goal0 : W p l e r_c_X10_reaches s m ([.ref (g.2.2.2 0), .int (nI x1), .int (nI x2), .int (nI x3)] : List Value).toArray below meth c H locs 0 0 Q (F0 m 0 ls []) → W p l e r_c_X10_reaches s m ([.ref (g.2.2.2 0), .int (nI x1), .int (nI x2), .int (nI x3)] : List Value).toArray below meth c s.heap [] 0 0 Q (F0 m 0 ls []) := fun h => by rw [eH, el] at h; exact h
  refine goal0 ?_
  have hl : lv_has ls 4 [(0, .ref (g.2.2.2 0)), (1, .int (nI x1)), (2, .int (nI x2)), (3, .int (nI x3))] := hl
  have iX10 : ∀ w ∈ wsX100, w ∈ wsX10_reaches := by decide +kernel
  have k48 := hts (.fieldLink RX10 48 "JumpingAutomata" "reached" "LJumpingAutomata$CountsTable;") (by decide +kernel)
  have k12 := hts (.fieldLink RX10 12 "JumpingAutomata" "automaton" "LJumpingAutomata$Automaton;") (by decide +kernel)
  refine lv_iload_n hx hb dX10_reaches_0 rfl (lv_at hl 1 rfl) ?_
  refine lv_iload_n hx hb dX10_reaches_1 rfl (lv_at hl 2 rfl) ?_
  refine lv_iload_n hx hb dX10_reaches_2 rfl (lv_at hl 3 rfl) ?_
  refine jx_callv (vx_runS (As := [.int (nI x1), .int (nI x2), .int (nI x3)]) (rest := []) ⟨hx, hb, hml, hown, hts⟩ (c_X10_requireDigits l hflg g tl H.size σ x1 x2 x3 hx1 hx2 hx3) (va_cwS 3 hts gX10_reaches_X10_requireDigits rfl rfl rfl (by decide +kernel) ⟨Nat.le_of_ble_eq_true rfl, Nat.le_of_ble_eq_true rfl⟩) (okXS hKX hP hD hZ hS hAA) rfl rfl hl.1 rfl (lv_room (Nat.le_of_ble_eq_true rfl)) dX10_reaches_3 ⟨Nat.le_of_ble_eq_true rfl, Nat.le_of_ble_eq_true rfl⟩) hD hS hAA (fun E ce q9 u H locs hxp hP hD hS h7 h8 h9 => ?_) (fun u H locs hw_ hP hD hS => ?_)
  · have hxp : (E = "java/lang/IllegalArgumentException" ∧ (¬ (x1 < 10 ∧ x2 < 10 ∧ x3 < 10))) := hxp
    rcases hxp with ⟨eE, hc⟩
    · exact hqo _ _ _ _ _ _ _ _ _ _ () (Nat.le_of_ble_eq_true rfl) (Nat.le_of_ble_eq_true rfl) h7 h8 h9 ⟨eE, (by first | exact hc | omega)⟩ hP hD hS
  have h_3 := hw_
  have h_3 : x1 < 10 ∧ x2 < 10 ∧ x3 < 10 := h_3
  have hP : va_P (g.1, g.2.1) vwCl (wC g σ ++ tl) H := hP
  have hD : va_D A (wC g σ ++ tl) := hD
  refine lv_aload_n hx hb dX10_reaches_6 rfl (lv_at hl 0 rfl) ?_
  refine va_get (D := (g.1, g.2.1)) (ci := 12) (v := .ref (g.2.2.2 21)) (C := RX10) (T := TX10) (N := 15) hx hb hts iX10 hown hK.1 hP 0 (gC0 g σ tl) rfl 6 (by decide) k48 (fun _ h9 => h9) rfl dX10_reaches_7 ?_
  refine lv_aload_n hx hb dX10_reaches_10 rfl (lv_at hl 0 rfl) ?_
  refine va_get (D := (g.1, g.2.1)) (ci := 12) (v := .ref (g.2.2.2 1)) (C := RX10) (T := TX10) (N := 15) hx hb hts iX10 hown hK.1 hP 0 (gC0 g σ tl) rfl 0 (by decide) k12 (fun _ h9 => h9) rfl dX10_reaches_11 ?_
  refine lv_iload_n hx hb dX10_reaches_14 rfl (lv_at hl 1 rfl) ?_
  refine lv_iload_n hx hb dX10_reaches_15 rfl (lv_at hl 2 rfl) ?_
  refine lv_iload_n hx hb dX10_reaches_16 rfl (lv_at hl 3 rfl) ?_
  refine jn_callv (va_runV (As := [.ref (g.2.2.2 1), .int (nI x1), .int (nI x2), .int (nI x3)]) (rest := []) ⟨hx, hb, hml, hown, hts⟩ (c_X5_fillReached_21 l g tl H.size σ x1 x2 x3 hA h_3.1 h_3.2.1 h_3.2.2) (cwV 4 hts gX10_reaches_X5_fillReached rfl rfl rfl (by decide +kernel) ⟨Nat.le_of_ble_eq_true rfl, Nat.le_of_ble_eq_true rfl⟩) (okWV hK hP hD rfl (gC21 g σ tl)) rfl rfl hl.1 rfl (lv_room (Nat.le_of_ble_eq_true rfl)) dX10_reaches_17 ⟨Nat.le_of_ble_eq_true rfl, Nat.le_of_ble_eq_true rfl⟩) hD hS hAA (fun u H locs hw_ hP hD hS => ?_)
  obtain ⟨f_17, rfl⟩ : ∃ z, z = u := ⟨_, rfl⟩
  have h_17 := hw_
  have h_17 : ∀ a b c, a ≤ x1 → b ≤ x2 → c ≤ x3 → f_17 (100 * a + 10 * b + c) = rch (σ.2.1 0) a b c := h_17
  have hP : va_P (g.1, g.2.1) vwCl (wC g (sA σ 15 f_17) ++ tl) H := hP
  have hD : va_D A (wC g (sA σ 15 f_17) ++ tl) := hD
  refine lv_aload_n hx hb dX10_reaches_20 rfl (lv_at hl 0 rfl) ?_
  refine va_get (D := (g.1, g.2.1)) (ci := 12) (v := .ref (g.2.2.2 1)) (C := RX10) (T := TX10) (N := 15) hx hb hts iX10 hown hK.1 hP 0 (gC0 g (sA σ 15 f_17) tl) rfl 0 (by decide) k12 (fun _ h9 => h9) rfl dX10_reaches_21 ?_
  refine lv_aload_n hx hb dX10_reaches_24 rfl (lv_at hl 0 rfl) ?_
  refine va_get (D := (g.1, g.2.1)) (ci := 12) (v := .ref (g.2.2.2 21)) (C := RX10) (T := TX10) (N := 15) hx hb hts iX10 hown hK.1 hP 0 (gC0 g (sA σ 15 f_17) tl) rfl 6 (by decide) k48 (fun _ h9 => h9) rfl dX10_reaches_25 ?_
  refine lv_iload_n hx hb dX10_reaches_28 rfl (lv_at hl 1 rfl) ?_
  refine lv_iload_n hx hb dX10_reaches_29 rfl (lv_at hl 2 rfl) ?_
  refine lv_iload_n hx hb dX10_reaches_30 rfl (lv_at hl 3 rfl) ?_
  refine vp_callSi (va_Run.run (va_runS (As := [.int (nI x1), .int (nI x2), .int (nI x3)]) (rest := [.ref (g.2.2.2 21), .ref (g.2.2.2 1)]) ⟨hx, hb, hml, hown, hts⟩ (c_X10_codeOf l x1 x2 x3) (va_cwS 3 hts gX10_reaches_X10_codeOf rfl rfl rfl (by decide +kernel) ⟨Nat.le_of_ble_eq_true rfl, Nat.le_of_ble_eq_true rfl⟩) okTS rfl rfl hl.1 rfl (lv_room (Nat.le_of_ble_eq_true rfl)) dX10_reaches_31 ⟨Nat.le_of_ble_eq_true rfl, Nat.le_of_ble_eq_true rfl⟩)) (fun r_31 h_31 => ?_)
  subst h_31
  refine vp_callSi (va_Run.run (va_runV (As := [.int (nI (100 * x1 + 10 * x2 + x3))]) (rest := [.ref (g.2.2.2 1)]) ⟨hx, hb, hml, hown, hts⟩ (c_X5_at_21 l g tl (sA σ 15 f_17) (100 * x1 + 10 * x2 + x3) (by omega)) (cwV 1 hts gX10_reaches_X5_at rfl rfl rfl (by decide +kernel) ⟨Nat.le_of_ble_eq_true rfl, Nat.le_of_ble_eq_true rfl⟩) (okPV hK hP rfl (gC21 g (sA σ 15 f_17) tl)) rfl rfl hl.1 rfl (lv_room (Nat.le_of_ble_eq_true rfl)) dX10_reaches_34 ⟨Nat.le_of_ble_eq_true rfl, Nat.le_of_ble_eq_true rfl⟩)) (fun r_34 h_34 => ?_)
  have h_34 : r_34 = (nI ((f_17) (100 * x1 + 10 * x2 + x3))) := h_34
  subst h_34
  have ev : f_17 (100 * x1 + 10 * x2 + x3) = rch (σ.2.1 0) x1 x2 x3 := h_17 x1 x2 x3 (Nat.le_refl _) (Nat.le_refl _) (Nat.le_refl _)
  refine vp_callSi (va_Run.run (va_runV (As := [.int (nI ((f_17) (100 * x1 + 10 * x2 + x3)))]) (rest := []) ⟨hx, hb, hml, hown, hts⟩ (c_X0_accepting l g tl (sA σ 15 f_17) ((f_17) (100 * x1 + 10 * x2 + x3)) hA) (cwV 1 hts gX10_reaches_X0_accepting rfl rfl rfl (by decide +kernel) ⟨Nat.le_of_ble_eq_true rfl, Nat.le_of_ble_eq_true rfl⟩) (okPV hK hP rfl (gC1 g (sA σ 15 f_17) tl)) rfl rfl hl.1 rfl (lv_room (Nat.le_of_ble_eq_true rfl)) dX10_reaches_37 ⟨Nat.le_of_ble_eq_true rfl, Nat.le_of_ble_eq_true rfl⟩)) (fun r_37 h_37 => ?_)
  have h_37 : r_37 = (nI (if ((f_17) (100 * x1 + 10 * x2 + x3)) &&& σ.1 0 ≠ 0 then 1 else 0)) := h_37
  subst h_37
  exact hq _ _ _ _ _ _ ((nI (if ((f_17) (100 * x1 + 10 * x2 + x3)) &&& σ.1 0 ≠ 0 then 1 else 0))) (f_17) (Nat.le_of_ble_eq_true rfl) (Nat.le_of_ble_eq_true rfl) dX10_reaches_40 (jn_nb _) ⟨by rw [ev], h_3⟩ hP hD hS

abbrev r_c_X10_minimal : Room := { frames := 6, cells := 1, slots := 6, locals := 96 }
set_option maxHeartbeats 4000000 in
set_option maxRecDepth 100000 in
theorem c_X10_minimal (l : Launch) (hflg : l.stackTraces = false) (g : GC) (tl : va_W) (sz : Nat) (σ : SS) (x : Nat) (hA : OkA σ) (hx : x < 4294967296) : vx_Met l yX10_minimal wsX10_minimal r_c_X10_minimal (va_Pc [.ref (g.2.2.2 0), .int (nI x)] (PX g (wC g σ ++ tl) sz)) (va_Qi (fun (r : Int32) (z : Nat × (Nat → Nat) × (Nat → Nat)) => match z with | (n6, f15, f17) => (r = nI (f17 x)) ∧ (LOk f17 n6) ∧ (∀ z, inL f17 n6 z ↔ mnC (σ.2.1 0) (σ.1 0) z) ∧ (x < n6)) (fun (z : Nat × (Nat → Nat) × (Nat → Nat)) t => BW g (va_A (wC g σ ++ tl) sz) ((fun z : Nat × (Nat → Nat) × (Nat → Nat) => match z with | (n6, f15, f17) => wC g (sA (sA (sF σ 6 n6) 15 f15) 17 f17) ++ tl) z) t) (va_A (wC g σ ++ tl) sz)) (XW g (va_A (wC g σ ++ tl) sz) (fun (E : String) (z : Nat × (Nat → Nat) × (Nat → Nat)) => match z with | (n6, f15, f17) => (E = "java/lang/IndexOutOfBoundsException" ∧ ((LOk f17 n6) ∧ (∀ z, inL f17 n6 z ↔ mnC (σ.2.1 0) (σ.1 0) z) ∧ ¬ x < n6))) (fun z : Nat × (Nat → Nat) × (Nat → Nat) => match z with | (n6, f15, f17) => wC g (sA (sA (sF σ 6 n6) 15 f15) 17 f17) ++ tl)) 1 6 (va_A (wC g σ ++ tl) sz) := by
  refine jx_i hflg (wf := fun z : Nat × (Nat → Nat) × (Nat → Nat) => match z with | (n6, f15, f17) => wC g (sA (sA (sF σ 6 n6) 15 f15) 17 f17) ++ tl) (wx := fun z : Nat × (Nat → Nat) × (Nat → Nat) => match z with | (n6, f15, f17) => wC g (sA (sA (sF σ 6 n6) 15 f15) 17 f17) ++ tl) (cc := cX10_minimal) (maxL := 2) (by decide) rfl rfl (Nat.le_of_ble_eq_true rfl) ?_
  intro p e s m below meth c Q A hx hb hml hown hts hKX hP hD hS hAA hZ hq hqt hqw hqo ls hl
  have hK := hKX.1
  obtain ⟨H, eH⟩ : ∃ z, z = s.heap := ⟨_, rfl⟩
  obtain ⟨locs, el⟩ : ∃ z : List Loc, z = [] := ⟨_, rfl⟩
  rw [← eH] at hP
  have hS : va_S A s.heap H locs := by rw [eH, el]; exact hS
  have goal0 : W p l e r_c_X10_minimal s m ([.ref (g.2.2.2 0), .int (nI x)] : List Value).toArray below meth c H locs 0 0 Q (F0 m 0 ls []) → W p l e r_c_X10_minimal s m ([.ref (g.2.2.2 0), .int (nI x)] : List Value).toArray below meth c s.heap [] 0 0 Q (F0 m 0 ls []) := fun h => by rw [eH, el] at h; exact h
  refine goal0 ?_
  have hl : lv_has ls 2 [(0, .ref (g.2.2.2 0)), (1, .int (nI x))] := hl
  have iX10 : ∀ w ∈ wsX100, w ∈ wsX10_minimal := by decide +kernel
  have iX4 : ∀ w ∈ wsX40, w ∈ wsX10_minimal := by decide +kernel
  have k58 := hts (.fieldLink RX10 58 "JumpingAutomata" "minimals" "LJumpingAutomata$CountsList;") (by decide +kernel)
  have k292 := hts (.fieldLink RX10 292 "JumpingAutomata$CountsList" "size" "I") (by decide +kernel)
  refine lv_aload_n hx hb dX10_minimal_0 rfl (lv_at hl 0 rfl) ?_
  refine jn_callv (va_runV (As := []) (rest := []) ⟨hx, hb, hml, hown, hts⟩ (c_X10_gatherMinimals l g tl H.size σ hA) (cwV 0 hts gX10_minimal_X10_gatherMinimals rfl rfl rfl (by decide +kernel) ⟨Nat.le_of_ble_eq_true rfl, Nat.le_of_ble_eq_true rfl⟩) (okWV hK hP hD rfl (gC0 g σ tl)) rfl rfl hl.1 rfl (lv_room (Nat.le_of_ble_eq_true rfl)) dX10_minimal_1 ⟨Nat.le_of_ble_eq_true rfl, Nat.le_of_ble_eq_true rfl⟩) hD hS hAA (fun u H locs hw_ hP hD hS => ?_)
  obtain ⟨n6_1, f15_1, f17_1⟩ := u
  have h_1 := hw_
  have h_1 : (LOk f17_1 n6_1) ∧ (∀ z, inL f17_1 n6_1 z ↔ mnC (σ.2.1 0) (σ.1 0) z) := h_1
  have hP : va_P (g.1, g.2.1) vwCl (wC g (sA (sA (sF σ 6 n6_1) 15 f15_1) 17 f17_1) ++ tl) H := hP
  have hD : va_D A (wC g (sA (sA (sF σ 6 n6_1) 15 f15_1) 17 f17_1) ++ tl) := hD
  have hl6 := h_1.1.1
  refine lv_iload_n hx hb dX10_minimal_4 rfl (lv_at hl 1 rfl) ?_
  refine jn_zlt hx hb (by omega) (tgt := 19) dX10_minimal_5 (by decide) (fun c_5 => ?_) (fun c_5 => ?_)
  · exact hqw _ _ _ _ 19 176 294 180 "java/lang/IndexOutOfBoundsException" "there are no such minimal counts" _ (n6_1, f15_1, f17_1) hl.1 dX10_minimal_19 dX10_minimal_22 dX10_minimal_23 dX10_minimal_26 dX10_minimal_29 ⟨by decide +kernel, by decide +kernel, fun w hw => List.mem_cons_of_mem _ (List.mem_append_left _ (List.mem_append_right _ hw)), by decide +kernel, by decide +kernel, by decide +kernel, by decide +kernel, by decide +kernel, Nat.le_of_ble_eq_true rfl, Nat.le_of_ble_eq_true rfl⟩ (Nat.le_of_ble_eq_true rfl) (Nat.le_of_ble_eq_true rfl) (Nat.le_of_ble_eq_true rfl) (Nat.le_of_ble_eq_true rfl) ⟨rfl, ⟨h_1.1, h_1.2, by omega⟩⟩ hP hD hS
  · refine lv_iload_n hx hb dX10_minimal_8 rfl (lv_at hl 1 rfl) ?_
    refine lv_aload_n hx hb dX10_minimal_9 rfl (lv_at hl 0 rfl) ?_
    refine va_get (D := (g.1, g.2.1)) (ci := 12) (v := .ref (g.2.2.2 25)) (C := RX10) (T := TX10) (N := 15) hx hb hts iX10 hown hK.1 hP 0 (gC0 g (sA (sA (sF σ 6 n6_1) 15 f15_1) 17 f17_1) tl) rfl 8 (by decide) k58 (fun _ h9 => h9) rfl dX10_minimal_10 ?_
    refine va_get (D := (g.1, g.2.1)) (ci := 6) (v := .int (nI n6_1)) (C := RX4) (T := TX4) (N := 2) hx hb hts iX4 hown hK.1 hP 25 (gC25 g (sA (sA (sF σ 6 n6_1) 15 f15_1) 17 f17_1) tl) rfl 1 (by decide) k292 (fun _ h9 => h9) rfl dX10_minimal_13 ?_
    refine jn_clt hx hb (by omega) (by omega) (tgt := 30) dX10_minimal_16 (by decide) (fun c_16 => ?_) (fun c_16 => ?_)
    · refine lv_aload_n hx hb dX10_minimal_30 rfl (lv_at hl 0 rfl) ?_
      refine va_get (D := (g.1, g.2.1)) (ci := 12) (v := .ref (g.2.2.2 25)) (C := RX10) (T := TX10) (N := 15) hx hb hts iX10 hown hK.1 hP 0 (gC0 g (sA (sA (sF σ 6 n6_1) 15 f15_1) 17 f17_1) tl) rfl 8 (by decide) k58 (fun _ h9 => h9) rfl dX10_minimal_31 ?_
      refine lv_iload_n hx hb dX10_minimal_34 rfl (lv_at hl 1 rfl) ?_
      refine vp_callSi (va_Run.run (va_runV (As := [.int (nI x)]) (rest := []) ⟨hx, hb, hml, hown, hts⟩ (c_X4_at_25 l g tl (sA (sA (sF σ 6 n6_1) 15 f15_1) 17 f17_1) x h_1.1 (by first | exact c_16 | omega)) (cwV 1 hts gX10_minimal_X4_at rfl rfl rfl (by decide +kernel) ⟨Nat.le_of_ble_eq_true rfl, Nat.le_of_ble_eq_true rfl⟩) (okPV hK hP rfl (gC25 g (sA (sA (sF σ 6 n6_1) 15 f15_1) 17 f17_1) tl)) rfl rfl hl.1 rfl (lv_room (Nat.le_of_ble_eq_true rfl)) dX10_minimal_35 ⟨Nat.le_of_ble_eq_true rfl, Nat.le_of_ble_eq_true rfl⟩)) (fun r_35 h_35 => ?_)
      have h_35 : r_35 = (nI ((f17_1) x)) := h_35
      subst h_35
      exact hq _ _ _ _ _ _ ((nI ((f17_1) x))) (n6_1, f15_1, f17_1) (Nat.le_of_ble_eq_true rfl) (Nat.le_of_ble_eq_true rfl) dX10_minimal_38 ⟨rfl, h_1.1, h_1.2, by omega⟩ hP hD hS
    · exact hqw _ _ _ _ 19 176 294 180 "java/lang/IndexOutOfBoundsException" "there are no such minimal counts" _ (n6_1, f15_1, f17_1) hl.1 dX10_minimal_19 dX10_minimal_22 dX10_minimal_23 dX10_minimal_26 dX10_minimal_29 ⟨by decide +kernel, by decide +kernel, fun w hw => List.mem_cons_of_mem _ (List.mem_append_left _ (List.mem_append_right _ hw)), by decide +kernel, by decide +kernel, by decide +kernel, by decide +kernel, by decide +kernel, Nat.le_of_ble_eq_true rfl, Nat.le_of_ble_eq_true rfl⟩ (Nat.le_of_ble_eq_true rfl) (Nat.le_of_ble_eq_true rfl) (Nat.le_of_ble_eq_true rfl) (Nat.le_of_ble_eq_true rfl) ⟨rfl, ⟨h_1.1, h_1.2, by omega⟩⟩ hP hD hS

abbrev r_c_X10_cycle : Room := { frames := 8, cells := 1, slots := 6, locals := 219 }
set_option maxHeartbeats 4000000 in
set_option maxRecDepth 100000 in
theorem c_X10_cycle (l : Launch) (hflg : l.stackTraces = false) (g : GC) (tl : va_W) (sz : Nat) (σ : SS) (x : Nat) (hA : OkA σ) (hs8 : σ.1 8 < 5) (hx : x < 4294967296) : vx_Met l yX10_cycle wsX10_cycle r_c_X10_cycle (va_Pc [.ref (g.2.2.2 0), .int (nI x)] (PX g (wC g σ ++ tl) sz)) (va_Qi (fun (r : Int32) (z : Nat × Nat × (Nat → Nat)) => match z with | (n7, s8, f18) => (r = nI (f18 x)) ∧ (LOk f18 n7) ∧ (∀ x, inL f18 n7 x ↔ cyA (σ.2.1 0) (usf σ) 5 x) ∧ (s8 < 5) ∧ (x < n7)) (fun (z : Nat × Nat × (Nat → Nat)) t => BW g (va_A (wC g σ ++ tl) sz) ((fun z : Nat × Nat × (Nat → Nat) => match z with | (n7, s8, f18) => wC g (sA (sF (sF σ 7 n7) 8 s8) 18 f18) ++ tl) z) t) (va_A (wC g σ ++ tl) sz)) (XW g (va_A (wC g σ ++ tl) sz) (fun (E : String) (z : Nat × Nat × (Nat → Nat)) => match z with | (n7, s8, f18) => (E = "java/lang/IndexOutOfBoundsException" ∧ ((LOk f18 n7) ∧ (∀ x, inL f18 n7 x ↔ cyA (σ.2.1 0) (usf σ) 5 x) ∧ s8 < 5 ∧ ¬ x < n7))) (fun z : Nat × Nat × (Nat → Nat) => match z with | (n7, s8, f18) => wC g (sA (sF (sF σ 7 n7) 8 s8) 18 f18) ++ tl)) 1 6 (va_A (wC g σ ++ tl) sz) := by
  refine jx_i hflg (wf := fun z : Nat × Nat × (Nat → Nat) => match z with | (n7, s8, f18) => wC g (sA (sF (sF σ 7 n7) 8 s8) 18 f18) ++ tl) (wx := fun z : Nat × Nat × (Nat → Nat) => match z with | (n7, s8, f18) => wC g (sA (sF (sF σ 7 n7) 8 s8) 18 f18) ++ tl) (cc := cX10_cycle) (maxL := 2) (by decide) rfl rfl (Nat.le_of_ble_eq_true rfl) ?_
  intro p e s m below meth c Q A hx hb hml hown hts hKX hP hD hS hAA hZ hq hqt hqw hqo ls hl
  have hK := hKX.1
  obtain ⟨H, eH⟩ : ∃ z, z = s.heap := ⟨_, rfl⟩
  obtain ⟨locs, el⟩ : ∃ z : List Loc, z = [] := ⟨_, rfl⟩
  rw [← eH] at hP
  have hS : va_S A s.heap H locs := by rw [eH, el]; exact hS
  have goal0 : W p l e r_c_X10_cycle s m ([.ref (g.2.2.2 0), .int (nI x)] : List Value).toArray below meth c H locs 0 0 Q (F0 m 0 ls []) → W p l e r_c_X10_cycle s m ([.ref (g.2.2.2 0), .int (nI x)] : List Value).toArray below meth c s.heap [] 0 0 Q (F0 m 0 ls []) := fun h => by rw [eH, el] at h; exact h
  refine goal0 ?_
  have hl : lv_has ls 2 [(0, .ref (g.2.2.2 0)), (1, .int (nI x))] := hl
  have iX10 : ∀ w ∈ wsX100, w ∈ wsX10_cycle := by decide +kernel
  have iX4 : ∀ w ∈ wsX40, w ∈ wsX10_cycle := by decide +kernel
  have k68 := hts (.fieldLink RX10 68 "JumpingAutomata" "cycleFinder" "LJumpingAutomata$CycleFinder;") (by decide +kernel)
  have k12 := hts (.fieldLink RX10 12 "JumpingAutomata" "automaton" "LJumpingAutomata$Automaton;") (by decide +kernel)
  have k62 := hts (.fieldLink RX10 62 "JumpingAutomata" "cycles" "LJumpingAutomata$CountsList;") (by decide +kernel)
  have k292 := hts (.fieldLink RX10 292 "JumpingAutomata$CountsList" "size" "I") (by decide +kernel)
  refine lv_aload_n hx hb dX10_cycle_0 rfl (lv_at hl 0 rfl) ?_
  refine va_get (D := (g.1, g.2.1)) (ci := 12) (v := .ref (g.2.2.2 29)) (C := RX10) (T := TX10) (N := 15) hx hb hts iX10 hown hK.1 hP 0 (gC0 g σ tl) rfl 10 (by decide) k68 (fun _ h9 => h9) rfl dX10_cycle_1 ?_
  refine lv_aload_n hx hb dX10_cycle_4 rfl (lv_at hl 0 rfl) ?_
  refine va_get (D := (g.1, g.2.1)) (ci := 12) (v := .ref (g.2.2.2 1)) (C := RX10) (T := TX10) (N := 15) hx hb hts iX10 hown hK.1 hP 0 (gC0 g σ tl) rfl 0 (by decide) k12 (fun _ h9 => h9) rfl dX10_cycle_5 ?_
  refine lv_aload_n hx hb dX10_cycle_8 rfl (lv_at hl 0 rfl) ?_
  refine va_get (D := (g.1, g.2.1)) (ci := 12) (v := .ref (g.2.2.2 27)) (C := RX10) (T := TX10) (N := 15) hx hb hts iX10 hown hK.1 hP 0 (gC0 g σ tl) rfl 9 (by decide) k62 (fun _ h9 => h9) rfl dX10_cycle_9 ?_
  refine jn_callv (va_runV (As := [.ref (g.2.2.2 1), .ref (g.2.2.2 27)]) (rest := []) ⟨hx, hb, hml, hown, hts⟩ (c_X6_gather l g tl H.size σ hA hs8) (cwV 2 hts gX10_cycle_X6_gather rfl rfl rfl (by decide +kernel) ⟨Nat.le_of_ble_eq_true rfl, Nat.le_of_ble_eq_true rfl⟩) (okWV hK hP hD rfl (gC29 g σ tl)) rfl rfl hl.1 rfl (lv_room (Nat.le_of_ble_eq_true rfl)) dX10_cycle_12 ⟨Nat.le_of_ble_eq_true rfl, Nat.le_of_ble_eq_true rfl⟩) hD hS hAA (fun u H locs hw_ hP hD hS => ?_)
  obtain ⟨f2_12, n2_12, s8_12⟩ := u
  have h_12 := hw_
  have h_12 : (LOk f2_12 n2_12) ∧ (∀ x, inL f2_12 n2_12 x ↔ cyA (σ.2.1 0) (usf σ) 5 x) ∧ (s8_12 < 5) := h_12
  have hP : va_P (g.1, g.2.1) vwCl (wC g (sA (sF (sF σ 7 n2_12) 8 s8_12) 18 f2_12) ++ tl) H := hP
  have hD : va_D A (wC g (sA (sF (sF σ 7 n2_12) 8 s8_12) 18 f2_12) ++ tl) := hD
  have hl7 := h_12.1.1
  refine lv_iload_n hx hb dX10_cycle_15 rfl (lv_at hl 1 rfl) ?_
  refine jn_zlt hx hb (by omega) (tgt := 30) dX10_cycle_16 (by decide) (fun c_16 => ?_) (fun c_16 => ?_)
  · exact hqw _ _ _ _ 30 176 301 180 "java/lang/IndexOutOfBoundsException" "there are no such cycle counts" _ (n2_12, s8_12, f2_12) hl.1 dX10_cycle_30 dX10_cycle_33 dX10_cycle_34 dX10_cycle_37 dX10_cycle_40 ⟨by decide +kernel, by decide +kernel, fun w hw => List.mem_cons_of_mem _ (List.mem_append_left _ (List.mem_append_right _ hw)), by decide +kernel, by decide +kernel, by decide +kernel, by decide +kernel, by decide +kernel, Nat.le_of_ble_eq_true rfl, Nat.le_of_ble_eq_true rfl⟩ (Nat.le_of_ble_eq_true rfl) (Nat.le_of_ble_eq_true rfl) (Nat.le_of_ble_eq_true rfl) (Nat.le_of_ble_eq_true rfl) ⟨rfl, ⟨h_12.1, h_12.2.1, h_12.2.2, by omega⟩⟩ hP hD hS
  · refine lv_iload_n hx hb dX10_cycle_19 rfl (lv_at hl 1 rfl) ?_
    refine lv_aload_n hx hb dX10_cycle_20 rfl (lv_at hl 0 rfl) ?_
    refine va_get (D := (g.1, g.2.1)) (ci := 12) (v := .ref (g.2.2.2 27)) (C := RX10) (T := TX10) (N := 15) hx hb hts iX10 hown hK.1 hP 0 (gC0 g (sA (sF (sF σ 7 n2_12) 8 s8_12) 18 f2_12) tl) rfl 9 (by decide) k62 (fun _ h9 => h9) rfl dX10_cycle_21 ?_
    refine va_get (D := (g.1, g.2.1)) (ci := 6) (v := .int (nI n2_12)) (C := RX4) (T := TX4) (N := 2) hx hb hts iX4 hown hK.1 hP 27 (gC27 g (sA (sF (sF σ 7 n2_12) 8 s8_12) 18 f2_12) tl) rfl 1 (by decide) k292 (fun _ h9 => h9) rfl dX10_cycle_24 ?_
    refine jn_clt hx hb (by omega) (by omega) (tgt := 41) dX10_cycle_27 (by decide) (fun c_27 => ?_) (fun c_27 => ?_)
    · refine lv_aload_n hx hb dX10_cycle_41 rfl (lv_at hl 0 rfl) ?_
      refine va_get (D := (g.1, g.2.1)) (ci := 12) (v := .ref (g.2.2.2 27)) (C := RX10) (T := TX10) (N := 15) hx hb hts iX10 hown hK.1 hP 0 (gC0 g (sA (sF (sF σ 7 n2_12) 8 s8_12) 18 f2_12) tl) rfl 9 (by decide) k62 (fun _ h9 => h9) rfl dX10_cycle_42 ?_
      refine lv_iload_n hx hb dX10_cycle_45 rfl (lv_at hl 1 rfl) ?_
      refine vp_callSi (va_Run.run (va_runV (As := [.int (nI x)]) (rest := []) ⟨hx, hb, hml, hown, hts⟩ (c_X4_at_27 l g tl (sA (sF (sF σ 7 n2_12) 8 s8_12) 18 f2_12) x h_12.1 (by first | exact c_27 | omega)) (cwV 1 hts gX10_cycle_X4_at rfl rfl rfl (by decide +kernel) ⟨Nat.le_of_ble_eq_true rfl, Nat.le_of_ble_eq_true rfl⟩) (okPV hK hP rfl (gC27 g (sA (sF (sF σ 7 n2_12) 8 s8_12) 18 f2_12) tl)) rfl rfl hl.1 rfl (lv_room (Nat.le_of_ble_eq_true rfl)) dX10_cycle_46 ⟨Nat.le_of_ble_eq_true rfl, Nat.le_of_ble_eq_true rfl⟩)) (fun r_46 h_46 => ?_)
      have h_46 : r_46 = (nI ((f2_12) x)) := h_46
      subst h_46
      exact hq _ _ _ _ _ _ ((nI ((f2_12) x))) (n2_12, s8_12, f2_12) (Nat.le_of_ble_eq_true rfl) (Nat.le_of_ble_eq_true rfl) dX10_cycle_49 ⟨rfl, h_12.1, h_12.2.1, h_12.2.2, by omega⟩ hP hD hS
    · exact hqw _ _ _ _ 30 176 301 180 "java/lang/IndexOutOfBoundsException" "there are no such cycle counts" _ (n2_12, s8_12, f2_12) hl.1 dX10_cycle_30 dX10_cycle_33 dX10_cycle_34 dX10_cycle_37 dX10_cycle_40 ⟨by decide +kernel, by decide +kernel, fun w hw => List.mem_cons_of_mem _ (List.mem_append_left _ (List.mem_append_right _ hw)), by decide +kernel, by decide +kernel, by decide +kernel, by decide +kernel, by decide +kernel, Nat.le_of_ble_eq_true rfl, Nat.le_of_ble_eq_true rfl⟩ (Nat.le_of_ble_eq_true rfl) (Nat.le_of_ble_eq_true rfl) (Nat.le_of_ble_eq_true rfl) (Nat.le_of_ble_eq_true rfl) ⟨rfl, ⟨h_12.1, h_12.2.1, h_12.2.2, by omega⟩⟩ hP hD hS
