abbrev r_c_X11_appendCharacter : Room := { frames := 1, cells := 0, slots := 0, locals := 22 }
set_option maxHeartbeats 4000000 in
set_option maxRecDepth 100000 in
theorem c_X11_appendCharacter (l : Launch) (g : GC) (tl : va_W) (sz : Nat) (σ : SS) (x : Nat) (hn : (σ.1 3) ≤ 40) (hx : x < 4294967296) : Met l yX11_appendCharacter wsX11_appendCharacter r_c_X11_appendCharacter (va_Pc [.ref (g.2.2.2 0), .int (nI x)] (PW g (wM g σ ++ tl) sz)) (va_Qi (fun (r : Int32) (z : Nat × Nat × Nat × (Nat → Nat)) => match z with | (r0, th, n, f) => (r = nI (r0)) ∧ ((¬ (33 ≤ x ∧ x < 127) ∧ th = 1 ∧ n = (σ.1 3) ∧ f = (σ.2.1 3)) ∨ ((33 ≤ x ∧ x < 127) ∧ (σ.1 3) = 40 ∧ th = 2 ∧ n = (σ.1 3) ∧ f = (σ.2.1 3)) ∨ ((33 ≤ x ∧ x < 127) ∧ (σ.1 3) < 40 ∧ th = 0 ∧ n = (σ.1 3) + 1 ∧ f = va_up (σ.2.1 3) (σ.1 3) x ∧ r0 = (σ.1 3) + 1))) (fun (z : Nat × Nat × Nat × (Nat → Nat)) t => BW g (va_A (wM g σ ++ tl) sz) ((fun z : Nat × Nat × Nat × (Nat → Nat) => match z with | (r0, th, n, f) => wM g (sA (sF (sF σ 0 th) 3 n) 3 f) ++ tl) z) t) (va_A (wM g σ ++ tl) sz)) 0 0 (va_A (wM g σ ++ tl) sz) := by
  refine jn_si (wf := fun z : Nat × Nat × Nat × (Nat → Nat) => match z with | (r0, th, n, f) => wM g (sA (sF (sF σ 0 th) 3 n) 3 f) ++ tl) (cc := cX11_appendCharacter) (maxL := 2) (own := RX11) (by decide) rfl rfl (Nat.le_of_ble_eq_true rfl) ?_
  intro p e s m below meth c Q A hx hb hml hown hts hK hP hD hS hAA hq ls hl
  obtain ⟨H, eH⟩ : ∃ z, z = s.heap := ⟨_, rfl⟩
  obtain ⟨locs, el⟩ : ∃ z : List Loc, z = [] := ⟨_, rfl⟩
  rw [← eH] at hP
  have hS : va_S A s.heap H locs := by rw [eH, el]; exact hS
  have goal0 : W p l e r_c_X11_appendCharacter s m ([.ref (g.2.2.2 0), .int (nI x)] : List Value).toArray below meth c H locs 0 0 Q (F0 m 0 ls []) → W p l e r_c_X11_appendCharacter s m ([.ref (g.2.2.2 0), .int (nI x)] : List Value).toArray below meth c s.heap [] 0 0 Q (F0 m 0 ls []) := fun h => by rw [eH, el] at h; exact h
  refine goal0 ?_
  have hl : lv_has ls 2 [(0, .ref (g.2.2.2 0)), (1, .int (nI x))] := hl
  have iX11 : ∀ w ∈ wsX110, w ∈ wsX11_appendCharacter := by decide +kernel
  have k1 := hts (.fieldLink RX11 1 "JumpingAutomataModel" "thrown" "I") (by decide +kernel)
  have k33 := hts (.fieldLink RX11 33 "JumpingAutomataModel" "texted" "I") (by decide +kernel)
  have k30 := hts (.fieldLink RX11 30 "JumpingAutomataModel" "text" "[I") (by decide +kernel)
  refine lv_aload_n hx hb dX11_appendCharacter_0 rfl (lv_at hl 0 rfl) ?_
  refine lv_iconst (v := nI 0) hx hb dX11_appendCharacter_1 (by decide) ?_
  refine jn_put (D := (g.1, g.2.1)) (ci := 13) (v := .int (nI 0)) (ty := .int) (C := RX11) (T := TX11) (N := 30) hx hb hts iX11 tyX11 tyX11_ok nmX11 hown hK.1 hP hD hS 0 (gM0 g σ tl) rfl 0 (by decide) k1 (fun _ h9 => h9) rfl (by decide +kernel) rfl rfl (Nat.le_of_ble_eq_true rfl) (uM_F0 g σ tl 0) dX11_appendCharacter_2 (fun H locs hP hD hS => ?_)
  refine lv_iload_n hx hb dX11_appendCharacter_5 rfl (lv_at hl 1 rfl) ?_
  refine lv_bipush (v := nI 33) hx hb dX11_appendCharacter_6 (by decide) ?_
  refine lv_bipush (v := nI 126) hx hb dX11_appendCharacter_8 (by decide) ?_
  refine vp_callSi (va_Run.run (va_runS (As := [.int (nI x), .int (nI 33), .int (nI 126)]) (rest := []) ⟨hx, hb, hml, hown, hts⟩ (c_X11_in l x 33 126 (by omega) (by decide) (by decide)) (va_cwS 3 hts gX11_appendCharacter_X11_in rfl rfl rfl (by decide +kernel) ⟨Nat.le_of_ble_eq_true rfl, Nat.le_of_ble_eq_true rfl⟩) okTS rfl rfl hl.1 rfl (lv_room (Nat.le_of_ble_eq_true rfl)) dX11_appendCharacter_10 ⟨Nat.le_of_ble_eq_true rfl, Nat.le_of_ble_eq_true rfl⟩)) (fun r_10 h_10 => ?_)
  subst h_10
  refine jn_bne hx hb (tgt := 22) dX11_appendCharacter_13 (by decide) (fun c_13 => ?_) (fun c_13 => ?_)
  · refine lv_aload_n hx hb dX11_appendCharacter_22 rfl (lv_at hl 0 rfl) ?_
    refine va_get (D := (g.1, g.2.1)) (ci := 13) (v := .int (nI (σ.1 3))) (C := RX11) (T := TX11) (N := 30) hx hb hts iX11 hown hK.1 hP 0 (gM0 g (sF σ 0 0) tl) rfl 7 (by decide) k33 (fun _ h9 => h9) rfl dX11_appendCharacter_23 ?_
    refine lv_bipush (v := nI 40) hx hb dX11_appendCharacter_26 (by decide) ?_
    refine jn_cne hx hb (by omega) (by decide) (tgt := 37) dX11_appendCharacter_28 (by decide) (fun c_28 => ?_) (fun c_28 => ?_)
    · refine lv_aload_n hx hb dX11_appendCharacter_37 rfl (lv_at hl 0 rfl) ?_
      refine va_get (D := (g.1, g.2.1)) (ci := 13) (v := .ref (g.2.2.2 4)) (C := RX11) (T := TX11) (N := 30) hx hb hts iX11 hown hK.1 hP 0 (gM0 g (sF σ 0 0) tl) rfl 6 (by decide) k30 (fun _ h9 => h9) rfl dX11_appendCharacter_38 ?_
      refine lv_aload_n hx hb dX11_appendCharacter_41 rfl (lv_at hl 0 rfl) ?_
      refine va_get (D := (g.1, g.2.1)) (ci := 13) (v := .int (nI (σ.1 3))) (C := RX11) (T := TX11) (N := 30) hx hb hts iX11 hown hK.1 hP 0 (gM0 g (sF σ 0 0) tl) rfl 7 (by decide) k33 (fun _ h9 => h9) rfl dX11_appendCharacter_42 ?_
      refine lv_iload_n hx hb dX11_appendCharacter_45 rfl (lv_at hl 1 rfl) ?_
      refine jn_iast (f := σ.2.1 3) hx hb hK.1 hP hD hS 4 0 (gM4 g (sF σ 0 0) tl) rfl (by omega) (Nat.le_of_ble_eq_true rfl) (uM_A3 g (sF σ 0 0) tl _) dX11_appendCharacter_46 (fun H locs hP hD hS => ?_)
      refine lv_aload_n hx hb dX11_appendCharacter_47 rfl (lv_at hl 0 rfl) ?_
      refine lv_dup hx hb dX11_appendCharacter_48 rfl ?_
      refine va_get (D := (g.1, g.2.1)) (ci := 13) (v := .int (nI (σ.1 3))) (C := RX11) (T := TX11) (N := 30) hx hb hts iX11 hown hK.1 hP 0 (gM0 g (sA (sF σ 0 0) 3 (va_up (σ.2.1 3) (σ.1 3) x)) tl) rfl 7 (by decide) k33 (fun _ h9 => h9) rfl dX11_appendCharacter_49 ?_
      refine lv_iconst (v := nI 1) hx hb dX11_appendCharacter_52 (by decide) ?_
      refine jn_iadd hx hb dX11_appendCharacter_53 ?_
      refine jn_put (D := (g.1, g.2.1)) (ci := 13) (v := .int (nI ((σ.1 3) + 1))) (ty := .int) (C := RX11) (T := TX11) (N := 30) hx hb hts iX11 tyX11 tyX11_ok nmX11 hown hK.1 hP hD hS 0 (gM0 g (sA (sF σ 0 0) 3 (va_up (σ.2.1 3) (σ.1 3) x)) tl) rfl 7 (by decide) k33 (fun _ h9 => h9) rfl (by decide +kernel) rfl rfl (Nat.le_of_ble_eq_true rfl) (uM_F3 g (sA (sF σ 0 0) 3 (va_up (σ.2.1 3) (σ.1 3) x)) tl ((σ.1 3) + 1)) dX11_appendCharacter_54 (fun H locs hP hD hS => ?_)
      refine lv_aload_n hx hb dX11_appendCharacter_57 rfl (lv_at hl 0 rfl) ?_
      refine va_get (D := (g.1, g.2.1)) (ci := 13) (v := .int (nI ((σ.1 3) + 1))) (C := RX11) (T := TX11) (N := 30) hx hb hts iX11 hown hK.1 hP 0 (gM0 g (sF (sA (sF σ 0 0) 3 (va_up (σ.2.1 3) (σ.1 3) x)) 3 ((σ.1 3) + 1)) tl) rfl 7 (by decide) k33 (fun _ h9 => h9) rfl dX11_appendCharacter_58 ?_
      exact hq _ _ _ _ ((nI ((σ.1 3) + 1))) (_, 0, ((σ.1 3) + 1), (va_up (σ.2.1 3) (σ.1 3) x)) dX11_appendCharacter_61 ⟨rfl, (Or.inr (Or.inr ⟨by omega, by omega, rfl, rfl, rfl, rfl⟩))⟩ hP hD hS
    · refine lv_aload_n hx hb dX11_appendCharacter_31 rfl (lv_at hl 0 rfl) ?_
      refine lv_iconst (v := nI 2) hx hb dX11_appendCharacter_32 (by decide) ?_
      refine jn_calli (va_runV (As := [.int (nI 2)]) (rest := []) ⟨hx, hb, hml, hown, hts⟩ (c_X11_fails l g tl H.size (sF σ 0 0) 2) (cwV 1 hts gX11_appendCharacter_X11_fails rfl rfl rfl (by decide +kernel) ⟨Nat.le_of_ble_eq_true rfl, Nat.le_of_ble_eq_true rfl⟩) (okWV hK hP hD rfl (gM0 g (sF σ 0 0) tl)) rfl rfl hl.1 rfl (lv_room (Nat.le_of_ble_eq_true rfl)) dX11_appendCharacter_33 ⟨Nat.le_of_ble_eq_true rfl, Nat.le_of_ble_eq_true rfl⟩) hD hS hAA (fun r_33 u H locs hw_ hP hD hS => ?_)
      obtain rfl := hw_
      have hP : va_P (g.1, g.2.1) vwCl (wM g (sF (sF σ 0 0) 0 2) ++ tl) H := hP
      have hD : va_D A (wM g (sF (sF σ 0 0) 0 2) ++ tl) := hD
      exact hq _ _ _ _ ((nI 0)) (0, 2, (σ.1 3), (σ.2.1 3)) dX11_appendCharacter_36 ⟨rfl, (Or.inr (Or.inl ⟨by omega, by omega, rfl, rfl, rfl⟩))⟩ hP hD hS
  · refine lv_aload_n hx hb dX11_appendCharacter_16 rfl (lv_at hl 0 rfl) ?_
    refine lv_iconst (v := nI 1) hx hb dX11_appendCharacter_17 (by decide) ?_
    refine jn_calli (va_runV (As := [.int (nI 1)]) (rest := []) ⟨hx, hb, hml, hown, hts⟩ (c_X11_fails l g tl H.size (sF σ 0 0) 1) (cwV 1 hts gX11_appendCharacter_X11_fails rfl rfl rfl (by decide +kernel) ⟨Nat.le_of_ble_eq_true rfl, Nat.le_of_ble_eq_true rfl⟩) (okWV hK hP hD rfl (gM0 g (sF σ 0 0) tl)) rfl rfl hl.1 rfl (lv_room (Nat.le_of_ble_eq_true rfl)) dX11_appendCharacter_18 ⟨Nat.le_of_ble_eq_true rfl, Nat.le_of_ble_eq_true rfl⟩) hD hS hAA (fun r_18 u H locs hw_ hP hD hS => ?_)
    obtain rfl := hw_
    have hP : va_P (g.1, g.2.1) vwCl (wM g (sF (sF σ 0 0) 0 1) ++ tl) H := hP
    have hD : va_D A (wM g (sF (sF σ 0 0) 0 1) ++ tl) := hD
    exact hq _ _ _ _ ((nI 0)) (0, 1, (σ.1 3), (σ.2.1 3)) dX11_appendCharacter_21 ⟨rfl, (Or.inl ⟨by omega, rfl, rfl, rfl⟩)⟩ hP hD hS

abbrev r_c_X11_addTransition : Room := { frames := 2, cells := 0, slots := 0, locals := 44 }
set_option maxHeartbeats 4000000 in
set_option maxRecDepth 100000 in
theorem c_X11_addTransition (l : Launch) (g : GC) (tl : va_W) (sz : Nat) (σ : SS) (a b c2 : Nat) (hT : OkT (σ.2.1 0)) (hc8 : (σ.1 1) ≤ 8) (ha : a < 4294967296) (hb2 : b < 4294967296) (hc : c2 < 4294967296) : Met l yX11_addTransition wsX11_addTransition r_c_X11_addTransition (va_Pc [.ref (g.2.2.2 0), .int (nI a), .int (nI b), .int (nI c2)] (PW g (wM g σ ++ tl) sz)) (va_Qi (fun (r : Int32) (z : Nat × Nat × Nat × (Nat → Nat) × (Nat → Nat)) => match z with | (r0, th, ch, nw, kp) => (r = nI (r0)) ∧ ((¬ (a < 5 ∧ b < 3 ∧ c2 < 5) ∧ th = 1 ∧ ch = (σ.1 1) ∧ nw = (σ.2.1 0) ∧ kp = (σ.2.1 2)) ∨ ((a < 5 ∧ b < 3 ∧ c2 < 5) ∧ ¬ Nat.testBit ((σ.2.1 0) (a * 3 + b)) c2 = true ∧ cntT (σ.2.1 0) = 15 ∧ th = 2 ∧ ch = (σ.1 1) ∧ nw = (σ.2.1 0) ∧ kp = (σ.2.1 2)) ∨ ((a < 5 ∧ b < 3 ∧ c2 < 5) ∧ (Nat.testBit ((σ.2.1 0) (a * 3 + b)) c2 = true ∨ cntT (σ.2.1 0) ≠ 15) ∧ th = 0 ∧ KpO (σ.2.1 2) (σ.2.1 0) (σ.1 1) kp ∧ ch = min ((σ.1 1) + 1) 8 ∧ nw = va_up (σ.2.1 0) (3 * a + b) ((σ.2.1 0) (3 * a + b) ||| 2 ^ c2) ∧ r0 = if ¬ Nat.testBit ((σ.2.1 0) (a * 3 + b)) c2 = true then 1 else 0))) (fun (z : Nat × Nat × Nat × (Nat → Nat) × (Nat → Nat)) t => BW g (va_A (wM g σ ++ tl) sz) ((fun z : Nat × Nat × Nat × (Nat → Nat) × (Nat → Nat) => match z with | (r0, th, ch, nw, kp) => wM g (sA (sA (sF (sF σ 0 th) 1 ch) 0 nw) 2 kp) ++ tl) z) t) (va_A (wM g σ ++ tl) sz)) 0 0 (va_A (wM g σ ++ tl) sz) := by
  refine jn_sz (wf := fun z : Nat × Nat × Nat × (Nat → Nat) × (Nat → Nat) => match z with | (r0, th, ch, nw, kp) => wM g (sA (sA (sF (sF σ 0 th) 1 ch) 0 nw) 2 kp) ++ tl) (cc := cX11_addTransition) (maxL := 5) (own := RX11) (by decide) rfl rfl (Nat.le_of_ble_eq_true rfl) ?_
  intro p e s m below meth c Q A hx hb hml hown hts hK hP hD hS hAA hq ls hl
  obtain ⟨H, eH⟩ : ∃ z, z = s.heap := ⟨_, rfl⟩
  obtain ⟨locs, el⟩ : ∃ z : List Loc, z = [] := ⟨_, rfl⟩
  rw [← eH] at hP
  have hS : va_S A s.heap H locs := by rw [eH, el]; exact hS
  have goal0 : W p l e r_c_X11_addTransition s m ([.ref (g.2.2.2 0), .int (nI a), .int (nI b), .int (nI c2)] : List Value).toArray below meth c H locs 0 0 Q (F0 m 0 ls []) → W p l e r_c_X11_addTransition s m ([.ref (g.2.2.2 0), .int (nI a), .int (nI b), .int (nI c2)] : List Value).toArray below meth c s.heap [] 0 0 Q (F0 m 0 ls []) := fun h => by rw [eH, el] at h; exact h
  refine goal0 ?_
  have hl : lv_has ls 5 [(0, .ref (g.2.2.2 0)), (1, .int (nI a)), (2, .int (nI b)), (3, .int (nI c2))] := hl
  have iX11 : ∀ w ∈ wsX110, w ∈ wsX11_addTransition := by decide +kernel
  have k1 := hts (.fieldLink RX11 1 "JumpingAutomataModel" "thrown" "I") (by decide +kernel)
  have k13 := hts (.fieldLink RX11 13 "JumpingAutomataModel" "now" "[I") (by decide +kernel)
  refine lv_aload_n hx hb dX11_addTransition_0 rfl (lv_at hl 0 rfl) ?_
  refine lv_iconst (v := nI 0) hx hb dX11_addTransition_1 (by decide) ?_
  refine jn_put (D := (g.1, g.2.1)) (ci := 13) (v := .int (nI 0)) (ty := .int) (C := RX11) (T := TX11) (N := 30) hx hb hts iX11 tyX11 tyX11_ok nmX11 hown hK.1 hP hD hS 0 (gM0 g σ tl) rfl 0 (by decide) k1 (fun _ h9 => h9) rfl (by decide +kernel) rfl rfl (Nat.le_of_ble_eq_true rfl) (uM_F0 g σ tl 0) dX11_addTransition_2 (fun H locs hP hD hS => ?_)
  refine lv_iload_n hx hb dX11_addTransition_5 rfl (lv_at hl 1 rfl) ?_
  refine vp_callSi (va_Run.run (va_runS (As := [.int (nI a)]) (rest := []) ⟨hx, hb, hml, hown, hts⟩ (c_X11_isState l a ha) (va_cwS 1 hts gX11_addTransition_X11_isState rfl rfl rfl (by decide +kernel) ⟨Nat.le_of_ble_eq_true rfl, Nat.le_of_ble_eq_true rfl⟩) okTS rfl rfl hl.1 rfl (lv_room (Nat.le_of_ble_eq_true rfl)) dX11_addTransition_6 ⟨Nat.le_of_ble_eq_true rfl, Nat.le_of_ble_eq_true rfl⟩)) (fun r_6 h_6 => ?_)
  subst h_6
  refine jn_beq hx hb (tgt := 26) dX11_addTransition_9 (by decide) (fun c_9 => ?_) (fun c_9 => ?_)
  · refine lv_aload_n hx hb dX11_addTransition_26 rfl (lv_at hl 0 rfl) ?_
    refine lv_iconst (v := nI 1) hx hb dX11_addTransition_27 (by decide) ?_
    refine jn_calli (va_runV (As := [.int (nI 1)]) (rest := []) ⟨hx, hb, hml, hown, hts⟩ (c_X11_fails l g tl H.size (sF σ 0 0) 1) (cwV 1 hts gX11_addTransition_X11_fails rfl rfl rfl (by decide +kernel) ⟨Nat.le_of_ble_eq_true rfl, Nat.le_of_ble_eq_true rfl⟩) (okWV hK hP hD rfl (gM0 g (sF σ 0 0) tl)) rfl rfl hl.1 rfl (lv_room (Nat.le_of_ble_eq_true rfl)) dX11_addTransition_28 ⟨Nat.le_of_ble_eq_true rfl, Nat.le_of_ble_eq_true rfl⟩) hD hS hAA (fun r_28 u H locs hw_ hP hD hS => ?_)
    obtain rfl := hw_
    have hP : va_P (g.1, g.2.1) vwCl (wM g (sF (sF σ 0 0) 0 1) ++ tl) H := hP
    have hD : va_D A (wM g (sF (sF σ 0 0) 0 1) ++ tl) := hD
    refine jn_zle hx hb (by decide) (tgt := 38) dX11_addTransition_31 (by decide) (fun c_31 => ?_) (fun c_31 => absurd c_31 (by omega))
    refine lv_iconst (v := nI 0) hx hb dX11_addTransition_38 (by decide) ?_
    exact hq _ _ _ _ ((nI 0)) (0, 1, (σ.1 1), (σ.2.1 0), (σ.2.1 2)) dX11_addTransition_39 jn_n0 ⟨rfl, (Or.inl ⟨by omega, rfl, rfl, rfl, rfl⟩)⟩ hP hD hS
  · refine lv_iload_n hx hb dX11_addTransition_12 rfl (lv_at hl 2 rfl) ?_
    refine vp_callSi (va_Run.run (va_runS (As := [.int (nI b)]) (rest := []) ⟨hx, hb, hml, hown, hts⟩ (c_X11_isLetter l b hb2) (va_cwS 1 hts gX11_addTransition_X11_isLetter rfl rfl rfl (by decide +kernel) ⟨Nat.le_of_ble_eq_true rfl, Nat.le_of_ble_eq_true rfl⟩) okTS rfl rfl hl.1 rfl (lv_room (Nat.le_of_ble_eq_true rfl)) dX11_addTransition_13 ⟨Nat.le_of_ble_eq_true rfl, Nat.le_of_ble_eq_true rfl⟩)) (fun r_13 h_13 => ?_)
    subst h_13
    refine jn_beq hx hb (tgt := 26) dX11_addTransition_16 (by decide) (fun c_16 => ?_) (fun c_16 => ?_)
    · refine lv_aload_n hx hb dX11_addTransition_26 rfl (lv_at hl 0 rfl) ?_
      refine lv_iconst (v := nI 1) hx hb dX11_addTransition_27 (by decide) ?_
      refine jn_calli (va_runV (As := [.int (nI 1)]) (rest := []) ⟨hx, hb, hml, hown, hts⟩ (c_X11_fails l g tl H.size (sF σ 0 0) 1) (cwV 1 hts gX11_addTransition_X11_fails rfl rfl rfl (by decide +kernel) ⟨Nat.le_of_ble_eq_true rfl, Nat.le_of_ble_eq_true rfl⟩) (okWV hK hP hD rfl (gM0 g (sF σ 0 0) tl)) rfl rfl hl.1 rfl (lv_room (Nat.le_of_ble_eq_true rfl)) dX11_addTransition_28 ⟨Nat.le_of_ble_eq_true rfl, Nat.le_of_ble_eq_true rfl⟩) hD hS hAA (fun r_28 u H locs hw_ hP hD hS => ?_)
      obtain rfl := hw_
      have hP : va_P (g.1, g.2.1) vwCl (wM g (sF (sF σ 0 0) 0 1) ++ tl) H := hP
      have hD : va_D A (wM g (sF (sF σ 0 0) 0 1) ++ tl) := hD
      refine jn_zle hx hb (by decide) (tgt := 38) dX11_addTransition_31 (by decide) (fun c_31 => ?_) (fun c_31 => absurd c_31 (by omega))
      refine lv_iconst (v := nI 0) hx hb dX11_addTransition_38 (by decide) ?_
      exact hq _ _ _ _ ((nI 0)) (0, 1, (σ.1 1), (σ.2.1 0), (σ.2.1 2)) dX11_addTransition_39 jn_n0 ⟨rfl, (Or.inl ⟨by omega, rfl, rfl, rfl, rfl⟩)⟩ hP hD hS
    · refine lv_iload_n hx hb dX11_addTransition_19 rfl (lv_at hl 3 rfl) ?_
      refine vp_callSi (va_Run.run (va_runS (As := [.int (nI c2)]) (rest := []) ⟨hx, hb, hml, hown, hts⟩ (c_X11_isState l c2 hc) (va_cwS 1 hts gX11_addTransition_X11_isState rfl rfl rfl (by decide +kernel) ⟨Nat.le_of_ble_eq_true rfl, Nat.le_of_ble_eq_true rfl⟩) okTS rfl rfl hl.1 rfl (lv_room (Nat.le_of_ble_eq_true rfl)) dX11_addTransition_20 ⟨Nat.le_of_ble_eq_true rfl, Nat.le_of_ble_eq_true rfl⟩)) (fun r_20 h_20 => ?_)
      subst h_20
      refine jn_bne hx hb (tgt := 40) dX11_addTransition_23 (by decide) (fun c_23 => ?_) (fun c_23 => ?_)
      · refine lv_aload_n hx hb dX11_addTransition_40 rfl (lv_at hl 0 rfl) ?_
        refine lv_iload_n hx hb dX11_addTransition_41 rfl (lv_at hl 1 rfl) ?_
        refine lv_iload_n hx hb dX11_addTransition_42 rfl (lv_at hl 2 rfl) ?_
        refine vp_callSi (va_Run.run (va_runV (As := [.int (nI a), .int (nI b)]) (rest := []) ⟨hx, hb, hml, hown, hts⟩ (c_X11_next l g tl (sF σ 0 0) a b c_9 c_16) (cwV 2 hts gX11_addTransition_X11_next rfl rfl rfl (by decide +kernel) ⟨Nat.le_of_ble_eq_true rfl, Nat.le_of_ble_eq_true rfl⟩) (okPV hK hP rfl (gM0 g (sF σ 0 0) tl)) rfl rfl hl.1 rfl (lv_room (Nat.le_of_ble_eq_true rfl)) dX11_addTransition_43 ⟨Nat.le_of_ble_eq_true rfl, Nat.le_of_ble_eq_true rfl⟩)) (fun r_43 h_43 => ?_)
        have h_43 : r_43 = (nI ((σ.2.1 0) (a * 3 + b))) := h_43
        subst h_43
        refine lv_iload_n hx hb dX11_addTransition_46 rfl (lv_at hl 3 rfl) ?_
        refine vp_callSi (va_Run.run (va_runS (As := [.int (nI ((σ.2.1 0) (a * 3 + b))), .int (nI c2)]) (rest := []) ⟨hx, hb, hml, hown, hts⟩ (c_X11_has l ((σ.2.1 0) (a * 3 + b)) c2 (Nat.lt_trans (hT _ (by omega)) (by decide)) (by omega)) (va_cwS 2 hts gX11_addTransition_X11_has rfl rfl rfl (by decide +kernel) ⟨Nat.le_of_ble_eq_true rfl, Nat.le_of_ble_eq_true rfl⟩) okTS rfl rfl hl.1 rfl (lv_room (Nat.le_of_ble_eq_true rfl)) dX11_addTransition_47 ⟨Nat.le_of_ble_eq_true rfl, Nat.le_of_ble_eq_true rfl⟩)) (fun r_47 h_47 => ?_)
        subst h_47
        have jp58 : ∀ v58 : Nat, v58 = (if ¬ Nat.testBit ((σ.2.1 0) (a * 3 + b)) c2 = true then 1 else 0) → W p l e r_c_X11_addTransition s m ([.ref (g.2.2.2 0), .int (nI a), .int (nI b), .int (nI c2)] : List Value).toArray below meth c H locs 0 0 Q (F0 m 58 ls [.int (nI v58)]) := by
          intro v58 ev58
          have v2 : v58 < 2 := by rw [ev58]; split <;> decide
          have hcl := cntT_le hT
          refine lv_istore (lv' := [(4, .int (nI v58)), (0, .ref (g.2.2.2 0)), (1, .int (nI a)), (2, .int (nI b)), (3, .int (nI c2))]) hx hb dX11_addTransition_58 hl (by decide) rfl (fun ls hl => ?_)
          refine lv_iload hx hb dX11_addTransition_60 (lv_at hl 0 rfl) ?_
          refine jn_zeq hx hb (by omega) (tgt := 88) dX11_addTransition_62 (by decide) (fun c_62 => ?_) (fun c_62 => ?_)
          · have hor : Nat.testBit ((σ.2.1 0) (a * 3 + b)) c2 = true ∨ cntT (σ.2.1 0) ≠ 15 := Or.inl (Classical.not_not.mp (fun q => by rw [if_pos q] at ev58; omega))
            refine lv_aload_n hx hb dX11_addTransition_88 rfl (lv_at hl 1 rfl) ?_
            refine jn_callv (va_runV (As := []) (rest := []) ⟨hx, hb, hml, hown, hts⟩ (c_X11_keeps l g tl H.size (sF σ 0 0) hc8) (cwV 0 hts gX11_addTransition_X11_keeps rfl rfl rfl (by decide +kernel) ⟨Nat.le_of_ble_eq_true rfl, Nat.le_of_ble_eq_true rfl⟩) (okWV hK hP hD rfl (gM0 g (sF σ 0 0) tl)) rfl rfl hl.1 rfl (lv_room (Nat.le_of_ble_eq_true rfl)) dX11_addTransition_89 ⟨Nat.le_of_ble_eq_true rfl, Nat.le_of_ble_eq_true rfl⟩) hD hS hAA (fun u H locs hw_ hP hD hS => ?_)
            obtain ⟨kp_89, ch_89⟩ := u
            have h_89 := hw_
            have h_89 : (KpO (σ.2.1 2) (σ.2.1 0) (σ.1 1) kp_89) ∧ (ch_89 = min ((σ.1 1) + 1) 8) := h_89
            have hP : va_P (g.1, g.2.1) vwCl (wM g (sA (sF (sF σ 0 0) 1 ch_89) 2 kp_89) ++ tl) H := hP
            have hD : va_D A (wM g (sA (sF (sF σ 0 0) 1 ch_89) 2 kp_89) ++ tl) := hD
            refine lv_aload_n hx hb dX11_addTransition_92 rfl (lv_at hl 1 rfl) ?_
            refine va_get (D := (g.1, g.2.1)) (ci := 13) (v := .ref (g.2.2.2 1)) (C := RX11) (T := TX11) (N := 30) hx hb hts iX11 hown hK.1 hP 0 (gM0 g (sA (sF (sF σ 0 0) 1 ch_89) 2 kp_89) tl) rfl 1 (by decide) k13 (fun _ h9 => h9) rfl dX11_addTransition_93 ?_
            refine lv_iconst (v := nI 3) hx hb dX11_addTransition_96 (by decide) ?_
            refine lv_iload_n hx hb dX11_addTransition_97 rfl (lv_at hl 2 rfl) ?_
            refine jn_imul hx hb dX11_addTransition_98 ?_
            refine lv_iload_n hx hb dX11_addTransition_99 rfl (lv_at hl 3 rfl) ?_
            refine jn_iadd hx hb dX11_addTransition_100 ?_
            refine lv_dup2_11 hx hb dX11_addTransition_101 rfl rfl ?_
            refine jn_iald (f := σ.2.1 0) hx hb hK.1 hP 1 0 (gM1 g (sA (sF (sF σ 0 0) 1 ch_89) 2 kp_89) tl) rfl (by omega) (Nat.le_of_ble_eq_true rfl) dX11_addTransition_102 ?_
            refine lv_iconst (v := nI 1) hx hb dX11_addTransition_103 (by decide) ?_
            refine lv_iload_n hx hb dX11_addTransition_104 rfl (lv_at hl 4 rfl) ?_
            refine jn_shl1 hx hb (by omega) dX11_addTransition_105 ?_
            refine jn_ior hx hb dX11_addTransition_106 ?_
            refine jn_iast (f := σ.2.1 0) hx hb hK.1 hP hD hS 1 0 (gM1 g (sA (sF (sF σ 0 0) 1 ch_89) 2 kp_89) tl) rfl (by omega) (Nat.le_of_ble_eq_true rfl) (uM_A0 g (sA (sF (sF σ 0 0) 1 ch_89) 2 kp_89) tl _) dX11_addTransition_107 (fun H locs hP hD hS => ?_)
            refine lv_iload hx hb dX11_addTransition_108 (lv_at hl 0 rfl) ?_
            exact hq _ _ _ _ ((nI v58)) (_, 0, ch_89, (va_up (σ.2.1 0) ((3 * a) + b) (((σ.2.1 0) ((3 * a) + b)) ||| (2 ^ c2))), kp_89) dX11_addTransition_110 (by rw [ev58]; exact jn_nb _) ⟨rfl, (Or.inr (Or.inr ⟨⟨c_9, c_16, c_23⟩, hor, rfl, h_89.1, h_89.2, rfl, ev58⟩))⟩ hP hD hS
          · have hnb : ¬ Nat.testBit ((σ.2.1 0) (a * 3 + b)) c2 = true := fun q => by rw [if_neg (fun z => z q)] at ev58; omega
            refine lv_aload_n hx hb dX11_addTransition_65 rfl (lv_at hl 1 rfl) ?_
            refine vp_callSi (va_Run.run (va_runV (As := []) (rest := []) ⟨hx, hb, hml, hown, hts⟩ (c_X11_transitionCount l g tl (sF σ 0 0) hT) (cwV 0 hts gX11_addTransition_X11_transitionCount rfl rfl rfl (by decide +kernel) ⟨Nat.le_of_ble_eq_true rfl, Nat.le_of_ble_eq_true rfl⟩) (okPV hK hP rfl (gM0 g (sF σ 0 0) tl)) rfl rfl hl.1 rfl (lv_room (Nat.le_of_ble_eq_true rfl)) dX11_addTransition_66 ⟨Nat.le_of_ble_eq_true rfl, Nat.le_of_ble_eq_true rfl⟩)) (fun r_66 h_66 => ?_)
            have h_66 : r_66 = (nI (cntT (σ.2.1 0))) := h_66
            subst h_66
            refine lv_bipush (v := nI 15) hx hb dX11_addTransition_69 (by decide) ?_
            refine jn_cne hx hb (by omega) (by decide) (tgt := 88) dX11_addTransition_71 (by decide) (fun c_71 => ?_) (fun c_71 => ?_)
            · have hor : Nat.testBit ((σ.2.1 0) (a * 3 + b)) c2 = true ∨ cntT (σ.2.1 0) ≠ 15 := Or.inr c_71
              refine lv_aload_n hx hb dX11_addTransition_88 rfl (lv_at hl 1 rfl) ?_
              refine jn_callv (va_runV (As := []) (rest := []) ⟨hx, hb, hml, hown, hts⟩ (c_X11_keeps l g tl H.size (sF σ 0 0) hc8) (cwV 0 hts gX11_addTransition_X11_keeps rfl rfl rfl (by decide +kernel) ⟨Nat.le_of_ble_eq_true rfl, Nat.le_of_ble_eq_true rfl⟩) (okWV hK hP hD rfl (gM0 g (sF σ 0 0) tl)) rfl rfl hl.1 rfl (lv_room (Nat.le_of_ble_eq_true rfl)) dX11_addTransition_89 ⟨Nat.le_of_ble_eq_true rfl, Nat.le_of_ble_eq_true rfl⟩) hD hS hAA (fun u H locs hw_ hP hD hS => ?_)
              obtain ⟨kp_89, ch_89⟩ := u
              have h_89 := hw_
              have h_89 : (KpO (σ.2.1 2) (σ.2.1 0) (σ.1 1) kp_89) ∧ (ch_89 = min ((σ.1 1) + 1) 8) := h_89
              have hP : va_P (g.1, g.2.1) vwCl (wM g (sA (sF (sF σ 0 0) 1 ch_89) 2 kp_89) ++ tl) H := hP
              have hD : va_D A (wM g (sA (sF (sF σ 0 0) 1 ch_89) 2 kp_89) ++ tl) := hD
              refine lv_aload_n hx hb dX11_addTransition_92 rfl (lv_at hl 1 rfl) ?_
              refine va_get (D := (g.1, g.2.1)) (ci := 13) (v := .ref (g.2.2.2 1)) (C := RX11) (T := TX11) (N := 30) hx hb hts iX11 hown hK.1 hP 0 (gM0 g (sA (sF (sF σ 0 0) 1 ch_89) 2 kp_89) tl) rfl 1 (by decide) k13 (fun _ h9 => h9) rfl dX11_addTransition_93 ?_
              refine lv_iconst (v := nI 3) hx hb dX11_addTransition_96 (by decide) ?_
              refine lv_iload_n hx hb dX11_addTransition_97 rfl (lv_at hl 2 rfl) ?_
              refine jn_imul hx hb dX11_addTransition_98 ?_
              refine lv_iload_n hx hb dX11_addTransition_99 rfl (lv_at hl 3 rfl) ?_
              refine jn_iadd hx hb dX11_addTransition_100 ?_
              refine lv_dup2_11 hx hb dX11_addTransition_101 rfl rfl ?_
              refine jn_iald (f := σ.2.1 0) hx hb hK.1 hP 1 0 (gM1 g (sA (sF (sF σ 0 0) 1 ch_89) 2 kp_89) tl) rfl (by omega) (Nat.le_of_ble_eq_true rfl) dX11_addTransition_102 ?_
              refine lv_iconst (v := nI 1) hx hb dX11_addTransition_103 (by decide) ?_
              refine lv_iload_n hx hb dX11_addTransition_104 rfl (lv_at hl 4 rfl) ?_
              refine jn_shl1 hx hb (by omega) dX11_addTransition_105 ?_
              refine jn_ior hx hb dX11_addTransition_106 ?_
              refine jn_iast (f := σ.2.1 0) hx hb hK.1 hP hD hS 1 0 (gM1 g (sA (sF (sF σ 0 0) 1 ch_89) 2 kp_89) tl) rfl (by omega) (Nat.le_of_ble_eq_true rfl) (uM_A0 g (sA (sF (sF σ 0 0) 1 ch_89) 2 kp_89) tl _) dX11_addTransition_107 (fun H locs hP hD hS => ?_)
              refine lv_iload hx hb dX11_addTransition_108 (lv_at hl 0 rfl) ?_
              exact hq _ _ _ _ ((nI v58)) (_, 0, ch_89, (va_up (σ.2.1 0) ((3 * a) + b) (((σ.2.1 0) ((3 * a) + b)) ||| (2 ^ c2))), kp_89) dX11_addTransition_110 (by rw [ev58]; exact jn_nb _) ⟨rfl, (Or.inr (Or.inr ⟨⟨c_9, c_16, c_23⟩, hor, rfl, h_89.1, h_89.2, rfl, ev58⟩))⟩ hP hD hS
            · refine lv_aload_n hx hb dX11_addTransition_74 rfl (lv_at hl 1 rfl) ?_
              refine lv_iconst (v := nI 2) hx hb dX11_addTransition_75 (by decide) ?_
              refine jn_calli (va_runV (As := [.int (nI 2)]) (rest := []) ⟨hx, hb, hml, hown, hts⟩ (c_X11_fails l g tl H.size (sF σ 0 0) 2) (cwV 1 hts gX11_addTransition_X11_fails rfl rfl rfl (by decide +kernel) ⟨Nat.le_of_ble_eq_true rfl, Nat.le_of_ble_eq_true rfl⟩) (okWV hK hP hD rfl (gM0 g (sF σ 0 0) tl)) rfl rfl hl.1 rfl (lv_room (Nat.le_of_ble_eq_true rfl)) dX11_addTransition_76 ⟨Nat.le_of_ble_eq_true rfl, Nat.le_of_ble_eq_true rfl⟩) hD hS hAA (fun r_76 u H locs hw_ hP hD hS => ?_)
              obtain rfl := hw_
              have hP : va_P (g.1, g.2.1) vwCl (wM g (sF (sF σ 0 0) 0 2) ++ tl) H := hP
              have hD : va_D A (wM g (sF (sF σ 0 0) 0 2) ++ tl) := hD
              refine jn_zle hx hb (by decide) (tgt := 86) dX11_addTransition_79 (by decide) (fun c_79 => ?_) (fun c_79 => absurd c_79 (by omega))
              refine lv_iconst (v := nI 0) hx hb dX11_addTransition_86 (by decide) ?_
              exact hq _ _ _ _ ((nI 0)) (0, 2, (σ.1 1), (σ.2.1 0), (σ.2.1 2)) dX11_addTransition_87 jn_n0 ⟨rfl, (Or.inr (Or.inl ⟨⟨c_9, c_16, c_23⟩, hnb, by omega, rfl, rfl, rfl, rfl⟩))⟩ hP hD hS
        refine jn_bne hx hb (tgt := 57) dX11_addTransition_50 (by decide) (fun c_50 => ?_) (fun c_50 => ?_)
        · refine lv_iconst (v := nI 0) hx hb dX11_addTransition_57 (by decide) ?_
          exact jp58 0 (by rw [if_neg (fun q => q c_50)])
        · refine lv_iconst (v := nI 1) hx hb dX11_addTransition_53 (by decide) ?_
          refine lv_goto (tgt := 58) hx hb dX11_addTransition_54 (by decide) ?_
          exact jp58 1 (by rw [if_pos c_50])
      · refine lv_aload_n hx hb dX11_addTransition_26 rfl (lv_at hl 0 rfl) ?_
        refine lv_iconst (v := nI 1) hx hb dX11_addTransition_27 (by decide) ?_
        refine jn_calli (va_runV (As := [.int (nI 1)]) (rest := []) ⟨hx, hb, hml, hown, hts⟩ (c_X11_fails l g tl H.size (sF σ 0 0) 1) (cwV 1 hts gX11_addTransition_X11_fails rfl rfl rfl (by decide +kernel) ⟨Nat.le_of_ble_eq_true rfl, Nat.le_of_ble_eq_true rfl⟩) (okWV hK hP hD rfl (gM0 g (sF σ 0 0) tl)) rfl rfl hl.1 rfl (lv_room (Nat.le_of_ble_eq_true rfl)) dX11_addTransition_28 ⟨Nat.le_of_ble_eq_true rfl, Nat.le_of_ble_eq_true rfl⟩) hD hS hAA (fun r_28 u H locs hw_ hP hD hS => ?_)
        obtain rfl := hw_
        have hP : va_P (g.1, g.2.1) vwCl (wM g (sF (sF σ 0 0) 0 1) ++ tl) H := hP
        have hD : va_D A (wM g (sF (sF σ 0 0) 0 1) ++ tl) := hD
        refine jn_zle hx hb (by decide) (tgt := 38) dX11_addTransition_31 (by decide) (fun c_31 => ?_) (fun c_31 => absurd c_31 (by omega))
        refine lv_iconst (v := nI 0) hx hb dX11_addTransition_38 (by decide) ?_
        exact hq _ _ _ _ ((nI 0)) (0, 1, (σ.1 1), (σ.2.1 0), (σ.2.1 2)) dX11_addTransition_39 jn_n0 ⟨rfl, (Or.inl ⟨by omega, rfl, rfl, rfl, rfl⟩)⟩ hP hD hS

abbrev r_c_X11_removeTransition : Room := { frames := 2, cells := 0, slots := 0, locals := 42 }
set_option maxHeartbeats 4000000 in
set_option maxRecDepth 100000 in
theorem c_X11_removeTransition (l : Launch) (g : GC) (tl : va_W) (sz : Nat) (σ : SS) (a b c2 : Nat) (hT : OkT (σ.2.1 0)) (hc8 : (σ.1 1) ≤ 8) (ha : a < 4294967296) (hb2 : b < 4294967296) (hc : c2 < 4294967296) : Met l yX11_removeTransition wsX11_removeTransition r_c_X11_removeTransition (va_Pc [.ref (g.2.2.2 0), .int (nI a), .int (nI b), .int (nI c2)] (PW g (wM g σ ++ tl) sz)) (va_Qv (fun (z : Nat × Nat × (Nat → Nat) × (Nat → Nat)) => match z with | (th, ch, nw, kp) => (¬ (a < 5 ∧ b < 3 ∧ c2 < 5) ∧ th = 1 ∧ ch = (σ.1 1) ∧ nw = (σ.2.1 0) ∧ kp = (σ.2.1 2)) ∨ ((a < 5 ∧ b < 3 ∧ c2 < 5) ∧ ¬ Nat.testBit ((σ.2.1 0) (a * 3 + b)) c2 = true ∧ th = 2 ∧ ch = (σ.1 1) ∧ nw = (σ.2.1 0) ∧ kp = (σ.2.1 2)) ∨ ((a < 5 ∧ b < 3 ∧ c2 < 5) ∧ Nat.testBit ((σ.2.1 0) (a * 3 + b)) c2 = true ∧ th = 0 ∧ KpO (σ.2.1 2) (σ.2.1 0) (σ.1 1) kp ∧ ch = min ((σ.1 1) + 1) 8 ∧ nw = va_up (σ.2.1 0) (3 * a + b) ((σ.2.1 0) (3 * a + b) &&& (2 ^ c2 ^^^ 4294967295)))) (fun (z : Nat × Nat × (Nat → Nat) × (Nat → Nat)) t => BW g (va_A (wM g σ ++ tl) sz) ((fun z : Nat × Nat × (Nat → Nat) × (Nat → Nat) => match z with | (th, ch, nw, kp) => wM g (sA (sA (sF (sF σ 0 th) 1 ch) 0 nw) 2 kp) ++ tl) z) t) (va_A (wM g σ ++ tl) sz)) 0 0 (va_A (wM g σ ++ tl) sz) := by
  refine jn_sv (wf := fun z : Nat × Nat × (Nat → Nat) × (Nat → Nat) => match z with | (th, ch, nw, kp) => wM g (sA (sA (sF (sF σ 0 th) 1 ch) 0 nw) 2 kp) ++ tl) (cc := cX11_removeTransition) (maxL := 4) (own := RX11) (by decide) rfl rfl (Nat.le_of_ble_eq_true rfl) ?_
  intro p e s m below meth c Q A hx hb hml hown hts hK hP hD hS hAA hq ls hl
  obtain ⟨H, eH⟩ : ∃ z, z = s.heap := ⟨_, rfl⟩
  obtain ⟨locs, el⟩ : ∃ z : List Loc, z = [] := ⟨_, rfl⟩
  rw [← eH] at hP
  have hS : va_S A s.heap H locs := by rw [eH, el]; exact hS
  have goal0 : W p l e r_c_X11_removeTransition s m ([.ref (g.2.2.2 0), .int (nI a), .int (nI b), .int (nI c2)] : List Value).toArray below meth c H locs 0 0 Q (F0 m 0 ls []) → W p l e r_c_X11_removeTransition s m ([.ref (g.2.2.2 0), .int (nI a), .int (nI b), .int (nI c2)] : List Value).toArray below meth c s.heap [] 0 0 Q (F0 m 0 ls []) := fun h => by rw [eH, el] at h; exact h
  refine goal0 ?_
  have hl : lv_has ls 4 [(0, .ref (g.2.2.2 0)), (1, .int (nI a)), (2, .int (nI b)), (3, .int (nI c2))] := hl
  have iX11 : ∀ w ∈ wsX110, w ∈ wsX11_removeTransition := by decide +kernel
  have k1 := hts (.fieldLink RX11 1 "JumpingAutomataModel" "thrown" "I") (by decide +kernel)
  have k13 := hts (.fieldLink RX11 13 "JumpingAutomataModel" "now" "[I") (by decide +kernel)
  refine lv_aload_n hx hb dX11_removeTransition_0 rfl (lv_at hl 0 rfl) ?_
  refine lv_iconst (v := nI 0) hx hb dX11_removeTransition_1 (by decide) ?_
  refine jn_put (D := (g.1, g.2.1)) (ci := 13) (v := .int (nI 0)) (ty := .int) (C := RX11) (T := TX11) (N := 30) hx hb hts iX11 tyX11 tyX11_ok nmX11 hown hK.1 hP hD hS 0 (gM0 g σ tl) rfl 0 (by decide) k1 (fun _ h9 => h9) rfl (by decide +kernel) rfl rfl (Nat.le_of_ble_eq_true rfl) (uM_F0 g σ tl 0) dX11_removeTransition_2 (fun H locs hP hD hS => ?_)
  refine lv_iload_n hx hb dX11_removeTransition_5 rfl (lv_at hl 1 rfl) ?_
  refine vp_callSi (va_Run.run (va_runS (As := [.int (nI a)]) (rest := []) ⟨hx, hb, hml, hown, hts⟩ (c_X11_isState l a ha) (va_cwS 1 hts gX11_removeTransition_X11_isState rfl rfl rfl (by decide +kernel) ⟨Nat.le_of_ble_eq_true rfl, Nat.le_of_ble_eq_true rfl⟩) okTS rfl rfl hl.1 rfl (lv_room (Nat.le_of_ble_eq_true rfl)) dX11_removeTransition_6 ⟨Nat.le_of_ble_eq_true rfl, Nat.le_of_ble_eq_true rfl⟩)) (fun r_6 h_6 => ?_)
  subst h_6
  refine jn_beq hx hb (tgt := 26) dX11_removeTransition_9 (by decide) (fun c_9 => ?_) (fun c_9 => ?_)
  · refine lv_aload_n hx hb dX11_removeTransition_26 rfl (lv_at hl 0 rfl) ?_
    refine lv_iconst (v := nI 1) hx hb dX11_removeTransition_27 (by decide) ?_
    refine jn_put (D := (g.1, g.2.1)) (ci := 13) (v := .int (nI 1)) (ty := .int) (C := RX11) (T := TX11) (N := 30) hx hb hts iX11 tyX11 tyX11_ok nmX11 hown hK.1 hP hD hS 0 (gM0 g (sF σ 0 0) tl) rfl 0 (by decide) k1 (fun _ h9 => h9) rfl (by decide +kernel) rfl rfl (Nat.le_of_ble_eq_true rfl) (uM_F0 g (sF σ 0 0) tl 1) dX11_removeTransition_28 (fun H locs hP hD hS => ?_)
    exact hq _ _ _ _ (1, (σ.1 1), (σ.2.1 0), (σ.2.1 2)) dX11_removeTransition_31 (Or.inl ⟨by omega, rfl, rfl, rfl, rfl⟩) hP hD hS
  · refine lv_iload_n hx hb dX11_removeTransition_12 rfl (lv_at hl 2 rfl) ?_
    refine vp_callSi (va_Run.run (va_runS (As := [.int (nI b)]) (rest := []) ⟨hx, hb, hml, hown, hts⟩ (c_X11_isLetter l b hb2) (va_cwS 1 hts gX11_removeTransition_X11_isLetter rfl rfl rfl (by decide +kernel) ⟨Nat.le_of_ble_eq_true rfl, Nat.le_of_ble_eq_true rfl⟩) okTS rfl rfl hl.1 rfl (lv_room (Nat.le_of_ble_eq_true rfl)) dX11_removeTransition_13 ⟨Nat.le_of_ble_eq_true rfl, Nat.le_of_ble_eq_true rfl⟩)) (fun r_13 h_13 => ?_)
    subst h_13
    refine jn_beq hx hb (tgt := 26) dX11_removeTransition_16 (by decide) (fun c_16 => ?_) (fun c_16 => ?_)
    · refine lv_aload_n hx hb dX11_removeTransition_26 rfl (lv_at hl 0 rfl) ?_
      refine lv_iconst (v := nI 1) hx hb dX11_removeTransition_27 (by decide) ?_
      refine jn_put (D := (g.1, g.2.1)) (ci := 13) (v := .int (nI 1)) (ty := .int) (C := RX11) (T := TX11) (N := 30) hx hb hts iX11 tyX11 tyX11_ok nmX11 hown hK.1 hP hD hS 0 (gM0 g (sF σ 0 0) tl) rfl 0 (by decide) k1 (fun _ h9 => h9) rfl (by decide +kernel) rfl rfl (Nat.le_of_ble_eq_true rfl) (uM_F0 g (sF σ 0 0) tl 1) dX11_removeTransition_28 (fun H locs hP hD hS => ?_)
      exact hq _ _ _ _ (1, (σ.1 1), (σ.2.1 0), (σ.2.1 2)) dX11_removeTransition_31 (Or.inl ⟨by omega, rfl, rfl, rfl, rfl⟩) hP hD hS
    · refine lv_iload_n hx hb dX11_removeTransition_19 rfl (lv_at hl 3 rfl) ?_
      refine vp_callSi (va_Run.run (va_runS (As := [.int (nI c2)]) (rest := []) ⟨hx, hb, hml, hown, hts⟩ (c_X11_isState l c2 hc) (va_cwS 1 hts gX11_removeTransition_X11_isState rfl rfl rfl (by decide +kernel) ⟨Nat.le_of_ble_eq_true rfl, Nat.le_of_ble_eq_true rfl⟩) okTS rfl rfl hl.1 rfl (lv_room (Nat.le_of_ble_eq_true rfl)) dX11_removeTransition_20 ⟨Nat.le_of_ble_eq_true rfl, Nat.le_of_ble_eq_true rfl⟩)) (fun r_20 h_20 => ?_)
      subst h_20
      refine jn_bne hx hb (tgt := 32) dX11_removeTransition_23 (by decide) (fun c_23 => ?_) (fun c_23 => ?_)
      · refine lv_aload_n hx hb dX11_removeTransition_32 rfl (lv_at hl 0 rfl) ?_
        refine lv_iload_n hx hb dX11_removeTransition_33 rfl (lv_at hl 1 rfl) ?_
        refine lv_iload_n hx hb dX11_removeTransition_34 rfl (lv_at hl 2 rfl) ?_
        refine vp_callSi (va_Run.run (va_runV (As := [.int (nI a), .int (nI b)]) (rest := []) ⟨hx, hb, hml, hown, hts⟩ (c_X11_next l g tl (sF σ 0 0) a b c_9 c_16) (cwV 2 hts gX11_removeTransition_X11_next rfl rfl rfl (by decide +kernel) ⟨Nat.le_of_ble_eq_true rfl, Nat.le_of_ble_eq_true rfl⟩) (okPV hK hP rfl (gM0 g (sF σ 0 0) tl)) rfl rfl hl.1 rfl (lv_room (Nat.le_of_ble_eq_true rfl)) dX11_removeTransition_35 ⟨Nat.le_of_ble_eq_true rfl, Nat.le_of_ble_eq_true rfl⟩)) (fun r_35 h_35 => ?_)
        have h_35 : r_35 = (nI ((σ.2.1 0) (a * 3 + b))) := h_35
        subst h_35
        refine lv_iload_n hx hb dX11_removeTransition_38 rfl (lv_at hl 3 rfl) ?_
        refine vp_callSi (va_Run.run (va_runS (As := [.int (nI ((σ.2.1 0) (a * 3 + b))), .int (nI c2)]) (rest := []) ⟨hx, hb, hml, hown, hts⟩ (c_X11_has l ((σ.2.1 0) (a * 3 + b)) c2 (Nat.lt_trans (hT _ (by omega)) (by decide)) (by omega)) (va_cwS 2 hts gX11_removeTransition_X11_has rfl rfl rfl (by decide +kernel) ⟨Nat.le_of_ble_eq_true rfl, Nat.le_of_ble_eq_true rfl⟩) okTS rfl rfl hl.1 rfl (lv_room (Nat.le_of_ble_eq_true rfl)) dX11_removeTransition_39 ⟨Nat.le_of_ble_eq_true rfl, Nat.le_of_ble_eq_true rfl⟩)) (fun r_39 h_39 => ?_)
        subst h_39
        refine jn_bne hx hb (tgt := 51) dX11_removeTransition_42 (by decide) (fun c_42 => ?_) (fun c_42 => ?_)
        · refine lv_aload_n hx hb dX11_removeTransition_51 rfl (lv_at hl 0 rfl) ?_
          refine jn_callv (va_runV (As := []) (rest := []) ⟨hx, hb, hml, hown, hts⟩ (c_X11_keeps l g tl H.size (sF σ 0 0) hc8) (cwV 0 hts gX11_removeTransition_X11_keeps rfl rfl rfl (by decide +kernel) ⟨Nat.le_of_ble_eq_true rfl, Nat.le_of_ble_eq_true rfl⟩) (okWV hK hP hD rfl (gM0 g (sF σ 0 0) tl)) rfl rfl hl.1 rfl (lv_room (Nat.le_of_ble_eq_true rfl)) dX11_removeTransition_52 ⟨Nat.le_of_ble_eq_true rfl, Nat.le_of_ble_eq_true rfl⟩) hD hS hAA (fun u H locs hw_ hP hD hS => ?_)
          obtain ⟨kp_52, ch_52⟩ := u
          have h_52 := hw_
          have h_52 : (KpO (σ.2.1 2) (σ.2.1 0) (σ.1 1) kp_52) ∧ (ch_52 = min ((σ.1 1) + 1) 8) := h_52
          have hP : va_P (g.1, g.2.1) vwCl (wM g (sA (sF (sF σ 0 0) 1 ch_52) 2 kp_52) ++ tl) H := hP
          have hD : va_D A (wM g (sA (sF (sF σ 0 0) 1 ch_52) 2 kp_52) ++ tl) := hD
          refine lv_aload_n hx hb dX11_removeTransition_55 rfl (lv_at hl 0 rfl) ?_
          refine va_get (D := (g.1, g.2.1)) (ci := 13) (v := .ref (g.2.2.2 1)) (C := RX11) (T := TX11) (N := 30) hx hb hts iX11 hown hK.1 hP 0 (gM0 g (sA (sF (sF σ 0 0) 1 ch_52) 2 kp_52) tl) rfl 1 (by decide) k13 (fun _ h9 => h9) rfl dX11_removeTransition_56 ?_
          refine lv_iconst (v := nI 3) hx hb dX11_removeTransition_59 (by decide) ?_
          refine lv_iload_n hx hb dX11_removeTransition_60 rfl (lv_at hl 1 rfl) ?_
          refine jn_imul hx hb dX11_removeTransition_61 ?_
          refine lv_iload_n hx hb dX11_removeTransition_62 rfl (lv_at hl 2 rfl) ?_
          refine jn_iadd hx hb dX11_removeTransition_63 ?_
          refine lv_dup2_11 hx hb dX11_removeTransition_64 rfl rfl ?_
          refine jn_iald (f := σ.2.1 0) hx hb hK.1 hP 1 0 (gM1 g (sA (sF (sF σ 0 0) 1 ch_52) 2 kp_52) tl) rfl (by omega) (Nat.le_of_ble_eq_true rfl) dX11_removeTransition_65 ?_
          refine lv_iconst (v := nI 1) hx hb dX11_removeTransition_66 (by decide) ?_
          refine lv_iload_n hx hb dX11_removeTransition_67 rfl (lv_at hl 3 rfl) ?_
          refine jn_shl1 hx hb (by omega) dX11_removeTransition_68 ?_
          refine lv_iconst (v := nI 4294967295) hx hb dX11_removeTransition_69 (by decide) ?_
          refine jn_ixor hx hb dX11_removeTransition_70 ?_
          refine jn_iand hx hb dX11_removeTransition_71 ?_
          refine jn_iast (f := σ.2.1 0) hx hb hK.1 hP hD hS 1 0 (gM1 g (sA (sF (sF σ 0 0) 1 ch_52) 2 kp_52) tl) rfl (by omega) (Nat.le_of_ble_eq_true rfl) (uM_A0 g (sA (sF (sF σ 0 0) 1 ch_52) 2 kp_52) tl _) dX11_removeTransition_72 (fun H locs hP hD hS => ?_)
          exact hq _ _ _ _ (0, ch_52, (va_up (σ.2.1 0) ((3 * a) + b) (((σ.2.1 0) ((3 * a) + b)) &&& ((2 ^ c2) ^^^ 4294967295))), kp_52) dX11_removeTransition_73 (Or.inr (Or.inr ⟨⟨c_9, c_16, c_23⟩, c_42, rfl, h_52.1, h_52.2, rfl⟩)) hP hD hS
        · refine lv_aload_n hx hb dX11_removeTransition_45 rfl (lv_at hl 0 rfl) ?_
          refine lv_iconst (v := nI 2) hx hb dX11_removeTransition_46 (by decide) ?_
          refine jn_put (D := (g.1, g.2.1)) (ci := 13) (v := .int (nI 2)) (ty := .int) (C := RX11) (T := TX11) (N := 30) hx hb hts iX11 tyX11 tyX11_ok nmX11 hown hK.1 hP hD hS 0 (gM0 g (sF σ 0 0) tl) rfl 0 (by decide) k1 (fun _ h9 => h9) rfl (by decide +kernel) rfl rfl (Nat.le_of_ble_eq_true rfl) (uM_F0 g (sF σ 0 0) tl 2) dX11_removeTransition_47 (fun H locs hP hD hS => ?_)
          exact hq _ _ _ _ (2, (σ.1 1), (σ.2.1 0), (σ.2.1 2)) dX11_removeTransition_50 (Or.inr (Or.inl ⟨⟨c_9, c_16, c_23⟩, c_42, rfl, rfl, rfl, rfl⟩)) hP hD hS
      · refine lv_aload_n hx hb dX11_removeTransition_26 rfl (lv_at hl 0 rfl) ?_
        refine lv_iconst (v := nI 1) hx hb dX11_removeTransition_27 (by decide) ?_
        refine jn_put (D := (g.1, g.2.1)) (ci := 13) (v := .int (nI 1)) (ty := .int) (C := RX11) (T := TX11) (N := 30) hx hb hts iX11 tyX11 tyX11_ok nmX11 hown hK.1 hP hD hS 0 (gM0 g (sF σ 0 0) tl) rfl 0 (by decide) k1 (fun _ h9 => h9) rfl (by decide +kernel) rfl rfl (Nat.le_of_ble_eq_true rfl) (uM_F0 g (sF σ 0 0) tl 1) dX11_removeTransition_28 (fun H locs hP hD hS => ?_)
        exact hq _ _ _ _ (1, (σ.1 1), (σ.2.1 0), (σ.2.1 2)) dX11_removeTransition_31 (Or.inl ⟨by omega, rfl, rfl, rfl, rfl⟩) hP hD hS

abbrev r_c_X11_setFinal : Room := { frames := 2, cells := 0, slots := 0, locals := 42 }
set_option maxHeartbeats 4000000 in
set_option maxRecDepth 100000 in
theorem c_X11_setFinal (l : Launch) (g : GC) (tl : va_W) (sz : Nat) (σ : SS) (x b : Nat) (hF : ((σ.2.1 0) 15) < 32) (hc8 : (σ.1 1) ≤ 8) (hx : x < 4294967296) (hb2 : b < 2) : Met l yX11_setFinal wsX11_setFinal r_c_X11_setFinal (va_Pc [.ref (g.2.2.2 0), .int (nI x), .int (nI b)] (PW g (wM g σ ++ tl) sz)) (va_Qi (fun (r : Int32) (z : Nat × Nat × Nat × (Nat → Nat) × (Nat → Nat)) => match z with | (r0, th, ch, nw, kp) => (r = nI (r0)) ∧ ((¬ x < 5 ∧ th = 1 ∧ ch = (σ.1 1) ∧ nw = (σ.2.1 0) ∧ kp = (σ.2.1 2)) ∨ (x < 5 ∧ th = 0 ∧ KpO (σ.2.1 2) (σ.2.1 0) (σ.1 1) kp ∧ ch = min ((σ.1 1) + 1) 8 ∧ nw = va_up (σ.2.1 0) 15 (if b = 0 then ((σ.2.1 0) 15) &&& (2 ^ x ^^^ 4294967295) else ((σ.2.1 0) 15) ||| 2 ^ x) ∧ r0 = if Nat.testBit ((σ.2.1 0) 15) x = true then 1 else 0))) (fun (z : Nat × Nat × Nat × (Nat → Nat) × (Nat → Nat)) t => BW g (va_A (wM g σ ++ tl) sz) ((fun z : Nat × Nat × Nat × (Nat → Nat) × (Nat → Nat) => match z with | (r0, th, ch, nw, kp) => wM g (sA (sA (sF (sF σ 0 th) 1 ch) 0 nw) 2 kp) ++ tl) z) t) (va_A (wM g σ ++ tl) sz)) 0 0 (va_A (wM g σ ++ tl) sz) := by
  refine jn_sz (wf := fun z : Nat × Nat × Nat × (Nat → Nat) × (Nat → Nat) => match z with | (r0, th, ch, nw, kp) => wM g (sA (sA (sF (sF σ 0 th) 1 ch) 0 nw) 2 kp) ++ tl) (cc := cX11_setFinal) (maxL := 4) (own := RX11) (by decide) rfl rfl (Nat.le_of_ble_eq_true rfl) ?_
  intro p e s m below meth c Q A hx hb hml hown hts hK hP hD hS hAA hq ls hl
  obtain ⟨H, eH⟩ : ∃ z, z = s.heap := ⟨_, rfl⟩
  obtain ⟨locs, el⟩ : ∃ z : List Loc, z = [] := ⟨_, rfl⟩
  rw [← eH] at hP
  have hS : va_S A s.heap H locs := by rw [eH, el]; exact hS
  have goal0 : W p l e r_c_X11_setFinal s m ([.ref (g.2.2.2 0), .int (nI x), .int (nI b)] : List Value).toArray below meth c H locs 0 0 Q (F0 m 0 ls []) → W p l e r_c_X11_setFinal s m ([.ref (g.2.2.2 0), .int (nI x), .int (nI b)] : List Value).toArray below meth c s.heap [] 0 0 Q (F0 m 0 ls []) := fun h => by rw [eH, el] at h; exact h
  refine goal0 ?_
  have hl : lv_has ls 4 [(0, .ref (g.2.2.2 0)), (1, .int (nI x)), (2, .int (nI b))] := hl
  have iX11 : ∀ w ∈ wsX110, w ∈ wsX11_setFinal := by decide +kernel
  have k1 := hts (.fieldLink RX11 1 "JumpingAutomataModel" "thrown" "I") (by decide +kernel)
  have k13 := hts (.fieldLink RX11 13 "JumpingAutomataModel" "now" "[I") (by decide +kernel)
  refine lv_aload_n hx hb dX11_setFinal_0 rfl (lv_at hl 0 rfl) ?_
  refine lv_iconst (v := nI 0) hx hb dX11_setFinal_1 (by decide) ?_
  refine jn_put (D := (g.1, g.2.1)) (ci := 13) (v := .int (nI 0)) (ty := .int) (C := RX11) (T := TX11) (N := 30) hx hb hts iX11 tyX11 tyX11_ok nmX11 hown hK.1 hP hD hS 0 (gM0 g σ tl) rfl 0 (by decide) k1 (fun _ h9 => h9) rfl (by decide +kernel) rfl rfl (Nat.le_of_ble_eq_true rfl) (uM_F0 g σ tl 0) dX11_setFinal_2 (fun H locs hP hD hS => ?_)
  refine lv_iload_n hx hb dX11_setFinal_5 rfl (lv_at hl 1 rfl) ?_
  refine vp_callSi (va_Run.run (va_runS (As := [.int (nI x)]) (rest := []) ⟨hx, hb, hml, hown, hts⟩ (c_X11_isState l x (by omega)) (va_cwS 1 hts gX11_setFinal_X11_isState rfl rfl rfl (by decide +kernel) ⟨Nat.le_of_ble_eq_true rfl, Nat.le_of_ble_eq_true rfl⟩) okTS rfl rfl hl.1 rfl (lv_room (Nat.le_of_ble_eq_true rfl)) dX11_setFinal_6 ⟨Nat.le_of_ble_eq_true rfl, Nat.le_of_ble_eq_true rfl⟩)) (fun r_6 h_6 => ?_)
  subst h_6
  refine jn_bne hx hb (tgt := 26) dX11_setFinal_9 (by decide) (fun c_9 => ?_) (fun c_9 => ?_)
  · refine lv_aload_n hx hb dX11_setFinal_26 rfl (lv_at hl 0 rfl) ?_
    refine va_get (D := (g.1, g.2.1)) (ci := 13) (v := .ref (g.2.2.2 1)) (C := RX11) (T := TX11) (N := 30) hx hb hts iX11 hown hK.1 hP 0 (gM0 g (sF σ 0 0) tl) rfl 1 (by decide) k13 (fun _ h9 => h9) rfl dX11_setFinal_27 ?_
    refine lv_bipush (v := nI 15) hx hb dX11_setFinal_30 (by decide) ?_
    refine jn_iald (f := σ.2.1 0) hx hb hK.1 hP 1 0 (gM1 g (sF σ 0 0) tl) rfl (by decide) (Nat.le_of_ble_eq_true rfl) dX11_setFinal_32 ?_
    refine lv_iload_n hx hb dX11_setFinal_33 rfl (lv_at hl 1 rfl) ?_
    refine vp_callSi (va_Run.run (va_runS (As := [.int (nI ((σ.2.1 0) 15)), .int (nI x)]) (rest := []) ⟨hx, hb, hml, hown, hts⟩ (c_X11_has l ((σ.2.1 0) 15) x (by omega) (by omega)) (va_cwS 2 hts gX11_setFinal_X11_has rfl rfl rfl (by decide +kernel) ⟨Nat.le_of_ble_eq_true rfl, Nat.le_of_ble_eq_true rfl⟩) okTS rfl rfl hl.1 rfl (lv_room (Nat.le_of_ble_eq_true rfl)) dX11_setFinal_34 ⟨Nat.le_of_ble_eq_true rfl, Nat.le_of_ble_eq_true rfl⟩)) (fun r_34 h_34 => ?_)
    subst h_34
    refine lv_istore_n (lv' := [(3, .int (nI (if Nat.testBit ((σ.2.1 0) 15) x = true then 1 else 0))), (0, .ref (g.2.2.2 0)), (1, .int (nI x)), (2, .int (nI b))]) hx hb dX11_setFinal_37 rfl hl (by decide) rfl (fun ls hl => ?_)
    refine lv_aload_n hx hb dX11_setFinal_38 rfl (lv_at hl 1 rfl) ?_
    refine jn_callv (va_runV (As := []) (rest := []) ⟨hx, hb, hml, hown, hts⟩ (c_X11_keeps l g tl H.size (sF σ 0 0) hc8) (cwV 0 hts gX11_setFinal_X11_keeps rfl rfl rfl (by decide +kernel) ⟨Nat.le_of_ble_eq_true rfl, Nat.le_of_ble_eq_true rfl⟩) (okWV hK hP hD rfl (gM0 g (sF σ 0 0) tl)) rfl rfl hl.1 rfl (lv_room (Nat.le_of_ble_eq_true rfl)) dX11_setFinal_39 ⟨Nat.le_of_ble_eq_true rfl, Nat.le_of_ble_eq_true rfl⟩) hD hS hAA (fun u H locs hw_ hP hD hS => ?_)
    obtain ⟨kp_39, ch_39⟩ := u
    have h_39 := hw_
    have h_39 : (KpO (σ.2.1 2) (σ.2.1 0) (σ.1 1) kp_39) ∧ (ch_39 = min ((σ.1 1) + 1) 8) := h_39
    have hP : va_P (g.1, g.2.1) vwCl (wM g (sA (sF (sF σ 0 0) 1 ch_39) 2 kp_39) ++ tl) H := hP
    have hD : va_D A (wM g (sA (sF (sF σ 0 0) 1 ch_39) 2 kp_39) ++ tl) := hD
    refine lv_iload_n hx hb dX11_setFinal_42 rfl (lv_at hl 3 rfl) ?_
    refine jn_zeq hx hb (by omega) (tgt := 62) dX11_setFinal_43 (by decide) (fun c_43 => ?_) (fun c_43 => ?_)
    · refine lv_aload_n hx hb dX11_setFinal_62 rfl (lv_at hl 1 rfl) ?_
      refine va_get (D := (g.1, g.2.1)) (ci := 13) (v := .ref (g.2.2.2 1)) (C := RX11) (T := TX11) (N := 30) hx hb hts iX11 hown hK.1 hP 0 (gM0 g (sA (sF (sF σ 0 0) 1 ch_39) 2 kp_39) tl) rfl 1 (by decide) k13 (fun _ h9 => h9) rfl dX11_setFinal_63 ?_
      refine lv_bipush (v := nI 15) hx hb dX11_setFinal_66 (by decide) ?_
      refine lv_dup2_11 hx hb dX11_setFinal_68 rfl rfl ?_
      refine jn_iald (f := σ.2.1 0) hx hb hK.1 hP 1 0 (gM1 g (sA (sF (sF σ 0 0) 1 ch_39) 2 kp_39) tl) rfl (by decide) (Nat.le_of_ble_eq_true rfl) dX11_setFinal_69 ?_
      refine lv_iconst (v := nI 1) hx hb dX11_setFinal_70 (by decide) ?_
      refine lv_iload_n hx hb dX11_setFinal_71 rfl (lv_at hl 2 rfl) ?_
      refine jn_shl1 hx hb (by omega) dX11_setFinal_72 ?_
      refine lv_iconst (v := nI 4294967295) hx hb dX11_setFinal_73 (by decide) ?_
      refine jn_ixor hx hb dX11_setFinal_74 ?_
      refine jn_iand hx hb dX11_setFinal_75 ?_
      refine jn_iast (f := σ.2.1 0) hx hb hK.1 hP hD hS 1 0 (gM1 g (sA (sF (sF σ 0 0) 1 ch_39) 2 kp_39) tl) rfl (by decide) (Nat.le_of_ble_eq_true rfl) (uM_A0 g (sA (sF (sF σ 0 0) 1 ch_39) 2 kp_39) tl _) dX11_setFinal_76 (fun H locs hP hD hS => ?_)
      refine lv_iload_n hx hb dX11_setFinal_77 rfl (lv_at hl 0 rfl) ?_
      exact hq _ _ _ _ ((nI (if Nat.testBit ((σ.2.1 0) 15) x = true then 1 else 0))) (_, 0, ch_39, (va_up (σ.2.1 0) 15 (((σ.2.1 0) 15) &&& ((2 ^ x) ^^^ 4294967295))), kp_39) dX11_setFinal_78 (jn_nb _) (by first | exact ⟨rfl, (Or.inr ⟨c_9, rfl, h_39.1, h_39.2, by rw [if_neg c_43], rfl⟩)⟩ | exact ⟨rfl, (Or.inr ⟨c_9, rfl, h_39.1, h_39.2, by rw [if_pos c_43], rfl⟩)⟩) hP hD hS
    · refine lv_aload_n hx hb dX11_setFinal_46 rfl (lv_at hl 1 rfl) ?_
      refine va_get (D := (g.1, g.2.1)) (ci := 13) (v := .ref (g.2.2.2 1)) (C := RX11) (T := TX11) (N := 30) hx hb hts iX11 hown hK.1 hP 0 (gM0 g (sA (sF (sF σ 0 0) 1 ch_39) 2 kp_39) tl) rfl 1 (by decide) k13 (fun _ h9 => h9) rfl dX11_setFinal_47 ?_
      refine lv_bipush (v := nI 15) hx hb dX11_setFinal_50 (by decide) ?_
      refine lv_dup2_11 hx hb dX11_setFinal_52 rfl rfl ?_
      refine jn_iald (f := σ.2.1 0) hx hb hK.1 hP 1 0 (gM1 g (sA (sF (sF σ 0 0) 1 ch_39) 2 kp_39) tl) rfl (by decide) (Nat.le_of_ble_eq_true rfl) dX11_setFinal_53 ?_
      refine lv_iconst (v := nI 1) hx hb dX11_setFinal_54 (by decide) ?_
      refine lv_iload_n hx hb dX11_setFinal_55 rfl (lv_at hl 2 rfl) ?_
      refine jn_shl1 hx hb (by omega) dX11_setFinal_56 ?_
      refine jn_ior hx hb dX11_setFinal_57 ?_
      refine jn_iast (f := σ.2.1 0) hx hb hK.1 hP hD hS 1 0 (gM1 g (sA (sF (sF σ 0 0) 1 ch_39) 2 kp_39) tl) rfl (by decide) (Nat.le_of_ble_eq_true rfl) (uM_A0 g (sA (sF (sF σ 0 0) 1 ch_39) 2 kp_39) tl _) dX11_setFinal_58 (fun H locs hP hD hS => ?_)
      refine lv_goto (tgt := 77) hx hb dX11_setFinal_59 (by decide) ?_
      refine lv_iload_n hx hb dX11_setFinal_77 rfl (lv_at hl 0 rfl) ?_
      exact hq _ _ _ _ ((nI (if Nat.testBit ((σ.2.1 0) 15) x = true then 1 else 0))) (_, 0, ch_39, (va_up (σ.2.1 0) 15 (((σ.2.1 0) 15) ||| (2 ^ x))), kp_39) dX11_setFinal_78 (jn_nb _) (by first | exact ⟨rfl, (Or.inr ⟨c_9, rfl, h_39.1, h_39.2, by rw [if_neg c_43], rfl⟩)⟩ | exact ⟨rfl, (Or.inr ⟨c_9, rfl, h_39.1, h_39.2, by rw [if_pos c_43], rfl⟩)⟩) hP hD hS
  · refine lv_aload_n hx hb dX11_setFinal_12 rfl (lv_at hl 0 rfl) ?_
    refine lv_iconst (v := nI 1) hx hb dX11_setFinal_13 (by decide) ?_
    refine jn_calli (va_runV (As := [.int (nI 1)]) (rest := []) ⟨hx, hb, hml, hown, hts⟩ (c_X11_fails l g tl H.size (sF σ 0 0) 1) (cwV 1 hts gX11_setFinal_X11_fails rfl rfl rfl (by decide +kernel) ⟨Nat.le_of_ble_eq_true rfl, Nat.le_of_ble_eq_true rfl⟩) (okWV hK hP hD rfl (gM0 g (sF σ 0 0) tl)) rfl rfl hl.1 rfl (lv_room (Nat.le_of_ble_eq_true rfl)) dX11_setFinal_14 ⟨Nat.le_of_ble_eq_true rfl, Nat.le_of_ble_eq_true rfl⟩) hD hS hAA (fun r_14 u H locs hw_ hP hD hS => ?_)
    obtain rfl := hw_
    have hP : va_P (g.1, g.2.1) vwCl (wM g (sF (sF σ 0 0) 0 1) ++ tl) H := hP
    have hD : va_D A (wM g (sF (sF σ 0 0) 0 1) ++ tl) := hD
    refine jn_zle hx hb (by decide) (tgt := 24) dX11_setFinal_17 (by decide) (fun c_17 => ?_) (fun c_17 => absurd c_17 (by omega))
    refine lv_iconst (v := nI 0) hx hb dX11_setFinal_24 (by decide) ?_
    exact hq _ _ _ _ ((nI 0)) (0, 1, (σ.1 1), (σ.2.1 0), (σ.2.1 2)) dX11_setFinal_25 jn_n0 ⟨rfl, (Or.inl ⟨c_9, rfl, rfl, rfl, rfl⟩)⟩ hP hD hS

abbrev r_c_X11_clearAutomaton : Room := { frames := 1, cells := 0, slots := 0, locals := 21 }
set_option maxHeartbeats 4000000 in
set_option maxRecDepth 100000 in
theorem c_X11_clearAutomaton (l : Launch) (g : GC) (tl : va_W) (sz : Nat) (σ : SS) (hc8 : (σ.1 1) ≤ 8) : Met l yX11_clearAutomaton wsX11_clearAutomaton r_c_X11_clearAutomaton (va_Pc [.ref (g.2.2.2 0)] (PW g (wM g σ ++ tl) sz)) (va_Qv (fun (z : Nat × (Nat → Nat) × (Nat → Nat)) => match z with | (ch, nw, kp) => (KpO (σ.2.1 2) (σ.2.1 0) (σ.1 1) kp) ∧ (ch = min ((σ.1 1) + 1) 8) ∧ (∀ k, k < 16 → nw k = 0) ∧ (∀ k, 16 ≤ k → nw k = (σ.2.1 0) k)) (fun (z : Nat × (Nat → Nat) × (Nat → Nat)) t => BW g (va_A (wM g σ ++ tl) sz) ((fun z : Nat × (Nat → Nat) × (Nat → Nat) => match z with | (ch, nw, kp) => wM g (sA (sA (sF σ 1 ch) 0 nw) 2 kp) ++ tl) z) t) (va_A (wM g σ ++ tl) sz)) 0 0 (va_A (wM g σ ++ tl) sz) := by
  refine jn_sv (wf := fun z : Nat × (Nat → Nat) × (Nat → Nat) => match z with | (ch, nw, kp) => wM g (sA (sA (sF σ 1 ch) 0 nw) 2 kp) ++ tl) (cc := cX11_clearAutomaton) (maxL := 2) (own := RX11) (by decide) rfl rfl (Nat.le_of_ble_eq_true rfl) ?_
  intro p e s m below meth c Q A hx hb hml hown hts hK hP hD hS hAA hq ls hl
  obtain ⟨H, eH⟩ : ∃ z, z = s.heap := ⟨_, rfl⟩
  obtain ⟨locs, el⟩ : ∃ z : List Loc, z = [] := ⟨_, rfl⟩
  rw [← eH] at hP
  have hS : va_S A s.heap H locs := by rw [eH, el]; exact hS
  have goal0 : W p l e r_c_X11_clearAutomaton s m ([.ref (g.2.2.2 0)] : List Value).toArray below meth c H locs 0 0 Q (F0 m 0 ls []) → W p l e r_c_X11_clearAutomaton s m ([.ref (g.2.2.2 0)] : List Value).toArray below meth c s.heap [] 0 0 Q (F0 m 0 ls []) := fun h => by rw [eH, el] at h; exact h
  refine goal0 ?_
  have hl : lv_has ls 2 [(0, .ref (g.2.2.2 0))] := hl
  have iX11 : ∀ w ∈ wsX110, w ∈ wsX11_clearAutomaton := by decide +kernel
  have k13 := hts (.fieldLink RX11 13 "JumpingAutomataModel" "now" "[I") (by decide +kernel)
  refine lv_aload_n hx hb dX11_clearAutomaton_0 rfl (lv_at hl 0 rfl) ?_
  refine jn_callv (va_runV (As := []) (rest := []) ⟨hx, hb, hml, hown, hts⟩ (c_X11_keeps l g tl H.size σ hc8) (cwV 0 hts gX11_clearAutomaton_X11_keeps rfl rfl rfl (by decide +kernel) ⟨Nat.le_of_ble_eq_true rfl, Nat.le_of_ble_eq_true rfl⟩) (okWV hK hP hD rfl (gM0 g σ tl)) rfl rfl hl.1 rfl (lv_room (Nat.le_of_ble_eq_true rfl)) dX11_clearAutomaton_1 ⟨Nat.le_of_ble_eq_true rfl, Nat.le_of_ble_eq_true rfl⟩) hD hS hAA (fun u H locs hw_ hP hD hS => ?_)
  obtain ⟨kp_1, ch_1⟩ := u
  have h_1 := hw_
  have h_1 : (KpO (σ.2.1 2) (σ.2.1 0) (σ.1 1) kp_1) ∧ (ch_1 = min ((σ.1 1) + 1) 8) := h_1
  have hP : va_P (g.1, g.2.1) vwCl (wM g (sA (sF σ 1 ch_1) 2 kp_1) ++ tl) H := hP
  have hD : va_D A (wM g (sA (sF σ 1 ch_1) 2 kp_1) ++ tl) := hD
  refine lv_iconst (v := nI 0) hx hb dX11_clearAutomaton_4 (by decide) ?_
  refine lv_istore_n (lv' := [(1, .int (nI 0)), (0, .ref (g.2.2.2 0))]) hx hb dX11_clearAutomaton_5 rfl hl (by decide) rfl (fun ls hl => ?_)
  have lp6 : ∀ (fu : Nat), ∀ (i : Nat) (f : Nat → Nat), (i ≤ 16) → (∀ k, k < i → f k = 0) → (∀ k, i ≤ k → f k = (σ.2.1 0) k) → 16 - i < fu → ∀ (H : Heap) (locs : List Loc), va_P (g.1, g.2.1) vwCl (wM g (sA (sA (sF σ 1 ch_1) 0 f) 2 kp_1) ++ tl) H → va_D A (wM g (sA (sA (sF σ 1 ch_1) 0 f) 2 kp_1) ++ tl) → va_S A s.heap H locs → ∀ ls : Array Slot, lv_has ls 2 [(0, .ref (g.2.2.2 0)), (1, .int (nI i))] → W p l e r_c_X11_clearAutomaton s m ([.ref (g.2.2.2 0)] : List Value).toArray below meth c H locs 0 0 Q (F0 m 6 ls []) := by
    intro fu
    induction fu with
    | zero => intro i f h1 h2 h3 hf; exact absurd hf (Nat.not_lt_zero _)
    | succ fu ih6 =>
      intro i f h1 h2 h3 hf H locs hP hD hS ls hl
      refine lv_iload_n hx hb dX11_clearAutomaton_6 rfl (lv_at hl 1 rfl) ?_
      refine lv_bipush (v := nI 15) hx hb dX11_clearAutomaton_7 (by decide) ?_
      refine jn_cgt hx hb (by omega) (by decide) (tgt := 25) dX11_clearAutomaton_9 (by decide) (fun c_9 => ?_) (fun c_9 => ?_)
      · exact hq _ _ _ _ (ch_1, f, kp_1) dX11_clearAutomaton_25 ⟨h_1.1, h_1.2, fun k hk => h2 k (by omega), fun k hk => h3 k (by omega)⟩ hP hD hS
      · refine lv_aload_n hx hb dX11_clearAutomaton_12 rfl (lv_at hl 0 rfl) ?_
        refine va_get (D := (g.1, g.2.1)) (ci := 13) (v := .ref (g.2.2.2 1)) (C := RX11) (T := TX11) (N := 30) hx hb hts iX11 hown hK.1 hP 0 (gM0 g (sA (sA (sF σ 1 ch_1) 0 f) 2 kp_1) tl) rfl 1 (by decide) k13 (fun _ h9 => h9) rfl dX11_clearAutomaton_13 ?_
        refine lv_iload_n hx hb dX11_clearAutomaton_16 rfl (lv_at hl 1 rfl) ?_
        refine lv_iconst (v := nI 0) hx hb dX11_clearAutomaton_17 (by decide) ?_
        refine jn_iast (f := f) hx hb hK.1 hP hD hS 1 0 (gM1 g (sA (sA (sF σ 1 ch_1) 0 f) 2 kp_1) tl) rfl (by omega) (Nat.le_of_ble_eq_true rfl) (uM_A0 g (sA (sA (sF σ 1 ch_1) 0 f) 2 kp_1) tl _) dX11_clearAutomaton_18 (fun H locs hP hD hS => ?_)
        refine lv_iinc (v := nI (i + 1)) (lv' := [(1, .int (nI (i + 1))), (0, .ref (g.2.2.2 0))]) hx hb dX11_clearAutomaton_19 hl (k := 1) rfl (jn_ii _ 1) (by decide) rfl (fun ls hl => ?_)
        refine lv_goto (tgt := 6) hx hb dX11_clearAutomaton_22 (by decide) ?_
        exact ih6 (i + 1) (va_up f i 0) (by omega) (fun k hk => by unfold va_up; split <;> first | rfl | exact h2 k (by omega)) (fun k hk => by rw [va_up, if_neg (by omega)]; exact h3 k (by omega)) (by omega) _ _ hP hD hS _ (lv_sub hl [1, 0] rfl)
  exact lp6 _ 0 (σ.2.1 0) (by decide) (fun k hk => absurd hk (by omega)) (fun _ _ => rfl) (Nat.lt_succ_self _) _ _ hP hD hS _ (lv_sub hl [1, 0] rfl)

abbrev r_c_X11_appendLetter : Room := { frames := 2, cells := 0, slots := 0, locals := 42 }
set_option maxHeartbeats 4000000 in
set_option maxRecDepth 100000 in
theorem c_X11_appendLetter (l : Launch) (g : GC) (tl : va_W) (sz : Nat) (σ : SS) (x : Nat) (hn : (σ.1 6) ≤ 8) (hx : x < 4294967296) : Met l yX11_appendLetter wsX11_appendLetter r_c_X11_appendLetter (va_Pc [.ref (g.2.2.2 0), .int (nI x)] (PW g (wM g σ ++ tl) sz)) (va_Qi (fun (r : Int32) (z : Nat × Nat × Nat × (Nat → Nat)) => match z with | (r0, th, n, f) => (r = nI (r0)) ∧ ((¬ x < 3 ∧ th = 1 ∧ n = (σ.1 6) ∧ f = (σ.2.1 5)) ∨ (x < 3 ∧ (σ.1 6) = 8 ∧ th = 2 ∧ n = (σ.1 6) ∧ f = (σ.2.1 5)) ∨ (x < 3 ∧ (σ.1 6) < 8 ∧ th = 0 ∧ n = (σ.1 6) + 1 ∧ f = va_up (σ.2.1 5) (σ.1 6) x ∧ r0 = (σ.1 6) + 1))) (fun (z : Nat × Nat × Nat × (Nat → Nat)) t => BW g (va_A (wM g σ ++ tl) sz) ((fun z : Nat × Nat × Nat × (Nat → Nat) => match z with | (r0, th, n, f) => wM g (sA (sF (sF σ 0 th) 6 n) 5 f) ++ tl) z) t) (va_A (wM g σ ++ tl) sz)) 0 0 (va_A (wM g σ ++ tl) sz) := by
  refine jn_si (wf := fun z : Nat × Nat × Nat × (Nat → Nat) => match z with | (r0, th, n, f) => wM g (sA (sF (sF σ 0 th) 6 n) 5 f) ++ tl) (cc := cX11_appendLetter) (maxL := 2) (own := RX11) (by decide) rfl rfl (Nat.le_of_ble_eq_true rfl) ?_
  intro p e s m below meth c Q A hx hb hml hown hts hK hP hD hS hAA hq ls hl
  obtain ⟨H, eH⟩ : ∃ z, z = s.heap := ⟨_, rfl⟩
  obtain ⟨locs, el⟩ : ∃ z : List Loc, z = [] := ⟨_, rfl⟩
  rw [← eH] at hP
  have hS : va_S A s.heap H locs := by rw [eH, el]; exact hS
  have goal0 : W p l e r_c_X11_appendLetter s m ([.ref (g.2.2.2 0), .int (nI x)] : List Value).toArray below meth c H locs 0 0 Q (F0 m 0 ls []) → W p l e r_c_X11_appendLetter s m ([.ref (g.2.2.2 0), .int (nI x)] : List Value).toArray below meth c s.heap [] 0 0 Q (F0 m 0 ls []) := fun h => by rw [eH, el] at h; exact h
  refine goal0 ?_
  have hl : lv_has ls 2 [(0, .ref (g.2.2.2 0)), (1, .int (nI x))] := hl
  have iX11 : ∀ w ∈ wsX110, w ∈ wsX11_appendLetter := by decide +kernel
  have k1 := hts (.fieldLink RX11 1 "JumpingAutomataModel" "thrown" "I") (by decide +kernel)
  have k51 := hts (.fieldLink RX11 51 "JumpingAutomataModel" "length" "I") (by decide +kernel)
  have k45 := hts (.fieldLink RX11 45 "JumpingAutomataModel" "word" "[I") (by decide +kernel)
  refine lv_aload_n hx hb dX11_appendLetter_0 rfl (lv_at hl 0 rfl) ?_
  refine lv_iconst (v := nI 0) hx hb dX11_appendLetter_1 (by decide) ?_
  refine jn_put (D := (g.1, g.2.1)) (ci := 13) (v := .int (nI 0)) (ty := .int) (C := RX11) (T := TX11) (N := 30) hx hb hts iX11 tyX11 tyX11_ok nmX11 hown hK.1 hP hD hS 0 (gM0 g σ tl) rfl 0 (by decide) k1 (fun _ h9 => h9) rfl (by decide +kernel) rfl rfl (Nat.le_of_ble_eq_true rfl) (uM_F0 g σ tl 0) dX11_appendLetter_2 (fun H locs hP hD hS => ?_)
  refine lv_iload_n hx hb dX11_appendLetter_5 rfl (lv_at hl 1 rfl) ?_
  refine vp_callSi (va_Run.run (va_runS (As := [.int (nI x)]) (rest := []) ⟨hx, hb, hml, hown, hts⟩ (c_X11_isLetter l x (by omega)) (va_cwS 1 hts gX11_appendLetter_X11_isLetter rfl rfl rfl (by decide +kernel) ⟨Nat.le_of_ble_eq_true rfl, Nat.le_of_ble_eq_true rfl⟩) okTS rfl rfl hl.1 rfl (lv_room (Nat.le_of_ble_eq_true rfl)) dX11_appendLetter_6 ⟨Nat.le_of_ble_eq_true rfl, Nat.le_of_ble_eq_true rfl⟩)) (fun r_6 h_6 => ?_)
  subst h_6
  refine jn_bne hx hb (tgt := 18) dX11_appendLetter_9 (by decide) (fun c_9 => ?_) (fun c_9 => ?_)
  · refine lv_aload_n hx hb dX11_appendLetter_18 rfl (lv_at hl 0 rfl) ?_
    refine va_get (D := (g.1, g.2.1)) (ci := 13) (v := .int (nI (σ.1 6))) (C := RX11) (T := TX11) (N := 30) hx hb hts iX11 hown hK.1 hP 0 (gM0 g (sF σ 0 0) tl) rfl 13 (by decide) k51 (fun _ h9 => h9) rfl dX11_appendLetter_19 ?_
    refine lv_bipush (v := nI 8) hx hb dX11_appendLetter_22 (by decide) ?_
    refine jn_cne hx hb (by omega) (by decide) (tgt := 33) dX11_appendLetter_24 (by decide) (fun c_24 => ?_) (fun c_24 => ?_)
    · refine lv_aload_n hx hb dX11_appendLetter_33 rfl (lv_at hl 0 rfl) ?_
      refine va_get (D := (g.1, g.2.1)) (ci := 13) (v := .ref (g.2.2.2 6)) (C := RX11) (T := TX11) (N := 30) hx hb hts iX11 hown hK.1 hP 0 (gM0 g (sF σ 0 0) tl) rfl 11 (by decide) k45 (fun _ h9 => h9) rfl dX11_appendLetter_34 ?_
      refine lv_aload_n hx hb dX11_appendLetter_37 rfl (lv_at hl 0 rfl) ?_
      refine va_get (D := (g.1, g.2.1)) (ci := 13) (v := .int (nI (σ.1 6))) (C := RX11) (T := TX11) (N := 30) hx hb hts iX11 hown hK.1 hP 0 (gM0 g (sF σ 0 0) tl) rfl 13 (by decide) k51 (fun _ h9 => h9) rfl dX11_appendLetter_38 ?_
      refine lv_iload_n hx hb dX11_appendLetter_41 rfl (lv_at hl 1 rfl) ?_
      refine jn_iast (f := σ.2.1 5) hx hb hK.1 hP hD hS 6 0 (gM6 g (sF σ 0 0) tl) rfl (by omega) (Nat.le_of_ble_eq_true rfl) (uM_A5 g (sF σ 0 0) tl _) dX11_appendLetter_42 (fun H locs hP hD hS => ?_)
      refine lv_aload_n hx hb dX11_appendLetter_43 rfl (lv_at hl 0 rfl) ?_
      refine lv_dup hx hb dX11_appendLetter_44 rfl ?_
      refine va_get (D := (g.1, g.2.1)) (ci := 13) (v := .int (nI (σ.1 6))) (C := RX11) (T := TX11) (N := 30) hx hb hts iX11 hown hK.1 hP 0 (gM0 g (sA (sF σ 0 0) 5 (va_up (σ.2.1 5) (σ.1 6) x)) tl) rfl 13 (by decide) k51 (fun _ h9 => h9) rfl dX11_appendLetter_45 ?_
      refine lv_iconst (v := nI 1) hx hb dX11_appendLetter_48 (by decide) ?_
      refine jn_iadd hx hb dX11_appendLetter_49 ?_
      refine jn_put (D := (g.1, g.2.1)) (ci := 13) (v := .int (nI ((σ.1 6) + 1))) (ty := .int) (C := RX11) (T := TX11) (N := 30) hx hb hts iX11 tyX11 tyX11_ok nmX11 hown hK.1 hP hD hS 0 (gM0 g (sA (sF σ 0 0) 5 (va_up (σ.2.1 5) (σ.1 6) x)) tl) rfl 13 (by decide) k51 (fun _ h9 => h9) rfl (by decide +kernel) rfl rfl (Nat.le_of_ble_eq_true rfl) (uM_F6 g (sA (sF σ 0 0) 5 (va_up (σ.2.1 5) (σ.1 6) x)) tl ((σ.1 6) + 1)) dX11_appendLetter_50 (fun H locs hP hD hS => ?_)
      refine lv_aload_n hx hb dX11_appendLetter_53 rfl (lv_at hl 0 rfl) ?_
      refine va_get (D := (g.1, g.2.1)) (ci := 13) (v := .int (nI ((σ.1 6) + 1))) (C := RX11) (T := TX11) (N := 30) hx hb hts iX11 hown hK.1 hP 0 (gM0 g (sF (sA (sF σ 0 0) 5 (va_up (σ.2.1 5) (σ.1 6) x)) 6 ((σ.1 6) + 1)) tl) rfl 13 (by decide) k51 (fun _ h9 => h9) rfl dX11_appendLetter_54 ?_
      exact hq _ _ _ _ ((nI ((σ.1 6) + 1))) (_, 0, ((σ.1 6) + 1), (va_up (σ.2.1 5) (σ.1 6) x)) dX11_appendLetter_57 ⟨rfl, (Or.inr (Or.inr ⟨by omega, by omega, rfl, rfl, rfl, rfl⟩))⟩ hP hD hS
    · refine lv_aload_n hx hb dX11_appendLetter_27 rfl (lv_at hl 0 rfl) ?_
      refine lv_iconst (v := nI 2) hx hb dX11_appendLetter_28 (by decide) ?_
      refine jn_calli (va_runV (As := [.int (nI 2)]) (rest := []) ⟨hx, hb, hml, hown, hts⟩ (c_X11_fails l g tl H.size (sF σ 0 0) 2) (cwV 1 hts gX11_appendLetter_X11_fails rfl rfl rfl (by decide +kernel) ⟨Nat.le_of_ble_eq_true rfl, Nat.le_of_ble_eq_true rfl⟩) (okWV hK hP hD rfl (gM0 g (sF σ 0 0) tl)) rfl rfl hl.1 rfl (lv_room (Nat.le_of_ble_eq_true rfl)) dX11_appendLetter_29 ⟨Nat.le_of_ble_eq_true rfl, Nat.le_of_ble_eq_true rfl⟩) hD hS hAA (fun r_29 u H locs hw_ hP hD hS => ?_)
      obtain rfl := hw_
      have hP : va_P (g.1, g.2.1) vwCl (wM g (sF (sF σ 0 0) 0 2) ++ tl) H := hP
      have hD : va_D A (wM g (sF (sF σ 0 0) 0 2) ++ tl) := hD
      exact hq _ _ _ _ ((nI 0)) (0, 2, (σ.1 6), (σ.2.1 5)) dX11_appendLetter_32 ⟨rfl, (Or.inr (Or.inl ⟨by omega, by omega, rfl, rfl, rfl⟩))⟩ hP hD hS
  · refine lv_aload_n hx hb dX11_appendLetter_12 rfl (lv_at hl 0 rfl) ?_
    refine lv_iconst (v := nI 1) hx hb dX11_appendLetter_13 (by decide) ?_
    refine jn_calli (va_runV (As := [.int (nI 1)]) (rest := []) ⟨hx, hb, hml, hown, hts⟩ (c_X11_fails l g tl H.size (sF σ 0 0) 1) (cwV 1 hts gX11_appendLetter_X11_fails rfl rfl rfl (by decide +kernel) ⟨Nat.le_of_ble_eq_true rfl, Nat.le_of_ble_eq_true rfl⟩) (okWV hK hP hD rfl (gM0 g (sF σ 0 0) tl)) rfl rfl hl.1 rfl (lv_room (Nat.le_of_ble_eq_true rfl)) dX11_appendLetter_14 ⟨Nat.le_of_ble_eq_true rfl, Nat.le_of_ble_eq_true rfl⟩) hD hS hAA (fun r_14 u H locs hw_ hP hD hS => ?_)
    obtain rfl := hw_
    have hP : va_P (g.1, g.2.1) vwCl (wM g (sF (sF σ 0 0) 0 1) ++ tl) H := hP
    have hD : va_D A (wM g (sF (sF σ 0 0) 0 1) ++ tl) := hD
    exact hq _ _ _ _ ((nI 0)) (0, 1, (σ.1 6), (σ.2.1 5)) dX11_appendLetter_17 ⟨rfl, (Or.inl ⟨by omega, rfl, rfl, rfl⟩)⟩ hP hD hS

abbrev r_c_X11_letterAt : Room := { frames := 1, cells := 0, slots := 0, locals := 22 }
set_option maxHeartbeats 4000000 in
set_option maxRecDepth 100000 in
theorem c_X11_letterAt (l : Launch) (g : GC) (tl : va_W) (sz : Nat) (σ : SS) (x : Nat) (hn : (σ.1 6) ≤ 8) (hx : x < 4294967296) : Met l yX11_letterAt wsX11_letterAt r_c_X11_letterAt (va_Pc [.ref (g.2.2.2 0), .int (nI x)] (PW g (wM g σ ++ tl) sz)) (va_Qi (fun (r : Int32) (z : Nat × Nat) => match z with | (r0, th) => (r = nI (r0)) ∧ ((¬ x < (σ.1 6) ∧ th = 1) ∨ (x < (σ.1 6) ∧ th = 0 ∧ r0 = (σ.2.1 5) x))) (fun (z : Nat × Nat) t => BW g (va_A (wM g σ ++ tl) sz) ((fun z : Nat × Nat => match z with | (r0, th) => wM g (sF σ 0 th) ++ tl) z) t) (va_A (wM g σ ++ tl) sz)) 0 0 (va_A (wM g σ ++ tl) sz) := by
  refine jn_si (wf := fun z : Nat × Nat => match z with | (r0, th) => wM g (sF σ 0 th) ++ tl) (cc := cX11_letterAt) (maxL := 2) (own := RX11) (by decide) rfl rfl (Nat.le_of_ble_eq_true rfl) ?_
  intro p e s m below meth c Q A hx hb hml hown hts hK hP hD hS hAA hq ls hl
  obtain ⟨H, eH⟩ : ∃ z, z = s.heap := ⟨_, rfl⟩
  obtain ⟨locs, el⟩ : ∃ z : List Loc, z = [] := ⟨_, rfl⟩
  rw [← eH] at hP
  have hS : va_S A s.heap H locs := by rw [eH, el]; exact hS
  have goal0 : W p l e r_c_X11_letterAt s m ([.ref (g.2.2.2 0), .int (nI x)] : List Value).toArray below meth c H locs 0 0 Q (F0 m 0 ls []) → W p l e r_c_X11_letterAt s m ([.ref (g.2.2.2 0), .int (nI x)] : List Value).toArray below meth c s.heap [] 0 0 Q (F0 m 0 ls []) := fun h => by rw [eH, el] at h; exact h
  refine goal0 ?_
  have hl : lv_has ls 2 [(0, .ref (g.2.2.2 0)), (1, .int (nI x))] := hl
  have iX11 : ∀ w ∈ wsX110, w ∈ wsX11_letterAt := by decide +kernel
  have k1 := hts (.fieldLink RX11 1 "JumpingAutomataModel" "thrown" "I") (by decide +kernel)
  have k51 := hts (.fieldLink RX11 51 "JumpingAutomataModel" "length" "I") (by decide +kernel)
  have k45 := hts (.fieldLink RX11 45 "JumpingAutomataModel" "word" "[I") (by decide +kernel)
  refine lv_aload_n hx hb dX11_letterAt_0 rfl (lv_at hl 0 rfl) ?_
  refine lv_iconst (v := nI 0) hx hb dX11_letterAt_1 (by decide) ?_
  refine jn_put (D := (g.1, g.2.1)) (ci := 13) (v := .int (nI 0)) (ty := .int) (C := RX11) (T := TX11) (N := 30) hx hb hts iX11 tyX11 tyX11_ok nmX11 hown hK.1 hP hD hS 0 (gM0 g σ tl) rfl 0 (by decide) k1 (fun _ h9 => h9) rfl (by decide +kernel) rfl rfl (Nat.le_of_ble_eq_true rfl) (uM_F0 g σ tl 0) dX11_letterAt_2 (fun H locs hP hD hS => ?_)
  refine lv_iload_n hx hb dX11_letterAt_5 rfl (lv_at hl 1 rfl) ?_
  refine lv_iconst (v := nI 0) hx hb dX11_letterAt_6 (by decide) ?_
  refine lv_aload_n hx hb dX11_letterAt_7 rfl (lv_at hl 0 rfl) ?_
  refine va_get (D := (g.1, g.2.1)) (ci := 13) (v := .int (nI (σ.1 6))) (C := RX11) (T := TX11) (N := 30) hx hb hts iX11 hown hK.1 hP 0 (gM0 g (sF σ 0 0) tl) rfl 13 (by decide) k51 (fun _ h9 => h9) rfl dX11_letterAt_8 ?_
  refine lv_iconst (v := nI 1) hx hb dX11_letterAt_11 (by decide) ?_
  refine jn_isubB hx hb (by decide) dX11_letterAt_12 ?_
  refine vp_callSi (va_Run.run (va_runS (As := [.int (nI x), .int (nI 0), .int (nI (sb (σ.1 6) 1))]) (rest := []) ⟨hx, hb, hml, hown, hts⟩ (c_X11_in l x 0 (sb (σ.1 6) 1) (by omega) (by decide) (sb_lt (by omega))) (va_cwS 3 hts gX11_letterAt_X11_in rfl rfl rfl (by decide +kernel) ⟨Nat.le_of_ble_eq_true rfl, Nat.le_of_ble_eq_true rfl⟩) okTS rfl rfl hl.1 rfl (lv_room (Nat.le_of_ble_eq_true rfl)) dX11_letterAt_13 ⟨Nat.le_of_ble_eq_true rfl, Nat.le_of_ble_eq_true rfl⟩)) (fun r_13 h_13 => ?_)
  subst h_13
  refine jn_beq hx hb (tgt := 28) dX11_letterAt_16 (by decide) (fun c_16 => ?_) (fun c_16 => ?_)
  · have c9 := fun q => c_16 ((sb1 hn).mpr q)
    refine lv_aload_n hx hb dX11_letterAt_28 rfl (lv_at hl 0 rfl) ?_
    refine lv_iconst (v := nI 1) hx hb dX11_letterAt_29 (by decide) ?_
    refine jn_calli (va_runV (As := [.int (nI 1)]) (rest := []) ⟨hx, hb, hml, hown, hts⟩ (c_X11_fails l g tl H.size (sF σ 0 0) 1) (cwV 1 hts gX11_letterAt_X11_fails rfl rfl rfl (by decide +kernel) ⟨Nat.le_of_ble_eq_true rfl, Nat.le_of_ble_eq_true rfl⟩) (okWV hK hP hD rfl (gM0 g (sF σ 0 0) tl)) rfl rfl hl.1 rfl (lv_room (Nat.le_of_ble_eq_true rfl)) dX11_letterAt_30 ⟨Nat.le_of_ble_eq_true rfl, Nat.le_of_ble_eq_true rfl⟩) hD hS hAA (fun r_30 u H locs hw_ hP hD hS => ?_)
    obtain rfl := hw_
    have hP : va_P (g.1, g.2.1) vwCl (wM g (sF (sF σ 0 0) 0 1) ++ tl) H := hP
    have hD : va_D A (wM g (sF (sF σ 0 0) 0 1) ++ tl) := hD
    exact hq _ _ _ _ ((nI 0)) (_, 1) dX11_letterAt_33 (by first | exact ⟨rfl, (Or.inl ⟨c9, rfl⟩)⟩ | exact ⟨rfl, (Or.inr ⟨c9, rfl, rfl⟩)⟩) hP hD hS
  · have c9 := (sb1 hn).mp c_16
    refine lv_aload_n hx hb dX11_letterAt_19 rfl (lv_at hl 0 rfl) ?_
    refine va_get (D := (g.1, g.2.1)) (ci := 13) (v := .ref (g.2.2.2 6)) (C := RX11) (T := TX11) (N := 30) hx hb hts iX11 hown hK.1 hP 0 (gM0 g (sF σ 0 0) tl) rfl 11 (by decide) k45 (fun _ h9 => h9) rfl dX11_letterAt_20 ?_
    refine lv_iload_n hx hb dX11_letterAt_23 rfl (lv_at hl 1 rfl) ?_
    refine jn_iald (f := σ.2.1 5) hx hb hK.1 hP 6 0 (gM6 g (sF σ 0 0) tl) rfl (by omega) (Nat.le_of_ble_eq_true rfl) dX11_letterAt_24 ?_
    refine lv_goto (tgt := 33) hx hb dX11_letterAt_25 (by decide) ?_
    exact hq _ _ _ _ ((nI ((σ.2.1 5) x))) (_, 0) dX11_letterAt_33 (by first | exact ⟨rfl, (Or.inl ⟨c9, rfl⟩)⟩ | exact ⟨rfl, (Or.inr ⟨c9, rfl, rfl⟩)⟩) hP hD hS

abbrev r_c_X11_undo : Room := { frames := 1, cells := 0, slots := 0, locals := 21 }
set_option maxHeartbeats 4000000 in
set_option maxRecDepth 100000 in
theorem c_X11_undo (l : Launch) (g : GC) (tl : va_W) (sz : Nat) (σ : SS) (hc8 : (σ.1 1) ≤ 8) : Met l yX11_undo wsX11_undo r_c_X11_undo (va_Pc [.ref (g.2.2.2 0)] (PW g (wM g σ ++ tl) sz)) (va_Qi (fun (r : Int32) (z : Nat × Nat × Nat × (Nat → Nat)) => match z with | (r0, th, ch, nw) => (r = nI (r0)) ∧ (((σ.1 1) = 0 ∧ th = 1 ∧ ch = (σ.1 1) ∧ nw = (σ.2.1 0)) ∨ (0 < (σ.1 1) ∧ th = 0 ∧ ch = (σ.1 1) - 1 ∧ (∀ k, k < 122 → nw k = (σ.2.1 2) (((σ.1 1) - 1) * 122 + k)) ∧ r0 = (σ.1 1) - 1))) (fun (z : Nat × Nat × Nat × (Nat → Nat)) t => BW g (va_A (wM g σ ++ tl) sz) ((fun z : Nat × Nat × Nat × (Nat → Nat) => match z with | (r0, th, ch, nw) => wM g (sA (sF (sF σ 0 th) 1 ch) 0 nw) ++ tl) z) t) (va_A (wM g σ ++ tl) sz)) 0 0 (va_A (wM g σ ++ tl) sz) := by
  refine jn_si (wf := fun z : Nat × Nat × Nat × (Nat → Nat) => match z with | (r0, th, ch, nw) => wM g (sA (sF (sF σ 0 th) 1 ch) 0 nw) ++ tl) (cc := cX11_undo) (maxL := 2) (own := RX11) (by decide) rfl rfl (Nat.le_of_ble_eq_true rfl) ?_
  intro p e s m below meth c Q A hx hb hml hown hts hK hP hD hS hAA hq ls hl
  obtain ⟨H, eH⟩ : ∃ z, z = s.heap := ⟨_, rfl⟩
  obtain ⟨locs, el⟩ : ∃ z : List Loc, z = [] := ⟨_, rfl⟩
  rw [← eH] at hP
  have hS : va_S A s.heap H locs := by rw [eH, el]; exact hS
  have goal0 : W p l e r_c_X11_undo s m ([.ref (g.2.2.2 0)] : List Value).toArray below meth c H locs 0 0 Q (F0 m 0 ls []) → W p l e r_c_X11_undo s m ([.ref (g.2.2.2 0)] : List Value).toArray below meth c s.heap [] 0 0 Q (F0 m 0 ls []) := fun h => by rw [eH, el] at h; exact h
  refine goal0 ?_
  have hl : lv_has ls 2 [(0, .ref (g.2.2.2 0))] := hl
  have iX11 : ∀ w ∈ wsX110, w ∈ wsX11_undo := by decide +kernel
  have k1 := hts (.fieldLink RX11 1 "JumpingAutomataModel" "thrown" "I") (by decide +kernel)
  have k23 := hts (.fieldLink RX11 23 "JumpingAutomataModel" "changes" "I") (by decide +kernel)
  have k13 := hts (.fieldLink RX11 13 "JumpingAutomataModel" "now" "[I") (by decide +kernel)
  have k20 := hts (.fieldLink RX11 20 "JumpingAutomataModel" "kept" "[I") (by decide +kernel)
  refine lv_aload_n hx hb dX11_undo_0 rfl (lv_at hl 0 rfl) ?_
  refine lv_iconst (v := nI 0) hx hb dX11_undo_1 (by decide) ?_
  refine jn_put (D := (g.1, g.2.1)) (ci := 13) (v := .int (nI 0)) (ty := .int) (C := RX11) (T := TX11) (N := 30) hx hb hts iX11 tyX11 tyX11_ok nmX11 hown hK.1 hP hD hS 0 (gM0 g σ tl) rfl 0 (by decide) k1 (fun _ h9 => h9) rfl (by decide +kernel) rfl rfl (Nat.le_of_ble_eq_true rfl) (uM_F0 g σ tl 0) dX11_undo_2 (fun H locs hP hD hS => ?_)
  refine lv_aload_n hx hb dX11_undo_5 rfl (lv_at hl 0 rfl) ?_
  refine va_get (D := (g.1, g.2.1)) (ci := 13) (v := .int (nI (σ.1 1))) (C := RX11) (T := TX11) (N := 30) hx hb hts iX11 hown hK.1 hP 0 (gM0 g (sF σ 0 0) tl) rfl 4 (by decide) k23 (fun _ h9 => h9) rfl dX11_undo_6 ?_
  refine jn_zne hx hb (by omega) (tgt := 18) dX11_undo_9 (by decide) (fun c_9 => ?_) (fun c_9 => ?_)
  · refine lv_aload_n hx hb dX11_undo_18 rfl (lv_at hl 0 rfl) ?_
    refine lv_dup hx hb dX11_undo_19 rfl ?_
    refine va_get (D := (g.1, g.2.1)) (ci := 13) (v := .int (nI (σ.1 1))) (C := RX11) (T := TX11) (N := 30) hx hb hts iX11 hown hK.1 hP 0 (gM0 g (sF σ 0 0) tl) rfl 4 (by decide) k23 (fun _ h9 => h9) rfl dX11_undo_20 ?_
    refine lv_iconst (v := nI 1) hx hb dX11_undo_23 (by decide) ?_
    refine jn_isub hx hb (by omega) dX11_undo_24 ?_
    refine jn_put (D := (g.1, g.2.1)) (ci := 13) (v := .int (nI ((σ.1 1) - 1))) (ty := .int) (C := RX11) (T := TX11) (N := 30) hx hb hts iX11 tyX11 tyX11_ok nmX11 hown hK.1 hP hD hS 0 (gM0 g (sF σ 0 0) tl) rfl 4 (by decide) k23 (fun _ h9 => h9) rfl (by decide +kernel) rfl rfl (Nat.le_of_ble_eq_true rfl) (uM_F1 g (sF σ 0 0) tl ((σ.1 1) - 1)) dX11_undo_25 (fun H locs hP hD hS => ?_)
    refine lv_iconst (v := nI 0) hx hb dX11_undo_28 (by decide) ?_
    refine lv_istore_n (lv' := [(1, .int (nI 0)), (0, .ref (g.2.2.2 0))]) hx hb dX11_undo_29 rfl hl (by decide) rfl (fun ls hl => ?_)
    have lp30 : ∀ (fu : Nat), ∀ (i : Nat) (f : Nat → Nat), (i ≤ 122) → (∀ k, k < i → f k = (σ.2.1 2) (((σ.1 1) - 1) * 122 + k)) → 122 - i < fu → ∀ (H : Heap) (locs : List Loc), va_P (g.1, g.2.1) vwCl (wM g (sA (sF (sF σ 0 0) 1 ((σ.1 1) - 1)) 0 f) ++ tl) H → va_D A (wM g (sA (sF (sF σ 0 0) 1 ((σ.1 1) - 1)) 0 f) ++ tl) → va_S A s.heap H locs → ∀ ls : Array Slot, lv_has ls 2 [(0, .ref (g.2.2.2 0)), (1, .int (nI i))] → W p l e r_c_X11_undo s m ([.ref (g.2.2.2 0)] : List Value).toArray below meth c H locs 0 0 Q (F0 m 30 ls []) := by
      intro fu
      induction fu with
      | zero => intro i f h1 h2 hf; exact absurd hf (Nat.not_lt_zero _)
      | succ fu ih30 =>
        intro i f h1 h2 hf H locs hP hD hS ls hl
        refine lv_iload_n hx hb dX11_undo_30 rfl (lv_at hl 1 rfl) ?_
        refine lv_bipush (v := nI 122) hx hb dX11_undo_31 (by decide) ?_
        refine jn_cge hx hb (by omega) (by decide) (tgt := 62) dX11_undo_33 (by decide) (fun c_33 => ?_) (fun c_33 => ?_)
        · refine lv_aload_n hx hb dX11_undo_62 rfl (lv_at hl 0 rfl) ?_
          refine va_get (D := (g.1, g.2.1)) (ci := 13) (v := .int (nI ((σ.1 1) - 1))) (C := RX11) (T := TX11) (N := 30) hx hb hts iX11 hown hK.1 hP 0 (gM0 g (sA (sF (sF σ 0 0) 1 ((σ.1 1) - 1)) 0 f) tl) rfl 4 (by decide) k23 (fun _ h9 => h9) rfl dX11_undo_63 ?_
          exact hq _ _ _ _ ((nI ((σ.1 1) - 1))) ((σ.1 1) - 1, 0, (σ.1 1) - 1, f) dX11_undo_66 ⟨rfl, Or.inr ⟨by omega, rfl, rfl, fun k hk => h2 k (by omega), rfl⟩⟩ hP hD hS
        · refine lv_aload_n hx hb dX11_undo_36 rfl (lv_at hl 0 rfl) ?_
          refine va_get (D := (g.1, g.2.1)) (ci := 13) (v := .ref (g.2.2.2 1)) (C := RX11) (T := TX11) (N := 30) hx hb hts iX11 hown hK.1 hP 0 (gM0 g (sA (sF (sF σ 0 0) 1 ((σ.1 1) - 1)) 0 f) tl) rfl 1 (by decide) k13 (fun _ h9 => h9) rfl dX11_undo_37 ?_
          refine lv_iload_n hx hb dX11_undo_40 rfl (lv_at hl 1 rfl) ?_
          refine lv_aload_n hx hb dX11_undo_41 rfl (lv_at hl 0 rfl) ?_
          refine va_get (D := (g.1, g.2.1)) (ci := 13) (v := .ref (g.2.2.2 3)) (C := RX11) (T := TX11) (N := 30) hx hb hts iX11 hown hK.1 hP 0 (gM0 g (sA (sF (sF σ 0 0) 1 ((σ.1 1) - 1)) 0 f) tl) rfl 3 (by decide) k20 (fun _ h9 => h9) rfl dX11_undo_42 ?_
          refine lv_aload_n hx hb dX11_undo_45 rfl (lv_at hl 0 rfl) ?_
          refine va_get (D := (g.1, g.2.1)) (ci := 13) (v := .int (nI ((σ.1 1) - 1))) (C := RX11) (T := TX11) (N := 30) hx hb hts iX11 hown hK.1 hP 0 (gM0 g (sA (sF (sF σ 0 0) 1 ((σ.1 1) - 1)) 0 f) tl) rfl 4 (by decide) k23 (fun _ h9 => h9) rfl dX11_undo_46 ?_
          refine lv_bipush (v := nI 122) hx hb dX11_undo_49 (by decide) ?_
          refine jn_imul hx hb dX11_undo_51 ?_
          refine lv_iload_n hx hb dX11_undo_52 rfl (lv_at hl 1 rfl) ?_
          refine jn_iadd hx hb dX11_undo_53 ?_
          refine jn_iald (f := σ.2.1 2) hx hb hK.1 hP 3 0 (gM3 g (sA (sF (sF σ 0 0) 1 ((σ.1 1) - 1)) 0 f) tl) rfl (by omega) (Nat.le_of_ble_eq_true rfl) dX11_undo_54 ?_
          refine jn_iast (f := f) hx hb hK.1 hP hD hS 1 0 (gM1 g (sA (sF (sF σ 0 0) 1 ((σ.1 1) - 1)) 0 f) tl) rfl (by omega) (Nat.le_of_ble_eq_true rfl) (uM_A0 g (sA (sF (sF σ 0 0) 1 ((σ.1 1) - 1)) 0 f) tl _) dX11_undo_55 (fun H locs hP hD hS => ?_)
          refine lv_iinc (v := nI (i + 1)) (lv' := [(1, .int (nI (i + 1))), (0, .ref (g.2.2.2 0))]) hx hb dX11_undo_56 hl (k := 1) rfl (jn_ii _ 1) (by decide) rfl (fun ls hl => ?_)
          refine lv_goto (tgt := 30) hx hb dX11_undo_59 (by decide) ?_
          exact ih30 (i + 1) (va_up f i ((σ.2.1 2) ((((σ.1 1) - 1) * 122) + i))) (by omega) (fun k hk => by unfold va_up; split; { rename_i q; rw [q] }; { exact h2 k (by omega) }) (by omega) _ _ hP hD hS _ (lv_sub hl [1, 0] rfl)
    exact lp30 _ 0 (σ.2.1 0) (by decide) (fun k hk => absurd hk (by omega)) (Nat.lt_succ_self _) _ _ hP hD hS _ (lv_sub hl [1, 0] rfl)
  · refine lv_aload_n hx hb dX11_undo_12 rfl (lv_at hl 0 rfl) ?_
    refine lv_iconst (v := nI 1) hx hb dX11_undo_13 (by decide) ?_
    refine jn_calli (va_runV (As := [.int (nI 1)]) (rest := []) ⟨hx, hb, hml, hown, hts⟩ (c_X11_fails l g tl H.size (sF σ 0 0) 1) (cwV 1 hts gX11_undo_X11_fails rfl rfl rfl (by decide +kernel) ⟨Nat.le_of_ble_eq_true rfl, Nat.le_of_ble_eq_true rfl⟩) (okWV hK hP hD rfl (gM0 g (sF σ 0 0) tl)) rfl rfl hl.1 rfl (lv_room (Nat.le_of_ble_eq_true rfl)) dX11_undo_14 ⟨Nat.le_of_ble_eq_true rfl, Nat.le_of_ble_eq_true rfl⟩) hD hS hAA (fun r_14 u H locs hw_ hP hD hS => ?_)
    obtain rfl := hw_
    have hP : va_P (g.1, g.2.1) vwCl (wM g (sF (sF σ 0 0) 0 1) ++ tl) H := hP
    have hD : va_D A (wM g (sF (sF σ 0 0) 0 1) ++ tl) := hD
    exact hq _ _ _ _ ((nI 0)) (0, 1, (σ.1 1), (σ.2.1 0)) dX11_undo_17 ⟨rfl, (Or.inl ⟨c_9, rfl, rfl, rfl⟩)⟩ hP hD hS

abbrev r_c_X11_save : Room := { frames := 0, cells := 0, slots := 0, locals := 0 }
set_option maxHeartbeats 4000000 in
set_option maxRecDepth 100000 in
theorem c_X11_save (l : Launch) (g : GC) (tl : va_W) (sz : Nat) (σ : SS) : Met l yX11_save wsX11_save r_c_X11_save (va_Pc [.ref (g.2.2.2 0)] (PW g (wM g σ ++ tl) sz)) (va_Qv (fun (z : Nat × (Nat → Nat)) => match z with | (v, sv) => (v = 1) ∧ (∀ k, k < 122 → sv k = (σ.2.1 0) k)) (fun (z : Nat × (Nat → Nat)) t => BW g (va_A (wM g σ ++ tl) sz) ((fun z : Nat × (Nat → Nat) => match z with | (v, sv) => wM g (sA (sF σ 2 v) 1 sv) ++ tl) z) t) (va_A (wM g σ ++ tl) sz)) 0 0 (va_A (wM g σ ++ tl) sz) := by
  refine jn_sv (wf := fun z : Nat × (Nat → Nat) => match z with | (v, sv) => wM g (sA (sF σ 2 v) 1 sv) ++ tl) (cc := cX11_save) (maxL := 2) (own := RX11) (by decide) rfl rfl (Nat.le_of_ble_eq_true rfl) ?_
  intro p e s m below meth c Q A hx hb hml hown hts hK hP hD hS hAA hq ls hl
  obtain ⟨H, eH⟩ : ∃ z, z = s.heap := ⟨_, rfl⟩
  obtain ⟨locs, el⟩ : ∃ z : List Loc, z = [] := ⟨_, rfl⟩
  rw [← eH] at hP
  have hS : va_S A s.heap H locs := by rw [eH, el]; exact hS
  have goal0 : W p l e r_c_X11_save s m ([.ref (g.2.2.2 0)] : List Value).toArray below meth c H locs 0 0 Q (F0 m 0 ls []) → W p l e r_c_X11_save s m ([.ref (g.2.2.2 0)] : List Value).toArray below meth c s.heap [] 0 0 Q (F0 m 0 ls []) := fun h => by rw [eH, el] at h; exact h
  refine goal0 ?_
  have hl : lv_has ls 2 [(0, .ref (g.2.2.2 0))] := hl
  have iX11 : ∀ w ∈ wsX110, w ∈ wsX11_save := by decide +kernel
  have k26 := hts (.fieldLink RX11 26 "JumpingAutomataModel" "isSaved" "Z") (by decide +kernel)
  have k17 := hts (.fieldLink RX11 17 "JumpingAutomataModel" "saved" "[I") (by decide +kernel)
  have k13 := hts (.fieldLink RX11 13 "JumpingAutomataModel" "now" "[I") (by decide +kernel)
  refine lv_aload_n hx hb dX11_save_0 rfl (lv_at hl 0 rfl) ?_
  refine lv_iconst (v := nI 1) hx hb dX11_save_1 (by decide) ?_
  refine jn_put (D := (g.1, g.2.1)) (ci := 13) (v := .int (nI 1)) (ty := .boolean) (C := RX11) (T := TX11) (N := 30) hx hb hts iX11 tyX11 tyX11_ok nmX11 hown hK.1 hP hD hS 0 (gM0 g σ tl) rfl 5 (by decide) k26 (fun _ h9 => h9) rfl (by decide +kernel) jn_n1 jn_f1 (Nat.le_of_ble_eq_true rfl) (uM_F2 g σ tl 1) dX11_save_2 (fun H locs hP hD hS => ?_)
  refine lv_iconst (v := nI 0) hx hb dX11_save_5 (by decide) ?_
  refine lv_istore_n (lv' := [(1, .int (nI 0)), (0, .ref (g.2.2.2 0))]) hx hb dX11_save_6 rfl hl (by decide) rfl (fun ls hl => ?_)
  have lp7 : ∀ (fu : Nat), ∀ (i : Nat) (f : Nat → Nat), (i ≤ 122) → (∀ k, k < i → f k = (σ.2.1 0) k) → 122 - i < fu → ∀ (H : Heap) (locs : List Loc), va_P (g.1, g.2.1) vwCl (wM g (sA (sF σ 2 1) 1 f) ++ tl) H → va_D A (wM g (sA (sF σ 2 1) 1 f) ++ tl) → va_S A s.heap H locs → ∀ ls : Array Slot, lv_has ls 2 [(0, .ref (g.2.2.2 0)), (1, .int (nI i))] → W p l e r_c_X11_save s m ([.ref (g.2.2.2 0)] : List Value).toArray below meth c H locs 0 0 Q (F0 m 7 ls []) := by
    intro fu
    induction fu with
    | zero => intro i f h1 h2 hf; exact absurd hf (Nat.not_lt_zero _)
    | succ fu ih7 =>
      intro i f h1 h2 hf H locs hP hD hS ls hl
      refine lv_iload_n hx hb dX11_save_7 rfl (lv_at hl 1 rfl) ?_
      refine lv_bipush (v := nI 122) hx hb dX11_save_8 (by decide) ?_
      refine jn_cge hx hb (by omega) (by decide) (tgt := 31) dX11_save_10 (by decide) (fun c_10 => ?_) (fun c_10 => ?_)
      · exact hq _ _ _ _ (1, f) dX11_save_31 ⟨rfl, fun k hk => h2 k (by omega)⟩ hP hD hS
      · refine lv_aload_n hx hb dX11_save_13 rfl (lv_at hl 0 rfl) ?_
        refine va_get (D := (g.1, g.2.1)) (ci := 13) (v := .ref (g.2.2.2 2)) (C := RX11) (T := TX11) (N := 30) hx hb hts iX11 hown hK.1 hP 0 (gM0 g (sA (sF σ 2 1) 1 f) tl) rfl 2 (by decide) k17 (fun _ h9 => h9) rfl dX11_save_14 ?_
        refine lv_iload_n hx hb dX11_save_17 rfl (lv_at hl 1 rfl) ?_
        refine lv_aload_n hx hb dX11_save_18 rfl (lv_at hl 0 rfl) ?_
        refine va_get (D := (g.1, g.2.1)) (ci := 13) (v := .ref (g.2.2.2 1)) (C := RX11) (T := TX11) (N := 30) hx hb hts iX11 hown hK.1 hP 0 (gM0 g (sA (sF σ 2 1) 1 f) tl) rfl 1 (by decide) k13 (fun _ h9 => h9) rfl dX11_save_19 ?_
        refine lv_iload_n hx hb dX11_save_22 rfl (lv_at hl 1 rfl) ?_
        refine jn_iald (f := σ.2.1 0) hx hb hK.1 hP 1 0 (gM1 g (sA (sF σ 2 1) 1 f) tl) rfl (by omega) (Nat.le_of_ble_eq_true rfl) dX11_save_23 ?_
        refine jn_iast (f := f) hx hb hK.1 hP hD hS 2 0 (gM2 g (sA (sF σ 2 1) 1 f) tl) rfl (by omega) (Nat.le_of_ble_eq_true rfl) (uM_A1 g (sA (sF σ 2 1) 1 f) tl _) dX11_save_24 (fun H locs hP hD hS => ?_)
        refine lv_iinc (v := nI (i + 1)) (lv' := [(1, .int (nI (i + 1))), (0, .ref (g.2.2.2 0))]) hx hb dX11_save_25 hl (k := 1) rfl (jn_ii _ 1) (by decide) rfl (fun ls hl => ?_)
        refine lv_goto (tgt := 7) hx hb dX11_save_28 (by decide) ?_
        exact ih7 (i + 1) (va_up f i ((σ.2.1 0) i)) (by omega) (fun k hk => by unfold va_up; split; { rename_i q; rw [q] }; { exact h2 k (by omega) }) (by omega) _ _ hP hD hS _ (lv_sub hl [1, 0] rfl)
  exact lp7 _ 0 (σ.2.1 1) (by decide) (fun k hk => absurd hk (by omega)) (Nat.lt_succ_self _) _ _ hP hD hS _ (lv_sub hl [1, 0] rfl)

abbrev r_c_X11_restore : Room := { frames := 1, cells := 0, slots := 0, locals := 21 }
set_option maxHeartbeats 4000000 in
set_option maxRecDepth 100000 in
theorem c_X11_restore (l : Launch) (g : GC) (tl : va_W) (sz : Nat) (σ : SS) (hc8 : (σ.1 1) ≤ 8) (hs : σ.1 2 < 2) : Met l yX11_restore wsX11_restore r_c_X11_restore (va_Pc [.ref (g.2.2.2 0)] (PW g (wM g σ ++ tl) sz)) (va_Qv (fun (z : Nat × Nat × (Nat → Nat) × (Nat → Nat)) => match z with | (th, ch, nw, kp) => (σ.1 2 = 0 ∧ th = 1 ∧ ch = (σ.1 1) ∧ nw = (σ.2.1 0) ∧ kp = (σ.2.1 2)) ∨ (σ.1 2 ≠ 0 ∧ th = 0 ∧ KpO (σ.2.1 2) (σ.2.1 0) (σ.1 1) kp ∧ ch = min ((σ.1 1) + 1) 8 ∧ (∀ k, k < 122 → nw k = (σ.2.1 1) k))) (fun (z : Nat × Nat × (Nat → Nat) × (Nat → Nat)) t => BW g (va_A (wM g σ ++ tl) sz) ((fun z : Nat × Nat × (Nat → Nat) × (Nat → Nat) => match z with | (th, ch, nw, kp) => wM g (sA (sA (sF (sF σ 0 th) 1 ch) 0 nw) 2 kp) ++ tl) z) t) (va_A (wM g σ ++ tl) sz)) 0 0 (va_A (wM g σ ++ tl) sz) := by
  refine jn_sv (wf := fun z : Nat × Nat × (Nat → Nat) × (Nat → Nat) => match z with | (th, ch, nw, kp) => wM g (sA (sA (sF (sF σ 0 th) 1 ch) 0 nw) 2 kp) ++ tl) (cc := cX11_restore) (maxL := 2) (own := RX11) (by decide) rfl rfl (Nat.le_of_ble_eq_true rfl) ?_
  intro p e s m below meth c Q A hx hb hml hown hts hK hP hD hS hAA hq ls hl
  obtain ⟨H, eH⟩ : ∃ z, z = s.heap := ⟨_, rfl⟩
  obtain ⟨locs, el⟩ : ∃ z : List Loc, z = [] := ⟨_, rfl⟩
  rw [← eH] at hP
  have hS : va_S A s.heap H locs := by rw [eH, el]; exact hS
  have goal0 : W p l e r_c_X11_restore s m ([.ref (g.2.2.2 0)] : List Value).toArray below meth c H locs 0 0 Q (F0 m 0 ls []) → W p l e r_c_X11_restore s m ([.ref (g.2.2.2 0)] : List Value).toArray below meth c s.heap [] 0 0 Q (F0 m 0 ls []) := fun h => by rw [eH, el] at h; exact h
  refine goal0 ?_
  have hl : lv_has ls 2 [(0, .ref (g.2.2.2 0))] := hl
  have iX11 : ∀ w ∈ wsX110, w ∈ wsX11_restore := by decide +kernel
  have k1 := hts (.fieldLink RX11 1 "JumpingAutomataModel" "thrown" "I") (by decide +kernel)
  have k26 := hts (.fieldLink RX11 26 "JumpingAutomataModel" "isSaved" "Z") (by decide +kernel)
  have k13 := hts (.fieldLink RX11 13 "JumpingAutomataModel" "now" "[I") (by decide +kernel)
  have k17 := hts (.fieldLink RX11 17 "JumpingAutomataModel" "saved" "[I") (by decide +kernel)
  refine lv_aload_n hx hb dX11_restore_0 rfl (lv_at hl 0 rfl) ?_
  refine lv_iconst (v := nI 0) hx hb dX11_restore_1 (by decide) ?_
  refine jn_put (D := (g.1, g.2.1)) (ci := 13) (v := .int (nI 0)) (ty := .int) (C := RX11) (T := TX11) (N := 30) hx hb hts iX11 tyX11 tyX11_ok nmX11 hown hK.1 hP hD hS 0 (gM0 g σ tl) rfl 0 (by decide) k1 (fun _ h9 => h9) rfl (by decide +kernel) rfl rfl (Nat.le_of_ble_eq_true rfl) (uM_F0 g σ tl 0) dX11_restore_2 (fun H locs hP hD hS => ?_)
  refine lv_aload_n hx hb dX11_restore_5 rfl (lv_at hl 0 rfl) ?_
  refine va_get (D := (g.1, g.2.1)) (ci := 13) (v := .int (nI (σ.1 2))) (C := RX11) (T := TX11) (N := 30) hx hb hts iX11 hown hK.1 hP 0 (gM0 g (sF σ 0 0) tl) rfl 5 (by decide) k26 (fun _ h9 => h9) rfl dX11_restore_6 ?_
  refine jn_zne hx hb (by omega) (tgt := 18) dX11_restore_9 (by decide) (fun c_9 => ?_) (fun c_9 => ?_)
  · refine lv_aload_n hx hb dX11_restore_18 rfl (lv_at hl 0 rfl) ?_
    refine jn_callv (va_runV (As := []) (rest := []) ⟨hx, hb, hml, hown, hts⟩ (c_X11_keeps l g tl H.size (sF σ 0 0) hc8) (cwV 0 hts gX11_restore_X11_keeps rfl rfl rfl (by decide +kernel) ⟨Nat.le_of_ble_eq_true rfl, Nat.le_of_ble_eq_true rfl⟩) (okWV hK hP hD rfl (gM0 g (sF σ 0 0) tl)) rfl rfl hl.1 rfl (lv_room (Nat.le_of_ble_eq_true rfl)) dX11_restore_19 ⟨Nat.le_of_ble_eq_true rfl, Nat.le_of_ble_eq_true rfl⟩) hD hS hAA (fun u H locs hw_ hP hD hS => ?_)
    obtain ⟨kp_19, ch_19⟩ := u
    have h_19 := hw_
    have h_19 : (KpO (σ.2.1 2) (σ.2.1 0) (σ.1 1) kp_19) ∧ (ch_19 = min ((σ.1 1) + 1) 8) := h_19
    have hP : va_P (g.1, g.2.1) vwCl (wM g (sA (sF (sF σ 0 0) 1 ch_19) 2 kp_19) ++ tl) H := hP
    have hD : va_D A (wM g (sA (sF (sF σ 0 0) 1 ch_19) 2 kp_19) ++ tl) := hD
    refine lv_iconst (v := nI 0) hx hb dX11_restore_22 (by decide) ?_
    refine lv_istore_n (lv' := [(1, .int (nI 0)), (0, .ref (g.2.2.2 0))]) hx hb dX11_restore_23 rfl hl (by decide) rfl (fun ls hl => ?_)
    have lp24 : ∀ (fu : Nat), ∀ (i : Nat) (f : Nat → Nat), (i ≤ 122) → (∀ k, k < i → f k = (σ.2.1 1) k) → 122 - i < fu → ∀ (H : Heap) (locs : List Loc), va_P (g.1, g.2.1) vwCl (wM g (sA (sA (sF (sF σ 0 0) 1 ch_19) 0 f) 2 kp_19) ++ tl) H → va_D A (wM g (sA (sA (sF (sF σ 0 0) 1 ch_19) 0 f) 2 kp_19) ++ tl) → va_S A s.heap H locs → ∀ ls : Array Slot, lv_has ls 2 [(0, .ref (g.2.2.2 0)), (1, .int (nI i))] → W p l e r_c_X11_restore s m ([.ref (g.2.2.2 0)] : List Value).toArray below meth c H locs 0 0 Q (F0 m 24 ls []) := by
      intro fu
      induction fu with
      | zero => intro i f h1 h2 hf; exact absurd hf (Nat.not_lt_zero _)
      | succ fu ih24 =>
        intro i f h1 h2 hf H locs hP hD hS ls hl
        refine lv_iload_n hx hb dX11_restore_24 rfl (lv_at hl 1 rfl) ?_
        refine lv_bipush (v := nI 122) hx hb dX11_restore_25 (by decide) ?_
        refine jn_cge hx hb (by omega) (by decide) (tgt := 48) dX11_restore_27 (by decide) (fun c_27 => ?_) (fun c_27 => ?_)
        · exact hq _ _ _ _ (0, ch_19, f, kp_19) dX11_restore_48 (Or.inr ⟨c_9, rfl, h_19.1, h_19.2, fun k hk => h2 k (by omega)⟩) hP hD hS
        · refine lv_aload_n hx hb dX11_restore_30 rfl (lv_at hl 0 rfl) ?_
          refine va_get (D := (g.1, g.2.1)) (ci := 13) (v := .ref (g.2.2.2 1)) (C := RX11) (T := TX11) (N := 30) hx hb hts iX11 hown hK.1 hP 0 (gM0 g (sA (sA (sF (sF σ 0 0) 1 ch_19) 0 f) 2 kp_19) tl) rfl 1 (by decide) k13 (fun _ h9 => h9) rfl dX11_restore_31 ?_
          refine lv_iload_n hx hb dX11_restore_34 rfl (lv_at hl 1 rfl) ?_
          refine lv_aload_n hx hb dX11_restore_35 rfl (lv_at hl 0 rfl) ?_
          refine va_get (D := (g.1, g.2.1)) (ci := 13) (v := .ref (g.2.2.2 2)) (C := RX11) (T := TX11) (N := 30) hx hb hts iX11 hown hK.1 hP 0 (gM0 g (sA (sA (sF (sF σ 0 0) 1 ch_19) 0 f) 2 kp_19) tl) rfl 2 (by decide) k17 (fun _ h9 => h9) rfl dX11_restore_36 ?_
          refine lv_iload_n hx hb dX11_restore_39 rfl (lv_at hl 1 rfl) ?_
          refine jn_iald (f := σ.2.1 1) hx hb hK.1 hP 2 0 (gM2 g (sA (sA (sF (sF σ 0 0) 1 ch_19) 0 f) 2 kp_19) tl) rfl (by omega) (Nat.le_of_ble_eq_true rfl) dX11_restore_40 ?_
          refine jn_iast (f := f) hx hb hK.1 hP hD hS 1 0 (gM1 g (sA (sA (sF (sF σ 0 0) 1 ch_19) 0 f) 2 kp_19) tl) rfl (by omega) (Nat.le_of_ble_eq_true rfl) (uM_A0 g (sA (sA (sF (sF σ 0 0) 1 ch_19) 0 f) 2 kp_19) tl _) dX11_restore_41 (fun H locs hP hD hS => ?_)
          refine lv_iinc (v := nI (i + 1)) (lv' := [(1, .int (nI (i + 1))), (0, .ref (g.2.2.2 0))]) hx hb dX11_restore_42 hl (k := 1) rfl (jn_ii _ 1) (by decide) rfl (fun ls hl => ?_)
          refine lv_goto (tgt := 24) hx hb dX11_restore_45 (by decide) ?_
          exact ih24 (i + 1) (va_up f i ((σ.2.1 1) i)) (by omega) (fun k hk => by unfold va_up; split; { rename_i q; rw [q] }; { exact h2 k (by omega) }) (by omega) _ _ hP hD hS _ (lv_sub hl [1, 0] rfl)
    exact lp24 _ 0 (σ.2.1 0) (by decide) (fun k hk => absurd hk (by omega)) (Nat.lt_succ_self _) _ _ hP hD hS _ (lv_sub hl [1, 0] rfl)
  · refine lv_aload_n hx hb dX11_restore_12 rfl (lv_at hl 0 rfl) ?_
    refine lv_iconst (v := nI 1) hx hb dX11_restore_13 (by decide) ?_
    refine jn_put (D := (g.1, g.2.1)) (ci := 13) (v := .int (nI 1)) (ty := .int) (C := RX11) (T := TX11) (N := 30) hx hb hts iX11 tyX11 tyX11_ok nmX11 hown hK.1 hP hD hS 0 (gM0 g (sF σ 0 0) tl) rfl 0 (by decide) k1 (fun _ h9 => h9) rfl (by decide +kernel) rfl rfl (Nat.le_of_ble_eq_true rfl) (uM_F0 g (sF σ 0 0) tl 1) dX11_restore_14 (fun H locs hP hD hS => ?_)
    exact hq _ _ _ _ (1, (σ.1 1), (σ.2.1 0), (σ.2.1 2)) dX11_restore_17 (Or.inl ⟨c_9, rfl, rfl, rfl, rfl⟩) hP hD hS

abbrev r_c_X11_areNine : Room := { frames := 1, cells := 0, slots := 0, locals := 22 }
set_option maxHeartbeats 4000000 in
set_option maxRecDepth 100000 in
theorem c_X11_areNine (l : Launch) (a b c2 : Nat) (ha : a < 4294967296) (hb2 : b < 4294967296) (hc : c2 < 4294967296) : Met l yX11_areNine wsX11_areNine r_c_X11_areNine (va_Pc [.int (nI a), .int (nI b), .int (nI c2)] (fun _ => True)) (vp_Si (fun r => r = nI (if a < 10 ∧ b < 10 ∧ c2 < 10 then 1 else 0))) 0 0 (fun _ => False) := by
  refine jn_pz (cc := cX11_areNine) (maxL := 3) (own := RX11) (by decide) rfl rfl (Nat.le_of_ble_eq_true rfl) ?_
  intro p e s m below meth c Q hx hb hml hown hts _ hq ls hl
  have hl : lv_has ls 3 [(0, .int (nI a)), (1, .int (nI b)), (2, .int (nI c2))] := hl
  refine lv_iload_n hx hb dX11_areNine_0 rfl (lv_at hl 0 rfl) ?_
  refine lv_iconst (v := nI 0) hx hb dX11_areNine_1 (by decide) ?_
  refine lv_bipush (v := nI 9) hx hb dX11_areNine_2 (by decide) ?_
  refine vp_callSi (va_Run.run (va_runS (As := [.int (nI a), .int (nI 0), .int (nI 9)]) (rest := []) ⟨hx, hb, hml, hown, hts⟩ (c_X11_in l a 0 9 (by omega) (by decide) (by decide)) (va_cwS 3 hts gX11_areNine_X11_in rfl rfl rfl (by decide +kernel) ⟨Nat.le_of_ble_eq_true rfl, Nat.le_of_ble_eq_true rfl⟩) okTS rfl rfl hl.1 rfl (lv_room (Nat.le_of_ble_eq_true rfl)) dX11_areNine_4 ⟨Nat.le_of_ble_eq_true rfl, Nat.le_of_ble_eq_true rfl⟩)) (fun r_4 h_4 => ?_)
  subst h_4
  refine jn_beq hx hb (tgt := 34) dX11_areNine_7 (by decide) (fun c_7 => ?_) (fun c_7 => ?_)
  · refine lv_iconst (v := nI 0) hx hb dX11_areNine_34 (by decide) ?_
    exact hq _ _ ((nI 0)) dX11_areNine_35 jn_n0 (by first | exact n_if1 (by omega) | exact n_if0 (by omega))
  · refine lv_iload_n hx hb dX11_areNine_10 rfl (lv_at hl 1 rfl) ?_
    refine lv_iconst (v := nI 0) hx hb dX11_areNine_11 (by decide) ?_
    refine lv_bipush (v := nI 9) hx hb dX11_areNine_12 (by decide) ?_
    refine vp_callSi (va_Run.run (va_runS (As := [.int (nI b), .int (nI 0), .int (nI 9)]) (rest := []) ⟨hx, hb, hml, hown, hts⟩ (c_X11_in l b 0 9 (by omega) (by decide) (by decide)) (va_cwS 3 hts gX11_areNine_X11_in rfl rfl rfl (by decide +kernel) ⟨Nat.le_of_ble_eq_true rfl, Nat.le_of_ble_eq_true rfl⟩) okTS rfl rfl hl.1 rfl (lv_room (Nat.le_of_ble_eq_true rfl)) dX11_areNine_14 ⟨Nat.le_of_ble_eq_true rfl, Nat.le_of_ble_eq_true rfl⟩)) (fun r_14 h_14 => ?_)
    subst h_14
    refine jn_beq hx hb (tgt := 34) dX11_areNine_17 (by decide) (fun c_17 => ?_) (fun c_17 => ?_)
    · refine lv_iconst (v := nI 0) hx hb dX11_areNine_34 (by decide) ?_
      exact hq _ _ ((nI 0)) dX11_areNine_35 jn_n0 (by first | exact n_if1 (by omega) | exact n_if0 (by omega))
    · refine lv_iload_n hx hb dX11_areNine_20 rfl (lv_at hl 2 rfl) ?_
      refine lv_iconst (v := nI 0) hx hb dX11_areNine_21 (by decide) ?_
      refine lv_bipush (v := nI 9) hx hb dX11_areNine_22 (by decide) ?_
      refine vp_callSi (va_Run.run (va_runS (As := [.int (nI c2), .int (nI 0), .int (nI 9)]) (rest := []) ⟨hx, hb, hml, hown, hts⟩ (c_X11_in l c2 0 9 (by omega) (by decide) (by decide)) (va_cwS 3 hts gX11_areNine_X11_in rfl rfl rfl (by decide +kernel) ⟨Nat.le_of_ble_eq_true rfl, Nat.le_of_ble_eq_true rfl⟩) okTS rfl rfl hl.1 rfl (lv_room (Nat.le_of_ble_eq_true rfl)) dX11_areNine_24 ⟨Nat.le_of_ble_eq_true rfl, Nat.le_of_ble_eq_true rfl⟩)) (fun r_24 h_24 => ?_)
      subst h_24
      refine jn_beq hx hb (tgt := 34) dX11_areNine_27 (by decide) (fun c_27 => ?_) (fun c_27 => ?_)
      · refine lv_iconst (v := nI 0) hx hb dX11_areNine_34 (by decide) ?_
        exact hq _ _ ((nI 0)) dX11_areNine_35 jn_n0 (by first | exact n_if1 (by omega) | exact n_if0 (by omega))
      · refine lv_iconst (v := nI 1) hx hb dX11_areNine_30 (by decide) ?_
        refine lv_goto (tgt := 35) hx hb dX11_areNine_31 (by decide) ?_
        exact hq _ _ ((nI 1)) dX11_areNine_35 jn_n1 (by first | exact n_if1 (by omega) | exact n_if0 (by omega))

abbrev r_c_X11_isLinear : Room := { frames := 2, cells := 0, slots := 0, locals := 42 }
set_option maxHeartbeats 4000000 in
set_option maxRecDepth 100000 in
theorem c_X11_isLinear (l : Launch) (g : GC) (tl : va_W) (σ : SS) (s2 ln : Nat) (hm : ∀ s, s < 2 → (σ.2.1 0) (16 + s) ≤ 4) (hs2 : s2 < 4294967296) (hln : ln < 4294967296) : Met l yX11_isLinear wsX11_isLinear r_c_X11_isLinear (va_Pc [.ref (g.2.2.2 0), .int (nI s2), .int (nI ln)] (PP g (wM g σ ++ tl))) (vp_Si (fun r => r = nI (if s2 < 2 ∧ ln < (σ.2.1 0) (16 + s2) then 1 else 0))) 0 0 (fun _ => False) := by
  refine jn_pz (cc := cX11_isLinear) (maxL := 3) (own := RX11) (by decide) rfl rfl (Nat.le_of_ble_eq_true rfl) ?_
  intro p e s m below meth c Q hx hb hml hown hts ⟨hP, hK⟩ hq ls hl
  have hl : lv_has ls 3 [(0, .ref (g.2.2.2 0)), (1, .int (nI s2)), (2, .int (nI ln))] := hl
  have iX11 : ∀ w ∈ wsX110, w ∈ wsX11_isLinear := by decide +kernel
  have k13 := hts (.fieldLink RX11 13 "JumpingAutomataModel" "now" "[I") (by decide +kernel)
  refine lv_iload_n hx hb dX11_isLinear_0 rfl (lv_at hl 1 rfl) ?_
  refine vp_callSi (va_Run.run (va_runS (As := [.int (nI s2)]) (rest := []) ⟨hx, hb, hml, hown, hts⟩ (c_X11_isSet l s2 (by omega)) (va_cwS 1 hts gX11_isLinear_X11_isSet rfl rfl rfl (by decide +kernel) ⟨Nat.le_of_ble_eq_true rfl, Nat.le_of_ble_eq_true rfl⟩) okTS rfl rfl hl.1 rfl (lv_room (Nat.le_of_ble_eq_true rfl)) dX11_isLinear_1 ⟨Nat.le_of_ble_eq_true rfl, Nat.le_of_ble_eq_true rfl⟩)) (fun r_1 h_1 => ?_)
  subst h_1
  refine jn_beq hx hb (tgt := 30) dX11_isLinear_4 (by decide) (fun c_4 => ?_) (fun c_4 => ?_)
  · refine lv_iconst (v := nI 0) hx hb dX11_isLinear_30 (by decide) ?_
    exact hq _ _ ((nI 0)) dX11_isLinear_31 jn_n0 (by first | exact n_if0 (fun q => c9 q.2) | exact n_if1 ⟨c_4, c9⟩ | exact n_if0 (fun q => c_4 q.1))
  · refine lv_iload_n hx hb dX11_isLinear_7 rfl (lv_at hl 2 rfl) ?_
    refine lv_iconst (v := nI 0) hx hb dX11_isLinear_8 (by decide) ?_
    refine lv_aload_n hx hb dX11_isLinear_9 rfl (lv_at hl 0 rfl) ?_
    refine va_get (D := (g.1, g.2.1)) (ci := 13) (v := .ref (g.2.2.2 1)) (C := RX11) (T := TX11) (N := 30) hx hb hts iX11 hown hK.1 hP 0 (gM0 g σ tl) rfl 1 (by decide) k13 (fun _ h9 => h9) rfl dX11_isLinear_10 ?_
    refine lv_bipush (v := nI 16) hx hb dX11_isLinear_13 (by decide) ?_
    refine lv_iload_n hx hb dX11_isLinear_15 rfl (lv_at hl 1 rfl) ?_
    refine jn_iadd hx hb dX11_isLinear_16 ?_
    refine jn_iald (f := σ.2.1 0) hx hb hK.1 hP 1 0 (gM1 g σ tl) rfl (by omega) (Nat.le_of_ble_eq_true rfl) dX11_isLinear_17 ?_
    refine lv_iconst (v := nI 1) hx hb dX11_isLinear_18 (by decide) ?_
    have hm1 := hm s2 c_4
    refine jn_isubB hx hb (by decide) dX11_isLinear_19 ?_
    refine vp_callSi (va_Run.run (va_runS (As := [.int (nI ln), .int (nI 0), .int (nI (sb ((σ.2.1 0) (16 + s2)) 1))]) (rest := []) ⟨hx, hb, hml, hown, hts⟩ (c_X11_in l ln 0 (sb ((σ.2.1 0) (16 + s2)) 1) (by omega) (by decide) (sb_lt (by omega))) (va_cwS 3 hts gX11_isLinear_X11_in rfl rfl rfl (by decide +kernel) ⟨Nat.le_of_ble_eq_true rfl, Nat.le_of_ble_eq_true rfl⟩) okTS rfl rfl hl.1 rfl (lv_room (Nat.le_of_ble_eq_true rfl)) dX11_isLinear_20 ⟨Nat.le_of_ble_eq_true rfl, Nat.le_of_ble_eq_true rfl⟩)) (fun r_20 h_20 => ?_)
    subst h_20
    refine jn_beq hx hb (tgt := 30) dX11_isLinear_23 (by decide) (fun c_23 => ?_) (fun c_23 => ?_)
    · have c9 := fun q => c_23 ((sb1 (Nat.le_trans hm1 (by decide))).mpr q)
      refine lv_iconst (v := nI 0) hx hb dX11_isLinear_30 (by decide) ?_
      exact hq _ _ ((nI 0)) dX11_isLinear_31 jn_n0 (by first | exact n_if0 (fun q => c9 q.2) | exact n_if1 ⟨c_4, c9⟩ | exact n_if0 (fun q => c_4 q.1))
    · have c9 := (sb1 (Nat.le_trans hm1 (by decide))).mp c_23
      refine lv_iconst (v := nI 1) hx hb dX11_isLinear_26 (by decide) ?_
      refine lv_goto (tgt := 31) hx hb dX11_isLinear_27 (by decide) ?_
      exact hq _ _ ((nI 1)) dX11_isLinear_31 jn_n1 (by first | exact n_if0 (fun q => c9 q.2) | exact n_if1 ⟨c_4, c9⟩ | exact n_if0 (fun q => c_4 q.1))

abbrev r_c_X11_addLinearSet : Room := { frames := 2, cells := 0, slots := 0, locals := 44 }
set_option maxHeartbeats 4000000 in
set_option maxRecDepth 100000 in
theorem c_X11_addLinearSet (l : Launch) (g : GC) (tl : va_W) (sz : Nat) (σ : SS) (s2 x1 x2 x3 : Nat) (hc8 : (σ.1 1) ≤ 8) (hm : ∀ s, s < 2 → (σ.2.1 0) (16 + s) ≤ 4) (hs2 : s2 < 4294967296) (hx1 : x1 < 4294967296) (hx2 : x2 < 4294967296) (hx3 : x3 < 4294967296) : Met l yX11_addLinearSet wsX11_addLinearSet r_c_X11_addLinearSet (va_Pc [.ref (g.2.2.2 0), .int (nI s2), .int (nI x1), .int (nI x2), .int (nI x3)] (PW g (wM g σ ++ tl) sz)) (va_Qi (fun (r : Int32) (z : Nat × Nat × Nat × (Nat → Nat) × (Nat → Nat)) => match z with | (r0, th, ch, nw, kp) => (r = nI (r0)) ∧ ((¬ s2 < 2 ∧ th = 1 ∧ ch = (σ.1 1) ∧ nw = (σ.2.1 0) ∧ kp = (σ.2.1 2)) ∨ (s2 < 2 ∧ ¬ (x1 < 10 ∧ x2 < 10 ∧ x3 < 10) ∧ th = 2 ∧ ch = (σ.1 1) ∧ nw = (σ.2.1 0) ∧ kp = (σ.2.1 2)) ∨ (s2 < 2 ∧ (x1 < 10 ∧ x2 < 10 ∧ x3 < 10) ∧ (σ.2.1 0) (16 + s2) = 4 ∧ th = 3 ∧ ch = (σ.1 1) ∧ nw = (σ.2.1 0) ∧ kp = (σ.2.1 2)) ∨ (s2 < 2 ∧ (x1 < 10 ∧ x2 < 10 ∧ x3 < 10) ∧ (σ.2.1 0) (16 + s2) < 4 ∧ th = 0 ∧ KpO (σ.2.1 2) (σ.2.1 0) (σ.1 1) kp ∧ ch = min ((σ.1 1) + 1) 8 ∧ r0 = (σ.2.1 0) (16 + s2) ∧ nw (16 + s2) = (σ.2.1 0) (16 + s2) + 1 ∧ nw (18 + 3 * (4 * s2 + (σ.2.1 0) (16 + s2))) = x1 ∧ nw (18 + 3 * (4 * s2 + (σ.2.1 0) (16 + s2)) + 1) = x2 ∧ nw (18 + 3 * (4 * s2 + (σ.2.1 0) (16 + s2)) + 2) = x3 ∧ nw (42 + (4 * s2 + (σ.2.1 0) (16 + s2))) = 0 ∧ (∀ k, k ≠ 16 + s2 → k ≠ 18 + 3 * (4 * s2 + (σ.2.1 0) (16 + s2)) → k ≠ 18 + 3 * (4 * s2 + (σ.2.1 0) (16 + s2)) + 1 → k ≠ 18 + 3 * (4 * s2 + (σ.2.1 0) (16 + s2)) + 2 → k ≠ 42 + (4 * s2 + (σ.2.1 0) (16 + s2)) → nw k = (σ.2.1 0) k)))) (fun (z : Nat × Nat × Nat × (Nat → Nat) × (Nat → Nat)) t => BW g (va_A (wM g σ ++ tl) sz) ((fun z : Nat × Nat × Nat × (Nat → Nat) × (Nat → Nat) => match z with | (r0, th, ch, nw, kp) => wM g (sA (sA (sF (sF σ 0 th) 1 ch) 0 nw) 2 kp) ++ tl) z) t) (va_A (wM g σ ++ tl) sz)) 0 0 (va_A (wM g σ ++ tl) sz) := by
  refine jn_si (wf := fun z : Nat × Nat × Nat × (Nat → Nat) × (Nat → Nat) => match z with | (r0, th, ch, nw, kp) => wM g (sA (sA (sF (sF σ 0 th) 1 ch) 0 nw) 2 kp) ++ tl) (cc := cX11_addLinearSet) (maxL := 7) (own := RX11) (by decide) rfl rfl (Nat.le_of_ble_eq_true rfl) ?_
  intro p e s m below meth c Q A hx hb hml hown hts hK hP hD hS hAA hq ls hl
  obtain ⟨H, eH⟩ : ∃ z, z = s.heap := ⟨_, rfl⟩
  obtain ⟨locs, el⟩ : ∃ z : List Loc, z = [] := ⟨_, rfl⟩
  rw [← eH] at hP
  have hS : va_S A s.heap H locs := by rw [eH, el]; exact hS
  have goal0 : W p l e r_c_X11_addLinearSet s m ([.ref (g.2.2.2 0), .int (nI s2), .int (nI x1), .int (nI x2), .int (nI x3)] : List Value).toArray below meth c H locs 0 0 Q (F0 m 0 ls []) → W p l e r_c_X11_addLinearSet s m ([.ref (g.2.2.2 0), .int (nI s2), .int (nI x1), .int (nI x2), .int (nI x3)] : List Value).toArray below meth c s.heap [] 0 0 Q (F0 m 0 ls []) := fun h => by rw [eH, el] at h; exact h
  refine goal0 ?_
  have hl : lv_has ls 7 [(0, .ref (g.2.2.2 0)), (1, .int (nI s2)), (2, .int (nI x1)), (3, .int (nI x2)), (4, .int (nI x3))] := hl
  have iX11 : ∀ w ∈ wsX110, w ∈ wsX11_addLinearSet := by decide +kernel
  have k1 := hts (.fieldLink RX11 1 "JumpingAutomataModel" "thrown" "I") (by decide +kernel)
  have k13 := hts (.fieldLink RX11 13 "JumpingAutomataModel" "now" "[I") (by decide +kernel)
  refine lv_aload_n hx hb dX11_addLinearSet_0 rfl (lv_at hl 0 rfl) ?_
  refine lv_iconst (v := nI 0) hx hb dX11_addLinearSet_1 (by decide) ?_
  refine jn_put (D := (g.1, g.2.1)) (ci := 13) (v := .int (nI 0)) (ty := .int) (C := RX11) (T := TX11) (N := 30) hx hb hts iX11 tyX11 tyX11_ok nmX11 hown hK.1 hP hD hS 0 (gM0 g σ tl) rfl 0 (by decide) k1 (fun _ h9 => h9) rfl (by decide +kernel) rfl rfl (Nat.le_of_ble_eq_true rfl) (uM_F0 g σ tl 0) dX11_addLinearSet_2 (fun H locs hP hD hS => ?_)
  refine lv_iload_n hx hb dX11_addLinearSet_5 rfl (lv_at hl 1 rfl) ?_
  refine vp_callSi (va_Run.run (va_runS (As := [.int (nI s2)]) (rest := []) ⟨hx, hb, hml, hown, hts⟩ (c_X11_isSet l s2 (by omega)) (va_cwS 1 hts gX11_addLinearSet_X11_isSet rfl rfl rfl (by decide +kernel) ⟨Nat.le_of_ble_eq_true rfl, Nat.le_of_ble_eq_true rfl⟩) okTS rfl rfl hl.1 rfl (lv_room (Nat.le_of_ble_eq_true rfl)) dX11_addLinearSet_6 ⟨Nat.le_of_ble_eq_true rfl, Nat.le_of_ble_eq_true rfl⟩)) (fun r_6 h_6 => ?_)
  subst h_6
  refine jn_bne hx hb (tgt := 18) dX11_addLinearSet_9 (by decide) (fun c_9 => ?_) (fun c_9 => ?_)
  · refine lv_iload_n hx hb dX11_addLinearSet_18 rfl (lv_at hl 2 rfl) ?_
    refine lv_iload_n hx hb dX11_addLinearSet_19 rfl (lv_at hl 3 rfl) ?_
    refine lv_iload hx hb dX11_addLinearSet_20 (lv_at hl 4 rfl) ?_
    refine vp_callSi (va_Run.run (va_runS (As := [.int (nI x1), .int (nI x2), .int (nI x3)]) (rest := []) ⟨hx, hb, hml, hown, hts⟩ (c_X11_areNine l x1 x2 x3 hx1 hx2 hx3) (va_cwS 3 hts gX11_addLinearSet_X11_areNine rfl rfl rfl (by decide +kernel) ⟨Nat.le_of_ble_eq_true rfl, Nat.le_of_ble_eq_true rfl⟩) okTS rfl rfl hl.1 rfl (lv_room (Nat.le_of_ble_eq_true rfl)) dX11_addLinearSet_22 ⟨Nat.le_of_ble_eq_true rfl, Nat.le_of_ble_eq_true rfl⟩)) (fun r_22 h_22 => ?_)
    subst h_22
    refine jn_bne hx hb (tgt := 34) dX11_addLinearSet_25 (by decide) (fun c_25 => ?_) (fun c_25 => ?_)
    · refine lv_aload_n hx hb dX11_addLinearSet_34 rfl (lv_at hl 0 rfl) ?_
      refine va_get (D := (g.1, g.2.1)) (ci := 13) (v := .ref (g.2.2.2 1)) (C := RX11) (T := TX11) (N := 30) hx hb hts iX11 hown hK.1 hP 0 (gM0 g (sF σ 0 0) tl) rfl 1 (by decide) k13 (fun _ h9 => h9) rfl dX11_addLinearSet_35 ?_
      refine lv_bipush (v := nI 16) hx hb dX11_addLinearSet_38 (by decide) ?_
      refine lv_iload_n hx hb dX11_addLinearSet_40 rfl (lv_at hl 1 rfl) ?_
      refine jn_iadd hx hb dX11_addLinearSet_41 ?_
      refine jn_iald (f := σ.2.1 0) hx hb hK.1 hP 1 0 (gM1 g (sF σ 0 0) tl) rfl (by omega) (Nat.le_of_ble_eq_true rfl) dX11_addLinearSet_42 ?_
      refine lv_istore (lv' := [(5, .int (nI ((σ.2.1 0) (16 + s2)))), (0, .ref (g.2.2.2 0)), (1, .int (nI s2)), (2, .int (nI x1)), (3, .int (nI x2)), (4, .int (nI x3))]) hx hb dX11_addLinearSet_43 hl (by decide) rfl (fun ls hl => ?_)
      refine lv_iload hx hb dX11_addLinearSet_45 (lv_at hl 0 rfl) ?_
      refine lv_iconst (v := nI 4) hx hb dX11_addLinearSet_47 (by decide) ?_
      have hm1 := hm s2 c_9
      refine jn_cne hx hb (by omega) (by decide) (tgt := 57) dX11_addLinearSet_48 (by decide) (fun c_48 => ?_) (fun c_48 => ?_)
      · refine lv_aload_n hx hb dX11_addLinearSet_57 rfl (lv_at hl 1 rfl) ?_
        refine jn_callv (va_runV (As := []) (rest := []) ⟨hx, hb, hml, hown, hts⟩ (c_X11_keeps l g tl H.size (sF σ 0 0) hc8) (cwV 0 hts gX11_addLinearSet_X11_keeps rfl rfl rfl (by decide +kernel) ⟨Nat.le_of_ble_eq_true rfl, Nat.le_of_ble_eq_true rfl⟩) (okWV hK hP hD rfl (gM0 g (sF σ 0 0) tl)) rfl rfl hl.1 rfl (lv_room (Nat.le_of_ble_eq_true rfl)) dX11_addLinearSet_58 ⟨Nat.le_of_ble_eq_true rfl, Nat.le_of_ble_eq_true rfl⟩) hD hS hAA (fun u H locs hw_ hP hD hS => ?_)
        obtain ⟨kp_58, ch_58⟩ := u
        have h_58 := hw_
        have h_58 : (KpO (σ.2.1 2) (σ.2.1 0) (σ.1 1) kp_58) ∧ (ch_58 = min ((σ.1 1) + 1) 8) := h_58
        have hP : va_P (g.1, g.2.1) vwCl (wM g (sA (sF (sF σ 0 0) 1 ch_58) 2 kp_58) ++ tl) H := hP
        have hD : va_D A (wM g (sA (sF (sF σ 0 0) 1 ch_58) 2 kp_58) ++ tl) := hD
        refine lv_iconst (v := nI 4) hx hb dX11_addLinearSet_61 (by decide) ?_
        refine lv_iload_n hx hb dX11_addLinearSet_62 rfl (lv_at hl 2 rfl) ?_
        refine jn_imul hx hb dX11_addLinearSet_63 ?_
        refine lv_iload hx hb dX11_addLinearSet_64 (lv_at hl 0 rfl) ?_
        refine jn_iadd hx hb dX11_addLinearSet_66 ?_
        refine lv_istore (lv' := [(6, .int (nI ((4 * s2) + ((σ.2.1 0) (16 + s2))))), (5, .int (nI ((σ.2.1 0) (16 + s2)))), (0, .ref (g.2.2.2 0)), (1, .int (nI s2)), (2, .int (nI x1)), (3, .int (nI x2)), (4, .int (nI x3))]) hx hb dX11_addLinearSet_67 hl (by decide) rfl (fun ls hl => ?_)
        refine lv_aload_n hx hb dX11_addLinearSet_69 rfl (lv_at hl 2 rfl) ?_
        refine va_get (D := (g.1, g.2.1)) (ci := 13) (v := .ref (g.2.2.2 1)) (C := RX11) (T := TX11) (N := 30) hx hb hts iX11 hown hK.1 hP 0 (gM0 g (sA (sF (sF σ 0 0) 1 ch_58) 2 kp_58) tl) rfl 1 (by decide) k13 (fun _ h9 => h9) rfl dX11_addLinearSet_70 ?_
        refine lv_bipush (v := nI 18) hx hb dX11_addLinearSet_73 (by decide) ?_
        refine lv_iconst (v := nI 3) hx hb dX11_addLinearSet_75 (by decide) ?_
        refine lv_iload hx hb dX11_addLinearSet_76 (lv_at hl 0 rfl) ?_
        refine jn_imul hx hb dX11_addLinearSet_78 ?_
        refine jn_iadd hx hb dX11_addLinearSet_79 ?_
        refine lv_iload_n hx hb dX11_addLinearSet_80 rfl (lv_at hl 4 rfl) ?_
        refine jn_iast (f := σ.2.1 0) hx hb hK.1 hP hD hS 1 0 (gM1 g (sA (sF (sF σ 0 0) 1 ch_58) 2 kp_58) tl) rfl (by omega) (Nat.le_of_ble_eq_true rfl) (uM_A0 g (sA (sF (sF σ 0 0) 1 ch_58) 2 kp_58) tl _) dX11_addLinearSet_81 (fun H locs hP hD hS => ?_)
        refine lv_aload_n hx hb dX11_addLinearSet_82 rfl (lv_at hl 2 rfl) ?_
        refine va_get (D := (g.1, g.2.1)) (ci := 13) (v := .ref (g.2.2.2 1)) (C := RX11) (T := TX11) (N := 30) hx hb hts iX11 hown hK.1 hP 0 (gM0 g (sA (sA (sF (sF σ 0 0) 1 ch_58) 2 kp_58) 0 (va_up (σ.2.1 0) (18 + (3 * ((4 * s2) + ((σ.2.1 0) (16 + s2))))) x1)) tl) rfl 1 (by decide) k13 (fun _ h9 => h9) rfl dX11_addLinearSet_83 ?_
        refine lv_bipush (v := nI 18) hx hb dX11_addLinearSet_86 (by decide) ?_
        refine lv_iconst (v := nI 3) hx hb dX11_addLinearSet_88 (by decide) ?_
        refine lv_iload hx hb dX11_addLinearSet_89 (lv_at hl 0 rfl) ?_
        refine jn_imul hx hb dX11_addLinearSet_91 ?_
        refine jn_iadd hx hb dX11_addLinearSet_92 ?_
        refine lv_iconst (v := nI 1) hx hb dX11_addLinearSet_93 (by decide) ?_
        refine jn_iadd hx hb dX11_addLinearSet_94 ?_
        refine lv_iload_n hx hb dX11_addLinearSet_95 rfl (lv_at hl 5 rfl) ?_
        refine jn_iast (f := va_up (σ.2.1 0) (18 + (3 * ((4 * s2) + ((σ.2.1 0) (16 + s2))))) x1) hx hb hK.1 hP hD hS 1 0 (gM1 g (sA (sA (sF (sF σ 0 0) 1 ch_58) 2 kp_58) 0 (va_up (σ.2.1 0) (18 + (3 * ((4 * s2) + ((σ.2.1 0) (16 + s2))))) x1)) tl) rfl (by omega) (Nat.le_of_ble_eq_true rfl) (uM_A0 g (sA (sA (sF (sF σ 0 0) 1 ch_58) 2 kp_58) 0 (va_up (σ.2.1 0) (18 + (3 * ((4 * s2) + ((σ.2.1 0) (16 + s2))))) x1)) tl _) dX11_addLinearSet_96 (fun H locs hP hD hS => ?_)
        refine lv_aload_n hx hb dX11_addLinearSet_97 rfl (lv_at hl 2 rfl) ?_
        refine va_get (D := (g.1, g.2.1)) (ci := 13) (v := .ref (g.2.2.2 1)) (C := RX11) (T := TX11) (N := 30) hx hb hts iX11 hown hK.1 hP 0 (gM0 g (sA (sA (sA (sF (sF σ 0 0) 1 ch_58) 2 kp_58) 0 (va_up (σ.2.1 0) (18 + (3 * ((4 * s2) + ((σ.2.1 0) (16 + s2))))) x1)) 0 (va_up (va_up (σ.2.1 0) (18 + (3 * ((4 * s2) + ((σ.2.1 0) (16 + s2))))) x1) ((18 + (3 * ((4 * s2) + ((σ.2.1 0) (16 + s2))))) + 1) x2)) tl) rfl 1 (by decide) k13 (fun _ h9 => h9) rfl dX11_addLinearSet_98 ?_
        refine lv_bipush (v := nI 18) hx hb dX11_addLinearSet_101 (by decide) ?_
        refine lv_iconst (v := nI 3) hx hb dX11_addLinearSet_103 (by decide) ?_
        refine lv_iload hx hb dX11_addLinearSet_104 (lv_at hl 0 rfl) ?_
        refine jn_imul hx hb dX11_addLinearSet_106 ?_
        refine jn_iadd hx hb dX11_addLinearSet_107 ?_
        refine lv_iconst (v := nI 2) hx hb dX11_addLinearSet_108 (by decide) ?_
        refine jn_iadd hx hb dX11_addLinearSet_109 ?_
        refine lv_iload hx hb dX11_addLinearSet_110 (lv_at hl 6 rfl) ?_
        refine jn_iast (f := va_up (va_up (σ.2.1 0) (18 + (3 * ((4 * s2) + ((σ.2.1 0) (16 + s2))))) x1) ((18 + (3 * ((4 * s2) + ((σ.2.1 0) (16 + s2))))) + 1) x2) hx hb hK.1 hP hD hS 1 0 (gM1 g (sA (sA (sA (sF (sF σ 0 0) 1 ch_58) 2 kp_58) 0 (va_up (σ.2.1 0) (18 + (3 * ((4 * s2) + ((σ.2.1 0) (16 + s2))))) x1)) 0 (va_up (va_up (σ.2.1 0) (18 + (3 * ((4 * s2) + ((σ.2.1 0) (16 + s2))))) x1) ((18 + (3 * ((4 * s2) + ((σ.2.1 0) (16 + s2))))) + 1) x2)) tl) rfl (by omega) (Nat.le_of_ble_eq_true rfl) (uM_A0 g (sA (sA (sA (sF (sF σ 0 0) 1 ch_58) 2 kp_58) 0 (va_up (σ.2.1 0) (18 + (3 * ((4 * s2) + ((σ.2.1 0) (16 + s2))))) x1)) 0 (va_up (va_up (σ.2.1 0) (18 + (3 * ((4 * s2) + ((σ.2.1 0) (16 + s2))))) x1) ((18 + (3 * ((4 * s2) + ((σ.2.1 0) (16 + s2))))) + 1) x2)) tl _) dX11_addLinearSet_112 (fun H locs hP hD hS => ?_)
        refine lv_aload_n hx hb dX11_addLinearSet_113 rfl (lv_at hl 2 rfl) ?_
        refine va_get (D := (g.1, g.2.1)) (ci := 13) (v := .ref (g.2.2.2 1)) (C := RX11) (T := TX11) (N := 30) hx hb hts iX11 hown hK.1 hP 0 (gM0 g (sA (sA (sA (sA (sF (sF σ 0 0) 1 ch_58) 2 kp_58) 0 (va_up (σ.2.1 0) (18 + (3 * ((4 * s2) + ((σ.2.1 0) (16 + s2))))) x1)) 0 (va_up (va_up (σ.2.1 0) (18 + (3 * ((4 * s2) + ((σ.2.1 0) (16 + s2))))) x1) ((18 + (3 * ((4 * s2) + ((σ.2.1 0) (16 + s2))))) + 1) x2)) 0 (va_up (va_up (va_up (σ.2.1 0) (18 + (3 * ((4 * s2) + ((σ.2.1 0) (16 + s2))))) x1) ((18 + (3 * ((4 * s2) + ((σ.2.1 0) (16 + s2))))) + 1) x2) ((18 + (3 * ((4 * s2) + ((σ.2.1 0) (16 + s2))))) + 2) x3)) tl) rfl 1 (by decide) k13 (fun _ h9 => h9) rfl dX11_addLinearSet_114 ?_
        refine lv_bipush (v := nI 42) hx hb dX11_addLinearSet_117 (by decide) ?_
        refine lv_iload hx hb dX11_addLinearSet_119 (lv_at hl 0 rfl) ?_
        refine jn_iadd hx hb dX11_addLinearSet_121 ?_
        refine lv_iconst (v := nI 0) hx hb dX11_addLinearSet_122 (by decide) ?_
        refine jn_iast (f := va_up (va_up (va_up (σ.2.1 0) (18 + (3 * ((4 * s2) + ((σ.2.1 0) (16 + s2))))) x1) ((18 + (3 * ((4 * s2) + ((σ.2.1 0) (16 + s2))))) + 1) x2) ((18 + (3 * ((4 * s2) + ((σ.2.1 0) (16 + s2))))) + 2) x3) hx hb hK.1 hP hD hS 1 0 (gM1 g (sA (sA (sA (sA (sF (sF σ 0 0) 1 ch_58) 2 kp_58) 0 (va_up (σ.2.1 0) (18 + (3 * ((4 * s2) + ((σ.2.1 0) (16 + s2))))) x1)) 0 (va_up (va_up (σ.2.1 0) (18 + (3 * ((4 * s2) + ((σ.2.1 0) (16 + s2))))) x1) ((18 + (3 * ((4 * s2) + ((σ.2.1 0) (16 + s2))))) + 1) x2)) 0 (va_up (va_up (va_up (σ.2.1 0) (18 + (3 * ((4 * s2) + ((σ.2.1 0) (16 + s2))))) x1) ((18 + (3 * ((4 * s2) + ((σ.2.1 0) (16 + s2))))) + 1) x2) ((18 + (3 * ((4 * s2) + ((σ.2.1 0) (16 + s2))))) + 2) x3)) tl) rfl (by omega) (Nat.le_of_ble_eq_true rfl) (uM_A0 g (sA (sA (sA (sA (sF (sF σ 0 0) 1 ch_58) 2 kp_58) 0 (va_up (σ.2.1 0) (18 + (3 * ((4 * s2) + ((σ.2.1 0) (16 + s2))))) x1)) 0 (va_up (va_up (σ.2.1 0) (18 + (3 * ((4 * s2) + ((σ.2.1 0) (16 + s2))))) x1) ((18 + (3 * ((4 * s2) + ((σ.2.1 0) (16 + s2))))) + 1) x2)) 0 (va_up (va_up (va_up (σ.2.1 0) (18 + (3 * ((4 * s2) + ((σ.2.1 0) (16 + s2))))) x1) ((18 + (3 * ((4 * s2) + ((σ.2.1 0) (16 + s2))))) + 1) x2) ((18 + (3 * ((4 * s2) + ((σ.2.1 0) (16 + s2))))) + 2) x3)) tl _) dX11_addLinearSet_123 (fun H locs hP hD hS => ?_)
        refine lv_aload_n hx hb dX11_addLinearSet_124 rfl (lv_at hl 2 rfl) ?_
        refine va_get (D := (g.1, g.2.1)) (ci := 13) (v := .ref (g.2.2.2 1)) (C := RX11) (T := TX11) (N := 30) hx hb hts iX11 hown hK.1 hP 0 (gM0 g (sA (sA (sA (sA (sA (sF (sF σ 0 0) 1 ch_58) 2 kp_58) 0 (va_up (σ.2.1 0) (18 + (3 * ((4 * s2) + ((σ.2.1 0) (16 + s2))))) x1)) 0 (va_up (va_up (σ.2.1 0) (18 + (3 * ((4 * s2) + ((σ.2.1 0) (16 + s2))))) x1) ((18 + (3 * ((4 * s2) + ((σ.2.1 0) (16 + s2))))) + 1) x2)) 0 (va_up (va_up (va_up (σ.2.1 0) (18 + (3 * ((4 * s2) + ((σ.2.1 0) (16 + s2))))) x1) ((18 + (3 * ((4 * s2) + ((σ.2.1 0) (16 + s2))))) + 1) x2) ((18 + (3 * ((4 * s2) + ((σ.2.1 0) (16 + s2))))) + 2) x3)) 0 (va_up (va_up (va_up (va_up (σ.2.1 0) (18 + (3 * ((4 * s2) + ((σ.2.1 0) (16 + s2))))) x1) ((18 + (3 * ((4 * s2) + ((σ.2.1 0) (16 + s2))))) + 1) x2) ((18 + (3 * ((4 * s2) + ((σ.2.1 0) (16 + s2))))) + 2) x3) (42 + ((4 * s2) + ((σ.2.1 0) (16 + s2)))) 0)) tl) rfl 1 (by decide) k13 (fun _ h9 => h9) rfl dX11_addLinearSet_125 ?_
        refine lv_bipush (v := nI 16) hx hb dX11_addLinearSet_128 (by decide) ?_
        refine lv_iload_n hx hb dX11_addLinearSet_130 rfl (lv_at hl 3 rfl) ?_
        refine jn_iadd hx hb dX11_addLinearSet_131 ?_
        refine lv_dup2_11 hx hb dX11_addLinearSet_132 rfl rfl ?_
        refine jn_iald (f := va_up (va_up (va_up (va_up (σ.2.1 0) (18 + (3 * ((4 * s2) + ((σ.2.1 0) (16 + s2))))) x1) ((18 + (3 * ((4 * s2) + ((σ.2.1 0) (16 + s2))))) + 1) x2) ((18 + (3 * ((4 * s2) + ((σ.2.1 0) (16 + s2))))) + 2) x3) (42 + ((4 * s2) + ((σ.2.1 0) (16 + s2)))) 0) hx hb hK.1 hP 1 0 (gM1 g (sA (sA (sA (sA (sA (sF (sF σ 0 0) 1 ch_58) 2 kp_58) 0 (va_up (σ.2.1 0) (18 + (3 * ((4 * s2) + ((σ.2.1 0) (16 + s2))))) x1)) 0 (va_up (va_up (σ.2.1 0) (18 + (3 * ((4 * s2) + ((σ.2.1 0) (16 + s2))))) x1) ((18 + (3 * ((4 * s2) + ((σ.2.1 0) (16 + s2))))) + 1) x2)) 0 (va_up (va_up (va_up (σ.2.1 0) (18 + (3 * ((4 * s2) + ((σ.2.1 0) (16 + s2))))) x1) ((18 + (3 * ((4 * s2) + ((σ.2.1 0) (16 + s2))))) + 1) x2) ((18 + (3 * ((4 * s2) + ((σ.2.1 0) (16 + s2))))) + 2) x3)) 0 (va_up (va_up (va_up (va_up (σ.2.1 0) (18 + (3 * ((4 * s2) + ((σ.2.1 0) (16 + s2))))) x1) ((18 + (3 * ((4 * s2) + ((σ.2.1 0) (16 + s2))))) + 1) x2) ((18 + (3 * ((4 * s2) + ((σ.2.1 0) (16 + s2))))) + 2) x3) (42 + ((4 * s2) + ((σ.2.1 0) (16 + s2)))) 0)) tl) rfl (by omega) (Nat.le_of_ble_eq_true rfl) dX11_addLinearSet_133 ?_
        refine lv_iconst (v := nI 1) hx hb dX11_addLinearSet_134 (by decide) ?_
        refine jn_iadd hx hb dX11_addLinearSet_135 ?_
        refine jn_iast (f := va_up (va_up (va_up (va_up (σ.2.1 0) (18 + (3 * ((4 * s2) + ((σ.2.1 0) (16 + s2))))) x1) ((18 + (3 * ((4 * s2) + ((σ.2.1 0) (16 + s2))))) + 1) x2) ((18 + (3 * ((4 * s2) + ((σ.2.1 0) (16 + s2))))) + 2) x3) (42 + ((4 * s2) + ((σ.2.1 0) (16 + s2)))) 0) hx hb hK.1 hP hD hS 1 0 (gM1 g (sA (sA (sA (sA (sA (sF (sF σ 0 0) 1 ch_58) 2 kp_58) 0 (va_up (σ.2.1 0) (18 + (3 * ((4 * s2) + ((σ.2.1 0) (16 + s2))))) x1)) 0 (va_up (va_up (σ.2.1 0) (18 + (3 * ((4 * s2) + ((σ.2.1 0) (16 + s2))))) x1) ((18 + (3 * ((4 * s2) + ((σ.2.1 0) (16 + s2))))) + 1) x2)) 0 (va_up (va_up (va_up (σ.2.1 0) (18 + (3 * ((4 * s2) + ((σ.2.1 0) (16 + s2))))) x1) ((18 + (3 * ((4 * s2) + ((σ.2.1 0) (16 + s2))))) + 1) x2) ((18 + (3 * ((4 * s2) + ((σ.2.1 0) (16 + s2))))) + 2) x3)) 0 (va_up (va_up (va_up (va_up (σ.2.1 0) (18 + (3 * ((4 * s2) + ((σ.2.1 0) (16 + s2))))) x1) ((18 + (3 * ((4 * s2) + ((σ.2.1 0) (16 + s2))))) + 1) x2) ((18 + (3 * ((4 * s2) + ((σ.2.1 0) (16 + s2))))) + 2) x3) (42 + ((4 * s2) + ((σ.2.1 0) (16 + s2)))) 0)) tl) rfl (by omega) (Nat.le_of_ble_eq_true rfl) (uM_A0 g (sA (sA (sA (sA (sA (sF (sF σ 0 0) 1 ch_58) 2 kp_58) 0 (va_up (σ.2.1 0) (18 + (3 * ((4 * s2) + ((σ.2.1 0) (16 + s2))))) x1)) 0 (va_up (va_up (σ.2.1 0) (18 + (3 * ((4 * s2) + ((σ.2.1 0) (16 + s2))))) x1) ((18 + (3 * ((4 * s2) + ((σ.2.1 0) (16 + s2))))) + 1) x2)) 0 (va_up (va_up (va_up (σ.2.1 0) (18 + (3 * ((4 * s2) + ((σ.2.1 0) (16 + s2))))) x1) ((18 + (3 * ((4 * s2) + ((σ.2.1 0) (16 + s2))))) + 1) x2) ((18 + (3 * ((4 * s2) + ((σ.2.1 0) (16 + s2))))) + 2) x3)) 0 (va_up (va_up (va_up (va_up (σ.2.1 0) (18 + (3 * ((4 * s2) + ((σ.2.1 0) (16 + s2))))) x1) ((18 + (3 * ((4 * s2) + ((σ.2.1 0) (16 + s2))))) + 1) x2) ((18 + (3 * ((4 * s2) + ((σ.2.1 0) (16 + s2))))) + 2) x3) (42 + ((4 * s2) + ((σ.2.1 0) (16 + s2)))) 0)) tl _) dX11_addLinearSet_136 (fun H locs hP hD hS => ?_)
        refine lv_iload hx hb dX11_addLinearSet_137 (lv_at hl 1 rfl) ?_
        exact hq _ _ _ _ ((nI ((σ.2.1 0) (16 + s2)))) (_, 0, ch_58, (va_up (va_up (va_up (va_up (va_up (σ.2.1 0) (18 + (3 * ((4 * s2) + ((σ.2.1 0) (16 + s2))))) x1) ((18 + (3 * ((4 * s2) + ((σ.2.1 0) (16 + s2))))) + 1) x2) ((18 + (3 * ((4 * s2) + ((σ.2.1 0) (16 + s2))))) + 2) x3) (42 + ((4 * s2) + ((σ.2.1 0) (16 + s2)))) 0) (16 + s2) (((va_up (va_up (va_up (va_up (σ.2.1 0) (18 + (3 * ((4 * s2) + ((σ.2.1 0) (16 + s2))))) x1) ((18 + (3 * ((4 * s2) + ((σ.2.1 0) (16 + s2))))) + 1) x2) ((18 + (3 * ((4 * s2) + ((σ.2.1 0) (16 + s2))))) + 2) x3) (42 + ((4 * s2) + ((σ.2.1 0) (16 + s2)))) 0) (16 + s2)) + 1)), kp_58) dX11_addLinearSet_139 ⟨rfl, (Or.inr (Or.inr (Or.inr ⟨c_9, c_25, by omega, rfl, h_58.1, h_58.2, rfl, by rw [va_up, if_pos rfl]; simp only [va_up]; repeat rw [if_neg (by omega)], (by unfold va_up; repeat (first | rw [if_pos (by omega)] | rw [if_neg (by omega)])), (by unfold va_up; repeat (first | rw [if_pos (by omega)] | rw [if_neg (by omega)])), (by unfold va_up; repeat (first | rw [if_pos (by omega)] | rw [if_neg (by omega)])), (by unfold va_up; repeat (first | rw [if_pos (by omega)] | rw [if_neg (by omega)])), fun k q1 q2 q3 q4 q5 => (by unfold va_up; repeat (first | rw [if_pos (by omega)] | rw [if_neg (by omega)]))⟩)))⟩ hP hD hS
      · refine lv_aload_n hx hb dX11_addLinearSet_51 rfl (lv_at hl 1 rfl) ?_
        refine lv_iconst (v := nI 3) hx hb dX11_addLinearSet_52 (by decide) ?_
        refine jn_calli (va_runV (As := [.int (nI 3)]) (rest := []) ⟨hx, hb, hml, hown, hts⟩ (c_X11_fails l g tl H.size (sF σ 0 0) 3) (cwV 1 hts gX11_addLinearSet_X11_fails rfl rfl rfl (by decide +kernel) ⟨Nat.le_of_ble_eq_true rfl, Nat.le_of_ble_eq_true rfl⟩) (okWV hK hP hD rfl (gM0 g (sF σ 0 0) tl)) rfl rfl hl.1 rfl (lv_room (Nat.le_of_ble_eq_true rfl)) dX11_addLinearSet_53 ⟨Nat.le_of_ble_eq_true rfl, Nat.le_of_ble_eq_true rfl⟩) hD hS hAA (fun r_53 u H locs hw_ hP hD hS => ?_)
        obtain rfl := hw_
        have hP : va_P (g.1, g.2.1) vwCl (wM g (sF (sF σ 0 0) 0 3) ++ tl) H := hP
        have hD : va_D A (wM g (sF (sF σ 0 0) 0 3) ++ tl) := hD
        exact hq _ _ _ _ ((nI 0)) (0, 3, (σ.1 1), (σ.2.1 0), (σ.2.1 2)) dX11_addLinearSet_56 ⟨rfl, (Or.inr (Or.inr (Or.inl ⟨c_9, c_25, c_48, rfl, rfl, rfl, rfl⟩)))⟩ hP hD hS
    · refine lv_aload_n hx hb dX11_addLinearSet_28 rfl (lv_at hl 0 rfl) ?_
      refine lv_iconst (v := nI 2) hx hb dX11_addLinearSet_29 (by decide) ?_
      refine jn_calli (va_runV (As := [.int (nI 2)]) (rest := []) ⟨hx, hb, hml, hown, hts⟩ (c_X11_fails l g tl H.size (sF σ 0 0) 2) (cwV 1 hts gX11_addLinearSet_X11_fails rfl rfl rfl (by decide +kernel) ⟨Nat.le_of_ble_eq_true rfl, Nat.le_of_ble_eq_true rfl⟩) (okWV hK hP hD rfl (gM0 g (sF σ 0 0) tl)) rfl rfl hl.1 rfl (lv_room (Nat.le_of_ble_eq_true rfl)) dX11_addLinearSet_30 ⟨Nat.le_of_ble_eq_true rfl, Nat.le_of_ble_eq_true rfl⟩) hD hS hAA (fun r_30 u H locs hw_ hP hD hS => ?_)
      obtain rfl := hw_
      have hP : va_P (g.1, g.2.1) vwCl (wM g (sF (sF σ 0 0) 0 2) ++ tl) H := hP
      have hD : va_D A (wM g (sF (sF σ 0 0) 0 2) ++ tl) := hD
      exact hq _ _ _ _ ((nI 0)) (0, 2, (σ.1 1), (σ.2.1 0), (σ.2.1 2)) dX11_addLinearSet_33 ⟨rfl, (Or.inr (Or.inl ⟨c_9, c_25, rfl, rfl, rfl, rfl⟩))⟩ hP hD hS
  · refine lv_aload_n hx hb dX11_addLinearSet_12 rfl (lv_at hl 0 rfl) ?_
    refine lv_iconst (v := nI 1) hx hb dX11_addLinearSet_13 (by decide) ?_
    refine jn_calli (va_runV (As := [.int (nI 1)]) (rest := []) ⟨hx, hb, hml, hown, hts⟩ (c_X11_fails l g tl H.size (sF σ 0 0) 1) (cwV 1 hts gX11_addLinearSet_X11_fails rfl rfl rfl (by decide +kernel) ⟨Nat.le_of_ble_eq_true rfl, Nat.le_of_ble_eq_true rfl⟩) (okWV hK hP hD rfl (gM0 g (sF σ 0 0) tl)) rfl rfl hl.1 rfl (lv_room (Nat.le_of_ble_eq_true rfl)) dX11_addLinearSet_14 ⟨Nat.le_of_ble_eq_true rfl, Nat.le_of_ble_eq_true rfl⟩) hD hS hAA (fun r_14 u H locs hw_ hP hD hS => ?_)
    obtain rfl := hw_
    have hP : va_P (g.1, g.2.1) vwCl (wM g (sF (sF σ 0 0) 0 1) ++ tl) H := hP
    have hD : va_D A (wM g (sF (sF σ 0 0) 0 1) ++ tl) := hD
    exact hq _ _ _ _ ((nI 0)) (0, 1, (σ.1 1), (σ.2.1 0), (σ.2.1 2)) dX11_addLinearSet_17 ⟨rfl, (Or.inl ⟨c_9, rfl, rfl, rfl, rfl⟩)⟩ hP hD hS

abbrev r_c_X11_addPeriod : Room := { frames := 3, cells := 0, slots := 0, locals := 64 }
set_option maxHeartbeats 4000000 in
set_option maxRecDepth 100000 in
theorem c_X11_addPeriod (l : Launch) (g : GC) (tl : va_W) (sz : Nat) (σ : SS) (s2 ln x1 x2 x3 : Nat) (hc8 : (σ.1 1) ≤ 8) (hm : ∀ s, s < 2 → (σ.2.1 0) (16 + s) ≤ 4) (hm3 : ∀ s, s < 2 → ∀ l, l < (σ.2.1 0) (16 + s) → (σ.2.1 0) (42 + (4 * s + l)) ≤ 3) (hs2 : s2 < 4294967296) (hln : ln < 4294967296) (hx1 : x1 < 4294967296) (hx2 : x2 < 4294967296) (hx3 : x3 < 4294967296) : Met l yX11_addPeriod wsX11_addPeriod r_c_X11_addPeriod (va_Pc [.ref (g.2.2.2 0), .int (nI s2), .int (nI ln), .int (nI x1), .int (nI x2), .int (nI x3)] (PW g (wM g σ ++ tl) sz)) (va_Qi (fun (r : Int32) (z : Nat × Nat × Nat × (Nat → Nat) × (Nat → Nat)) => match z with | (r0, th, ch, nw, kp) => (r = nI (r0)) ∧ ((¬ (s2 < 2 ∧ ln < (σ.2.1 0) (16 + s2)) ∧ th = 1 ∧ ch = (σ.1 1) ∧ nw = (σ.2.1 0) ∧ kp = (σ.2.1 2)) ∨ ((s2 < 2 ∧ ln < (σ.2.1 0) (16 + s2)) ∧ (¬ (x1 < 10 ∧ x2 < 10 ∧ x3 < 10) ∨ x1 + x2 + x3 = 0) ∧ th = 2 ∧ ch = (σ.1 1) ∧ nw = (σ.2.1 0) ∧ kp = (σ.2.1 2)) ∨ ((s2 < 2 ∧ ln < (σ.2.1 0) (16 + s2)) ∧ (x1 < 10 ∧ x2 < 10 ∧ x3 < 10) ∧ x1 + x2 + x3 ≠ 0 ∧ (σ.2.1 0) (42 + (4 * s2 + ln)) = 3 ∧ th = 3 ∧ ch = (σ.1 1) ∧ nw = (σ.2.1 0) ∧ kp = (σ.2.1 2)) ∨ ((s2 < 2 ∧ ln < (σ.2.1 0) (16 + s2)) ∧ (x1 < 10 ∧ x2 < 10 ∧ x3 < 10) ∧ x1 + x2 + x3 ≠ 0 ∧ (σ.2.1 0) (42 + (4 * s2 + ln)) < 3 ∧ th = 0 ∧ KpO (σ.2.1 2) (σ.2.1 0) (σ.1 1) kp ∧ ch = min ((σ.1 1) + 1) 8 ∧ r0 = (σ.2.1 0) (42 + (4 * s2 + ln)) + 1 ∧ nw (42 + (4 * s2 + ln)) = (σ.2.1 0) (42 + (4 * s2 + ln)) + 1 ∧ nw (50 + 9 * (4 * s2 + ln) + 3 * (σ.2.1 0) (42 + (4 * s2 + ln))) = x1 ∧ nw (50 + 9 * (4 * s2 + ln) + 3 * (σ.2.1 0) (42 + (4 * s2 + ln)) + 1) = x2 ∧ nw (50 + 9 * (4 * s2 + ln) + 3 * (σ.2.1 0) (42 + (4 * s2 + ln)) + 2) = x3 ∧ (∀ k, k ≠ 42 + (4 * s2 + ln) → k ≠ 50 + 9 * (4 * s2 + ln) + 3 * (σ.2.1 0) (42 + (4 * s2 + ln)) → k ≠ 50 + 9 * (4 * s2 + ln) + 3 * (σ.2.1 0) (42 + (4 * s2 + ln)) + 1 → k ≠ 50 + 9 * (4 * s2 + ln) + 3 * (σ.2.1 0) (42 + (4 * s2 + ln)) + 2 → nw k = (σ.2.1 0) k)))) (fun (z : Nat × Nat × Nat × (Nat → Nat) × (Nat → Nat)) t => BW g (va_A (wM g σ ++ tl) sz) ((fun z : Nat × Nat × Nat × (Nat → Nat) × (Nat → Nat) => match z with | (r0, th, ch, nw, kp) => wM g (sA (sA (sF (sF σ 0 th) 1 ch) 0 nw) 2 kp) ++ tl) z) t) (va_A (wM g σ ++ tl) sz)) 0 0 (va_A (wM g σ ++ tl) sz) := by
  refine jn_si (wf := fun z : Nat × Nat × Nat × (Nat → Nat) × (Nat → Nat) => match z with | (r0, th, ch, nw, kp) => wM g (sA (sA (sF (sF σ 0 th) 1 ch) 0 nw) 2 kp) ++ tl) (cc := cX11_addPeriod) (maxL := 8) (own := RX11) (by decide) rfl rfl (Nat.le_of_ble_eq_true rfl) ?_
  intro p e s m below meth c Q A hx hb hml hown hts hK hP hD hS hAA hq ls hl
  obtain ⟨H, eH⟩ : ∃ z, z = s.heap := ⟨_, rfl⟩
  obtain ⟨locs, el⟩ : ∃ z : List Loc, z = [] := ⟨_, rfl⟩
  rw [← eH] at hP
  have hS : va_S A s.heap H locs := by rw [eH, el]; exact hS
  have goal0 : W p l e r_c_X11_addPeriod s m ([.ref (g.2.2.2 0), .int (nI s2), .int (nI ln), .int (nI x1), .int (nI x2), .int (nI x3)] : List Value).toArray below meth c H locs 0 0 Q (F0 m 0 ls []) → W p l e r_c_X11_addPeriod s m ([.ref (g.2.2.2 0), .int (nI s2), .int (nI ln), .int (nI x1), .int (nI x2), .int (nI x3)] : List Value).toArray below meth c s.heap [] 0 0 Q (F0 m 0 ls []) := fun h => by rw [eH, el] at h; exact h
  refine goal0 ?_
  have hl : lv_has ls 8 [(0, .ref (g.2.2.2 0)), (1, .int (nI s2)), (2, .int (nI ln)), (3, .int (nI x1)), (4, .int (nI x2)), (5, .int (nI x3))] := hl
  have iX11 : ∀ w ∈ wsX110, w ∈ wsX11_addPeriod := by decide +kernel
  have k1 := hts (.fieldLink RX11 1 "JumpingAutomataModel" "thrown" "I") (by decide +kernel)
  have k13 := hts (.fieldLink RX11 13 "JumpingAutomataModel" "now" "[I") (by decide +kernel)
  refine lv_aload_n hx hb dX11_addPeriod_0 rfl (lv_at hl 0 rfl) ?_
  refine lv_iconst (v := nI 0) hx hb dX11_addPeriod_1 (by decide) ?_
  refine jn_put (D := (g.1, g.2.1)) (ci := 13) (v := .int (nI 0)) (ty := .int) (C := RX11) (T := TX11) (N := 30) hx hb hts iX11 tyX11 tyX11_ok nmX11 hown hK.1 hP hD hS 0 (gM0 g σ tl) rfl 0 (by decide) k1 (fun _ h9 => h9) rfl (by decide +kernel) rfl rfl (Nat.le_of_ble_eq_true rfl) (uM_F0 g σ tl 0) dX11_addPeriod_2 (fun H locs hP hD hS => ?_)
  refine lv_aload_n hx hb dX11_addPeriod_5 rfl (lv_at hl 0 rfl) ?_
  refine lv_iload_n hx hb dX11_addPeriod_6 rfl (lv_at hl 1 rfl) ?_
  refine lv_iload_n hx hb dX11_addPeriod_7 rfl (lv_at hl 2 rfl) ?_
  refine vp_callSi (va_Run.run (va_runV (As := [.int (nI s2), .int (nI ln)]) (rest := []) ⟨hx, hb, hml, hown, hts⟩ (c_X11_isLinear l g tl (sF σ 0 0) s2 ln hm hs2 hln) (cwV 2 hts gX11_addPeriod_X11_isLinear rfl rfl rfl (by decide +kernel) ⟨Nat.le_of_ble_eq_true rfl, Nat.le_of_ble_eq_true rfl⟩) (okPV hK hP rfl (gM0 g (sF σ 0 0) tl)) rfl rfl hl.1 rfl (lv_room (Nat.le_of_ble_eq_true rfl)) dX11_addPeriod_8 ⟨Nat.le_of_ble_eq_true rfl, Nat.le_of_ble_eq_true rfl⟩)) (fun r_8 h_8 => ?_)
  have h_8 : r_8 = (nI (if s2 < 2 ∧ ln < (σ.2.1 0) (16 + s2) then 1 else 0)) := h_8
  subst h_8
  refine jn_bne hx hb (tgt := 20) dX11_addPeriod_11 (by decide) (fun c_11 => ?_) (fun c_11 => ?_)
  · refine lv_iload_n hx hb dX11_addPeriod_20 rfl (lv_at hl 3 rfl) ?_
    refine lv_iload hx hb dX11_addPeriod_21 (lv_at hl 4 rfl) ?_
    refine lv_iload hx hb dX11_addPeriod_23 (lv_at hl 5 rfl) ?_
    refine vp_callSi (va_Run.run (va_runS (As := [.int (nI x1), .int (nI x2), .int (nI x3)]) (rest := []) ⟨hx, hb, hml, hown, hts⟩ (c_X11_areNine l x1 x2 x3 hx1 hx2 hx3) (va_cwS 3 hts gX11_addPeriod_X11_areNine rfl rfl rfl (by decide +kernel) ⟨Nat.le_of_ble_eq_true rfl, Nat.le_of_ble_eq_true rfl⟩) okTS rfl rfl hl.1 rfl (lv_room (Nat.le_of_ble_eq_true rfl)) dX11_addPeriod_25 ⟨Nat.le_of_ble_eq_true rfl, Nat.le_of_ble_eq_true rfl⟩)) (fun r_25 h_25 => ?_)
    subst h_25
    refine jn_beq hx hb (tgt := 41) dX11_addPeriod_28 (by decide) (fun c_28 => ?_) (fun c_28 => ?_)
    · refine lv_aload_n hx hb dX11_addPeriod_41 rfl (lv_at hl 0 rfl) ?_
      refine lv_iconst (v := nI 2) hx hb dX11_addPeriod_42 (by decide) ?_
      refine jn_calli (va_runV (As := [.int (nI 2)]) (rest := []) ⟨hx, hb, hml, hown, hts⟩ (c_X11_fails l g tl H.size (sF σ 0 0) 2) (cwV 1 hts gX11_addPeriod_X11_fails rfl rfl rfl (by decide +kernel) ⟨Nat.le_of_ble_eq_true rfl, Nat.le_of_ble_eq_true rfl⟩) (okWV hK hP hD rfl (gM0 g (sF σ 0 0) tl)) rfl rfl hl.1 rfl (lv_room (Nat.le_of_ble_eq_true rfl)) dX11_addPeriod_43 ⟨Nat.le_of_ble_eq_true rfl, Nat.le_of_ble_eq_true rfl⟩) hD hS hAA (fun r_43 u H locs hw_ hP hD hS => ?_)
      obtain rfl := hw_
      have hP : va_P (g.1, g.2.1) vwCl (wM g (sF (sF σ 0 0) 0 2) ++ tl) H := hP
      have hD : va_D A (wM g (sF (sF σ 0 0) 0 2) ++ tl) := hD
      exact hq _ _ _ _ ((nI 0)) (0, 2, (σ.1 1), (σ.2.1 0), (σ.2.1 2)) dX11_addPeriod_46 (by first | exact ⟨rfl, (Or.inr (Or.inl ⟨c_11, Or.inl c_28, rfl, rfl, rfl, rfl⟩))⟩ | exact ⟨rfl, (Or.inr (Or.inl ⟨c_11, Or.inr c_38, rfl, rfl, rfl, rfl⟩))⟩) hP hD hS
    · refine lv_iload_n hx hb dX11_addPeriod_31 rfl (lv_at hl 3 rfl) ?_
      refine lv_iload hx hb dX11_addPeriod_32 (lv_at hl 4 rfl) ?_
      refine jn_iadd hx hb dX11_addPeriod_34 ?_
      refine lv_iload hx hb dX11_addPeriod_35 (lv_at hl 5 rfl) ?_
      refine jn_iadd hx hb dX11_addPeriod_37 ?_
      refine jn_zne hx hb (by omega) (tgt := 47) dX11_addPeriod_38 (by decide) (fun c_38 => ?_) (fun c_38 => ?_)
      · refine lv_iconst (v := nI 4) hx hb dX11_addPeriod_47 (by decide) ?_
        refine lv_iload_n hx hb dX11_addPeriod_48 rfl (lv_at hl 1 rfl) ?_
        refine jn_imul hx hb dX11_addPeriod_49 ?_
        refine lv_iload_n hx hb dX11_addPeriod_50 rfl (lv_at hl 2 rfl) ?_
        refine jn_iadd hx hb dX11_addPeriod_51 ?_
        refine lv_istore (lv' := [(6, .int (nI ((4 * s2) + ln))), (0, .ref (g.2.2.2 0)), (1, .int (nI s2)), (2, .int (nI ln)), (3, .int (nI x1)), (4, .int (nI x2)), (5, .int (nI x3))]) hx hb dX11_addPeriod_52 hl (by decide) rfl (fun ls hl => ?_)
        refine lv_aload_n hx hb dX11_addPeriod_54 rfl (lv_at hl 1 rfl) ?_
        refine va_get (D := (g.1, g.2.1)) (ci := 13) (v := .ref (g.2.2.2 1)) (C := RX11) (T := TX11) (N := 30) hx hb hts iX11 hown hK.1 hP 0 (gM0 g (sF σ 0 0) tl) rfl 1 (by decide) k13 (fun _ h9 => h9) rfl dX11_addPeriod_55 ?_
        refine lv_bipush (v := nI 42) hx hb dX11_addPeriod_58 (by decide) ?_
        refine lv_iload hx hb dX11_addPeriod_60 (lv_at hl 0 rfl) ?_
        refine jn_iadd hx hb dX11_addPeriod_62 ?_
        have hm1 := hm s2 c_11.1
        have hm2 := hm3 s2 c_11.1 ln c_11.2
        refine jn_iald (f := σ.2.1 0) hx hb hK.1 hP 1 0 (gM1 g (sF σ 0 0) tl) rfl (by omega) (Nat.le_of_ble_eq_true rfl) dX11_addPeriod_63 ?_
        refine lv_iconst (v := nI 3) hx hb dX11_addPeriod_64 (by decide) ?_
        refine jn_cne hx hb (by omega) (by decide) (tgt := 74) dX11_addPeriod_65 (by decide) (fun c_65 => ?_) (fun c_65 => ?_)
        · refine lv_aload_n hx hb dX11_addPeriod_74 rfl (lv_at hl 1 rfl) ?_
          refine jn_callv (va_runV (As := []) (rest := []) ⟨hx, hb, hml, hown, hts⟩ (c_X11_keeps l g tl H.size (sF σ 0 0) hc8) (cwV 0 hts gX11_addPeriod_X11_keeps rfl rfl rfl (by decide +kernel) ⟨Nat.le_of_ble_eq_true rfl, Nat.le_of_ble_eq_true rfl⟩) (okWV hK hP hD rfl (gM0 g (sF σ 0 0) tl)) rfl rfl hl.1 rfl (lv_room (Nat.le_of_ble_eq_true rfl)) dX11_addPeriod_75 ⟨Nat.le_of_ble_eq_true rfl, Nat.le_of_ble_eq_true rfl⟩) hD hS hAA (fun u H locs hw_ hP hD hS => ?_)
          obtain ⟨kp_75, ch_75⟩ := u
          have h_75 := hw_
          have h_75 : (KpO (σ.2.1 2) (σ.2.1 0) (σ.1 1) kp_75) ∧ (ch_75 = min ((σ.1 1) + 1) 8) := h_75
          have hP : va_P (g.1, g.2.1) vwCl (wM g (sA (sF (sF σ 0 0) 1 ch_75) 2 kp_75) ++ tl) H := hP
          have hD : va_D A (wM g (sA (sF (sF σ 0 0) 1 ch_75) 2 kp_75) ++ tl) := hD
          refine lv_bipush (v := nI 50) hx hb dX11_addPeriod_78 (by decide) ?_
          refine lv_bipush (v := nI 9) hx hb dX11_addPeriod_80 (by decide) ?_
          refine lv_iload hx hb dX11_addPeriod_82 (lv_at hl 0 rfl) ?_
          refine jn_imul hx hb dX11_addPeriod_84 ?_
          refine jn_iadd hx hb dX11_addPeriod_85 ?_
          refine lv_iconst (v := nI 3) hx hb dX11_addPeriod_86 (by decide) ?_
          refine lv_aload_n hx hb dX11_addPeriod_87 rfl (lv_at hl 1 rfl) ?_
          refine va_get (D := (g.1, g.2.1)) (ci := 13) (v := .ref (g.2.2.2 1)) (C := RX11) (T := TX11) (N := 30) hx hb hts iX11 hown hK.1 hP 0 (gM0 g (sA (sF (sF σ 0 0) 1 ch_75) 2 kp_75) tl) rfl 1 (by decide) k13 (fun _ h9 => h9) rfl dX11_addPeriod_88 ?_
          refine lv_bipush (v := nI 42) hx hb dX11_addPeriod_91 (by decide) ?_
          refine lv_iload hx hb dX11_addPeriod_93 (lv_at hl 0 rfl) ?_
          refine jn_iadd hx hb dX11_addPeriod_95 ?_
          refine jn_iald (f := σ.2.1 0) hx hb hK.1 hP 1 0 (gM1 g (sA (sF (sF σ 0 0) 1 ch_75) 2 kp_75) tl) rfl (by omega) (Nat.le_of_ble_eq_true rfl) dX11_addPeriod_96 ?_
          refine jn_imul hx hb dX11_addPeriod_97 ?_
          refine jn_iadd hx hb dX11_addPeriod_98 ?_
          refine lv_istore (lv' := [(7, .int (nI ((50 + (9 * ((4 * s2) + ln))) + (3 * ((σ.2.1 0) (42 + ((4 * s2) + ln))))))), (6, .int (nI ((4 * s2) + ln))), (0, .ref (g.2.2.2 0)), (1, .int (nI s2)), (2, .int (nI ln)), (3, .int (nI x1)), (4, .int (nI x2)), (5, .int (nI x3))]) hx hb dX11_addPeriod_99 hl (by decide) rfl (fun ls hl => ?_)
          refine lv_aload_n hx hb dX11_addPeriod_101 rfl (lv_at hl 2 rfl) ?_
          refine va_get (D := (g.1, g.2.1)) (ci := 13) (v := .ref (g.2.2.2 1)) (C := RX11) (T := TX11) (N := 30) hx hb hts iX11 hown hK.1 hP 0 (gM0 g (sA (sF (sF σ 0 0) 1 ch_75) 2 kp_75) tl) rfl 1 (by decide) k13 (fun _ h9 => h9) rfl dX11_addPeriod_102 ?_
          refine lv_iload hx hb dX11_addPeriod_105 (lv_at hl 0 rfl) ?_
          refine lv_iload_n hx hb dX11_addPeriod_107 rfl (lv_at hl 5 rfl) ?_
          refine jn_iast (f := σ.2.1 0) hx hb hK.1 hP hD hS 1 0 (gM1 g (sA (sF (sF σ 0 0) 1 ch_75) 2 kp_75) tl) rfl (by omega) (Nat.le_of_ble_eq_true rfl) (uM_A0 g (sA (sF (sF σ 0 0) 1 ch_75) 2 kp_75) tl _) dX11_addPeriod_108 (fun H locs hP hD hS => ?_)
          refine lv_aload_n hx hb dX11_addPeriod_109 rfl (lv_at hl 2 rfl) ?_
          refine va_get (D := (g.1, g.2.1)) (ci := 13) (v := .ref (g.2.2.2 1)) (C := RX11) (T := TX11) (N := 30) hx hb hts iX11 hown hK.1 hP 0 (gM0 g (sA (sA (sF (sF σ 0 0) 1 ch_75) 2 kp_75) 0 (va_up (σ.2.1 0) ((50 + (9 * ((4 * s2) + ln))) + (3 * ((σ.2.1 0) (42 + ((4 * s2) + ln))))) x1)) tl) rfl 1 (by decide) k13 (fun _ h9 => h9) rfl dX11_addPeriod_110 ?_
          refine lv_iload hx hb dX11_addPeriod_113 (lv_at hl 0 rfl) ?_
          refine lv_iconst (v := nI 1) hx hb dX11_addPeriod_115 (by decide) ?_
          refine jn_iadd hx hb dX11_addPeriod_116 ?_
          refine lv_iload hx hb dX11_addPeriod_117 (lv_at hl 6 rfl) ?_
          refine jn_iast (f := va_up (σ.2.1 0) ((50 + (9 * ((4 * s2) + ln))) + (3 * ((σ.2.1 0) (42 + ((4 * s2) + ln))))) x1) hx hb hK.1 hP hD hS 1 0 (gM1 g (sA (sA (sF (sF σ 0 0) 1 ch_75) 2 kp_75) 0 (va_up (σ.2.1 0) ((50 + (9 * ((4 * s2) + ln))) + (3 * ((σ.2.1 0) (42 + ((4 * s2) + ln))))) x1)) tl) rfl (by omega) (Nat.le_of_ble_eq_true rfl) (uM_A0 g (sA (sA (sF (sF σ 0 0) 1 ch_75) 2 kp_75) 0 (va_up (σ.2.1 0) ((50 + (9 * ((4 * s2) + ln))) + (3 * ((σ.2.1 0) (42 + ((4 * s2) + ln))))) x1)) tl _) dX11_addPeriod_119 (fun H locs hP hD hS => ?_)
          refine lv_aload_n hx hb dX11_addPeriod_120 rfl (lv_at hl 2 rfl) ?_
          refine va_get (D := (g.1, g.2.1)) (ci := 13) (v := .ref (g.2.2.2 1)) (C := RX11) (T := TX11) (N := 30) hx hb hts iX11 hown hK.1 hP 0 (gM0 g (sA (sA (sA (sF (sF σ 0 0) 1 ch_75) 2 kp_75) 0 (va_up (σ.2.1 0) ((50 + (9 * ((4 * s2) + ln))) + (3 * ((σ.2.1 0) (42 + ((4 * s2) + ln))))) x1)) 0 (va_up (va_up (σ.2.1 0) ((50 + (9 * ((4 * s2) + ln))) + (3 * ((σ.2.1 0) (42 + ((4 * s2) + ln))))) x1) (((50 + (9 * ((4 * s2) + ln))) + (3 * ((σ.2.1 0) (42 + ((4 * s2) + ln))))) + 1) x2)) tl) rfl 1 (by decide) k13 (fun _ h9 => h9) rfl dX11_addPeriod_121 ?_
          refine lv_iload hx hb dX11_addPeriod_124 (lv_at hl 0 rfl) ?_
          refine lv_iconst (v := nI 2) hx hb dX11_addPeriod_126 (by decide) ?_
          refine jn_iadd hx hb dX11_addPeriod_127 ?_
          refine lv_iload hx hb dX11_addPeriod_128 (lv_at hl 7 rfl) ?_
          refine jn_iast (f := va_up (va_up (σ.2.1 0) ((50 + (9 * ((4 * s2) + ln))) + (3 * ((σ.2.1 0) (42 + ((4 * s2) + ln))))) x1) (((50 + (9 * ((4 * s2) + ln))) + (3 * ((σ.2.1 0) (42 + ((4 * s2) + ln))))) + 1) x2) hx hb hK.1 hP hD hS 1 0 (gM1 g (sA (sA (sA (sF (sF σ 0 0) 1 ch_75) 2 kp_75) 0 (va_up (σ.2.1 0) ((50 + (9 * ((4 * s2) + ln))) + (3 * ((σ.2.1 0) (42 + ((4 * s2) + ln))))) x1)) 0 (va_up (va_up (σ.2.1 0) ((50 + (9 * ((4 * s2) + ln))) + (3 * ((σ.2.1 0) (42 + ((4 * s2) + ln))))) x1) (((50 + (9 * ((4 * s2) + ln))) + (3 * ((σ.2.1 0) (42 + ((4 * s2) + ln))))) + 1) x2)) tl) rfl (by omega) (Nat.le_of_ble_eq_true rfl) (uM_A0 g (sA (sA (sA (sF (sF σ 0 0) 1 ch_75) 2 kp_75) 0 (va_up (σ.2.1 0) ((50 + (9 * ((4 * s2) + ln))) + (3 * ((σ.2.1 0) (42 + ((4 * s2) + ln))))) x1)) 0 (va_up (va_up (σ.2.1 0) ((50 + (9 * ((4 * s2) + ln))) + (3 * ((σ.2.1 0) (42 + ((4 * s2) + ln))))) x1) (((50 + (9 * ((4 * s2) + ln))) + (3 * ((σ.2.1 0) (42 + ((4 * s2) + ln))))) + 1) x2)) tl _) dX11_addPeriod_130 (fun H locs hP hD hS => ?_)
          refine lv_aload_n hx hb dX11_addPeriod_131 rfl (lv_at hl 2 rfl) ?_
          refine va_get (D := (g.1, g.2.1)) (ci := 13) (v := .ref (g.2.2.2 1)) (C := RX11) (T := TX11) (N := 30) hx hb hts iX11 hown hK.1 hP 0 (gM0 g (sA (sA (sA (sA (sF (sF σ 0 0) 1 ch_75) 2 kp_75) 0 (va_up (σ.2.1 0) ((50 + (9 * ((4 * s2) + ln))) + (3 * ((σ.2.1 0) (42 + ((4 * s2) + ln))))) x1)) 0 (va_up (va_up (σ.2.1 0) ((50 + (9 * ((4 * s2) + ln))) + (3 * ((σ.2.1 0) (42 + ((4 * s2) + ln))))) x1) (((50 + (9 * ((4 * s2) + ln))) + (3 * ((σ.2.1 0) (42 + ((4 * s2) + ln))))) + 1) x2)) 0 (va_up (va_up (va_up (σ.2.1 0) ((50 + (9 * ((4 * s2) + ln))) + (3 * ((σ.2.1 0) (42 + ((4 * s2) + ln))))) x1) (((50 + (9 * ((4 * s2) + ln))) + (3 * ((σ.2.1 0) (42 + ((4 * s2) + ln))))) + 1) x2) (((50 + (9 * ((4 * s2) + ln))) + (3 * ((σ.2.1 0) (42 + ((4 * s2) + ln))))) + 2) x3)) tl) rfl 1 (by decide) k13 (fun _ h9 => h9) rfl dX11_addPeriod_132 ?_
          refine lv_bipush (v := nI 42) hx hb dX11_addPeriod_135 (by decide) ?_
          refine lv_iload hx hb dX11_addPeriod_137 (lv_at hl 1 rfl) ?_
          refine jn_iadd hx hb dX11_addPeriod_139 ?_
          refine lv_dup2_11 hx hb dX11_addPeriod_140 rfl rfl ?_
          refine jn_iald (f := va_up (va_up (va_up (σ.2.1 0) ((50 + (9 * ((4 * s2) + ln))) + (3 * ((σ.2.1 0) (42 + ((4 * s2) + ln))))) x1) (((50 + (9 * ((4 * s2) + ln))) + (3 * ((σ.2.1 0) (42 + ((4 * s2) + ln))))) + 1) x2) (((50 + (9 * ((4 * s2) + ln))) + (3 * ((σ.2.1 0) (42 + ((4 * s2) + ln))))) + 2) x3) hx hb hK.1 hP 1 0 (gM1 g (sA (sA (sA (sA (sF (sF σ 0 0) 1 ch_75) 2 kp_75) 0 (va_up (σ.2.1 0) ((50 + (9 * ((4 * s2) + ln))) + (3 * ((σ.2.1 0) (42 + ((4 * s2) + ln))))) x1)) 0 (va_up (va_up (σ.2.1 0) ((50 + (9 * ((4 * s2) + ln))) + (3 * ((σ.2.1 0) (42 + ((4 * s2) + ln))))) x1) (((50 + (9 * ((4 * s2) + ln))) + (3 * ((σ.2.1 0) (42 + ((4 * s2) + ln))))) + 1) x2)) 0 (va_up (va_up (va_up (σ.2.1 0) ((50 + (9 * ((4 * s2) + ln))) + (3 * ((σ.2.1 0) (42 + ((4 * s2) + ln))))) x1) (((50 + (9 * ((4 * s2) + ln))) + (3 * ((σ.2.1 0) (42 + ((4 * s2) + ln))))) + 1) x2) (((50 + (9 * ((4 * s2) + ln))) + (3 * ((σ.2.1 0) (42 + ((4 * s2) + ln))))) + 2) x3)) tl) rfl (by omega) (Nat.le_of_ble_eq_true rfl) dX11_addPeriod_141 ?_
          refine lv_iconst (v := nI 1) hx hb dX11_addPeriod_142 (by decide) ?_
          refine jn_iadd hx hb dX11_addPeriod_143 ?_
          refine jn_iast (f := va_up (va_up (va_up (σ.2.1 0) ((50 + (9 * ((4 * s2) + ln))) + (3 * ((σ.2.1 0) (42 + ((4 * s2) + ln))))) x1) (((50 + (9 * ((4 * s2) + ln))) + (3 * ((σ.2.1 0) (42 + ((4 * s2) + ln))))) + 1) x2) (((50 + (9 * ((4 * s2) + ln))) + (3 * ((σ.2.1 0) (42 + ((4 * s2) + ln))))) + 2) x3) hx hb hK.1 hP hD hS 1 0 (gM1 g (sA (sA (sA (sA (sF (sF σ 0 0) 1 ch_75) 2 kp_75) 0 (va_up (σ.2.1 0) ((50 + (9 * ((4 * s2) + ln))) + (3 * ((σ.2.1 0) (42 + ((4 * s2) + ln))))) x1)) 0 (va_up (va_up (σ.2.1 0) ((50 + (9 * ((4 * s2) + ln))) + (3 * ((σ.2.1 0) (42 + ((4 * s2) + ln))))) x1) (((50 + (9 * ((4 * s2) + ln))) + (3 * ((σ.2.1 0) (42 + ((4 * s2) + ln))))) + 1) x2)) 0 (va_up (va_up (va_up (σ.2.1 0) ((50 + (9 * ((4 * s2) + ln))) + (3 * ((σ.2.1 0) (42 + ((4 * s2) + ln))))) x1) (((50 + (9 * ((4 * s2) + ln))) + (3 * ((σ.2.1 0) (42 + ((4 * s2) + ln))))) + 1) x2) (((50 + (9 * ((4 * s2) + ln))) + (3 * ((σ.2.1 0) (42 + ((4 * s2) + ln))))) + 2) x3)) tl) rfl (by omega) (Nat.le_of_ble_eq_true rfl) (uM_A0 g (sA (sA (sA (sA (sF (sF σ 0 0) 1 ch_75) 2 kp_75) 0 (va_up (σ.2.1 0) ((50 + (9 * ((4 * s2) + ln))) + (3 * ((σ.2.1 0) (42 + ((4 * s2) + ln))))) x1)) 0 (va_up (va_up (σ.2.1 0) ((50 + (9 * ((4 * s2) + ln))) + (3 * ((σ.2.1 0) (42 + ((4 * s2) + ln))))) x1) (((50 + (9 * ((4 * s2) + ln))) + (3 * ((σ.2.1 0) (42 + ((4 * s2) + ln))))) + 1) x2)) 0 (va_up (va_up (va_up (σ.2.1 0) ((50 + (9 * ((4 * s2) + ln))) + (3 * ((σ.2.1 0) (42 + ((4 * s2) + ln))))) x1) (((50 + (9 * ((4 * s2) + ln))) + (3 * ((σ.2.1 0) (42 + ((4 * s2) + ln))))) + 1) x2) (((50 + (9 * ((4 * s2) + ln))) + (3 * ((σ.2.1 0) (42 + ((4 * s2) + ln))))) + 2) x3)) tl _) dX11_addPeriod_144 (fun H locs hP hD hS => ?_)
          refine lv_aload_n hx hb dX11_addPeriod_145 rfl (lv_at hl 2 rfl) ?_
          refine va_get (D := (g.1, g.2.1)) (ci := 13) (v := .ref (g.2.2.2 1)) (C := RX11) (T := TX11) (N := 30) hx hb hts iX11 hown hK.1 hP 0 (gM0 g (sA (sA (sA (sA (sA (sF (sF σ 0 0) 1 ch_75) 2 kp_75) 0 (va_up (σ.2.1 0) ((50 + (9 * ((4 * s2) + ln))) + (3 * ((σ.2.1 0) (42 + ((4 * s2) + ln))))) x1)) 0 (va_up (va_up (σ.2.1 0) ((50 + (9 * ((4 * s2) + ln))) + (3 * ((σ.2.1 0) (42 + ((4 * s2) + ln))))) x1) (((50 + (9 * ((4 * s2) + ln))) + (3 * ((σ.2.1 0) (42 + ((4 * s2) + ln))))) + 1) x2)) 0 (va_up (va_up (va_up (σ.2.1 0) ((50 + (9 * ((4 * s2) + ln))) + (3 * ((σ.2.1 0) (42 + ((4 * s2) + ln))))) x1) (((50 + (9 * ((4 * s2) + ln))) + (3 * ((σ.2.1 0) (42 + ((4 * s2) + ln))))) + 1) x2) (((50 + (9 * ((4 * s2) + ln))) + (3 * ((σ.2.1 0) (42 + ((4 * s2) + ln))))) + 2) x3)) 0 (va_up (va_up (va_up (va_up (σ.2.1 0) ((50 + (9 * ((4 * s2) + ln))) + (3 * ((σ.2.1 0) (42 + ((4 * s2) + ln))))) x1) (((50 + (9 * ((4 * s2) + ln))) + (3 * ((σ.2.1 0) (42 + ((4 * s2) + ln))))) + 1) x2) (((50 + (9 * ((4 * s2) + ln))) + (3 * ((σ.2.1 0) (42 + ((4 * s2) + ln))))) + 2) x3) (42 + ((4 * s2) + ln)) (((va_up (va_up (va_up (σ.2.1 0) ((50 + (9 * ((4 * s2) + ln))) + (3 * ((σ.2.1 0) (42 + ((4 * s2) + ln))))) x1) (((50 + (9 * ((4 * s2) + ln))) + (3 * ((σ.2.1 0) (42 + ((4 * s2) + ln))))) + 1) x2) (((50 + (9 * ((4 * s2) + ln))) + (3 * ((σ.2.1 0) (42 + ((4 * s2) + ln))))) + 2) x3) (42 + ((4 * s2) + ln))) + 1))) tl) rfl 1 (by decide) k13 (fun _ h9 => h9) rfl dX11_addPeriod_146 ?_
          refine lv_bipush (v := nI 42) hx hb dX11_addPeriod_149 (by decide) ?_
          refine lv_iload hx hb dX11_addPeriod_151 (lv_at hl 1 rfl) ?_
          refine jn_iadd hx hb dX11_addPeriod_153 ?_
          refine jn_iald (f := va_up (va_up (va_up (va_up (σ.2.1 0) ((50 + (9 * ((4 * s2) + ln))) + (3 * ((σ.2.1 0) (42 + ((4 * s2) + ln))))) x1) (((50 + (9 * ((4 * s2) + ln))) + (3 * ((σ.2.1 0) (42 + ((4 * s2) + ln))))) + 1) x2) (((50 + (9 * ((4 * s2) + ln))) + (3 * ((σ.2.1 0) (42 + ((4 * s2) + ln))))) + 2) x3) (42 + ((4 * s2) + ln)) (((va_up (va_up (va_up (σ.2.1 0) ((50 + (9 * ((4 * s2) + ln))) + (3 * ((σ.2.1 0) (42 + ((4 * s2) + ln))))) x1) (((50 + (9 * ((4 * s2) + ln))) + (3 * ((σ.2.1 0) (42 + ((4 * s2) + ln))))) + 1) x2) (((50 + (9 * ((4 * s2) + ln))) + (3 * ((σ.2.1 0) (42 + ((4 * s2) + ln))))) + 2) x3) (42 + ((4 * s2) + ln))) + 1)) hx hb hK.1 hP 1 0 (gM1 g (sA (sA (sA (sA (sA (sF (sF σ 0 0) 1 ch_75) 2 kp_75) 0 (va_up (σ.2.1 0) ((50 + (9 * ((4 * s2) + ln))) + (3 * ((σ.2.1 0) (42 + ((4 * s2) + ln))))) x1)) 0 (va_up (va_up (σ.2.1 0) ((50 + (9 * ((4 * s2) + ln))) + (3 * ((σ.2.1 0) (42 + ((4 * s2) + ln))))) x1) (((50 + (9 * ((4 * s2) + ln))) + (3 * ((σ.2.1 0) (42 + ((4 * s2) + ln))))) + 1) x2)) 0 (va_up (va_up (va_up (σ.2.1 0) ((50 + (9 * ((4 * s2) + ln))) + (3 * ((σ.2.1 0) (42 + ((4 * s2) + ln))))) x1) (((50 + (9 * ((4 * s2) + ln))) + (3 * ((σ.2.1 0) (42 + ((4 * s2) + ln))))) + 1) x2) (((50 + (9 * ((4 * s2) + ln))) + (3 * ((σ.2.1 0) (42 + ((4 * s2) + ln))))) + 2) x3)) 0 (va_up (va_up (va_up (va_up (σ.2.1 0) ((50 + (9 * ((4 * s2) + ln))) + (3 * ((σ.2.1 0) (42 + ((4 * s2) + ln))))) x1) (((50 + (9 * ((4 * s2) + ln))) + (3 * ((σ.2.1 0) (42 + ((4 * s2) + ln))))) + 1) x2) (((50 + (9 * ((4 * s2) + ln))) + (3 * ((σ.2.1 0) (42 + ((4 * s2) + ln))))) + 2) x3) (42 + ((4 * s2) + ln)) (((va_up (va_up (va_up (σ.2.1 0) ((50 + (9 * ((4 * s2) + ln))) + (3 * ((σ.2.1 0) (42 + ((4 * s2) + ln))))) x1) (((50 + (9 * ((4 * s2) + ln))) + (3 * ((σ.2.1 0) (42 + ((4 * s2) + ln))))) + 1) x2) (((50 + (9 * ((4 * s2) + ln))) + (3 * ((σ.2.1 0) (42 + ((4 * s2) + ln))))) + 2) x3) (42 + ((4 * s2) + ln))) + 1))) tl) rfl (by omega) (Nat.le_of_ble_eq_true rfl) dX11_addPeriod_154 ?_
          rw [show (va_up (va_up (va_up (va_up (σ.2.1 0) ((50 + (9 * ((4 * s2) + ln))) + (3 * ((σ.2.1 0) (42 + ((4 * s2) + ln))))) x1) (((50 + (9 * ((4 * s2) + ln))) + (3 * ((σ.2.1 0) (42 + ((4 * s2) + ln))))) + 1) x2) (((50 + (9 * ((4 * s2) + ln))) + (3 * ((σ.2.1 0) (42 + ((4 * s2) + ln))))) + 2) x3) (42 + ((4 * s2) + ln)) (((va_up (va_up (va_up (σ.2.1 0) ((50 + (9 * ((4 * s2) + ln))) + (3 * ((σ.2.1 0) (42 + ((4 * s2) + ln))))) x1) (((50 + (9 * ((4 * s2) + ln))) + (3 * ((σ.2.1 0) (42 + ((4 * s2) + ln))))) + 1) x2) (((50 + (9 * ((4 * s2) + ln))) + (3 * ((σ.2.1 0) (42 + ((4 * s2) + ln))))) + 2) x3) (42 + ((4 * s2) + ln))) + 1)) (42 + (4 * s2 + ln)) = (σ.2.1 0) (42 + (4 * s2 + ln)) + 1 from (by rw [va_up, if_pos rfl]; simp only [va_up]; repeat rw [if_neg (by omega)])]
          exact hq _ _ _ _ ((nI ((σ.2.1 0) (42 + (4 * s2 + ln)) + 1))) (_, 0, ch_75, (va_up (va_up (va_up (va_up (σ.2.1 0) ((50 + (9 * ((4 * s2) + ln))) + (3 * ((σ.2.1 0) (42 + ((4 * s2) + ln))))) x1) (((50 + (9 * ((4 * s2) + ln))) + (3 * ((σ.2.1 0) (42 + ((4 * s2) + ln))))) + 1) x2) (((50 + (9 * ((4 * s2) + ln))) + (3 * ((σ.2.1 0) (42 + ((4 * s2) + ln))))) + 2) x3) (42 + ((4 * s2) + ln)) (((va_up (va_up (va_up (σ.2.1 0) ((50 + (9 * ((4 * s2) + ln))) + (3 * ((σ.2.1 0) (42 + ((4 * s2) + ln))))) x1) (((50 + (9 * ((4 * s2) + ln))) + (3 * ((σ.2.1 0) (42 + ((4 * s2) + ln))))) + 1) x2) (((50 + (9 * ((4 * s2) + ln))) + (3 * ((σ.2.1 0) (42 + ((4 * s2) + ln))))) + 2) x3) (42 + ((4 * s2) + ln))) + 1)), kp_75) dX11_addPeriod_155 ⟨rfl, (Or.inr (Or.inr (Or.inr ⟨c_11, c_28, c_38, by omega, rfl, h_75.1, h_75.2, rfl, by rw [va_up, if_pos rfl]; simp only [va_up]; repeat rw [if_neg (by omega)], (by unfold va_up; repeat (first | rw [if_pos (by omega)] | rw [if_neg (by omega)])), (by unfold va_up; repeat (first | rw [if_pos (by omega)] | rw [if_neg (by omega)])), (by unfold va_up; repeat (first | rw [if_pos (by omega)] | rw [if_neg (by omega)])), fun k q1 q2 q3 q4 => (by unfold va_up; repeat (first | rw [if_pos (by omega)] | rw [if_neg (by omega)]))⟩)))⟩ hP hD hS
        · refine lv_aload_n hx hb dX11_addPeriod_68 rfl (lv_at hl 1 rfl) ?_
          refine lv_iconst (v := nI 3) hx hb dX11_addPeriod_69 (by decide) ?_
          refine jn_calli (va_runV (As := [.int (nI 3)]) (rest := []) ⟨hx, hb, hml, hown, hts⟩ (c_X11_fails l g tl H.size (sF σ 0 0) 3) (cwV 1 hts gX11_addPeriod_X11_fails rfl rfl rfl (by decide +kernel) ⟨Nat.le_of_ble_eq_true rfl, Nat.le_of_ble_eq_true rfl⟩) (okWV hK hP hD rfl (gM0 g (sF σ 0 0) tl)) rfl rfl hl.1 rfl (lv_room (Nat.le_of_ble_eq_true rfl)) dX11_addPeriod_70 ⟨Nat.le_of_ble_eq_true rfl, Nat.le_of_ble_eq_true rfl⟩) hD hS hAA (fun r_70 u H locs hw_ hP hD hS => ?_)
          obtain rfl := hw_
          have hP : va_P (g.1, g.2.1) vwCl (wM g (sF (sF σ 0 0) 0 3) ++ tl) H := hP
          have hD : va_D A (wM g (sF (sF σ 0 0) 0 3) ++ tl) := hD
          exact hq _ _ _ _ ((nI 0)) (0, 3, (σ.1 1), (σ.2.1 0), (σ.2.1 2)) dX11_addPeriod_73 ⟨rfl, (Or.inr (Or.inr (Or.inl ⟨c_11, c_28, c_38, c_65, rfl, rfl, rfl, rfl⟩)))⟩ hP hD hS
      · refine lv_aload_n hx hb dX11_addPeriod_41 rfl (lv_at hl 0 rfl) ?_
        refine lv_iconst (v := nI 2) hx hb dX11_addPeriod_42 (by decide) ?_
        refine jn_calli (va_runV (As := [.int (nI 2)]) (rest := []) ⟨hx, hb, hml, hown, hts⟩ (c_X11_fails l g tl H.size (sF σ 0 0) 2) (cwV 1 hts gX11_addPeriod_X11_fails rfl rfl rfl (by decide +kernel) ⟨Nat.le_of_ble_eq_true rfl, Nat.le_of_ble_eq_true rfl⟩) (okWV hK hP hD rfl (gM0 g (sF σ 0 0) tl)) rfl rfl hl.1 rfl (lv_room (Nat.le_of_ble_eq_true rfl)) dX11_addPeriod_43 ⟨Nat.le_of_ble_eq_true rfl, Nat.le_of_ble_eq_true rfl⟩) hD hS hAA (fun r_43 u H locs hw_ hP hD hS => ?_)
        obtain rfl := hw_
        have hP : va_P (g.1, g.2.1) vwCl (wM g (sF (sF σ 0 0) 0 2) ++ tl) H := hP
        have hD : va_D A (wM g (sF (sF σ 0 0) 0 2) ++ tl) := hD
        exact hq _ _ _ _ ((nI 0)) (0, 2, (σ.1 1), (σ.2.1 0), (σ.2.1 2)) dX11_addPeriod_46 (by first | exact ⟨rfl, (Or.inr (Or.inl ⟨c_11, Or.inl c_28, rfl, rfl, rfl, rfl⟩))⟩ | exact ⟨rfl, (Or.inr (Or.inl ⟨c_11, Or.inr c_38, rfl, rfl, rfl, rfl⟩))⟩) hP hD hS
  · refine lv_aload_n hx hb dX11_addPeriod_14 rfl (lv_at hl 0 rfl) ?_
    refine lv_iconst (v := nI 1) hx hb dX11_addPeriod_15 (by decide) ?_
    refine jn_calli (va_runV (As := [.int (nI 1)]) (rest := []) ⟨hx, hb, hml, hown, hts⟩ (c_X11_fails l g tl H.size (sF σ 0 0) 1) (cwV 1 hts gX11_addPeriod_X11_fails rfl rfl rfl (by decide +kernel) ⟨Nat.le_of_ble_eq_true rfl, Nat.le_of_ble_eq_true rfl⟩) (okWV hK hP hD rfl (gM0 g (sF σ 0 0) tl)) rfl rfl hl.1 rfl (lv_room (Nat.le_of_ble_eq_true rfl)) dX11_addPeriod_16 ⟨Nat.le_of_ble_eq_true rfl, Nat.le_of_ble_eq_true rfl⟩) hD hS hAA (fun r_16 u H locs hw_ hP hD hS => ?_)
    obtain rfl := hw_
    have hP : va_P (g.1, g.2.1) vwCl (wM g (sF (sF σ 0 0) 0 1) ++ tl) H := hP
    have hD : va_D A (wM g (sF (sF σ 0 0) 0 1) ++ tl) := hD
    exact hq _ _ _ _ ((nI 0)) (0, 1, (σ.1 1), (σ.2.1 0), (σ.2.1 2)) dX11_addPeriod_19 ⟨rfl, (Or.inl ⟨c_11, rfl, rfl, rfl, rfl⟩)⟩ hP hD hS

abbrev r_c_X11_clearSet : Room := { frames := 2, cells := 0, slots := 0, locals := 42 }
set_option maxHeartbeats 4000000 in
set_option maxRecDepth 100000 in
theorem c_X11_clearSet (l : Launch) (g : GC) (tl : va_W) (sz : Nat) (σ : SS) (s2 : Nat) (hc8 : (σ.1 1) ≤ 8) (hs2 : s2 < 4294967296) : Met l yX11_clearSet wsX11_clearSet r_c_X11_clearSet (va_Pc [.ref (g.2.2.2 0), .int (nI s2)] (PW g (wM g σ ++ tl) sz)) (va_Qi (fun (r : Int32) (z : Nat × Nat × Nat × (Nat → Nat) × (Nat → Nat)) => match z with | (r0, th, ch, nw, kp) => (r = nI (r0)) ∧ ((¬ s2 < 2 ∧ th = 1 ∧ ch = (σ.1 1) ∧ nw = (σ.2.1 0) ∧ kp = (σ.2.1 2)) ∨ (s2 < 2 ∧ th = 0 ∧ KpO (σ.2.1 2) (σ.2.1 0) (σ.1 1) kp ∧ ch = min ((σ.1 1) + 1) 8 ∧ nw = va_up (σ.2.1 0) (16 + s2) 0 ∧ r0 = (σ.2.1 0) (16 + s2)))) (fun (z : Nat × Nat × Nat × (Nat → Nat) × (Nat → Nat)) t => BW g (va_A (wM g σ ++ tl) sz) ((fun z : Nat × Nat × Nat × (Nat → Nat) × (Nat → Nat) => match z with | (r0, th, ch, nw, kp) => wM g (sA (sA (sF (sF σ 0 th) 1 ch) 0 nw) 2 kp) ++ tl) z) t) (va_A (wM g σ ++ tl) sz)) 0 0 (va_A (wM g σ ++ tl) sz) := by
  refine jn_si (wf := fun z : Nat × Nat × Nat × (Nat → Nat) × (Nat → Nat) => match z with | (r0, th, ch, nw, kp) => wM g (sA (sA (sF (sF σ 0 th) 1 ch) 0 nw) 2 kp) ++ tl) (cc := cX11_clearSet) (maxL := 3) (own := RX11) (by decide) rfl rfl (Nat.le_of_ble_eq_true rfl) ?_
  intro p e s m below meth c Q A hx hb hml hown hts hK hP hD hS hAA hq ls hl
  obtain ⟨H, eH⟩ : ∃ z, z = s.heap := ⟨_, rfl⟩
  obtain ⟨locs, el⟩ : ∃ z : List Loc, z = [] := ⟨_, rfl⟩
  rw [← eH] at hP
  have hS : va_S A s.heap H locs := by rw [eH, el]; exact hS
  have goal0 : W p l e r_c_X11_clearSet s m ([.ref (g.2.2.2 0), .int (nI s2)] : List Value).toArray below meth c H locs 0 0 Q (F0 m 0 ls []) → W p l e r_c_X11_clearSet s m ([.ref (g.2.2.2 0), .int (nI s2)] : List Value).toArray below meth c s.heap [] 0 0 Q (F0 m 0 ls []) := fun h => by rw [eH, el] at h; exact h
  refine goal0 ?_
  have hl : lv_has ls 3 [(0, .ref (g.2.2.2 0)), (1, .int (nI s2))] := hl
  have iX11 : ∀ w ∈ wsX110, w ∈ wsX11_clearSet := by decide +kernel
  have k1 := hts (.fieldLink RX11 1 "JumpingAutomataModel" "thrown" "I") (by decide +kernel)
  have k13 := hts (.fieldLink RX11 13 "JumpingAutomataModel" "now" "[I") (by decide +kernel)
  refine lv_aload_n hx hb dX11_clearSet_0 rfl (lv_at hl 0 rfl) ?_
  refine lv_iconst (v := nI 0) hx hb dX11_clearSet_1 (by decide) ?_
  refine jn_put (D := (g.1, g.2.1)) (ci := 13) (v := .int (nI 0)) (ty := .int) (C := RX11) (T := TX11) (N := 30) hx hb hts iX11 tyX11 tyX11_ok nmX11 hown hK.1 hP hD hS 0 (gM0 g σ tl) rfl 0 (by decide) k1 (fun _ h9 => h9) rfl (by decide +kernel) rfl rfl (Nat.le_of_ble_eq_true rfl) (uM_F0 g σ tl 0) dX11_clearSet_2 (fun H locs hP hD hS => ?_)
  refine lv_iload_n hx hb dX11_clearSet_5 rfl (lv_at hl 1 rfl) ?_
  refine vp_callSi (va_Run.run (va_runS (As := [.int (nI s2)]) (rest := []) ⟨hx, hb, hml, hown, hts⟩ (c_X11_isSet l s2 (by omega)) (va_cwS 1 hts gX11_clearSet_X11_isSet rfl rfl rfl (by decide +kernel) ⟨Nat.le_of_ble_eq_true rfl, Nat.le_of_ble_eq_true rfl⟩) okTS rfl rfl hl.1 rfl (lv_room (Nat.le_of_ble_eq_true rfl)) dX11_clearSet_6 ⟨Nat.le_of_ble_eq_true rfl, Nat.le_of_ble_eq_true rfl⟩)) (fun r_6 h_6 => ?_)
  subst h_6
  refine jn_bne hx hb (tgt := 18) dX11_clearSet_9 (by decide) (fun c_9 => ?_) (fun c_9 => ?_)
  · refine lv_aload_n hx hb dX11_clearSet_18 rfl (lv_at hl 0 rfl) ?_
    refine jn_callv (va_runV (As := []) (rest := []) ⟨hx, hb, hml, hown, hts⟩ (c_X11_keeps l g tl H.size (sF σ 0 0) hc8) (cwV 0 hts gX11_clearSet_X11_keeps rfl rfl rfl (by decide +kernel) ⟨Nat.le_of_ble_eq_true rfl, Nat.le_of_ble_eq_true rfl⟩) (okWV hK hP hD rfl (gM0 g (sF σ 0 0) tl)) rfl rfl hl.1 rfl (lv_room (Nat.le_of_ble_eq_true rfl)) dX11_clearSet_19 ⟨Nat.le_of_ble_eq_true rfl, Nat.le_of_ble_eq_true rfl⟩) hD hS hAA (fun u H locs hw_ hP hD hS => ?_)
    obtain ⟨kp_19, ch_19⟩ := u
    have h_19 := hw_
    have h_19 : (KpO (σ.2.1 2) (σ.2.1 0) (σ.1 1) kp_19) ∧ (ch_19 = min ((σ.1 1) + 1) 8) := h_19
    have hP : va_P (g.1, g.2.1) vwCl (wM g (sA (sF (sF σ 0 0) 1 ch_19) 2 kp_19) ++ tl) H := hP
    have hD : va_D A (wM g (sA (sF (sF σ 0 0) 1 ch_19) 2 kp_19) ++ tl) := hD
    refine lv_aload_n hx hb dX11_clearSet_22 rfl (lv_at hl 0 rfl) ?_
    refine va_get (D := (g.1, g.2.1)) (ci := 13) (v := .ref (g.2.2.2 1)) (C := RX11) (T := TX11) (N := 30) hx hb hts iX11 hown hK.1 hP 0 (gM0 g (sA (sF (sF σ 0 0) 1 ch_19) 2 kp_19) tl) rfl 1 (by decide) k13 (fun _ h9 => h9) rfl dX11_clearSet_23 ?_
    refine lv_bipush (v := nI 16) hx hb dX11_clearSet_26 (by decide) ?_
    refine lv_iload_n hx hb dX11_clearSet_28 rfl (lv_at hl 1 rfl) ?_
    refine jn_iadd hx hb dX11_clearSet_29 ?_
    refine jn_iald (f := σ.2.1 0) hx hb hK.1 hP 1 0 (gM1 g (sA (sF (sF σ 0 0) 1 ch_19) 2 kp_19) tl) rfl (by omega) (Nat.le_of_ble_eq_true rfl) dX11_clearSet_30 ?_
    refine lv_istore_n (lv' := [(2, .int (nI ((σ.2.1 0) (16 + s2)))), (0, .ref (g.2.2.2 0)), (1, .int (nI s2))]) hx hb dX11_clearSet_31 rfl hl (by decide) rfl (fun ls hl => ?_)
    refine lv_aload_n hx hb dX11_clearSet_32 rfl (lv_at hl 1 rfl) ?_
    refine va_get (D := (g.1, g.2.1)) (ci := 13) (v := .ref (g.2.2.2 1)) (C := RX11) (T := TX11) (N := 30) hx hb hts iX11 hown hK.1 hP 0 (gM0 g (sA (sF (sF σ 0 0) 1 ch_19) 2 kp_19) tl) rfl 1 (by decide) k13 (fun _ h9 => h9) rfl dX11_clearSet_33 ?_
    refine lv_bipush (v := nI 16) hx hb dX11_clearSet_36 (by decide) ?_
    refine lv_iload_n hx hb dX11_clearSet_38 rfl (lv_at hl 2 rfl) ?_
    refine jn_iadd hx hb dX11_clearSet_39 ?_
    refine lv_iconst (v := nI 0) hx hb dX11_clearSet_40 (by decide) ?_
    refine jn_iast (f := σ.2.1 0) hx hb hK.1 hP hD hS 1 0 (gM1 g (sA (sF (sF σ 0 0) 1 ch_19) 2 kp_19) tl) rfl (by omega) (Nat.le_of_ble_eq_true rfl) (uM_A0 g (sA (sF (sF σ 0 0) 1 ch_19) 2 kp_19) tl _) dX11_clearSet_41 (fun H locs hP hD hS => ?_)
    refine lv_iload_n hx hb dX11_clearSet_42 rfl (lv_at hl 0 rfl) ?_
    exact hq _ _ _ _ ((nI ((σ.2.1 0) (16 + s2)))) (_, 0, ch_19, (va_up (σ.2.1 0) (16 + s2) 0), kp_19) dX11_clearSet_43 ⟨rfl, (Or.inr ⟨c_9, rfl, h_19.1, h_19.2, rfl, rfl⟩)⟩ hP hD hS
  · refine lv_aload_n hx hb dX11_clearSet_12 rfl (lv_at hl 0 rfl) ?_
    refine lv_iconst (v := nI 1) hx hb dX11_clearSet_13 (by decide) ?_
    refine jn_calli (va_runV (As := [.int (nI 1)]) (rest := []) ⟨hx, hb, hml, hown, hts⟩ (c_X11_fails l g tl H.size (sF σ 0 0) 1) (cwV 1 hts gX11_clearSet_X11_fails rfl rfl rfl (by decide +kernel) ⟨Nat.le_of_ble_eq_true rfl, Nat.le_of_ble_eq_true rfl⟩) (okWV hK hP hD rfl (gM0 g (sF σ 0 0) tl)) rfl rfl hl.1 rfl (lv_room (Nat.le_of_ble_eq_true rfl)) dX11_clearSet_14 ⟨Nat.le_of_ble_eq_true rfl, Nat.le_of_ble_eq_true rfl⟩) hD hS hAA (fun r_14 u H locs hw_ hP hD hS => ?_)
    obtain rfl := hw_
    have hP : va_P (g.1, g.2.1) vwCl (wM g (sF (sF σ 0 0) 0 1) ++ tl) H := hP
    have hD : va_D A (wM g (sF (sF σ 0 0) 0 1) ++ tl) := hD
    exact hq _ _ _ _ ((nI 0)) (0, 1, (σ.1 1), (σ.2.1 0), (σ.2.1 2)) dX11_clearSet_17 ⟨rfl, (Or.inl ⟨c_9, rfl, rfl, rfl, rfl⟩)⟩ hP hD hS
