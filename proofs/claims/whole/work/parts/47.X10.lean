abbrev r_c_X10_appendCharacter : Room := { frames := 6, cells := 1, slots := 6, locals := 82 }
set_option maxHeartbeats 4000000 in
set_option maxRecDepth 100000 in
theorem c_X10_appendCharacter (l : Launch) (hflg : l.stackTraces = false) (g : GC) (tl : va_W) (sz : Nat) (σ : SS) (x : Nat) (hX : OkX σ) (hx : x < 4294967296) : vx_Met l yX10_appendCharacter wsX10_appendCharacter r_c_X10_appendCharacter (va_Pc [.ref (g.2.2.2 0), .int (nI x)] (PX g (wC g σ ++ tl) sz)) (va_Qi (fun (r : Int32) (_ : Unit) => (r = nI ((σ.1 1) + 1)) ∧ (33 ≤ x ∧ x < 127) ∧ ((σ.1 1) < 40)) (fun (_ : Unit) t => BW g (va_A (wC g σ ++ tl) sz) (wC g (sF (sA σ 12 (va_up (σ.2.1 12) (σ.1 1) x)) 1 ((σ.1 1) + 1)) ++ tl) t) (va_A (wC g σ ++ tl) sz)) (XW g (va_A (wC g σ ++ tl) sz) (fun (E : String) (_ : Unit) => (E = "java/lang/IllegalArgumentException" ∧ (¬ (33 ≤ x ∧ x < 127))) ∨ (E = "java/lang/IllegalStateException" ∧ ((33 ≤ x ∧ x < 127) ∧ 40 ≤ (σ.1 1)))) (fun _ : Unit => wC g σ ++ tl)) 1 6 (va_A (wC g σ ++ tl) sz) := by
  refine jx_i hflg (wf := fun _ : Unit => wC g (sF (sA σ 12 (va_up (σ.2.1 12) (σ.1 1) x)) 1 ((σ.1 1) + 1)) ++ tl) (wx := fun _ : Unit => wC g σ ++ tl) (cc := cX10_appendCharacter) (maxL := 2) (by decide) rfl rfl (Nat.le_of_ble_eq_true rfl) ?_
  intro p e s m below meth c Q A hx hb hml hown hts hKX hP hD hS hAA hZ hq hqt hqw hqo ls hl
  have hK := hKX.1
  obtain ⟨H, eH⟩ : ∃ z, z = s.heap := ⟨_, rfl⟩
  obtain ⟨locs, el⟩ : ∃ z : List Loc, z = [] := ⟨_, rfl⟩
  rw [← eH] at hP
  have hS : va_S A s.heap H locs := by rw [eH, el]; exact hS
  have goal0 : W p l e r_c_X10_appendCharacter s m ([.ref (g.2.2.2 0), .int (nI x)] : List Value).toArray below meth c H locs 0 0 Q (F0 m 0 ls []) → W p l e r_c_X10_appendCharacter s m ([.ref (g.2.2.2 0), .int (nI x)] : List Value).toArray below meth c s.heap [] 0 0 Q (F0 m 0 ls []) := fun h => by rw [eH, el] at h; exact h
  refine goal0 ?_
  have hl : lv_has ls 2 [(0, .ref (g.2.2.2 0)), (1, .int (nI x))] := hl
  have iX10 : ∀ w ∈ wsX100, w ∈ wsX10_appendCharacter := by decide +kernel
  have k33 := hts (.fieldLink RX10 33 "JumpingAutomata" "text" "LJumpingAutomata$AutomatonText;") (by decide +kernel)
  refine lv_iload_n hx hb dX10_appendCharacter_0 rfl (lv_at hl 1 rfl) ?_
  refine lv_bipush (v := nI 33) hx hb dX10_appendCharacter_1 (by decide) ?_
  refine jn_cltS hx hb (by omega) (by decide) (tgt := 12) dX10_appendCharacter_3 (by decide) (fun c_3 => ?_) (fun c_3 => ?_)
  · exact hqt _ _ _ _ 12 97 99 101 "java/lang/IllegalArgumentException" "the character is not from 33 to 126" _ () hl.1 dX10_appendCharacter_12 dX10_appendCharacter_15 dX10_appendCharacter_16 dX10_appendCharacter_18 dX10_appendCharacter_21 ⟨by decide +kernel, by decide +kernel, fun w hw => List.mem_cons_of_mem _ (List.mem_append_left _ (List.mem_append_left _ (List.mem_append_right _ hw))), by decide +kernel, by decide +kernel, by decide +kernel, by decide +kernel, by decide +kernel, Nat.le_of_ble_eq_true rfl, Nat.le_of_ble_eq_true rfl⟩ (Nat.le_of_ble_eq_true rfl) (Nat.le_of_ble_eq_true rfl) (Nat.le_of_ble_eq_true rfl) (Nat.le_of_ble_eq_true rfl) (Or.inl ⟨rfl, (by omega)⟩) hP hD hS
  · refine lv_iload_n hx hb dX10_appendCharacter_6 rfl (lv_at hl 1 rfl) ?_
    refine lv_bipush (v := nI 126) hx hb dX10_appendCharacter_7 (by decide) ?_
    refine jn_cle hx hb (by omega) (by decide) (tgt := 22) dX10_appendCharacter_9 (by decide) (fun c_9 => ?_) (fun c_9 => ?_)
    · refine lv_aload_n hx hb dX10_appendCharacter_22 rfl (lv_at hl 0 rfl) ?_
      refine va_get (D := (g.1, g.2.1)) (ci := 12) (v := .ref (g.2.2.2 17)) (C := RX10) (T := TX10) (N := 15) hx hb hts iX10 hown hK.1 hP 0 (gC0 g σ tl) rfl 3 (by decide) k33 (fun _ h9 => h9) rfl dX10_appendCharacter_23 ?_
      refine vp_callSi (va_Run.run (va_runV (As := []) (rest := []) ⟨hx, hb, hml, hown, hts⟩ (c_X1_isFull l g tl σ hX) (cwV 0 hts gX10_appendCharacter_X1_isFull rfl rfl rfl (by decide +kernel) ⟨Nat.le_of_ble_eq_true rfl, Nat.le_of_ble_eq_true rfl⟩) (okPV hK hP rfl (gC17 g σ tl)) rfl rfl hl.1 rfl (lv_room (Nat.le_of_ble_eq_true rfl)) dX10_appendCharacter_26 ⟨Nat.le_of_ble_eq_true rfl, Nat.le_of_ble_eq_true rfl⟩)) (fun r_26 h_26 => ?_)
      subst h_26
      refine jn_beq hx hb (tgt := 42) dX10_appendCharacter_29 (by decide) (fun c_29 => ?_) (fun c_29 => ?_)
      · refine lv_aload_n hx hb dX10_appendCharacter_42 rfl (lv_at hl 0 rfl) ?_
        refine va_get (D := (g.1, g.2.1)) (ci := 12) (v := .ref (g.2.2.2 17)) (C := RX10) (T := TX10) (N := 15) hx hb hts iX10 hown hK.1 hP 0 (gC0 g σ tl) rfl 3 (by decide) k33 (fun _ h9 => h9) rfl dX10_appendCharacter_43 ?_
        refine lv_iload_n hx hb dX10_appendCharacter_46 rfl (lv_at hl 1 rfl) ?_
        refine jn_calli (va_runV (As := [.int (nI x)]) (rest := []) ⟨hx, hb, hml, hown, hts⟩ (c_X1_append l g tl H.size σ x hX (by omega)) (cwV 1 hts gX10_appendCharacter_X1_append rfl rfl rfl (by decide +kernel) ⟨Nat.le_of_ble_eq_true rfl, Nat.le_of_ble_eq_true rfl⟩) (okWV hK hP hD rfl (gC17 g σ tl)) rfl rfl hl.1 rfl (lv_room (Nat.le_of_ble_eq_true rfl)) dX10_appendCharacter_47 ⟨Nat.le_of_ble_eq_true rfl, Nat.le_of_ble_eq_true rfl⟩) hD hS hAA (fun r_47 u H locs hw_ hP hD hS => ?_)
        obtain rfl := hw_
        have hP : va_P (g.1, g.2.1) vwCl (wC g (sF (sA σ 12 (va_up (σ.2.1 12) (σ.1 1) x)) 1 (σ.1 1 + 1)) ++ tl) H := hP
        have hD : va_D A (wC g (sF (sA σ 12 (va_up (σ.2.1 12) (σ.1 1) x)) 1 (σ.1 1 + 1)) ++ tl) := hD
        exact hq _ _ _ _ _ _ ((nI (σ.1 1 + 1))) () (Nat.le_of_ble_eq_true rfl) (Nat.le_of_ble_eq_true rfl) dX10_appendCharacter_50 ⟨rfl, by omega, by omega⟩ hP hD hS
      · exact hqt _ _ _ _ 32 108 110 112 "java/lang/IllegalStateException" "the text has 40 characters" _ () hl.1 dX10_appendCharacter_32 dX10_appendCharacter_35 dX10_appendCharacter_36 dX10_appendCharacter_38 dX10_appendCharacter_41 ⟨by decide +kernel, by decide +kernel, fun w hw => List.mem_cons_of_mem _ (List.mem_append_left _ (List.mem_append_right _ hw)), by decide +kernel, by decide +kernel, by decide +kernel, by decide +kernel, by decide +kernel, Nat.le_of_ble_eq_true rfl, Nat.le_of_ble_eq_true rfl⟩ (Nat.le_of_ble_eq_true rfl) (Nat.le_of_ble_eq_true rfl) (Nat.le_of_ble_eq_true rfl) (Nat.le_of_ble_eq_true rfl) (Or.inr ⟨rfl, (by omega)⟩) hP hD hS
    · exact hqt _ _ _ _ 12 97 99 101 "java/lang/IllegalArgumentException" "the character is not from 33 to 126" _ () hl.1 dX10_appendCharacter_12 dX10_appendCharacter_15 dX10_appendCharacter_16 dX10_appendCharacter_18 dX10_appendCharacter_21 ⟨by decide +kernel, by decide +kernel, fun w hw => List.mem_cons_of_mem _ (List.mem_append_left _ (List.mem_append_left _ (List.mem_append_right _ hw))), by decide +kernel, by decide +kernel, by decide +kernel, by decide +kernel, by decide +kernel, Nat.le_of_ble_eq_true rfl, Nat.le_of_ble_eq_true rfl⟩ (Nat.le_of_ble_eq_true rfl) (Nat.le_of_ble_eq_true rfl) (Nat.le_of_ble_eq_true rfl) (Nat.le_of_ble_eq_true rfl) (Or.inl ⟨rfl, (by omega)⟩) hP hD hS

abbrev r_c_X10_addText : Room := { frames := 6, cells := 1, slots := 6, locals := 150 }
set_option maxHeartbeats 4000000 in
set_option maxRecDepth 100000 in
theorem c_X10_addText (l : Launch) (hflg : l.stackTraces = false) (g : GC) (tl : va_W) (sz : Nat) (σ : SS) (hX : OkX σ) (hA : OkA σ) (hM : OkM σ) : vx_Met l yX10_addText wsX10_addText r_c_X10_addText (va_Pc [.ref (g.2.2.2 0)] (PX g (wC g σ ++ tl) sz)) (va_Qi (fun (r : Int32) (z : Nat × (Nat → Nat) × (Nat → Nat) × (Nat → Nat)) => match z with | (v3, f13, f0, f1) => (r = nI (cntT f0)) ∧ (fltC (σ.2.1 12) (σ.1 1) = 4294967295) ∧ ((∀ k, k < 15 → f13 k = (gi (σ.2.1 12) (σ.1 1)).1 k) ∧ v3 = (gi (σ.2.1 12) (σ.1 1)).2) ∧ (fb_sm (fun k => pop ((σ.2.1 0) k ||| f13 k)) 15 ≤ 15) ∧ (∀ k, k < 15 → f0 k = (σ.2.1 0) k ||| f13 k) ∧ (∀ x, x < 3 → ∀ m, m < 32 → f1 (x * 32 + m) = stp f0 x m)) (fun (z : Nat × (Nat → Nat) × (Nat → Nat) × (Nat → Nat)) t => BW g (va_A (wC g σ ++ tl) sz) ((fun z : Nat × (Nat → Nat) × (Nat → Nat) × (Nat → Nat) => match z with | (v3, f13, f0, f1) => wC g (sF (sA (sF (sA (sF (sF (sL (sA (sF (sF (sF σ 1 0) 2 (fltC (σ.2.1 12) (σ.1 1))) 3 v3) 13 f13) (2 + σ.1 9) (snp σ (σ.2.2 (2 + σ.1 9)))) 9 ((σ.1 9 + 1) % 8)) 10 (min (σ.1 10 + 1) 8)) 0 f0) 0 ((σ.1 0) ||| v3)) 1 f1) 21 0) ++ tl) z) t) (va_A (wC g σ ++ tl) sz)) (XW g (va_A (wC g σ ++ tl) sz) (fun (E : String) (z : Nat × (Nat → Nat)) => match z with | (v3, f13) => (E = "java/lang/IllegalArgumentException" ∧ (fltC (σ.2.1 12) (σ.1 1) ≠ 4294967295)) ∨ (E = "java/lang/IllegalStateException" ∧ (fltC (σ.2.1 12) (σ.1 1) = 4294967295 ∧ ((∀ k, k < 15 → f13 k = (gi (σ.2.1 12) (σ.1 1)).1 k) ∧ v3 = (gi (σ.2.1 12) (σ.1 1)).2) ∧ 15 < fb_sm (fun k => pop ((σ.2.1 0) k ||| f13 k)) 15))) (fun z : Nat × (Nat → Nat) => match z with | (v3, f13) => wC g (sA (sF (sF (sF σ 1 0) 2 (fltC (σ.2.1 12) (σ.1 1))) 3 v3) 13 f13) ++ tl)) 1 6 (va_A (wC g σ ++ tl) sz) := by
  refine jx_i hflg (wf := fun z : Nat × (Nat → Nat) × (Nat → Nat) × (Nat → Nat) => match z with | (v3, f13, f0, f1) => wC g (sF (sA (sF (sA (sF (sF (sL (sA (sF (sF (sF σ 1 0) 2 (fltC (σ.2.1 12) (σ.1 1))) 3 v3) 13 f13) (2 + σ.1 9) (snp σ (σ.2.2 (2 + σ.1 9)))) 9 ((σ.1 9 + 1) % 8)) 10 (min (σ.1 10 + 1) 8)) 0 f0) 0 ((σ.1 0) ||| v3)) 1 f1) 21 0) ++ tl) (wx := fun z : Nat × (Nat → Nat) => match z with | (v3, f13) => wC g (sA (sF (sF (sF σ 1 0) 2 (fltC (σ.2.1 12) (σ.1 1))) 3 v3) 13 f13) ++ tl) (cc := cX10_addText) (maxL := 1) (by decide) rfl rfl (Nat.le_of_ble_eq_true rfl) ?_
  intro p e s m below meth c Q A hx hb hml hown hts hKX hP hD hS hAA hZ hq hqt hqw hqo ls hl
  have hK := hKX.1
  obtain ⟨H, eH⟩ : ∃ z, z = s.heap := ⟨_, rfl⟩
  obtain ⟨locs, el⟩ : ∃ z : List Loc, z = [] := ⟨_, rfl⟩
  rw [← eH] at hP
  have hS : va_S A s.heap H locs := by rw [eH, el]; exact hS
  have goal0 : W p l e r_c_X10_addText s m ([.ref (g.2.2.2 0)] : List Value).toArray below meth c H locs 0 0 Q (F0 m 0 ls []) → W p l e r_c_X10_addText s m ([.ref (g.2.2.2 0)] : List Value).toArray below meth c s.heap [] 0 0 Q (F0 m 0 ls []) := fun h => by rw [eH, el] at h; exact h
  refine goal0 ?_
  have hl : lv_has ls 1 [(0, .ref (g.2.2.2 0))] := hl
  have iX10 : ∀ w ∈ wsX100, w ∈ wsX10_addText := by decide +kernel
  have iX1 : ∀ w ∈ wsX10, w ∈ wsX10_addText := by decide +kernel
  have k33 := hts (.fieldLink RX10 33 "JumpingAutomata" "text" "LJumpingAutomata$AutomatonText;") (by decide +kernel)
  have k117 := hts (.fieldLink RX10 117 "JumpingAutomata$AutomatonText" "fault" "I") (by decide +kernel)
  have k12 := hts (.fieldLink RX10 12 "JumpingAutomata" "automaton" "LJumpingAutomata$Automaton;") (by decide +kernel)
  have k125 := hts (.fieldLink RX10 125 "JumpingAutomata$AutomatonText" "wanted" "[I") (by decide +kernel)
  have k137 := hts (.fieldLink RX10 137 "JumpingAutomata$AutomatonText" "wantedFinals" "I") (by decide +kernel)
  have hfl := fltC_cases (σ.2.1 12) (σ.1 1)
  have hX1 := hX.1
  refine lv_aload_n hx hb dX10_addText_0 rfl (lv_at hl 0 rfl) ?_
  refine va_get (D := (g.1, g.2.1)) (ci := 12) (v := .ref (g.2.2.2 17)) (C := RX10) (T := TX10) (N := 15) hx hb hts iX10 hown hK.1 hP 0 (gC0 g σ tl) rfl 3 (by decide) k33 (fun _ h9 => h9) rfl dX10_addText_1 ?_
  refine jn_callv (va_runV (As := []) (rest := []) ⟨hx, hb, hml, hown, hts⟩ (c_X1_read l g tl H.size σ hX) (cwV 0 hts gX10_addText_X1_read rfl rfl rfl (by decide +kernel) ⟨Nat.le_of_ble_eq_true rfl, Nat.le_of_ble_eq_true rfl⟩) (okWV hK hP hD rfl (gC17 g σ tl)) rfl rfl hl.1 rfl (lv_room (Nat.le_of_ble_eq_true rfl)) dX10_addText_4 ⟨Nat.le_of_ble_eq_true rfl, Nat.le_of_ble_eq_true rfl⟩) hD hS hAA (fun u H locs hw_ hP hD hS => ?_)
  obtain ⟨f_4, v_4⟩ := u
  have h_4 := hw_
  have h_4 : fltC (σ.2.1 12) (σ.1 1) = 4294967295 → (∀ k, k < 15 → f_4 k = (gi (σ.2.1 12) (σ.1 1)).1 k) ∧ v_4 = (gi (σ.2.1 12) (σ.1 1)).2 := h_4
  have hP : va_P (g.1, g.2.1) vwCl (wC g (sA (sF (sF (sF σ 1 0) 2 (fltC (σ.2.1 12) (σ.1 1))) 3 v_4) 13 f_4) ++ tl) H := hP
  have hD : va_D A (wC g (sA (sF (sF (sF σ 1 0) 2 (fltC (σ.2.1 12) (σ.1 1))) 3 v_4) 13 f_4) ++ tl) := hD
  refine lv_aload_n hx hb dX10_addText_7 rfl (lv_at hl 0 rfl) ?_
  refine va_get (D := (g.1, g.2.1)) (ci := 12) (v := .ref (g.2.2.2 17)) (C := RX10) (T := TX10) (N := 15) hx hb hts iX10 hown hK.1 hP 0 (gC0 g (sA (sF (sF (sF σ 1 0) 2 (fltC (σ.2.1 12) (σ.1 1))) 3 v_4) 13 f_4) tl) rfl 3 (by decide) k33 (fun _ h9 => h9) rfl dX10_addText_8 ?_
  refine va_get (D := (g.1, g.2.1)) (ci := 3) (v := .int (nI (fltC (σ.2.1 12) (σ.1 1)))) (C := RX1) (T := TX1) (N := 5) hx hb hts iX1 hown hK.1 hP 17 (gC17 g (sA (sF (sF (sF σ 1 0) 2 (fltC (σ.2.1 12) (σ.1 1))) 3 v_4) 13 f_4) tl) rfl 2 (by decide) k117 (fun _ h9 => h9) rfl dX10_addText_11 ?_
  refine jn_zlt hx hb (by omega) (tgt := 27) dX10_addText_14 (by decide) (fun c_14 => ?_) (fun c_14 => ?_)
  · have hfe : fltC (σ.2.1 12) (σ.1 1) = 4294967295 := by omega
    have hg := h_4 hfe
    have h32 : ∀ k, k < 15 → f_4 k < 32 := fun k hk => by rw [hg.1 k hk]; exact (gi_lt _ _).1 k
    have hsl := sm_or_le hA.1 h32
    refine lv_aload_n hx hb dX10_addText_27 rfl (lv_at hl 0 rfl) ?_
    refine va_get (D := (g.1, g.2.1)) (ci := 12) (v := .ref (g.2.2.2 1)) (C := RX10) (T := TX10) (N := 15) hx hb hts iX10 hown hK.1 hP 0 (gC0 g (sA (sF (sF (sF σ 1 0) 2 (fltC (σ.2.1 12) (σ.1 1))) 3 v_4) 13 f_4) tl) rfl 0 (by decide) k12 (fun _ h9 => h9) rfl dX10_addText_28 ?_
    refine lv_aload_n hx hb dX10_addText_31 rfl (lv_at hl 0 rfl) ?_
    refine va_get (D := (g.1, g.2.1)) (ci := 12) (v := .ref (g.2.2.2 17)) (C := RX10) (T := TX10) (N := 15) hx hb hts iX10 hown hK.1 hP 0 (gC0 g (sA (sF (sF (sF σ 1 0) 2 (fltC (σ.2.1 12) (σ.1 1))) 3 v_4) 13 f_4) tl) rfl 3 (by decide) k33 (fun _ h9 => h9) rfl dX10_addText_32 ?_
    refine va_get (D := (g.1, g.2.1)) (ci := 3) (v := .ref (g.2.2.2 19)) (C := RX1) (T := TX1) (N := 5) hx hb hts iX1 hown hK.1 hP 17 (gC17 g (sA (sF (sF (sF σ 1 0) 2 (fltC (σ.2.1 12) (σ.1 1))) 3 v_4) 13 f_4) tl) rfl 3 (by decide) k125 (fun _ h9 => h9) rfl dX10_addText_35 ?_
    refine vp_callSi (va_Run.run (va_runV (As := [.ref (g.2.2.2 19)]) (rest := []) ⟨hx, hb, hml, hown, hts⟩ (c_X0_sizeWith l g tl (sA (sF (sF (sF σ 1 0) 2 (fltC (σ.2.1 12) (σ.1 1))) 3 v_4) 13 f_4) hA h32) (cwV 1 hts gX10_addText_X0_sizeWith rfl rfl rfl (by decide +kernel) ⟨Nat.le_of_ble_eq_true rfl, Nat.le_of_ble_eq_true rfl⟩) (okPV hK hP rfl (gC1 g (sA (sF (sF (sF σ 1 0) 2 (fltC (σ.2.1 12) (σ.1 1))) 3 v_4) 13 f_4) tl)) rfl rfl hl.1 rfl (lv_room (Nat.le_of_ble_eq_true rfl)) dX10_addText_38 ⟨Nat.le_of_ble_eq_true rfl, Nat.le_of_ble_eq_true rfl⟩)) (fun r_38 h_38 => ?_)
    have h_38 : r_38 = (nI (fb_sm (fun k => pop (σ.2.1 0 k ||| f_4 k)) 15)) := h_38
    subst h_38
    refine lv_bipush (v := nI 15) hx hb dX10_addText_41 (by decide) ?_
    refine jn_cle hx hb (by omega) (by decide) (tgt := 56) dX10_addText_43 (by decide) (fun c_43 => ?_) (fun c_43 => ?_)
    · refine lv_aload_n hx hb dX10_addText_56 rfl (lv_at hl 0 rfl) ?_
      refine jn_callv (va_runV (As := []) (rest := []) ⟨hx, hb, hml, hown, hts⟩ (c_X10_beginChange l g tl H.size (sA (sF (sF (sF σ 1 0) 2 (fltC (σ.2.1 12) (σ.1 1))) 3 v_4) 13 f_4) hM) (cwV 0 hts gX10_addText_X10_beginChange rfl rfl rfl (by decide +kernel) ⟨Nat.le_of_ble_eq_true rfl, Nat.le_of_ble_eq_true rfl⟩) (okWV hK hP hD rfl (gC0 g (sA (sF (sF (sF σ 1 0) 2 (fltC (σ.2.1 12) (σ.1 1))) 3 v_4) 13 f_4) tl)) rfl rfl hl.1 rfl (lv_room (Nat.le_of_ble_eq_true rfl)) dX10_addText_57 ⟨Nat.le_of_ble_eq_true rfl, Nat.le_of_ble_eq_true rfl⟩) hD hS hAA (fun u H locs hw_ hP hD hS => ?_)
      have hP : va_P (g.1, g.2.1) vwCl (wC g (sF (sF (sL (sA (sF (sF (sF σ 1 0) 2 (fltC (σ.2.1 12) (σ.1 1))) 3 v_4) 13 f_4) (2 + σ.1 9) (snp (sA (sF (sF (sF σ 1 0) 2 (fltC (σ.2.1 12) (σ.1 1))) 3 v_4) 13 f_4) (σ.2.2 (2 + σ.1 9)))) 9 ((σ.1 9 + 1) % 8)) 10 (min (σ.1 10 + 1) 8)) ++ tl) H := hP
      have hD : va_D A (wC g (sF (sF (sL (sA (sF (sF (sF σ 1 0) 2 (fltC (σ.2.1 12) (σ.1 1))) 3 v_4) 13 f_4) (2 + σ.1 9) (snp (sA (sF (sF (sF σ 1 0) 2 (fltC (σ.2.1 12) (σ.1 1))) 3 v_4) 13 f_4) (σ.2.2 (2 + σ.1 9)))) 9 ((σ.1 9 + 1) % 8)) 10 (min (σ.1 10 + 1) 8)) ++ tl) := hD
      refine lv_aload_n hx hb dX10_addText_60 rfl (lv_at hl 0 rfl) ?_
      refine va_get (D := (g.1, g.2.1)) (ci := 12) (v := .ref (g.2.2.2 1)) (C := RX10) (T := TX10) (N := 15) hx hb hts iX10 hown hK.1 hP 0 (gC0 g (sF (sF (sL (sA (sF (sF (sF σ 1 0) 2 (fltC (σ.2.1 12) (σ.1 1))) 3 v_4) 13 f_4) (2 + σ.1 9) (snp (sA (sF (sF (sF σ 1 0) 2 (fltC (σ.2.1 12) (σ.1 1))) 3 v_4) 13 f_4) (σ.2.2 (2 + σ.1 9)))) 9 ((σ.1 9 + 1) % 8)) 10 (min (σ.1 10 + 1) 8)) tl) rfl 0 (by decide) k12 (fun _ h9 => h9) rfl dX10_addText_61 ?_
      refine lv_aload_n hx hb dX10_addText_64 rfl (lv_at hl 0 rfl) ?_
      refine va_get (D := (g.1, g.2.1)) (ci := 12) (v := .ref (g.2.2.2 17)) (C := RX10) (T := TX10) (N := 15) hx hb hts iX10 hown hK.1 hP 0 (gC0 g (sF (sF (sL (sA (sF (sF (sF σ 1 0) 2 (fltC (σ.2.1 12) (σ.1 1))) 3 v_4) 13 f_4) (2 + σ.1 9) (snp (sA (sF (sF (sF σ 1 0) 2 (fltC (σ.2.1 12) (σ.1 1))) 3 v_4) 13 f_4) (σ.2.2 (2 + σ.1 9)))) 9 ((σ.1 9 + 1) % 8)) 10 (min (σ.1 10 + 1) 8)) tl) rfl 3 (by decide) k33 (fun _ h9 => h9) rfl dX10_addText_65 ?_
      refine va_get (D := (g.1, g.2.1)) (ci := 3) (v := .ref (g.2.2.2 19)) (C := RX1) (T := TX1) (N := 5) hx hb hts iX1 hown hK.1 hP 17 (gC17 g (sF (sF (sL (sA (sF (sF (sF σ 1 0) 2 (fltC (σ.2.1 12) (σ.1 1))) 3 v_4) 13 f_4) (2 + σ.1 9) (snp (sA (sF (sF (sF σ 1 0) 2 (fltC (σ.2.1 12) (σ.1 1))) 3 v_4) 13 f_4) (σ.2.2 (2 + σ.1 9)))) 9 ((σ.1 9 + 1) % 8)) 10 (min (σ.1 10 + 1) 8)) tl) rfl 3 (by decide) k125 (fun _ h9 => h9) rfl dX10_addText_68 ?_
      refine lv_aload_n hx hb dX10_addText_71 rfl (lv_at hl 0 rfl) ?_
      refine va_get (D := (g.1, g.2.1)) (ci := 12) (v := .ref (g.2.2.2 17)) (C := RX10) (T := TX10) (N := 15) hx hb hts iX10 hown hK.1 hP 0 (gC0 g (sF (sF (sL (sA (sF (sF (sF σ 1 0) 2 (fltC (σ.2.1 12) (σ.1 1))) 3 v_4) 13 f_4) (2 + σ.1 9) (snp (sA (sF (sF (sF σ 1 0) 2 (fltC (σ.2.1 12) (σ.1 1))) 3 v_4) 13 f_4) (σ.2.2 (2 + σ.1 9)))) 9 ((σ.1 9 + 1) % 8)) 10 (min (σ.1 10 + 1) 8)) tl) rfl 3 (by decide) k33 (fun _ h9 => h9) rfl dX10_addText_72 ?_
      refine va_get (D := (g.1, g.2.1)) (ci := 3) (v := .int (nI v_4)) (C := RX1) (T := TX1) (N := 5) hx hb hts iX1 hown hK.1 hP 17 (gC17 g (sF (sF (sL (sA (sF (sF (sF σ 1 0) 2 (fltC (σ.2.1 12) (σ.1 1))) 3 v_4) 13 f_4) (2 + σ.1 9) (snp (sA (sF (sF (sF σ 1 0) 2 (fltC (σ.2.1 12) (σ.1 1))) 3 v_4) 13 f_4) (σ.2.2 (2 + σ.1 9)))) 9 ((σ.1 9 + 1) % 8)) 10 (min (σ.1 10 + 1) 8)) tl) rfl 4 (by decide) k137 (fun _ h9 => h9) rfl dX10_addText_75 ?_
      refine jn_callv (va_runV (As := [.ref (g.2.2.2 19), .int (nI v_4)]) (rest := []) ⟨hx, hb, hml, hown, hts⟩ (c_X0_merge l g tl H.size (sF (sF (sL (sA (sF (sF (sF σ 1 0) 2 (fltC (σ.2.1 12) (σ.1 1))) 3 v_4) 13 f_4) (2 + σ.1 9) (snp (sA (sF (sF (sF σ 1 0) 2 (fltC (σ.2.1 12) (σ.1 1))) 3 v_4) 13 f_4) (σ.2.2 (2 + σ.1 9)))) 9 ((σ.1 9 + 1) % 8)) 10 (min (σ.1 10 + 1) 8)) v_4) (cwV 2 hts gX10_addText_X0_merge rfl rfl rfl (by decide +kernel) ⟨Nat.le_of_ble_eq_true rfl, Nat.le_of_ble_eq_true rfl⟩) (okWV hK hP hD rfl (gC1 g (sF (sF (sL (sA (sF (sF (sF σ 1 0) 2 (fltC (σ.2.1 12) (σ.1 1))) 3 v_4) 13 f_4) (2 + σ.1 9) (snp (sA (sF (sF (sF σ 1 0) 2 (fltC (σ.2.1 12) (σ.1 1))) 3 v_4) 13 f_4) (σ.2.2 (2 + σ.1 9)))) 9 ((σ.1 9 + 1) % 8)) 10 (min (σ.1 10 + 1) 8)) tl)) rfl rfl hl.1 rfl (lv_room (Nat.le_of_ble_eq_true rfl)) dX10_addText_78 ⟨Nat.le_of_ble_eq_true rfl, Nat.le_of_ble_eq_true rfl⟩) hD hS hAA (fun u H locs hw_ hP hD hS => ?_)
      obtain ⟨f_78, rfl⟩ : ∃ z, z = u := ⟨_, rfl⟩
      have h_78 := hw_
      have h_78 : ∀ k, k < 15 → f_78 k = σ.2.1 0 k ||| f_4 k := h_78
      have hP : va_P (g.1, g.2.1) vwCl (wC g (sF (sA (sF (sF (sL (sA (sF (sF (sF σ 1 0) 2 (fltC (σ.2.1 12) (σ.1 1))) 3 v_4) 13 f_4) (2 + σ.1 9) (snp (sA (sF (sF (sF σ 1 0) 2 (fltC (σ.2.1 12) (σ.1 1))) 3 v_4) 13 f_4) (σ.2.2 (2 + σ.1 9)))) 9 ((σ.1 9 + 1) % 8)) 10 (min (σ.1 10 + 1) 8)) 0 f_78) 0 (σ.1 0 ||| v_4)) ++ tl) H := hP
      have hD : va_D A (wC g (sF (sA (sF (sF (sL (sA (sF (sF (sF σ 1 0) 2 (fltC (σ.2.1 12) (σ.1 1))) 3 v_4) 13 f_4) (2 + σ.1 9) (snp (sA (sF (sF (sF σ 1 0) 2 (fltC (σ.2.1 12) (σ.1 1))) 3 v_4) 13 f_4) (σ.2.2 (2 + σ.1 9)))) 9 ((σ.1 9 + 1) % 8)) 10 (min (σ.1 10 + 1) 8)) 0 f_78) 0 (σ.1 0 ||| v_4)) ++ tl) := hD
      have hT2 := okT_or hA.1 h32 h_78
      refine lv_aload_n hx hb dX10_addText_81 rfl (lv_at hl 0 rfl) ?_
      refine jn_callv (va_runV (As := []) (rest := []) ⟨hx, hb, hml, hown, hts⟩ (c_X10_endAutomatonChange l g tl H.size (sF (sA (sF (sF (sL (sA (sF (sF (sF σ 1 0) 2 (fltC (σ.2.1 12) (σ.1 1))) 3 v_4) 13 f_4) (2 + σ.1 9) (snp (sA (sF (sF (sF σ 1 0) 2 (fltC (σ.2.1 12) (σ.1 1))) 3 v_4) 13 f_4) (σ.2.2 (2 + σ.1 9)))) 9 ((σ.1 9 + 1) % 8)) 10 (min (σ.1 10 + 1) 8)) 0 f_78) 0 (σ.1 0 ||| v_4)) hT2) (cwV 0 hts gX10_addText_X10_endAutomatonChange rfl rfl rfl (by decide +kernel) ⟨Nat.le_of_ble_eq_true rfl, Nat.le_of_ble_eq_true rfl⟩) (okWV hK hP hD rfl (gC0 g (sF (sA (sF (sF (sL (sA (sF (sF (sF σ 1 0) 2 (fltC (σ.2.1 12) (σ.1 1))) 3 v_4) 13 f_4) (2 + σ.1 9) (snp (sA (sF (sF (sF σ 1 0) 2 (fltC (σ.2.1 12) (σ.1 1))) 3 v_4) 13 f_4) (σ.2.2 (2 + σ.1 9)))) 9 ((σ.1 9 + 1) % 8)) 10 (min (σ.1 10 + 1) 8)) 0 f_78) 0 (σ.1 0 ||| v_4)) tl)) rfl rfl hl.1 rfl (lv_room (Nat.le_of_ble_eq_true rfl)) dX10_addText_82 ⟨Nat.le_of_ble_eq_true rfl, Nat.le_of_ble_eq_true rfl⟩) hD hS hAA (fun u H locs hw_ hP hD hS => ?_)
      obtain ⟨f1_82, rfl⟩ : ∃ z, z = u := ⟨_, rfl⟩
      have h_82 := hw_
      have h_82 : ∀ x, x < 3 → ∀ m, m < 32 → f1_82 (x * 32 + m) = stp (f_78) x m := h_82
      have hP : va_P (g.1, g.2.1) vwCl (wC g (sF (sA (sF (sA (sF (sF (sL (sA (sF (sF (sF σ 1 0) 2 (fltC (σ.2.1 12) (σ.1 1))) 3 v_4) 13 f_4) (2 + σ.1 9) (snp (sA (sF (sF (sF σ 1 0) 2 (fltC (σ.2.1 12) (σ.1 1))) 3 v_4) 13 f_4) (σ.2.2 (2 + σ.1 9)))) 9 ((σ.1 9 + 1) % 8)) 10 (min (σ.1 10 + 1) 8)) 0 f_78) 0 (σ.1 0 ||| v_4)) 1 f1_82) 21 0) ++ tl) H := hP
      have hD : va_D A (wC g (sF (sA (sF (sA (sF (sF (sL (sA (sF (sF (sF σ 1 0) 2 (fltC (σ.2.1 12) (σ.1 1))) 3 v_4) 13 f_4) (2 + σ.1 9) (snp (sA (sF (sF (sF σ 1 0) 2 (fltC (σ.2.1 12) (σ.1 1))) 3 v_4) 13 f_4) (σ.2.2 (2 + σ.1 9)))) 9 ((σ.1 9 + 1) % 8)) 10 (min (σ.1 10 + 1) 8)) 0 f_78) 0 (σ.1 0 ||| v_4)) 1 f1_82) 21 0) ++ tl) := hD
      refine lv_aload_n hx hb dX10_addText_85 rfl (lv_at hl 0 rfl) ?_
      refine va_get (D := (g.1, g.2.1)) (ci := 12) (v := .ref (g.2.2.2 1)) (C := RX10) (T := TX10) (N := 15) hx hb hts iX10 hown hK.1 hP 0 (gC0 g (sF (sA (sF (sA (sF (sF (sL (sA (sF (sF (sF σ 1 0) 2 (fltC (σ.2.1 12) (σ.1 1))) 3 v_4) 13 f_4) (2 + σ.1 9) (snp (sA (sF (sF (sF σ 1 0) 2 (fltC (σ.2.1 12) (σ.1 1))) 3 v_4) 13 f_4) (σ.2.2 (2 + σ.1 9)))) 9 ((σ.1 9 + 1) % 8)) 10 (min (σ.1 10 + 1) 8)) 0 f_78) 0 (σ.1 0 ||| v_4)) 1 f1_82) 21 0) tl) rfl 0 (by decide) k12 (fun _ h9 => h9) rfl dX10_addText_86 ?_
      refine vp_callSi (va_Run.run (va_runV (As := []) (rest := []) ⟨hx, hb, hml, hown, hts⟩ (c_X0_size l g tl (sF (sA (sF (sA (sF (sF (sL (sA (sF (sF (sF σ 1 0) 2 (fltC (σ.2.1 12) (σ.1 1))) 3 v_4) 13 f_4) (2 + σ.1 9) (snp (sA (sF (sF (sF σ 1 0) 2 (fltC (σ.2.1 12) (σ.1 1))) 3 v_4) 13 f_4) (σ.2.2 (2 + σ.1 9)))) 9 ((σ.1 9 + 1) % 8)) 10 (min (σ.1 10 + 1) 8)) 0 f_78) 0 (σ.1 0 ||| v_4)) 1 f1_82) 21 0) ⟨hT2, by show σ.1 0 ||| v_4 < 32; exact or32 hA.2.1 (by rw [hg.2]; exact (gi_lt _ _).2), h_82⟩) (cwV 0 hts gX10_addText_X0_size rfl rfl rfl (by decide +kernel) ⟨Nat.le_of_ble_eq_true rfl, Nat.le_of_ble_eq_true rfl⟩) (okPV hK hP rfl (gC1 g (sF (sA (sF (sA (sF (sF (sL (sA (sF (sF (sF σ 1 0) 2 (fltC (σ.2.1 12) (σ.1 1))) 3 v_4) 13 f_4) (2 + σ.1 9) (snp (sA (sF (sF (sF σ 1 0) 2 (fltC (σ.2.1 12) (σ.1 1))) 3 v_4) 13 f_4) (σ.2.2 (2 + σ.1 9)))) 9 ((σ.1 9 + 1) % 8)) 10 (min (σ.1 10 + 1) 8)) 0 f_78) 0 (σ.1 0 ||| v_4)) 1 f1_82) 21 0) tl)) rfl rfl hl.1 rfl (lv_room (Nat.le_of_ble_eq_true rfl)) dX10_addText_89 ⟨Nat.le_of_ble_eq_true rfl, Nat.le_of_ble_eq_true rfl⟩)) (fun r_89 h_89 => ?_)
      have h_89 : r_89 = (nI (cntT (f_78))) := h_89
      subst h_89
      exact hq _ _ _ _ _ _ ((nI (cntT (f_78)))) (v_4, f_4, f_78, f1_82) (Nat.le_of_ble_eq_true rfl) (Nat.le_of_ble_eq_true rfl) dX10_addText_92 ⟨rfl, hfe, hg, by omega, h_78, h_82⟩ hP hD hS
    · exact hqt _ _ _ _ 46 108 132 112 "java/lang/IllegalStateException" "there would be more than 15 transitions" _ (v_4, f_4) hl.1 dX10_addText_46 dX10_addText_49 dX10_addText_50 dX10_addText_52 dX10_addText_55 ⟨by decide +kernel, by decide +kernel, fun w hw => List.mem_cons_of_mem _ (List.mem_append_left _ (List.mem_append_right _ hw)), by decide +kernel, by decide +kernel, by decide +kernel, by decide +kernel, by decide +kernel, Nat.le_of_ble_eq_true rfl, Nat.le_of_ble_eq_true rfl⟩ (Nat.le_of_ble_eq_true rfl) (Nat.le_of_ble_eq_true rfl) (Nat.le_of_ble_eq_true rfl) (Nat.le_of_ble_eq_true rfl) (Or.inr ⟨rfl, ⟨hfe, hg, by omega⟩⟩) hP hD hS
  · exact hqt _ _ _ _ 17 97 123 101 "java/lang/IllegalArgumentException" "the text has a fault" _ (v_4, f_4) hl.1 dX10_addText_17 dX10_addText_20 dX10_addText_21 dX10_addText_23 dX10_addText_26 ⟨by decide +kernel, by decide +kernel, fun w hw => List.mem_cons_of_mem _ (List.mem_append_left _ (List.mem_append_left _ (List.mem_append_right _ hw))), by decide +kernel, by decide +kernel, by decide +kernel, by decide +kernel, by decide +kernel, Nat.le_of_ble_eq_true rfl, Nat.le_of_ble_eq_true rfl⟩ (Nat.le_of_ble_eq_true rfl) (Nat.le_of_ble_eq_true rfl) (Nat.le_of_ble_eq_true rfl) (Nat.le_of_ble_eq_true rfl) (Or.inl ⟨rfl, (by omega)⟩) hP hD hS

abbrev r_c_X10_addTransition : Room := { frames := 7, cells := 2, slots := 12, locals := 150 }
set_option maxHeartbeats 4000000 in
set_option maxRecDepth 100000 in
theorem c_X10_addTransition (l : Launch) (hflg : l.stackTraces = false) (g : GC) (tl : va_W) (sz : Nat) (σ : SS) (a b c2 : Nat) (hA : OkA σ) (hM : OkM σ) (ha : a < 4294967296) (hb2 : b < 4294967296) (hc : c2 < 4294967296) : vx_Met l yX10_addTransition wsX10_addTransition r_c_X10_addTransition (va_Pc [.ref (g.2.2.2 0), .int (nI a), .int (nI b), .int (nI c2)] (PX g (wC g σ ++ tl) sz)) (va_Qi (fun (r : Int32) (f1 : (Nat → Nat)) => (r = nI (if ¬ Nat.testBit ((σ.2.1 0) (a * 3 + b)) c2 = true then 1 else 0)) ∧ (a < 5 ∧ b < 3 ∧ c2 < 5) ∧ (Nat.testBit ((σ.2.1 0) (a * 3 + b)) c2 = true ∨ cntT (σ.2.1 0) < 15) ∧ (∀ x, x < 3 → ∀ m, m < 32 → f1 (x * 32 + m) = stp (va_up (σ.2.1 0) (a * 3 + b) ((σ.2.1 0) (a * 3 + b) ||| 2 ^ c2)) x m)) (fun (f1 : (Nat → Nat)) t => BW g (va_A (wC g σ ++ tl) sz) (wC g (sF (sA (sA (sF (sF (sL σ (2 + σ.1 9) (snp σ (σ.2.2 (2 + σ.1 9)))) 9 ((σ.1 9 + 1) % 8)) 10 (min (σ.1 10 + 1) 8)) 0 (va_up (σ.2.1 0) (a * 3 + b) ((σ.2.1 0) (a * 3 + b) ||| 2 ^ c2))) 1 f1) 21 0) ++ tl) t) (va_A (wC g σ ++ tl) sz)) (XW g (va_A (wC g σ ++ tl) sz) (fun (E : String) (_ : Unit) => (E = "java/lang/IndexOutOfBoundsException" ∧ (¬ (a < 5 ∧ b < 3 ∧ c2 < 5))) ∨ (E = "java/lang/IllegalStateException" ∧ ((a < 5 ∧ b < 3 ∧ c2 < 5) ∧ ¬ Nat.testBit ((σ.2.1 0) (a * 3 + b)) c2 = true ∧ 15 ≤ cntT (σ.2.1 0)))) (fun _ : Unit => wC g σ ++ tl)) 2 12 (va_A (wC g σ ++ tl) sz) := by
  refine jx_z hflg (wf := fun f1 : (Nat → Nat) => wC g (sF (sA (sA (sF (sF (sL σ (2 + σ.1 9) (snp σ (σ.2.2 (2 + σ.1 9)))) 9 ((σ.1 9 + 1) % 8)) 10 (min (σ.1 10 + 1) 8)) 0 (va_up (σ.2.1 0) (a * 3 + b) ((σ.2.1 0) (a * 3 + b) ||| 2 ^ c2))) 1 f1) 21 0) ++ tl) (wx := fun _ : Unit => wC g σ ++ tl) (cc := cX10_addTransition) (maxL := 5) (by decide) rfl rfl (Nat.le_of_ble_eq_true rfl) ?_
  intro p e s m below meth c Q A hx hb hml hown hts hKX hP hD hS hAA hZ hq hqt hqw hqo ls hl
  have hK := hKX.1
  obtain ⟨H, eH⟩ : ∃ z, z = s.heap := ⟨_, rfl⟩
  obtain ⟨locs, el⟩ : ∃ z : List Loc, z = [] := ⟨_, rfl⟩
  rw [← eH] at hP
  have hS : va_S A s.heap H locs := by rw [eH, el]; exact hS
  have goal0 : W p l e r_c_X10_addTransition s m ([.ref (g.2.2.2 0), .int (nI a), .int (nI b), .int (nI c2)] : List Value).toArray below meth c H locs 0 0 Q (F0 m 0 ls []) → W p l e r_c_X10_addTransition s m ([.ref (g.2.2.2 0), .int (nI a), .int (nI b), .int (nI c2)] : List Value).toArray below meth c s.heap [] 0 0 Q (F0 m 0 ls []) := fun h => by rw [eH, el] at h; exact h
  refine goal0 ?_
  have hl : lv_has ls 5 [(0, .ref (g.2.2.2 0)), (1, .int (nI a)), (2, .int (nI b)), (3, .int (nI c2))] := hl
  have iX10 : ∀ w ∈ wsX100, w ∈ wsX10_addTransition := by decide +kernel
  have k12 := hts (.fieldLink RX10 12 "JumpingAutomata" "automaton" "LJumpingAutomata$Automaton;") (by decide +kernel)
  refine lv_iload_n hx hb dX10_addTransition_0 rfl (lv_at hl 1 rfl) ?_
  refine lv_iload_n hx hb dX10_addTransition_1 rfl (lv_at hl 2 rfl) ?_
  refine lv_iload_n hx hb dX10_addTransition_2 rfl (lv_at hl 3 rfl) ?_
  refine jx_callv (vx_runS (As := [.int (nI a), .int (nI b), .int (nI c2)]) (rest := []) ⟨hx, hb, hml, hown, hts⟩ (c_X10_requireTransition l hflg g tl H.size σ a b c2 ha hb2 hc) (va_cwS 3 hts gX10_addTransition_X10_requireTransition rfl rfl rfl (by decide +kernel) ⟨Nat.le_of_ble_eq_true rfl, Nat.le_of_ble_eq_true rfl⟩) (okXS hKX hP hD hZ hS hAA) rfl rfl hl.1 rfl (lv_room (Nat.le_of_ble_eq_true rfl)) dX10_addTransition_3 ⟨Nat.le_of_ble_eq_true rfl, Nat.le_of_ble_eq_true rfl⟩) hD hS hAA (fun E ce q9 u H locs hxp hP hD hS h7 h8 h9 => ?_) (fun u H locs hw_ hP hD hS => ?_)
  · have hxp : (E = "java/lang/IndexOutOfBoundsException" ∧ (¬ (a < 5 ∧ b < 3 ∧ c2 < 5))) := hxp
    rcases hxp with ⟨eE, hc⟩
    · exact hqo _ _ _ _ _ _ _ _ _ _ () (Nat.le_of_ble_eq_true rfl) (Nat.le_of_ble_eq_true rfl) h7 h8 h9 (Or.inl ⟨eE, (by first | exact hc | omega)⟩) hP hD hS
  have h_3 := hw_
  have h_3 : a < 5 ∧ b < 3 ∧ c2 < 5 := h_3
  have hP : va_P (g.1, g.2.1) vwCl (wC g σ ++ tl) H := hP
  have hD : va_D A (wC g σ ++ tl) := hD
  refine lv_aload_n hx hb dX10_addTransition_6 rfl (lv_at hl 0 rfl) ?_
  refine va_get (D := (g.1, g.2.1)) (ci := 12) (v := .ref (g.2.2.2 1)) (C := RX10) (T := TX10) (N := 15) hx hb hts iX10 hown hK.1 hP 0 (gC0 g σ tl) rfl 0 (by decide) k12 (fun _ h9 => h9) rfl dX10_addTransition_7 ?_
  refine lv_iload_n hx hb dX10_addTransition_10 rfl (lv_at hl 1 rfl) ?_
  refine lv_iload_n hx hb dX10_addTransition_11 rfl (lv_at hl 2 rfl) ?_
  refine lv_iload_n hx hb dX10_addTransition_12 rfl (lv_at hl 3 rfl) ?_
  refine vp_callSi (va_Run.run (va_runV (As := [.int (nI a), .int (nI b), .int (nI c2)]) (rest := []) ⟨hx, hb, hml, hown, hts⟩ (c_X0_has l g tl σ a b c2 hA h_3.1 h_3.2.1 h_3.2.2) (cwV 3 hts gX10_addTransition_X0_has rfl rfl rfl (by decide +kernel) ⟨Nat.le_of_ble_eq_true rfl, Nat.le_of_ble_eq_true rfl⟩) (okPV hK hP rfl (gC1 g σ tl)) rfl rfl hl.1 rfl (lv_room (Nat.le_of_ble_eq_true rfl)) dX10_addTransition_13 ⟨Nat.le_of_ble_eq_true rfl, Nat.le_of_ble_eq_true rfl⟩)) (fun r_13 h_13 => ?_)
  subst h_13
  have jp24 : ∀ v24 : Nat, v24 = (if ¬ Nat.testBit ((σ.2.1 0) (a * 3 + b)) c2 = true then 1 else 0) → W p l e r_c_X10_addTransition s m ([.ref (g.2.2.2 0), .int (nI a), .int (nI b), .int (nI c2)] : List Value).toArray below meth c H locs 1 6 Q (F0 m 24 ls [.int (nI v24)]) := by
    intro v24 ev24
    have v2 : v24 < 2 := by rw [ev24]; split <;> decide
    have hcl := cntT_le hA.1
    refine lv_istore (lv' := [(4, .int (nI v24)), (0, .ref (g.2.2.2 0)), (1, .int (nI a)), (2, .int (nI b)), (3, .int (nI c2))]) hx hb dX10_addTransition_24 hl (by decide) rfl (fun ls hl => ?_)
    refine lv_iload hx hb dX10_addTransition_26 (lv_at hl 0 rfl) ?_
    refine jn_zeq hx hb (by omega) (tgt := 53) dX10_addTransition_28 (by decide) (fun c_28 => ?_) (fun c_28 => ?_)
    · have hor : Nat.testBit ((σ.2.1 0) (a * 3 + b)) c2 = true ∨ cntT (σ.2.1 0) < 15 := Or.inl (Classical.not_not.mp (fun q => by rw [if_pos q] at ev24; omega))
      refine lv_aload_n hx hb dX10_addTransition_53 rfl (lv_at hl 1 rfl) ?_
      refine jn_callv (va_runV (As := []) (rest := []) ⟨hx, hb, hml, hown, hts⟩ (c_X10_beginChange l g tl H.size σ hM) (cwV 0 hts gX10_addTransition_X10_beginChange rfl rfl rfl (by decide +kernel) ⟨Nat.le_of_ble_eq_true rfl, Nat.le_of_ble_eq_true rfl⟩) (okWV hK hP hD rfl (gC0 g σ tl)) rfl rfl hl.1 rfl (lv_room (Nat.le_of_ble_eq_true rfl)) dX10_addTransition_54 ⟨Nat.le_of_ble_eq_true rfl, Nat.le_of_ble_eq_true rfl⟩) hD hS hAA (fun u H locs hw_ hP hD hS => ?_)
      have hP : va_P (g.1, g.2.1) vwCl (wC g (sF (sF (sL σ (2 + σ.1 9) (snp σ (σ.2.2 (2 + σ.1 9)))) 9 ((σ.1 9 + 1) % 8)) 10 (min (σ.1 10 + 1) 8)) ++ tl) H := hP
      have hD : va_D A (wC g (sF (sF (sL σ (2 + σ.1 9) (snp σ (σ.2.2 (2 + σ.1 9)))) 9 ((σ.1 9 + 1) % 8)) 10 (min (σ.1 10 + 1) 8)) ++ tl) := hD
      refine lv_aload_n hx hb dX10_addTransition_57 rfl (lv_at hl 1 rfl) ?_
      refine va_get (D := (g.1, g.2.1)) (ci := 12) (v := .ref (g.2.2.2 1)) (C := RX10) (T := TX10) (N := 15) hx hb hts iX10 hown hK.1 hP 0 (gC0 g (sF (sF (sL σ (2 + σ.1 9) (snp σ (σ.2.2 (2 + σ.1 9)))) 9 ((σ.1 9 + 1) % 8)) 10 (min (σ.1 10 + 1) 8)) tl) rfl 0 (by decide) k12 (fun _ h9 => h9) rfl dX10_addTransition_58 ?_
      refine lv_iload_n hx hb dX10_addTransition_61 rfl (lv_at hl 2 rfl) ?_
      refine lv_iload_n hx hb dX10_addTransition_62 rfl (lv_at hl 3 rfl) ?_
      refine lv_iload_n hx hb dX10_addTransition_63 rfl (lv_at hl 4 rfl) ?_
      refine jn_callv (va_runV (As := [.int (nI a), .int (nI b), .int (nI c2)]) (rest := []) ⟨hx, hb, hml, hown, hts⟩ (c_X0_put l g tl H.size (sF (sF (sL σ (2 + σ.1 9) (snp σ (σ.2.2 (2 + σ.1 9)))) 9 ((σ.1 9 + 1) % 8)) 10 (min (σ.1 10 + 1) 8)) a b c2 h_3.1 h_3.2.1 h_3.2.2) (cwV 3 hts gX10_addTransition_X0_put rfl rfl rfl (by decide +kernel) ⟨Nat.le_of_ble_eq_true rfl, Nat.le_of_ble_eq_true rfl⟩) (okWV hK hP hD rfl (gC1 g (sF (sF (sL σ (2 + σ.1 9) (snp σ (σ.2.2 (2 + σ.1 9)))) 9 ((σ.1 9 + 1) % 8)) 10 (min (σ.1 10 + 1) 8)) tl)) rfl rfl hl.1 rfl (lv_room (Nat.le_of_ble_eq_true rfl)) dX10_addTransition_64 ⟨Nat.le_of_ble_eq_true rfl, Nat.le_of_ble_eq_true rfl⟩) hD hS hAA (fun u H locs hw_ hP hD hS => ?_)
      have hP : va_P (g.1, g.2.1) vwCl (wC g (sA (sF (sF (sL σ (2 + σ.1 9) (snp σ (σ.2.2 (2 + σ.1 9)))) 9 ((σ.1 9 + 1) % 8)) 10 (min (σ.1 10 + 1) 8)) 0 (va_up (σ.2.1 0) (a * 3 + b) ((σ.2.1 0) (a * 3 + b) ||| 2 ^ c2))) ++ tl) H := hP
      have hD : va_D A (wC g (sA (sF (sF (sL σ (2 + σ.1 9) (snp σ (σ.2.2 (2 + σ.1 9)))) 9 ((σ.1 9 + 1) % 8)) 10 (min (σ.1 10 + 1) 8)) 0 (va_up (σ.2.1 0) (a * 3 + b) ((σ.2.1 0) (a * 3 + b) ||| 2 ^ c2))) ++ tl) := hD
      refine lv_aload_n hx hb dX10_addTransition_67 rfl (lv_at hl 1 rfl) ?_
      refine jn_callv (va_runV (As := []) (rest := []) ⟨hx, hb, hml, hown, hts⟩ (c_X10_endAutomatonChange l g tl H.size (sA (sF (sF (sL σ (2 + σ.1 9) (snp σ (σ.2.2 (2 + σ.1 9)))) 9 ((σ.1 9 + 1) % 8)) 10 (min (σ.1 10 + 1) 8)) 0 (va_up (σ.2.1 0) (a * 3 + b) ((σ.2.1 0) (a * 3 + b) ||| 2 ^ c2))) (okT_put hA.1 (show a * 3 + b < 15 by omega) h_3.2.2)) (cwV 0 hts gX10_addTransition_X10_endAutomatonChange rfl rfl rfl (by decide +kernel) ⟨Nat.le_of_ble_eq_true rfl, Nat.le_of_ble_eq_true rfl⟩) (okWV hK hP hD rfl (gC0 g (sA (sF (sF (sL σ (2 + σ.1 9) (snp σ (σ.2.2 (2 + σ.1 9)))) 9 ((σ.1 9 + 1) % 8)) 10 (min (σ.1 10 + 1) 8)) 0 (va_up (σ.2.1 0) (a * 3 + b) ((σ.2.1 0) (a * 3 + b) ||| 2 ^ c2))) tl)) rfl rfl hl.1 rfl (lv_room (Nat.le_of_ble_eq_true rfl)) dX10_addTransition_68 ⟨Nat.le_of_ble_eq_true rfl, Nat.le_of_ble_eq_true rfl⟩) hD hS hAA (fun u H locs hw_ hP hD hS => ?_)
      obtain ⟨f1_68, rfl⟩ : ∃ z, z = u := ⟨_, rfl⟩
      have h_68 := hw_
      have h_68 : ∀ x, x < 3 → ∀ m, m < 32 → f1_68 (x * 32 + m) = stp ((va_up (σ.2.1 0) (a * 3 + b) ((σ.2.1 0) (a * 3 + b) ||| 2 ^ c2))) x m := h_68
      have hP : va_P (g.1, g.2.1) vwCl (wC g (sF (sA (sA (sF (sF (sL σ (2 + σ.1 9) (snp σ (σ.2.2 (2 + σ.1 9)))) 9 ((σ.1 9 + 1) % 8)) 10 (min (σ.1 10 + 1) 8)) 0 (va_up (σ.2.1 0) (a * 3 + b) ((σ.2.1 0) (a * 3 + b) ||| 2 ^ c2))) 1 f1_68) 21 0) ++ tl) H := hP
      have hD : va_D A (wC g (sF (sA (sA (sF (sF (sL σ (2 + σ.1 9) (snp σ (σ.2.2 (2 + σ.1 9)))) 9 ((σ.1 9 + 1) % 8)) 10 (min (σ.1 10 + 1) 8)) 0 (va_up (σ.2.1 0) (a * 3 + b) ((σ.2.1 0) (a * 3 + b) ||| 2 ^ c2))) 1 f1_68) 21 0) ++ tl) := hD
      refine lv_iload hx hb dX10_addTransition_71 (lv_at hl 0 rfl) ?_
      exact hq _ _ _ _ _ _ ((nI v24)) (f1_68) (Nat.le_of_ble_eq_true rfl) (Nat.le_of_ble_eq_true rfl) dX10_addTransition_73 (by rw [ev24]; exact jn_nb _) ⟨by rw [ev24], h_3, hor, h_68⟩ hP hD hS
    · have hnb : ¬ Nat.testBit ((σ.2.1 0) (a * 3 + b)) c2 = true := fun q => by rw [if_neg (fun z => z q)] at ev24; omega
      refine lv_aload_n hx hb dX10_addTransition_31 rfl (lv_at hl 1 rfl) ?_
      refine va_get (D := (g.1, g.2.1)) (ci := 12) (v := .ref (g.2.2.2 1)) (C := RX10) (T := TX10) (N := 15) hx hb hts iX10 hown hK.1 hP 0 (gC0 g σ tl) rfl 0 (by decide) k12 (fun _ h9 => h9) rfl dX10_addTransition_32 ?_
      refine vp_callSi (va_Run.run (va_runV (As := []) (rest := []) ⟨hx, hb, hml, hown, hts⟩ (c_X0_size l g tl σ hA) (cwV 0 hts gX10_addTransition_X0_size rfl rfl rfl (by decide +kernel) ⟨Nat.le_of_ble_eq_true rfl, Nat.le_of_ble_eq_true rfl⟩) (okPV hK hP rfl (gC1 g σ tl)) rfl rfl hl.1 rfl (lv_room (Nat.le_of_ble_eq_true rfl)) dX10_addTransition_35 ⟨Nat.le_of_ble_eq_true rfl, Nat.le_of_ble_eq_true rfl⟩)) (fun r_35 h_35 => ?_)
      subst h_35
      refine lv_bipush (v := nI 15) hx hb dX10_addTransition_38 (by decide) ?_
      refine jn_clt hx hb (by omega) (by decide) (tgt := 53) dX10_addTransition_40 (by decide) (fun c_40 => ?_) (fun c_40 => ?_)
      · have hor : Nat.testBit ((σ.2.1 0) (a * 3 + b)) c2 = true ∨ cntT (σ.2.1 0) < 15 := Or.inr (by omega)
        refine lv_aload_n hx hb dX10_addTransition_53 rfl (lv_at hl 1 rfl) ?_
        refine jn_callv (va_runV (As := []) (rest := []) ⟨hx, hb, hml, hown, hts⟩ (c_X10_beginChange l g tl H.size σ hM) (cwV 0 hts gX10_addTransition_X10_beginChange rfl rfl rfl (by decide +kernel) ⟨Nat.le_of_ble_eq_true rfl, Nat.le_of_ble_eq_true rfl⟩) (okWV hK hP hD rfl (gC0 g σ tl)) rfl rfl hl.1 rfl (lv_room (Nat.le_of_ble_eq_true rfl)) dX10_addTransition_54 ⟨Nat.le_of_ble_eq_true rfl, Nat.le_of_ble_eq_true rfl⟩) hD hS hAA (fun u H locs hw_ hP hD hS => ?_)
        have hP : va_P (g.1, g.2.1) vwCl (wC g (sF (sF (sL σ (2 + σ.1 9) (snp σ (σ.2.2 (2 + σ.1 9)))) 9 ((σ.1 9 + 1) % 8)) 10 (min (σ.1 10 + 1) 8)) ++ tl) H := hP
        have hD : va_D A (wC g (sF (sF (sL σ (2 + σ.1 9) (snp σ (σ.2.2 (2 + σ.1 9)))) 9 ((σ.1 9 + 1) % 8)) 10 (min (σ.1 10 + 1) 8)) ++ tl) := hD
        refine lv_aload_n hx hb dX10_addTransition_57 rfl (lv_at hl 1 rfl) ?_
        refine va_get (D := (g.1, g.2.1)) (ci := 12) (v := .ref (g.2.2.2 1)) (C := RX10) (T := TX10) (N := 15) hx hb hts iX10 hown hK.1 hP 0 (gC0 g (sF (sF (sL σ (2 + σ.1 9) (snp σ (σ.2.2 (2 + σ.1 9)))) 9 ((σ.1 9 + 1) % 8)) 10 (min (σ.1 10 + 1) 8)) tl) rfl 0 (by decide) k12 (fun _ h9 => h9) rfl dX10_addTransition_58 ?_
        refine lv_iload_n hx hb dX10_addTransition_61 rfl (lv_at hl 2 rfl) ?_
        refine lv_iload_n hx hb dX10_addTransition_62 rfl (lv_at hl 3 rfl) ?_
        refine lv_iload_n hx hb dX10_addTransition_63 rfl (lv_at hl 4 rfl) ?_
        refine jn_callv (va_runV (As := [.int (nI a), .int (nI b), .int (nI c2)]) (rest := []) ⟨hx, hb, hml, hown, hts⟩ (c_X0_put l g tl H.size (sF (sF (sL σ (2 + σ.1 9) (snp σ (σ.2.2 (2 + σ.1 9)))) 9 ((σ.1 9 + 1) % 8)) 10 (min (σ.1 10 + 1) 8)) a b c2 h_3.1 h_3.2.1 h_3.2.2) (cwV 3 hts gX10_addTransition_X0_put rfl rfl rfl (by decide +kernel) ⟨Nat.le_of_ble_eq_true rfl, Nat.le_of_ble_eq_true rfl⟩) (okWV hK hP hD rfl (gC1 g (sF (sF (sL σ (2 + σ.1 9) (snp σ (σ.2.2 (2 + σ.1 9)))) 9 ((σ.1 9 + 1) % 8)) 10 (min (σ.1 10 + 1) 8)) tl)) rfl rfl hl.1 rfl (lv_room (Nat.le_of_ble_eq_true rfl)) dX10_addTransition_64 ⟨Nat.le_of_ble_eq_true rfl, Nat.le_of_ble_eq_true rfl⟩) hD hS hAA (fun u H locs hw_ hP hD hS => ?_)
        have hP : va_P (g.1, g.2.1) vwCl (wC g (sA (sF (sF (sL σ (2 + σ.1 9) (snp σ (σ.2.2 (2 + σ.1 9)))) 9 ((σ.1 9 + 1) % 8)) 10 (min (σ.1 10 + 1) 8)) 0 (va_up (σ.2.1 0) (a * 3 + b) ((σ.2.1 0) (a * 3 + b) ||| 2 ^ c2))) ++ tl) H := hP
        have hD : va_D A (wC g (sA (sF (sF (sL σ (2 + σ.1 9) (snp σ (σ.2.2 (2 + σ.1 9)))) 9 ((σ.1 9 + 1) % 8)) 10 (min (σ.1 10 + 1) 8)) 0 (va_up (σ.2.1 0) (a * 3 + b) ((σ.2.1 0) (a * 3 + b) ||| 2 ^ c2))) ++ tl) := hD
        refine lv_aload_n hx hb dX10_addTransition_67 rfl (lv_at hl 1 rfl) ?_
        refine jn_callv (va_runV (As := []) (rest := []) ⟨hx, hb, hml, hown, hts⟩ (c_X10_endAutomatonChange l g tl H.size (sA (sF (sF (sL σ (2 + σ.1 9) (snp σ (σ.2.2 (2 + σ.1 9)))) 9 ((σ.1 9 + 1) % 8)) 10 (min (σ.1 10 + 1) 8)) 0 (va_up (σ.2.1 0) (a * 3 + b) ((σ.2.1 0) (a * 3 + b) ||| 2 ^ c2))) (okT_put hA.1 (show a * 3 + b < 15 by omega) h_3.2.2)) (cwV 0 hts gX10_addTransition_X10_endAutomatonChange rfl rfl rfl (by decide +kernel) ⟨Nat.le_of_ble_eq_true rfl, Nat.le_of_ble_eq_true rfl⟩) (okWV hK hP hD rfl (gC0 g (sA (sF (sF (sL σ (2 + σ.1 9) (snp σ (σ.2.2 (2 + σ.1 9)))) 9 ((σ.1 9 + 1) % 8)) 10 (min (σ.1 10 + 1) 8)) 0 (va_up (σ.2.1 0) (a * 3 + b) ((σ.2.1 0) (a * 3 + b) ||| 2 ^ c2))) tl)) rfl rfl hl.1 rfl (lv_room (Nat.le_of_ble_eq_true rfl)) dX10_addTransition_68 ⟨Nat.le_of_ble_eq_true rfl, Nat.le_of_ble_eq_true rfl⟩) hD hS hAA (fun u H locs hw_ hP hD hS => ?_)
        obtain ⟨f1_68, rfl⟩ : ∃ z, z = u := ⟨_, rfl⟩
        have h_68 := hw_
        have h_68 : ∀ x, x < 3 → ∀ m, m < 32 → f1_68 (x * 32 + m) = stp ((va_up (σ.2.1 0) (a * 3 + b) ((σ.2.1 0) (a * 3 + b) ||| 2 ^ c2))) x m := h_68
        have hP : va_P (g.1, g.2.1) vwCl (wC g (sF (sA (sA (sF (sF (sL σ (2 + σ.1 9) (snp σ (σ.2.2 (2 + σ.1 9)))) 9 ((σ.1 9 + 1) % 8)) 10 (min (σ.1 10 + 1) 8)) 0 (va_up (σ.2.1 0) (a * 3 + b) ((σ.2.1 0) (a * 3 + b) ||| 2 ^ c2))) 1 f1_68) 21 0) ++ tl) H := hP
        have hD : va_D A (wC g (sF (sA (sA (sF (sF (sL σ (2 + σ.1 9) (snp σ (σ.2.2 (2 + σ.1 9)))) 9 ((σ.1 9 + 1) % 8)) 10 (min (σ.1 10 + 1) 8)) 0 (va_up (σ.2.1 0) (a * 3 + b) ((σ.2.1 0) (a * 3 + b) ||| 2 ^ c2))) 1 f1_68) 21 0) ++ tl) := hD
        refine lv_iload hx hb dX10_addTransition_71 (lv_at hl 0 rfl) ?_
        exact hq _ _ _ _ _ _ ((nI v24)) (f1_68) (Nat.le_of_ble_eq_true rfl) (Nat.le_of_ble_eq_true rfl) dX10_addTransition_73 (by rw [ev24]; exact jn_nb _) ⟨by rw [ev24], h_3, hor, h_68⟩ hP hD hS
      · exact hqt _ _ _ _ 43 108 159 112 "java/lang/IllegalStateException" "there are 15 transitions" _ () hl.1 dX10_addTransition_43 dX10_addTransition_46 dX10_addTransition_47 dX10_addTransition_49 dX10_addTransition_52 ⟨by decide +kernel, by decide +kernel, fun w hw => List.mem_cons_of_mem _ (List.mem_append_left _ (List.mem_append_left _ (List.mem_append_right _ hw))), by decide +kernel, by decide +kernel, by decide +kernel, by decide +kernel, by decide +kernel, Nat.le_of_ble_eq_true rfl, Nat.le_of_ble_eq_true rfl⟩ (Nat.le_of_ble_eq_true rfl) (Nat.le_of_ble_eq_true rfl) (Nat.le_of_ble_eq_true rfl) (Nat.le_of_ble_eq_true rfl) (Or.inr ⟨rfl, ⟨h_3, hnb, by omega⟩⟩) hP hD hS
  refine jn_bne hx hb (tgt := 23) dX10_addTransition_16 (by decide) (fun c_16 => ?_) (fun c_16 => ?_)
  · refine lv_iconst (v := nI 0) hx hb dX10_addTransition_23 (by decide) ?_
    exact jp24 0 (by rw [if_neg (fun q => q c_16)])
  · refine lv_iconst (v := nI 1) hx hb dX10_addTransition_19 (by decide) ?_
    refine lv_goto (tgt := 24) hx hb dX10_addTransition_20 (by decide) ?_
    exact jp24 1 (by rw [if_pos c_16])

abbrev r_c_X10_removeTransition : Room := { frames := 7, cells := 2, slots := 12, locals := 150 }
set_option maxHeartbeats 4000000 in
set_option maxRecDepth 100000 in
theorem c_X10_removeTransition (l : Launch) (hflg : l.stackTraces = false) (g : GC) (tl : va_W) (sz : Nat) (σ : SS) (a b c2 : Nat) (hA : OkA σ) (hM : OkM σ) (ha : a < 4294967296) (hb2 : b < 4294967296) (hc : c2 < 4294967296) : vx_Met l yX10_removeTransition wsX10_removeTransition r_c_X10_removeTransition (va_Pc [.ref (g.2.2.2 0), .int (nI a), .int (nI b), .int (nI c2)] (PX g (wC g σ ++ tl) sz)) (va_Qv (fun (f1 : (Nat → Nat)) => (a < 5 ∧ b < 3 ∧ c2 < 5) ∧ (Nat.testBit ((σ.2.1 0) (a * 3 + b)) c2 = true) ∧ (∀ x, x < 3 → ∀ m, m < 32 → f1 (x * 32 + m) = stp (va_up (σ.2.1 0) (a * 3 + b) ((σ.2.1 0) (a * 3 + b) &&& (2 ^ c2 ^^^ 4294967295))) x m)) (fun (f1 : (Nat → Nat)) t => BW g (va_A (wC g σ ++ tl) sz) (wC g (sF (sA (sA (sF (sF (sL σ (2 + σ.1 9) (snp σ (σ.2.2 (2 + σ.1 9)))) 9 ((σ.1 9 + 1) % 8)) 10 (min (σ.1 10 + 1) 8)) 0 (va_up (σ.2.1 0) (a * 3 + b) ((σ.2.1 0) (a * 3 + b) &&& (2 ^ c2 ^^^ 4294967295)))) 1 f1) 21 0) ++ tl) t) (va_A (wC g σ ++ tl) sz)) (XW g (va_A (wC g σ ++ tl) sz) (fun (E : String) (_ : Unit) => (E = "java/lang/IndexOutOfBoundsException" ∧ (¬ (a < 5 ∧ b < 3 ∧ c2 < 5))) ∨ (E = "java/util/NoSuchElementException" ∧ ((a < 5 ∧ b < 3 ∧ c2 < 5) ∧ ¬ Nat.testBit ((σ.2.1 0) (a * 3 + b)) c2 = true))) (fun _ : Unit => wC g σ ++ tl)) 2 12 (va_A (wC g σ ++ tl) sz) := by
  refine jx_v hflg (wf := fun f1 : (Nat → Nat) => wC g (sF (sA (sA (sF (sF (sL σ (2 + σ.1 9) (snp σ (σ.2.2 (2 + σ.1 9)))) 9 ((σ.1 9 + 1) % 8)) 10 (min (σ.1 10 + 1) 8)) 0 (va_up (σ.2.1 0) (a * 3 + b) ((σ.2.1 0) (a * 3 + b) &&& (2 ^ c2 ^^^ 4294967295)))) 1 f1) 21 0) ++ tl) (wx := fun _ : Unit => wC g σ ++ tl) (cc := cX10_removeTransition) (maxL := 4) (by decide) rfl rfl (Nat.le_of_ble_eq_true rfl) ?_
  intro p e s m below meth c Q A hx hb hml hown hts hKX hP hD hS hAA hZ hq hqt hqw hqo ls hl
  have hK := hKX.1
  obtain ⟨H, eH⟩ : ∃ z, z = s.heap := ⟨_, rfl⟩
  obtain ⟨locs, el⟩ : ∃ z : List Loc, z = [] := ⟨_, rfl⟩
  rw [← eH] at hP
  have hS : va_S A s.heap H locs := by rw [eH, el]; exact hS
  have goal0 : W p l e r_c_X10_removeTransition s m ([.ref (g.2.2.2 0), .int (nI a), .int (nI b), .int (nI c2)] : List Value).toArray below meth c H locs 0 0 Q (F0 m 0 ls []) → W p l e r_c_X10_removeTransition s m ([.ref (g.2.2.2 0), .int (nI a), .int (nI b), .int (nI c2)] : List Value).toArray below meth c s.heap [] 0 0 Q (F0 m 0 ls []) := fun h => by rw [eH, el] at h; exact h
  refine goal0 ?_
  have hl : lv_has ls 4 [(0, .ref (g.2.2.2 0)), (1, .int (nI a)), (2, .int (nI b)), (3, .int (nI c2))] := hl
  have iX10 : ∀ w ∈ wsX100, w ∈ wsX10_removeTransition := by decide +kernel
  have k12 := hts (.fieldLink RX10 12 "JumpingAutomata" "automaton" "LJumpingAutomata$Automaton;") (by decide +kernel)
  refine lv_iload_n hx hb dX10_removeTransition_0 rfl (lv_at hl 1 rfl) ?_
  refine lv_iload_n hx hb dX10_removeTransition_1 rfl (lv_at hl 2 rfl) ?_
  refine lv_iload_n hx hb dX10_removeTransition_2 rfl (lv_at hl 3 rfl) ?_
  refine jx_callv (vx_runS (As := [.int (nI a), .int (nI b), .int (nI c2)]) (rest := []) ⟨hx, hb, hml, hown, hts⟩ (c_X10_requireTransition l hflg g tl H.size σ a b c2 ha hb2 hc) (va_cwS 3 hts gX10_removeTransition_X10_requireTransition rfl rfl rfl (by decide +kernel) ⟨Nat.le_of_ble_eq_true rfl, Nat.le_of_ble_eq_true rfl⟩) (okXS hKX hP hD hZ hS hAA) rfl rfl hl.1 rfl (lv_room (Nat.le_of_ble_eq_true rfl)) dX10_removeTransition_3 ⟨Nat.le_of_ble_eq_true rfl, Nat.le_of_ble_eq_true rfl⟩) hD hS hAA (fun E ce q9 u H locs hxp hP hD hS h7 h8 h9 => ?_) (fun u H locs hw_ hP hD hS => ?_)
  · have hxp : (E = "java/lang/IndexOutOfBoundsException" ∧ (¬ (a < 5 ∧ b < 3 ∧ c2 < 5))) := hxp
    rcases hxp with ⟨eE, hc⟩
    · exact hqo _ _ _ _ _ _ _ _ _ _ () (Nat.le_of_ble_eq_true rfl) (Nat.le_of_ble_eq_true rfl) h7 h8 h9 (Or.inl ⟨eE, (by first | exact hc | omega)⟩) hP hD hS
  have h_3 := hw_
  have h_3 : a < 5 ∧ b < 3 ∧ c2 < 5 := h_3
  have hP : va_P (g.1, g.2.1) vwCl (wC g σ ++ tl) H := hP
  have hD : va_D A (wC g σ ++ tl) := hD
  refine lv_aload_n hx hb dX10_removeTransition_6 rfl (lv_at hl 0 rfl) ?_
  refine va_get (D := (g.1, g.2.1)) (ci := 12) (v := .ref (g.2.2.2 1)) (C := RX10) (T := TX10) (N := 15) hx hb hts iX10 hown hK.1 hP 0 (gC0 g σ tl) rfl 0 (by decide) k12 (fun _ h9 => h9) rfl dX10_removeTransition_7 ?_
  refine lv_iload_n hx hb dX10_removeTransition_10 rfl (lv_at hl 1 rfl) ?_
  refine lv_iload_n hx hb dX10_removeTransition_11 rfl (lv_at hl 2 rfl) ?_
  refine lv_iload_n hx hb dX10_removeTransition_12 rfl (lv_at hl 3 rfl) ?_
  refine vp_callSi (va_Run.run (va_runV (As := [.int (nI a), .int (nI b), .int (nI c2)]) (rest := []) ⟨hx, hb, hml, hown, hts⟩ (c_X0_has l g tl σ a b c2 hA h_3.1 h_3.2.1 h_3.2.2) (cwV 3 hts gX10_removeTransition_X0_has rfl rfl rfl (by decide +kernel) ⟨Nat.le_of_ble_eq_true rfl, Nat.le_of_ble_eq_true rfl⟩) (okPV hK hP rfl (gC1 g σ tl)) rfl rfl hl.1 rfl (lv_room (Nat.le_of_ble_eq_true rfl)) dX10_removeTransition_13 ⟨Nat.le_of_ble_eq_true rfl, Nat.le_of_ble_eq_true rfl⟩)) (fun r_13 h_13 => ?_)
  subst h_13
  refine jn_bne hx hb (tgt := 29) dX10_removeTransition_16 (by decide) (fun c_16 => ?_) (fun c_16 => ?_)
  · refine lv_aload_n hx hb dX10_removeTransition_29 rfl (lv_at hl 0 rfl) ?_
    refine jn_callv (va_runV (As := []) (rest := []) ⟨hx, hb, hml, hown, hts⟩ (c_X10_beginChange l g tl H.size σ hM) (cwV 0 hts gX10_removeTransition_X10_beginChange rfl rfl rfl (by decide +kernel) ⟨Nat.le_of_ble_eq_true rfl, Nat.le_of_ble_eq_true rfl⟩) (okWV hK hP hD rfl (gC0 g σ tl)) rfl rfl hl.1 rfl (lv_room (Nat.le_of_ble_eq_true rfl)) dX10_removeTransition_30 ⟨Nat.le_of_ble_eq_true rfl, Nat.le_of_ble_eq_true rfl⟩) hD hS hAA (fun u H locs hw_ hP hD hS => ?_)
    have hP : va_P (g.1, g.2.1) vwCl (wC g (sF (sF (sL σ (2 + σ.1 9) (snp σ (σ.2.2 (2 + σ.1 9)))) 9 ((σ.1 9 + 1) % 8)) 10 (min (σ.1 10 + 1) 8)) ++ tl) H := hP
    have hD : va_D A (wC g (sF (sF (sL σ (2 + σ.1 9) (snp σ (σ.2.2 (2 + σ.1 9)))) 9 ((σ.1 9 + 1) % 8)) 10 (min (σ.1 10 + 1) 8)) ++ tl) := hD
    refine lv_aload_n hx hb dX10_removeTransition_33 rfl (lv_at hl 0 rfl) ?_
    refine va_get (D := (g.1, g.2.1)) (ci := 12) (v := .ref (g.2.2.2 1)) (C := RX10) (T := TX10) (N := 15) hx hb hts iX10 hown hK.1 hP 0 (gC0 g (sF (sF (sL σ (2 + σ.1 9) (snp σ (σ.2.2 (2 + σ.1 9)))) 9 ((σ.1 9 + 1) % 8)) 10 (min (σ.1 10 + 1) 8)) tl) rfl 0 (by decide) k12 (fun _ h9 => h9) rfl dX10_removeTransition_34 ?_
    refine lv_iload_n hx hb dX10_removeTransition_37 rfl (lv_at hl 1 rfl) ?_
    refine lv_iload_n hx hb dX10_removeTransition_38 rfl (lv_at hl 2 rfl) ?_
    refine lv_iload_n hx hb dX10_removeTransition_39 rfl (lv_at hl 3 rfl) ?_
    refine jn_callv (va_runV (As := [.int (nI a), .int (nI b), .int (nI c2)]) (rest := []) ⟨hx, hb, hml, hown, hts⟩ (c_X0_drop l g tl H.size (sF (sF (sL σ (2 + σ.1 9) (snp σ (σ.2.2 (2 + σ.1 9)))) 9 ((σ.1 9 + 1) % 8)) 10 (min (σ.1 10 + 1) 8)) a b c2 h_3.1 h_3.2.1 h_3.2.2) (cwV 3 hts gX10_removeTransition_X0_drop rfl rfl rfl (by decide +kernel) ⟨Nat.le_of_ble_eq_true rfl, Nat.le_of_ble_eq_true rfl⟩) (okWV hK hP hD rfl (gC1 g (sF (sF (sL σ (2 + σ.1 9) (snp σ (σ.2.2 (2 + σ.1 9)))) 9 ((σ.1 9 + 1) % 8)) 10 (min (σ.1 10 + 1) 8)) tl)) rfl rfl hl.1 rfl (lv_room (Nat.le_of_ble_eq_true rfl)) dX10_removeTransition_40 ⟨Nat.le_of_ble_eq_true rfl, Nat.le_of_ble_eq_true rfl⟩) hD hS hAA (fun u H locs hw_ hP hD hS => ?_)
    have hP : va_P (g.1, g.2.1) vwCl (wC g (sA (sF (sF (sL σ (2 + σ.1 9) (snp σ (σ.2.2 (2 + σ.1 9)))) 9 ((σ.1 9 + 1) % 8)) 10 (min (σ.1 10 + 1) 8)) 0 (va_up (σ.2.1 0) (a * 3 + b) ((σ.2.1 0) (a * 3 + b) &&& (2 ^ c2 ^^^ 4294967295)))) ++ tl) H := hP
    have hD : va_D A (wC g (sA (sF (sF (sL σ (2 + σ.1 9) (snp σ (σ.2.2 (2 + σ.1 9)))) 9 ((σ.1 9 + 1) % 8)) 10 (min (σ.1 10 + 1) 8)) 0 (va_up (σ.2.1 0) (a * 3 + b) ((σ.2.1 0) (a * 3 + b) &&& (2 ^ c2 ^^^ 4294967295)))) ++ tl) := hD
    refine lv_aload_n hx hb dX10_removeTransition_43 rfl (lv_at hl 0 rfl) ?_
    refine jn_callv (va_runV (As := []) (rest := []) ⟨hx, hb, hml, hown, hts⟩ (c_X10_endAutomatonChange l g tl H.size (sA (sF (sF (sL σ (2 + σ.1 9) (snp σ (σ.2.2 (2 + σ.1 9)))) 9 ((σ.1 9 + 1) % 8)) 10 (min (σ.1 10 + 1) 8)) 0 (va_up (σ.2.1 0) (a * 3 + b) ((σ.2.1 0) (a * 3 + b) &&& (2 ^ c2 ^^^ 4294967295)))) (okT_drop hA.1 (show a * 3 + b < 15 by omega))) (cwV 0 hts gX10_removeTransition_X10_endAutomatonChange rfl rfl rfl (by decide +kernel) ⟨Nat.le_of_ble_eq_true rfl, Nat.le_of_ble_eq_true rfl⟩) (okWV hK hP hD rfl (gC0 g (sA (sF (sF (sL σ (2 + σ.1 9) (snp σ (σ.2.2 (2 + σ.1 9)))) 9 ((σ.1 9 + 1) % 8)) 10 (min (σ.1 10 + 1) 8)) 0 (va_up (σ.2.1 0) (a * 3 + b) ((σ.2.1 0) (a * 3 + b) &&& (2 ^ c2 ^^^ 4294967295)))) tl)) rfl rfl hl.1 rfl (lv_room (Nat.le_of_ble_eq_true rfl)) dX10_removeTransition_44 ⟨Nat.le_of_ble_eq_true rfl, Nat.le_of_ble_eq_true rfl⟩) hD hS hAA (fun u H locs hw_ hP hD hS => ?_)
    obtain ⟨f1_44, rfl⟩ : ∃ z, z = u := ⟨_, rfl⟩
    have h_44 := hw_
    have h_44 : ∀ x, x < 3 → ∀ m, m < 32 → f1_44 (x * 32 + m) = stp ((va_up (σ.2.1 0) (a * 3 + b) ((σ.2.1 0) (a * 3 + b) &&& (2 ^ c2 ^^^ 4294967295)))) x m := h_44
    have hP : va_P (g.1, g.2.1) vwCl (wC g (sF (sA (sA (sF (sF (sL σ (2 + σ.1 9) (snp σ (σ.2.2 (2 + σ.1 9)))) 9 ((σ.1 9 + 1) % 8)) 10 (min (σ.1 10 + 1) 8)) 0 (va_up (σ.2.1 0) (a * 3 + b) ((σ.2.1 0) (a * 3 + b) &&& (2 ^ c2 ^^^ 4294967295)))) 1 f1_44) 21 0) ++ tl) H := hP
    have hD : va_D A (wC g (sF (sA (sA (sF (sF (sL σ (2 + σ.1 9) (snp σ (σ.2.2 (2 + σ.1 9)))) 9 ((σ.1 9 + 1) % 8)) 10 (min (σ.1 10 + 1) 8)) 0 (va_up (σ.2.1 0) (a * 3 + b) ((σ.2.1 0) (a * 3 + b) &&& (2 ^ c2 ^^^ 4294967295)))) 1 f1_44) 21 0) ++ tl) := hD
    exact hq _ _ _ _ _ _ (f1_44) (Nat.le_of_ble_eq_true rfl) (Nat.le_of_ble_eq_true rfl) dX10_removeTransition_47 ⟨h_3, c_16, h_44⟩ hP hD hS
  · exact hqt _ _ _ _ 19 164 166 168 "java/util/NoSuchElementException" "the transition does not exist" _ () hl.1 dX10_removeTransition_19 dX10_removeTransition_22 dX10_removeTransition_23 dX10_removeTransition_25 dX10_removeTransition_28 ⟨by decide +kernel, by decide +kernel, fun w hw => List.mem_cons_of_mem _ (List.mem_append_left _ (List.mem_append_left _ (List.mem_append_right _ hw))), by decide +kernel, by decide +kernel, by decide +kernel, by decide +kernel, by decide +kernel, Nat.le_of_ble_eq_true rfl, Nat.le_of_ble_eq_true rfl⟩ (Nat.le_of_ble_eq_true rfl) (Nat.le_of_ble_eq_true rfl) (Nat.le_of_ble_eq_true rfl) (Nat.le_of_ble_eq_true rfl) (Or.inr ⟨rfl, ⟨h_3, c_16⟩⟩) hP hD hS

abbrev r_c_X10_setFinal : Room := { frames := 6, cells := 1, slots := 6, locals := 150 }
set_option maxHeartbeats 4000000 in
set_option maxRecDepth 100000 in
theorem c_X10_setFinal (l : Launch) (hflg : l.stackTraces = false) (g : GC) (tl : va_W) (sz : Nat) (σ : SS) (x b : Nat) (hA : OkA σ) (hM : OkM σ) (hx : x < 4294967296) (hb2 : b < 2) : vx_Met l yX10_setFinal wsX10_setFinal r_c_X10_setFinal (va_Pc [.ref (g.2.2.2 0), .int (nI x), .int (nI b)] (PX g (wC g σ ++ tl) sz)) (va_Qi (fun (r : Int32) (f1 : (Nat → Nat)) => (r = nI (if 2 ^ x &&& (σ.1 0) ≠ 0 then 1 else 0)) ∧ (x < 5) ∧ (∀ x, x < 3 → ∀ m, m < 32 → f1 (x * 32 + m) = stp (σ.2.1 0) x m)) (fun (f1 : (Nat → Nat)) t => BW g (va_A (wC g σ ++ tl) sz) (wC g (sF (sA (sF (sF (sF (sL σ (2 + σ.1 9) (snp σ (σ.2.2 (2 + σ.1 9)))) 9 ((σ.1 9 + 1) % 8)) 10 (min (σ.1 10 + 1) 8)) 0 (if b = 0 then (σ.1 0) &&& (2 ^ x ^^^ 4294967295) else (σ.1 0) ||| 2 ^ x)) 1 f1) 21 0) ++ tl) t) (va_A (wC g σ ++ tl) sz)) (XW g (va_A (wC g σ ++ tl) sz) (fun (E : String) (_ : Unit) => (E = "java/lang/IndexOutOfBoundsException" ∧ (¬ x < 5))) (fun _ : Unit => wC g σ ++ tl)) 1 6 (va_A (wC g σ ++ tl) sz) := by
  refine jx_z hflg (wf := fun f1 : (Nat → Nat) => wC g (sF (sA (sF (sF (sF (sL σ (2 + σ.1 9) (snp σ (σ.2.2 (2 + σ.1 9)))) 9 ((σ.1 9 + 1) % 8)) 10 (min (σ.1 10 + 1) 8)) 0 (if b = 0 then (σ.1 0) &&& (2 ^ x ^^^ 4294967295) else (σ.1 0) ||| 2 ^ x)) 1 f1) 21 0) ++ tl) (wx := fun _ : Unit => wC g σ ++ tl) (cc := cX10_setFinal) (maxL := 4) (by decide) rfl rfl (Nat.le_of_ble_eq_true rfl) ?_
  intro p e s m below meth c Q A hx hb hml hown hts hKX hP hD hS hAA hZ hq hqt hqw hqo ls hl
  have hK := hKX.1
  obtain ⟨H, eH⟩ : ∃ z, z = s.heap := ⟨_, rfl⟩
  obtain ⟨locs, el⟩ : ∃ z : List Loc, z = [] := ⟨_, rfl⟩
  rw [← eH] at hP
  have hS : va_S A s.heap H locs := by rw [eH, el]; exact hS
  have goal0 : W p l e r_c_X10_setFinal s m ([.ref (g.2.2.2 0), .int (nI x), .int (nI b)] : List Value).toArray below meth c H locs 0 0 Q (F0 m 0 ls []) → W p l e r_c_X10_setFinal s m ([.ref (g.2.2.2 0), .int (nI x), .int (nI b)] : List Value).toArray below meth c s.heap [] 0 0 Q (F0 m 0 ls []) := fun h => by rw [eH, el] at h; exact h
  refine goal0 ?_
  have hl : lv_has ls 4 [(0, .ref (g.2.2.2 0)), (1, .int (nI x)), (2, .int (nI b))] := hl
  have iX10 : ∀ w ∈ wsX100, w ∈ wsX10_setFinal := by decide +kernel
  have k12 := hts (.fieldLink RX10 12 "JumpingAutomata" "automaton" "LJumpingAutomata$Automaton;") (by decide +kernel)
  refine lv_iload_n hx hb dX10_setFinal_0 rfl (lv_at hl 1 rfl) ?_
  refine vp_callSi (va_Run.run (va_runS (As := [.int (nI x)]) (rest := []) ⟨hx, hb, hml, hown, hts⟩ (c_X10_isState l x (by omega)) (va_cwS 1 hts gX10_setFinal_X10_isState rfl rfl rfl (by decide +kernel) ⟨Nat.le_of_ble_eq_true rfl, Nat.le_of_ble_eq_true rfl⟩) okTS rfl rfl hl.1 rfl (lv_room (Nat.le_of_ble_eq_true rfl)) dX10_setFinal_1 ⟨Nat.le_of_ble_eq_true rfl, Nat.le_of_ble_eq_true rfl⟩)) (fun r_1 h_1 => ?_)
  subst h_1
  refine jn_bne hx hb (tgt := 17) dX10_setFinal_4 (by decide) (fun c_4 => ?_) (fun c_4 => ?_)
  · refine lv_aload_n hx hb dX10_setFinal_17 rfl (lv_at hl 0 rfl) ?_
    refine va_get (D := (g.1, g.2.1)) (ci := 12) (v := .ref (g.2.2.2 1)) (C := RX10) (T := TX10) (N := 15) hx hb hts iX10 hown hK.1 hP 0 (gC0 g σ tl) rfl 0 (by decide) k12 (fun _ h9 => h9) rfl dX10_setFinal_18 ?_
    refine lv_iconst (v := nI 1) hx hb dX10_setFinal_21 (by decide) ?_
    refine lv_iload_n hx hb dX10_setFinal_22 rfl (lv_at hl 1 rfl) ?_
    refine jn_shl1 hx hb (by omega) dX10_setFinal_23 ?_
    refine vp_callSi (va_Run.run (va_runV (As := [.int (nI (2 ^ x))]) (rest := []) ⟨hx, hb, hml, hown, hts⟩ (c_X0_accepting l g tl σ (2 ^ x) hA) (cwV 1 hts gX10_setFinal_X0_accepting rfl rfl rfl (by decide +kernel) ⟨Nat.le_of_ble_eq_true rfl, Nat.le_of_ble_eq_true rfl⟩) (okPV hK hP rfl (gC1 g σ tl)) rfl rfl hl.1 rfl (lv_room (Nat.le_of_ble_eq_true rfl)) dX10_setFinal_24 ⟨Nat.le_of_ble_eq_true rfl, Nat.le_of_ble_eq_true rfl⟩)) (fun r_24 h_24 => ?_)
    subst h_24
    refine lv_istore_n (lv' := [(3, .int (nI (if (2 ^ x) &&& σ.1 0 ≠ 0 then 1 else 0))), (0, .ref (g.2.2.2 0)), (1, .int (nI x)), (2, .int (nI b))]) hx hb dX10_setFinal_27 rfl hl (by decide) rfl (fun ls hl => ?_)
    refine lv_aload_n hx hb dX10_setFinal_28 rfl (lv_at hl 1 rfl) ?_
    refine jn_callv (va_runV (As := []) (rest := []) ⟨hx, hb, hml, hown, hts⟩ (c_X10_beginChange l g tl H.size σ hM) (cwV 0 hts gX10_setFinal_X10_beginChange rfl rfl rfl (by decide +kernel) ⟨Nat.le_of_ble_eq_true rfl, Nat.le_of_ble_eq_true rfl⟩) (okWV hK hP hD rfl (gC0 g σ tl)) rfl rfl hl.1 rfl (lv_room (Nat.le_of_ble_eq_true rfl)) dX10_setFinal_29 ⟨Nat.le_of_ble_eq_true rfl, Nat.le_of_ble_eq_true rfl⟩) hD hS hAA (fun u H locs hw_ hP hD hS => ?_)
    have hP : va_P (g.1, g.2.1) vwCl (wC g (sF (sF (sL σ (2 + σ.1 9) (snp σ (σ.2.2 (2 + σ.1 9)))) 9 ((σ.1 9 + 1) % 8)) 10 (min (σ.1 10 + 1) 8)) ++ tl) H := hP
    have hD : va_D A (wC g (sF (sF (sL σ (2 + σ.1 9) (snp σ (σ.2.2 (2 + σ.1 9)))) 9 ((σ.1 9 + 1) % 8)) 10 (min (σ.1 10 + 1) 8)) ++ tl) := hD
    refine lv_aload_n hx hb dX10_setFinal_32 rfl (lv_at hl 1 rfl) ?_
    refine va_get (D := (g.1, g.2.1)) (ci := 12) (v := .ref (g.2.2.2 1)) (C := RX10) (T := TX10) (N := 15) hx hb hts iX10 hown hK.1 hP 0 (gC0 g (sF (sF (sL σ (2 + σ.1 9) (snp σ (σ.2.2 (2 + σ.1 9)))) 9 ((σ.1 9 + 1) % 8)) 10 (min (σ.1 10 + 1) 8)) tl) rfl 0 (by decide) k12 (fun _ h9 => h9) rfl dX10_setFinal_33 ?_
    refine lv_iload_n hx hb dX10_setFinal_36 rfl (lv_at hl 2 rfl) ?_
    refine lv_iload_n hx hb dX10_setFinal_37 rfl (lv_at hl 3 rfl) ?_
    refine jn_callv (va_runV (As := [.int (nI x), .int (nI b)]) (rest := []) ⟨hx, hb, hml, hown, hts⟩ (c_X0_markFinal l g tl H.size (sF (sF (sL σ (2 + σ.1 9) (snp σ (σ.2.2 (2 + σ.1 9)))) 9 ((σ.1 9 + 1) % 8)) 10 (min (σ.1 10 + 1) 8)) x b (by omega) hb2) (cwV 2 hts gX10_setFinal_X0_markFinal rfl rfl rfl (by decide +kernel) ⟨Nat.le_of_ble_eq_true rfl, Nat.le_of_ble_eq_true rfl⟩) (okWV hK hP hD rfl (gC1 g (sF (sF (sL σ (2 + σ.1 9) (snp σ (σ.2.2 (2 + σ.1 9)))) 9 ((σ.1 9 + 1) % 8)) 10 (min (σ.1 10 + 1) 8)) tl)) rfl rfl hl.1 rfl (lv_room (Nat.le_of_ble_eq_true rfl)) dX10_setFinal_38 ⟨Nat.le_of_ble_eq_true rfl, Nat.le_of_ble_eq_true rfl⟩) hD hS hAA (fun u H locs hw_ hP hD hS => ?_)
    have hP : va_P (g.1, g.2.1) vwCl (wC g (sF (sF (sF (sL σ (2 + σ.1 9) (snp σ (σ.2.2 (2 + σ.1 9)))) 9 ((σ.1 9 + 1) % 8)) 10 (min (σ.1 10 + 1) 8)) 0 (if b = 0 then σ.1 0 &&& (2 ^ x ^^^ 4294967295) else σ.1 0 ||| 2 ^ x)) ++ tl) H := hP
    have hD : va_D A (wC g (sF (sF (sF (sL σ (2 + σ.1 9) (snp σ (σ.2.2 (2 + σ.1 9)))) 9 ((σ.1 9 + 1) % 8)) 10 (min (σ.1 10 + 1) 8)) 0 (if b = 0 then σ.1 0 &&& (2 ^ x ^^^ 4294967295) else σ.1 0 ||| 2 ^ x)) ++ tl) := hD
    refine lv_aload_n hx hb dX10_setFinal_41 rfl (lv_at hl 1 rfl) ?_
    refine jn_callv (va_runV (As := []) (rest := []) ⟨hx, hb, hml, hown, hts⟩ (c_X10_endAutomatonChange l g tl H.size (sF (sF (sF (sL σ (2 + σ.1 9) (snp σ (σ.2.2 (2 + σ.1 9)))) 9 ((σ.1 9 + 1) % 8)) 10 (min (σ.1 10 + 1) 8)) 0 (if b = 0 then σ.1 0 &&& (2 ^ x ^^^ 4294967295) else σ.1 0 ||| 2 ^ x)) hA.1) (cwV 0 hts gX10_setFinal_X10_endAutomatonChange rfl rfl rfl (by decide +kernel) ⟨Nat.le_of_ble_eq_true rfl, Nat.le_of_ble_eq_true rfl⟩) (okWV hK hP hD rfl (gC0 g (sF (sF (sF (sL σ (2 + σ.1 9) (snp σ (σ.2.2 (2 + σ.1 9)))) 9 ((σ.1 9 + 1) % 8)) 10 (min (σ.1 10 + 1) 8)) 0 (if b = 0 then σ.1 0 &&& (2 ^ x ^^^ 4294967295) else σ.1 0 ||| 2 ^ x)) tl)) rfl rfl hl.1 rfl (lv_room (Nat.le_of_ble_eq_true rfl)) dX10_setFinal_42 ⟨Nat.le_of_ble_eq_true rfl, Nat.le_of_ble_eq_true rfl⟩) hD hS hAA (fun u H locs hw_ hP hD hS => ?_)
    obtain ⟨f1_42, rfl⟩ : ∃ z, z = u := ⟨_, rfl⟩
    have h_42 := hw_
    have h_42 : ∀ x, x < 3 → ∀ m, m < 32 → f1_42 (x * 32 + m) = stp (σ.2.1 0) x m := h_42
    have hP : va_P (g.1, g.2.1) vwCl (wC g (sF (sA (sF (sF (sF (sL σ (2 + σ.1 9) (snp σ (σ.2.2 (2 + σ.1 9)))) 9 ((σ.1 9 + 1) % 8)) 10 (min (σ.1 10 + 1) 8)) 0 (if b = 0 then σ.1 0 &&& (2 ^ x ^^^ 4294967295) else σ.1 0 ||| 2 ^ x)) 1 f1_42) 21 0) ++ tl) H := hP
    have hD : va_D A (wC g (sF (sA (sF (sF (sF (sL σ (2 + σ.1 9) (snp σ (σ.2.2 (2 + σ.1 9)))) 9 ((σ.1 9 + 1) % 8)) 10 (min (σ.1 10 + 1) 8)) 0 (if b = 0 then σ.1 0 &&& (2 ^ x ^^^ 4294967295) else σ.1 0 ||| 2 ^ x)) 1 f1_42) 21 0) ++ tl) := hD
    refine lv_iload_n hx hb dX10_setFinal_45 rfl (lv_at hl 0 rfl) ?_
    exact hq _ _ _ _ _ _ ((nI (if (2 ^ x) &&& σ.1 0 ≠ 0 then 1 else 0))) (f1_42) (Nat.le_of_ble_eq_true rfl) (Nat.le_of_ble_eq_true rfl) dX10_setFinal_46 (jn_nb _) ⟨rfl, c_4, h_42⟩ hP hD hS
  · exact hqt _ _ _ _ 7 176 178 180 "java/lang/IndexOutOfBoundsException" "there is no such state" _ () hl.1 dX10_setFinal_7 dX10_setFinal_10 dX10_setFinal_11 dX10_setFinal_13 dX10_setFinal_16 ⟨by decide +kernel, by decide +kernel, fun w hw => List.mem_cons_of_mem _ (List.mem_append_left _ (List.mem_append_right _ hw)), by decide +kernel, by decide +kernel, by decide +kernel, by decide +kernel, by decide +kernel, Nat.le_of_ble_eq_true rfl, Nat.le_of_ble_eq_true rfl⟩ (Nat.le_of_ble_eq_true rfl) (Nat.le_of_ble_eq_true rfl) (Nat.le_of_ble_eq_true rfl) (Nat.le_of_ble_eq_true rfl) ⟨rfl, c_4⟩ hP hD hS

abbrev r_c_X10_transition : Room := { frames := 6, cells := 1, slots := 6, locals := 90 }
set_option maxHeartbeats 4000000 in
set_option maxRecDepth 100000 in
theorem c_X10_transition (l : Launch) (hflg : l.stackTraces = false) (g : GC) (tl : va_W) (sz : Nat) (σ : SS) (idx : Nat) (hA : OkA σ) (hidx : idx < 4294967296) : vx_Met l yX10_transition wsX10_transition r_c_X10_transition (va_Pc [.ref (g.2.2.2 0), .int (nI idx)] (PX g (wC g σ ++ tl) sz)) (va_Qi (fun (r : Int32) (_ : Unit) => (r = nI (cdT (kth (pT (σ.2.1 0)) idx 75))) ∧ (idx < cntT (σ.2.1 0))) (fun (_ : Unit) t => BW g (va_A (wC g σ ++ tl) sz) (wC g σ ++ tl) t) (va_A (wC g σ ++ tl) sz)) (XW g (va_A (wC g σ ++ tl) sz) (fun (E : String) (_ : Unit) => (E = "java/lang/IndexOutOfBoundsException" ∧ (¬ idx < cntT (σ.2.1 0)))) (fun _ : Unit => wC g σ ++ tl)) 1 6 (va_A (wC g σ ++ tl) sz) := by
  refine jx_i hflg (wf := fun _ : Unit => wC g σ ++ tl) (wx := fun _ : Unit => wC g σ ++ tl) (cc := cX10_transition) (maxL := 2) (by decide) rfl rfl (Nat.le_of_ble_eq_true rfl) ?_
  intro p e s m below meth c Q A hx hb hml hown hts hKX hP hD hS hAA hZ hq hqt hqw hqo ls hl
  have hK := hKX.1
  obtain ⟨H, eH⟩ : ∃ z, z = s.heap := ⟨_, rfl⟩
  obtain ⟨locs, el⟩ : ∃ z : List Loc, z = [] := ⟨_, rfl⟩
  rw [← eH] at hP
  have hS : va_S A s.heap H locs := by rw [eH, el]; exact hS
  have goal0 : W p l e r_c_X10_transition s m ([.ref (g.2.2.2 0), .int (nI idx)] : List Value).toArray below meth c H locs 0 0 Q (F0 m 0 ls []) → W p l e r_c_X10_transition s m ([.ref (g.2.2.2 0), .int (nI idx)] : List Value).toArray below meth c s.heap [] 0 0 Q (F0 m 0 ls []) := fun h => by rw [eH, el] at h; exact h
  refine goal0 ?_
  have hl : lv_has ls 2 [(0, .ref (g.2.2.2 0)), (1, .int (nI idx))] := hl
  have iX10 : ∀ w ∈ wsX100, w ∈ wsX10_transition := by decide +kernel
  have k12 := hts (.fieldLink RX10 12 "JumpingAutomata" "automaton" "LJumpingAutomata$Automaton;") (by decide +kernel)
  have hcl := cntT_le hA.1
  have hce := cntT_ct hA.1
  refine lv_iload_n hx hb dX10_transition_0 rfl (lv_at hl 1 rfl) ?_
  refine jn_zlt hx hb (by omega) (tgt := 15) dX10_transition_1 (by decide) (fun c_1 => ?_) (fun c_1 => ?_)
  · exact hqt _ _ _ _ 15 176 191 180 "java/lang/IndexOutOfBoundsException" "there is no such transition" _ () hl.1 dX10_transition_15 dX10_transition_18 dX10_transition_19 dX10_transition_21 dX10_transition_24 ⟨by decide +kernel, by decide +kernel, fun w hw => List.mem_cons_of_mem _ (List.mem_append_left _ (List.mem_append_right _ hw)), by decide +kernel, by decide +kernel, by decide +kernel, by decide +kernel, by decide +kernel, Nat.le_of_ble_eq_true rfl, Nat.le_of_ble_eq_true rfl⟩ (Nat.le_of_ble_eq_true rfl) (Nat.le_of_ble_eq_true rfl) (Nat.le_of_ble_eq_true rfl) (Nat.le_of_ble_eq_true rfl) ⟨rfl, (by omega)⟩ hP hD hS
  · refine lv_iload_n hx hb dX10_transition_4 rfl (lv_at hl 1 rfl) ?_
    refine lv_aload_n hx hb dX10_transition_5 rfl (lv_at hl 0 rfl) ?_
    refine va_get (D := (g.1, g.2.1)) (ci := 12) (v := .ref (g.2.2.2 1)) (C := RX10) (T := TX10) (N := 15) hx hb hts iX10 hown hK.1 hP 0 (gC0 g σ tl) rfl 0 (by decide) k12 (fun _ h9 => h9) rfl dX10_transition_6 ?_
    refine vp_callSi (va_Run.run (va_runV (As := []) (rest := [.int (nI idx)]) ⟨hx, hb, hml, hown, hts⟩ (c_X0_size l g tl σ hA) (cwV 0 hts gX10_transition_X0_size rfl rfl rfl (by decide +kernel) ⟨Nat.le_of_ble_eq_true rfl, Nat.le_of_ble_eq_true rfl⟩) (okPV hK hP rfl (gC1 g σ tl)) rfl rfl hl.1 rfl (lv_room (Nat.le_of_ble_eq_true rfl)) dX10_transition_9 ⟨Nat.le_of_ble_eq_true rfl, Nat.le_of_ble_eq_true rfl⟩)) (fun r_9 h_9 => ?_)
    subst h_9
    refine jn_clt hx hb (by omega) (by omega) (tgt := 25) dX10_transition_12 (by decide) (fun c_12 => ?_) (fun c_12 => ?_)
    · refine lv_aload_n hx hb dX10_transition_25 rfl (lv_at hl 0 rfl) ?_
      refine va_get (D := (g.1, g.2.1)) (ci := 12) (v := .ref (g.2.2.2 1)) (C := RX10) (T := TX10) (N := 15) hx hb hts iX10 hown hK.1 hP 0 (gC0 g σ tl) rfl 0 (by decide) k12 (fun _ h9 => h9) rfl dX10_transition_26 ?_
      refine lv_iload_n hx hb dX10_transition_29 rfl (lv_at hl 1 rfl) ?_
      refine vp_callSi (va_Run.run (va_runV (As := [.int (nI idx)]) (rest := []) ⟨hx, hb, hml, hown, hts⟩ (c_X0_codeAt l g tl σ idx hA (by omega)) (cwV 1 hts gX10_transition_X0_codeAt rfl rfl rfl (by decide +kernel) ⟨Nat.le_of_ble_eq_true rfl, Nat.le_of_ble_eq_true rfl⟩) (okPV hK hP rfl (gC1 g σ tl)) rfl rfl hl.1 rfl (lv_room (Nat.le_of_ble_eq_true rfl)) dX10_transition_30 ⟨Nat.le_of_ble_eq_true rfl, Nat.le_of_ble_eq_true rfl⟩)) (fun r_30 h_30 => ?_)
      subst h_30
      exact hq _ _ _ _ _ _ ((nI (cdT (kth (pT (σ.2.1 0)) idx 75)))) () (Nat.le_of_ble_eq_true rfl) (Nat.le_of_ble_eq_true rfl) dX10_transition_33 ⟨rfl, by omega⟩ hP hD hS
    · exact hqt _ _ _ _ 15 176 191 180 "java/lang/IndexOutOfBoundsException" "there is no such transition" _ () hl.1 dX10_transition_15 dX10_transition_18 dX10_transition_19 dX10_transition_21 dX10_transition_24 ⟨by decide +kernel, by decide +kernel, fun w hw => List.mem_cons_of_mem _ (List.mem_append_left _ (List.mem_append_right _ hw)), by decide +kernel, by decide +kernel, by decide +kernel, by decide +kernel, by decide +kernel, Nat.le_of_ble_eq_true rfl, Nat.le_of_ble_eq_true rfl⟩ (Nat.le_of_ble_eq_true rfl) (Nat.le_of_ble_eq_true rfl) (Nat.le_of_ble_eq_true rfl) (Nat.le_of_ble_eq_true rfl) ⟨rfl, (by omega)⟩ hP hD hS

abbrev r_c_X10_appendLetter : Room := { frames := 6, cells := 1, slots := 6, locals := 82 }
set_option maxHeartbeats 4000000 in
set_option maxRecDepth 100000 in
theorem c_X10_appendLetter (l : Launch) (hflg : l.stackTraces = false) (g : GC) (tl : va_W) (sz : Nat) (σ : SS) (x : Nat) (hw8 : (σ.1 20) ≤ 8) (hx : x < 4294967296) : vx_Met l yX10_appendLetter wsX10_appendLetter r_c_X10_appendLetter (va_Pc [.ref (g.2.2.2 0), .int (nI x)] (PX g (wC g σ ++ tl) sz)) (va_Qi (fun (r : Int32) (_ : Unit) => (r = nI ((σ.1 20) + 1)) ∧ (x < 3) ∧ ((σ.1 20) < 8)) (fun (_ : Unit) t => BW g (va_A (wC g σ ++ tl) sz) (wC g (sF (sF (sA σ 14 (va_up (σ.2.1 14) (σ.1 20) x)) 20 ((σ.1 20) + 1)) 21 0) ++ tl) t) (va_A (wC g σ ++ tl) sz)) (XW g (va_A (wC g σ ++ tl) sz) (fun (E : String) (_ : Unit) => (E = "java/lang/IllegalArgumentException" ∧ (¬ x < 3)) ∨ (E = "java/lang/IllegalStateException" ∧ (x < 3 ∧ 8 ≤ (σ.1 20)))) (fun _ : Unit => wC g σ ++ tl)) 1 6 (va_A (wC g σ ++ tl) sz) := by
  refine jx_i hflg (wf := fun _ : Unit => wC g (sF (sF (sA σ 14 (va_up (σ.2.1 14) (σ.1 20) x)) 20 ((σ.1 20) + 1)) 21 0) ++ tl) (wx := fun _ : Unit => wC g σ ++ tl) (cc := cX10_appendLetter) (maxL := 2) (by decide) rfl rfl (Nat.le_of_ble_eq_true rfl) ?_
  intro p e s m below meth c Q A hx hb hml hown hts hKX hP hD hS hAA hZ hq hqt hqw hqo ls hl
  have hK := hKX.1
  obtain ⟨H, eH⟩ : ∃ z, z = s.heap := ⟨_, rfl⟩
  obtain ⟨locs, el⟩ : ∃ z : List Loc, z = [] := ⟨_, rfl⟩
  rw [← eH] at hP
  have hS : va_S A s.heap H locs := by rw [eH, el]; exact hS
  have goal0 : W p l e r_c_X10_appendLetter s m ([.ref (g.2.2.2 0), .int (nI x)] : List Value).toArray below meth c H locs 0 0 Q (F0 m 0 ls []) → W p l e r_c_X10_appendLetter s m ([.ref (g.2.2.2 0), .int (nI x)] : List Value).toArray below meth c s.heap [] 0 0 Q (F0 m 0 ls []) := fun h => by rw [eH, el] at h; exact h
  refine goal0 ?_
  have hl : lv_has ls 2 [(0, .ref (g.2.2.2 0)), (1, .int (nI x))] := hl
  have iX10 : ∀ w ∈ wsX100, w ∈ wsX10_appendLetter := by decide +kernel
  have k41 := hts (.fieldLink RX10 41 "JumpingAutomata" "wordSize" "I") (by decide +kernel)
  have k37 := hts (.fieldLink RX10 37 "JumpingAutomata" "word" "[I") (by decide +kernel)
  have k93 := hts (.fieldLink RX10 93 "JumpingAutomata" "orderKnown" "Z") (by decide +kernel)
  refine lv_iload_n hx hb dX10_appendLetter_0 rfl (lv_at hl 1 rfl) ?_
  refine vp_callSi (va_Run.run (va_runS (As := [.int (nI x)]) (rest := []) ⟨hx, hb, hml, hown, hts⟩ (c_X10_isLetter l x (by omega)) (va_cwS 1 hts gX10_appendLetter_X10_isLetter rfl rfl rfl (by decide +kernel) ⟨Nat.le_of_ble_eq_true rfl, Nat.le_of_ble_eq_true rfl⟩) okTS rfl rfl hl.1 rfl (lv_room (Nat.le_of_ble_eq_true rfl)) dX10_appendLetter_1 ⟨Nat.le_of_ble_eq_true rfl, Nat.le_of_ble_eq_true rfl⟩)) (fun r_1 h_1 => ?_)
  subst h_1
  refine jn_bne hx hb (tgt := 17) dX10_appendLetter_4 (by decide) (fun c_4 => ?_) (fun c_4 => ?_)
  · refine lv_aload_n hx hb dX10_appendLetter_17 rfl (lv_at hl 0 rfl) ?_
    refine va_get (D := (g.1, g.2.1)) (ci := 12) (v := .int (nI (σ.1 20))) (C := RX10) (T := TX10) (N := 15) hx hb hts iX10 hown hK.1 hP 0 (gC0 g σ tl) rfl 5 (by decide) k41 (fun _ h9 => h9) rfl dX10_appendLetter_18 ?_
    refine jn_zlt hx hb (by omega) (tgt := 33) dX10_appendLetter_21 (by decide) (fun c_21 => absurd c_21 (by omega)) (fun c_21 => ?_)
    refine lv_aload_n hx hb dX10_appendLetter_24 rfl (lv_at hl 0 rfl) ?_
    refine va_get (D := (g.1, g.2.1)) (ci := 12) (v := .int (nI (σ.1 20))) (C := RX10) (T := TX10) (N := 15) hx hb hts iX10 hown hK.1 hP 0 (gC0 g σ tl) rfl 5 (by decide) k41 (fun _ h9 => h9) rfl dX10_appendLetter_25 ?_
    refine lv_bipush (v := nI 8) hx hb dX10_appendLetter_28 (by decide) ?_
    refine jn_clt hx hb (by omega) (by decide) (tgt := 43) dX10_appendLetter_30 (by decide) (fun c_30 => ?_) (fun c_30 => ?_)
    · refine lv_aload_n hx hb dX10_appendLetter_43 rfl (lv_at hl 0 rfl) ?_
      refine va_get (D := (g.1, g.2.1)) (ci := 12) (v := .ref (g.2.2.2 20)) (C := RX10) (T := TX10) (N := 15) hx hb hts iX10 hown hK.1 hP 0 (gC0 g σ tl) rfl 4 (by decide) k37 (fun _ h9 => h9) rfl dX10_appendLetter_44 ?_
      refine lv_aload_n hx hb dX10_appendLetter_47 rfl (lv_at hl 0 rfl) ?_
      refine va_get (D := (g.1, g.2.1)) (ci := 12) (v := .int (nI (σ.1 20))) (C := RX10) (T := TX10) (N := 15) hx hb hts iX10 hown hK.1 hP 0 (gC0 g σ tl) rfl 5 (by decide) k41 (fun _ h9 => h9) rfl dX10_appendLetter_48 ?_
      refine lv_iload_n hx hb dX10_appendLetter_51 rfl (lv_at hl 1 rfl) ?_
      refine jn_iast (f := σ.2.1 14) hx hb hK.1 hP hD hS 20 0 (gC20 g σ tl) rfl (by omega) (Nat.le_of_ble_eq_true rfl) (uC_A14 g σ tl _) dX10_appendLetter_52 (fun H locs hP hD hS => ?_)
      refine lv_aload_n hx hb dX10_appendLetter_53 rfl (lv_at hl 0 rfl) ?_
      refine lv_dup hx hb dX10_appendLetter_54 rfl ?_
      refine va_get (D := (g.1, g.2.1)) (ci := 12) (v := .int (nI (σ.1 20))) (C := RX10) (T := TX10) (N := 15) hx hb hts iX10 hown hK.1 hP 0 (gC0 g (sA σ 14 (va_up (σ.2.1 14) (σ.1 20) x)) tl) rfl 5 (by decide) k41 (fun _ h9 => h9) rfl dX10_appendLetter_55 ?_
      refine lv_iconst (v := nI 1) hx hb dX10_appendLetter_58 (by decide) ?_
      refine jn_iadd hx hb dX10_appendLetter_59 ?_
      refine jn_put (D := (g.1, g.2.1)) (ci := 12) (v := .int (nI ((σ.1 20) + 1))) (ty := .int) (C := RX10) (T := TX10) (N := 15) hx hb hts iX10 tyX10 tyX10_ok nmX10 hown hK.1 hP hD hS 0 (gC0 g (sA σ 14 (va_up (σ.2.1 14) (σ.1 20) x)) tl) rfl 5 (by decide) k41 (fun _ h9 => h9) rfl (by decide +kernel) rfl rfl (Nat.le_of_ble_eq_true rfl) (uC_F20 g (sA σ 14 (va_up (σ.2.1 14) (σ.1 20) x)) tl ((σ.1 20) + 1)) dX10_appendLetter_60 (fun H locs hP hD hS => ?_)
      refine lv_aload_n hx hb dX10_appendLetter_63 rfl (lv_at hl 0 rfl) ?_
      refine lv_iconst (v := nI 0) hx hb dX10_appendLetter_64 (by decide) ?_
      refine jn_put (D := (g.1, g.2.1)) (ci := 12) (v := .int (nI 0)) (ty := .boolean) (C := RX10) (T := TX10) (N := 15) hx hb hts iX10 tyX10 tyX10_ok nmX10 hown hK.1 hP hD hS 0 (gC0 g (sF (sA σ 14 (va_up (σ.2.1 14) (σ.1 20) x)) 20 ((σ.1 20) + 1)) tl) rfl 14 (by decide) k93 (fun _ h9 => h9) rfl (by decide +kernel) jn_n0 jn_f0 (Nat.le_of_ble_eq_true rfl) (uC_F21 g (sF (sA σ 14 (va_up (σ.2.1 14) (σ.1 20) x)) 20 ((σ.1 20) + 1)) tl 0) dX10_appendLetter_65 (fun H locs hP hD hS => ?_)
      refine lv_aload_n hx hb dX10_appendLetter_68 rfl (lv_at hl 0 rfl) ?_
      refine va_get (D := (g.1, g.2.1)) (ci := 12) (v := .int (nI ((σ.1 20) + 1))) (C := RX10) (T := TX10) (N := 15) hx hb hts iX10 hown hK.1 hP 0 (gC0 g (sF (sF (sA σ 14 (va_up (σ.2.1 14) (σ.1 20) x)) 20 ((σ.1 20) + 1)) 21 0) tl) rfl 5 (by decide) k41 (fun _ h9 => h9) rfl dX10_appendLetter_69 ?_
      exact hq _ _ _ _ _ _ ((nI ((σ.1 20) + 1))) () (Nat.le_of_ble_eq_true rfl) (Nat.le_of_ble_eq_true rfl) dX10_appendLetter_72 ⟨rfl, c_4, by omega⟩ hP hD hS
    · exact hqt _ _ _ _ 33 108 207 112 "java/lang/IllegalStateException" "the word has 8 letters" _ () hl.1 dX10_appendLetter_33 dX10_appendLetter_36 dX10_appendLetter_37 dX10_appendLetter_39 dX10_appendLetter_42 ⟨by decide +kernel, by decide +kernel, fun w hw => List.mem_cons_of_mem _ (List.mem_append_left _ (List.mem_append_right _ hw)), by decide +kernel, by decide +kernel, by decide +kernel, by decide +kernel, by decide +kernel, Nat.le_of_ble_eq_true rfl, Nat.le_of_ble_eq_true rfl⟩ (Nat.le_of_ble_eq_true rfl) (Nat.le_of_ble_eq_true rfl) (Nat.le_of_ble_eq_true rfl) (Nat.le_of_ble_eq_true rfl) (Or.inr ⟨rfl, (by omega)⟩) hP hD hS
  · exact hqt _ _ _ _ 7 97 205 101 "java/lang/IllegalArgumentException" "the letter is out of range" _ () hl.1 dX10_appendLetter_7 dX10_appendLetter_10 dX10_appendLetter_11 dX10_appendLetter_13 dX10_appendLetter_16 ⟨by decide +kernel, by decide +kernel, fun w hw => List.mem_cons_of_mem _ (List.mem_append_left _ (List.mem_append_left _ (List.mem_append_right _ hw))), by decide +kernel, by decide +kernel, by decide +kernel, by decide +kernel, by decide +kernel, Nat.le_of_ble_eq_true rfl, Nat.le_of_ble_eq_true rfl⟩ (Nat.le_of_ble_eq_true rfl) (Nat.le_of_ble_eq_true rfl) (Nat.le_of_ble_eq_true rfl) (Nat.le_of_ble_eq_true rfl) (Or.inl ⟨rfl, c_4⟩) hP hD hS

abbrev r_c_X10_letterAt : Room := { frames := 6, cells := 1, slots := 6, locals := 82 }
set_option maxHeartbeats 4000000 in
set_option maxRecDepth 100000 in
theorem c_X10_letterAt (l : Launch) (hflg : l.stackTraces = false) (g : GC) (tl : va_W) (sz : Nat) (σ : SS) (x : Nat) (hw8 : (σ.1 20) ≤ 8) (hx : x < 4294967296) : vx_Met l yX10_letterAt wsX10_letterAt r_c_X10_letterAt (va_Pc [.ref (g.2.2.2 0), .int (nI x)] (PX g (wC g σ ++ tl) sz)) (va_Qi (fun (r : Int32) (_ : Unit) => (r = nI ((σ.2.1 14) x)) ∧ (x < (σ.1 20))) (fun (_ : Unit) t => BW g (va_A (wC g σ ++ tl) sz) (wC g σ ++ tl) t) (va_A (wC g σ ++ tl) sz)) (XW g (va_A (wC g σ ++ tl) sz) (fun (E : String) (_ : Unit) => (E = "java/lang/IndexOutOfBoundsException" ∧ (¬ x < (σ.1 20)))) (fun _ : Unit => wC g σ ++ tl)) 1 6 (va_A (wC g σ ++ tl) sz) := by
  refine jx_i hflg (wf := fun _ : Unit => wC g σ ++ tl) (wx := fun _ : Unit => wC g σ ++ tl) (cc := cX10_letterAt) (maxL := 2) (by decide) rfl rfl (Nat.le_of_ble_eq_true rfl) ?_
  intro p e s m below meth c Q A hx hb hml hown hts hKX hP hD hS hAA hZ hq hqt hqw hqo ls hl
  have hK := hKX.1
  obtain ⟨H, eH⟩ : ∃ z, z = s.heap := ⟨_, rfl⟩
  obtain ⟨locs, el⟩ : ∃ z : List Loc, z = [] := ⟨_, rfl⟩
  rw [← eH] at hP
  have hS : va_S A s.heap H locs := by rw [eH, el]; exact hS
  have goal0 : W p l e r_c_X10_letterAt s m ([.ref (g.2.2.2 0), .int (nI x)] : List Value).toArray below meth c H locs 0 0 Q (F0 m 0 ls []) → W p l e r_c_X10_letterAt s m ([.ref (g.2.2.2 0), .int (nI x)] : List Value).toArray below meth c s.heap [] 0 0 Q (F0 m 0 ls []) := fun h => by rw [eH, el] at h; exact h
  refine goal0 ?_
  have hl : lv_has ls 2 [(0, .ref (g.2.2.2 0)), (1, .int (nI x))] := hl
  have iX10 : ∀ w ∈ wsX100, w ∈ wsX10_letterAt := by decide +kernel
  have k37 := hts (.fieldLink RX10 37 "JumpingAutomata" "word" "[I") (by decide +kernel)
  refine lv_aload_n hx hb dX10_letterAt_0 rfl (lv_at hl 0 rfl) ?_
  refine lv_iload_n hx hb dX10_letterAt_1 rfl (lv_at hl 1 rfl) ?_
  refine vp_callSi (va_Run.run (va_runV (As := [.int (nI x)]) (rest := []) ⟨hx, hb, hml, hown, hts⟩ (c_X10_isPosition l g tl σ x (by omega) hw8) (cwV 1 hts gX10_letterAt_X10_isPosition rfl rfl rfl (by decide +kernel) ⟨Nat.le_of_ble_eq_true rfl, Nat.le_of_ble_eq_true rfl⟩) (okPV hK hP rfl (gC0 g σ tl)) rfl rfl hl.1 rfl (lv_room (Nat.le_of_ble_eq_true rfl)) dX10_letterAt_2 ⟨Nat.le_of_ble_eq_true rfl, Nat.le_of_ble_eq_true rfl⟩)) (fun r_2 h_2 => ?_)
  subst h_2
  refine jn_bne hx hb (tgt := 18) dX10_letterAt_5 (by decide) (fun c_5 => ?_) (fun c_5 => ?_)
  · refine lv_aload_n hx hb dX10_letterAt_18 rfl (lv_at hl 0 rfl) ?_
    refine va_get (D := (g.1, g.2.1)) (ci := 12) (v := .ref (g.2.2.2 20)) (C := RX10) (T := TX10) (N := 15) hx hb hts iX10 hown hK.1 hP 0 (gC0 g σ tl) rfl 4 (by decide) k37 (fun _ h9 => h9) rfl dX10_letterAt_19 ?_
    refine lv_iload_n hx hb dX10_letterAt_22 rfl (lv_at hl 1 rfl) ?_
    refine jn_iald (f := σ.2.1 14) hx hb hK.1 hP 20 0 (gC20 g σ tl) rfl (by omega) (Nat.le_of_ble_eq_true rfl) dX10_letterAt_23 ?_
    exact hq _ _ _ _ _ _ ((nI ((σ.2.1 14) x))) () (Nat.le_of_ble_eq_true rfl) (Nat.le_of_ble_eq_true rfl) dX10_letterAt_24 ⟨rfl, c_5⟩ hP hD hS
  · exact hqt _ _ _ _ 8 176 212 180 "java/lang/IndexOutOfBoundsException" "there is no such position" _ () hl.1 dX10_letterAt_8 dX10_letterAt_11 dX10_letterAt_12 dX10_letterAt_14 dX10_letterAt_17 ⟨by decide +kernel, by decide +kernel, fun w hw => List.mem_cons_of_mem _ (List.mem_append_left _ (List.mem_append_right _ hw)), by decide +kernel, by decide +kernel, by decide +kernel, by decide +kernel, by decide +kernel, Nat.le_of_ble_eq_true rfl, Nat.le_of_ble_eq_true rfl⟩ (Nat.le_of_ble_eq_true rfl) (Nat.le_of_ble_eq_true rfl) (Nat.le_of_ble_eq_true rfl) (Nat.le_of_ble_eq_true rfl) ⟨rfl, c_5⟩ hP hD hS
