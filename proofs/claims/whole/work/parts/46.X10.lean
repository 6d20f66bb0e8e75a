abbrev r_c_X10_requireTransition : Room := { frames := 6, cells := 1, slots := 6, locals := 82 }
set_option maxHeartbeats 4000000 in
set_option maxRecDepth 100000 in
theorem c_X10_requireTransition (l : Launch) (hflg : l.stackTraces = false) (g : GC) (tl : va_W) (sz : Nat) (σ : SS) (a b c2 : Nat) (ha : a < 4294967296) (hb2 : b < 4294967296) (hc : c2 < 4294967296) : vx_Met l yX10_requireTransition wsX10_requireTransition r_c_X10_requireTransition (va_Pc [.int (nI a), .int (nI b), .int (nI c2)] (PX g (wC g σ ++ tl) sz)) (va_Qv (fun (_ : Unit) => a < 5 ∧ b < 3 ∧ c2 < 5) (fun (_ : Unit) t => BW g (va_A (wC g σ ++ tl) sz) (wC g σ ++ tl) t) (va_A (wC g σ ++ tl) sz)) (XW g (va_A (wC g σ ++ tl) sz) (fun (E : String) (_ : Unit) => (E = "java/lang/IndexOutOfBoundsException" ∧ (¬ (a < 5 ∧ b < 3 ∧ c2 < 5)))) (fun _ : Unit => wC g σ ++ tl)) 1 6 (va_A (wC g σ ++ tl) sz) := by
  refine jx_v hflg (wf := fun _ : Unit => wC g σ ++ tl) (wx := fun _ : Unit => wC g σ ++ tl) (cc := cX10_requireTransition) (maxL := 3) (by decide) rfl rfl (Nat.le_of_ble_eq_true rfl) ?_
  intro p e s m below meth c Q A hx hb hml hown hts hKX hP hD hS hAA hZ hq hqt hqw hqo ls hl
  have hK := hKX.1
  obtain ⟨H, eH⟩ : ∃ z, z = s.heap := ⟨_, rfl⟩
  obtain ⟨locs, el⟩ : ∃ z : List Loc, z = [] := ⟨_, rfl⟩
  rw [← eH] at hP
  have hS : va_S A s.heap H locs := by rw [eH, el]; exact hS
  have goal0 : W p l e r_c_X10_requireTransition s m ([.int (nI a), .int (nI b), .int (nI c2)] : List Value).toArray below meth c H locs 0 0 Q (F0 m 0 ls []) → W p l e r_c_X10_requireTransition s m ([.int (nI a), .int (nI b), .int (nI c2)] : List Value).toArray below meth c s.heap [] 0 0 Q (F0 m 0 ls []) := fun h => by rw [eH, el] at h; exact h
  refine goal0 ?_
  have hl : lv_has ls 3 [(0, .int (nI a)), (1, .int (nI b)), (2, .int (nI c2))] := hl
  refine lv_iload_n hx hb dX10_requireTransition_0 rfl (lv_at hl 0 rfl) ?_
  refine lv_iload_n hx hb dX10_requireTransition_1 rfl (lv_at hl 1 rfl) ?_
  refine lv_iload_n hx hb dX10_requireTransition_2 rfl (lv_at hl 2 rfl) ?_
  refine vp_callSi (va_Run.run (va_runS (As := [.int (nI a), .int (nI b), .int (nI c2)]) (rest := []) ⟨hx, hb, hml, hown, hts⟩ (c_X10_isTransition l a b c2 (by omega) (by omega) (by omega)) (va_cwS 3 hts gX10_requireTransition_X10_isTransition rfl rfl rfl (by decide +kernel) ⟨Nat.le_of_ble_eq_true rfl, Nat.le_of_ble_eq_true rfl⟩) okTS rfl rfl hl.1 rfl (lv_room (Nat.le_of_ble_eq_true rfl)) dX10_requireTransition_3 ⟨Nat.le_of_ble_eq_true rfl, Nat.le_of_ble_eq_true rfl⟩)) (fun r_3 h_3 => ?_)
  subst h_3
  refine jn_bne hx hb (tgt := 20) dX10_requireTransition_6 (by decide) (fun c_6 => ?_) (fun c_6 => ?_)
  · exact hq _ _ _ _ _ _ () (Nat.le_of_ble_eq_true rfl) (Nat.le_of_ble_eq_true rfl) dX10_requireTransition_20 c_6 hP hD hS
  · exact hqw _ _ _ _ 9 176 407 180 "java/lang/IndexOutOfBoundsException" "there is no such state or lette\x72" _ () hl.1 dX10_requireTransition_9 dX10_requireTransition_12 dX10_requireTransition_13 dX10_requireTransition_16 dX10_requireTransition_19 ⟨by decide +kernel, by decide +kernel, fun w hw => List.mem_cons_of_mem _ (List.mem_append_right _ hw), by decide +kernel, by decide +kernel, by decide +kernel, by decide +kernel, by decide +kernel, Nat.le_of_ble_eq_true rfl, Nat.le_of_ble_eq_true rfl⟩ (Nat.le_of_ble_eq_true rfl) (Nat.le_of_ble_eq_true rfl) (Nat.le_of_ble_eq_true rfl) (Nat.le_of_ble_eq_true rfl) ⟨rfl, c_6⟩ hP hD hS

abbrev r_c_X10_requireSet : Room := { frames := 6, cells := 1, slots := 6, locals := 82 }
set_option maxHeartbeats 4000000 in
set_option maxRecDepth 100000 in
theorem c_X10_requireSet (l : Launch) (hflg : l.stackTraces = false) (g : GC) (tl : va_W) (sz : Nat) (σ : SS) (x : Nat) (hx : x < 4294967296) : vx_Met l yX10_requireSet wsX10_requireSet r_c_X10_requireSet (va_Pc [.int (nI x)] (PX g (wC g σ ++ tl) sz)) (va_Qv (fun (_ : Unit) => x < 2) (fun (_ : Unit) t => BW g (va_A (wC g σ ++ tl) sz) (wC g σ ++ tl) t) (va_A (wC g σ ++ tl) sz)) (XW g (va_A (wC g σ ++ tl) sz) (fun (E : String) (_ : Unit) => (E = "java/lang/IndexOutOfBoundsException" ∧ (¬ x < 2))) (fun _ : Unit => wC g σ ++ tl)) 1 6 (va_A (wC g σ ++ tl) sz) := by
  refine jx_v hflg (wf := fun _ : Unit => wC g σ ++ tl) (wx := fun _ : Unit => wC g σ ++ tl) (cc := cX10_requireSet) (maxL := 1) (by decide) rfl rfl (Nat.le_of_ble_eq_true rfl) ?_
  intro p e s m below meth c Q A hx hb hml hown hts hKX hP hD hS hAA hZ hq hqt hqw hqo ls hl
  have hK := hKX.1
  obtain ⟨H, eH⟩ : ∃ z, z = s.heap := ⟨_, rfl⟩
  obtain ⟨locs, el⟩ : ∃ z : List Loc, z = [] := ⟨_, rfl⟩
  rw [← eH] at hP
  have hS : va_S A s.heap H locs := by rw [eH, el]; exact hS
  have goal0 : W p l e r_c_X10_requireSet s m ([.int (nI x)] : List Value).toArray below meth c H locs 0 0 Q (F0 m 0 ls []) → W p l e r_c_X10_requireSet s m ([.int (nI x)] : List Value).toArray below meth c s.heap [] 0 0 Q (F0 m 0 ls []) := fun h => by rw [eH, el] at h; exact h
  refine goal0 ?_
  have hl : lv_has ls 1 [(0, .int (nI x))] := hl
  refine lv_iload_n hx hb dX10_requireSet_0 rfl (lv_at hl 0 rfl) ?_
  refine vp_callSi (va_Run.run (va_runS (As := [.int (nI x)]) (rest := []) ⟨hx, hb, hml, hown, hts⟩ (c_X10_isSet l x (by omega)) (va_cwS 1 hts gX10_requireSet_X10_isSet rfl rfl rfl (by decide +kernel) ⟨Nat.le_of_ble_eq_true rfl, Nat.le_of_ble_eq_true rfl⟩) okTS rfl rfl hl.1 rfl (lv_room (Nat.le_of_ble_eq_true rfl)) dX10_requireSet_1 ⟨Nat.le_of_ble_eq_true rfl, Nat.le_of_ble_eq_true rfl⟩)) (fun r_1 h_1 => ?_)
  subst h_1
  refine jn_bne hx hb (tgt := 18) dX10_requireSet_4 (by decide) (fun c_4 => ?_) (fun c_4 => ?_)
  · exact hq _ _ _ _ _ _ () (Nat.le_of_ble_eq_true rfl) (Nat.le_of_ble_eq_true rfl) dX10_requireSet_18 c_4 hP hD hS
  · exact hqw _ _ _ _ 7 176 412 180 "java/lang/IndexOutOfBoundsException" "there is no such counting set" _ () hl.1 dX10_requireSet_7 dX10_requireSet_10 dX10_requireSet_11 dX10_requireSet_14 dX10_requireSet_17 ⟨by decide +kernel, by decide +kernel, fun w hw => List.mem_cons_of_mem _ (List.mem_append_right _ hw), by decide +kernel, by decide +kernel, by decide +kernel, by decide +kernel, by decide +kernel, Nat.le_of_ble_eq_true rfl, Nat.le_of_ble_eq_true rfl⟩ (Nat.le_of_ble_eq_true rfl) (Nat.le_of_ble_eq_true rfl) (Nat.le_of_ble_eq_true rfl) (Nat.le_of_ble_eq_true rfl) ⟨rfl, c_4⟩ hP hD hS

abbrev r_c_X10_requireLinear : Room := { frames := 6, cells := 1, slots := 6, locals := 82 }
set_option maxHeartbeats 4000000 in
set_option maxRecDepth 100000 in
theorem c_X10_requireLinear (l : Launch) (hflg : l.stackTraces = false) (g : GC) (tl : va_W) (sz : Nat) (σ : SS) (s2 ln : Nat) (hC : OkC (σ.2.1 2)) (hs2 : s2 < 4294967296) (hln : ln < 4294967296) : vx_Met l yX10_requireLinear wsX10_requireLinear r_c_X10_requireLinear (va_Pc [.ref (g.2.2.2 0), .int (nI s2), .int (nI ln)] (PX g (wC g σ ++ tl) sz)) (va_Qv (fun (_ : Unit) => s2 < 2 ∧ ln < (σ.2.1 2) (s2 * 21)) (fun (_ : Unit) t => BW g (va_A (wC g σ ++ tl) sz) (wC g σ ++ tl) t) (va_A (wC g σ ++ tl) sz)) (XW g (va_A (wC g σ ++ tl) sz) (fun (E : String) (_ : Unit) => (E = "java/lang/IndexOutOfBoundsException" ∧ (¬ (s2 < 2 ∧ ln < (σ.2.1 2) (s2 * 21))))) (fun _ : Unit => wC g σ ++ tl)) 1 6 (va_A (wC g σ ++ tl) sz) := by
  refine jx_v hflg (wf := fun _ : Unit => wC g σ ++ tl) (wx := fun _ : Unit => wC g σ ++ tl) (cc := cX10_requireLinear) (maxL := 3) (by decide) rfl rfl (Nat.le_of_ble_eq_true rfl) ?_
  intro p e s m below meth c Q A hx hb hml hown hts hKX hP hD hS hAA hZ hq hqt hqw hqo ls hl
  have hK := hKX.1
  obtain ⟨H, eH⟩ : ∃ z, z = s.heap := ⟨_, rfl⟩
  obtain ⟨locs, el⟩ : ∃ z : List Loc, z = [] := ⟨_, rfl⟩
  rw [← eH] at hP
  have hS : va_S A s.heap H locs := by rw [eH, el]; exact hS
  have goal0 : W p l e r_c_X10_requireLinear s m ([.ref (g.2.2.2 0), .int (nI s2), .int (nI ln)] : List Value).toArray below meth c H locs 0 0 Q (F0 m 0 ls []) → W p l e r_c_X10_requireLinear s m ([.ref (g.2.2.2 0), .int (nI s2), .int (nI ln)] : List Value).toArray below meth c s.heap [] 0 0 Q (F0 m 0 ls []) := fun h => by rw [eH, el] at h; exact h
  refine goal0 ?_
  have hl : lv_has ls 3 [(0, .ref (g.2.2.2 0)), (1, .int (nI s2)), (2, .int (nI ln))] := hl
  have iX10 : ∀ w ∈ wsX100, w ∈ wsX10_requireLinear := by decide +kernel
  have k19 := hts (.fieldLink RX10 19 "JumpingAutomata" "sets" "LJumpingAutomata$CountingSets;") (by decide +kernel)
  refine lv_aload_n hx hb dX10_requireLinear_0 rfl (lv_at hl 0 rfl) ?_
  refine va_get (D := (g.1, g.2.1)) (ci := 12) (v := .ref (g.2.2.2 4)) (C := RX10) (T := TX10) (N := 15) hx hb hts iX10 hown hK.1 hP 0 (gC0 g σ tl) rfl 1 (by decide) k19 (fun _ h9 => h9) rfl dX10_requireLinear_1 ?_
  refine lv_iload_n hx hb dX10_requireLinear_4 rfl (lv_at hl 1 rfl) ?_
  refine lv_iload_n hx hb dX10_requireLinear_5 rfl (lv_at hl 2 rfl) ?_
  refine vp_callSi (va_Run.run (va_runV (As := [.int (nI s2), .int (nI ln)]) (rest := []) ⟨hx, hb, hml, hown, hts⟩ (c_X3_hasLinear l g tl σ s2 ln hC hs2 hln) (cwV 2 hts gX10_requireLinear_X3_hasLinear rfl rfl rfl (by decide +kernel) ⟨Nat.le_of_ble_eq_true rfl, Nat.le_of_ble_eq_true rfl⟩) (okPV hK hP rfl (gC4 g σ tl)) rfl rfl hl.1 rfl (lv_room (Nat.le_of_ble_eq_true rfl)) dX10_requireLinear_6 ⟨Nat.le_of_ble_eq_true rfl, Nat.le_of_ble_eq_true rfl⟩)) (fun r_6 h_6 => ?_)
  subst h_6
  refine jn_bne hx hb (tgt := 23) dX10_requireLinear_9 (by decide) (fun c_9 => ?_) (fun c_9 => ?_)
  · exact hq _ _ _ _ _ _ () (Nat.le_of_ble_eq_true rfl) (Nat.le_of_ble_eq_true rfl) dX10_requireLinear_23 c_9 hP hD hS
  · exact hqw _ _ _ _ 12 176 418 180 "java/lang/IndexOutOfBoundsException" "there is no such counting set or linear set" _ () hl.1 dX10_requireLinear_12 dX10_requireLinear_15 dX10_requireLinear_16 dX10_requireLinear_19 dX10_requireLinear_22 ⟨by decide +kernel, by decide +kernel, fun w hw => List.mem_cons_of_mem _ (List.mem_append_left _ (List.mem_append_right _ hw)), by decide +kernel, by decide +kernel, by decide +kernel, by decide +kernel, by decide +kernel, Nat.le_of_ble_eq_true rfl, Nat.le_of_ble_eq_true rfl⟩ (Nat.le_of_ble_eq_true rfl) (Nat.le_of_ble_eq_true rfl) (Nat.le_of_ble_eq_true rfl) (Nat.le_of_ble_eq_true rfl) ⟨rfl, c_9⟩ hP hD hS

abbrev r_c_X10_requireDigits : Room := { frames := 6, cells := 1, slots := 6, locals := 82 }
set_option maxHeartbeats 4000000 in
set_option maxRecDepth 100000 in
theorem c_X10_requireDigits (l : Launch) (hflg : l.stackTraces = false) (g : GC) (tl : va_W) (sz : Nat) (σ : SS) (a b c2 : Nat) (ha : a < 4294967296) (hb2 : b < 4294967296) (hc : c2 < 4294967296) : vx_Met l yX10_requireDigits wsX10_requireDigits r_c_X10_requireDigits (va_Pc [.int (nI a), .int (nI b), .int (nI c2)] (PX g (wC g σ ++ tl) sz)) (va_Qv (fun (_ : Unit) => a < 10 ∧ b < 10 ∧ c2 < 10) (fun (_ : Unit) t => BW g (va_A (wC g σ ++ tl) sz) (wC g σ ++ tl) t) (va_A (wC g σ ++ tl) sz)) (XW g (va_A (wC g σ ++ tl) sz) (fun (E : String) (_ : Unit) => (E = "java/lang/IllegalArgumentException" ∧ (¬ (a < 10 ∧ b < 10 ∧ c2 < 10)))) (fun _ : Unit => wC g σ ++ tl)) 1 6 (va_A (wC g σ ++ tl) sz) := by
  refine jx_v hflg (wf := fun _ : Unit => wC g σ ++ tl) (wx := fun _ : Unit => wC g σ ++ tl) (cc := cX10_requireDigits) (maxL := 3) (by decide) rfl rfl (Nat.le_of_ble_eq_true rfl) ?_
  intro p e s m below meth c Q A hx hb hml hown hts hKX hP hD hS hAA hZ hq hqt hqw hqo ls hl
  have hK := hKX.1
  obtain ⟨H, eH⟩ : ∃ z, z = s.heap := ⟨_, rfl⟩
  obtain ⟨locs, el⟩ : ∃ z : List Loc, z = [] := ⟨_, rfl⟩
  rw [← eH] at hP
  have hS : va_S A s.heap H locs := by rw [eH, el]; exact hS
  have goal0 : W p l e r_c_X10_requireDigits s m ([.int (nI a), .int (nI b), .int (nI c2)] : List Value).toArray below meth c H locs 0 0 Q (F0 m 0 ls []) → W p l e r_c_X10_requireDigits s m ([.int (nI a), .int (nI b), .int (nI c2)] : List Value).toArray below meth c s.heap [] 0 0 Q (F0 m 0 ls []) := fun h => by rw [eH, el] at h; exact h
  refine goal0 ?_
  have hl : lv_has ls 3 [(0, .int (nI a)), (1, .int (nI b)), (2, .int (nI c2))] := hl
  refine lv_iload_n hx hb dX10_requireDigits_0 rfl (lv_at hl 0 rfl) ?_
  refine lv_iload_n hx hb dX10_requireDigits_1 rfl (lv_at hl 1 rfl) ?_
  refine lv_iload_n hx hb dX10_requireDigits_2 rfl (lv_at hl 2 rfl) ?_
  refine vp_callSi (va_Run.run (va_runS (As := [.int (nI a), .int (nI b), .int (nI c2)]) (rest := []) ⟨hx, hb, hml, hown, hts⟩ (c_X10_areDigits l a b c2 (by omega) (by omega) (by omega)) (va_cwS 3 hts gX10_requireDigits_X10_areDigits rfl rfl rfl (by decide +kernel) ⟨Nat.le_of_ble_eq_true rfl, Nat.le_of_ble_eq_true rfl⟩) okTS rfl rfl hl.1 rfl (lv_room (Nat.le_of_ble_eq_true rfl)) dX10_requireDigits_3 ⟨Nat.le_of_ble_eq_true rfl, Nat.le_of_ble_eq_true rfl⟩)) (fun r_3 h_3 => ?_)
  subst h_3
  refine jn_bne hx hb (tgt := 20) dX10_requireDigits_6 (by decide) (fun c_6 => ?_) (fun c_6 => ?_)
  · exact hq _ _ _ _ _ _ () (Nat.le_of_ble_eq_true rfl) (Nat.le_of_ble_eq_true rfl) dX10_requireDigits_20 c_6 hP hD hS
  · exact hqw _ _ _ _ 9 97 420 101 "java/lang/IllegalArgumentException" "a number is out of range" _ () hl.1 dX10_requireDigits_9 dX10_requireDigits_12 dX10_requireDigits_13 dX10_requireDigits_16 dX10_requireDigits_19 ⟨by decide +kernel, by decide +kernel, fun w hw => List.mem_cons_of_mem _ (List.mem_append_right _ hw), by decide +kernel, by decide +kernel, by decide +kernel, by decide +kernel, by decide +kernel, Nat.le_of_ble_eq_true rfl, Nat.le_of_ble_eq_true rfl⟩ (Nat.le_of_ble_eq_true rfl) (Nat.le_of_ble_eq_true rfl) (Nat.le_of_ble_eq_true rfl) (Nat.le_of_ble_eq_true rfl) ⟨rfl, c_6⟩ hP hD hS

abbrev r_c_X10_requireBound : Room := { frames := 6, cells := 1, slots := 6, locals := 82 }
set_option maxHeartbeats 4000000 in
set_option maxRecDepth 100000 in
theorem c_X10_requireBound (l : Launch) (hflg : l.stackTraces = false) (g : GC) (tl : va_W) (sz : Nat) (σ : SS) (x : Nat) (hx : x < 4294967296) : vx_Met l yX10_requireBound wsX10_requireBound r_c_X10_requireBound (va_Pc [.int (nI x)] (PX g (wC g σ ++ tl) sz)) (va_Qv (fun (_ : Unit) => x < 7) (fun (_ : Unit) t => BW g (va_A (wC g σ ++ tl) sz) (wC g σ ++ tl) t) (va_A (wC g σ ++ tl) sz)) (XW g (va_A (wC g σ ++ tl) sz) (fun (E : String) (_ : Unit) => (E = "java/lang/IllegalArgumentException" ∧ (¬ x < 7))) (fun _ : Unit => wC g σ ++ tl)) 1 6 (va_A (wC g σ ++ tl) sz) := by
  refine jx_v hflg (wf := fun _ : Unit => wC g σ ++ tl) (wx := fun _ : Unit => wC g σ ++ tl) (cc := cX10_requireBound) (maxL := 1) (by decide) rfl rfl (Nat.le_of_ble_eq_true rfl) ?_
  intro p e s m below meth c Q A hx hb hml hown hts hKX hP hD hS hAA hZ hq hqt hqw hqo ls hl
  have hK := hKX.1
  obtain ⟨H, eH⟩ : ∃ z, z = s.heap := ⟨_, rfl⟩
  obtain ⟨locs, el⟩ : ∃ z : List Loc, z = [] := ⟨_, rfl⟩
  rw [← eH] at hP
  have hS : va_S A s.heap H locs := by rw [eH, el]; exact hS
  have goal0 : W p l e r_c_X10_requireBound s m ([.int (nI x)] : List Value).toArray below meth c H locs 0 0 Q (F0 m 0 ls []) → W p l e r_c_X10_requireBound s m ([.int (nI x)] : List Value).toArray below meth c s.heap [] 0 0 Q (F0 m 0 ls []) := fun h => by rw [eH, el] at h; exact h
  refine goal0 ?_
  have hl : lv_has ls 1 [(0, .int (nI x))] := hl
  refine lv_iload_n hx hb dX10_requireBound_0 rfl (lv_at hl 0 rfl) ?_
  refine jn_zlt hx hb (by omega) (tgt := 10) dX10_requireBound_1 (by decide) (fun c_1 => ?_) (fun c_1 => ?_)
  · exact hqw _ _ _ _ 10 97 422 101 "java/lang/IllegalArgumentException" "the bound is out of range" _ () hl.1 dX10_requireBound_10 dX10_requireBound_13 dX10_requireBound_14 dX10_requireBound_17 dX10_requireBound_20 ⟨by decide +kernel, by decide +kernel, fun w hw => List.mem_cons_of_mem _ (List.mem_append_right _ hw), by decide +kernel, by decide +kernel, by decide +kernel, by decide +kernel, by decide +kernel, Nat.le_of_ble_eq_true rfl, Nat.le_of_ble_eq_true rfl⟩ (Nat.le_of_ble_eq_true rfl) (Nat.le_of_ble_eq_true rfl) (Nat.le_of_ble_eq_true rfl) (Nat.le_of_ble_eq_true rfl) ⟨rfl, (by omega)⟩ hP hD hS
  · refine lv_iload_n hx hb dX10_requireBound_4 rfl (lv_at hl 0 rfl) ?_
    refine lv_bipush (v := nI 6) hx hb dX10_requireBound_5 (by decide) ?_
    refine jn_cle hx hb (by omega) (by decide) (tgt := 21) dX10_requireBound_7 (by decide) (fun c_7 => ?_) (fun c_7 => ?_)
    · exact hq _ _ _ _ _ _ () (Nat.le_of_ble_eq_true rfl) (Nat.le_of_ble_eq_true rfl) dX10_requireBound_21 (by omega) hP hD hS
    · exact hqw _ _ _ _ 10 97 422 101 "java/lang/IllegalArgumentException" "the bound is out of range" _ () hl.1 dX10_requireBound_10 dX10_requireBound_13 dX10_requireBound_14 dX10_requireBound_17 dX10_requireBound_20 ⟨by decide +kernel, by decide +kernel, fun w hw => List.mem_cons_of_mem _ (List.mem_append_right _ hw), by decide +kernel, by decide +kernel, by decide +kernel, by decide +kernel, by decide +kernel, Nat.le_of_ble_eq_true rfl, Nat.le_of_ble_eq_true rfl⟩ (Nat.le_of_ble_eq_true rfl) (Nat.le_of_ble_eq_true rfl) (Nat.le_of_ble_eq_true rfl) (Nat.le_of_ble_eq_true rfl) ⟨rfl, (by omega)⟩ hP hD hS

abbrev r_c_X10_requireLength : Room := { frames := 6, cells := 1, slots := 6, locals := 82 }
set_option maxHeartbeats 4000000 in
set_option maxRecDepth 100000 in
theorem c_X10_requireLength (l : Launch) (hflg : l.stackTraces = false) (g : GC) (tl : va_W) (sz : Nat) (σ : SS) (x : Nat) (hx : x < 4294967296) : vx_Met l yX10_requireLength wsX10_requireLength r_c_X10_requireLength (va_Pc [.int (nI x)] (PX g (wC g σ ++ tl) sz)) (va_Qv (fun (_ : Unit) => x < 8) (fun (_ : Unit) t => BW g (va_A (wC g σ ++ tl) sz) (wC g σ ++ tl) t) (va_A (wC g σ ++ tl) sz)) (XW g (va_A (wC g σ ++ tl) sz) (fun (E : String) (_ : Unit) => (E = "java/lang/IllegalArgumentException" ∧ (¬ x < 8))) (fun _ : Unit => wC g σ ++ tl)) 1 6 (va_A (wC g σ ++ tl) sz) := by
  refine jx_v hflg (wf := fun _ : Unit => wC g σ ++ tl) (wx := fun _ : Unit => wC g σ ++ tl) (cc := cX10_requireLength) (maxL := 1) (by decide) rfl rfl (Nat.le_of_ble_eq_true rfl) ?_
  intro p e s m below meth c Q A hx hb hml hown hts hKX hP hD hS hAA hZ hq hqt hqw hqo ls hl
  have hK := hKX.1
  obtain ⟨H, eH⟩ : ∃ z, z = s.heap := ⟨_, rfl⟩
  obtain ⟨locs, el⟩ : ∃ z : List Loc, z = [] := ⟨_, rfl⟩
  rw [← eH] at hP
  have hS : va_S A s.heap H locs := by rw [eH, el]; exact hS
  have goal0 : W p l e r_c_X10_requireLength s m ([.int (nI x)] : List Value).toArray below meth c H locs 0 0 Q (F0 m 0 ls []) → W p l e r_c_X10_requireLength s m ([.int (nI x)] : List Value).toArray below meth c s.heap [] 0 0 Q (F0 m 0 ls []) := fun h => by rw [eH, el] at h; exact h
  refine goal0 ?_
  have hl : lv_has ls 1 [(0, .int (nI x))] := hl
  refine lv_iload_n hx hb dX10_requireLength_0 rfl (lv_at hl 0 rfl) ?_
  refine jn_zlt hx hb (by omega) (tgt := 10) dX10_requireLength_1 (by decide) (fun c_1 => ?_) (fun c_1 => ?_)
  · exact hqw _ _ _ _ 10 97 424 101 "java/lang/IllegalArgumentException" "the length is out of range" _ () hl.1 dX10_requireLength_10 dX10_requireLength_13 dX10_requireLength_14 dX10_requireLength_17 dX10_requireLength_20 ⟨by decide +kernel, by decide +kernel, fun w hw => List.mem_cons_of_mem _ (List.mem_append_right _ hw), by decide +kernel, by decide +kernel, by decide +kernel, by decide +kernel, by decide +kernel, Nat.le_of_ble_eq_true rfl, Nat.le_of_ble_eq_true rfl⟩ (Nat.le_of_ble_eq_true rfl) (Nat.le_of_ble_eq_true rfl) (Nat.le_of_ble_eq_true rfl) (Nat.le_of_ble_eq_true rfl) ⟨rfl, (by omega)⟩ hP hD hS
  · refine lv_iload_n hx hb dX10_requireLength_4 rfl (lv_at hl 0 rfl) ?_
    refine lv_bipush (v := nI 7) hx hb dX10_requireLength_5 (by decide) ?_
    refine jn_cle hx hb (by omega) (by decide) (tgt := 21) dX10_requireLength_7 (by decide) (fun c_7 => ?_) (fun c_7 => ?_)
    · exact hq _ _ _ _ _ _ () (Nat.le_of_ble_eq_true rfl) (Nat.le_of_ble_eq_true rfl) dX10_requireLength_21 (by omega) hP hD hS
    · exact hqw _ _ _ _ 10 97 424 101 "java/lang/IllegalArgumentException" "the length is out of range" _ () hl.1 dX10_requireLength_10 dX10_requireLength_13 dX10_requireLength_14 dX10_requireLength_17 dX10_requireLength_20 ⟨by decide +kernel, by decide +kernel, fun w hw => List.mem_cons_of_mem _ (List.mem_append_right _ hw), by decide +kernel, by decide +kernel, by decide +kernel, by decide +kernel, by decide +kernel, Nat.le_of_ble_eq_true rfl, Nat.le_of_ble_eq_true rfl⟩ (Nat.le_of_ble_eq_true rfl) (Nat.le_of_ble_eq_true rfl) (Nat.le_of_ble_eq_true rfl) (Nat.le_of_ble_eq_true rfl) ⟨rfl, (by omega)⟩ hP hD hS

abbrev r_c_X10_requireMode : Room := { frames := 6, cells := 1, slots := 6, locals := 82 }
set_option maxHeartbeats 4000000 in
set_option maxRecDepth 100000 in
theorem c_X10_requireMode (l : Launch) (hflg : l.stackTraces = false) (g : GC) (tl : va_W) (sz : Nat) (σ : SS) (x : Nat) (hx : x < 4294967296) : vx_Met l yX10_requireMode wsX10_requireMode r_c_X10_requireMode (va_Pc [.int (nI x)] (PX g (wC g σ ++ tl) sz)) (va_Qv (fun (_ : Unit) => x < 3) (fun (_ : Unit) t => BW g (va_A (wC g σ ++ tl) sz) (wC g σ ++ tl) t) (va_A (wC g σ ++ tl) sz)) (XW g (va_A (wC g σ ++ tl) sz) (fun (E : String) (_ : Unit) => (E = "java/lang/IllegalArgumentException" ∧ (¬ x < 3))) (fun _ : Unit => wC g σ ++ tl)) 1 6 (va_A (wC g σ ++ tl) sz) := by
  refine jx_v hflg (wf := fun _ : Unit => wC g σ ++ tl) (wx := fun _ : Unit => wC g σ ++ tl) (cc := cX10_requireMode) (maxL := 1) (by decide) rfl rfl (Nat.le_of_ble_eq_true rfl) ?_
  intro p e s m below meth c Q A hx hb hml hown hts hKX hP hD hS hAA hZ hq hqt hqw hqo ls hl
  have hK := hKX.1
  obtain ⟨H, eH⟩ : ∃ z, z = s.heap := ⟨_, rfl⟩
  obtain ⟨locs, el⟩ : ∃ z : List Loc, z = [] := ⟨_, rfl⟩
  rw [← eH] at hP
  have hS : va_S A s.heap H locs := by rw [eH, el]; exact hS
  have goal0 : W p l e r_c_X10_requireMode s m ([.int (nI x)] : List Value).toArray below meth c H locs 0 0 Q (F0 m 0 ls []) → W p l e r_c_X10_requireMode s m ([.int (nI x)] : List Value).toArray below meth c s.heap [] 0 0 Q (F0 m 0 ls []) := fun h => by rw [eH, el] at h; exact h
  refine goal0 ?_
  have hl : lv_has ls 1 [(0, .int (nI x))] := hl
  refine lv_iload_n hx hb dX10_requireMode_0 rfl (lv_at hl 0 rfl) ?_
  refine jn_zlt hx hb (by omega) (tgt := 9) dX10_requireMode_1 (by decide) (fun c_1 => ?_) (fun c_1 => ?_)
  · exact hqw _ _ _ _ 9 97 426 101 "java/lang/IllegalArgumentException" "the mode is out of range" _ () hl.1 dX10_requireMode_9 dX10_requireMode_12 dX10_requireMode_13 dX10_requireMode_16 dX10_requireMode_19 ⟨by decide +kernel, by decide +kernel, fun w hw => List.mem_cons_of_mem _ (List.mem_append_right _ hw), by decide +kernel, by decide +kernel, by decide +kernel, by decide +kernel, by decide +kernel, Nat.le_of_ble_eq_true rfl, Nat.le_of_ble_eq_true rfl⟩ (Nat.le_of_ble_eq_true rfl) (Nat.le_of_ble_eq_true rfl) (Nat.le_of_ble_eq_true rfl) (Nat.le_of_ble_eq_true rfl) ⟨rfl, (by omega)⟩ hP hD hS
  · refine lv_iload_n hx hb dX10_requireMode_4 rfl (lv_at hl 0 rfl) ?_
    refine lv_iconst (v := nI 2) hx hb dX10_requireMode_5 (by decide) ?_
    refine jn_cle hx hb (by omega) (by decide) (tgt := 20) dX10_requireMode_6 (by decide) (fun c_6 => ?_) (fun c_6 => ?_)
    · exact hq _ _ _ _ _ _ () (Nat.le_of_ble_eq_true rfl) (Nat.le_of_ble_eq_true rfl) dX10_requireMode_20 (by omega) hP hD hS
    · exact hqw _ _ _ _ 9 97 426 101 "java/lang/IllegalArgumentException" "the mode is out of range" _ () hl.1 dX10_requireMode_9 dX10_requireMode_12 dX10_requireMode_13 dX10_requireMode_16 dX10_requireMode_19 ⟨by decide +kernel, by decide +kernel, fun w hw => List.mem_cons_of_mem _ (List.mem_append_right _ hw), by decide +kernel, by decide +kernel, by decide +kernel, by decide +kernel, by decide +kernel, Nat.le_of_ble_eq_true rfl, Nat.le_of_ble_eq_true rfl⟩ (Nat.le_of_ble_eq_true rfl) (Nat.le_of_ble_eq_true rfl) (Nat.le_of_ble_eq_true rfl) (Nat.le_of_ble_eq_true rfl) ⟨rfl, (by omega)⟩ hP hD hS

abbrev r_c_X10_requireSingleTargets : Room := { frames := 6, cells := 1, slots := 6, locals := 82 }
set_option maxHeartbeats 4000000 in
set_option maxRecDepth 100000 in
theorem c_X10_requireSingleTargets (l : Launch) (hflg : l.stackTraces = false) (g : GC) (tl : va_W) (sz : Nat) (σ : SS) (hA : OkA σ) : vx_Met l yX10_requireSingleTargets wsX10_requireSingleTargets r_c_X10_requireSingleTargets (va_Pc [.ref (g.2.2.2 0)] (PX g (wC g σ ++ tl) sz)) (va_Qv (fun (_ : Unit) => detT (σ.2.1 0)) (fun (_ : Unit) t => BW g (va_A (wC g σ ++ tl) sz) (wC g σ ++ tl) t) (va_A (wC g σ ++ tl) sz)) (XW g (va_A (wC g σ ++ tl) sz) (fun (E : String) (_ : Unit) => (E = "java/lang/UnsupportedOperationException" ∧ (¬ detT (σ.2.1 0)))) (fun _ : Unit => wC g σ ++ tl)) 1 6 (va_A (wC g σ ++ tl) sz) := by
  refine jx_v hflg (wf := fun _ : Unit => wC g σ ++ tl) (wx := fun _ : Unit => wC g σ ++ tl) (cc := cX10_requireSingleTargets) (maxL := 1) (by decide) rfl rfl (Nat.le_of_ble_eq_true rfl) ?_
  intro p e s m below meth c Q A hx hb hml hown hts hKX hP hD hS hAA hZ hq hqt hqw hqo ls hl
  have hK := hKX.1
  obtain ⟨H, eH⟩ : ∃ z, z = s.heap := ⟨_, rfl⟩
  obtain ⟨locs, el⟩ : ∃ z : List Loc, z = [] := ⟨_, rfl⟩
  rw [← eH] at hP
  have hS : va_S A s.heap H locs := by rw [eH, el]; exact hS
  have goal0 : W p l e r_c_X10_requireSingleTargets s m ([.ref (g.2.2.2 0)] : List Value).toArray below meth c H locs 0 0 Q (F0 m 0 ls []) → W p l e r_c_X10_requireSingleTargets s m ([.ref (g.2.2.2 0)] : List Value).toArray below meth c s.heap [] 0 0 Q (F0 m 0 ls []) := fun h => by rw [eH, el] at h; exact h
  refine goal0 ?_
  have hl : lv_has ls 1 [(0, .ref (g.2.2.2 0))] := hl
  have iX10 : ∀ w ∈ wsX100, w ∈ wsX10_requireSingleTargets := by decide +kernel
  have k12 := hts (.fieldLink RX10 12 "JumpingAutomata" "automaton" "LJumpingAutomata$Automaton;") (by decide +kernel)
  refine lv_aload_n hx hb dX10_requireSingleTargets_0 rfl (lv_at hl 0 rfl) ?_
  refine va_get (D := (g.1, g.2.1)) (ci := 12) (v := .ref (g.2.2.2 1)) (C := RX10) (T := TX10) (N := 15) hx hb hts iX10 hown hK.1 hP 0 (gC0 g σ tl) rfl 0 (by decide) k12 (fun _ h9 => h9) rfl dX10_requireSingleTargets_1 ?_
  refine vp_callSi (va_Run.run (va_runV (As := []) (rest := []) ⟨hx, hb, hml, hown, hts⟩ (c_X0_hasSingleTargets l g tl σ hA) (cwV 0 hts gX10_requireSingleTargets_X0_hasSingleTargets rfl rfl rfl (by decide +kernel) ⟨Nat.le_of_ble_eq_true rfl, Nat.le_of_ble_eq_true rfl⟩) (okPV hK hP rfl (gC1 g σ tl)) rfl rfl hl.1 rfl (lv_room (Nat.le_of_ble_eq_true rfl)) dX10_requireSingleTargets_4 ⟨Nat.le_of_ble_eq_true rfl, Nat.le_of_ble_eq_true rfl⟩)) (fun r_4 h_4 => ?_)
  subst h_4
  refine jn_bne hx hb (tgt := 21) dX10_requireSingleTargets_7 (by decide) (fun c_7 => ?_) (fun c_7 => ?_)
  · exact hq _ _ _ _ _ _ () (Nat.le_of_ble_eq_true rfl) (Nat.le_of_ble_eq_true rfl) dX10_requireSingleTargets_21 c_7 hP hD hS
  · exact hqw _ _ _ _ 10 428 430 432 "java/lang/UnsupportedOperationException" "the automaton is not deterministic" _ () hl.1 dX10_requireSingleTargets_10 dX10_requireSingleTargets_13 dX10_requireSingleTargets_14 dX10_requireSingleTargets_17 dX10_requireSingleTargets_20 ⟨by decide +kernel, by decide +kernel, fun w hw => List.mem_cons_of_mem _ (List.mem_append_left _ (List.mem_append_right _ hw)), by decide +kernel, by decide +kernel, by decide +kernel, by decide +kernel, by decide +kernel, Nat.le_of_ble_eq_true rfl, Nat.le_of_ble_eq_true rfl⟩ (Nat.le_of_ble_eq_true rfl) (Nat.le_of_ble_eq_true rfl) (Nat.le_of_ble_eq_true rfl) (Nat.le_of_ble_eq_true rfl) ⟨rfl, c_7⟩ hP hD hS

abbrev r_c_X10_requireReadable : Room := { frames := 7, cells := 1, slots := 6, locals := 102 }
set_option maxHeartbeats 4000000 in
set_option maxRecDepth 100000 in
theorem c_X10_requireReadable (l : Launch) (hflg : l.stackTraces = false) (g : GC) (tl : va_W) (sz : Nat) (σ : SS) (x : Nat) (hA : OkA σ) (hx : x < 3) : vx_Met l yX10_requireReadable wsX10_requireReadable r_c_X10_requireReadable (va_Pc [.ref (g.2.2.2 0), .int (nI x)] (PX g (wC g σ ++ tl) sz)) (va_Qv (fun (_ : Unit) => x = 2 → detT (σ.2.1 0)) (fun (_ : Unit) t => BW g (va_A (wC g σ ++ tl) sz) (wC g σ ++ tl) t) (va_A (wC g σ ++ tl) sz)) (XW g (va_A (wC g σ ++ tl) sz) (fun (E : String) (_ : Unit) => (E = "java/lang/UnsupportedOperationException" ∧ (x = 2 ∧ ¬ detT (σ.2.1 0)))) (fun _ : Unit => wC g σ ++ tl)) 1 6 (va_A (wC g σ ++ tl) sz) := by
  refine jx_v hflg (wf := fun _ : Unit => wC g σ ++ tl) (wx := fun _ : Unit => wC g σ ++ tl) (cc := cX10_requireReadable) (maxL := 2) (by decide) rfl rfl (Nat.le_of_ble_eq_true rfl) ?_
  intro p e s m below meth c Q A hx hb hml hown hts hKX hP hD hS hAA hZ hq hqt hqw hqo ls hl
  have hK := hKX.1
  obtain ⟨H, eH⟩ : ∃ z, z = s.heap := ⟨_, rfl⟩
  obtain ⟨locs, el⟩ : ∃ z : List Loc, z = [] := ⟨_, rfl⟩
  rw [← eH] at hP
  have hS : va_S A s.heap H locs := by rw [eH, el]; exact hS
  have goal0 : W p l e r_c_X10_requireReadable s m ([.ref (g.2.2.2 0), .int (nI x)] : List Value).toArray below meth c H locs 0 0 Q (F0 m 0 ls []) → W p l e r_c_X10_requireReadable s m ([.ref (g.2.2.2 0), .int (nI x)] : List Value).toArray below meth c s.heap [] 0 0 Q (F0 m 0 ls []) := fun h => by rw [eH, el] at h; exact h
  refine goal0 ?_
  have hl : lv_has ls 2 [(0, .ref (g.2.2.2 0)), (1, .int (nI x))] := hl
  refine lv_iload_n hx hb dX10_requireReadable_0 rfl (lv_at hl 1 rfl) ?_
  refine lv_iconst (v := nI 2) hx hb dX10_requireReadable_1 (by decide) ?_
  refine jn_cne hx hb (by omega) (by decide) (tgt := 9) dX10_requireReadable_2 (by decide) (fun c_2 => ?_) (fun c_2 => ?_)
  · exact hq _ _ _ _ _ _ () (Nat.le_of_ble_eq_true rfl) (Nat.le_of_ble_eq_true rfl) dX10_requireReadable_9 (by first | exact fun _ => h_6 | exact fun q => absurd q c_2) hP hD hS
  · refine lv_aload_n hx hb dX10_requireReadable_5 rfl (lv_at hl 0 rfl) ?_
    refine jx_callv (vx_runV (As := []) (rest := []) ⟨hx, hb, hml, hown, hts⟩ (c_X10_requireSingleTargets l hflg g tl H.size σ hA) (cwV 0 hts gX10_requireReadable_X10_requireSingleTargets rfl rfl rfl (by decide +kernel) ⟨Nat.le_of_ble_eq_true rfl, Nat.le_of_ble_eq_true rfl⟩) (okXV hKX hP hD hZ hS hAA rfl (gC0 g σ tl)) rfl rfl hl.1 rfl (lv_room (Nat.le_of_ble_eq_true rfl)) dX10_requireReadable_6 ⟨Nat.le_of_ble_eq_true rfl, Nat.le_of_ble_eq_true rfl⟩) hD hS hAA (fun E ce q9 u H locs hxp hP hD hS h7 h8 h9 => ?_) (fun u H locs hw_ hP hD hS => ?_)
    · have hxp : (E = "java/lang/UnsupportedOperationException" ∧ (¬ detT (σ.2.1 0))) := hxp
      rcases hxp with ⟨eE, hc⟩
      · exact hqo _ _ _ _ _ _ _ _ _ _ () (Nat.le_of_ble_eq_true rfl) (Nat.le_of_ble_eq_true rfl) h7 h8 h9 ⟨eE, ⟨by omega, hc⟩⟩ hP hD hS
    have h_6 := hw_
    have h_6 : detT (σ.2.1 0) := h_6
    have hP : va_P (g.1, g.2.1) vwCl (wC g σ ++ tl) H := hP
    have hD : va_D A (wC g σ ++ tl) := hD
    exact hq _ _ _ _ _ _ () (Nat.le_of_ble_eq_true rfl) (Nat.le_of_ble_eq_true rfl) dX10_requireReadable_9 (by first | exact fun _ => h_6 | exact fun q => absurd q c_2) hP hD hS
