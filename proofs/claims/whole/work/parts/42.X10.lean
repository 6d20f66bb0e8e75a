abbrev r_c_X10_requireSet : Room := { frames := 6, cells := 1, slots := 6, locals := 82 }
set_option maxHeartbeats 4000000 in
set_option maxRecDepth 100000 in
theorem c_X10_requireSet (l : Launch) (hflg : l.stackTraces = false) (g : GC) (tl : va_W) (sz : Nat) (σ : SS) (x : Nat) (hx : x < 4294967296) : vx_Met l yX10_requireSet wsX10_requireSet r_c_X10_requireSet (va_Pc [.int (nI x)] (PX g (wC g σ ++ tl) sz)) (va_Qv (fun (_ : Unit) => x < 2) (fun (_ : Unit) t => BW g (va_A (wC g σ ++ tl) sz) (wC g σ ++ tl) t) (va_A (wC g σ ++ tl) sz)) (XW g (va_A (wC g σ ++ tl) sz) (fun (E : String) (_ : Unit) => (E = "java/lang/IndexOutOfBoundsException" ∧ (¬ x < 2))) (fun _ : Unit => wC g σ ++ tl)) 1 6 (va_A (wC g σ ++ tl) sz) := by
  refine jx_v hflg (wf := fun _ : Unit => wC g σ ++ tl) (wx := fun _ : Unit => wC g σ ++ tl) (cc := cX10_requireSet) (maxL := 1) (by decide) rfl rfl (Nat.le_of_ble_eq_true rfl) ?_
  intro p e s m below meth c Q A hx hb hml hown hts hKX hP hD hS hAA hZ hq hqt hqw hqo ls hl
  have hK := hKX.1
  obtain ⟨H, eH⟩ : ∃ z, z = s.heap := ⟨_, rfl⟩
  obtain ⟨locs, el⟩ : ∃ z : List Loc, z = [] := ⟨_, rfl⟩
  rw [← eH] at hP
  have hS : va_S A s.heap H locs := by rw [eH, el]; exact hS
  have goal0 : W p l e r_c_X10_requireSet s m ([.int (nI x)] : List Value).toArray below meth c H locs 0 0 Q (F0 m 0 ls []) → W p l e r_c_X10_requireSet s m ([.int (nI x)] : List Value).toArray below meth c s.heap [] 0 0 Q (F0 m 0 ls []) := fun h => by rw [eH, el] at h; exact h
  refine goal0 ?_
  have hl : lv_has ls 1 [(0, .int (nI x))] := hl
  refine lv_iload_n hx hb dX10_requireSet_0 rfl (lv_at hl 0 rfl) ?_
  refine vp_callSi (va_Run.run (va_runS (As := [.int (nI x)]) (rest := []) ⟨hx, hb, hml, hown, hts⟩ (c_X10_isSet l x (by omega)) (va_cwS 1 hts gX10_requireSet_X10_isSet rfl rfl rfl (by decide +kernel) ⟨Nat.le_of_ble_eq_true rfl, Nat.le_of_ble_eq_true rfl⟩) okTS rfl rfl hl.1 rfl (lv_room (Nat.le_of_ble_eq_true rfl)) dX10_requireSet_1 ⟨Nat.le_of_ble_eq_true rfl, Nat.le_of_ble_eq_true rfl⟩)) (fun r_1 h_1 => ?_)
  subst h_1
  refine jn_bne hx hb (tgt := 18) dX10_requireSet_4 (by decide) (fun c_4 => ?_) (fun c_4 => ?_)
  · exact hq _ _ _ _ _ _ () (Nat.le_of_ble_eq_true rfl) (Nat.le_of_ble_eq_true rfl) dX10_requireSet_18 c_4 hP hD hS
  · exact hqw _ _ _ _ 7 176 412 180 "java/lang/IndexOutOfBoundsException" "there is no such counting set" _ () hl.1 dX10_requireSet_7 dX10_requireSet_10 dX10_requireSet_11 dX10_requireSet_14 dX10_requireSet_17 ⟨by decide +kernel, by decide +kernel, fun w hw => List.mem_cons_of_mem _ (List.mem_append_right _ hw), by decide +kernel, by decide +kernel, by decide +kernel, by decide +kernel, by decide +kernel, Nat.le_of_ble_eq_true rfl, Nat.le_of_ble_eq_true rfl⟩ (Nat.le_of_ble_eq_true rfl) (Nat.le_of_ble_eq_true rfl) (Nat.le_of_ble_eq_true rfl) (Nat.le_of_ble_eq_true rfl) ⟨rfl, c_4⟩ hP hD hS

abbrev r_c_X10_requireMode : Room := { frames := 6, cells := 1, slots := 6, locals := 82 }
set_option maxHeartbeats 4000000 in
set_option maxRecDepth 100000 in
theorem c_X10_requireMode (l : Launch) (hflg : l.stackTraces = false) (g : GC) (tl : va_W) (sz : Nat) (σ : SS) (x : Nat) (hx : x < 4294967296) : vx_Met l yX10_requireMode wsX10_requireMode r_c_X10_requireMode (va_Pc [.int (nI x)] (PX g (wC g σ ++ tl) sz)) (va_Qv (fun (_ : Unit) => x < 3) (fun (_ : Unit) t => BW g (va_A (wC g σ ++ tl) sz) (wC g σ ++ tl) t) (va_A (wC g σ ++ tl) sz)) (XW g (va_A (wC g σ ++ tl) sz) (fun (E : String) (_ : Unit) => (E = "java/lang/IllegalArgumentException" ∧ (¬ x < 3))) (fun _ : Unit => wC g σ ++ tl)) 1 6 (va_A (wC g σ ++ tl) sz) := by
  refine jx_v hflg (wf := fun _ : Unit => wC g σ ++ tl) (wx := fun _ : Unit => wC g σ ++ tl) (cc := cX10_requireMode) (maxL := 1) (by decide) rfl rfl (Nat.le_of_ble_eq_true rfl) ?_
  intro p e s m below meth c Q A hx hb hml hown hts hKX hP hD hS hAA hZ hq hqt hqw hqo ls hl
  have hK := hKX.1
  obtain ⟨H, eH⟩ : ∃ z, z = s.heap := ⟨_, rfl⟩
  obtain ⟨locs, el⟩ : ∃ z : List Loc, z = [] := ⟨_, rfl⟩
  rw [← eH] at hP
  have hS : va_S A s.heap H locs := by rw [eH, el]; exact hS
  have goal0 : W p l e r_c_X10_requireMode s m ([.int (nI x)] : List Value).toArray below meth c H locs 0 0 Q (F0 m 0 ls []) → W p l e r_c_X10_requireMode s m ([.int (nI x)] : List Value).toArray below meth c s.heap [] 0 0 Q (F0 m 0 ls []) := fun h => by rw [eH, el] at h; exact h
  refine goal0 ?_
  have hl : lv_has ls 1 [(0, .int (nI x))] := hl
  refine lv_iload_n hx hb dX10_requireMode_0 rfl (lv_at hl 0 rfl) ?_
  refine jn_zlt hx hb (by omega) (tgt := 9) dX10_requireMode_1 (by decide) (fun c_1 => ?_) (fun c_1 => ?_)
  · exact hqw _ _ _ _ 9 97 426 101 "java/lang/IllegalArgumentException" "the mode is out of range" _ () hl.1 dX10_requireMode_9 dX10_requireMode_12 dX10_requireMode_13 dX10_requireMode_16 dX10_requireMode_19 ⟨by decide +kernel, by decide +kernel, fun w hw => List.mem_cons_of_mem _ (List.mem_append_right _ hw), by decide +kernel, by decide +kernel, by decide +kernel, by decide +kernel, by decide +kernel, Nat.le_of_ble_eq_true rfl, Nat.le_of_ble_eq_true rfl⟩ (Nat.le_of_ble_eq_true rfl) (Nat.le_of_ble_eq_true rfl) (Nat.le_of_ble_eq_true rfl) (Nat.le_of_ble_eq_true rfl) ⟨rfl, (by omega)⟩ hP hD hS
  · refine lv_iload_n hx hb dX10_requireMode_4 rfl (lv_at hl 0 rfl) ?_
    refine lv_iconst (v := nI 2) hx hb dX10_requireMode_5 (by decide) ?_
    refine jn_cle hx hb (by omega) (by decide) (tgt := 20) dX10_requireMode_6 (by decide) (fun c_6 => ?_) (fun c_6 => ?_)
    · exact hq _ _ _ _ _ _ () (Nat.le_of_ble_eq_true rfl) (Nat.le_of_ble_eq_true rfl) dX10_requireMode_20 (by omega) hP hD hS
    · exact hqw _ _ _ _ 9 97 426 101 "java/lang/IllegalArgumentException" "the mode is out of range" _ () hl.1 dX10_requireMode_9 dX10_requireMode_12 dX10_requireMode_13 dX10_requireMode_16 dX10_requireMode_19 ⟨by decide +kernel, by decide +kernel, fun w hw => List.mem_cons_of_mem _ (List.mem_append_right _ hw), by decide +kernel, by decide +kernel, by decide +kernel, by decide +kernel, by decide +kernel, Nat.le_of_ble_eq_true rfl, Nat.le_of_ble_eq_true rfl⟩ (Nat.le_of_ble_eq_true rfl) (Nat.le_of_ble_eq_true rfl) (Nat.le_of_ble_eq_true rfl) (Nat.le_of_ble_eq_true rfl) ⟨rfl, (by omega)⟩ hP hD hS
