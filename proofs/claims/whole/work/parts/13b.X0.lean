abbrev r_c_X0_put : Room := { frames := 2, cells := 0, slots := 0, locals := 42 }
set_option maxHeartbeats 4000000 in
set_option maxRecDepth 100000 in
theorem c_X0_put (l : Launch) (g : GC) (tl : va_W) (sz : Nat) (σ : SS) (x y z : Nat) (hx : x < 5) (hy : y < 3) (hz : z < 5) : Met l yX0_put wsX0_put r_c_X0_put (va_Pc [.ref (g.2.2.2 1), .int (nI x), .int (nI y), .int (nI z)] (PW g (wC g σ ++ tl) sz)) (va_Qv (fun (_ : Unit) => True) (fun (_ : Unit) t => BW g (va_A (wC g σ ++ tl) sz) (wC g (sA σ 0 (va_up (σ.2.1 0) (x * 3 + y) ((σ.2.1 0) (x * 3 + y) ||| 2 ^ z))) ++ tl) t) (va_A (wC g σ ++ tl) sz)) 0 0 (va_A (wC g σ ++ tl) sz) := by
  refine jn_sv (wf := fun _ : Unit => wC g (sA σ 0 (va_up (σ.2.1 0) (x * 3 + y) ((σ.2.1 0) (x * 3 + y) ||| 2 ^ z))) ++ tl) (cc := cX0_put) (maxL := 4) (own := RX0) (by decide) rfl rfl (Nat.le_of_ble_eq_true rfl) ?_
  intro p e s m below meth c Q A hx hb hml hown hts hK hP hD hS hAA hq ls hl
  obtain ⟨H, eH⟩ : ∃ z, z = s.heap := ⟨_, rfl⟩
  obtain ⟨locs, el⟩ : ∃ z : List Loc, z = [] := ⟨_, rfl⟩
  rw [← eH] at hP
  have hS : va_S A s.heap H locs := by rw [eH, el]; exact hS
  have goal0 : W p l e r_c_X0_put s m ([.ref (g.2.2.2 1), .int (nI x), .int (nI y), .int (nI z)] : List Value).toArray below meth c H locs 0 0 Q (F0 m 0 ls []) → W p l e r_c_X0_put s m ([.ref (g.2.2.2 1), .int (nI x), .int (nI y), .int (nI z)] : List Value).toArray below meth c s.heap [] 0 0 Q (F0 m 0 ls []) := fun h => by rw [eH, el] at h; exact h
  refine goal0 ?_
  have hl : lv_has ls 4 [(0, .ref (g.2.2.2 1)), (1, .int (nI x)), (2, .int (nI y)), (3, .int (nI z))] := hl
  have iX0 : ∀ w ∈ wsX00, w ∈ wsX0_put := by decide +kernel
  have k9 := hts (.fieldLink RX0 9 "JumpingAutomata$Automaton" "targets" "[I") (by decide +kernel)
  refine lv_iload_n hx hb dX0_put_0 rfl (lv_at hl 1 rfl) ?_
  refine lv_iload_n hx hb dX0_put_1 rfl (lv_at hl 2 rfl) ?_
  refine lv_iload_n hx hb dX0_put_2 rfl (lv_at hl 3 rfl) ?_
  refine vp_callSi (va_Run.run (va_runSN (As := [.int (nI x), .int (nI y), .int (nI z)]) (rest := []) ⟨hx, hb, hml, hown, hts⟩ (c_X10_isTransition l x y z (by omega) (by omega) (by omega)) ⟨(va_cnB 3 hts gX0_put_X10_isTransition_n36 rfl rfl rfl (hK.2 _ (List.mem_of_getElem? (i := 22) rfl)) (hts (.initialized RX10) (by decide +kernel)) (by decide +kernel) ⟨Nat.le_of_ble_eq_true rfl, Nat.le_of_ble_eq_true rfl⟩), hts (.static yX10_isTransition) (by decide +kernel), trivial⟩ okTS rfl rfl hl.1 rfl (lv_room (Nat.le_of_ble_eq_true rfl)) dX0_put_3 ⟨Nat.le_of_ble_eq_true rfl, Nat.le_of_ble_eq_true rfl⟩)) (fun r_3 h_3 => ?_)
  subst h_3
  refine jn_beq hx hb (tgt := 25) dX0_put_6 (by decide) (fun c_6 => absurd c_6 (by omega)) (fun c_6 => ?_)
  refine lv_aload_n hx hb dX0_put_9 rfl (lv_at hl 0 rfl) ?_
  refine va_get (D := (g.1, g.2.1)) (ci := 2) (v := .ref (g.2.2.2 2)) (C := RX0) (T := TX0) (N := 3) hx hb hts iX0 hown hK.1 hP 1 (gC1 g σ tl) rfl 0 (by decide) k9 (fun _ h9 => h9) rfl dX0_put_10 ?_
  refine lv_iload_n hx hb dX0_put_13 rfl (lv_at hl 1 rfl) ?_
  refine lv_iconst (v := nI 3) hx hb dX0_put_14 (by decide) ?_
  refine jn_imul hx hb dX0_put_15 ?_
  refine lv_iload_n hx hb dX0_put_16 rfl (lv_at hl 2 rfl) ?_
  refine jn_iadd hx hb dX0_put_17 ?_
  refine lv_dup2_11 hx hb dX0_put_18 rfl rfl ?_
  refine jn_iald (f := σ.2.1 0) hx hb hK.1 hP 2 0 (gC2 g σ tl) rfl (by omega) (Nat.le_of_ble_eq_true rfl) dX0_put_19 ?_
  refine lv_iconst (v := nI 1) hx hb dX0_put_20 (by decide) ?_
  refine lv_iload_n hx hb dX0_put_21 rfl (lv_at hl 3 rfl) ?_
  refine jn_shl1 hx hb (by omega) dX0_put_22 ?_
  refine jn_ior hx hb dX0_put_23 ?_
  refine jn_iast (f := σ.2.1 0) hx hb hK.1 hP hD hS 2 0 (gC2 g σ tl) rfl (by omega) (Nat.le_of_ble_eq_true rfl) (uC_A0 g σ tl _) dX0_put_24 (fun H locs hP hD hS => ?_)
  exact hq _ _ _ _ () dX0_put_25 trivial hP hD hS

abbrev r_c_X0_drop : Room := { frames := 2, cells := 0, slots := 0, locals := 42 }
set_option maxHeartbeats 4000000 in
set_option maxRecDepth 100000 in
theorem c_X0_drop (l : Launch) (g : GC) (tl : va_W) (sz : Nat) (σ : SS) (x y z : Nat) (hx : x < 5) (hy : y < 3) (hz : z < 5) : Met l yX0_drop wsX0_drop r_c_X0_drop (va_Pc [.ref (g.2.2.2 1), .int (nI x), .int (nI y), .int (nI z)] (PW g (wC g σ ++ tl) sz)) (va_Qv (fun (_ : Unit) => True) (fun (_ : Unit) t => BW g (va_A (wC g σ ++ tl) sz) (wC g (sA σ 0 (va_up (σ.2.1 0) (x * 3 + y) ((σ.2.1 0) (x * 3 + y) &&& (2 ^ z ^^^ 4294967295)))) ++ tl) t) (va_A (wC g σ ++ tl) sz)) 0 0 (va_A (wC g σ ++ tl) sz) := by
  refine jn_sv (wf := fun _ : Unit => wC g (sA σ 0 (va_up (σ.2.1 0) (x * 3 + y) ((σ.2.1 0) (x * 3 + y) &&& (2 ^ z ^^^ 4294967295)))) ++ tl) (cc := cX0_drop) (maxL := 4) (own := RX0) (by decide) rfl rfl (Nat.le_of_ble_eq_true rfl) ?_
  intro p e s m below meth c Q A hx hb hml hown hts hK hP hD hS hAA hq ls hl
  obtain ⟨H, eH⟩ : ∃ z, z = s.heap := ⟨_, rfl⟩
  obtain ⟨locs, el⟩ : ∃ z : List Loc, z = [] := ⟨_, rfl⟩
  rw [← eH] at hP
  have hS : va_S A s.heap H locs := by rw [eH, el]; exact hS
  have goal0 : W p l e r_c_X0_drop s m ([.ref (g.2.2.2 1), .int (nI x), .int (nI y), .int (nI z)] : List Value).toArray below meth c H locs 0 0 Q (F0 m 0 ls []) → W p l e r_c_X0_drop s m ([.ref (g.2.2.2 1), .int (nI x), .int (nI y), .int (nI z)] : List Value).toArray below meth c s.heap [] 0 0 Q (F0 m 0 ls []) := fun h => by rw [eH, el] at h; exact h
  refine goal0 ?_
  have hl : lv_has ls 4 [(0, .ref (g.2.2.2 1)), (1, .int (nI x)), (2, .int (nI y)), (3, .int (nI z))] := hl
  have iX0 : ∀ w ∈ wsX00, w ∈ wsX0_drop := by decide +kernel
  have k9 := hts (.fieldLink RX0 9 "JumpingAutomata$Automaton" "targets" "[I") (by decide +kernel)
  refine lv_iload_n hx hb dX0_drop_0 rfl (lv_at hl 1 rfl) ?_
  refine lv_iload_n hx hb dX0_drop_1 rfl (lv_at hl 2 rfl) ?_
  refine lv_iload_n hx hb dX0_drop_2 rfl (lv_at hl 3 rfl) ?_
  refine vp_callSi (va_Run.run (va_runSN (As := [.int (nI x), .int (nI y), .int (nI z)]) (rest := []) ⟨hx, hb, hml, hown, hts⟩ (c_X10_isTransition l x y z (by omega) (by omega) (by omega)) ⟨(va_cnB 3 hts gX0_drop_X10_isTransition_n36 rfl rfl rfl (hK.2 _ (List.mem_of_getElem? (i := 22) rfl)) (hts (.initialized RX10) (by decide +kernel)) (by decide +kernel) ⟨Nat.le_of_ble_eq_true rfl, Nat.le_of_ble_eq_true rfl⟩), hts (.static yX10_isTransition) (by decide +kernel), trivial⟩ okTS rfl rfl hl.1 rfl (lv_room (Nat.le_of_ble_eq_true rfl)) dX0_drop_3 ⟨Nat.le_of_ble_eq_true rfl, Nat.le_of_ble_eq_true rfl⟩)) (fun r_3 h_3 => ?_)
  subst h_3
  refine jn_beq hx hb (tgt := 27) dX0_drop_6 (by decide) (fun c_6 => absurd c_6 (by omega)) (fun c_6 => ?_)
  refine lv_aload_n hx hb dX0_drop_9 rfl (lv_at hl 0 rfl) ?_
  refine va_get (D := (g.1, g.2.1)) (ci := 2) (v := .ref (g.2.2.2 2)) (C := RX0) (T := TX0) (N := 3) hx hb hts iX0 hown hK.1 hP 1 (gC1 g σ tl) rfl 0 (by decide) k9 (fun _ h9 => h9) rfl dX0_drop_10 ?_
  refine lv_iload_n hx hb dX0_drop_13 rfl (lv_at hl 1 rfl) ?_
  refine lv_iconst (v := nI 3) hx hb dX0_drop_14 (by decide) ?_
  refine jn_imul hx hb dX0_drop_15 ?_
  refine lv_iload_n hx hb dX0_drop_16 rfl (lv_at hl 2 rfl) ?_
  refine jn_iadd hx hb dX0_drop_17 ?_
  refine lv_dup2_11 hx hb dX0_drop_18 rfl rfl ?_
  refine jn_iald (f := σ.2.1 0) hx hb hK.1 hP 2 0 (gC2 g σ tl) rfl (by omega) (Nat.le_of_ble_eq_true rfl) dX0_drop_19 ?_
  refine lv_iconst (v := nI 1) hx hb dX0_drop_20 (by decide) ?_
  refine lv_iload_n hx hb dX0_drop_21 rfl (lv_at hl 3 rfl) ?_
  refine jn_shl1 hx hb (by omega) dX0_drop_22 ?_
  refine lv_iconst (v := nI 4294967295) hx hb dX0_drop_23 (by decide) ?_
  refine jn_ixor hx hb dX0_drop_24 ?_
  refine jn_iand hx hb dX0_drop_25 ?_
  refine jn_iast (f := σ.2.1 0) hx hb hK.1 hP hD hS 2 0 (gC2 g σ tl) rfl (by omega) (Nat.le_of_ble_eq_true rfl) (uC_A0 g σ tl _) dX0_drop_26 (fun H locs hP hD hS => ?_)
  exact hq _ _ _ _ () dX0_drop_27 trivial hP hD hS

abbrev r_c_X0_markFinal : Room := { frames := 1, cells := 0, slots := 0, locals := 20 }
set_option maxHeartbeats 4000000 in
set_option maxRecDepth 100000 in
theorem c_X0_markFinal (l : Launch) (g : GC) (tl : va_W) (sz : Nat) (σ : SS) (x b : Nat) (hx : x < 5) (hb2 : b < 2) : Met l yX0_markFinal wsX0_markFinal r_c_X0_markFinal (va_Pc [.ref (g.2.2.2 1), .int (nI x), .int (nI b)] (PW g (wC g σ ++ tl) sz)) (va_Qv (fun (_ : Unit) => True) (fun (_ : Unit) t => BW g (va_A (wC g σ ++ tl) sz) (wC g (sF σ 0 (if b = 0 then σ.1 0 &&& (2 ^ x ^^^ 4294967295) else σ.1 0 ||| 2 ^ x)) ++ tl) t) (va_A (wC g σ ++ tl) sz)) 0 0 (va_A (wC g σ ++ tl) sz) := by
  refine jn_sv (wf := fun _ : Unit => wC g (sF σ 0 (if b = 0 then σ.1 0 &&& (2 ^ x ^^^ 4294967295) else σ.1 0 ||| 2 ^ x)) ++ tl) (cc := cX0_markFinal) (maxL := 3) (own := RX0) (by decide) rfl rfl (Nat.le_of_ble_eq_true rfl) ?_
  intro p e s m below meth c Q A hx hb hml hown hts hK hP hD hS hAA hq ls hl
  obtain ⟨H, eH⟩ : ∃ z, z = s.heap := ⟨_, rfl⟩
  obtain ⟨locs, el⟩ : ∃ z : List Loc, z = [] := ⟨_, rfl⟩
  rw [← eH] at hP
  have hS : va_S A s.heap H locs := by rw [eH, el]; exact hS
  have goal0 : W p l e r_c_X0_markFinal s m ([.ref (g.2.2.2 1), .int (nI x), .int (nI b)] : List Value).toArray below meth c H locs 0 0 Q (F0 m 0 ls []) → W p l e r_c_X0_markFinal s m ([.ref (g.2.2.2 1), .int (nI x), .int (nI b)] : List Value).toArray below meth c s.heap [] 0 0 Q (F0 m 0 ls []) := fun h => by rw [eH, el] at h; exact h
  refine goal0 ?_
  have hl : lv_has ls 3 [(0, .ref (g.2.2.2 1)), (1, .int (nI x)), (2, .int (nI b))] := hl
  have iX0 : ∀ w ∈ wsX00, w ∈ wsX0_markFinal := by decide +kernel
  have k18 := hts (.fieldLink RX0 18 "JumpingAutomata$Automaton" "finals" "I") (by decide +kernel)
  refine lv_iload_n hx hb dX0_markFinal_0 rfl (lv_at hl 1 rfl) ?_
  refine vp_callSi (va_Run.run (va_runSN (As := [.int (nI x)]) (rest := []) ⟨hx, hb, hml, hown, hts⟩ (c_X10_isState l x (by omega)) ⟨(va_cnB 1 hts gX0_markFinal_X10_isState_n22 rfl rfl rfl (hK.2 _ (List.mem_of_getElem? (i := 11) rfl)) (hts (.initialized RX10) (by decide +kernel)) (by decide +kernel) ⟨Nat.le_of_ble_eq_true rfl, Nat.le_of_ble_eq_true rfl⟩), hts (.static yX10_isState) (by decide +kernel), trivial⟩ okTS rfl rfl hl.1 rfl (lv_room (Nat.le_of_ble_eq_true rfl)) dX0_markFinal_1 ⟨Nat.le_of_ble_eq_true rfl, Nat.le_of_ble_eq_true rfl⟩)) (fun r_1 h_1 => ?_)
  subst h_1
  refine jn_beq hx hb (tgt := 36) dX0_markFinal_4 (by decide) (fun c_4 => absurd c_4 (by omega)) (fun c_4 => ?_)
  refine lv_aload_n hx hb dX0_markFinal_7 rfl (lv_at hl 0 rfl) ?_
  refine lv_iload_n hx hb dX0_markFinal_8 rfl (lv_at hl 2 rfl) ?_
  refine jn_zeq hx hb (by omega) (tgt := 23) dX0_markFinal_9 (by decide) (fun c_9 => ?_) (fun c_9 => ?_)
  · refine lv_aload_n hx hb dX0_markFinal_23 rfl (lv_at hl 0 rfl) ?_
    refine va_get (D := (g.1, g.2.1)) (ci := 2) (v := .int (nI (σ.1 0))) (C := RX0) (T := TX0) (N := 3) hx hb hts iX0 hown hK.1 hP 1 (gC1 g σ tl) rfl 2 (by decide) k18 (fun _ h9 => h9) rfl dX0_markFinal_24 ?_
    refine lv_iconst (v := nI 1) hx hb dX0_markFinal_27 (by decide) ?_
    refine lv_iload_n hx hb dX0_markFinal_28 rfl (lv_at hl 1 rfl) ?_
    refine jn_shl1 hx hb (by omega) dX0_markFinal_29 ?_
    refine lv_iconst (v := nI 4294967295) hx hb dX0_markFinal_30 (by decide) ?_
    refine jn_ixor hx hb dX0_markFinal_31 ?_
    refine jn_iand hx hb dX0_markFinal_32 ?_
    refine jn_put (D := (g.1, g.2.1)) (ci := 2) (v := .int (nI ((σ.1 0) &&& ((2 ^ x) ^^^ 4294967295)))) (ty := .int) (C := RX0) (T := TX0) (N := 3) hx hb hts iX0 tyX0 tyX0_ok nmX0 hown hK.1 hP hD hS 1 (gC1 g σ tl) rfl 2 (by decide) k18 (fun _ h9 => h9) rfl (by decide +kernel) rfl rfl (Nat.le_of_ble_eq_true rfl) (uC_F0 g σ tl ((σ.1 0) &&& ((2 ^ x) ^^^ 4294967295))) dX0_markFinal_33 (fun H locs hP hD hS => ?_)
    have eW : (sF σ 0 ((σ.1 0) &&& ((2 ^ x) ^^^ 4294967295))) = (sF σ 0 (if b = 0 then σ.1 0 &&& (2 ^ x ^^^ 4294967295) else σ.1 0 ||| 2 ^ x)) := (by first | rw [if_pos c_9] | rw [if_neg c_9])
    rw [eW] at hP hD
    exact hq _ _ _ _ () dX0_markFinal_36 trivial hP hD hS
  · refine lv_aload_n hx hb dX0_markFinal_12 rfl (lv_at hl 0 rfl) ?_
    refine va_get (D := (g.1, g.2.1)) (ci := 2) (v := .int (nI (σ.1 0))) (C := RX0) (T := TX0) (N := 3) hx hb hts iX0 hown hK.1 hP 1 (gC1 g σ tl) rfl 2 (by decide) k18 (fun _ h9 => h9) rfl dX0_markFinal_13 ?_
    refine lv_iconst (v := nI 1) hx hb dX0_markFinal_16 (by decide) ?_
    refine lv_iload_n hx hb dX0_markFinal_17 rfl (lv_at hl 1 rfl) ?_
    refine jn_shl1 hx hb (by omega) dX0_markFinal_18 ?_
    refine jn_ior hx hb dX0_markFinal_19 ?_
    refine lv_goto (tgt := 33) hx hb dX0_markFinal_20 (by decide) ?_
    refine jn_put (D := (g.1, g.2.1)) (ci := 2) (v := .int (nI ((σ.1 0) ||| (2 ^ x)))) (ty := .int) (C := RX0) (T := TX0) (N := 3) hx hb hts iX0 tyX0 tyX0_ok nmX0 hown hK.1 hP hD hS 1 (gC1 g σ tl) rfl 2 (by decide) k18 (fun _ h9 => h9) rfl (by decide +kernel) rfl rfl (Nat.le_of_ble_eq_true rfl) (uC_F0 g σ tl ((σ.1 0) ||| (2 ^ x))) dX0_markFinal_33 (fun H locs hP hD hS => ?_)
    have eW : (sF σ 0 ((σ.1 0) ||| (2 ^ x))) = (sF σ 0 (if b = 0 then σ.1 0 &&& (2 ^ x ^^^ 4294967295) else σ.1 0 ||| 2 ^ x)) := (by first | rw [if_pos c_9] | rw [if_neg c_9])
    rw [eW] at hP hD
    exact hq _ _ _ _ () dX0_markFinal_36 trivial hP hD hS

abbrev r_c_X0_wipe : Room := { frames := 0, cells := 0, slots := 0, locals := 0 }
set_option maxHeartbeats 4000000 in
set_option maxRecDepth 100000 in
theorem c_X0_wipe (l : Launch) (g : GC) (tl : va_W) (sz : Nat) (σ : SS) : Met l yX0_wipe wsX0_wipe r_c_X0_wipe (va_Pc [.ref (g.2.2.2 1)] (PW g (wC g σ ++ tl) sz)) (va_Qv (fun (f : (Nat → Nat)) => ∀ k, k < 15 → f k = 0) (fun (f : (Nat → Nat)) t => BW g (va_A (wC g σ ++ tl) sz) (wC g (sF (sA σ 0 f) 0 0) ++ tl) t) (va_A (wC g σ ++ tl) sz)) 0 0 (va_A (wC g σ ++ tl) sz) := by
  refine jn_sv (wf := fun f : (Nat → Nat) => wC g (sF (sA σ 0 f) 0 0) ++ tl) (cc := cX0_wipe) (maxL := 2) (own := RX0) (by decide) rfl rfl (Nat.le_of_ble_eq_true rfl) ?_
  intro p e s m below meth c Q A hx hb hml hown hts hK hP hD hS hAA hq ls hl
  obtain ⟨H, eH⟩ : ∃ z, z = s.heap := ⟨_, rfl⟩
  obtain ⟨locs, el⟩ : ∃ z : List Loc, z = [] := ⟨_, rfl⟩
  rw [← eH] at hP
  have hS : va_S A s.heap H locs := by rw [eH, el]; exact hS
  have goal0 : W p l e r_c_X0_wipe s m ([.ref (g.2.2.2 1)] : List Value).toArray below meth c H locs 0 0 Q (F0 m 0 ls []) → W p l e r_c_X0_wipe s m ([.ref (g.2.2.2 1)] : List Value).toArray below meth c s.heap [] 0 0 Q (F0 m 0 ls []) := fun h => by rw [eH, el] at h; exact h
  refine goal0 ?_
  have hl : lv_has ls 2 [(0, .ref (g.2.2.2 1))] := hl
  have iX0 : ∀ w ∈ wsX00, w ∈ wsX0_wipe := by decide +kernel
  have k18 := hts (.fieldLink RX0 18 "JumpingAutomata$Automaton" "finals" "I") (by decide +kernel)
  have k9 := hts (.fieldLink RX0 9 "JumpingAutomata$Automaton" "targets" "[I") (by decide +kernel)
  refine lv_iconst (v := nI 0) hx hb dX0_wipe_0 (by decide) ?_
  refine lv_istore_n (lv' := [(1, .int (nI 0)), (0, .ref (g.2.2.2 1))]) hx hb dX0_wipe_1 rfl hl (by decide) rfl (fun ls hl => ?_)
  have lp2 : ∀ (fu : Nat), ∀ (i : Nat) (f : Nat → Nat), (i ≤ 15) → (∀ k, k < i → f k = 0) → 15 - i < fu → ∀ (H : Heap) (locs : List Loc), va_P (g.1, g.2.1) vwCl (wC g (sA σ 0 f) ++ tl) H → va_D A (wC g (sA σ 0 f) ++ tl) → va_S A s.heap H locs → ∀ ls : Array Slot, lv_has ls 2 [(0, .ref (g.2.2.2 1)), (1, .int (nI i))] → W p l e r_c_X0_wipe s m ([.ref (g.2.2.2 1)] : List Value).toArray below meth c H locs 0 0 Q (F0 m 2 ls []) := by
    intro fu
    induction fu with
    | zero => intro i f h1 h2 hf; exact absurd hf (Nat.not_lt_zero _)
    | succ fu ih2 =>
      intro i f h1 h2 hf H locs hP hD hS ls hl
      refine lv_iload_n hx hb dX0_wipe_2 rfl (lv_at hl 1 rfl) ?_
      refine lv_bipush (v := nI 15) hx hb dX0_wipe_3 (by decide) ?_
      refine jn_cge hx hb (by omega) (by decide) (tgt := 21) dX0_wipe_5 (by decide) (fun c_5 => ?_) (fun c_5 => ?_)
      · refine lv_aload_n hx hb dX0_wipe_21 rfl (lv_at hl 0 rfl) ?_
        refine lv_iconst (v := nI 0) hx hb dX0_wipe_22 (by decide) ?_
        refine jn_put (D := (g.1, g.2.1)) (ci := 2) (v := .int (nI 0)) (ty := .int) (C := RX0) (T := TX0) (N := 3) hx hb hts iX0 tyX0 tyX0_ok nmX0 hown hK.1 hP hD hS 1 (gC1 g (sA σ 0 f) tl) rfl 2 (by decide) k18 (fun _ h9 => h9) rfl (by decide +kernel) rfl rfl (Nat.le_of_ble_eq_true rfl) (uC_F0 g (sA σ 0 f) tl 0) dX0_wipe_23 (fun H locs hP hD hS => ?_)
        exact hq _ _ _ _ (f) dX0_wipe_26 (fun k hk => h2 k (by omega)) hP hD hS
      · refine lv_aload_n hx hb dX0_wipe_8 rfl (lv_at hl 0 rfl) ?_
        refine va_get (D := (g.1, g.2.1)) (ci := 2) (v := .ref (g.2.2.2 2)) (C := RX0) (T := TX0) (N := 3) hx hb hts iX0 hown hK.1 hP 1 (gC1 g (sA σ 0 f) tl) rfl 0 (by decide) k9 (fun _ h9 => h9) rfl dX0_wipe_9 ?_
        refine lv_iload_n hx hb dX0_wipe_12 rfl (lv_at hl 1 rfl) ?_
        refine lv_iconst (v := nI 0) hx hb dX0_wipe_13 (by decide) ?_
        refine jn_iast (f := f) hx hb hK.1 hP hD hS 2 0 (gC2 g (sA σ 0 f) tl) rfl (by omega) (Nat.le_of_ble_eq_true rfl) (uC_A0 g (sA σ 0 f) tl _) dX0_wipe_14 (fun H locs hP hD hS => ?_)
        refine lv_iinc (v := nI (i + 1)) (lv' := [(1, .int (nI (i + 1))), (0, .ref (g.2.2.2 1))]) hx hb dX0_wipe_15 hl (k := 1) rfl (jn_ii _ 1) (by decide) rfl (fun ls hl => ?_)
        refine lv_goto (tgt := 2) hx hb dX0_wipe_18 (by decide) ?_
        exact ih2 (i + 1) (va_up f i 0) (by omega) (fun k hk => by unfold va_up; split <;> first | rfl | exact h2 k (by omega)) (by omega) _ _ hP hD hS _ (lv_sub hl [1, 0] rfl)
  exact lp2 _ 0 (σ.2.1 0) (by decide) (fun k hk => absurd hk (by omega)) (Nat.lt_succ_self _) _ _ hP hD hS _ (lv_sub hl [1, 0] rfl)

abbrev r_c_X0_size : Room := { frames := 1, cells := 0, slots := 0, locals := 20 }
set_option maxHeartbeats 4000000 in
set_option maxRecDepth 100000 in
theorem c_X0_size (l : Launch) (g : GC) (tl : va_W) (σ : SS) (hA : OkA σ) : Met l yX0_size wsX0_size r_c_X0_size (va_Pc [.ref (g.2.2.2 1)] (PP g (wC g σ ++ tl))) (vp_Si (fun r => r = nI (cntT (σ.2.1 0)))) 0 0 (fun _ => False) := by
  refine jn_pi (cc := cX0_size) (maxL := 3) (own := RX0) (by decide) rfl rfl (Nat.le_of_ble_eq_true rfl) ?_
  intro p e s m below meth c Q hx hb hml hown hts ⟨hP, hK⟩ hq ls hl
  have hl : lv_has ls 3 [(0, .ref (g.2.2.2 1))] := hl
  have iX0 : ∀ w ∈ wsX00, w ∈ wsX0_size := by decide +kernel
  have k9 := hts (.fieldLink RX0 9 "JumpingAutomata$Automaton" "targets" "[I") (by decide +kernel)
  refine lv_iconst (v := nI 0) hx hb dX0_size_0 (by decide) ?_
  refine lv_istore_n (lv' := [(1, .int (nI 0)), (0, .ref (g.2.2.2 1))]) hx hb dX0_size_1 rfl hl (by decide) rfl (fun ls hl => ?_)
  refine lv_iconst (v := nI 0) hx hb dX0_size_2 (by decide) ?_
  refine lv_istore_n (lv' := [(2, .int (nI 0)), (1, .int (nI 0)), (0, .ref (g.2.2.2 1))]) hx hb dX0_size_3 rfl hl (by decide) rfl (fun ls hl => ?_)
  have lp4 : ∀ (fu : Nat), ∀ (i : Nat) (z : Nat), (i ≤ 15) → (z = fb_sm (fun k => pop (σ.2.1 0 k)) i) → 15 - i < fu → ∀ ls : Array Slot, lv_has ls 3 [(0, .ref (g.2.2.2 1)), (1, .int (nI z)), (2, .int (nI i))] → W p l e r_c_X0_size s m ([.ref (g.2.2.2 1)] : List Value).toArray below meth c s.heap [] 0 0 Q (F0 m 4 ls []) := by
    intro fu
    induction fu with
    | zero => intro i z h1 h2 hf; exact absurd hf (Nat.not_lt_zero _)
    | succ fu ih4 =>
      intro i z h1 h2 hf ls hl
      refine lv_iload_n hx hb dX0_size_4 rfl (lv_at hl 2 rfl) ?_
      refine lv_bipush (v := nI 15) hx hb dX0_size_5 (by decide) ?_
      refine jn_cge hx hb (by omega) (by decide) (tgt := 28) dX0_size_7 (by decide) (fun c_7 => ?_) (fun c_7 => ?_)
      · refine lv_iload_n hx hb dX0_size_28 rfl (lv_at hl 1 rfl) ?_
        exact hq _ _ ((nI z)) dX0_size_29 (by rw [h2, show i = 15 by omega]; rfl)
      · refine lv_iload_n hx hb dX0_size_10 rfl (lv_at hl 1 rfl) ?_
        refine lv_aload_n hx hb dX0_size_11 rfl (lv_at hl 0 rfl) ?_
        refine va_get (D := (g.1, g.2.1)) (ci := 2) (v := .ref (g.2.2.2 2)) (C := RX0) (T := TX0) (N := 3) hx hb hts iX0 hown hK.1 hP 1 (gC1 g σ tl) rfl 0 (by decide) k9 (fun _ h9 => h9) rfl dX0_size_12 ?_
        refine lv_iload_n hx hb dX0_size_15 rfl (lv_at hl 2 rfl) ?_
        refine jn_iald (f := σ.2.1 0) hx hb hK.1 hP 2 0 (gC2 g σ tl) rfl (by omega) (Nat.le_of_ble_eq_true rfl) dX0_size_16 ?_
        refine vp_callSi (va_Run.run (va_runS (As := [.int (nI ((σ.2.1 0) i))]) (rest := [.int (nI z)]) ⟨hx, hb, hml, hown, hts⟩ (c_J6_bitCount_0f7a4 l ((σ.2.1 0) i) (hA.1 i (by omega))) (va_cwS 1 hts gX0_size_J6_bitCount_0f7a4 rfl rfl rfl (by decide +kernel) ⟨Nat.le_of_ble_eq_true rfl, Nat.le_of_ble_eq_true rfl⟩) okTS rfl rfl hl.1 rfl (lv_room (Nat.le_of_ble_eq_true rfl)) dX0_size_17 ⟨Nat.le_of_ble_eq_true rfl, Nat.le_of_ble_eq_true rfl⟩)) (fun r_17 h_17 => ?_)
        subst h_17
        refine jn_iadd hx hb dX0_size_20 ?_
        refine lv_istore_n (lv' := [(1, .int (nI (z + (pop ((σ.2.1 0) i))))), (0, .ref (g.2.2.2 1)), (2, .int (nI i))]) hx hb dX0_size_21 rfl hl (by decide) rfl (fun ls hl => ?_)
        refine lv_iinc (v := nI (i + 1)) (lv' := [(2, .int (nI (i + 1))), (1, .int (nI (z + (pop ((σ.2.1 0) i))))), (0, .ref (g.2.2.2 1))]) hx hb dX0_size_22 hl (k := 2) rfl (jn_ii _ 1) (by decide) rfl (fun ls hl => ?_)
        refine lv_goto (tgt := 4) hx hb dX0_size_25 (by decide) ?_
        exact ih4 (i + 1) (z + (pop ((σ.2.1 0) i))) (by omega) (by rw [h2]; rfl) (by omega) _ (lv_sub hl [2, 1, 0] rfl)
  exact lp4 _ 0 0 (by decide) rfl (Nat.lt_succ_self _) _ (lv_sub hl [2, 1, 0] rfl)

abbrev r_c_X0_sizeWith : Room := { frames := 1, cells := 0, slots := 0, locals := 20 }
set_option maxHeartbeats 4000000 in
set_option maxRecDepth 100000 in
theorem c_X0_sizeWith (l : Launch) (g : GC) (tl : va_W) (σ : SS) (hA : OkA σ) (hw : ∀ k, k < 15 → σ.2.1 13 k < 32) : Met l yX0_sizeWith wsX0_sizeWith r_c_X0_sizeWith (va_Pc [.ref (g.2.2.2 1), .ref (g.2.2.2 19)] (PP g (wC g σ ++ tl))) (vp_Si (fun r => r = nI (fb_sm (fun k => pop (σ.2.1 0 k ||| σ.2.1 13 k)) 15))) 0 0 (fun _ => False) := by
  refine jn_pi (cc := cX0_sizeWith) (maxL := 4) (own := RX0) (by decide) rfl rfl (Nat.le_of_ble_eq_true rfl) ?_
  intro p e s m below meth c Q hx hb hml hown hts ⟨hP, hK⟩ hq ls hl
  have hl : lv_has ls 4 [(0, .ref (g.2.2.2 1)), (1, .ref (g.2.2.2 19))] := hl
  have iX0 : ∀ w ∈ wsX00, w ∈ wsX0_sizeWith := by decide +kernel
  have k9 := hts (.fieldLink RX0 9 "JumpingAutomata$Automaton" "targets" "[I") (by decide +kernel)
  refine lv_iconst (v := nI 0) hx hb dX0_sizeWith_0 (by decide) ?_
  refine lv_istore_n (lv' := [(2, .int (nI 0)), (0, .ref (g.2.2.2 1)), (1, .ref (g.2.2.2 19))]) hx hb dX0_sizeWith_1 rfl hl (by decide) rfl (fun ls hl => ?_)
  refine lv_iconst (v := nI 0) hx hb dX0_sizeWith_2 (by decide) ?_
  refine lv_istore_n (lv' := [(3, .int (nI 0)), (2, .int (nI 0)), (0, .ref (g.2.2.2 1)), (1, .ref (g.2.2.2 19))]) hx hb dX0_sizeWith_3 rfl hl (by decide) rfl (fun ls hl => ?_)
  have lp4 : ∀ (fu : Nat), ∀ (i : Nat) (z : Nat), (i ≤ 15) → (z = fb_sm (fun k => pop (σ.2.1 0 k ||| σ.2.1 13 k)) i) → 15 - i < fu → ∀ ls : Array Slot, lv_has ls 4 [(0, .ref (g.2.2.2 1)), (1, .ref (g.2.2.2 19)), (2, .int (nI z)), (3, .int (nI i))] → W p l e r_c_X0_sizeWith s m ([.ref (g.2.2.2 1), .ref (g.2.2.2 19)] : List Value).toArray below meth c s.heap [] 0 0 Q (F0 m 4 ls []) := by
    intro fu
    induction fu with
    | zero => intro i z h1 h2 hf; exact absurd hf (Nat.not_lt_zero _)
    | succ fu ih4 =>
      intro i z h1 h2 hf ls hl
      refine lv_iload_n hx hb dX0_sizeWith_4 rfl (lv_at hl 3 rfl) ?_
      refine lv_bipush (v := nI 15) hx hb dX0_sizeWith_5 (by decide) ?_
      refine jn_cge hx hb (by omega) (by decide) (tgt := 38) dX0_sizeWith_7 (by decide) (fun c_7 => ?_) (fun c_7 => ?_)
      · refine lv_iload_n hx hb dX0_sizeWith_38 rfl (lv_at hl 2 rfl) ?_
        exact hq _ _ ((nI z)) dX0_sizeWith_39 (by rw [h2, show i = 15 by omega])
      · refine lv_iload_n hx hb dX0_sizeWith_10 rfl (lv_at hl 3 rfl) ?_
        refine lv_aload_n hx hb dX0_sizeWith_11 rfl (lv_at hl 1 rfl) ?_
        refine va_alen hx hb hK.1 hP 19 0 (gC19 g σ tl) rfl (v := nI 15) rfl dX0_sizeWith_12 ?_
        refine jn_cge hx hb (by omega) (by decide) (tgt := 38) dX0_sizeWith_13 (by decide) (fun c_13 => ?_) (fun c_13 => ?_)
        · refine lv_iload_n hx hb dX0_sizeWith_38 rfl (lv_at hl 2 rfl) ?_
          exact hq _ _ ((nI z)) dX0_sizeWith_39 (by rw [h2, show i = 15 by omega])
        · refine lv_iload_n hx hb dX0_sizeWith_16 rfl (lv_at hl 2 rfl) ?_
          refine lv_aload_n hx hb dX0_sizeWith_17 rfl (lv_at hl 0 rfl) ?_
          refine va_get (D := (g.1, g.2.1)) (ci := 2) (v := .ref (g.2.2.2 2)) (C := RX0) (T := TX0) (N := 3) hx hb hts iX0 hown hK.1 hP 1 (gC1 g σ tl) rfl 0 (by decide) k9 (fun _ h9 => h9) rfl dX0_sizeWith_18 ?_
          refine lv_iload_n hx hb dX0_sizeWith_21 rfl (lv_at hl 3 rfl) ?_
          refine jn_iald (f := σ.2.1 0) hx hb hK.1 hP 2 0 (gC2 g σ tl) rfl (by omega) (Nat.le_of_ble_eq_true rfl) dX0_sizeWith_22 ?_
          refine lv_aload_n hx hb dX0_sizeWith_23 rfl (lv_at hl 1 rfl) ?_
          refine lv_iload_n hx hb dX0_sizeWith_24 rfl (lv_at hl 3 rfl) ?_
          refine jn_iald (f := σ.2.1 13) hx hb hK.1 hP 19 0 (gC19 g σ tl) rfl (by omega) (Nat.le_of_ble_eq_true rfl) dX0_sizeWith_25 ?_
          refine jn_ior hx hb dX0_sizeWith_26 ?_
          refine vp_callSi (va_Run.run (va_runS (As := [.int (nI (((σ.2.1 0) i) ||| ((σ.2.1 13) i)))]) (rest := [.int (nI z)]) ⟨hx, hb, hml, hown, hts⟩ (c_J6_bitCount_0f7a4 l (((σ.2.1 0) i) ||| ((σ.2.1 13) i)) (or32 (hA.1 i (by omega)) (hw i (by omega)))) (va_cwS 1 hts gX0_sizeWith_J6_bitCount_0f7a4 rfl rfl rfl (by decide +kernel) ⟨Nat.le_of_ble_eq_true rfl, Nat.le_of_ble_eq_true rfl⟩) okTS rfl rfl hl.1 rfl (lv_room (Nat.le_of_ble_eq_true rfl)) dX0_sizeWith_27 ⟨Nat.le_of_ble_eq_true rfl, Nat.le_of_ble_eq_true rfl⟩)) (fun r_27 h_27 => ?_)
          subst h_27
          refine jn_iadd hx hb dX0_sizeWith_30 ?_
          refine lv_istore_n (lv' := [(2, .int (nI (z + (pop (((σ.2.1 0) i) ||| ((σ.2.1 13) i)))))), (0, .ref (g.2.2.2 1)), (1, .ref (g.2.2.2 19)), (3, .int (nI i))]) hx hb dX0_sizeWith_31 rfl hl (by decide) rfl (fun ls hl => ?_)
          refine lv_iinc (v := nI (i + 1)) (lv' := [(3, .int (nI (i + 1))), (2, .int (nI (z + (pop (((σ.2.1 0) i) ||| ((σ.2.1 13) i)))))), (0, .ref (g.2.2.2 1)), (1, .ref (g.2.2.2 19))]) hx hb dX0_sizeWith_32 hl (k := 3) rfl (jn_ii _ 1) (by decide) rfl (fun ls hl => ?_)
          refine lv_goto (tgt := 4) hx hb dX0_sizeWith_35 (by decide) ?_
          exact ih4 (i + 1) (z + (pop (((σ.2.1 0) i) ||| ((σ.2.1 13) i)))) (by omega) (by rw [h2]; rfl) (by omega) _ (lv_sub hl [2, 3, 1, 0] rfl)
  exact lp4 _ 0 0 (by decide) rfl (Nat.lt_succ_self _) _ (lv_sub hl [2, 3, 1, 0] rfl)

abbrev r_c_X0_merge : Room := { frames := 0, cells := 0, slots := 0, locals := 0 }
set_option maxHeartbeats 4000000 in
set_option maxRecDepth 100000 in
theorem c_X0_merge (l : Launch) (g : GC) (tl : va_W) (sz : Nat) (σ : SS) (v : Nat) : Met l yX0_merge wsX0_merge r_c_X0_merge (va_Pc [.ref (g.2.2.2 1), .ref (g.2.2.2 19), .int (nI v)] (PW g (wC g σ ++ tl) sz)) (va_Qv (fun (f : (Nat → Nat)) => ∀ k, k < 15 → f k = σ.2.1 0 k ||| σ.2.1 13 k) (fun (f : (Nat → Nat)) t => BW g (va_A (wC g σ ++ tl) sz) (wC g (sF (sA σ 0 f) 0 (σ.1 0 ||| v)) ++ tl) t) (va_A (wC g σ ++ tl) sz)) 0 0 (va_A (wC g σ ++ tl) sz) := by
  refine jn_sv (wf := fun f : (Nat → Nat) => wC g (sF (sA σ 0 f) 0 (σ.1 0 ||| v)) ++ tl) (cc := cX0_merge) (maxL := 4) (own := RX0) (by decide) rfl rfl (Nat.le_of_ble_eq_true rfl) ?_
  intro p e s m below meth c Q A hx hb hml hown hts hK hP hD hS hAA hq ls hl
  obtain ⟨H, eH⟩ : ∃ z, z = s.heap := ⟨_, rfl⟩
  obtain ⟨locs, el⟩ : ∃ z : List Loc, z = [] := ⟨_, rfl⟩
  rw [← eH] at hP
  have hS : va_S A s.heap H locs := by rw [eH, el]; exact hS
  have goal0 : W p l e r_c_X0_merge s m ([.ref (g.2.2.2 1), .ref (g.2.2.2 19), .int (nI v)] : List Value).toArray below meth c H locs 0 0 Q (F0 m 0 ls []) → W p l e r_c_X0_merge s m ([.ref (g.2.2.2 1), .ref (g.2.2.2 19), .int (nI v)] : List Value).toArray below meth c s.heap [] 0 0 Q (F0 m 0 ls []) := fun h => by rw [eH, el] at h; exact h
  refine goal0 ?_
  have hl : lv_has ls 4 [(0, .ref (g.2.2.2 1)), (1, .ref (g.2.2.2 19)), (2, .int (nI v))] := hl
  have iX0 : ∀ w ∈ wsX00, w ∈ wsX0_merge := by decide +kernel
  have k18 := hts (.fieldLink RX0 18 "JumpingAutomata$Automaton" "finals" "I") (by decide +kernel)
  have k9 := hts (.fieldLink RX0 9 "JumpingAutomata$Automaton" "targets" "[I") (by decide +kernel)
  refine lv_iconst (v := nI 0) hx hb dX0_merge_0 (by decide) ?_
  refine lv_istore_n (lv' := [(3, .int (nI 0)), (0, .ref (g.2.2.2 1)), (1, .ref (g.2.2.2 19)), (2, .int (nI v))]) hx hb dX0_merge_1 rfl hl (by decide) rfl (fun ls hl => ?_)
  have lp2 : ∀ (fu : Nat), ∀ (i : Nat) (f : Nat → Nat), (i ≤ 15) → (∀ k, k < 15 → (k < i → f k = σ.2.1 0 k ||| σ.2.1 13 k) ∧ (i ≤ k → f k = σ.2.1 0 k)) → 15 - i < fu → ∀ (H : Heap) (locs : List Loc), va_P (g.1, g.2.1) vwCl (wC g (sA σ 0 f) ++ tl) H → va_D A (wC g (sA σ 0 f) ++ tl) → va_S A s.heap H locs → ∀ ls : Array Slot, lv_has ls 4 [(0, .ref (g.2.2.2 1)), (1, .ref (g.2.2.2 19)), (2, .int (nI v)), (3, .int (nI i))] → W p l e r_c_X0_merge s m ([.ref (g.2.2.2 1), .ref (g.2.2.2 19), .int (nI v)] : List Value).toArray below meth c H locs 0 0 Q (F0 m 2 ls []) := by
    intro fu
    induction fu with
    | zero => intro i f h1 h2 hf; exact absurd hf (Nat.not_lt_zero _)
    | succ fu ih2 =>
      intro i f h1 h2 hf H locs hP hD hS ls hl
      refine lv_iload_n hx hb dX0_merge_2 rfl (lv_at hl 3 rfl) ?_
      refine lv_bipush (v := nI 15) hx hb dX0_merge_3 (by decide) ?_
      refine jn_cge hx hb (by omega) (by decide) (tgt := 32) dX0_merge_5 (by decide) (fun c_5 => ?_) (fun c_5 => ?_)
      · refine lv_aload_n hx hb dX0_merge_32 rfl (lv_at hl 0 rfl) ?_
        refine lv_dup hx hb dX0_merge_33 rfl ?_
        refine va_get (D := (g.1, g.2.1)) (ci := 2) (v := .int (nI (σ.1 0))) (C := RX0) (T := TX0) (N := 3) hx hb hts iX0 hown hK.1 hP 1 (gC1 g (sA σ 0 f) tl) rfl 2 (by decide) k18 (fun _ h9 => h9) rfl dX0_merge_34 ?_
        refine lv_iload_n hx hb dX0_merge_37 rfl (lv_at hl 2 rfl) ?_
        refine jn_ior hx hb dX0_merge_38 ?_
        refine jn_put (D := (g.1, g.2.1)) (ci := 2) (v := .int (nI ((σ.1 0) ||| v))) (ty := .int) (C := RX0) (T := TX0) (N := 3) hx hb hts iX0 tyX0 tyX0_ok nmX0 hown hK.1 hP hD hS 1 (gC1 g (sA σ 0 f) tl) rfl 2 (by decide) k18 (fun _ h9 => h9) rfl (by decide +kernel) rfl rfl (Nat.le_of_ble_eq_true rfl) (uC_F0 g (sA σ 0 f) tl ((σ.1 0) ||| v)) dX0_merge_39 (fun H locs hP hD hS => ?_)
        exact hq _ _ _ _ (f) dX0_merge_42 (fun k hk => (h2 k hk).1 (by omega)) hP hD hS
      · refine lv_iload_n hx hb dX0_merge_8 rfl (lv_at hl 3 rfl) ?_
        refine lv_aload_n hx hb dX0_merge_9 rfl (lv_at hl 1 rfl) ?_
        refine va_alen hx hb hK.1 hP 19 0 (gC19 g (sA σ 0 f) tl) rfl (v := nI 15) rfl dX0_merge_10 ?_
        refine jn_cge hx hb (by omega) (by decide) (tgt := 32) dX0_merge_11 (by decide) (fun c_11 => ?_) (fun c_11 => ?_)
        · refine lv_aload_n hx hb dX0_merge_32 rfl (lv_at hl 0 rfl) ?_
          refine lv_dup hx hb dX0_merge_33 rfl ?_
          refine va_get (D := (g.1, g.2.1)) (ci := 2) (v := .int (nI (σ.1 0))) (C := RX0) (T := TX0) (N := 3) hx hb hts iX0 hown hK.1 hP 1 (gC1 g (sA σ 0 f) tl) rfl 2 (by decide) k18 (fun _ h9 => h9) rfl dX0_merge_34 ?_
          refine lv_iload_n hx hb dX0_merge_37 rfl (lv_at hl 2 rfl) ?_
          refine jn_ior hx hb dX0_merge_38 ?_
          refine jn_put (D := (g.1, g.2.1)) (ci := 2) (v := .int (nI ((σ.1 0) ||| v))) (ty := .int) (C := RX0) (T := TX0) (N := 3) hx hb hts iX0 tyX0 tyX0_ok nmX0 hown hK.1 hP hD hS 1 (gC1 g (sA σ 0 f) tl) rfl 2 (by decide) k18 (fun _ h9 => h9) rfl (by decide +kernel) rfl rfl (Nat.le_of_ble_eq_true rfl) (uC_F0 g (sA σ 0 f) tl ((σ.1 0) ||| v)) dX0_merge_39 (fun H locs hP hD hS => ?_)
          exact hq _ _ _ _ (f) dX0_merge_42 (fun k hk => (h2 k hk).1 (by omega)) hP hD hS
        · refine lv_aload_n hx hb dX0_merge_14 rfl (lv_at hl 0 rfl) ?_
          refine va_get (D := (g.1, g.2.1)) (ci := 2) (v := .ref (g.2.2.2 2)) (C := RX0) (T := TX0) (N := 3) hx hb hts iX0 hown hK.1 hP 1 (gC1 g (sA σ 0 f) tl) rfl 0 (by decide) k9 (fun _ h9 => h9) rfl dX0_merge_15 ?_
          refine lv_iload_n hx hb dX0_merge_18 rfl (lv_at hl 3 rfl) ?_
          refine lv_dup2_11 hx hb dX0_merge_19 rfl rfl ?_
          refine jn_iald (f := f) hx hb hK.1 hP 2 0 (gC2 g (sA σ 0 f) tl) rfl (by omega) (Nat.le_of_ble_eq_true rfl) dX0_merge_20 ?_
          refine lv_aload_n hx hb dX0_merge_21 rfl (lv_at hl 1 rfl) ?_
          refine lv_iload_n hx hb dX0_merge_22 rfl (lv_at hl 3 rfl) ?_
          refine jn_iald (f := σ.2.1 13) hx hb hK.1 hP 19 0 (gC19 g (sA σ 0 f) tl) rfl (by omega) (Nat.le_of_ble_eq_true rfl) dX0_merge_23 ?_
          refine jn_ior hx hb dX0_merge_24 ?_
          refine jn_iast (f := f) hx hb hK.1 hP hD hS 2 0 (gC2 g (sA σ 0 f) tl) rfl (by omega) (Nat.le_of_ble_eq_true rfl) (uC_A0 g (sA σ 0 f) tl _) dX0_merge_25 (fun H locs hP hD hS => ?_)
          refine lv_iinc (v := nI (i + 1)) (lv' := [(3, .int (nI (i + 1))), (0, .ref (g.2.2.2 1)), (1, .ref (g.2.2.2 19)), (2, .int (nI v))]) hx hb dX0_merge_26 hl (k := 3) rfl (jn_ii _ 1) (by decide) rfl (fun ls hl => ?_)
          refine lv_goto (tgt := 2) hx hb dX0_merge_29 (by decide) ?_
          exact ih2 (i + 1) (va_up f i ((f i) ||| ((σ.2.1 13) i))) (by omega) (fun k hk => ⟨fun h => by unfold va_up; split; { rename_i e; subst e; rw [(h2 k hk).2 (by omega)] }; { exact (h2 k hk).1 (by omega) }, fun h => by rw [va_up, if_neg (by omega)]; exact (h2 k hk).2 (by omega)⟩) (by omega) _ _ hP hD hS _ (lv_sub hl [1, 2, 3, 0] rfl)
  exact lp2 _ 0 (σ.2.1 0) (by decide) (fun k hk => ⟨fun h => absurd h (by omega), fun _ => rfl⟩) (Nat.lt_succ_self _) _ _ hP hD hS _ (lv_sub hl [1, 2, 3, 0] rfl)

abbrev r_c_X0_hasSingleTargets : Room := { frames := 0, cells := 0, slots := 0, locals := 0 }
set_option maxHeartbeats 4000000 in
set_option maxRecDepth 100000 in
theorem c_X0_hasSingleTargets (l : Launch) (g : GC) (tl : va_W) (σ : SS) (hA : OkA σ) : Met l yX0_hasSingleTargets wsX0_hasSingleTargets r_c_X0_hasSingleTargets (va_Pc [.ref (g.2.2.2 1)] (PP g (wC g σ ++ tl))) (vp_Si (fun r => r = nI (if detT (σ.2.1 0) then 1 else 0))) 0 0 (fun _ => False) := by
  refine jn_pz (cc := cX0_hasSingleTargets) (maxL := 2) (own := RX0) (by decide) rfl rfl (Nat.le_of_ble_eq_true rfl) ?_
  intro p e s m below meth c Q hx hb hml hown hts ⟨hP, hK⟩ hq ls hl
  have hl : lv_has ls 2 [(0, .ref (g.2.2.2 1))] := hl
  have iX0 : ∀ w ∈ wsX00, w ∈ wsX0_hasSingleTargets := by decide +kernel
  have k9 := hts (.fieldLink RX0 9 "JumpingAutomata$Automaton" "targets" "[I") (by decide +kernel)
  refine lv_iconst (v := nI 0) hx hb dX0_hasSingleTargets_0 (by decide) ?_
  refine lv_istore_n (lv' := [(1, .int (nI 0)), (0, .ref (g.2.2.2 1))]) hx hb dX0_hasSingleTargets_1 rfl hl (by decide) rfl (fun ls hl => ?_)
  have lp2 : ∀ (fu : Nat), ∀ (i : Nat), (i ≤ 15) → (∀ k, k < i → pop (σ.2.1 0 k) ≤ 1) → 15 - i < fu → ∀ ls : Array Slot, lv_has ls 2 [(0, .ref (g.2.2.2 1)), (1, .int (nI i))] → W p l e r_c_X0_hasSingleTargets s m ([.ref (g.2.2.2 1)] : List Value).toArray below meth c s.heap [] 0 0 Q (F0 m 2 ls []) := by
    intro fu
    induction fu with
    | zero => intro i h1 h2 hf; exact absurd hf (Nat.not_lt_zero _)
    | succ fu ih2 =>
      intro i h1 h2 hf ls hl
      refine lv_iload_n hx hb dX0_hasSingleTargets_2 rfl (lv_at hl 1 rfl) ?_
      refine lv_bipush (v := nI 15) hx hb dX0_hasSingleTargets_3 (by decide) ?_
      refine jn_cge hx hb (by omega) (by decide) (tgt := 34) dX0_hasSingleTargets_5 (by decide) (fun c_5 => ?_) (fun c_5 => ?_)
      · refine lv_iconst (v := nI 1) hx hb dX0_hasSingleTargets_34 (by decide) ?_
        exact hq _ _ ((nI 1)) dX0_hasSingleTargets_35 jn_n1 (by rw [if_pos (fun k hk => h2 k (by omega))])
      · refine lv_aload_n hx hb dX0_hasSingleTargets_8 rfl (lv_at hl 0 rfl) ?_
        refine va_get (D := (g.1, g.2.1)) (ci := 2) (v := .ref (g.2.2.2 2)) (C := RX0) (T := TX0) (N := 3) hx hb hts iX0 hown hK.1 hP 1 (gC1 g σ tl) rfl 0 (by decide) k9 (fun _ h9 => h9) rfl dX0_hasSingleTargets_9 ?_
        refine lv_iload_n hx hb dX0_hasSingleTargets_12 rfl (lv_at hl 1 rfl) ?_
        refine jn_iald (f := σ.2.1 0) hx hb hK.1 hP 2 0 (gC2 g σ tl) rfl (by omega) (Nat.le_of_ble_eq_true rfl) dX0_hasSingleTargets_13 ?_
        refine lv_aload_n hx hb dX0_hasSingleTargets_14 rfl (lv_at hl 0 rfl) ?_
        refine va_get (D := (g.1, g.2.1)) (ci := 2) (v := .ref (g.2.2.2 2)) (C := RX0) (T := TX0) (N := 3) hx hb hts iX0 hown hK.1 hP 1 (gC1 g σ tl) rfl 0 (by decide) k9 (fun _ h9 => h9) rfl dX0_hasSingleTargets_15 ?_
        refine lv_iload_n hx hb dX0_hasSingleTargets_18 rfl (lv_at hl 1 rfl) ?_
        refine jn_iald (f := σ.2.1 0) hx hb hK.1 hP 2 0 (gC2 g σ tl) rfl (by omega) (Nat.le_of_ble_eq_true rfl) dX0_hasSingleTargets_19 ?_
        refine lv_iconst (v := nI 1) hx hb dX0_hasSingleTargets_20 (by decide) ?_
        refine jn_isubW hx hb (by omega) dX0_hasSingleTargets_21 ?_
        refine jn_iand hx hb dX0_hasSingleTargets_22 ?_
        have t32 := hA.1 i (by omega)
        refine jn_zeq hx hb (and_ltl (by omega)) (tgt := 28) dX0_hasSingleTargets_23 (by decide) (fun c_23 => ?_) (fun c_23 => ?_)
        · refine lv_iinc (v := nI (i + 1)) (lv' := [(1, .int (nI (i + 1))), (0, .ref (g.2.2.2 1))]) hx hb dX0_hasSingleTargets_28 hl (k := 1) rfl (jn_ii _ 1) (by decide) rfl (fun ls hl => ?_)
          refine lv_goto (tgt := 2) hx hb dX0_hasSingleTargets_31 (by decide) ?_
          exact ih2 (i + 1) (by omega) (fun k hk => by rcases Nat.lt_or_ge k i with q | q; { exact h2 k q }; { rw [show k = i by omega]; exact (pop_det _ t32).mp c_23 }) (by omega) _ (lv_sub hl [1, 0] rfl)
        · refine lv_iconst (v := nI 0) hx hb dX0_hasSingleTargets_26 (by decide) ?_
          exact hq _ _ ((nI 0)) dX0_hasSingleTargets_27 jn_n0 (by rw [if_neg (fun q => c_23 ((pop_det _ t32).mpr (q i (by omega))))])
  exact lp2 _ 0 (by decide) (fun k hk => absurd hk (by omega)) (Nat.lt_succ_self _) _ (lv_sub hl [1, 0] rfl)

abbrev r_c_X0_statesBefore : Room := { frames := 0, cells := 0, slots := 0, locals := 0 }
set_option maxHeartbeats 4000000 in
set_option maxRecDepth 100000 in
theorem c_X0_statesBefore (l : Launch) (g : GC) (tl : va_W) (σ : SS) (mk : Nat) (hA : OkA σ) (hk : mk < 32) : Met l yX0_statesBefore wsX0_statesBefore r_c_X0_statesBefore (va_Pc [.ref (g.2.2.2 1), .int (nI mk)] (PP g (wC g σ ++ tl))) (vp_Si (fun r => r = nI (bef (σ.2.1 0) mk 15))) 0 0 (fun _ => False) := by
  refine jn_pi (cc := cX0_statesBefore) (maxL := 4) (own := RX0) (by decide) rfl rfl (Nat.le_of_ble_eq_true rfl) ?_
  intro p e s m below meth c Q hx hb hml hown hts ⟨hP, hK⟩ hq ls hl
  have hl : lv_has ls 4 [(0, .ref (g.2.2.2 1)), (1, .int (nI mk))] := hl
  have iX0 : ∀ w ∈ wsX00, w ∈ wsX0_statesBefore := by decide +kernel
  have k9 := hts (.fieldLink RX0 9 "JumpingAutomata$Automaton" "targets" "[I") (by decide +kernel)
  refine lv_iconst (v := nI 0) hx hb dX0_statesBefore_0 (by decide) ?_
  refine lv_istore_n (lv' := [(2, .int (nI 0)), (0, .ref (g.2.2.2 1)), (1, .int (nI mk))]) hx hb dX0_statesBefore_1 rfl hl (by decide) rfl (fun ls hl => ?_)
  refine lv_iconst (v := nI 0) hx hb dX0_statesBefore_2 (by decide) ?_
  refine lv_istore_n (lv' := [(3, .int (nI 0)), (2, .int (nI 0)), (0, .ref (g.2.2.2 1)), (1, .int (nI mk))]) hx hb dX0_statesBefore_3 rfl hl (by decide) rfl (fun ls hl => ?_)
  have lp4 : ∀ (fu : Nat), ∀ (i : Nat) (z : Nat), (i ≤ 15) → (z = bef (σ.2.1 0) mk i) → 15 - i < fu → ∀ ls : Array Slot, lv_has ls 4 [(0, .ref (g.2.2.2 1)), (1, .int (nI mk)), (2, .int (nI z)), (3, .int (nI i))] → W p l e r_c_X0_statesBefore s m ([.ref (g.2.2.2 1), .int (nI mk)] : List Value).toArray below meth c s.heap [] 0 0 Q (F0 m 4 ls []) := by
    intro fu
    induction fu with
    | zero => intro i z h1 h2 hf; exact absurd hf (Nat.not_lt_zero _)
    | succ fu ih4 =>
      intro i z h1 h2 hf ls hl
      refine lv_iload_n hx hb dX0_statesBefore_4 rfl (lv_at hl 3 rfl) ?_
      refine lv_bipush (v := nI 15) hx hb dX0_statesBefore_5 (by decide) ?_
      refine jn_cge hx hb (by omega) (by decide) (tgt := 35) dX0_statesBefore_7 (by decide) (fun c_7 => ?_) (fun c_7 => ?_)
      · refine lv_iload_n hx hb dX0_statesBefore_35 rfl (lv_at hl 2 rfl) ?_
        exact hq _ _ ((nI z)) dX0_statesBefore_36 (by rw [h2, show i = 15 by omega])
      · refine lv_aload_n hx hb dX0_statesBefore_10 rfl (lv_at hl 0 rfl) ?_
        refine va_get (D := (g.1, g.2.1)) (ci := 2) (v := .ref (g.2.2.2 2)) (C := RX0) (T := TX0) (N := 3) hx hb hts iX0 hown hK.1 hP 1 (gC1 g σ tl) rfl 0 (by decide) k9 (fun _ h9 => h9) rfl dX0_statesBefore_11 ?_
        refine lv_iload_n hx hb dX0_statesBefore_14 rfl (lv_at hl 3 rfl) ?_
        refine jn_iald (f := σ.2.1 0) hx hb hK.1 hP 2 0 (gC2 g σ tl) rfl (by omega) (Nat.le_of_ble_eq_true rfl) dX0_statesBefore_15 ?_
        refine lv_iload_n hx hb dX0_statesBefore_16 rfl (lv_at hl 1 rfl) ?_
        refine jn_iand hx hb dX0_statesBefore_17 ?_
        refine jn_zeq hx hb (and_lt (by omega)) (tgt := 29) dX0_statesBefore_18 (by decide) (fun c_18 => ?_) (fun c_18 => ?_)
        · refine lv_iinc (v := nI (i + 1)) (lv' := [(3, .int (nI (i + 1))), (0, .ref (g.2.2.2 1)), (1, .int (nI mk)), (2, .int (nI z))]) hx hb dX0_statesBefore_29 hl (k := 3) rfl (jn_ii _ 1) (by decide) rfl (fun ls hl => ?_)
          refine lv_goto (tgt := 4) hx hb dX0_statesBefore_32 (by decide) ?_
          exact ih4 (i + 1) z (by omega) (by rw [h2]; first | rw [bef, if_pos c_18] | rw [bef, if_neg c_18]) (by omega) _ (lv_sub hl [1, 2, 3, 0] rfl)
        · refine lv_iload_n hx hb dX0_statesBefore_21 rfl (lv_at hl 2 rfl) ?_
          refine lv_iconst (v := nI 1) hx hb dX0_statesBefore_22 (by decide) ?_
          refine lv_iload_n hx hb dX0_statesBefore_23 rfl (lv_at hl 3 rfl) ?_
          refine lv_iconst (v := nI 3) hx hb dX0_statesBefore_24 (by decide) ?_
          refine jn_idiv hx hb (by omega) (by decide) (by decide) dX0_statesBefore_25 ?_
          refine jn_shl1 hx hb (by omega) dX0_statesBefore_26 ?_
          refine jn_ior hx hb dX0_statesBefore_27 ?_
          refine lv_istore_n (lv' := [(2, .int (nI (z ||| (2 ^ (i / 3))))), (0, .ref (g.2.2.2 1)), (1, .int (nI mk)), (3, .int (nI i))]) hx hb dX0_statesBefore_28 rfl hl (by decide) rfl (fun ls hl => ?_)
          refine lv_iinc (v := nI (i + 1)) (lv' := [(3, .int (nI (i + 1))), (2, .int (nI (z ||| (2 ^ (i / 3))))), (0, .ref (g.2.2.2 1)), (1, .int (nI mk))]) hx hb dX0_statesBefore_29 hl (k := 3) rfl (jn_ii _ 1) (by decide) rfl (fun ls hl => ?_)
          refine lv_goto (tgt := 4) hx hb dX0_statesBefore_32 (by decide) ?_
          exact ih4 (i + 1) (z ||| (2 ^ (i / 3))) (by omega) (by rw [h2]; first | rw [bef, if_pos c_18] | rw [bef, if_neg c_18]) (by omega) _ (lv_sub hl [2, 3, 1, 0] rfl)
  exact lp4 _ 0 0 (by decide) rfl (Nat.lt_succ_self _) _ (lv_sub hl [2, 3, 1, 0] rfl)

abbrev r_c_X0_useful : Room := { frames := 2, cells := 0, slots := 0, locals := 42 }
set_option maxHeartbeats 4000000 in
set_option maxRecDepth 100000 in
theorem c_X0_useful (l : Launch) (g : GC) (tl : va_W) (σ : SS) (hA : OkA σ) : Met l yX0_useful wsX0_useful r_c_X0_useful (va_Pc [.ref (g.2.2.2 1)] (PP g (wC g σ ++ tl))) (vp_Si (fun r => r = nI (frm (σ.2.1 0) 4 &&& twd (σ.2.1 0) (σ.1 0) 4))) 0 0 (fun _ => False) := by
  refine jn_pi (cc := cX0_useful) (maxL := 4) (own := RX0) (by decide) rfl rfl (Nat.le_of_ble_eq_true rfl) ?_
  intro p e s m below meth c Q hx hb hml hown hts ⟨hP, hK⟩ hq ls hl
  have hl : lv_has ls 4 [(0, .ref (g.2.2.2 1))] := hl
  have iX0 : ∀ w ∈ wsX00, w ∈ wsX0_useful := by decide +kernel
  have k18 := hts (.fieldLink RX0 18 "JumpingAutomata$Automaton" "finals" "I") (by decide +kernel)
  refine lv_iconst (v := nI 1) hx hb dX0_useful_0 (by decide) ?_
  refine lv_istore_n (lv' := [(1, .int (nI 1)), (0, .ref (g.2.2.2 1))]) hx hb dX0_useful_1 rfl hl (by decide) rfl (fun ls hl => ?_)
  refine lv_aload_n hx hb dX0_useful_2 rfl (lv_at hl 1 rfl) ?_
  refine va_get (D := (g.1, g.2.1)) (ci := 2) (v := .int (nI (σ.1 0))) (C := RX0) (T := TX0) (N := 3) hx hb hts iX0 hown hK.1 hP 1 (gC1 g σ tl) rfl 2 (by decide) k18 (fun _ h9 => h9) rfl dX0_useful_3 ?_
  refine lv_istore_n (lv' := [(2, .int (nI (σ.1 0))), (1, .int (nI 1)), (0, .ref (g.2.2.2 1))]) hx hb dX0_useful_6 rfl hl (by decide) rfl (fun ls hl => ?_)
  refine lv_iconst (v := nI 1) hx hb dX0_useful_7 (by decide) ?_
  refine lv_istore_n (lv' := [(3, .int (nI 1)), (2, .int (nI (σ.1 0))), (1, .int (nI 1)), (0, .ref (g.2.2.2 1))]) hx hb dX0_useful_8 rfl hl (by decide) rfl (fun ls hl => ?_)
  have lp9 : ∀ (fu : Nat), ∀ (i : Nat) (a : Nat) (b : Nat), (1 ≤ i) → (i ≤ 5) → (a = frm (σ.2.1 0) (i - 1)) → (b = twd (σ.2.1 0) (σ.1 0) (i - 1)) → 5 - i < fu → ∀ ls : Array Slot, lv_has ls 4 [(0, .ref (g.2.2.2 1)), (1, .int (nI a)), (2, .int (nI b)), (3, .int (nI i))] → W p l e r_c_X0_useful s m ([.ref (g.2.2.2 1)] : List Value).toArray below meth c s.heap [] 0 0 Q (F0 m 9 ls []) := by
    intro fu
    induction fu with
    | zero => intro i a b h0 h1 h2 h3 hf; exact absurd hf (Nat.not_lt_zero _)
    | succ fu ih9 =>
      intro i a b h0 h1 h2 h3 hf ls hl
      have ha32 : a < 32 := by rw [h2]; exact frm_lt hA.1 _
      have hb32 : b < 32 := by rw [h3]; exact twd_lt hA.2.1 _
      refine lv_iload_n hx hb dX0_useful_9 rfl (lv_at hl 3 rfl) ?_
      refine lv_iconst (v := nI 5) hx hb dX0_useful_10 (by decide) ?_
      refine jn_cge hx hb (by omega) (by decide) (tgt := 51) dX0_useful_11 (by decide) (fun c_11 => ?_) (fun c_11 => ?_)
      · refine lv_iload_n hx hb dX0_useful_51 rfl (lv_at hl 1 rfl) ?_
        refine lv_iload_n hx hb dX0_useful_52 rfl (lv_at hl 2 rfl) ?_
        refine jn_iand hx hb dX0_useful_53 ?_
        exact hq _ _ ((nI (a &&& b))) dX0_useful_54 (by rw [h2, h3, show i = 5 by omega])
      · refine lv_iload_n hx hb dX0_useful_14 rfl (lv_at hl 1 rfl) ?_
        refine lv_aload_n hx hb dX0_useful_15 rfl (lv_at hl 0 rfl) ?_
        refine lv_iconst (v := nI 0) hx hb dX0_useful_16 (by decide) ?_
        refine lv_iload_n hx hb dX0_useful_17 rfl (lv_at hl 1 rfl) ?_
        refine vp_callSi (va_Run.run (va_runV (As := [.int (nI 0), .int (nI a)]) (rest := [.int (nI a)]) ⟨hx, hb, hml, hown, hts⟩ (c_X0_step l g tl σ 0 a hA (by decide) ha32) (cwV 2 hts gX0_useful_X0_step rfl rfl rfl (by decide +kernel) ⟨Nat.le_of_ble_eq_true rfl, Nat.le_of_ble_eq_true rfl⟩) (okPV hK hP rfl (gC1 g σ tl)) rfl rfl hl.1 rfl (lv_room (Nat.le_of_ble_eq_true rfl)) dX0_useful_18 ⟨Nat.le_of_ble_eq_true rfl, Nat.le_of_ble_eq_true rfl⟩)) (fun r_18 h_18 => ?_)
        subst h_18
        refine lv_aload_n hx hb dX0_useful_21 rfl (lv_at hl 0 rfl) ?_
        refine lv_iconst (v := nI 1) hx hb dX0_useful_22 (by decide) ?_
        refine lv_iload_n hx hb dX0_useful_23 rfl (lv_at hl 1 rfl) ?_
        refine vp_callSi (va_Run.run (va_runV (As := [.int (nI 1), .int (nI a)]) (rest := [.int (nI (stp (σ.2.1 0) 0 a)), .int (nI a)]) ⟨hx, hb, hml, hown, hts⟩ (c_X0_step l g tl σ 1 a hA (by decide) ha32) (cwV 2 hts gX0_useful_X0_step rfl rfl rfl (by decide +kernel) ⟨Nat.le_of_ble_eq_true rfl, Nat.le_of_ble_eq_true rfl⟩) (okPV hK hP rfl (gC1 g σ tl)) rfl rfl hl.1 rfl (lv_room (Nat.le_of_ble_eq_true rfl)) dX0_useful_24 ⟨Nat.le_of_ble_eq_true rfl, Nat.le_of_ble_eq_true rfl⟩)) (fun r_24 h_24 => ?_)
        subst h_24
        refine jn_ior hx hb dX0_useful_27 ?_
        refine lv_aload_n hx hb dX0_useful_28 rfl (lv_at hl 0 rfl) ?_
        refine lv_iconst (v := nI 2) hx hb dX0_useful_29 (by decide) ?_
        refine lv_iload_n hx hb dX0_useful_30 rfl (lv_at hl 1 rfl) ?_
        refine vp_callSi (va_Run.run (va_runV (As := [.int (nI 2), .int (nI a)]) (rest := [.int (nI ((stp (σ.2.1 0) 0 a) ||| (stp (σ.2.1 0) 1 a))), .int (nI a)]) ⟨hx, hb, hml, hown, hts⟩ (c_X0_step l g tl σ 2 a hA (by decide) ha32) (cwV 2 hts gX0_useful_X0_step rfl rfl rfl (by decide +kernel) ⟨Nat.le_of_ble_eq_true rfl, Nat.le_of_ble_eq_true rfl⟩) (okPV hK hP rfl (gC1 g σ tl)) rfl rfl hl.1 rfl (lv_room (Nat.le_of_ble_eq_true rfl)) dX0_useful_31 ⟨Nat.le_of_ble_eq_true rfl, Nat.le_of_ble_eq_true rfl⟩)) (fun r_31 h_31 => ?_)
        subst h_31
        refine jn_ior hx hb dX0_useful_34 ?_
        refine jn_ior hx hb dX0_useful_35 ?_
        refine lv_istore_n (lv' := [(1, .int (nI (a ||| (((stp (σ.2.1 0) 0 a) ||| (stp (σ.2.1 0) 1 a)) ||| (stp (σ.2.1 0) 2 a))))), (0, .ref (g.2.2.2 1)), (2, .int (nI b)), (3, .int (nI i))]) hx hb dX0_useful_36 rfl hl (by decide) rfl (fun ls hl => ?_)
        refine lv_iload_n hx hb dX0_useful_37 rfl (lv_at hl 2 rfl) ?_
        refine lv_aload_n hx hb dX0_useful_38 rfl (lv_at hl 1 rfl) ?_
        refine lv_iload_n hx hb dX0_useful_39 rfl (lv_at hl 2 rfl) ?_
        refine vp_callSi (va_Run.run (va_runV (As := [.int (nI b)]) (rest := [.int (nI b)]) ⟨hx, hb, hml, hown, hts⟩ (c_X0_statesBefore l g tl σ b hA hb32) (cwV 1 hts gX0_useful_X0_statesBefore rfl rfl rfl (by decide +kernel) ⟨Nat.le_of_ble_eq_true rfl, Nat.le_of_ble_eq_true rfl⟩) (okPV hK hP rfl (gC1 g σ tl)) rfl rfl hl.1 rfl (lv_room (Nat.le_of_ble_eq_true rfl)) dX0_useful_40 ⟨Nat.le_of_ble_eq_true rfl, Nat.le_of_ble_eq_true rfl⟩)) (fun r_40 h_40 => ?_)
        subst h_40
        refine jn_ior hx hb dX0_useful_43 ?_
        refine lv_istore_n (lv' := [(2, .int (nI (b ||| (bef (σ.2.1 0) b 15)))), (1, .int (nI (a ||| (((stp (σ.2.1 0) 0 a) ||| (stp (σ.2.1 0) 1 a)) ||| (stp (σ.2.1 0) 2 a))))), (0, .ref (g.2.2.2 1)), (3, .int (nI i))]) hx hb dX0_useful_44 rfl hl (by decide) rfl (fun ls hl => ?_)
        refine lv_iinc (v := nI (i + 1)) (lv' := [(3, .int (nI (i + 1))), (2, .int (nI (b ||| (bef (σ.2.1 0) b 15)))), (1, .int (nI (a ||| (((stp (σ.2.1 0) 0 a) ||| (stp (σ.2.1 0) 1 a)) ||| (stp (σ.2.1 0) 2 a))))), (0, .ref (g.2.2.2 1))]) hx hb dX0_useful_45 hl (k := 3) rfl (jn_ii _ 1) (by decide) rfl (fun ls hl => ?_)
        refine lv_goto (tgt := 9) hx hb dX0_useful_48 (by decide) ?_
        exact ih9 (i + 1) (a ||| (((stp (σ.2.1 0) 0 a) ||| (stp (σ.2.1 0) 1 a)) ||| (stp (σ.2.1 0) 2 a))) (b ||| (bef (σ.2.1 0) b 15)) (by omega) (by omega) (by obtain ⟨q, rfl⟩ : ∃ q, i = q + 1 := ⟨i - 1, by omega⟩; rw [h2]; rfl) (by obtain ⟨q, rfl⟩ : ∃ q, i = q + 1 := ⟨i - 1, by omega⟩; rw [h3]; rfl) (by omega) _ (lv_sub hl [3, 2, 1, 0] rfl)
  exact lp9 _ 1 1 (σ.1 0) (by decide) (by decide) rfl rfl (Nat.lt_succ_self _) _ (lv_sub hl [3, 2, 1, 0] rfl)

abbrev r_c_X0_rebuild : Room := { frames := 0, cells := 0, slots := 0, locals := 0 }
set_option maxHeartbeats 4000000 in
set_option maxRecDepth 100000 in
theorem c_X0_rebuild (l : Launch) (g : GC) (tl : va_W) (sz : Nat) (σ : SS) (hT : OkT (σ.2.1 0)) : Met l yX0_rebuild wsX0_rebuild r_c_X0_rebuild (va_Pc [.ref (g.2.2.2 1)] (PW g (wC g σ ++ tl) sz)) (va_Qv (fun (f : (Nat → Nat)) => ∀ x, x < 3 → ∀ m, m < 32 → f (x * 32 + m) = stp (σ.2.1 0) x m) (fun (f : (Nat → Nat)) t => BW g (va_A (wC g σ ++ tl) sz) (wC g (sA σ 1 f) ++ tl) t) (va_A (wC g σ ++ tl) sz)) 0 0 (va_A (wC g σ ++ tl) sz) := by
  refine jn_sv (wf := fun f : (Nat → Nat) => wC g (sA σ 1 f) ++ tl) (cc := cX0_rebuild) (maxL := 7) (own := RX0) (by decide) rfl rfl (Nat.le_of_ble_eq_true rfl) ?_
  intro p e s m below meth c Q A hx hb hml hown hts hK hP hD hS hAA hq ls hl
  obtain ⟨H, eH⟩ : ∃ z, z = s.heap := ⟨_, rfl⟩
  obtain ⟨locs, el⟩ : ∃ z : List Loc, z = [] := ⟨_, rfl⟩
  rw [← eH] at hP
  have hS : va_S A s.heap H locs := by rw [eH, el]; exact hS
  have goal0 : W p l e r_c_X0_rebuild s m ([.ref (g.2.2.2 1)] : List Value).toArray below meth c H locs 0 0 Q (F0 m 0 ls []) → W p l e r_c_X0_rebuild s m ([.ref (g.2.2.2 1)] : List Value).toArray below meth c s.heap [] 0 0 Q (F0 m 0 ls []) := fun h => by rw [eH, el] at h; exact h
  refine goal0 ?_
  have hl : lv_has ls 7 [(0, .ref (g.2.2.2 1))] := hl
  have iX0 : ∀ w ∈ wsX00, w ∈ wsX0_rebuild := by decide +kernel
  have k15 := hts (.fieldLink RX0 15 "JumpingAutomata$Automaton" "steps" "[I") (by decide +kernel)
  have k9 := hts (.fieldLink RX0 9 "JumpingAutomata$Automaton" "targets" "[I") (by decide +kernel)
  refine lv_iconst (v := nI 0) hx hb dX0_rebuild_0 (by decide) ?_
  refine lv_istore_n (lv' := [(1, .int (nI 0)), (0, .ref (g.2.2.2 1))]) hx hb dX0_rebuild_1 rfl hl (by decide) rfl (fun ls hl => ?_)
  have lp2 : ∀ (fu : Nat), ∀ (i : Nat) (f : Nat → Nat), (i ≤ 3) → (RbO (σ.2.1 0) f i) → 3 - i < fu → ∀ (H : Heap) (locs : List Loc), va_P (g.1, g.2.1) vwCl (wC g (sA σ 1 f) ++ tl) H → va_D A (wC g (sA σ 1 f) ++ tl) → va_S A s.heap H locs → ∀ ls : Array Slot, lv_has ls 7 [(0, .ref (g.2.2.2 1)), (1, .int (nI i))] → W p l e r_c_X0_rebuild s m ([.ref (g.2.2.2 1)] : List Value).toArray below meth c H locs 0 0 Q (F0 m 2 ls []) := by
    intro fu
    induction fu with
    | zero => intro i f h1 h2 hf; exact absurd hf (Nat.not_lt_zero _)
    | succ fu ih2 =>
      intro i f h1 h2 hf H locs hP hD hS ls hl
      refine lv_iload_n hx hb dX0_rebuild_2 rfl (lv_at hl 1 rfl) ?_
      refine lv_iconst (v := nI 3) hx hb dX0_rebuild_3 (by decide) ?_
      refine jn_cge hx hb (by omega) (by decide) (tgt := 95) dX0_rebuild_4 (by decide) (fun c_4 => ?_) (fun c_4 => ?_)
      · exact hq _ _ _ _ (f) dX0_rebuild_95 (fun x hx m hm => h2 x (by omega) m hm) hP hD hS
      · refine lv_iload_n hx hb dX0_rebuild_7 rfl (lv_at hl 1 rfl) ?_
        refine lv_bipush (v := nI 32) hx hb dX0_rebuild_8 (by decide) ?_
        refine jn_imul hx hb dX0_rebuild_10 ?_
        refine lv_istore_n (lv' := [(2, .int (nI (i * 32))), (0, .ref (g.2.2.2 1)), (1, .int (nI i))]) hx hb dX0_rebuild_11 rfl hl (by decide) rfl (fun ls hl => ?_)
        refine lv_aload_n hx hb dX0_rebuild_12 rfl (lv_at hl 1 rfl) ?_
        refine va_get (D := (g.1, g.2.1)) (ci := 2) (v := .ref (g.2.2.2 3)) (C := RX0) (T := TX0) (N := 3) hx hb hts iX0 hown hK.1 hP 1 (gC1 g (sA σ 1 f) tl) rfl 1 (by decide) k15 (fun _ h9 => h9) rfl dX0_rebuild_13 ?_
        refine lv_iload_n hx hb dX0_rebuild_16 rfl (lv_at hl 0 rfl) ?_
        refine lv_iconst (v := nI 0) hx hb dX0_rebuild_17 (by decide) ?_
        refine jn_iast (f := f) hx hb hK.1 hP hD hS 3 0 (gC3 g (sA σ 1 f) tl) rfl (by omega) (Nat.le_of_ble_eq_true rfl) (uC_A1 g (sA σ 1 f) tl _) dX0_rebuild_18 (fun H locs hP hD hS => ?_)
        refine lv_iconst (v := nI 0) hx hb dX0_rebuild_19 (by decide) ?_
        refine lv_istore_n (lv' := [(3, .int (nI 0)), (2, .int (nI (i * 32))), (0, .ref (g.2.2.2 1)), (1, .int (nI i))]) hx hb dX0_rebuild_20 rfl hl (by decide) rfl (fun ls hl => ?_)
        have lp21 : ∀ (fu : Nat), ∀ (st : Nat) (f : Nat → Nat), (st ≤ 5) → (RbO (σ.2.1 0) f i) → (RbI (σ.2.1 0) f i (2 ^ st)) → 5 - st < fu → ∀ (H : Heap) (locs : List Loc), va_P (g.1, g.2.1) vwCl (wC g (sA σ 1 f) ++ tl) H → va_D A (wC g (sA σ 1 f) ++ tl) → va_S A s.heap H locs → ∀ ls : Array Slot, lv_has ls 7 [(0, .ref (g.2.2.2 1)), (1, .int (nI i)), (2, .int (nI (i * 32))), (3, .int (nI st))] → W p l e r_c_X0_rebuild s m ([.ref (g.2.2.2 1)] : List Value).toArray below meth c H locs 0 0 Q (F0 m 21 ls []) := by
          intro fu
          induction fu with
          | zero => intro st f h3 h2 h4 hf; exact absurd hf (Nat.not_lt_zero _)
          | succ fu ih21 =>
            intro st f h3 h2 h4 hf H locs hP hD hS ls hl
            refine lv_iload_n hx hb dX0_rebuild_21 rfl (lv_at hl 3 rfl) ?_
            refine lv_iconst (v := nI 5) hx hb dX0_rebuild_22 (by decide) ?_
            refine jn_cge hx hb (by omega) (by decide) (tgt := 89) dX0_rebuild_23 (by decide) (fun c_23 => ?_) (fun c_23 => ?_)
            · refine lv_iinc (v := nI (i + 1)) (lv' := [(1, .int (nI (i + 1))), (0, .ref (g.2.2.2 1)), (2, .int (nI (i * 32))), (3, .int (nI st))]) hx hb dX0_rebuild_89 hl (k := 1) rfl (jn_ii _ 1) (by decide) rfl (fun ls hl => ?_)
              refine lv_goto (tgt := 2) hx hb dX0_rebuild_92 (by decide) ?_
              exact ih2 (i + 1) f (by omega) (rb_next h2 (by rw [← show st = 5 by omega]; exact h4)) (by omega) _ _ hP hD hS _ (lv_sub hl [1, 0] rfl)
            · refine lv_iconst (v := nI 1) hx hb dX0_rebuild_26 (by decide) ?_
              refine lv_iload_n hx hb dX0_rebuild_27 rfl (lv_at hl 3 rfl) ?_
              refine jn_shl1 hx hb (by omega) dX0_rebuild_28 ?_
              refine lv_istore (lv' := [(4, .int (nI (2 ^ st))), (0, .ref (g.2.2.2 1)), (1, .int (nI i)), (2, .int (nI (i * 32))), (3, .int (nI st))]) hx hb dX0_rebuild_29 hl (by decide) rfl (fun ls hl => ?_)
              refine lv_aload_n hx hb dX0_rebuild_31 rfl (lv_at hl 1 rfl) ?_
              refine va_get (D := (g.1, g.2.1)) (ci := 2) (v := .ref (g.2.2.2 2)) (C := RX0) (T := TX0) (N := 3) hx hb hts iX0 hown hK.1 hP 1 (gC1 g (sA σ 1 f) tl) rfl 0 (by decide) k9 (fun _ h9 => h9) rfl dX0_rebuild_32 ?_
              refine lv_iload_n hx hb dX0_rebuild_35 rfl (lv_at hl 4 rfl) ?_
              refine lv_iconst (v := nI 3) hx hb dX0_rebuild_36 (by decide) ?_
              refine jn_imul hx hb dX0_rebuild_37 ?_
              refine lv_iload_n hx hb dX0_rebuild_38 rfl (lv_at hl 2 rfl) ?_
              refine jn_iadd hx hb dX0_rebuild_39 ?_
              refine jn_iald (f := σ.2.1 0) hx hb hK.1 hP 2 0 (gC2 g (sA σ 1 f) tl) rfl (by omega) (Nat.le_of_ble_eq_true rfl) dX0_rebuild_40 ?_
              refine lv_istore (lv' := [(5, .int (nI ((σ.2.1 0) ((st * 3) + i)))), (4, .int (nI (2 ^ st))), (0, .ref (g.2.2.2 1)), (1, .int (nI i)), (2, .int (nI (i * 32))), (3, .int (nI st))]) hx hb dX0_rebuild_41 hl (by decide) rfl (fun ls hl => ?_)
              refine lv_iconst (v := nI 0) hx hb dX0_rebuild_43 (by decide) ?_
              refine lv_istore (lv' := [(6, .int (nI 0)), (5, .int (nI ((σ.2.1 0) ((st * 3) + i)))), (4, .int (nI (2 ^ st))), (0, .ref (g.2.2.2 1)), (1, .int (nI i)), (2, .int (nI (i * 32))), (3, .int (nI st))]) hx hb dX0_rebuild_44 hl (by decide) rfl (fun ls hl => ?_)
              have p5 := pow5 st (by omega)
              have lp46 : ∀ (fu : Nat), ∀ (lo : Nat) (f : Nat → Nat), (lo ≤ 2 ^ st) → (RbO (σ.2.1 0) f i) → (RbI (σ.2.1 0) f i (2 ^ st + lo)) → 2 ^ st - lo < fu → ∀ (H : Heap) (locs : List Loc), va_P (g.1, g.2.1) vwCl (wC g (sA σ 1 f) ++ tl) H → va_D A (wC g (sA σ 1 f) ++ tl) → va_S A s.heap H locs → ∀ ls : Array Slot, lv_has ls 7 [(0, .ref (g.2.2.2 1)), (1, .int (nI i)), (2, .int (nI (i * 32))), (3, .int (nI st)), (4, .int (nI (2 ^ st))), (5, .int (nI ((σ.2.1 0) ((st * 3) + i)))), (6, .int (nI lo))] → W p l e r_c_X0_rebuild s m ([.ref (g.2.2.2 1)] : List Value).toArray below meth c H locs 0 0 Q (F0 m 46 ls []) := by
                intro fu
                induction fu with
                | zero => intro lo f h5 h2 h6 hf; exact absurd hf (Nat.not_lt_zero _)
                | succ fu ih46 =>
                  intro lo f h5 h2 h6 hf H locs hP hD hS ls hl
                  have p5 := pow5 st (by omega)
                  refine lv_iload hx hb dX0_rebuild_46 (lv_at hl 6 rfl) ?_
                  refine lv_iload hx hb dX0_rebuild_48 (lv_at hl 4 rfl) ?_
                  refine jn_cge hx hb (by omega) (by omega) (tgt := 83) dX0_rebuild_50 (by decide) (fun c_50 => ?_) (fun c_50 => ?_)
                  · refine lv_iinc (v := nI (st + 1)) (lv' := [(3, .int (nI (st + 1))), (0, .ref (g.2.2.2 1)), (1, .int (nI i)), (2, .int (nI (i * 32))), (4, .int (nI (2 ^ st))), (5, .int (nI ((σ.2.1 0) ((st * 3) + i)))), (6, .int (nI lo))]) hx hb dX0_rebuild_83 hl (k := 3) rfl (jn_ii _ 1) (by decide) rfl (fun ls hl => ?_)
                    refine lv_goto (tgt := 21) hx hb dX0_rebuild_86 (by decide) ?_
                    exact ih21 (st + 1) f (by omega) h2 (by rw [pow5s st (by omega)]; rw [show lo = 2 ^ st by omega] at h6; exact h6) (by omega) _ _ hP hD hS _ (lv_sub hl [1, 2, 3, 0] rfl)
                  · refine lv_aload_n hx hb dX0_rebuild_53 rfl (lv_at hl 0 rfl) ?_
                    refine va_get (D := (g.1, g.2.1)) (ci := 2) (v := .ref (g.2.2.2 3)) (C := RX0) (T := TX0) (N := 3) hx hb hts iX0 hown hK.1 hP 1 (gC1 g (sA σ 1 f) tl) rfl 1 (by decide) k15 (fun _ h9 => h9) rfl dX0_rebuild_54 ?_
                    refine lv_iload_n hx hb dX0_rebuild_57 rfl (lv_at hl 2 rfl) ?_
                    refine lv_iload hx hb dX0_rebuild_58 (lv_at hl 4 rfl) ?_
                    refine jn_iadd hx hb dX0_rebuild_60 ?_
                    refine lv_iload hx hb dX0_rebuild_61 (lv_at hl 6 rfl) ?_
                    refine jn_iadd hx hb dX0_rebuild_63 ?_
                    refine lv_aload_n hx hb dX0_rebuild_64 rfl (lv_at hl 0 rfl) ?_
                    refine va_get (D := (g.1, g.2.1)) (ci := 2) (v := .ref (g.2.2.2 3)) (C := RX0) (T := TX0) (N := 3) hx hb hts iX0 hown hK.1 hP 1 (gC1 g (sA σ 1 f) tl) rfl 1 (by decide) k15 (fun _ h9 => h9) rfl dX0_rebuild_65 ?_
                    refine lv_iload_n hx hb dX0_rebuild_68 rfl (lv_at hl 2 rfl) ?_
                    refine lv_iload hx hb dX0_rebuild_69 (lv_at hl 6 rfl) ?_
                    refine jn_iadd hx hb dX0_rebuild_71 ?_
                    refine jn_iald (f := f) hx hb hK.1 hP 3 0 (gC3 g (sA σ 1 f) tl) rfl (by omega) (Nat.le_of_ble_eq_true rfl) dX0_rebuild_72 ?_
                    refine lv_iload hx hb dX0_rebuild_73 (lv_at hl 5 rfl) ?_
                    refine jn_ior hx hb dX0_rebuild_75 ?_
                    refine jn_iast (f := f) hx hb hK.1 hP hD hS 3 0 (gC3 g (sA σ 1 f) tl) rfl (by omega) (Nat.le_of_ble_eq_true rfl) (uC_A1 g (sA σ 1 f) tl _) dX0_rebuild_76 (fun H locs hP hD hS => ?_)
                    refine lv_iinc (v := nI (lo + 1)) (lv' := [(6, .int (nI (lo + 1))), (0, .ref (g.2.2.2 1)), (1, .int (nI i)), (2, .int (nI (i * 32))), (3, .int (nI st)), (4, .int (nI (2 ^ st))), (5, .int (nI ((σ.2.1 0) ((st * 3) + i))))]) hx hb dX0_rebuild_77 hl (k := 6) rfl (jn_ii _ 1) (by decide) rfl (fun ls hl => ?_)
                    refine lv_goto (tgt := 46) hx hb dX0_rebuild_80 (by decide) ?_
                    exact ih46 (lo + 1) (va_up f (((i * 32) + (2 ^ st)) + lo) ((f ((i * 32) + lo)) ||| ((σ.2.1 0) ((st * 3) + i)))) (by omega) (rb_in (by omega) (by omega) h2 h6).1 (rb_in (by omega) (by omega) h2 h6).2 (by omega) _ _ hP hD hS _ (lv_sub hl [1, 2, 3, 4, 5, 6, 0] rfl)
              exact lp46 _ 0 f (by omega) h2 h4 (Nat.lt_succ_self _) _ _ hP hD hS _ (lv_sub hl [3, 4, 5, 6, 2, 1, 0] rfl)
        exact lp21 _ 0 (va_up f (i * 32) 0) (by decide) (rb_first h2).1 (rb_first h2).2 (Nat.lt_succ_self _) _ _ hP hD hS _ (lv_sub hl [2, 3, 1, 0] rfl)
  exact lp2 _ 0 (σ.2.1 1) (by decide) (fun x hx => absurd hx (by omega)) (Nat.lt_succ_self _) _ _ hP hD hS _ (lv_sub hl [1, 0] rfl)
