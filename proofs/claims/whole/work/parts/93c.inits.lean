abbrev r_c_X0_init : Room := { frames := 1, cells := 2, slots := 111, locals := 12 }
set_option maxHeartbeats 8000000 in
set_option maxRecDepth 100000 in
theorem c_X0_init (l : Launch) (g : GC) (tl : va_W) (sz a : Nat) : Met l yX0_init wsX0_init r_c_X0_init (va_Pc [.ref a] (PI g ((a, .inr (2, [.null, .null, .int (nI 0)])) :: tl) sz)) (va_Qv (fun _ : Nat × Nat => True) (fun (z : Nat × Nat) t => BW g (va_A ((a, .inr (2, [.null, .null, .int (nI 0)])) :: tl) sz) ((fun z : Nat × Nat => match z with | (q7, q15) => ((a, .inr (2, [.ref q7, .ref q15, .int (nI 0)])) :: ((tl ++ [(q7, .inl (g.2.2.1 0, 15, .inl (fun _ => nI 0)))]) ++ [(q15, .inl (g.2.2.1 0, 96, .inl (fun _ => nI 0)))]))) z) t) (va_A ((a, .inr (2, [.null, .null, .int (nI 0)])) :: tl) sz)) 2 111 (va_A ((a, .inr (2, [.null, .null, .int (nI 0)])) :: tl) sz) := by
  refine jI_v (y := yX0_init) (ws := wsX0_init) (av := [.ref a]) (g := g) (w0 := ((a, .inr (2, [.null, .null, .int (nI 0)])) :: tl)) (sz := sz) (post := fun _ : Nat × Nat => True) (wf := fun z : Nat × Nat => match z with | (q7, q15) => ((a, .inr (2, [.ref q7, .ref q15, .int (nI 0)])) :: ((tl ++ [(q7, .inl (g.2.2.1 0, 15, .inl (fun _ => nI 0)))]) ++ [(q15, .inl (g.2.2.1 0, 96, .inl (fun _ => nI 0)))]))) (cc := cX0_init) (maxL := 1) (own := RX0) (by decide) rfl rfl rfl (Nat.le_of_ble_eq_true rfl) ?_
  intro p e s m below meth c Q A hx hb hml hown hts hin hK hM hP hD hS hAA hq ls hl
  obtain ⟨H, eH⟩ : ∃ z, z = s.heap := ⟨_, rfl⟩
  obtain ⟨locs, el⟩ : ∃ z : List Loc, z = [] := ⟨_, rfl⟩
  rw [← eH] at hP
  have hS : va_S A s.heap H locs := by rw [eH, el]; exact hS
  have goal0 : W p l e r_c_X0_init s m ([.ref a] : List Value).toArray below meth c H locs 0 0 Q (F0 m 0 ls []) → W p l e r_c_X0_init s m ([.ref a] : List Value).toArray below meth c s.heap [] 0 0 Q (F0 m 0 ls []) := fun h => by rw [eH, el] at h; exact h
  refine goal0 ?_
  have hl : lv_has ls 1 [(0, .ref a)] := hl
  have iX0 : ∀ w ∈ wsX00, w ∈ wsX0_init := by decide +kernel
  refine lv_aload_n hx hb dX0_init_0 rfl (lv_at hl 0 rfl) ?_
  refine W.objInit hx hb hown (hts (.methodLink RX0 3 objectInit) (by decide +kernel)) (hts (.instanceMethod objectInit) (by decide +kernel)) (hts (.code objectInit ⟨#[0xb1]⟩ 1 none) (List.mem_cons_of_mem _ (List.mem_append_left _ (List.mem_of_getElem? (i := 2) rfl)))) rfl (by rw [hml]; exact hl.1) rfl dX0_init_1 (Nat.le_of_ble_eq_true rfl) (Nat.le_of_ble_eq_true rfl) ?_
  refine W.eq (g2 := F0 m 4 ls []) rfl ?_
  refine lv_aload_n hx hb dX0_init_4 rfl (lv_at hl 0 rfl) ?_
  refine lv_bipush (v := nI 15) hx hb dX0_init_5 (by decide) ?_
  refine jI_newa (atype := .int) (ty := .int) (a0 := (15, .inl (fun _ => nI 0))) hx hb (hts (.arrayClass .int) (by decide +kernel)) rfl hK.1 0 rfl hP hD hS hAA (fun _ => rfl) (by decide) (by decide) (Nat.le_of_ble_eq_true rfl) (Nat.le_of_ble_eq_true rfl) (Nat.le_of_ble_eq_true rfl) dX0_init_7 (fun q7 H hP hD hS => ?_)
  have hP : va_P (g.1, g.2.1) vwCl ((a, .inr (2, [.null, .null, .int (nI 0)])) :: (tl ++ [(q7, .inl (g.2.2.1 0, 15, .inl (fun _ => nI 0)))])) H := hP
  have hD : va_D A ((a, .inr (2, [.null, .null, .int (nI 0)])) :: (tl ++ [(q7, .inl (g.2.2.1 0, 15, .inl (fun _ => nI 0)))])) := hD
  refine va_putF (D := (g.1, g.2.1)) (ci := 2) (v := .ref q7) (ty := .array .int) (C := RX0) (T := TX0) (N := 3) hx hb hts iX0 tyX0 tyX0_ok nmX0 hown hK.1 hP hD hS 0 rfl rfl 0 (by decide) (hts (.fieldLink RX0 9 "JumpingAutomata$Automaton" "targets" "[I") (by decide +kernel)) (fun _ h9 => h9) rfl hin rfl (by decide +kernel) rfl rfl (Nat.le_of_ble_eq_true rfl) dX0_init_9 (fun H locs hP hD hS => ?_)
  have hP : va_P (g.1, g.2.1) vwCl ((a, .inr (2, [.ref q7, .null, .int (nI 0)])) :: (tl ++ [(q7, .inl (g.2.2.1 0, 15, .inl (fun _ => nI 0)))])) H := hP
  have hD : va_D A ((a, .inr (2, [.ref q7, .null, .int (nI 0)])) :: (tl ++ [(q7, .inl (g.2.2.1 0, 15, .inl (fun _ => nI 0)))])) := hD
  refine lv_aload_n hx hb dX0_init_12 rfl (lv_at hl 0 rfl) ?_
  refine lv_bipush (v := nI 96) hx hb dX0_init_13 (by decide) ?_
  refine jI_newa (atype := .int) (ty := .int) (a0 := (96, .inl (fun _ => nI 0))) hx hb (hts (.arrayClass .int) (by decide +kernel)) rfl hK.1 0 rfl hP hD hS hAA (fun _ => rfl) (by decide) (by decide) (Nat.le_of_ble_eq_true rfl) (Nat.le_of_ble_eq_true rfl) (Nat.le_of_ble_eq_true rfl) dX0_init_15 (fun q15 H hP hD hS => ?_)
  have hP : va_P (g.1, g.2.1) vwCl ((a, .inr (2, [.ref q7, .null, .int (nI 0)])) :: ((tl ++ [(q7, .inl (g.2.2.1 0, 15, .inl (fun _ => nI 0)))]) ++ [(q15, .inl (g.2.2.1 0, 96, .inl (fun _ => nI 0)))])) H := hP
  have hD : va_D A ((a, .inr (2, [.ref q7, .null, .int (nI 0)])) :: ((tl ++ [(q7, .inl (g.2.2.1 0, 15, .inl (fun _ => nI 0)))]) ++ [(q15, .inl (g.2.2.1 0, 96, .inl (fun _ => nI 0)))])) := hD
  refine va_putF (D := (g.1, g.2.1)) (ci := 2) (v := .ref q15) (ty := .array .int) (C := RX0) (T := TX0) (N := 3) hx hb hts iX0 tyX0 tyX0_ok nmX0 hown hK.1 hP hD hS 0 rfl rfl 1 (by decide) (hts (.fieldLink RX0 15 "JumpingAutomata$Automaton" "steps" "[I") (by decide +kernel)) (fun _ h9 => h9) rfl hin rfl (by decide +kernel) rfl rfl (Nat.le_of_ble_eq_true rfl) dX0_init_17 (fun H locs hP hD hS => ?_)
  have hP : va_P (g.1, g.2.1) vwCl ((a, .inr (2, [.ref q7, .ref q15, .int (nI 0)])) :: ((tl ++ [(q7, .inl (g.2.2.1 0, 15, .inl (fun _ => nI 0)))]) ++ [(q15, .inl (g.2.2.1 0, 96, .inl (fun _ => nI 0)))])) H := hP
  have hD : va_D A ((a, .inr (2, [.ref q7, .ref q15, .int (nI 0)])) :: ((tl ++ [(q7, .inl (g.2.2.1 0, 15, .inl (fun _ => nI 0)))]) ++ [(q15, .inl (g.2.2.1 0, 96, .inl (fun _ => nI 0)))])) := hD
  refine lv_aload_n hx hb dX0_init_20 rfl (lv_at hl 0 rfl) ?_
  refine lv_iconst (v := nI 0) hx hb dX0_init_21 (by decide) ?_
  refine va_put (D := (g.1, g.2.1)) (ci := 2) (v := .int (nI 0)) (ty := .int) (C := RX0) (T := TX0) (N := 3) hx hb hts iX0 tyX0 tyX0_ok nmX0 hown hK.1 hP hD hS 0 rfl rfl 2 (by decide) (hts (.fieldLink RX0 18 "JumpingAutomata$Automaton" "finals" "I") (by decide +kernel)) (fun _ h9 => h9) rfl (by decide +kernel) rfl rfl (Nat.le_of_ble_eq_true rfl) dX0_init_22 (fun H locs hP hD hS => ?_)
  have hP : va_P (g.1, g.2.1) vwCl ((a, .inr (2, [.ref q7, .ref q15, .int (nI 0)])) :: ((tl ++ [(q7, .inl (g.2.2.1 0, 15, .inl (fun _ => nI 0)))]) ++ [(q15, .inl (g.2.2.1 0, 96, .inl (fun _ => nI 0)))])) H := hP
  have hD : va_D A ((a, .inr (2, [.ref q7, .ref q15, .int (nI 0)])) :: ((tl ++ [(q7, .inl (g.2.2.1 0, 15, .inl (fun _ => nI 0)))]) ++ [(q15, .inl (g.2.2.1 0, 96, .inl (fun _ => nI 0)))])) := hD
  exact hq _ _ _ _ _ _ (q7, q15) (Nat.le_of_ble_eq_true rfl) (Nat.le_of_ble_eq_true rfl) dX0_init_25 trivial hP hD hS

abbrev r_c_X3_init : Room := { frames := 1, cells := 1, slots := 42, locals := 12 }
set_option maxHeartbeats 8000000 in
set_option maxRecDepth 100000 in
theorem c_X3_init (l : Launch) (g : GC) (tl : va_W) (sz a : Nat) : Met l yX3_init wsX3_init r_c_X3_init (va_Pc [.ref a] (PI g ((a, .inr (5, [.null])) :: tl) sz)) (va_Qv (fun _ : Nat => True) (fun (z : Nat) t => BW g (va_A ((a, .inr (5, [.null])) :: tl) sz) ((fun q7 : Nat => ((a, .inr (5, [.ref q7])) :: (tl ++ [(q7, .inl (g.2.2.1 0, 42, .inl (fun _ => nI 0)))]))) z) t) (va_A ((a, .inr (5, [.null])) :: tl) sz)) 1 42 (va_A ((a, .inr (5, [.null])) :: tl) sz) := by
  refine jI_v (y := yX3_init) (ws := wsX3_init) (av := [.ref a]) (g := g) (w0 := ((a, .inr (5, [.null])) :: tl)) (sz := sz) (post := fun _ : Nat => True) (wf := fun q7 : Nat => ((a, .inr (5, [.ref q7])) :: (tl ++ [(q7, .inl (g.2.2.1 0, 42, .inl (fun _ => nI 0)))]))) (cc := cX3_init) (maxL := 1) (own := RX3) (by decide) rfl rfl rfl (Nat.le_of_ble_eq_true rfl) ?_
  intro p e s m below meth c Q A hx hb hml hown hts hin hK hM hP hD hS hAA hq ls hl
  obtain ⟨H, eH⟩ : ∃ z, z = s.heap := ⟨_, rfl⟩
  obtain ⟨locs, el⟩ : ∃ z : List Loc, z = [] := ⟨_, rfl⟩
  rw [← eH] at hP
  have hS : va_S A s.heap H locs := by rw [eH, el]; exact hS
  have goal0 : W p l e r_c_X3_init s m ([.ref a] : List Value).toArray below meth c H locs 0 0 Q (F0 m 0 ls []) → W p l e r_c_X3_init s m ([.ref a] : List Value).toArray below meth c s.heap [] 0 0 Q (F0 m 0 ls []) := fun h => by rw [eH, el] at h; exact h
  refine goal0 ?_
  have hl : lv_has ls 1 [(0, .ref a)] := hl
  have iX3 : ∀ w ∈ wsX30, w ∈ wsX3_init := by decide +kernel
  refine lv_aload_n hx hb dX3_init_0 rfl (lv_at hl 0 rfl) ?_
  refine W.objInit hx hb hown (hts (.methodLink RX3 3 objectInit) (by decide +kernel)) (hts (.instanceMethod objectInit) (by decide +kernel)) (hts (.code objectInit ⟨#[0xb1]⟩ 1 none) (List.mem_cons_of_mem _ (List.mem_append_left _ (List.mem_of_getElem? (i := 2) rfl)))) rfl (by rw [hml]; exact hl.1) rfl dX3_init_1 (Nat.le_of_ble_eq_true rfl) (Nat.le_of_ble_eq_true rfl) ?_
  refine W.eq (g2 := F0 m 4 ls []) rfl ?_
  refine lv_aload_n hx hb dX3_init_4 rfl (lv_at hl 0 rfl) ?_
  refine lv_bipush (v := nI 42) hx hb dX3_init_5 (by decide) ?_
  refine jI_newa (atype := .int) (ty := .int) (a0 := (42, .inl (fun _ => nI 0))) hx hb (hts (.arrayClass .int) (by decide +kernel)) rfl hK.1 0 rfl hP hD hS hAA (fun _ => rfl) (by decide) (by decide) (Nat.le_of_ble_eq_true rfl) (Nat.le_of_ble_eq_true rfl) (Nat.le_of_ble_eq_true rfl) dX3_init_7 (fun q7 H hP hD hS => ?_)
  have hP : va_P (g.1, g.2.1) vwCl ((a, .inr (5, [.null])) :: (tl ++ [(q7, .inl (g.2.2.1 0, 42, .inl (fun _ => nI 0)))])) H := hP
  have hD : va_D A ((a, .inr (5, [.null])) :: (tl ++ [(q7, .inl (g.2.2.1 0, 42, .inl (fun _ => nI 0)))])) := hD
  refine va_putF (D := (g.1, g.2.1)) (ci := 5) (v := .ref q7) (ty := .array .int) (C := RX3) (T := TX3) (N := 1) hx hb hts iX3 tyX3 tyX3_ok nmX3 hown hK.1 hP hD hS 0 rfl rfl 0 (by decide) (hts (.fieldLink RX3 11 "JumpingAutomata$CountingSets" "cells" "[I") (by decide +kernel)) (fun _ h9 => h9) rfl hin rfl (by decide +kernel) rfl rfl (Nat.le_of_ble_eq_true rfl) dX3_init_9 (fun H locs hP hD hS => ?_)
  have hP : va_P (g.1, g.2.1) vwCl ((a, .inr (5, [.ref q7])) :: (tl ++ [(q7, .inl (g.2.2.1 0, 42, .inl (fun _ => nI 0)))])) H := hP
  have hD : va_D A ((a, .inr (5, [.ref q7])) :: (tl ++ [(q7, .inl (g.2.2.1 0, 42, .inl (fun _ => nI 0)))])) := hD
  exact hq _ _ _ _ _ _ (q7) (Nat.le_of_ble_eq_true rfl) (Nat.le_of_ble_eq_true rfl) dX3_init_12 trivial hP hD hS

abbrev r_c_X7_init : Room := { frames := 1, cells := 10, slots := 530, locals := 12 }
set_option maxHeartbeats 8000000 in
set_option maxRecDepth 100000 in
theorem c_X7_init (l : Launch) (g : GC) (tl : va_W) (sz a : Nat) : Met l yX7_init wsX7_init r_c_X7_init (va_Pc [.ref a] (PI g ((a, .inr (9, [.null, .null, .int (nI 0), .int (nI 0), .int (nI 0)])) :: tl) sz)) (va_Qv (fun _ : Nat × Nat => True) (fun (z : Nat × Nat) t => BW g (va_A ((a, .inr (9, [.null, .null, .int (nI 0), .int (nI 0), .int (nI 0)])) :: tl) sz) ((fun z : Nat × Nat => match z with | (q9, q19) => ((a, .inr (9, [.ref q9, .ref q19, .int (nI 0), .int (nI 0), .int (nI 0)])) :: ((tl ++ [(q9, .inl (g.2.2.1 3, 8, .inr (.inr (.inr (.inr (fun i => if i < 8 then some (q9 + 1 + i) else none)))))), (q9 + 1 + 0, .inl (g.2.2.1 0, 58, .inl (fun _ => nI 0))), (q9 + 1 + 1, .inl (g.2.2.1 0, 58, .inl (fun _ => nI 0))), (q9 + 1 + 2, .inl (g.2.2.1 0, 58, .inl (fun _ => nI 0))), (q9 + 1 + 3, .inl (g.2.2.1 0, 58, .inl (fun _ => nI 0))), (q9 + 1 + 4, .inl (g.2.2.1 0, 58, .inl (fun _ => nI 0))), (q9 + 1 + 5, .inl (g.2.2.1 0, 58, .inl (fun _ => nI 0))), (q9 + 1 + 6, .inl (g.2.2.1 0, 58, .inl (fun _ => nI 0))), (q9 + 1 + 7, .inl (g.2.2.1 0, 58, .inl (fun _ => nI 0)))]) ++ [(q19, .inl (g.2.2.1 0, 58, .inl (fun _ => nI 0)))]))) z) t) (va_A ((a, .inr (9, [.null, .null, .int (nI 0), .int (nI 0), .int (nI 0)])) :: tl) sz)) 10 530 (va_A ((a, .inr (9, [.null, .null, .int (nI 0), .int (nI 0), .int (nI 0)])) :: tl) sz) := by
  refine jI_v (y := yX7_init) (ws := wsX7_init) (av := [.ref a]) (g := g) (w0 := ((a, .inr (9, [.null, .null, .int (nI 0), .int (nI 0), .int (nI 0)])) :: tl)) (sz := sz) (post := fun _ : Nat × Nat => True) (wf := fun z : Nat × Nat => match z with | (q9, q19) => ((a, .inr (9, [.ref q9, .ref q19, .int (nI 0), .int (nI 0), .int (nI 0)])) :: ((tl ++ [(q9, .inl (g.2.2.1 3, 8, .inr (.inr (.inr (.inr (fun i => if i < 8 then some (q9 + 1 + i) else none)))))), (q9 + 1 + 0, .inl (g.2.2.1 0, 58, .inl (fun _ => nI 0))), (q9 + 1 + 1, .inl (g.2.2.1 0, 58, .inl (fun _ => nI 0))), (q9 + 1 + 2, .inl (g.2.2.1 0, 58, .inl (fun _ => nI 0))), (q9 + 1 + 3, .inl (g.2.2.1 0, 58, .inl (fun _ => nI 0))), (q9 + 1 + 4, .inl (g.2.2.1 0, 58, .inl (fun _ => nI 0))), (q9 + 1 + 5, .inl (g.2.2.1 0, 58, .inl (fun _ => nI 0))), (q9 + 1 + 6, .inl (g.2.2.1 0, 58, .inl (fun _ => nI 0))), (q9 + 1 + 7, .inl (g.2.2.1 0, 58, .inl (fun _ => nI 0)))]) ++ [(q19, .inl (g.2.2.1 0, 58, .inl (fun _ => nI 0)))]))) (cc := cX7_init) (maxL := 1) (own := RX7) (by decide) rfl rfl rfl (Nat.le_of_ble_eq_true rfl) ?_
  intro p e s m below meth c Q A hx hb hml hown hts hin hK hM hP hD hS hAA hq ls hl
  obtain ⟨H, eH⟩ : ∃ z, z = s.heap := ⟨_, rfl⟩
  obtain ⟨locs, el⟩ : ∃ z : List Loc, z = [] := ⟨_, rfl⟩
  rw [← eH] at hP
  have hS : va_S A s.heap H locs := by rw [eH, el]; exact hS
  have goal0 : W p l e r_c_X7_init s m ([.ref a] : List Value).toArray below meth c H locs 0 0 Q (F0 m 0 ls []) → W p l e r_c_X7_init s m ([.ref a] : List Value).toArray below meth c s.heap [] 0 0 Q (F0 m 0 ls []) := fun h => by rw [eH, el] at h; exact h
  refine goal0 ?_
  have hl : lv_has ls 1 [(0, .ref a)] := hl
  have iX7 : ∀ w ∈ wsX70, w ∈ wsX7_init := by decide +kernel
  refine lv_aload_n hx hb dX7_init_0 rfl (lv_at hl 0 rfl) ?_
  refine W.objInit hx hb hown (hts (.methodLink RX7 7 objectInit) (by decide +kernel)) (hts (.instanceMethod objectInit) (by decide +kernel)) (hts (.code objectInit ⟨#[0xb1]⟩ 1 none) (List.mem_cons_of_mem _ (List.mem_append_left _ (List.mem_of_getElem? (i := 2) rfl)))) rfl (by rw [hml]; exact hl.1) rfl dX7_init_1 (Nat.le_of_ble_eq_true rfl) (Nat.le_of_ble_eq_true rfl) ?_
  refine W.eq (g2 := F0 m 4 ls []) rfl ?_
  refine lv_aload_n hx hb dX7_init_4 rfl (lv_at hl 0 rfl) ?_
  refine lv_bipush (v := nI 8) hx hb dX7_init_5 (by decide) ?_
  refine lv_bipush (v := nI 58) hx hb dX7_init_7 (by decide) ?_
  refine jm_new hx hb hown (hts (.classLink RX7 13 "[[I") (by decide +kernel)) hM hK.1 rfl rfl hP hD hS hAA (Nat.le_of_ble_eq_true rfl) (Nat.le_of_ble_eq_true rfl) dX7_init_9 (fun q9 H locs hP hD hS => ?_)
  have hP : va_P (g.1, g.2.1) vwCl ((a, .inr (9, [.null, .null, .int (nI 0), .int (nI 0), .int (nI 0)])) :: (tl ++ [(q9, .inl (g.2.2.1 3, 8, .inr (.inr (.inr (.inr (fun i => if i < 8 then some (q9 + 1 + i) else none)))))), (q9 + 1 + 0, .inl (g.2.2.1 0, 58, .inl (fun _ => nI 0))), (q9 + 1 + 1, .inl (g.2.2.1 0, 58, .inl (fun _ => nI 0))), (q9 + 1 + 2, .inl (g.2.2.1 0, 58, .inl (fun _ => nI 0))), (q9 + 1 + 3, .inl (g.2.2.1 0, 58, .inl (fun _ => nI 0))), (q9 + 1 + 4, .inl (g.2.2.1 0, 58, .inl (fun _ => nI 0))), (q9 + 1 + 5, .inl (g.2.2.1 0, 58, .inl (fun _ => nI 0))), (q9 + 1 + 6, .inl (g.2.2.1 0, 58, .inl (fun _ => nI 0))), (q9 + 1 + 7, .inl (g.2.2.1 0, 58, .inl (fun _ => nI 0)))])) H := hP
  have hD : va_D A ((a, .inr (9, [.null, .null, .int (nI 0), .int (nI 0), .int (nI 0)])) :: (tl ++ [(q9, .inl (g.2.2.1 3, 8, .inr (.inr (.inr (.inr (fun i => if i < 8 then some (q9 + 1 + i) else none)))))), (q9 + 1 + 0, .inl (g.2.2.1 0, 58, .inl (fun _ => nI 0))), (q9 + 1 + 1, .inl (g.2.2.1 0, 58, .inl (fun _ => nI 0))), (q9 + 1 + 2, .inl (g.2.2.1 0, 58, .inl (fun _ => nI 0))), (q9 + 1 + 3, .inl (g.2.2.1 0, 58, .inl (fun _ => nI 0))), (q9 + 1 + 4, .inl (g.2.2.1 0, 58, .inl (fun _ => nI 0))), (q9 + 1 + 5, .inl (g.2.2.1 0, 58, .inl (fun _ => nI 0))), (q9 + 1 + 6, .inl (g.2.2.1 0, 58, .inl (fun _ => nI 0))), (q9 + 1 + 7, .inl (g.2.2.1 0, 58, .inl (fun _ => nI 0)))])) := hD
  refine va_putF (D := (g.1, g.2.1)) (ci := 9) (v := .ref q9) (ty := .array (.array .int)) (C := RX7) (T := TX7) (N := 5) hx hb hts iX7 tyX7 tyX7_ok nmX7 hown hK.1 hP hD hS 0 rfl rfl 0 (by decide) (hts (.fieldLink RX7 15 "JumpingAutomata$Memory" "ring" "[[I") (by decide +kernel)) (fun _ h9 => h9) rfl hin rfl (by decide +kernel) rfl rfl (Nat.le_of_ble_eq_true rfl) dX7_init_13 (fun H locs hP hD hS => ?_)
  have hP : va_P (g.1, g.2.1) vwCl ((a, .inr (9, [.ref q9, .null, .int (nI 0), .int (nI 0), .int (nI 0)])) :: (tl ++ [(q9, .inl (g.2.2.1 3, 8, .inr (.inr (.inr (.inr (fun i => if i < 8 then some (q9 + 1 + i) else none)))))), (q9 + 1 + 0, .inl (g.2.2.1 0, 58, .inl (fun _ => nI 0))), (q9 + 1 + 1, .inl (g.2.2.1 0, 58, .inl (fun _ => nI 0))), (q9 + 1 + 2, .inl (g.2.2.1 0, 58, .inl (fun _ => nI 0))), (q9 + 1 + 3, .inl (g.2.2.1 0, 58, .inl (fun _ => nI 0))), (q9 + 1 + 4, .inl (g.2.2.1 0, 58, .inl (fun _ => nI 0))), (q9 + 1 + 5, .inl (g.2.2.1 0, 58, .inl (fun _ => nI 0))), (q9 + 1 + 6, .inl (g.2.2.1 0, 58, .inl (fun _ => nI 0))), (q9 + 1 + 7, .inl (g.2.2.1 0, 58, .inl (fun _ => nI 0)))])) H := hP
  have hD : va_D A ((a, .inr (9, [.ref q9, .null, .int (nI 0), .int (nI 0), .int (nI 0)])) :: (tl ++ [(q9, .inl (g.2.2.1 3, 8, .inr (.inr (.inr (.inr (fun i => if i < 8 then some (q9 + 1 + i) else none)))))), (q9 + 1 + 0, .inl (g.2.2.1 0, 58, .inl (fun _ => nI 0))), (q9 + 1 + 1, .inl (g.2.2.1 0, 58, .inl (fun _ => nI 0))), (q9 + 1 + 2, .inl (g.2.2.1 0, 58, .inl (fun _ => nI 0))), (q9 + 1 + 3, .inl (g.2.2.1 0, 58, .inl (fun _ => nI 0))), (q9 + 1 + 4, .inl (g.2.2.1 0, 58, .inl (fun _ => nI 0))), (q9 + 1 + 5, .inl (g.2.2.1 0, 58, .inl (fun _ => nI 0))), (q9 + 1 + 6, .inl (g.2.2.1 0, 58, .inl (fun _ => nI 0))), (q9 + 1 + 7, .inl (g.2.2.1 0, 58, .inl (fun _ => nI 0)))])) := hD
  refine lv_aload_n hx hb dX7_init_16 rfl (lv_at hl 0 rfl) ?_
  refine lv_bipush (v := nI 58) hx hb dX7_init_17 (by decide) ?_
  refine jI_newa (atype := .int) (ty := .int) (a0 := (58, .inl (fun _ => nI 0))) hx hb (hts (.arrayClass .int) (by decide +kernel)) rfl hK.1 0 rfl hP hD hS hAA (fun _ => rfl) (by decide) (by decide) (Nat.le_of_ble_eq_true rfl) (Nat.le_of_ble_eq_true rfl) (Nat.le_of_ble_eq_true rfl) dX7_init_19 (fun q19 H hP hD hS => ?_)
  have hP : va_P (g.1, g.2.1) vwCl ((a, .inr (9, [.ref q9, .null, .int (nI 0), .int (nI 0), .int (nI 0)])) :: ((tl ++ [(q9, .inl (g.2.2.1 3, 8, .inr (.inr (.inr (.inr (fun i => if i < 8 then some (q9 + 1 + i) else none)))))), (q9 + 1 + 0, .inl (g.2.2.1 0, 58, .inl (fun _ => nI 0))), (q9 + 1 + 1, .inl (g.2.2.1 0, 58, .inl (fun _ => nI 0))), (q9 + 1 + 2, .inl (g.2.2.1 0, 58, .inl (fun _ => nI 0))), (q9 + 1 + 3, .inl (g.2.2.1 0, 58, .inl (fun _ => nI 0))), (q9 + 1 + 4, .inl (g.2.2.1 0, 58, .inl (fun _ => nI 0))), (q9 + 1 + 5, .inl (g.2.2.1 0, 58, .inl (fun _ => nI 0))), (q9 + 1 + 6, .inl (g.2.2.1 0, 58, .inl (fun _ => nI 0))), (q9 + 1 + 7, .inl (g.2.2.1 0, 58, .inl (fun _ => nI 0)))]) ++ [(q19, .inl (g.2.2.1 0, 58, .inl (fun _ => nI 0)))])) H := hP
  have hD : va_D A ((a, .inr (9, [.ref q9, .null, .int (nI 0), .int (nI 0), .int (nI 0)])) :: ((tl ++ [(q9, .inl (g.2.2.1 3, 8, .inr (.inr (.inr (.inr (fun i => if i < 8 then some (q9 + 1 + i) else none)))))), (q9 + 1 + 0, .inl (g.2.2.1 0, 58, .inl (fun _ => nI 0))), (q9 + 1 + 1, .inl (g.2.2.1 0, 58, .inl (fun _ => nI 0))), (q9 + 1 + 2, .inl (g.2.2.1 0, 58, .inl (fun _ => nI 0))), (q9 + 1 + 3, .inl (g.2.2.1 0, 58, .inl (fun _ => nI 0))), (q9 + 1 + 4, .inl (g.2.2.1 0, 58, .inl (fun _ => nI 0))), (q9 + 1 + 5, .inl (g.2.2.1 0, 58, .inl (fun _ => nI 0))), (q9 + 1 + 6, .inl (g.2.2.1 0, 58, .inl (fun _ => nI 0))), (q9 + 1 + 7, .inl (g.2.2.1 0, 58, .inl (fun _ => nI 0)))]) ++ [(q19, .inl (g.2.2.1 0, 58, .inl (fun _ => nI 0)))])) := hD
  refine va_putF (D := (g.1, g.2.1)) (ci := 9) (v := .ref q19) (ty := .array .int) (C := RX7) (T := TX7) (N := 5) hx hb hts iX7 tyX7 tyX7_ok nmX7 hown hK.1 hP hD hS 0 rfl rfl 1 (by decide) (hts (.fieldLink RX7 18 "JumpingAutomata$Memory" "kept" "[I") (by decide +kernel)) (fun _ h9 => h9) rfl hin rfl (by decide +kernel) rfl rfl (Nat.le_of_ble_eq_true rfl) dX7_init_21 (fun H locs hP hD hS => ?_)
  have hP : va_P (g.1, g.2.1) vwCl ((a, .inr (9, [.ref q9, .ref q19, .int (nI 0), .int (nI 0), .int (nI 0)])) :: ((tl ++ [(q9, .inl (g.2.2.1 3, 8, .inr (.inr (.inr (.inr (fun i => if i < 8 then some (q9 + 1 + i) else none)))))), (q9 + 1 + 0, .inl (g.2.2.1 0, 58, .inl (fun _ => nI 0))), (q9 + 1 + 1, .inl (g.2.2.1 0, 58, .inl (fun _ => nI 0))), (q9 + 1 + 2, .inl (g.2.2.1 0, 58, .inl (fun _ => nI 0))), (q9 + 1 + 3, .inl (g.2.2.1 0, 58, .inl (fun _ => nI 0))), (q9 + 1 + 4, .inl (g.2.2.1 0, 58, .inl (fun _ => nI 0))), (q9 + 1 + 5, .inl (g.2.2.1 0, 58, .inl (fun _ => nI 0))), (q9 + 1 + 6, .inl (g.2.2.1 0, 58, .inl (fun _ => nI 0))), (q9 + 1 + 7, .inl (g.2.2.1 0, 58, .inl (fun _ => nI 0)))]) ++ [(q19, .inl (g.2.2.1 0, 58, .inl (fun _ => nI 0)))])) H := hP
  have hD : va_D A ((a, .inr (9, [.ref q9, .ref q19, .int (nI 0), .int (nI 0), .int (nI 0)])) :: ((tl ++ [(q9, .inl (g.2.2.1 3, 8, .inr (.inr (.inr (.inr (fun i => if i < 8 then some (q9 + 1 + i) else none)))))), (q9 + 1 + 0, .inl (g.2.2.1 0, 58, .inl (fun _ => nI 0))), (q9 + 1 + 1, .inl (g.2.2.1 0, 58, .inl (fun _ => nI 0))), (q9 + 1 + 2, .inl (g.2.2.1 0, 58, .inl (fun _ => nI 0))), (q9 + 1 + 3, .inl (g.2.2.1 0, 58, .inl (fun _ => nI 0))), (q9 + 1 + 4, .inl (g.2.2.1 0, 58, .inl (fun _ => nI 0))), (q9 + 1 + 5, .inl (g.2.2.1 0, 58, .inl (fun _ => nI 0))), (q9 + 1 + 6, .inl (g.2.2.1 0, 58, .inl (fun _ => nI 0))), (q9 + 1 + 7, .inl (g.2.2.1 0, 58, .inl (fun _ => nI 0)))]) ++ [(q19, .inl (g.2.2.1 0, 58, .inl (fun _ => nI 0)))])) := hD
  refine lv_aload_n hx hb dX7_init_24 rfl (lv_at hl 0 rfl) ?_
  refine lv_iconst (v := nI 0) hx hb dX7_init_25 (by decide) ?_
  refine va_put (D := (g.1, g.2.1)) (ci := 9) (v := .int (nI 0)) (ty := .int) (C := RX7) (T := TX7) (N := 5) hx hb hts iX7 tyX7 tyX7_ok nmX7 hown hK.1 hP hD hS 0 rfl rfl 2 (by decide) (hts (.fieldLink RX7 22 "JumpingAutomata$Memory" "end" "I") (by decide +kernel)) (fun _ h9 => h9) rfl (by decide +kernel) rfl rfl (Nat.le_of_ble_eq_true rfl) dX7_init_26 (fun H locs hP hD hS => ?_)
  have hP : va_P (g.1, g.2.1) vwCl ((a, .inr (9, [.ref q9, .ref q19, .int (nI 0), .int (nI 0), .int (nI 0)])) :: ((tl ++ [(q9, .inl (g.2.2.1 3, 8, .inr (.inr (.inr (.inr (fun i => if i < 8 then some (q9 + 1 + i) else none)))))), (q9 + 1 + 0, .inl (g.2.2.1 0, 58, .inl (fun _ => nI 0))), (q9 + 1 + 1, .inl (g.2.2.1 0, 58, .inl (fun _ => nI 0))), (q9 + 1 + 2, .inl (g.2.2.1 0, 58, .inl (fun _ => nI 0))), (q9 + 1 + 3, .inl (g.2.2.1 0, 58, .inl (fun _ => nI 0))), (q9 + 1 + 4, .inl (g.2.2.1 0, 58, .inl (fun _ => nI 0))), (q9 + 1 + 5, .inl (g.2.2.1 0, 58, .inl (fun _ => nI 0))), (q9 + 1 + 6, .inl (g.2.2.1 0, 58, .inl (fun _ => nI 0))), (q9 + 1 + 7, .inl (g.2.2.1 0, 58, .inl (fun _ => nI 0)))]) ++ [(q19, .inl (g.2.2.1 0, 58, .inl (fun _ => nI 0)))])) H := hP
  have hD : va_D A ((a, .inr (9, [.ref q9, .ref q19, .int (nI 0), .int (nI 0), .int (nI 0)])) :: ((tl ++ [(q9, .inl (g.2.2.1 3, 8, .inr (.inr (.inr (.inr (fun i => if i < 8 then some (q9 + 1 + i) else none)))))), (q9 + 1 + 0, .inl (g.2.2.1 0, 58, .inl (fun _ => nI 0))), (q9 + 1 + 1, .inl (g.2.2.1 0, 58, .inl (fun _ => nI 0))), (q9 + 1 + 2, .inl (g.2.2.1 0, 58, .inl (fun _ => nI 0))), (q9 + 1 + 3, .inl (g.2.2.1 0, 58, .inl (fun _ => nI 0))), (q9 + 1 + 4, .inl (g.2.2.1 0, 58, .inl (fun _ => nI 0))), (q9 + 1 + 5, .inl (g.2.2.1 0, 58, .inl (fun _ => nI 0))), (q9 + 1 + 6, .inl (g.2.2.1 0, 58, .inl (fun _ => nI 0))), (q9 + 1 + 7, .inl (g.2.2.1 0, 58, .inl (fun _ => nI 0)))]) ++ [(q19, .inl (g.2.2.1 0, 58, .inl (fun _ => nI 0)))])) := hD
  refine lv_aload_n hx hb dX7_init_29 rfl (lv_at hl 0 rfl) ?_
  refine lv_iconst (v := nI 0) hx hb dX7_init_30 (by decide) ?_
  refine va_put (D := (g.1, g.2.1)) (ci := 9) (v := .int (nI 0)) (ty := .int) (C := RX7) (T := TX7) (N := 5) hx hb hts iX7 tyX7 tyX7_ok nmX7 hown hK.1 hP hD hS 0 rfl rfl 3 (by decide) (hts (.fieldLink RX7 26 "JumpingAutomata$Memory" "size" "I") (by decide +kernel)) (fun _ h9 => h9) rfl (by decide +kernel) rfl rfl (Nat.le_of_ble_eq_true rfl) dX7_init_31 (fun H locs hP hD hS => ?_)
  have hP : va_P (g.1, g.2.1) vwCl ((a, .inr (9, [.ref q9, .ref q19, .int (nI 0), .int (nI 0), .int (nI 0)])) :: ((tl ++ [(q9, .inl (g.2.2.1 3, 8, .inr (.inr (.inr (.inr (fun i => if i < 8 then some (q9 + 1 + i) else none)))))), (q9 + 1 + 0, .inl (g.2.2.1 0, 58, .inl (fun _ => nI 0))), (q9 + 1 + 1, .inl (g.2.2.1 0, 58, .inl (fun _ => nI 0))), (q9 + 1 + 2, .inl (g.2.2.1 0, 58, .inl (fun _ => nI 0))), (q9 + 1 + 3, .inl (g.2.2.1 0, 58, .inl (fun _ => nI 0))), (q9 + 1 + 4, .inl (g.2.2.1 0, 58, .inl (fun _ => nI 0))), (q9 + 1 + 5, .inl (g.2.2.1 0, 58, .inl (fun _ => nI 0))), (q9 + 1 + 6, .inl (g.2.2.1 0, 58, .inl (fun _ => nI 0))), (q9 + 1 + 7, .inl (g.2.2.1 0, 58, .inl (fun _ => nI 0)))]) ++ [(q19, .inl (g.2.2.1 0, 58, .inl (fun _ => nI 0)))])) H := hP
  have hD : va_D A ((a, .inr (9, [.ref q9, .ref q19, .int (nI 0), .int (nI 0), .int (nI 0)])) :: ((tl ++ [(q9, .inl (g.2.2.1 3, 8, .inr (.inr (.inr (.inr (fun i => if i < 8 then some (q9 + 1 + i) else none)))))), (q9 + 1 + 0, .inl (g.2.2.1 0, 58, .inl (fun _ => nI 0))), (q9 + 1 + 1, .inl (g.2.2.1 0, 58, .inl (fun _ => nI 0))), (q9 + 1 + 2, .inl (g.2.2.1 0, 58, .inl (fun _ => nI 0))), (q9 + 1 + 3, .inl (g.2.2.1 0, 58, .inl (fun _ => nI 0))), (q9 + 1 + 4, .inl (g.2.2.1 0, 58, .inl (fun _ => nI 0))), (q9 + 1 + 5, .inl (g.2.2.1 0, 58, .inl (fun _ => nI 0))), (q9 + 1 + 6, .inl (g.2.2.1 0, 58, .inl (fun _ => nI 0))), (q9 + 1 + 7, .inl (g.2.2.1 0, 58, .inl (fun _ => nI 0)))]) ++ [(q19, .inl (g.2.2.1 0, 58, .inl (fun _ => nI 0)))])) := hD
  refine lv_aload_n hx hb dX7_init_34 rfl (lv_at hl 0 rfl) ?_
  refine lv_iconst (v := nI 0) hx hb dX7_init_35 (by decide) ?_
  refine va_put (D := (g.1, g.2.1)) (ci := 9) (v := .int (nI 0)) (ty := .boolean) (C := RX7) (T := TX7) (N := 5) hx hb hts iX7 tyX7 tyX7_ok nmX7 hown hK.1 hP hD hS 0 rfl rfl 4 (by decide) (hts (.fieldLink RX7 29 "JumpingAutomata$Memory" "hasKept" "Z") (by decide +kernel)) (fun _ h9 => h9) rfl (by decide +kernel) jn_n0 jn_f0 (Nat.le_of_ble_eq_true rfl) dX7_init_36 (fun H locs hP hD hS => ?_)
  have hP : va_P (g.1, g.2.1) vwCl ((a, .inr (9, [.ref q9, .ref q19, .int (nI 0), .int (nI 0), .int (nI 0)])) :: ((tl ++ [(q9, .inl (g.2.2.1 3, 8, .inr (.inr (.inr (.inr (fun i => if i < 8 then some (q9 + 1 + i) else none)))))), (q9 + 1 + 0, .inl (g.2.2.1 0, 58, .inl (fun _ => nI 0))), (q9 + 1 + 1, .inl (g.2.2.1 0, 58, .inl (fun _ => nI 0))), (q9 + 1 + 2, .inl (g.2.2.1 0, 58, .inl (fun _ => nI 0))), (q9 + 1 + 3, .inl (g.2.2.1 0, 58, .inl (fun _ => nI 0))), (q9 + 1 + 4, .inl (g.2.2.1 0, 58, .inl (fun _ => nI 0))), (q9 + 1 + 5, .inl (g.2.2.1 0, 58, .inl (fun _ => nI 0))), (q9 + 1 + 6, .inl (g.2.2.1 0, 58, .inl (fun _ => nI 0))), (q9 + 1 + 7, .inl (g.2.2.1 0, 58, .inl (fun _ => nI 0)))]) ++ [(q19, .inl (g.2.2.1 0, 58, .inl (fun _ => nI 0)))])) H := hP
  have hD : va_D A ((a, .inr (9, [.ref q9, .ref q19, .int (nI 0), .int (nI 0), .int (nI 0)])) :: ((tl ++ [(q9, .inl (g.2.2.1 3, 8, .inr (.inr (.inr (.inr (fun i => if i < 8 then some (q9 + 1 + i) else none)))))), (q9 + 1 + 0, .inl (g.2.2.1 0, 58, .inl (fun _ => nI 0))), (q9 + 1 + 1, .inl (g.2.2.1 0, 58, .inl (fun _ => nI 0))), (q9 + 1 + 2, .inl (g.2.2.1 0, 58, .inl (fun _ => nI 0))), (q9 + 1 + 3, .inl (g.2.2.1 0, 58, .inl (fun _ => nI 0))), (q9 + 1 + 4, .inl (g.2.2.1 0, 58, .inl (fun _ => nI 0))), (q9 + 1 + 5, .inl (g.2.2.1 0, 58, .inl (fun _ => nI 0))), (q9 + 1 + 6, .inl (g.2.2.1 0, 58, .inl (fun _ => nI 0))), (q9 + 1 + 7, .inl (g.2.2.1 0, 58, .inl (fun _ => nI 0)))]) ++ [(q19, .inl (g.2.2.1 0, 58, .inl (fun _ => nI 0)))])) := hD
  exact hq _ _ _ _ _ _ (q9, q19) (Nat.le_of_ble_eq_true rfl) (Nat.le_of_ble_eq_true rfl) dX7_init_39 trivial hP hD hS

abbrev r_c_X1_init : Room := { frames := 1, cells := 2, slots := 55, locals := 12 }
set_option maxHeartbeats 8000000 in
set_option maxRecDepth 100000 in
theorem c_X1_init (l : Launch) (g : GC) (tl : va_W) (sz a : Nat) : Met l yX1_init wsX1_init r_c_X1_init (va_Pc [.ref a] (PI g ((a, .inr (3, [.null, .int (nI 0), .int (nI 0), .null, .int (nI 0)])) :: tl) sz)) (va_Qv (fun _ : Nat × Nat => True) (fun (z : Nat × Nat) t => BW g (va_A ((a, .inr (3, [.null, .int (nI 0), .int (nI 0), .null, .int (nI 0)])) :: tl) sz) ((fun z : Nat × Nat => match z with | (q7, q25) => ((a, .inr (3, [.ref q7, .int (nI 0), .int (nI 4294967295), .ref q25, .int (nI 0)])) :: ((tl ++ [(q7, .inl (g.2.2.1 0, 40, .inl (fun _ => nI 0)))]) ++ [(q25, .inl (g.2.2.1 0, 15, .inl (fun _ => nI 0)))]))) z) t) (va_A ((a, .inr (3, [.null, .int (nI 0), .int (nI 0), .null, .int (nI 0)])) :: tl) sz)) 2 55 (va_A ((a, .inr (3, [.null, .int (nI 0), .int (nI 0), .null, .int (nI 0)])) :: tl) sz) := by
  refine jI_v (y := yX1_init) (ws := wsX1_init) (av := [.ref a]) (g := g) (w0 := ((a, .inr (3, [.null, .int (nI 0), .int (nI 0), .null, .int (nI 0)])) :: tl)) (sz := sz) (post := fun _ : Nat × Nat => True) (wf := fun z : Nat × Nat => match z with | (q7, q25) => ((a, .inr (3, [.ref q7, .int (nI 0), .int (nI 4294967295), .ref q25, .int (nI 0)])) :: ((tl ++ [(q7, .inl (g.2.2.1 0, 40, .inl (fun _ => nI 0)))]) ++ [(q25, .inl (g.2.2.1 0, 15, .inl (fun _ => nI 0)))]))) (cc := cX1_init) (maxL := 1) (own := RX1) (by decide) rfl rfl rfl (Nat.le_of_ble_eq_true rfl) ?_
  intro p e s m below meth c Q A hx hb hml hown hts hin hK hM hP hD hS hAA hq ls hl
  obtain ⟨H, eH⟩ : ∃ z, z = s.heap := ⟨_, rfl⟩
  obtain ⟨locs, el⟩ : ∃ z : List Loc, z = [] := ⟨_, rfl⟩
  rw [← eH] at hP
  have hS : va_S A s.heap H locs := by rw [eH, el]; exact hS
  have goal0 : W p l e r_c_X1_init s m ([.ref a] : List Value).toArray below meth c H locs 0 0 Q (F0 m 0 ls []) → W p l e r_c_X1_init s m ([.ref a] : List Value).toArray below meth c s.heap [] 0 0 Q (F0 m 0 ls []) := fun h => by rw [eH, el] at h; exact h
  refine goal0 ?_
  have hl : lv_has ls 1 [(0, .ref a)] := hl
  have iX1 : ∀ w ∈ wsX10, w ∈ wsX1_init := by decide +kernel
  refine lv_aload_n hx hb dX1_init_0 rfl (lv_at hl 0 rfl) ?_
  refine W.objInit hx hb hown (hts (.methodLink RX1 3 objectInit) (by decide +kernel)) (hts (.instanceMethod objectInit) (by decide +kernel)) (hts (.code objectInit ⟨#[0xb1]⟩ 1 none) (List.mem_cons_of_mem _ (List.mem_append_left _ (List.mem_of_getElem? (i := 2) rfl)))) rfl (by rw [hml]; exact hl.1) rfl dX1_init_1 (Nat.le_of_ble_eq_true rfl) (Nat.le_of_ble_eq_true rfl) ?_
  refine W.eq (g2 := F0 m 4 ls []) rfl ?_
  refine lv_aload_n hx hb dX1_init_4 rfl (lv_at hl 0 rfl) ?_
  refine lv_bipush (v := nI 40) hx hb dX1_init_5 (by decide) ?_
  refine jI_newa (atype := .int) (ty := .int) (a0 := (40, .inl (fun _ => nI 0))) hx hb (hts (.arrayClass .int) (by decide +kernel)) rfl hK.1 0 rfl hP hD hS hAA (fun _ => rfl) (by decide) (by decide) (Nat.le_of_ble_eq_true rfl) (Nat.le_of_ble_eq_true rfl) (Nat.le_of_ble_eq_true rfl) dX1_init_7 (fun q7 H hP hD hS => ?_)
  have hP : va_P (g.1, g.2.1) vwCl ((a, .inr (3, [.null, .int (nI 0), .int (nI 0), .null, .int (nI 0)])) :: (tl ++ [(q7, .inl (g.2.2.1 0, 40, .inl (fun _ => nI 0)))])) H := hP
  have hD : va_D A ((a, .inr (3, [.null, .int (nI 0), .int (nI 0), .null, .int (nI 0)])) :: (tl ++ [(q7, .inl (g.2.2.1 0, 40, .inl (fun _ => nI 0)))])) := hD
  refine va_putF (D := (g.1, g.2.1)) (ci := 3) (v := .ref q7) (ty := .array .int) (C := RX1) (T := TX1) (N := 5) hx hb hts iX1 tyX1 tyX1_ok nmX1 hown hK.1 hP hD hS 0 rfl rfl 0 (by decide) (hts (.fieldLink RX1 11 "JumpingAutomata$AutomatonText" "signs" "[I") (by decide +kernel)) (fun _ h9 => h9) rfl hin rfl (by decide +kernel) rfl rfl (Nat.le_of_ble_eq_true rfl) dX1_init_9 (fun H locs hP hD hS => ?_)
  have hP : va_P (g.1, g.2.1) vwCl ((a, .inr (3, [.ref q7, .int (nI 0), .int (nI 0), .null, .int (nI 0)])) :: (tl ++ [(q7, .inl (g.2.2.1 0, 40, .inl (fun _ => nI 0)))])) H := hP
  have hD : va_D A ((a, .inr (3, [.ref q7, .int (nI 0), .int (nI 0), .null, .int (nI 0)])) :: (tl ++ [(q7, .inl (g.2.2.1 0, 40, .inl (fun _ => nI 0)))])) := hD
  refine lv_aload_n hx hb dX1_init_12 rfl (lv_at hl 0 rfl) ?_
  refine lv_iconst (v := nI 0) hx hb dX1_init_13 (by decide) ?_
  refine va_put (D := (g.1, g.2.1)) (ci := 3) (v := .int (nI 0)) (ty := .int) (C := RX1) (T := TX1) (N := 5) hx hb hts iX1 tyX1 tyX1_ok nmX1 hown hK.1 hP hD hS 0 rfl rfl 1 (by decide) (hts (.fieldLink RX1 15 "JumpingAutomata$AutomatonText" "size" "I") (by decide +kernel)) (fun _ h9 => h9) rfl (by decide +kernel) rfl rfl (Nat.le_of_ble_eq_true rfl) dX1_init_14 (fun H locs hP hD hS => ?_)
  have hP : va_P (g.1, g.2.1) vwCl ((a, .inr (3, [.ref q7, .int (nI 0), .int (nI 0), .null, .int (nI 0)])) :: (tl ++ [(q7, .inl (g.2.2.1 0, 40, .inl (fun _ => nI 0)))])) H := hP
  have hD : va_D A ((a, .inr (3, [.ref q7, .int (nI 0), .int (nI 0), .null, .int (nI 0)])) :: (tl ++ [(q7, .inl (g.2.2.1 0, 40, .inl (fun _ => nI 0)))])) := hD
  refine lv_aload_n hx hb dX1_init_17 rfl (lv_at hl 0 rfl) ?_
  refine lv_iconst (v := nI 4294967295) hx hb dX1_init_18 (by decide) ?_
  refine va_put (D := (g.1, g.2.1)) (ci := 3) (v := .int (nI 4294967295)) (ty := .int) (C := RX1) (T := TX1) (N := 5) hx hb hts iX1 tyX1 tyX1_ok nmX1 hown hK.1 hP hD hS 0 rfl rfl 2 (by decide) (hts (.fieldLink RX1 19 "JumpingAutomata$AutomatonText" "fault" "I") (by decide +kernel)) (fun _ h9 => h9) rfl (by decide +kernel) rfl rfl (Nat.le_of_ble_eq_true rfl) dX1_init_19 (fun H locs hP hD hS => ?_)
  have hP : va_P (g.1, g.2.1) vwCl ((a, .inr (3, [.ref q7, .int (nI 0), .int (nI 4294967295), .null, .int (nI 0)])) :: (tl ++ [(q7, .inl (g.2.2.1 0, 40, .inl (fun _ => nI 0)))])) H := hP
  have hD : va_D A ((a, .inr (3, [.ref q7, .int (nI 0), .int (nI 4294967295), .null, .int (nI 0)])) :: (tl ++ [(q7, .inl (g.2.2.1 0, 40, .inl (fun _ => nI 0)))])) := hD
  refine lv_aload_n hx hb dX1_init_22 rfl (lv_at hl 0 rfl) ?_
  refine lv_bipush (v := nI 15) hx hb dX1_init_23 (by decide) ?_
  refine jI_newa (atype := .int) (ty := .int) (a0 := (15, .inl (fun _ => nI 0))) hx hb (hts (.arrayClass .int) (by decide +kernel)) rfl hK.1 0 rfl hP hD hS hAA (fun _ => rfl) (by decide) (by decide) (Nat.le_of_ble_eq_true rfl) (Nat.le_of_ble_eq_true rfl) (Nat.le_of_ble_eq_true rfl) dX1_init_25 (fun q25 H hP hD hS => ?_)
  have hP : va_P (g.1, g.2.1) vwCl ((a, .inr (3, [.ref q7, .int (nI 0), .int (nI 4294967295), .null, .int (nI 0)])) :: ((tl ++ [(q7, .inl (g.2.2.1 0, 40, .inl (fun _ => nI 0)))]) ++ [(q25, .inl (g.2.2.1 0, 15, .inl (fun _ => nI 0)))])) H := hP
  have hD : va_D A ((a, .inr (3, [.ref q7, .int (nI 0), .int (nI 4294967295), .null, .int (nI 0)])) :: ((tl ++ [(q7, .inl (g.2.2.1 0, 40, .inl (fun _ => nI 0)))]) ++ [(q25, .inl (g.2.2.1 0, 15, .inl (fun _ => nI 0)))])) := hD
  refine va_putF (D := (g.1, g.2.1)) (ci := 3) (v := .ref q25) (ty := .array .int) (C := RX1) (T := TX1) (N := 5) hx hb hts iX1 tyX1 tyX1_ok nmX1 hown hK.1 hP hD hS 0 rfl rfl 3 (by decide) (hts (.fieldLink RX1 22 "JumpingAutomata$AutomatonText" "wanted" "[I") (by decide +kernel)) (fun _ h9 => h9) rfl hin rfl (by decide +kernel) rfl rfl (Nat.le_of_ble_eq_true rfl) dX1_init_27 (fun H locs hP hD hS => ?_)
  have hP : va_P (g.1, g.2.1) vwCl ((a, .inr (3, [.ref q7, .int (nI 0), .int (nI 4294967295), .ref q25, .int (nI 0)])) :: ((tl ++ [(q7, .inl (g.2.2.1 0, 40, .inl (fun _ => nI 0)))]) ++ [(q25, .inl (g.2.2.1 0, 15, .inl (fun _ => nI 0)))])) H := hP
  have hD : va_D A ((a, .inr (3, [.ref q7, .int (nI 0), .int (nI 4294967295), .ref q25, .int (nI 0)])) :: ((tl ++ [(q7, .inl (g.2.2.1 0, 40, .inl (fun _ => nI 0)))]) ++ [(q25, .inl (g.2.2.1 0, 15, .inl (fun _ => nI 0)))])) := hD
  refine lv_aload_n hx hb dX1_init_30 rfl (lv_at hl 0 rfl) ?_
  refine lv_iconst (v := nI 0) hx hb dX1_init_31 (by decide) ?_
  refine va_put (D := (g.1, g.2.1)) (ci := 3) (v := .int (nI 0)) (ty := .int) (C := RX1) (T := TX1) (N := 5) hx hb hts iX1 tyX1 tyX1_ok nmX1 hown hK.1 hP hD hS 0 rfl rfl 4 (by decide) (hts (.fieldLink RX1 25 "JumpingAutomata$AutomatonText" "wantedFinals" "I") (by decide +kernel)) (fun _ h9 => h9) rfl (by decide +kernel) rfl rfl (Nat.le_of_ble_eq_true rfl) dX1_init_32 (fun H locs hP hD hS => ?_)
  have hP : va_P (g.1, g.2.1) vwCl ((a, .inr (3, [.ref q7, .int (nI 0), .int (nI 4294967295), .ref q25, .int (nI 0)])) :: ((tl ++ [(q7, .inl (g.2.2.1 0, 40, .inl (fun _ => nI 0)))]) ++ [(q25, .inl (g.2.2.1 0, 15, .inl (fun _ => nI 0)))])) H := hP
  have hD : va_D A ((a, .inr (3, [.ref q7, .int (nI 0), .int (nI 4294967295), .ref q25, .int (nI 0)])) :: ((tl ++ [(q7, .inl (g.2.2.1 0, 40, .inl (fun _ => nI 0)))]) ++ [(q25, .inl (g.2.2.1 0, 15, .inl (fun _ => nI 0)))])) := hD
  exact hq _ _ _ _ _ _ (q7, q25) (Nat.le_of_ble_eq_true rfl) (Nat.le_of_ble_eq_true rfl) dX1_init_35 trivial hP hD hS

abbrev r_c_X5_init : Room := { frames := 1, cells := 1, slots := 1000, locals := 12 }
set_option maxHeartbeats 8000000 in
set_option maxRecDepth 100000 in
theorem c_X5_init (l : Launch) (g : GC) (tl : va_W) (sz a : Nat) : Met l yX5_init wsX5_init r_c_X5_init (va_Pc [.ref a] (PI g ((a, .inr (7, [.null])) :: tl) sz)) (va_Qv (fun _ : Nat => True) (fun (z : Nat) t => BW g (va_A ((a, .inr (7, [.null])) :: tl) sz) ((fun q8 : Nat => ((a, .inr (7, [.ref q8])) :: (tl ++ [(q8, .inl (g.2.2.1 0, 1000, .inl (fun _ => nI 0)))]))) z) t) (va_A ((a, .inr (7, [.null])) :: tl) sz)) 1 1000 (va_A ((a, .inr (7, [.null])) :: tl) sz) := by
  refine jI_v (y := yX5_init) (ws := wsX5_init) (av := [.ref a]) (g := g) (w0 := ((a, .inr (7, [.null])) :: tl)) (sz := sz) (post := fun _ : Nat => True) (wf := fun q8 : Nat => ((a, .inr (7, [.ref q8])) :: (tl ++ [(q8, .inl (g.2.2.1 0, 1000, .inl (fun _ => nI 0)))]))) (cc := cX5_init) (maxL := 1) (own := RX5) (by decide) rfl rfl rfl (Nat.le_of_ble_eq_true rfl) ?_
  intro p e s m below meth c Q A hx hb hml hown hts hin hK hM hP hD hS hAA hq ls hl
  obtain ⟨H, eH⟩ : ∃ z, z = s.heap := ⟨_, rfl⟩
  obtain ⟨locs, el⟩ : ∃ z : List Loc, z = [] := ⟨_, rfl⟩
  rw [← eH] at hP
  have hS : va_S A s.heap H locs := by rw [eH, el]; exact hS
  have goal0 : W p l e r_c_X5_init s m ([.ref a] : List Value).toArray below meth c H locs 0 0 Q (F0 m 0 ls []) → W p l e r_c_X5_init s m ([.ref a] : List Value).toArray below meth c s.heap [] 0 0 Q (F0 m 0 ls []) := fun h => by rw [eH, el] at h; exact h
  refine goal0 ?_
  have hl : lv_has ls 1 [(0, .ref a)] := hl
  have iX5 : ∀ w ∈ wsX50, w ∈ wsX5_init := by decide +kernel
  refine lv_aload_n hx hb dX5_init_0 rfl (lv_at hl 0 rfl) ?_
  refine W.objInit hx hb hown (hts (.methodLink RX5 3 objectInit) (by decide +kernel)) (hts (.instanceMethod objectInit) (by decide +kernel)) (hts (.code objectInit ⟨#[0xb1]⟩ 1 none) (List.mem_cons_of_mem _ (List.mem_append_left _ (List.mem_of_getElem? (i := 2) rfl)))) rfl (by rw [hml]; exact hl.1) rfl dX5_init_1 (Nat.le_of_ble_eq_true rfl) (Nat.le_of_ble_eq_true rfl) ?_
  refine W.eq (g2 := F0 m 4 ls []) rfl ?_
  refine lv_aload_n hx hb dX5_init_4 rfl (lv_at hl 0 rfl) ?_
  refine lv_sipush (v := nI 1000) hx hb dX5_init_5 (by decide) ?_
  refine jI_newa (atype := .int) (ty := .int) (a0 := (1000, .inl (fun _ => nI 0))) hx hb (hts (.arrayClass .int) (by decide +kernel)) rfl hK.1 0 rfl hP hD hS hAA (fun _ => rfl) (by decide) (by decide) (Nat.le_of_ble_eq_true rfl) (Nat.le_of_ble_eq_true rfl) (Nat.le_of_ble_eq_true rfl) dX5_init_8 (fun q8 H hP hD hS => ?_)
  have hP : va_P (g.1, g.2.1) vwCl ((a, .inr (7, [.null])) :: (tl ++ [(q8, .inl (g.2.2.1 0, 1000, .inl (fun _ => nI 0)))])) H := hP
  have hD : va_D A ((a, .inr (7, [.null])) :: (tl ++ [(q8, .inl (g.2.2.1 0, 1000, .inl (fun _ => nI 0)))])) := hD
  refine va_putF (D := (g.1, g.2.1)) (ci := 7) (v := .ref q8) (ty := .array .int) (C := RX5) (T := TX5) (N := 1) hx hb hts iX5 tyX5 tyX5_ok nmX5 hown hK.1 hP hD hS 0 rfl rfl 0 (by decide) (hts (.fieldLink RX5 9 "JumpingAutomata$CountsTable" "masks" "[I") (by decide +kernel)) (fun _ h9 => h9) rfl hin rfl (by decide +kernel) rfl rfl (Nat.le_of_ble_eq_true rfl) dX5_init_10 (fun H locs hP hD hS => ?_)
  have hP : va_P (g.1, g.2.1) vwCl ((a, .inr (7, [.ref q8])) :: (tl ++ [(q8, .inl (g.2.2.1 0, 1000, .inl (fun _ => nI 0)))])) H := hP
  have hD : va_D A ((a, .inr (7, [.ref q8])) :: (tl ++ [(q8, .inl (g.2.2.1 0, 1000, .inl (fun _ => nI 0)))])) := hD
  exact hq _ _ _ _ _ _ (q8) (Nat.le_of_ble_eq_true rfl) (Nat.le_of_ble_eq_true rfl) dX5_init_13 trivial hP hD hS

abbrev r_c_X4_init : Room := { frames := 1, cells := 1, slots := 56, locals := 12 }
set_option maxHeartbeats 8000000 in
set_option maxRecDepth 100000 in
theorem c_X4_init (l : Launch) (g : GC) (tl : va_W) (sz a : Nat) : Met l yX4_init wsX4_init r_c_X4_init (va_Pc [.ref a] (PI g ((a, .inr (6, [.null, .int (nI 0)])) :: tl) sz)) (va_Qv (fun _ : Nat => True) (fun (z : Nat) t => BW g (va_A ((a, .inr (6, [.null, .int (nI 0)])) :: tl) sz) ((fun q7 : Nat => ((a, .inr (6, [.ref q7, .int (nI 0)])) :: (tl ++ [(q7, .inl (g.2.2.1 0, 56, .inl (fun _ => nI 0)))]))) z) t) (va_A ((a, .inr (6, [.null, .int (nI 0)])) :: tl) sz)) 1 56 (va_A ((a, .inr (6, [.null, .int (nI 0)])) :: tl) sz) := by
  refine jI_v (y := yX4_init) (ws := wsX4_init) (av := [.ref a]) (g := g) (w0 := ((a, .inr (6, [.null, .int (nI 0)])) :: tl)) (sz := sz) (post := fun _ : Nat => True) (wf := fun q7 : Nat => ((a, .inr (6, [.ref q7, .int (nI 0)])) :: (tl ++ [(q7, .inl (g.2.2.1 0, 56, .inl (fun _ => nI 0)))]))) (cc := cX4_init) (maxL := 1) (own := RX4) (by decide) rfl rfl rfl (Nat.le_of_ble_eq_true rfl) ?_
  intro p e s m below meth c Q A hx hb hml hown hts hin hK hM hP hD hS hAA hq ls hl
  obtain ⟨H, eH⟩ : ∃ z, z = s.heap := ⟨_, rfl⟩
  obtain ⟨locs, el⟩ : ∃ z : List Loc, z = [] := ⟨_, rfl⟩
  rw [← eH] at hP
  have hS : va_S A s.heap H locs := by rw [eH, el]; exact hS
  have goal0 : W p l e r_c_X4_init s m ([.ref a] : List Value).toArray below meth c H locs 0 0 Q (F0 m 0 ls []) → W p l e r_c_X4_init s m ([.ref a] : List Value).toArray below meth c s.heap [] 0 0 Q (F0 m 0 ls []) := fun h => by rw [eH, el] at h; exact h
  refine goal0 ?_
  have hl : lv_has ls 1 [(0, .ref a)] := hl
  have iX4 : ∀ w ∈ wsX40, w ∈ wsX4_init := by decide +kernel
  refine lv_aload_n hx hb dX4_init_0 rfl (lv_at hl 0 rfl) ?_
  refine W.objInit hx hb hown (hts (.methodLink RX4 1 objectInit) (by decide +kernel)) (hts (.instanceMethod objectInit) (by decide +kernel)) (hts (.code objectInit ⟨#[0xb1]⟩ 1 none) (List.mem_cons_of_mem _ (List.mem_append_left _ (List.mem_of_getElem? (i := 2) rfl)))) rfl (by rw [hml]; exact hl.1) rfl dX4_init_1 (Nat.le_of_ble_eq_true rfl) (Nat.le_of_ble_eq_true rfl) ?_
  refine W.eq (g2 := F0 m 4 ls []) rfl ?_
  refine lv_aload_n hx hb dX4_init_4 rfl (lv_at hl 0 rfl) ?_
  refine lv_bipush (v := nI 56) hx hb dX4_init_5 (by decide) ?_
  refine jI_newa (atype := .int) (ty := .int) (a0 := (56, .inl (fun _ => nI 0))) hx hb (hts (.arrayClass .int) (by decide +kernel)) rfl hK.1 0 rfl hP hD hS hAA (fun _ => rfl) (by decide) (by decide) (Nat.le_of_ble_eq_true rfl) (Nat.le_of_ble_eq_true rfl) (Nat.le_of_ble_eq_true rfl) dX4_init_7 (fun q7 H hP hD hS => ?_)
  have hP : va_P (g.1, g.2.1) vwCl ((a, .inr (6, [.null, .int (nI 0)])) :: (tl ++ [(q7, .inl (g.2.2.1 0, 56, .inl (fun _ => nI 0)))])) H := hP
  have hD : va_D A ((a, .inr (6, [.null, .int (nI 0)])) :: (tl ++ [(q7, .inl (g.2.2.1 0, 56, .inl (fun _ => nI 0)))])) := hD
  refine va_putF (D := (g.1, g.2.1)) (ci := 6) (v := .ref q7) (ty := .array .int) (C := RX4) (T := TX4) (N := 2) hx hb hts iX4 tyX4 tyX4_ok nmX4 hown hK.1 hP hD hS 0 rfl rfl 0 (by decide) (hts (.fieldLink RX4 9 "JumpingAutomata$CountsList" "codes" "[I") (by decide +kernel)) (fun _ h9 => h9) rfl hin rfl (by decide +kernel) rfl rfl (Nat.le_of_ble_eq_true rfl) dX4_init_9 (fun H locs hP hD hS => ?_)
  have hP : va_P (g.1, g.2.1) vwCl ((a, .inr (6, [.ref q7, .int (nI 0)])) :: (tl ++ [(q7, .inl (g.2.2.1 0, 56, .inl (fun _ => nI 0)))])) H := hP
  have hD : va_D A ((a, .inr (6, [.ref q7, .int (nI 0)])) :: (tl ++ [(q7, .inl (g.2.2.1 0, 56, .inl (fun _ => nI 0)))])) := hD
  refine lv_aload_n hx hb dX4_init_12 rfl (lv_at hl 0 rfl) ?_
  refine lv_iconst (v := nI 0) hx hb dX4_init_13 (by decide) ?_
  refine va_put (D := (g.1, g.2.1)) (ci := 6) (v := .int (nI 0)) (ty := .int) (C := RX4) (T := TX4) (N := 2) hx hb hts iX4 tyX4 tyX4_ok nmX4 hown hK.1 hP hD hS 0 rfl rfl 1 (by decide) (hts (.fieldLink RX4 13 "JumpingAutomata$CountsList" "size" "I") (by decide +kernel)) (fun _ h9 => h9) rfl (by decide +kernel) rfl rfl (Nat.le_of_ble_eq_true rfl) dX4_init_14 (fun H locs hP hD hS => ?_)
  have hP : va_P (g.1, g.2.1) vwCl ((a, .inr (6, [.ref q7, .int (nI 0)])) :: (tl ++ [(q7, .inl (g.2.2.1 0, 56, .inl (fun _ => nI 0)))])) H := hP
  have hD : va_D A ((a, .inr (6, [.ref q7, .int (nI 0)])) :: (tl ++ [(q7, .inl (g.2.2.1 0, 56, .inl (fun _ => nI 0)))])) := hD
  exact hq _ _ _ _ _ _ (q7) (Nat.le_of_ble_eq_true rfl) (Nat.le_of_ble_eq_true rfl) dX4_init_17 trivial hP hD hS

abbrev r_c_X6_init : Room := { frames := 1, cells := 0, slots := 0, locals := 12 }
set_option maxHeartbeats 8000000 in
set_option maxRecDepth 100000 in
theorem c_X6_init (l : Launch) (g : GC) (tl : va_W) (sz a : Nat) : Met l yX6_init wsX6_init r_c_X6_init (va_Pc [.ref a] (PI g ((a, .inr (8, [.int (nI 0)])) :: tl) sz)) (va_Qv (fun _ : Unit => True) (fun (z : Unit) t => BW g (va_A ((a, .inr (8, [.int (nI 0)])) :: tl) sz) ((fun _ : Unit => ((a, .inr (8, [.int (nI 0)])) :: tl)) z) t) (va_A ((a, .inr (8, [.int (nI 0)])) :: tl) sz)) 0 0 (va_A ((a, .inr (8, [.int (nI 0)])) :: tl) sz) := by
  refine jI_v (y := yX6_init) (ws := wsX6_init) (av := [.ref a]) (g := g) (w0 := ((a, .inr (8, [.int (nI 0)])) :: tl)) (sz := sz) (post := fun _ : Unit => True) (wf := fun _ : Unit => ((a, .inr (8, [.int (nI 0)])) :: tl)) (cc := cX6_init) (maxL := 1) (own := RX6) (by decide) rfl rfl rfl (Nat.le_of_ble_eq_true rfl) ?_
  intro p e s m below meth c Q A hx hb hml hown hts hin hK hM hP hD hS hAA hq ls hl
  obtain ⟨H, eH⟩ : ∃ z, z = s.heap := ⟨_, rfl⟩
  obtain ⟨locs, el⟩ : ∃ z : List Loc, z = [] := ⟨_, rfl⟩
  rw [← eH] at hP
  have hS : va_S A s.heap H locs := by rw [eH, el]; exact hS
  have goal0 : W p l e r_c_X6_init s m ([.ref a] : List Value).toArray below meth c H locs 0 0 Q (F0 m 0 ls []) → W p l e r_c_X6_init s m ([.ref a] : List Value).toArray below meth c s.heap [] 0 0 Q (F0 m 0 ls []) := fun h => by rw [eH, el] at h; exact h
  refine goal0 ?_
  have hl : lv_has ls 1 [(0, .ref a)] := hl
  have iX6 : ∀ w ∈ wsX60, w ∈ wsX6_init := by decide +kernel
  refine lv_aload_n hx hb dX6_init_0 rfl (lv_at hl 0 rfl) ?_
  refine W.objInit hx hb hown (hts (.methodLink RX6 3 objectInit) (by decide +kernel)) (hts (.instanceMethod objectInit) (by decide +kernel)) (hts (.code objectInit ⟨#[0xb1]⟩ 1 none) (List.mem_cons_of_mem _ (List.mem_append_left _ (List.mem_of_getElem? (i := 2) rfl)))) rfl (by rw [hml]; exact hl.1) rfl dX6_init_1 (Nat.le_of_ble_eq_true rfl) (Nat.le_of_ble_eq_true rfl) ?_
  refine W.eq (g2 := F0 m 4 ls []) rfl ?_
  refine lv_aload_n hx hb dX6_init_4 rfl (lv_at hl 0 rfl) ?_
  refine lv_iconst (v := nI 0) hx hb dX6_init_5 (by decide) ?_
  refine va_put (D := (g.1, g.2.1)) (ci := 8) (v := .int (nI 0)) (ty := .int) (C := RX6) (T := TX6) (N := 1) hx hb hts iX6 tyX6 tyX6_ok nmX6 hown hK.1 hP hD hS 0 rfl rfl 0 (by decide) (hts (.fieldLink RX6 9 "JumpingAutomata$CycleFinder" "start" "I") (by decide +kernel)) (fun _ h9 => h9) rfl (by decide +kernel) rfl rfl (Nat.le_of_ble_eq_true rfl) dX6_init_6 (fun H locs hP hD hS => ?_)
  have hP : va_P (g.1, g.2.1) vwCl ((a, .inr (8, [.int (nI 0)])) :: tl) H := hP
  have hD : va_D A ((a, .inr (8, [.int (nI 0)])) :: tl) := hD
  exact hq _ _ _ _ _ _ () (Nat.le_of_ble_eq_true rfl) (Nat.le_of_ble_eq_true rfl) dX6_init_9 trivial hP hD hS

abbrev r_c_X9_init : Room := { frames := 1, cells := 4, slots := 75, locals := 12 }
set_option maxHeartbeats 8000000 in
set_option maxRecDepth 100000 in
theorem c_X9_init (l : Launch) (g : GC) (tl : va_W) (sz a : Nat) : Met l yX9_init wsX9_init r_c_X9_init (va_Pc [.ref a] (PI g ((a, .inr (11, [.null, .null, .int (nI 0), .int (nI 0), .int (nI 0), .null, .null])) :: tl) sz)) (va_Qv (fun _ : Nat × Nat × Nat × Nat => True) (fun (z : Nat × Nat × Nat × Nat) t => BW g (va_A ((a, .inr (11, [.null, .null, .int (nI 0), .int (nI 0), .int (nI 0), .null, .null])) :: tl) sz) ((fun z : Nat × Nat × Nat × Nat => match z with | (q7, q14, q37, q45) => ((a, .inr (11, [.ref q7, .ref q14, .int (nI 0), .int (nI 0), .int (nI 0), .ref q37, .ref q45])) :: ((((tl ++ [(q7, .inl (g.2.2.1 0, 8, .inl (fun _ => nI 0)))]) ++ [(q14, .inl (g.2.2.1 0, 3, .inl (fun _ => nI 0)))]) ++ [(q37, .inl (g.2.2.1 1, 32, .inr (.inl (fun _ => lN 0))))]) ++ [(q45, .inl (g.2.2.1 1, 32, .inr (.inl (fun _ => lN 0))))]))) z) t) (va_A ((a, .inr (11, [.null, .null, .int (nI 0), .int (nI 0), .int (nI 0), .null, .null])) :: tl) sz)) 4 75 (va_A ((a, .inr (11, [.null, .null, .int (nI 0), .int (nI 0), .int (nI 0), .null, .null])) :: tl) sz) := by
  refine jI_v (y := yX9_init) (ws := wsX9_init) (av := [.ref a]) (g := g) (w0 := ((a, .inr (11, [.null, .null, .int (nI 0), .int (nI 0), .int (nI 0), .null, .null])) :: tl)) (sz := sz) (post := fun _ : Nat × Nat × Nat × Nat => True) (wf := fun z : Nat × Nat × Nat × Nat => match z with | (q7, q14, q37, q45) => ((a, .inr (11, [.ref q7, .ref q14, .int (nI 0), .int (nI 0), .int (nI 0), .ref q37, .ref q45])) :: ((((tl ++ [(q7, .inl (g.2.2.1 0, 8, .inl (fun _ => nI 0)))]) ++ [(q14, .inl (g.2.2.1 0, 3, .inl (fun _ => nI 0)))]) ++ [(q37, .inl (g.2.2.1 1, 32, .inr (.inl (fun _ => lN 0))))]) ++ [(q45, .inl (g.2.2.1 1, 32, .inr (.inl (fun _ => lN 0))))]))) (cc := cX9_init) (maxL := 1) (own := RX9) (by decide) rfl rfl rfl (Nat.le_of_ble_eq_true rfl) ?_
  intro p e s m below meth c Q A hx hb hml hown hts hin hK hM hP hD hS hAA hq ls hl
  obtain ⟨H, eH⟩ : ∃ z, z = s.heap := ⟨_, rfl⟩
  obtain ⟨locs, el⟩ : ∃ z : List Loc, z = [] := ⟨_, rfl⟩
  rw [← eH] at hP
  have hS : va_S A s.heap H locs := by rw [eH, el]; exact hS
  have goal0 : W p l e r_c_X9_init s m ([.ref a] : List Value).toArray below meth c H locs 0 0 Q (F0 m 0 ls []) → W p l e r_c_X9_init s m ([.ref a] : List Value).toArray below meth c s.heap [] 0 0 Q (F0 m 0 ls []) := fun h => by rw [eH, el] at h; exact h
  refine goal0 ?_
  have hl : lv_has ls 1 [(0, .ref a)] := hl
  have iX9 : ∀ w ∈ wsX90, w ∈ wsX9_init := by decide +kernel
  refine lv_aload_n hx hb dX9_init_0 rfl (lv_at hl 0 rfl) ?_
  refine W.objInit hx hb hown (hts (.methodLink RX9 3 objectInit) (by decide +kernel)) (hts (.instanceMethod objectInit) (by decide +kernel)) (hts (.code objectInit ⟨#[0xb1]⟩ 1 none) (List.mem_cons_of_mem _ (List.mem_append_left _ (List.mem_of_getElem? (i := 2) rfl)))) rfl (by rw [hml]; exact hl.1) rfl dX9_init_1 (Nat.le_of_ble_eq_true rfl) (Nat.le_of_ble_eq_true rfl) ?_
  refine W.eq (g2 := F0 m 4 ls []) rfl ?_
  refine lv_aload_n hx hb dX9_init_4 rfl (lv_at hl 0 rfl) ?_
  refine lv_bipush (v := nI 8) hx hb dX9_init_5 (by decide) ?_
  refine jI_newa (atype := .int) (ty := .int) (a0 := (8, .inl (fun _ => nI 0))) hx hb (hts (.arrayClass .int) (by decide +kernel)) rfl hK.1 0 rfl hP hD hS hAA (fun _ => rfl) (by decide) (by decide) (Nat.le_of_ble_eq_true rfl) (Nat.le_of_ble_eq_true rfl) (Nat.le_of_ble_eq_true rfl) dX9_init_7 (fun q7 H hP hD hS => ?_)
  have hP : va_P (g.1, g.2.1) vwCl ((a, .inr (11, [.null, .null, .int (nI 0), .int (nI 0), .int (nI 0), .null, .null])) :: (tl ++ [(q7, .inl (g.2.2.1 0, 8, .inl (fun _ => nI 0)))])) H := hP
  have hD : va_D A ((a, .inr (11, [.null, .null, .int (nI 0), .int (nI 0), .int (nI 0), .null, .null])) :: (tl ++ [(q7, .inl (g.2.2.1 0, 8, .inl (fun _ => nI 0)))])) := hD
  refine va_putF (D := (g.1, g.2.1)) (ci := 11) (v := .ref q7) (ty := .array .int) (C := RX9) (T := TX9) (N := 7) hx hb hts iX9 tyX9 tyX9_ok nmX9 hown hK.1 hP hD hS 0 rfl rfl 0 (by decide) (hts (.fieldLink RX9 9 "JumpingAutomata$WordSearch" "letters" "[I") (by decide +kernel)) (fun _ h9 => h9) rfl hin rfl (by decide +kernel) rfl rfl (Nat.le_of_ble_eq_true rfl) dX9_init_9 (fun H locs hP hD hS => ?_)
  have hP : va_P (g.1, g.2.1) vwCl ((a, .inr (11, [.ref q7, .null, .int (nI 0), .int (nI 0), .int (nI 0), .null, .null])) :: (tl ++ [(q7, .inl (g.2.2.1 0, 8, .inl (fun _ => nI 0)))])) H := hP
  have hD : va_D A ((a, .inr (11, [.ref q7, .null, .int (nI 0), .int (nI 0), .int (nI 0), .null, .null])) :: (tl ++ [(q7, .inl (g.2.2.1 0, 8, .inl (fun _ => nI 0)))])) := hD
  refine lv_aload_n hx hb dX9_init_12 rfl (lv_at hl 0 rfl) ?_
  refine lv_iconst (v := nI 3) hx hb dX9_init_13 (by decide) ?_
  refine jI_newa (atype := .int) (ty := .int) (a0 := (3, .inl (fun _ => nI 0))) hx hb (hts (.arrayClass .int) (by decide +kernel)) rfl hK.1 0 rfl hP hD hS hAA (fun _ => rfl) (by decide) (by decide) (Nat.le_of_ble_eq_true rfl) (Nat.le_of_ble_eq_true rfl) (Nat.le_of_ble_eq_true rfl) dX9_init_14 (fun q14 H hP hD hS => ?_)
  have hP : va_P (g.1, g.2.1) vwCl ((a, .inr (11, [.ref q7, .null, .int (nI 0), .int (nI 0), .int (nI 0), .null, .null])) :: ((tl ++ [(q7, .inl (g.2.2.1 0, 8, .inl (fun _ => nI 0)))]) ++ [(q14, .inl (g.2.2.1 0, 3, .inl (fun _ => nI 0)))])) H := hP
  have hD : va_D A ((a, .inr (11, [.ref q7, .null, .int (nI 0), .int (nI 0), .int (nI 0), .null, .null])) :: ((tl ++ [(q7, .inl (g.2.2.1 0, 8, .inl (fun _ => nI 0)))]) ++ [(q14, .inl (g.2.2.1 0, 3, .inl (fun _ => nI 0)))])) := hD
  refine va_putF (D := (g.1, g.2.1)) (ci := 11) (v := .ref q14) (ty := .array .int) (C := RX9) (T := TX9) (N := 7) hx hb hts iX9 tyX9 tyX9_ok nmX9 hown hK.1 hP hD hS 0 rfl rfl 1 (by decide) (hts (.fieldLink RX9 15 "JumpingAutomata$WordSearch" "left" "[I") (by decide +kernel)) (fun _ h9 => h9) rfl hin rfl (by decide +kernel) rfl rfl (Nat.le_of_ble_eq_true rfl) dX9_init_16 (fun H locs hP hD hS => ?_)
  have hP : va_P (g.1, g.2.1) vwCl ((a, .inr (11, [.ref q7, .ref q14, .int (nI 0), .int (nI 0), .int (nI 0), .null, .null])) :: ((tl ++ [(q7, .inl (g.2.2.1 0, 8, .inl (fun _ => nI 0)))]) ++ [(q14, .inl (g.2.2.1 0, 3, .inl (fun _ => nI 0)))])) H := hP
  have hD : va_D A ((a, .inr (11, [.ref q7, .ref q14, .int (nI 0), .int (nI 0), .int (nI 0), .null, .null])) :: ((tl ++ [(q7, .inl (g.2.2.1 0, 8, .inl (fun _ => nI 0)))]) ++ [(q14, .inl (g.2.2.1 0, 3, .inl (fun _ => nI 0)))])) := hD
  refine lv_aload_n hx hb dX9_init_19 rfl (lv_at hl 0 rfl) ?_
  refine lv_iconst (v := nI 0) hx hb dX9_init_20 (by decide) ?_
  refine va_put (D := (g.1, g.2.1)) (ci := 11) (v := .int (nI 0)) (ty := .int) (C := RX9) (T := TX9) (N := 7) hx hb hts iX9 tyX9 tyX9_ok nmX9 hown hK.1 hP hD hS 0 rfl rfl 2 (by decide) (hts (.fieldLink RX9 18 "JumpingAutomata$WordSearch" "length" "I") (by decide +kernel)) (fun _ h9 => h9) rfl (by decide +kernel) rfl rfl (Nat.le_of_ble_eq_true rfl) dX9_init_21 (fun H locs hP hD hS => ?_)
  have hP : va_P (g.1, g.2.1) vwCl ((a, .inr (11, [.ref q7, .ref q14, .int (nI 0), .int (nI 0), .int (nI 0), .null, .null])) :: ((tl ++ [(q7, .inl (g.2.2.1 0, 8, .inl (fun _ => nI 0)))]) ++ [(q14, .inl (g.2.2.1 0, 3, .inl (fun _ => nI 0)))])) H := hP
  have hD : va_D A ((a, .inr (11, [.ref q7, .ref q14, .int (nI 0), .int (nI 0), .int (nI 0), .null, .null])) :: ((tl ++ [(q7, .inl (g.2.2.1 0, 8, .inl (fun _ => nI 0)))]) ++ [(q14, .inl (g.2.2.1 0, 3, .inl (fun _ => nI 0)))])) := hD
  refine lv_aload_n hx hb dX9_init_24 rfl (lv_at hl 0 rfl) ?_
  refine lv_iconst (v := nI 0) hx hb dX9_init_25 (by decide) ?_
  refine va_put (D := (g.1, g.2.1)) (ci := 11) (v := .int (nI 0)) (ty := .int) (C := RX9) (T := TX9) (N := 7) hx hb hts iX9 tyX9 tyX9_ok nmX9 hown hK.1 hP hD hS 0 rfl rfl 3 (by decide) (hts (.fieldLink RX9 22 "JumpingAutomata$WordSearch" "seen" "I") (by decide +kernel)) (fun _ h9 => h9) rfl (by decide +kernel) rfl rfl (Nat.le_of_ble_eq_true rfl) dX9_init_26 (fun H locs hP hD hS => ?_)
  have hP : va_P (g.1, g.2.1) vwCl ((a, .inr (11, [.ref q7, .ref q14, .int (nI 0), .int (nI 0), .int (nI 0), .null, .null])) :: ((tl ++ [(q7, .inl (g.2.2.1 0, 8, .inl (fun _ => nI 0)))]) ++ [(q14, .inl (g.2.2.1 0, 3, .inl (fun _ => nI 0)))])) H := hP
  have hD : va_D A ((a, .inr (11, [.ref q7, .ref q14, .int (nI 0), .int (nI 0), .int (nI 0), .null, .null])) :: ((tl ++ [(q7, .inl (g.2.2.1 0, 8, .inl (fun _ => nI 0)))]) ++ [(q14, .inl (g.2.2.1 0, 3, .inl (fun _ => nI 0)))])) := hD
  refine lv_aload_n hx hb dX9_init_29 rfl (lv_at hl 0 rfl) ?_
  refine lv_iconst (v := nI 0) hx hb dX9_init_30 (by decide) ?_
  refine va_put (D := (g.1, g.2.1)) (ci := 11) (v := .int (nI 0)) (ty := .int) (C := RX9) (T := TX9) (N := 7) hx hb hts iX9 tyX9 tyX9_ok nmX9 hown hK.1 hP hD hS 0 rfl rfl 4 (by decide) (hts (.fieldLink RX9 25 "JumpingAutomata$WordSearch" "wanted" "I") (by decide +kernel)) (fun _ h9 => h9) rfl (by decide +kernel) rfl rfl (Nat.le_of_ble_eq_true rfl) dX9_init_31 (fun H locs hP hD hS => ?_)
  have hP : va_P (g.1, g.2.1) vwCl ((a, .inr (11, [.ref q7, .ref q14, .int (nI 0), .int (nI 0), .int (nI 0), .null, .null])) :: ((tl ++ [(q7, .inl (g.2.2.1 0, 8, .inl (fun _ => nI 0)))]) ++ [(q14, .inl (g.2.2.1 0, 3, .inl (fun _ => nI 0)))])) H := hP
  have hD : va_D A ((a, .inr (11, [.ref q7, .ref q14, .int (nI 0), .int (nI 0), .int (nI 0), .null, .null])) :: ((tl ++ [(q7, .inl (g.2.2.1 0, 8, .inl (fun _ => nI 0)))]) ++ [(q14, .inl (g.2.2.1 0, 3, .inl (fun _ => nI 0)))])) := hD
  refine lv_aload_n hx hb dX9_init_34 rfl (lv_at hl 0 rfl) ?_
  refine lv_bipush (v := nI 32) hx hb dX9_init_35 (by decide) ?_
  refine jI_newa (atype := .long) (ty := .long) (a0 := (32, .inr (.inl (fun _ => lN 0)))) hx hb (hts (.arrayClass .long) (by decide +kernel)) rfl hK.1 1 rfl hP hD hS hAA (fun _ => rfl) (by decide) (by decide) (Nat.le_of_ble_eq_true rfl) (Nat.le_of_ble_eq_true rfl) (Nat.le_of_ble_eq_true rfl) dX9_init_37 (fun q37 H hP hD hS => ?_)
  have hP : va_P (g.1, g.2.1) vwCl ((a, .inr (11, [.ref q7, .ref q14, .int (nI 0), .int (nI 0), .int (nI 0), .null, .null])) :: (((tl ++ [(q7, .inl (g.2.2.1 0, 8, .inl (fun _ => nI 0)))]) ++ [(q14, .inl (g.2.2.1 0, 3, .inl (fun _ => nI 0)))]) ++ [(q37, .inl (g.2.2.1 1, 32, .inr (.inl (fun _ => lN 0))))])) H := hP
  have hD : va_D A ((a, .inr (11, [.ref q7, .ref q14, .int (nI 0), .int (nI 0), .int (nI 0), .null, .null])) :: (((tl ++ [(q7, .inl (g.2.2.1 0, 8, .inl (fun _ => nI 0)))]) ++ [(q14, .inl (g.2.2.1 0, 3, .inl (fun _ => nI 0)))]) ++ [(q37, .inl (g.2.2.1 1, 32, .inr (.inl (fun _ => lN 0))))])) := hD
  refine va_putF (D := (g.1, g.2.1)) (ci := 11) (v := .ref q37) (ty := .array .long) (C := RX9) (T := TX9) (N := 7) hx hb hts iX9 tyX9 tyX9_ok nmX9 hown hK.1 hP hD hS 0 rfl rfl 5 (by decide) (hts (.fieldLink RX9 28 "JumpingAutomata$WordSearch" "row" "[J") (by decide +kernel)) (fun _ h9 => h9) rfl hin rfl (by decide +kernel) rfl rfl (Nat.le_of_ble_eq_true rfl) dX9_init_39 (fun H locs hP hD hS => ?_)
  have hP : va_P (g.1, g.2.1) vwCl ((a, .inr (11, [.ref q7, .ref q14, .int (nI 0), .int (nI 0), .int (nI 0), .ref q37, .null])) :: (((tl ++ [(q7, .inl (g.2.2.1 0, 8, .inl (fun _ => nI 0)))]) ++ [(q14, .inl (g.2.2.1 0, 3, .inl (fun _ => nI 0)))]) ++ [(q37, .inl (g.2.2.1 1, 32, .inr (.inl (fun _ => lN 0))))])) H := hP
  have hD : va_D A ((a, .inr (11, [.ref q7, .ref q14, .int (nI 0), .int (nI 0), .int (nI 0), .ref q37, .null])) :: (((tl ++ [(q7, .inl (g.2.2.1 0, 8, .inl (fun _ => nI 0)))]) ++ [(q14, .inl (g.2.2.1 0, 3, .inl (fun _ => nI 0)))]) ++ [(q37, .inl (g.2.2.1 1, 32, .inr (.inl (fun _ => lN 0))))])) := hD
  refine lv_aload_n hx hb dX9_init_42 rfl (lv_at hl 0 rfl) ?_
  refine lv_bipush (v := nI 32) hx hb dX9_init_43 (by decide) ?_
  refine jI_newa (atype := .long) (ty := .long) (a0 := (32, .inr (.inl (fun _ => lN 0)))) hx hb (hts (.arrayClass .long) (by decide +kernel)) rfl hK.1 1 rfl hP hD hS hAA (fun _ => rfl) (by decide) (by decide) (Nat.le_of_ble_eq_true rfl) (Nat.le_of_ble_eq_true rfl) (Nat.le_of_ble_eq_true rfl) dX9_init_45 (fun q45 H hP hD hS => ?_)
  have hP : va_P (g.1, g.2.1) vwCl ((a, .inr (11, [.ref q7, .ref q14, .int (nI 0), .int (nI 0), .int (nI 0), .ref q37, .null])) :: ((((tl ++ [(q7, .inl (g.2.2.1 0, 8, .inl (fun _ => nI 0)))]) ++ [(q14, .inl (g.2.2.1 0, 3, .inl (fun _ => nI 0)))]) ++ [(q37, .inl (g.2.2.1 1, 32, .inr (.inl (fun _ => lN 0))))]) ++ [(q45, .inl (g.2.2.1 1, 32, .inr (.inl (fun _ => lN 0))))])) H := hP
  have hD : va_D A ((a, .inr (11, [.ref q7, .ref q14, .int (nI 0), .int (nI 0), .int (nI 0), .ref q37, .null])) :: ((((tl ++ [(q7, .inl (g.2.2.1 0, 8, .inl (fun _ => nI 0)))]) ++ [(q14, .inl (g.2.2.1 0, 3, .inl (fun _ => nI 0)))]) ++ [(q37, .inl (g.2.2.1 1, 32, .inr (.inl (fun _ => lN 0))))]) ++ [(q45, .inl (g.2.2.1 1, 32, .inr (.inl (fun _ => lN 0))))])) := hD
  refine va_putF (D := (g.1, g.2.1)) (ci := 11) (v := .ref q45) (ty := .array .long) (C := RX9) (T := TX9) (N := 7) hx hb hts iX9 tyX9 tyX9_ok nmX9 hown hK.1 hP hD hS 0 rfl rfl 6 (by decide) (hts (.fieldLink RX9 32 "JumpingAutomata$WordSearch" "nextRow" "[J") (by decide +kernel)) (fun _ h9 => h9) rfl hin rfl (by decide +kernel) rfl rfl (Nat.le_of_ble_eq_true rfl) dX9_init_47 (fun H locs hP hD hS => ?_)
  have hP : va_P (g.1, g.2.1) vwCl ((a, .inr (11, [.ref q7, .ref q14, .int (nI 0), .int (nI 0), .int (nI 0), .ref q37, .ref q45])) :: ((((tl ++ [(q7, .inl (g.2.2.1 0, 8, .inl (fun _ => nI 0)))]) ++ [(q14, .inl (g.2.2.1 0, 3, .inl (fun _ => nI 0)))]) ++ [(q37, .inl (g.2.2.1 1, 32, .inr (.inl (fun _ => lN 0))))]) ++ [(q45, .inl (g.2.2.1 1, 32, .inr (.inl (fun _ => lN 0))))])) H := hP
  have hD : va_D A ((a, .inr (11, [.ref q7, .ref q14, .int (nI 0), .int (nI 0), .int (nI 0), .ref q37, .ref q45])) :: ((((tl ++ [(q7, .inl (g.2.2.1 0, 8, .inl (fun _ => nI 0)))]) ++ [(q14, .inl (g.2.2.1 0, 3, .inl (fun _ => nI 0)))]) ++ [(q37, .inl (g.2.2.1 1, 32, .inr (.inl (fun _ => lN 0))))]) ++ [(q45, .inl (g.2.2.1 1, 32, .inr (.inl (fun _ => lN 0))))])) := hD
  exact hq _ _ _ _ _ _ (q7, q14, q37, q45) (Nat.le_of_ble_eq_true rfl) (Nat.le_of_ble_eq_true rfl) dX9_init_50 trivial hP hD hS

abbrev r_c_X8_init : Room := { frames := 1, cells := 0, slots := 0, locals := 12 }
set_option maxHeartbeats 8000000 in
set_option maxRecDepth 100000 in
theorem c_X8_init (l : Launch) (g : GC) (tl : va_W) (sz a : Nat) : Met l yX8_init wsX8_init r_c_X8_init (va_Pc [.ref a] (PI g ((a, .inr (10, [.int (nI 0), .int (nI 0), .int (nI 0), .int (nI 0), .int (nI 0)])) :: tl) sz)) (va_Qv (fun _ : Unit => True) (fun (z : Unit) t => BW g (va_A ((a, .inr (10, [.int (nI 0), .int (nI 0), .int (nI 0), .int (nI 0), .int (nI 0)])) :: tl) sz) ((fun _ : Unit => ((a, .inr (10, [.int (nI 1), .int (nI 0), .int (nI 0), .int (nI 0), .int (nI 0)])) :: tl)) z) t) (va_A ((a, .inr (10, [.int (nI 0), .int (nI 0), .int (nI 0), .int (nI 0), .int (nI 0)])) :: tl) sz)) 0 0 (va_A ((a, .inr (10, [.int (nI 0), .int (nI 0), .int (nI 0), .int (nI 0), .int (nI 0)])) :: tl) sz) := by
  refine jI_v (y := yX8_init) (ws := wsX8_init) (av := [.ref a]) (g := g) (w0 := ((a, .inr (10, [.int (nI 0), .int (nI 0), .int (nI 0), .int (nI 0), .int (nI 0)])) :: tl)) (sz := sz) (post := fun _ : Unit => True) (wf := fun _ : Unit => ((a, .inr (10, [.int (nI 1), .int (nI 0), .int (nI 0), .int (nI 0), .int (nI 0)])) :: tl)) (cc := cX8_init) (maxL := 1) (own := RX8) (by decide) rfl rfl rfl (Nat.le_of_ble_eq_true rfl) ?_
  intro p e s m below meth c Q A hx hb hml hown hts hin hK hM hP hD hS hAA hq ls hl
  obtain ⟨H, eH⟩ : ∃ z, z = s.heap := ⟨_, rfl⟩
  obtain ⟨locs, el⟩ : ∃ z : List Loc, z = [] := ⟨_, rfl⟩
  rw [← eH] at hP
  have hS : va_S A s.heap H locs := by rw [eH, el]; exact hS
  have goal0 : W p l e r_c_X8_init s m ([.ref a] : List Value).toArray below meth c H locs 0 0 Q (F0 m 0 ls []) → W p l e r_c_X8_init s m ([.ref a] : List Value).toArray below meth c s.heap [] 0 0 Q (F0 m 0 ls []) := fun h => by rw [eH, el] at h; exact h
  refine goal0 ?_
  have hl : lv_has ls 1 [(0, .ref a)] := hl
  have iX8 : ∀ w ∈ wsX80, w ∈ wsX8_init := by decide +kernel
  refine lv_aload_n hx hb dX8_init_0 rfl (lv_at hl 0 rfl) ?_
  refine W.objInit hx hb hown (hts (.methodLink RX8 3 objectInit) (by decide +kernel)) (hts (.instanceMethod objectInit) (by decide +kernel)) (hts (.code objectInit ⟨#[0xb1]⟩ 1 none) (List.mem_cons_of_mem _ (List.mem_append_left _ (List.mem_of_getElem? (i := 2) rfl)))) rfl (by rw [hml]; exact hl.1) rfl dX8_init_1 (Nat.le_of_ble_eq_true rfl) (Nat.le_of_ble_eq_true rfl) ?_
  refine W.eq (g2 := F0 m 4 ls []) rfl ?_
  refine lv_aload_n hx hb dX8_init_4 rfl (lv_at hl 0 rfl) ?_
  refine lv_iconst (v := nI 1) hx hb dX8_init_5 (by decide) ?_
  refine va_put (D := (g.1, g.2.1)) (ci := 10) (v := .int (nI 1)) (ty := .int) (C := RX8) (T := TX8) (N := 5) hx hb hts iX8 tyX8 tyX8_ok nmX8 hown hK.1 hP hD hS 0 rfl rfl 0 (by decide) (hts (.fieldLink RX8 9 "JumpingAutomata$OneWayReader" "state" "I") (by decide +kernel)) (fun _ h9 => h9) rfl (by decide +kernel) rfl rfl (Nat.le_of_ble_eq_true rfl) dX8_init_6 (fun H locs hP hD hS => ?_)
  have hP : va_P (g.1, g.2.1) vwCl ((a, .inr (10, [.int (nI 1), .int (nI 0), .int (nI 0), .int (nI 0), .int (nI 0)])) :: tl) H := hP
  have hD : va_D A ((a, .inr (10, [.int (nI 1), .int (nI 0), .int (nI 0), .int (nI 0), .int (nI 0)])) :: tl) := hD
  refine lv_aload_n hx hb dX8_init_9 rfl (lv_at hl 0 rfl) ?_
  refine lv_iconst (v := nI 0) hx hb dX8_init_10 (by decide) ?_
  refine va_put (D := (g.1, g.2.1)) (ci := 10) (v := .int (nI 0)) (ty := .int) (C := RX8) (T := TX8) (N := 5) hx hb hts iX8 tyX8 tyX8_ok nmX8 hown hK.1 hP hD hS 0 rfl rfl 1 (by decide) (hts (.fieldLink RX8 15 "JumpingAutomata$OneWayReader" "rest" "I") (by decide +kernel)) (fun _ h9 => h9) rfl (by decide +kernel) rfl rfl (Nat.le_of_ble_eq_true rfl) dX8_init_11 (fun H locs hP hD hS => ?_)
  have hP : va_P (g.1, g.2.1) vwCl ((a, .inr (10, [.int (nI 1), .int (nI 0), .int (nI 0), .int (nI 0), .int (nI 0)])) :: tl) H := hP
  have hD : va_D A ((a, .inr (10, [.int (nI 1), .int (nI 0), .int (nI 0), .int (nI 0), .int (nI 0)])) :: tl) := hD
  refine lv_aload_n hx hb dX8_init_14 rfl (lv_at hl 0 rfl) ?_
  refine lv_iconst (v := nI 0) hx hb dX8_init_15 (by decide) ?_
  refine va_put (D := (g.1, g.2.1)) (ci := 10) (v := .int (nI 0)) (ty := .int) (C := RX8) (T := TX8) (N := 5) hx hb hts iX8 tyX8 tyX8_ok nmX8 hown hK.1 hP hD hS 0 rfl rfl 2 (by decide) (hts (.fieldLink RX8 18 "JumpingAutomata$OneWayReader" "restSize" "I") (by decide +kernel)) (fun _ h9 => h9) rfl (by decide +kernel) rfl rfl (Nat.le_of_ble_eq_true rfl) dX8_init_16 (fun H locs hP hD hS => ?_)
  have hP : va_P (g.1, g.2.1) vwCl ((a, .inr (10, [.int (nI 1), .int (nI 0), .int (nI 0), .int (nI 0), .int (nI 0)])) :: tl) H := hP
  have hD : va_D A ((a, .inr (10, [.int (nI 1), .int (nI 0), .int (nI 0), .int (nI 0), .int (nI 0)])) :: tl) := hD
  refine lv_aload_n hx hb dX8_init_19 rfl (lv_at hl 0 rfl) ?_
  refine lv_iconst (v := nI 0) hx hb dX8_init_20 (by decide) ?_
  refine va_put (D := (g.1, g.2.1)) (ci := 10) (v := .int (nI 0)) (ty := .int) (C := RX8) (T := TX8) (N := 5) hx hb hts iX8 tyX8 tyX8_ok nmX8 hown hK.1 hP hD hS 0 rfl rfl 3 (by decide) (hts (.fieldLink RX8 21 "JumpingAutomata$OneWayReader" "jumps" "I") (by decide +kernel)) (fun _ h9 => h9) rfl (by decide +kernel) rfl rfl (Nat.le_of_ble_eq_true rfl) dX8_init_21 (fun H locs hP hD hS => ?_)
  have hP : va_P (g.1, g.2.1) vwCl ((a, .inr (10, [.int (nI 1), .int (nI 0), .int (nI 0), .int (nI 0), .int (nI 0)])) :: tl) H := hP
  have hD : va_D A ((a, .inr (10, [.int (nI 1), .int (nI 0), .int (nI 0), .int (nI 0), .int (nI 0)])) :: tl) := hD
  refine lv_aload_n hx hb dX8_init_24 rfl (lv_at hl 0 rfl) ?_
  refine lv_iconst (v := nI 0) hx hb dX8_init_25 (by decide) ?_
  refine va_put (D := (g.1, g.2.1)) (ci := 10) (v := .int (nI 0)) (ty := .boolean) (C := RX8) (T := TX8) (N := 5) hx hb hts iX8 tyX8 tyX8_ok nmX8 hown hK.1 hP hD hS 0 rfl rfl 4 (by decide) (hts (.fieldLink RX8 24 "JumpingAutomata$OneWayReader" "passing" "Z") (by decide +kernel)) (fun _ h9 => h9) rfl (by decide +kernel) jn_n0 jn_f0 (Nat.le_of_ble_eq_true rfl) dX8_init_26 (fun H locs hP hD hS => ?_)
  have hP : va_P (g.1, g.2.1) vwCl ((a, .inr (10, [.int (nI 1), .int (nI 0), .int (nI 0), .int (nI 0), .int (nI 0)])) :: tl) H := hP
  have hD : va_D A ((a, .inr (10, [.int (nI 1), .int (nI 0), .int (nI 0), .int (nI 0), .int (nI 0)])) :: tl) := hD
  exact hq _ _ _ _ _ _ () (Nat.le_of_ble_eq_true rfl) (Nat.le_of_ble_eq_true rfl) dX8_init_29 trivial hP hD hS

abbrev r_c_X2_init : Room := { frames := 1, cells := 5, slots := 2328, locals := 12 }
set_option maxHeartbeats 8000000 in
set_option maxRecDepth 100000 in
theorem c_X2_init (l : Launch) (g : GC) (tl : va_W) (sz a : Nat) : Met l yX2_init wsX2_init r_c_X2_init (va_Pc [.ref a] (PI g ((a, .inr (4, [.null, .null, .null, .null, .int (nI 0), .null, .int (nI 0)])) :: tl) sz)) (va_Qv (fun _ : Nat × Nat × Nat × Nat × Nat => True) (fun (z : Nat × Nat × Nat × Nat × Nat) t => BW g (va_A ((a, .inr (4, [.null, .null, .null, .null, .int (nI 0), .null, .int (nI 0)])) :: tl) sz) ((fun z : Nat × Nat × Nat × Nat × Nat => match z with | (q8, q17, q25, q33, q46) => ((a, .inr (4, [.ref q8, .ref q17, .ref q25, .ref q33, .int (nI 0), .ref q46, .int (nI 63)])) :: (((((tl ++ [(q8, .inl (g.2.2.1 0, 2048, .inl (fun _ => nI 0)))]) ++ [(q17, .inl (g.2.2.1 0, 256, .inl (fun _ => nI 0)))]) ++ [(q25, .inl (g.2.2.1 0, 8, .inl (fun _ => nI 0)))]) ++ [(q33, .inl (g.2.2.1 0, 8, .inl (fun _ => nI 0)))]) ++ [(q46, .inl (g.2.2.1 0, 8, .inl (fun _ => nI 0)))]))) z) t) (va_A ((a, .inr (4, [.null, .null, .null, .null, .int (nI 0), .null, .int (nI 0)])) :: tl) sz)) 5 2328 (va_A ((a, .inr (4, [.null, .null, .null, .null, .int (nI 0), .null, .int (nI 0)])) :: tl) sz) := by
  refine jI_v (y := yX2_init) (ws := wsX2_init) (av := [.ref a]) (g := g) (w0 := ((a, .inr (4, [.null, .null, .null, .null, .int (nI 0), .null, .int (nI 0)])) :: tl)) (sz := sz) (post := fun _ : Nat × Nat × Nat × Nat × Nat => True) (wf := fun z : Nat × Nat × Nat × Nat × Nat => match z with | (q8, q17, q25, q33, q46) => ((a, .inr (4, [.ref q8, .ref q17, .ref q25, .ref q33, .int (nI 0), .ref q46, .int (nI 63)])) :: (((((tl ++ [(q8, .inl (g.2.2.1 0, 2048, .inl (fun _ => nI 0)))]) ++ [(q17, .inl (g.2.2.1 0, 256, .inl (fun _ => nI 0)))]) ++ [(q25, .inl (g.2.2.1 0, 8, .inl (fun _ => nI 0)))]) ++ [(q33, .inl (g.2.2.1 0, 8, .inl (fun _ => nI 0)))]) ++ [(q46, .inl (g.2.2.1 0, 8, .inl (fun _ => nI 0)))]))) (cc := cX2_init) (maxL := 1) (own := RX2) (by decide) rfl rfl rfl (Nat.le_of_ble_eq_true rfl) ?_
  intro p e s m below meth c Q A hx hb hml hown hts hin hK hM hP hD hS hAA hq ls hl
  obtain ⟨H, eH⟩ : ∃ z, z = s.heap := ⟨_, rfl⟩
  obtain ⟨locs, el⟩ : ∃ z : List Loc, z = [] := ⟨_, rfl⟩
  rw [← eH] at hP
  have hS : va_S A s.heap H locs := by rw [eH, el]; exact hS
  have goal0 : W p l e r_c_X2_init s m ([.ref a] : List Value).toArray below meth c H locs 0 0 Q (F0 m 0 ls []) → W p l e r_c_X2_init s m ([.ref a] : List Value).toArray below meth c s.heap [] 0 0 Q (F0 m 0 ls []) := fun h => by rw [eH, el] at h; exact h
  refine goal0 ?_
  have hl : lv_has ls 1 [(0, .ref a)] := hl
  have iX2 : ∀ w ∈ wsX20, w ∈ wsX2_init := by decide +kernel
  refine lv_aload_n hx hb dX2_init_0 rfl (lv_at hl 0 rfl) ?_
  refine W.objInit hx hb hown (hts (.methodLink RX2 3 objectInit) (by decide +kernel)) (hts (.instanceMethod objectInit) (by decide +kernel)) (hts (.code objectInit ⟨#[0xb1]⟩ 1 none) (List.mem_cons_of_mem _ (List.mem_append_left _ (List.mem_of_getElem? (i := 2) rfl)))) rfl (by rw [hml]; exact hl.1) rfl dX2_init_1 (Nat.le_of_ble_eq_true rfl) (Nat.le_of_ble_eq_true rfl) ?_
  refine W.eq (g2 := F0 m 4 ls []) rfl ?_
  refine lv_aload_n hx hb dX2_init_4 rfl (lv_at hl 0 rfl) ?_
  refine lv_sipush (v := nI 2048) hx hb dX2_init_5 (by decide) ?_
  refine jI_newa (atype := .int) (ty := .int) (a0 := (2048, .inl (fun _ => nI 0))) hx hb (hts (.arrayClass .int) (by decide +kernel)) rfl hK.1 0 rfl hP hD hS hAA (fun _ => rfl) (by decide) (by decide) (Nat.le_of_ble_eq_true rfl) (Nat.le_of_ble_eq_true rfl) (Nat.le_of_ble_eq_true rfl) dX2_init_8 (fun q8 H hP hD hS => ?_)
  have hP : va_P (g.1, g.2.1) vwCl ((a, .inr (4, [.null, .null, .null, .null, .int (nI 0), .null, .int (nI 0)])) :: (tl ++ [(q8, .inl (g.2.2.1 0, 2048, .inl (fun _ => nI 0)))])) H := hP
  have hD : va_D A ((a, .inr (4, [.null, .null, .null, .null, .int (nI 0), .null, .int (nI 0)])) :: (tl ++ [(q8, .inl (g.2.2.1 0, 2048, .inl (fun _ => nI 0)))])) := hD
  refine va_putF (D := (g.1, g.2.1)) (ci := 4) (v := .ref q8) (ty := .array .int) (C := RX2) (T := TX2) (N := 7) hx hb hts iX2 tyX2 tyX2_ok nmX2 hown hK.1 hP hD hS 0 rfl rfl 0 (by decide) (hts (.fieldLink RX2 11 "JumpingAutomata$BestOrder" "packedCosts" "[I") (by decide +kernel)) (fun _ h9 => h9) rfl hin rfl (by decide +kernel) rfl rfl (Nat.le_of_ble_eq_true rfl) dX2_init_10 (fun H locs hP hD hS => ?_)
  have hP : va_P (g.1, g.2.1) vwCl ((a, .inr (4, [.ref q8, .null, .null, .null, .int (nI 0), .null, .int (nI 0)])) :: (tl ++ [(q8, .inl (g.2.2.1 0, 2048, .inl (fun _ => nI 0)))])) H := hP
  have hD : va_D A ((a, .inr (4, [.ref q8, .null, .null, .null, .int (nI 0), .null, .int (nI 0)])) :: (tl ++ [(q8, .inl (g.2.2.1 0, 2048, .inl (fun _ => nI 0)))])) := hD
  refine lv_aload_n hx hb dX2_init_13 rfl (lv_at hl 0 rfl) ?_
  refine lv_sipush (v := nI 256) hx hb dX2_init_14 (by decide) ?_
  refine jI_newa (atype := .int) (ty := .int) (a0 := (256, .inl (fun _ => nI 0))) hx hb (hts (.arrayClass .int) (by decide +kernel)) rfl hK.1 0 rfl hP hD hS hAA (fun _ => rfl) (by decide) (by decide) (Nat.le_of_ble_eq_true rfl) (Nat.le_of_ble_eq_true rfl) (Nat.le_of_ble_eq_true rfl) dX2_init_17 (fun q17 H hP hD hS => ?_)
  have hP : va_P (g.1, g.2.1) vwCl ((a, .inr (4, [.ref q8, .null, .null, .null, .int (nI 0), .null, .int (nI 0)])) :: ((tl ++ [(q8, .inl (g.2.2.1 0, 2048, .inl (fun _ => nI 0)))]) ++ [(q17, .inl (g.2.2.1 0, 256, .inl (fun _ => nI 0)))])) H := hP
  have hD : va_D A ((a, .inr (4, [.ref q8, .null, .null, .null, .int (nI 0), .null, .int (nI 0)])) :: ((tl ++ [(q8, .inl (g.2.2.1 0, 2048, .inl (fun _ => nI 0)))]) ++ [(q17, .inl (g.2.2.1 0, 256, .inl (fun _ => nI 0)))])) := hD
  refine va_putF (D := (g.1, g.2.1)) (ci := 4) (v := .ref q17) (ty := .array .int) (C := RX2) (T := TX2) (N := 7) hx hb hts iX2 tyX2 tyX2_ok nmX2 hown hK.1 hP hD hS 0 rfl rfl 1 (by decide) (hts (.fieldLink RX2 15 "JumpingAutomata$BestOrder" "states" "[I") (by decide +kernel)) (fun _ h9 => h9) rfl hin rfl (by decide +kernel) rfl rfl (Nat.le_of_ble_eq_true rfl) dX2_init_19 (fun H locs hP hD hS => ?_)
  have hP : va_P (g.1, g.2.1) vwCl ((a, .inr (4, [.ref q8, .ref q17, .null, .null, .int (nI 0), .null, .int (nI 0)])) :: ((tl ++ [(q8, .inl (g.2.2.1 0, 2048, .inl (fun _ => nI 0)))]) ++ [(q17, .inl (g.2.2.1 0, 256, .inl (fun _ => nI 0)))])) H := hP
  have hD : va_D A ((a, .inr (4, [.ref q8, .ref q17, .null, .null, .int (nI 0), .null, .int (nI 0)])) :: ((tl ++ [(q8, .inl (g.2.2.1 0, 2048, .inl (fun _ => nI 0)))]) ++ [(q17, .inl (g.2.2.1 0, 256, .inl (fun _ => nI 0)))])) := hD
  refine lv_aload_n hx hb dX2_init_22 rfl (lv_at hl 0 rfl) ?_
  refine lv_bipush (v := nI 8) hx hb dX2_init_23 (by decide) ?_
  refine jI_newa (atype := .int) (ty := .int) (a0 := (8, .inl (fun _ => nI 0))) hx hb (hts (.arrayClass .int) (by decide +kernel)) rfl hK.1 0 rfl hP hD hS hAA (fun _ => rfl) (by decide) (by decide) (Nat.le_of_ble_eq_true rfl) (Nat.le_of_ble_eq_true rfl) (Nat.le_of_ble_eq_true rfl) dX2_init_25 (fun q25 H hP hD hS => ?_)
  have hP : va_P (g.1, g.2.1) vwCl ((a, .inr (4, [.ref q8, .ref q17, .null, .null, .int (nI 0), .null, .int (nI 0)])) :: (((tl ++ [(q8, .inl (g.2.2.1 0, 2048, .inl (fun _ => nI 0)))]) ++ [(q17, .inl (g.2.2.1 0, 256, .inl (fun _ => nI 0)))]) ++ [(q25, .inl (g.2.2.1 0, 8, .inl (fun _ => nI 0)))])) H := hP
  have hD : va_D A ((a, .inr (4, [.ref q8, .ref q17, .null, .null, .int (nI 0), .null, .int (nI 0)])) :: (((tl ++ [(q8, .inl (g.2.2.1 0, 2048, .inl (fun _ => nI 0)))]) ++ [(q17, .inl (g.2.2.1 0, 256, .inl (fun _ => nI 0)))]) ++ [(q25, .inl (g.2.2.1 0, 8, .inl (fun _ => nI 0)))])) := hD
  refine va_putF (D := (g.1, g.2.1)) (ci := 4) (v := .ref q25) (ty := .array .int) (C := RX2) (T := TX2) (N := 7) hx hb hts iX2 tyX2 tyX2_ok nmX2 hown hK.1 hP hD hS 0 rfl rfl 2 (by decide) (hts (.fieldLink RX2 18 "JumpingAutomata$BestOrder" "before" "[I") (by decide +kernel)) (fun _ h9 => h9) rfl hin rfl (by decide +kernel) rfl rfl (Nat.le_of_ble_eq_true rfl) dX2_init_27 (fun H locs hP hD hS => ?_)
  have hP : va_P (g.1, g.2.1) vwCl ((a, .inr (4, [.ref q8, .ref q17, .ref q25, .null, .int (nI 0), .null, .int (nI 0)])) :: (((tl ++ [(q8, .inl (g.2.2.1 0, 2048, .inl (fun _ => nI 0)))]) ++ [(q17, .inl (g.2.2.1 0, 256, .inl (fun _ => nI 0)))]) ++ [(q25, .inl (g.2.2.1 0, 8, .inl (fun _ => nI 0)))])) H := hP
  have hD : va_D A ((a, .inr (4, [.ref q8, .ref q17, .ref q25, .null, .int (nI 0), .null, .int (nI 0)])) :: (((tl ++ [(q8, .inl (g.2.2.1 0, 2048, .inl (fun _ => nI 0)))]) ++ [(q17, .inl (g.2.2.1 0, 256, .inl (fun _ => nI 0)))]) ++ [(q25, .inl (g.2.2.1 0, 8, .inl (fun _ => nI 0)))])) := hD
  refine lv_aload_n hx hb dX2_init_30 rfl (lv_at hl 0 rfl) ?_
  refine lv_bipush (v := nI 8) hx hb dX2_init_31 (by decide) ?_
  refine jI_newa (atype := .int) (ty := .int) (a0 := (8, .inl (fun _ => nI 0))) hx hb (hts (.arrayClass .int) (by decide +kernel)) rfl hK.1 0 rfl hP hD hS hAA (fun _ => rfl) (by decide) (by decide) (Nat.le_of_ble_eq_true rfl) (Nat.le_of_ble_eq_true rfl) (Nat.le_of_ble_eq_true rfl) dX2_init_33 (fun q33 H hP hD hS => ?_)
  have hP : va_P (g.1, g.2.1) vwCl ((a, .inr (4, [.ref q8, .ref q17, .ref q25, .null, .int (nI 0), .null, .int (nI 0)])) :: ((((tl ++ [(q8, .inl (g.2.2.1 0, 2048, .inl (fun _ => nI 0)))]) ++ [(q17, .inl (g.2.2.1 0, 256, .inl (fun _ => nI 0)))]) ++ [(q25, .inl (g.2.2.1 0, 8, .inl (fun _ => nI 0)))]) ++ [(q33, .inl (g.2.2.1 0, 8, .inl (fun _ => nI 0)))])) H := hP
  have hD : va_D A ((a, .inr (4, [.ref q8, .ref q17, .ref q25, .null, .int (nI 0), .null, .int (nI 0)])) :: ((((tl ++ [(q8, .inl (g.2.2.1 0, 2048, .inl (fun _ => nI 0)))]) ++ [(q17, .inl (g.2.2.1 0, 256, .inl (fun _ => nI 0)))]) ++ [(q25, .inl (g.2.2.1 0, 8, .inl (fun _ => nI 0)))]) ++ [(q33, .inl (g.2.2.1 0, 8, .inl (fun _ => nI 0)))])) := hD
  refine va_putF (D := (g.1, g.2.1)) (ci := 4) (v := .ref q33) (ty := .array .int) (C := RX2) (T := TX2) (N := 7) hx hb hts iX2 tyX2 tyX2_ok nmX2 hown hK.1 hP hD hS 0 rfl rfl 3 (by decide) (hts (.fieldLink RX2 21 "JumpingAutomata$BestOrder" "letters" "[I") (by decide +kernel)) (fun _ h9 => h9) rfl hin rfl (by decide +kernel) rfl rfl (Nat.le_of_ble_eq_true rfl) dX2_init_35 (fun H locs hP hD hS => ?_)
  have hP : va_P (g.1, g.2.1) vwCl ((a, .inr (4, [.ref q8, .ref q17, .ref q25, .ref q33, .int (nI 0), .null, .int (nI 0)])) :: ((((tl ++ [(q8, .inl (g.2.2.1 0, 2048, .inl (fun _ => nI 0)))]) ++ [(q17, .inl (g.2.2.1 0, 256, .inl (fun _ => nI 0)))]) ++ [(q25, .inl (g.2.2.1 0, 8, .inl (fun _ => nI 0)))]) ++ [(q33, .inl (g.2.2.1 0, 8, .inl (fun _ => nI 0)))])) H := hP
  have hD : va_D A ((a, .inr (4, [.ref q8, .ref q17, .ref q25, .ref q33, .int (nI 0), .null, .int (nI 0)])) :: ((((tl ++ [(q8, .inl (g.2.2.1 0, 2048, .inl (fun _ => nI 0)))]) ++ [(q17, .inl (g.2.2.1 0, 256, .inl (fun _ => nI 0)))]) ++ [(q25, .inl (g.2.2.1 0, 8, .inl (fun _ => nI 0)))]) ++ [(q33, .inl (g.2.2.1 0, 8, .inl (fun _ => nI 0)))])) := hD
  refine lv_aload_n hx hb dX2_init_38 rfl (lv_at hl 0 rfl) ?_
  refine lv_iconst (v := nI 0) hx hb dX2_init_39 (by decide) ?_
  refine va_put (D := (g.1, g.2.1)) (ci := 4) (v := .int (nI 0)) (ty := .int) (C := RX2) (T := TX2) (N := 7) hx hb hts iX2 tyX2 tyX2_ok nmX2 hown hK.1 hP hD hS 0 rfl rfl 4 (by decide) (hts (.fieldLink RX2 24 "JumpingAutomata$BestOrder" "length" "I") (by decide +kernel)) (fun _ h9 => h9) rfl (by decide +kernel) rfl rfl (Nat.le_of_ble_eq_true rfl) dX2_init_40 (fun H locs hP hD hS => ?_)
  have hP : va_P (g.1, g.2.1) vwCl ((a, .inr (4, [.ref q8, .ref q17, .ref q25, .ref q33, .int (nI 0), .null, .int (nI 0)])) :: ((((tl ++ [(q8, .inl (g.2.2.1 0, 2048, .inl (fun _ => nI 0)))]) ++ [(q17, .inl (g.2.2.1 0, 256, .inl (fun _ => nI 0)))]) ++ [(q25, .inl (g.2.2.1 0, 8, .inl (fun _ => nI 0)))]) ++ [(q33, .inl (g.2.2.1 0, 8, .inl (fun _ => nI 0)))])) H := hP
  have hD : va_D A ((a, .inr (4, [.ref q8, .ref q17, .ref q25, .ref q33, .int (nI 0), .null, .int (nI 0)])) :: ((((tl ++ [(q8, .inl (g.2.2.1 0, 2048, .inl (fun _ => nI 0)))]) ++ [(q17, .inl (g.2.2.1 0, 256, .inl (fun _ => nI 0)))]) ++ [(q25, .inl (g.2.2.1 0, 8, .inl (fun _ => nI 0)))]) ++ [(q33, .inl (g.2.2.1 0, 8, .inl (fun _ => nI 0)))])) := hD
  refine lv_aload_n hx hb dX2_init_43 rfl (lv_at hl 0 rfl) ?_
  refine lv_bipush (v := nI 8) hx hb dX2_init_44 (by decide) ?_
  refine jI_newa (atype := .int) (ty := .int) (a0 := (8, .inl (fun _ => nI 0))) hx hb (hts (.arrayClass .int) (by decide +kernel)) rfl hK.1 0 rfl hP hD hS hAA (fun _ => rfl) (by decide) (by decide) (Nat.le_of_ble_eq_true rfl) (Nat.le_of_ble_eq_true rfl) (Nat.le_of_ble_eq_true rfl) dX2_init_46 (fun q46 H hP hD hS => ?_)
  have hP : va_P (g.1, g.2.1) vwCl ((a, .inr (4, [.ref q8, .ref q17, .ref q25, .ref q33, .int (nI 0), .null, .int (nI 0)])) :: (((((tl ++ [(q8, .inl (g.2.2.1 0, 2048, .inl (fun _ => nI 0)))]) ++ [(q17, .inl (g.2.2.1 0, 256, .inl (fun _ => nI 0)))]) ++ [(q25, .inl (g.2.2.1 0, 8, .inl (fun _ => nI 0)))]) ++ [(q33, .inl (g.2.2.1 0, 8, .inl (fun _ => nI 0)))]) ++ [(q46, .inl (g.2.2.1 0, 8, .inl (fun _ => nI 0)))])) H := hP
  have hD : va_D A ((a, .inr (4, [.ref q8, .ref q17, .ref q25, .ref q33, .int (nI 0), .null, .int (nI 0)])) :: (((((tl ++ [(q8, .inl (g.2.2.1 0, 2048, .inl (fun _ => nI 0)))]) ++ [(q17, .inl (g.2.2.1 0, 256, .inl (fun _ => nI 0)))]) ++ [(q25, .inl (g.2.2.1 0, 8, .inl (fun _ => nI 0)))]) ++ [(q33, .inl (g.2.2.1 0, 8, .inl (fun _ => nI 0)))]) ++ [(q46, .inl (g.2.2.1 0, 8, .inl (fun _ => nI 0)))])) := hD
  refine va_putF (D := (g.1, g.2.1)) (ci := 4) (v := .ref q46) (ty := .array .int) (C := RX2) (T := TX2) (N := 7) hx hb hts iX2 tyX2 tyX2_ok nmX2 hown hK.1 hP hD hS 0 rfl rfl 5 (by decide) (hts (.fieldLink RX2 28 "JumpingAutomata$BestOrder" "order" "[I") (by decide +kernel)) (fun _ h9 => h9) rfl hin rfl (by decide +kernel) rfl rfl (Nat.le_of_ble_eq_true rfl) dX2_init_48 (fun H locs hP hD hS => ?_)
  have hP : va_P (g.1, g.2.1) vwCl ((a, .inr (4, [.ref q8, .ref q17, .ref q25, .ref q33, .int (nI 0), .ref q46, .int (nI 0)])) :: (((((tl ++ [(q8, .inl (g.2.2.1 0, 2048, .inl (fun _ => nI 0)))]) ++ [(q17, .inl (g.2.2.1 0, 256, .inl (fun _ => nI 0)))]) ++ [(q25, .inl (g.2.2.1 0, 8, .inl (fun _ => nI 0)))]) ++ [(q33, .inl (g.2.2.1 0, 8, .inl (fun _ => nI 0)))]) ++ [(q46, .inl (g.2.2.1 0, 8, .inl (fun _ => nI 0)))])) H := hP
  have hD : va_D A ((a, .inr (4, [.ref q8, .ref q17, .ref q25, .ref q33, .int (nI 0), .ref q46, .int (nI 0)])) :: (((((tl ++ [(q8, .inl (g.2.2.1 0, 2048, .inl (fun _ => nI 0)))]) ++ [(q17, .inl (g.2.2.1 0, 256, .inl (fun _ => nI 0)))]) ++ [(q25, .inl (g.2.2.1 0, 8, .inl (fun _ => nI 0)))]) ++ [(q33, .inl (g.2.2.1 0, 8, .inl (fun _ => nI 0)))]) ++ [(q46, .inl (g.2.2.1 0, 8, .inl (fun _ => nI 0)))])) := hD
  refine lv_aload_n hx hb dX2_init_51 rfl (lv_at hl 0 rfl) ?_
  refine lv_bipush (v := nI 63) hx hb dX2_init_52 (by decide) ?_
  refine va_put (D := (g.1, g.2.1)) (ci := 4) (v := .int (nI 63)) (ty := .int) (C := RX2) (T := TX2) (N := 7) hx hb hts iX2 tyX2 tyX2_ok nmX2 hown hK.1 hP hD hS 0 rfl rfl 6 (by decide) (hts (.fieldLink RX2 31 "JumpingAutomata$BestOrder" "cost" "I") (by decide +kernel)) (fun _ h9 => h9) rfl (by decide +kernel) rfl rfl (Nat.le_of_ble_eq_true rfl) dX2_init_54 (fun H locs hP hD hS => ?_)
  have hP : va_P (g.1, g.2.1) vwCl ((a, .inr (4, [.ref q8, .ref q17, .ref q25, .ref q33, .int (nI 0), .ref q46, .int (nI 63)])) :: (((((tl ++ [(q8, .inl (g.2.2.1 0, 2048, .inl (fun _ => nI 0)))]) ++ [(q17, .inl (g.2.2.1 0, 256, .inl (fun _ => nI 0)))]) ++ [(q25, .inl (g.2.2.1 0, 8, .inl (fun _ => nI 0)))]) ++ [(q33, .inl (g.2.2.1 0, 8, .inl (fun _ => nI 0)))]) ++ [(q46, .inl (g.2.2.1 0, 8, .inl (fun _ => nI 0)))])) H := hP
  have hD : va_D A ((a, .inr (4, [.ref q8, .ref q17, .ref q25, .ref q33, .int (nI 0), .ref q46, .int (nI 63)])) :: (((((tl ++ [(q8, .inl (g.2.2.1 0, 2048, .inl (fun _ => nI 0)))]) ++ [(q17, .inl (g.2.2.1 0, 256, .inl (fun _ => nI 0)))]) ++ [(q25, .inl (g.2.2.1 0, 8, .inl (fun _ => nI 0)))]) ++ [(q33, .inl (g.2.2.1 0, 8, .inl (fun _ => nI 0)))]) ++ [(q46, .inl (g.2.2.1 0, 8, .inl (fun _ => nI 0)))])) := hD
  exact hq _ _ _ _ _ _ (q8, q17, q25, q33, q46) (Nat.le_of_ble_eq_true rfl) (Nat.le_of_ble_eq_true rfl) dX2_init_57 trivial hP hD hS
