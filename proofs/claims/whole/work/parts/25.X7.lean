abbrev r_c_X7_write : Room := { frames := 2, cells := 0, slots := 0, locals := 86 }
set_option maxHeartbeats 4000000 in
set_option maxRecDepth 100000 in
theorem c_X7_write (l : Launch) (g : GC) (tl : va_W) (sz : Nat) (σ : SS) (j : Nat) (hj : j < 9) : Met l yX7_write wsX7_write r_c_X7_write (va_Pc [.ref (g.2.2.2 (8 + j)), .ref (g.2.2.2 1), .ref (g.2.2.2 4)] (PW g (wC g σ ++ tl) sz)) (va_Qv (fun (_ : Unit) => True) (fun (_ : Unit) t => BW g (va_A (wC g σ ++ tl) sz) (wC g (sL σ (2 + j) (snp σ (σ.2.2 (2 + j)))) ++ tl) t) (va_A (wC g σ ++ tl) sz)) 0 0 (va_A (wC g σ ++ tl) sz) := by
  refine jn_sv (wf := fun _ : Unit => wC g (sL σ (2 + j) (snp σ (σ.2.2 (2 + j)))) ++ tl) (cc := cX7_write) (maxL := 3) (own := RX7) (by decide) rfl rfl (Nat.le_of_ble_eq_true rfl) ?_
  intro p e s m below meth c Q A hx hb hml hown hts hK hP hD hS hAA hq ls hl
  obtain ⟨H, eH⟩ : ∃ z, z = s.heap := ⟨_, rfl⟩
  obtain ⟨locs, el⟩ : ∃ z : List Loc, z = [] := ⟨_, rfl⟩
  rw [← eH] at hP
  have hS : va_S A s.heap H locs := by rw [eH, el]; exact hS
  have goal0 : W p l e r_c_X7_write s m ([.ref (g.2.2.2 (8 + j)), .ref (g.2.2.2 1), .ref (g.2.2.2 4)] : List Value).toArray below meth c H locs 0 0 Q (F0 m 0 ls []) → W p l e r_c_X7_write s m ([.ref (g.2.2.2 (8 + j)), .ref (g.2.2.2 1), .ref (g.2.2.2 4)] : List Value).toArray below meth c s.heap [] 0 0 Q (F0 m 0 ls []) := fun h => by rw [eH, el] at h; exact h
  refine goal0 ?_
  have hl : lv_has ls 3 [(0, .ref (g.2.2.2 (8 + j))), (1, .ref (g.2.2.2 1)), (2, .ref (g.2.2.2 4))] := hl
  refine lv_aload_n hx hb dX7_write_0 rfl (lv_at hl 1 rfl) ?_
  refine lv_aload_n hx hb dX7_write_1 rfl (lv_at hl 0 rfl) ?_
  refine jn_callv (va_runV (As := [.ref (g.2.2.2 (8 + j))]) (rest := []) ⟨hx, hb, hml, hown, hts⟩ (c_X0_writeTo l g tl H.size σ j (by omega)) (cwV 1 hts gX7_write_X0_writeTo rfl rfl rfl (by decide +kernel) ⟨Nat.le_of_ble_eq_true rfl, Nat.le_of_ble_eq_true rfl⟩) (okWV hK hP hD rfl (gC1 g σ tl)) rfl rfl hl.1 rfl (lv_room (Nat.le_of_ble_eq_true rfl)) dX7_write_2 ⟨Nat.le_of_ble_eq_true rfl, Nat.le_of_ble_eq_true rfl⟩) hD hS hAA (fun u H locs hw_ hP hD hS => ?_)
  have hP : va_P (g.1, g.2.1) vwCl (wC g (sL σ (2 + j) (va_up (va_cpy (σ.2.1 0) (σ.2.2 (2 + j)) 0 0 15) 15 (σ.1 0))) ++ tl) H := hP
  have hD : va_D A (wC g (sL σ (2 + j) (va_up (va_cpy (σ.2.1 0) (σ.2.2 (2 + j)) 0 0 15) 15 (σ.1 0))) ++ tl) := hD
  refine lv_aload_n hx hb dX7_write_5 rfl (lv_at hl 2 rfl) ?_
  refine lv_aload_n hx hb dX7_write_6 rfl (lv_at hl 0 rfl) ?_
  refine lv_bipush (v := nI 16) hx hb dX7_write_7 (by decide) ?_
  refine jn_callv (va_runV (As := [.ref (g.2.2.2 (8 + j)), .int (nI 16)]) (rest := []) ⟨hx, hb, hml, hown, hts⟩ (c_X3_writeTo l g tl H.size (sL σ (2 + j) (va_up (va_cpy (σ.2.1 0) (σ.2.2 (2 + j)) 0 0 15) 15 (σ.1 0))) j (by omega)) (cwV 2 hts gX7_write_X3_writeTo rfl rfl rfl (by decide +kernel) ⟨Nat.le_of_ble_eq_true rfl, Nat.le_of_ble_eq_true rfl⟩) (okWV hK hP hD rfl (gC4 g (sL σ (2 + j) (va_up (va_cpy (σ.2.1 0) (σ.2.2 (2 + j)) 0 0 15) 15 (σ.1 0))) tl)) rfl rfl hl.1 rfl (lv_room (Nat.le_of_ble_eq_true rfl)) dX7_write_9 ⟨Nat.le_of_ble_eq_true rfl, Nat.le_of_ble_eq_true rfl⟩) hD hS hAA (fun u H locs hw_ hP hD hS => ?_)
  rw [sL_sL, sL_same] at hP hD
  have hP : va_P (g.1, g.2.1) vwCl (wC g (sL σ (2 + j) (va_cpy (σ.2.1 2) (va_up (va_cpy (σ.2.1 0) (σ.2.2 (2 + j)) 0 0 15) 15 (σ.1 0)) 0 16 42)) ++ tl) H := hP
  have hD : va_D A (wC g (sL σ (2 + j) (va_cpy (σ.2.1 2) (va_up (va_cpy (σ.2.1 0) (σ.2.2 (2 + j)) 0 0 15) 15 (σ.1 0)) 0 16 42)) ++ tl) := hD
  have eW : (sL σ (2 + j) (va_cpy (σ.2.1 2) (va_up (va_cpy (σ.2.1 0) (σ.2.2 (2 + j)) 0 0 15) 15 (σ.1 0)) 0 16 42)) = (sL σ (2 + j) (snp σ (σ.2.2 (2 + j)))) := rfl
  rw [eW] at hP hD
  exact hq _ _ _ _ () dX7_write_12 trivial hP hD hS

abbrev r_c_X7_read : Room := { frames := 2, cells := 0, slots := 0, locals := 86 }
set_option maxHeartbeats 4000000 in
set_option maxRecDepth 100000 in
theorem c_X7_read (l : Launch) (g : GC) (tl : va_W) (sz : Nat) (σ : SS) (j : Nat) (hj : j < 9) : Met l yX7_read wsX7_read r_c_X7_read (va_Pc [.ref (g.2.2.2 (8 + j)), .ref (g.2.2.2 1), .ref (g.2.2.2 4)] (PW g (wC g σ ++ tl) sz)) (va_Qv (fun (_ : Unit) => True) (fun (_ : Unit) t => BW g (va_A (wC g σ ++ tl) sz) (wC g (sF (sA (sA σ 0 (va_cpy (σ.2.2 (2 + j)) (σ.2.1 0) 0 0 15)) 2 (va_cpy (σ.2.2 (2 + j)) (σ.2.1 2) 16 0 42)) 0 ((σ.2.2 (2 + j)) 15)) ++ tl) t) (va_A (wC g σ ++ tl) sz)) 0 0 (va_A (wC g σ ++ tl) sz) := by
  refine jn_sv (wf := fun _ : Unit => wC g (sF (sA (sA σ 0 (va_cpy (σ.2.2 (2 + j)) (σ.2.1 0) 0 0 15)) 2 (va_cpy (σ.2.2 (2 + j)) (σ.2.1 2) 16 0 42)) 0 ((σ.2.2 (2 + j)) 15)) ++ tl) (cc := cX7_read) (maxL := 3) (own := RX7) (by decide) rfl rfl (Nat.le_of_ble_eq_true rfl) ?_
  intro p e s m below meth c Q A hx hb hml hown hts hK hP hD hS hAA hq ls hl
  obtain ⟨H, eH⟩ : ∃ z, z = s.heap := ⟨_, rfl⟩
  obtain ⟨locs, el⟩ : ∃ z : List Loc, z = [] := ⟨_, rfl⟩
  rw [← eH] at hP
  have hS : va_S A s.heap H locs := by rw [eH, el]; exact hS
  have goal0 : W p l e r_c_X7_read s m ([.ref (g.2.2.2 (8 + j)), .ref (g.2.2.2 1), .ref (g.2.2.2 4)] : List Value).toArray below meth c H locs 0 0 Q (F0 m 0 ls []) → W p l e r_c_X7_read s m ([.ref (g.2.2.2 (8 + j)), .ref (g.2.2.2 1), .ref (g.2.2.2 4)] : List Value).toArray below meth c s.heap [] 0 0 Q (F0 m 0 ls []) := fun h => by rw [eH, el] at h; exact h
  refine goal0 ?_
  have hl : lv_has ls 3 [(0, .ref (g.2.2.2 (8 + j))), (1, .ref (g.2.2.2 1)), (2, .ref (g.2.2.2 4))] := hl
  refine lv_aload_n hx hb dX7_read_0 rfl (lv_at hl 1 rfl) ?_
  refine lv_aload_n hx hb dX7_read_1 rfl (lv_at hl 0 rfl) ?_
  refine jn_callv (va_runV (As := [.ref (g.2.2.2 (8 + j))]) (rest := []) ⟨hx, hb, hml, hown, hts⟩ (c_X0_readFrom l g tl H.size σ j (by omega)) (cwV 1 hts gX7_read_X0_readFrom rfl rfl rfl (by decide +kernel) ⟨Nat.le_of_ble_eq_true rfl, Nat.le_of_ble_eq_true rfl⟩) (okWV hK hP hD rfl (gC1 g σ tl)) rfl rfl hl.1 rfl (lv_room (Nat.le_of_ble_eq_true rfl)) dX7_read_2 ⟨Nat.le_of_ble_eq_true rfl, Nat.le_of_ble_eq_true rfl⟩) hD hS hAA (fun u H locs hw_ hP hD hS => ?_)
  have hP : va_P (g.1, g.2.1) vwCl (wC g (sF (sA σ 0 (va_cpy (σ.2.2 (2 + j)) (σ.2.1 0) 0 0 15)) 0 ((σ.2.2 (2 + j)) 15)) ++ tl) H := hP
  have hD : va_D A (wC g (sF (sA σ 0 (va_cpy (σ.2.2 (2 + j)) (σ.2.1 0) 0 0 15)) 0 ((σ.2.2 (2 + j)) 15)) ++ tl) := hD
  refine lv_aload_n hx hb dX7_read_5 rfl (lv_at hl 2 rfl) ?_
  refine lv_aload_n hx hb dX7_read_6 rfl (lv_at hl 0 rfl) ?_
  refine lv_bipush (v := nI 16) hx hb dX7_read_7 (by decide) ?_
  refine jn_callv (va_runV (As := [.ref (g.2.2.2 (8 + j)), .int (nI 16)]) (rest := []) ⟨hx, hb, hml, hown, hts⟩ (c_X3_readFrom l g tl H.size (sF (sA σ 0 (va_cpy (σ.2.2 (2 + j)) (σ.2.1 0) 0 0 15)) 0 ((σ.2.2 (2 + j)) 15)) j (by omega)) (cwV 2 hts gX7_read_X3_readFrom rfl rfl rfl (by decide +kernel) ⟨Nat.le_of_ble_eq_true rfl, Nat.le_of_ble_eq_true rfl⟩) (okWV hK hP hD rfl (gC4 g (sF (sA σ 0 (va_cpy (σ.2.2 (2 + j)) (σ.2.1 0) 0 0 15)) 0 ((σ.2.2 (2 + j)) 15)) tl)) rfl rfl hl.1 rfl (lv_room (Nat.le_of_ble_eq_true rfl)) dX7_read_9 ⟨Nat.le_of_ble_eq_true rfl, Nat.le_of_ble_eq_true rfl⟩) hD hS hAA (fun u H locs hw_ hP hD hS => ?_)
  have hP : va_P (g.1, g.2.1) vwCl (wC g (sA (sF (sA σ 0 (va_cpy (σ.2.2 (2 + j)) (σ.2.1 0) 0 0 15)) 0 ((σ.2.2 (2 + j)) 15)) 2 (va_cpy (σ.2.2 (2 + j)) (σ.2.1 2) 16 0 42)) ++ tl) H := hP
  have hD : va_D A (wC g (sA (sF (sA σ 0 (va_cpy (σ.2.2 (2 + j)) (σ.2.1 0) 0 0 15)) 0 ((σ.2.2 (2 + j)) 15)) 2 (va_cpy (σ.2.2 (2 + j)) (σ.2.1 2) 16 0 42)) ++ tl) := hD
  exact hq _ _ _ _ () dX7_read_12 trivial hP hD hS

abbrev r_c_X7_push : Room := { frames := 3, cells := 0, slots := 0, locals := 108 }
set_option maxHeartbeats 4000000 in
set_option maxRecDepth 100000 in
theorem c_X7_push (l : Launch) (g : GC) (tl : va_W) (sz : Nat) (σ : SS) (hM : OkM σ) : Met l yX7_push wsX7_push r_c_X7_push (va_Pc [.ref (g.2.2.2 6), .ref (g.2.2.2 1), .ref (g.2.2.2 4)] (PW g (wC g σ ++ tl) sz)) (va_Qv (fun (_ : Unit) => True) (fun (_ : Unit) t => BW g (va_A (wC g σ ++ tl) sz) (wC g (sF (sF (sL σ (2 + σ.1 9) (snp σ (σ.2.2 (2 + σ.1 9)))) 9 ((σ.1 9 + 1) % 8)) 10 (min (σ.1 10 + 1) 8)) ++ tl) t) (va_A (wC g σ ++ tl) sz)) 0 0 (va_A (wC g σ ++ tl) sz) := by
  refine jn_sv (wf := fun _ : Unit => wC g (sF (sF (sL σ (2 + σ.1 9) (snp σ (σ.2.2 (2 + σ.1 9)))) 9 ((σ.1 9 + 1) % 8)) 10 (min (σ.1 10 + 1) 8)) ++ tl) (cc := cX7_push) (maxL := 3) (own := RX7) (by decide) rfl rfl (Nat.le_of_ble_eq_true rfl) ?_
  intro p e s m below meth c Q A hx hb hml hown hts hK hP hD hS hAA hq ls hl
  obtain ⟨H, eH⟩ : ∃ z, z = s.heap := ⟨_, rfl⟩
  obtain ⟨locs, el⟩ : ∃ z : List Loc, z = [] := ⟨_, rfl⟩
  rw [← eH] at hP
  have hS : va_S A s.heap H locs := by rw [eH, el]; exact hS
  have goal0 : W p l e r_c_X7_push s m ([.ref (g.2.2.2 6), .ref (g.2.2.2 1), .ref (g.2.2.2 4)] : List Value).toArray below meth c H locs 0 0 Q (F0 m 0 ls []) → W p l e r_c_X7_push s m ([.ref (g.2.2.2 6), .ref (g.2.2.2 1), .ref (g.2.2.2 4)] : List Value).toArray below meth c s.heap [] 0 0 Q (F0 m 0 ls []) := fun h => by rw [eH, el] at h; exact h
  refine goal0 ?_
  have hl : lv_has ls 3 [(0, .ref (g.2.2.2 6)), (1, .ref (g.2.2.2 1)), (2, .ref (g.2.2.2 4))] := hl
  have iX7 : ∀ w ∈ wsX70, w ∈ wsX7_push := by decide +kernel
  have k15 := hts (.fieldLink RX7 15 "JumpingAutomata$Memory" "ring" "[[I") (by decide +kernel)
  have k22 := hts (.fieldLink RX7 22 "JumpingAutomata$Memory" "end" "I") (by decide +kernel)
  have k26 := hts (.fieldLink RX7 26 "JumpingAutomata$Memory" "size" "I") (by decide +kernel)
  have hM1 := hM.1
  have hM2 := hM.2.1
  refine lv_aload_n hx hb dX7_push_0 rfl (lv_at hl 0 rfl) ?_
  refine va_get (D := (g.1, g.2.1)) (ci := 9) (v := .ref (g.2.2.2 7)) (C := RX7) (T := TX7) (N := 5) hx hb hts iX7 hown hK.1 hP 6 (gC6 g σ tl) rfl 0 (by decide) k15 (fun _ h9 => h9) rfl dX7_push_1 ?_
  refine lv_aload_n hx hb dX7_push_4 rfl (lv_at hl 0 rfl) ?_
  refine va_get (D := (g.1, g.2.1)) (ci := 9) (v := .int (nI (σ.1 9))) (C := RX7) (T := TX7) (N := 5) hx hb hts iX7 hown hK.1 hP 6 (gC6 g σ tl) rfl 2 (by decide) k22 (fun _ h9 => h9) rfl dX7_push_5 ?_
  refine lv_bipush (v := nI 7) hx hb dX7_push_8 (by decide) ?_
  refine jn_iand hx hb dX7_push_10 ?_
  refine jn_nm (fun j0 ej0 => ?_)
  have ej : j0 = σ.1 9 := by rw [ej0]; exact and7 hM1
  refine jn_aald hx hb hK.1 hP 7 3 (gC7 g σ tl) rfl (by omega) (Nat.le_of_ble_eq_true rfl) (if_pos (by omega)) dX7_push_11 ?_
  refine lv_aload_n hx hb dX7_push_12 rfl (lv_at hl 1 rfl) ?_
  refine lv_aload_n hx hb dX7_push_13 rfl (lv_at hl 2 rfl) ?_
  refine jn_callv (va_runS (As := [.ref (g.2.2.2 (8 + j0)), .ref (g.2.2.2 1), .ref (g.2.2.2 4)]) (rest := []) ⟨hx, hb, hml, hown, hts⟩ (c_X7_write l g tl H.size σ j0 (by omega)) (va_cwS 3 hts gX7_push_X7_write rfl rfl rfl (by decide +kernel) ⟨Nat.le_of_ble_eq_true rfl, Nat.le_of_ble_eq_true rfl⟩) (okWS hK hP hD) rfl rfl hl.1 rfl (lv_room (Nat.le_of_ble_eq_true rfl)) dX7_push_14 ⟨Nat.le_of_ble_eq_true rfl, Nat.le_of_ble_eq_true rfl⟩) hD hS hAA (fun u H locs hw_ hP hD hS => ?_)
  have hP : va_P (g.1, g.2.1) vwCl (wC g (sL σ (2 + j0) (snp σ (σ.2.2 (2 + j0)))) ++ tl) H := hP
  have hD : va_D A (wC g (sL σ (2 + j0) (snp σ (σ.2.2 (2 + j0)))) ++ tl) := hD
  refine lv_aload_n hx hb dX7_push_17 rfl (lv_at hl 0 rfl) ?_
  refine lv_aload_n hx hb dX7_push_18 rfl (lv_at hl 0 rfl) ?_
  refine va_get (D := (g.1, g.2.1)) (ci := 9) (v := .int (nI (σ.1 9))) (C := RX7) (T := TX7) (N := 5) hx hb hts iX7 hown hK.1 hP 6 (gC6 g (sL σ (2 + j0) (snp σ (σ.2.2 (2 + j0)))) tl) rfl 2 (by decide) k22 (fun _ h9 => h9) rfl dX7_push_19 ?_
  refine lv_iconst (v := nI 1) hx hb dX7_push_22 (by decide) ?_
  refine jn_iadd hx hb dX7_push_23 ?_
  refine lv_bipush (v := nI 7) hx hb dX7_push_24 (by decide) ?_
  refine jn_iand hx hb dX7_push_26 ?_
  refine jn_put (D := (g.1, g.2.1)) (ci := 9) (v := .int (nI (((σ.1 9) + 1) &&& 7))) (ty := .int) (C := RX7) (T := TX7) (N := 5) hx hb hts iX7 tyX7 tyX7_ok nmX7 hown hK.1 hP hD hS 6 (gC6 g (sL σ (2 + j0) (snp σ (σ.2.2 (2 + j0)))) tl) rfl 2 (by decide) k22 (fun _ h9 => h9) rfl (by decide +kernel) rfl rfl (Nat.le_of_ble_eq_true rfl) (uC_F9 g (sL σ (2 + j0) (snp σ (σ.2.2 (2 + j0)))) tl (((σ.1 9) + 1) &&& 7)) dX7_push_27 (fun H locs hP hD hS => ?_)
  refine lv_aload_n hx hb dX7_push_30 rfl (lv_at hl 0 rfl) ?_
  refine lv_aload_n hx hb dX7_push_31 rfl (lv_at hl 0 rfl) ?_
  refine va_get (D := (g.1, g.2.1)) (ci := 9) (v := .int (nI (σ.1 10))) (C := RX7) (T := TX7) (N := 5) hx hb hts iX7 hown hK.1 hP 6 (gC6 g (sF (sL σ (2 + j0) (snp σ (σ.2.2 (2 + j0)))) 9 (((σ.1 9) + 1) &&& 7)) tl) rfl 3 (by decide) k26 (fun _ h9 => h9) rfl dX7_push_32 ?_
  refine lv_bipush (v := nI 8) hx hb dX7_push_35 (by decide) ?_
  refine jn_cge hx hb (by omega) (by decide) (tgt := 49) dX7_push_37 (by decide) (fun c_37 => ?_) (fun c_37 => ?_)
  · refine lv_bipush (v := nI 8) hx hb dX7_push_49 (by decide) ?_
    refine jn_put (D := (g.1, g.2.1)) (ci := 9) (v := .int (nI 8)) (ty := .int) (C := RX7) (T := TX7) (N := 5) hx hb hts iX7 tyX7 tyX7_ok nmX7 hown hK.1 hP hD hS 6 (gC6 g (sF (sL σ (2 + j0) (snp σ (σ.2.2 (2 + j0)))) 9 (((σ.1 9) + 1) &&& 7)) tl) rfl 3 (by decide) k26 (fun _ h9 => h9) rfl (by decide +kernel) rfl rfl (Nat.le_of_ble_eq_true rfl) (uC_F10 g (sF (sL σ (2 + j0) (snp σ (σ.2.2 (2 + j0)))) 9 (((σ.1 9) + 1) &&& 7)) tl 8) dX7_push_51 (fun H locs hP hD hS => ?_)
    have eW : (sF (sF (sL σ (2 + j0) (snp σ (σ.2.2 (2 + j0)))) 9 (((σ.1 9) + 1) &&& 7)) 10 8) = (sF (sF (sL σ (2 + σ.1 9) (snp σ (σ.2.2 (2 + σ.1 9)))) 9 ((σ.1 9 + 1) % 8)) 10 (min (σ.1 10 + 1) 8)) := (by rw [ej, and7m]; congr 1; omega)
    rw [eW] at hP hD
    exact hq _ _ _ _ () dX7_push_54 trivial hP hD hS
  · refine lv_aload_n hx hb dX7_push_40 rfl (lv_at hl 0 rfl) ?_
    refine va_get (D := (g.1, g.2.1)) (ci := 9) (v := .int (nI (σ.1 10))) (C := RX7) (T := TX7) (N := 5) hx hb hts iX7 hown hK.1 hP 6 (gC6 g (sF (sL σ (2 + j0) (snp σ (σ.2.2 (2 + j0)))) 9 (((σ.1 9) + 1) &&& 7)) tl) rfl 3 (by decide) k26 (fun _ h9 => h9) rfl dX7_push_41 ?_
    refine lv_iconst (v := nI 1) hx hb dX7_push_44 (by decide) ?_
    refine jn_iadd hx hb dX7_push_45 ?_
    refine lv_goto (tgt := 51) hx hb dX7_push_46 (by decide) ?_
    refine jn_put (D := (g.1, g.2.1)) (ci := 9) (v := .int (nI ((σ.1 10) + 1))) (ty := .int) (C := RX7) (T := TX7) (N := 5) hx hb hts iX7 tyX7 tyX7_ok nmX7 hown hK.1 hP hD hS 6 (gC6 g (sF (sL σ (2 + j0) (snp σ (σ.2.2 (2 + j0)))) 9 (((σ.1 9) + 1) &&& 7)) tl) rfl 3 (by decide) k26 (fun _ h9 => h9) rfl (by decide +kernel) rfl rfl (Nat.le_of_ble_eq_true rfl) (uC_F10 g (sF (sL σ (2 + j0) (snp σ (σ.2.2 (2 + j0)))) 9 (((σ.1 9) + 1) &&& 7)) tl ((σ.1 10) + 1)) dX7_push_51 (fun H locs hP hD hS => ?_)
    have eW : (sF (sF (sL σ (2 + j0) (snp σ (σ.2.2 (2 + j0)))) 9 (((σ.1 9) + 1) &&& 7)) 10 ((σ.1 10) + 1)) = (sF (sF (sL σ (2 + σ.1 9) (snp σ (σ.2.2 (2 + σ.1 9)))) 9 ((σ.1 9 + 1) % 8)) 10 (min (σ.1 10 + 1) 8)) := (by rw [ej, and7m]; congr 1; omega)
    rw [eW] at hP hD
    exact hq _ _ _ _ () dX7_push_54 trivial hP hD hS

abbrev r_c_X7_pop : Room := { frames := 3, cells := 0, slots := 0, locals := 108 }
set_option maxHeartbeats 4000000 in
set_option maxRecDepth 100000 in
theorem c_X7_pop (l : Launch) (g : GC) (tl : va_W) (sz : Nat) (σ : SS) (hM : OkM σ) (h0 : 0 < σ.1 10) : Met l yX7_pop wsX7_pop r_c_X7_pop (va_Pc [.ref (g.2.2.2 6), .ref (g.2.2.2 1), .ref (g.2.2.2 4)] (PW g (wC g σ ++ tl) sz)) (va_Qv (fun (_ : Unit) => True) (fun (_ : Unit) t => BW g (va_A (wC g σ ++ tl) sz) (wC g (sF (sF (sF (sA (sA σ 0 (va_cpy (σ.2.2 (2 + (σ.1 9 + 7) % 8)) (σ.2.1 0) 0 0 15)) 2 (va_cpy (σ.2.2 (2 + (σ.1 9 + 7) % 8)) (σ.2.1 2) 16 0 42)) 0 ((σ.2.2 (2 + (σ.1 9 + 7) % 8)) 15)) 9 ((σ.1 9 + 7) % 8)) 10 (σ.1 10 - 1)) ++ tl) t) (va_A (wC g σ ++ tl) sz)) 0 0 (va_A (wC g σ ++ tl) sz) := by
  refine jn_sv (wf := fun _ : Unit => wC g (sF (sF (sF (sA (sA σ 0 (va_cpy (σ.2.2 (2 + (σ.1 9 + 7) % 8)) (σ.2.1 0) 0 0 15)) 2 (va_cpy (σ.2.2 (2 + (σ.1 9 + 7) % 8)) (σ.2.1 2) 16 0 42)) 0 ((σ.2.2 (2 + (σ.1 9 + 7) % 8)) 15)) 9 ((σ.1 9 + 7) % 8)) 10 (σ.1 10 - 1)) ++ tl) (cc := cX7_pop) (maxL := 3) (own := RX7) (by decide) rfl rfl (Nat.le_of_ble_eq_true rfl) ?_
  intro p e s m below meth c Q A hx hb hml hown hts hK hP hD hS hAA hq ls hl
  obtain ⟨H, eH⟩ : ∃ z, z = s.heap := ⟨_, rfl⟩
  obtain ⟨locs, el⟩ : ∃ z : List Loc, z = [] := ⟨_, rfl⟩
  rw [← eH] at hP
  have hS : va_S A s.heap H locs := by rw [eH, el]; exact hS
  have goal0 : W p l e r_c_X7_pop s m ([.ref (g.2.2.2 6), .ref (g.2.2.2 1), .ref (g.2.2.2 4)] : List Value).toArray below meth c H locs 0 0 Q (F0 m 0 ls []) → W p l e r_c_X7_pop s m ([.ref (g.2.2.2 6), .ref (g.2.2.2 1), .ref (g.2.2.2 4)] : List Value).toArray below meth c s.heap [] 0 0 Q (F0 m 0 ls []) := fun h => by rw [eH, el] at h; exact h
  refine goal0 ?_
  have hl : lv_has ls 3 [(0, .ref (g.2.2.2 6)), (1, .ref (g.2.2.2 1)), (2, .ref (g.2.2.2 4))] := hl
  have iX7 : ∀ w ∈ wsX70, w ∈ wsX7_pop := by decide +kernel
  have k26 := hts (.fieldLink RX7 26 "JumpingAutomata$Memory" "size" "I") (by decide +kernel)
  have k22 := hts (.fieldLink RX7 22 "JumpingAutomata$Memory" "end" "I") (by decide +kernel)
  have k15 := hts (.fieldLink RX7 15 "JumpingAutomata$Memory" "ring" "[[I") (by decide +kernel)
  have hM1 := hM.1
  have hM2 := hM.2.1
  refine lv_aload_n hx hb dX7_pop_0 rfl (lv_at hl 0 rfl) ?_
  refine va_get (D := (g.1, g.2.1)) (ci := 9) (v := .int (nI (σ.1 10))) (C := RX7) (T := TX7) (N := 5) hx hb hts iX7 hown hK.1 hP 6 (gC6 g σ tl) rfl 3 (by decide) k26 (fun _ h9 => h9) rfl dX7_pop_1 ?_
  refine jn_zle hx hb (by omega) (tgt := 44) dX7_pop_4 (by decide) (fun c_4 => absurd c_4 (by omega)) (fun c_4 => ?_)
  refine lv_aload_n hx hb dX7_pop_7 rfl (lv_at hl 0 rfl) ?_
  refine lv_aload_n hx hb dX7_pop_8 rfl (lv_at hl 0 rfl) ?_
  refine va_get (D := (g.1, g.2.1)) (ci := 9) (v := .int (nI (σ.1 9))) (C := RX7) (T := TX7) (N := 5) hx hb hts iX7 hown hK.1 hP 6 (gC6 g σ tl) rfl 2 (by decide) k22 (fun _ h9 => h9) rfl dX7_pop_9 ?_
  refine lv_iconst (v := nI 1) hx hb dX7_pop_12 (by decide) ?_
  refine jn_isubB hx hb (by decide) dX7_pop_13 ?_
  refine lv_bipush (v := nI 7) hx hb dX7_pop_14 (by decide) ?_
  refine jn_iand hx hb dX7_pop_16 ?_
  refine jn_nm (fun j0 ej0 => ?_)
  have ej : j0 = (σ.1 9 + 7) % 8 := by rw [ej0, and7m]; unfold sb; split <;> omega
  refine jn_put (D := (g.1, g.2.1)) (ci := 9) (v := .int (nI j0)) (ty := .int) (C := RX7) (T := TX7) (N := 5) hx hb hts iX7 tyX7 tyX7_ok nmX7 hown hK.1 hP hD hS 6 (gC6 g σ tl) rfl 2 (by decide) k22 (fun _ h9 => h9) rfl (by decide +kernel) rfl rfl (Nat.le_of_ble_eq_true rfl) (uC_F9 g σ tl j0) dX7_pop_17 (fun H locs hP hD hS => ?_)
  refine lv_aload_n hx hb dX7_pop_20 rfl (lv_at hl 0 rfl) ?_
  refine lv_dup hx hb dX7_pop_21 rfl ?_
  refine va_get (D := (g.1, g.2.1)) (ci := 9) (v := .int (nI (σ.1 10))) (C := RX7) (T := TX7) (N := 5) hx hb hts iX7 hown hK.1 hP 6 (gC6 g (sF σ 9 j0) tl) rfl 3 (by decide) k26 (fun _ h9 => h9) rfl dX7_pop_22 ?_
  refine lv_iconst (v := nI 1) hx hb dX7_pop_25 (by decide) ?_
  refine jn_isub hx hb (by omega) dX7_pop_26 ?_
  refine jn_put (D := (g.1, g.2.1)) (ci := 9) (v := .int (nI ((σ.1 10) - 1))) (ty := .int) (C := RX7) (T := TX7) (N := 5) hx hb hts iX7 tyX7 tyX7_ok nmX7 hown hK.1 hP hD hS 6 (gC6 g (sF σ 9 j0) tl) rfl 3 (by decide) k26 (fun _ h9 => h9) rfl (by decide +kernel) rfl rfl (Nat.le_of_ble_eq_true rfl) (uC_F10 g (sF σ 9 j0) tl ((σ.1 10) - 1)) dX7_pop_27 (fun H locs hP hD hS => ?_)
  refine lv_aload_n hx hb dX7_pop_30 rfl (lv_at hl 0 rfl) ?_
  refine va_get (D := (g.1, g.2.1)) (ci := 9) (v := .ref (g.2.2.2 7)) (C := RX7) (T := TX7) (N := 5) hx hb hts iX7 hown hK.1 hP 6 (gC6 g (sF (sF σ 9 j0) 10 ((σ.1 10) - 1)) tl) rfl 0 (by decide) k15 (fun _ h9 => h9) rfl dX7_pop_31 ?_
  refine lv_aload_n hx hb dX7_pop_34 rfl (lv_at hl 0 rfl) ?_
  refine va_get (D := (g.1, g.2.1)) (ci := 9) (v := .int (nI j0)) (C := RX7) (T := TX7) (N := 5) hx hb hts iX7 hown hK.1 hP 6 (gC6 g (sF (sF σ 9 j0) 10 ((σ.1 10) - 1)) tl) rfl 2 (by decide) k22 (fun _ h9 => h9) rfl dX7_pop_35 ?_
  refine jn_aald hx hb hK.1 hP 7 3 (gC7 g (sF (sF σ 9 j0) 10 ((σ.1 10) - 1)) tl) rfl (by omega) (Nat.le_of_ble_eq_true rfl) (if_pos (by omega)) dX7_pop_38 ?_
  refine lv_aload_n hx hb dX7_pop_39 rfl (lv_at hl 1 rfl) ?_
  refine lv_aload_n hx hb dX7_pop_40 rfl (lv_at hl 2 rfl) ?_
  refine jn_callv (va_runS (As := [.ref (g.2.2.2 (8 + j0)), .ref (g.2.2.2 1), .ref (g.2.2.2 4)]) (rest := []) ⟨hx, hb, hml, hown, hts⟩ (c_X7_read l g tl H.size (sF (sF σ 9 j0) 10 ((σ.1 10) - 1)) j0 (by omega)) (va_cwS 3 hts gX7_pop_X7_read rfl rfl rfl (by decide +kernel) ⟨Nat.le_of_ble_eq_true rfl, Nat.le_of_ble_eq_true rfl⟩) (okWS hK hP hD) rfl rfl hl.1 rfl (lv_room (Nat.le_of_ble_eq_true rfl)) dX7_pop_41 ⟨Nat.le_of_ble_eq_true rfl, Nat.le_of_ble_eq_true rfl⟩) hD hS hAA (fun u H locs hw_ hP hD hS => ?_)
  have hP : va_P (g.1, g.2.1) vwCl (wC g (sF (sA (sA (sF (sF σ 9 j0) 10 ((σ.1 10) - 1)) 0 (va_cpy (σ.2.2 (2 + j0)) (σ.2.1 0) 0 0 15)) 2 (va_cpy (σ.2.2 (2 + j0)) (σ.2.1 2) 16 0 42)) 0 ((σ.2.2 (2 + j0)) 15)) ++ tl) H := hP
  have hD : va_D A (wC g (sF (sA (sA (sF (sF σ 9 j0) 10 ((σ.1 10) - 1)) 0 (va_cpy (σ.2.2 (2 + j0)) (σ.2.1 0) 0 0 15)) 2 (va_cpy (σ.2.2 (2 + j0)) (σ.2.1 2) 16 0 42)) 0 ((σ.2.2 (2 + j0)) 15)) ++ tl) := hD
  have eW : (wC g (sF (sA (sA (sF (sF σ 9 j0) 10 ((σ.1 10) - 1)) 0 (va_cpy (σ.2.2 (2 + j0)) (σ.2.1 0) 0 0 15)) 2 (va_cpy (σ.2.2 (2 + j0)) (σ.2.1 2) 16 0 42)) 0 ((σ.2.2 (2 + j0)) 15)) ++ tl) = (wC g (sF (sF (sF (sA (sA σ 0 (va_cpy (σ.2.2 (2 + (σ.1 9 + 7) % 8)) (σ.2.1 0) 0 0 15)) 2 (va_cpy (σ.2.2 (2 + (σ.1 9 + 7) % 8)) (σ.2.1 2) 16 0 42)) 0 ((σ.2.2 (2 + (σ.1 9 + 7) % 8)) 15)) 9 ((σ.1 9 + 7) % 8)) 10 (σ.1 10 - 1)) ++ tl) := (by rw [ej]; rfl)
  rw [eW] at hP hD
  exact hq _ _ _ _ () dX7_pop_44 trivial hP hD hS

abbrev r_c_X7_keep : Room := { frames := 3, cells := 0, slots := 0, locals := 108 }
set_option maxHeartbeats 4000000 in
set_option maxRecDepth 100000 in
theorem c_X7_keep (l : Launch) (g : GC) (tl : va_W) (sz : Nat) (σ : SS) : Met l yX7_keep wsX7_keep r_c_X7_keep (va_Pc [.ref (g.2.2.2 6), .ref (g.2.2.2 1), .ref (g.2.2.2 4)] (PW g (wC g σ ++ tl) sz)) (va_Qv (fun (_ : Unit) => True) (fun (_ : Unit) t => BW g (va_A (wC g σ ++ tl) sz) (wC g (sF (sL σ 10 (snp σ (σ.2.2 10))) 11 1) ++ tl) t) (va_A (wC g σ ++ tl) sz)) 0 0 (va_A (wC g σ ++ tl) sz) := by
  refine jn_sv (wf := fun _ : Unit => wC g (sF (sL σ 10 (snp σ (σ.2.2 10))) 11 1) ++ tl) (cc := cX7_keep) (maxL := 3) (own := RX7) (by decide) rfl rfl (Nat.le_of_ble_eq_true rfl) ?_
  intro p e s m below meth c Q A hx hb hml hown hts hK hP hD hS hAA hq ls hl
  obtain ⟨H, eH⟩ : ∃ z, z = s.heap := ⟨_, rfl⟩
  obtain ⟨locs, el⟩ : ∃ z : List Loc, z = [] := ⟨_, rfl⟩
  rw [← eH] at hP
  have hS : va_S A s.heap H locs := by rw [eH, el]; exact hS
  have goal0 : W p l e r_c_X7_keep s m ([.ref (g.2.2.2 6), .ref (g.2.2.2 1), .ref (g.2.2.2 4)] : List Value).toArray below meth c H locs 0 0 Q (F0 m 0 ls []) → W p l e r_c_X7_keep s m ([.ref (g.2.2.2 6), .ref (g.2.2.2 1), .ref (g.2.2.2 4)] : List Value).toArray below meth c s.heap [] 0 0 Q (F0 m 0 ls []) := fun h => by rw [eH, el] at h; exact h
  refine goal0 ?_
  have hl : lv_has ls 3 [(0, .ref (g.2.2.2 6)), (1, .ref (g.2.2.2 1)), (2, .ref (g.2.2.2 4))] := hl
  have iX7 : ∀ w ∈ wsX70, w ∈ wsX7_keep := by decide +kernel
  have k18 := hts (.fieldLink RX7 18 "JumpingAutomata$Memory" "kept" "[I") (by decide +kernel)
  have k29 := hts (.fieldLink RX7 29 "JumpingAutomata$Memory" "hasKept" "Z") (by decide +kernel)
  refine lv_aload_n hx hb dX7_keep_0 rfl (lv_at hl 0 rfl) ?_
  refine va_get (D := (g.1, g.2.1)) (ci := 9) (v := .ref (g.2.2.2 16)) (C := RX7) (T := TX7) (N := 5) hx hb hts iX7 hown hK.1 hP 6 (gC6 g σ tl) rfl 1 (by decide) k18 (fun _ h9 => h9) rfl dX7_keep_1 ?_
  refine lv_aload_n hx hb dX7_keep_4 rfl (lv_at hl 1 rfl) ?_
  refine lv_aload_n hx hb dX7_keep_5 rfl (lv_at hl 2 rfl) ?_
  refine jn_callv (va_runS (As := [.ref (g.2.2.2 16), .ref (g.2.2.2 1), .ref (g.2.2.2 4)]) (rest := []) ⟨hx, hb, hml, hown, hts⟩ (c_X7_write l g tl H.size σ 8 (by omega)) (va_cwS 3 hts gX7_keep_X7_write rfl rfl rfl (by decide +kernel) ⟨Nat.le_of_ble_eq_true rfl, Nat.le_of_ble_eq_true rfl⟩) (okWS hK hP hD) rfl rfl hl.1 rfl (lv_room (Nat.le_of_ble_eq_true rfl)) dX7_keep_6 ⟨Nat.le_of_ble_eq_true rfl, Nat.le_of_ble_eq_true rfl⟩) hD hS hAA (fun u H locs hw_ hP hD hS => ?_)
  have hP : va_P (g.1, g.2.1) vwCl (wC g (sL σ (2 + 8) (snp σ (σ.2.2 (2 + 8)))) ++ tl) H := hP
  have hD : va_D A (wC g (sL σ (2 + 8) (snp σ (σ.2.2 (2 + 8)))) ++ tl) := hD
  refine lv_aload_n hx hb dX7_keep_9 rfl (lv_at hl 0 rfl) ?_
  refine lv_iconst (v := nI 1) hx hb dX7_keep_10 (by decide) ?_
  refine jn_put (D := (g.1, g.2.1)) (ci := 9) (v := .int (nI 1)) (ty := .boolean) (C := RX7) (T := TX7) (N := 5) hx hb hts iX7 tyX7 tyX7_ok nmX7 hown hK.1 hP hD hS 6 (gC6 g (sL σ (2 + 8) (snp σ (σ.2.2 (2 + 8)))) tl) rfl 4 (by decide) k29 (fun _ h9 => h9) rfl (by decide +kernel) jn_n1 jn_f1 (Nat.le_of_ble_eq_true rfl) (uC_F11 g (sL σ (2 + 8) (snp σ (σ.2.2 (2 + 8)))) tl 1) dX7_keep_11 (fun H locs hP hD hS => ?_)
  exact hq _ _ _ _ () dX7_keep_14 trivial hP hD hS

abbrev r_c_X7_recall : Room := { frames := 3, cells := 0, slots := 0, locals := 108 }
set_option maxHeartbeats 4000000 in
set_option maxRecDepth 100000 in
theorem c_X7_recall (l : Launch) (g : GC) (tl : va_W) (sz : Nat) (σ : SS) (hM : OkM σ) (h0 : σ.1 11 ≠ 0) : Met l yX7_recall wsX7_recall r_c_X7_recall (va_Pc [.ref (g.2.2.2 6), .ref (g.2.2.2 1), .ref (g.2.2.2 4)] (PW g (wC g σ ++ tl) sz)) (va_Qv (fun (_ : Unit) => True) (fun (_ : Unit) t => BW g (va_A (wC g σ ++ tl) sz) (wC g (sF (sA (sA σ 0 (va_cpy (σ.2.2 10) (σ.2.1 0) 0 0 15)) 2 (va_cpy (σ.2.2 10) (σ.2.1 2) 16 0 42)) 0 ((σ.2.2 10) 15)) ++ tl) t) (va_A (wC g σ ++ tl) sz)) 0 0 (va_A (wC g σ ++ tl) sz) := by
  refine jn_sv (wf := fun _ : Unit => wC g (sF (sA (sA σ 0 (va_cpy (σ.2.2 10) (σ.2.1 0) 0 0 15)) 2 (va_cpy (σ.2.2 10) (σ.2.1 2) 16 0 42)) 0 ((σ.2.2 10) 15)) ++ tl) (cc := cX7_recall) (maxL := 3) (own := RX7) (by decide) rfl rfl (Nat.le_of_ble_eq_true rfl) ?_
  intro p e s m below meth c Q A hx hb hml hown hts hK hP hD hS hAA hq ls hl
  obtain ⟨H, eH⟩ : ∃ z, z = s.heap := ⟨_, rfl⟩
  obtain ⟨locs, el⟩ : ∃ z : List Loc, z = [] := ⟨_, rfl⟩
  rw [← eH] at hP
  have hS : va_S A s.heap H locs := by rw [eH, el]; exact hS
  have goal0 : W p l e r_c_X7_recall s m ([.ref (g.2.2.2 6), .ref (g.2.2.2 1), .ref (g.2.2.2 4)] : List Value).toArray below meth c H locs 0 0 Q (F0 m 0 ls []) → W p l e r_c_X7_recall s m ([.ref (g.2.2.2 6), .ref (g.2.2.2 1), .ref (g.2.2.2 4)] : List Value).toArray below meth c s.heap [] 0 0 Q (F0 m 0 ls []) := fun h => by rw [eH, el] at h; exact h
  refine goal0 ?_
  have hl : lv_has ls 3 [(0, .ref (g.2.2.2 6)), (1, .ref (g.2.2.2 1)), (2, .ref (g.2.2.2 4))] := hl
  have iX7 : ∀ w ∈ wsX70, w ∈ wsX7_recall := by decide +kernel
  have k29 := hts (.fieldLink RX7 29 "JumpingAutomata$Memory" "hasKept" "Z") (by decide +kernel)
  have k18 := hts (.fieldLink RX7 18 "JumpingAutomata$Memory" "kept" "[I") (by decide +kernel)
  refine lv_aload_n hx hb dX7_recall_0 rfl (lv_at hl 0 rfl) ?_
  refine va_get (D := (g.1, g.2.1)) (ci := 9) (v := .int (nI (σ.1 11))) (C := RX7) (T := TX7) (N := 5) hx hb hts iX7 hown hK.1 hP 6 (gC6 g σ tl) rfl 4 (by decide) k29 (fun _ h9 => h9) rfl dX7_recall_1 ?_
  refine jn_zeq hx hb (by have := hM.2.2; omega) (tgt := 16) dX7_recall_4 (by decide) (fun c_4 => absurd c_4 (by omega)) (fun c_4 => ?_)
  refine lv_aload_n hx hb dX7_recall_7 rfl (lv_at hl 0 rfl) ?_
  refine va_get (D := (g.1, g.2.1)) (ci := 9) (v := .ref (g.2.2.2 16)) (C := RX7) (T := TX7) (N := 5) hx hb hts iX7 hown hK.1 hP 6 (gC6 g σ tl) rfl 1 (by decide) k18 (fun _ h9 => h9) rfl dX7_recall_8 ?_
  refine lv_aload_n hx hb dX7_recall_11 rfl (lv_at hl 1 rfl) ?_
  refine lv_aload_n hx hb dX7_recall_12 rfl (lv_at hl 2 rfl) ?_
  refine jn_callv (va_runS (As := [.ref (g.2.2.2 16), .ref (g.2.2.2 1), .ref (g.2.2.2 4)]) (rest := []) ⟨hx, hb, hml, hown, hts⟩ (c_X7_read l g tl H.size σ 8 (by omega)) (va_cwS 3 hts gX7_recall_X7_read rfl rfl rfl (by decide +kernel) ⟨Nat.le_of_ble_eq_true rfl, Nat.le_of_ble_eq_true rfl⟩) (okWS hK hP hD) rfl rfl hl.1 rfl (lv_room (Nat.le_of_ble_eq_true rfl)) dX7_recall_13 ⟨Nat.le_of_ble_eq_true rfl, Nat.le_of_ble_eq_true rfl⟩) hD hS hAA (fun u H locs hw_ hP hD hS => ?_)
  have hP : va_P (g.1, g.2.1) vwCl (wC g (sF (sA (sA σ 0 (va_cpy (σ.2.2 (2 + 8)) (σ.2.1 0) 0 0 15)) 2 (va_cpy (σ.2.2 (2 + 8)) (σ.2.1 2) 16 0 42)) 0 ((σ.2.2 (2 + 8)) 15)) ++ tl) H := hP
  have hD : va_D A (wC g (sF (sA (sA σ 0 (va_cpy (σ.2.2 (2 + 8)) (σ.2.1 0) 0 0 15)) 2 (va_cpy (σ.2.2 (2 + 8)) (σ.2.1 2) 16 0 42)) 0 ((σ.2.2 (2 + 8)) 15)) ++ tl) := hD
  exact hq _ _ _ _ () dX7_recall_16 trivial hP hD hS
