abbrev r_c_X8_begin : Room := { frames := 0, cells := 0, slots := 0, locals := 0 }
set_option maxHeartbeats 4000000 in
set_option maxRecDepth 100000 in
theorem c_X8_begin (l : Launch) (g : GC) (tl : va_W) (sz : Nat) (σ : SS) : Met l yX8_begin wsX8_begin r_c_X8_begin (va_Pc [.ref (g.2.2.2 35)] (PW g (wC g σ ++ tl) sz)) (va_Qv (fun (_ : Unit) => True) (fun (_ : Unit) t => BW g (va_A (wC g σ ++ tl) sz) (wC g (sF (sF (sF (sF (sF σ 12 1) 13 0) 14 0) 15 0) 16 0) ++ tl) t) (va_A (wC g σ ++ tl) sz)) 0 0 (va_A (wC g σ ++ tl) sz) := by
  refine jn_sv (wf := fun _ : Unit => wC g (sF (sF (sF (sF (sF σ 12 1) 13 0) 14 0) 15 0) 16 0) ++ tl) (cc := cX8_begin) (maxL := 1) (own := RX8) (by decide) rfl rfl (Nat.le_of_ble_eq_true rfl) ?_
  intro p e s m below meth c Q A hx hb hml hown hts hK hP hD hS hAA hq ls hl
  obtain ⟨H, eH⟩ : ∃ z, z = s.heap := ⟨_, rfl⟩
  obtain ⟨locs, el⟩ : ∃ z : List Loc, z = [] := ⟨_, rfl⟩
  rw [← eH] at hP
  have hS : va_S A s.heap H locs := by rw [eH, el]; exact hS
  have goal0 : W p l e r_c_X8_begin s m ([.ref (g.2.2.2 35)] : List Value).toArray below meth c H locs 0 0 Q (F0 m 0 ls []) → W p l e r_c_X8_begin s m ([.ref (g.2.2.2 35)] : List Value).toArray below meth c s.heap [] 0 0 Q (F0 m 0 ls []) := fun h => by rw [eH, el] at h; exact h
  refine goal0 ?_
  have hl : lv_has ls 1 [(0, .ref (g.2.2.2 35))] := hl
  have iX8 : ∀ w ∈ wsX80, w ∈ wsX8_begin := by decide +kernel
  have k9 := hts (.fieldLink RX8 9 "JumpingAutomata$OneWayReader" "state" "I") (by decide +kernel)
  have k15 := hts (.fieldLink RX8 15 "JumpingAutomata$OneWayReader" "rest" "I") (by decide +kernel)
  have k18 := hts (.fieldLink RX8 18 "JumpingAutomata$OneWayReader" "restSize" "I") (by decide +kernel)
  have k21 := hts (.fieldLink RX8 21 "JumpingAutomata$OneWayReader" "jumps" "I") (by decide +kernel)
  have k24 := hts (.fieldLink RX8 24 "JumpingAutomata$OneWayReader" "passing" "Z") (by decide +kernel)
  refine lv_aload_n hx hb dX8_begin_0 rfl (lv_at hl 0 rfl) ?_
  refine lv_iconst (v := nI 1) hx hb dX8_begin_1 (by decide) ?_
  refine jn_put (D := (g.1, g.2.1)) (ci := 10) (v := .int (nI 1)) (ty := .int) (C := RX8) (T := TX8) (N := 5) hx hb hts iX8 tyX8 tyX8_ok nmX8 hown hK.1 hP hD hS 35 (gC35 g σ tl) rfl 0 (by decide) k9 (fun _ h9 => h9) rfl (by decide +kernel) rfl rfl (Nat.le_of_ble_eq_true rfl) (uC_F12 g σ tl 1) dX8_begin_2 (fun H locs hP hD hS => ?_)
  refine lv_aload_n hx hb dX8_begin_5 rfl (lv_at hl 0 rfl) ?_
  refine lv_iconst (v := nI 0) hx hb dX8_begin_6 (by decide) ?_
  refine jn_put (D := (g.1, g.2.1)) (ci := 10) (v := .int (nI 0)) (ty := .int) (C := RX8) (T := TX8) (N := 5) hx hb hts iX8 tyX8 tyX8_ok nmX8 hown hK.1 hP hD hS 35 (gC35 g (sF σ 12 1) tl) rfl 1 (by decide) k15 (fun _ h9 => h9) rfl (by decide +kernel) rfl rfl (Nat.le_of_ble_eq_true rfl) (uC_F13 g (sF σ 12 1) tl 0) dX8_begin_7 (fun H locs hP hD hS => ?_)
  refine lv_aload_n hx hb dX8_begin_10 rfl (lv_at hl 0 rfl) ?_
  refine lv_iconst (v := nI 0) hx hb dX8_begin_11 (by decide) ?_
  refine jn_put (D := (g.1, g.2.1)) (ci := 10) (v := .int (nI 0)) (ty := .int) (C := RX8) (T := TX8) (N := 5) hx hb hts iX8 tyX8 tyX8_ok nmX8 hown hK.1 hP hD hS 35 (gC35 g (sF (sF σ 12 1) 13 0) tl) rfl 2 (by decide) k18 (fun _ h9 => h9) rfl (by decide +kernel) rfl rfl (Nat.le_of_ble_eq_true rfl) (uC_F14 g (sF (sF σ 12 1) 13 0) tl 0) dX8_begin_12 (fun H locs hP hD hS => ?_)
  refine lv_aload_n hx hb dX8_begin_15 rfl (lv_at hl 0 rfl) ?_
  refine lv_iconst (v := nI 0) hx hb dX8_begin_16 (by decide) ?_
  refine jn_put (D := (g.1, g.2.1)) (ci := 10) (v := .int (nI 0)) (ty := .int) (C := RX8) (T := TX8) (N := 5) hx hb hts iX8 tyX8 tyX8_ok nmX8 hown hK.1 hP hD hS 35 (gC35 g (sF (sF (sF σ 12 1) 13 0) 14 0) tl) rfl 3 (by decide) k21 (fun _ h9 => h9) rfl (by decide +kernel) rfl rfl (Nat.le_of_ble_eq_true rfl) (uC_F15 g (sF (sF (sF σ 12 1) 13 0) 14 0) tl 0) dX8_begin_17 (fun H locs hP hD hS => ?_)
  refine lv_aload_n hx hb dX8_begin_20 rfl (lv_at hl 0 rfl) ?_
  refine lv_iconst (v := nI 0) hx hb dX8_begin_21 (by decide) ?_
  refine jn_put (D := (g.1, g.2.1)) (ci := 10) (v := .int (nI 0)) (ty := .boolean) (C := RX8) (T := TX8) (N := 5) hx hb hts iX8 tyX8 tyX8_ok nmX8 hown hK.1 hP hD hS 35 (gC35 g (sF (sF (sF (sF σ 12 1) 13 0) 14 0) 15 0) tl) rfl 4 (by decide) k24 (fun _ h9 => h9) rfl (by decide +kernel) jn_n0 jn_f0 (Nat.le_of_ble_eq_true rfl) (uC_F16 g (sF (sF (sF (sF σ 12 1) 13 0) 14 0) 15 0) tl 0) dX8_begin_22 (fun H locs hP hD hS => ?_)
  exact hq _ _ _ _ () dX8_begin_25 trivial hP hD hS

abbrev r_c_X8_meet : Room := { frames := 2, cells := 0, slots := 0, locals := 42 }
set_option maxHeartbeats 4000000 in
set_option maxRecDepth 100000 in
theorem c_X8_meet (l : Launch) (g : GC) (tl : va_W) (sz : Nat) (σ : SS) (x : Nat) (s0 : OW) (hA : OkA σ) (hW : OwIs σ s0) (ho : OkW s0 7) (hx : x < 3) : Met l yX8_meet wsX8_meet r_c_X8_meet (va_Pc [.ref (g.2.2.2 35), .ref (g.2.2.2 1), .int (nI x)] (PW g (wC g σ ++ tl) sz)) (va_Qv (fun (_ : Unit) => True) (fun (_ : Unit) t => BW g (va_A (wC g σ ++ tl) sz) (wC g (sF (sF (sF (sF (sF σ 12 ((meetL (σ.2.1 0) s0 x).1)) 13 (pkL (meetL (σ.2.1 0) s0 x).2.1)) 14 ((meetL (σ.2.1 0) s0 x).2.1.length)) 15 ((meetL (σ.2.1 0) s0 x).2.2.1)) 16 ((meetL (σ.2.1 0) s0 x).2.2.2)) ++ tl) t) (va_A (wC g σ ++ tl) sz)) 0 0 (va_A (wC g σ ++ tl) sz) := by
  refine jn_sv (wf := fun _ : Unit => wC g (sF (sF (sF (sF (sF σ 12 ((meetL (σ.2.1 0) s0 x).1)) 13 (pkL (meetL (σ.2.1 0) s0 x).2.1)) 14 ((meetL (σ.2.1 0) s0 x).2.1.length)) 15 ((meetL (σ.2.1 0) s0 x).2.2.1)) 16 ((meetL (σ.2.1 0) s0 x).2.2.2)) ++ tl) (cc := cX8_meet) (maxL := 4) (own := RX8) (by decide) rfl rfl (Nat.le_of_ble_eq_true rfl) ?_
  intro p e s m below meth c Q A hx hb hml hown hts hK hP hD hS hAA hq ls hl
  obtain ⟨H, eH⟩ : ∃ z, z = s.heap := ⟨_, rfl⟩
  obtain ⟨locs, el⟩ : ∃ z : List Loc, z = [] := ⟨_, rfl⟩
  rw [← eH] at hP
  have hS : va_S A s.heap H locs := by rw [eH, el]; exact hS
  have goal0 : W p l e r_c_X8_meet s m ([.ref (g.2.2.2 35), .ref (g.2.2.2 1), .int (nI x)] : List Value).toArray below meth c H locs 0 0 Q (F0 m 0 ls []) → W p l e r_c_X8_meet s m ([.ref (g.2.2.2 35), .ref (g.2.2.2 1), .int (nI x)] : List Value).toArray below meth c s.heap [] 0 0 Q (F0 m 0 ls []) := fun h => by rw [eH, el] at h; exact h
  refine goal0 ?_
  have hl : lv_has ls 4 [(0, .ref (g.2.2.2 35)), (1, .ref (g.2.2.2 1)), (2, .int (nI x))] := hl
  have iX8 : ∀ w ∈ wsX80, w ∈ wsX8_meet := by decide +kernel
  have k9 := hts (.fieldLink RX8 9 "JumpingAutomata$OneWayReader" "state" "I") (by decide +kernel)
  have k21 := hts (.fieldLink RX8 21 "JumpingAutomata$OneWayReader" "jumps" "I") (by decide +kernel)
  have k24 := hts (.fieldLink RX8 24 "JumpingAutomata$OneWayReader" "passing" "Z") (by decide +kernel)
  have k15 := hts (.fieldLink RX8 15 "JumpingAutomata$OneWayReader" "rest" "I") (by decide +kernel)
  have k18 := hts (.fieldLink RX8 18 "JumpingAutomata$OneWayReader" "restSize" "I") (by decide +kernel)
  obtain ⟨hr1, hr2, hr3, hr4, hr5⟩ := hW
  have ho1 := ho.1
  have ho2 := ho.2.1
  have ho4 := ho.2.2.2
  have hpl := pkL_lt s0.2.1 ho.2.2.1
  have hp8 := pow4_8 s0.2.1.length (by omega)
  refine lv_aload_n hx hb dX8_meet_0 rfl (lv_at hl 1 rfl) ?_
  refine lv_iload_n hx hb dX8_meet_1 rfl (lv_at hl 2 rfl) ?_
  refine lv_aload_n hx hb dX8_meet_2 rfl (lv_at hl 0 rfl) ?_
  refine va_get (D := (g.1, g.2.1)) (ci := 10) (v := .int (nI (σ.1 12))) (C := RX8) (T := TX8) (N := 5) hx hb hts iX8 hown hK.1 hP 35 (gC35 g σ tl) rfl 0 (by decide) k9 (fun _ h9 => h9) rfl dX8_meet_3 ?_
  refine vp_callSi (va_Run.run (va_runV (As := [.int (nI x), .int (nI (σ.1 12))]) (rest := []) ⟨hx, hb, hml, hown, hts⟩ (c_X0_step l g tl σ x (σ.1 12) hA (by omega) (by rw [hr1]; exact ho1)) (cwV 2 hts gX8_meet_X0_step rfl rfl rfl (by decide +kernel) ⟨Nat.le_of_ble_eq_true rfl, Nat.le_of_ble_eq_true rfl⟩) (okPV hK hP rfl (gC1 g σ tl)) rfl rfl hl.1 rfl (lv_room (Nat.le_of_ble_eq_true rfl)) dX8_meet_6 ⟨Nat.le_of_ble_eq_true rfl, Nat.le_of_ble_eq_true rfl⟩)) (fun r_6 h_6 => ?_)
  subst h_6
  have st32 : stp (σ.2.1 0) x (σ.1 12) < 32 := stp_lt hA.1 (by omega)
  refine lv_istore_n (lv' := [(3, .int (nI (stp (σ.2.1 0) x (σ.1 12)))), (0, .ref (g.2.2.2 35)), (1, .ref (g.2.2.2 1)), (2, .int (nI x))]) hx hb dX8_meet_9 rfl hl (by decide) rfl (fun ls hl => ?_)
  refine lv_iload_n hx hb dX8_meet_10 rfl (lv_at hl 0 rfl) ?_
  refine jn_zne hx hb (by omega) (tgt := 47) dX8_meet_11 (by decide) (fun c_11 => ?_) (fun c_11 => ?_)
  · refine lv_aload_n hx hb dX8_meet_47 rfl (lv_at hl 1 rfl) ?_
    refine lv_dup hx hb dX8_meet_48 rfl ?_
    refine va_get (D := (g.1, g.2.1)) (ci := 10) (v := .int (nI (σ.1 15))) (C := RX8) (T := TX8) (N := 5) hx hb hts iX8 hown hK.1 hP 35 (gC35 g σ tl) rfl 3 (by decide) k21 (fun _ h9 => h9) rfl dX8_meet_49 ?_
    refine lv_aload_n hx hb dX8_meet_52 rfl (lv_at hl 1 rfl) ?_
    refine va_get (D := (g.1, g.2.1)) (ci := 10) (v := .int (nI (σ.1 16))) (C := RX8) (T := TX8) (N := 5) hx hb hts iX8 hown hK.1 hP 35 (gC35 g σ tl) rfl 4 (by decide) k24 (fun _ h9 => h9) rfl dX8_meet_53 ?_
    have jp64 : ∀ v64 : Nat, v64 = (σ.1 16) → W p l e r_c_X8_meet s m ([.ref (g.2.2.2 35), .ref (g.2.2.2 1), .int (nI x)] : List Value).toArray below meth c H locs 0 0 Q (F0 m 64 ls [.int (nI v64), .int (nI (σ.1 15)), .ref (g.2.2.2 35)]) := by
      intro v64 ev64
      refine jn_iadd hx hb dX8_meet_64 ?_
      refine jn_put (D := (g.1, g.2.1)) (ci := 10) (v := .int (nI ((σ.1 15) + v64))) (ty := .int) (C := RX8) (T := TX8) (N := 5) hx hb hts iX8 tyX8 tyX8_ok nmX8 hown hK.1 hP hD hS 35 (gC35 g σ tl) rfl 3 (by decide) k21 (fun _ h9 => h9) rfl (by decide +kernel) rfl rfl (Nat.le_of_ble_eq_true rfl) (uC_F15 g σ tl ((σ.1 15) + v64)) dX8_meet_65 (fun H locs hP hD hS => ?_)
      refine lv_aload_n hx hb dX8_meet_68 rfl (lv_at hl 1 rfl) ?_
      refine lv_iconst (v := nI 0) hx hb dX8_meet_69 (by decide) ?_
      refine jn_put (D := (g.1, g.2.1)) (ci := 10) (v := .int (nI 0)) (ty := .boolean) (C := RX8) (T := TX8) (N := 5) hx hb hts iX8 tyX8 tyX8_ok nmX8 hown hK.1 hP hD hS 35 (gC35 g (sF σ 15 ((σ.1 15) + v64)) tl) rfl 4 (by decide) k24 (fun _ h9 => h9) rfl (by decide +kernel) jn_n0 jn_f0 (Nat.le_of_ble_eq_true rfl) (uC_F16 g (sF σ 15 ((σ.1 15) + v64)) tl 0) dX8_meet_70 (fun H locs hP hD hS => ?_)
      refine lv_aload_n hx hb dX8_meet_73 rfl (lv_at hl 1 rfl) ?_
      refine lv_iload_n hx hb dX8_meet_74 rfl (lv_at hl 0 rfl) ?_
      refine jn_put (D := (g.1, g.2.1)) (ci := 10) (v := .int (nI (stp (σ.2.1 0) x (σ.1 12)))) (ty := .int) (C := RX8) (T := TX8) (N := 5) hx hb hts iX8 tyX8 tyX8_ok nmX8 hown hK.1 hP hD hS 35 (gC35 g (sF (sF σ 15 ((σ.1 15) + v64)) 16 0) tl) rfl 0 (by decide) k9 (fun _ h9 => h9) rfl (by decide +kernel) rfl rfl (Nat.le_of_ble_eq_true rfl) (uC_F12 g (sF (sF σ 15 ((σ.1 15) + v64)) 16 0) tl (stp (σ.2.1 0) x (σ.1 12))) dX8_meet_75 (fun H locs hP hD hS => ?_)
      have eW : (wC g (sF (sF (sF σ 15 ((σ.1 15) + v64)) 16 0) 12 (stp (σ.2.1 0) x (σ.1 12))) ++ tl) = (wC g (sF (sF (sF (sF (sF σ 12 ((meetL (σ.2.1 0) s0 x).1)) 13 (pkL (meetL (σ.2.1 0) s0 x).2.1)) 14 ((meetL (σ.2.1 0) s0 x).2.1.length)) 15 ((meetL (σ.2.1 0) s0 x).2.2.1)) 16 ((meetL (σ.2.1 0) s0 x).2.2.2)) ++ tl) := (by unfold meetL; rw [if_neg (by rw [← hr1]; exact c_11), ev64, ← hr1, ← hr2, ← hr3, ← hr4, ← hr5]; rfl)
      rw [eW] at hP hD
      exact hq _ _ _ _ () dX8_meet_78 trivial hP hD hS
    refine jn_zeq hx hb (by omega) (tgt := 63) dX8_meet_56 (by decide) (fun c_56 => ?_) (fun c_56 => ?_)
    · refine lv_iconst (v := nI 0) hx hb dX8_meet_63 (by decide) ?_
      exact jp64 0 (by omega)
    · refine lv_iconst (v := nI 1) hx hb dX8_meet_59 (by decide) ?_
      refine lv_goto (tgt := 64) hx hb dX8_meet_60 (by decide) ?_
      exact jp64 1 (by omega)
  · refine lv_aload_n hx hb dX8_meet_14 rfl (lv_at hl 1 rfl) ?_
    refine lv_dup hx hb dX8_meet_15 rfl ?_
    refine va_get (D := (g.1, g.2.1)) (ci := 10) (v := .int (nI (σ.1 13))) (C := RX8) (T := TX8) (N := 5) hx hb hts iX8 hown hK.1 hP 35 (gC35 g σ tl) rfl 1 (by decide) k15 (fun _ h9 => h9) rfl dX8_meet_16 ?_
    refine lv_iload_n hx hb dX8_meet_19 rfl (lv_at hl 3 rfl) ?_
    refine lv_iconst (v := nI 2) hx hb dX8_meet_20 (by decide) ?_
    refine lv_aload_n hx hb dX8_meet_21 rfl (lv_at hl 1 rfl) ?_
    refine va_get (D := (g.1, g.2.1)) (ci := 10) (v := .int (nI (σ.1 14))) (C := RX8) (T := TX8) (N := 5) hx hb hts iX8 hown hK.1 hP 35 (gC35 g σ tl) rfl 2 (by decide) k18 (fun _ h9 => h9) rfl dX8_meet_22 ?_
    refine jn_imul hx hb dX8_meet_25 ?_
    refine jn_ishl hx hb (by omega) (by rw [pow4, hr3]; have := Nat.mul_le_mul (show x ≤ 2 by omega) hp8; omega) dX8_meet_26 ?_
    refine jn_ior hx hb dX8_meet_27 ?_
    refine jn_put (D := (g.1, g.2.1)) (ci := 10) (v := .int (nI ((σ.1 13) ||| (x * 2 ^ (2 * (σ.1 14)))))) (ty := .int) (C := RX8) (T := TX8) (N := 5) hx hb hts iX8 tyX8 tyX8_ok nmX8 hown hK.1 hP hD hS 35 (gC35 g σ tl) rfl 1 (by decide) k15 (fun _ h9 => h9) rfl (by decide +kernel) rfl rfl (Nat.le_of_ble_eq_true rfl) (uC_F13 g σ tl ((σ.1 13) ||| (x * 2 ^ (2 * (σ.1 14))))) dX8_meet_28 (fun H locs hP hD hS => ?_)
    refine lv_aload_n hx hb dX8_meet_31 rfl (lv_at hl 1 rfl) ?_
    refine lv_dup hx hb dX8_meet_32 rfl ?_
    refine va_get (D := (g.1, g.2.1)) (ci := 10) (v := .int (nI (σ.1 14))) (C := RX8) (T := TX8) (N := 5) hx hb hts iX8 hown hK.1 hP 35 (gC35 g (sF σ 13 ((σ.1 13) ||| (x * 2 ^ (2 * (σ.1 14))))) tl) rfl 2 (by decide) k18 (fun _ h9 => h9) rfl dX8_meet_33 ?_
    refine lv_iconst (v := nI 1) hx hb dX8_meet_36 (by decide) ?_
    refine jn_iadd hx hb dX8_meet_37 ?_
    refine jn_put (D := (g.1, g.2.1)) (ci := 10) (v := .int (nI ((σ.1 14) + 1))) (ty := .int) (C := RX8) (T := TX8) (N := 5) hx hb hts iX8 tyX8 tyX8_ok nmX8 hown hK.1 hP hD hS 35 (gC35 g (sF σ 13 ((σ.1 13) ||| (x * 2 ^ (2 * (σ.1 14))))) tl) rfl 2 (by decide) k18 (fun _ h9 => h9) rfl (by decide +kernel) rfl rfl (Nat.le_of_ble_eq_true rfl) (uC_F14 g (sF σ 13 ((σ.1 13) ||| (x * 2 ^ (2 * (σ.1 14))))) tl ((σ.1 14) + 1)) dX8_meet_38 (fun H locs hP hD hS => ?_)
    refine lv_aload_n hx hb dX8_meet_41 rfl (lv_at hl 1 rfl) ?_
    refine lv_iconst (v := nI 1) hx hb dX8_meet_42 (by decide) ?_
    refine jn_put (D := (g.1, g.2.1)) (ci := 10) (v := .int (nI 1)) (ty := .boolean) (C := RX8) (T := TX8) (N := 5) hx hb hts iX8 tyX8 tyX8_ok nmX8 hown hK.1 hP hD hS 35 (gC35 g (sF (sF σ 13 ((σ.1 13) ||| (x * 2 ^ (2 * (σ.1 14))))) 14 ((σ.1 14) + 1)) tl) rfl 4 (by decide) k24 (fun _ h9 => h9) rfl (by decide +kernel) jn_n1 jn_f1 (Nat.le_of_ble_eq_true rfl) (uC_F16 g (sF (sF σ 13 ((σ.1 13) ||| (x * 2 ^ (2 * (σ.1 14))))) 14 ((σ.1 14) + 1)) tl 1) dX8_meet_43 (fun H locs hP hD hS => ?_)
    have eW : (wC g (sF (sF (sF σ 13 ((σ.1 13) ||| (x * 2 ^ (2 * (σ.1 14))))) 14 ((σ.1 14) + 1)) 16 1) ++ tl) = (wC g (sF (sF (sF (sF (sF σ 12 ((meetL (σ.2.1 0) s0 x).1)) 13 (pkL (meetL (σ.2.1 0) s0 x).2.1)) 14 ((meetL (σ.2.1 0) s0 x).2.1.length)) 15 ((meetL (σ.2.1 0) s0 x).2.2.1)) 16 ((meetL (σ.2.1 0) s0 x).2.2.2)) ++ tl) := (by unfold meetL; rw [if_pos (by rw [← hr1]; exact c_11), hr2, hr3, pk_or ho.2.2.1, ← hr1, ← hr4]; show _ = _; rw [List.length_append, List.length_singleton]; rfl)
    rw [eW] at hP hD
    exact hq _ _ _ _ () dX8_meet_46 trivial hP hD hS

abbrev r_c_X8_finish : Room := { frames := 3, cells := 0, slots := 0, locals := 65 }
set_option maxHeartbeats 4000000 in
set_option maxRecDepth 100000 in
theorem c_X8_finish (l : Launch) (g : GC) (tl : va_W) (sz : Nat) (σ : SS) (n : Nat) (s0 : OW) (hA : OkA σ) (hW : OwIs σ s0) (ho : OkW s0 8) (hn : n ≤ 8) : Met l yX8_finish wsX8_finish r_c_X8_finish (va_Pc [.ref (g.2.2.2 35), .ref (g.2.2.2 1), .int (nI n)] (PW g (wC g σ ++ tl) sz)) (va_Qv (fun (_ : Unit) => True) (fun (_ : Unit) t => BW g (va_A (wC g σ ++ tl) sz) (wC g (sF (sF (sF (sF (sF σ 12 ((finL (σ.2.1 0) 8 n s0).1)) 13 (pkL (finL (σ.2.1 0) 8 n s0).2.1)) 14 ((finL (σ.2.1 0) 8 n s0).2.1.length)) 15 ((finL (σ.2.1 0) 8 n s0).2.2.1)) 16 ((finL (σ.2.1 0) 8 n s0).2.2.2)) ++ tl) t) (va_A (wC g σ ++ tl) sz)) 0 0 (va_A (wC g σ ++ tl) sz) := by
  refine jn_sv (wf := fun _ : Unit => wC g (sF (sF (sF (sF (sF σ 12 ((finL (σ.2.1 0) 8 n s0).1)) 13 (pkL (finL (σ.2.1 0) 8 n s0).2.1)) 14 ((finL (σ.2.1 0) 8 n s0).2.1.length)) 15 ((finL (σ.2.1 0) 8 n s0).2.2.1)) 16 ((finL (σ.2.1 0) 8 n s0).2.2.2)) ++ tl) (cc := cX8_finish) (maxL := 7) (own := RX8) (by decide) rfl rfl (Nat.le_of_ble_eq_true rfl) ?_
  intro p e s m below meth c Q A hx hb hml hown hts hK hP hD hS hAA hq ls hl
  obtain ⟨H, eH⟩ : ∃ z, z = s.heap := ⟨_, rfl⟩
  obtain ⟨locs, el⟩ : ∃ z : List Loc, z = [] := ⟨_, rfl⟩
  rw [← eH] at hP
  have hS : va_S A s.heap H locs := by rw [eH, el]; exact hS
  have goal0 : W p l e r_c_X8_finish s m ([.ref (g.2.2.2 35), .ref (g.2.2.2 1), .int (nI n)] : List Value).toArray below meth c H locs 0 0 Q (F0 m 0 ls []) → W p l e r_c_X8_finish s m ([.ref (g.2.2.2 35), .ref (g.2.2.2 1), .int (nI n)] : List Value).toArray below meth c s.heap [] 0 0 Q (F0 m 0 ls []) := fun h => by rw [eH, el] at h; exact h
  refine goal0 ?_
  have hl : lv_has ls 7 [(0, .ref (g.2.2.2 35)), (1, .ref (g.2.2.2 1)), (2, .int (nI n))] := hl
  have iX8 : ∀ w ∈ wsX80, w ∈ wsX8_finish := by decide +kernel
  have k18 := hts (.fieldLink RX8 18 "JumpingAutomata$OneWayReader" "restSize" "I") (by decide +kernel)
  have k15 := hts (.fieldLink RX8 15 "JumpingAutomata$OneWayReader" "rest" "I") (by decide +kernel)
  refine lv_iload_n hx hb dX8_finish_0 rfl (lv_at hl 2 rfl) ?_
  refine lv_istore_n (lv' := [(3, .int (nI n)), (0, .ref (g.2.2.2 35)), (1, .ref (g.2.2.2 1)), (2, .int (nI n))]) hx hb dX8_finish_1 rfl hl (by decide) rfl (fun ls hl => ?_)
  refine lv_iconst (v := nI 0) hx hb dX8_finish_2 (by decide) ?_
  refine lv_istore (lv' := [(4, .int (nI 0)), (3, .int (nI n)), (0, .ref (g.2.2.2 35)), (1, .ref (g.2.2.2 1)), (2, .int (nI n))]) hx hb dX8_finish_3 hl (by decide) rfl (fun ls hl => ?_)
  have lp5 : ∀ (fu : Nat), ∀ (rd : Nat) (b : Nat) (m1 : Nat) (r1 : Nat) (k1 : Nat) (j1 : Nat) (p1 : Nat) (s1 : OW), (rd ≤ 8) → (m1 = s1.1 ∧ r1 = pkL s1.2.1 ∧ k1 = s1.2.1.length ∧ j1 = s1.2.2.1 ∧ p1 = s1.2.2.2) → (OkW s1 8) → ((finL (σ.2.1 0) 8 n s0) = finL (σ.2.1 0) (8 - rd) b s1) → (b ≤ 8) → 8 - rd < fu → ∀ (H : Heap) (locs : List Loc), va_P (g.1, g.2.1) vwCl (wC g (sF (sF (sF (sF (sF σ 12 m1) 13 r1) 14 k1) 15 j1) 16 p1) ++ tl) H → va_D A (wC g (sF (sF (sF (sF (sF σ 12 m1) 13 r1) 14 k1) 15 j1) 16 p1) ++ tl) → va_S A s.heap H locs → ∀ ls : Array Slot, lv_has ls 7 [(0, .ref (g.2.2.2 35)), (1, .ref (g.2.2.2 1)), (2, .int (nI n)), (3, .int (nI b)), (4, .int (nI rd))] → W p l e r_c_X8_finish s m ([.ref (g.2.2.2 35), .ref (g.2.2.2 1), .int (nI n)] : List Value).toArray below meth c H locs 0 0 Q (F0 m 5 ls []) := by
    intro fu
    induction fu with
    | zero => intro rd b m1 r1 k1 j1 p1 s1 h1 hW1 ho1 hE hb8 hf; exact absurd hf (Nat.not_lt_zero _)
    | succ fu ih5 =>
      intro rd b m1 r1 k1 j1 p1 s1 h1 hW1 ho1 hE hb8 hf H locs hP hD hS ls hl
      obtain ⟨w1, w2, w3, w4, w5⟩ := hW1
      have hl8 := ho1.2.1
      refine lv_iload hx hb dX8_finish_5 (lv_at hl 4 rfl) ?_
      refine lv_bipush (v := nI 8) hx hb dX8_finish_7 (by decide) ?_
      refine jn_cge hx hb (by omega) (by decide) (tgt := 90) dX8_finish_9 (by decide) (fun c_9 => ?_) (fun c_9 => ?_)
      · have e9 : finL (σ.2.1 0) (8 - rd) b s1 = s1 := by first | (rw [show 8 - rd = 0 by omega]; rfl) | exact fin_stop (by omega)
        have eW : (wC g (sF (sF (sF (sF (sF σ 12 m1) 13 r1) 14 k1) 15 j1) 16 p1) ++ tl) = (wC g (sF (sF (sF (sF (sF σ 12 ((finL (σ.2.1 0) 8 n s0).1)) 13 (pkL (finL (σ.2.1 0) 8 n s0).2.1)) 14 ((finL (σ.2.1 0) 8 n s0).2.1.length)) 15 ((finL (σ.2.1 0) 8 n s0).2.2.1)) 16 ((finL (σ.2.1 0) 8 n s0).2.2.2)) ++ tl) := (by rw [hE, e9, ← w1, ← w2, ← w3, ← w4, ← w5])
        rw [eW] at hP hD
        exact hq _ _ _ _ () dX8_finish_90 trivial hP hD hS
      · refine lv_aload_n hx hb dX8_finish_12 rfl (lv_at hl 0 rfl) ?_
        refine va_get (D := (g.1, g.2.1)) (ci := 10) (v := .int (nI k1)) (C := RX8) (T := TX8) (N := 5) hx hb hts iX8 hown hK.1 hP 35 (gC35 g (sF (sF (sF (sF (sF σ 12 m1) 13 r1) 14 k1) 15 j1) 16 p1) tl) rfl 2 (by decide) k18 (fun _ h9 => h9) rfl dX8_finish_13 ?_
        refine jn_zle hx hb (by omega) (tgt := 90) dX8_finish_16 (by decide) (fun c_16 => ?_) (fun c_16 => ?_)
        · have e9 : finL (σ.2.1 0) (8 - rd) b s1 = s1 := by first | (rw [show 8 - rd = 0 by omega]; rfl) | exact fin_stop (by omega)
          have eW : (wC g (sF (sF (sF (sF (sF σ 12 m1) 13 r1) 14 k1) 15 j1) 16 p1) ++ tl) = (wC g (sF (sF (sF (sF (sF σ 12 ((finL (σ.2.1 0) 8 n s0).1)) 13 (pkL (finL (σ.2.1 0) 8 n s0).2.1)) 14 ((finL (σ.2.1 0) 8 n s0).2.1.length)) 15 ((finL (σ.2.1 0) 8 n s0).2.2.1)) 16 ((finL (σ.2.1 0) 8 n s0).2.2.2)) ++ tl) := (by rw [hE, e9, ← w1, ← w2, ← w3, ← w4, ← w5])
          rw [eW] at hP hD
          exact hq _ _ _ _ () dX8_finish_90 trivial hP hD hS
        · refine lv_aload_n hx hb dX8_finish_19 rfl (lv_at hl 0 rfl) ?_
          refine va_get (D := (g.1, g.2.1)) (ci := 10) (v := .int (nI k1)) (C := RX8) (T := TX8) (N := 5) hx hb hts iX8 hown hK.1 hP 35 (gC35 g (sF (sF (sF (sF (sF σ 12 m1) 13 r1) 14 k1) 15 j1) 16 p1) tl) rfl 2 (by decide) k18 (fun _ h9 => h9) rfl dX8_finish_20 ?_
          refine lv_iload_n hx hb dX8_finish_23 rfl (lv_at hl 3 rfl) ?_
          refine jn_cge hx hb (by omega) (by omega) (tgt := 90) dX8_finish_24 (by decide) (fun c_24 => ?_) (fun c_24 => ?_)
          · have e9 : finL (σ.2.1 0) (8 - rd) b s1 = s1 := by first | (rw [show 8 - rd = 0 by omega]; rfl) | exact fin_stop (by omega)
            have eW : (wC g (sF (sF (sF (sF (sF σ 12 m1) 13 r1) 14 k1) 15 j1) 16 p1) ++ tl) = (wC g (sF (sF (sF (sF (sF σ 12 ((finL (σ.2.1 0) 8 n s0).1)) 13 (pkL (finL (σ.2.1 0) 8 n s0).2.1)) 14 ((finL (σ.2.1 0) 8 n s0).2.1.length)) 15 ((finL (σ.2.1 0) 8 n s0).2.2.1)) 16 ((finL (σ.2.1 0) 8 n s0).2.2.2)) ++ tl) := (by rw [hE, e9, ← w1, ← w2, ← w3, ← w4, ← w5])
            rw [eW] at hP hD
            exact hq _ _ _ _ () dX8_finish_90 trivial hP hD hS
          · refine lv_aload_n hx hb dX8_finish_27 rfl (lv_at hl 0 rfl) ?_
            refine va_get (D := (g.1, g.2.1)) (ci := 10) (v := .int (nI k1)) (C := RX8) (T := TX8) (N := 5) hx hb hts iX8 hown hK.1 hP 35 (gC35 g (sF (sF (sF (sF (sF σ 12 m1) 13 r1) 14 k1) 15 j1) 16 p1) tl) rfl 2 (by decide) k18 (fun _ h9 => h9) rfl dX8_finish_28 ?_
            refine lv_istore_n (lv' := [(3, .int (nI k1)), (0, .ref (g.2.2.2 35)), (1, .ref (g.2.2.2 1)), (2, .int (nI n)), (4, .int (nI rd))]) hx hb dX8_finish_31 rfl hl (by decide) rfl (fun ls hl => ?_)
            refine lv_aload_n hx hb dX8_finish_32 rfl (lv_at hl 1 rfl) ?_
            refine va_get (D := (g.1, g.2.1)) (ci := 10) (v := .int (nI r1)) (C := RX8) (T := TX8) (N := 5) hx hb hts iX8 hown hK.1 hP 35 (gC35 g (sF (sF (sF (sF (sF σ 12 m1) 13 r1) 14 k1) 15 j1) 16 p1) tl) rfl 1 (by decide) k15 (fun _ h9 => h9) rfl dX8_finish_33 ?_
            refine lv_istore (lv' := [(5, .int (nI r1)), (3, .int (nI k1)), (0, .ref (g.2.2.2 35)), (1, .ref (g.2.2.2 1)), (2, .int (nI n)), (4, .int (nI rd))]) hx hb dX8_finish_36 hl (by decide) rfl (fun ls hl => ?_)
            refine lv_aload_n hx hb dX8_finish_38 rfl (lv_at hl 2 rfl) ?_
            refine lv_iconst (v := nI 0) hx hb dX8_finish_39 (by decide) ?_
            refine jn_put (D := (g.1, g.2.1)) (ci := 10) (v := .int (nI 0)) (ty := .int) (C := RX8) (T := TX8) (N := 5) hx hb hts iX8 tyX8 tyX8_ok nmX8 hown hK.1 hP hD hS 35 (gC35 g (sF (sF (sF (sF (sF σ 12 m1) 13 r1) 14 k1) 15 j1) 16 p1) tl) rfl 1 (by decide) k15 (fun _ h9 => h9) rfl (by decide +kernel) rfl rfl (Nat.le_of_ble_eq_true rfl) (uC_F13 g (sF (sF (sF (sF (sF σ 12 m1) 13 r1) 14 k1) 15 j1) 16 p1) tl 0) dX8_finish_40 (fun H locs hP hD hS => ?_)
            refine lv_aload_n hx hb dX8_finish_43 rfl (lv_at hl 2 rfl) ?_
            refine lv_iconst (v := nI 0) hx hb dX8_finish_44 (by decide) ?_
            refine jn_put (D := (g.1, g.2.1)) (ci := 10) (v := .int (nI 0)) (ty := .int) (C := RX8) (T := TX8) (N := 5) hx hb hts iX8 tyX8 tyX8_ok nmX8 hown hK.1 hP hD hS 35 (gC35 g (sF (sF (sF (sF (sF (sF σ 12 m1) 13 r1) 14 k1) 15 j1) 16 p1) 13 0) tl) rfl 2 (by decide) k18 (fun _ h9 => h9) rfl (by decide +kernel) rfl rfl (Nat.le_of_ble_eq_true rfl) (uC_F14 g (sF (sF (sF (sF (sF (sF σ 12 m1) 13 r1) 14 k1) 15 j1) 16 p1) 13 0) tl 0) dX8_finish_45 (fun H locs hP hD hS => ?_)
            refine lv_iconst (v := nI 0) hx hb dX8_finish_48 (by decide) ?_
            refine lv_istore (lv' := [(6, .int (nI 0)), (5, .int (nI r1)), (3, .int (nI k1)), (0, .ref (g.2.2.2 35)), (1, .ref (g.2.2.2 1)), (2, .int (nI n)), (4, .int (nI rd))]) hx hb dX8_finish_49 hl (by decide) rfl (fun ls hl => ?_)
            have lp51 : ∀ (fu : Nat), ∀ (i : Nat) (m2 : Nat) (r2 : Nat) (k2 : Nat) (j2 : Nat) (p2 : Nat) (s2 : OW), (i ≤ s1.2.1.length) → (m2 = s2.1 ∧ r2 = pkL s2.2.1 ∧ k2 = s2.2.1.length ∧ j2 = s2.2.2.1 ∧ p2 = s2.2.2.2) → (OkW s2 i) → (s2 = (s1.2.1.take i).foldl (meetL (σ.2.1 0)) (s1.1, ([] : List Nat), s1.2.2.1, s1.2.2.2)) → s1.2.1.length - i < fu → ∀ (H : Heap) (locs : List Loc), va_P (g.1, g.2.1) vwCl (wC g (sF (sF (sF (sF (sF σ 12 m2) 13 r2) 14 k2) 15 j2) 16 p2) ++ tl) H → va_D A (wC g (sF (sF (sF (sF (sF σ 12 m2) 13 r2) 14 k2) 15 j2) 16 p2) ++ tl) → va_S A s.heap H locs → ∀ ls : Array Slot, lv_has ls 7 [(0, .ref (g.2.2.2 35)), (1, .ref (g.2.2.2 1)), (2, .int (nI n)), (3, .int (nI k1)), (4, .int (nI rd)), (5, .int (nI r1)), (6, .int (nI i))] → W p l e r_c_X8_finish s m ([.ref (g.2.2.2 35), .ref (g.2.2.2 1), .int (nI n)] : List Value).toArray below meth c H locs 0 0 Q (F0 m 51 ls []) := by
              intro fu
              induction fu with
              | zero => intro i m2 r2 k2 j2 p2 s2 h2 hW2 ho2 hE2 hf; exact absurd hf (Nat.not_lt_zero _)
              | succ fu ih51 =>
                intro i m2 r2 k2 j2 p2 s2 h2 hW2 ho2 hE2 hf H locs hP hD hS ls hl
                refine lv_iload hx hb dX8_finish_51 (lv_at hl 6 rfl) ?_
                refine lv_iload_n hx hb dX8_finish_53 rfl (lv_at hl 3 rfl) ?_
                refine jn_cge hx hb (by omega) (by omega) (tgt := 84) dX8_finish_54 (by decide) (fun c_54 => ?_) (fun c_54 => ?_)
                · refine lv_iinc (v := nI (rd + 1)) (lv' := [(4, .int (nI (rd + 1))), (0, .ref (g.2.2.2 35)), (1, .ref (g.2.2.2 1)), (2, .int (nI n)), (3, .int (nI k1)), (5, .int (nI r1)), (6, .int (nI i))]) hx hb dX8_finish_84 hl (k := 4) rfl (jn_ii _ 1) (by decide) rfl (fun ls hl => ?_)
                  refine lv_goto (tgt := 5) hx hb dX8_finish_87 (by decide) ?_
                  exact ih5 (rd + 1) k1 m2 r2 k2 j2 p2 s2 (by omega) hW2 ⟨ho2.1, by have := ho2.2.1; omega, ho2.2.2.1, ho2.2.2.2⟩ (by rw [hE, fin_go (by omega) ⟨by omega, by omega⟩, hE2, List.take_of_length_le (by omega), w3]; rfl) (by have := ho1.2.1; omega) (by omega) _ _ hP hD hS _ (lv_sub hl [1, 2, 3, 4, 0] rfl)
                · refine lv_iload hx hb dX8_finish_57 (lv_at hl 6 rfl) ?_
                  refine lv_bipush (v := nI 8) hx hb dX8_finish_59 (by decide) ?_
                  refine jn_cge hx hb (by omega) (by decide) (tgt := 84) dX8_finish_61 (by decide) (fun c_61 => absurd c_61 (by omega)) (fun c_61 => ?_)
                  refine lv_aload_n hx hb dX8_finish_64 rfl (lv_at hl 0 rfl) ?_
                  refine lv_aload_n hx hb dX8_finish_65 rfl (lv_at hl 1 rfl) ?_
                  refine lv_iload hx hb dX8_finish_66 (lv_at hl 5 rfl) ?_
                  refine lv_iconst (v := nI 2) hx hb dX8_finish_68 (by decide) ?_
                  refine lv_iload hx hb dX8_finish_69 (lv_at hl 6 rfl) ?_
                  refine jn_imul hx hb dX8_finish_71 ?_
                  refine jn_ishr hx hb (by have := pkL_lt _ ho1.2.2.1; have := pow4_8 _ hl8; omega) (by omega) dX8_finish_72 ?_
                  refine lv_iconst (v := nI 3) hx hb dX8_finish_73 (by decide) ?_
                  refine jn_iand hx hb dX8_finish_74 ?_
                  refine jn_nm (fun xv exv => ?_)
                  have exv2 : xv = s1.2.1.getD i 0 := by rw [exv, and3, pow4, w2]; exact pkL_at _ ho1.2.2.1 i (by omega)
                  have hx3 : xv < 3 := by rw [exv2]; exact ho1.2.2.1 _ (getD_mem (by omega))
                  refine jn_callv (va_runV (As := [.ref (g.2.2.2 1), .int (nI xv)]) (rest := []) ⟨hx, hb, hml, hown, hts⟩ (c_X8_meet l g tl H.size (sF (sF (sF (sF (sF σ 12 m2) 13 r2) 14 k2) 15 j2) 16 p2) xv s2 hA hW2 ⟨ho2.1, by have := ho2.2.1; omega, ho2.2.2.1, ho2.2.2.2⟩ hx3) (cwV 2 hts gX8_finish_X8_meet rfl rfl rfl (by decide +kernel) ⟨Nat.le_of_ble_eq_true rfl, Nat.le_of_ble_eq_true rfl⟩) (okWV hK hP hD rfl (gC35 g (sF (sF (sF (sF (sF σ 12 m2) 13 r2) 14 k2) 15 j2) 16 p2) tl)) rfl rfl hl.1 rfl (lv_room (Nat.le_of_ble_eq_true rfl)) dX8_finish_75 ⟨Nat.le_of_ble_eq_true rfl, Nat.le_of_ble_eq_true rfl⟩) hD hS hAA (fun u H locs hw_ hP hD hS => ?_)
                  have hP : va_P (g.1, g.2.1) vwCl (wC g (sF (sF (sF (sF (sF (sF (sF (sF (sF (sF σ 12 m2) 13 r2) 14 k2) 15 j2) 16 p2) 12 ((meetL (σ.2.1 0) s2 xv).1)) 13 (pkL (meetL (σ.2.1 0) s2 xv).2.1)) 14 ((meetL (σ.2.1 0) s2 xv).2.1.length)) 15 ((meetL (σ.2.1 0) s2 xv).2.2.1)) 16 ((meetL (σ.2.1 0) s2 xv).2.2.2)) ++ tl) H := hP
                  have hD : va_D A (wC g (sF (sF (sF (sF (sF (sF (sF (sF (sF (sF σ 12 m2) 13 r2) 14 k2) 15 j2) 16 p2) 12 ((meetL (σ.2.1 0) s2 xv).1)) 13 (pkL (meetL (σ.2.1 0) s2 xv).2.1)) 14 ((meetL (σ.2.1 0) s2 xv).2.1.length)) 15 ((meetL (σ.2.1 0) s2 xv).2.2.1)) 16 ((meetL (σ.2.1 0) s2 xv).2.2.2)) ++ tl) := hD
                  refine lv_iinc (v := nI (i + 1)) (lv' := [(6, .int (nI (i + 1))), (0, .ref (g.2.2.2 35)), (1, .ref (g.2.2.2 1)), (2, .int (nI n)), (3, .int (nI k1)), (4, .int (nI rd)), (5, .int (nI r1))]) hx hb dX8_finish_78 hl (k := 6) rfl (jn_ii _ 1) (by decide) rfl (fun ls hl => ?_)
                  refine lv_goto (tgt := 51) hx hb dX8_finish_81 (by decide) ?_
                  exact ih51 (i + 1) ((meetL (σ.2.1 0) s2 xv).1) (pkL (meetL (σ.2.1 0) s2 xv).2.1) ((meetL (σ.2.1 0) s2 xv).2.1.length) ((meetL (σ.2.1 0) s2 xv).2.2.1) ((meetL (σ.2.1 0) s2 xv).2.2.2) (meetL (σ.2.1 0) s2 xv) (by omega) ⟨rfl, rfl, rfl, rfl, rfl⟩ (okw_meet hA.1 ho2 hx3) (by rw [fold_s (by omega), ← hE2, exv2]) (by omega) _ _ hP hD hS _ (lv_sub hl [1, 2, 3, 4, 5, 6, 0] rfl)
            exact lp51 _ 0 m1 0 0 j1 p1 ((s1.1, ([] : List Nat), s1.2.2.1, s1.2.2.2)) (by omega) ⟨w1, rfl, rfl, w4, w5⟩ ⟨ho1.1, Nat.zero_le _, fun x h => absurd h List.not_mem_nil, ho1.2.2.2⟩ rfl (Nat.lt_succ_self _) _ _ hP hD hS _ (lv_sub hl [3, 4, 5, 2, 6, 1, 0] rfl)
  exact lp5 _ 0 n (σ.1 12) (σ.1 13) (σ.1 14) (σ.1 15) (σ.1 16) s0 (by decide) hW ho rfl hn (Nat.lt_succ_self _) _ _ hP hD hS _ (lv_sub hl [2, 3, 4, 1, 0] rfl)

abbrev r_c_X8_read : Room := { frames := 4, cells := 0, slots := 0, locals := 91 }
set_option maxHeartbeats 4000000 in
set_option maxRecDepth 100000 in
theorem c_X8_read (l : Launch) (g : GC) (tl : va_W) (sz : Nat) (σ : SS) (n : Nat) (hA : OkA σ) (hn : n ≤ 8) (hw : ∀ i, i < n → (σ.2.1 14) i < 3) : Met l yX8_read wsX8_read r_c_X8_read (va_Pc [.ref (g.2.2.2 35), .ref (g.2.2.2 1), .ref (g.2.2.2 20), .int (nI n)] (PW g (wC g σ ++ tl) sz)) (va_Qv (fun (_ : Unit) => True) (fun (_ : Unit) t => BW g (va_A (wC g σ ++ tl) sz) (wC g (sF (sF (sF (sF (sF σ 12 ((readO (σ.2.1 0) (σ.2.1 14) n).1)) 13 (pkL (readO (σ.2.1 0) (σ.2.1 14) n).2.1)) 14 ((readO (σ.2.1 0) (σ.2.1 14) n).2.1.length)) 15 ((readO (σ.2.1 0) (σ.2.1 14) n).2.2.1)) 16 ((readO (σ.2.1 0) (σ.2.1 14) n).2.2.2)) ++ tl) t) (va_A (wC g σ ++ tl) sz)) 0 0 (va_A (wC g σ ++ tl) sz) := by
  refine jn_sv (wf := fun _ : Unit => wC g (sF (sF (sF (sF (sF σ 12 ((readO (σ.2.1 0) (σ.2.1 14) n).1)) 13 (pkL (readO (σ.2.1 0) (σ.2.1 14) n).2.1)) 14 ((readO (σ.2.1 0) (σ.2.1 14) n).2.1.length)) 15 ((readO (σ.2.1 0) (σ.2.1 14) n).2.2.1)) 16 ((readO (σ.2.1 0) (σ.2.1 14) n).2.2.2)) ++ tl) (cc := cX8_read) (maxL := 5) (own := RX8) (by decide) rfl rfl (Nat.le_of_ble_eq_true rfl) ?_
  intro p e s m below meth c Q A hx hb hml hown hts hK hP hD hS hAA hq ls hl
  obtain ⟨H, eH⟩ : ∃ z, z = s.heap := ⟨_, rfl⟩
  obtain ⟨locs, el⟩ : ∃ z : List Loc, z = [] := ⟨_, rfl⟩
  rw [← eH] at hP
  have hS : va_S A s.heap H locs := by rw [eH, el]; exact hS
  have goal0 : W p l e r_c_X8_read s m ([.ref (g.2.2.2 35), .ref (g.2.2.2 1), .ref (g.2.2.2 20), .int (nI n)] : List Value).toArray below meth c H locs 0 0 Q (F0 m 0 ls []) → W p l e r_c_X8_read s m ([.ref (g.2.2.2 35), .ref (g.2.2.2 1), .ref (g.2.2.2 20), .int (nI n)] : List Value).toArray below meth c s.heap [] 0 0 Q (F0 m 0 ls []) := fun h => by rw [eH, el] at h; exact h
  refine goal0 ?_
  have hl : lv_has ls 5 [(0, .ref (g.2.2.2 35)), (1, .ref (g.2.2.2 1)), (2, .ref (g.2.2.2 20)), (3, .int (nI n))] := hl
  refine lv_aload_n hx hb dX8_read_0 rfl (lv_at hl 0 rfl) ?_
  refine jn_callv (va_runV (As := []) (rest := []) ⟨hx, hb, hml, hown, hts⟩ (c_X8_begin l g tl H.size σ) (cwV 0 hts gX8_read_X8_begin rfl rfl rfl (by decide +kernel) ⟨Nat.le_of_ble_eq_true rfl, Nat.le_of_ble_eq_true rfl⟩) (okWV hK hP hD rfl (gC35 g σ tl)) rfl rfl hl.1 rfl (lv_room (Nat.le_of_ble_eq_true rfl)) dX8_read_1 ⟨Nat.le_of_ble_eq_true rfl, Nat.le_of_ble_eq_true rfl⟩) hD hS hAA (fun u H locs hw_ hP hD hS => ?_)
  have hP : va_P (g.1, g.2.1) vwCl (wC g (sF (sF (sF (sF (sF σ 12 1) 13 0) 14 0) 15 0) 16 0) ++ tl) H := hP
  have hD : va_D A (wC g (sF (sF (sF (sF (sF σ 12 1) 13 0) 14 0) 15 0) 16 0) ++ tl) := hD
  refine lv_iconst (v := nI 0) hx hb dX8_read_4 (by decide) ?_
  refine lv_istore (lv' := [(4, .int (nI 0)), (0, .ref (g.2.2.2 35)), (1, .ref (g.2.2.2 1)), (2, .ref (g.2.2.2 20)), (3, .int (nI n))]) hx hb dX8_read_5 hl (by decide) rfl (fun ls hl => ?_)
  have lp7 : ∀ (fu : Nat), ∀ (i : Nat) (m1 : Nat) (r1 : Nat) (k1 : Nat) (j1 : Nat) (p1 : Nat) (s1 : OW), (i ≤ n) → (m1 = s1.1 ∧ r1 = pkL s1.2.1 ∧ k1 = s1.2.1.length ∧ j1 = s1.2.2.1 ∧ p1 = s1.2.2.2) → (OkW s1 i) → (s1 = (wl (σ.2.1 14) i).foldl (meetL (σ.2.1 0)) (1, [], 0, 0)) → n - i < fu → ∀ (H : Heap) (locs : List Loc), va_P (g.1, g.2.1) vwCl (wC g (sF (sF (sF (sF (sF σ 12 m1) 13 r1) 14 k1) 15 j1) 16 p1) ++ tl) H → va_D A (wC g (sF (sF (sF (sF (sF σ 12 m1) 13 r1) 14 k1) 15 j1) 16 p1) ++ tl) → va_S A s.heap H locs → ∀ ls : Array Slot, lv_has ls 5 [(0, .ref (g.2.2.2 35)), (1, .ref (g.2.2.2 1)), (2, .ref (g.2.2.2 20)), (3, .int (nI n)), (4, .int (nI i))] → W p l e r_c_X8_read s m ([.ref (g.2.2.2 35), .ref (g.2.2.2 1), .ref (g.2.2.2 20), .int (nI n)] : List Value).toArray below meth c H locs 0 0 Q (F0 m 7 ls []) := by
    intro fu
    induction fu with
    | zero => intro i m1 r1 k1 j1 p1 s1 h1 hW1 ho1 hE hf; exact absurd hf (Nat.not_lt_zero _)
    | succ fu ih7 =>
      intro i m1 r1 k1 j1 p1 s1 h1 hW1 ho1 hE hf H locs hP hD hS ls hl
      refine lv_iload hx hb dX8_read_7 (lv_at hl 4 rfl) ?_
      refine lv_iload_n hx hb dX8_read_9 rfl (lv_at hl 3 rfl) ?_
      refine jn_cge hx hb (by omega) (by omega) (tgt := 35) dX8_read_10 (by decide) (fun c_10 => ?_) (fun c_10 => ?_)
      · refine lv_aload_n hx hb dX8_read_35 rfl (lv_at hl 0 rfl) ?_
        refine lv_aload_n hx hb dX8_read_36 rfl (lv_at hl 1 rfl) ?_
        refine lv_iload_n hx hb dX8_read_37 rfl (lv_at hl 3 rfl) ?_
        refine jn_callv (va_runV (As := [.ref (g.2.2.2 1), .int (nI n)]) (rest := []) ⟨hx, hb, hml, hown, hts⟩ (c_X8_finish l g tl H.size (sF (sF (sF (sF (sF σ 12 m1) 13 r1) 14 k1) 15 j1) 16 p1) n s1 hA hW1 ⟨ho1.1, by have := ho1.2.1; omega, ho1.2.2.1, ho1.2.2.2⟩ (by omega)) (cwV 2 hts gX8_read_X8_finish rfl rfl rfl (by decide +kernel) ⟨Nat.le_of_ble_eq_true rfl, Nat.le_of_ble_eq_true rfl⟩) (okWV hK hP hD rfl (gC35 g (sF (sF (sF (sF (sF σ 12 m1) 13 r1) 14 k1) 15 j1) 16 p1) tl)) rfl rfl hl.1 rfl (lv_room (Nat.le_of_ble_eq_true rfl)) dX8_read_38 ⟨Nat.le_of_ble_eq_true rfl, Nat.le_of_ble_eq_true rfl⟩) hD hS hAA (fun u H locs hw_ hP hD hS => ?_)
        have hP : va_P (g.1, g.2.1) vwCl (wC g (sF (sF (sF (sF (sF (sF (sF (sF (sF (sF σ 12 m1) 13 r1) 14 k1) 15 j1) 16 p1) 12 ((finL (σ.2.1 0) 8 n s1).1)) 13 (pkL (finL (σ.2.1 0) 8 n s1).2.1)) 14 ((finL (σ.2.1 0) 8 n s1).2.1.length)) 15 ((finL (σ.2.1 0) 8 n s1).2.2.1)) 16 ((finL (σ.2.1 0) 8 n s1).2.2.2)) ++ tl) H := hP
        have hD : va_D A (wC g (sF (sF (sF (sF (sF (sF (sF (sF (sF (sF σ 12 m1) 13 r1) 14 k1) 15 j1) 16 p1) 12 ((finL (σ.2.1 0) 8 n s1).1)) 13 (pkL (finL (σ.2.1 0) 8 n s1).2.1)) 14 ((finL (σ.2.1 0) 8 n s1).2.1.length)) 15 ((finL (σ.2.1 0) 8 n s1).2.2.1)) 16 ((finL (σ.2.1 0) 8 n s1).2.2.2)) ++ tl) := hD
        have eW : (wC g (sF (sF (sF (sF (sF (sF (sF (sF (sF (sF σ 12 m1) 13 r1) 14 k1) 15 j1) 16 p1) 12 ((finL (σ.2.1 0) 8 n s1).1)) 13 (pkL (finL (σ.2.1 0) 8 n s1).2.1)) 14 ((finL (σ.2.1 0) 8 n s1).2.1.length)) 15 ((finL (σ.2.1 0) 8 n s1).2.2.1)) 16 ((finL (σ.2.1 0) 8 n s1).2.2.2)) ++ tl) = (wC g (sF (sF (sF (sF (sF σ 12 ((readO (σ.2.1 0) (σ.2.1 14) n).1)) 13 (pkL (readO (σ.2.1 0) (σ.2.1 14) n).2.1)) 14 ((readO (σ.2.1 0) (σ.2.1 14) n).2.1.length)) 15 ((readO (σ.2.1 0) (σ.2.1 14) n).2.2.1)) 16 ((readO (σ.2.1 0) (σ.2.1 14) n).2.2.2)) ++ tl) := (by rw [hE, show i = n by omega]; rfl)
        rw [eW] at hP hD
        exact hq _ _ _ _ () dX8_read_41 trivial hP hD hS
      · refine lv_iload hx hb dX8_read_13 (lv_at hl 4 rfl) ?_
        refine lv_aload_n hx hb dX8_read_15 rfl (lv_at hl 2 rfl) ?_
        refine va_alen hx hb hK.1 hP 20 0 (gC20 g (sF (sF (sF (sF (sF σ 12 m1) 13 r1) 14 k1) 15 j1) 16 p1) tl) rfl (v := nI 8) rfl dX8_read_16 ?_
        refine jn_cge hx hb (by omega) (by decide) (tgt := 35) dX8_read_17 (by decide) (fun c_17 => ?_) (fun c_17 => ?_)
        · refine lv_aload_n hx hb dX8_read_35 rfl (lv_at hl 0 rfl) ?_
          refine lv_aload_n hx hb dX8_read_36 rfl (lv_at hl 1 rfl) ?_
          refine lv_iload_n hx hb dX8_read_37 rfl (lv_at hl 3 rfl) ?_
          refine jn_callv (va_runV (As := [.ref (g.2.2.2 1), .int (nI n)]) (rest := []) ⟨hx, hb, hml, hown, hts⟩ (c_X8_finish l g tl H.size (sF (sF (sF (sF (sF σ 12 m1) 13 r1) 14 k1) 15 j1) 16 p1) n s1 hA hW1 ⟨ho1.1, by have := ho1.2.1; omega, ho1.2.2.1, ho1.2.2.2⟩ (by omega)) (cwV 2 hts gX8_read_X8_finish rfl rfl rfl (by decide +kernel) ⟨Nat.le_of_ble_eq_true rfl, Nat.le_of_ble_eq_true rfl⟩) (okWV hK hP hD rfl (gC35 g (sF (sF (sF (sF (sF σ 12 m1) 13 r1) 14 k1) 15 j1) 16 p1) tl)) rfl rfl hl.1 rfl (lv_room (Nat.le_of_ble_eq_true rfl)) dX8_read_38 ⟨Nat.le_of_ble_eq_true rfl, Nat.le_of_ble_eq_true rfl⟩) hD hS hAA (fun u H locs hw_ hP hD hS => ?_)
          have hP : va_P (g.1, g.2.1) vwCl (wC g (sF (sF (sF (sF (sF (sF (sF (sF (sF (sF σ 12 m1) 13 r1) 14 k1) 15 j1) 16 p1) 12 ((finL (σ.2.1 0) 8 n s1).1)) 13 (pkL (finL (σ.2.1 0) 8 n s1).2.1)) 14 ((finL (σ.2.1 0) 8 n s1).2.1.length)) 15 ((finL (σ.2.1 0) 8 n s1).2.2.1)) 16 ((finL (σ.2.1 0) 8 n s1).2.2.2)) ++ tl) H := hP
          have hD : va_D A (wC g (sF (sF (sF (sF (sF (sF (sF (sF (sF (sF σ 12 m1) 13 r1) 14 k1) 15 j1) 16 p1) 12 ((finL (σ.2.1 0) 8 n s1).1)) 13 (pkL (finL (σ.2.1 0) 8 n s1).2.1)) 14 ((finL (σ.2.1 0) 8 n s1).2.1.length)) 15 ((finL (σ.2.1 0) 8 n s1).2.2.1)) 16 ((finL (σ.2.1 0) 8 n s1).2.2.2)) ++ tl) := hD
          have eW : (wC g (sF (sF (sF (sF (sF (sF (sF (sF (sF (sF σ 12 m1) 13 r1) 14 k1) 15 j1) 16 p1) 12 ((finL (σ.2.1 0) 8 n s1).1)) 13 (pkL (finL (σ.2.1 0) 8 n s1).2.1)) 14 ((finL (σ.2.1 0) 8 n s1).2.1.length)) 15 ((finL (σ.2.1 0) 8 n s1).2.2.1)) 16 ((finL (σ.2.1 0) 8 n s1).2.2.2)) ++ tl) = (wC g (sF (sF (sF (sF (sF σ 12 ((readO (σ.2.1 0) (σ.2.1 14) n).1)) 13 (pkL (readO (σ.2.1 0) (σ.2.1 14) n).2.1)) 14 ((readO (σ.2.1 0) (σ.2.1 14) n).2.1.length)) 15 ((readO (σ.2.1 0) (σ.2.1 14) n).2.2.1)) 16 ((readO (σ.2.1 0) (σ.2.1 14) n).2.2.2)) ++ tl) := (by rw [hE, show i = n by omega]; rfl)
          rw [eW] at hP hD
          exact hq _ _ _ _ () dX8_read_41 trivial hP hD hS
        · refine lv_aload_n hx hb dX8_read_20 rfl (lv_at hl 0 rfl) ?_
          refine lv_aload_n hx hb dX8_read_21 rfl (lv_at hl 1 rfl) ?_
          refine lv_aload_n hx hb dX8_read_22 rfl (lv_at hl 2 rfl) ?_
          refine lv_iload hx hb dX8_read_23 (lv_at hl 4 rfl) ?_
          refine jn_iald (f := σ.2.1 14) hx hb hK.1 hP 20 0 (gC20 g (sF (sF (sF (sF (sF σ 12 m1) 13 r1) 14 k1) 15 j1) 16 p1) tl) rfl (by omega) (Nat.le_of_ble_eq_true rfl) dX8_read_25 ?_
          refine jn_callv (va_runV (As := [.ref (g.2.2.2 1), .int (nI ((σ.2.1 14) i))]) (rest := []) ⟨hx, hb, hml, hown, hts⟩ (c_X8_meet l g tl H.size (sF (sF (sF (sF (sF σ 12 m1) 13 r1) 14 k1) 15 j1) 16 p1) ((σ.2.1 14) i) s1 hA hW1 ⟨ho1.1, by have := ho1.2.1; omega, ho1.2.2.1, ho1.2.2.2⟩ (hw i (by omega))) (cwV 2 hts gX8_read_X8_meet rfl rfl rfl (by decide +kernel) ⟨Nat.le_of_ble_eq_true rfl, Nat.le_of_ble_eq_true rfl⟩) (okWV hK hP hD rfl (gC35 g (sF (sF (sF (sF (sF σ 12 m1) 13 r1) 14 k1) 15 j1) 16 p1) tl)) rfl rfl hl.1 rfl (lv_room (Nat.le_of_ble_eq_true rfl)) dX8_read_26 ⟨Nat.le_of_ble_eq_true rfl, Nat.le_of_ble_eq_true rfl⟩) hD hS hAA (fun u H locs hw_ hP hD hS => ?_)
          have hP : va_P (g.1, g.2.1) vwCl (wC g (sF (sF (sF (sF (sF (sF (sF (sF (sF (sF σ 12 m1) 13 r1) 14 k1) 15 j1) 16 p1) 12 ((meetL (σ.2.1 0) s1 ((σ.2.1 14) i)).1)) 13 (pkL (meetL (σ.2.1 0) s1 ((σ.2.1 14) i)).2.1)) 14 ((meetL (σ.2.1 0) s1 ((σ.2.1 14) i)).2.1.length)) 15 ((meetL (σ.2.1 0) s1 ((σ.2.1 14) i)).2.2.1)) 16 ((meetL (σ.2.1 0) s1 ((σ.2.1 14) i)).2.2.2)) ++ tl) H := hP
          have hD : va_D A (wC g (sF (sF (sF (sF (sF (sF (sF (sF (sF (sF σ 12 m1) 13 r1) 14 k1) 15 j1) 16 p1) 12 ((meetL (σ.2.1 0) s1 ((σ.2.1 14) i)).1)) 13 (pkL (meetL (σ.2.1 0) s1 ((σ.2.1 14) i)).2.1)) 14 ((meetL (σ.2.1 0) s1 ((σ.2.1 14) i)).2.1.length)) 15 ((meetL (σ.2.1 0) s1 ((σ.2.1 14) i)).2.2.1)) 16 ((meetL (σ.2.1 0) s1 ((σ.2.1 14) i)).2.2.2)) ++ tl) := hD
          refine lv_iinc (v := nI (i + 1)) (lv' := [(4, .int (nI (i + 1))), (0, .ref (g.2.2.2 35)), (1, .ref (g.2.2.2 1)), (2, .ref (g.2.2.2 20)), (3, .int (nI n))]) hx hb dX8_read_29 hl (k := 4) rfl (jn_ii _ 1) (by decide) rfl (fun ls hl => ?_)
          refine lv_goto (tgt := 7) hx hb dX8_read_32 (by decide) ?_
          exact ih7 (i + 1) ((meetL (σ.2.1 0) s1 ((σ.2.1 14) i)).1) (pkL (meetL (σ.2.1 0) s1 ((σ.2.1 14) i)).2.1) ((meetL (σ.2.1 0) s1 ((σ.2.1 14) i)).2.1.length) ((meetL (σ.2.1 0) s1 ((σ.2.1 14) i)).2.2.1) ((meetL (σ.2.1 0) s1 ((σ.2.1 14) i)).2.2.2) (meetL (σ.2.1 0) s1 ((σ.2.1 14) i)) (by omega) ⟨rfl, rfl, rfl, rfl, rfl⟩ (okw_meet hA.1 ho1 (hw i (by omega))) (by rw [wl_s, List.foldl_append, ← hE]; rfl) (by omega) _ _ hP hD hS _ (lv_sub hl [1, 2, 3, 4, 0] rfl)
  exact lp7 _ 0 1 0 0 0 0 ((1, [], 0, 0)) (by omega) ⟨rfl, rfl, rfl, rfl, rfl⟩ ⟨(by decide : 1 < 32), Nat.zero_le _, fun x h => absurd h List.not_mem_nil, (by decide : 0 < 2)⟩ rfl (Nat.lt_succ_self _) _ _ hP hD hS _ (lv_sub hl [1, 2, 3, 4, 0] rfl)

abbrev r_c_X8_accepted : Room := { frames := 1, cells := 0, slots := 0, locals := 21 }
set_option maxHeartbeats 4000000 in
set_option maxRecDepth 100000 in
theorem c_X8_accepted (l : Launch) (g : GC) (tl : va_W) (σ : SS) (hA : OkA σ) (hk : σ.1 14 < 4294967296) : Met l yX8_accepted wsX8_accepted r_c_X8_accepted (va_Pc [.ref (g.2.2.2 35), .ref (g.2.2.2 1)] (PP g (wC g σ ++ tl))) (vp_Si (fun r => r = nI (if σ.1 14 = 0 ∧ σ.1 12 &&& σ.1 0 ≠ 0 then 1 else 0))) 0 0 (fun _ => False) := by
  refine jn_pz (cc := cX8_accepted) (maxL := 2) (own := RX8) (by decide) rfl rfl (Nat.le_of_ble_eq_true rfl) ?_
  intro p e s m below meth c Q hx hb hml hown hts ⟨hP, hK⟩ hq ls hl
  have hl : lv_has ls 2 [(0, .ref (g.2.2.2 35)), (1, .ref (g.2.2.2 1))] := hl
  have iX8 : ∀ w ∈ wsX80, w ∈ wsX8_accepted := by decide +kernel
  have k18 := hts (.fieldLink RX8 18 "JumpingAutomata$OneWayReader" "restSize" "I") (by decide +kernel)
  have k9 := hts (.fieldLink RX8 9 "JumpingAutomata$OneWayReader" "state" "I") (by decide +kernel)
  refine lv_aload_n hx hb dX8_accepted_0 rfl (lv_at hl 0 rfl) ?_
  refine va_get (D := (g.1, g.2.1)) (ci := 10) (v := .int (nI (σ.1 14))) (C := RX8) (T := TX8) (N := 5) hx hb hts iX8 hown hK.1 hP 35 (gC35 g σ tl) rfl 2 (by decide) k18 (fun _ h9 => h9) rfl dX8_accepted_1 ?_
  refine jn_zne hx hb (by omega) (tgt := 22) dX8_accepted_4 (by decide) (fun c_4 => ?_) (fun c_4 => ?_)
  · refine lv_iconst (v := nI 0) hx hb dX8_accepted_22 (by decide) ?_
    exact hq _ _ ((nI 0)) dX8_accepted_23 jn_n0 (by first | rw [if_pos (by omega)] | rw [if_neg (by omega)])
  · refine lv_aload_n hx hb dX8_accepted_7 rfl (lv_at hl 1 rfl) ?_
    refine lv_aload_n hx hb dX8_accepted_8 rfl (lv_at hl 0 rfl) ?_
    refine va_get (D := (g.1, g.2.1)) (ci := 10) (v := .int (nI (σ.1 12))) (C := RX8) (T := TX8) (N := 5) hx hb hts iX8 hown hK.1 hP 35 (gC35 g σ tl) rfl 0 (by decide) k9 (fun _ h9 => h9) rfl dX8_accepted_9 ?_
    refine vp_callSi (va_Run.run (va_runV (As := [.int (nI (σ.1 12))]) (rest := []) ⟨hx, hb, hml, hown, hts⟩ (c_X0_accepting l g tl σ (σ.1 12) hA) (cwV 1 hts gX8_accepted_X0_accepting rfl rfl rfl (by decide +kernel) ⟨Nat.le_of_ble_eq_true rfl, Nat.le_of_ble_eq_true rfl⟩) (okPV hK hP rfl (gC1 g σ tl)) rfl rfl hl.1 rfl (lv_room (Nat.le_of_ble_eq_true rfl)) dX8_accepted_12 ⟨Nat.le_of_ble_eq_true rfl, Nat.le_of_ble_eq_true rfl⟩)) (fun r_12 h_12 => ?_)
    subst h_12
    refine jn_beq hx hb (tgt := 22) dX8_accepted_15 (by decide) (fun c_15 => ?_) (fun c_15 => ?_)
    · refine lv_iconst (v := nI 0) hx hb dX8_accepted_22 (by decide) ?_
      exact hq _ _ ((nI 0)) dX8_accepted_23 jn_n0 (by first | rw [if_pos (by omega)] | rw [if_neg (by omega)])
    · refine lv_iconst (v := nI 1) hx hb dX8_accepted_18 (by decide) ?_
      refine lv_goto (tgt := 23) hx hb dX8_accepted_19 (by decide) ?_
      exact hq _ _ ((nI 1)) dX8_accepted_23 jn_n1 (by first | rw [if_pos (by omega)] | rw [if_neg (by omega)])

abbrev r_c_X8_countFrom_d7 : Room := { frames := 4, cells := 0, slots := 0, locals := 91 }
set_option maxHeartbeats 4000000 in
set_option maxRecDepth 100000 in
theorem c_X8_countFrom_d7 (l : Launch) (g : GC) (tl : va_W) (sz : Nat) (σ : SS) (n : Nat) (s0 : OW) (hA : OkA σ) (hW : OwIs σ s0) (ho : OkW s0 7) (hn : n ≤ 7) (hd : 7 ≤ n) : Met l yX8_countFrom wsX8_countFrom r_c_X8_countFrom_d7 (va_Pc [.ref (g.2.2.2 35), .ref (g.2.2.2 1), .int (nI 7), .int (nI n)] (PW g (wC g σ ++ tl) sz)) (va_Ql (fun (r : Int64) (z : Nat × Nat × Nat × Nat × Nat) => match z with | (m2, r2, k2, j2, p2) => (r = lN (cO (σ.2.1 0) (σ.1 0) n (n - 7) (pr2 s0))) ∧ (p2 < 2)) (fun (z : Nat × Nat × Nat × Nat × Nat) t => BW g (va_A (wC g σ ++ tl) sz) ((fun z : Nat × Nat × Nat × Nat × Nat => match z with | (m2, r2, k2, j2, p2) => wC g (sF (sF (sF (sF (sF σ 12 m2) 13 r2) 14 k2) 15 j2) 16 p2) ++ tl) z) t) (va_A (wC g σ ++ tl) sz)) 0 0 (va_A (wC g σ ++ tl) sz) := by
  refine jn_sl (wf := fun z : Nat × Nat × Nat × Nat × Nat => match z with | (m2, r2, k2, j2, p2) => wC g (sF (sF (sF (sF (sF σ 12 m2) 13 r2) 14 k2) 15 j2) 16 p2) ++ tl) (cc := cX8_countFrom) (maxL := 10) (own := RX8) (by decide) rfl rfl (Nat.le_of_ble_eq_true rfl) ?_
  intro p e s m below meth c Q A hx hb hml hown hts hK hP hD hS hAA hq ls hl
  obtain ⟨H, eH⟩ : ∃ z, z = s.heap := ⟨_, rfl⟩
  obtain ⟨locs, el⟩ : ∃ z : List Loc, z = [] := ⟨_, rfl⟩
  rw [← eH] at hP
  have hS : va_S A s.heap H locs := by rw [eH, el]; exact hS
  have goal0 : W p l e r_c_X8_countFrom_d7 s m ([.ref (g.2.2.2 35), .ref (g.2.2.2 1), .int (nI 7), .int (nI n)] : List Value).toArray below meth c H locs 0 0 Q (F0 m 0 ls []) → W p l e r_c_X8_countFrom_d7 s m ([.ref (g.2.2.2 35), .ref (g.2.2.2 1), .int (nI 7), .int (nI n)] : List Value).toArray below meth c s.heap [] 0 0 Q (F0 m 0 ls []) := fun h => by rw [eH, el] at h; exact h
  refine goal0 ?_
  have hl : lv_has ls 10 [(0, .ref (g.2.2.2 35)), (1, .ref (g.2.2.2 1)), (2, .int (nI 7)), (3, .int (nI n))] := hl
  have iX8 : ∀ w ∈ wsX80, w ∈ wsX8_countFrom := by decide +kernel
  have k9 := hts (.fieldLink RX8 9 "JumpingAutomata$OneWayReader" "state" "I") (by decide +kernel)
  have k15 := hts (.fieldLink RX8 15 "JumpingAutomata$OneWayReader" "rest" "I") (by decide +kernel)
  have k18 := hts (.fieldLink RX8 18 "JumpingAutomata$OneWayReader" "restSize" "I") (by decide +kernel)
  have ho8 := ho.2.1
  have okF := okw_fin hA.1 8 n s0 8 ⟨ho.1, by omega, ho.2.2⟩
  refine lv_aload_n hx hb dX8_countFrom_0 rfl (lv_at hl 0 rfl) ?_
  refine va_get (D := (g.1, g.2.1)) (ci := 10) (v := .int (nI (σ.1 12))) (C := RX8) (T := TX8) (N := 5) hx hb hts iX8 hown hK.1 hP 35 (gC35 g σ tl) rfl 0 (by decide) k9 (fun _ h9 => h9) rfl dX8_countFrom_1 ?_
  refine lv_istore (lv' := [(4, .int (nI (σ.1 12))), (0, .ref (g.2.2.2 35)), (1, .ref (g.2.2.2 1)), (2, .int (nI 7)), (3, .int (nI n))]) hx hb dX8_countFrom_4 hl (by decide) rfl (fun ls hl => ?_)
  refine lv_aload_n hx hb dX8_countFrom_6 rfl (lv_at hl 1 rfl) ?_
  refine va_get (D := (g.1, g.2.1)) (ci := 10) (v := .int (nI (σ.1 13))) (C := RX8) (T := TX8) (N := 5) hx hb hts iX8 hown hK.1 hP 35 (gC35 g σ tl) rfl 1 (by decide) k15 (fun _ h9 => h9) rfl dX8_countFrom_7 ?_
  refine lv_istore (lv' := [(5, .int (nI (σ.1 13))), (4, .int (nI (σ.1 12))), (0, .ref (g.2.2.2 35)), (1, .ref (g.2.2.2 1)), (2, .int (nI 7)), (3, .int (nI n))]) hx hb dX8_countFrom_10 hl (by decide) rfl (fun ls hl => ?_)
  refine lv_aload_n hx hb dX8_countFrom_12 rfl (lv_at hl 2 rfl) ?_
  refine va_get (D := (g.1, g.2.1)) (ci := 10) (v := .int (nI (σ.1 14))) (C := RX8) (T := TX8) (N := 5) hx hb hts iX8 hown hK.1 hP 35 (gC35 g σ tl) rfl 2 (by decide) k18 (fun _ h9 => h9) rfl dX8_countFrom_13 ?_
  refine lv_istore (lv' := [(6, .int (nI (σ.1 14))), (5, .int (nI (σ.1 13))), (4, .int (nI (σ.1 12))), (0, .ref (g.2.2.2 35)), (1, .ref (g.2.2.2 1)), (2, .int (nI 7)), (3, .int (nI n))]) hx hb dX8_countFrom_16 hl (by decide) rfl (fun ls hl => ?_)
  refine lv_lconst (v := lN 0) hx hb dX8_countFrom_18 (by decide) ?_
  refine lv_lstore (lv' := [(7, .long (lN 0)), (6, .int (nI (σ.1 14))), (5, .int (nI (σ.1 13))), (4, .int (nI (σ.1 12))), (0, .ref (g.2.2.2 35)), (1, .ref (g.2.2.2 1)), (2, .int (nI 7)), (3, .int (nI n))]) hx hb dX8_countFrom_19 hl (by decide) rfl (fun ls hl => ?_)
  refine lv_iload_n hx hb dX8_countFrom_21 rfl (lv_at hl 6 rfl) ?_
  refine lv_iload_n hx hb dX8_countFrom_22 rfl (lv_at hl 7 rfl) ?_
  refine jn_cge hx hb (by decide) (by omega) (tgt := 32) dX8_countFrom_23 (by decide) (fun c_23 => ?_) (fun c_23 => absurd c_23 (by omega))
  refine lv_aload_n hx hb dX8_countFrom_32 rfl (lv_at hl 4 rfl) ?_
  refine lv_aload_n hx hb dX8_countFrom_33 rfl (lv_at hl 5 rfl) ?_
  refine lv_iload_n hx hb dX8_countFrom_34 rfl (lv_at hl 7 rfl) ?_
  refine jn_callv (va_runV (As := [.ref (g.2.2.2 1), .int (nI n)]) (rest := []) ⟨hx, hb, hml, hown, hts⟩ (c_X8_finish l g tl H.size σ n s0 hA hW ⟨ho.1, by omega, ho.2.2⟩ (by omega)) (cwV 2 hts gX8_countFrom_X8_finish rfl rfl rfl (by decide +kernel) ⟨Nat.le_of_ble_eq_true rfl, Nat.le_of_ble_eq_true rfl⟩) (okWV hK hP hD rfl (gC35 g σ tl)) rfl rfl hl.1 rfl (lv_room (Nat.le_of_ble_eq_true rfl)) dX8_countFrom_35 ⟨Nat.le_of_ble_eq_true rfl, Nat.le_of_ble_eq_true rfl⟩) hD hS hAA (fun u H locs hw_ hP hD hS => ?_)
  have hP : va_P (g.1, g.2.1) vwCl (wC g (sF (sF (sF (sF (sF σ 12 ((finL (σ.2.1 0) 8 n s0).1)) 13 (pkL (finL (σ.2.1 0) 8 n s0).2.1)) 14 ((finL (σ.2.1 0) 8 n s0).2.1.length)) 15 ((finL (σ.2.1 0) 8 n s0).2.2.1)) 16 ((finL (σ.2.1 0) 8 n s0).2.2.2)) ++ tl) H := hP
  have hD : va_D A (wC g (sF (sF (sF (sF (sF σ 12 ((finL (σ.2.1 0) 8 n s0).1)) 13 (pkL (finL (σ.2.1 0) 8 n s0).2.1)) 14 ((finL (σ.2.1 0) 8 n s0).2.1.length)) 15 ((finL (σ.2.1 0) 8 n s0).2.2.1)) 16 ((finL (σ.2.1 0) 8 n s0).2.2.2)) ++ tl) := hD
  refine lv_aload_n hx hb dX8_countFrom_38 rfl (lv_at hl 4 rfl) ?_
  refine lv_aload_n hx hb dX8_countFrom_39 rfl (lv_at hl 5 rfl) ?_
  refine vp_callSi (va_Run.run (va_runV (As := [.ref (g.2.2.2 1)]) (rest := []) ⟨hx, hb, hml, hown, hts⟩ (c_X8_accepted l g tl (sF (sF (sF (sF (sF σ 12 ((finL (σ.2.1 0) 8 n s0).1)) 13 (pkL (finL (σ.2.1 0) 8 n s0).2.1)) 14 ((finL (σ.2.1 0) 8 n s0).2.1.length)) 15 ((finL (σ.2.1 0) 8 n s0).2.2.1)) 16 ((finL (σ.2.1 0) 8 n s0).2.2.2)) hA (show (finL (σ.2.1 0) 8 n s0).2.1.length < 4294967296 by have := okF.2.1; omega)) (cwV 1 hts gX8_countFrom_X8_accepted rfl rfl rfl (by decide +kernel) ⟨Nat.le_of_ble_eq_true rfl, Nat.le_of_ble_eq_true rfl⟩) (okPV hK hP rfl (gC35 g (sF (sF (sF (sF (sF σ 12 ((finL (σ.2.1 0) 8 n s0).1)) 13 (pkL (finL (σ.2.1 0) 8 n s0).2.1)) 14 ((finL (σ.2.1 0) 8 n s0).2.1.length)) 15 ((finL (σ.2.1 0) 8 n s0).2.2.1)) 16 ((finL (σ.2.1 0) 8 n s0).2.2.2)) tl)) rfl rfl hl.1 rfl (lv_room (Nat.le_of_ble_eq_true rfl)) dX8_countFrom_40 ⟨Nat.le_of_ble_eq_true rfl, Nat.le_of_ble_eq_true rfl⟩)) (fun r_40 h_40 => ?_)
  have h_40 : r_40 = (nI (if ((finL (σ.2.1 0) 8 n s0).2.1.length) = 0 ∧ ((finL (σ.2.1 0) 8 n s0).1) &&& σ.1 0 ≠ 0 then 1 else 0)) := h_40
  subst h_40
  have jp51 : ∀ v51 : Nat, v51 = (if (finL (σ.2.1 0) 8 n s0).2.1.length = 0 ∧ (finL (σ.2.1 0) 8 n s0).1 &&& (σ.1 0) ≠ 0 then 1 else 0) → W p l e r_c_X8_countFrom_d7 s m ([.ref (g.2.2.2 35), .ref (g.2.2.2 1), .int (nI 7), .int (nI n)] : List Value).toArray below meth c H locs 0 0 Q (F0 m 51 ls [.long (lN v51)]) := by
    intro v51 ev51
    refine lv_lstore (lv' := [(7, .long (lN v51)), (6, .int (nI (σ.1 14))), (5, .int (nI (σ.1 13))), (4, .int (nI (σ.1 12))), (0, .ref (g.2.2.2 35)), (1, .ref (g.2.2.2 1)), (2, .int (nI 7)), (3, .int (nI n))]) hx hb dX8_countFrom_51 hl (by decide) rfl (fun ls hl => ?_)
    refine lv_goto (tgt := 110) hx hb dX8_countFrom_53 (by decide) ?_
    refine lv_lload hx hb dX8_countFrom_110 (lv_at hl 0 rfl) ?_
    exact hq _ _ _ _ ((lN v51)) (((finL (σ.2.1 0) 8 n s0).1), (pkL (finL (σ.2.1 0) 8 n s0).2.1), ((finL (σ.2.1 0) 8 n s0).2.1.length), ((finL (σ.2.1 0) 8 n s0).2.2.1), ((finL (σ.2.1 0) 8 n s0).2.2.2)) dX8_countFrom_112 (by first | exact ⟨by rw [ev51, show n - 7 = 0 by omega, cO, ← fin_pr], okF.2.2.2⟩ | exact ⟨by rw [h3, show lt = 3 by omega, show n - 7 = (n - 8) + 1 by omega]; rfl, hp2⟩) hP hD hS
  refine jn_beq hx hb (tgt := 50) dX8_countFrom_43 (by decide) (fun c_43 => ?_) (fun c_43 => ?_)
  · refine lv_lconst (v := lN 0) hx hb dX8_countFrom_50 (by decide) ?_
    exact jp51 0 (by rw [if_neg c_43])
  · refine lv_lconst (v := lN 1) hx hb dX8_countFrom_46 (by decide) ?_
    refine lv_goto (tgt := 51) hx hb dX8_countFrom_47 (by decide) ?_
    exact jp51 1 (by rw [if_pos c_43])

abbrev r_c_X8_countFrom_d6 : Room := { frames := 5, cells := 0, slots := 0, locals := 120 }
set_option maxHeartbeats 4000000 in
set_option maxRecDepth 100000 in
theorem c_X8_countFrom_d6 (l : Launch) (g : GC) (tl : va_W) (sz : Nat) (σ : SS) (n : Nat) (s0 : OW) (hA : OkA σ) (hW : OwIs σ s0) (ho : OkW s0 6) (hn : n ≤ 7) (hd : 6 ≤ n) : Met l yX8_countFrom wsX8_countFrom r_c_X8_countFrom_d6 (va_Pc [.ref (g.2.2.2 35), .ref (g.2.2.2 1), .int (nI 6), .int (nI n)] (PW g (wC g σ ++ tl) sz)) (va_Ql (fun (r : Int64) (z : Nat × Nat × Nat × Nat × Nat) => match z with | (m2, r2, k2, j2, p2) => (r = lN (cO (σ.2.1 0) (σ.1 0) n (n - 6) (pr2 s0))) ∧ (p2 < 2)) (fun (z : Nat × Nat × Nat × Nat × Nat) t => BW g (va_A (wC g σ ++ tl) sz) ((fun z : Nat × Nat × Nat × Nat × Nat => match z with | (m2, r2, k2, j2, p2) => wC g (sF (sF (sF (sF (sF σ 12 m2) 13 r2) 14 k2) 15 j2) 16 p2) ++ tl) z) t) (va_A (wC g σ ++ tl) sz)) 0 0 (va_A (wC g σ ++ tl) sz) := by
  refine jn_sl (wf := fun z : Nat × Nat × Nat × Nat × Nat => match z with | (m2, r2, k2, j2, p2) => wC g (sF (sF (sF (sF (sF σ 12 m2) 13 r2) 14 k2) 15 j2) 16 p2) ++ tl) (cc := cX8_countFrom) (maxL := 10) (own := RX8) (by decide) rfl rfl (Nat.le_of_ble_eq_true rfl) ?_
  intro p e s m below meth c Q A hx hb hml hown hts hK hP hD hS hAA hq ls hl
  obtain ⟨H, eH⟩ : ∃ z, z = s.heap := ⟨_, rfl⟩
  obtain ⟨locs, el⟩ : ∃ z : List Loc, z = [] := ⟨_, rfl⟩
  rw [← eH] at hP
  have hS : va_S A s.heap H locs := by rw [eH, el]; exact hS
  have goal0 : W p l e r_c_X8_countFrom_d6 s m ([.ref (g.2.2.2 35), .ref (g.2.2.2 1), .int (nI 6), .int (nI n)] : List Value).toArray below meth c H locs 0 0 Q (F0 m 0 ls []) → W p l e r_c_X8_countFrom_d6 s m ([.ref (g.2.2.2 35), .ref (g.2.2.2 1), .int (nI 6), .int (nI n)] : List Value).toArray below meth c s.heap [] 0 0 Q (F0 m 0 ls []) := fun h => by rw [eH, el] at h; exact h
  refine goal0 ?_
  have hl : lv_has ls 10 [(0, .ref (g.2.2.2 35)), (1, .ref (g.2.2.2 1)), (2, .int (nI 6)), (3, .int (nI n))] := hl
  have iX8 : ∀ w ∈ wsX80, w ∈ wsX8_countFrom := by decide +kernel
  have k9 := hts (.fieldLink RX8 9 "JumpingAutomata$OneWayReader" "state" "I") (by decide +kernel)
  have k15 := hts (.fieldLink RX8 15 "JumpingAutomata$OneWayReader" "rest" "I") (by decide +kernel)
  have k18 := hts (.fieldLink RX8 18 "JumpingAutomata$OneWayReader" "restSize" "I") (by decide +kernel)
  have ho8 := ho.2.1
  have okF := okw_fin hA.1 8 n s0 8 ⟨ho.1, by omega, ho.2.2⟩
  refine lv_aload_n hx hb dX8_countFrom_0 rfl (lv_at hl 0 rfl) ?_
  refine va_get (D := (g.1, g.2.1)) (ci := 10) (v := .int (nI (σ.1 12))) (C := RX8) (T := TX8) (N := 5) hx hb hts iX8 hown hK.1 hP 35 (gC35 g σ tl) rfl 0 (by decide) k9 (fun _ h9 => h9) rfl dX8_countFrom_1 ?_
  refine lv_istore (lv' := [(4, .int (nI (σ.1 12))), (0, .ref (g.2.2.2 35)), (1, .ref (g.2.2.2 1)), (2, .int (nI 6)), (3, .int (nI n))]) hx hb dX8_countFrom_4 hl (by decide) rfl (fun ls hl => ?_)
  refine lv_aload_n hx hb dX8_countFrom_6 rfl (lv_at hl 1 rfl) ?_
  refine va_get (D := (g.1, g.2.1)) (ci := 10) (v := .int (nI (σ.1 13))) (C := RX8) (T := TX8) (N := 5) hx hb hts iX8 hown hK.1 hP 35 (gC35 g σ tl) rfl 1 (by decide) k15 (fun _ h9 => h9) rfl dX8_countFrom_7 ?_
  refine lv_istore (lv' := [(5, .int (nI (σ.1 13))), (4, .int (nI (σ.1 12))), (0, .ref (g.2.2.2 35)), (1, .ref (g.2.2.2 1)), (2, .int (nI 6)), (3, .int (nI n))]) hx hb dX8_countFrom_10 hl (by decide) rfl (fun ls hl => ?_)
  refine lv_aload_n hx hb dX8_countFrom_12 rfl (lv_at hl 2 rfl) ?_
  refine va_get (D := (g.1, g.2.1)) (ci := 10) (v := .int (nI (σ.1 14))) (C := RX8) (T := TX8) (N := 5) hx hb hts iX8 hown hK.1 hP 35 (gC35 g σ tl) rfl 2 (by decide) k18 (fun _ h9 => h9) rfl dX8_countFrom_13 ?_
  refine lv_istore (lv' := [(6, .int (nI (σ.1 14))), (5, .int (nI (σ.1 13))), (4, .int (nI (σ.1 12))), (0, .ref (g.2.2.2 35)), (1, .ref (g.2.2.2 1)), (2, .int (nI 6)), (3, .int (nI n))]) hx hb dX8_countFrom_16 hl (by decide) rfl (fun ls hl => ?_)
  refine lv_lconst (v := lN 0) hx hb dX8_countFrom_18 (by decide) ?_
  refine lv_lstore (lv' := [(7, .long (lN 0)), (6, .int (nI (σ.1 14))), (5, .int (nI (σ.1 13))), (4, .int (nI (σ.1 12))), (0, .ref (g.2.2.2 35)), (1, .ref (g.2.2.2 1)), (2, .int (nI 6)), (3, .int (nI n))]) hx hb dX8_countFrom_19 hl (by decide) rfl (fun ls hl => ?_)
  refine lv_iload_n hx hb dX8_countFrom_21 rfl (lv_at hl 6 rfl) ?_
  refine lv_iload_n hx hb dX8_countFrom_22 rfl (lv_at hl 7 rfl) ?_
  refine jn_cge hx hb (by decide) (by omega) (tgt := 32) dX8_countFrom_23 (by decide) (fun c_23 => ?_) (fun c_23 => ?_)
  · refine lv_aload_n hx hb dX8_countFrom_32 rfl (lv_at hl 4 rfl) ?_
    refine lv_aload_n hx hb dX8_countFrom_33 rfl (lv_at hl 5 rfl) ?_
    refine lv_iload_n hx hb dX8_countFrom_34 rfl (lv_at hl 7 rfl) ?_
    refine jn_callv (va_runV (As := [.ref (g.2.2.2 1), .int (nI n)]) (rest := []) ⟨hx, hb, hml, hown, hts⟩ (c_X8_finish l g tl H.size σ n s0 hA hW ⟨ho.1, by omega, ho.2.2⟩ (by omega)) (cwV 2 hts gX8_countFrom_X8_finish rfl rfl rfl (by decide +kernel) ⟨Nat.le_of_ble_eq_true rfl, Nat.le_of_ble_eq_true rfl⟩) (okWV hK hP hD rfl (gC35 g σ tl)) rfl rfl hl.1 rfl (lv_room (Nat.le_of_ble_eq_true rfl)) dX8_countFrom_35 ⟨Nat.le_of_ble_eq_true rfl, Nat.le_of_ble_eq_true rfl⟩) hD hS hAA (fun u H locs hw_ hP hD hS => ?_)
    have hP : va_P (g.1, g.2.1) vwCl (wC g (sF (sF (sF (sF (sF σ 12 ((finL (σ.2.1 0) 8 n s0).1)) 13 (pkL (finL (σ.2.1 0) 8 n s0).2.1)) 14 ((finL (σ.2.1 0) 8 n s0).2.1.length)) 15 ((finL (σ.2.1 0) 8 n s0).2.2.1)) 16 ((finL (σ.2.1 0) 8 n s0).2.2.2)) ++ tl) H := hP
    have hD : va_D A (wC g (sF (sF (sF (sF (sF σ 12 ((finL (σ.2.1 0) 8 n s0).1)) 13 (pkL (finL (σ.2.1 0) 8 n s0).2.1)) 14 ((finL (σ.2.1 0) 8 n s0).2.1.length)) 15 ((finL (σ.2.1 0) 8 n s0).2.2.1)) 16 ((finL (σ.2.1 0) 8 n s0).2.2.2)) ++ tl) := hD
    refine lv_aload_n hx hb dX8_countFrom_38 rfl (lv_at hl 4 rfl) ?_
    refine lv_aload_n hx hb dX8_countFrom_39 rfl (lv_at hl 5 rfl) ?_
    refine vp_callSi (va_Run.run (va_runV (As := [.ref (g.2.2.2 1)]) (rest := []) ⟨hx, hb, hml, hown, hts⟩ (c_X8_accepted l g tl (sF (sF (sF (sF (sF σ 12 ((finL (σ.2.1 0) 8 n s0).1)) 13 (pkL (finL (σ.2.1 0) 8 n s0).2.1)) 14 ((finL (σ.2.1 0) 8 n s0).2.1.length)) 15 ((finL (σ.2.1 0) 8 n s0).2.2.1)) 16 ((finL (σ.2.1 0) 8 n s0).2.2.2)) hA (show (finL (σ.2.1 0) 8 n s0).2.1.length < 4294967296 by have := okF.2.1; omega)) (cwV 1 hts gX8_countFrom_X8_accepted rfl rfl rfl (by decide +kernel) ⟨Nat.le_of_ble_eq_true rfl, Nat.le_of_ble_eq_true rfl⟩) (okPV hK hP rfl (gC35 g (sF (sF (sF (sF (sF σ 12 ((finL (σ.2.1 0) 8 n s0).1)) 13 (pkL (finL (σ.2.1 0) 8 n s0).2.1)) 14 ((finL (σ.2.1 0) 8 n s0).2.1.length)) 15 ((finL (σ.2.1 0) 8 n s0).2.2.1)) 16 ((finL (σ.2.1 0) 8 n s0).2.2.2)) tl)) rfl rfl hl.1 rfl (lv_room (Nat.le_of_ble_eq_true rfl)) dX8_countFrom_40 ⟨Nat.le_of_ble_eq_true rfl, Nat.le_of_ble_eq_true rfl⟩)) (fun r_40 h_40 => ?_)
    have h_40 : r_40 = (nI (if ((finL (σ.2.1 0) 8 n s0).2.1.length) = 0 ∧ ((finL (σ.2.1 0) 8 n s0).1) &&& σ.1 0 ≠ 0 then 1 else 0)) := h_40
    subst h_40
    have jp51 : ∀ v51 : Nat, v51 = (if (finL (σ.2.1 0) 8 n s0).2.1.length = 0 ∧ (finL (σ.2.1 0) 8 n s0).1 &&& (σ.1 0) ≠ 0 then 1 else 0) → W p l e r_c_X8_countFrom_d6 s m ([.ref (g.2.2.2 35), .ref (g.2.2.2 1), .int (nI 6), .int (nI n)] : List Value).toArray below meth c H locs 0 0 Q (F0 m 51 ls [.long (lN v51)]) := by
      intro v51 ev51
      refine lv_lstore (lv' := [(7, .long (lN v51)), (6, .int (nI (σ.1 14))), (5, .int (nI (σ.1 13))), (4, .int (nI (σ.1 12))), (0, .ref (g.2.2.2 35)), (1, .ref (g.2.2.2 1)), (2, .int (nI 6)), (3, .int (nI n))]) hx hb dX8_countFrom_51 hl (by decide) rfl (fun ls hl => ?_)
      refine lv_goto (tgt := 110) hx hb dX8_countFrom_53 (by decide) ?_
      refine lv_lload hx hb dX8_countFrom_110 (lv_at hl 0 rfl) ?_
      exact hq _ _ _ _ ((lN v51)) (((finL (σ.2.1 0) 8 n s0).1), (pkL (finL (σ.2.1 0) 8 n s0).2.1), ((finL (σ.2.1 0) 8 n s0).2.1.length), ((finL (σ.2.1 0) 8 n s0).2.2.1), ((finL (σ.2.1 0) 8 n s0).2.2.2)) dX8_countFrom_112 (by first | exact ⟨by rw [ev51, show n - 6 = 0 by omega, cO, ← fin_pr], okF.2.2.2⟩ | exact ⟨by rw [h3, show lt = 3 by omega, show n - 6 = (n - 7) + 1 by omega]; rfl, hp2⟩) hP hD hS
    refine jn_beq hx hb (tgt := 50) dX8_countFrom_43 (by decide) (fun c_43 => ?_) (fun c_43 => ?_)
    · refine lv_lconst (v := lN 0) hx hb dX8_countFrom_50 (by decide) ?_
      exact jp51 0 (by rw [if_neg c_43])
    · refine lv_lconst (v := lN 1) hx hb dX8_countFrom_46 (by decide) ?_
      refine lv_goto (tgt := 51) hx hb dX8_countFrom_47 (by decide) ?_
      exact jp51 1 (by rw [if_pos c_43])
  · refine lv_iload_n hx hb dX8_countFrom_26 rfl (lv_at hl 6 rfl) ?_
    refine lv_bipush (v := nI 8) hx hb dX8_countFrom_27 (by decide) ?_
    refine jn_clt hx hb (by decide) (by decide) (tgt := 56) dX8_countFrom_29 (by decide) (fun c_29 => ?_) (fun c_29 => absurd c_29 (by decide))
    refine lv_iconst (v := nI 0) hx hb dX8_countFrom_56 (by decide) ?_
    refine lv_istore (lv' := [(9, .int (nI 0)), (7, .long (lN 0)), (6, .int (nI (σ.1 14))), (5, .int (nI (σ.1 13))), (4, .int (nI (σ.1 12))), (0, .ref (g.2.2.2 35)), (1, .ref (g.2.2.2 1)), (2, .int (nI 6)), (3, .int (nI n))]) hx hb dX8_countFrom_57 hl (by decide) rfl (fun ls hl => ?_)
    have lp59 : ∀ (fu : Nat), ∀ (lt : Nat) (cn : Nat) (j1 : Nat) (p1 : Nat), (lt ≤ 3) → (cn = fb_sm (fun x => cO (σ.2.1 0) (σ.1 0) n (n - 7) (mM (σ.2.1 0) (pr2 s0) x)) lt) → (p1 < 2) → 3 - lt < fu → ∀ (H : Heap) (locs : List Loc), va_P (g.1, g.2.1) vwCl (wC g (sF (sF σ 15 j1) 16 p1) ++ tl) H → va_D A (wC g (sF (sF σ 15 j1) 16 p1) ++ tl) → va_S A s.heap H locs → ∀ ls : Array Slot, lv_has ls 10 [(0, .ref (g.2.2.2 35)), (1, .ref (g.2.2.2 1)), (2, .int (nI 6)), (3, .int (nI n)), (4, .int (nI (σ.1 12))), (5, .int (nI (σ.1 13))), (6, .int (nI (σ.1 14))), (7, .long (lN cn)), (9, .int (nI lt))] → W p l e r_c_X8_countFrom_d6 s m ([.ref (g.2.2.2 35), .ref (g.2.2.2 1), .int (nI 6), .int (nI n)] : List Value).toArray below meth c H locs 0 0 Q (F0 m 59 ls []) := by
      intro fu
      induction fu with
      | zero => intro lt cn j1 p1 h2 h3 hp2 hf; exact absurd hf (Nat.not_lt_zero _)
      | succ fu ih59 =>
        intro lt cn j1 p1 h2 h3 hp2 hf H locs hP hD hS ls hl
        refine lv_iload hx hb dX8_countFrom_59 (lv_at hl 8 rfl) ?_
        refine lv_iconst (v := nI 3) hx hb dX8_countFrom_61 (by decide) ?_
        refine jn_cge hx hb (by omega) (by decide) (tgt := 110) dX8_countFrom_62 (by decide) (fun c_62 => ?_) (fun c_62 => ?_)
        · refine lv_lload hx hb dX8_countFrom_110 (lv_at hl 7 rfl) ?_
          exact hq _ _ _ _ ((lN cn)) ((σ.1 12), (σ.1 13), (σ.1 14), j1, p1) dX8_countFrom_112 (by first | exact ⟨by rw [ev51, show n - 6 = 0 by omega, cO, ← fin_pr], okF.2.2.2⟩ | exact ⟨by rw [h3, show lt = 3 by omega, show n - 6 = (n - 7) + 1 by omega]; rfl, hp2⟩) hP hD hS
        · refine lv_aload_n hx hb dX8_countFrom_65 rfl (lv_at hl 0 rfl) ?_
          refine lv_aload_n hx hb dX8_countFrom_66 rfl (lv_at hl 1 rfl) ?_
          refine lv_iload hx hb dX8_countFrom_67 (lv_at hl 8 rfl) ?_
          refine jn_callv (va_runV (As := [.ref (g.2.2.2 1), .int (nI lt)]) (rest := []) ⟨hx, hb, hml, hown, hts⟩ (c_X8_meet l g tl H.size (sF (sF σ 15 j1) 16 p1) lt ((s0.1, s0.2.1, j1, p1)) hA ⟨hW.1, hW.2.1, hW.2.2.1, rfl, rfl⟩ ⟨ho.1, by show s0.2.1.length ≤ 7; omega, ho.2.2.1, hp2⟩ (by omega)) (cwV 2 hts gX8_countFrom_X8_meet rfl rfl rfl (by decide +kernel) ⟨Nat.le_of_ble_eq_true rfl, Nat.le_of_ble_eq_true rfl⟩) (okWV hK hP hD rfl (gC35 g (sF (sF σ 15 j1) 16 p1) tl)) rfl rfl hl.1 rfl (lv_room (Nat.le_of_ble_eq_true rfl)) dX8_countFrom_69 ⟨Nat.le_of_ble_eq_true rfl, Nat.le_of_ble_eq_true rfl⟩) hD hS hAA (fun u H locs hw_ hP hD hS => ?_)
          have hP : va_P (g.1, g.2.1) vwCl (wC g (sF (sF (sF (sF (sF (sF (sF σ 15 j1) 16 p1) 12 ((meetL (σ.2.1 0) ((s0.1, s0.2.1, j1, p1)) lt).1)) 13 (pkL (meetL (σ.2.1 0) ((s0.1, s0.2.1, j1, p1)) lt).2.1)) 14 ((meetL (σ.2.1 0) ((s0.1, s0.2.1, j1, p1)) lt).2.1.length)) 15 ((meetL (σ.2.1 0) ((s0.1, s0.2.1, j1, p1)) lt).2.2.1)) 16 ((meetL (σ.2.1 0) ((s0.1, s0.2.1, j1, p1)) lt).2.2.2)) ++ tl) H := hP
          have hD : va_D A (wC g (sF (sF (sF (sF (sF (sF (sF σ 15 j1) 16 p1) 12 ((meetL (σ.2.1 0) ((s0.1, s0.2.1, j1, p1)) lt).1)) 13 (pkL (meetL (σ.2.1 0) ((s0.1, s0.2.1, j1, p1)) lt).2.1)) 14 ((meetL (σ.2.1 0) ((s0.1, s0.2.1, j1, p1)) lt).2.1.length)) 15 ((meetL (σ.2.1 0) ((s0.1, s0.2.1, j1, p1)) lt).2.2.1)) 16 ((meetL (σ.2.1 0) ((s0.1, s0.2.1, j1, p1)) lt).2.2.2)) ++ tl) := hD
          refine lv_lload hx hb dX8_countFrom_72 (lv_at hl 7 rfl) ?_
          refine lv_aload_n hx hb dX8_countFrom_74 rfl (lv_at hl 0 rfl) ?_
          refine lv_aload_n hx hb dX8_countFrom_75 rfl (lv_at hl 1 rfl) ?_
          refine lv_iload_n hx hb dX8_countFrom_76 rfl (lv_at hl 2 rfl) ?_
          refine lv_iconst (v := nI 1) hx hb dX8_countFrom_77 (by decide) ?_
          refine jn_iadd hx hb dX8_countFrom_78 ?_
          refine lv_iload_n hx hb dX8_countFrom_79 rfl (lv_at hl 3 rfl) ?_
          refine jn_calll (va_runV (As := [.ref (g.2.2.2 1), .int (nI (6 + 1)), .int (nI n)]) (rest := [.long (lN cn)]) ⟨hx, hb, hml, hown, hts⟩ (c_X8_countFrom_d7 l g tl H.size (sF (sF (sF (sF (sF (sF (sF σ 15 j1) 16 p1) 12 ((meetL (σ.2.1 0) ((s0.1, s0.2.1, j1, p1)) lt).1)) 13 (pkL (meetL (σ.2.1 0) ((s0.1, s0.2.1, j1, p1)) lt).2.1)) 14 ((meetL (σ.2.1 0) ((s0.1, s0.2.1, j1, p1)) lt).2.1.length)) 15 ((meetL (σ.2.1 0) ((s0.1, s0.2.1, j1, p1)) lt).2.2.1)) 16 ((meetL (σ.2.1 0) ((s0.1, s0.2.1, j1, p1)) lt).2.2.2)) n (meetL (σ.2.1 0) (s0.1, s0.2.1, j1, p1) lt) hA ⟨rfl, rfl, rfl, rfl, rfl⟩ (okw_meet hA.1 (s := (s0.1, s0.2.1, j1, p1)) (n := 6) ⟨ho.1, ho.2.1, ho.2.2.1, hp2⟩ (by omega)) hn (by omega)) (cwV 3 hts gX8_countFrom_X8_countFrom rfl rfl rfl (by decide +kernel) ⟨Nat.le_of_ble_eq_true rfl, Nat.le_of_ble_eq_true rfl⟩) (okWV hK hP hD rfl (gC35 g (sF (sF (sF (sF (sF (sF (sF σ 15 j1) 16 p1) 12 ((meetL (σ.2.1 0) ((s0.1, s0.2.1, j1, p1)) lt).1)) 13 (pkL (meetL (σ.2.1 0) ((s0.1, s0.2.1, j1, p1)) lt).2.1)) 14 ((meetL (σ.2.1 0) ((s0.1, s0.2.1, j1, p1)) lt).2.1.length)) 15 ((meetL (σ.2.1 0) ((s0.1, s0.2.1, j1, p1)) lt).2.2.1)) 16 ((meetL (σ.2.1 0) ((s0.1, s0.2.1, j1, p1)) lt).2.2.2)) tl)) rfl rfl hl.1 rfl (lv_room (Nat.le_of_ble_eq_true rfl)) dX8_countFrom_80 ⟨Nat.le_of_ble_eq_true rfl, Nat.le_of_ble_eq_true rfl⟩) hD hS hAA (fun r_80 u H locs hw_ hP hD hS => ?_)
          obtain ⟨m2_80, r2_80, k2_80, j2_80, p2_80⟩ := u
          obtain ⟨rfl, h_80⟩ := hw_
          have h_80 : p2_80 < 2 := h_80
          have hP : va_P (g.1, g.2.1) vwCl (wC g (sF (sF (sF (sF (sF (sF (sF (sF (sF (sF (sF (sF σ 15 j1) 16 p1) 12 ((meetL (σ.2.1 0) ((s0.1, s0.2.1, j1, p1)) lt).1)) 13 (pkL (meetL (σ.2.1 0) ((s0.1, s0.2.1, j1, p1)) lt).2.1)) 14 ((meetL (σ.2.1 0) ((s0.1, s0.2.1, j1, p1)) lt).2.1.length)) 15 ((meetL (σ.2.1 0) ((s0.1, s0.2.1, j1, p1)) lt).2.2.1)) 16 ((meetL (σ.2.1 0) ((s0.1, s0.2.1, j1, p1)) lt).2.2.2)) 12 m2_80) 13 r2_80) 14 k2_80) 15 j2_80) 16 p2_80) ++ tl) H := hP
          have hD : va_D A (wC g (sF (sF (sF (sF (sF (sF (sF (sF (sF (sF (sF (sF σ 15 j1) 16 p1) 12 ((meetL (σ.2.1 0) ((s0.1, s0.2.1, j1, p1)) lt).1)) 13 (pkL (meetL (σ.2.1 0) ((s0.1, s0.2.1, j1, p1)) lt).2.1)) 14 ((meetL (σ.2.1 0) ((s0.1, s0.2.1, j1, p1)) lt).2.1.length)) 15 ((meetL (σ.2.1 0) ((s0.1, s0.2.1, j1, p1)) lt).2.2.1)) 16 ((meetL (σ.2.1 0) ((s0.1, s0.2.1, j1, p1)) lt).2.2.2)) 12 m2_80) 13 r2_80) 14 k2_80) 15 j2_80) 16 p2_80) ++ tl) := hD
          refine jn_ladd hx hb dX8_countFrom_83 ?_
          refine lv_lstore (lv' := [(7, .long (lN (cn + (cO (σ.2.1 0) (σ.1 0) n (n - 7) (pr2 (meetL (σ.2.1 0) (s0.1, s0.2.1, j1, p1) lt)))))), (0, .ref (g.2.2.2 35)), (1, .ref (g.2.2.2 1)), (2, .int (nI 6)), (3, .int (nI n)), (4, .int (nI (σ.1 12))), (5, .int (nI (σ.1 13))), (6, .int (nI (σ.1 14))), (9, .int (nI lt))]) hx hb dX8_countFrom_84 hl (by decide) rfl (fun ls hl => ?_)
          refine lv_aload_n hx hb dX8_countFrom_86 rfl (lv_at hl 1 rfl) ?_
          refine lv_iload hx hb dX8_countFrom_87 (lv_at hl 5 rfl) ?_
          refine jn_put (D := (g.1, g.2.1)) (ci := 10) (v := .int (nI (σ.1 12))) (ty := .int) (C := RX8) (T := TX8) (N := 5) hx hb hts iX8 tyX8 tyX8_ok nmX8 hown hK.1 hP hD hS 35 (gC35 g (sF (sF (sF (sF (sF (sF (sF (sF (sF (sF (sF (sF σ 15 j1) 16 p1) 12 ((meetL (σ.2.1 0) ((s0.1, s0.2.1, j1, p1)) lt).1)) 13 (pkL (meetL (σ.2.1 0) ((s0.1, s0.2.1, j1, p1)) lt).2.1)) 14 ((meetL (σ.2.1 0) ((s0.1, s0.2.1, j1, p1)) lt).2.1.length)) 15 ((meetL (σ.2.1 0) ((s0.1, s0.2.1, j1, p1)) lt).2.2.1)) 16 ((meetL (σ.2.1 0) ((s0.1, s0.2.1, j1, p1)) lt).2.2.2)) 12 m2_80) 13 r2_80) 14 k2_80) 15 j2_80) 16 p2_80) tl) rfl 0 (by decide) k9 (fun _ h9 => h9) rfl (by decide +kernel) rfl rfl (Nat.le_of_ble_eq_true rfl) (uC_F12 g (sF (sF (sF (sF (sF (sF (sF (sF (sF (sF (sF (sF σ 15 j1) 16 p1) 12 ((meetL (σ.2.1 0) ((s0.1, s0.2.1, j1, p1)) lt).1)) 13 (pkL (meetL (σ.2.1 0) ((s0.1, s0.2.1, j1, p1)) lt).2.1)) 14 ((meetL (σ.2.1 0) ((s0.1, s0.2.1, j1, p1)) lt).2.1.length)) 15 ((meetL (σ.2.1 0) ((s0.1, s0.2.1, j1, p1)) lt).2.2.1)) 16 ((meetL (σ.2.1 0) ((s0.1, s0.2.1, j1, p1)) lt).2.2.2)) 12 m2_80) 13 r2_80) 14 k2_80) 15 j2_80) 16 p2_80) tl (σ.1 12)) dX8_countFrom_89 (fun H locs hP hD hS => ?_)
          refine lv_aload_n hx hb dX8_countFrom_92 rfl (lv_at hl 1 rfl) ?_
          refine lv_iload hx hb dX8_countFrom_93 (lv_at hl 6 rfl) ?_
          refine jn_put (D := (g.1, g.2.1)) (ci := 10) (v := .int (nI (σ.1 13))) (ty := .int) (C := RX8) (T := TX8) (N := 5) hx hb hts iX8 tyX8 tyX8_ok nmX8 hown hK.1 hP hD hS 35 (gC35 g (sF (sF (sF (sF (sF (sF (sF (sF (sF (sF (sF (sF (sF σ 15 j1) 16 p1) 12 ((meetL (σ.2.1 0) ((s0.1, s0.2.1, j1, p1)) lt).1)) 13 (pkL (meetL (σ.2.1 0) ((s0.1, s0.2.1, j1, p1)) lt).2.1)) 14 ((meetL (σ.2.1 0) ((s0.1, s0.2.1, j1, p1)) lt).2.1.length)) 15 ((meetL (σ.2.1 0) ((s0.1, s0.2.1, j1, p1)) lt).2.2.1)) 16 ((meetL (σ.2.1 0) ((s0.1, s0.2.1, j1, p1)) lt).2.2.2)) 12 m2_80) 13 r2_80) 14 k2_80) 15 j2_80) 16 p2_80) 12 (σ.1 12)) tl) rfl 1 (by decide) k15 (fun _ h9 => h9) rfl (by decide +kernel) rfl rfl (Nat.le_of_ble_eq_true rfl) (uC_F13 g (sF (sF (sF (sF (sF (sF (sF (sF (sF (sF (sF (sF (sF σ 15 j1) 16 p1) 12 ((meetL (σ.2.1 0) ((s0.1, s0.2.1, j1, p1)) lt).1)) 13 (pkL (meetL (σ.2.1 0) ((s0.1, s0.2.1, j1, p1)) lt).2.1)) 14 ((meetL (σ.2.1 0) ((s0.1, s0.2.1, j1, p1)) lt).2.1.length)) 15 ((meetL (σ.2.1 0) ((s0.1, s0.2.1, j1, p1)) lt).2.2.1)) 16 ((meetL (σ.2.1 0) ((s0.1, s0.2.1, j1, p1)) lt).2.2.2)) 12 m2_80) 13 r2_80) 14 k2_80) 15 j2_80) 16 p2_80) 12 (σ.1 12)) tl (σ.1 13)) dX8_countFrom_95 (fun H locs hP hD hS => ?_)
          refine lv_aload_n hx hb dX8_countFrom_98 rfl (lv_at hl 1 rfl) ?_
          refine lv_iload hx hb dX8_countFrom_99 (lv_at hl 7 rfl) ?_
          refine jn_put (D := (g.1, g.2.1)) (ci := 10) (v := .int (nI (σ.1 14))) (ty := .int) (C := RX8) (T := TX8) (N := 5) hx hb hts iX8 tyX8 tyX8_ok nmX8 hown hK.1 hP hD hS 35 (gC35 g (sF (sF (sF (sF (sF (sF (sF (sF (sF (sF (sF (sF (sF (sF σ 15 j1) 16 p1) 12 ((meetL (σ.2.1 0) ((s0.1, s0.2.1, j1, p1)) lt).1)) 13 (pkL (meetL (σ.2.1 0) ((s0.1, s0.2.1, j1, p1)) lt).2.1)) 14 ((meetL (σ.2.1 0) ((s0.1, s0.2.1, j1, p1)) lt).2.1.length)) 15 ((meetL (σ.2.1 0) ((s0.1, s0.2.1, j1, p1)) lt).2.2.1)) 16 ((meetL (σ.2.1 0) ((s0.1, s0.2.1, j1, p1)) lt).2.2.2)) 12 m2_80) 13 r2_80) 14 k2_80) 15 j2_80) 16 p2_80) 12 (σ.1 12)) 13 (σ.1 13)) tl) rfl 2 (by decide) k18 (fun _ h9 => h9) rfl (by decide +kernel) rfl rfl (Nat.le_of_ble_eq_true rfl) (uC_F14 g (sF (sF (sF (sF (sF (sF (sF (sF (sF (sF (sF (sF (sF (sF σ 15 j1) 16 p1) 12 ((meetL (σ.2.1 0) ((s0.1, s0.2.1, j1, p1)) lt).1)) 13 (pkL (meetL (σ.2.1 0) ((s0.1, s0.2.1, j1, p1)) lt).2.1)) 14 ((meetL (σ.2.1 0) ((s0.1, s0.2.1, j1, p1)) lt).2.1.length)) 15 ((meetL (σ.2.1 0) ((s0.1, s0.2.1, j1, p1)) lt).2.2.1)) 16 ((meetL (σ.2.1 0) ((s0.1, s0.2.1, j1, p1)) lt).2.2.2)) 12 m2_80) 13 r2_80) 14 k2_80) 15 j2_80) 16 p2_80) 12 (σ.1 12)) 13 (σ.1 13)) tl (σ.1 14)) dX8_countFrom_101 (fun H locs hP hD hS => ?_)
          refine lv_iinc (v := nI (lt + 1)) (lv' := [(9, .int (nI (lt + 1))), (7, .long (lN (cn + (cO (σ.2.1 0) (σ.1 0) n (n - 7) (pr2 (meetL (σ.2.1 0) (s0.1, s0.2.1, j1, p1) lt)))))), (0, .ref (g.2.2.2 35)), (1, .ref (g.2.2.2 1)), (2, .int (nI 6)), (3, .int (nI n)), (4, .int (nI (σ.1 12))), (5, .int (nI (σ.1 13))), (6, .int (nI (σ.1 14)))]) hx hb dX8_countFrom_104 hl (k := 8) rfl (jn_ii _ 1) (by decide) rfl (fun ls hl => ?_)
          refine lv_goto (tgt := 59) hx hb dX8_countFrom_107 (by decide) ?_
          exact ih59 (lt + 1) (cn + (cO (σ.2.1 0) (σ.1 0) n (n - 7) (pr2 (meetL (σ.2.1 0) (s0.1, s0.2.1, j1, p1) lt)))) j2_80 p2_80 (by omega) (by rw [h3, mM_pr]; rfl) h_80 (by omega) _ _ hP hD hS _ (lv_sub hl [2, 3, 4, 5, 6, 7, 8, 1, 0] rfl)
    exact lp59 _ 0 0 (σ.1 15) (σ.1 16) (by decide) rfl (by have := ho.2.2.2; have := hW.2.2.2.2; omega) (Nat.lt_succ_self _) _ _ hP hD hS _ (lv_sub hl [5, 6, 7, 8, 4, 3, 2, 1, 0] rfl)

abbrev r_c_X8_countFrom_d5 : Room := { frames := 6, cells := 0, slots := 0, locals := 149 }
set_option maxHeartbeats 4000000 in
set_option maxRecDepth 100000 in
theorem c_X8_countFrom_d5 (l : Launch) (g : GC) (tl : va_W) (sz : Nat) (σ : SS) (n : Nat) (s0 : OW) (hA : OkA σ) (hW : OwIs σ s0) (ho : OkW s0 5) (hn : n ≤ 7) (hd : 5 ≤ n) : Met l yX8_countFrom wsX8_countFrom r_c_X8_countFrom_d5 (va_Pc [.ref (g.2.2.2 35), .ref (g.2.2.2 1), .int (nI 5), .int (nI n)] (PW g (wC g σ ++ tl) sz)) (va_Ql (fun (r : Int64) (z : Nat × Nat × Nat × Nat × Nat) => match z with | (m2, r2, k2, j2, p2) => (r = lN (cO (σ.2.1 0) (σ.1 0) n (n - 5) (pr2 s0))) ∧ (p2 < 2)) (fun (z : Nat × Nat × Nat × Nat × Nat) t => BW g (va_A (wC g σ ++ tl) sz) ((fun z : Nat × Nat × Nat × Nat × Nat => match z with | (m2, r2, k2, j2, p2) => wC g (sF (sF (sF (sF (sF σ 12 m2) 13 r2) 14 k2) 15 j2) 16 p2) ++ tl) z) t) (va_A (wC g σ ++ tl) sz)) 0 0 (va_A (wC g σ ++ tl) sz) := by
  refine jn_sl (wf := fun z : Nat × Nat × Nat × Nat × Nat => match z with | (m2, r2, k2, j2, p2) => wC g (sF (sF (sF (sF (sF σ 12 m2) 13 r2) 14 k2) 15 j2) 16 p2) ++ tl) (cc := cX8_countFrom) (maxL := 10) (own := RX8) (by decide) rfl rfl (Nat.le_of_ble_eq_true rfl) ?_
  intro p e s m below meth c Q A hx hb hml hown hts hK hP hD hS hAA hq ls hl
  obtain ⟨H, eH⟩ : ∃ z, z = s.heap := ⟨_, rfl⟩
  obtain ⟨locs, el⟩ : ∃ z : List Loc, z = [] := ⟨_, rfl⟩
  rw [← eH] at hP
  have hS : va_S A s.heap H locs := by rw [eH, el]; exact hS
  have goal0 : W p l e r_c_X8_countFrom_d5 s m ([.ref (g.2.2.2 35), .ref (g.2.2.2 1), .int (nI 5), .int (nI n)] : List Value).toArray below meth c H locs 0 0 Q (F0 m 0 ls []) → W p l e r_c_X8_countFrom_d5 s m ([.ref (g.2.2.2 35), .ref (g.2.2.2 1), .int (nI 5), .int (nI n)] : List Value).toArray below meth c s.heap [] 0 0 Q (F0 m 0 ls []) := fun h => by rw [eH, el] at h; exact h
  refine goal0 ?_
  have hl : lv_has ls 10 [(0, .ref (g.2.2.2 35)), (1, .ref (g.2.2.2 1)), (2, .int (nI 5)), (3, .int (nI n))] := hl
  have iX8 : ∀ w ∈ wsX80, w ∈ wsX8_countFrom := by decide +kernel
  have k9 := hts (.fieldLink RX8 9 "JumpingAutomata$OneWayReader" "state" "I") (by decide +kernel)
  have k15 := hts (.fieldLink RX8 15 "JumpingAutomata$OneWayReader" "rest" "I") (by decide +kernel)
  have k18 := hts (.fieldLink RX8 18 "JumpingAutomata$OneWayReader" "restSize" "I") (by decide +kernel)
  have ho8 := ho.2.1
  have okF := okw_fin hA.1 8 n s0 8 ⟨ho.1, by omega, ho.2.2⟩
  refine lv_aload_n hx hb dX8_countFrom_0 rfl (lv_at hl 0 rfl) ?_
  refine va_get (D := (g.1, g.2.1)) (ci := 10) (v := .int (nI (σ.1 12))) (C := RX8) (T := TX8) (N := 5) hx hb hts iX8 hown hK.1 hP 35 (gC35 g σ tl) rfl 0 (by decide) k9 (fun _ h9 => h9) rfl dX8_countFrom_1 ?_
  refine lv_istore (lv' := [(4, .int (nI (σ.1 12))), (0, .ref (g.2.2.2 35)), (1, .ref (g.2.2.2 1)), (2, .int (nI 5)), (3, .int (nI n))]) hx hb dX8_countFrom_4 hl (by decide) rfl (fun ls hl => ?_)
  refine lv_aload_n hx hb dX8_countFrom_6 rfl (lv_at hl 1 rfl) ?_
  refine va_get (D := (g.1, g.2.1)) (ci := 10) (v := .int (nI (σ.1 13))) (C := RX8) (T := TX8) (N := 5) hx hb hts iX8 hown hK.1 hP 35 (gC35 g σ tl) rfl 1 (by decide) k15 (fun _ h9 => h9) rfl dX8_countFrom_7 ?_
  refine lv_istore (lv' := [(5, .int (nI (σ.1 13))), (4, .int (nI (σ.1 12))), (0, .ref (g.2.2.2 35)), (1, .ref (g.2.2.2 1)), (2, .int (nI 5)), (3, .int (nI n))]) hx hb dX8_countFrom_10 hl (by decide) rfl (fun ls hl => ?_)
  refine lv_aload_n hx hb dX8_countFrom_12 rfl (lv_at hl 2 rfl) ?_
  refine va_get (D := (g.1, g.2.1)) (ci := 10) (v := .int (nI (σ.1 14))) (C := RX8) (T := TX8) (N := 5) hx hb hts iX8 hown hK.1 hP 35 (gC35 g σ tl) rfl 2 (by decide) k18 (fun _ h9 => h9) rfl dX8_countFrom_13 ?_
  refine lv_istore (lv' := [(6, .int (nI (σ.1 14))), (5, .int (nI (σ.1 13))), (4, .int (nI (σ.1 12))), (0, .ref (g.2.2.2 35)), (1, .ref (g.2.2.2 1)), (2, .int (nI 5)), (3, .int (nI n))]) hx hb dX8_countFrom_16 hl (by decide) rfl (fun ls hl => ?_)
  refine lv_lconst (v := lN 0) hx hb dX8_countFrom_18 (by decide) ?_
  refine lv_lstore (lv' := [(7, .long (lN 0)), (6, .int (nI (σ.1 14))), (5, .int (nI (σ.1 13))), (4, .int (nI (σ.1 12))), (0, .ref (g.2.2.2 35)), (1, .ref (g.2.2.2 1)), (2, .int (nI 5)), (3, .int (nI n))]) hx hb dX8_countFrom_19 hl (by decide) rfl (fun ls hl => ?_)
  refine lv_iload_n hx hb dX8_countFrom_21 rfl (lv_at hl 6 rfl) ?_
  refine lv_iload_n hx hb dX8_countFrom_22 rfl (lv_at hl 7 rfl) ?_
  refine jn_cge hx hb (by decide) (by omega) (tgt := 32) dX8_countFrom_23 (by decide) (fun c_23 => ?_) (fun c_23 => ?_)
  · refine lv_aload_n hx hb dX8_countFrom_32 rfl (lv_at hl 4 rfl) ?_
    refine lv_aload_n hx hb dX8_countFrom_33 rfl (lv_at hl 5 rfl) ?_
    refine lv_iload_n hx hb dX8_countFrom_34 rfl (lv_at hl 7 rfl) ?_
    refine jn_callv (va_runV (As := [.ref (g.2.2.2 1), .int (nI n)]) (rest := []) ⟨hx, hb, hml, hown, hts⟩ (c_X8_finish l g tl H.size σ n s0 hA hW ⟨ho.1, by omega, ho.2.2⟩ (by omega)) (cwV 2 hts gX8_countFrom_X8_finish rfl rfl rfl (by decide +kernel) ⟨Nat.le_of_ble_eq_true rfl, Nat.le_of_ble_eq_true rfl⟩) (okWV hK hP hD rfl (gC35 g σ tl)) rfl rfl hl.1 rfl (lv_room (Nat.le_of_ble_eq_true rfl)) dX8_countFrom_35 ⟨Nat.le_of_ble_eq_true rfl, Nat.le_of_ble_eq_true rfl⟩) hD hS hAA (fun u H locs hw_ hP hD hS => ?_)
    have hP : va_P (g.1, g.2.1) vwCl (wC g (sF (sF (sF (sF (sF σ 12 ((finL (σ.2.1 0) 8 n s0).1)) 13 (pkL (finL (σ.2.1 0) 8 n s0).2.1)) 14 ((finL (σ.2.1 0) 8 n s0).2.1.length)) 15 ((finL (σ.2.1 0) 8 n s0).2.2.1)) 16 ((finL (σ.2.1 0) 8 n s0).2.2.2)) ++ tl) H := hP
    have hD : va_D A (wC g (sF (sF (sF (sF (sF σ 12 ((finL (σ.2.1 0) 8 n s0).1)) 13 (pkL (finL (σ.2.1 0) 8 n s0).2.1)) 14 ((finL (σ.2.1 0) 8 n s0).2.1.length)) 15 ((finL (σ.2.1 0) 8 n s0).2.2.1)) 16 ((finL (σ.2.1 0) 8 n s0).2.2.2)) ++ tl) := hD
    refine lv_aload_n hx hb dX8_countFrom_38 rfl (lv_at hl 4 rfl) ?_
    refine lv_aload_n hx hb dX8_countFrom_39 rfl (lv_at hl 5 rfl) ?_
    refine vp_callSi (va_Run.run (va_runV (As := [.ref (g.2.2.2 1)]) (rest := []) ⟨hx, hb, hml, hown, hts⟩ (c_X8_accepted l g tl (sF (sF (sF (sF (sF σ 12 ((finL (σ.2.1 0) 8 n s0).1)) 13 (pkL (finL (σ.2.1 0) 8 n s0).2.1)) 14 ((finL (σ.2.1 0) 8 n s0).2.1.length)) 15 ((finL (σ.2.1 0) 8 n s0).2.2.1)) 16 ((finL (σ.2.1 0) 8 n s0).2.2.2)) hA (show (finL (σ.2.1 0) 8 n s0).2.1.length < 4294967296 by have := okF.2.1; omega)) (cwV 1 hts gX8_countFrom_X8_accepted rfl rfl rfl (by decide +kernel) ⟨Nat.le_of_ble_eq_true rfl, Nat.le_of_ble_eq_true rfl⟩) (okPV hK hP rfl (gC35 g (sF (sF (sF (sF (sF σ 12 ((finL (σ.2.1 0) 8 n s0).1)) 13 (pkL (finL (σ.2.1 0) 8 n s0).2.1)) 14 ((finL (σ.2.1 0) 8 n s0).2.1.length)) 15 ((finL (σ.2.1 0) 8 n s0).2.2.1)) 16 ((finL (σ.2.1 0) 8 n s0).2.2.2)) tl)) rfl rfl hl.1 rfl (lv_room (Nat.le_of_ble_eq_true rfl)) dX8_countFrom_40 ⟨Nat.le_of_ble_eq_true rfl, Nat.le_of_ble_eq_true rfl⟩)) (fun r_40 h_40 => ?_)
    have h_40 : r_40 = (nI (if ((finL (σ.2.1 0) 8 n s0).2.1.length) = 0 ∧ ((finL (σ.2.1 0) 8 n s0).1) &&& σ.1 0 ≠ 0 then 1 else 0)) := h_40
    subst h_40
    have jp51 : ∀ v51 : Nat, v51 = (if (finL (σ.2.1 0) 8 n s0).2.1.length = 0 ∧ (finL (σ.2.1 0) 8 n s0).1 &&& (σ.1 0) ≠ 0 then 1 else 0) → W p l e r_c_X8_countFrom_d5 s m ([.ref (g.2.2.2 35), .ref (g.2.2.2 1), .int (nI 5), .int (nI n)] : List Value).toArray below meth c H locs 0 0 Q (F0 m 51 ls [.long (lN v51)]) := by
      intro v51 ev51
      refine lv_lstore (lv' := [(7, .long (lN v51)), (6, .int (nI (σ.1 14))), (5, .int (nI (σ.1 13))), (4, .int (nI (σ.1 12))), (0, .ref (g.2.2.2 35)), (1, .ref (g.2.2.2 1)), (2, .int (nI 5)), (3, .int (nI n))]) hx hb dX8_countFrom_51 hl (by decide) rfl (fun ls hl => ?_)
      refine lv_goto (tgt := 110) hx hb dX8_countFrom_53 (by decide) ?_
      refine lv_lload hx hb dX8_countFrom_110 (lv_at hl 0 rfl) ?_
      exact hq _ _ _ _ ((lN v51)) (((finL (σ.2.1 0) 8 n s0).1), (pkL (finL (σ.2.1 0) 8 n s0).2.1), ((finL (σ.2.1 0) 8 n s0).2.1.length), ((finL (σ.2.1 0) 8 n s0).2.2.1), ((finL (σ.2.1 0) 8 n s0).2.2.2)) dX8_countFrom_112 (by first | exact ⟨by rw [ev51, show n - 5 = 0 by omega, cO, ← fin_pr], okF.2.2.2⟩ | exact ⟨by rw [h3, show lt = 3 by omega, show n - 5 = (n - 6) + 1 by omega]; rfl, hp2⟩) hP hD hS
    refine jn_beq hx hb (tgt := 50) dX8_countFrom_43 (by decide) (fun c_43 => ?_) (fun c_43 => ?_)
    · refine lv_lconst (v := lN 0) hx hb dX8_countFrom_50 (by decide) ?_
      exact jp51 0 (by rw [if_neg c_43])
    · refine lv_lconst (v := lN 1) hx hb dX8_countFrom_46 (by decide) ?_
      refine lv_goto (tgt := 51) hx hb dX8_countFrom_47 (by decide) ?_
      exact jp51 1 (by rw [if_pos c_43])
  · refine lv_iload_n hx hb dX8_countFrom_26 rfl (lv_at hl 6 rfl) ?_
    refine lv_bipush (v := nI 8) hx hb dX8_countFrom_27 (by decide) ?_
    refine jn_clt hx hb (by decide) (by decide) (tgt := 56) dX8_countFrom_29 (by decide) (fun c_29 => ?_) (fun c_29 => absurd c_29 (by decide))
    refine lv_iconst (v := nI 0) hx hb dX8_countFrom_56 (by decide) ?_
    refine lv_istore (lv' := [(9, .int (nI 0)), (7, .long (lN 0)), (6, .int (nI (σ.1 14))), (5, .int (nI (σ.1 13))), (4, .int (nI (σ.1 12))), (0, .ref (g.2.2.2 35)), (1, .ref (g.2.2.2 1)), (2, .int (nI 5)), (3, .int (nI n))]) hx hb dX8_countFrom_57 hl (by decide) rfl (fun ls hl => ?_)
    have lp59 : ∀ (fu : Nat), ∀ (lt : Nat) (cn : Nat) (j1 : Nat) (p1 : Nat), (lt ≤ 3) → (cn = fb_sm (fun x => cO (σ.2.1 0) (σ.1 0) n (n - 6) (mM (σ.2.1 0) (pr2 s0) x)) lt) → (p1 < 2) → 3 - lt < fu → ∀ (H : Heap) (locs : List Loc), va_P (g.1, g.2.1) vwCl (wC g (sF (sF σ 15 j1) 16 p1) ++ tl) H → va_D A (wC g (sF (sF σ 15 j1) 16 p1) ++ tl) → va_S A s.heap H locs → ∀ ls : Array Slot, lv_has ls 10 [(0, .ref (g.2.2.2 35)), (1, .ref (g.2.2.2 1)), (2, .int (nI 5)), (3, .int (nI n)), (4, .int (nI (σ.1 12))), (5, .int (nI (σ.1 13))), (6, .int (nI (σ.1 14))), (7, .long (lN cn)), (9, .int (nI lt))] → W p l e r_c_X8_countFrom_d5 s m ([.ref (g.2.2.2 35), .ref (g.2.2.2 1), .int (nI 5), .int (nI n)] : List Value).toArray below meth c H locs 0 0 Q (F0 m 59 ls []) := by
      intro fu
      induction fu with
      | zero => intro lt cn j1 p1 h2 h3 hp2 hf; exact absurd hf (Nat.not_lt_zero _)
      | succ fu ih59 =>
        intro lt cn j1 p1 h2 h3 hp2 hf H locs hP hD hS ls hl
        refine lv_iload hx hb dX8_countFrom_59 (lv_at hl 8 rfl) ?_
        refine lv_iconst (v := nI 3) hx hb dX8_countFrom_61 (by decide) ?_
        refine jn_cge hx hb (by omega) (by decide) (tgt := 110) dX8_countFrom_62 (by decide) (fun c_62 => ?_) (fun c_62 => ?_)
        · refine lv_lload hx hb dX8_countFrom_110 (lv_at hl 7 rfl) ?_
          exact hq _ _ _ _ ((lN cn)) ((σ.1 12), (σ.1 13), (σ.1 14), j1, p1) dX8_countFrom_112 (by first | exact ⟨by rw [ev51, show n - 5 = 0 by omega, cO, ← fin_pr], okF.2.2.2⟩ | exact ⟨by rw [h3, show lt = 3 by omega, show n - 5 = (n - 6) + 1 by omega]; rfl, hp2⟩) hP hD hS
        · refine lv_aload_n hx hb dX8_countFrom_65 rfl (lv_at hl 0 rfl) ?_
          refine lv_aload_n hx hb dX8_countFrom_66 rfl (lv_at hl 1 rfl) ?_
          refine lv_iload hx hb dX8_countFrom_67 (lv_at hl 8 rfl) ?_
          refine jn_callv (va_runV (As := [.ref (g.2.2.2 1), .int (nI lt)]) (rest := []) ⟨hx, hb, hml, hown, hts⟩ (c_X8_meet l g tl H.size (sF (sF σ 15 j1) 16 p1) lt ((s0.1, s0.2.1, j1, p1)) hA ⟨hW.1, hW.2.1, hW.2.2.1, rfl, rfl⟩ ⟨ho.1, by show s0.2.1.length ≤ 7; omega, ho.2.2.1, hp2⟩ (by omega)) (cwV 2 hts gX8_countFrom_X8_meet rfl rfl rfl (by decide +kernel) ⟨Nat.le_of_ble_eq_true rfl, Nat.le_of_ble_eq_true rfl⟩) (okWV hK hP hD rfl (gC35 g (sF (sF σ 15 j1) 16 p1) tl)) rfl rfl hl.1 rfl (lv_room (Nat.le_of_ble_eq_true rfl)) dX8_countFrom_69 ⟨Nat.le_of_ble_eq_true rfl, Nat.le_of_ble_eq_true rfl⟩) hD hS hAA (fun u H locs hw_ hP hD hS => ?_)
          have hP : va_P (g.1, g.2.1) vwCl (wC g (sF (sF (sF (sF (sF (sF (sF σ 15 j1) 16 p1) 12 ((meetL (σ.2.1 0) ((s0.1, s0.2.1, j1, p1)) lt).1)) 13 (pkL (meetL (σ.2.1 0) ((s0.1, s0.2.1, j1, p1)) lt).2.1)) 14 ((meetL (σ.2.1 0) ((s0.1, s0.2.1, j1, p1)) lt).2.1.length)) 15 ((meetL (σ.2.1 0) ((s0.1, s0.2.1, j1, p1)) lt).2.2.1)) 16 ((meetL (σ.2.1 0) ((s0.1, s0.2.1, j1, p1)) lt).2.2.2)) ++ tl) H := hP
          have hD : va_D A (wC g (sF (sF (sF (sF (sF (sF (sF σ 15 j1) 16 p1) 12 ((meetL (σ.2.1 0) ((s0.1, s0.2.1, j1, p1)) lt).1)) 13 (pkL (meetL (σ.2.1 0) ((s0.1, s0.2.1, j1, p1)) lt).2.1)) 14 ((meetL (σ.2.1 0) ((s0.1, s0.2.1, j1, p1)) lt).2.1.length)) 15 ((meetL (σ.2.1 0) ((s0.1, s0.2.1, j1, p1)) lt).2.2.1)) 16 ((meetL (σ.2.1 0) ((s0.1, s0.2.1, j1, p1)) lt).2.2.2)) ++ tl) := hD
          refine lv_lload hx hb dX8_countFrom_72 (lv_at hl 7 rfl) ?_
          refine lv_aload_n hx hb dX8_countFrom_74 rfl (lv_at hl 0 rfl) ?_
          refine lv_aload_n hx hb dX8_countFrom_75 rfl (lv_at hl 1 rfl) ?_
          refine lv_iload_n hx hb dX8_countFrom_76 rfl (lv_at hl 2 rfl) ?_
          refine lv_iconst (v := nI 1) hx hb dX8_countFrom_77 (by decide) ?_
          refine jn_iadd hx hb dX8_countFrom_78 ?_
          refine lv_iload_n hx hb dX8_countFrom_79 rfl (lv_at hl 3 rfl) ?_
          refine jn_calll (va_runV (As := [.ref (g.2.2.2 1), .int (nI (5 + 1)), .int (nI n)]) (rest := [.long (lN cn)]) ⟨hx, hb, hml, hown, hts⟩ (c_X8_countFrom_d6 l g tl H.size (sF (sF (sF (sF (sF (sF (sF σ 15 j1) 16 p1) 12 ((meetL (σ.2.1 0) ((s0.1, s0.2.1, j1, p1)) lt).1)) 13 (pkL (meetL (σ.2.1 0) ((s0.1, s0.2.1, j1, p1)) lt).2.1)) 14 ((meetL (σ.2.1 0) ((s0.1, s0.2.1, j1, p1)) lt).2.1.length)) 15 ((meetL (σ.2.1 0) ((s0.1, s0.2.1, j1, p1)) lt).2.2.1)) 16 ((meetL (σ.2.1 0) ((s0.1, s0.2.1, j1, p1)) lt).2.2.2)) n (meetL (σ.2.1 0) (s0.1, s0.2.1, j1, p1) lt) hA ⟨rfl, rfl, rfl, rfl, rfl⟩ (okw_meet hA.1 (s := (s0.1, s0.2.1, j1, p1)) (n := 5) ⟨ho.1, ho.2.1, ho.2.2.1, hp2⟩ (by omega)) hn (by omega)) (cwV 3 hts gX8_countFrom_X8_countFrom rfl rfl rfl (by decide +kernel) ⟨Nat.le_of_ble_eq_true rfl, Nat.le_of_ble_eq_true rfl⟩) (okWV hK hP hD rfl (gC35 g (sF (sF (sF (sF (sF (sF (sF σ 15 j1) 16 p1) 12 ((meetL (σ.2.1 0) ((s0.1, s0.2.1, j1, p1)) lt).1)) 13 (pkL (meetL (σ.2.1 0) ((s0.1, s0.2.1, j1, p1)) lt).2.1)) 14 ((meetL (σ.2.1 0) ((s0.1, s0.2.1, j1, p1)) lt).2.1.length)) 15 ((meetL (σ.2.1 0) ((s0.1, s0.2.1, j1, p1)) lt).2.2.1)) 16 ((meetL (σ.2.1 0) ((s0.1, s0.2.1, j1, p1)) lt).2.2.2)) tl)) rfl rfl hl.1 rfl (lv_room (Nat.le_of_ble_eq_true rfl)) dX8_countFrom_80 ⟨Nat.le_of_ble_eq_true rfl, Nat.le_of_ble_eq_true rfl⟩) hD hS hAA (fun r_80 u H locs hw_ hP hD hS => ?_)
          obtain ⟨m2_80, r2_80, k2_80, j2_80, p2_80⟩ := u
          obtain ⟨rfl, h_80⟩ := hw_
          have h_80 : p2_80 < 2 := h_80
          have hP : va_P (g.1, g.2.1) vwCl (wC g (sF (sF (sF (sF (sF (sF (sF (sF (sF (sF (sF (sF σ 15 j1) 16 p1) 12 ((meetL (σ.2.1 0) ((s0.1, s0.2.1, j1, p1)) lt).1)) 13 (pkL (meetL (σ.2.1 0) ((s0.1, s0.2.1, j1, p1)) lt).2.1)) 14 ((meetL (σ.2.1 0) ((s0.1, s0.2.1, j1, p1)) lt).2.1.length)) 15 ((meetL (σ.2.1 0) ((s0.1, s0.2.1, j1, p1)) lt).2.2.1)) 16 ((meetL (σ.2.1 0) ((s0.1, s0.2.1, j1, p1)) lt).2.2.2)) 12 m2_80) 13 r2_80) 14 k2_80) 15 j2_80) 16 p2_80) ++ tl) H := hP
          have hD : va_D A (wC g (sF (sF (sF (sF (sF (sF (sF (sF (sF (sF (sF (sF σ 15 j1) 16 p1) 12 ((meetL (σ.2.1 0) ((s0.1, s0.2.1, j1, p1)) lt).1)) 13 (pkL (meetL (σ.2.1 0) ((s0.1, s0.2.1, j1, p1)) lt).2.1)) 14 ((meetL (σ.2.1 0) ((s0.1, s0.2.1, j1, p1)) lt).2.1.length)) 15 ((meetL (σ.2.1 0) ((s0.1, s0.2.1, j1, p1)) lt).2.2.1)) 16 ((meetL (σ.2.1 0) ((s0.1, s0.2.1, j1, p1)) lt).2.2.2)) 12 m2_80) 13 r2_80) 14 k2_80) 15 j2_80) 16 p2_80) ++ tl) := hD
          refine jn_ladd hx hb dX8_countFrom_83 ?_
          refine lv_lstore (lv' := [(7, .long (lN (cn + (cO (σ.2.1 0) (σ.1 0) n (n - 6) (pr2 (meetL (σ.2.1 0) (s0.1, s0.2.1, j1, p1) lt)))))), (0, .ref (g.2.2.2 35)), (1, .ref (g.2.2.2 1)), (2, .int (nI 5)), (3, .int (nI n)), (4, .int (nI (σ.1 12))), (5, .int (nI (σ.1 13))), (6, .int (nI (σ.1 14))), (9, .int (nI lt))]) hx hb dX8_countFrom_84 hl (by decide) rfl (fun ls hl => ?_)
          refine lv_aload_n hx hb dX8_countFrom_86 rfl (lv_at hl 1 rfl) ?_
          refine lv_iload hx hb dX8_countFrom_87 (lv_at hl 5 rfl) ?_
          refine jn_put (D := (g.1, g.2.1)) (ci := 10) (v := .int (nI (σ.1 12))) (ty := .int) (C := RX8) (T := TX8) (N := 5) hx hb hts iX8 tyX8 tyX8_ok nmX8 hown hK.1 hP hD hS 35 (gC35 g (sF (sF (sF (sF (sF (sF (sF (sF (sF (sF (sF (sF σ 15 j1) 16 p1) 12 ((meetL (σ.2.1 0) ((s0.1, s0.2.1, j1, p1)) lt).1)) 13 (pkL (meetL (σ.2.1 0) ((s0.1, s0.2.1, j1, p1)) lt).2.1)) 14 ((meetL (σ.2.1 0) ((s0.1, s0.2.1, j1, p1)) lt).2.1.length)) 15 ((meetL (σ.2.1 0) ((s0.1, s0.2.1, j1, p1)) lt).2.2.1)) 16 ((meetL (σ.2.1 0) ((s0.1, s0.2.1, j1, p1)) lt).2.2.2)) 12 m2_80) 13 r2_80) 14 k2_80) 15 j2_80) 16 p2_80) tl) rfl 0 (by decide) k9 (fun _ h9 => h9) rfl (by decide +kernel) rfl rfl (Nat.le_of_ble_eq_true rfl) (uC_F12 g (sF (sF (sF (sF (sF (sF (sF (sF (sF (sF (sF (sF σ 15 j1) 16 p1) 12 ((meetL (σ.2.1 0) ((s0.1, s0.2.1, j1, p1)) lt).1)) 13 (pkL (meetL (σ.2.1 0) ((s0.1, s0.2.1, j1, p1)) lt).2.1)) 14 ((meetL (σ.2.1 0) ((s0.1, s0.2.1, j1, p1)) lt).2.1.length)) 15 ((meetL (σ.2.1 0) ((s0.1, s0.2.1, j1, p1)) lt).2.2.1)) 16 ((meetL (σ.2.1 0) ((s0.1, s0.2.1, j1, p1)) lt).2.2.2)) 12 m2_80) 13 r2_80) 14 k2_80) 15 j2_80) 16 p2_80) tl (σ.1 12)) dX8_countFrom_89 (fun H locs hP hD hS => ?_)
          refine lv_aload_n hx hb dX8_countFrom_92 rfl (lv_at hl 1 rfl) ?_
          refine lv_iload hx hb dX8_countFrom_93 (lv_at hl 6 rfl) ?_
          refine jn_put (D := (g.1, g.2.1)) (ci := 10) (v := .int (nI (σ.1 13))) (ty := .int) (C := RX8) (T := TX8) (N := 5) hx hb hts iX8 tyX8 tyX8_ok nmX8 hown hK.1 hP hD hS 35 (gC35 g (sF (sF (sF (sF (sF (sF (sF (sF (sF (sF (sF (sF (sF σ 15 j1) 16 p1) 12 ((meetL (σ.2.1 0) ((s0.1, s0.2.1, j1, p1)) lt).1)) 13 (pkL (meetL (σ.2.1 0) ((s0.1, s0.2.1, j1, p1)) lt).2.1)) 14 ((meetL (σ.2.1 0) ((s0.1, s0.2.1, j1, p1)) lt).2.1.length)) 15 ((meetL (σ.2.1 0) ((s0.1, s0.2.1, j1, p1)) lt).2.2.1)) 16 ((meetL (σ.2.1 0) ((s0.1, s0.2.1, j1, p1)) lt).2.2.2)) 12 m2_80) 13 r2_80) 14 k2_80) 15 j2_80) 16 p2_80) 12 (σ.1 12)) tl) rfl 1 (by decide) k15 (fun _ h9 => h9) rfl (by decide +kernel) rfl rfl (Nat.le_of_ble_eq_true rfl) (uC_F13 g (sF (sF (sF (sF (sF (sF (sF (sF (sF (sF (sF (sF (sF σ 15 j1) 16 p1) 12 ((meetL (σ.2.1 0) ((s0.1, s0.2.1, j1, p1)) lt).1)) 13 (pkL (meetL (σ.2.1 0) ((s0.1, s0.2.1, j1, p1)) lt).2.1)) 14 ((meetL (σ.2.1 0) ((s0.1, s0.2.1, j1, p1)) lt).2.1.length)) 15 ((meetL (σ.2.1 0) ((s0.1, s0.2.1, j1, p1)) lt).2.2.1)) 16 ((meetL (σ.2.1 0) ((s0.1, s0.2.1, j1, p1)) lt).2.2.2)) 12 m2_80) 13 r2_80) 14 k2_80) 15 j2_80) 16 p2_80) 12 (σ.1 12)) tl (σ.1 13)) dX8_countFrom_95 (fun H locs hP hD hS => ?_)
          refine lv_aload_n hx hb dX8_countFrom_98 rfl (lv_at hl 1 rfl) ?_
          refine lv_iload hx hb dX8_countFrom_99 (lv_at hl 7 rfl) ?_
          refine jn_put (D := (g.1, g.2.1)) (ci := 10) (v := .int (nI (σ.1 14))) (ty := .int) (C := RX8) (T := TX8) (N := 5) hx hb hts iX8 tyX8 tyX8_ok nmX8 hown hK.1 hP hD hS 35 (gC35 g (sF (sF (sF (sF (sF (sF (sF (sF (sF (sF (sF (sF (sF (sF σ 15 j1) 16 p1) 12 ((meetL (σ.2.1 0) ((s0.1, s0.2.1, j1, p1)) lt).1)) 13 (pkL (meetL (σ.2.1 0) ((s0.1, s0.2.1, j1, p1)) lt).2.1)) 14 ((meetL (σ.2.1 0) ((s0.1, s0.2.1, j1, p1)) lt).2.1.length)) 15 ((meetL (σ.2.1 0) ((s0.1, s0.2.1, j1, p1)) lt).2.2.1)) 16 ((meetL (σ.2.1 0) ((s0.1, s0.2.1, j1, p1)) lt).2.2.2)) 12 m2_80) 13 r2_80) 14 k2_80) 15 j2_80) 16 p2_80) 12 (σ.1 12)) 13 (σ.1 13)) tl) rfl 2 (by decide) k18 (fun _ h9 => h9) rfl (by decide +kernel) rfl rfl (Nat.le_of_ble_eq_true rfl) (uC_F14 g (sF (sF (sF (sF (sF (sF (sF (sF (sF (sF (sF (sF (sF (sF σ 15 j1) 16 p1) 12 ((meetL (σ.2.1 0) ((s0.1, s0.2.1, j1, p1)) lt).1)) 13 (pkL (meetL (σ.2.1 0) ((s0.1, s0.2.1, j1, p1)) lt).2.1)) 14 ((meetL (σ.2.1 0) ((s0.1, s0.2.1, j1, p1)) lt).2.1.length)) 15 ((meetL (σ.2.1 0) ((s0.1, s0.2.1, j1, p1)) lt).2.2.1)) 16 ((meetL (σ.2.1 0) ((s0.1, s0.2.1, j1, p1)) lt).2.2.2)) 12 m2_80) 13 r2_80) 14 k2_80) 15 j2_80) 16 p2_80) 12 (σ.1 12)) 13 (σ.1 13)) tl (σ.1 14)) dX8_countFrom_101 (fun H locs hP hD hS => ?_)
          refine lv_iinc (v := nI (lt + 1)) (lv' := [(9, .int (nI (lt + 1))), (7, .long (lN (cn + (cO (σ.2.1 0) (σ.1 0) n (n - 6) (pr2 (meetL (σ.2.1 0) (s0.1, s0.2.1, j1, p1) lt)))))), (0, .ref (g.2.2.2 35)), (1, .ref (g.2.2.2 1)), (2, .int (nI 5)), (3, .int (nI n)), (4, .int (nI (σ.1 12))), (5, .int (nI (σ.1 13))), (6, .int (nI (σ.1 14)))]) hx hb dX8_countFrom_104 hl (k := 8) rfl (jn_ii _ 1) (by decide) rfl (fun ls hl => ?_)
          refine lv_goto (tgt := 59) hx hb dX8_countFrom_107 (by decide) ?_
          exact ih59 (lt + 1) (cn + (cO (σ.2.1 0) (σ.1 0) n (n - 6) (pr2 (meetL (σ.2.1 0) (s0.1, s0.2.1, j1, p1) lt)))) j2_80 p2_80 (by omega) (by rw [h3, mM_pr]; rfl) h_80 (by omega) _ _ hP hD hS _ (lv_sub hl [2, 3, 4, 5, 6, 7, 8, 1, 0] rfl)
    exact lp59 _ 0 0 (σ.1 15) (σ.1 16) (by decide) rfl (by have := ho.2.2.2; have := hW.2.2.2.2; omega) (Nat.lt_succ_self _) _ _ hP hD hS _ (lv_sub hl [5, 6, 7, 8, 4, 3, 2, 1, 0] rfl)

abbrev r_c_X8_countFrom_d4 : Room := { frames := 7, cells := 0, slots := 0, locals := 178 }
set_option maxHeartbeats 4000000 in
set_option maxRecDepth 100000 in
theorem c_X8_countFrom_d4 (l : Launch) (g : GC) (tl : va_W) (sz : Nat) (σ : SS) (n : Nat) (s0 : OW) (hA : OkA σ) (hW : OwIs σ s0) (ho : OkW s0 4) (hn : n ≤ 7) (hd : 4 ≤ n) : Met l yX8_countFrom wsX8_countFrom r_c_X8_countFrom_d4 (va_Pc [.ref (g.2.2.2 35), .ref (g.2.2.2 1), .int (nI 4), .int (nI n)] (PW g (wC g σ ++ tl) sz)) (va_Ql (fun (r : Int64) (z : Nat × Nat × Nat × Nat × Nat) => match z with | (m2, r2, k2, j2, p2) => (r = lN (cO (σ.2.1 0) (σ.1 0) n (n - 4) (pr2 s0))) ∧ (p2 < 2)) (fun (z : Nat × Nat × Nat × Nat × Nat) t => BW g (va_A (wC g σ ++ tl) sz) ((fun z : Nat × Nat × Nat × Nat × Nat => match z with | (m2, r2, k2, j2, p2) => wC g (sF (sF (sF (sF (sF σ 12 m2) 13 r2) 14 k2) 15 j2) 16 p2) ++ tl) z) t) (va_A (wC g σ ++ tl) sz)) 0 0 (va_A (wC g σ ++ tl) sz) := by
  refine jn_sl (wf := fun z : Nat × Nat × Nat × Nat × Nat => match z with | (m2, r2, k2, j2, p2) => wC g (sF (sF (sF (sF (sF σ 12 m2) 13 r2) 14 k2) 15 j2) 16 p2) ++ tl) (cc := cX8_countFrom) (maxL := 10) (own := RX8) (by decide) rfl rfl (Nat.le_of_ble_eq_true rfl) ?_
  intro p e s m below meth c Q A hx hb hml hown hts hK hP hD hS hAA hq ls hl
  obtain ⟨H, eH⟩ : ∃ z, z = s.heap := ⟨_, rfl⟩
  obtain ⟨locs, el⟩ : ∃ z : List Loc, z = [] := ⟨_, rfl⟩
  rw [← eH] at hP
  have hS : va_S A s.heap H locs := by rw [eH, el]; exact hS
  have goal0 : W p l e r_c_X8_countFrom_d4 s m ([.ref (g.2.2.2 35), .ref (g.2.2.2 1), .int (nI 4), .int (nI n)] : List Value).toArray below meth c H locs 0 0 Q (F0 m 0 ls []) → W p l e r_c_X8_countFrom_d4 s m ([.ref (g.2.2.2 35), .ref (g.2.2.2 1), .int (nI 4), .int (nI n)] : List Value).toArray below meth c s.heap [] 0 0 Q (F0 m 0 ls []) := fun h => by rw [eH, el] at h; exact h
  refine goal0 ?_
  have hl : lv_has ls 10 [(0, .ref (g.2.2.2 35)), (1, .ref (g.2.2.2 1)), (2, .int (nI 4)), (3, .int (nI n))] := hl
  have iX8 : ∀ w ∈ wsX80, w ∈ wsX8_countFrom := by decide +kernel
  have k9 := hts (.fieldLink RX8 9 "JumpingAutomata$OneWayReader" "state" "I") (by decide +kernel)
  have k15 := hts (.fieldLink RX8 15 "JumpingAutomata$OneWayReader" "rest" "I") (by decide +kernel)
  have k18 := hts (.fieldLink RX8 18 "JumpingAutomata$OneWayReader" "restSize" "I") (by decide +kernel)
  have ho8 := ho.2.1
  have okF := okw_fin hA.1 8 n s0 8 ⟨ho.1, by omega, ho.2.2⟩
  refine lv_aload_n hx hb dX8_countFrom_0 rfl (lv_at hl 0 rfl) ?_
  refine va_get (D := (g.1, g.2.1)) (ci := 10) (v := .int (nI (σ.1 12))) (C := RX8) (T := TX8) (N := 5) hx hb hts iX8 hown hK.1 hP 35 (gC35 g σ tl) rfl 0 (by decide) k9 (fun _ h9 => h9) rfl dX8_countFrom_1 ?_
  refine lv_istore (lv' := [(4, .int (nI (σ.1 12))), (0, .ref (g.2.2.2 35)), (1, .ref (g.2.2.2 1)), (2, .int (nI 4)), (3, .int (nI n))]) hx hb dX8_countFrom_4 hl (by decide) rfl (fun ls hl => ?_)
  refine lv_aload_n hx hb dX8_countFrom_6 rfl (lv_at hl 1 rfl) ?_
  refine va_get (D := (g.1, g.2.1)) (ci := 10) (v := .int (nI (σ.1 13))) (C := RX8) (T := TX8) (N := 5) hx hb hts iX8 hown hK.1 hP 35 (gC35 g σ tl) rfl 1 (by decide) k15 (fun _ h9 => h9) rfl dX8_countFrom_7 ?_
  refine lv_istore (lv' := [(5, .int (nI (σ.1 13))), (4, .int (nI (σ.1 12))), (0, .ref (g.2.2.2 35)), (1, .ref (g.2.2.2 1)), (2, .int (nI 4)), (3, .int (nI n))]) hx hb dX8_countFrom_10 hl (by decide) rfl (fun ls hl => ?_)
  refine lv_aload_n hx hb dX8_countFrom_12 rfl (lv_at hl 2 rfl) ?_
  refine va_get (D := (g.1, g.2.1)) (ci := 10) (v := .int (nI (σ.1 14))) (C := RX8) (T := TX8) (N := 5) hx hb hts iX8 hown hK.1 hP 35 (gC35 g σ tl) rfl 2 (by decide) k18 (fun _ h9 => h9) rfl dX8_countFrom_13 ?_
  refine lv_istore (lv' := [(6, .int (nI (σ.1 14))), (5, .int (nI (σ.1 13))), (4, .int (nI (σ.1 12))), (0, .ref (g.2.2.2 35)), (1, .ref (g.2.2.2 1)), (2, .int (nI 4)), (3, .int (nI n))]) hx hb dX8_countFrom_16 hl (by decide) rfl (fun ls hl => ?_)
  refine lv_lconst (v := lN 0) hx hb dX8_countFrom_18 (by decide) ?_
  refine lv_lstore (lv' := [(7, .long (lN 0)), (6, .int (nI (σ.1 14))), (5, .int (nI (σ.1 13))), (4, .int (nI (σ.1 12))), (0, .ref (g.2.2.2 35)), (1, .ref (g.2.2.2 1)), (2, .int (nI 4)), (3, .int (nI n))]) hx hb dX8_countFrom_19 hl (by decide) rfl (fun ls hl => ?_)
  refine lv_iload_n hx hb dX8_countFrom_21 rfl (lv_at hl 6 rfl) ?_
  refine lv_iload_n hx hb dX8_countFrom_22 rfl (lv_at hl 7 rfl) ?_
  refine jn_cge hx hb (by decide) (by omega) (tgt := 32) dX8_countFrom_23 (by decide) (fun c_23 => ?_) (fun c_23 => ?_)
  · refine lv_aload_n hx hb dX8_countFrom_32 rfl (lv_at hl 4 rfl) ?_
    refine lv_aload_n hx hb dX8_countFrom_33 rfl (lv_at hl 5 rfl) ?_
    refine lv_iload_n hx hb dX8_countFrom_34 rfl (lv_at hl 7 rfl) ?_
    refine jn_callv (va_runV (As := [.ref (g.2.2.2 1), .int (nI n)]) (rest := []) ⟨hx, hb, hml, hown, hts⟩ (c_X8_finish l g tl H.size σ n s0 hA hW ⟨ho.1, by omega, ho.2.2⟩ (by omega)) (cwV 2 hts gX8_countFrom_X8_finish rfl rfl rfl (by decide +kernel) ⟨Nat.le_of_ble_eq_true rfl, Nat.le_of_ble_eq_true rfl⟩) (okWV hK hP hD rfl (gC35 g σ tl)) rfl rfl hl.1 rfl (lv_room (Nat.le_of_ble_eq_true rfl)) dX8_countFrom_35 ⟨Nat.le_of_ble_eq_true rfl, Nat.le_of_ble_eq_true rfl⟩) hD hS hAA (fun u H locs hw_ hP hD hS => ?_)
    have hP : va_P (g.1, g.2.1) vwCl (wC g (sF (sF (sF (sF (sF σ 12 ((finL (σ.2.1 0) 8 n s0).1)) 13 (pkL (finL (σ.2.1 0) 8 n s0).2.1)) 14 ((finL (σ.2.1 0) 8 n s0).2.1.length)) 15 ((finL (σ.2.1 0) 8 n s0).2.2.1)) 16 ((finL (σ.2.1 0) 8 n s0).2.2.2)) ++ tl) H := hP
    have hD : va_D A (wC g (sF (sF (sF (sF (sF σ 12 ((finL (σ.2.1 0) 8 n s0).1)) 13 (pkL (finL (σ.2.1 0) 8 n s0).2.1)) 14 ((finL (σ.2.1 0) 8 n s0).2.1.length)) 15 ((finL (σ.2.1 0) 8 n s0).2.2.1)) 16 ((finL (σ.2.1 0) 8 n s0).2.2.2)) ++ tl) := hD
    refine lv_aload_n hx hb dX8_countFrom_38 rfl (lv_at hl 4 rfl) ?_
    refine lv_aload_n hx hb dX8_countFrom_39 rfl (lv_at hl 5 rfl) ?_
    refine vp_callSi (va_Run.run (va_runV (As := [.ref (g.2.2.2 1)]) (rest := []) ⟨hx, hb, hml, hown, hts⟩ (c_X8_accepted l g tl (sF (sF (sF (sF (sF σ 12 ((finL (σ.2.1 0) 8 n s0).1)) 13 (pkL (finL (σ.2.1 0) 8 n s0).2.1)) 14 ((finL (σ.2.1 0) 8 n s0).2.1.length)) 15 ((finL (σ.2.1 0) 8 n s0).2.2.1)) 16 ((finL (σ.2.1 0) 8 n s0).2.2.2)) hA (show (finL (σ.2.1 0) 8 n s0).2.1.length < 4294967296 by have := okF.2.1; omega)) (cwV 1 hts gX8_countFrom_X8_accepted rfl rfl rfl (by decide +kernel) ⟨Nat.le_of_ble_eq_true rfl, Nat.le_of_ble_eq_true rfl⟩) (okPV hK hP rfl (gC35 g (sF (sF (sF (sF (sF σ 12 ((finL (σ.2.1 0) 8 n s0).1)) 13 (pkL (finL (σ.2.1 0) 8 n s0).2.1)) 14 ((finL (σ.2.1 0) 8 n s0).2.1.length)) 15 ((finL (σ.2.1 0) 8 n s0).2.2.1)) 16 ((finL (σ.2.1 0) 8 n s0).2.2.2)) tl)) rfl rfl hl.1 rfl (lv_room (Nat.le_of_ble_eq_true rfl)) dX8_countFrom_40 ⟨Nat.le_of_ble_eq_true rfl, Nat.le_of_ble_eq_true rfl⟩)) (fun r_40 h_40 => ?_)
    have h_40 : r_40 = (nI (if ((finL (σ.2.1 0) 8 n s0).2.1.length) = 0 ∧ ((finL (σ.2.1 0) 8 n s0).1) &&& σ.1 0 ≠ 0 then 1 else 0)) := h_40
    subst h_40
    have jp51 : ∀ v51 : Nat, v51 = (if (finL (σ.2.1 0) 8 n s0).2.1.length = 0 ∧ (finL (σ.2.1 0) 8 n s0).1 &&& (σ.1 0) ≠ 0 then 1 else 0) → W p l e r_c_X8_countFrom_d4 s m ([.ref (g.2.2.2 35), .ref (g.2.2.2 1), .int (nI 4), .int (nI n)] : List Value).toArray below meth c H locs 0 0 Q (F0 m 51 ls [.long (lN v51)]) := by
      intro v51 ev51
      refine lv_lstore (lv' := [(7, .long (lN v51)), (6, .int (nI (σ.1 14))), (5, .int (nI (σ.1 13))), (4, .int (nI (σ.1 12))), (0, .ref (g.2.2.2 35)), (1, .ref (g.2.2.2 1)), (2, .int (nI 4)), (3, .int (nI n))]) hx hb dX8_countFrom_51 hl (by decide) rfl (fun ls hl => ?_)
      refine lv_goto (tgt := 110) hx hb dX8_countFrom_53 (by decide) ?_
      refine lv_lload hx hb dX8_countFrom_110 (lv_at hl 0 rfl) ?_
      exact hq _ _ _ _ ((lN v51)) (((finL (σ.2.1 0) 8 n s0).1), (pkL (finL (σ.2.1 0) 8 n s0).2.1), ((finL (σ.2.1 0) 8 n s0).2.1.length), ((finL (σ.2.1 0) 8 n s0).2.2.1), ((finL (σ.2.1 0) 8 n s0).2.2.2)) dX8_countFrom_112 (by first | exact ⟨by rw [ev51, show n - 4 = 0 by omega, cO, ← fin_pr], okF.2.2.2⟩ | exact ⟨by rw [h3, show lt = 3 by omega, show n - 4 = (n - 5) + 1 by omega]; rfl, hp2⟩) hP hD hS
    refine jn_beq hx hb (tgt := 50) dX8_countFrom_43 (by decide) (fun c_43 => ?_) (fun c_43 => ?_)
    · refine lv_lconst (v := lN 0) hx hb dX8_countFrom_50 (by decide) ?_
      exact jp51 0 (by rw [if_neg c_43])
    · refine lv_lconst (v := lN 1) hx hb dX8_countFrom_46 (by decide) ?_
      refine lv_goto (tgt := 51) hx hb dX8_countFrom_47 (by decide) ?_
      exact jp51 1 (by rw [if_pos c_43])
  · refine lv_iload_n hx hb dX8_countFrom_26 rfl (lv_at hl 6 rfl) ?_
    refine lv_bipush (v := nI 8) hx hb dX8_countFrom_27 (by decide) ?_
    refine jn_clt hx hb (by decide) (by decide) (tgt := 56) dX8_countFrom_29 (by decide) (fun c_29 => ?_) (fun c_29 => absurd c_29 (by decide))
    refine lv_iconst (v := nI 0) hx hb dX8_countFrom_56 (by decide) ?_
    refine lv_istore (lv' := [(9, .int (nI 0)), (7, .long (lN 0)), (6, .int (nI (σ.1 14))), (5, .int (nI (σ.1 13))), (4, .int (nI (σ.1 12))), (0, .ref (g.2.2.2 35)), (1, .ref (g.2.2.2 1)), (2, .int (nI 4)), (3, .int (nI n))]) hx hb dX8_countFrom_57 hl (by decide) rfl (fun ls hl => ?_)
    have lp59 : ∀ (fu : Nat), ∀ (lt : Nat) (cn : Nat) (j1 : Nat) (p1 : Nat), (lt ≤ 3) → (cn = fb_sm (fun x => cO (σ.2.1 0) (σ.1 0) n (n - 5) (mM (σ.2.1 0) (pr2 s0) x)) lt) → (p1 < 2) → 3 - lt < fu → ∀ (H : Heap) (locs : List Loc), va_P (g.1, g.2.1) vwCl (wC g (sF (sF σ 15 j1) 16 p1) ++ tl) H → va_D A (wC g (sF (sF σ 15 j1) 16 p1) ++ tl) → va_S A s.heap H locs → ∀ ls : Array Slot, lv_has ls 10 [(0, .ref (g.2.2.2 35)), (1, .ref (g.2.2.2 1)), (2, .int (nI 4)), (3, .int (nI n)), (4, .int (nI (σ.1 12))), (5, .int (nI (σ.1 13))), (6, .int (nI (σ.1 14))), (7, .long (lN cn)), (9, .int (nI lt))] → W p l e r_c_X8_countFrom_d4 s m ([.ref (g.2.2.2 35), .ref (g.2.2.2 1), .int (nI 4), .int (nI n)] : List Value).toArray below meth c H locs 0 0 Q (F0 m 59 ls []) := by
      intro fu
      induction fu with
      | zero => intro lt cn j1 p1 h2 h3 hp2 hf; exact absurd hf (Nat.not_lt_zero _)
      | succ fu ih59 =>
        intro lt cn j1 p1 h2 h3 hp2 hf H locs hP hD hS ls hl
        refine lv_iload hx hb dX8_countFrom_59 (lv_at hl 8 rfl) ?_
        refine lv_iconst (v := nI 3) hx hb dX8_countFrom_61 (by decide) ?_
        refine jn_cge hx hb (by omega) (by decide) (tgt := 110) dX8_countFrom_62 (by decide) (fun c_62 => ?_) (fun c_62 => ?_)
        · refine lv_lload hx hb dX8_countFrom_110 (lv_at hl 7 rfl) ?_
          exact hq _ _ _ _ ((lN cn)) ((σ.1 12), (σ.1 13), (σ.1 14), j1, p1) dX8_countFrom_112 (by first | exact ⟨by rw [ev51, show n - 4 = 0 by omega, cO, ← fin_pr], okF.2.2.2⟩ | exact ⟨by rw [h3, show lt = 3 by omega, show n - 4 = (n - 5) + 1 by omega]; rfl, hp2⟩) hP hD hS
        · refine lv_aload_n hx hb dX8_countFrom_65 rfl (lv_at hl 0 rfl) ?_
          refine lv_aload_n hx hb dX8_countFrom_66 rfl (lv_at hl 1 rfl) ?_
          refine lv_iload hx hb dX8_countFrom_67 (lv_at hl 8 rfl) ?_
          refine jn_callv (va_runV (As := [.ref (g.2.2.2 1), .int (nI lt)]) (rest := []) ⟨hx, hb, hml, hown, hts⟩ (c_X8_meet l g tl H.size (sF (sF σ 15 j1) 16 p1) lt ((s0.1, s0.2.1, j1, p1)) hA ⟨hW.1, hW.2.1, hW.2.2.1, rfl, rfl⟩ ⟨ho.1, by show s0.2.1.length ≤ 7; omega, ho.2.2.1, hp2⟩ (by omega)) (cwV 2 hts gX8_countFrom_X8_meet rfl rfl rfl (by decide +kernel) ⟨Nat.le_of_ble_eq_true rfl, Nat.le_of_ble_eq_true rfl⟩) (okWV hK hP hD rfl (gC35 g (sF (sF σ 15 j1) 16 p1) tl)) rfl rfl hl.1 rfl (lv_room (Nat.le_of_ble_eq_true rfl)) dX8_countFrom_69 ⟨Nat.le_of_ble_eq_true rfl, Nat.le_of_ble_eq_true rfl⟩) hD hS hAA (fun u H locs hw_ hP hD hS => ?_)
          have hP : va_P (g.1, g.2.1) vwCl (wC g (sF (sF (sF (sF (sF (sF (sF σ 15 j1) 16 p1) 12 ((meetL (σ.2.1 0) ((s0.1, s0.2.1, j1, p1)) lt).1)) 13 (pkL (meetL (σ.2.1 0) ((s0.1, s0.2.1, j1, p1)) lt).2.1)) 14 ((meetL (σ.2.1 0) ((s0.1, s0.2.1, j1, p1)) lt).2.1.length)) 15 ((meetL (σ.2.1 0) ((s0.1, s0.2.1, j1, p1)) lt).2.2.1)) 16 ((meetL (σ.2.1 0) ((s0.1, s0.2.1, j1, p1)) lt).2.2.2)) ++ tl) H := hP
          have hD : va_D A (wC g (sF (sF (sF (sF (sF (sF (sF σ 15 j1) 16 p1) 12 ((meetL (σ.2.1 0) ((s0.1, s0.2.1, j1, p1)) lt).1)) 13 (pkL (meetL (σ.2.1 0) ((s0.1, s0.2.1, j1, p1)) lt).2.1)) 14 ((meetL (σ.2.1 0) ((s0.1, s0.2.1, j1, p1)) lt).2.1.length)) 15 ((meetL (σ.2.1 0) ((s0.1, s0.2.1, j1, p1)) lt).2.2.1)) 16 ((meetL (σ.2.1 0) ((s0.1, s0.2.1, j1, p1)) lt).2.2.2)) ++ tl) := hD
          refine lv_lload hx hb dX8_countFrom_72 (lv_at hl 7 rfl) ?_
          refine lv_aload_n hx hb dX8_countFrom_74 rfl (lv_at hl 0 rfl) ?_
          refine lv_aload_n hx hb dX8_countFrom_75 rfl (lv_at hl 1 rfl) ?_
          refine lv_iload_n hx hb dX8_countFrom_76 rfl (lv_at hl 2 rfl) ?_
          refine lv_iconst (v := nI 1) hx hb dX8_countFrom_77 (by decide) ?_
          refine jn_iadd hx hb dX8_countFrom_78 ?_
          refine lv_iload_n hx hb dX8_countFrom_79 rfl (lv_at hl 3 rfl) ?_
          refine jn_calll (va_runV (As := [.ref (g.2.2.2 1), .int (nI (4 + 1)), .int (nI n)]) (rest := [.long (lN cn)]) ⟨hx, hb, hml, hown, hts⟩ (c_X8_countFrom_d5 l g tl H.size (sF (sF (sF (sF (sF (sF (sF σ 15 j1) 16 p1) 12 ((meetL (σ.2.1 0) ((s0.1, s0.2.1, j1, p1)) lt).1)) 13 (pkL (meetL (σ.2.1 0) ((s0.1, s0.2.1, j1, p1)) lt).2.1)) 14 ((meetL (σ.2.1 0) ((s0.1, s0.2.1, j1, p1)) lt).2.1.length)) 15 ((meetL (σ.2.1 0) ((s0.1, s0.2.1, j1, p1)) lt).2.2.1)) 16 ((meetL (σ.2.1 0) ((s0.1, s0.2.1, j1, p1)) lt).2.2.2)) n (meetL (σ.2.1 0) (s0.1, s0.2.1, j1, p1) lt) hA ⟨rfl, rfl, rfl, rfl, rfl⟩ (okw_meet hA.1 (s := (s0.1, s0.2.1, j1, p1)) (n := 4) ⟨ho.1, ho.2.1, ho.2.2.1, hp2⟩ (by omega)) hn (by omega)) (cwV 3 hts gX8_countFrom_X8_countFrom rfl rfl rfl (by decide +kernel) ⟨Nat.le_of_ble_eq_true rfl, Nat.le_of_ble_eq_true rfl⟩) (okWV hK hP hD rfl (gC35 g (sF (sF (sF (sF (sF (sF (sF σ 15 j1) 16 p1) 12 ((meetL (σ.2.1 0) ((s0.1, s0.2.1, j1, p1)) lt).1)) 13 (pkL (meetL (σ.2.1 0) ((s0.1, s0.2.1, j1, p1)) lt).2.1)) 14 ((meetL (σ.2.1 0) ((s0.1, s0.2.1, j1, p1)) lt).2.1.length)) 15 ((meetL (σ.2.1 0) ((s0.1, s0.2.1, j1, p1)) lt).2.2.1)) 16 ((meetL (σ.2.1 0) ((s0.1, s0.2.1, j1, p1)) lt).2.2.2)) tl)) rfl rfl hl.1 rfl (lv_room (Nat.le_of_ble_eq_true rfl)) dX8_countFrom_80 ⟨Nat.le_of_ble_eq_true rfl, Nat.le_of_ble_eq_true rfl⟩) hD hS hAA (fun r_80 u H locs hw_ hP hD hS => ?_)
          obtain ⟨m2_80, r2_80, k2_80, j2_80, p2_80⟩ := u
          obtain ⟨rfl, h_80⟩ := hw_
          have h_80 : p2_80 < 2 := h_80
          have hP : va_P (g.1, g.2.1) vwCl (wC g (sF (sF (sF (sF (sF (sF (sF (sF (sF (sF (sF (sF σ 15 j1) 16 p1) 12 ((meetL (σ.2.1 0) ((s0.1, s0.2.1, j1, p1)) lt).1)) 13 (pkL (meetL (σ.2.1 0) ((s0.1, s0.2.1, j1, p1)) lt).2.1)) 14 ((meetL (σ.2.1 0) ((s0.1, s0.2.1, j1, p1)) lt).2.1.length)) 15 ((meetL (σ.2.1 0) ((s0.1, s0.2.1, j1, p1)) lt).2.2.1)) 16 ((meetL (σ.2.1 0) ((s0.1, s0.2.1, j1, p1)) lt).2.2.2)) 12 m2_80) 13 r2_80) 14 k2_80) 15 j2_80) 16 p2_80) ++ tl) H := hP
          have hD : va_D A (wC g (sF (sF (sF (sF (sF (sF (sF (sF (sF (sF (sF (sF σ 15 j1) 16 p1) 12 ((meetL (σ.2.1 0) ((s0.1, s0.2.1, j1, p1)) lt).1)) 13 (pkL (meetL (σ.2.1 0) ((s0.1, s0.2.1, j1, p1)) lt).2.1)) 14 ((meetL (σ.2.1 0) ((s0.1, s0.2.1, j1, p1)) lt).2.1.length)) 15 ((meetL (σ.2.1 0) ((s0.1, s0.2.1, j1, p1)) lt).2.2.1)) 16 ((meetL (σ.2.1 0) ((s0.1, s0.2.1, j1, p1)) lt).2.2.2)) 12 m2_80) 13 r2_80) 14 k2_80) 15 j2_80) 16 p2_80) ++ tl) := hD
          refine jn_ladd hx hb dX8_countFrom_83 ?_
          refine lv_lstore (lv' := [(7, .long (lN (cn + (cO (σ.2.1 0) (σ.1 0) n (n - 5) (pr2 (meetL (σ.2.1 0) (s0.1, s0.2.1, j1, p1) lt)))))), (0, .ref (g.2.2.2 35)), (1, .ref (g.2.2.2 1)), (2, .int (nI 4)), (3, .int (nI n)), (4, .int (nI (σ.1 12))), (5, .int (nI (σ.1 13))), (6, .int (nI (σ.1 14))), (9, .int (nI lt))]) hx hb dX8_countFrom_84 hl (by decide) rfl (fun ls hl => ?_)
          refine lv_aload_n hx hb dX8_countFrom_86 rfl (lv_at hl 1 rfl) ?_
          refine lv_iload hx hb dX8_countFrom_87 (lv_at hl 5 rfl) ?_
          refine jn_put (D := (g.1, g.2.1)) (ci := 10) (v := .int (nI (σ.1 12))) (ty := .int) (C := RX8) (T := TX8) (N := 5) hx hb hts iX8 tyX8 tyX8_ok nmX8 hown hK.1 hP hD hS 35 (gC35 g (sF (sF (sF (sF (sF (sF (sF (sF (sF (sF (sF (sF σ 15 j1) 16 p1) 12 ((meetL (σ.2.1 0) ((s0.1, s0.2.1, j1, p1)) lt).1)) 13 (pkL (meetL (σ.2.1 0) ((s0.1, s0.2.1, j1, p1)) lt).2.1)) 14 ((meetL (σ.2.1 0) ((s0.1, s0.2.1, j1, p1)) lt).2.1.length)) 15 ((meetL (σ.2.1 0) ((s0.1, s0.2.1, j1, p1)) lt).2.2.1)) 16 ((meetL (σ.2.1 0) ((s0.1, s0.2.1, j1, p1)) lt).2.2.2)) 12 m2_80) 13 r2_80) 14 k2_80) 15 j2_80) 16 p2_80) tl) rfl 0 (by decide) k9 (fun _ h9 => h9) rfl (by decide +kernel) rfl rfl (Nat.le_of_ble_eq_true rfl) (uC_F12 g (sF (sF (sF (sF (sF (sF (sF (sF (sF (sF (sF (sF σ 15 j1) 16 p1) 12 ((meetL (σ.2.1 0) ((s0.1, s0.2.1, j1, p1)) lt).1)) 13 (pkL (meetL (σ.2.1 0) ((s0.1, s0.2.1, j1, p1)) lt).2.1)) 14 ((meetL (σ.2.1 0) ((s0.1, s0.2.1, j1, p1)) lt).2.1.length)) 15 ((meetL (σ.2.1 0) ((s0.1, s0.2.1, j1, p1)) lt).2.2.1)) 16 ((meetL (σ.2.1 0) ((s0.1, s0.2.1, j1, p1)) lt).2.2.2)) 12 m2_80) 13 r2_80) 14 k2_80) 15 j2_80) 16 p2_80) tl (σ.1 12)) dX8_countFrom_89 (fun H locs hP hD hS => ?_)
          refine lv_aload_n hx hb dX8_countFrom_92 rfl (lv_at hl 1 rfl) ?_
          refine lv_iload hx hb dX8_countFrom_93 (lv_at hl 6 rfl) ?_
          refine jn_put (D := (g.1, g.2.1)) (ci := 10) (v := .int (nI (σ.1 13))) (ty := .int) (C := RX8) (T := TX8) (N := 5) hx hb hts iX8 tyX8 tyX8_ok nmX8 hown hK.1 hP hD hS 35 (gC35 g (sF (sF (sF (sF (sF (sF (sF (sF (sF (sF (sF (sF (sF σ 15 j1) 16 p1) 12 ((meetL (σ.2.1 0) ((s0.1, s0.2.1, j1, p1)) lt).1)) 13 (pkL (meetL (σ.2.1 0) ((s0.1, s0.2.1, j1, p1)) lt).2.1)) 14 ((meetL (σ.2.1 0) ((s0.1, s0.2.1, j1, p1)) lt).2.1.length)) 15 ((meetL (σ.2.1 0) ((s0.1, s0.2.1, j1, p1)) lt).2.2.1)) 16 ((meetL (σ.2.1 0) ((s0.1, s0.2.1, j1, p1)) lt).2.2.2)) 12 m2_80) 13 r2_80) 14 k2_80) 15 j2_80) 16 p2_80) 12 (σ.1 12)) tl) rfl 1 (by decide) k15 (fun _ h9 => h9) rfl (by decide +kernel) rfl rfl (Nat.le_of_ble_eq_true rfl) (uC_F13 g (sF (sF (sF (sF (sF (sF (sF (sF (sF (sF (sF (sF (sF σ 15 j1) 16 p1) 12 ((meetL (σ.2.1 0) ((s0.1, s0.2.1, j1, p1)) lt).1)) 13 (pkL (meetL (σ.2.1 0) ((s0.1, s0.2.1, j1, p1)) lt).2.1)) 14 ((meetL (σ.2.1 0) ((s0.1, s0.2.1, j1, p1)) lt).2.1.length)) 15 ((meetL (σ.2.1 0) ((s0.1, s0.2.1, j1, p1)) lt).2.2.1)) 16 ((meetL (σ.2.1 0) ((s0.1, s0.2.1, j1, p1)) lt).2.2.2)) 12 m2_80) 13 r2_80) 14 k2_80) 15 j2_80) 16 p2_80) 12 (σ.1 12)) tl (σ.1 13)) dX8_countFrom_95 (fun H locs hP hD hS => ?_)
          refine lv_aload_n hx hb dX8_countFrom_98 rfl (lv_at hl 1 rfl) ?_
          refine lv_iload hx hb dX8_countFrom_99 (lv_at hl 7 rfl) ?_
          refine jn_put (D := (g.1, g.2.1)) (ci := 10) (v := .int (nI (σ.1 14))) (ty := .int) (C := RX8) (T := TX8) (N := 5) hx hb hts iX8 tyX8 tyX8_ok nmX8 hown hK.1 hP hD hS 35 (gC35 g (sF (sF (sF (sF (sF (sF (sF (sF (sF (sF (sF (sF (sF (sF σ 15 j1) 16 p1) 12 ((meetL (σ.2.1 0) ((s0.1, s0.2.1, j1, p1)) lt).1)) 13 (pkL (meetL (σ.2.1 0) ((s0.1, s0.2.1, j1, p1)) lt).2.1)) 14 ((meetL (σ.2.1 0) ((s0.1, s0.2.1, j1, p1)) lt).2.1.length)) 15 ((meetL (σ.2.1 0) ((s0.1, s0.2.1, j1, p1)) lt).2.2.1)) 16 ((meetL (σ.2.1 0) ((s0.1, s0.2.1, j1, p1)) lt).2.2.2)) 12 m2_80) 13 r2_80) 14 k2_80) 15 j2_80) 16 p2_80) 12 (σ.1 12)) 13 (σ.1 13)) tl) rfl 2 (by decide) k18 (fun _ h9 => h9) rfl (by decide +kernel) rfl rfl (Nat.le_of_ble_eq_true rfl) (uC_F14 g (sF (sF (sF (sF (sF (sF (sF (sF (sF (sF (sF (sF (sF (sF σ 15 j1) 16 p1) 12 ((meetL (σ.2.1 0) ((s0.1, s0.2.1, j1, p1)) lt).1)) 13 (pkL (meetL (σ.2.1 0) ((s0.1, s0.2.1, j1, p1)) lt).2.1)) 14 ((meetL (σ.2.1 0) ((s0.1, s0.2.1, j1, p1)) lt).2.1.length)) 15 ((meetL (σ.2.1 0) ((s0.1, s0.2.1, j1, p1)) lt).2.2.1)) 16 ((meetL (σ.2.1 0) ((s0.1, s0.2.1, j1, p1)) lt).2.2.2)) 12 m2_80) 13 r2_80) 14 k2_80) 15 j2_80) 16 p2_80) 12 (σ.1 12)) 13 (σ.1 13)) tl (σ.1 14)) dX8_countFrom_101 (fun H locs hP hD hS => ?_)
          refine lv_iinc (v := nI (lt + 1)) (lv' := [(9, .int (nI (lt + 1))), (7, .long (lN (cn + (cO (σ.2.1 0) (σ.1 0) n (n - 5) (pr2 (meetL (σ.2.1 0) (s0.1, s0.2.1, j1, p1) lt)))))), (0, .ref (g.2.2.2 35)), (1, .ref (g.2.2.2 1)), (2, .int (nI 4)), (3, .int (nI n)), (4, .int (nI (σ.1 12))), (5, .int (nI (σ.1 13))), (6, .int (nI (σ.1 14)))]) hx hb dX8_countFrom_104 hl (k := 8) rfl (jn_ii _ 1) (by decide) rfl (fun ls hl => ?_)
          refine lv_goto (tgt := 59) hx hb dX8_countFrom_107 (by decide) ?_
          exact ih59 (lt + 1) (cn + (cO (σ.2.1 0) (σ.1 0) n (n - 5) (pr2 (meetL (σ.2.1 0) (s0.1, s0.2.1, j1, p1) lt)))) j2_80 p2_80 (by omega) (by rw [h3, mM_pr]; rfl) h_80 (by omega) _ _ hP hD hS _ (lv_sub hl [2, 3, 4, 5, 6, 7, 8, 1, 0] rfl)
    exact lp59 _ 0 0 (σ.1 15) (σ.1 16) (by decide) rfl (by have := ho.2.2.2; have := hW.2.2.2.2; omega) (Nat.lt_succ_self _) _ _ hP hD hS _ (lv_sub hl [5, 6, 7, 8, 4, 3, 2, 1, 0] rfl)

abbrev r_c_X8_countFrom_d3 : Room := { frames := 8, cells := 0, slots := 0, locals := 207 }
set_option maxHeartbeats 4000000 in
set_option maxRecDepth 100000 in
theorem c_X8_countFrom_d3 (l : Launch) (g : GC) (tl : va_W) (sz : Nat) (σ : SS) (n : Nat) (s0 : OW) (hA : OkA σ) (hW : OwIs σ s0) (ho : OkW s0 3) (hn : n ≤ 7) (hd : 3 ≤ n) : Met l yX8_countFrom wsX8_countFrom r_c_X8_countFrom_d3 (va_Pc [.ref (g.2.2.2 35), .ref (g.2.2.2 1), .int (nI 3), .int (nI n)] (PW g (wC g σ ++ tl) sz)) (va_Ql (fun (r : Int64) (z : Nat × Nat × Nat × Nat × Nat) => match z with | (m2, r2, k2, j2, p2) => (r = lN (cO (σ.2.1 0) (σ.1 0) n (n - 3) (pr2 s0))) ∧ (p2 < 2)) (fun (z : Nat × Nat × Nat × Nat × Nat) t => BW g (va_A (wC g σ ++ tl) sz) ((fun z : Nat × Nat × Nat × Nat × Nat => match z with | (m2, r2, k2, j2, p2) => wC g (sF (sF (sF (sF (sF σ 12 m2) 13 r2) 14 k2) 15 j2) 16 p2) ++ tl) z) t) (va_A (wC g σ ++ tl) sz)) 0 0 (va_A (wC g σ ++ tl) sz) := by
  refine jn_sl (wf := fun z : Nat × Nat × Nat × Nat × Nat => match z with | (m2, r2, k2, j2, p2) => wC g (sF (sF (sF (sF (sF σ 12 m2) 13 r2) 14 k2) 15 j2) 16 p2) ++ tl) (cc := cX8_countFrom) (maxL := 10) (own := RX8) (by decide) rfl rfl (Nat.le_of_ble_eq_true rfl) ?_
  intro p e s m below meth c Q A hx hb hml hown hts hK hP hD hS hAA hq ls hl
  obtain ⟨H, eH⟩ : ∃ z, z = s.heap := ⟨_, rfl⟩
  obtain ⟨locs, el⟩ : ∃ z : List Loc, z = [] := ⟨_, rfl⟩
  rw [← eH] at hP
  have hS : va_S A s.heap H locs := by rw [eH, el]; exact hS
  have goal0 : W p l e r_c_X8_countFrom_d3 s m ([.ref (g.2.2.2 35), .ref (g.2.2.2 1), .int (nI 3), .int (nI n)] : List Value).toArray below meth c H locs 0 0 Q (F0 m 0 ls []) → W p l e r_c_X8_countFrom_d3 s m ([.ref (g.2.2.2 35), .ref (g.2.2.2 1), .int (nI 3), .int (nI n)] : List Value).toArray below meth c s.heap [] 0 0 Q (F0 m 0 ls []) := fun h => by rw [eH, el] at h; exact h
  refine goal0 ?_
  have hl : lv_has ls 10 [(0, .ref (g.2.2.2 35)), (1, .ref (g.2.2.2 1)), (2, .int (nI 3)), (3, .int (nI n))] := hl
  have iX8 : ∀ w ∈ wsX80, w ∈ wsX8_countFrom := by decide +kernel
  have k9 := hts (.fieldLink RX8 9 "JumpingAutomata$OneWayReader" "state" "I") (by decide +kernel)
  have k15 := hts (.fieldLink RX8 15 "JumpingAutomata$OneWayReader" "rest" "I") (by decide +kernel)
  have k18 := hts (.fieldLink RX8 18 "JumpingAutomata$OneWayReader" "restSize" "I") (by decide +kernel)
  have ho8 := ho.2.1
  have okF := okw_fin hA.1 8 n s0 8 ⟨ho.1, by omega, ho.2.2⟩
  refine lv_aload_n hx hb dX8_countFrom_0 rfl (lv_at hl 0 rfl) ?_
  refine va_get (D := (g.1, g.2.1)) (ci := 10) (v := .int (nI (σ.1 12))) (C := RX8) (T := TX8) (N := 5) hx hb hts iX8 hown hK.1 hP 35 (gC35 g σ tl) rfl 0 (by decide) k9 (fun _ h9 => h9) rfl dX8_countFrom_1 ?_
  refine lv_istore (lv' := [(4, .int (nI (σ.1 12))), (0, .ref (g.2.2.2 35)), (1, .ref (g.2.2.2 1)), (2, .int (nI 3)), (3, .int (nI n))]) hx hb dX8_countFrom_4 hl (by decide) rfl (fun ls hl => ?_)
  refine lv_aload_n hx hb dX8_countFrom_6 rfl (lv_at hl 1 rfl) ?_
  refine va_get (D := (g.1, g.2.1)) (ci := 10) (v := .int (nI (σ.1 13))) (C := RX8) (T := TX8) (N := 5) hx hb hts iX8 hown hK.1 hP 35 (gC35 g σ tl) rfl 1 (by decide) k15 (fun _ h9 => h9) rfl dX8_countFrom_7 ?_
  refine lv_istore (lv' := [(5, .int (nI (σ.1 13))), (4, .int (nI (σ.1 12))), (0, .ref (g.2.2.2 35)), (1, .ref (g.2.2.2 1)), (2, .int (nI 3)), (3, .int (nI n))]) hx hb dX8_countFrom_10 hl (by decide) rfl (fun ls hl => ?_)
  refine lv_aload_n hx hb dX8_countFrom_12 rfl (lv_at hl 2 rfl) ?_
  refine va_get (D := (g.1, g.2.1)) (ci := 10) (v := .int (nI (σ.1 14))) (C := RX8) (T := TX8) (N := 5) hx hb hts iX8 hown hK.1 hP 35 (gC35 g σ tl) rfl 2 (by decide) k18 (fun _ h9 => h9) rfl dX8_countFrom_13 ?_
  refine lv_istore (lv' := [(6, .int (nI (σ.1 14))), (5, .int (nI (σ.1 13))), (4, .int (nI (σ.1 12))), (0, .ref (g.2.2.2 35)), (1, .ref (g.2.2.2 1)), (2, .int (nI 3)), (3, .int (nI n))]) hx hb dX8_countFrom_16 hl (by decide) rfl (fun ls hl => ?_)
  refine lv_lconst (v := lN 0) hx hb dX8_countFrom_18 (by decide) ?_
  refine lv_lstore (lv' := [(7, .long (lN 0)), (6, .int (nI (σ.1 14))), (5, .int (nI (σ.1 13))), (4, .int (nI (σ.1 12))), (0, .ref (g.2.2.2 35)), (1, .ref (g.2.2.2 1)), (2, .int (nI 3)), (3, .int (nI n))]) hx hb dX8_countFrom_19 hl (by decide) rfl (fun ls hl => ?_)
  refine lv_iload_n hx hb dX8_countFrom_21 rfl (lv_at hl 6 rfl) ?_
  refine lv_iload_n hx hb dX8_countFrom_22 rfl (lv_at hl 7 rfl) ?_
  refine jn_cge hx hb (by decide) (by omega) (tgt := 32) dX8_countFrom_23 (by decide) (fun c_23 => ?_) (fun c_23 => ?_)
  · refine lv_aload_n hx hb dX8_countFrom_32 rfl (lv_at hl 4 rfl) ?_
    refine lv_aload_n hx hb dX8_countFrom_33 rfl (lv_at hl 5 rfl) ?_
    refine lv_iload_n hx hb dX8_countFrom_34 rfl (lv_at hl 7 rfl) ?_
    refine jn_callv (va_runV (As := [.ref (g.2.2.2 1), .int (nI n)]) (rest := []) ⟨hx, hb, hml, hown, hts⟩ (c_X8_finish l g tl H.size σ n s0 hA hW ⟨ho.1, by omega, ho.2.2⟩ (by omega)) (cwV 2 hts gX8_countFrom_X8_finish rfl rfl rfl (by decide +kernel) ⟨Nat.le_of_ble_eq_true rfl, Nat.le_of_ble_eq_true rfl⟩) (okWV hK hP hD rfl (gC35 g σ tl)) rfl rfl hl.1 rfl (lv_room (Nat.le_of_ble_eq_true rfl)) dX8_countFrom_35 ⟨Nat.le_of_ble_eq_true rfl, Nat.le_of_ble_eq_true rfl⟩) hD hS hAA (fun u H locs hw_ hP hD hS => ?_)
    have hP : va_P (g.1, g.2.1) vwCl (wC g (sF (sF (sF (sF (sF σ 12 ((finL (σ.2.1 0) 8 n s0).1)) 13 (pkL (finL (σ.2.1 0) 8 n s0).2.1)) 14 ((finL (σ.2.1 0) 8 n s0).2.1.length)) 15 ((finL (σ.2.1 0) 8 n s0).2.2.1)) 16 ((finL (σ.2.1 0) 8 n s0).2.2.2)) ++ tl) H := hP
    have hD : va_D A (wC g (sF (sF (sF (sF (sF σ 12 ((finL (σ.2.1 0) 8 n s0).1)) 13 (pkL (finL (σ.2.1 0) 8 n s0).2.1)) 14 ((finL (σ.2.1 0) 8 n s0).2.1.length)) 15 ((finL (σ.2.1 0) 8 n s0).2.2.1)) 16 ((finL (σ.2.1 0) 8 n s0).2.2.2)) ++ tl) := hD
    refine lv_aload_n hx hb dX8_countFrom_38 rfl (lv_at hl 4 rfl) ?_
    refine lv_aload_n hx hb dX8_countFrom_39 rfl (lv_at hl 5 rfl) ?_
    refine vp_callSi (va_Run.run (va_runV (As := [.ref (g.2.2.2 1)]) (rest := []) ⟨hx, hb, hml, hown, hts⟩ (c_X8_accepted l g tl (sF (sF (sF (sF (sF σ 12 ((finL (σ.2.1 0) 8 n s0).1)) 13 (pkL (finL (σ.2.1 0) 8 n s0).2.1)) 14 ((finL (σ.2.1 0) 8 n s0).2.1.length)) 15 ((finL (σ.2.1 0) 8 n s0).2.2.1)) 16 ((finL (σ.2.1 0) 8 n s0).2.2.2)) hA (show (finL (σ.2.1 0) 8 n s0).2.1.length < 4294967296 by have := okF.2.1; omega)) (cwV 1 hts gX8_countFrom_X8_accepted rfl rfl rfl (by decide +kernel) ⟨Nat.le_of_ble_eq_true rfl, Nat.le_of_ble_eq_true rfl⟩) (okPV hK hP rfl (gC35 g (sF (sF (sF (sF (sF σ 12 ((finL (σ.2.1 0) 8 n s0).1)) 13 (pkL (finL (σ.2.1 0) 8 n s0).2.1)) 14 ((finL (σ.2.1 0) 8 n s0).2.1.length)) 15 ((finL (σ.2.1 0) 8 n s0).2.2.1)) 16 ((finL (σ.2.1 0) 8 n s0).2.2.2)) tl)) rfl rfl hl.1 rfl (lv_room (Nat.le_of_ble_eq_true rfl)) dX8_countFrom_40 ⟨Nat.le_of_ble_eq_true rfl, Nat.le_of_ble_eq_true rfl⟩)) (fun r_40 h_40 => ?_)
    have h_40 : r_40 = (nI (if ((finL (σ.2.1 0) 8 n s0).2.1.length) = 0 ∧ ((finL (σ.2.1 0) 8 n s0).1) &&& σ.1 0 ≠ 0 then 1 else 0)) := h_40
    subst h_40
    have jp51 : ∀ v51 : Nat, v51 = (if (finL (σ.2.1 0) 8 n s0).2.1.length = 0 ∧ (finL (σ.2.1 0) 8 n s0).1 &&& (σ.1 0) ≠ 0 then 1 else 0) → W p l e r_c_X8_countFrom_d3 s m ([.ref (g.2.2.2 35), .ref (g.2.2.2 1), .int (nI 3), .int (nI n)] : List Value).toArray below meth c H locs 0 0 Q (F0 m 51 ls [.long (lN v51)]) := by
      intro v51 ev51
      refine lv_lstore (lv' := [(7, .long (lN v51)), (6, .int (nI (σ.1 14))), (5, .int (nI (σ.1 13))), (4, .int (nI (σ.1 12))), (0, .ref (g.2.2.2 35)), (1, .ref (g.2.2.2 1)), (2, .int (nI 3)), (3, .int (nI n))]) hx hb dX8_countFrom_51 hl (by decide) rfl (fun ls hl => ?_)
      refine lv_goto (tgt := 110) hx hb dX8_countFrom_53 (by decide) ?_
      refine lv_lload hx hb dX8_countFrom_110 (lv_at hl 0 rfl) ?_
      exact hq _ _ _ _ ((lN v51)) (((finL (σ.2.1 0) 8 n s0).1), (pkL (finL (σ.2.1 0) 8 n s0).2.1), ((finL (σ.2.1 0) 8 n s0).2.1.length), ((finL (σ.2.1 0) 8 n s0).2.2.1), ((finL (σ.2.1 0) 8 n s0).2.2.2)) dX8_countFrom_112 (by first | exact ⟨by rw [ev51, show n - 3 = 0 by omega, cO, ← fin_pr], okF.2.2.2⟩ | exact ⟨by rw [h3, show lt = 3 by omega, show n - 3 = (n - 4) + 1 by omega]; rfl, hp2⟩) hP hD hS
    refine jn_beq hx hb (tgt := 50) dX8_countFrom_43 (by decide) (fun c_43 => ?_) (fun c_43 => ?_)
    · refine lv_lconst (v := lN 0) hx hb dX8_countFrom_50 (by decide) ?_
      exact jp51 0 (by rw [if_neg c_43])
    · refine lv_lconst (v := lN 1) hx hb dX8_countFrom_46 (by decide) ?_
      refine lv_goto (tgt := 51) hx hb dX8_countFrom_47 (by decide) ?_
      exact jp51 1 (by rw [if_pos c_43])
  · refine lv_iload_n hx hb dX8_countFrom_26 rfl (lv_at hl 6 rfl) ?_
    refine lv_bipush (v := nI 8) hx hb dX8_countFrom_27 (by decide) ?_
    refine jn_clt hx hb (by decide) (by decide) (tgt := 56) dX8_countFrom_29 (by decide) (fun c_29 => ?_) (fun c_29 => absurd c_29 (by decide))
    refine lv_iconst (v := nI 0) hx hb dX8_countFrom_56 (by decide) ?_
    refine lv_istore (lv' := [(9, .int (nI 0)), (7, .long (lN 0)), (6, .int (nI (σ.1 14))), (5, .int (nI (σ.1 13))), (4, .int (nI (σ.1 12))), (0, .ref (g.2.2.2 35)), (1, .ref (g.2.2.2 1)), (2, .int (nI 3)), (3, .int (nI n))]) hx hb dX8_countFrom_57 hl (by decide) rfl (fun ls hl => ?_)
    have lp59 : ∀ (fu : Nat), ∀ (lt : Nat) (cn : Nat) (j1 : Nat) (p1 : Nat), (lt ≤ 3) → (cn = fb_sm (fun x => cO (σ.2.1 0) (σ.1 0) n (n - 4) (mM (σ.2.1 0) (pr2 s0) x)) lt) → (p1 < 2) → 3 - lt < fu → ∀ (H : Heap) (locs : List Loc), va_P (g.1, g.2.1) vwCl (wC g (sF (sF σ 15 j1) 16 p1) ++ tl) H → va_D A (wC g (sF (sF σ 15 j1) 16 p1) ++ tl) → va_S A s.heap H locs → ∀ ls : Array Slot, lv_has ls 10 [(0, .ref (g.2.2.2 35)), (1, .ref (g.2.2.2 1)), (2, .int (nI 3)), (3, .int (nI n)), (4, .int (nI (σ.1 12))), (5, .int (nI (σ.1 13))), (6, .int (nI (σ.1 14))), (7, .long (lN cn)), (9, .int (nI lt))] → W p l e r_c_X8_countFrom_d3 s m ([.ref (g.2.2.2 35), .ref (g.2.2.2 1), .int (nI 3), .int (nI n)] : List Value).toArray below meth c H locs 0 0 Q (F0 m 59 ls []) := by
      intro fu
      induction fu with
      | zero => intro lt cn j1 p1 h2 h3 hp2 hf; exact absurd hf (Nat.not_lt_zero _)
      | succ fu ih59 =>
        intro lt cn j1 p1 h2 h3 hp2 hf H locs hP hD hS ls hl
        refine lv_iload hx hb dX8_countFrom_59 (lv_at hl 8 rfl) ?_
        refine lv_iconst (v := nI 3) hx hb dX8_countFrom_61 (by decide) ?_
        refine jn_cge hx hb (by omega) (by decide) (tgt := 110) dX8_countFrom_62 (by decide) (fun c_62 => ?_) (fun c_62 => ?_)
        · refine lv_lload hx hb dX8_countFrom_110 (lv_at hl 7 rfl) ?_
          exact hq _ _ _ _ ((lN cn)) ((σ.1 12), (σ.1 13), (σ.1 14), j1, p1) dX8_countFrom_112 (by first | exact ⟨by rw [ev51, show n - 3 = 0 by omega, cO, ← fin_pr], okF.2.2.2⟩ | exact ⟨by rw [h3, show lt = 3 by omega, show n - 3 = (n - 4) + 1 by omega]; rfl, hp2⟩) hP hD hS
        · refine lv_aload_n hx hb dX8_countFrom_65 rfl (lv_at hl 0 rfl) ?_
          refine lv_aload_n hx hb dX8_countFrom_66 rfl (lv_at hl 1 rfl) ?_
          refine lv_iload hx hb dX8_countFrom_67 (lv_at hl 8 rfl) ?_
          refine jn_callv (va_runV (As := [.ref (g.2.2.2 1), .int (nI lt)]) (rest := []) ⟨hx, hb, hml, hown, hts⟩ (c_X8_meet l g tl H.size (sF (sF σ 15 j1) 16 p1) lt ((s0.1, s0.2.1, j1, p1)) hA ⟨hW.1, hW.2.1, hW.2.2.1, rfl, rfl⟩ ⟨ho.1, by show s0.2.1.length ≤ 7; omega, ho.2.2.1, hp2⟩ (by omega)) (cwV 2 hts gX8_countFrom_X8_meet rfl rfl rfl (by decide +kernel) ⟨Nat.le_of_ble_eq_true rfl, Nat.le_of_ble_eq_true rfl⟩) (okWV hK hP hD rfl (gC35 g (sF (sF σ 15 j1) 16 p1) tl)) rfl rfl hl.1 rfl (lv_room (Nat.le_of_ble_eq_true rfl)) dX8_countFrom_69 ⟨Nat.le_of_ble_eq_true rfl, Nat.le_of_ble_eq_true rfl⟩) hD hS hAA (fun u H locs hw_ hP hD hS => ?_)
          have hP : va_P (g.1, g.2.1) vwCl (wC g (sF (sF (sF (sF (sF (sF (sF σ 15 j1) 16 p1) 12 ((meetL (σ.2.1 0) ((s0.1, s0.2.1, j1, p1)) lt).1)) 13 (pkL (meetL (σ.2.1 0) ((s0.1, s0.2.1, j1, p1)) lt).2.1)) 14 ((meetL (σ.2.1 0) ((s0.1, s0.2.1, j1, p1)) lt).2.1.length)) 15 ((meetL (σ.2.1 0) ((s0.1, s0.2.1, j1, p1)) lt).2.2.1)) 16 ((meetL (σ.2.1 0) ((s0.1, s0.2.1, j1, p1)) lt).2.2.2)) ++ tl) H := hP
          have hD : va_D A (wC g (sF (sF (sF (sF (sF (sF (sF σ 15 j1) 16 p1) 12 ((meetL (σ.2.1 0) ((s0.1, s0.2.1, j1, p1)) lt).1)) 13 (pkL (meetL (σ.2.1 0) ((s0.1, s0.2.1, j1, p1)) lt).2.1)) 14 ((meetL (σ.2.1 0) ((s0.1, s0.2.1, j1, p1)) lt).2.1.length)) 15 ((meetL (σ.2.1 0) ((s0.1, s0.2.1, j1, p1)) lt).2.2.1)) 16 ((meetL (σ.2.1 0) ((s0.1, s0.2.1, j1, p1)) lt).2.2.2)) ++ tl) := hD
          refine lv_lload hx hb dX8_countFrom_72 (lv_at hl 7 rfl) ?_
          refine lv_aload_n hx hb dX8_countFrom_74 rfl (lv_at hl 0 rfl) ?_
          refine lv_aload_n hx hb dX8_countFrom_75 rfl (lv_at hl 1 rfl) ?_
          refine lv_iload_n hx hb dX8_countFrom_76 rfl (lv_at hl 2 rfl) ?_
          refine lv_iconst (v := nI 1) hx hb dX8_countFrom_77 (by decide) ?_
          refine jn_iadd hx hb dX8_countFrom_78 ?_
          refine lv_iload_n hx hb dX8_countFrom_79 rfl (lv_at hl 3 rfl) ?_
          refine jn_calll (va_runV (As := [.ref (g.2.2.2 1), .int (nI (3 + 1)), .int (nI n)]) (rest := [.long (lN cn)]) ⟨hx, hb, hml, hown, hts⟩ (c_X8_countFrom_d4 l g tl H.size (sF (sF (sF (sF (sF (sF (sF σ 15 j1) 16 p1) 12 ((meetL (σ.2.1 0) ((s0.1, s0.2.1, j1, p1)) lt).1)) 13 (pkL (meetL (σ.2.1 0) ((s0.1, s0.2.1, j1, p1)) lt).2.1)) 14 ((meetL (σ.2.1 0) ((s0.1, s0.2.1, j1, p1)) lt).2.1.length)) 15 ((meetL (σ.2.1 0) ((s0.1, s0.2.1, j1, p1)) lt).2.2.1)) 16 ((meetL (σ.2.1 0) ((s0.1, s0.2.1, j1, p1)) lt).2.2.2)) n (meetL (σ.2.1 0) (s0.1, s0.2.1, j1, p1) lt) hA ⟨rfl, rfl, rfl, rfl, rfl⟩ (okw_meet hA.1 (s := (s0.1, s0.2.1, j1, p1)) (n := 3) ⟨ho.1, ho.2.1, ho.2.2.1, hp2⟩ (by omega)) hn (by omega)) (cwV 3 hts gX8_countFrom_X8_countFrom rfl rfl rfl (by decide +kernel) ⟨Nat.le_of_ble_eq_true rfl, Nat.le_of_ble_eq_true rfl⟩) (okWV hK hP hD rfl (gC35 g (sF (sF (sF (sF (sF (sF (sF σ 15 j1) 16 p1) 12 ((meetL (σ.2.1 0) ((s0.1, s0.2.1, j1, p1)) lt).1)) 13 (pkL (meetL (σ.2.1 0) ((s0.1, s0.2.1, j1, p1)) lt).2.1)) 14 ((meetL (σ.2.1 0) ((s0.1, s0.2.1, j1, p1)) lt).2.1.length)) 15 ((meetL (σ.2.1 0) ((s0.1, s0.2.1, j1, p1)) lt).2.2.1)) 16 ((meetL (σ.2.1 0) ((s0.1, s0.2.1, j1, p1)) lt).2.2.2)) tl)) rfl rfl hl.1 rfl (lv_room (Nat.le_of_ble_eq_true rfl)) dX8_countFrom_80 ⟨Nat.le_of_ble_eq_true rfl, Nat.le_of_ble_eq_true rfl⟩) hD hS hAA (fun r_80 u H locs hw_ hP hD hS => ?_)
          obtain ⟨m2_80, r2_80, k2_80, j2_80, p2_80⟩ := u
          obtain ⟨rfl, h_80⟩ := hw_
          have h_80 : p2_80 < 2 := h_80
          have hP : va_P (g.1, g.2.1) vwCl (wC g (sF (sF (sF (sF (sF (sF (sF (sF (sF (sF (sF (sF σ 15 j1) 16 p1) 12 ((meetL (σ.2.1 0) ((s0.1, s0.2.1, j1, p1)) lt).1)) 13 (pkL (meetL (σ.2.1 0) ((s0.1, s0.2.1, j1, p1)) lt).2.1)) 14 ((meetL (σ.2.1 0) ((s0.1, s0.2.1, j1, p1)) lt).2.1.length)) 15 ((meetL (σ.2.1 0) ((s0.1, s0.2.1, j1, p1)) lt).2.2.1)) 16 ((meetL (σ.2.1 0) ((s0.1, s0.2.1, j1, p1)) lt).2.2.2)) 12 m2_80) 13 r2_80) 14 k2_80) 15 j2_80) 16 p2_80) ++ tl) H := hP
          have hD : va_D A (wC g (sF (sF (sF (sF (sF (sF (sF (sF (sF (sF (sF (sF σ 15 j1) 16 p1) 12 ((meetL (σ.2.1 0) ((s0.1, s0.2.1, j1, p1)) lt).1)) 13 (pkL (meetL (σ.2.1 0) ((s0.1, s0.2.1, j1, p1)) lt).2.1)) 14 ((meetL (σ.2.1 0) ((s0.1, s0.2.1, j1, p1)) lt).2.1.length)) 15 ((meetL (σ.2.1 0) ((s0.1, s0.2.1, j1, p1)) lt).2.2.1)) 16 ((meetL (σ.2.1 0) ((s0.1, s0.2.1, j1, p1)) lt).2.2.2)) 12 m2_80) 13 r2_80) 14 k2_80) 15 j2_80) 16 p2_80) ++ tl) := hD
          refine jn_ladd hx hb dX8_countFrom_83 ?_
          refine lv_lstore (lv' := [(7, .long (lN (cn + (cO (σ.2.1 0) (σ.1 0) n (n - 4) (pr2 (meetL (σ.2.1 0) (s0.1, s0.2.1, j1, p1) lt)))))), (0, .ref (g.2.2.2 35)), (1, .ref (g.2.2.2 1)), (2, .int (nI 3)), (3, .int (nI n)), (4, .int (nI (σ.1 12))), (5, .int (nI (σ.1 13))), (6, .int (nI (σ.1 14))), (9, .int (nI lt))]) hx hb dX8_countFrom_84 hl (by decide) rfl (fun ls hl => ?_)
          refine lv_aload_n hx hb dX8_countFrom_86 rfl (lv_at hl 1 rfl) ?_
          refine lv_iload hx hb dX8_countFrom_87 (lv_at hl 5 rfl) ?_
          refine jn_put (D := (g.1, g.2.1)) (ci := 10) (v := .int (nI (σ.1 12))) (ty := .int) (C := RX8) (T := TX8) (N := 5) hx hb hts iX8 tyX8 tyX8_ok nmX8 hown hK.1 hP hD hS 35 (gC35 g (sF (sF (sF (sF (sF (sF (sF (sF (sF (sF (sF (sF σ 15 j1) 16 p1) 12 ((meetL (σ.2.1 0) ((s0.1, s0.2.1, j1, p1)) lt).1)) 13 (pkL (meetL (σ.2.1 0) ((s0.1, s0.2.1, j1, p1)) lt).2.1)) 14 ((meetL (σ.2.1 0) ((s0.1, s0.2.1, j1, p1)) lt).2.1.length)) 15 ((meetL (σ.2.1 0) ((s0.1, s0.2.1, j1, p1)) lt).2.2.1)) 16 ((meetL (σ.2.1 0) ((s0.1, s0.2.1, j1, p1)) lt).2.2.2)) 12 m2_80) 13 r2_80) 14 k2_80) 15 j2_80) 16 p2_80) tl) rfl 0 (by decide) k9 (fun _ h9 => h9) rfl (by decide +kernel) rfl rfl (Nat.le_of_ble_eq_true rfl) (uC_F12 g (sF (sF (sF (sF (sF (sF (sF (sF (sF (sF (sF (sF σ 15 j1) 16 p1) 12 ((meetL (σ.2.1 0) ((s0.1, s0.2.1, j1, p1)) lt).1)) 13 (pkL (meetL (σ.2.1 0) ((s0.1, s0.2.1, j1, p1)) lt).2.1)) 14 ((meetL (σ.2.1 0) ((s0.1, s0.2.1, j1, p1)) lt).2.1.length)) 15 ((meetL (σ.2.1 0) ((s0.1, s0.2.1, j1, p1)) lt).2.2.1)) 16 ((meetL (σ.2.1 0) ((s0.1, s0.2.1, j1, p1)) lt).2.2.2)) 12 m2_80) 13 r2_80) 14 k2_80) 15 j2_80) 16 p2_80) tl (σ.1 12)) dX8_countFrom_89 (fun H locs hP hD hS => ?_)
          refine lv_aload_n hx hb dX8_countFrom_92 rfl (lv_at hl 1 rfl) ?_
          refine lv_iload hx hb dX8_countFrom_93 (lv_at hl 6 rfl) ?_
          refine jn_put (D := (g.1, g.2.1)) (ci := 10) (v := .int (nI (σ.1 13))) (ty := .int) (C := RX8) (T := TX8) (N := 5) hx hb hts iX8 tyX8 tyX8_ok nmX8 hown hK.1 hP hD hS 35 (gC35 g (sF (sF (sF (sF (sF (sF (sF (sF (sF (sF (sF (sF (sF σ 15 j1) 16 p1) 12 ((meetL (σ.2.1 0) ((s0.1, s0.2.1, j1, p1)) lt).1)) 13 (pkL (meetL (σ.2.1 0) ((s0.1, s0.2.1, j1, p1)) lt).2.1)) 14 ((meetL (σ.2.1 0) ((s0.1, s0.2.1, j1, p1)) lt).2.1.length)) 15 ((meetL (σ.2.1 0) ((s0.1, s0.2.1, j1, p1)) lt).2.2.1)) 16 ((meetL (σ.2.1 0) ((s0.1, s0.2.1, j1, p1)) lt).2.2.2)) 12 m2_80) 13 r2_80) 14 k2_80) 15 j2_80) 16 p2_80) 12 (σ.1 12)) tl) rfl 1 (by decide) k15 (fun _ h9 => h9) rfl (by decide +kernel) rfl rfl (Nat.le_of_ble_eq_true rfl) (uC_F13 g (sF (sF (sF (sF (sF (sF (sF (sF (sF (sF (sF (sF (sF σ 15 j1) 16 p1) 12 ((meetL (σ.2.1 0) ((s0.1, s0.2.1, j1, p1)) lt).1)) 13 (pkL (meetL (σ.2.1 0) ((s0.1, s0.2.1, j1, p1)) lt).2.1)) 14 ((meetL (σ.2.1 0) ((s0.1, s0.2.1, j1, p1)) lt).2.1.length)) 15 ((meetL (σ.2.1 0) ((s0.1, s0.2.1, j1, p1)) lt).2.2.1)) 16 ((meetL (σ.2.1 0) ((s0.1, s0.2.1, j1, p1)) lt).2.2.2)) 12 m2_80) 13 r2_80) 14 k2_80) 15 j2_80) 16 p2_80) 12 (σ.1 12)) tl (σ.1 13)) dX8_countFrom_95 (fun H locs hP hD hS => ?_)
          refine lv_aload_n hx hb dX8_countFrom_98 rfl (lv_at hl 1 rfl) ?_
          refine lv_iload hx hb dX8_countFrom_99 (lv_at hl 7 rfl) ?_
          refine jn_put (D := (g.1, g.2.1)) (ci := 10) (v := .int (nI (σ.1 14))) (ty := .int) (C := RX8) (T := TX8) (N := 5) hx hb hts iX8 tyX8 tyX8_ok nmX8 hown hK.1 hP hD hS 35 (gC35 g (sF (sF (sF (sF (sF (sF (sF (sF (sF (sF (sF (sF (sF (sF σ 15 j1) 16 p1) 12 ((meetL (σ.2.1 0) ((s0.1, s0.2.1, j1, p1)) lt).1)) 13 (pkL (meetL (σ.2.1 0) ((s0.1, s0.2.1, j1, p1)) lt).2.1)) 14 ((meetL (σ.2.1 0) ((s0.1, s0.2.1, j1, p1)) lt).2.1.length)) 15 ((meetL (σ.2.1 0) ((s0.1, s0.2.1, j1, p1)) lt).2.2.1)) 16 ((meetL (σ.2.1 0) ((s0.1, s0.2.1, j1, p1)) lt).2.2.2)) 12 m2_80) 13 r2_80) 14 k2_80) 15 j2_80) 16 p2_80) 12 (σ.1 12)) 13 (σ.1 13)) tl) rfl 2 (by decide) k18 (fun _ h9 => h9) rfl (by decide +kernel) rfl rfl (Nat.le_of_ble_eq_true rfl) (uC_F14 g (sF (sF (sF (sF (sF (sF (sF (sF (sF (sF (sF (sF (sF (sF σ 15 j1) 16 p1) 12 ((meetL (σ.2.1 0) ((s0.1, s0.2.1, j1, p1)) lt).1)) 13 (pkL (meetL (σ.2.1 0) ((s0.1, s0.2.1, j1, p1)) lt).2.1)) 14 ((meetL (σ.2.1 0) ((s0.1, s0.2.1, j1, p1)) lt).2.1.length)) 15 ((meetL (σ.2.1 0) ((s0.1, s0.2.1, j1, p1)) lt).2.2.1)) 16 ((meetL (σ.2.1 0) ((s0.1, s0.2.1, j1, p1)) lt).2.2.2)) 12 m2_80) 13 r2_80) 14 k2_80) 15 j2_80) 16 p2_80) 12 (σ.1 12)) 13 (σ.1 13)) tl (σ.1 14)) dX8_countFrom_101 (fun H locs hP hD hS => ?_)
          refine lv_iinc (v := nI (lt + 1)) (lv' := [(9, .int (nI (lt + 1))), (7, .long (lN (cn + (cO (σ.2.1 0) (σ.1 0) n (n - 4) (pr2 (meetL (σ.2.1 0) (s0.1, s0.2.1, j1, p1) lt)))))), (0, .ref (g.2.2.2 35)), (1, .ref (g.2.2.2 1)), (2, .int (nI 3)), (3, .int (nI n)), (4, .int (nI (σ.1 12))), (5, .int (nI (σ.1 13))), (6, .int (nI (σ.1 14)))]) hx hb dX8_countFrom_104 hl (k := 8) rfl (jn_ii _ 1) (by decide) rfl (fun ls hl => ?_)
          refine lv_goto (tgt := 59) hx hb dX8_countFrom_107 (by decide) ?_
          exact ih59 (lt + 1) (cn + (cO (σ.2.1 0) (σ.1 0) n (n - 4) (pr2 (meetL (σ.2.1 0) (s0.1, s0.2.1, j1, p1) lt)))) j2_80 p2_80 (by omega) (by rw [h3, mM_pr]; rfl) h_80 (by omega) _ _ hP hD hS _ (lv_sub hl [2, 3, 4, 5, 6, 7, 8, 1, 0] rfl)
    exact lp59 _ 0 0 (σ.1 15) (σ.1 16) (by decide) rfl (by have := ho.2.2.2; have := hW.2.2.2.2; omega) (Nat.lt_succ_self _) _ _ hP hD hS _ (lv_sub hl [5, 6, 7, 8, 4, 3, 2, 1, 0] rfl)

abbrev r_c_X8_countFrom_d2 : Room := { frames := 9, cells := 0, slots := 0, locals := 236 }
set_option maxHeartbeats 4000000 in
set_option maxRecDepth 100000 in
theorem c_X8_countFrom_d2 (l : Launch) (g : GC) (tl : va_W) (sz : Nat) (σ : SS) (n : Nat) (s0 : OW) (hA : OkA σ) (hW : OwIs σ s0) (ho : OkW s0 2) (hn : n ≤ 7) (hd : 2 ≤ n) : Met l yX8_countFrom wsX8_countFrom r_c_X8_countFrom_d2 (va_Pc [.ref (g.2.2.2 35), .ref (g.2.2.2 1), .int (nI 2), .int (nI n)] (PW g (wC g σ ++ tl) sz)) (va_Ql (fun (r : Int64) (z : Nat × Nat × Nat × Nat × Nat) => match z with | (m2, r2, k2, j2, p2) => (r = lN (cO (σ.2.1 0) (σ.1 0) n (n - 2) (pr2 s0))) ∧ (p2 < 2)) (fun (z : Nat × Nat × Nat × Nat × Nat) t => BW g (va_A (wC g σ ++ tl) sz) ((fun z : Nat × Nat × Nat × Nat × Nat => match z with | (m2, r2, k2, j2, p2) => wC g (sF (sF (sF (sF (sF σ 12 m2) 13 r2) 14 k2) 15 j2) 16 p2) ++ tl) z) t) (va_A (wC g σ ++ tl) sz)) 0 0 (va_A (wC g σ ++ tl) sz) := by
  refine jn_sl (wf := fun z : Nat × Nat × Nat × Nat × Nat => match z with | (m2, r2, k2, j2, p2) => wC g (sF (sF (sF (sF (sF σ 12 m2) 13 r2) 14 k2) 15 j2) 16 p2) ++ tl) (cc := cX8_countFrom) (maxL := 10) (own := RX8) (by decide) rfl rfl (Nat.le_of_ble_eq_true rfl) ?_
  intro p e s m below meth c Q A hx hb hml hown hts hK hP hD hS hAA hq ls hl
  obtain ⟨H, eH⟩ : ∃ z, z = s.heap := ⟨_, rfl⟩
  obtain ⟨locs, el⟩ : ∃ z : List Loc, z = [] := ⟨_, rfl⟩
  rw [← eH] at hP
  have hS : va_S A s.heap H locs := by rw [eH, el]; exact hS
  have goal0 : W p l e r_c_X8_countFrom_d2 s m ([.ref (g.2.2.2 35), .ref (g.2.2.2 1), .int (nI 2), .int (nI n)] : List Value).toArray below meth c H locs 0 0 Q (F0 m 0 ls []) → W p l e r_c_X8_countFrom_d2 s m ([.ref (g.2.2.2 35), .ref (g.2.2.2 1), .int (nI 2), .int (nI n)] : List Value).toArray below meth c s.heap [] 0 0 Q (F0 m 0 ls []) := fun h => by rw [eH, el] at h; exact h
  refine goal0 ?_
  have hl : lv_has ls 10 [(0, .ref (g.2.2.2 35)), (1, .ref (g.2.2.2 1)), (2, .int (nI 2)), (3, .int (nI n))] := hl
  have iX8 : ∀ w ∈ wsX80, w ∈ wsX8_countFrom := by decide +kernel
  have k9 := hts (.fieldLink RX8 9 "JumpingAutomata$OneWayReader" "state" "I") (by decide +kernel)
  have k15 := hts (.fieldLink RX8 15 "JumpingAutomata$OneWayReader" "rest" "I") (by decide +kernel)
  have k18 := hts (.fieldLink RX8 18 "JumpingAutomata$OneWayReader" "restSize" "I") (by decide +kernel)
  have ho8 := ho.2.1
  have okF := okw_fin hA.1 8 n s0 8 ⟨ho.1, by omega, ho.2.2⟩
  refine lv_aload_n hx hb dX8_countFrom_0 rfl (lv_at hl 0 rfl) ?_
  refine va_get (D := (g.1, g.2.1)) (ci := 10) (v := .int (nI (σ.1 12))) (C := RX8) (T := TX8) (N := 5) hx hb hts iX8 hown hK.1 hP 35 (gC35 g σ tl) rfl 0 (by decide) k9 (fun _ h9 => h9) rfl dX8_countFrom_1 ?_
  refine lv_istore (lv' := [(4, .int (nI (σ.1 12))), (0, .ref (g.2.2.2 35)), (1, .ref (g.2.2.2 1)), (2, .int (nI 2)), (3, .int (nI n))]) hx hb dX8_countFrom_4 hl (by decide) rfl (fun ls hl => ?_)
  refine lv_aload_n hx hb dX8_countFrom_6 rfl (lv_at hl 1 rfl) ?_
  refine va_get (D := (g.1, g.2.1)) (ci := 10) (v := .int (nI (σ.1 13))) (C := RX8) (T := TX8) (N := 5) hx hb hts iX8 hown hK.1 hP 35 (gC35 g σ tl) rfl 1 (by decide) k15 (fun _ h9 => h9) rfl dX8_countFrom_7 ?_
  refine lv_istore (lv' := [(5, .int (nI (σ.1 13))), (4, .int (nI (σ.1 12))), (0, .ref (g.2.2.2 35)), (1, .ref (g.2.2.2 1)), (2, .int (nI 2)), (3, .int (nI n))]) hx hb dX8_countFrom_10 hl (by decide) rfl (fun ls hl => ?_)
  refine lv_aload_n hx hb dX8_countFrom_12 rfl (lv_at hl 2 rfl) ?_
  refine va_get (D := (g.1, g.2.1)) (ci := 10) (v := .int (nI (σ.1 14))) (C := RX8) (T := TX8) (N := 5) hx hb hts iX8 hown hK.1 hP 35 (gC35 g σ tl) rfl 2 (by decide) k18 (fun _ h9 => h9) rfl dX8_countFrom_13 ?_
  refine lv_istore (lv' := [(6, .int (nI (σ.1 14))), (5, .int (nI (σ.1 13))), (4, .int (nI (σ.1 12))), (0, .ref (g.2.2.2 35)), (1, .ref (g.2.2.2 1)), (2, .int (nI 2)), (3, .int (nI n))]) hx hb dX8_countFrom_16 hl (by decide) rfl (fun ls hl => ?_)
  refine lv_lconst (v := lN 0) hx hb dX8_countFrom_18 (by decide) ?_
  refine lv_lstore (lv' := [(7, .long (lN 0)), (6, .int (nI (σ.1 14))), (5, .int (nI (σ.1 13))), (4, .int (nI (σ.1 12))), (0, .ref (g.2.2.2 35)), (1, .ref (g.2.2.2 1)), (2, .int (nI 2)), (3, .int (nI n))]) hx hb dX8_countFrom_19 hl (by decide) rfl (fun ls hl => ?_)
  refine lv_iload_n hx hb dX8_countFrom_21 rfl (lv_at hl 6 rfl) ?_
  refine lv_iload_n hx hb dX8_countFrom_22 rfl (lv_at hl 7 rfl) ?_
  refine jn_cge hx hb (by decide) (by omega) (tgt := 32) dX8_countFrom_23 (by decide) (fun c_23 => ?_) (fun c_23 => ?_)
  · refine lv_aload_n hx hb dX8_countFrom_32 rfl (lv_at hl 4 rfl) ?_
    refine lv_aload_n hx hb dX8_countFrom_33 rfl (lv_at hl 5 rfl) ?_
    refine lv_iload_n hx hb dX8_countFrom_34 rfl (lv_at hl 7 rfl) ?_
    refine jn_callv (va_runV (As := [.ref (g.2.2.2 1), .int (nI n)]) (rest := []) ⟨hx, hb, hml, hown, hts⟩ (c_X8_finish l g tl H.size σ n s0 hA hW ⟨ho.1, by omega, ho.2.2⟩ (by omega)) (cwV 2 hts gX8_countFrom_X8_finish rfl rfl rfl (by decide +kernel) ⟨Nat.le_of_ble_eq_true rfl, Nat.le_of_ble_eq_true rfl⟩) (okWV hK hP hD rfl (gC35 g σ tl)) rfl rfl hl.1 rfl (lv_room (Nat.le_of_ble_eq_true rfl)) dX8_countFrom_35 ⟨Nat.le_of_ble_eq_true rfl, Nat.le_of_ble_eq_true rfl⟩) hD hS hAA (fun u H locs hw_ hP hD hS => ?_)
    have hP : va_P (g.1, g.2.1) vwCl (wC g (sF (sF (sF (sF (sF σ 12 ((finL (σ.2.1 0) 8 n s0).1)) 13 (pkL (finL (σ.2.1 0) 8 n s0).2.1)) 14 ((finL (σ.2.1 0) 8 n s0).2.1.length)) 15 ((finL (σ.2.1 0) 8 n s0).2.2.1)) 16 ((finL (σ.2.1 0) 8 n s0).2.2.2)) ++ tl) H := hP
    have hD : va_D A (wC g (sF (sF (sF (sF (sF σ 12 ((finL (σ.2.1 0) 8 n s0).1)) 13 (pkL (finL (σ.2.1 0) 8 n s0).2.1)) 14 ((finL (σ.2.1 0) 8 n s0).2.1.length)) 15 ((finL (σ.2.1 0) 8 n s0).2.2.1)) 16 ((finL (σ.2.1 0) 8 n s0).2.2.2)) ++ tl) := hD
    refine lv_aload_n hx hb dX8_countFrom_38 rfl (lv_at hl 4 rfl) ?_
    refine lv_aload_n hx hb dX8_countFrom_39 rfl (lv_at hl 5 rfl) ?_
    refine vp_callSi (va_Run.run (va_runV (As := [.ref (g.2.2.2 1)]) (rest := []) ⟨hx, hb, hml, hown, hts⟩ (c_X8_accepted l g tl (sF (sF (sF (sF (sF σ 12 ((finL (σ.2.1 0) 8 n s0).1)) 13 (pkL (finL (σ.2.1 0) 8 n s0).2.1)) 14 ((finL (σ.2.1 0) 8 n s0).2.1.length)) 15 ((finL (σ.2.1 0) 8 n s0).2.2.1)) 16 ((finL (σ.2.1 0) 8 n s0).2.2.2)) hA (show (finL (σ.2.1 0) 8 n s0).2.1.length < 4294967296 by have := okF.2.1; omega)) (cwV 1 hts gX8_countFrom_X8_accepted rfl rfl rfl (by decide +kernel) ⟨Nat.le_of_ble_eq_true rfl, Nat.le_of_ble_eq_true rfl⟩) (okPV hK hP rfl (gC35 g (sF (sF (sF (sF (sF σ 12 ((finL (σ.2.1 0) 8 n s0).1)) 13 (pkL (finL (σ.2.1 0) 8 n s0).2.1)) 14 ((finL (σ.2.1 0) 8 n s0).2.1.length)) 15 ((finL (σ.2.1 0) 8 n s0).2.2.1)) 16 ((finL (σ.2.1 0) 8 n s0).2.2.2)) tl)) rfl rfl hl.1 rfl (lv_room (Nat.le_of_ble_eq_true rfl)) dX8_countFrom_40 ⟨Nat.le_of_ble_eq_true rfl, Nat.le_of_ble_eq_true rfl⟩)) (fun r_40 h_40 => ?_)
    have h_40 : r_40 = (nI (if ((finL (σ.2.1 0) 8 n s0).2.1.length) = 0 ∧ ((finL (σ.2.1 0) 8 n s0).1) &&& σ.1 0 ≠ 0 then 1 else 0)) := h_40
    subst h_40
    have jp51 : ∀ v51 : Nat, v51 = (if (finL (σ.2.1 0) 8 n s0).2.1.length = 0 ∧ (finL (σ.2.1 0) 8 n s0).1 &&& (σ.1 0) ≠ 0 then 1 else 0) → W p l e r_c_X8_countFrom_d2 s m ([.ref (g.2.2.2 35), .ref (g.2.2.2 1), .int (nI 2), .int (nI n)] : List Value).toArray below meth c H locs 0 0 Q (F0 m 51 ls [.long (lN v51)]) := by
      intro v51 ev51
      refine lv_lstore (lv' := [(7, .long (lN v51)), (6, .int (nI (σ.1 14))), (5, .int (nI (σ.1 13))), (4, .int (nI (σ.1 12))), (0, .ref (g.2.2.2 35)), (1, .ref (g.2.2.2 1)), (2, .int (nI 2)), (3, .int (nI n))]) hx hb dX8_countFrom_51 hl (by decide) rfl (fun ls hl => ?_)
      refine lv_goto (tgt := 110) hx hb dX8_countFrom_53 (by decide) ?_
      refine lv_lload hx hb dX8_countFrom_110 (lv_at hl 0 rfl) ?_
      exact hq _ _ _ _ ((lN v51)) (((finL (σ.2.1 0) 8 n s0).1), (pkL (finL (σ.2.1 0) 8 n s0).2.1), ((finL (σ.2.1 0) 8 n s0).2.1.length), ((finL (σ.2.1 0) 8 n s0).2.2.1), ((finL (σ.2.1 0) 8 n s0).2.2.2)) dX8_countFrom_112 (by first | exact ⟨by rw [ev51, show n - 2 = 0 by omega, cO, ← fin_pr], okF.2.2.2⟩ | exact ⟨by rw [h3, show lt = 3 by omega, show n - 2 = (n - 3) + 1 by omega]; rfl, hp2⟩) hP hD hS
    refine jn_beq hx hb (tgt := 50) dX8_countFrom_43 (by decide) (fun c_43 => ?_) (fun c_43 => ?_)
    · refine lv_lconst (v := lN 0) hx hb dX8_countFrom_50 (by decide) ?_
      exact jp51 0 (by rw [if_neg c_43])
    · refine lv_lconst (v := lN 1) hx hb dX8_countFrom_46 (by decide) ?_
      refine lv_goto (tgt := 51) hx hb dX8_countFrom_47 (by decide) ?_
      exact jp51 1 (by rw [if_pos c_43])
  · refine lv_iload_n hx hb dX8_countFrom_26 rfl (lv_at hl 6 rfl) ?_
    refine lv_bipush (v := nI 8) hx hb dX8_countFrom_27 (by decide) ?_
    refine jn_clt hx hb (by decide) (by decide) (tgt := 56) dX8_countFrom_29 (by decide) (fun c_29 => ?_) (fun c_29 => absurd c_29 (by decide))
    refine lv_iconst (v := nI 0) hx hb dX8_countFrom_56 (by decide) ?_
    refine lv_istore (lv' := [(9, .int (nI 0)), (7, .long (lN 0)), (6, .int (nI (σ.1 14))), (5, .int (nI (σ.1 13))), (4, .int (nI (σ.1 12))), (0, .ref (g.2.2.2 35)), (1, .ref (g.2.2.2 1)), (2, .int (nI 2)), (3, .int (nI n))]) hx hb dX8_countFrom_57 hl (by decide) rfl (fun ls hl => ?_)
    have lp59 : ∀ (fu : Nat), ∀ (lt : Nat) (cn : Nat) (j1 : Nat) (p1 : Nat), (lt ≤ 3) → (cn = fb_sm (fun x => cO (σ.2.1 0) (σ.1 0) n (n - 3) (mM (σ.2.1 0) (pr2 s0) x)) lt) → (p1 < 2) → 3 - lt < fu → ∀ (H : Heap) (locs : List Loc), va_P (g.1, g.2.1) vwCl (wC g (sF (sF σ 15 j1) 16 p1) ++ tl) H → va_D A (wC g (sF (sF σ 15 j1) 16 p1) ++ tl) → va_S A s.heap H locs → ∀ ls : Array Slot, lv_has ls 10 [(0, .ref (g.2.2.2 35)), (1, .ref (g.2.2.2 1)), (2, .int (nI 2)), (3, .int (nI n)), (4, .int (nI (σ.1 12))), (5, .int (nI (σ.1 13))), (6, .int (nI (σ.1 14))), (7, .long (lN cn)), (9, .int (nI lt))] → W p l e r_c_X8_countFrom_d2 s m ([.ref (g.2.2.2 35), .ref (g.2.2.2 1), .int (nI 2), .int (nI n)] : List Value).toArray below meth c H locs 0 0 Q (F0 m 59 ls []) := by
      intro fu
      induction fu with
      | zero => intro lt cn j1 p1 h2 h3 hp2 hf; exact absurd hf (Nat.not_lt_zero _)
      | succ fu ih59 =>
        intro lt cn j1 p1 h2 h3 hp2 hf H locs hP hD hS ls hl
        refine lv_iload hx hb dX8_countFrom_59 (lv_at hl 8 rfl) ?_
        refine lv_iconst (v := nI 3) hx hb dX8_countFrom_61 (by decide) ?_
        refine jn_cge hx hb (by omega) (by decide) (tgt := 110) dX8_countFrom_62 (by decide) (fun c_62 => ?_) (fun c_62 => ?_)
        · refine lv_lload hx hb dX8_countFrom_110 (lv_at hl 7 rfl) ?_
          exact hq _ _ _ _ ((lN cn)) ((σ.1 12), (σ.1 13), (σ.1 14), j1, p1) dX8_countFrom_112 (by first | exact ⟨by rw [ev51, show n - 2 = 0 by omega, cO, ← fin_pr], okF.2.2.2⟩ | exact ⟨by rw [h3, show lt = 3 by omega, show n - 2 = (n - 3) + 1 by omega]; rfl, hp2⟩) hP hD hS
        · refine lv_aload_n hx hb dX8_countFrom_65 rfl (lv_at hl 0 rfl) ?_
          refine lv_aload_n hx hb dX8_countFrom_66 rfl (lv_at hl 1 rfl) ?_
          refine lv_iload hx hb dX8_countFrom_67 (lv_at hl 8 rfl) ?_
          refine jn_callv (va_runV (As := [.ref (g.2.2.2 1), .int (nI lt)]) (rest := []) ⟨hx, hb, hml, hown, hts⟩ (c_X8_meet l g tl H.size (sF (sF σ 15 j1) 16 p1) lt ((s0.1, s0.2.1, j1, p1)) hA ⟨hW.1, hW.2.1, hW.2.2.1, rfl, rfl⟩ ⟨ho.1, by show s0.2.1.length ≤ 7; omega, ho.2.2.1, hp2⟩ (by omega)) (cwV 2 hts gX8_countFrom_X8_meet rfl rfl rfl (by decide +kernel) ⟨Nat.le_of_ble_eq_true rfl, Nat.le_of_ble_eq_true rfl⟩) (okWV hK hP hD rfl (gC35 g (sF (sF σ 15 j1) 16 p1) tl)) rfl rfl hl.1 rfl (lv_room (Nat.le_of_ble_eq_true rfl)) dX8_countFrom_69 ⟨Nat.le_of_ble_eq_true rfl, Nat.le_of_ble_eq_true rfl⟩) hD hS hAA (fun u H locs hw_ hP hD hS => ?_)
          have hP : va_P (g.1, g.2.1) vwCl (wC g (sF (sF (sF (sF (sF (sF (sF σ 15 j1) 16 p1) 12 ((meetL (σ.2.1 0) ((s0.1, s0.2.1, j1, p1)) lt).1)) 13 (pkL (meetL (σ.2.1 0) ((s0.1, s0.2.1, j1, p1)) lt).2.1)) 14 ((meetL (σ.2.1 0) ((s0.1, s0.2.1, j1, p1)) lt).2.1.length)) 15 ((meetL (σ.2.1 0) ((s0.1, s0.2.1, j1, p1)) lt).2.2.1)) 16 ((meetL (σ.2.1 0) ((s0.1, s0.2.1, j1, p1)) lt).2.2.2)) ++ tl) H := hP
          have hD : va_D A (wC g (sF (sF (sF (sF (sF (sF (sF σ 15 j1) 16 p1) 12 ((meetL (σ.2.1 0) ((s0.1, s0.2.1, j1, p1)) lt).1)) 13 (pkL (meetL (σ.2.1 0) ((s0.1, s0.2.1, j1, p1)) lt).2.1)) 14 ((meetL (σ.2.1 0) ((s0.1, s0.2.1, j1, p1)) lt).2.1.length)) 15 ((meetL (σ.2.1 0) ((s0.1, s0.2.1, j1, p1)) lt).2.2.1)) 16 ((meetL (σ.2.1 0) ((s0.1, s0.2.1, j1, p1)) lt).2.2.2)) ++ tl) := hD
          refine lv_lload hx hb dX8_countFrom_72 (lv_at hl 7 rfl) ?_
          refine lv_aload_n hx hb dX8_countFrom_74 rfl (lv_at hl 0 rfl) ?_
          refine lv_aload_n hx hb dX8_countFrom_75 rfl (lv_at hl 1 rfl) ?_
          refine lv_iload_n hx hb dX8_countFrom_76 rfl (lv_at hl 2 rfl) ?_
          refine lv_iconst (v := nI 1) hx hb dX8_countFrom_77 (by decide) ?_
          refine jn_iadd hx hb dX8_countFrom_78 ?_
          refine lv_iload_n hx hb dX8_countFrom_79 rfl (lv_at hl 3 rfl) ?_
          refine jn_calll (va_runV (As := [.ref (g.2.2.2 1), .int (nI (2 + 1)), .int (nI n)]) (rest := [.long (lN cn)]) ⟨hx, hb, hml, hown, hts⟩ (c_X8_countFrom_d3 l g tl H.size (sF (sF (sF (sF (sF (sF (sF σ 15 j1) 16 p1) 12 ((meetL (σ.2.1 0) ((s0.1, s0.2.1, j1, p1)) lt).1)) 13 (pkL (meetL (σ.2.1 0) ((s0.1, s0.2.1, j1, p1)) lt).2.1)) 14 ((meetL (σ.2.1 0) ((s0.1, s0.2.1, j1, p1)) lt).2.1.length)) 15 ((meetL (σ.2.1 0) ((s0.1, s0.2.1, j1, p1)) lt).2.2.1)) 16 ((meetL (σ.2.1 0) ((s0.1, s0.2.1, j1, p1)) lt).2.2.2)) n (meetL (σ.2.1 0) (s0.1, s0.2.1, j1, p1) lt) hA ⟨rfl, rfl, rfl, rfl, rfl⟩ (okw_meet hA.1 (s := (s0.1, s0.2.1, j1, p1)) (n := 2) ⟨ho.1, ho.2.1, ho.2.2.1, hp2⟩ (by omega)) hn (by omega)) (cwV 3 hts gX8_countFrom_X8_countFrom rfl rfl rfl (by decide +kernel) ⟨Nat.le_of_ble_eq_true rfl, Nat.le_of_ble_eq_true rfl⟩) (okWV hK hP hD rfl (gC35 g (sF (sF (sF (sF (sF (sF (sF σ 15 j1) 16 p1) 12 ((meetL (σ.2.1 0) ((s0.1, s0.2.1, j1, p1)) lt).1)) 13 (pkL (meetL (σ.2.1 0) ((s0.1, s0.2.1, j1, p1)) lt).2.1)) 14 ((meetL (σ.2.1 0) ((s0.1, s0.2.1, j1, p1)) lt).2.1.length)) 15 ((meetL (σ.2.1 0) ((s0.1, s0.2.1, j1, p1)) lt).2.2.1)) 16 ((meetL (σ.2.1 0) ((s0.1, s0.2.1, j1, p1)) lt).2.2.2)) tl)) rfl rfl hl.1 rfl (lv_room (Nat.le_of_ble_eq_true rfl)) dX8_countFrom_80 ⟨Nat.le_of_ble_eq_true rfl, Nat.le_of_ble_eq_true rfl⟩) hD hS hAA (fun r_80 u H locs hw_ hP hD hS => ?_)
          obtain ⟨m2_80, r2_80, k2_80, j2_80, p2_80⟩ := u
          obtain ⟨rfl, h_80⟩ := hw_
          have h_80 : p2_80 < 2 := h_80
          have hP : va_P (g.1, g.2.1) vwCl (wC g (sF (sF (sF (sF (sF (sF (sF (sF (sF (sF (sF (sF σ 15 j1) 16 p1) 12 ((meetL (σ.2.1 0) ((s0.1, s0.2.1, j1, p1)) lt).1)) 13 (pkL (meetL (σ.2.1 0) ((s0.1, s0.2.1, j1, p1)) lt).2.1)) 14 ((meetL (σ.2.1 0) ((s0.1, s0.2.1, j1, p1)) lt).2.1.length)) 15 ((meetL (σ.2.1 0) ((s0.1, s0.2.1, j1, p1)) lt).2.2.1)) 16 ((meetL (σ.2.1 0) ((s0.1, s0.2.1, j1, p1)) lt).2.2.2)) 12 m2_80) 13 r2_80) 14 k2_80) 15 j2_80) 16 p2_80) ++ tl) H := hP
          have hD : va_D A (wC g (sF (sF (sF (sF (sF (sF (sF (sF (sF (sF (sF (sF σ 15 j1) 16 p1) 12 ((meetL (σ.2.1 0) ((s0.1, s0.2.1, j1, p1)) lt).1)) 13 (pkL (meetL (σ.2.1 0) ((s0.1, s0.2.1, j1, p1)) lt).2.1)) 14 ((meetL (σ.2.1 0) ((s0.1, s0.2.1, j1, p1)) lt).2.1.length)) 15 ((meetL (σ.2.1 0) ((s0.1, s0.2.1, j1, p1)) lt).2.2.1)) 16 ((meetL (σ.2.1 0) ((s0.1, s0.2.1, j1, p1)) lt).2.2.2)) 12 m2_80) 13 r2_80) 14 k2_80) 15 j2_80) 16 p2_80) ++ tl) := hD
          refine jn_ladd hx hb dX8_countFrom_83 ?_
          refine lv_lstore (lv' := [(7, .long (lN (cn + (cO (σ.2.1 0) (σ.1 0) n (n - 3) (pr2 (meetL (σ.2.1 0) (s0.1, s0.2.1, j1, p1) lt)))))), (0, .ref (g.2.2.2 35)), (1, .ref (g.2.2.2 1)), (2, .int (nI 2)), (3, .int (nI n)), (4, .int (nI (σ.1 12))), (5, .int (nI (σ.1 13))), (6, .int (nI (σ.1 14))), (9, .int (nI lt))]) hx hb dX8_countFrom_84 hl (by decide) rfl (fun ls hl => ?_)
          refine lv_aload_n hx hb dX8_countFrom_86 rfl (lv_at hl 1 rfl) ?_
          refine lv_iload hx hb dX8_countFrom_87 (lv_at hl 5 rfl) ?_
          refine jn_put (D := (g.1, g.2.1)) (ci := 10) (v := .int (nI (σ.1 12))) (ty := .int) (C := RX8) (T := TX8) (N := 5) hx hb hts iX8 tyX8 tyX8_ok nmX8 hown hK.1 hP hD hS 35 (gC35 g (sF (sF (sF (sF (sF (sF (sF (sF (sF (sF (sF (sF σ 15 j1) 16 p1) 12 ((meetL (σ.2.1 0) ((s0.1, s0.2.1, j1, p1)) lt).1)) 13 (pkL (meetL (σ.2.1 0) ((s0.1, s0.2.1, j1, p1)) lt).2.1)) 14 ((meetL (σ.2.1 0) ((s0.1, s0.2.1, j1, p1)) lt).2.1.length)) 15 ((meetL (σ.2.1 0) ((s0.1, s0.2.1, j1, p1)) lt).2.2.1)) 16 ((meetL (σ.2.1 0) ((s0.1, s0.2.1, j1, p1)) lt).2.2.2)) 12 m2_80) 13 r2_80) 14 k2_80) 15 j2_80) 16 p2_80) tl) rfl 0 (by decide) k9 (fun _ h9 => h9) rfl (by decide +kernel) rfl rfl (Nat.le_of_ble_eq_true rfl) (uC_F12 g (sF (sF (sF (sF (sF (sF (sF (sF (sF (sF (sF (sF σ 15 j1) 16 p1) 12 ((meetL (σ.2.1 0) ((s0.1, s0.2.1, j1, p1)) lt).1)) 13 (pkL (meetL (σ.2.1 0) ((s0.1, s0.2.1, j1, p1)) lt).2.1)) 14 ((meetL (σ.2.1 0) ((s0.1, s0.2.1, j1, p1)) lt).2.1.length)) 15 ((meetL (σ.2.1 0) ((s0.1, s0.2.1, j1, p1)) lt).2.2.1)) 16 ((meetL (σ.2.1 0) ((s0.1, s0.2.1, j1, p1)) lt).2.2.2)) 12 m2_80) 13 r2_80) 14 k2_80) 15 j2_80) 16 p2_80) tl (σ.1 12)) dX8_countFrom_89 (fun H locs hP hD hS => ?_)
          refine lv_aload_n hx hb dX8_countFrom_92 rfl (lv_at hl 1 rfl) ?_
          refine lv_iload hx hb dX8_countFrom_93 (lv_at hl 6 rfl) ?_
          refine jn_put (D := (g.1, g.2.1)) (ci := 10) (v := .int (nI (σ.1 13))) (ty := .int) (C := RX8) (T := TX8) (N := 5) hx hb hts iX8 tyX8 tyX8_ok nmX8 hown hK.1 hP hD hS 35 (gC35 g (sF (sF (sF (sF (sF (sF (sF (sF (sF (sF (sF (sF (sF σ 15 j1) 16 p1) 12 ((meetL (σ.2.1 0) ((s0.1, s0.2.1, j1, p1)) lt).1)) 13 (pkL (meetL (σ.2.1 0) ((s0.1, s0.2.1, j1, p1)) lt).2.1)) 14 ((meetL (σ.2.1 0) ((s0.1, s0.2.1, j1, p1)) lt).2.1.length)) 15 ((meetL (σ.2.1 0) ((s0.1, s0.2.1, j1, p1)) lt).2.2.1)) 16 ((meetL (σ.2.1 0) ((s0.1, s0.2.1, j1, p1)) lt).2.2.2)) 12 m2_80) 13 r2_80) 14 k2_80) 15 j2_80) 16 p2_80) 12 (σ.1 12)) tl) rfl 1 (by decide) k15 (fun _ h9 => h9) rfl (by decide +kernel) rfl rfl (Nat.le_of_ble_eq_true rfl) (uC_F13 g (sF (sF (sF (sF (sF (sF (sF (sF (sF (sF (sF (sF (sF σ 15 j1) 16 p1) 12 ((meetL (σ.2.1 0) ((s0.1, s0.2.1, j1, p1)) lt).1)) 13 (pkL (meetL (σ.2.1 0) ((s0.1, s0.2.1, j1, p1)) lt).2.1)) 14 ((meetL (σ.2.1 0) ((s0.1, s0.2.1, j1, p1)) lt).2.1.length)) 15 ((meetL (σ.2.1 0) ((s0.1, s0.2.1, j1, p1)) lt).2.2.1)) 16 ((meetL (σ.2.1 0) ((s0.1, s0.2.1, j1, p1)) lt).2.2.2)) 12 m2_80) 13 r2_80) 14 k2_80) 15 j2_80) 16 p2_80) 12 (σ.1 12)) tl (σ.1 13)) dX8_countFrom_95 (fun H locs hP hD hS => ?_)
          refine lv_aload_n hx hb dX8_countFrom_98 rfl (lv_at hl 1 rfl) ?_
          refine lv_iload hx hb dX8_countFrom_99 (lv_at hl 7 rfl) ?_
          refine jn_put (D := (g.1, g.2.1)) (ci := 10) (v := .int (nI (σ.1 14))) (ty := .int) (C := RX8) (T := TX8) (N := 5) hx hb hts iX8 tyX8 tyX8_ok nmX8 hown hK.1 hP hD hS 35 (gC35 g (sF (sF (sF (sF (sF (sF (sF (sF (sF (sF (sF (sF (sF (sF σ 15 j1) 16 p1) 12 ((meetL (σ.2.1 0) ((s0.1, s0.2.1, j1, p1)) lt).1)) 13 (pkL (meetL (σ.2.1 0) ((s0.1, s0.2.1, j1, p1)) lt).2.1)) 14 ((meetL (σ.2.1 0) ((s0.1, s0.2.1, j1, p1)) lt).2.1.length)) 15 ((meetL (σ.2.1 0) ((s0.1, s0.2.1, j1, p1)) lt).2.2.1)) 16 ((meetL (σ.2.1 0) ((s0.1, s0.2.1, j1, p1)) lt).2.2.2)) 12 m2_80) 13 r2_80) 14 k2_80) 15 j2_80) 16 p2_80) 12 (σ.1 12)) 13 (σ.1 13)) tl) rfl 2 (by decide) k18 (fun _ h9 => h9) rfl (by decide +kernel) rfl rfl (Nat.le_of_ble_eq_true rfl) (uC_F14 g (sF (sF (sF (sF (sF (sF (sF (sF (sF (sF (sF (sF (sF (sF σ 15 j1) 16 p1) 12 ((meetL (σ.2.1 0) ((s0.1, s0.2.1, j1, p1)) lt).1)) 13 (pkL (meetL (σ.2.1 0) ((s0.1, s0.2.1, j1, p1)) lt).2.1)) 14 ((meetL (σ.2.1 0) ((s0.1, s0.2.1, j1, p1)) lt).2.1.length)) 15 ((meetL (σ.2.1 0) ((s0.1, s0.2.1, j1, p1)) lt).2.2.1)) 16 ((meetL (σ.2.1 0) ((s0.1, s0.2.1, j1, p1)) lt).2.2.2)) 12 m2_80) 13 r2_80) 14 k2_80) 15 j2_80) 16 p2_80) 12 (σ.1 12)) 13 (σ.1 13)) tl (σ.1 14)) dX8_countFrom_101 (fun H locs hP hD hS => ?_)
          refine lv_iinc (v := nI (lt + 1)) (lv' := [(9, .int (nI (lt + 1))), (7, .long (lN (cn + (cO (σ.2.1 0) (σ.1 0) n (n - 3) (pr2 (meetL (σ.2.1 0) (s0.1, s0.2.1, j1, p1) lt)))))), (0, .ref (g.2.2.2 35)), (1, .ref (g.2.2.2 1)), (2, .int (nI 2)), (3, .int (nI n)), (4, .int (nI (σ.1 12))), (5, .int (nI (σ.1 13))), (6, .int (nI (σ.1 14)))]) hx hb dX8_countFrom_104 hl (k := 8) rfl (jn_ii _ 1) (by decide) rfl (fun ls hl => ?_)
          refine lv_goto (tgt := 59) hx hb dX8_countFrom_107 (by decide) ?_
          exact ih59 (lt + 1) (cn + (cO (σ.2.1 0) (σ.1 0) n (n - 3) (pr2 (meetL (σ.2.1 0) (s0.1, s0.2.1, j1, p1) lt)))) j2_80 p2_80 (by omega) (by rw [h3, mM_pr]; rfl) h_80 (by omega) _ _ hP hD hS _ (lv_sub hl [2, 3, 4, 5, 6, 7, 8, 1, 0] rfl)
    exact lp59 _ 0 0 (σ.1 15) (σ.1 16) (by decide) rfl (by have := ho.2.2.2; have := hW.2.2.2.2; omega) (Nat.lt_succ_self _) _ _ hP hD hS _ (lv_sub hl [5, 6, 7, 8, 4, 3, 2, 1, 0] rfl)

abbrev r_c_X8_countFrom_d1 : Room := { frames := 10, cells := 0, slots := 0, locals := 265 }
set_option maxHeartbeats 4000000 in
set_option maxRecDepth 100000 in
theorem c_X8_countFrom_d1 (l : Launch) (g : GC) (tl : va_W) (sz : Nat) (σ : SS) (n : Nat) (s0 : OW) (hA : OkA σ) (hW : OwIs σ s0) (ho : OkW s0 1) (hn : n ≤ 7) (hd : 1 ≤ n) : Met l yX8_countFrom wsX8_countFrom r_c_X8_countFrom_d1 (va_Pc [.ref (g.2.2.2 35), .ref (g.2.2.2 1), .int (nI 1), .int (nI n)] (PW g (wC g σ ++ tl) sz)) (va_Ql (fun (r : Int64) (z : Nat × Nat × Nat × Nat × Nat) => match z with | (m2, r2, k2, j2, p2) => (r = lN (cO (σ.2.1 0) (σ.1 0) n (n - 1) (pr2 s0))) ∧ (p2 < 2)) (fun (z : Nat × Nat × Nat × Nat × Nat) t => BW g (va_A (wC g σ ++ tl) sz) ((fun z : Nat × Nat × Nat × Nat × Nat => match z with | (m2, r2, k2, j2, p2) => wC g (sF (sF (sF (sF (sF σ 12 m2) 13 r2) 14 k2) 15 j2) 16 p2) ++ tl) z) t) (va_A (wC g σ ++ tl) sz)) 0 0 (va_A (wC g σ ++ tl) sz) := by
  refine jn_sl (wf := fun z : Nat × Nat × Nat × Nat × Nat => match z with | (m2, r2, k2, j2, p2) => wC g (sF (sF (sF (sF (sF σ 12 m2) 13 r2) 14 k2) 15 j2) 16 p2) ++ tl) (cc := cX8_countFrom) (maxL := 10) (own := RX8) (by decide) rfl rfl (Nat.le_of_ble_eq_true rfl) ?_
  intro p e s m below meth c Q A hx hb hml hown hts hK hP hD hS hAA hq ls hl
  obtain ⟨H, eH⟩ : ∃ z, z = s.heap := ⟨_, rfl⟩
  obtain ⟨locs, el⟩ : ∃ z : List Loc, z = [] := ⟨_, rfl⟩
  rw [← eH] at hP
  have hS : va_S A s.heap H locs := by rw [eH, el]; exact hS
  have goal0 : W p l e r_c_X8_countFrom_d1 s m ([.ref (g.2.2.2 35), .ref (g.2.2.2 1), .int (nI 1), .int (nI n)] : List Value).toArray below meth c H locs 0 0 Q (F0 m 0 ls []) → W p l e r_c_X8_countFrom_d1 s m ([.ref (g.2.2.2 35), .ref (g.2.2.2 1), .int (nI 1), .int (nI n)] : List Value).toArray below meth c s.heap [] 0 0 Q (F0 m 0 ls []) := fun h => by rw [eH, el] at h; exact h
  refine goal0 ?_
  have hl : lv_has ls 10 [(0, .ref (g.2.2.2 35)), (1, .ref (g.2.2.2 1)), (2, .int (nI 1)), (3, .int (nI n))] := hl
  have iX8 : ∀ w ∈ wsX80, w ∈ wsX8_countFrom := by decide +kernel
  have k9 := hts (.fieldLink RX8 9 "JumpingAutomata$OneWayReader" "state" "I") (by decide +kernel)
  have k15 := hts (.fieldLink RX8 15 "JumpingAutomata$OneWayReader" "rest" "I") (by decide +kernel)
  have k18 := hts (.fieldLink RX8 18 "JumpingAutomata$OneWayReader" "restSize" "I") (by decide +kernel)
  have ho8 := ho.2.1
  have okF := okw_fin hA.1 8 n s0 8 ⟨ho.1, by omega, ho.2.2⟩
  refine lv_aload_n hx hb dX8_countFrom_0 rfl (lv_at hl 0 rfl) ?_
  refine va_get (D := (g.1, g.2.1)) (ci := 10) (v := .int (nI (σ.1 12))) (C := RX8) (T := TX8) (N := 5) hx hb hts iX8 hown hK.1 hP 35 (gC35 g σ tl) rfl 0 (by decide) k9 (fun _ h9 => h9) rfl dX8_countFrom_1 ?_
  refine lv_istore (lv' := [(4, .int (nI (σ.1 12))), (0, .ref (g.2.2.2 35)), (1, .ref (g.2.2.2 1)), (2, .int (nI 1)), (3, .int (nI n))]) hx hb dX8_countFrom_4 hl (by decide) rfl (fun ls hl => ?_)
  refine lv_aload_n hx hb dX8_countFrom_6 rfl (lv_at hl 1 rfl) ?_
  refine va_get (D := (g.1, g.2.1)) (ci := 10) (v := .int (nI (σ.1 13))) (C := RX8) (T := TX8) (N := 5) hx hb hts iX8 hown hK.1 hP 35 (gC35 g σ tl) rfl 1 (by decide) k15 (fun _ h9 => h9) rfl dX8_countFrom_7 ?_
  refine lv_istore (lv' := [(5, .int (nI (σ.1 13))), (4, .int (nI (σ.1 12))), (0, .ref (g.2.2.2 35)), (1, .ref (g.2.2.2 1)), (2, .int (nI 1)), (3, .int (nI n))]) hx hb dX8_countFrom_10 hl (by decide) rfl (fun ls hl => ?_)
  refine lv_aload_n hx hb dX8_countFrom_12 rfl (lv_at hl 2 rfl) ?_
  refine va_get (D := (g.1, g.2.1)) (ci := 10) (v := .int (nI (σ.1 14))) (C := RX8) (T := TX8) (N := 5) hx hb hts iX8 hown hK.1 hP 35 (gC35 g σ tl) rfl 2 (by decide) k18 (fun _ h9 => h9) rfl dX8_countFrom_13 ?_
  refine lv_istore (lv' := [(6, .int (nI (σ.1 14))), (5, .int (nI (σ.1 13))), (4, .int (nI (σ.1 12))), (0, .ref (g.2.2.2 35)), (1, .ref (g.2.2.2 1)), (2, .int (nI 1)), (3, .int (nI n))]) hx hb dX8_countFrom_16 hl (by decide) rfl (fun ls hl => ?_)
  refine lv_lconst (v := lN 0) hx hb dX8_countFrom_18 (by decide) ?_
  refine lv_lstore (lv' := [(7, .long (lN 0)), (6, .int (nI (σ.1 14))), (5, .int (nI (σ.1 13))), (4, .int (nI (σ.1 12))), (0, .ref (g.2.2.2 35)), (1, .ref (g.2.2.2 1)), (2, .int (nI 1)), (3, .int (nI n))]) hx hb dX8_countFrom_19 hl (by decide) rfl (fun ls hl => ?_)
  refine lv_iload_n hx hb dX8_countFrom_21 rfl (lv_at hl 6 rfl) ?_
  refine lv_iload_n hx hb dX8_countFrom_22 rfl (lv_at hl 7 rfl) ?_
  refine jn_cge hx hb (by decide) (by omega) (tgt := 32) dX8_countFrom_23 (by decide) (fun c_23 => ?_) (fun c_23 => ?_)
  · refine lv_aload_n hx hb dX8_countFrom_32 rfl (lv_at hl 4 rfl) ?_
    refine lv_aload_n hx hb dX8_countFrom_33 rfl (lv_at hl 5 rfl) ?_
    refine lv_iload_n hx hb dX8_countFrom_34 rfl (lv_at hl 7 rfl) ?_
    refine jn_callv (va_runV (As := [.ref (g.2.2.2 1), .int (nI n)]) (rest := []) ⟨hx, hb, hml, hown, hts⟩ (c_X8_finish l g tl H.size σ n s0 hA hW ⟨ho.1, by omega, ho.2.2⟩ (by omega)) (cwV 2 hts gX8_countFrom_X8_finish rfl rfl rfl (by decide +kernel) ⟨Nat.le_of_ble_eq_true rfl, Nat.le_of_ble_eq_true rfl⟩) (okWV hK hP hD rfl (gC35 g σ tl)) rfl rfl hl.1 rfl (lv_room (Nat.le_of_ble_eq_true rfl)) dX8_countFrom_35 ⟨Nat.le_of_ble_eq_true rfl, Nat.le_of_ble_eq_true rfl⟩) hD hS hAA (fun u H locs hw_ hP hD hS => ?_)
    have hP : va_P (g.1, g.2.1) vwCl (wC g (sF (sF (sF (sF (sF σ 12 ((finL (σ.2.1 0) 8 n s0).1)) 13 (pkL (finL (σ.2.1 0) 8 n s0).2.1)) 14 ((finL (σ.2.1 0) 8 n s0).2.1.length)) 15 ((finL (σ.2.1 0) 8 n s0).2.2.1)) 16 ((finL (σ.2.1 0) 8 n s0).2.2.2)) ++ tl) H := hP
    have hD : va_D A (wC g (sF (sF (sF (sF (sF σ 12 ((finL (σ.2.1 0) 8 n s0).1)) 13 (pkL (finL (σ.2.1 0) 8 n s0).2.1)) 14 ((finL (σ.2.1 0) 8 n s0).2.1.length)) 15 ((finL (σ.2.1 0) 8 n s0).2.2.1)) 16 ((finL (σ.2.1 0) 8 n s0).2.2.2)) ++ tl) := hD
    refine lv_aload_n hx hb dX8_countFrom_38 rfl (lv_at hl 4 rfl) ?_
    refine lv_aload_n hx hb dX8_countFrom_39 rfl (lv_at hl 5 rfl) ?_
    refine vp_callSi (va_Run.run (va_runV (As := [.ref (g.2.2.2 1)]) (rest := []) ⟨hx, hb, hml, hown, hts⟩ (c_X8_accepted l g tl (sF (sF (sF (sF (sF σ 12 ((finL (σ.2.1 0) 8 n s0).1)) 13 (pkL (finL (σ.2.1 0) 8 n s0).2.1)) 14 ((finL (σ.2.1 0) 8 n s0).2.1.length)) 15 ((finL (σ.2.1 0) 8 n s0).2.2.1)) 16 ((finL (σ.2.1 0) 8 n s0).2.2.2)) hA (show (finL (σ.2.1 0) 8 n s0).2.1.length < 4294967296 by have := okF.2.1; omega)) (cwV 1 hts gX8_countFrom_X8_accepted rfl rfl rfl (by decide +kernel) ⟨Nat.le_of_ble_eq_true rfl, Nat.le_of_ble_eq_true rfl⟩) (okPV hK hP rfl (gC35 g (sF (sF (sF (sF (sF σ 12 ((finL (σ.2.1 0) 8 n s0).1)) 13 (pkL (finL (σ.2.1 0) 8 n s0).2.1)) 14 ((finL (σ.2.1 0) 8 n s0).2.1.length)) 15 ((finL (σ.2.1 0) 8 n s0).2.2.1)) 16 ((finL (σ.2.1 0) 8 n s0).2.2.2)) tl)) rfl rfl hl.1 rfl (lv_room (Nat.le_of_ble_eq_true rfl)) dX8_countFrom_40 ⟨Nat.le_of_ble_eq_true rfl, Nat.le_of_ble_eq_true rfl⟩)) (fun r_40 h_40 => ?_)
    have h_40 : r_40 = (nI (if ((finL (σ.2.1 0) 8 n s0).2.1.length) = 0 ∧ ((finL (σ.2.1 0) 8 n s0).1) &&& σ.1 0 ≠ 0 then 1 else 0)) := h_40
    subst h_40
    have jp51 : ∀ v51 : Nat, v51 = (if (finL (σ.2.1 0) 8 n s0).2.1.length = 0 ∧ (finL (σ.2.1 0) 8 n s0).1 &&& (σ.1 0) ≠ 0 then 1 else 0) → W p l e r_c_X8_countFrom_d1 s m ([.ref (g.2.2.2 35), .ref (g.2.2.2 1), .int (nI 1), .int (nI n)] : List Value).toArray below meth c H locs 0 0 Q (F0 m 51 ls [.long (lN v51)]) := by
      intro v51 ev51
      refine lv_lstore (lv' := [(7, .long (lN v51)), (6, .int (nI (σ.1 14))), (5, .int (nI (σ.1 13))), (4, .int (nI (σ.1 12))), (0, .ref (g.2.2.2 35)), (1, .ref (g.2.2.2 1)), (2, .int (nI 1)), (3, .int (nI n))]) hx hb dX8_countFrom_51 hl (by decide) rfl (fun ls hl => ?_)
      refine lv_goto (tgt := 110) hx hb dX8_countFrom_53 (by decide) ?_
      refine lv_lload hx hb dX8_countFrom_110 (lv_at hl 0 rfl) ?_
      exact hq _ _ _ _ ((lN v51)) (((finL (σ.2.1 0) 8 n s0).1), (pkL (finL (σ.2.1 0) 8 n s0).2.1), ((finL (σ.2.1 0) 8 n s0).2.1.length), ((finL (σ.2.1 0) 8 n s0).2.2.1), ((finL (σ.2.1 0) 8 n s0).2.2.2)) dX8_countFrom_112 (by first | exact ⟨by rw [ev51, show n - 1 = 0 by omega, cO, ← fin_pr], okF.2.2.2⟩ | exact ⟨by rw [h3, show lt = 3 by omega, show n - 1 = (n - 2) + 1 by omega]; rfl, hp2⟩) hP hD hS
    refine jn_beq hx hb (tgt := 50) dX8_countFrom_43 (by decide) (fun c_43 => ?_) (fun c_43 => ?_)
    · refine lv_lconst (v := lN 0) hx hb dX8_countFrom_50 (by decide) ?_
      exact jp51 0 (by rw [if_neg c_43])
    · refine lv_lconst (v := lN 1) hx hb dX8_countFrom_46 (by decide) ?_
      refine lv_goto (tgt := 51) hx hb dX8_countFrom_47 (by decide) ?_
      exact jp51 1 (by rw [if_pos c_43])
  · refine lv_iload_n hx hb dX8_countFrom_26 rfl (lv_at hl 6 rfl) ?_
    refine lv_bipush (v := nI 8) hx hb dX8_countFrom_27 (by decide) ?_
    refine jn_clt hx hb (by decide) (by decide) (tgt := 56) dX8_countFrom_29 (by decide) (fun c_29 => ?_) (fun c_29 => absurd c_29 (by decide))
    refine lv_iconst (v := nI 0) hx hb dX8_countFrom_56 (by decide) ?_
    refine lv_istore (lv' := [(9, .int (nI 0)), (7, .long (lN 0)), (6, .int (nI (σ.1 14))), (5, .int (nI (σ.1 13))), (4, .int (nI (σ.1 12))), (0, .ref (g.2.2.2 35)), (1, .ref (g.2.2.2 1)), (2, .int (nI 1)), (3, .int (nI n))]) hx hb dX8_countFrom_57 hl (by decide) rfl (fun ls hl => ?_)
    have lp59 : ∀ (fu : Nat), ∀ (lt : Nat) (cn : Nat) (j1 : Nat) (p1 : Nat), (lt ≤ 3) → (cn = fb_sm (fun x => cO (σ.2.1 0) (σ.1 0) n (n - 2) (mM (σ.2.1 0) (pr2 s0) x)) lt) → (p1 < 2) → 3 - lt < fu → ∀ (H : Heap) (locs : List Loc), va_P (g.1, g.2.1) vwCl (wC g (sF (sF σ 15 j1) 16 p1) ++ tl) H → va_D A (wC g (sF (sF σ 15 j1) 16 p1) ++ tl) → va_S A s.heap H locs → ∀ ls : Array Slot, lv_has ls 10 [(0, .ref (g.2.2.2 35)), (1, .ref (g.2.2.2 1)), (2, .int (nI 1)), (3, .int (nI n)), (4, .int (nI (σ.1 12))), (5, .int (nI (σ.1 13))), (6, .int (nI (σ.1 14))), (7, .long (lN cn)), (9, .int (nI lt))] → W p l e r_c_X8_countFrom_d1 s m ([.ref (g.2.2.2 35), .ref (g.2.2.2 1), .int (nI 1), .int (nI n)] : List Value).toArray below meth c H locs 0 0 Q (F0 m 59 ls []) := by
      intro fu
      induction fu with
      | zero => intro lt cn j1 p1 h2 h3 hp2 hf; exact absurd hf (Nat.not_lt_zero _)
      | succ fu ih59 =>
        intro lt cn j1 p1 h2 h3 hp2 hf H locs hP hD hS ls hl
        refine lv_iload hx hb dX8_countFrom_59 (lv_at hl 8 rfl) ?_
        refine lv_iconst (v := nI 3) hx hb dX8_countFrom_61 (by decide) ?_
        refine jn_cge hx hb (by omega) (by decide) (tgt := 110) dX8_countFrom_62 (by decide) (fun c_62 => ?_) (fun c_62 => ?_)
        · refine lv_lload hx hb dX8_countFrom_110 (lv_at hl 7 rfl) ?_
          exact hq _ _ _ _ ((lN cn)) ((σ.1 12), (σ.1 13), (σ.1 14), j1, p1) dX8_countFrom_112 (by first | exact ⟨by rw [ev51, show n - 1 = 0 by omega, cO, ← fin_pr], okF.2.2.2⟩ | exact ⟨by rw [h3, show lt = 3 by omega, show n - 1 = (n - 2) + 1 by omega]; rfl, hp2⟩) hP hD hS
        · refine lv_aload_n hx hb dX8_countFrom_65 rfl (lv_at hl 0 rfl) ?_
          refine lv_aload_n hx hb dX8_countFrom_66 rfl (lv_at hl 1 rfl) ?_
          refine lv_iload hx hb dX8_countFrom_67 (lv_at hl 8 rfl) ?_
          refine jn_callv (va_runV (As := [.ref (g.2.2.2 1), .int (nI lt)]) (rest := []) ⟨hx, hb, hml, hown, hts⟩ (c_X8_meet l g tl H.size (sF (sF σ 15 j1) 16 p1) lt ((s0.1, s0.2.1, j1, p1)) hA ⟨hW.1, hW.2.1, hW.2.2.1, rfl, rfl⟩ ⟨ho.1, by show s0.2.1.length ≤ 7; omega, ho.2.2.1, hp2⟩ (by omega)) (cwV 2 hts gX8_countFrom_X8_meet rfl rfl rfl (by decide +kernel) ⟨Nat.le_of_ble_eq_true rfl, Nat.le_of_ble_eq_true rfl⟩) (okWV hK hP hD rfl (gC35 g (sF (sF σ 15 j1) 16 p1) tl)) rfl rfl hl.1 rfl (lv_room (Nat.le_of_ble_eq_true rfl)) dX8_countFrom_69 ⟨Nat.le_of_ble_eq_true rfl, Nat.le_of_ble_eq_true rfl⟩) hD hS hAA (fun u H locs hw_ hP hD hS => ?_)
          have hP : va_P (g.1, g.2.1) vwCl (wC g (sF (sF (sF (sF (sF (sF (sF σ 15 j1) 16 p1) 12 ((meetL (σ.2.1 0) ((s0.1, s0.2.1, j1, p1)) lt).1)) 13 (pkL (meetL (σ.2.1 0) ((s0.1, s0.2.1, j1, p1)) lt).2.1)) 14 ((meetL (σ.2.1 0) ((s0.1, s0.2.1, j1, p1)) lt).2.1.length)) 15 ((meetL (σ.2.1 0) ((s0.1, s0.2.1, j1, p1)) lt).2.2.1)) 16 ((meetL (σ.2.1 0) ((s0.1, s0.2.1, j1, p1)) lt).2.2.2)) ++ tl) H := hP
          have hD : va_D A (wC g (sF (sF (sF (sF (sF (sF (sF σ 15 j1) 16 p1) 12 ((meetL (σ.2.1 0) ((s0.1, s0.2.1, j1, p1)) lt).1)) 13 (pkL (meetL (σ.2.1 0) ((s0.1, s0.2.1, j1, p1)) lt).2.1)) 14 ((meetL (σ.2.1 0) ((s0.1, s0.2.1, j1, p1)) lt).2.1.length)) 15 ((meetL (σ.2.1 0) ((s0.1, s0.2.1, j1, p1)) lt).2.2.1)) 16 ((meetL (σ.2.1 0) ((s0.1, s0.2.1, j1, p1)) lt).2.2.2)) ++ tl) := hD
          refine lv_lload hx hb dX8_countFrom_72 (lv_at hl 7 rfl) ?_
          refine lv_aload_n hx hb dX8_countFrom_74 rfl (lv_at hl 0 rfl) ?_
          refine lv_aload_n hx hb dX8_countFrom_75 rfl (lv_at hl 1 rfl) ?_
          refine lv_iload_n hx hb dX8_countFrom_76 rfl (lv_at hl 2 rfl) ?_
          refine lv_iconst (v := nI 1) hx hb dX8_countFrom_77 (by decide) ?_
          refine jn_iadd hx hb dX8_countFrom_78 ?_
          refine lv_iload_n hx hb dX8_countFrom_79 rfl (lv_at hl 3 rfl) ?_
          refine jn_calll (va_runV (As := [.ref (g.2.2.2 1), .int (nI (1 + 1)), .int (nI n)]) (rest := [.long (lN cn)]) ⟨hx, hb, hml, hown, hts⟩ (c_X8_countFrom_d2 l g tl H.size (sF (sF (sF (sF (sF (sF (sF σ 15 j1) 16 p1) 12 ((meetL (σ.2.1 0) ((s0.1, s0.2.1, j1, p1)) lt).1)) 13 (pkL (meetL (σ.2.1 0) ((s0.1, s0.2.1, j1, p1)) lt).2.1)) 14 ((meetL (σ.2.1 0) ((s0.1, s0.2.1, j1, p1)) lt).2.1.length)) 15 ((meetL (σ.2.1 0) ((s0.1, s0.2.1, j1, p1)) lt).2.2.1)) 16 ((meetL (σ.2.1 0) ((s0.1, s0.2.1, j1, p1)) lt).2.2.2)) n (meetL (σ.2.1 0) (s0.1, s0.2.1, j1, p1) lt) hA ⟨rfl, rfl, rfl, rfl, rfl⟩ (okw_meet hA.1 (s := (s0.1, s0.2.1, j1, p1)) (n := 1) ⟨ho.1, ho.2.1, ho.2.2.1, hp2⟩ (by omega)) hn (by omega)) (cwV 3 hts gX8_countFrom_X8_countFrom rfl rfl rfl (by decide +kernel) ⟨Nat.le_of_ble_eq_true rfl, Nat.le_of_ble_eq_true rfl⟩) (okWV hK hP hD rfl (gC35 g (sF (sF (sF (sF (sF (sF (sF σ 15 j1) 16 p1) 12 ((meetL (σ.2.1 0) ((s0.1, s0.2.1, j1, p1)) lt).1)) 13 (pkL (meetL (σ.2.1 0) ((s0.1, s0.2.1, j1, p1)) lt).2.1)) 14 ((meetL (σ.2.1 0) ((s0.1, s0.2.1, j1, p1)) lt).2.1.length)) 15 ((meetL (σ.2.1 0) ((s0.1, s0.2.1, j1, p1)) lt).2.2.1)) 16 ((meetL (σ.2.1 0) ((s0.1, s0.2.1, j1, p1)) lt).2.2.2)) tl)) rfl rfl hl.1 rfl (lv_room (Nat.le_of_ble_eq_true rfl)) dX8_countFrom_80 ⟨Nat.le_of_ble_eq_true rfl, Nat.le_of_ble_eq_true rfl⟩) hD hS hAA (fun r_80 u H locs hw_ hP hD hS => ?_)
          obtain ⟨m2_80, r2_80, k2_80, j2_80, p2_80⟩ := u
          obtain ⟨rfl, h_80⟩ := hw_
          have h_80 : p2_80 < 2 := h_80
          have hP : va_P (g.1, g.2.1) vwCl (wC g (sF (sF (sF (sF (sF (sF (sF (sF (sF (sF (sF (sF σ 15 j1) 16 p1) 12 ((meetL (σ.2.1 0) ((s0.1, s0.2.1, j1, p1)) lt).1)) 13 (pkL (meetL (σ.2.1 0) ((s0.1, s0.2.1, j1, p1)) lt).2.1)) 14 ((meetL (σ.2.1 0) ((s0.1, s0.2.1, j1, p1)) lt).2.1.length)) 15 ((meetL (σ.2.1 0) ((s0.1, s0.2.1, j1, p1)) lt).2.2.1)) 16 ((meetL (σ.2.1 0) ((s0.1, s0.2.1, j1, p1)) lt).2.2.2)) 12 m2_80) 13 r2_80) 14 k2_80) 15 j2_80) 16 p2_80) ++ tl) H := hP
          have hD : va_D A (wC g (sF (sF (sF (sF (sF (sF (sF (sF (sF (sF (sF (sF σ 15 j1) 16 p1) 12 ((meetL (σ.2.1 0) ((s0.1, s0.2.1, j1, p1)) lt).1)) 13 (pkL (meetL (σ.2.1 0) ((s0.1, s0.2.1, j1, p1)) lt).2.1)) 14 ((meetL (σ.2.1 0) ((s0.1, s0.2.1, j1, p1)) lt).2.1.length)) 15 ((meetL (σ.2.1 0) ((s0.1, s0.2.1, j1, p1)) lt).2.2.1)) 16 ((meetL (σ.2.1 0) ((s0.1, s0.2.1, j1, p1)) lt).2.2.2)) 12 m2_80) 13 r2_80) 14 k2_80) 15 j2_80) 16 p2_80) ++ tl) := hD
          refine jn_ladd hx hb dX8_countFrom_83 ?_
          refine lv_lstore (lv' := [(7, .long (lN (cn + (cO (σ.2.1 0) (σ.1 0) n (n - 2) (pr2 (meetL (σ.2.1 0) (s0.1, s0.2.1, j1, p1) lt)))))), (0, .ref (g.2.2.2 35)), (1, .ref (g.2.2.2 1)), (2, .int (nI 1)), (3, .int (nI n)), (4, .int (nI (σ.1 12))), (5, .int (nI (σ.1 13))), (6, .int (nI (σ.1 14))), (9, .int (nI lt))]) hx hb dX8_countFrom_84 hl (by decide) rfl (fun ls hl => ?_)
          refine lv_aload_n hx hb dX8_countFrom_86 rfl (lv_at hl 1 rfl) ?_
          refine lv_iload hx hb dX8_countFrom_87 (lv_at hl 5 rfl) ?_
          refine jn_put (D := (g.1, g.2.1)) (ci := 10) (v := .int (nI (σ.1 12))) (ty := .int) (C := RX8) (T := TX8) (N := 5) hx hb hts iX8 tyX8 tyX8_ok nmX8 hown hK.1 hP hD hS 35 (gC35 g (sF (sF (sF (sF (sF (sF (sF (sF (sF (sF (sF (sF σ 15 j1) 16 p1) 12 ((meetL (σ.2.1 0) ((s0.1, s0.2.1, j1, p1)) lt).1)) 13 (pkL (meetL (σ.2.1 0) ((s0.1, s0.2.1, j1, p1)) lt).2.1)) 14 ((meetL (σ.2.1 0) ((s0.1, s0.2.1, j1, p1)) lt).2.1.length)) 15 ((meetL (σ.2.1 0) ((s0.1, s0.2.1, j1, p1)) lt).2.2.1)) 16 ((meetL (σ.2.1 0) ((s0.1, s0.2.1, j1, p1)) lt).2.2.2)) 12 m2_80) 13 r2_80) 14 k2_80) 15 j2_80) 16 p2_80) tl) rfl 0 (by decide) k9 (fun _ h9 => h9) rfl (by decide +kernel) rfl rfl (Nat.le_of_ble_eq_true rfl) (uC_F12 g (sF (sF (sF (sF (sF (sF (sF (sF (sF (sF (sF (sF σ 15 j1) 16 p1) 12 ((meetL (σ.2.1 0) ((s0.1, s0.2.1, j1, p1)) lt).1)) 13 (pkL (meetL (σ.2.1 0) ((s0.1, s0.2.1, j1, p1)) lt).2.1)) 14 ((meetL (σ.2.1 0) ((s0.1, s0.2.1, j1, p1)) lt).2.1.length)) 15 ((meetL (σ.2.1 0) ((s0.1, s0.2.1, j1, p1)) lt).2.2.1)) 16 ((meetL (σ.2.1 0) ((s0.1, s0.2.1, j1, p1)) lt).2.2.2)) 12 m2_80) 13 r2_80) 14 k2_80) 15 j2_80) 16 p2_80) tl (σ.1 12)) dX8_countFrom_89 (fun H locs hP hD hS => ?_)
          refine lv_aload_n hx hb dX8_countFrom_92 rfl (lv_at hl 1 rfl) ?_
          refine lv_iload hx hb dX8_countFrom_93 (lv_at hl 6 rfl) ?_
          refine jn_put (D := (g.1, g.2.1)) (ci := 10) (v := .int (nI (σ.1 13))) (ty := .int) (C := RX8) (T := TX8) (N := 5) hx hb hts iX8 tyX8 tyX8_ok nmX8 hown hK.1 hP hD hS 35 (gC35 g (sF (sF (sF (sF (sF (sF (sF (sF (sF (sF (sF (sF (sF σ 15 j1) 16 p1) 12 ((meetL (σ.2.1 0) ((s0.1, s0.2.1, j1, p1)) lt).1)) 13 (pkL (meetL (σ.2.1 0) ((s0.1, s0.2.1, j1, p1)) lt).2.1)) 14 ((meetL (σ.2.1 0) ((s0.1, s0.2.1, j1, p1)) lt).2.1.length)) 15 ((meetL (σ.2.1 0) ((s0.1, s0.2.1, j1, p1)) lt).2.2.1)) 16 ((meetL (σ.2.1 0) ((s0.1, s0.2.1, j1, p1)) lt).2.2.2)) 12 m2_80) 13 r2_80) 14 k2_80) 15 j2_80) 16 p2_80) 12 (σ.1 12)) tl) rfl 1 (by decide) k15 (fun _ h9 => h9) rfl (by decide +kernel) rfl rfl (Nat.le_of_ble_eq_true rfl) (uC_F13 g (sF (sF (sF (sF (sF (sF (sF (sF (sF (sF (sF (sF (sF σ 15 j1) 16 p1) 12 ((meetL (σ.2.1 0) ((s0.1, s0.2.1, j1, p1)) lt).1)) 13 (pkL (meetL (σ.2.1 0) ((s0.1, s0.2.1, j1, p1)) lt).2.1)) 14 ((meetL (σ.2.1 0) ((s0.1, s0.2.1, j1, p1)) lt).2.1.length)) 15 ((meetL (σ.2.1 0) ((s0.1, s0.2.1, j1, p1)) lt).2.2.1)) 16 ((meetL (σ.2.1 0) ((s0.1, s0.2.1, j1, p1)) lt).2.2.2)) 12 m2_80) 13 r2_80) 14 k2_80) 15 j2_80) 16 p2_80) 12 (σ.1 12)) tl (σ.1 13)) dX8_countFrom_95 (fun H locs hP hD hS => ?_)
          refine lv_aload_n hx hb dX8_countFrom_98 rfl (lv_at hl 1 rfl) ?_
          refine lv_iload hx hb dX8_countFrom_99 (lv_at hl 7 rfl) ?_
          refine jn_put (D := (g.1, g.2.1)) (ci := 10) (v := .int (nI (σ.1 14))) (ty := .int) (C := RX8) (T := TX8) (N := 5) hx hb hts iX8 tyX8 tyX8_ok nmX8 hown hK.1 hP hD hS 35 (gC35 g (sF (sF (sF (sF (sF (sF (sF (sF (sF (sF (sF (sF (sF (sF σ 15 j1) 16 p1) 12 ((meetL (σ.2.1 0) ((s0.1, s0.2.1, j1, p1)) lt).1)) 13 (pkL (meetL (σ.2.1 0) ((s0.1, s0.2.1, j1, p1)) lt).2.1)) 14 ((meetL (σ.2.1 0) ((s0.1, s0.2.1, j1, p1)) lt).2.1.length)) 15 ((meetL (σ.2.1 0) ((s0.1, s0.2.1, j1, p1)) lt).2.2.1)) 16 ((meetL (σ.2.1 0) ((s0.1, s0.2.1, j1, p1)) lt).2.2.2)) 12 m2_80) 13 r2_80) 14 k2_80) 15 j2_80) 16 p2_80) 12 (σ.1 12)) 13 (σ.1 13)) tl) rfl 2 (by decide) k18 (fun _ h9 => h9) rfl (by decide +kernel) rfl rfl (Nat.le_of_ble_eq_true rfl) (uC_F14 g (sF (sF (sF (sF (sF (sF (sF (sF (sF (sF (sF (sF (sF (sF σ 15 j1) 16 p1) 12 ((meetL (σ.2.1 0) ((s0.1, s0.2.1, j1, p1)) lt).1)) 13 (pkL (meetL (σ.2.1 0) ((s0.1, s0.2.1, j1, p1)) lt).2.1)) 14 ((meetL (σ.2.1 0) ((s0.1, s0.2.1, j1, p1)) lt).2.1.length)) 15 ((meetL (σ.2.1 0) ((s0.1, s0.2.1, j1, p1)) lt).2.2.1)) 16 ((meetL (σ.2.1 0) ((s0.1, s0.2.1, j1, p1)) lt).2.2.2)) 12 m2_80) 13 r2_80) 14 k2_80) 15 j2_80) 16 p2_80) 12 (σ.1 12)) 13 (σ.1 13)) tl (σ.1 14)) dX8_countFrom_101 (fun H locs hP hD hS => ?_)
          refine lv_iinc (v := nI (lt + 1)) (lv' := [(9, .int (nI (lt + 1))), (7, .long (lN (cn + (cO (σ.2.1 0) (σ.1 0) n (n - 2) (pr2 (meetL (σ.2.1 0) (s0.1, s0.2.1, j1, p1) lt)))))), (0, .ref (g.2.2.2 35)), (1, .ref (g.2.2.2 1)), (2, .int (nI 1)), (3, .int (nI n)), (4, .int (nI (σ.1 12))), (5, .int (nI (σ.1 13))), (6, .int (nI (σ.1 14)))]) hx hb dX8_countFrom_104 hl (k := 8) rfl (jn_ii _ 1) (by decide) rfl (fun ls hl => ?_)
          refine lv_goto (tgt := 59) hx hb dX8_countFrom_107 (by decide) ?_
          exact ih59 (lt + 1) (cn + (cO (σ.2.1 0) (σ.1 0) n (n - 2) (pr2 (meetL (σ.2.1 0) (s0.1, s0.2.1, j1, p1) lt)))) j2_80 p2_80 (by omega) (by rw [h3, mM_pr]; rfl) h_80 (by omega) _ _ hP hD hS _ (lv_sub hl [2, 3, 4, 5, 6, 7, 8, 1, 0] rfl)
    exact lp59 _ 0 0 (σ.1 15) (σ.1 16) (by decide) rfl (by have := ho.2.2.2; have := hW.2.2.2.2; omega) (Nat.lt_succ_self _) _ _ hP hD hS _ (lv_sub hl [5, 6, 7, 8, 4, 3, 2, 1, 0] rfl)

abbrev r_c_X8_countFrom_d0 : Room := { frames := 11, cells := 0, slots := 0, locals := 294 }
set_option maxHeartbeats 4000000 in
set_option maxRecDepth 100000 in
theorem c_X8_countFrom_d0 (l : Launch) (g : GC) (tl : va_W) (sz : Nat) (σ : SS) (n : Nat) (s0 : OW) (hA : OkA σ) (hW : OwIs σ s0) (ho : OkW s0 0) (hn : n ≤ 7) (hd : 0 ≤ n) : Met l yX8_countFrom wsX8_countFrom r_c_X8_countFrom_d0 (va_Pc [.ref (g.2.2.2 35), .ref (g.2.2.2 1), .int (nI 0), .int (nI n)] (PW g (wC g σ ++ tl) sz)) (va_Ql (fun (r : Int64) (z : Nat × Nat × Nat × Nat × Nat) => match z with | (m2, r2, k2, j2, p2) => (r = lN (cO (σ.2.1 0) (σ.1 0) n (n - 0) (pr2 s0))) ∧ (p2 < 2)) (fun (z : Nat × Nat × Nat × Nat × Nat) t => BW g (va_A (wC g σ ++ tl) sz) ((fun z : Nat × Nat × Nat × Nat × Nat => match z with | (m2, r2, k2, j2, p2) => wC g (sF (sF (sF (sF (sF σ 12 m2) 13 r2) 14 k2) 15 j2) 16 p2) ++ tl) z) t) (va_A (wC g σ ++ tl) sz)) 0 0 (va_A (wC g σ ++ tl) sz) := by
  refine jn_sl (wf := fun z : Nat × Nat × Nat × Nat × Nat => match z with | (m2, r2, k2, j2, p2) => wC g (sF (sF (sF (sF (sF σ 12 m2) 13 r2) 14 k2) 15 j2) 16 p2) ++ tl) (cc := cX8_countFrom) (maxL := 10) (own := RX8) (by decide) rfl rfl (Nat.le_of_ble_eq_true rfl) ?_
  intro p e s m below meth c Q A hx hb hml hown hts hK hP hD hS hAA hq ls hl
  obtain ⟨H, eH⟩ : ∃ z, z = s.heap := ⟨_, rfl⟩
  obtain ⟨locs, el⟩ : ∃ z : List Loc, z = [] := ⟨_, rfl⟩
  rw [← eH] at hP
  have hS : va_S A s.heap H locs := by rw [eH, el]; exact hS
  have goal0 : W p l e r_c_X8_countFrom_d0 s m ([.ref (g.2.2.2 35), .ref (g.2.2.2 1), .int (nI 0), .int (nI n)] : List Value).toArray below meth c H locs 0 0 Q (F0 m 0 ls []) → W p l e r_c_X8_countFrom_d0 s m ([.ref (g.2.2.2 35), .ref (g.2.2.2 1), .int (nI 0), .int (nI n)] : List Value).toArray below meth c s.heap [] 0 0 Q (F0 m 0 ls []) := fun h => by rw [eH, el] at h; exact h
  refine goal0 ?_
  have hl : lv_has ls 10 [(0, .ref (g.2.2.2 35)), (1, .ref (g.2.2.2 1)), (2, .int (nI 0)), (3, .int (nI n))] := hl
  have iX8 : ∀ w ∈ wsX80, w ∈ wsX8_countFrom := by decide +kernel
  have k9 := hts (.fieldLink RX8 9 "JumpingAutomata$OneWayReader" "state" "I") (by decide +kernel)
  have k15 := hts (.fieldLink RX8 15 "JumpingAutomata$OneWayReader" "rest" "I") (by decide +kernel)
  have k18 := hts (.fieldLink RX8 18 "JumpingAutomata$OneWayReader" "restSize" "I") (by decide +kernel)
  have ho8 := ho.2.1
  have okF := okw_fin hA.1 8 n s0 8 ⟨ho.1, by omega, ho.2.2⟩
  refine lv_aload_n hx hb dX8_countFrom_0 rfl (lv_at hl 0 rfl) ?_
  refine va_get (D := (g.1, g.2.1)) (ci := 10) (v := .int (nI (σ.1 12))) (C := RX8) (T := TX8) (N := 5) hx hb hts iX8 hown hK.1 hP 35 (gC35 g σ tl) rfl 0 (by decide) k9 (fun _ h9 => h9) rfl dX8_countFrom_1 ?_
  refine lv_istore (lv' := [(4, .int (nI (σ.1 12))), (0, .ref (g.2.2.2 35)), (1, .ref (g.2.2.2 1)), (2, .int (nI 0)), (3, .int (nI n))]) hx hb dX8_countFrom_4 hl (by decide) rfl (fun ls hl => ?_)
  refine lv_aload_n hx hb dX8_countFrom_6 rfl (lv_at hl 1 rfl) ?_
  refine va_get (D := (g.1, g.2.1)) (ci := 10) (v := .int (nI (σ.1 13))) (C := RX8) (T := TX8) (N := 5) hx hb hts iX8 hown hK.1 hP 35 (gC35 g σ tl) rfl 1 (by decide) k15 (fun _ h9 => h9) rfl dX8_countFrom_7 ?_
  refine lv_istore (lv' := [(5, .int (nI (σ.1 13))), (4, .int (nI (σ.1 12))), (0, .ref (g.2.2.2 35)), (1, .ref (g.2.2.2 1)), (2, .int (nI 0)), (3, .int (nI n))]) hx hb dX8_countFrom_10 hl (by decide) rfl (fun ls hl => ?_)
  refine lv_aload_n hx hb dX8_countFrom_12 rfl (lv_at hl 2 rfl) ?_
  refine va_get (D := (g.1, g.2.1)) (ci := 10) (v := .int (nI (σ.1 14))) (C := RX8) (T := TX8) (N := 5) hx hb hts iX8 hown hK.1 hP 35 (gC35 g σ tl) rfl 2 (by decide) k18 (fun _ h9 => h9) rfl dX8_countFrom_13 ?_
  refine lv_istore (lv' := [(6, .int (nI (σ.1 14))), (5, .int (nI (σ.1 13))), (4, .int (nI (σ.1 12))), (0, .ref (g.2.2.2 35)), (1, .ref (g.2.2.2 1)), (2, .int (nI 0)), (3, .int (nI n))]) hx hb dX8_countFrom_16 hl (by decide) rfl (fun ls hl => ?_)
  refine lv_lconst (v := lN 0) hx hb dX8_countFrom_18 (by decide) ?_
  refine lv_lstore (lv' := [(7, .long (lN 0)), (6, .int (nI (σ.1 14))), (5, .int (nI (σ.1 13))), (4, .int (nI (σ.1 12))), (0, .ref (g.2.2.2 35)), (1, .ref (g.2.2.2 1)), (2, .int (nI 0)), (3, .int (nI n))]) hx hb dX8_countFrom_19 hl (by decide) rfl (fun ls hl => ?_)
  refine lv_iload_n hx hb dX8_countFrom_21 rfl (lv_at hl 6 rfl) ?_
  refine lv_iload_n hx hb dX8_countFrom_22 rfl (lv_at hl 7 rfl) ?_
  refine jn_cge hx hb (by decide) (by omega) (tgt := 32) dX8_countFrom_23 (by decide) (fun c_23 => ?_) (fun c_23 => ?_)
  · refine lv_aload_n hx hb dX8_countFrom_32 rfl (lv_at hl 4 rfl) ?_
    refine lv_aload_n hx hb dX8_countFrom_33 rfl (lv_at hl 5 rfl) ?_
    refine lv_iload_n hx hb dX8_countFrom_34 rfl (lv_at hl 7 rfl) ?_
    refine jn_callv (va_runV (As := [.ref (g.2.2.2 1), .int (nI n)]) (rest := []) ⟨hx, hb, hml, hown, hts⟩ (c_X8_finish l g tl H.size σ n s0 hA hW ⟨ho.1, by omega, ho.2.2⟩ (by omega)) (cwV 2 hts gX8_countFrom_X8_finish rfl rfl rfl (by decide +kernel) ⟨Nat.le_of_ble_eq_true rfl, Nat.le_of_ble_eq_true rfl⟩) (okWV hK hP hD rfl (gC35 g σ tl)) rfl rfl hl.1 rfl (lv_room (Nat.le_of_ble_eq_true rfl)) dX8_countFrom_35 ⟨Nat.le_of_ble_eq_true rfl, Nat.le_of_ble_eq_true rfl⟩) hD hS hAA (fun u H locs hw_ hP hD hS => ?_)
    have hP : va_P (g.1, g.2.1) vwCl (wC g (sF (sF (sF (sF (sF σ 12 ((finL (σ.2.1 0) 8 n s0).1)) 13 (pkL (finL (σ.2.1 0) 8 n s0).2.1)) 14 ((finL (σ.2.1 0) 8 n s0).2.1.length)) 15 ((finL (σ.2.1 0) 8 n s0).2.2.1)) 16 ((finL (σ.2.1 0) 8 n s0).2.2.2)) ++ tl) H := hP
    have hD : va_D A (wC g (sF (sF (sF (sF (sF σ 12 ((finL (σ.2.1 0) 8 n s0).1)) 13 (pkL (finL (σ.2.1 0) 8 n s0).2.1)) 14 ((finL (σ.2.1 0) 8 n s0).2.1.length)) 15 ((finL (σ.2.1 0) 8 n s0).2.2.1)) 16 ((finL (σ.2.1 0) 8 n s0).2.2.2)) ++ tl) := hD
    refine lv_aload_n hx hb dX8_countFrom_38 rfl (lv_at hl 4 rfl) ?_
    refine lv_aload_n hx hb dX8_countFrom_39 rfl (lv_at hl 5 rfl) ?_
    refine vp_callSi (va_Run.run (va_runV (As := [.ref (g.2.2.2 1)]) (rest := []) ⟨hx, hb, hml, hown, hts⟩ (c_X8_accepted l g tl (sF (sF (sF (sF (sF σ 12 ((finL (σ.2.1 0) 8 n s0).1)) 13 (pkL (finL (σ.2.1 0) 8 n s0).2.1)) 14 ((finL (σ.2.1 0) 8 n s0).2.1.length)) 15 ((finL (σ.2.1 0) 8 n s0).2.2.1)) 16 ((finL (σ.2.1 0) 8 n s0).2.2.2)) hA (show (finL (σ.2.1 0) 8 n s0).2.1.length < 4294967296 by have := okF.2.1; omega)) (cwV 1 hts gX8_countFrom_X8_accepted rfl rfl rfl (by decide +kernel) ⟨Nat.le_of_ble_eq_true rfl, Nat.le_of_ble_eq_true rfl⟩) (okPV hK hP rfl (gC35 g (sF (sF (sF (sF (sF σ 12 ((finL (σ.2.1 0) 8 n s0).1)) 13 (pkL (finL (σ.2.1 0) 8 n s0).2.1)) 14 ((finL (σ.2.1 0) 8 n s0).2.1.length)) 15 ((finL (σ.2.1 0) 8 n s0).2.2.1)) 16 ((finL (σ.2.1 0) 8 n s0).2.2.2)) tl)) rfl rfl hl.1 rfl (lv_room (Nat.le_of_ble_eq_true rfl)) dX8_countFrom_40 ⟨Nat.le_of_ble_eq_true rfl, Nat.le_of_ble_eq_true rfl⟩)) (fun r_40 h_40 => ?_)
    have h_40 : r_40 = (nI (if ((finL (σ.2.1 0) 8 n s0).2.1.length) = 0 ∧ ((finL (σ.2.1 0) 8 n s0).1) &&& σ.1 0 ≠ 0 then 1 else 0)) := h_40
    subst h_40
    have jp51 : ∀ v51 : Nat, v51 = (if (finL (σ.2.1 0) 8 n s0).2.1.length = 0 ∧ (finL (σ.2.1 0) 8 n s0).1 &&& (σ.1 0) ≠ 0 then 1 else 0) → W p l e r_c_X8_countFrom_d0 s m ([.ref (g.2.2.2 35), .ref (g.2.2.2 1), .int (nI 0), .int (nI n)] : List Value).toArray below meth c H locs 0 0 Q (F0 m 51 ls [.long (lN v51)]) := by
      intro v51 ev51
      refine lv_lstore (lv' := [(7, .long (lN v51)), (6, .int (nI (σ.1 14))), (5, .int (nI (σ.1 13))), (4, .int (nI (σ.1 12))), (0, .ref (g.2.2.2 35)), (1, .ref (g.2.2.2 1)), (2, .int (nI 0)), (3, .int (nI n))]) hx hb dX8_countFrom_51 hl (by decide) rfl (fun ls hl => ?_)
      refine lv_goto (tgt := 110) hx hb dX8_countFrom_53 (by decide) ?_
      refine lv_lload hx hb dX8_countFrom_110 (lv_at hl 0 rfl) ?_
      exact hq _ _ _ _ ((lN v51)) (((finL (σ.2.1 0) 8 n s0).1), (pkL (finL (σ.2.1 0) 8 n s0).2.1), ((finL (σ.2.1 0) 8 n s0).2.1.length), ((finL (σ.2.1 0) 8 n s0).2.2.1), ((finL (σ.2.1 0) 8 n s0).2.2.2)) dX8_countFrom_112 (by first | exact ⟨by rw [ev51, show n - 0 = 0 by omega, cO, ← fin_pr], okF.2.2.2⟩ | exact ⟨by rw [h3, show lt = 3 by omega, show n - 0 = (n - 1) + 1 by omega]; rfl, hp2⟩) hP hD hS
    refine jn_beq hx hb (tgt := 50) dX8_countFrom_43 (by decide) (fun c_43 => ?_) (fun c_43 => ?_)
    · refine lv_lconst (v := lN 0) hx hb dX8_countFrom_50 (by decide) ?_
      exact jp51 0 (by rw [if_neg c_43])
    · refine lv_lconst (v := lN 1) hx hb dX8_countFrom_46 (by decide) ?_
      refine lv_goto (tgt := 51) hx hb dX8_countFrom_47 (by decide) ?_
      exact jp51 1 (by rw [if_pos c_43])
  · refine lv_iload_n hx hb dX8_countFrom_26 rfl (lv_at hl 6 rfl) ?_
    refine lv_bipush (v := nI 8) hx hb dX8_countFrom_27 (by decide) ?_
    refine jn_clt hx hb (by decide) (by decide) (tgt := 56) dX8_countFrom_29 (by decide) (fun c_29 => ?_) (fun c_29 => absurd c_29 (by decide))
    refine lv_iconst (v := nI 0) hx hb dX8_countFrom_56 (by decide) ?_
    refine lv_istore (lv' := [(9, .int (nI 0)), (7, .long (lN 0)), (6, .int (nI (σ.1 14))), (5, .int (nI (σ.1 13))), (4, .int (nI (σ.1 12))), (0, .ref (g.2.2.2 35)), (1, .ref (g.2.2.2 1)), (2, .int (nI 0)), (3, .int (nI n))]) hx hb dX8_countFrom_57 hl (by decide) rfl (fun ls hl => ?_)
    have lp59 : ∀ (fu : Nat), ∀ (lt : Nat) (cn : Nat) (j1 : Nat) (p1 : Nat), (lt ≤ 3) → (cn = fb_sm (fun x => cO (σ.2.1 0) (σ.1 0) n (n - 1) (mM (σ.2.1 0) (pr2 s0) x)) lt) → (p1 < 2) → 3 - lt < fu → ∀ (H : Heap) (locs : List Loc), va_P (g.1, g.2.1) vwCl (wC g (sF (sF σ 15 j1) 16 p1) ++ tl) H → va_D A (wC g (sF (sF σ 15 j1) 16 p1) ++ tl) → va_S A s.heap H locs → ∀ ls : Array Slot, lv_has ls 10 [(0, .ref (g.2.2.2 35)), (1, .ref (g.2.2.2 1)), (2, .int (nI 0)), (3, .int (nI n)), (4, .int (nI (σ.1 12))), (5, .int (nI (σ.1 13))), (6, .int (nI (σ.1 14))), (7, .long (lN cn)), (9, .int (nI lt))] → W p l e r_c_X8_countFrom_d0 s m ([.ref (g.2.2.2 35), .ref (g.2.2.2 1), .int (nI 0), .int (nI n)] : List Value).toArray below meth c H locs 0 0 Q (F0 m 59 ls []) := by
      intro fu
      induction fu with
      | zero => intro lt cn j1 p1 h2 h3 hp2 hf; exact absurd hf (Nat.not_lt_zero _)
      | succ fu ih59 =>
        intro lt cn j1 p1 h2 h3 hp2 hf H locs hP hD hS ls hl
        refine lv_iload hx hb dX8_countFrom_59 (lv_at hl 8 rfl) ?_
        refine lv_iconst (v := nI 3) hx hb dX8_countFrom_61 (by decide) ?_
        refine jn_cge hx hb (by omega) (by decide) (tgt := 110) dX8_countFrom_62 (by decide) (fun c_62 => ?_) (fun c_62 => ?_)
        · refine lv_lload hx hb dX8_countFrom_110 (lv_at hl 7 rfl) ?_
          exact hq _ _ _ _ ((lN cn)) ((σ.1 12), (σ.1 13), (σ.1 14), j1, p1) dX8_countFrom_112 (by first | exact ⟨by rw [ev51, show n - 0 = 0 by omega, cO, ← fin_pr], okF.2.2.2⟩ | exact ⟨by rw [h3, show lt = 3 by omega, show n - 0 = (n - 1) + 1 by omega]; rfl, hp2⟩) hP hD hS
        · refine lv_aload_n hx hb dX8_countFrom_65 rfl (lv_at hl 0 rfl) ?_
          refine lv_aload_n hx hb dX8_countFrom_66 rfl (lv_at hl 1 rfl) ?_
          refine lv_iload hx hb dX8_countFrom_67 (lv_at hl 8 rfl) ?_
          refine jn_callv (va_runV (As := [.ref (g.2.2.2 1), .int (nI lt)]) (rest := []) ⟨hx, hb, hml, hown, hts⟩ (c_X8_meet l g tl H.size (sF (sF σ 15 j1) 16 p1) lt ((s0.1, s0.2.1, j1, p1)) hA ⟨hW.1, hW.2.1, hW.2.2.1, rfl, rfl⟩ ⟨ho.1, by show s0.2.1.length ≤ 7; omega, ho.2.2.1, hp2⟩ (by omega)) (cwV 2 hts gX8_countFrom_X8_meet rfl rfl rfl (by decide +kernel) ⟨Nat.le_of_ble_eq_true rfl, Nat.le_of_ble_eq_true rfl⟩) (okWV hK hP hD rfl (gC35 g (sF (sF σ 15 j1) 16 p1) tl)) rfl rfl hl.1 rfl (lv_room (Nat.le_of_ble_eq_true rfl)) dX8_countFrom_69 ⟨Nat.le_of_ble_eq_true rfl, Nat.le_of_ble_eq_true rfl⟩) hD hS hAA (fun u H locs hw_ hP hD hS => ?_)
          have hP : va_P (g.1, g.2.1) vwCl (wC g (sF (sF (sF (sF (sF (sF (sF σ 15 j1) 16 p1) 12 ((meetL (σ.2.1 0) ((s0.1, s0.2.1, j1, p1)) lt).1)) 13 (pkL (meetL (σ.2.1 0) ((s0.1, s0.2.1, j1, p1)) lt).2.1)) 14 ((meetL (σ.2.1 0) ((s0.1, s0.2.1, j1, p1)) lt).2.1.length)) 15 ((meetL (σ.2.1 0) ((s0.1, s0.2.1, j1, p1)) lt).2.2.1)) 16 ((meetL (σ.2.1 0) ((s0.1, s0.2.1, j1, p1)) lt).2.2.2)) ++ tl) H := hP
          have hD : va_D A (wC g (sF (sF (sF (sF (sF (sF (sF σ 15 j1) 16 p1) 12 ((meetL (σ.2.1 0) ((s0.1, s0.2.1, j1, p1)) lt).1)) 13 (pkL (meetL (σ.2.1 0) ((s0.1, s0.2.1, j1, p1)) lt).2.1)) 14 ((meetL (σ.2.1 0) ((s0.1, s0.2.1, j1, p1)) lt).2.1.length)) 15 ((meetL (σ.2.1 0) ((s0.1, s0.2.1, j1, p1)) lt).2.2.1)) 16 ((meetL (σ.2.1 0) ((s0.1, s0.2.1, j1, p1)) lt).2.2.2)) ++ tl) := hD
          refine lv_lload hx hb dX8_countFrom_72 (lv_at hl 7 rfl) ?_
          refine lv_aload_n hx hb dX8_countFrom_74 rfl (lv_at hl 0 rfl) ?_
          refine lv_aload_n hx hb dX8_countFrom_75 rfl (lv_at hl 1 rfl) ?_
          refine lv_iload_n hx hb dX8_countFrom_76 rfl (lv_at hl 2 rfl) ?_
          refine lv_iconst (v := nI 1) hx hb dX8_countFrom_77 (by decide) ?_
          refine jn_iadd hx hb dX8_countFrom_78 ?_
          refine lv_iload_n hx hb dX8_countFrom_79 rfl (lv_at hl 3 rfl) ?_
          refine jn_calll (va_runV (As := [.ref (g.2.2.2 1), .int (nI (0 + 1)), .int (nI n)]) (rest := [.long (lN cn)]) ⟨hx, hb, hml, hown, hts⟩ (c_X8_countFrom_d1 l g tl H.size (sF (sF (sF (sF (sF (sF (sF σ 15 j1) 16 p1) 12 ((meetL (σ.2.1 0) ((s0.1, s0.2.1, j1, p1)) lt).1)) 13 (pkL (meetL (σ.2.1 0) ((s0.1, s0.2.1, j1, p1)) lt).2.1)) 14 ((meetL (σ.2.1 0) ((s0.1, s0.2.1, j1, p1)) lt).2.1.length)) 15 ((meetL (σ.2.1 0) ((s0.1, s0.2.1, j1, p1)) lt).2.2.1)) 16 ((meetL (σ.2.1 0) ((s0.1, s0.2.1, j1, p1)) lt).2.2.2)) n (meetL (σ.2.1 0) (s0.1, s0.2.1, j1, p1) lt) hA ⟨rfl, rfl, rfl, rfl, rfl⟩ (okw_meet hA.1 (s := (s0.1, s0.2.1, j1, p1)) (n := 0) ⟨ho.1, ho.2.1, ho.2.2.1, hp2⟩ (by omega)) hn (by omega)) (cwV 3 hts gX8_countFrom_X8_countFrom rfl rfl rfl (by decide +kernel) ⟨Nat.le_of_ble_eq_true rfl, Nat.le_of_ble_eq_true rfl⟩) (okWV hK hP hD rfl (gC35 g (sF (sF (sF (sF (sF (sF (sF σ 15 j1) 16 p1) 12 ((meetL (σ.2.1 0) ((s0.1, s0.2.1, j1, p1)) lt).1)) 13 (pkL (meetL (σ.2.1 0) ((s0.1, s0.2.1, j1, p1)) lt).2.1)) 14 ((meetL (σ.2.1 0) ((s0.1, s0.2.1, j1, p1)) lt).2.1.length)) 15 ((meetL (σ.2.1 0) ((s0.1, s0.2.1, j1, p1)) lt).2.2.1)) 16 ((meetL (σ.2.1 0) ((s0.1, s0.2.1, j1, p1)) lt).2.2.2)) tl)) rfl rfl hl.1 rfl (lv_room (Nat.le_of_ble_eq_true rfl)) dX8_countFrom_80 ⟨Nat.le_of_ble_eq_true rfl, Nat.le_of_ble_eq_true rfl⟩) hD hS hAA (fun r_80 u H locs hw_ hP hD hS => ?_)
          obtain ⟨m2_80, r2_80, k2_80, j2_80, p2_80⟩ := u
          obtain ⟨rfl, h_80⟩ := hw_
          have h_80 : p2_80 < 2 := h_80
          have hP : va_P (g.1, g.2.1) vwCl (wC g (sF (sF (sF (sF (sF (sF (sF (sF (sF (sF (sF (sF σ 15 j1) 16 p1) 12 ((meetL (σ.2.1 0) ((s0.1, s0.2.1, j1, p1)) lt).1)) 13 (pkL (meetL (σ.2.1 0) ((s0.1, s0.2.1, j1, p1)) lt).2.1)) 14 ((meetL (σ.2.1 0) ((s0.1, s0.2.1, j1, p1)) lt).2.1.length)) 15 ((meetL (σ.2.1 0) ((s0.1, s0.2.1, j1, p1)) lt).2.2.1)) 16 ((meetL (σ.2.1 0) ((s0.1, s0.2.1, j1, p1)) lt).2.2.2)) 12 m2_80) 13 r2_80) 14 k2_80) 15 j2_80) 16 p2_80) ++ tl) H := hP
          have hD : va_D A (wC g (sF (sF (sF (sF (sF (sF (sF (sF (sF (sF (sF (sF σ 15 j1) 16 p1) 12 ((meetL (σ.2.1 0) ((s0.1, s0.2.1, j1, p1)) lt).1)) 13 (pkL (meetL (σ.2.1 0) ((s0.1, s0.2.1, j1, p1)) lt).2.1)) 14 ((meetL (σ.2.1 0) ((s0.1, s0.2.1, j1, p1)) lt).2.1.length)) 15 ((meetL (σ.2.1 0) ((s0.1, s0.2.1, j1, p1)) lt).2.2.1)) 16 ((meetL (σ.2.1 0) ((s0.1, s0.2.1, j1, p1)) lt).2.2.2)) 12 m2_80) 13 r2_80) 14 k2_80) 15 j2_80) 16 p2_80) ++ tl) := hD
          refine jn_ladd hx hb dX8_countFrom_83 ?_
          refine lv_lstore (lv' := [(7, .long (lN (cn + (cO (σ.2.1 0) (σ.1 0) n (n - 1) (pr2 (meetL (σ.2.1 0) (s0.1, s0.2.1, j1, p1) lt)))))), (0, .ref (g.2.2.2 35)), (1, .ref (g.2.2.2 1)), (2, .int (nI 0)), (3, .int (nI n)), (4, .int (nI (σ.1 12))), (5, .int (nI (σ.1 13))), (6, .int (nI (σ.1 14))), (9, .int (nI lt))]) hx hb dX8_countFrom_84 hl (by decide) rfl (fun ls hl => ?_)
          refine lv_aload_n hx hb dX8_countFrom_86 rfl (lv_at hl 1 rfl) ?_
          refine lv_iload hx hb dX8_countFrom_87 (lv_at hl 5 rfl) ?_
          refine jn_put (D := (g.1, g.2.1)) (ci := 10) (v := .int (nI (σ.1 12))) (ty := .int) (C := RX8) (T := TX8) (N := 5) hx hb hts iX8 tyX8 tyX8_ok nmX8 hown hK.1 hP hD hS 35 (gC35 g (sF (sF (sF (sF (sF (sF (sF (sF (sF (sF (sF (sF σ 15 j1) 16 p1) 12 ((meetL (σ.2.1 0) ((s0.1, s0.2.1, j1, p1)) lt).1)) 13 (pkL (meetL (σ.2.1 0) ((s0.1, s0.2.1, j1, p1)) lt).2.1)) 14 ((meetL (σ.2.1 0) ((s0.1, s0.2.1, j1, p1)) lt).2.1.length)) 15 ((meetL (σ.2.1 0) ((s0.1, s0.2.1, j1, p1)) lt).2.2.1)) 16 ((meetL (σ.2.1 0) ((s0.1, s0.2.1, j1, p1)) lt).2.2.2)) 12 m2_80) 13 r2_80) 14 k2_80) 15 j2_80) 16 p2_80) tl) rfl 0 (by decide) k9 (fun _ h9 => h9) rfl (by decide +kernel) rfl rfl (Nat.le_of_ble_eq_true rfl) (uC_F12 g (sF (sF (sF (sF (sF (sF (sF (sF (sF (sF (sF (sF σ 15 j1) 16 p1) 12 ((meetL (σ.2.1 0) ((s0.1, s0.2.1, j1, p1)) lt).1)) 13 (pkL (meetL (σ.2.1 0) ((s0.1, s0.2.1, j1, p1)) lt).2.1)) 14 ((meetL (σ.2.1 0) ((s0.1, s0.2.1, j1, p1)) lt).2.1.length)) 15 ((meetL (σ.2.1 0) ((s0.1, s0.2.1, j1, p1)) lt).2.2.1)) 16 ((meetL (σ.2.1 0) ((s0.1, s0.2.1, j1, p1)) lt).2.2.2)) 12 m2_80) 13 r2_80) 14 k2_80) 15 j2_80) 16 p2_80) tl (σ.1 12)) dX8_countFrom_89 (fun H locs hP hD hS => ?_)
          refine lv_aload_n hx hb dX8_countFrom_92 rfl (lv_at hl 1 rfl) ?_
          refine lv_iload hx hb dX8_countFrom_93 (lv_at hl 6 rfl) ?_
          refine jn_put (D := (g.1, g.2.1)) (ci := 10) (v := .int (nI (σ.1 13))) (ty := .int) (C := RX8) (T := TX8) (N := 5) hx hb hts iX8 tyX8 tyX8_ok nmX8 hown hK.1 hP hD hS 35 (gC35 g (sF (sF (sF (sF (sF (sF (sF (sF (sF (sF (sF (sF (sF σ 15 j1) 16 p1) 12 ((meetL (σ.2.1 0) ((s0.1, s0.2.1, j1, p1)) lt).1)) 13 (pkL (meetL (σ.2.1 0) ((s0.1, s0.2.1, j1, p1)) lt).2.1)) 14 ((meetL (σ.2.1 0) ((s0.1, s0.2.1, j1, p1)) lt).2.1.length)) 15 ((meetL (σ.2.1 0) ((s0.1, s0.2.1, j1, p1)) lt).2.2.1)) 16 ((meetL (σ.2.1 0) ((s0.1, s0.2.1, j1, p1)) lt).2.2.2)) 12 m2_80) 13 r2_80) 14 k2_80) 15 j2_80) 16 p2_80) 12 (σ.1 12)) tl) rfl 1 (by decide) k15 (fun _ h9 => h9) rfl (by decide +kernel) rfl rfl (Nat.le_of_ble_eq_true rfl) (uC_F13 g (sF (sF (sF (sF (sF (sF (sF (sF (sF (sF (sF (sF (sF σ 15 j1) 16 p1) 12 ((meetL (σ.2.1 0) ((s0.1, s0.2.1, j1, p1)) lt).1)) 13 (pkL (meetL (σ.2.1 0) ((s0.1, s0.2.1, j1, p1)) lt).2.1)) 14 ((meetL (σ.2.1 0) ((s0.1, s0.2.1, j1, p1)) lt).2.1.length)) 15 ((meetL (σ.2.1 0) ((s0.1, s0.2.1, j1, p1)) lt).2.2.1)) 16 ((meetL (σ.2.1 0) ((s0.1, s0.2.1, j1, p1)) lt).2.2.2)) 12 m2_80) 13 r2_80) 14 k2_80) 15 j2_80) 16 p2_80) 12 (σ.1 12)) tl (σ.1 13)) dX8_countFrom_95 (fun H locs hP hD hS => ?_)
          refine lv_aload_n hx hb dX8_countFrom_98 rfl (lv_at hl 1 rfl) ?_
          refine lv_iload hx hb dX8_countFrom_99 (lv_at hl 7 rfl) ?_
          refine jn_put (D := (g.1, g.2.1)) (ci := 10) (v := .int (nI (σ.1 14))) (ty := .int) (C := RX8) (T := TX8) (N := 5) hx hb hts iX8 tyX8 tyX8_ok nmX8 hown hK.1 hP hD hS 35 (gC35 g (sF (sF (sF (sF (sF (sF (sF (sF (sF (sF (sF (sF (sF (sF σ 15 j1) 16 p1) 12 ((meetL (σ.2.1 0) ((s0.1, s0.2.1, j1, p1)) lt).1)) 13 (pkL (meetL (σ.2.1 0) ((s0.1, s0.2.1, j1, p1)) lt).2.1)) 14 ((meetL (σ.2.1 0) ((s0.1, s0.2.1, j1, p1)) lt).2.1.length)) 15 ((meetL (σ.2.1 0) ((s0.1, s0.2.1, j1, p1)) lt).2.2.1)) 16 ((meetL (σ.2.1 0) ((s0.1, s0.2.1, j1, p1)) lt).2.2.2)) 12 m2_80) 13 r2_80) 14 k2_80) 15 j2_80) 16 p2_80) 12 (σ.1 12)) 13 (σ.1 13)) tl) rfl 2 (by decide) k18 (fun _ h9 => h9) rfl (by decide +kernel) rfl rfl (Nat.le_of_ble_eq_true rfl) (uC_F14 g (sF (sF (sF (sF (sF (sF (sF (sF (sF (sF (sF (sF (sF (sF σ 15 j1) 16 p1) 12 ((meetL (σ.2.1 0) ((s0.1, s0.2.1, j1, p1)) lt).1)) 13 (pkL (meetL (σ.2.1 0) ((s0.1, s0.2.1, j1, p1)) lt).2.1)) 14 ((meetL (σ.2.1 0) ((s0.1, s0.2.1, j1, p1)) lt).2.1.length)) 15 ((meetL (σ.2.1 0) ((s0.1, s0.2.1, j1, p1)) lt).2.2.1)) 16 ((meetL (σ.2.1 0) ((s0.1, s0.2.1, j1, p1)) lt).2.2.2)) 12 m2_80) 13 r2_80) 14 k2_80) 15 j2_80) 16 p2_80) 12 (σ.1 12)) 13 (σ.1 13)) tl (σ.1 14)) dX8_countFrom_101 (fun H locs hP hD hS => ?_)
          refine lv_iinc (v := nI (lt + 1)) (lv' := [(9, .int (nI (lt + 1))), (7, .long (lN (cn + (cO (σ.2.1 0) (σ.1 0) n (n - 1) (pr2 (meetL (σ.2.1 0) (s0.1, s0.2.1, j1, p1) lt)))))), (0, .ref (g.2.2.2 35)), (1, .ref (g.2.2.2 1)), (2, .int (nI 0)), (3, .int (nI n)), (4, .int (nI (σ.1 12))), (5, .int (nI (σ.1 13))), (6, .int (nI (σ.1 14)))]) hx hb dX8_countFrom_104 hl (k := 8) rfl (jn_ii _ 1) (by decide) rfl (fun ls hl => ?_)
          refine lv_goto (tgt := 59) hx hb dX8_countFrom_107 (by decide) ?_
          exact ih59 (lt + 1) (cn + (cO (σ.2.1 0) (σ.1 0) n (n - 1) (pr2 (meetL (σ.2.1 0) (s0.1, s0.2.1, j1, p1) lt)))) j2_80 p2_80 (by omega) (by rw [h3, mM_pr]; rfl) h_80 (by omega) _ _ hP hD hS _ (lv_sub hl [2, 3, 4, 5, 6, 7, 8, 1, 0] rfl)
    exact lp59 _ 0 0 (σ.1 15) (σ.1 16) (by decide) rfl (by have := ho.2.2.2; have := hW.2.2.2.2; omega) (Nat.lt_succ_self _) _ _ hP hD hS _ (lv_sub hl [5, 6, 7, 8, 4, 3, 2, 1, 0] rfl)

abbrev r_c_X8_countAccepted : Room := { frames := 12, cells := 0, slots := 0, locals := 323 }
set_option maxHeartbeats 4000000 in
set_option maxRecDepth 100000 in
theorem c_X8_countAccepted (l : Launch) (g : GC) (tl : va_W) (sz : Nat) (σ : SS) (n : Nat) (hA : OkA σ) (hn : n ≤ 7) : Met l yX8_countAccepted wsX8_countAccepted r_c_X8_countAccepted (va_Pc [.ref (g.2.2.2 35), .ref (g.2.2.2 1), .int (nI n)] (PW g (wC g σ ++ tl) sz)) (va_Ql (fun (r : Int64) (z : Nat × Nat × Nat × Nat × Nat) => match z with | (m2, r2, k2, j2, p2) => r = lN (cO (σ.2.1 0) (σ.1 0) n n (1, []))) (fun (z : Nat × Nat × Nat × Nat × Nat) t => BW g (va_A (wC g σ ++ tl) sz) ((fun z : Nat × Nat × Nat × Nat × Nat => match z with | (m2, r2, k2, j2, p2) => wC g (sF (sF (sF (sF (sF σ 12 m2) 13 r2) 14 k2) 15 j2) 16 p2) ++ tl) z) t) (va_A (wC g σ ++ tl) sz)) 0 0 (va_A (wC g σ ++ tl) sz) := by
  refine jn_sl (wf := fun z : Nat × Nat × Nat × Nat × Nat => match z with | (m2, r2, k2, j2, p2) => wC g (sF (sF (sF (sF (sF σ 12 m2) 13 r2) 14 k2) 15 j2) 16 p2) ++ tl) (cc := cX8_countAccepted) (maxL := 3) (own := RX8) (by decide) rfl rfl (Nat.le_of_ble_eq_true rfl) ?_
  intro p e s m below meth c Q A hx hb hml hown hts hK hP hD hS hAA hq ls hl
  obtain ⟨H, eH⟩ : ∃ z, z = s.heap := ⟨_, rfl⟩
  obtain ⟨locs, el⟩ : ∃ z : List Loc, z = [] := ⟨_, rfl⟩
  rw [← eH] at hP
  have hS : va_S A s.heap H locs := by rw [eH, el]; exact hS
  have goal0 : W p l e r_c_X8_countAccepted s m ([.ref (g.2.2.2 35), .ref (g.2.2.2 1), .int (nI n)] : List Value).toArray below meth c H locs 0 0 Q (F0 m 0 ls []) → W p l e r_c_X8_countAccepted s m ([.ref (g.2.2.2 35), .ref (g.2.2.2 1), .int (nI n)] : List Value).toArray below meth c s.heap [] 0 0 Q (F0 m 0 ls []) := fun h => by rw [eH, el] at h; exact h
  refine goal0 ?_
  have hl : lv_has ls 3 [(0, .ref (g.2.2.2 35)), (1, .ref (g.2.2.2 1)), (2, .int (nI n))] := hl
  refine lv_aload_n hx hb dX8_countAccepted_0 rfl (lv_at hl 0 rfl) ?_
  refine jn_callv (va_runV (As := []) (rest := []) ⟨hx, hb, hml, hown, hts⟩ (c_X8_begin l g tl H.size σ) (cwV 0 hts gX8_countAccepted_X8_begin rfl rfl rfl (by decide +kernel) ⟨Nat.le_of_ble_eq_true rfl, Nat.le_of_ble_eq_true rfl⟩) (okWV hK hP hD rfl (gC35 g σ tl)) rfl rfl hl.1 rfl (lv_room (Nat.le_of_ble_eq_true rfl)) dX8_countAccepted_1 ⟨Nat.le_of_ble_eq_true rfl, Nat.le_of_ble_eq_true rfl⟩) hD hS hAA (fun u H locs hw_ hP hD hS => ?_)
  have hP : va_P (g.1, g.2.1) vwCl (wC g (sF (sF (sF (sF (sF σ 12 1) 13 0) 14 0) 15 0) 16 0) ++ tl) H := hP
  have hD : va_D A (wC g (sF (sF (sF (sF (sF σ 12 1) 13 0) 14 0) 15 0) 16 0) ++ tl) := hD
  refine lv_aload_n hx hb dX8_countAccepted_4 rfl (lv_at hl 0 rfl) ?_
  refine lv_aload_n hx hb dX8_countAccepted_5 rfl (lv_at hl 1 rfl) ?_
  refine lv_iconst (v := nI 0) hx hb dX8_countAccepted_6 (by decide) ?_
  refine lv_iload_n hx hb dX8_countAccepted_7 rfl (lv_at hl 2 rfl) ?_
  refine jn_calll (va_runV (As := [.ref (g.2.2.2 1), .int (nI 0), .int (nI n)]) (rest := []) ⟨hx, hb, hml, hown, hts⟩ (c_X8_countFrom_d0 l g tl H.size (sF (sF (sF (sF (sF σ 12 1) 13 0) 14 0) 15 0) 16 0) n ((1, [], 0, 0)) hA ⟨rfl, rfl, rfl, rfl, rfl⟩ ⟨(by decide : 1 < 32), Nat.zero_le _, fun x h => absurd h List.not_mem_nil, (by decide : 0 < 2)⟩ hn (Nat.zero_le _)) (cwV 3 hts gX8_countAccepted_X8_countFrom rfl rfl rfl (by decide +kernel) ⟨Nat.le_of_ble_eq_true rfl, Nat.le_of_ble_eq_true rfl⟩) (okWV hK hP hD rfl (gC35 g (sF (sF (sF (sF (sF σ 12 1) 13 0) 14 0) 15 0) 16 0) tl)) rfl rfl hl.1 rfl (lv_room (Nat.le_of_ble_eq_true rfl)) dX8_countAccepted_8 ⟨Nat.le_of_ble_eq_true rfl, Nat.le_of_ble_eq_true rfl⟩) hD hS hAA (fun r_8 u H locs hw_ hP hD hS => ?_)
  obtain ⟨m2_8, r2_8, k2_8, j2_8, p2_8⟩ := u
  obtain ⟨rfl, h_8⟩ := hw_
  have h_8 : p2_8 < 2 := h_8
  have hP : va_P (g.1, g.2.1) vwCl (wC g (sF (sF (sF (sF (sF (sF (sF (sF (sF (sF σ 12 1) 13 0) 14 0) 15 0) 16 0) 12 m2_8) 13 r2_8) 14 k2_8) 15 j2_8) 16 p2_8) ++ tl) H := hP
  have hD : va_D A (wC g (sF (sF (sF (sF (sF (sF (sF (sF (sF (sF σ 12 1) 13 0) 14 0) 15 0) 16 0) 12 m2_8) 13 r2_8) 14 k2_8) 15 j2_8) 16 p2_8) ++ tl) := hD
  exact hq _ _ _ _ ((lN (cO (σ.2.1 0) (σ.1 0) n (n - 0) (pr2 ((1, [], 0, 0)))))) (m2_8, r2_8, k2_8, j2_8, p2_8) dX8_countAccepted_11 rfl hP hD hS
