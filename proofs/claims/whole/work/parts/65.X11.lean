abbrev r_c_X11_sign : Room := { frames := 1, cells := 0, slots := 0, locals := 22 }
set_option maxHeartbeats 4000000 in
set_option maxRecDepth 100000 in
theorem c_X11_sign (l : Launch) (g : GC) (tl : va_W) (sz : Nat) (σ : SS) (lo hi : Nat) (hn : (σ.1 3) ≤ 40) (hc : ∀ k, k < (σ.1 3) → (σ.2.1 3) k < 127) (ha : (σ.1 4) ≤ 40) (hf : (σ.1 5) < 4294967296) (hlo : lo < 128) (hhi : hi < 128) : Met l yX11_sign wsX11_sign r_c_X11_sign (va_Pc [.ref (g.2.2.2 0), .int (nI lo), .int (nI hi)] (PW g (wM g σ ++ tl) sz)) (va_Qi (fun (r : Int32) (z : Nat × Nat × Nat) => match z with | (r0, at2, fl2) => (r = nI (r0)) ∧ ((r0, at2, fl2) = sgn (σ.2.1 3) (σ.1 3) (σ.1 4) (σ.1 5) lo hi)) (fun (z : Nat × Nat × Nat) t => BW g (va_A (wM g σ ++ tl) sz) ((fun z : Nat × Nat × Nat => match z with | (r0, at2, fl2) => wM g (sF (sF σ 4 at2) 5 fl2) ++ tl) z) t) (va_A (wM g σ ++ tl) sz)) 0 0 (va_A (wM g σ ++ tl) sz) := by
  refine jn_si (wf := fun z : Nat × Nat × Nat => match z with | (r0, at2, fl2) => wM g (sF (sF σ 4 at2) 5 fl2) ++ tl) (cc := cX11_sign) (maxL := 3) (own := RX11) (by decide) rfl rfl (Nat.le_of_ble_eq_true rfl) ?_
  intro p e s m below meth c Q A hx hb hml hown hts hK hP hD hS hAA hq ls hl
  obtain ⟨H, eH⟩ : ∃ z, z = s.heap := ⟨_, rfl⟩
  obtain ⟨locs, el⟩ : ∃ z : List Loc, z = [] := ⟨_, rfl⟩
  rw [← eH] at hP
  have hS : va_S A s.heap H locs := by rw [eH, el]; exact hS
  have goal0 : W p l e r_c_X11_sign s m ([.ref (g.2.2.2 0), .int (nI lo), .int (nI hi)] : List Value).toArray below meth c H locs 0 0 Q (F0 m 0 ls []) → W p l e r_c_X11_sign s m ([.ref (g.2.2.2 0), .int (nI lo), .int (nI hi)] : List Value).toArray below meth c s.heap [] 0 0 Q (F0 m 0 ls []) := fun h => by rw [eH, el] at h; exact h
  refine goal0 ?_
  have hl : lv_has ls 3 [(0, .ref (g.2.2.2 0)), (1, .int (nI lo)), (2, .int (nI hi))] := hl
  have iX11 : ∀ w ∈ wsX110, w ∈ wsX11_sign := by decide +kernel
  have k39 := hts (.fieldLink RX11 39 "JumpingAutomataModel" "fault" "I") (by decide +kernel)
  have k36 := hts (.fieldLink RX11 36 "JumpingAutomataModel" "at" "I") (by decide +kernel)
  have k33 := hts (.fieldLink RX11 33 "JumpingAutomataModel" "texted" "I") (by decide +kernel)
  have k30 := hts (.fieldLink RX11 30 "JumpingAutomataModel" "text" "[I") (by decide +kernel)
  refine lv_aload_n hx hb dX11_sign_0 rfl (lv_at hl 0 rfl) ?_
  refine va_get (D := (g.1, g.2.1)) (ci := 13) (v := .int (nI (σ.1 5))) (C := RX11) (T := TX11) (N := 30) hx hb hts iX11 hown hK.1 hP 0 (gM0 g σ tl) rfl 9 (by decide) k39 (fun _ h9 => h9) rfl dX11_sign_1 ?_
  refine jn_zlt hx hb (by omega) (tgt := 9) dX11_sign_4 (by decide) (fun c_4 => ?_) (fun c_4 => ?_)
  · refine lv_aload_n hx hb dX11_sign_9 rfl (lv_at hl 0 rfl) ?_
    refine va_get (D := (g.1, g.2.1)) (ci := 13) (v := .int (nI (σ.1 4))) (C := RX11) (T := TX11) (N := 30) hx hb hts iX11 hown hK.1 hP 0 (gM0 g σ tl) rfl 8 (by decide) k36 (fun _ h9 => h9) rfl dX11_sign_10 ?_
    refine lv_aload_n hx hb dX11_sign_13 rfl (lv_at hl 0 rfl) ?_
    refine va_get (D := (g.1, g.2.1)) (ci := 13) (v := .int (nI (σ.1 3))) (C := RX11) (T := TX11) (N := 30) hx hb hts iX11 hown hK.1 hP 0 (gM0 g σ tl) rfl 7 (by decide) k33 (fun _ h9 => h9) rfl dX11_sign_14 ?_
    refine jn_cge hx hb (by omega) (by omega) (tgt := 37) dX11_sign_17 (by decide) (fun c_17 => ?_) (fun c_17 => ?_)
    · refine lv_aload_n hx hb dX11_sign_37 rfl (lv_at hl 0 rfl) ?_
      refine lv_aload_n hx hb dX11_sign_38 rfl (lv_at hl 0 rfl) ?_
      refine va_get (D := (g.1, g.2.1)) (ci := 13) (v := .int (nI (σ.1 4))) (C := RX11) (T := TX11) (N := 30) hx hb hts iX11 hown hK.1 hP 0 (gM0 g σ tl) rfl 8 (by decide) k36 (fun _ h9 => h9) rfl dX11_sign_39 ?_
      refine jn_put (D := (g.1, g.2.1)) (ci := 13) (v := .int (nI (σ.1 4))) (ty := .int) (C := RX11) (T := TX11) (N := 30) hx hb hts iX11 tyX11 tyX11_ok nmX11 hown hK.1 hP hD hS 0 (gM0 g σ tl) rfl 9 (by decide) k39 (fun _ h9 => h9) rfl (by decide +kernel) rfl rfl (Nat.le_of_ble_eq_true rfl) (uM_F5 g σ tl (σ.1 4)) dX11_sign_42 (fun H locs hP hD hS => ?_)
      refine lv_iconst (v := nI 0) hx hb dX11_sign_45 (by decide) ?_
      exact hq _ _ _ _ ((nI 0)) (0, (σ.1 4), (σ.1 4)) dX11_sign_46 ⟨rfl, by unfold sgn; rw [if_neg (by omega), if_pos (by omega)]⟩ hP hD hS
    · refine lv_aload_n hx hb dX11_sign_20 rfl (lv_at hl 0 rfl) ?_
      refine va_get (D := (g.1, g.2.1)) (ci := 13) (v := .ref (g.2.2.2 4)) (C := RX11) (T := TX11) (N := 30) hx hb hts iX11 hown hK.1 hP 0 (gM0 g σ tl) rfl 6 (by decide) k30 (fun _ h9 => h9) rfl dX11_sign_21 ?_
      refine lv_aload_n hx hb dX11_sign_24 rfl (lv_at hl 0 rfl) ?_
      refine va_get (D := (g.1, g.2.1)) (ci := 13) (v := .int (nI (σ.1 4))) (C := RX11) (T := TX11) (N := 30) hx hb hts iX11 hown hK.1 hP 0 (gM0 g σ tl) rfl 8 (by decide) k36 (fun _ h9 => h9) rfl dX11_sign_25 ?_
      refine jn_iald (f := σ.2.1 3) hx hb hK.1 hP 4 0 (gM4 g σ tl) rfl (by omega) (Nat.le_of_ble_eq_true rfl) dX11_sign_28 ?_
      refine lv_iload_n hx hb dX11_sign_29 rfl (lv_at hl 1 rfl) ?_
      refine lv_iload_n hx hb dX11_sign_30 rfl (lv_at hl 2 rfl) ?_
      have hc1 := hc (σ.1 4) (by omega)
      refine vp_callSi (va_Run.run (va_runS (As := [.int (nI ((σ.2.1 3) (σ.1 4))), .int (nI lo), .int (nI hi)]) (rest := []) ⟨hx, hb, hml, hown, hts⟩ (c_X11_in l ((σ.2.1 3) (σ.1 4)) lo hi (by omega) (by omega) (by omega)) (va_cwS 3 hts gX11_sign_X11_in rfl rfl rfl (by decide +kernel) ⟨Nat.le_of_ble_eq_true rfl, Nat.le_of_ble_eq_true rfl⟩) okTS rfl rfl hl.1 rfl (lv_room (Nat.le_of_ble_eq_true rfl)) dX11_sign_31 ⟨Nat.le_of_ble_eq_true rfl, Nat.le_of_ble_eq_true rfl⟩)) (fun r_31 h_31 => ?_)
      subst h_31
      refine jn_bne hx hb (tgt := 47) dX11_sign_34 (by decide) (fun c_34 => ?_) (fun c_34 => ?_)
      · refine lv_aload_n hx hb dX11_sign_47 rfl (lv_at hl 0 rfl) ?_
        refine lv_dup hx hb dX11_sign_48 rfl ?_
        refine va_get (D := (g.1, g.2.1)) (ci := 13) (v := .int (nI (σ.1 4))) (C := RX11) (T := TX11) (N := 30) hx hb hts iX11 hown hK.1 hP 0 (gM0 g σ tl) rfl 8 (by decide) k36 (fun _ h9 => h9) rfl dX11_sign_49 ?_
        refine lv_iconst (v := nI 1) hx hb dX11_sign_52 (by decide) ?_
        refine jn_iadd hx hb dX11_sign_53 ?_
        refine jn_put (D := (g.1, g.2.1)) (ci := 13) (v := .int (nI ((σ.1 4) + 1))) (ty := .int) (C := RX11) (T := TX11) (N := 30) hx hb hts iX11 tyX11 tyX11_ok nmX11 hown hK.1 hP hD hS 0 (gM0 g σ tl) rfl 8 (by decide) k36 (fun _ h9 => h9) rfl (by decide +kernel) rfl rfl (Nat.le_of_ble_eq_true rfl) (uM_F4 g σ tl ((σ.1 4) + 1)) dX11_sign_54 (fun H locs hP hD hS => ?_)
        refine lv_aload_n hx hb dX11_sign_57 rfl (lv_at hl 0 rfl) ?_
        refine va_get (D := (g.1, g.2.1)) (ci := 13) (v := .ref (g.2.2.2 4)) (C := RX11) (T := TX11) (N := 30) hx hb hts iX11 hown hK.1 hP 0 (gM0 g (sF σ 4 ((σ.1 4) + 1)) tl) rfl 6 (by decide) k30 (fun _ h9 => h9) rfl dX11_sign_58 ?_
        refine lv_aload_n hx hb dX11_sign_61 rfl (lv_at hl 0 rfl) ?_
        refine va_get (D := (g.1, g.2.1)) (ci := 13) (v := .int (nI ((σ.1 4) + 1))) (C := RX11) (T := TX11) (N := 30) hx hb hts iX11 hown hK.1 hP 0 (gM0 g (sF σ 4 ((σ.1 4) + 1)) tl) rfl 8 (by decide) k36 (fun _ h9 => h9) rfl dX11_sign_62 ?_
        refine lv_iconst (v := nI 1) hx hb dX11_sign_65 (by decide) ?_
        refine jn_isub hx hb (by omega) dX11_sign_66 ?_
        refine jn_iald (f := σ.2.1 3) hx hb hK.1 hP 4 0 (gM4 g (sF σ 4 ((σ.1 4) + 1)) tl) rfl (by omega) (Nat.le_of_ble_eq_true rfl) dX11_sign_67 ?_
        rw [Nat.add_sub_cancel]
        refine lv_iload_n hx hb dX11_sign_68 rfl (lv_at hl 1 rfl) ?_
        refine jn_isub hx hb (by omega) dX11_sign_69 ?_
        exact hq _ _ _ _ ((nI (((σ.2.1 3) (σ.1 4)) - lo))) (_, ((σ.1 4) + 1), (σ.1 5)) dX11_sign_70 ⟨rfl, by unfold sgn; rw [if_neg (by omega), if_neg (by omega)]⟩ hP hD hS
      · refine lv_aload_n hx hb dX11_sign_37 rfl (lv_at hl 0 rfl) ?_
        refine lv_aload_n hx hb dX11_sign_38 rfl (lv_at hl 0 rfl) ?_
        refine va_get (D := (g.1, g.2.1)) (ci := 13) (v := .int (nI (σ.1 4))) (C := RX11) (T := TX11) (N := 30) hx hb hts iX11 hown hK.1 hP 0 (gM0 g σ tl) rfl 8 (by decide) k36 (fun _ h9 => h9) rfl dX11_sign_39 ?_
        refine jn_put (D := (g.1, g.2.1)) (ci := 13) (v := .int (nI (σ.1 4))) (ty := .int) (C := RX11) (T := TX11) (N := 30) hx hb hts iX11 tyX11 tyX11_ok nmX11 hown hK.1 hP hD hS 0 (gM0 g σ tl) rfl 9 (by decide) k39 (fun _ h9 => h9) rfl (by decide +kernel) rfl rfl (Nat.le_of_ble_eq_true rfl) (uM_F5 g σ tl (σ.1 4)) dX11_sign_42 (fun H locs hP hD hS => ?_)
        refine lv_iconst (v := nI 0) hx hb dX11_sign_45 (by decide) ?_
        exact hq _ _ _ _ ((nI 0)) (0, (σ.1 4), (σ.1 4)) dX11_sign_46 ⟨rfl, by unfold sgn; rw [if_neg (by omega), if_pos (by omega)]⟩ hP hD hS
  · refine lv_iconst (v := nI 0) hx hb dX11_sign_7 (by decide) ?_
    exact hq _ _ _ _ ((nI 0)) (0, (σ.1 4), (σ.1 5)) dX11_sign_8 ⟨rfl, by unfold sgn; rw [if_pos (by omega)]⟩ hP hD hS

abbrev r_c_X11_readItem : Room := { frames := 2, cells := 0, slots := 0, locals := 44 }
set_option maxHeartbeats 4000000 in
set_option maxRecDepth 100000 in
theorem c_X11_readItem (l : Launch) (g : GC) (tl : va_W) (sz : Nat) (σ : SS) (hn : (σ.1 3) ≤ 40) (hc : ∀ k, k < (σ.1 3) → (σ.2.1 3) k < 127) (hf : (σ.1 5) = 4294967295) (hg : TxG (σ.2.1 3) (σ.1 3) (σ.1 4)) (h0 : stgs (σ.2.1 3) (σ.1 4) = 0) (ht : TxT (σ.2.1 3) (σ.2.1 0) (σ.2.1 4) (σ.1 4)) : Met l yX11_readItem wsX11_readItem r_c_X11_readItem (va_Pc [.ref (g.2.2.2 0)] (PW g (wM g σ ++ tl) sz)) (va_Qv (fun (z : Nat × Nat × (Nat → Nat)) => match z with | (at2, fl2, f4) => (TxL (σ.2.1 3) (σ.2.1 0) (σ.1 3) at2 fl2 f4) ∧ (fl2 < 2147483648 ∨ (σ.1 4) < at2)) (fun (z : Nat × Nat × (Nat → Nat)) t => BW g (va_A (wM g σ ++ tl) sz) ((fun z : Nat × Nat × (Nat → Nat) => match z with | (at2, fl2, f4) => wM g (sA (sF (sF σ 4 at2) 5 fl2) 4 f4) ++ tl) z) t) (va_A (wM g σ ++ tl) sz)) 0 0 (va_A (wM g σ ++ tl) sz) := by
  refine jn_sv (wf := fun z : Nat × Nat × (Nat → Nat) => match z with | (at2, fl2, f4) => wM g (sA (sF (sF σ 4 at2) 5 fl2) 4 f4) ++ tl) (cc := cX11_readItem) (maxL := 4) (own := RX11) (by decide) rfl rfl (Nat.le_of_ble_eq_true rfl) ?_
  intro p e s m below meth c Q A hx hb hml hown hts hK hP hD hS hAA hq ls hl
  obtain ⟨H, eH⟩ : ∃ z, z = s.heap := ⟨_, rfl⟩
  obtain ⟨locs, el⟩ : ∃ z : List Loc, z = [] := ⟨_, rfl⟩
  rw [← eH] at hP
  have hS : va_S A s.heap H locs := by rw [eH, el]; exact hS
  have goal0 : W p l e r_c_X11_readItem s m ([.ref (g.2.2.2 0)] : List Value).toArray below meth c H locs 0 0 Q (F0 m 0 ls []) → W p l e r_c_X11_readItem s m ([.ref (g.2.2.2 0)] : List Value).toArray below meth c s.heap [] 0 0 Q (F0 m 0 ls []) := fun h => by rw [eH, el] at h; exact h
  refine goal0 ?_
  have hl : lv_has ls 4 [(0, .ref (g.2.2.2 0))] := hl
  have iX11 : ∀ w ∈ wsX110, w ∈ wsX11_readItem := by decide +kernel
  have k36 := hts (.fieldLink RX11 36 "JumpingAutomataModel" "at" "I") (by decide +kernel)
  have k33 := hts (.fieldLink RX11 33 "JumpingAutomataModel" "texted" "I") (by decide +kernel)
  have k39 := hts (.fieldLink RX11 39 "JumpingAutomataModel" "fault" "I") (by decide +kernel)
  have k42 := hts (.fieldLink RX11 42 "JumpingAutomataModel" "then" "[I") (by decide +kernel)
  have k30 := hts (.fieldLink RX11 30 "JumpingAutomataModel" "text" "[I") (by decide +kernel)
  have hg1 := hg.1
  refine lv_aload_n hx hb dX11_readItem_0 rfl (lv_at hl 0 rfl) ?_
  refine va_get (D := (g.1, g.2.1)) (ci := 13) (v := .int (nI (σ.1 4))) (C := RX11) (T := TX11) (N := 30) hx hb hts iX11 hown hK.1 hP 0 (gM0 g σ tl) rfl 8 (by decide) k36 (fun _ h9 => h9) rfl dX11_readItem_1 ?_
  refine lv_aload_n hx hb dX11_readItem_4 rfl (lv_at hl 0 rfl) ?_
  refine va_get (D := (g.1, g.2.1)) (ci := 13) (v := .int (nI (σ.1 3))) (C := RX11) (T := TX11) (N := 30) hx hb hts iX11 hown hK.1 hP 0 (gM0 g σ tl) rfl 7 (by decide) k33 (fun _ h9 => h9) rfl dX11_readItem_5 ?_
  refine jn_cge hx hb (by omega) (by omega) (tgt := 65) dX11_readItem_8 (by decide) (fun c_8 => ?_) (fun c_8 => ?_)
  · refine lv_aload_n hx hb dX11_readItem_65 rfl (lv_at hl 0 rfl) ?_
    refine lv_bipush (v := nI 48) hx hb dX11_readItem_66 (by decide) ?_
    refine lv_bipush (v := nI 52) hx hb dX11_readItem_68 (by decide) ?_
    refine jn_calli (va_runV (As := [.int (nI 48), .int (nI 52)]) (rest := []) ⟨hx, hb, hml, hown, hts⟩ (c_X11_sign l g tl H.size σ 48 52 hn hc (by omega) (by omega) (by decide) (by decide)) (cwV 2 hts gX11_readItem_X11_sign rfl rfl rfl (by decide +kernel) ⟨Nat.le_of_ble_eq_true rfl, Nat.le_of_ble_eq_true rfl⟩) (okWV hK hP hD rfl (gM0 g σ tl)) rfl rfl hl.1 rfl (lv_room (Nat.le_of_ble_eq_true rfl)) dX11_readItem_70 ⟨Nat.le_of_ble_eq_true rfl, Nat.le_of_ble_eq_true rfl⟩) hD hS hAA (fun r_70 u H locs hw_ hP hD hS => ?_)
    obtain ⟨r0_70, at2_70, fl2_70⟩ := u
    obtain ⟨rfl, h_70⟩ := hw_
    have h_70 : (r0_70, at2_70, fl2_70) = sgn (σ.2.1 3) (σ.1 3) (σ.1 4) (σ.1 5) 48 52 := h_70
    have hP : va_P (g.1, g.2.1) vwCl (wM g (sF (sF σ 4 at2_70) 5 fl2_70) ++ tl) H := hP
    have hD : va_D A (wM g (sF (sF σ 4 at2_70) 5 fl2_70) ++ tl) := hD
    have hb1 := sgn_b (by decide) h_70 (by omega) hn (by omega)
    rw [hf] at h_70
    refine lv_istore_n (lv' := [(1, .int (nI r0_70)), (0, .ref (g.2.2.2 0))]) hx hb dX11_readItem_73 rfl hl (by decide) rfl (fun ls hl => ?_)
    refine lv_aload_n hx hb dX11_readItem_74 rfl (lv_at hl 1 rfl) ?_
    refine lv_bipush (v := nI 97) hx hb dX11_readItem_75 (by decide) ?_
    refine lv_bipush (v := nI 99) hx hb dX11_readItem_77 (by decide) ?_
    refine jn_calli (va_runV (As := [.int (nI 97), .int (nI 99)]) (rest := []) ⟨hx, hb, hml, hown, hts⟩ (c_X11_sign l g tl H.size (sF (sF σ 4 at2_70) 5 fl2_70) 97 99 hn hc hb1.2.1 hb1.2.2.1 (by decide) (by decide)) (cwV 2 hts gX11_readItem_X11_sign rfl rfl rfl (by decide +kernel) ⟨Nat.le_of_ble_eq_true rfl, Nat.le_of_ble_eq_true rfl⟩) (okWV hK hP hD rfl (gM0 g (sF (sF σ 4 at2_70) 5 fl2_70) tl)) rfl rfl hl.1 rfl (lv_room (Nat.le_of_ble_eq_true rfl)) dX11_readItem_79 ⟨Nat.le_of_ble_eq_true rfl, Nat.le_of_ble_eq_true rfl⟩) hD hS hAA (fun r_79 u H locs hw_ hP hD hS => ?_)
    obtain ⟨r0_79, at2_79, fl2_79⟩ := u
    obtain ⟨rfl, h_79⟩ := hw_
    have h_79 : (r0_79, at2_79, fl2_79) = sgn (σ.2.1 3) (σ.1 3) (at2_70) (fl2_70) 97 99 := h_79
    have hP : va_P (g.1, g.2.1) vwCl (wM g (sF (sF (sF (sF σ 4 at2_70) 5 fl2_70) 4 at2_79) 5 fl2_79) ++ tl) H := hP
    have hD : va_D A (wM g (sF (sF (sF (sF σ 4 at2_70) 5 fl2_70) 4 at2_79) 5 fl2_79) ++ tl) := hD
    have hb2 := sgn_b (by decide) h_79 hb1.2.2.1 hn hb1.2.1
    refine lv_istore_n (lv' := [(2, .int (nI r0_79)), (1, .int (nI r0_70)), (0, .ref (g.2.2.2 0))]) hx hb dX11_readItem_82 rfl hl (by decide) rfl (fun ls hl => ?_)
    refine lv_aload_n hx hb dX11_readItem_83 rfl (lv_at hl 2 rfl) ?_
    refine lv_bipush (v := nI 48) hx hb dX11_readItem_84 (by decide) ?_
    refine lv_bipush (v := nI 52) hx hb dX11_readItem_86 (by decide) ?_
    refine jn_calli (va_runV (As := [.int (nI 48), .int (nI 52)]) (rest := []) ⟨hx, hb, hml, hown, hts⟩ (c_X11_sign l g tl H.size (sF (sF (sF (sF σ 4 at2_70) 5 fl2_70) 4 at2_79) 5 fl2_79) 48 52 hn hc hb2.2.1 hb2.2.2.1 (by decide) (by decide)) (cwV 2 hts gX11_readItem_X11_sign rfl rfl rfl (by decide +kernel) ⟨Nat.le_of_ble_eq_true rfl, Nat.le_of_ble_eq_true rfl⟩) (okWV hK hP hD rfl (gM0 g (sF (sF (sF (sF σ 4 at2_70) 5 fl2_70) 4 at2_79) 5 fl2_79) tl)) rfl rfl hl.1 rfl (lv_room (Nat.le_of_ble_eq_true rfl)) dX11_readItem_88 ⟨Nat.le_of_ble_eq_true rfl, Nat.le_of_ble_eq_true rfl⟩) hD hS hAA (fun r_88 u H locs hw_ hP hD hS => ?_)
    obtain ⟨r0_88, at2_88, fl2_88⟩ := u
    obtain ⟨rfl, h_88⟩ := hw_
    have h_88 : (r0_88, at2_88, fl2_88) = sgn (σ.2.1 3) (σ.1 3) (at2_79) (fl2_79) 48 52 := h_88
    have hP : va_P (g.1, g.2.1) vwCl (wM g (sF (sF (sF (sF (sF (sF σ 4 at2_70) 5 fl2_70) 4 at2_79) 5 fl2_79) 4 at2_88) 5 fl2_88) ++ tl) H := hP
    have hD : va_D A (wM g (sF (sF (sF (sF (sF (sF σ 4 at2_70) 5 fl2_70) 4 at2_79) 5 fl2_79) 4 at2_88) 5 fl2_88) ++ tl) := hD
    have hb3 := sgn_b (by decide) h_88 hb2.2.2.1 hn hb2.2.1
    have hr3 := rd_3 hn hg h0 (by omega) h_70 h_79 h_88
    refine lv_istore_n (lv' := [(3, .int (nI r0_88)), (2, .int (nI r0_79)), (1, .int (nI r0_70)), (0, .ref (g.2.2.2 0))]) hx hb dX11_readItem_91 rfl hl (by decide) rfl (fun ls hl => ?_)
    refine lv_aload_n hx hb dX11_readItem_92 rfl (lv_at hl 3 rfl) ?_
    refine va_get (D := (g.1, g.2.1)) (ci := 13) (v := .int (nI fl2_88)) (C := RX11) (T := TX11) (N := 30) hx hb hts iX11 hown hK.1 hP 0 (gM0 g (sF (sF (sF (sF (sF (sF σ 4 at2_70) 5 fl2_70) 4 at2_79) 5 fl2_79) 4 at2_88) 5 fl2_88) tl) rfl 9 (by decide) k39 (fun _ h9 => h9) rfl dX11_readItem_93 ?_
    refine jn_zge hx hb (by omega) (tgt := 115) dX11_readItem_96 (by decide) (fun c_96 => ?_) (fun c_96 => ?_)
    · have hr := hr3.resolve_right (fun z => by have := z.1; omega)
      exact hq _ _ _ _ (at2_88, fl2_88, (σ.2.1 4)) dX11_readItem_115 (by first | exact ⟨⟨by omega, Or.inl ⟨hr.2, hr.1⟩⟩, Or.inl hr.1⟩ | exact ⟨⟨by omega, Or.inr ⟨hr.1, by rw [hr.2.2.2.2.2.2.2.2.1]; exact hr.2.2.2.2.2.2.2.2.2.1, by rw [hr.2.2.2.2.2.2.2.2.1]; exact hr.2.2.2.2.2.2.2.2.2.2, by rw [hr.2.2.2.2.2.1, hr.2.2.2.2.2.2.1, hr.2.2.2.2.2.2.2.1, hr.2.2.2.2.2.2.2.2.1]; exact txt_3 ht h0 hr.2.2.1 hr.2.2.2.1 hr.2.2.2.2.1⟩⟩, Or.inr (by omega)⟩) hP hD hS
    · have hr := hr3.resolve_left (fun z => by have := z.1; omega)
      refine lv_aload_n hx hb dX11_readItem_99 rfl (lv_at hl 3 rfl) ?_
      refine va_get (D := (g.1, g.2.1)) (ci := 13) (v := .ref (g.2.2.2 5)) (C := RX11) (T := TX11) (N := 30) hx hb hts iX11 hown hK.1 hP 0 (gM0 g (sF (sF (sF (sF (sF (sF σ 4 at2_70) 5 fl2_70) 4 at2_79) 5 fl2_79) 4 at2_88) 5 fl2_88) tl) rfl 10 (by decide) k42 (fun _ h9 => h9) rfl dX11_readItem_100 ?_
      refine lv_iconst (v := nI 3) hx hb dX11_readItem_103 (by decide) ?_
      refine lv_iload_n hx hb dX11_readItem_104 rfl (lv_at hl 2 rfl) ?_
      refine jn_imul hx hb dX11_readItem_105 ?_
      refine lv_iload_n hx hb dX11_readItem_106 rfl (lv_at hl 1 rfl) ?_
      refine jn_iadd hx hb dX11_readItem_107 ?_
      refine lv_dup2_11 hx hb dX11_readItem_108 rfl rfl ?_
      refine jn_iald (f := σ.2.1 4) hx hb hK.1 hP 5 0 (gM5 g (sF (sF (sF (sF (sF (sF σ 4 at2_70) 5 fl2_70) 4 at2_79) 5 fl2_79) 4 at2_88) 5 fl2_88) tl) rfl (by omega) (Nat.le_of_ble_eq_true rfl) dX11_readItem_109 ?_
      refine lv_iconst (v := nI 1) hx hb dX11_readItem_110 (by decide) ?_
      refine lv_iload_n hx hb dX11_readItem_111 rfl (lv_at hl 0 rfl) ?_
      refine jn_shl1 hx hb (by omega) dX11_readItem_112 ?_
      refine jn_ior hx hb dX11_readItem_113 ?_
      refine jn_iast (f := σ.2.1 4) hx hb hK.1 hP hD hS 5 0 (gM5 g (sF (sF (sF (sF (sF (sF σ 4 at2_70) 5 fl2_70) 4 at2_79) 5 fl2_79) 4 at2_88) 5 fl2_88) tl) rfl (by omega) (Nat.le_of_ble_eq_true rfl) (uM_A4 g (sF (sF (sF (sF (sF (sF σ 4 at2_70) 5 fl2_70) 4 at2_79) 5 fl2_79) 4 at2_88) 5 fl2_88) tl _) dX11_readItem_114 (fun H locs hP hD hS => ?_)
      exact hq _ _ _ _ (at2_88, fl2_88, (va_up (σ.2.1 4) ((3 * r0_70) + r0_79) (((σ.2.1 4) ((3 * r0_70) + r0_79)) ||| (2 ^ r0_88)))) dX11_readItem_115 (by first | exact ⟨⟨by omega, Or.inl ⟨hr.2, hr.1⟩⟩, Or.inl hr.1⟩ | exact ⟨⟨by omega, Or.inr ⟨hr.1, by rw [hr.2.2.2.2.2.2.2.2.1]; exact hr.2.2.2.2.2.2.2.2.2.1, by rw [hr.2.2.2.2.2.2.2.2.1]; exact hr.2.2.2.2.2.2.2.2.2.2, by rw [hr.2.2.2.2.2.1, hr.2.2.2.2.2.2.1, hr.2.2.2.2.2.2.2.1, hr.2.2.2.2.2.2.2.2.1]; exact txt_3 ht h0 hr.2.2.1 hr.2.2.2.1 hr.2.2.2.2.1⟩⟩, Or.inr (by omega)⟩) hP hD hS
  · refine lv_aload_n hx hb dX11_readItem_11 rfl (lv_at hl 0 rfl) ?_
    refine va_get (D := (g.1, g.2.1)) (ci := 13) (v := .ref (g.2.2.2 4)) (C := RX11) (T := TX11) (N := 30) hx hb hts iX11 hown hK.1 hP 0 (gM0 g σ tl) rfl 6 (by decide) k30 (fun _ h9 => h9) rfl dX11_readItem_12 ?_
    refine lv_aload_n hx hb dX11_readItem_15 rfl (lv_at hl 0 rfl) ?_
    refine va_get (D := (g.1, g.2.1)) (ci := 13) (v := .int (nI (σ.1 4))) (C := RX11) (T := TX11) (N := 30) hx hb hts iX11 hown hK.1 hP 0 (gM0 g σ tl) rfl 8 (by decide) k36 (fun _ h9 => h9) rfl dX11_readItem_16 ?_
    refine jn_iald (f := σ.2.1 3) hx hb hK.1 hP 4 0 (gM4 g σ tl) rfl (by omega) (Nat.le_of_ble_eq_true rfl) dX11_readItem_19 ?_
    have hc1 := hc (σ.1 4) (by omega)
    refine lv_bipush (v := nI 33) hx hb dX11_readItem_20 (by decide) ?_
    refine jn_cne hx hb (by omega) (by decide) (tgt := 65) dX11_readItem_22 (by decide) (fun c_22 => ?_) (fun c_22 => ?_)
    · refine lv_aload_n hx hb dX11_readItem_65 rfl (lv_at hl 0 rfl) ?_
      refine lv_bipush (v := nI 48) hx hb dX11_readItem_66 (by decide) ?_
      refine lv_bipush (v := nI 52) hx hb dX11_readItem_68 (by decide) ?_
      refine jn_calli (va_runV (As := [.int (nI 48), .int (nI 52)]) (rest := []) ⟨hx, hb, hml, hown, hts⟩ (c_X11_sign l g tl H.size σ 48 52 hn hc (by omega) (by omega) (by decide) (by decide)) (cwV 2 hts gX11_readItem_X11_sign rfl rfl rfl (by decide +kernel) ⟨Nat.le_of_ble_eq_true rfl, Nat.le_of_ble_eq_true rfl⟩) (okWV hK hP hD rfl (gM0 g σ tl)) rfl rfl hl.1 rfl (lv_room (Nat.le_of_ble_eq_true rfl)) dX11_readItem_70 ⟨Nat.le_of_ble_eq_true rfl, Nat.le_of_ble_eq_true rfl⟩) hD hS hAA (fun r_70 u H locs hw_ hP hD hS => ?_)
      obtain ⟨r0_70, at2_70, fl2_70⟩ := u
      obtain ⟨rfl, h_70⟩ := hw_
      have h_70 : (r0_70, at2_70, fl2_70) = sgn (σ.2.1 3) (σ.1 3) (σ.1 4) (σ.1 5) 48 52 := h_70
      have hP : va_P (g.1, g.2.1) vwCl (wM g (sF (sF σ 4 at2_70) 5 fl2_70) ++ tl) H := hP
      have hD : va_D A (wM g (sF (sF σ 4 at2_70) 5 fl2_70) ++ tl) := hD
      have hb1 := sgn_b (by decide) h_70 (by omega) hn (by omega)
      rw [hf] at h_70
      refine lv_istore_n (lv' := [(1, .int (nI r0_70)), (0, .ref (g.2.2.2 0))]) hx hb dX11_readItem_73 rfl hl (by decide) rfl (fun ls hl => ?_)
      refine lv_aload_n hx hb dX11_readItem_74 rfl (lv_at hl 1 rfl) ?_
      refine lv_bipush (v := nI 97) hx hb dX11_readItem_75 (by decide) ?_
      refine lv_bipush (v := nI 99) hx hb dX11_readItem_77 (by decide) ?_
      refine jn_calli (va_runV (As := [.int (nI 97), .int (nI 99)]) (rest := []) ⟨hx, hb, hml, hown, hts⟩ (c_X11_sign l g tl H.size (sF (sF σ 4 at2_70) 5 fl2_70) 97 99 hn hc hb1.2.1 hb1.2.2.1 (by decide) (by decide)) (cwV 2 hts gX11_readItem_X11_sign rfl rfl rfl (by decide +kernel) ⟨Nat.le_of_ble_eq_true rfl, Nat.le_of_ble_eq_true rfl⟩) (okWV hK hP hD rfl (gM0 g (sF (sF σ 4 at2_70) 5 fl2_70) tl)) rfl rfl hl.1 rfl (lv_room (Nat.le_of_ble_eq_true rfl)) dX11_readItem_79 ⟨Nat.le_of_ble_eq_true rfl, Nat.le_of_ble_eq_true rfl⟩) hD hS hAA (fun r_79 u H locs hw_ hP hD hS => ?_)
      obtain ⟨r0_79, at2_79, fl2_79⟩ := u
      obtain ⟨rfl, h_79⟩ := hw_
      have h_79 : (r0_79, at2_79, fl2_79) = sgn (σ.2.1 3) (σ.1 3) (at2_70) (fl2_70) 97 99 := h_79
      have hP : va_P (g.1, g.2.1) vwCl (wM g (sF (sF (sF (sF σ 4 at2_70) 5 fl2_70) 4 at2_79) 5 fl2_79) ++ tl) H := hP
      have hD : va_D A (wM g (sF (sF (sF (sF σ 4 at2_70) 5 fl2_70) 4 at2_79) 5 fl2_79) ++ tl) := hD
      have hb2 := sgn_b (by decide) h_79 hb1.2.2.1 hn hb1.2.1
      refine lv_istore_n (lv' := [(2, .int (nI r0_79)), (1, .int (nI r0_70)), (0, .ref (g.2.2.2 0))]) hx hb dX11_readItem_82 rfl hl (by decide) rfl (fun ls hl => ?_)
      refine lv_aload_n hx hb dX11_readItem_83 rfl (lv_at hl 2 rfl) ?_
      refine lv_bipush (v := nI 48) hx hb dX11_readItem_84 (by decide) ?_
      refine lv_bipush (v := nI 52) hx hb dX11_readItem_86 (by decide) ?_
      refine jn_calli (va_runV (As := [.int (nI 48), .int (nI 52)]) (rest := []) ⟨hx, hb, hml, hown, hts⟩ (c_X11_sign l g tl H.size (sF (sF (sF (sF σ 4 at2_70) 5 fl2_70) 4 at2_79) 5 fl2_79) 48 52 hn hc hb2.2.1 hb2.2.2.1 (by decide) (by decide)) (cwV 2 hts gX11_readItem_X11_sign rfl rfl rfl (by decide +kernel) ⟨Nat.le_of_ble_eq_true rfl, Nat.le_of_ble_eq_true rfl⟩) (okWV hK hP hD rfl (gM0 g (sF (sF (sF (sF σ 4 at2_70) 5 fl2_70) 4 at2_79) 5 fl2_79) tl)) rfl rfl hl.1 rfl (lv_room (Nat.le_of_ble_eq_true rfl)) dX11_readItem_88 ⟨Nat.le_of_ble_eq_true rfl, Nat.le_of_ble_eq_true rfl⟩) hD hS hAA (fun r_88 u H locs hw_ hP hD hS => ?_)
      obtain ⟨r0_88, at2_88, fl2_88⟩ := u
      obtain ⟨rfl, h_88⟩ := hw_
      have h_88 : (r0_88, at2_88, fl2_88) = sgn (σ.2.1 3) (σ.1 3) (at2_79) (fl2_79) 48 52 := h_88
      have hP : va_P (g.1, g.2.1) vwCl (wM g (sF (sF (sF (sF (sF (sF σ 4 at2_70) 5 fl2_70) 4 at2_79) 5 fl2_79) 4 at2_88) 5 fl2_88) ++ tl) H := hP
      have hD : va_D A (wM g (sF (sF (sF (sF (sF (sF σ 4 at2_70) 5 fl2_70) 4 at2_79) 5 fl2_79) 4 at2_88) 5 fl2_88) ++ tl) := hD
      have hb3 := sgn_b (by decide) h_88 hb2.2.2.1 hn hb2.2.1
      have hr3 := rd_3 hn hg h0 (by omega) h_70 h_79 h_88
      refine lv_istore_n (lv' := [(3, .int (nI r0_88)), (2, .int (nI r0_79)), (1, .int (nI r0_70)), (0, .ref (g.2.2.2 0))]) hx hb dX11_readItem_91 rfl hl (by decide) rfl (fun ls hl => ?_)
      refine lv_aload_n hx hb dX11_readItem_92 rfl (lv_at hl 3 rfl) ?_
      refine va_get (D := (g.1, g.2.1)) (ci := 13) (v := .int (nI fl2_88)) (C := RX11) (T := TX11) (N := 30) hx hb hts iX11 hown hK.1 hP 0 (gM0 g (sF (sF (sF (sF (sF (sF σ 4 at2_70) 5 fl2_70) 4 at2_79) 5 fl2_79) 4 at2_88) 5 fl2_88) tl) rfl 9 (by decide) k39 (fun _ h9 => h9) rfl dX11_readItem_93 ?_
      refine jn_zge hx hb (by omega) (tgt := 115) dX11_readItem_96 (by decide) (fun c_96 => ?_) (fun c_96 => ?_)
      · have hr := hr3.resolve_right (fun z => by have := z.1; omega)
        exact hq _ _ _ _ (at2_88, fl2_88, (σ.2.1 4)) dX11_readItem_115 (by first | exact ⟨⟨by omega, Or.inl ⟨hr.2, hr.1⟩⟩, Or.inl hr.1⟩ | exact ⟨⟨by omega, Or.inr ⟨hr.1, by rw [hr.2.2.2.2.2.2.2.2.1]; exact hr.2.2.2.2.2.2.2.2.2.1, by rw [hr.2.2.2.2.2.2.2.2.1]; exact hr.2.2.2.2.2.2.2.2.2.2, by rw [hr.2.2.2.2.2.1, hr.2.2.2.2.2.2.1, hr.2.2.2.2.2.2.2.1, hr.2.2.2.2.2.2.2.2.1]; exact txt_3 ht h0 hr.2.2.1 hr.2.2.2.1 hr.2.2.2.2.1⟩⟩, Or.inr (by omega)⟩) hP hD hS
      · have hr := hr3.resolve_left (fun z => by have := z.1; omega)
        refine lv_aload_n hx hb dX11_readItem_99 rfl (lv_at hl 3 rfl) ?_
        refine va_get (D := (g.1, g.2.1)) (ci := 13) (v := .ref (g.2.2.2 5)) (C := RX11) (T := TX11) (N := 30) hx hb hts iX11 hown hK.1 hP 0 (gM0 g (sF (sF (sF (sF (sF (sF σ 4 at2_70) 5 fl2_70) 4 at2_79) 5 fl2_79) 4 at2_88) 5 fl2_88) tl) rfl 10 (by decide) k42 (fun _ h9 => h9) rfl dX11_readItem_100 ?_
        refine lv_iconst (v := nI 3) hx hb dX11_readItem_103 (by decide) ?_
        refine lv_iload_n hx hb dX11_readItem_104 rfl (lv_at hl 2 rfl) ?_
        refine jn_imul hx hb dX11_readItem_105 ?_
        refine lv_iload_n hx hb dX11_readItem_106 rfl (lv_at hl 1 rfl) ?_
        refine jn_iadd hx hb dX11_readItem_107 ?_
        refine lv_dup2_11 hx hb dX11_readItem_108 rfl rfl ?_
        refine jn_iald (f := σ.2.1 4) hx hb hK.1 hP 5 0 (gM5 g (sF (sF (sF (sF (sF (sF σ 4 at2_70) 5 fl2_70) 4 at2_79) 5 fl2_79) 4 at2_88) 5 fl2_88) tl) rfl (by omega) (Nat.le_of_ble_eq_true rfl) dX11_readItem_109 ?_
        refine lv_iconst (v := nI 1) hx hb dX11_readItem_110 (by decide) ?_
        refine lv_iload_n hx hb dX11_readItem_111 rfl (lv_at hl 0 rfl) ?_
        refine jn_shl1 hx hb (by omega) dX11_readItem_112 ?_
        refine jn_ior hx hb dX11_readItem_113 ?_
        refine jn_iast (f := σ.2.1 4) hx hb hK.1 hP hD hS 5 0 (gM5 g (sF (sF (sF (sF (sF (sF σ 4 at2_70) 5 fl2_70) 4 at2_79) 5 fl2_79) 4 at2_88) 5 fl2_88) tl) rfl (by omega) (Nat.le_of_ble_eq_true rfl) (uM_A4 g (sF (sF (sF (sF (sF (sF σ 4 at2_70) 5 fl2_70) 4 at2_79) 5 fl2_79) 4 at2_88) 5 fl2_88) tl _) dX11_readItem_114 (fun H locs hP hD hS => ?_)
        exact hq _ _ _ _ (at2_88, fl2_88, (va_up (σ.2.1 4) ((3 * r0_70) + r0_79) (((σ.2.1 4) ((3 * r0_70) + r0_79)) ||| (2 ^ r0_88)))) dX11_readItem_115 (by first | exact ⟨⟨by omega, Or.inl ⟨hr.2, hr.1⟩⟩, Or.inl hr.1⟩ | exact ⟨⟨by omega, Or.inr ⟨hr.1, by rw [hr.2.2.2.2.2.2.2.2.1]; exact hr.2.2.2.2.2.2.2.2.2.1, by rw [hr.2.2.2.2.2.2.2.2.1]; exact hr.2.2.2.2.2.2.2.2.2.2, by rw [hr.2.2.2.2.2.1, hr.2.2.2.2.2.2.1, hr.2.2.2.2.2.2.2.1, hr.2.2.2.2.2.2.2.2.1]; exact txt_3 ht h0 hr.2.2.1 hr.2.2.2.1 hr.2.2.2.2.1⟩⟩, Or.inr (by omega)⟩) hP hD hS
    · refine lv_aload_n hx hb dX11_readItem_25 rfl (lv_at hl 0 rfl) ?_
      refine lv_dup hx hb dX11_readItem_26 rfl ?_
      refine va_get (D := (g.1, g.2.1)) (ci := 13) (v := .int (nI (σ.1 4))) (C := RX11) (T := TX11) (N := 30) hx hb hts iX11 hown hK.1 hP 0 (gM0 g σ tl) rfl 8 (by decide) k36 (fun _ h9 => h9) rfl dX11_readItem_27 ?_
      refine lv_iconst (v := nI 1) hx hb dX11_readItem_30 (by decide) ?_
      refine jn_iadd hx hb dX11_readItem_31 ?_
      refine jn_put (D := (g.1, g.2.1)) (ci := 13) (v := .int (nI ((σ.1 4) + 1))) (ty := .int) (C := RX11) (T := TX11) (N := 30) hx hb hts iX11 tyX11 tyX11_ok nmX11 hown hK.1 hP hD hS 0 (gM0 g σ tl) rfl 8 (by decide) k36 (fun _ h9 => h9) rfl (by decide +kernel) rfl rfl (Nat.le_of_ble_eq_true rfl) (uM_F4 g σ tl ((σ.1 4) + 1)) dX11_readItem_32 (fun H locs hP hD hS => ?_)
      refine lv_aload_n hx hb dX11_readItem_35 rfl (lv_at hl 0 rfl) ?_
      refine lv_bipush (v := nI 48) hx hb dX11_readItem_36 (by decide) ?_
      refine lv_bipush (v := nI 52) hx hb dX11_readItem_38 (by decide) ?_
      refine jn_calli (va_runV (As := [.int (nI 48), .int (nI 52)]) (rest := []) ⟨hx, hb, hml, hown, hts⟩ (c_X11_sign l g tl H.size (sF σ 4 ((σ.1 4) + 1)) 48 52 hn hc (show (σ.1 4) + 1 ≤ 40 by omega) (show (σ.1 5) < 4294967296 by omega) (by decide) (by decide)) (cwV 2 hts gX11_readItem_X11_sign rfl rfl rfl (by decide +kernel) ⟨Nat.le_of_ble_eq_true rfl, Nat.le_of_ble_eq_true rfl⟩) (okWV hK hP hD rfl (gM0 g (sF σ 4 ((σ.1 4) + 1)) tl)) rfl rfl hl.1 rfl (lv_room (Nat.le_of_ble_eq_true rfl)) dX11_readItem_40 ⟨Nat.le_of_ble_eq_true rfl, Nat.le_of_ble_eq_true rfl⟩) hD hS hAA (fun r_40 u H locs hw_ hP hD hS => ?_)
      obtain ⟨r0_40, at2_40, fl2_40⟩ := u
      obtain ⟨rfl, h_40⟩ := hw_
      have h_40 : (r0_40, at2_40, fl2_40) = sgn (σ.2.1 3) (σ.1 3) (((σ.1 4) + 1)) (σ.1 5) 48 52 := h_40
      have hP : va_P (g.1, g.2.1) vwCl (wM g (sF (sF (sF σ 4 ((σ.1 4) + 1)) 4 at2_40) 5 fl2_40) ++ tl) H := hP
      have hD : va_D A (wM g (sF (sF (sF σ 4 ((σ.1 4) + 1)) 4 at2_40) 5 fl2_40) ++ tl) := hD
      have hb1 := sgn_b (by decide) h_40 (by omega) hn (show (σ.1 4) + 1 ≤ 40 by omega)
      rw [hf] at h_40
      have hr1 := rd_1 hn hg h0 ⟨by omega, by omega⟩ h_40
      refine lv_istore_n (lv' := [(1, .int (nI r0_40)), (0, .ref (g.2.2.2 0))]) hx hb dX11_readItem_43 rfl hl (by decide) rfl (fun ls hl => ?_)
      refine lv_aload_n hx hb dX11_readItem_44 rfl (lv_at hl 1 rfl) ?_
      refine va_get (D := (g.1, g.2.1)) (ci := 13) (v := .int (nI fl2_40)) (C := RX11) (T := TX11) (N := 30) hx hb hts iX11 hown hK.1 hP 0 (gM0 g (sF (sF (sF σ 4 ((σ.1 4) + 1)) 4 at2_40) 5 fl2_40) tl) rfl 9 (by decide) k39 (fun _ h9 => h9) rfl dX11_readItem_45 ?_
      refine jn_zge hx hb (by omega) (tgt := 64) dX11_readItem_48 (by decide) (fun c_48 => ?_) (fun c_48 => ?_)
      · have hr := hr1.resolve_right (fun z => by have := z.1; omega)
        exact hq _ _ _ _ (at2_40, fl2_40, (σ.2.1 4)) dX11_readItem_64 (by first | exact ⟨⟨by omega, Or.inl ⟨hr.2, hr.1⟩⟩, Or.inl hr.1⟩ | exact ⟨⟨by omega, Or.inr ⟨hr.1, by rw [hr.2.2.2.2.1]; exact hr.2.2.2.2.2.1, by rw [hr.2.2.2.2.1]; exact hr.2.2.2.2.2.2, by rw [hr.2.2.2.1, hr.2.2.2.2.1]; exact txt_2 ht h0 (by omega) hr.2.2.1⟩⟩, Or.inr (by omega)⟩) hP hD hS
      · have hr := hr1.resolve_left (fun z => by have := z.1; omega)
        have hd3 := hr.2.2.1
        refine lv_aload_n hx hb dX11_readItem_51 rfl (lv_at hl 1 rfl) ?_
        refine va_get (D := (g.1, g.2.1)) (ci := 13) (v := .ref (g.2.2.2 5)) (C := RX11) (T := TX11) (N := 30) hx hb hts iX11 hown hK.1 hP 0 (gM0 g (sF (sF (sF σ 4 ((σ.1 4) + 1)) 4 at2_40) 5 fl2_40) tl) rfl 10 (by decide) k42 (fun _ h9 => h9) rfl dX11_readItem_52 ?_
        refine lv_bipush (v := nI 15) hx hb dX11_readItem_55 (by decide) ?_
        refine lv_dup2_11 hx hb dX11_readItem_57 rfl rfl ?_
        refine jn_iald (f := σ.2.1 4) hx hb hK.1 hP 5 0 (gM5 g (sF (sF (sF σ 4 ((σ.1 4) + 1)) 4 at2_40) 5 fl2_40) tl) rfl (by decide) (Nat.le_of_ble_eq_true rfl) dX11_readItem_58 ?_
        refine lv_iconst (v := nI 1) hx hb dX11_readItem_59 (by decide) ?_
        refine lv_iload_n hx hb dX11_readItem_60 rfl (lv_at hl 0 rfl) ?_
        refine jn_shl1 hx hb (by omega) dX11_readItem_61 ?_
        refine jn_ior hx hb dX11_readItem_62 ?_
        refine jn_iast (f := σ.2.1 4) hx hb hK.1 hP hD hS 5 0 (gM5 g (sF (sF (sF σ 4 ((σ.1 4) + 1)) 4 at2_40) 5 fl2_40) tl) rfl (by decide) (Nat.le_of_ble_eq_true rfl) (uM_A4 g (sF (sF (sF σ 4 ((σ.1 4) + 1)) 4 at2_40) 5 fl2_40) tl _) dX11_readItem_63 (fun H locs hP hD hS => ?_)
        exact hq _ _ _ _ (at2_40, fl2_40, (va_up (σ.2.1 4) 15 (((σ.2.1 4) 15) ||| (2 ^ r0_40)))) dX11_readItem_64 (by first | exact ⟨⟨by omega, Or.inl ⟨hr.2, hr.1⟩⟩, Or.inl hr.1⟩ | exact ⟨⟨by omega, Or.inr ⟨hr.1, by rw [hr.2.2.2.2.1]; exact hr.2.2.2.2.2.1, by rw [hr.2.2.2.2.1]; exact hr.2.2.2.2.2.2, by rw [hr.2.2.2.1, hr.2.2.2.2.1]; exact txt_2 ht h0 (by omega) hr.2.2.1⟩⟩, Or.inr (by omega)⟩) hP hD hS

abbrev r_c_X11_addText : Room := { frames := 3, cells := 0, slots := 0, locals := 67 }
set_option maxHeartbeats 4000000 in
set_option maxRecDepth 100000 in
theorem c_X11_addText (l : Launch) (g : GC) (tl : va_W) (sz : Nat) (σ : SS) (hn : (σ.1 3) ≤ 40) (hc : ∀ k, k < (σ.1 3) → (σ.2.1 3) k < 127) (hT : OkT (σ.2.1 0)) (hF : ((σ.2.1 0) 15) < 32) (hc8 : (σ.1 1) ≤ 8) : Met l yX11_addText wsX11_addText r_c_X11_addText (va_Pc [.ref (g.2.2.2 0)] (PW g (wM g σ ++ tl) sz)) (va_Qi (fun (r : Int32) (z : Nat × Nat × Nat × Nat × Nat × Nat × (Nat → Nat) × (Nat → Nat) × (Nat → Nat)) => match z with | (r0, th, ch, n2, at2, fl2, nw, kp, f4) => (r = nI (r0)) ∧ (n2 = 0) ∧ (fl2 = fltC (σ.2.1 3) (σ.1 3)) ∧ ((fltC (σ.2.1 3) (σ.1 3) ≠ 4294967295 ∧ th = 1 ∧ ch = (σ.1 1) ∧ nw = (σ.2.1 0) ∧ kp = (σ.2.1 2)) ∨ (fltC (σ.2.1 3) (σ.1 3) = 4294967295 ∧ 15 < fb_sm (fun k => pop ((σ.2.1 0) k ||| (gi (σ.2.1 3) (σ.1 3)).1 k)) 15 ∧ th = 2 ∧ ch = (σ.1 1) ∧ nw = (σ.2.1 0) ∧ kp = (σ.2.1 2)) ∨ (fltC (σ.2.1 3) (σ.1 3) = 4294967295 ∧ ¬ 15 < fb_sm (fun k => pop ((σ.2.1 0) k ||| (gi (σ.2.1 3) (σ.1 3)).1 k)) 15 ∧ th = 0 ∧ KpO (σ.2.1 2) (σ.2.1 0) (σ.1 1) kp ∧ ch = min ((σ.1 1) + 1) 8 ∧ (∀ k, k < 15 → nw k = (σ.2.1 0) k ||| (gi (σ.2.1 3) (σ.1 3)).1 k) ∧ nw 15 = (σ.2.1 0) 15 ||| (gi (σ.2.1 3) (σ.1 3)).2 ∧ (∀ k, 16 ≤ k → nw k = (σ.2.1 0) k) ∧ r0 = fb_sm (fun k => pop ((σ.2.1 0) k ||| (gi (σ.2.1 3) (σ.1 3)).1 k)) 15))) (fun (z : Nat × Nat × Nat × Nat × Nat × Nat × (Nat → Nat) × (Nat → Nat) × (Nat → Nat)) t => BW g (va_A (wM g σ ++ tl) sz) ((fun z : Nat × Nat × Nat × Nat × Nat × Nat × (Nat → Nat) × (Nat → Nat) × (Nat → Nat) => match z with | (r0, th, ch, n2, at2, fl2, nw, kp, f4) => wM g (sA (sA (sA (sF (sF (sF (sF (sF σ 0 th) 1 ch) 3 n2) 4 at2) 5 fl2) 0 nw) 2 kp) 4 f4) ++ tl) z) t) (va_A (wM g σ ++ tl) sz)) 0 0 (va_A (wM g σ ++ tl) sz) := by
  refine jn_si (wf := fun z : Nat × Nat × Nat × Nat × Nat × Nat × (Nat → Nat) × (Nat → Nat) × (Nat → Nat) => match z with | (r0, th, ch, n2, at2, fl2, nw, kp, f4) => wM g (sA (sA (sA (sF (sF (sF (sF (sF σ 0 th) 1 ch) 3 n2) 4 at2) 5 fl2) 0 nw) 2 kp) 4 f4) ++ tl) (cc := cX11_addText) (maxL := 3) (own := RX11) (by decide) rfl rfl (Nat.le_of_ble_eq_true rfl) ?_
  intro p e s m below meth c Q A hx hb hml hown hts hK hP hD hS hAA hq ls hl
  obtain ⟨H, eH⟩ : ∃ z, z = s.heap := ⟨_, rfl⟩
  obtain ⟨locs, el⟩ : ∃ z : List Loc, z = [] := ⟨_, rfl⟩
  rw [← eH] at hP
  have hS : va_S A s.heap H locs := by rw [eH, el]; exact hS
  have goal0 : W p l e r_c_X11_addText s m ([.ref (g.2.2.2 0)] : List Value).toArray below meth c H locs 0 0 Q (F0 m 0 ls []) → W p l e r_c_X11_addText s m ([.ref (g.2.2.2 0)] : List Value).toArray below meth c s.heap [] 0 0 Q (F0 m 0 ls []) := fun h => by rw [eH, el] at h; exact h
  refine goal0 ?_
  have hl : lv_has ls 3 [(0, .ref (g.2.2.2 0))] := hl
  have iX11 : ∀ w ∈ wsX110, w ∈ wsX11_addText := by decide +kernel
  have k1 := hts (.fieldLink RX11 1 "JumpingAutomataModel" "thrown" "I") (by decide +kernel)
  have k36 := hts (.fieldLink RX11 36 "JumpingAutomataModel" "at" "I") (by decide +kernel)
  have k39 := hts (.fieldLink RX11 39 "JumpingAutomataModel" "fault" "I") (by decide +kernel)
  have k33 := hts (.fieldLink RX11 33 "JumpingAutomataModel" "texted" "I") (by decide +kernel)
  have k13 := hts (.fieldLink RX11 13 "JumpingAutomataModel" "now" "[I") (by decide +kernel)
  have k42 := hts (.fieldLink RX11 42 "JumpingAutomataModel" "then" "[I") (by decide +kernel)
  have hfl := fltC_cases (σ.2.1 3) (σ.1 3)
  have hgl := gi_lt (σ.2.1 3) (σ.1 3)
  refine lv_aload_n hx hb dX11_addText_0 rfl (lv_at hl 0 rfl) ?_
  refine lv_iconst (v := nI 0) hx hb dX11_addText_1 (by decide) ?_
  refine jn_put (D := (g.1, g.2.1)) (ci := 13) (v := .int (nI 0)) (ty := .int) (C := RX11) (T := TX11) (N := 30) hx hb hts iX11 tyX11 tyX11_ok nmX11 hown hK.1 hP hD hS 0 (gM0 g σ tl) rfl 0 (by decide) k1 (fun _ h9 => h9) rfl (by decide +kernel) rfl rfl (Nat.le_of_ble_eq_true rfl) (uM_F0 g σ tl 0) dX11_addText_2 (fun H locs hP hD hS => ?_)
  refine lv_aload_n hx hb dX11_addText_5 rfl (lv_at hl 0 rfl) ?_
  refine lv_iconst (v := nI 0) hx hb dX11_addText_6 (by decide) ?_
  refine jn_put (D := (g.1, g.2.1)) (ci := 13) (v := .int (nI 0)) (ty := .int) (C := RX11) (T := TX11) (N := 30) hx hb hts iX11 tyX11 tyX11_ok nmX11 hown hK.1 hP hD hS 0 (gM0 g (sF σ 0 0) tl) rfl 8 (by decide) k36 (fun _ h9 => h9) rfl (by decide +kernel) rfl rfl (Nat.le_of_ble_eq_true rfl) (uM_F4 g (sF σ 0 0) tl 0) dX11_addText_7 (fun H locs hP hD hS => ?_)
  refine lv_aload_n hx hb dX11_addText_10 rfl (lv_at hl 0 rfl) ?_
  refine lv_iconst (v := nI 4294967295) hx hb dX11_addText_11 (by decide) ?_
  refine jn_put (D := (g.1, g.2.1)) (ci := 13) (v := .int (nI 4294967295)) (ty := .int) (C := RX11) (T := TX11) (N := 30) hx hb hts iX11 tyX11 tyX11_ok nmX11 hown hK.1 hP hD hS 0 (gM0 g (sF (sF σ 0 0) 4 0) tl) rfl 9 (by decide) k39 (fun _ h9 => h9) rfl (by decide +kernel) rfl rfl (Nat.le_of_ble_eq_true rfl) (uM_F5 g (sF (sF σ 0 0) 4 0) tl 4294967295) dX11_addText_12 (fun H locs hP hD hS => ?_)
  refine lv_iconst (v := nI 0) hx hb dX11_addText_15 (by decide) ?_
  refine lv_istore_n (lv' := [(1, .int (nI 0)), (0, .ref (g.2.2.2 0))]) hx hb dX11_addText_16 rfl hl (by decide) rfl (fun ls hl => ?_)
  have lp17 : ∀ (fu : Nat), ∀ (i : Nat) (f : Nat → Nat), (i ≤ 16) → (∀ k, k < i → f k = (σ.2.1 0) k) → 16 - i < fu → ∀ (H : Heap) (locs : List Loc), va_P (g.1, g.2.1) vwCl (wM g (sA (sF (sF (sF σ 0 0) 4 0) 5 4294967295) 4 f) ++ tl) H → va_D A (wM g (sA (sF (sF (sF σ 0 0) 4 0) 5 4294967295) 4 f) ++ tl) → va_S A s.heap H locs → ∀ ls : Array Slot, lv_has ls 3 [(0, .ref (g.2.2.2 0)), (1, .int (nI i))] → W p l e r_c_X11_addText s m ([.ref (g.2.2.2 0)] : List Value).toArray below meth c H locs 0 0 Q (F0 m 17 ls []) := by
    intro fu
    induction fu with
    | zero => intro i f h1 h2 hf; exact absurd hf (Nat.not_lt_zero _)
    | succ fu ih17 =>
      intro i f h1 h2 hf H locs hP hD hS ls hl
      refine lv_iload_n hx hb dX11_addText_17 rfl (lv_at hl 1 rfl) ?_
      refine lv_bipush (v := nI 15) hx hb dX11_addText_18 (by decide) ?_
      refine jn_cgt hx hb (by omega) (by decide) (tgt := 41) dX11_addText_20 (by decide) (fun c_20 => ?_) (fun c_20 => ?_)
      · refine lv_aload_n hx hb dX11_addText_41 rfl (lv_at hl 0 rfl) ?_
        refine jn_callv (va_runV (As := []) (rest := []) ⟨hx, hb, hml, hown, hts⟩ (c_X11_readItem l g tl H.size (sA (sF (sF (sF σ 0 0) 4 0) 5 4294967295) 4 f) hn hc rfl (show TxG (σ.2.1 3) (σ.1 3) 0 from ⟨Nat.zero_le _, fun k hk => by rw [show k = 0 by omega]; show (0 : Nat) ≠ 5; decide⟩) rfl (show TxT (σ.2.1 3) (σ.2.1 0) f 0 from ⟨fun k hk => by rw [h2 k (by omega)]; exact (Nat.or_zero _).symm, by rw [h2 15 (by omega)]; exact (Nat.or_zero _).symm⟩)) (cwV 0 hts gX11_addText_X11_readItem rfl rfl rfl (by decide +kernel) ⟨Nat.le_of_ble_eq_true rfl, Nat.le_of_ble_eq_true rfl⟩) (okWV hK hP hD rfl (gM0 g (sA (sF (sF (sF σ 0 0) 4 0) 5 4294967295) 4 f) tl)) rfl rfl hl.1 rfl (lv_room (Nat.le_of_ble_eq_true rfl)) dX11_addText_42 ⟨Nat.le_of_ble_eq_true rfl, Nat.le_of_ble_eq_true rfl⟩) hD hS hAA (fun u H locs hw_ hP hD hS => ?_)
        obtain ⟨at2_42, fl2_42, f4_42⟩ := u
        have h_42 := hw_
        have h_42 : (TxL (σ.2.1 3) (σ.2.1 0) (σ.1 3) at2_42 fl2_42 f4_42) ∧ (fl2_42 < 2147483648 ∨ (0) < at2_42) := h_42
        have hP : va_P (g.1, g.2.1) vwCl (wM g (sA (sF (sF (sA (sF (sF (sF σ 0 0) 4 0) 5 4294967295) 4 f) 4 at2_42) 5 fl2_42) 4 f4_42) ++ tl) H := hP
        have hD : va_D A (wM g (sA (sF (sF (sA (sF (sF (sF σ 0 0) 4 0) 5 4294967295) 4 f) 4 at2_42) 5 fl2_42) 4 f4_42) ++ tl) := hD
        have lp45 : ∀ (fu : Nat), ∀ (a1 : Nat) (f1 : Nat) (t1 : Nat → Nat), (TxL (σ.2.1 3) (σ.2.1 0) (σ.1 3) a1 f1 t1) → msx f1 a1 < fu → ∀ (H : Heap) (locs : List Loc), va_P (g.1, g.2.1) vwCl (wM g (sA (sF (sF (sF σ 0 0) 4 a1) 5 f1) 4 t1) ++ tl) H → va_D A (wM g (sA (sF (sF (sF σ 0 0) 4 a1) 5 f1) 4 t1) ++ tl) → va_S A s.heap H locs → ∀ ls : Array Slot, lv_has ls 3 [(0, .ref (g.2.2.2 0))] → W p l e r_c_X11_addText s m ([.ref (g.2.2.2 0)] : List Value).toArray below meth c H locs 0 0 Q (F0 m 45 ls []) := by
          intro fu
          induction fu with
          | zero => intro a1 f1 t1 h3 hf; exact absurd hf (Nat.not_lt_zero _)
          | succ fu ih45 =>
            intro a1 f1 t1 h3 hf H locs hP hD hS ls hl
            have h31 := h3.1
            have h32 : f1 = 4294967295 ∨ f1 < 2147483648 := h3.2.elim (fun z => Or.inr z.2) (fun z => Or.inl z.1)
            refine lv_aload_n hx hb dX11_addText_45 rfl (lv_at hl 0 rfl) ?_
            refine va_get (D := (g.1, g.2.1)) (ci := 13) (v := .int (nI f1)) (C := RX11) (T := TX11) (N := 30) hx hb hts iX11 hown hK.1 hP 0 (gM0 g (sA (sF (sF (sF σ 0 0) 4 a1) 5 f1) 4 t1) tl) rfl 9 (by decide) k39 (fun _ h9 => h9) rfl dX11_addText_46 ?_
            refine jn_zge hx hb (by omega) (tgt := 86) dX11_addText_49 (by decide) (fun c_49 => ?_) (fun c_49 => ?_)
            · refine lv_aload_n hx hb dX11_addText_86 rfl (lv_at hl 0 rfl) ?_
              refine lv_iconst (v := nI 0) hx hb dX11_addText_87 (by decide) ?_
              refine jn_put (D := (g.1, g.2.1)) (ci := 13) (v := .int (nI 0)) (ty := .int) (C := RX11) (T := TX11) (N := 30) hx hb hts iX11 tyX11 tyX11_ok nmX11 hown hK.1 hP hD hS 0 (gM0 g (sA (sF (sF (sF σ 0 0) 4 a1) 5 f1) 4 t1) tl) rfl 7 (by decide) k33 (fun _ h9 => h9) rfl (by decide +kernel) rfl rfl (Nat.le_of_ble_eq_true rfl) (uM_F3 g (sA (sF (sF (sF σ 0 0) 4 a1) 5 f1) 4 t1) tl 0) dX11_addText_88 (fun H locs hP hD hS => ?_)
              refine lv_aload_n hx hb dX11_addText_91 rfl (lv_at hl 0 rfl) ?_
              refine va_get (D := (g.1, g.2.1)) (ci := 13) (v := .int (nI f1)) (C := RX11) (T := TX11) (N := 30) hx hb hts iX11 hown hK.1 hP 0 (gM0 g (sF (sA (sF (sF (sF σ 0 0) 4 a1) 5 f1) 4 t1) 3 0) tl) rfl 9 (by decide) k39 (fun _ h9 => h9) rfl dX11_addText_92 ?_
              refine jn_zlt hx hb (by omega) (tgt := 104) dX11_addText_95 (by decide) (fun c_95 => ?_) (fun c_95 => ?_)
              · have hr9 := h3.2.resolve_left (fun z => by have := z.2; omega)
                have ea : a1 = (σ.1 3) := by have := hr9.2.1.1; omega
                have hg9 := hr9.2.1
                rw [ea] at hr9 hg9
                have hfc : fltC (σ.2.1 3) (σ.1 3) = 4294967295 := tx_ok hg9 hr9.2.2.1
                have htx := hr9.2.2.2
                have t32 : ∀ k, k < 15 → t1 k < 32 := fun k hk => by rw [htx.1 k hk]; exact or32 (hT k hk) (hgl.1 k)
                have hsl := sm_or_le hT (f := (gi (σ.2.1 3) (σ.1 3)).1) (fun k _ => hgl.1 k)
                refine lv_iconst (v := nI 0) hx hb dX11_addText_104 (by decide) ?_
                refine lv_istore_n (lv' := [(1, .int (nI 0)), (0, .ref (g.2.2.2 0))]) hx hb dX11_addText_105 rfl hl (by decide) rfl (fun ls hl => ?_)
                refine lv_iconst (v := nI 0) hx hb dX11_addText_106 (by decide) ?_
                refine lv_istore_n (lv' := [(2, .int (nI 0)), (1, .int (nI 0)), (0, .ref (g.2.2.2 0))]) hx hb dX11_addText_107 rfl hl (by decide) rfl (fun ls hl => ?_)
                have lp108 : ∀ (fu : Nat), ∀ (i : Nat) (z : Nat), (i ≤ 15) → (z = fb_sm (fun k => pop (t1 k)) i) → 15 - i < fu → ∀ (H : Heap) (locs : List Loc), va_P (g.1, g.2.1) vwCl (wM g (sA (sF (sF (sF (sF σ 0 0) 3 0) 4 a1) 5 f1) 4 t1) ++ tl) H → va_D A (wM g (sA (sF (sF (sF (sF σ 0 0) 3 0) 4 a1) 5 f1) 4 t1) ++ tl) → va_S A s.heap H locs → ∀ ls : Array Slot, lv_has ls 3 [(0, .ref (g.2.2.2 0)), (1, .int (nI z)), (2, .int (nI i))] → W p l e r_c_X11_addText s m ([.ref (g.2.2.2 0)] : List Value).toArray below meth c H locs 0 0 Q (F0 m 108 ls []) := by
                  intro fu
                  induction fu with
                  | zero => intro i z h4 h5 hf; exact absurd hf (Nat.not_lt_zero _)
                  | succ fu ih108 =>
                    intro i z h4 h5 hf H locs hP hD hS ls hl
                    refine lv_iload_n hx hb dX11_addText_108 rfl (lv_at hl 2 rfl) ?_
                    refine lv_bipush (v := nI 15) hx hb dX11_addText_109 (by decide) ?_
                    refine jn_cge hx hb (by omega) (by decide) (tgt := 132) dX11_addText_111 (by decide) (fun c_111 => ?_) (fun c_111 => ?_)
                    · have ez : z = fb_sm (fun k => pop ((σ.2.1 0) k ||| (gi (σ.2.1 3) (σ.1 3)).1 k)) 15 := by rw [h5, show i = 15 by omega]; exact fb_sm_cong (fun k hk => by rw [htx.1 k hk])
                      refine lv_iload_n hx hb dX11_addText_132 rfl (lv_at hl 1 rfl) ?_
                      refine lv_bipush (v := nI 15) hx hb dX11_addText_133 (by decide) ?_
                      refine jn_cle hx hb (by omega) (by decide) (tgt := 144) dX11_addText_135 (by decide) (fun c_135 => ?_) (fun c_135 => ?_)
                      · refine lv_aload_n hx hb dX11_addText_144 rfl (lv_at hl 0 rfl) ?_
                        refine jn_callv (va_runV (As := []) (rest := []) ⟨hx, hb, hml, hown, hts⟩ (c_X11_keeps l g tl H.size (sA (sF (sF (sF (sF σ 0 0) 3 0) 4 a1) 5 f1) 4 t1) hc8) (cwV 0 hts gX11_addText_X11_keeps rfl rfl rfl (by decide +kernel) ⟨Nat.le_of_ble_eq_true rfl, Nat.le_of_ble_eq_true rfl⟩) (okWV hK hP hD rfl (gM0 g (sA (sF (sF (sF (sF σ 0 0) 3 0) 4 a1) 5 f1) 4 t1) tl)) rfl rfl hl.1 rfl (lv_room (Nat.le_of_ble_eq_true rfl)) dX11_addText_145 ⟨Nat.le_of_ble_eq_true rfl, Nat.le_of_ble_eq_true rfl⟩) hD hS hAA (fun u H locs hw_ hP hD hS => ?_)
                        obtain ⟨kp_145, ch_145⟩ := u
                        have h_145 := hw_
                        have h_145 : (KpO (σ.2.1 2) (σ.2.1 0) (σ.1 1) kp_145) ∧ (ch_145 = min ((σ.1 1) + 1) 8) := h_145
                        have hP : va_P (g.1, g.2.1) vwCl (wM g (sA (sF (sA (sF (sF (sF (sF σ 0 0) 3 0) 4 a1) 5 f1) 4 t1) 1 ch_145) 2 kp_145) ++ tl) H := hP
                        have hD : va_D A (wM g (sA (sF (sA (sF (sF (sF (sF σ 0 0) 3 0) 4 a1) 5 f1) 4 t1) 1 ch_145) 2 kp_145) ++ tl) := hD
                        refine lv_iconst (v := nI 0) hx hb dX11_addText_148 (by decide) ?_
                        refine lv_istore_n (lv' := [(2, .int (nI 0)), (0, .ref (g.2.2.2 0)), (1, .int (nI z))]) hx hb dX11_addText_149 rfl hl (by decide) rfl (fun ls hl => ?_)
                        have lp150 : ∀ (fu : Nat), ∀ (i : Nat) (f : Nat → Nat), (i ≤ 16) → (∀ k, k < i → f k = t1 k) → (∀ k, i ≤ k → f k = (σ.2.1 0) k) → 16 - i < fu → ∀ (H : Heap) (locs : List Loc), va_P (g.1, g.2.1) vwCl (wM g (sA (sA (sA (sF (sF (sF (sF (sF σ 0 0) 1 ch_145) 3 0) 4 a1) 5 f1) 0 f) 2 kp_145) 4 t1) ++ tl) H → va_D A (wM g (sA (sA (sA (sF (sF (sF (sF (sF σ 0 0) 1 ch_145) 3 0) 4 a1) 5 f1) 0 f) 2 kp_145) 4 t1) ++ tl) → va_S A s.heap H locs → ∀ ls : Array Slot, lv_has ls 3 [(0, .ref (g.2.2.2 0)), (1, .int (nI z)), (2, .int (nI i))] → W p l e r_c_X11_addText s m ([.ref (g.2.2.2 0)] : List Value).toArray below meth c H locs 0 0 Q (F0 m 150 ls []) := by
                          intro fu
                          induction fu with
                          | zero => intro i f h6 h7 h8 hf; exact absurd hf (Nat.not_lt_zero _)
                          | succ fu ih150 =>
                            intro i f h6 h7 h8 hf H locs hP hD hS ls hl
                            refine lv_iload_n hx hb dX11_addText_150 rfl (lv_at hl 2 rfl) ?_
                            refine lv_bipush (v := nI 15) hx hb dX11_addText_151 (by decide) ?_
                            refine jn_cgt hx hb (by omega) (by decide) (tgt := 174) dX11_addText_153 (by decide) (fun c_153 => ?_) (fun c_153 => ?_)
                            · refine lv_iload_n hx hb dX11_addText_174 rfl (lv_at hl 1 rfl) ?_
                              exact hq _ _ _ _ ((nI z)) (_, 0, ch_145, 0, a1, f1, f, kp_145, t1) dX11_addText_175 ⟨rfl, rfl, (by rw [hfc]; exact hr9.1), (Or.inr (Or.inr ⟨hfc, by omega, rfl, h_145.1, h_145.2, fun k hk => by rw [h7 k (by omega)]; exact htx.1 k hk, by rw [h7 15 (by omega)]; exact htx.2, fun k hk => h8 k (by omega), ez⟩))⟩ hP hD hS
                            · refine lv_aload_n hx hb dX11_addText_156 rfl (lv_at hl 0 rfl) ?_
                              refine va_get (D := (g.1, g.2.1)) (ci := 13) (v := .ref (g.2.2.2 1)) (C := RX11) (T := TX11) (N := 30) hx hb hts iX11 hown hK.1 hP 0 (gM0 g (sA (sA (sA (sF (sF (sF (sF (sF σ 0 0) 1 ch_145) 3 0) 4 a1) 5 f1) 0 f) 2 kp_145) 4 t1) tl) rfl 1 (by decide) k13 (fun _ h9 => h9) rfl dX11_addText_157 ?_
                              refine lv_iload_n hx hb dX11_addText_160 rfl (lv_at hl 2 rfl) ?_
                              refine lv_aload_n hx hb dX11_addText_161 rfl (lv_at hl 0 rfl) ?_
                              refine va_get (D := (g.1, g.2.1)) (ci := 13) (v := .ref (g.2.2.2 5)) (C := RX11) (T := TX11) (N := 30) hx hb hts iX11 hown hK.1 hP 0 (gM0 g (sA (sA (sA (sF (sF (sF (sF (sF σ 0 0) 1 ch_145) 3 0) 4 a1) 5 f1) 0 f) 2 kp_145) 4 t1) tl) rfl 10 (by decide) k42 (fun _ h9 => h9) rfl dX11_addText_162 ?_
                              refine lv_iload_n hx hb dX11_addText_165 rfl (lv_at hl 2 rfl) ?_
                              refine jn_iald (f := t1) hx hb hK.1 hP 5 0 (gM5 g (sA (sA (sA (sF (sF (sF (sF (sF σ 0 0) 1 ch_145) 3 0) 4 a1) 5 f1) 0 f) 2 kp_145) 4 t1) tl) rfl (by omega) (Nat.le_of_ble_eq_true rfl) dX11_addText_166 ?_
                              refine jn_iast (f := f) hx hb hK.1 hP hD hS 1 0 (gM1 g (sA (sA (sA (sF (sF (sF (sF (sF σ 0 0) 1 ch_145) 3 0) 4 a1) 5 f1) 0 f) 2 kp_145) 4 t1) tl) rfl (by omega) (Nat.le_of_ble_eq_true rfl) (uM_A0 g (sA (sA (sA (sF (sF (sF (sF (sF σ 0 0) 1 ch_145) 3 0) 4 a1) 5 f1) 0 f) 2 kp_145) 4 t1) tl _) dX11_addText_167 (fun H locs hP hD hS => ?_)
                              refine lv_iinc (v := nI (i + 1)) (lv' := [(2, .int (nI (i + 1))), (0, .ref (g.2.2.2 0)), (1, .int (nI z))]) hx hb dX11_addText_168 hl (k := 2) rfl (jn_ii _ 1) (by decide) rfl (fun ls hl => ?_)
                              refine lv_goto (tgt := 150) hx hb dX11_addText_171 (by decide) ?_
                              exact ih150 (i + 1) (va_up f i (t1 i)) (by omega) (fun k hk => by unfold va_up; split; { rename_i q; rw [q] }; { exact h7 k (by omega) }) (fun k hk => by rw [va_up, if_neg (by omega)]; exact h8 k (by omega)) (by omega) _ _ hP hD hS _ (lv_sub hl [1, 2, 0] rfl)
                        exact lp150 _ 0 (σ.2.1 0) (by decide) (fun k hk => absurd hk (by omega)) (fun _ _ => rfl) (Nat.lt_succ_self _) _ _ hP hD hS _ (lv_sub hl [1, 2, 0] rfl)
                      · refine lv_aload_n hx hb dX11_addText_138 rfl (lv_at hl 0 rfl) ?_
                        refine lv_iconst (v := nI 2) hx hb dX11_addText_139 (by decide) ?_
                        refine jn_calli (va_runV (As := [.int (nI 2)]) (rest := []) ⟨hx, hb, hml, hown, hts⟩ (c_X11_fails l g tl H.size (sA (sF (sF (sF (sF σ 0 0) 3 0) 4 a1) 5 f1) 4 t1) 2) (cwV 1 hts gX11_addText_X11_fails rfl rfl rfl (by decide +kernel) ⟨Nat.le_of_ble_eq_true rfl, Nat.le_of_ble_eq_true rfl⟩) (okWV hK hP hD rfl (gM0 g (sA (sF (sF (sF (sF σ 0 0) 3 0) 4 a1) 5 f1) 4 t1) tl)) rfl rfl hl.1 rfl (lv_room (Nat.le_of_ble_eq_true rfl)) dX11_addText_140 ⟨Nat.le_of_ble_eq_true rfl, Nat.le_of_ble_eq_true rfl⟩) hD hS hAA (fun r_140 u H locs hw_ hP hD hS => ?_)
                        obtain rfl := hw_
                        have hP : va_P (g.1, g.2.1) vwCl (wM g (sF (sA (sF (sF (sF (sF σ 0 0) 3 0) 4 a1) 5 f1) 4 t1) 0 2) ++ tl) H := hP
                        have hD : va_D A (wM g (sF (sA (sF (sF (sF (sF σ 0 0) 3 0) 4 a1) 5 f1) 4 t1) 0 2) ++ tl) := hD
                        exact hq _ _ _ _ ((nI 0)) (0, 2, (σ.1 1), 0, a1, f1, (σ.2.1 0), (σ.2.1 2), t1) dX11_addText_143 ⟨rfl, rfl, (by rw [hfc]; exact hr9.1), (Or.inr (Or.inl ⟨hfc, by omega, rfl, rfl, rfl, rfl⟩))⟩ hP hD hS
                    · refine lv_iload_n hx hb dX11_addText_114 rfl (lv_at hl 1 rfl) ?_
                      refine lv_aload_n hx hb dX11_addText_115 rfl (lv_at hl 0 rfl) ?_
                      refine va_get (D := (g.1, g.2.1)) (ci := 13) (v := .ref (g.2.2.2 5)) (C := RX11) (T := TX11) (N := 30) hx hb hts iX11 hown hK.1 hP 0 (gM0 g (sA (sF (sF (sF (sF σ 0 0) 3 0) 4 a1) 5 f1) 4 t1) tl) rfl 10 (by decide) k42 (fun _ h9 => h9) rfl dX11_addText_116 ?_
                      refine lv_iload_n hx hb dX11_addText_119 rfl (lv_at hl 2 rfl) ?_
                      refine jn_iald (f := t1) hx hb hK.1 hP 5 0 (gM5 g (sA (sF (sF (sF (sF σ 0 0) 3 0) 4 a1) 5 f1) 4 t1) tl) rfl (by omega) (Nat.le_of_ble_eq_true rfl) dX11_addText_120 ?_
                      refine vp_callSi (va_Run.run (va_runS (As := [.int (nI (t1 i))]) (rest := [.int (nI z)]) ⟨hx, hb, hml, hown, hts⟩ (c_X11_bits l (t1 i) (t32 i (by omega))) (va_cwS 1 hts gX11_addText_X11_bits rfl rfl rfl (by decide +kernel) ⟨Nat.le_of_ble_eq_true rfl, Nat.le_of_ble_eq_true rfl⟩) okTS rfl rfl hl.1 rfl (lv_room (Nat.le_of_ble_eq_true rfl)) dX11_addText_121 ⟨Nat.le_of_ble_eq_true rfl, Nat.le_of_ble_eq_true rfl⟩)) (fun r_121 h_121 => ?_)
                      subst h_121
                      refine jn_iadd hx hb dX11_addText_124 ?_
                      refine lv_istore_n (lv' := [(1, .int (nI (z + (pop (t1 i))))), (0, .ref (g.2.2.2 0)), (2, .int (nI i))]) hx hb dX11_addText_125 rfl hl (by decide) rfl (fun ls hl => ?_)
                      refine lv_iinc (v := nI (i + 1)) (lv' := [(2, .int (nI (i + 1))), (1, .int (nI (z + (pop (t1 i))))), (0, .ref (g.2.2.2 0))]) hx hb dX11_addText_126 hl (k := 2) rfl (jn_ii _ 1) (by decide) rfl (fun ls hl => ?_)
                      refine lv_goto (tgt := 108) hx hb dX11_addText_129 (by decide) ?_
                      exact ih108 (i + 1) (z + (pop (t1 i))) (by omega) (by rw [h5]; rfl) (by omega) _ _ hP hD hS _ (lv_sub hl [2, 1, 0] rfl)
                exact lp108 _ 0 0 (by decide) rfl (Nat.lt_succ_self _) _ _ hP hD hS _ (lv_sub hl [2, 1, 0] rfl)
              · have hl9 := h3.2.resolve_right (fun z => by have := z.1; omega)
                refine lv_aload_n hx hb dX11_addText_98 rfl (lv_at hl 0 rfl) ?_
                refine lv_iconst (v := nI 1) hx hb dX11_addText_99 (by decide) ?_
                refine jn_calli (va_runV (As := [.int (nI 1)]) (rest := []) ⟨hx, hb, hml, hown, hts⟩ (c_X11_fails l g tl H.size (sF (sA (sF (sF (sF σ 0 0) 4 a1) 5 f1) 4 t1) 3 0) 1) (cwV 1 hts gX11_addText_X11_fails rfl rfl rfl (by decide +kernel) ⟨Nat.le_of_ble_eq_true rfl, Nat.le_of_ble_eq_true rfl⟩) (okWV hK hP hD rfl (gM0 g (sF (sA (sF (sF (sF σ 0 0) 4 a1) 5 f1) 4 t1) 3 0) tl)) rfl rfl hl.1 rfl (lv_room (Nat.le_of_ble_eq_true rfl)) dX11_addText_100 ⟨Nat.le_of_ble_eq_true rfl, Nat.le_of_ble_eq_true rfl⟩) hD hS hAA (fun r_100 u H locs hw_ hP hD hS => ?_)
                obtain rfl := hw_
                have hP : va_P (g.1, g.2.1) vwCl (wM g (sF (sF (sA (sF (sF (sF σ 0 0) 4 a1) 5 f1) 4 t1) 3 0) 0 1) ++ tl) H := hP
                have hD : va_D A (wM g (sF (sF (sA (sF (sF (sF σ 0 0) 4 a1) 5 f1) 4 t1) 3 0) 0 1) ++ tl) := hD
                exact hq _ _ _ _ ((nI 0)) (0, 1, (σ.1 1), 0, a1, f1, (σ.2.1 0), (σ.2.1 2), t1) dX11_addText_103 ⟨rfl, rfl, hl9.1, (Or.inl ⟨by have := hl9.1; have := hl9.2; omega, rfl, rfl, rfl, rfl⟩)⟩ hP hD hS
            · have hr3 := h3.2.resolve_left (fun z => by have := z.2; omega)
              refine lv_aload_n hx hb dX11_addText_52 rfl (lv_at hl 0 rfl) ?_
              refine va_get (D := (g.1, g.2.1)) (ci := 13) (v := .int (nI a1)) (C := RX11) (T := TX11) (N := 30) hx hb hts iX11 hown hK.1 hP 0 (gM0 g (sA (sF (sF (sF σ 0 0) 4 a1) 5 f1) 4 t1) tl) rfl 8 (by decide) k36 (fun _ h9 => h9) rfl dX11_addText_53 ?_
              refine lv_aload_n hx hb dX11_addText_56 rfl (lv_at hl 0 rfl) ?_
              refine va_get (D := (g.1, g.2.1)) (ci := 13) (v := .int (nI (σ.1 3))) (C := RX11) (T := TX11) (N := 30) hx hb hts iX11 hown hK.1 hP 0 (gM0 g (sA (sF (sF (sF σ 0 0) 4 a1) 5 f1) 4 t1) tl) rfl 7 (by decide) k33 (fun _ h9 => h9) rfl dX11_addText_57 ?_
              refine jn_cge hx hb (by omega) (by omega) (tgt := 86) dX11_addText_60 (by decide) (fun c_60 => ?_) (fun c_60 => ?_)
              · refine lv_aload_n hx hb dX11_addText_86 rfl (lv_at hl 0 rfl) ?_
                refine lv_iconst (v := nI 0) hx hb dX11_addText_87 (by decide) ?_
                refine jn_put (D := (g.1, g.2.1)) (ci := 13) (v := .int (nI 0)) (ty := .int) (C := RX11) (T := TX11) (N := 30) hx hb hts iX11 tyX11 tyX11_ok nmX11 hown hK.1 hP hD hS 0 (gM0 g (sA (sF (sF (sF σ 0 0) 4 a1) 5 f1) 4 t1) tl) rfl 7 (by decide) k33 (fun _ h9 => h9) rfl (by decide +kernel) rfl rfl (Nat.le_of_ble_eq_true rfl) (uM_F3 g (sA (sF (sF (sF σ 0 0) 4 a1) 5 f1) 4 t1) tl 0) dX11_addText_88 (fun H locs hP hD hS => ?_)
                refine lv_aload_n hx hb dX11_addText_91 rfl (lv_at hl 0 rfl) ?_
                refine va_get (D := (g.1, g.2.1)) (ci := 13) (v := .int (nI f1)) (C := RX11) (T := TX11) (N := 30) hx hb hts iX11 hown hK.1 hP 0 (gM0 g (sF (sA (sF (sF (sF σ 0 0) 4 a1) 5 f1) 4 t1) 3 0) tl) rfl 9 (by decide) k39 (fun _ h9 => h9) rfl dX11_addText_92 ?_
                refine jn_zlt hx hb (by omega) (tgt := 104) dX11_addText_95 (by decide) (fun c_95 => ?_) (fun c_95 => ?_)
                · have hr9 := h3.2.resolve_left (fun z => by have := z.2; omega)
                  have ea : a1 = (σ.1 3) := by have := hr9.2.1.1; omega
                  have hg9 := hr9.2.1
                  rw [ea] at hr9 hg9
                  have hfc : fltC (σ.2.1 3) (σ.1 3) = 4294967295 := tx_ok hg9 hr9.2.2.1
                  have htx := hr9.2.2.2
                  have t32 : ∀ k, k < 15 → t1 k < 32 := fun k hk => by rw [htx.1 k hk]; exact or32 (hT k hk) (hgl.1 k)
                  have hsl := sm_or_le hT (f := (gi (σ.2.1 3) (σ.1 3)).1) (fun k _ => hgl.1 k)
                  refine lv_iconst (v := nI 0) hx hb dX11_addText_104 (by decide) ?_
                  refine lv_istore_n (lv' := [(1, .int (nI 0)), (0, .ref (g.2.2.2 0))]) hx hb dX11_addText_105 rfl hl (by decide) rfl (fun ls hl => ?_)
                  refine lv_iconst (v := nI 0) hx hb dX11_addText_106 (by decide) ?_
                  refine lv_istore_n (lv' := [(2, .int (nI 0)), (1, .int (nI 0)), (0, .ref (g.2.2.2 0))]) hx hb dX11_addText_107 rfl hl (by decide) rfl (fun ls hl => ?_)
                  have lp108 : ∀ (fu : Nat), ∀ (i : Nat) (z : Nat), (i ≤ 15) → (z = fb_sm (fun k => pop (t1 k)) i) → 15 - i < fu → ∀ (H : Heap) (locs : List Loc), va_P (g.1, g.2.1) vwCl (wM g (sA (sF (sF (sF (sF σ 0 0) 3 0) 4 a1) 5 f1) 4 t1) ++ tl) H → va_D A (wM g (sA (sF (sF (sF (sF σ 0 0) 3 0) 4 a1) 5 f1) 4 t1) ++ tl) → va_S A s.heap H locs → ∀ ls : Array Slot, lv_has ls 3 [(0, .ref (g.2.2.2 0)), (1, .int (nI z)), (2, .int (nI i))] → W p l e r_c_X11_addText s m ([.ref (g.2.2.2 0)] : List Value).toArray below meth c H locs 0 0 Q (F0 m 108 ls []) := by
                    intro fu
                    induction fu with
                    | zero => intro i z h4 h5 hf; exact absurd hf (Nat.not_lt_zero _)
                    | succ fu ih108 =>
                      intro i z h4 h5 hf H locs hP hD hS ls hl
                      refine lv_iload_n hx hb dX11_addText_108 rfl (lv_at hl 2 rfl) ?_
                      refine lv_bipush (v := nI 15) hx hb dX11_addText_109 (by decide) ?_
                      refine jn_cge hx hb (by omega) (by decide) (tgt := 132) dX11_addText_111 (by decide) (fun c_111 => ?_) (fun c_111 => ?_)
                      · have ez : z = fb_sm (fun k => pop ((σ.2.1 0) k ||| (gi (σ.2.1 3) (σ.1 3)).1 k)) 15 := by rw [h5, show i = 15 by omega]; exact fb_sm_cong (fun k hk => by rw [htx.1 k hk])
                        refine lv_iload_n hx hb dX11_addText_132 rfl (lv_at hl 1 rfl) ?_
                        refine lv_bipush (v := nI 15) hx hb dX11_addText_133 (by decide) ?_
                        refine jn_cle hx hb (by omega) (by decide) (tgt := 144) dX11_addText_135 (by decide) (fun c_135 => ?_) (fun c_135 => ?_)
                        · refine lv_aload_n hx hb dX11_addText_144 rfl (lv_at hl 0 rfl) ?_
                          refine jn_callv (va_runV (As := []) (rest := []) ⟨hx, hb, hml, hown, hts⟩ (c_X11_keeps l g tl H.size (sA (sF (sF (sF (sF σ 0 0) 3 0) 4 a1) 5 f1) 4 t1) hc8) (cwV 0 hts gX11_addText_X11_keeps rfl rfl rfl (by decide +kernel) ⟨Nat.le_of_ble_eq_true rfl, Nat.le_of_ble_eq_true rfl⟩) (okWV hK hP hD rfl (gM0 g (sA (sF (sF (sF (sF σ 0 0) 3 0) 4 a1) 5 f1) 4 t1) tl)) rfl rfl hl.1 rfl (lv_room (Nat.le_of_ble_eq_true rfl)) dX11_addText_145 ⟨Nat.le_of_ble_eq_true rfl, Nat.le_of_ble_eq_true rfl⟩) hD hS hAA (fun u H locs hw_ hP hD hS => ?_)
                          obtain ⟨kp_145, ch_145⟩ := u
                          have h_145 := hw_
                          have h_145 : (KpO (σ.2.1 2) (σ.2.1 0) (σ.1 1) kp_145) ∧ (ch_145 = min ((σ.1 1) + 1) 8) := h_145
                          have hP : va_P (g.1, g.2.1) vwCl (wM g (sA (sF (sA (sF (sF (sF (sF σ 0 0) 3 0) 4 a1) 5 f1) 4 t1) 1 ch_145) 2 kp_145) ++ tl) H := hP
                          have hD : va_D A (wM g (sA (sF (sA (sF (sF (sF (sF σ 0 0) 3 0) 4 a1) 5 f1) 4 t1) 1 ch_145) 2 kp_145) ++ tl) := hD
                          refine lv_iconst (v := nI 0) hx hb dX11_addText_148 (by decide) ?_
                          refine lv_istore_n (lv' := [(2, .int (nI 0)), (0, .ref (g.2.2.2 0)), (1, .int (nI z))]) hx hb dX11_addText_149 rfl hl (by decide) rfl (fun ls hl => ?_)
                          have lp150 : ∀ (fu : Nat), ∀ (i : Nat) (f : Nat → Nat), (i ≤ 16) → (∀ k, k < i → f k = t1 k) → (∀ k, i ≤ k → f k = (σ.2.1 0) k) → 16 - i < fu → ∀ (H : Heap) (locs : List Loc), va_P (g.1, g.2.1) vwCl (wM g (sA (sA (sA (sF (sF (sF (sF (sF σ 0 0) 1 ch_145) 3 0) 4 a1) 5 f1) 0 f) 2 kp_145) 4 t1) ++ tl) H → va_D A (wM g (sA (sA (sA (sF (sF (sF (sF (sF σ 0 0) 1 ch_145) 3 0) 4 a1) 5 f1) 0 f) 2 kp_145) 4 t1) ++ tl) → va_S A s.heap H locs → ∀ ls : Array Slot, lv_has ls 3 [(0, .ref (g.2.2.2 0)), (1, .int (nI z)), (2, .int (nI i))] → W p l e r_c_X11_addText s m ([.ref (g.2.2.2 0)] : List Value).toArray below meth c H locs 0 0 Q (F0 m 150 ls []) := by
                            intro fu
                            induction fu with
                            | zero => intro i f h6 h7 h8 hf; exact absurd hf (Nat.not_lt_zero _)
                            | succ fu ih150 =>
                              intro i f h6 h7 h8 hf H locs hP hD hS ls hl
                              refine lv_iload_n hx hb dX11_addText_150 rfl (lv_at hl 2 rfl) ?_
                              refine lv_bipush (v := nI 15) hx hb dX11_addText_151 (by decide) ?_
                              refine jn_cgt hx hb (by omega) (by decide) (tgt := 174) dX11_addText_153 (by decide) (fun c_153 => ?_) (fun c_153 => ?_)
                              · refine lv_iload_n hx hb dX11_addText_174 rfl (lv_at hl 1 rfl) ?_
                                exact hq _ _ _ _ ((nI z)) (_, 0, ch_145, 0, a1, f1, f, kp_145, t1) dX11_addText_175 ⟨rfl, rfl, (by rw [hfc]; exact hr9.1), (Or.inr (Or.inr ⟨hfc, by omega, rfl, h_145.1, h_145.2, fun k hk => by rw [h7 k (by omega)]; exact htx.1 k hk, by rw [h7 15 (by omega)]; exact htx.2, fun k hk => h8 k (by omega), ez⟩))⟩ hP hD hS
                              · refine lv_aload_n hx hb dX11_addText_156 rfl (lv_at hl 0 rfl) ?_
                                refine va_get (D := (g.1, g.2.1)) (ci := 13) (v := .ref (g.2.2.2 1)) (C := RX11) (T := TX11) (N := 30) hx hb hts iX11 hown hK.1 hP 0 (gM0 g (sA (sA (sA (sF (sF (sF (sF (sF σ 0 0) 1 ch_145) 3 0) 4 a1) 5 f1) 0 f) 2 kp_145) 4 t1) tl) rfl 1 (by decide) k13 (fun _ h9 => h9) rfl dX11_addText_157 ?_
                                refine lv_iload_n hx hb dX11_addText_160 rfl (lv_at hl 2 rfl) ?_
                                refine lv_aload_n hx hb dX11_addText_161 rfl (lv_at hl 0 rfl) ?_
                                refine va_get (D := (g.1, g.2.1)) (ci := 13) (v := .ref (g.2.2.2 5)) (C := RX11) (T := TX11) (N := 30) hx hb hts iX11 hown hK.1 hP 0 (gM0 g (sA (sA (sA (sF (sF (sF (sF (sF σ 0 0) 1 ch_145) 3 0) 4 a1) 5 f1) 0 f) 2 kp_145) 4 t1) tl) rfl 10 (by decide) k42 (fun _ h9 => h9) rfl dX11_addText_162 ?_
                                refine lv_iload_n hx hb dX11_addText_165 rfl (lv_at hl 2 rfl) ?_
                                refine jn_iald (f := t1) hx hb hK.1 hP 5 0 (gM5 g (sA (sA (sA (sF (sF (sF (sF (sF σ 0 0) 1 ch_145) 3 0) 4 a1) 5 f1) 0 f) 2 kp_145) 4 t1) tl) rfl (by omega) (Nat.le_of_ble_eq_true rfl) dX11_addText_166 ?_
                                refine jn_iast (f := f) hx hb hK.1 hP hD hS 1 0 (gM1 g (sA (sA (sA (sF (sF (sF (sF (sF σ 0 0) 1 ch_145) 3 0) 4 a1) 5 f1) 0 f) 2 kp_145) 4 t1) tl) rfl (by omega) (Nat.le_of_ble_eq_true rfl) (uM_A0 g (sA (sA (sA (sF (sF (sF (sF (sF σ 0 0) 1 ch_145) 3 0) 4 a1) 5 f1) 0 f) 2 kp_145) 4 t1) tl _) dX11_addText_167 (fun H locs hP hD hS => ?_)
                                refine lv_iinc (v := nI (i + 1)) (lv' := [(2, .int (nI (i + 1))), (0, .ref (g.2.2.2 0)), (1, .int (nI z))]) hx hb dX11_addText_168 hl (k := 2) rfl (jn_ii _ 1) (by decide) rfl (fun ls hl => ?_)
                                refine lv_goto (tgt := 150) hx hb dX11_addText_171 (by decide) ?_
                                exact ih150 (i + 1) (va_up f i (t1 i)) (by omega) (fun k hk => by unfold va_up; split; { rename_i q; rw [q] }; { exact h7 k (by omega) }) (fun k hk => by rw [va_up, if_neg (by omega)]; exact h8 k (by omega)) (by omega) _ _ hP hD hS _ (lv_sub hl [1, 2, 0] rfl)
                          exact lp150 _ 0 (σ.2.1 0) (by decide) (fun k hk => absurd hk (by omega)) (fun _ _ => rfl) (Nat.lt_succ_self _) _ _ hP hD hS _ (lv_sub hl [1, 2, 0] rfl)
                        · refine lv_aload_n hx hb dX11_addText_138 rfl (lv_at hl 0 rfl) ?_
                          refine lv_iconst (v := nI 2) hx hb dX11_addText_139 (by decide) ?_
                          refine jn_calli (va_runV (As := [.int (nI 2)]) (rest := []) ⟨hx, hb, hml, hown, hts⟩ (c_X11_fails l g tl H.size (sA (sF (sF (sF (sF σ 0 0) 3 0) 4 a1) 5 f1) 4 t1) 2) (cwV 1 hts gX11_addText_X11_fails rfl rfl rfl (by decide +kernel) ⟨Nat.le_of_ble_eq_true rfl, Nat.le_of_ble_eq_true rfl⟩) (okWV hK hP hD rfl (gM0 g (sA (sF (sF (sF (sF σ 0 0) 3 0) 4 a1) 5 f1) 4 t1) tl)) rfl rfl hl.1 rfl (lv_room (Nat.le_of_ble_eq_true rfl)) dX11_addText_140 ⟨Nat.le_of_ble_eq_true rfl, Nat.le_of_ble_eq_true rfl⟩) hD hS hAA (fun r_140 u H locs hw_ hP hD hS => ?_)
                          obtain rfl := hw_
                          have hP : va_P (g.1, g.2.1) vwCl (wM g (sF (sA (sF (sF (sF (sF σ 0 0) 3 0) 4 a1) 5 f1) 4 t1) 0 2) ++ tl) H := hP
                          have hD : va_D A (wM g (sF (sA (sF (sF (sF (sF σ 0 0) 3 0) 4 a1) 5 f1) 4 t1) 0 2) ++ tl) := hD
                          exact hq _ _ _ _ ((nI 0)) (0, 2, (σ.1 1), 0, a1, f1, (σ.2.1 0), (σ.2.1 2), t1) dX11_addText_143 ⟨rfl, rfl, (by rw [hfc]; exact hr9.1), (Or.inr (Or.inl ⟨hfc, by omega, rfl, rfl, rfl, rfl⟩))⟩ hP hD hS
                      · refine lv_iload_n hx hb dX11_addText_114 rfl (lv_at hl 1 rfl) ?_
                        refine lv_aload_n hx hb dX11_addText_115 rfl (lv_at hl 0 rfl) ?_
                        refine va_get (D := (g.1, g.2.1)) (ci := 13) (v := .ref (g.2.2.2 5)) (C := RX11) (T := TX11) (N := 30) hx hb hts iX11 hown hK.1 hP 0 (gM0 g (sA (sF (sF (sF (sF σ 0 0) 3 0) 4 a1) 5 f1) 4 t1) tl) rfl 10 (by decide) k42 (fun _ h9 => h9) rfl dX11_addText_116 ?_
                        refine lv_iload_n hx hb dX11_addText_119 rfl (lv_at hl 2 rfl) ?_
                        refine jn_iald (f := t1) hx hb hK.1 hP 5 0 (gM5 g (sA (sF (sF (sF (sF σ 0 0) 3 0) 4 a1) 5 f1) 4 t1) tl) rfl (by omega) (Nat.le_of_ble_eq_true rfl) dX11_addText_120 ?_
                        refine vp_callSi (va_Run.run (va_runS (As := [.int (nI (t1 i))]) (rest := [.int (nI z)]) ⟨hx, hb, hml, hown, hts⟩ (c_X11_bits l (t1 i) (t32 i (by omega))) (va_cwS 1 hts gX11_addText_X11_bits rfl rfl rfl (by decide +kernel) ⟨Nat.le_of_ble_eq_true rfl, Nat.le_of_ble_eq_true rfl⟩) okTS rfl rfl hl.1 rfl (lv_room (Nat.le_of_ble_eq_true rfl)) dX11_addText_121 ⟨Nat.le_of_ble_eq_true rfl, Nat.le_of_ble_eq_true rfl⟩)) (fun r_121 h_121 => ?_)
                        subst h_121
                        refine jn_iadd hx hb dX11_addText_124 ?_
                        refine lv_istore_n (lv' := [(1, .int (nI (z + (pop (t1 i))))), (0, .ref (g.2.2.2 0)), (2, .int (nI i))]) hx hb dX11_addText_125 rfl hl (by decide) rfl (fun ls hl => ?_)
                        refine lv_iinc (v := nI (i + 1)) (lv' := [(2, .int (nI (i + 1))), (1, .int (nI (z + (pop (t1 i))))), (0, .ref (g.2.2.2 0))]) hx hb dX11_addText_126 hl (k := 2) rfl (jn_ii _ 1) (by decide) rfl (fun ls hl => ?_)
                        refine lv_goto (tgt := 108) hx hb dX11_addText_129 (by decide) ?_
                        exact ih108 (i + 1) (z + (pop (t1 i))) (by omega) (by rw [h5]; rfl) (by omega) _ _ hP hD hS _ (lv_sub hl [2, 1, 0] rfl)
                  exact lp108 _ 0 0 (by decide) rfl (Nat.lt_succ_self _) _ _ hP hD hS _ (lv_sub hl [2, 1, 0] rfl)
                · have hl9 := h3.2.resolve_right (fun z => by have := z.1; omega)
                  refine lv_aload_n hx hb dX11_addText_98 rfl (lv_at hl 0 rfl) ?_
                  refine lv_iconst (v := nI 1) hx hb dX11_addText_99 (by decide) ?_
                  refine jn_calli (va_runV (As := [.int (nI 1)]) (rest := []) ⟨hx, hb, hml, hown, hts⟩ (c_X11_fails l g tl H.size (sF (sA (sF (sF (sF σ 0 0) 4 a1) 5 f1) 4 t1) 3 0) 1) (cwV 1 hts gX11_addText_X11_fails rfl rfl rfl (by decide +kernel) ⟨Nat.le_of_ble_eq_true rfl, Nat.le_of_ble_eq_true rfl⟩) (okWV hK hP hD rfl (gM0 g (sF (sA (sF (sF (sF σ 0 0) 4 a1) 5 f1) 4 t1) 3 0) tl)) rfl rfl hl.1 rfl (lv_room (Nat.le_of_ble_eq_true rfl)) dX11_addText_100 ⟨Nat.le_of_ble_eq_true rfl, Nat.le_of_ble_eq_true rfl⟩) hD hS hAA (fun r_100 u H locs hw_ hP hD hS => ?_)
                  obtain rfl := hw_
                  have hP : va_P (g.1, g.2.1) vwCl (wM g (sF (sF (sA (sF (sF (sF σ 0 0) 4 a1) 5 f1) 4 t1) 3 0) 0 1) ++ tl) H := hP
                  have hD : va_D A (wM g (sF (sF (sA (sF (sF (sF σ 0 0) 4 a1) 5 f1) 4 t1) 3 0) 0 1) ++ tl) := hD
                  exact hq _ _ _ _ ((nI 0)) (0, 1, (σ.1 1), 0, a1, f1, (σ.2.1 0), (σ.2.1 2), t1) dX11_addText_103 ⟨rfl, rfl, hl9.1, (Or.inl ⟨by have := hl9.1; have := hl9.2; omega, rfl, rfl, rfl, rfl⟩)⟩ hP hD hS
              · refine lv_aload_n hx hb dX11_addText_63 rfl (lv_at hl 0 rfl) ?_
                refine lv_bipush (v := nI 44) hx hb dX11_addText_64 (by decide) ?_
                refine lv_bipush (v := nI 44) hx hb dX11_addText_66 (by decide) ?_
                refine jn_calli (va_runV (As := [.int (nI 44), .int (nI 44)]) (rest := []) ⟨hx, hb, hml, hown, hts⟩ (c_X11_sign l g tl H.size (sA (sF (sF (sF σ 0 0) 4 a1) 5 f1) 4 t1) 44 44 hn hc h31 (show f1 < 4294967296 by omega) (by decide) (by decide)) (cwV 2 hts gX11_addText_X11_sign rfl rfl rfl (by decide +kernel) ⟨Nat.le_of_ble_eq_true rfl, Nat.le_of_ble_eq_true rfl⟩) (okWV hK hP hD rfl (gM0 g (sA (sF (sF (sF σ 0 0) 4 a1) 5 f1) 4 t1) tl)) rfl rfl hl.1 rfl (lv_room (Nat.le_of_ble_eq_true rfl)) dX11_addText_68 ⟨Nat.le_of_ble_eq_true rfl, Nat.le_of_ble_eq_true rfl⟩) hD hS hAA (fun r_68 u H locs hw_ hP hD hS => ?_)
                obtain ⟨r0_68, at2_68, fl2_68⟩ := u
                obtain ⟨rfl, h_68⟩ := hw_
                have h_68 : (r0_68, at2_68, fl2_68) = sgn (σ.2.1 3) (σ.1 3) (a1) (f1) 44 44 := h_68
                have hP : va_P (g.1, g.2.1) vwCl (wM g (sF (sF (sA (sF (sF (sF σ 0 0) 4 a1) 5 f1) 4 t1) 4 at2_68) 5 fl2_68) ++ tl) H := hP
                have hD : va_D A (wM g (sF (sF (sA (sF (sF (sF σ 0 0) 4 a1) 5 f1) 4 t1) 4 at2_68) 5 fl2_68) ++ tl) := hD
                have hbb := sgn_b (by decide) h_68 (by omega) hn h31
                rw [hr3.1] at h_68
                have hrc := rd_c hn hr3.2.1 hr3.2.2.1 (by omega) h_68
                refine lv_istore_n (lv' := [(1, .int (nI r0_68)), (0, .ref (g.2.2.2 0))]) hx hb dX11_addText_71 rfl hl (by decide) rfl (fun ls hl => ?_)
                refine lv_aload_n hx hb dX11_addText_72 rfl (lv_at hl 1 rfl) ?_
                refine va_get (D := (g.1, g.2.1)) (ci := 13) (v := .int (nI fl2_68)) (C := RX11) (T := TX11) (N := 30) hx hb hts iX11 hown hK.1 hP 0 (gM0 g (sF (sF (sA (sF (sF (sF σ 0 0) 4 a1) 5 f1) 4 t1) 4 at2_68) 5 fl2_68) tl) rfl 9 (by decide) k39 (fun _ h9 => h9) rfl dX11_addText_73 ?_
                refine jn_zge hx hb (by omega) (tgt := 83) dX11_addText_76 (by decide) (fun c_76 => ?_) (fun c_76 => ?_)
                · have hr := hrc.resolve_right (fun z => by have := z.1; omega)
                  refine lv_goto (tgt := 45) hx hb dX11_addText_83 (by decide) ?_
                  exact ih45 at2_68 fl2_68 t1 (by first | exact h_80.1 | exact ⟨hbb.2.1, Or.inl ⟨hr.2, hr.1⟩⟩) (ms_d hf (by omega) (by omega) (by first | (rcases h_80.2 with z | z; { exact Or.inl z }; { exact Or.inr (by omega) }) | exact Or.inl hr.1)) _ _ hP hD hS _ (lv_sub hl [1] rfl)
                · have hr := hrc.resolve_left (fun z => by have := z.1; omega)
                  have hra := hr.2.2.1
                  refine lv_aload_n hx hb dX11_addText_79 rfl (lv_at hl 1 rfl) ?_
                  refine jn_callv (va_runV (As := []) (rest := []) ⟨hx, hb, hml, hown, hts⟩ (c_X11_readItem l g tl H.size (sF (sF (sA (sF (sF (sF σ 0 0) 4 a1) 5 f1) 4 t1) 4 at2_68) 5 fl2_68) hn hc hr.1 (by rw [hr.2.2.1]; exact hr.2.2.2.1) (by rw [hr.2.2.1]; exact hr.2.2.2.2) (by rw [hr.2.2.1]; exact txt_c hr3.2.2.2 hr.2.1)) (cwV 0 hts gX11_addText_X11_readItem rfl rfl rfl (by decide +kernel) ⟨Nat.le_of_ble_eq_true rfl, Nat.le_of_ble_eq_true rfl⟩) (okWV hK hP hD rfl (gM0 g (sF (sF (sA (sF (sF (sF σ 0 0) 4 a1) 5 f1) 4 t1) 4 at2_68) 5 fl2_68) tl)) rfl rfl hl.1 rfl (lv_room (Nat.le_of_ble_eq_true rfl)) dX11_addText_80 ⟨Nat.le_of_ble_eq_true rfl, Nat.le_of_ble_eq_true rfl⟩) hD hS hAA (fun u H locs hw_ hP hD hS => ?_)
                  obtain ⟨at2_80, fl2_80, f4_80⟩ := u
                  have h_80 := hw_
                  have h_80 : (TxL (σ.2.1 3) (σ.2.1 0) (σ.1 3) at2_80 fl2_80 f4_80) ∧ (fl2_80 < 2147483648 ∨ (at2_68) < at2_80) := h_80
                  have hP : va_P (g.1, g.2.1) vwCl (wM g (sA (sF (sF (sF (sF (sA (sF (sF (sF σ 0 0) 4 a1) 5 f1) 4 t1) 4 at2_68) 5 fl2_68) 4 at2_80) 5 fl2_80) 4 f4_80) ++ tl) H := hP
                  have hD : va_D A (wM g (sA (sF (sF (sF (sF (sA (sF (sF (sF σ 0 0) 4 a1) 5 f1) 4 t1) 4 at2_68) 5 fl2_68) 4 at2_80) 5 fl2_80) 4 f4_80) ++ tl) := hD
                  refine lv_goto (tgt := 45) hx hb dX11_addText_83 (by decide) ?_
                  exact ih45 at2_80 fl2_80 f4_80 (by first | exact h_80.1 | exact ⟨hbb.2.1, Or.inl ⟨hr.2, hr.1⟩⟩) (ms_d hf (by omega) (by omega) (by first | (rcases h_80.2 with z | z; { exact Or.inl z }; { exact Or.inr (by omega) }) | exact Or.inl hr.1)) _ _ hP hD hS _ (lv_sub hl [1] rfl)
        exact lp45 _ at2_42 fl2_42 f4_42 h_42.1 (Nat.lt_succ_self _) _ _ hP hD hS _ (lv_sub hl [0] rfl)
      · refine lv_aload_n hx hb dX11_addText_23 rfl (lv_at hl 0 rfl) ?_
        refine va_get (D := (g.1, g.2.1)) (ci := 13) (v := .ref (g.2.2.2 5)) (C := RX11) (T := TX11) (N := 30) hx hb hts iX11 hown hK.1 hP 0 (gM0 g (sA (sF (sF (sF σ 0 0) 4 0) 5 4294967295) 4 f) tl) rfl 10 (by decide) k42 (fun _ h9 => h9) rfl dX11_addText_24 ?_
        refine lv_iload_n hx hb dX11_addText_27 rfl (lv_at hl 1 rfl) ?_
        refine lv_aload_n hx hb dX11_addText_28 rfl (lv_at hl 0 rfl) ?_
        refine va_get (D := (g.1, g.2.1)) (ci := 13) (v := .ref (g.2.2.2 1)) (C := RX11) (T := TX11) (N := 30) hx hb hts iX11 hown hK.1 hP 0 (gM0 g (sA (sF (sF (sF σ 0 0) 4 0) 5 4294967295) 4 f) tl) rfl 1 (by decide) k13 (fun _ h9 => h9) rfl dX11_addText_29 ?_
        refine lv_iload_n hx hb dX11_addText_32 rfl (lv_at hl 1 rfl) ?_
        refine jn_iald (f := σ.2.1 0) hx hb hK.1 hP 1 0 (gM1 g (sA (sF (sF (sF σ 0 0) 4 0) 5 4294967295) 4 f) tl) rfl (by omega) (Nat.le_of_ble_eq_true rfl) dX11_addText_33 ?_
        refine jn_iast (f := f) hx hb hK.1 hP hD hS 5 0 (gM5 g (sA (sF (sF (sF σ 0 0) 4 0) 5 4294967295) 4 f) tl) rfl (by omega) (Nat.le_of_ble_eq_true rfl) (uM_A4 g (sA (sF (sF (sF σ 0 0) 4 0) 5 4294967295) 4 f) tl _) dX11_addText_34 (fun H locs hP hD hS => ?_)
        refine lv_iinc (v := nI (i + 1)) (lv' := [(1, .int (nI (i + 1))), (0, .ref (g.2.2.2 0))]) hx hb dX11_addText_35 hl (k := 1) rfl (jn_ii _ 1) (by decide) rfl (fun ls hl => ?_)
        refine lv_goto (tgt := 17) hx hb dX11_addText_38 (by decide) ?_
        exact ih17 (i + 1) (va_up f i ((σ.2.1 0) i)) (by omega) (fun k hk => by unfold va_up; split; { rename_i q; rw [q] }; { exact h2 k (by omega) }) (by omega) _ _ hP hD hS _ (lv_sub hl [1, 0] rfl)
  exact lp17 _ 0 (σ.2.1 4) (by decide) (fun k hk => absurd hk (by omega)) (Nat.lt_succ_self _) _ _ hP hD hS _ (lv_sub hl [1, 0] rfl)
