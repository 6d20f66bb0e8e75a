abbrev r_c_X11_reaches : Room := { frames := 3, cells := 0, slots := 0, locals := 70 }
set_option maxHeartbeats 4000000 in
set_option maxRecDepth 100000 in
theorem c_X11_reaches (l : Launch) (g : GC) (tl : va_W) (sz : Nat) (σ : SS) (a b c2 : Nat) (hT : OkT (σ.2.1 0)) (hF : ((σ.2.1 0) 15) < 32) (ha : a < 4294967296) (hb2 : b < 4294967296) (hc : c2 < 4294967296) : Met l yX11_reaches wsX11_reaches r_c_X11_reaches (va_Pc [.ref (g.2.2.2 0), .int (nI a), .int (nI b), .int (nI c2)] (PW g (wM g σ ++ tl) sz)) (va_Qi (fun (r : Int32) (z : Nat × Nat × (Nat → Nat)) => match z with | (r0, th, f7) => (r = nI (r0)) ∧ ((¬ (a < 10 ∧ b < 10 ∧ c2 < 10) ∧ th = 1) ∨ ((a < 10 ∧ b < 10 ∧ c2 < 10) ∧ th = 0 ∧ r0 = if rch (σ.2.1 0) a b c2 &&& ((σ.2.1 0) 15) ≠ 0 then 1 else 0))) (fun (z : Nat × Nat × (Nat → Nat)) t => BW g (va_A (wM g σ ++ tl) sz) ((fun z : Nat × Nat × (Nat → Nat) => match z with | (r0, th, f7) => wM g (sA (sF σ 0 th) 7 f7) ++ tl) z) t) (va_A (wM g σ ++ tl) sz)) 0 0 (va_A (wM g σ ++ tl) sz) := by
  refine jn_sz (wf := fun z : Nat × Nat × (Nat → Nat) => match z with | (r0, th, f7) => wM g (sA (sF σ 0 th) 7 f7) ++ tl) (cc := cX11_reaches) (maxL := 4) (own := RX11) (by decide) rfl rfl (Nat.le_of_ble_eq_true rfl) ?_
  intro p e s m below meth c Q A hx hb hml hown hts hK hP hD hS hAA hq ls hl
  obtain ⟨H, eH⟩ : ∃ z, z = s.heap := ⟨_, rfl⟩
  obtain ⟨locs, el⟩ : ∃ z : List Loc, z = [] := ⟨_, rfl⟩
  rw [← eH] at hP
  have hS : va_S A s.heap H locs := by rw [eH, el]; exact hS
  have goal0 : W p l e r_c_X11_reaches s m ([.ref (g.2.2.2 0), .int (nI a), .int (nI b), .int (nI c2)] : List Value).toArray below meth c H locs 0 0 Q (F0 m 0 ls []) → W p l e r_c_X11_reaches s m ([.ref (g.2.2.2 0), .int (nI a), .int (nI b), .int (nI c2)] : List Value).toArray below meth c s.heap [] 0 0 Q (F0 m 0 ls []) := fun h => by rw [eH, el] at h; exact h
  refine goal0 ?_
  have hl : lv_has ls 4 [(0, .ref (g.2.2.2 0)), (1, .int (nI a)), (2, .int (nI b)), (3, .int (nI c2))] := hl
  have iX11 : ∀ w ∈ wsX110, w ∈ wsX11_reaches := by decide +kernel
  have k1 := hts (.fieldLink RX11 1 "JumpingAutomataModel" "thrown" "I") (by decide +kernel)
  refine lv_aload_n hx hb dX11_reaches_0 rfl (lv_at hl 0 rfl) ?_
  refine lv_iconst (v := nI 0) hx hb dX11_reaches_1 (by decide) ?_
  refine jn_put (D := (g.1, g.2.1)) (ci := 13) (v := .int (nI 0)) (ty := .int) (C := RX11) (T := TX11) (N := 30) hx hb hts iX11 tyX11 tyX11_ok nmX11 hown hK.1 hP hD hS 0 (gM0 g σ tl) rfl 0 (by decide) k1 (fun _ h9 => h9) rfl (by decide +kernel) rfl rfl (Nat.le_of_ble_eq_true rfl) (uM_F0 g σ tl 0) dX11_reaches_2 (fun H locs hP hD hS => ?_)
  refine lv_iload_n hx hb dX11_reaches_5 rfl (lv_at hl 1 rfl) ?_
  refine lv_iconst (v := nI 0) hx hb dX11_reaches_6 (by decide) ?_
  refine lv_bipush (v := nI 9) hx hb dX11_reaches_7 (by decide) ?_
  refine vp_callSi (va_Run.run (va_runS (As := [.int (nI a), .int (nI 0), .int (nI 9)]) (rest := []) ⟨hx, hb, hml, hown, hts⟩ (c_X11_in l a 0 9 (by omega) (by decide) (by decide)) (va_cwS 3 hts gX11_reaches_X11_in rfl rfl rfl (by decide +kernel) ⟨Nat.le_of_ble_eq_true rfl, Nat.le_of_ble_eq_true rfl⟩) okTS rfl rfl hl.1 rfl (lv_room (Nat.le_of_ble_eq_true rfl)) dX11_reaches_9 ⟨Nat.le_of_ble_eq_true rfl, Nat.le_of_ble_eq_true rfl⟩)) (fun r_9 h_9 => ?_)
  subst h_9
  refine jn_beq hx hb (tgt := 35) dX11_reaches_12 (by decide) (fun c_12 => ?_) (fun c_12 => ?_)
  · refine lv_aload_n hx hb dX11_reaches_35 rfl (lv_at hl 0 rfl) ?_
    refine lv_iconst (v := nI 1) hx hb dX11_reaches_36 (by decide) ?_
    refine jn_calli (va_runV (As := [.int (nI 1)]) (rest := []) ⟨hx, hb, hml, hown, hts⟩ (c_X11_fails l g tl H.size (sF σ 0 0) 1) (cwV 1 hts gX11_reaches_X11_fails rfl rfl rfl (by decide +kernel) ⟨Nat.le_of_ble_eq_true rfl, Nat.le_of_ble_eq_true rfl⟩) (okWV hK hP hD rfl (gM0 g (sF σ 0 0) tl)) rfl rfl hl.1 rfl (lv_room (Nat.le_of_ble_eq_true rfl)) dX11_reaches_37 ⟨Nat.le_of_ble_eq_true rfl, Nat.le_of_ble_eq_true rfl⟩) hD hS hAA (fun r_37 u H locs hw_ hP hD hS => ?_)
    obtain rfl := hw_
    have hP : va_P (g.1, g.2.1) vwCl (wM g (sF (sF σ 0 0) 0 1) ++ tl) H := hP
    have hD : va_D A (wM g (sF (sF σ 0 0) 0 1) ++ tl) := hD
    refine jn_zle hx hb (by decide) (tgt := 47) dX11_reaches_40 (by decide) (fun c_40 => ?_) (fun c_40 => absurd c_40 (by omega))
    refine lv_iconst (v := nI 0) hx hb dX11_reaches_47 (by decide) ?_
    exact hq _ _ _ _ ((nI 0)) (0, 1, (σ.2.1 7)) dX11_reaches_48 jn_n0 ⟨rfl, (Or.inl ⟨by omega, rfl⟩)⟩ hP hD hS
  · refine lv_iload_n hx hb dX11_reaches_15 rfl (lv_at hl 2 rfl) ?_
    refine lv_iconst (v := nI 0) hx hb dX11_reaches_16 (by decide) ?_
    refine lv_bipush (v := nI 9) hx hb dX11_reaches_17 (by decide) ?_
    refine vp_callSi (va_Run.run (va_runS (As := [.int (nI b), .int (nI 0), .int (nI 9)]) (rest := []) ⟨hx, hb, hml, hown, hts⟩ (c_X11_in l b 0 9 (by omega) (by decide) (by decide)) (va_cwS 3 hts gX11_reaches_X11_in rfl rfl rfl (by decide +kernel) ⟨Nat.le_of_ble_eq_true rfl, Nat.le_of_ble_eq_true rfl⟩) okTS rfl rfl hl.1 rfl (lv_room (Nat.le_of_ble_eq_true rfl)) dX11_reaches_19 ⟨Nat.le_of_ble_eq_true rfl, Nat.le_of_ble_eq_true rfl⟩)) (fun r_19 h_19 => ?_)
    subst h_19
    refine jn_beq hx hb (tgt := 35) dX11_reaches_22 (by decide) (fun c_22 => ?_) (fun c_22 => ?_)
    · refine lv_aload_n hx hb dX11_reaches_35 rfl (lv_at hl 0 rfl) ?_
      refine lv_iconst (v := nI 1) hx hb dX11_reaches_36 (by decide) ?_
      refine jn_calli (va_runV (As := [.int (nI 1)]) (rest := []) ⟨hx, hb, hml, hown, hts⟩ (c_X11_fails l g tl H.size (sF σ 0 0) 1) (cwV 1 hts gX11_reaches_X11_fails rfl rfl rfl (by decide +kernel) ⟨Nat.le_of_ble_eq_true rfl, Nat.le_of_ble_eq_true rfl⟩) (okWV hK hP hD rfl (gM0 g (sF σ 0 0) tl)) rfl rfl hl.1 rfl (lv_room (Nat.le_of_ble_eq_true rfl)) dX11_reaches_37 ⟨Nat.le_of_ble_eq_true rfl, Nat.le_of_ble_eq_true rfl⟩) hD hS hAA (fun r_37 u H locs hw_ hP hD hS => ?_)
      obtain rfl := hw_
      have hP : va_P (g.1, g.2.1) vwCl (wM g (sF (sF σ 0 0) 0 1) ++ tl) H := hP
      have hD : va_D A (wM g (sF (sF σ 0 0) 0 1) ++ tl) := hD
      refine jn_zle hx hb (by decide) (tgt := 47) dX11_reaches_40 (by decide) (fun c_40 => ?_) (fun c_40 => absurd c_40 (by omega))
      refine lv_iconst (v := nI 0) hx hb dX11_reaches_47 (by decide) ?_
      exact hq _ _ _ _ ((nI 0)) (0, 1, (σ.2.1 7)) dX11_reaches_48 jn_n0 ⟨rfl, (Or.inl ⟨by omega, rfl⟩)⟩ hP hD hS
    · refine lv_iload_n hx hb dX11_reaches_25 rfl (lv_at hl 3 rfl) ?_
      refine lv_iconst (v := nI 0) hx hb dX11_reaches_26 (by decide) ?_
      refine lv_bipush (v := nI 9) hx hb dX11_reaches_27 (by decide) ?_
      refine vp_callSi (va_Run.run (va_runS (As := [.int (nI c2), .int (nI 0), .int (nI 9)]) (rest := []) ⟨hx, hb, hml, hown, hts⟩ (c_X11_in l c2 0 9 (by omega) (by decide) (by decide)) (va_cwS 3 hts gX11_reaches_X11_in rfl rfl rfl (by decide +kernel) ⟨Nat.le_of_ble_eq_true rfl, Nat.le_of_ble_eq_true rfl⟩) okTS rfl rfl hl.1 rfl (lv_room (Nat.le_of_ble_eq_true rfl)) dX11_reaches_29 ⟨Nat.le_of_ble_eq_true rfl, Nat.le_of_ble_eq_true rfl⟩)) (fun r_29 h_29 => ?_)
      subst h_29
      refine jn_bne hx hb (tgt := 49) dX11_reaches_32 (by decide) (fun c_32 => ?_) (fun c_32 => ?_)
      · refine lv_aload_n hx hb dX11_reaches_49 rfl (lv_at hl 0 rfl) ?_
        refine jn_callv (va_runV (As := []) (rest := []) ⟨hx, hb, hml, hown, hts⟩ (c_X11_layReached l g tl H.size (sF σ 0 0) hT) (cwV 0 hts gX11_reaches_X11_layReached rfl rfl rfl (by decide +kernel) ⟨Nat.le_of_ble_eq_true rfl, Nat.le_of_ble_eq_true rfl⟩) (okWV hK hP hD rfl (gM0 g (sF σ 0 0) tl)) rfl rfl hl.1 rfl (lv_room (Nat.le_of_ble_eq_true rfl)) dX11_reaches_50 ⟨Nat.le_of_ble_eq_true rfl, Nat.le_of_ble_eq_true rfl⟩) hD hS hAA (fun u H locs hw_ hP hD hS => ?_)
        obtain ⟨f_50, rfl⟩ : ∃ z, z = u := ⟨_, rfl⟩
        have h_50 := hw_
        have h_50 : ∀ a b c, a < 10 → b < 10 → c < 10 → f_50 (100 * a + 10 * b + c) = rch (σ.2.1 0) a b c := h_50
        have hP : va_P (g.1, g.2.1) vwCl (wM g (sA (sF σ 0 0) 7 f_50) ++ tl) H := hP
        have hD : va_D A (wM g (sA (sF σ 0 0) 7 f_50) ++ tl) := hD
        refine lv_aload_n hx hb dX11_reaches_53 rfl (lv_at hl 0 rfl) ?_
        refine lv_iload_n hx hb dX11_reaches_54 rfl (lv_at hl 1 rfl) ?_
        refine lv_iload_n hx hb dX11_reaches_55 rfl (lv_at hl 2 rfl) ?_
        refine lv_iload_n hx hb dX11_reaches_56 rfl (lv_at hl 3 rfl) ?_
        refine vp_callSi (va_Run.run (va_runV (As := [.int (nI a), .int (nI b), .int (nI c2)]) (rest := []) ⟨hx, hb, hml, hown, hts⟩ (c_X11_isReached l g tl (sA (sF σ 0 0) 7 f_50) a b c2 hF (by omega) (by omega) (by omega)) (cwV 3 hts gX11_reaches_X11_isReached rfl rfl rfl (by decide +kernel) ⟨Nat.le_of_ble_eq_true rfl, Nat.le_of_ble_eq_true rfl⟩) (okPV hK hP rfl (gM0 g (sA (sF σ 0 0) 7 f_50) tl)) rfl rfl hl.1 rfl (lv_room (Nat.le_of_ble_eq_true rfl)) dX11_reaches_57 ⟨Nat.le_of_ble_eq_true rfl, Nat.le_of_ble_eq_true rfl⟩)) (fun r_57 h_57 => ?_)
        have h_57 : r_57 = (nI (if (f_50) (100 * a + 10 * b + c2) &&& ((σ.2.1 0) 15) ≠ 0 then 1 else 0)) := h_57
        subst h_57
        exact hq _ _ _ _ ((nI (if (f_50) (100 * a + 10 * b + c2) &&& ((σ.2.1 0) 15) ≠ 0 then 1 else 0))) (_, 0, f_50) dX11_reaches_60 (jn_nb _) ⟨rfl, (Or.inr ⟨by omega, rfl, by rw [h_50 _ _ _ (by omega) (by omega) (by omega)]⟩)⟩ hP hD hS
      · refine lv_aload_n hx hb dX11_reaches_35 rfl (lv_at hl 0 rfl) ?_
        refine lv_iconst (v := nI 1) hx hb dX11_reaches_36 (by decide) ?_
        refine jn_calli (va_runV (As := [.int (nI 1)]) (rest := []) ⟨hx, hb, hml, hown, hts⟩ (c_X11_fails l g tl H.size (sF σ 0 0) 1) (cwV 1 hts gX11_reaches_X11_fails rfl rfl rfl (by decide +kernel) ⟨Nat.le_of_ble_eq_true rfl, Nat.le_of_ble_eq_true rfl⟩) (okWV hK hP hD rfl (gM0 g (sF σ 0 0) tl)) rfl rfl hl.1 rfl (lv_room (Nat.le_of_ble_eq_true rfl)) dX11_reaches_37 ⟨Nat.le_of_ble_eq_true rfl, Nat.le_of_ble_eq_true rfl⟩) hD hS hAA (fun r_37 u H locs hw_ hP hD hS => ?_)
        obtain rfl := hw_
        have hP : va_P (g.1, g.2.1) vwCl (wM g (sF (sF σ 0 0) 0 1) ++ tl) H := hP
        have hD : va_D A (wM g (sF (sF σ 0 0) 0 1) ++ tl) := hD
        refine jn_zle hx hb (by decide) (tgt := 47) dX11_reaches_40 (by decide) (fun c_40 => ?_) (fun c_40 => absurd c_40 (by omega))
        refine lv_iconst (v := nI 0) hx hb dX11_reaches_47 (by decide) ?_
        exact hq _ _ _ _ ((nI 0)) (0, 1, (σ.2.1 7)) dX11_reaches_48 jn_n0 ⟨rfl, (Or.inl ⟨by omega, rfl⟩)⟩ hP hD hS

abbrev r_c_X11_isMinimal : Room := { frames := 2, cells := 0, slots := 0, locals := 45 }
set_option maxHeartbeats 4000000 in
set_option maxRecDepth 100000 in
theorem c_X11_isMinimal (l : Launch) (g : GC) (tl : va_W) (σ : SS) (a b c2 : Nat) (hF : ((σ.2.1 0) 15) < 32) (hB : ∀ a b c, a < 10 → b < 10 → c < 10 → (σ.2.1 7) (100 * a + 10 * b + c) = rch (σ.2.1 0) a b c) (ha : a < 10) (hb2 : b < 10) (hc : c2 < 10) : Met l yX11_isMinimal wsX11_isMinimal r_c_X11_isMinimal (va_Pc [.ref (g.2.2.2 0), .int (nI a), .int (nI b), .int (nI c2)] (PP g (wM g σ ++ tl))) (vp_Si (fun r => r = nI (if cB (mnR (σ.2.1 0) ((σ.2.1 0) 15) a b c2) = true then 1 else 0))) 0 0 (fun _ => False) := by
  refine jn_pz (cc := cX11_isMinimal) (maxL := 7) (own := RX11) (by decide) rfl rfl (Nat.le_of_ble_eq_true rfl) ?_
  intro p e s m below meth c Q hx hb hml hown hts ⟨hP, hK⟩ hq ls hl
  have hl : lv_has ls 7 [(0, .ref (g.2.2.2 0)), (1, .int (nI a)), (2, .int (nI b)), (3, .int (nI c2))] := hl
  refine lv_aload_n hx hb dX11_isMinimal_0 rfl (lv_at hl 0 rfl) ?_
  refine lv_iload_n hx hb dX11_isMinimal_1 rfl (lv_at hl 1 rfl) ?_
  refine lv_iload_n hx hb dX11_isMinimal_2 rfl (lv_at hl 2 rfl) ?_
  refine lv_iload_n hx hb dX11_isMinimal_3 rfl (lv_at hl 3 rfl) ?_
  refine vp_callSi (va_Run.run (va_runV (As := [.int (nI a), .int (nI b), .int (nI c2)]) (rest := []) ⟨hx, hb, hml, hown, hts⟩ (c_X11_isReached l g tl σ a b c2 hF ha hb2 hc) (cwV 3 hts gX11_isMinimal_X11_isReached rfl rfl rfl (by decide +kernel) ⟨Nat.le_of_ble_eq_true rfl, Nat.le_of_ble_eq_true rfl⟩) (okPV hK hP rfl (gM0 g σ tl)) rfl rfl hl.1 rfl (lv_room (Nat.le_of_ble_eq_true rfl)) dX11_isMinimal_4 ⟨Nat.le_of_ble_eq_true rfl, Nat.le_of_ble_eq_true rfl⟩)) (fun r_4 h_4 => ?_)
  subst h_4
  refine jn_bne hx hb (tgt := 12) dX11_isMinimal_7 (by decide) (fun c_7 => ?_) (fun c_7 => ?_)
  · refine lv_iconst (v := nI 0) hx hb dX11_isMinimal_12 (by decide) ?_
    refine lv_istore (lv' := [(4, .int (nI 0)), (0, .ref (g.2.2.2 0)), (1, .int (nI a)), (2, .int (nI b)), (3, .int (nI c2))]) hx hb dX11_isMinimal_13 hl (by decide) rfl (fun ls hl => ?_)
    have lp15 : ∀ (fu : Nat), ∀ (x0 : Nat), (x0 ≤ a + 1) → (nLs (σ.2.1 0) ((σ.2.1 0) 15) a b c2 x0 0 0) → a + 1 - x0 < fu → ∀ ls : Array Slot, lv_has ls 7 [(0, .ref (g.2.2.2 0)), (1, .int (nI a)), (2, .int (nI b)), (3, .int (nI c2)), (4, .int (nI x0))] → W p l e r_c_X11_isMinimal s m ([.ref (g.2.2.2 0), .int (nI a), .int (nI b), .int (nI c2)] : List Value).toArray below meth c s.heap [] 0 0 Q (F0 m 15 ls []) := by
      intro fu
      induction fu with
      | zero => intro x0 h1 h2 hf; exact absurd hf (Nat.not_lt_zero _)
      | succ fu ih15 =>
        intro x0 h1 h2 hf ls hl
        refine lv_iload hx hb dX11_isMinimal_15 (lv_at hl 4 rfl) ?_
        refine lv_iload_n hx hb dX11_isMinimal_17 rfl (lv_at hl 1 rfl) ?_
        refine jn_cgt hx hb (by omega) (by omega) (tgt := 88) dX11_isMinimal_18 (by decide) (fun c_18 => ?_) (fun c_18 => ?_)
        · refine lv_iconst (v := nI 1) hx hb dX11_isMinimal_88 (by decide) ?_
          exact hq _ _ ((nI 1)) dX11_isMinimal_89 jn_n1 (n_if1 (cB_iff.mpr ⟨by rw [← hB a b c2 (by omega) (by omega) (by omega)]; exact c_7, nl_end h2 (by omega)⟩))
        · refine lv_iconst (v := nI 0) hx hb dX11_isMinimal_21 (by decide) ?_
          refine lv_istore (lv' := [(5, .int (nI 0)), (0, .ref (g.2.2.2 0)), (1, .int (nI a)), (2, .int (nI b)), (3, .int (nI c2)), (4, .int (nI x0))]) hx hb dX11_isMinimal_22 hl (by decide) rfl (fun ls hl => ?_)
          have lp24 : ∀ (fu : Nat), ∀ (y0 : Nat), (y0 ≤ b + 1) → (nLs (σ.2.1 0) ((σ.2.1 0) 15) a b c2 x0 y0 0) → b + 1 - y0 < fu → ∀ ls : Array Slot, lv_has ls 7 [(0, .ref (g.2.2.2 0)), (1, .int (nI a)), (2, .int (nI b)), (3, .int (nI c2)), (4, .int (nI x0)), (5, .int (nI y0))] → W p l e r_c_X11_isMinimal s m ([.ref (g.2.2.2 0), .int (nI a), .int (nI b), .int (nI c2)] : List Value).toArray below meth c s.heap [] 0 0 Q (F0 m 24 ls []) := by
            intro fu
            induction fu with
            | zero => intro y0 h3 h4 hf; exact absurd hf (Nat.not_lt_zero _)
            | succ fu ih24 =>
              intro y0 h3 h4 hf ls hl
              refine lv_iload hx hb dX11_isMinimal_24 (lv_at hl 5 rfl) ?_
              refine lv_iload_n hx hb dX11_isMinimal_26 rfl (lv_at hl 2 rfl) ?_
              refine jn_cgt hx hb (by omega) (by omega) (tgt := 82) dX11_isMinimal_27 (by decide) (fun c_27 => ?_) (fun c_27 => ?_)
              · refine lv_iinc (v := nI (x0 + 1)) (lv' := [(4, .int (nI (x0 + 1))), (0, .ref (g.2.2.2 0)), (1, .int (nI a)), (2, .int (nI b)), (3, .int (nI c2)), (5, .int (nI y0))]) hx hb dX11_isMinimal_82 hl (k := 4) rfl (jn_ii _ 1) (by decide) rfl (fun ls hl => ?_)
                refine lv_goto (tgt := 15) hx hb dX11_isMinimal_85 (by decide) ?_
                exact ih15 (x0 + 1) (by omega) (nl_x h4 (by omega)) (by omega) _ (lv_sub hl [1, 2, 3, 4, 0] rfl)
              · refine lv_iconst (v := nI 0) hx hb dX11_isMinimal_30 (by decide) ?_
                refine lv_istore (lv' := [(6, .int (nI 0)), (0, .ref (g.2.2.2 0)), (1, .int (nI a)), (2, .int (nI b)), (3, .int (nI c2)), (4, .int (nI x0)), (5, .int (nI y0))]) hx hb dX11_isMinimal_31 hl (by decide) rfl (fun ls hl => ?_)
                have lp33 : ∀ (fu : Nat), ∀ (z0 : Nat), (z0 ≤ c2 + 1) → (nLs (σ.2.1 0) ((σ.2.1 0) 15) a b c2 x0 y0 z0) → c2 + 1 - z0 < fu → ∀ ls : Array Slot, lv_has ls 7 [(0, .ref (g.2.2.2 0)), (1, .int (nI a)), (2, .int (nI b)), (3, .int (nI c2)), (4, .int (nI x0)), (5, .int (nI y0)), (6, .int (nI z0))] → W p l e r_c_X11_isMinimal s m ([.ref (g.2.2.2 0), .int (nI a), .int (nI b), .int (nI c2)] : List Value).toArray below meth c s.heap [] 0 0 Q (F0 m 33 ls []) := by
                  intro fu
                  induction fu with
                  | zero => intro z0 h5 h6 hf; exact absurd hf (Nat.not_lt_zero _)
                  | succ fu ih33 =>
                    intro z0 h5 h6 hf ls hl
                    refine lv_iload hx hb dX11_isMinimal_33 (lv_at hl 6 rfl) ?_
                    refine lv_iload_n hx hb dX11_isMinimal_35 rfl (lv_at hl 3 rfl) ?_
                    refine jn_cgt hx hb (by omega) (by omega) (tgt := 76) dX11_isMinimal_36 (by decide) (fun c_36 => ?_) (fun c_36 => ?_)
                    · refine lv_iinc (v := nI (y0 + 1)) (lv' := [(5, .int (nI (y0 + 1))), (0, .ref (g.2.2.2 0)), (1, .int (nI a)), (2, .int (nI b)), (3, .int (nI c2)), (4, .int (nI x0)), (6, .int (nI z0))]) hx hb dX11_isMinimal_76 hl (k := 5) rfl (jn_ii _ 1) (by decide) rfl (fun ls hl => ?_)
                      refine lv_goto (tgt := 24) hx hb dX11_isMinimal_79 (by decide) ?_
                      exact ih24 (y0 + 1) (by omega) (nl_y h6 (by omega)) (by omega) _ (lv_sub hl [1, 2, 3, 4, 5, 0] rfl)
                    · refine lv_iload hx hb dX11_isMinimal_39 (lv_at hl 4 rfl) ?_
                      refine lv_iload hx hb dX11_isMinimal_41 (lv_at hl 5 rfl) ?_
                      refine jn_iadd hx hb dX11_isMinimal_43 ?_
                      refine lv_iload hx hb dX11_isMinimal_44 (lv_at hl 6 rfl) ?_
                      refine jn_iadd hx hb dX11_isMinimal_46 ?_
                      refine lv_iload_n hx hb dX11_isMinimal_47 rfl (lv_at hl 1 rfl) ?_
                      refine lv_iload_n hx hb dX11_isMinimal_48 rfl (lv_at hl 2 rfl) ?_
                      refine jn_iadd hx hb dX11_isMinimal_49 ?_
                      refine lv_iload_n hx hb dX11_isMinimal_50 rfl (lv_at hl 3 rfl) ?_
                      refine jn_iadd hx hb dX11_isMinimal_51 ?_
                      refine jn_cge hx hb (by omega) (by omega) (tgt := 70) dX11_isMinimal_52 (by decide) (fun c_52 => ?_) (fun c_52 => ?_)
                      · refine lv_iinc (v := nI (z0 + 1)) (lv' := [(6, .int (nI (z0 + 1))), (0, .ref (g.2.2.2 0)), (1, .int (nI a)), (2, .int (nI b)), (3, .int (nI c2)), (4, .int (nI x0)), (5, .int (nI y0))]) hx hb dX11_isMinimal_70 hl (k := 6) rfl (jn_ii _ 1) (by decide) rfl (fun ls hl => ?_)
                        refine lv_goto (tgt := 33) hx hb dX11_isMinimal_73 (by decide) ?_
                        exact ih33 (z0 + 1) (by omega) (nl_z h6 (fun q => by first | exact absurd q (by omega) | (rw [← hB x0 y0 z0 (by omega) (by omega) (by omega)]; exact c_65))) (by omega) _ (lv_sub hl [1, 2, 3, 4, 5, 6, 0] rfl)
                      · refine lv_aload_n hx hb dX11_isMinimal_55 rfl (lv_at hl 0 rfl) ?_
                        refine lv_iload hx hb dX11_isMinimal_56 (lv_at hl 4 rfl) ?_
                        refine lv_iload hx hb dX11_isMinimal_58 (lv_at hl 5 rfl) ?_
                        refine lv_iload hx hb dX11_isMinimal_60 (lv_at hl 6 rfl) ?_
                        refine vp_callSi (va_Run.run (va_runV (As := [.int (nI x0), .int (nI y0), .int (nI z0)]) (rest := []) ⟨hx, hb, hml, hown, hts⟩ (c_X11_isReached l g tl σ x0 y0 z0 hF (by omega) (by omega) (by omega)) (cwV 3 hts gX11_isMinimal_X11_isReached rfl rfl rfl (by decide +kernel) ⟨Nat.le_of_ble_eq_true rfl, Nat.le_of_ble_eq_true rfl⟩) (okPV hK hP rfl (gM0 g σ tl)) rfl rfl hl.1 rfl (lv_room (Nat.le_of_ble_eq_true rfl)) dX11_isMinimal_62 ⟨Nat.le_of_ble_eq_true rfl, Nat.le_of_ble_eq_true rfl⟩)) (fun r_62 h_62 => ?_)
                        subst h_62
                        refine jn_beq hx hb (tgt := 70) dX11_isMinimal_65 (by decide) (fun c_65 => ?_) (fun c_65 => ?_)
                        · refine lv_iinc (v := nI (z0 + 1)) (lv' := [(6, .int (nI (z0 + 1))), (0, .ref (g.2.2.2 0)), (1, .int (nI a)), (2, .int (nI b)), (3, .int (nI c2)), (4, .int (nI x0)), (5, .int (nI y0))]) hx hb dX11_isMinimal_70 hl (k := 6) rfl (jn_ii _ 1) (by decide) rfl (fun ls hl => ?_)
                          refine lv_goto (tgt := 33) hx hb dX11_isMinimal_73 (by decide) ?_
                          exact ih33 (z0 + 1) (by omega) (nl_z h6 (fun q => by first | exact absurd q (by omega) | (rw [← hB x0 y0 z0 (by omega) (by omega) (by omega)]; exact c_65))) (by omega) _ (lv_sub hl [1, 2, 3, 4, 5, 6, 0] rfl)
                        · refine lv_iconst (v := nI 0) hx hb dX11_isMinimal_68 (by decide) ?_
                          exact hq _ _ ((nI 0)) dX11_isMinimal_69 jn_n0 (n_if0 (fun q => (cB_iff.mp q).2 x0 y0 z0 (by omega) (by omega) (by omega) (by omega) (by rw [← hB x0 y0 z0 (by omega) (by omega) (by omega)]; exact c_65)))
                exact lp33 _ 0 (by omega) h4 (Nat.lt_succ_self _) _ (lv_sub hl [1, 2, 3, 4, 5, 6, 0] rfl)
          exact lp24 _ 0 (by omega) h2 (Nat.lt_succ_self _) _ (lv_sub hl [1, 2, 3, 4, 5, 0] rfl)
    exact lp15 _ 0 (by omega) nl_0 (Nat.lt_succ_self _) _ (lv_sub hl [1, 2, 3, 4, 0] rfl)
  · refine lv_iconst (v := nI 0) hx hb dX11_isMinimal_10 (by decide) ?_
    exact hq _ _ ((nI 0)) dX11_isMinimal_11 jn_n0 (n_if0 (fun q => c_7 (by rw [hB a b c2 (by omega) (by omega) (by omega)]; exact (cB_iff.mp q).1)))

abbrev r_c_X11_layMinimal : Room := { frames := 3, cells := 0, slots := 0, locals := 71 }
set_option maxHeartbeats 4000000 in
set_option maxRecDepth 100000 in
theorem c_X11_layMinimal (l : Launch) (g : GC) (tl : va_W) (sz : Nat) (σ : SS) (hT : OkT (σ.2.1 0)) (hF : ((σ.2.1 0) 15) < 32) : Met l yX11_layMinimal wsX11_layMinimal r_c_X11_layMinimal (va_Pc [.ref (g.2.2.2 0)] (PW g (wM g σ ++ tl) sz)) (va_Qv (fun (z : (Nat → Nat) × (Nat → Nat)) => match z with | (f7, f13) => FdO f13 (mnK (σ.2.1 0) ((σ.2.1 0) 15)) 1000) (fun (z : (Nat → Nat) × (Nat → Nat)) t => BW g (va_A (wM g σ ++ tl) sz) ((fun z : (Nat → Nat) × (Nat → Nat) => match z with | (f7, f13) => wM g (sA (sA σ 7 f7) 13 f13) ++ tl) z) t) (va_A (wM g σ ++ tl) sz)) 0 0 (va_A (wM g σ ++ tl) sz) := by
  refine jn_sv (wf := fun z : (Nat → Nat) × (Nat → Nat) => match z with | (f7, f13) => wM g (sA (sA σ 7 f7) 13 f13) ++ tl) (cc := cX11_layMinimal) (maxL := 2) (own := RX11) (by decide) rfl rfl (Nat.le_of_ble_eq_true rfl) ?_
  intro p e s m below meth c Q A hx hb hml hown hts hK hP hD hS hAA hq ls hl
  obtain ⟨H, eH⟩ : ∃ z, z = s.heap := ⟨_, rfl⟩
  obtain ⟨locs, el⟩ : ∃ z : List Loc, z = [] := ⟨_, rfl⟩
  rw [← eH] at hP
  have hS : va_S A s.heap H locs := by rw [eH, el]; exact hS
  have goal0 : W p l e r_c_X11_layMinimal s m ([.ref (g.2.2.2 0)] : List Value).toArray below meth c H locs 0 0 Q (F0 m 0 ls []) → W p l e r_c_X11_layMinimal s m ([.ref (g.2.2.2 0)] : List Value).toArray below meth c s.heap [] 0 0 Q (F0 m 0 ls []) := fun h => by rw [eH, el] at h; exact h
  refine goal0 ?_
  have hl : lv_has ls 2 [(0, .ref (g.2.2.2 0))] := hl
  have iX11 : ∀ w ∈ wsX110, w ∈ wsX11_layMinimal := by decide +kernel
  have k95 := hts (.fieldLink RX11 95 "JumpingAutomataModel" "found" "[Z") (by decide +kernel)
  refine lv_aload_n hx hb dX11_layMinimal_0 rfl (lv_at hl 0 rfl) ?_
  refine jn_callv (va_runV (As := []) (rest := []) ⟨hx, hb, hml, hown, hts⟩ (c_X11_layReached l g tl H.size σ hT) (cwV 0 hts gX11_layMinimal_X11_layReached rfl rfl rfl (by decide +kernel) ⟨Nat.le_of_ble_eq_true rfl, Nat.le_of_ble_eq_true rfl⟩) (okWV hK hP hD rfl (gM0 g σ tl)) rfl rfl hl.1 rfl (lv_room (Nat.le_of_ble_eq_true rfl)) dX11_layMinimal_1 ⟨Nat.le_of_ble_eq_true rfl, Nat.le_of_ble_eq_true rfl⟩) hD hS hAA (fun u H locs hw_ hP hD hS => ?_)
  obtain ⟨f_1, rfl⟩ : ∃ z, z = u := ⟨_, rfl⟩
  have h_1 := hw_
  have h_1 : ∀ a b c, a < 10 → b < 10 → c < 10 → f_1 (100 * a + 10 * b + c) = rch (σ.2.1 0) a b c := h_1
  have hP : va_P (g.1, g.2.1) vwCl (wM g (sA σ 7 f_1) ++ tl) H := hP
  have hD : va_D A (wM g (sA σ 7 f_1) ++ tl) := hD
  refine lv_iconst (v := nI 0) hx hb dX11_layMinimal_4 (by decide) ?_
  refine lv_istore_n (lv' := [(1, .int (nI 0)), (0, .ref (g.2.2.2 0))]) hx hb dX11_layMinimal_5 rfl hl (by decide) rfl (fun ls hl => ?_)
  have lp6 : ∀ (fu : Nat), ∀ (k : Nat) (f : Nat → Nat), (k ≤ 1000) → (FdO f (mnK (σ.2.1 0) ((σ.2.1 0) 15)) k) → 1000 - k < fu → ∀ (H : Heap) (locs : List Loc), va_P (g.1, g.2.1) vwCl (wM g (sA (sA σ 7 f_1) 13 f) ++ tl) H → va_D A (wM g (sA (sA σ 7 f_1) 13 f) ++ tl) → va_S A s.heap H locs → ∀ ls : Array Slot, lv_has ls 2 [(0, .ref (g.2.2.2 0)), (1, .int (nI k))] → W p l e r_c_X11_layMinimal s m ([.ref (g.2.2.2 0)] : List Value).toArray below meth c H locs 0 0 Q (F0 m 6 ls []) := by
    intro fu
    induction fu with
    | zero => intro k f h1 h2 hf; exact absurd hf (Nat.not_lt_zero _)
    | succ fu ih6 =>
      intro k f h1 h2 hf H locs hP hD hS ls hl
      refine lv_iload_n hx hb dX11_layMinimal_6 rfl (lv_at hl 1 rfl) ?_
      refine lv_sipush (v := nI 1000) hx hb dX11_layMinimal_7 (by decide) ?_
      refine jn_cge hx hb (by omega) (by decide) (tgt := 79) dX11_layMinimal_10 (by decide) (fun c_10 => ?_) (fun c_10 => ?_)
      · exact hq _ _ _ _ (f_1, f) dX11_layMinimal_79 (by rw [← show k = 1000 by omega]; exact h2) hP hD hS
      · refine lv_aload_n hx hb dX11_layMinimal_13 rfl (lv_at hl 0 rfl) ?_
        refine va_get (D := (g.1, g.2.1)) (ci := 13) (v := .ref (g.2.2.2 16)) (C := RX11) (T := TX11) (N := 30) hx hb hts iX11 hown hK.1 hP 0 (gM0 g (sA (sA σ 7 f_1) 13 f) tl) rfl 27 (by decide) k95 (fun _ h9 => h9) rfl dX11_layMinimal_14 ?_
        refine lv_iload_n hx hb dX11_layMinimal_17 rfl (lv_at hl 1 rfl) ?_
        refine lv_iload_n hx hb dX11_layMinimal_18 rfl (lv_at hl 1 rfl) ?_
        refine lv_bipush (v := nI 100) hx hb dX11_layMinimal_19 (by decide) ?_
        refine jn_idiv hx hb (by omega) (by decide) (by decide) dX11_layMinimal_21 ?_
        refine lv_iconst (v := nI 5) hx hb dX11_layMinimal_22 (by decide) ?_
        have jp72 : ∀ v72 : Nat, v72 = (if cB (mnK (σ.2.1 0) ((σ.2.1 0) 15) k) = true then 1 else 0) → W p l e r_c_X11_layMinimal s m ([.ref (g.2.2.2 0)] : List Value).toArray below meth c H locs 0 0 Q (F0 m 72 ls [.int (nI v72), .int (nI k), .ref (g.2.2.2 16)]) := by
          intro v72 ev72
          refine jn_zast (f := f) hx hb hK.1 hP hD hS 16 2 (gM16 g (sA (sA σ 7 f_1) 13 f) tl) rfl (by omega) (Nat.le_of_ble_eq_true rfl) (by rw [ev72]; exact ite_2) (uM_A13 g (sA (sA σ 7 f_1) 13 f) tl _) dX11_layMinimal_72 (fun H locs hP hD hS => ?_)
          refine lv_iinc (v := nI (k + 1)) (lv' := [(1, .int (nI (k + 1))), (0, .ref (g.2.2.2 0))]) hx hb dX11_layMinimal_73 hl (k := 1) rfl (jn_ii _ 1) (by decide) rfl (fun ls hl => ?_)
          refine lv_goto (tgt := 6) hx hb dX11_layMinimal_76 (by decide) ?_
          exact ih6 (k + 1) (va_up f k v72) (by omega) (fd_put h2 (by by_cases q : cB (mnK (σ.2.1 0) ((σ.2.1 0) 15) k) = true; { rw [if_pos q] at ev72; exact Or.inl ⟨cB_iff.mp q, ev72⟩ }; { rw [if_neg q] at ev72; exact Or.inr ⟨fun w => q (cB_iff.mpr w), ev72⟩ })) (by omega) _ _ hP hD hS _ (lv_sub hl [1, 0] rfl)
        refine jn_cge hx hb (by omega) (by decide) (tgt := 71) dX11_layMinimal_23 (by decide) (fun c_23 => ?_) (fun c_23 => ?_)
        · refine lv_iconst (v := nI 0) hx hb dX11_layMinimal_71 (by decide) ?_
          exact jp72 0 (by rw [if_neg (fun q => by have h9 := cB_iff.mp q; have h8 := h9.1; omega)])
        · refine lv_iload_n hx hb dX11_layMinimal_26 rfl (lv_at hl 1 rfl) ?_
          refine lv_bipush (v := nI 10) hx hb dX11_layMinimal_27 (by decide) ?_
          refine jn_idiv hx hb (by omega) (by decide) (by decide) dX11_layMinimal_29 ?_
          refine lv_bipush (v := nI 10) hx hb dX11_layMinimal_30 (by decide) ?_
          refine jn_irem hx hb (by omega) (by decide) (by decide) dX11_layMinimal_32 ?_
          refine lv_iconst (v := nI 5) hx hb dX11_layMinimal_33 (by decide) ?_
          refine jn_cge hx hb (by omega) (by decide) (tgt := 71) dX11_layMinimal_34 (by decide) (fun c_34 => ?_) (fun c_34 => ?_)
          · refine lv_iconst (v := nI 0) hx hb dX11_layMinimal_71 (by decide) ?_
            exact jp72 0 (by first | exact (if_neg (fun q => by have h9 := cB_iff.mp q; have h8 := h9.2.1; omega)).symm | exact (if_neg (fun q => by have h9 := cB_iff.mp q; have h8 := h9.2.2.1; omega)).symm | exact (if_neg (fun q => c_64 (cB_iff.mpr (cB_iff.mp q).2.2.2))).symm | exact (if_pos (cB_iff.mpr ⟨by omega, by omega, by omega, cB_iff.mp c_64⟩)).symm)
          · refine lv_iload_n hx hb dX11_layMinimal_37 rfl (lv_at hl 1 rfl) ?_
            refine lv_bipush (v := nI 10) hx hb dX11_layMinimal_38 (by decide) ?_
            refine jn_irem hx hb (by omega) (by decide) (by decide) dX11_layMinimal_40 ?_
            refine lv_iconst (v := nI 5) hx hb dX11_layMinimal_41 (by decide) ?_
            refine jn_cge hx hb (by omega) (by decide) (tgt := 71) dX11_layMinimal_42 (by decide) (fun c_42 => ?_) (fun c_42 => ?_)
            · refine lv_iconst (v := nI 0) hx hb dX11_layMinimal_71 (by decide) ?_
              exact jp72 0 (by first | exact (if_neg (fun q => by have h9 := cB_iff.mp q; have h8 := h9.2.1; omega)).symm | exact (if_neg (fun q => by have h9 := cB_iff.mp q; have h8 := h9.2.2.1; omega)).symm | exact (if_neg (fun q => c_64 (cB_iff.mpr (cB_iff.mp q).2.2.2))).symm | exact (if_pos (cB_iff.mpr ⟨by omega, by omega, by omega, cB_iff.mp c_64⟩)).symm)
            · refine lv_aload_n hx hb dX11_layMinimal_45 rfl (lv_at hl 0 rfl) ?_
              refine lv_iload_n hx hb dX11_layMinimal_46 rfl (lv_at hl 1 rfl) ?_
              refine lv_bipush (v := nI 100) hx hb dX11_layMinimal_47 (by decide) ?_
              refine jn_idiv hx hb (by omega) (by decide) (by decide) dX11_layMinimal_49 ?_
              refine lv_iload_n hx hb dX11_layMinimal_50 rfl (lv_at hl 1 rfl) ?_
              refine lv_bipush (v := nI 10) hx hb dX11_layMinimal_51 (by decide) ?_
              refine jn_idiv hx hb (by omega) (by decide) (by decide) dX11_layMinimal_53 ?_
              refine lv_bipush (v := nI 10) hx hb dX11_layMinimal_54 (by decide) ?_
              refine jn_irem hx hb (by omega) (by decide) (by decide) dX11_layMinimal_56 ?_
              refine lv_iload_n hx hb dX11_layMinimal_57 rfl (lv_at hl 1 rfl) ?_
              refine lv_bipush (v := nI 10) hx hb dX11_layMinimal_58 (by decide) ?_
              refine jn_irem hx hb (by omega) (by decide) (by decide) dX11_layMinimal_60 ?_
              refine vp_callSi (va_Run.run (va_runV (As := [.int (nI (k / 100)), .int (nI ((k / 10) % 10)), .int (nI (k % 10))]) (rest := [.int (nI k), .ref (g.2.2.2 16)]) ⟨hx, hb, hml, hown, hts⟩ (c_X11_isMinimal l g tl (sA (sA σ 7 f_1) 13 f) (k / 100) ((k / 10) % 10) (k % 10) hF h_1 (by omega) (by omega) (by omega)) (cwV 3 hts gX11_layMinimal_X11_isMinimal rfl rfl rfl (by decide +kernel) ⟨Nat.le_of_ble_eq_true rfl, Nat.le_of_ble_eq_true rfl⟩) (okPV hK hP rfl (gM0 g (sA (sA σ 7 f_1) 13 f) tl)) rfl rfl hl.1 rfl (lv_room (Nat.le_of_ble_eq_true rfl)) dX11_layMinimal_61 ⟨Nat.le_of_ble_eq_true rfl, Nat.le_of_ble_eq_true rfl⟩)) (fun r_61 h_61 => ?_)
              have h_61 : r_61 = (nI (if cB (mnR (σ.2.1 0) ((σ.2.1 0) 15) (k / 100) ((k / 10) % 10) (k % 10)) = true then 1 else 0)) := h_61
              subst h_61
              refine jn_beq hx hb (tgt := 71) dX11_layMinimal_64 (by decide) (fun c_64 => ?_) (fun c_64 => ?_)
              · refine lv_iconst (v := nI 0) hx hb dX11_layMinimal_71 (by decide) ?_
                exact jp72 0 (by first | exact (if_neg (fun q => by have h9 := cB_iff.mp q; have h8 := h9.2.1; omega)).symm | exact (if_neg (fun q => by have h9 := cB_iff.mp q; have h8 := h9.2.2.1; omega)).symm | exact (if_neg (fun q => c_64 (cB_iff.mpr (cB_iff.mp q).2.2.2))).symm | exact (if_pos (cB_iff.mpr ⟨by omega, by omega, by omega, cB_iff.mp c_64⟩)).symm)
              · refine lv_iconst (v := nI 1) hx hb dX11_layMinimal_67 (by decide) ?_
                refine lv_goto (tgt := 72) hx hb dX11_layMinimal_68 (by decide) ?_
                exact jp72 1 (by first | exact (if_neg (fun q => by have h9 := cB_iff.mp q; have h8 := h9.2.1; omega)).symm | exact (if_neg (fun q => by have h9 := cB_iff.mp q; have h8 := h9.2.2.1; omega)).symm | exact (if_neg (fun q => c_64 (cB_iff.mpr (cB_iff.mp q).2.2.2))).symm | exact (if_pos (cB_iff.mpr ⟨by omega, by omega, by omega, cB_iff.mp c_64⟩)).symm)
  exact lp6 _ 0 (σ.2.1 13) (by decide) (fun z hz => absurd hz (by omega)) (Nat.lt_succ_self _) _ _ hP hD hS _ (lv_sub hl [1, 0] rfl)

abbrev r_c_X11_minimalCount : Room := { frames := 4, cells := 0, slots := 0, locals := 92 }
set_option maxHeartbeats 4000000 in
set_option maxRecDepth 100000 in
theorem c_X11_minimalCount (l : Launch) (g : GC) (tl : va_W) (sz : Nat) (σ : SS) (hT : OkT (σ.2.1 0)) (hF : ((σ.2.1 0) 15) < 32) : Met l yX11_minimalCount wsX11_minimalCount r_c_X11_minimalCount (va_Pc [.ref (g.2.2.2 0)] (PW g (wM g σ ++ tl) sz)) (va_Qi (fun (r : Int32) (z : (Nat → Nat) × (Nat → Nat)) => match z with | (f7, f13) => (r = nI (fb_ct (fdB f13) 1000)) ∧ (FdO f13 (mnK (σ.2.1 0) ((σ.2.1 0) 15)) 1000)) (fun (z : (Nat → Nat) × (Nat → Nat)) t => BW g (va_A (wM g σ ++ tl) sz) ((fun z : (Nat → Nat) × (Nat → Nat) => match z with | (f7, f13) => wM g (sA (sA σ 7 f7) 13 f13) ++ tl) z) t) (va_A (wM g σ ++ tl) sz)) 0 0 (va_A (wM g σ ++ tl) sz) := by
  refine jn_si (wf := fun z : (Nat → Nat) × (Nat → Nat) => match z with | (f7, f13) => wM g (sA (sA σ 7 f7) 13 f13) ++ tl) (cc := cX11_minimalCount) (maxL := 1) (own := RX11) (by decide) rfl rfl (Nat.le_of_ble_eq_true rfl) ?_
  intro p e s m below meth c Q A hx hb hml hown hts hK hP hD hS hAA hq ls hl
  obtain ⟨H, eH⟩ : ∃ z, z = s.heap := ⟨_, rfl⟩
  obtain ⟨locs, el⟩ : ∃ z : List Loc, z = [] := ⟨_, rfl⟩
  rw [← eH] at hP
  have hS : va_S A s.heap H locs := by rw [eH, el]; exact hS
  have goal0 : W p l e r_c_X11_minimalCount s m ([.ref (g.2.2.2 0)] : List Value).toArray below meth c H locs 0 0 Q (F0 m 0 ls []) → W p l e r_c_X11_minimalCount s m ([.ref (g.2.2.2 0)] : List Value).toArray below meth c s.heap [] 0 0 Q (F0 m 0 ls []) := fun h => by rw [eH, el] at h; exact h
  refine goal0 ?_
  have hl : lv_has ls 1 [(0, .ref (g.2.2.2 0))] := hl
  refine lv_aload_n hx hb dX11_minimalCount_0 rfl (lv_at hl 0 rfl) ?_
  refine jn_callv (va_runV (As := []) (rest := []) ⟨hx, hb, hml, hown, hts⟩ (c_X11_layMinimal l g tl H.size σ hT hF) (cwV 0 hts gX11_minimalCount_X11_layMinimal rfl rfl rfl (by decide +kernel) ⟨Nat.le_of_ble_eq_true rfl, Nat.le_of_ble_eq_true rfl⟩) (okWV hK hP hD rfl (gM0 g σ tl)) rfl rfl hl.1 rfl (lv_room (Nat.le_of_ble_eq_true rfl)) dX11_minimalCount_1 ⟨Nat.le_of_ble_eq_true rfl, Nat.le_of_ble_eq_true rfl⟩) hD hS hAA (fun u H locs hw_ hP hD hS => ?_)
  obtain ⟨f7_1, f13_1⟩ := u
  have h_1 := hw_
  have h_1 : FdO f13_1 (mnK (σ.2.1 0) ((σ.2.1 0) 15)) 1000 := h_1
  have hP : va_P (g.1, g.2.1) vwCl (wM g (sA (sA σ 7 f7_1) 13 f13_1) ++ tl) H := hP
  have hD : va_D A (wM g (sA (sA σ 7 f7_1) 13 f13_1) ++ tl) := hD
  refine lv_aload_n hx hb dX11_minimalCount_4 rfl (lv_at hl 0 rfl) ?_
  refine vp_callSi (va_Run.run (va_runV (As := []) (rest := []) ⟨hx, hb, hml, hown, hts⟩ (c_X11_foundMany l g tl (sA (sA σ 7 f7_1) 13 f13_1) (fun k hk => fd_bit h_1 hk)) (cwV 0 hts gX11_minimalCount_X11_foundMany rfl rfl rfl (by decide +kernel) ⟨Nat.le_of_ble_eq_true rfl, Nat.le_of_ble_eq_true rfl⟩) (okPV hK hP rfl (gM0 g (sA (sA σ 7 f7_1) 13 f13_1) tl)) rfl rfl hl.1 rfl (lv_room (Nat.le_of_ble_eq_true rfl)) dX11_minimalCount_5 ⟨Nat.le_of_ble_eq_true rfl, Nat.le_of_ble_eq_true rfl⟩)) (fun r_5 h_5 => ?_)
  have h_5 : r_5 = (nI (fb_ct (fdB (f13_1)) 1000)) := h_5
  subst h_5
  exact hq _ _ _ _ ((nI (fb_ct (fdB (f13_1)) 1000))) (f7_1, f13_1) dX11_minimalCount_8 ⟨rfl, h_1⟩ hP hD hS

abbrev r_c_X11_minimal : Room := { frames := 4, cells := 0, slots := 0, locals := 92 }
set_option maxHeartbeats 4000000 in
set_option maxRecDepth 100000 in
theorem c_X11_minimal (l : Launch) (g : GC) (tl : va_W) (sz : Nat) (σ : SS) (idx : Nat) (hT : OkT (σ.2.1 0)) (hF : ((σ.2.1 0) 15) < 32) (hi : idx < 4294967296) : Met l yX11_minimal wsX11_minimal r_c_X11_minimal (va_Pc [.ref (g.2.2.2 0), .int (nI idx)] (PW g (wM g σ ++ tl) sz)) (va_Qi (fun (r : Int32) (z : Nat × Nat × (Nat → Nat) × (Nat → Nat)) => match z with | (r0, th, f7, f13) => (r = nI (r0)) ∧ (FdO f13 (mnK (σ.2.1 0) ((σ.2.1 0) 15)) 1000) ∧ ((idx < fb_ct (fdB f13) 1000 ∧ th = 0 ∧ r0 = kth (fdB f13) idx 1000) ∨ (¬ idx < fb_ct (fdB f13) 1000 ∧ th = 1 ∧ r0 = 0))) (fun (z : Nat × Nat × (Nat → Nat) × (Nat → Nat)) t => BW g (va_A (wM g σ ++ tl) sz) ((fun z : Nat × Nat × (Nat → Nat) × (Nat → Nat) => match z with | (r0, th, f7, f13) => wM g (sA (sA (sF σ 0 th) 7 f7) 13 f13) ++ tl) z) t) (va_A (wM g σ ++ tl) sz)) 0 0 (va_A (wM g σ ++ tl) sz) := by
  refine jn_si (wf := fun z : Nat × Nat × (Nat → Nat) × (Nat → Nat) => match z with | (r0, th, f7, f13) => wM g (sA (sA (sF σ 0 th) 7 f7) 13 f13) ++ tl) (cc := cX11_minimal) (maxL := 2) (own := RX11) (by decide) rfl rfl (Nat.le_of_ble_eq_true rfl) ?_
  intro p e s m below meth c Q A hx hb hml hown hts hK hP hD hS hAA hq ls hl
  obtain ⟨H, eH⟩ : ∃ z, z = s.heap := ⟨_, rfl⟩
  obtain ⟨locs, el⟩ : ∃ z : List Loc, z = [] := ⟨_, rfl⟩
  rw [← eH] at hP
  have hS : va_S A s.heap H locs := by rw [eH, el]; exact hS
  have goal0 : W p l e r_c_X11_minimal s m ([.ref (g.2.2.2 0), .int (nI idx)] : List Value).toArray below meth c H locs 0 0 Q (F0 m 0 ls []) → W p l e r_c_X11_minimal s m ([.ref (g.2.2.2 0), .int (nI idx)] : List Value).toArray below meth c s.heap [] 0 0 Q (F0 m 0 ls []) := fun h => by rw [eH, el] at h; exact h
  refine goal0 ?_
  have hl : lv_has ls 2 [(0, .ref (g.2.2.2 0)), (1, .int (nI idx))] := hl
  have iX11 : ∀ w ∈ wsX110, w ∈ wsX11_minimal := by decide +kernel
  have k1 := hts (.fieldLink RX11 1 "JumpingAutomataModel" "thrown" "I") (by decide +kernel)
  refine lv_aload_n hx hb dX11_minimal_0 rfl (lv_at hl 0 rfl) ?_
  refine lv_iconst (v := nI 0) hx hb dX11_minimal_1 (by decide) ?_
  refine jn_put (D := (g.1, g.2.1)) (ci := 13) (v := .int (nI 0)) (ty := .int) (C := RX11) (T := TX11) (N := 30) hx hb hts iX11 tyX11 tyX11_ok nmX11 hown hK.1 hP hD hS 0 (gM0 g σ tl) rfl 0 (by decide) k1 (fun _ h9 => h9) rfl (by decide +kernel) rfl rfl (Nat.le_of_ble_eq_true rfl) (uM_F0 g σ tl 0) dX11_minimal_2 (fun H locs hP hD hS => ?_)
  refine lv_aload_n hx hb dX11_minimal_5 rfl (lv_at hl 0 rfl) ?_
  refine jn_callv (va_runV (As := []) (rest := []) ⟨hx, hb, hml, hown, hts⟩ (c_X11_layMinimal l g tl H.size (sF σ 0 0) hT hF) (cwV 0 hts gX11_minimal_X11_layMinimal rfl rfl rfl (by decide +kernel) ⟨Nat.le_of_ble_eq_true rfl, Nat.le_of_ble_eq_true rfl⟩) (okWV hK hP hD rfl (gM0 g (sF σ 0 0) tl)) rfl rfl hl.1 rfl (lv_room (Nat.le_of_ble_eq_true rfl)) dX11_minimal_6 ⟨Nat.le_of_ble_eq_true rfl, Nat.le_of_ble_eq_true rfl⟩) hD hS hAA (fun u H locs hw_ hP hD hS => ?_)
  obtain ⟨f7_6, f13_6⟩ := u
  have h_6 := hw_
  have h_6 : FdO f13_6 (mnK (σ.2.1 0) ((σ.2.1 0) 15)) 1000 := h_6
  have hP : va_P (g.1, g.2.1) vwCl (wM g (sA (sA (sF σ 0 0) 7 f7_6) 13 f13_6) ++ tl) H := hP
  have hD : va_D A (wM g (sA (sA (sF σ 0 0) 7 f7_6) 13 f13_6) ++ tl) := hD
  refine lv_aload_n hx hb dX11_minimal_9 rfl (lv_at hl 0 rfl) ?_
  refine lv_iload_n hx hb dX11_minimal_10 rfl (lv_at hl 1 rfl) ?_
  refine jn_calli (va_runV (As := [.int (nI idx)]) (rest := []) ⟨hx, hb, hml, hown, hts⟩ (c_X11_foundAt l g tl H.size (sA (sA (sF σ 0 0) 7 f7_6) 13 f13_6) idx (fun k hk => fd_bit h_6 hk) hi) (cwV 1 hts gX11_minimal_X11_foundAt rfl rfl rfl (by decide +kernel) ⟨Nat.le_of_ble_eq_true rfl, Nat.le_of_ble_eq_true rfl⟩) (okWV hK hP hD rfl (gM0 g (sA (sA (sF σ 0 0) 7 f7_6) 13 f13_6) tl)) rfl rfl hl.1 rfl (lv_room (Nat.le_of_ble_eq_true rfl)) dX11_minimal_11 ⟨Nat.le_of_ble_eq_true rfl, Nat.le_of_ble_eq_true rfl⟩) hD hS hAA (fun r_11 u H locs hw_ hP hD hS => ?_)
  obtain ⟨r0_11, th_11⟩ := u
  obtain ⟨rfl, h_11⟩ := hw_
  have h_11 : (idx < fb_ct (fdB (f13_6)) 1000 ∧ th_11 = 0 ∧ r0_11 = kth (fdB (f13_6)) idx 1000) ∨ (¬ idx < fb_ct (fdB (f13_6)) 1000 ∧ th_11 = 1 ∧ r0_11 = 0) := h_11
  have hP : va_P (g.1, g.2.1) vwCl (wM g (sF (sA (sA (sF σ 0 0) 7 f7_6) 13 f13_6) 0 th_11) ++ tl) H := hP
  have hD : va_D A (wM g (sF (sA (sA (sF σ 0 0) 7 f7_6) 13 f13_6) 0 th_11) ++ tl) := hD
  exact hq _ _ _ _ ((nI r0_11)) (r0_11, th_11, f7_6, f13_6) dX11_minimal_14 ⟨rfl, h_6, h_11⟩ hP hD hS

abbrev r_c_X11_goesRound_d4 : Room := { frames := 1, cells := 0, slots := 0, locals := 22 }
set_option maxHeartbeats 4000000 in
set_option maxRecDepth 100000 in
theorem c_X11_goesRound_d4 (l : Launch) (g : GC) (tl : va_W) (sz : Nat) (σ : SS) (bg q mt cd : Nat) (hT : OkT (σ.2.1 0)) (hU : (σ.1 12) < 32) (hbg : bg < 5) (hq1 : q < 5) (hmt : mt < 32) (hu : unr 5 mt = 0) (hcd : cd < 1000 ∧ dsum cd = 4) (hFd : ∀ k, k < 1000 → (σ.2.1 13) k < 2) : Met l yX11_goesRound wsX11_goesRound r_c_X11_goesRound_d4 (va_Pc [.ref (g.2.2.2 0), .int (nI bg), .int (nI q), .int (nI mt), .int (nI cd)] (PW g (wM g σ ++ tl) sz)) (va_Qv (fun (f13 : (Nat → Nat)) => GrO (σ.2.1 13) f13 (grW (σ.2.1 0) (σ.1 12) bg 1 q mt cd)) (fun (f13 : (Nat → Nat)) t => BW g (va_A (wM g σ ++ tl) sz) (wM g (sA σ 13 f13) ++ tl) t) (va_A (wM g σ ++ tl) sz)) 0 0 (va_A (wM g σ ++ tl) sz) := by
  refine jn_sv (wf := fun f13 : (Nat → Nat) => wM g (sA σ 13 f13) ++ tl) (cc := cX11_goesRound) (maxL := 8) (own := RX11) (by decide) rfl rfl (Nat.le_of_ble_eq_true rfl) ?_
  intro p e s m below meth c Q A hx hb hml hown hts hK hP hD hS hAA hq ls hl
  obtain ⟨H, eH⟩ : ∃ z, z = s.heap := ⟨_, rfl⟩
  obtain ⟨locs, el⟩ : ∃ z : List Loc, z = [] := ⟨_, rfl⟩
  rw [← eH] at hP
  have hS : va_S A s.heap H locs := by rw [eH, el]; exact hS
  have goal0 : W p l e r_c_X11_goesRound_d4 s m ([.ref (g.2.2.2 0), .int (nI bg), .int (nI q), .int (nI mt), .int (nI cd)] : List Value).toArray below meth c H locs 0 0 Q (F0 m 0 ls []) → W p l e r_c_X11_goesRound_d4 s m ([.ref (g.2.2.2 0), .int (nI bg), .int (nI q), .int (nI mt), .int (nI cd)] : List Value).toArray below meth c s.heap [] 0 0 Q (F0 m 0 ls []) := fun h => by rw [eH, el] at h; exact h
  refine goal0 ?_
  have hl : lv_has ls 8 [(0, .ref (g.2.2.2 0)), (1, .int (nI bg)), (2, .int (nI q)), (3, .int (nI mt)), (4, .int (nI cd))] := hl
  have iX11 : ∀ w ∈ wsX110, w ∈ wsX11_goesRound := by decide +kernel
  have k99 := hts (.fieldLink RX11 99 "JumpingAutomataModel" "useful" "I") (by decide +kernel)
  have k95 := hts (.fieldLink RX11 95 "JumpingAutomataModel" "found" "[Z") (by decide +kernel)
  refine lv_iconst (v := nI 0) hx hb dX11_goesRound_0 (by decide) ?_
  refine lv_istore (lv' := [(5, .int (nI 0)), (0, .ref (g.2.2.2 0)), (1, .int (nI bg)), (2, .int (nI q)), (3, .int (nI mt)), (4, .int (nI cd))]) hx hb dX11_goesRound_1 hl (by decide) rfl (fun ls hl => ?_)
  have lp3 : ∀ (fu : Nat), ∀ (x0 : Nat) (f : Nat → Nat), (x0 ≤ 3) → (GrO (σ.2.1 13) f (grL (σ.2.1 0) (σ.1 12) bg 0 q mt cd x0)) → 3 - x0 < fu → ∀ (H : Heap) (locs : List Loc), va_P (g.1, g.2.1) vwCl (wM g (sA σ 13 f) ++ tl) H → va_D A (wM g (sA σ 13 f) ++ tl) → va_S A s.heap H locs → ∀ ls : Array Slot, lv_has ls 8 [(0, .ref (g.2.2.2 0)), (1, .int (nI bg)), (2, .int (nI q)), (3, .int (nI mt)), (4, .int (nI cd)), (5, .int (nI x0))] → W p l e r_c_X11_goesRound_d4 s m ([.ref (g.2.2.2 0), .int (nI bg), .int (nI q), .int (nI mt), .int (nI cd)] : List Value).toArray below meth c H locs 0 0 Q (F0 m 3 ls []) := by
    intro fu
    induction fu with
    | zero => intro x0 f h1 h2 hf; exact absurd hf (Nat.not_lt_zero _)
    | succ fu ih3 =>
      intro x0 f h1 h2 hf H locs hP hD hS ls hl
      refine lv_iload hx hb dX11_goesRound_3 (lv_at hl 5 rfl) ?_
      refine lv_iconst (v := nI 3) hx hb dX11_goesRound_5 (by decide) ?_
      refine jn_cge hx hb (by omega) (by decide) (tgt := 121) dX11_goesRound_6 (by decide) (fun c_6 => ?_) (fun c_6 => ?_)
      · exact hq _ _ _ _ (f) dX11_goesRound_121 (gro_iff h2 (fun z => by rw [show x0 = 3 by omega]; exact Iff.rfl)) hP hD hS
      · refine lv_iload hx hb dX11_goesRound_9 (lv_at hl 4 rfl) ?_
        refine lv_iload hx hb dX11_goesRound_11 (lv_at hl 5 rfl) ?_
        have jp33 : ∀ v33 : Nat, v33 = (wt x0) → W p l e r_c_X11_goesRound_d4 s m ([.ref (g.2.2.2 0), .int (nI bg), .int (nI q), .int (nI mt), .int (nI cd)] : List Value).toArray below meth c H locs 0 0 Q (F0 m 33 ls [.int (nI v33), .int (nI cd)]) := by
          intro v33 ev33
          have hcs := cs5_wt (l := x0) hcd.1 hcd.2 (by decide) (by omega)
          rw [← ev33] at hcs
          refine jn_iadd hx hb dX11_goesRound_33 ?_
          refine lv_istore (lv' := [(6, .int (nI (cd + v33))), (0, .ref (g.2.2.2 0)), (1, .int (nI bg)), (2, .int (nI q)), (3, .int (nI mt)), (4, .int (nI cd)), (5, .int (nI x0))]) hx hb dX11_goesRound_34 hl (by decide) rfl (fun ls hl => ?_)
          refine lv_iconst (v := nI 0) hx hb dX11_goesRound_36 (by decide) ?_
          refine lv_istore (lv' := [(7, .int (nI 0)), (6, .int (nI (cd + v33))), (0, .ref (g.2.2.2 0)), (1, .int (nI bg)), (2, .int (nI q)), (3, .int (nI mt)), (4, .int (nI cd)), (5, .int (nI x0))]) hx hb dX11_goesRound_37 hl (by decide) rfl (fun ls hl => ?_)
          have lp39 : ∀ (fu : Nat), ∀ (t0 : Nat) (f : Nat → Nat), (t0 ≤ 5) → (GrO (σ.2.1 13) f (grI (σ.2.1 0) (σ.1 12) bg 0 q mt cd x0 t0)) → 5 - t0 < fu → ∀ (H : Heap) (locs : List Loc), va_P (g.1, g.2.1) vwCl (wM g (sA σ 13 f) ++ tl) H → va_D A (wM g (sA σ 13 f) ++ tl) → va_S A s.heap H locs → ∀ ls : Array Slot, lv_has ls 8 [(0, .ref (g.2.2.2 0)), (1, .int (nI bg)), (2, .int (nI q)), (3, .int (nI mt)), (4, .int (nI cd)), (5, .int (nI x0)), (6, .int (nI (cd + v33))), (7, .int (nI t0))] → W p l e r_c_X11_goesRound_d4 s m ([.ref (g.2.2.2 0), .int (nI bg), .int (nI q), .int (nI mt), .int (nI cd)] : List Value).toArray below meth c H locs 0 0 Q (F0 m 39 ls []) := by
            intro fu
            induction fu with
            | zero => intro t0 f h5 h6 hf; exact absurd hf (Nat.not_lt_zero _)
            | succ fu ih39 =>
              intro t0 f h5 h6 hf H locs hP hD hS ls hl
              refine lv_iload hx hb dX11_goesRound_39 (lv_at hl 7 rfl) ?_
              refine lv_iconst (v := nI 5) hx hb dX11_goesRound_41 (by decide) ?_
              refine jn_cge hx hb (by omega) (by decide) (tgt := 115) dX11_goesRound_42 (by decide) (fun c_42 => ?_) (fun c_42 => ?_)
              · refine lv_iinc (v := nI (x0 + 1)) (lv' := [(5, .int (nI (x0 + 1))), (0, .ref (g.2.2.2 0)), (1, .int (nI bg)), (2, .int (nI q)), (3, .int (nI mt)), (4, .int (nI cd)), (6, .int (nI (cd + v33))), (7, .int (nI t0))]) hx hb dX11_goesRound_115 hl (k := 5) rfl (jn_ii _ 1) (by decide) rfl (fun ls hl => ?_)
                refine lv_goto (tgt := 3) hx hb dX11_goesRound_118 (by decide) ?_
                exact ih3 (x0 + 1) f (by omega) (gri_end h6 (by omega)) (by omega) _ _ hP hD hS _ (lv_sub hl [1, 2, 3, 4, 5, 0] rfl)
              · refine lv_aload_n hx hb dX11_goesRound_45 rfl (lv_at hl 0 rfl) ?_
                refine lv_iload_n hx hb dX11_goesRound_46 rfl (lv_at hl 2 rfl) ?_
                refine lv_iload hx hb dX11_goesRound_47 (lv_at hl 5 rfl) ?_
                refine vp_callSi (va_Run.run (va_runV (As := [.int (nI q), .int (nI x0)]) (rest := []) ⟨hx, hb, hml, hown, hts⟩ (c_X11_next l g tl (sA σ 13 f) q x0 hq1 (by omega)) (cwV 2 hts gX11_goesRound_X11_next rfl rfl rfl (by decide +kernel) ⟨Nat.le_of_ble_eq_true rfl, Nat.le_of_ble_eq_true rfl⟩) (okPV hK hP rfl (gM0 g (sA σ 13 f) tl)) rfl rfl hl.1 rfl (lv_room (Nat.le_of_ble_eq_true rfl)) dX11_goesRound_49 ⟨Nat.le_of_ble_eq_true rfl, Nat.le_of_ble_eq_true rfl⟩)) (fun r_49 h_49 => ?_)
                have h_49 : r_49 = (nI ((σ.2.1 0) (q * 3 + x0))) := h_49
                subst h_49
                refine lv_aload_n hx hb dX11_goesRound_52 rfl (lv_at hl 0 rfl) ?_
                refine va_get (D := (g.1, g.2.1)) (ci := 13) (v := .int (nI (σ.1 12))) (C := RX11) (T := TX11) (N := 30) hx hb hts iX11 hown hK.1 hP 0 (gM0 g (sA σ 13 f) tl) rfl 28 (by decide) k99 (fun _ h9 => h9) rfl dX11_goesRound_53 ?_
                refine jn_iand hx hb dX11_goesRound_56 ?_
                refine lv_iload hx hb dX11_goesRound_57 (lv_at hl 7 rfl) ?_
                refine vp_callSi (va_Run.run (va_runS (As := [.int (nI (((σ.2.1 0) (q * 3 + x0)) &&& (σ.1 12))), .int (nI t0)]) (rest := []) ⟨hx, hb, hml, hown, hts⟩ (c_X11_has l (((σ.2.1 0) (q * 3 + x0)) &&& (σ.1 12)) t0 (Nat.lt_trans (and_lt hU) (by decide)) (by omega)) (va_cwS 2 hts gX11_goesRound_X11_has rfl rfl rfl (by decide +kernel) ⟨Nat.le_of_ble_eq_true rfl, Nat.le_of_ble_eq_true rfl⟩) okTS rfl rfl hl.1 rfl (lv_room (Nat.le_of_ble_eq_true rfl)) dX11_goesRound_59 ⟨Nat.le_of_ble_eq_true rfl, Nat.le_of_ble_eq_true rfl⟩)) (fun r_59 h_59 => ?_)
                subst h_59
                refine jn_bne hx hb (tgt := 68) dX11_goesRound_62 (by decide) (fun c_62 => ?_) (fun c_62 => ?_)
                · refine lv_iload hx hb dX11_goesRound_68 (lv_at hl 7 rfl) ?_
                  refine lv_iload_n hx hb dX11_goesRound_70 rfl (lv_at hl 1 rfl) ?_
                  refine jn_cne hx hb (by omega) (by omega) (tgt := 85) dX11_goesRound_71 (by decide) (fun c_71 => ?_) (fun c_71 => ?_)
                  · refine lv_iload_n hx hb dX11_goesRound_85 rfl (lv_at hl 3 rfl) ?_
                    refine lv_iload hx hb dX11_goesRound_86 (lv_at hl 7 rfl) ?_
                    refine vp_callSi (va_Run.run (va_runS (As := [.int (nI mt), .int (nI t0)]) (rest := []) ⟨hx, hb, hml, hown, hts⟩ (c_X11_has l mt t0 (by omega) (by omega)) (va_cwS 2 hts gX11_goesRound_X11_has rfl rfl rfl (by decide +kernel) ⟨Nat.le_of_ble_eq_true rfl, Nat.le_of_ble_eq_true rfl⟩) okTS rfl rfl hl.1 rfl (lv_room (Nat.le_of_ble_eq_true rfl)) dX11_goesRound_88 ⟨Nat.le_of_ble_eq_true rfl, Nat.le_of_ble_eq_true rfl⟩)) (fun r_88 h_88 => ?_)
                    subst h_88
                    refine jn_bne hx hb (tgt := 109) dX11_goesRound_91 (by decide) (fun c_91 => ?_) (fun c_91 => absurd c_91 (fun q => q (un0 hu (by omega))))
                    refine lv_iinc (v := nI (t0 + 1)) (lv' := [(7, .int (nI (t0 + 1))), (0, .ref (g.2.2.2 0)), (1, .int (nI bg)), (2, .int (nI q)), (3, .int (nI mt)), (4, .int (nI cd)), (5, .int (nI x0)), (6, .int (nI (cd + v33)))]) hx hb dX11_goesRound_109 hl (k := 7) rfl (jn_ii _ 1) (by decide) rfl (fun ls hl => ?_)
                    refine lv_goto (tgt := 39) hx hb dX11_goesRound_112 (by decide) ?_
                    exact ih39 (t0 + 1) f (by omega) (by first | exact gri_no h6 c_62 | exact gri_hit h6 c_62 (by omega) ev33 | exact gri_met h6 c_71 c_91) (by omega) _ _ hP hD hS _ (lv_sub hl [1, 2, 3, 4, 5, 6, 7, 0] rfl)
                  · refine lv_aload_n hx hb dX11_goesRound_74 rfl (lv_at hl 0 rfl) ?_
                    refine va_get (D := (g.1, g.2.1)) (ci := 13) (v := .ref (g.2.2.2 16)) (C := RX11) (T := TX11) (N := 30) hx hb hts iX11 hown hK.1 hP 0 (gM0 g (sA σ 13 f) tl) rfl 27 (by decide) k95 (fun _ h9 => h9) rfl dX11_goesRound_75 ?_
                    refine lv_iload hx hb dX11_goesRound_78 (lv_at hl 6 rfl) ?_
                    refine lv_iconst (v := nI 1) hx hb dX11_goesRound_80 (by decide) ?_
                    refine jn_zast (f := f) hx hb hK.1 hP hD hS 16 2 (gM16 g (sA σ 13 f) tl) rfl (by omega) (Nat.le_of_ble_eq_true rfl) (by decide) (uM_A13 g (sA σ 13 f) tl _) dX11_goesRound_81 (fun H locs hP hD hS => ?_)
                    refine lv_goto (tgt := 109) hx hb dX11_goesRound_82 (by decide) ?_
                    refine lv_iinc (v := nI (t0 + 1)) (lv' := [(7, .int (nI (t0 + 1))), (0, .ref (g.2.2.2 0)), (1, .int (nI bg)), (2, .int (nI q)), (3, .int (nI mt)), (4, .int (nI cd)), (5, .int (nI x0)), (6, .int (nI (cd + v33)))]) hx hb dX11_goesRound_109 hl (k := 7) rfl (jn_ii _ 1) (by decide) rfl (fun ls hl => ?_)
                    refine lv_goto (tgt := 39) hx hb dX11_goesRound_112 (by decide) ?_
                    exact ih39 (t0 + 1) (va_up f (cd + v33) 1) (by omega) (by first | exact gri_no h6 c_62 | exact gri_hit h6 c_62 (by omega) ev33 | exact gri_met h6 c_71 c_91) (by omega) _ _ hP hD hS _ (lv_sub hl [1, 2, 3, 4, 5, 6, 7, 0] rfl)
                · refine lv_goto (tgt := 109) hx hb dX11_goesRound_65 (by decide) ?_
                  refine lv_iinc (v := nI (t0 + 1)) (lv' := [(7, .int (nI (t0 + 1))), (0, .ref (g.2.2.2 0)), (1, .int (nI bg)), (2, .int (nI q)), (3, .int (nI mt)), (4, .int (nI cd)), (5, .int (nI x0)), (6, .int (nI (cd + v33)))]) hx hb dX11_goesRound_109 hl (k := 7) rfl (jn_ii _ 1) (by decide) rfl (fun ls hl => ?_)
                  refine lv_goto (tgt := 39) hx hb dX11_goesRound_112 (by decide) ?_
                  exact ih39 (t0 + 1) f (by omega) (by first | exact gri_no h6 c_62 | exact gri_hit h6 c_62 (by omega) ev33 | exact gri_met h6 c_71 c_91) (by omega) _ _ hP hD hS _ (lv_sub hl [1, 2, 3, 4, 5, 6, 7, 0] rfl)
          exact lp39 _ 0 f (by decide) (gri_0 h2) (Nat.lt_succ_self _) _ _ hP hD hS _ (lv_sub hl [2, 3, 4, 5, 6, 7, 1, 0] rfl)
        refine jn_zne hx hb (by omega) (tgt := 21) dX11_goesRound_13 (by decide) (fun c_13 => ?_) (fun c_13 => ?_)
        · refine lv_iload hx hb dX11_goesRound_21 (lv_at hl 5 rfl) ?_
          refine lv_iconst (v := nI 1) hx hb dX11_goesRound_23 (by decide) ?_
          refine jn_cne hx hb (by omega) (by decide) (tgt := 32) dX11_goesRound_24 (by decide) (fun c_24 => ?_) (fun c_24 => ?_)
          · refine lv_iconst (v := nI 1) hx hb dX11_goesRound_32 (by decide) ?_
            exact jp33 1 (by unfold wt; rw [if_neg c_13]; first | exact (if_neg c_24).symm | exact (if_pos (by omega)).symm)
          · refine lv_bipush (v := nI 10) hx hb dX11_goesRound_27 (by decide) ?_
            refine lv_goto (tgt := 33) hx hb dX11_goesRound_29 (by decide) ?_
            exact jp33 10 (by unfold wt; rw [if_neg c_13]; first | exact (if_neg c_24).symm | exact (if_pos (by omega)).symm)
        · refine lv_bipush (v := nI 100) hx hb dX11_goesRound_16 (by decide) ?_
          refine lv_goto (tgt := 33) hx hb dX11_goesRound_18 (by decide) ?_
          exact jp33 100 (by rw [show x0 = 0 by omega]; rfl)
  exact lp3 _ 0 (σ.2.1 13) (by decide) (gro_0 hFd (fun z => grl_0)) (Nat.lt_succ_self _) _ _ hP hD hS _ (lv_sub hl [1, 2, 3, 4, 5, 0] rfl)

abbrev r_c_X11_goesRound_d3 : Room := { frames := 2, cells := 0, slots := 0, locals := 49 }
set_option maxHeartbeats 4000000 in
set_option maxRecDepth 100000 in
theorem c_X11_goesRound_d3 (l : Launch) (g : GC) (tl : va_W) (sz : Nat) (σ : SS) (bg q mt cd : Nat) (hT : OkT (σ.2.1 0)) (hU : (σ.1 12) < 32) (hbg : bg < 5) (hq1 : q < 5) (hmt : mt < 32) (hu : unr 5 mt = 1) (hcd : cd < 1000 ∧ dsum cd = 3) (hFd : ∀ k, k < 1000 → (σ.2.1 13) k < 2) : Met l yX11_goesRound wsX11_goesRound r_c_X11_goesRound_d3 (va_Pc [.ref (g.2.2.2 0), .int (nI bg), .int (nI q), .int (nI mt), .int (nI cd)] (PW g (wM g σ ++ tl) sz)) (va_Qv (fun (f13 : (Nat → Nat)) => GrO (σ.2.1 13) f13 (grW (σ.2.1 0) (σ.1 12) bg 2 q mt cd)) (fun (f13 : (Nat → Nat)) t => BW g (va_A (wM g σ ++ tl) sz) (wM g (sA σ 13 f13) ++ tl) t) (va_A (wM g σ ++ tl) sz)) 0 0 (va_A (wM g σ ++ tl) sz) := by
  refine jn_sv (wf := fun f13 : (Nat → Nat) => wM g (sA σ 13 f13) ++ tl) (cc := cX11_goesRound) (maxL := 8) (own := RX11) (by decide) rfl rfl (Nat.le_of_ble_eq_true rfl) ?_
  intro p e s m below meth c Q A hx hb hml hown hts hK hP hD hS hAA hq ls hl
  obtain ⟨H, eH⟩ : ∃ z, z = s.heap := ⟨_, rfl⟩
  obtain ⟨locs, el⟩ : ∃ z : List Loc, z = [] := ⟨_, rfl⟩
  rw [← eH] at hP
  have hS : va_S A s.heap H locs := by rw [eH, el]; exact hS
  have goal0 : W p l e r_c_X11_goesRound_d3 s m ([.ref (g.2.2.2 0), .int (nI bg), .int (nI q), .int (nI mt), .int (nI cd)] : List Value).toArray below meth c H locs 0 0 Q (F0 m 0 ls []) → W p l e r_c_X11_goesRound_d3 s m ([.ref (g.2.2.2 0), .int (nI bg), .int (nI q), .int (nI mt), .int (nI cd)] : List Value).toArray below meth c s.heap [] 0 0 Q (F0 m 0 ls []) := fun h => by rw [eH, el] at h; exact h
  refine goal0 ?_
  have hl : lv_has ls 8 [(0, .ref (g.2.2.2 0)), (1, .int (nI bg)), (2, .int (nI q)), (3, .int (nI mt)), (4, .int (nI cd))] := hl
  have iX11 : ∀ w ∈ wsX110, w ∈ wsX11_goesRound := by decide +kernel
  have k99 := hts (.fieldLink RX11 99 "JumpingAutomataModel" "useful" "I") (by decide +kernel)
  have k95 := hts (.fieldLink RX11 95 "JumpingAutomataModel" "found" "[Z") (by decide +kernel)
  refine lv_iconst (v := nI 0) hx hb dX11_goesRound_0 (by decide) ?_
  refine lv_istore (lv' := [(5, .int (nI 0)), (0, .ref (g.2.2.2 0)), (1, .int (nI bg)), (2, .int (nI q)), (3, .int (nI mt)), (4, .int (nI cd))]) hx hb dX11_goesRound_1 hl (by decide) rfl (fun ls hl => ?_)
  have lp3 : ∀ (fu : Nat), ∀ (x0 : Nat) (f : Nat → Nat), (x0 ≤ 3) → (GrO (σ.2.1 13) f (grL (σ.2.1 0) (σ.1 12) bg 1 q mt cd x0)) → 3 - x0 < fu → ∀ (H : Heap) (locs : List Loc), va_P (g.1, g.2.1) vwCl (wM g (sA σ 13 f) ++ tl) H → va_D A (wM g (sA σ 13 f) ++ tl) → va_S A s.heap H locs → ∀ ls : Array Slot, lv_has ls 8 [(0, .ref (g.2.2.2 0)), (1, .int (nI bg)), (2, .int (nI q)), (3, .int (nI mt)), (4, .int (nI cd)), (5, .int (nI x0))] → W p l e r_c_X11_goesRound_d3 s m ([.ref (g.2.2.2 0), .int (nI bg), .int (nI q), .int (nI mt), .int (nI cd)] : List Value).toArray below meth c H locs 0 0 Q (F0 m 3 ls []) := by
    intro fu
    induction fu with
    | zero => intro x0 f h1 h2 hf; exact absurd hf (Nat.not_lt_zero _)
    | succ fu ih3 =>
      intro x0 f h1 h2 hf H locs hP hD hS ls hl
      refine lv_iload hx hb dX11_goesRound_3 (lv_at hl 5 rfl) ?_
      refine lv_iconst (v := nI 3) hx hb dX11_goesRound_5 (by decide) ?_
      refine jn_cge hx hb (by omega) (by decide) (tgt := 121) dX11_goesRound_6 (by decide) (fun c_6 => ?_) (fun c_6 => ?_)
      · exact hq _ _ _ _ (f) dX11_goesRound_121 (gro_iff h2 (fun z => by rw [show x0 = 3 by omega]; exact Iff.rfl)) hP hD hS
      · refine lv_iload hx hb dX11_goesRound_9 (lv_at hl 4 rfl) ?_
        refine lv_iload hx hb dX11_goesRound_11 (lv_at hl 5 rfl) ?_
        have jp33 : ∀ v33 : Nat, v33 = (wt x0) → W p l e r_c_X11_goesRound_d3 s m ([.ref (g.2.2.2 0), .int (nI bg), .int (nI q), .int (nI mt), .int (nI cd)] : List Value).toArray below meth c H locs 0 0 Q (F0 m 33 ls [.int (nI v33), .int (nI cd)]) := by
          intro v33 ev33
          have hcs := cs5_wt (l := x0) hcd.1 hcd.2 (by decide) (by omega)
          rw [← ev33] at hcs
          refine jn_iadd hx hb dX11_goesRound_33 ?_
          refine lv_istore (lv' := [(6, .int (nI (cd + v33))), (0, .ref (g.2.2.2 0)), (1, .int (nI bg)), (2, .int (nI q)), (3, .int (nI mt)), (4, .int (nI cd)), (5, .int (nI x0))]) hx hb dX11_goesRound_34 hl (by decide) rfl (fun ls hl => ?_)
          refine lv_iconst (v := nI 0) hx hb dX11_goesRound_36 (by decide) ?_
          refine lv_istore (lv' := [(7, .int (nI 0)), (6, .int (nI (cd + v33))), (0, .ref (g.2.2.2 0)), (1, .int (nI bg)), (2, .int (nI q)), (3, .int (nI mt)), (4, .int (nI cd)), (5, .int (nI x0))]) hx hb dX11_goesRound_37 hl (by decide) rfl (fun ls hl => ?_)
          have lp39 : ∀ (fu : Nat), ∀ (t0 : Nat) (f : Nat → Nat), (t0 ≤ 5) → (GrO (σ.2.1 13) f (grI (σ.2.1 0) (σ.1 12) bg 1 q mt cd x0 t0)) → 5 - t0 < fu → ∀ (H : Heap) (locs : List Loc), va_P (g.1, g.2.1) vwCl (wM g (sA σ 13 f) ++ tl) H → va_D A (wM g (sA σ 13 f) ++ tl) → va_S A s.heap H locs → ∀ ls : Array Slot, lv_has ls 8 [(0, .ref (g.2.2.2 0)), (1, .int (nI bg)), (2, .int (nI q)), (3, .int (nI mt)), (4, .int (nI cd)), (5, .int (nI x0)), (6, .int (nI (cd + v33))), (7, .int (nI t0))] → W p l e r_c_X11_goesRound_d3 s m ([.ref (g.2.2.2 0), .int (nI bg), .int (nI q), .int (nI mt), .int (nI cd)] : List Value).toArray below meth c H locs 0 0 Q (F0 m 39 ls []) := by
            intro fu
            induction fu with
            | zero => intro t0 f h5 h6 hf; exact absurd hf (Nat.not_lt_zero _)
            | succ fu ih39 =>
              intro t0 f h5 h6 hf H locs hP hD hS ls hl
              refine lv_iload hx hb dX11_goesRound_39 (lv_at hl 7 rfl) ?_
              refine lv_iconst (v := nI 5) hx hb dX11_goesRound_41 (by decide) ?_
              refine jn_cge hx hb (by omega) (by decide) (tgt := 115) dX11_goesRound_42 (by decide) (fun c_42 => ?_) (fun c_42 => ?_)
              · refine lv_iinc (v := nI (x0 + 1)) (lv' := [(5, .int (nI (x0 + 1))), (0, .ref (g.2.2.2 0)), (1, .int (nI bg)), (2, .int (nI q)), (3, .int (nI mt)), (4, .int (nI cd)), (6, .int (nI (cd + v33))), (7, .int (nI t0))]) hx hb dX11_goesRound_115 hl (k := 5) rfl (jn_ii _ 1) (by decide) rfl (fun ls hl => ?_)
                refine lv_goto (tgt := 3) hx hb dX11_goesRound_118 (by decide) ?_
                exact ih3 (x0 + 1) f (by omega) (gri_end h6 (by omega)) (by omega) _ _ hP hD hS _ (lv_sub hl [1, 2, 3, 4, 5, 0] rfl)
              · refine lv_aload_n hx hb dX11_goesRound_45 rfl (lv_at hl 0 rfl) ?_
                refine lv_iload_n hx hb dX11_goesRound_46 rfl (lv_at hl 2 rfl) ?_
                refine lv_iload hx hb dX11_goesRound_47 (lv_at hl 5 rfl) ?_
                refine vp_callSi (va_Run.run (va_runV (As := [.int (nI q), .int (nI x0)]) (rest := []) ⟨hx, hb, hml, hown, hts⟩ (c_X11_next l g tl (sA σ 13 f) q x0 hq1 (by omega)) (cwV 2 hts gX11_goesRound_X11_next rfl rfl rfl (by decide +kernel) ⟨Nat.le_of_ble_eq_true rfl, Nat.le_of_ble_eq_true rfl⟩) (okPV hK hP rfl (gM0 g (sA σ 13 f) tl)) rfl rfl hl.1 rfl (lv_room (Nat.le_of_ble_eq_true rfl)) dX11_goesRound_49 ⟨Nat.le_of_ble_eq_true rfl, Nat.le_of_ble_eq_true rfl⟩)) (fun r_49 h_49 => ?_)
                have h_49 : r_49 = (nI ((σ.2.1 0) (q * 3 + x0))) := h_49
                subst h_49
                refine lv_aload_n hx hb dX11_goesRound_52 rfl (lv_at hl 0 rfl) ?_
                refine va_get (D := (g.1, g.2.1)) (ci := 13) (v := .int (nI (σ.1 12))) (C := RX11) (T := TX11) (N := 30) hx hb hts iX11 hown hK.1 hP 0 (gM0 g (sA σ 13 f) tl) rfl 28 (by decide) k99 (fun _ h9 => h9) rfl dX11_goesRound_53 ?_
                refine jn_iand hx hb dX11_goesRound_56 ?_
                refine lv_iload hx hb dX11_goesRound_57 (lv_at hl 7 rfl) ?_
                refine vp_callSi (va_Run.run (va_runS (As := [.int (nI (((σ.2.1 0) (q * 3 + x0)) &&& (σ.1 12))), .int (nI t0)]) (rest := []) ⟨hx, hb, hml, hown, hts⟩ (c_X11_has l (((σ.2.1 0) (q * 3 + x0)) &&& (σ.1 12)) t0 (Nat.lt_trans (and_lt hU) (by decide)) (by omega)) (va_cwS 2 hts gX11_goesRound_X11_has rfl rfl rfl (by decide +kernel) ⟨Nat.le_of_ble_eq_true rfl, Nat.le_of_ble_eq_true rfl⟩) okTS rfl rfl hl.1 rfl (lv_room (Nat.le_of_ble_eq_true rfl)) dX11_goesRound_59 ⟨Nat.le_of_ble_eq_true rfl, Nat.le_of_ble_eq_true rfl⟩)) (fun r_59 h_59 => ?_)
                subst h_59
                refine jn_bne hx hb (tgt := 68) dX11_goesRound_62 (by decide) (fun c_62 => ?_) (fun c_62 => ?_)
                · refine lv_iload hx hb dX11_goesRound_68 (lv_at hl 7 rfl) ?_
                  refine lv_iload_n hx hb dX11_goesRound_70 rfl (lv_at hl 1 rfl) ?_
                  refine jn_cne hx hb (by omega) (by omega) (tgt := 85) dX11_goesRound_71 (by decide) (fun c_71 => ?_) (fun c_71 => ?_)
                  · refine lv_iload_n hx hb dX11_goesRound_85 rfl (lv_at hl 3 rfl) ?_
                    refine lv_iload hx hb dX11_goesRound_86 (lv_at hl 7 rfl) ?_
                    refine vp_callSi (va_Run.run (va_runS (As := [.int (nI mt), .int (nI t0)]) (rest := []) ⟨hx, hb, hml, hown, hts⟩ (c_X11_has l mt t0 (by omega) (by omega)) (va_cwS 2 hts gX11_goesRound_X11_has rfl rfl rfl (by decide +kernel) ⟨Nat.le_of_ble_eq_true rfl, Nat.le_of_ble_eq_true rfl⟩) okTS rfl rfl hl.1 rfl (lv_room (Nat.le_of_ble_eq_true rfl)) dX11_goesRound_88 ⟨Nat.le_of_ble_eq_true rfl, Nat.le_of_ble_eq_true rfl⟩)) (fun r_88 h_88 => ?_)
                    subst h_88
                    refine jn_bne hx hb (tgt := 109) dX11_goesRound_91 (by decide) (fun c_91 => ?_) (fun c_91 => ?_)
                    · refine lv_iinc (v := nI (t0 + 1)) (lv' := [(7, .int (nI (t0 + 1))), (0, .ref (g.2.2.2 0)), (1, .int (nI bg)), (2, .int (nI q)), (3, .int (nI mt)), (4, .int (nI cd)), (5, .int (nI x0)), (6, .int (nI (cd + v33)))]) hx hb dX11_goesRound_109 hl (k := 7) rfl (jn_ii _ 1) (by decide) rfl (fun ls hl => ?_)
                      refine lv_goto (tgt := 39) hx hb dX11_goesRound_112 (by decide) ?_
                      exact ih39 (t0 + 1) f (by omega) (by first | exact gri_no h6 c_62 | exact gri_hit h6 c_62 (by omega) ev33 | exact gri_met h6 c_71 c_91 | exact gri_call h6 c_62 c_71 c_91 ev33 h_106) (by omega) _ _ hP hD hS _ (lv_sub hl [1, 2, 3, 4, 5, 6, 7, 0] rfl)
                    · refine lv_aload_n hx hb dX11_goesRound_94 rfl (lv_at hl 0 rfl) ?_
                      refine lv_iload_n hx hb dX11_goesRound_95 rfl (lv_at hl 1 rfl) ?_
                      refine lv_iload hx hb dX11_goesRound_96 (lv_at hl 7 rfl) ?_
                      refine lv_iload_n hx hb dX11_goesRound_98 rfl (lv_at hl 3 rfl) ?_
                      refine lv_iconst (v := nI 1) hx hb dX11_goesRound_99 (by decide) ?_
                      refine lv_iload hx hb dX11_goesRound_100 (lv_at hl 7 rfl) ?_
                      refine jn_shl1 hx hb (by omega) dX11_goesRound_102 ?_
                      refine jn_ior hx hb dX11_goesRound_103 ?_
                      refine lv_iload hx hb dX11_goesRound_104 (lv_at hl 6 rfl) ?_
                      refine jn_callv (va_runV (As := [.int (nI bg), .int (nI t0), .int (nI (mt ||| (2 ^ t0))), .int (nI (cd + v33))]) (rest := []) ⟨hx, hb, hml, hown, hts⟩ (c_X11_goesRound_d4 l g tl H.size (sA σ 13 f) bg t0 (mt ||| (2 ^ t0)) (cd + v33) hT hU hbg (by omega) (or32 hmt ((by decide : ∀ k, k < 5 → 2 ^ k < 32) t0 (by omega))) (by have := unr_put (n := 5) (show t0 < 5 by omega) c_91; omega) ⟨hcs.1.1, hcs.2⟩ (fun z hz => (h6 z hz).1)) (cwV 4 hts gX11_goesRound_X11_goesRound rfl rfl rfl (by decide +kernel) ⟨Nat.le_of_ble_eq_true rfl, Nat.le_of_ble_eq_true rfl⟩) (okWV hK hP hD rfl (gM0 g (sA σ 13 f) tl)) rfl rfl hl.1 rfl (lv_room (Nat.le_of_ble_eq_true rfl)) dX11_goesRound_106 ⟨Nat.le_of_ble_eq_true rfl, Nat.le_of_ble_eq_true rfl⟩) hD hS hAA (fun u H locs hw_ hP hD hS => ?_)
                      obtain ⟨f13_106, rfl⟩ : ∃ z, z = u := ⟨_, rfl⟩
                      have h_106 := hw_
                      have h_106 : GrO (f) f13_106 (grW (σ.2.1 0) (σ.1 12) bg 1 t0 (mt ||| (2 ^ t0)) (cd + v33)) := h_106
                      have hP : va_P (g.1, g.2.1) vwCl (wM g (sA (sA σ 13 f) 13 f13_106) ++ tl) H := hP
                      have hD : va_D A (wM g (sA (sA σ 13 f) 13 f13_106) ++ tl) := hD
                      refine lv_iinc (v := nI (t0 + 1)) (lv' := [(7, .int (nI (t0 + 1))), (0, .ref (g.2.2.2 0)), (1, .int (nI bg)), (2, .int (nI q)), (3, .int (nI mt)), (4, .int (nI cd)), (5, .int (nI x0)), (6, .int (nI (cd + v33)))]) hx hb dX11_goesRound_109 hl (k := 7) rfl (jn_ii _ 1) (by decide) rfl (fun ls hl => ?_)
                      refine lv_goto (tgt := 39) hx hb dX11_goesRound_112 (by decide) ?_
                      exact ih39 (t0 + 1) f13_106 (by omega) (by first | exact gri_no h6 c_62 | exact gri_hit h6 c_62 (by omega) ev33 | exact gri_met h6 c_71 c_91 | exact gri_call h6 c_62 c_71 c_91 ev33 h_106) (by omega) _ _ hP hD hS _ (lv_sub hl [1, 2, 3, 4, 5, 6, 7, 0] rfl)
                  · refine lv_aload_n hx hb dX11_goesRound_74 rfl (lv_at hl 0 rfl) ?_
                    refine va_get (D := (g.1, g.2.1)) (ci := 13) (v := .ref (g.2.2.2 16)) (C := RX11) (T := TX11) (N := 30) hx hb hts iX11 hown hK.1 hP 0 (gM0 g (sA σ 13 f) tl) rfl 27 (by decide) k95 (fun _ h9 => h9) rfl dX11_goesRound_75 ?_
                    refine lv_iload hx hb dX11_goesRound_78 (lv_at hl 6 rfl) ?_
                    refine lv_iconst (v := nI 1) hx hb dX11_goesRound_80 (by decide) ?_
                    refine jn_zast (f := f) hx hb hK.1 hP hD hS 16 2 (gM16 g (sA σ 13 f) tl) rfl (by omega) (Nat.le_of_ble_eq_true rfl) (by decide) (uM_A13 g (sA σ 13 f) tl _) dX11_goesRound_81 (fun H locs hP hD hS => ?_)
                    refine lv_goto (tgt := 109) hx hb dX11_goesRound_82 (by decide) ?_
                    refine lv_iinc (v := nI (t0 + 1)) (lv' := [(7, .int (nI (t0 + 1))), (0, .ref (g.2.2.2 0)), (1, .int (nI bg)), (2, .int (nI q)), (3, .int (nI mt)), (4, .int (nI cd)), (5, .int (nI x0)), (6, .int (nI (cd + v33)))]) hx hb dX11_goesRound_109 hl (k := 7) rfl (jn_ii _ 1) (by decide) rfl (fun ls hl => ?_)
                    refine lv_goto (tgt := 39) hx hb dX11_goesRound_112 (by decide) ?_
                    exact ih39 (t0 + 1) (va_up f (cd + v33) 1) (by omega) (by first | exact gri_no h6 c_62 | exact gri_hit h6 c_62 (by omega) ev33 | exact gri_met h6 c_71 c_91 | exact gri_call h6 c_62 c_71 c_91 ev33 h_106) (by omega) _ _ hP hD hS _ (lv_sub hl [1, 2, 3, 4, 5, 6, 7, 0] rfl)
                · refine lv_goto (tgt := 109) hx hb dX11_goesRound_65 (by decide) ?_
                  refine lv_iinc (v := nI (t0 + 1)) (lv' := [(7, .int (nI (t0 + 1))), (0, .ref (g.2.2.2 0)), (1, .int (nI bg)), (2, .int (nI q)), (3, .int (nI mt)), (4, .int (nI cd)), (5, .int (nI x0)), (6, .int (nI (cd + v33)))]) hx hb dX11_goesRound_109 hl (k := 7) rfl (jn_ii _ 1) (by decide) rfl (fun ls hl => ?_)
                  refine lv_goto (tgt := 39) hx hb dX11_goesRound_112 (by decide) ?_
                  exact ih39 (t0 + 1) f (by omega) (by first | exact gri_no h6 c_62 | exact gri_hit h6 c_62 (by omega) ev33 | exact gri_met h6 c_71 c_91 | exact gri_call h6 c_62 c_71 c_91 ev33 h_106) (by omega) _ _ hP hD hS _ (lv_sub hl [1, 2, 3, 4, 5, 6, 7, 0] rfl)
          exact lp39 _ 0 f (by decide) (gri_0 h2) (Nat.lt_succ_self _) _ _ hP hD hS _ (lv_sub hl [2, 3, 4, 5, 6, 7, 1, 0] rfl)
        refine jn_zne hx hb (by omega) (tgt := 21) dX11_goesRound_13 (by decide) (fun c_13 => ?_) (fun c_13 => ?_)
        · refine lv_iload hx hb dX11_goesRound_21 (lv_at hl 5 rfl) ?_
          refine lv_iconst (v := nI 1) hx hb dX11_goesRound_23 (by decide) ?_
          refine jn_cne hx hb (by omega) (by decide) (tgt := 32) dX11_goesRound_24 (by decide) (fun c_24 => ?_) (fun c_24 => ?_)
          · refine lv_iconst (v := nI 1) hx hb dX11_goesRound_32 (by decide) ?_
            exact jp33 1 (by unfold wt; rw [if_neg c_13]; first | exact (if_neg c_24).symm | exact (if_pos (by omega)).symm)
          · refine lv_bipush (v := nI 10) hx hb dX11_goesRound_27 (by decide) ?_
            refine lv_goto (tgt := 33) hx hb dX11_goesRound_29 (by decide) ?_
            exact jp33 10 (by unfold wt; rw [if_neg c_13]; first | exact (if_neg c_24).symm | exact (if_pos (by omega)).symm)
        · refine lv_bipush (v := nI 100) hx hb dX11_goesRound_16 (by decide) ?_
          refine lv_goto (tgt := 33) hx hb dX11_goesRound_18 (by decide) ?_
          exact jp33 100 (by rw [show x0 = 0 by omega]; rfl)
  exact lp3 _ 0 (σ.2.1 13) (by decide) (gro_0 hFd (fun z => grl_0)) (Nat.lt_succ_self _) _ _ hP hD hS _ (lv_sub hl [1, 2, 3, 4, 5, 0] rfl)

abbrev r_c_X11_goesRound_d2 : Room := { frames := 3, cells := 0, slots := 0, locals := 76 }
set_option maxHeartbeats 4000000 in
set_option maxRecDepth 100000 in
theorem c_X11_goesRound_d2 (l : Launch) (g : GC) (tl : va_W) (sz : Nat) (σ : SS) (bg q mt cd : Nat) (hT : OkT (σ.2.1 0)) (hU : (σ.1 12) < 32) (hbg : bg < 5) (hq1 : q < 5) (hmt : mt < 32) (hu : unr 5 mt = 2) (hcd : cd < 1000 ∧ dsum cd = 2) (hFd : ∀ k, k < 1000 → (σ.2.1 13) k < 2) : Met l yX11_goesRound wsX11_goesRound r_c_X11_goesRound_d2 (va_Pc [.ref (g.2.2.2 0), .int (nI bg), .int (nI q), .int (nI mt), .int (nI cd)] (PW g (wM g σ ++ tl) sz)) (va_Qv (fun (f13 : (Nat → Nat)) => GrO (σ.2.1 13) f13 (grW (σ.2.1 0) (σ.1 12) bg 3 q mt cd)) (fun (f13 : (Nat → Nat)) t => BW g (va_A (wM g σ ++ tl) sz) (wM g (sA σ 13 f13) ++ tl) t) (va_A (wM g σ ++ tl) sz)) 0 0 (va_A (wM g σ ++ tl) sz) := by
  refine jn_sv (wf := fun f13 : (Nat → Nat) => wM g (sA σ 13 f13) ++ tl) (cc := cX11_goesRound) (maxL := 8) (own := RX11) (by decide) rfl rfl (Nat.le_of_ble_eq_true rfl) ?_
  intro p e s m below meth c Q A hx hb hml hown hts hK hP hD hS hAA hq ls hl
  obtain ⟨H, eH⟩ : ∃ z, z = s.heap := ⟨_, rfl⟩
  obtain ⟨locs, el⟩ : ∃ z : List Loc, z = [] := ⟨_, rfl⟩
  rw [← eH] at hP
  have hS : va_S A s.heap H locs := by rw [eH, el]; exact hS
  have goal0 : W p l e r_c_X11_goesRound_d2 s m ([.ref (g.2.2.2 0), .int (nI bg), .int (nI q), .int (nI mt), .int (nI cd)] : List Value).toArray below meth c H locs 0 0 Q (F0 m 0 ls []) → W p l e r_c_X11_goesRound_d2 s m ([.ref (g.2.2.2 0), .int (nI bg), .int (nI q), .int (nI mt), .int (nI cd)] : List Value).toArray below meth c s.heap [] 0 0 Q (F0 m 0 ls []) := fun h => by rw [eH, el] at h; exact h
  refine goal0 ?_
  have hl : lv_has ls 8 [(0, .ref (g.2.2.2 0)), (1, .int (nI bg)), (2, .int (nI q)), (3, .int (nI mt)), (4, .int (nI cd))] := hl
  have iX11 : ∀ w ∈ wsX110, w ∈ wsX11_goesRound := by decide +kernel
  have k99 := hts (.fieldLink RX11 99 "JumpingAutomataModel" "useful" "I") (by decide +kernel)
  have k95 := hts (.fieldLink RX11 95 "JumpingAutomataModel" "found" "[Z") (by decide +kernel)
  refine lv_iconst (v := nI 0) hx hb dX11_goesRound_0 (by decide) ?_
  refine lv_istore (lv' := [(5, .int (nI 0)), (0, .ref (g.2.2.2 0)), (1, .int (nI bg)), (2, .int (nI q)), (3, .int (nI mt)), (4, .int (nI cd))]) hx hb dX11_goesRound_1 hl (by decide) rfl (fun ls hl => ?_)
  have lp3 : ∀ (fu : Nat), ∀ (x0 : Nat) (f : Nat → Nat), (x0 ≤ 3) → (GrO (σ.2.1 13) f (grL (σ.2.1 0) (σ.1 12) bg 2 q mt cd x0)) → 3 - x0 < fu → ∀ (H : Heap) (locs : List Loc), va_P (g.1, g.2.1) vwCl (wM g (sA σ 13 f) ++ tl) H → va_D A (wM g (sA σ 13 f) ++ tl) → va_S A s.heap H locs → ∀ ls : Array Slot, lv_has ls 8 [(0, .ref (g.2.2.2 0)), (1, .int (nI bg)), (2, .int (nI q)), (3, .int (nI mt)), (4, .int (nI cd)), (5, .int (nI x0))] → W p l e r_c_X11_goesRound_d2 s m ([.ref (g.2.2.2 0), .int (nI bg), .int (nI q), .int (nI mt), .int (nI cd)] : List Value).toArray below meth c H locs 0 0 Q (F0 m 3 ls []) := by
    intro fu
    induction fu with
    | zero => intro x0 f h1 h2 hf; exact absurd hf (Nat.not_lt_zero _)
    | succ fu ih3 =>
      intro x0 f h1 h2 hf H locs hP hD hS ls hl
      refine lv_iload hx hb dX11_goesRound_3 (lv_at hl 5 rfl) ?_
      refine lv_iconst (v := nI 3) hx hb dX11_goesRound_5 (by decide) ?_
      refine jn_cge hx hb (by omega) (by decide) (tgt := 121) dX11_goesRound_6 (by decide) (fun c_6 => ?_) (fun c_6 => ?_)
      · exact hq _ _ _ _ (f) dX11_goesRound_121 (gro_iff h2 (fun z => by rw [show x0 = 3 by omega]; exact Iff.rfl)) hP hD hS
      · refine lv_iload hx hb dX11_goesRound_9 (lv_at hl 4 rfl) ?_
        refine lv_iload hx hb dX11_goesRound_11 (lv_at hl 5 rfl) ?_
        have jp33 : ∀ v33 : Nat, v33 = (wt x0) → W p l e r_c_X11_goesRound_d2 s m ([.ref (g.2.2.2 0), .int (nI bg), .int (nI q), .int (nI mt), .int (nI cd)] : List Value).toArray below meth c H locs 0 0 Q (F0 m 33 ls [.int (nI v33), .int (nI cd)]) := by
          intro v33 ev33
          have hcs := cs5_wt (l := x0) hcd.1 hcd.2 (by decide) (by omega)
          rw [← ev33] at hcs
          refine jn_iadd hx hb dX11_goesRound_33 ?_
          refine lv_istore (lv' := [(6, .int (nI (cd + v33))), (0, .ref (g.2.2.2 0)), (1, .int (nI bg)), (2, .int (nI q)), (3, .int (nI mt)), (4, .int (nI cd)), (5, .int (nI x0))]) hx hb dX11_goesRound_34 hl (by decide) rfl (fun ls hl => ?_)
          refine lv_iconst (v := nI 0) hx hb dX11_goesRound_36 (by decide) ?_
          refine lv_istore (lv' := [(7, .int (nI 0)), (6, .int (nI (cd + v33))), (0, .ref (g.2.2.2 0)), (1, .int (nI bg)), (2, .int (nI q)), (3, .int (nI mt)), (4, .int (nI cd)), (5, .int (nI x0))]) hx hb dX11_goesRound_37 hl (by decide) rfl (fun ls hl => ?_)
          have lp39 : ∀ (fu : Nat), ∀ (t0 : Nat) (f : Nat → Nat), (t0 ≤ 5) → (GrO (σ.2.1 13) f (grI (σ.2.1 0) (σ.1 12) bg 2 q mt cd x0 t0)) → 5 - t0 < fu → ∀ (H : Heap) (locs : List Loc), va_P (g.1, g.2.1) vwCl (wM g (sA σ 13 f) ++ tl) H → va_D A (wM g (sA σ 13 f) ++ tl) → va_S A s.heap H locs → ∀ ls : Array Slot, lv_has ls 8 [(0, .ref (g.2.2.2 0)), (1, .int (nI bg)), (2, .int (nI q)), (3, .int (nI mt)), (4, .int (nI cd)), (5, .int (nI x0)), (6, .int (nI (cd + v33))), (7, .int (nI t0))] → W p l e r_c_X11_goesRound_d2 s m ([.ref (g.2.2.2 0), .int (nI bg), .int (nI q), .int (nI mt), .int (nI cd)] : List Value).toArray below meth c H locs 0 0 Q (F0 m 39 ls []) := by
            intro fu
            induction fu with
            | zero => intro t0 f h5 h6 hf; exact absurd hf (Nat.not_lt_zero _)
            | succ fu ih39 =>
              intro t0 f h5 h6 hf H locs hP hD hS ls hl
              refine lv_iload hx hb dX11_goesRound_39 (lv_at hl 7 rfl) ?_
              refine lv_iconst (v := nI 5) hx hb dX11_goesRound_41 (by decide) ?_
              refine jn_cge hx hb (by omega) (by decide) (tgt := 115) dX11_goesRound_42 (by decide) (fun c_42 => ?_) (fun c_42 => ?_)
              · refine lv_iinc (v := nI (x0 + 1)) (lv' := [(5, .int (nI (x0 + 1))), (0, .ref (g.2.2.2 0)), (1, .int (nI bg)), (2, .int (nI q)), (3, .int (nI mt)), (4, .int (nI cd)), (6, .int (nI (cd + v33))), (7, .int (nI t0))]) hx hb dX11_goesRound_115 hl (k := 5) rfl (jn_ii _ 1) (by decide) rfl (fun ls hl => ?_)
                refine lv_goto (tgt := 3) hx hb dX11_goesRound_118 (by decide) ?_
                exact ih3 (x0 + 1) f (by omega) (gri_end h6 (by omega)) (by omega) _ _ hP hD hS _ (lv_sub hl [1, 2, 3, 4, 5, 0] rfl)
              · refine lv_aload_n hx hb dX11_goesRound_45 rfl (lv_at hl 0 rfl) ?_
                refine lv_iload_n hx hb dX11_goesRound_46 rfl (lv_at hl 2 rfl) ?_
                refine lv_iload hx hb dX11_goesRound_47 (lv_at hl 5 rfl) ?_
                refine vp_callSi (va_Run.run (va_runV (As := [.int (nI q), .int (nI x0)]) (rest := []) ⟨hx, hb, hml, hown, hts⟩ (c_X11_next l g tl (sA σ 13 f) q x0 hq1 (by omega)) (cwV 2 hts gX11_goesRound_X11_next rfl rfl rfl (by decide +kernel) ⟨Nat.le_of_ble_eq_true rfl, Nat.le_of_ble_eq_true rfl⟩) (okPV hK hP rfl (gM0 g (sA σ 13 f) tl)) rfl rfl hl.1 rfl (lv_room (Nat.le_of_ble_eq_true rfl)) dX11_goesRound_49 ⟨Nat.le_of_ble_eq_true rfl, Nat.le_of_ble_eq_true rfl⟩)) (fun r_49 h_49 => ?_)
                have h_49 : r_49 = (nI ((σ.2.1 0) (q * 3 + x0))) := h_49
                subst h_49
                refine lv_aload_n hx hb dX11_goesRound_52 rfl (lv_at hl 0 rfl) ?_
                refine va_get (D := (g.1, g.2.1)) (ci := 13) (v := .int (nI (σ.1 12))) (C := RX11) (T := TX11) (N := 30) hx hb hts iX11 hown hK.1 hP 0 (gM0 g (sA σ 13 f) tl) rfl 28 (by decide) k99 (fun _ h9 => h9) rfl dX11_goesRound_53 ?_
                refine jn_iand hx hb dX11_goesRound_56 ?_
                refine lv_iload hx hb dX11_goesRound_57 (lv_at hl 7 rfl) ?_
                refine vp_callSi (va_Run.run (va_runS (As := [.int (nI (((σ.2.1 0) (q * 3 + x0)) &&& (σ.1 12))), .int (nI t0)]) (rest := []) ⟨hx, hb, hml, hown, hts⟩ (c_X11_has l (((σ.2.1 0) (q * 3 + x0)) &&& (σ.1 12)) t0 (Nat.lt_trans (and_lt hU) (by decide)) (by omega)) (va_cwS 2 hts gX11_goesRound_X11_has rfl rfl rfl (by decide +kernel) ⟨Nat.le_of_ble_eq_true rfl, Nat.le_of_ble_eq_true rfl⟩) okTS rfl rfl hl.1 rfl (lv_room (Nat.le_of_ble_eq_true rfl)) dX11_goesRound_59 ⟨Nat.le_of_ble_eq_true rfl, Nat.le_of_ble_eq_true rfl⟩)) (fun r_59 h_59 => ?_)
                subst h_59
                refine jn_bne hx hb (tgt := 68) dX11_goesRound_62 (by decide) (fun c_62 => ?_) (fun c_62 => ?_)
                · refine lv_iload hx hb dX11_goesRound_68 (lv_at hl 7 rfl) ?_
                  refine lv_iload_n hx hb dX11_goesRound_70 rfl (lv_at hl 1 rfl) ?_
                  refine jn_cne hx hb (by omega) (by omega) (tgt := 85) dX11_goesRound_71 (by decide) (fun c_71 => ?_) (fun c_71 => ?_)
                  · refine lv_iload_n hx hb dX11_goesRound_85 rfl (lv_at hl 3 rfl) ?_
                    refine lv_iload hx hb dX11_goesRound_86 (lv_at hl 7 rfl) ?_
                    refine vp_callSi (va_Run.run (va_runS (As := [.int (nI mt), .int (nI t0)]) (rest := []) ⟨hx, hb, hml, hown, hts⟩ (c_X11_has l mt t0 (by omega) (by omega)) (va_cwS 2 hts gX11_goesRound_X11_has rfl rfl rfl (by decide +kernel) ⟨Nat.le_of_ble_eq_true rfl, Nat.le_of_ble_eq_true rfl⟩) okTS rfl rfl hl.1 rfl (lv_room (Nat.le_of_ble_eq_true rfl)) dX11_goesRound_88 ⟨Nat.le_of_ble_eq_true rfl, Nat.le_of_ble_eq_true rfl⟩)) (fun r_88 h_88 => ?_)
                    subst h_88
                    refine jn_bne hx hb (tgt := 109) dX11_goesRound_91 (by decide) (fun c_91 => ?_) (fun c_91 => ?_)
                    · refine lv_iinc (v := nI (t0 + 1)) (lv' := [(7, .int (nI (t0 + 1))), (0, .ref (g.2.2.2 0)), (1, .int (nI bg)), (2, .int (nI q)), (3, .int (nI mt)), (4, .int (nI cd)), (5, .int (nI x0)), (6, .int (nI (cd + v33)))]) hx hb dX11_goesRound_109 hl (k := 7) rfl (jn_ii _ 1) (by decide) rfl (fun ls hl => ?_)
                      refine lv_goto (tgt := 39) hx hb dX11_goesRound_112 (by decide) ?_
                      exact ih39 (t0 + 1) f (by omega) (by first | exact gri_no h6 c_62 | exact gri_hit h6 c_62 (by omega) ev33 | exact gri_met h6 c_71 c_91 | exact gri_call h6 c_62 c_71 c_91 ev33 h_106) (by omega) _ _ hP hD hS _ (lv_sub hl [1, 2, 3, 4, 5, 6, 7, 0] rfl)
                    · refine lv_aload_n hx hb dX11_goesRound_94 rfl (lv_at hl 0 rfl) ?_
                      refine lv_iload_n hx hb dX11_goesRound_95 rfl (lv_at hl 1 rfl) ?_
                      refine lv_iload hx hb dX11_goesRound_96 (lv_at hl 7 rfl) ?_
                      refine lv_iload_n hx hb dX11_goesRound_98 rfl (lv_at hl 3 rfl) ?_
                      refine lv_iconst (v := nI 1) hx hb dX11_goesRound_99 (by decide) ?_
                      refine lv_iload hx hb dX11_goesRound_100 (lv_at hl 7 rfl) ?_
                      refine jn_shl1 hx hb (by omega) dX11_goesRound_102 ?_
                      refine jn_ior hx hb dX11_goesRound_103 ?_
                      refine lv_iload hx hb dX11_goesRound_104 (lv_at hl 6 rfl) ?_
                      refine jn_callv (va_runV (As := [.int (nI bg), .int (nI t0), .int (nI (mt ||| (2 ^ t0))), .int (nI (cd + v33))]) (rest := []) ⟨hx, hb, hml, hown, hts⟩ (c_X11_goesRound_d3 l g tl H.size (sA σ 13 f) bg t0 (mt ||| (2 ^ t0)) (cd + v33) hT hU hbg (by omega) (or32 hmt ((by decide : ∀ k, k < 5 → 2 ^ k < 32) t0 (by omega))) (by have := unr_put (n := 5) (show t0 < 5 by omega) c_91; omega) ⟨hcs.1.1, hcs.2⟩ (fun z hz => (h6 z hz).1)) (cwV 4 hts gX11_goesRound_X11_goesRound rfl rfl rfl (by decide +kernel) ⟨Nat.le_of_ble_eq_true rfl, Nat.le_of_ble_eq_true rfl⟩) (okWV hK hP hD rfl (gM0 g (sA σ 13 f) tl)) rfl rfl hl.1 rfl (lv_room (Nat.le_of_ble_eq_true rfl)) dX11_goesRound_106 ⟨Nat.le_of_ble_eq_true rfl, Nat.le_of_ble_eq_true rfl⟩) hD hS hAA (fun u H locs hw_ hP hD hS => ?_)
                      obtain ⟨f13_106, rfl⟩ : ∃ z, z = u := ⟨_, rfl⟩
                      have h_106 := hw_
                      have h_106 : GrO (f) f13_106 (grW (σ.2.1 0) (σ.1 12) bg 2 t0 (mt ||| (2 ^ t0)) (cd + v33)) := h_106
                      have hP : va_P (g.1, g.2.1) vwCl (wM g (sA (sA σ 13 f) 13 f13_106) ++ tl) H := hP
                      have hD : va_D A (wM g (sA (sA σ 13 f) 13 f13_106) ++ tl) := hD
                      refine lv_iinc (v := nI (t0 + 1)) (lv' := [(7, .int (nI (t0 + 1))), (0, .ref (g.2.2.2 0)), (1, .int (nI bg)), (2, .int (nI q)), (3, .int (nI mt)), (4, .int (nI cd)), (5, .int (nI x0)), (6, .int (nI (cd + v33)))]) hx hb dX11_goesRound_109 hl (k := 7) rfl (jn_ii _ 1) (by decide) rfl (fun ls hl => ?_)
                      refine lv_goto (tgt := 39) hx hb dX11_goesRound_112 (by decide) ?_
                      exact ih39 (t0 + 1) f13_106 (by omega) (by first | exact gri_no h6 c_62 | exact gri_hit h6 c_62 (by omega) ev33 | exact gri_met h6 c_71 c_91 | exact gri_call h6 c_62 c_71 c_91 ev33 h_106) (by omega) _ _ hP hD hS _ (lv_sub hl [1, 2, 3, 4, 5, 6, 7, 0] rfl)
                  · refine lv_aload_n hx hb dX11_goesRound_74 rfl (lv_at hl 0 rfl) ?_
                    refine va_get (D := (g.1, g.2.1)) (ci := 13) (v := .ref (g.2.2.2 16)) (C := RX11) (T := TX11) (N := 30) hx hb hts iX11 hown hK.1 hP 0 (gM0 g (sA σ 13 f) tl) rfl 27 (by decide) k95 (fun _ h9 => h9) rfl dX11_goesRound_75 ?_
                    refine lv_iload hx hb dX11_goesRound_78 (lv_at hl 6 rfl) ?_
                    refine lv_iconst (v := nI 1) hx hb dX11_goesRound_80 (by decide) ?_
                    refine jn_zast (f := f) hx hb hK.1 hP hD hS 16 2 (gM16 g (sA σ 13 f) tl) rfl (by omega) (Nat.le_of_ble_eq_true rfl) (by decide) (uM_A13 g (sA σ 13 f) tl _) dX11_goesRound_81 (fun H locs hP hD hS => ?_)
                    refine lv_goto (tgt := 109) hx hb dX11_goesRound_82 (by decide) ?_
                    refine lv_iinc (v := nI (t0 + 1)) (lv' := [(7, .int (nI (t0 + 1))), (0, .ref (g.2.2.2 0)), (1, .int (nI bg)), (2, .int (nI q)), (3, .int (nI mt)), (4, .int (nI cd)), (5, .int (nI x0)), (6, .int (nI (cd + v33)))]) hx hb dX11_goesRound_109 hl (k := 7) rfl (jn_ii _ 1) (by decide) rfl (fun ls hl => ?_)
                    refine lv_goto (tgt := 39) hx hb dX11_goesRound_112 (by decide) ?_
                    exact ih39 (t0 + 1) (va_up f (cd + v33) 1) (by omega) (by first | exact gri_no h6 c_62 | exact gri_hit h6 c_62 (by omega) ev33 | exact gri_met h6 c_71 c_91 | exact gri_call h6 c_62 c_71 c_91 ev33 h_106) (by omega) _ _ hP hD hS _ (lv_sub hl [1, 2, 3, 4, 5, 6, 7, 0] rfl)
                · refine lv_goto (tgt := 109) hx hb dX11_goesRound_65 (by decide) ?_
                  refine lv_iinc (v := nI (t0 + 1)) (lv' := [(7, .int (nI (t0 + 1))), (0, .ref (g.2.2.2 0)), (1, .int (nI bg)), (2, .int (nI q)), (3, .int (nI mt)), (4, .int (nI cd)), (5, .int (nI x0)), (6, .int (nI (cd + v33)))]) hx hb dX11_goesRound_109 hl (k := 7) rfl (jn_ii _ 1) (by decide) rfl (fun ls hl => ?_)
                  refine lv_goto (tgt := 39) hx hb dX11_goesRound_112 (by decide) ?_
                  exact ih39 (t0 + 1) f (by omega) (by first | exact gri_no h6 c_62 | exact gri_hit h6 c_62 (by omega) ev33 | exact gri_met h6 c_71 c_91 | exact gri_call h6 c_62 c_71 c_91 ev33 h_106) (by omega) _ _ hP hD hS _ (lv_sub hl [1, 2, 3, 4, 5, 6, 7, 0] rfl)
          exact lp39 _ 0 f (by decide) (gri_0 h2) (Nat.lt_succ_self _) _ _ hP hD hS _ (lv_sub hl [2, 3, 4, 5, 6, 7, 1, 0] rfl)
        refine jn_zne hx hb (by omega) (tgt := 21) dX11_goesRound_13 (by decide) (fun c_13 => ?_) (fun c_13 => ?_)
        · refine lv_iload hx hb dX11_goesRound_21 (lv_at hl 5 rfl) ?_
          refine lv_iconst (v := nI 1) hx hb dX11_goesRound_23 (by decide) ?_
          refine jn_cne hx hb (by omega) (by decide) (tgt := 32) dX11_goesRound_24 (by decide) (fun c_24 => ?_) (fun c_24 => ?_)
          · refine lv_iconst (v := nI 1) hx hb dX11_goesRound_32 (by decide) ?_
            exact jp33 1 (by unfold wt; rw [if_neg c_13]; first | exact (if_neg c_24).symm | exact (if_pos (by omega)).symm)
          · refine lv_bipush (v := nI 10) hx hb dX11_goesRound_27 (by decide) ?_
            refine lv_goto (tgt := 33) hx hb dX11_goesRound_29 (by decide) ?_
            exact jp33 10 (by unfold wt; rw [if_neg c_13]; first | exact (if_neg c_24).symm | exact (if_pos (by omega)).symm)
        · refine lv_bipush (v := nI 100) hx hb dX11_goesRound_16 (by decide) ?_
          refine lv_goto (tgt := 33) hx hb dX11_goesRound_18 (by decide) ?_
          exact jp33 100 (by rw [show x0 = 0 by omega]; rfl)
  exact lp3 _ 0 (σ.2.1 13) (by decide) (gro_0 hFd (fun z => grl_0)) (Nat.lt_succ_self _) _ _ hP hD hS _ (lv_sub hl [1, 2, 3, 4, 5, 0] rfl)

abbrev r_c_X11_goesRound_d1 : Room := { frames := 4, cells := 0, slots := 0, locals := 103 }
set_option maxHeartbeats 4000000 in
set_option maxRecDepth 100000 in
theorem c_X11_goesRound_d1 (l : Launch) (g : GC) (tl : va_W) (sz : Nat) (σ : SS) (bg q mt cd : Nat) (hT : OkT (σ.2.1 0)) (hU : (σ.1 12) < 32) (hbg : bg < 5) (hq1 : q < 5) (hmt : mt < 32) (hu : unr 5 mt = 3) (hcd : cd < 1000 ∧ dsum cd = 1) (hFd : ∀ k, k < 1000 → (σ.2.1 13) k < 2) : Met l yX11_goesRound wsX11_goesRound r_c_X11_goesRound_d1 (va_Pc [.ref (g.2.2.2 0), .int (nI bg), .int (nI q), .int (nI mt), .int (nI cd)] (PW g (wM g σ ++ tl) sz)) (va_Qv (fun (f13 : (Nat → Nat)) => GrO (σ.2.1 13) f13 (grW (σ.2.1 0) (σ.1 12) bg 4 q mt cd)) (fun (f13 : (Nat → Nat)) t => BW g (va_A (wM g σ ++ tl) sz) (wM g (sA σ 13 f13) ++ tl) t) (va_A (wM g σ ++ tl) sz)) 0 0 (va_A (wM g σ ++ tl) sz) := by
  refine jn_sv (wf := fun f13 : (Nat → Nat) => wM g (sA σ 13 f13) ++ tl) (cc := cX11_goesRound) (maxL := 8) (own := RX11) (by decide) rfl rfl (Nat.le_of_ble_eq_true rfl) ?_
  intro p e s m below meth c Q A hx hb hml hown hts hK hP hD hS hAA hq ls hl
  obtain ⟨H, eH⟩ : ∃ z, z = s.heap := ⟨_, rfl⟩
  obtain ⟨locs, el⟩ : ∃ z : List Loc, z = [] := ⟨_, rfl⟩
  rw [← eH] at hP
  have hS : va_S A s.heap H locs := by rw [eH, el]; exact hS
  have goal0 : W p l e r_c_X11_goesRound_d1 s m ([.ref (g.2.2.2 0), .int (nI bg), .int (nI q), .int (nI mt), .int (nI cd)] : List Value).toArray below meth c H locs 0 0 Q (F0 m 0 ls []) → W p l e r_c_X11_goesRound_d1 s m ([.ref (g.2.2.2 0), .int (nI bg), .int (nI q), .int (nI mt), .int (nI cd)] : List Value).toArray below meth c s.heap [] 0 0 Q (F0 m 0 ls []) := fun h => by rw [eH, el] at h; exact h
  refine goal0 ?_
  have hl : lv_has ls 8 [(0, .ref (g.2.2.2 0)), (1, .int (nI bg)), (2, .int (nI q)), (3, .int (nI mt)), (4, .int (nI cd))] := hl
  have iX11 : ∀ w ∈ wsX110, w ∈ wsX11_goesRound := by decide +kernel
  have k99 := hts (.fieldLink RX11 99 "JumpingAutomataModel" "useful" "I") (by decide +kernel)
  have k95 := hts (.fieldLink RX11 95 "JumpingAutomataModel" "found" "[Z") (by decide +kernel)
  refine lv_iconst (v := nI 0) hx hb dX11_goesRound_0 (by decide) ?_
  refine lv_istore (lv' := [(5, .int (nI 0)), (0, .ref (g.2.2.2 0)), (1, .int (nI bg)), (2, .int (nI q)), (3, .int (nI mt)), (4, .int (nI cd))]) hx hb dX11_goesRound_1 hl (by decide) rfl (fun ls hl => ?_)
  have lp3 : ∀ (fu : Nat), ∀ (x0 : Nat) (f : Nat → Nat), (x0 ≤ 3) → (GrO (σ.2.1 13) f (grL (σ.2.1 0) (σ.1 12) bg 3 q mt cd x0)) → 3 - x0 < fu → ∀ (H : Heap) (locs : List Loc), va_P (g.1, g.2.1) vwCl (wM g (sA σ 13 f) ++ tl) H → va_D A (wM g (sA σ 13 f) ++ tl) → va_S A s.heap H locs → ∀ ls : Array Slot, lv_has ls 8 [(0, .ref (g.2.2.2 0)), (1, .int (nI bg)), (2, .int (nI q)), (3, .int (nI mt)), (4, .int (nI cd)), (5, .int (nI x0))] → W p l e r_c_X11_goesRound_d1 s m ([.ref (g.2.2.2 0), .int (nI bg), .int (nI q), .int (nI mt), .int (nI cd)] : List Value).toArray below meth c H locs 0 0 Q (F0 m 3 ls []) := by
    intro fu
    induction fu with
    | zero => intro x0 f h1 h2 hf; exact absurd hf (Nat.not_lt_zero _)
    | succ fu ih3 =>
      intro x0 f h1 h2 hf H locs hP hD hS ls hl
      refine lv_iload hx hb dX11_goesRound_3 (lv_at hl 5 rfl) ?_
      refine lv_iconst (v := nI 3) hx hb dX11_goesRound_5 (by decide) ?_
      refine jn_cge hx hb (by omega) (by decide) (tgt := 121) dX11_goesRound_6 (by decide) (fun c_6 => ?_) (fun c_6 => ?_)
      · exact hq _ _ _ _ (f) dX11_goesRound_121 (gro_iff h2 (fun z => by rw [show x0 = 3 by omega]; exact Iff.rfl)) hP hD hS
      · refine lv_iload hx hb dX11_goesRound_9 (lv_at hl 4 rfl) ?_
        refine lv_iload hx hb dX11_goesRound_11 (lv_at hl 5 rfl) ?_
        have jp33 : ∀ v33 : Nat, v33 = (wt x0) → W p l e r_c_X11_goesRound_d1 s m ([.ref (g.2.2.2 0), .int (nI bg), .int (nI q), .int (nI mt), .int (nI cd)] : List Value).toArray below meth c H locs 0 0 Q (F0 m 33 ls [.int (nI v33), .int (nI cd)]) := by
          intro v33 ev33
          have hcs := cs5_wt (l := x0) hcd.1 hcd.2 (by decide) (by omega)
          rw [← ev33] at hcs
          refine jn_iadd hx hb dX11_goesRound_33 ?_
          refine lv_istore (lv' := [(6, .int (nI (cd + v33))), (0, .ref (g.2.2.2 0)), (1, .int (nI bg)), (2, .int (nI q)), (3, .int (nI mt)), (4, .int (nI cd)), (5, .int (nI x0))]) hx hb dX11_goesRound_34 hl (by decide) rfl (fun ls hl => ?_)
          refine lv_iconst (v := nI 0) hx hb dX11_goesRound_36 (by decide) ?_
          refine lv_istore (lv' := [(7, .int (nI 0)), (6, .int (nI (cd + v33))), (0, .ref (g.2.2.2 0)), (1, .int (nI bg)), (2, .int (nI q)), (3, .int (nI mt)), (4, .int (nI cd)), (5, .int (nI x0))]) hx hb dX11_goesRound_37 hl (by decide) rfl (fun ls hl => ?_)
          have lp39 : ∀ (fu : Nat), ∀ (t0 : Nat) (f : Nat → Nat), (t0 ≤ 5) → (GrO (σ.2.1 13) f (grI (σ.2.1 0) (σ.1 12) bg 3 q mt cd x0 t0)) → 5 - t0 < fu → ∀ (H : Heap) (locs : List Loc), va_P (g.1, g.2.1) vwCl (wM g (sA σ 13 f) ++ tl) H → va_D A (wM g (sA σ 13 f) ++ tl) → va_S A s.heap H locs → ∀ ls : Array Slot, lv_has ls 8 [(0, .ref (g.2.2.2 0)), (1, .int (nI bg)), (2, .int (nI q)), (3, .int (nI mt)), (4, .int (nI cd)), (5, .int (nI x0)), (6, .int (nI (cd + v33))), (7, .int (nI t0))] → W p l e r_c_X11_goesRound_d1 s m ([.ref (g.2.2.2 0), .int (nI bg), .int (nI q), .int (nI mt), .int (nI cd)] : List Value).toArray below meth c H locs 0 0 Q (F0 m 39 ls []) := by
            intro fu
            induction fu with
            | zero => intro t0 f h5 h6 hf; exact absurd hf (Nat.not_lt_zero _)
            | succ fu ih39 =>
              intro t0 f h5 h6 hf H locs hP hD hS ls hl
              refine lv_iload hx hb dX11_goesRound_39 (lv_at hl 7 rfl) ?_
              refine lv_iconst (v := nI 5) hx hb dX11_goesRound_41 (by decide) ?_
              refine jn_cge hx hb (by omega) (by decide) (tgt := 115) dX11_goesRound_42 (by decide) (fun c_42 => ?_) (fun c_42 => ?_)
              · refine lv_iinc (v := nI (x0 + 1)) (lv' := [(5, .int (nI (x0 + 1))), (0, .ref (g.2.2.2 0)), (1, .int (nI bg)), (2, .int (nI q)), (3, .int (nI mt)), (4, .int (nI cd)), (6, .int (nI (cd + v33))), (7, .int (nI t0))]) hx hb dX11_goesRound_115 hl (k := 5) rfl (jn_ii _ 1) (by decide) rfl (fun ls hl => ?_)
                refine lv_goto (tgt := 3) hx hb dX11_goesRound_118 (by decide) ?_
                exact ih3 (x0 + 1) f (by omega) (gri_end h6 (by omega)) (by omega) _ _ hP hD hS _ (lv_sub hl [1, 2, 3, 4, 5, 0] rfl)
              · refine lv_aload_n hx hb dX11_goesRound_45 rfl (lv_at hl 0 rfl) ?_
                refine lv_iload_n hx hb dX11_goesRound_46 rfl (lv_at hl 2 rfl) ?_
                refine lv_iload hx hb dX11_goesRound_47 (lv_at hl 5 rfl) ?_
                refine vp_callSi (va_Run.run (va_runV (As := [.int (nI q), .int (nI x0)]) (rest := []) ⟨hx, hb, hml, hown, hts⟩ (c_X11_next l g tl (sA σ 13 f) q x0 hq1 (by omega)) (cwV 2 hts gX11_goesRound_X11_next rfl rfl rfl (by decide +kernel) ⟨Nat.le_of_ble_eq_true rfl, Nat.le_of_ble_eq_true rfl⟩) (okPV hK hP rfl (gM0 g (sA σ 13 f) tl)) rfl rfl hl.1 rfl (lv_room (Nat.le_of_ble_eq_true rfl)) dX11_goesRound_49 ⟨Nat.le_of_ble_eq_true rfl, Nat.le_of_ble_eq_true rfl⟩)) (fun r_49 h_49 => ?_)
                have h_49 : r_49 = (nI ((σ.2.1 0) (q * 3 + x0))) := h_49
                subst h_49
                refine lv_aload_n hx hb dX11_goesRound_52 rfl (lv_at hl 0 rfl) ?_
                refine va_get (D := (g.1, g.2.1)) (ci := 13) (v := .int (nI (σ.1 12))) (C := RX11) (T := TX11) (N := 30) hx hb hts iX11 hown hK.1 hP 0 (gM0 g (sA σ 13 f) tl) rfl 28 (by decide) k99 (fun _ h9 => h9) rfl dX11_goesRound_53 ?_
                refine jn_iand hx hb dX11_goesRound_56 ?_
                refine lv_iload hx hb dX11_goesRound_57 (lv_at hl 7 rfl) ?_
                refine vp_callSi (va_Run.run (va_runS (As := [.int (nI (((σ.2.1 0) (q * 3 + x0)) &&& (σ.1 12))), .int (nI t0)]) (rest := []) ⟨hx, hb, hml, hown, hts⟩ (c_X11_has l (((σ.2.1 0) (q * 3 + x0)) &&& (σ.1 12)) t0 (Nat.lt_trans (and_lt hU) (by decide)) (by omega)) (va_cwS 2 hts gX11_goesRound_X11_has rfl rfl rfl (by decide +kernel) ⟨Nat.le_of_ble_eq_true rfl, Nat.le_of_ble_eq_true rfl⟩) okTS rfl rfl hl.1 rfl (lv_room (Nat.le_of_ble_eq_true rfl)) dX11_goesRound_59 ⟨Nat.le_of_ble_eq_true rfl, Nat.le_of_ble_eq_true rfl⟩)) (fun r_59 h_59 => ?_)
                subst h_59
                refine jn_bne hx hb (tgt := 68) dX11_goesRound_62 (by decide) (fun c_62 => ?_) (fun c_62 => ?_)
                · refine lv_iload hx hb dX11_goesRound_68 (lv_at hl 7 rfl) ?_
                  refine lv_iload_n hx hb dX11_goesRound_70 rfl (lv_at hl 1 rfl) ?_
                  refine jn_cne hx hb (by omega) (by omega) (tgt := 85) dX11_goesRound_71 (by decide) (fun c_71 => ?_) (fun c_71 => ?_)
                  · refine lv_iload_n hx hb dX11_goesRound_85 rfl (lv_at hl 3 rfl) ?_
                    refine lv_iload hx hb dX11_goesRound_86 (lv_at hl 7 rfl) ?_
                    refine vp_callSi (va_Run.run (va_runS (As := [.int (nI mt), .int (nI t0)]) (rest := []) ⟨hx, hb, hml, hown, hts⟩ (c_X11_has l mt t0 (by omega) (by omega)) (va_cwS 2 hts gX11_goesRound_X11_has rfl rfl rfl (by decide +kernel) ⟨Nat.le_of_ble_eq_true rfl, Nat.le_of_ble_eq_true rfl⟩) okTS rfl rfl hl.1 rfl (lv_room (Nat.le_of_ble_eq_true rfl)) dX11_goesRound_88 ⟨Nat.le_of_ble_eq_true rfl, Nat.le_of_ble_eq_true rfl⟩)) (fun r_88 h_88 => ?_)
                    subst h_88
                    refine jn_bne hx hb (tgt := 109) dX11_goesRound_91 (by decide) (fun c_91 => ?_) (fun c_91 => ?_)
                    · refine lv_iinc (v := nI (t0 + 1)) (lv' := [(7, .int (nI (t0 + 1))), (0, .ref (g.2.2.2 0)), (1, .int (nI bg)), (2, .int (nI q)), (3, .int (nI mt)), (4, .int (nI cd)), (5, .int (nI x0)), (6, .int (nI (cd + v33)))]) hx hb dX11_goesRound_109 hl (k := 7) rfl (jn_ii _ 1) (by decide) rfl (fun ls hl => ?_)
                      refine lv_goto (tgt := 39) hx hb dX11_goesRound_112 (by decide) ?_
                      exact ih39 (t0 + 1) f (by omega) (by first | exact gri_no h6 c_62 | exact gri_hit h6 c_62 (by omega) ev33 | exact gri_met h6 c_71 c_91 | exact gri_call h6 c_62 c_71 c_91 ev33 h_106) (by omega) _ _ hP hD hS _ (lv_sub hl [1, 2, 3, 4, 5, 6, 7, 0] rfl)
                    · refine lv_aload_n hx hb dX11_goesRound_94 rfl (lv_at hl 0 rfl) ?_
                      refine lv_iload_n hx hb dX11_goesRound_95 rfl (lv_at hl 1 rfl) ?_
                      refine lv_iload hx hb dX11_goesRound_96 (lv_at hl 7 rfl) ?_
                      refine lv_iload_n hx hb dX11_goesRound_98 rfl (lv_at hl 3 rfl) ?_
                      refine lv_iconst (v := nI 1) hx hb dX11_goesRound_99 (by decide) ?_
                      refine lv_iload hx hb dX11_goesRound_100 (lv_at hl 7 rfl) ?_
                      refine jn_shl1 hx hb (by omega) dX11_goesRound_102 ?_
                      refine jn_ior hx hb dX11_goesRound_103 ?_
                      refine lv_iload hx hb dX11_goesRound_104 (lv_at hl 6 rfl) ?_
                      refine jn_callv (va_runV (As := [.int (nI bg), .int (nI t0), .int (nI (mt ||| (2 ^ t0))), .int (nI (cd + v33))]) (rest := []) ⟨hx, hb, hml, hown, hts⟩ (c_X11_goesRound_d2 l g tl H.size (sA σ 13 f) bg t0 (mt ||| (2 ^ t0)) (cd + v33) hT hU hbg (by omega) (or32 hmt ((by decide : ∀ k, k < 5 → 2 ^ k < 32) t0 (by omega))) (by have := unr_put (n := 5) (show t0 < 5 by omega) c_91; omega) ⟨hcs.1.1, hcs.2⟩ (fun z hz => (h6 z hz).1)) (cwV 4 hts gX11_goesRound_X11_goesRound rfl rfl rfl (by decide +kernel) ⟨Nat.le_of_ble_eq_true rfl, Nat.le_of_ble_eq_true rfl⟩) (okWV hK hP hD rfl (gM0 g (sA σ 13 f) tl)) rfl rfl hl.1 rfl (lv_room (Nat.le_of_ble_eq_true rfl)) dX11_goesRound_106 ⟨Nat.le_of_ble_eq_true rfl, Nat.le_of_ble_eq_true rfl⟩) hD hS hAA (fun u H locs hw_ hP hD hS => ?_)
                      obtain ⟨f13_106, rfl⟩ : ∃ z, z = u := ⟨_, rfl⟩
                      have h_106 := hw_
                      have h_106 : GrO (f) f13_106 (grW (σ.2.1 0) (σ.1 12) bg 3 t0 (mt ||| (2 ^ t0)) (cd + v33)) := h_106
                      have hP : va_P (g.1, g.2.1) vwCl (wM g (sA (sA σ 13 f) 13 f13_106) ++ tl) H := hP
                      have hD : va_D A (wM g (sA (sA σ 13 f) 13 f13_106) ++ tl) := hD
                      refine lv_iinc (v := nI (t0 + 1)) (lv' := [(7, .int (nI (t0 + 1))), (0, .ref (g.2.2.2 0)), (1, .int (nI bg)), (2, .int (nI q)), (3, .int (nI mt)), (4, .int (nI cd)), (5, .int (nI x0)), (6, .int (nI (cd + v33)))]) hx hb dX11_goesRound_109 hl (k := 7) rfl (jn_ii _ 1) (by decide) rfl (fun ls hl => ?_)
                      refine lv_goto (tgt := 39) hx hb dX11_goesRound_112 (by decide) ?_
                      exact ih39 (t0 + 1) f13_106 (by omega) (by first | exact gri_no h6 c_62 | exact gri_hit h6 c_62 (by omega) ev33 | exact gri_met h6 c_71 c_91 | exact gri_call h6 c_62 c_71 c_91 ev33 h_106) (by omega) _ _ hP hD hS _ (lv_sub hl [1, 2, 3, 4, 5, 6, 7, 0] rfl)
                  · refine lv_aload_n hx hb dX11_goesRound_74 rfl (lv_at hl 0 rfl) ?_
                    refine va_get (D := (g.1, g.2.1)) (ci := 13) (v := .ref (g.2.2.2 16)) (C := RX11) (T := TX11) (N := 30) hx hb hts iX11 hown hK.1 hP 0 (gM0 g (sA σ 13 f) tl) rfl 27 (by decide) k95 (fun _ h9 => h9) rfl dX11_goesRound_75 ?_
                    refine lv_iload hx hb dX11_goesRound_78 (lv_at hl 6 rfl) ?_
                    refine lv_iconst (v := nI 1) hx hb dX11_goesRound_80 (by decide) ?_
                    refine jn_zast (f := f) hx hb hK.1 hP hD hS 16 2 (gM16 g (sA σ 13 f) tl) rfl (by omega) (Nat.le_of_ble_eq_true rfl) (by decide) (uM_A13 g (sA σ 13 f) tl _) dX11_goesRound_81 (fun H locs hP hD hS => ?_)
                    refine lv_goto (tgt := 109) hx hb dX11_goesRound_82 (by decide) ?_
                    refine lv_iinc (v := nI (t0 + 1)) (lv' := [(7, .int (nI (t0 + 1))), (0, .ref (g.2.2.2 0)), (1, .int (nI bg)), (2, .int (nI q)), (3, .int (nI mt)), (4, .int (nI cd)), (5, .int (nI x0)), (6, .int (nI (cd + v33)))]) hx hb dX11_goesRound_109 hl (k := 7) rfl (jn_ii _ 1) (by decide) rfl (fun ls hl => ?_)
                    refine lv_goto (tgt := 39) hx hb dX11_goesRound_112 (by decide) ?_
                    exact ih39 (t0 + 1) (va_up f (cd + v33) 1) (by omega) (by first | exact gri_no h6 c_62 | exact gri_hit h6 c_62 (by omega) ev33 | exact gri_met h6 c_71 c_91 | exact gri_call h6 c_62 c_71 c_91 ev33 h_106) (by omega) _ _ hP hD hS _ (lv_sub hl [1, 2, 3, 4, 5, 6, 7, 0] rfl)
                · refine lv_goto (tgt := 109) hx hb dX11_goesRound_65 (by decide) ?_
                  refine lv_iinc (v := nI (t0 + 1)) (lv' := [(7, .int (nI (t0 + 1))), (0, .ref (g.2.2.2 0)), (1, .int (nI bg)), (2, .int (nI q)), (3, .int (nI mt)), (4, .int (nI cd)), (5, .int (nI x0)), (6, .int (nI (cd + v33)))]) hx hb dX11_goesRound_109 hl (k := 7) rfl (jn_ii _ 1) (by decide) rfl (fun ls hl => ?_)
                  refine lv_goto (tgt := 39) hx hb dX11_goesRound_112 (by decide) ?_
                  exact ih39 (t0 + 1) f (by omega) (by first | exact gri_no h6 c_62 | exact gri_hit h6 c_62 (by omega) ev33 | exact gri_met h6 c_71 c_91 | exact gri_call h6 c_62 c_71 c_91 ev33 h_106) (by omega) _ _ hP hD hS _ (lv_sub hl [1, 2, 3, 4, 5, 6, 7, 0] rfl)
          exact lp39 _ 0 f (by decide) (gri_0 h2) (Nat.lt_succ_self _) _ _ hP hD hS _ (lv_sub hl [2, 3, 4, 5, 6, 7, 1, 0] rfl)
        refine jn_zne hx hb (by omega) (tgt := 21) dX11_goesRound_13 (by decide) (fun c_13 => ?_) (fun c_13 => ?_)
        · refine lv_iload hx hb dX11_goesRound_21 (lv_at hl 5 rfl) ?_
          refine lv_iconst (v := nI 1) hx hb dX11_goesRound_23 (by decide) ?_
          refine jn_cne hx hb (by omega) (by decide) (tgt := 32) dX11_goesRound_24 (by decide) (fun c_24 => ?_) (fun c_24 => ?_)
          · refine lv_iconst (v := nI 1) hx hb dX11_goesRound_32 (by decide) ?_
            exact jp33 1 (by unfold wt; rw [if_neg c_13]; first | exact (if_neg c_24).symm | exact (if_pos (by omega)).symm)
          · refine lv_bipush (v := nI 10) hx hb dX11_goesRound_27 (by decide) ?_
            refine lv_goto (tgt := 33) hx hb dX11_goesRound_29 (by decide) ?_
            exact jp33 10 (by unfold wt; rw [if_neg c_13]; first | exact (if_neg c_24).symm | exact (if_pos (by omega)).symm)
        · refine lv_bipush (v := nI 100) hx hb dX11_goesRound_16 (by decide) ?_
          refine lv_goto (tgt := 33) hx hb dX11_goesRound_18 (by decide) ?_
          exact jp33 100 (by rw [show x0 = 0 by omega]; rfl)
  exact lp3 _ 0 (σ.2.1 13) (by decide) (gro_0 hFd (fun z => grl_0)) (Nat.lt_succ_self _) _ _ hP hD hS _ (lv_sub hl [1, 2, 3, 4, 5, 0] rfl)

abbrev r_c_X11_goesRound_d0 : Room := { frames := 5, cells := 0, slots := 0, locals := 130 }
set_option maxHeartbeats 4000000 in
set_option maxRecDepth 100000 in
theorem c_X11_goesRound_d0 (l : Launch) (g : GC) (tl : va_W) (sz : Nat) (σ : SS) (bg q mt cd : Nat) (hT : OkT (σ.2.1 0)) (hU : (σ.1 12) < 32) (hbg : bg < 5) (hq1 : q < 5) (hmt : mt < 32) (hu : unr 5 mt = 4) (hcd : cd < 1000 ∧ dsum cd = 0) (hFd : ∀ k, k < 1000 → (σ.2.1 13) k < 2) : Met l yX11_goesRound wsX11_goesRound r_c_X11_goesRound_d0 (va_Pc [.ref (g.2.2.2 0), .int (nI bg), .int (nI q), .int (nI mt), .int (nI cd)] (PW g (wM g σ ++ tl) sz)) (va_Qv (fun (f13 : (Nat → Nat)) => GrO (σ.2.1 13) f13 (grW (σ.2.1 0) (σ.1 12) bg 5 q mt cd)) (fun (f13 : (Nat → Nat)) t => BW g (va_A (wM g σ ++ tl) sz) (wM g (sA σ 13 f13) ++ tl) t) (va_A (wM g σ ++ tl) sz)) 0 0 (va_A (wM g σ ++ tl) sz) := by
  refine jn_sv (wf := fun f13 : (Nat → Nat) => wM g (sA σ 13 f13) ++ tl) (cc := cX11_goesRound) (maxL := 8) (own := RX11) (by decide) rfl rfl (Nat.le_of_ble_eq_true rfl) ?_
  intro p e s m below meth c Q A hx hb hml hown hts hK hP hD hS hAA hq ls hl
  obtain ⟨H, eH⟩ : ∃ z, z = s.heap := ⟨_, rfl⟩
  obtain ⟨locs, el⟩ : ∃ z : List Loc, z = [] := ⟨_, rfl⟩
  rw [← eH] at hP
  have hS : va_S A s.heap H locs := by rw [eH, el]; exact hS
  have goal0 : W p l e r_c_X11_goesRound_d0 s m ([.ref (g.2.2.2 0), .int (nI bg), .int (nI q), .int (nI mt), .int (nI cd)] : List Value).toArray below meth c H locs 0 0 Q (F0 m 0 ls []) → W p l e r_c_X11_goesRound_d0 s m ([.ref (g.2.2.2 0), .int (nI bg), .int (nI q), .int (nI mt), .int (nI cd)] : List Value).toArray below meth c s.heap [] 0 0 Q (F0 m 0 ls []) := fun h => by rw [eH, el] at h; exact h
  refine goal0 ?_
  have hl : lv_has ls 8 [(0, .ref (g.2.2.2 0)), (1, .int (nI bg)), (2, .int (nI q)), (3, .int (nI mt)), (4, .int (nI cd))] := hl
  have iX11 : ∀ w ∈ wsX110, w ∈ wsX11_goesRound := by decide +kernel
  have k99 := hts (.fieldLink RX11 99 "JumpingAutomataModel" "useful" "I") (by decide +kernel)
  have k95 := hts (.fieldLink RX11 95 "JumpingAutomataModel" "found" "[Z") (by decide +kernel)
  refine lv_iconst (v := nI 0) hx hb dX11_goesRound_0 (by decide) ?_
  refine lv_istore (lv' := [(5, .int (nI 0)), (0, .ref (g.2.2.2 0)), (1, .int (nI bg)), (2, .int (nI q)), (3, .int (nI mt)), (4, .int (nI cd))]) hx hb dX11_goesRound_1 hl (by decide) rfl (fun ls hl => ?_)
  have lp3 : ∀ (fu : Nat), ∀ (x0 : Nat) (f : Nat → Nat), (x0 ≤ 3) → (GrO (σ.2.1 13) f (grL (σ.2.1 0) (σ.1 12) bg 4 q mt cd x0)) → 3 - x0 < fu → ∀ (H : Heap) (locs : List Loc), va_P (g.1, g.2.1) vwCl (wM g (sA σ 13 f) ++ tl) H → va_D A (wM g (sA σ 13 f) ++ tl) → va_S A s.heap H locs → ∀ ls : Array Slot, lv_has ls 8 [(0, .ref (g.2.2.2 0)), (1, .int (nI bg)), (2, .int (nI q)), (3, .int (nI mt)), (4, .int (nI cd)), (5, .int (nI x0))] → W p l e r_c_X11_goesRound_d0 s m ([.ref (g.2.2.2 0), .int (nI bg), .int (nI q), .int (nI mt), .int (nI cd)] : List Value).toArray below meth c H locs 0 0 Q (F0 m 3 ls []) := by
    intro fu
    induction fu with
    | zero => intro x0 f h1 h2 hf; exact absurd hf (Nat.not_lt_zero _)
    | succ fu ih3 =>
      intro x0 f h1 h2 hf H locs hP hD hS ls hl
      refine lv_iload hx hb dX11_goesRound_3 (lv_at hl 5 rfl) ?_
      refine lv_iconst (v := nI 3) hx hb dX11_goesRound_5 (by decide) ?_
      refine jn_cge hx hb (by omega) (by decide) (tgt := 121) dX11_goesRound_6 (by decide) (fun c_6 => ?_) (fun c_6 => ?_)
      · exact hq _ _ _ _ (f) dX11_goesRound_121 (gro_iff h2 (fun z => by rw [show x0 = 3 by omega]; exact Iff.rfl)) hP hD hS
      · refine lv_iload hx hb dX11_goesRound_9 (lv_at hl 4 rfl) ?_
        refine lv_iload hx hb dX11_goesRound_11 (lv_at hl 5 rfl) ?_
        have jp33 : ∀ v33 : Nat, v33 = (wt x0) → W p l e r_c_X11_goesRound_d0 s m ([.ref (g.2.2.2 0), .int (nI bg), .int (nI q), .int (nI mt), .int (nI cd)] : List Value).toArray below meth c H locs 0 0 Q (F0 m 33 ls [.int (nI v33), .int (nI cd)]) := by
          intro v33 ev33
          have hcs := cs5_wt (l := x0) hcd.1 hcd.2 (by decide) (by omega)
          rw [← ev33] at hcs
          refine jn_iadd hx hb dX11_goesRound_33 ?_
          refine lv_istore (lv' := [(6, .int (nI (cd + v33))), (0, .ref (g.2.2.2 0)), (1, .int (nI bg)), (2, .int (nI q)), (3, .int (nI mt)), (4, .int (nI cd)), (5, .int (nI x0))]) hx hb dX11_goesRound_34 hl (by decide) rfl (fun ls hl => ?_)
          refine lv_iconst (v := nI 0) hx hb dX11_goesRound_36 (by decide) ?_
          refine lv_istore (lv' := [(7, .int (nI 0)), (6, .int (nI (cd + v33))), (0, .ref (g.2.2.2 0)), (1, .int (nI bg)), (2, .int (nI q)), (3, .int (nI mt)), (4, .int (nI cd)), (5, .int (nI x0))]) hx hb dX11_goesRound_37 hl (by decide) rfl (fun ls hl => ?_)
          have lp39 : ∀ (fu : Nat), ∀ (t0 : Nat) (f : Nat → Nat), (t0 ≤ 5) → (GrO (σ.2.1 13) f (grI (σ.2.1 0) (σ.1 12) bg 4 q mt cd x0 t0)) → 5 - t0 < fu → ∀ (H : Heap) (locs : List Loc), va_P (g.1, g.2.1) vwCl (wM g (sA σ 13 f) ++ tl) H → va_D A (wM g (sA σ 13 f) ++ tl) → va_S A s.heap H locs → ∀ ls : Array Slot, lv_has ls 8 [(0, .ref (g.2.2.2 0)), (1, .int (nI bg)), (2, .int (nI q)), (3, .int (nI mt)), (4, .int (nI cd)), (5, .int (nI x0)), (6, .int (nI (cd + v33))), (7, .int (nI t0))] → W p l e r_c_X11_goesRound_d0 s m ([.ref (g.2.2.2 0), .int (nI bg), .int (nI q), .int (nI mt), .int (nI cd)] : List Value).toArray below meth c H locs 0 0 Q (F0 m 39 ls []) := by
            intro fu
            induction fu with
            | zero => intro t0 f h5 h6 hf; exact absurd hf (Nat.not_lt_zero _)
            | succ fu ih39 =>
              intro t0 f h5 h6 hf H locs hP hD hS ls hl
              refine lv_iload hx hb dX11_goesRound_39 (lv_at hl 7 rfl) ?_
              refine lv_iconst (v := nI 5) hx hb dX11_goesRound_41 (by decide) ?_
              refine jn_cge hx hb (by omega) (by decide) (tgt := 115) dX11_goesRound_42 (by decide) (fun c_42 => ?_) (fun c_42 => ?_)
              · refine lv_iinc (v := nI (x0 + 1)) (lv' := [(5, .int (nI (x0 + 1))), (0, .ref (g.2.2.2 0)), (1, .int (nI bg)), (2, .int (nI q)), (3, .int (nI mt)), (4, .int (nI cd)), (6, .int (nI (cd + v33))), (7, .int (nI t0))]) hx hb dX11_goesRound_115 hl (k := 5) rfl (jn_ii _ 1) (by decide) rfl (fun ls hl => ?_)
                refine lv_goto (tgt := 3) hx hb dX11_goesRound_118 (by decide) ?_
                exact ih3 (x0 + 1) f (by omega) (gri_end h6 (by omega)) (by omega) _ _ hP hD hS _ (lv_sub hl [1, 2, 3, 4, 5, 0] rfl)
              · refine lv_aload_n hx hb dX11_goesRound_45 rfl (lv_at hl 0 rfl) ?_
                refine lv_iload_n hx hb dX11_goesRound_46 rfl (lv_at hl 2 rfl) ?_
                refine lv_iload hx hb dX11_goesRound_47 (lv_at hl 5 rfl) ?_
                refine vp_callSi (va_Run.run (va_runV (As := [.int (nI q), .int (nI x0)]) (rest := []) ⟨hx, hb, hml, hown, hts⟩ (c_X11_next l g tl (sA σ 13 f) q x0 hq1 (by omega)) (cwV 2 hts gX11_goesRound_X11_next rfl rfl rfl (by decide +kernel) ⟨Nat.le_of_ble_eq_true rfl, Nat.le_of_ble_eq_true rfl⟩) (okPV hK hP rfl (gM0 g (sA σ 13 f) tl)) rfl rfl hl.1 rfl (lv_room (Nat.le_of_ble_eq_true rfl)) dX11_goesRound_49 ⟨Nat.le_of_ble_eq_true rfl, Nat.le_of_ble_eq_true rfl⟩)) (fun r_49 h_49 => ?_)
                have h_49 : r_49 = (nI ((σ.2.1 0) (q * 3 + x0))) := h_49
                subst h_49
                refine lv_aload_n hx hb dX11_goesRound_52 rfl (lv_at hl 0 rfl) ?_
                refine va_get (D := (g.1, g.2.1)) (ci := 13) (v := .int (nI (σ.1 12))) (C := RX11) (T := TX11) (N := 30) hx hb hts iX11 hown hK.1 hP 0 (gM0 g (sA σ 13 f) tl) rfl 28 (by decide) k99 (fun _ h9 => h9) rfl dX11_goesRound_53 ?_
                refine jn_iand hx hb dX11_goesRound_56 ?_
                refine lv_iload hx hb dX11_goesRound_57 (lv_at hl 7 rfl) ?_
                refine vp_callSi (va_Run.run (va_runS (As := [.int (nI (((σ.2.1 0) (q * 3 + x0)) &&& (σ.1 12))), .int (nI t0)]) (rest := []) ⟨hx, hb, hml, hown, hts⟩ (c_X11_has l (((σ.2.1 0) (q * 3 + x0)) &&& (σ.1 12)) t0 (Nat.lt_trans (and_lt hU) (by decide)) (by omega)) (va_cwS 2 hts gX11_goesRound_X11_has rfl rfl rfl (by decide +kernel) ⟨Nat.le_of_ble_eq_true rfl, Nat.le_of_ble_eq_true rfl⟩) okTS rfl rfl hl.1 rfl (lv_room (Nat.le_of_ble_eq_true rfl)) dX11_goesRound_59 ⟨Nat.le_of_ble_eq_true rfl, Nat.le_of_ble_eq_true rfl⟩)) (fun r_59 h_59 => ?_)
                subst h_59
                refine jn_bne hx hb (tgt := 68) dX11_goesRound_62 (by decide) (fun c_62 => ?_) (fun c_62 => ?_)
                · refine lv_iload hx hb dX11_goesRound_68 (lv_at hl 7 rfl) ?_
                  refine lv_iload_n hx hb dX11_goesRound_70 rfl (lv_at hl 1 rfl) ?_
                  refine jn_cne hx hb (by omega) (by omega) (tgt := 85) dX11_goesRound_71 (by decide) (fun c_71 => ?_) (fun c_71 => ?_)
                  · refine lv_iload_n hx hb dX11_goesRound_85 rfl (lv_at hl 3 rfl) ?_
                    refine lv_iload hx hb dX11_goesRound_86 (lv_at hl 7 rfl) ?_
                    refine vp_callSi (va_Run.run (va_runS (As := [.int (nI mt), .int (nI t0)]) (rest := []) ⟨hx, hb, hml, hown, hts⟩ (c_X11_has l mt t0 (by omega) (by omega)) (va_cwS 2 hts gX11_goesRound_X11_has rfl rfl rfl (by decide +kernel) ⟨Nat.le_of_ble_eq_true rfl, Nat.le_of_ble_eq_true rfl⟩) okTS rfl rfl hl.1 rfl (lv_room (Nat.le_of_ble_eq_true rfl)) dX11_goesRound_88 ⟨Nat.le_of_ble_eq_true rfl, Nat.le_of_ble_eq_true rfl⟩)) (fun r_88 h_88 => ?_)
                    subst h_88
                    refine jn_bne hx hb (tgt := 109) dX11_goesRound_91 (by decide) (fun c_91 => ?_) (fun c_91 => ?_)
                    · refine lv_iinc (v := nI (t0 + 1)) (lv' := [(7, .int (nI (t0 + 1))), (0, .ref (g.2.2.2 0)), (1, .int (nI bg)), (2, .int (nI q)), (3, .int (nI mt)), (4, .int (nI cd)), (5, .int (nI x0)), (6, .int (nI (cd + v33)))]) hx hb dX11_goesRound_109 hl (k := 7) rfl (jn_ii _ 1) (by decide) rfl (fun ls hl => ?_)
                      refine lv_goto (tgt := 39) hx hb dX11_goesRound_112 (by decide) ?_
                      exact ih39 (t0 + 1) f (by omega) (by first | exact gri_no h6 c_62 | exact gri_hit h6 c_62 (by omega) ev33 | exact gri_met h6 c_71 c_91 | exact gri_call h6 c_62 c_71 c_91 ev33 h_106) (by omega) _ _ hP hD hS _ (lv_sub hl [1, 2, 3, 4, 5, 6, 7, 0] rfl)
                    · refine lv_aload_n hx hb dX11_goesRound_94 rfl (lv_at hl 0 rfl) ?_
                      refine lv_iload_n hx hb dX11_goesRound_95 rfl (lv_at hl 1 rfl) ?_
                      refine lv_iload hx hb dX11_goesRound_96 (lv_at hl 7 rfl) ?_
                      refine lv_iload_n hx hb dX11_goesRound_98 rfl (lv_at hl 3 rfl) ?_
                      refine lv_iconst (v := nI 1) hx hb dX11_goesRound_99 (by decide) ?_
                      refine lv_iload hx hb dX11_goesRound_100 (lv_at hl 7 rfl) ?_
                      refine jn_shl1 hx hb (by omega) dX11_goesRound_102 ?_
                      refine jn_ior hx hb dX11_goesRound_103 ?_
                      refine lv_iload hx hb dX11_goesRound_104 (lv_at hl 6 rfl) ?_
                      refine jn_callv (va_runV (As := [.int (nI bg), .int (nI t0), .int (nI (mt ||| (2 ^ t0))), .int (nI (cd + v33))]) (rest := []) ⟨hx, hb, hml, hown, hts⟩ (c_X11_goesRound_d1 l g tl H.size (sA σ 13 f) bg t0 (mt ||| (2 ^ t0)) (cd + v33) hT hU hbg (by omega) (or32 hmt ((by decide : ∀ k, k < 5 → 2 ^ k < 32) t0 (by omega))) (by have := unr_put (n := 5) (show t0 < 5 by omega) c_91; omega) ⟨hcs.1.1, hcs.2⟩ (fun z hz => (h6 z hz).1)) (cwV 4 hts gX11_goesRound_X11_goesRound rfl rfl rfl (by decide +kernel) ⟨Nat.le_of_ble_eq_true rfl, Nat.le_of_ble_eq_true rfl⟩) (okWV hK hP hD rfl (gM0 g (sA σ 13 f) tl)) rfl rfl hl.1 rfl (lv_room (Nat.le_of_ble_eq_true rfl)) dX11_goesRound_106 ⟨Nat.le_of_ble_eq_true rfl, Nat.le_of_ble_eq_true rfl⟩) hD hS hAA (fun u H locs hw_ hP hD hS => ?_)
                      obtain ⟨f13_106, rfl⟩ : ∃ z, z = u := ⟨_, rfl⟩
                      have h_106 := hw_
                      have h_106 : GrO (f) f13_106 (grW (σ.2.1 0) (σ.1 12) bg 4 t0 (mt ||| (2 ^ t0)) (cd + v33)) := h_106
                      have hP : va_P (g.1, g.2.1) vwCl (wM g (sA (sA σ 13 f) 13 f13_106) ++ tl) H := hP
                      have hD : va_D A (wM g (sA (sA σ 13 f) 13 f13_106) ++ tl) := hD
                      refine lv_iinc (v := nI (t0 + 1)) (lv' := [(7, .int (nI (t0 + 1))), (0, .ref (g.2.2.2 0)), (1, .int (nI bg)), (2, .int (nI q)), (3, .int (nI mt)), (4, .int (nI cd)), (5, .int (nI x0)), (6, .int (nI (cd + v33)))]) hx hb dX11_goesRound_109 hl (k := 7) rfl (jn_ii _ 1) (by decide) rfl (fun ls hl => ?_)
                      refine lv_goto (tgt := 39) hx hb dX11_goesRound_112 (by decide) ?_
                      exact ih39 (t0 + 1) f13_106 (by omega) (by first | exact gri_no h6 c_62 | exact gri_hit h6 c_62 (by omega) ev33 | exact gri_met h6 c_71 c_91 | exact gri_call h6 c_62 c_71 c_91 ev33 h_106) (by omega) _ _ hP hD hS _ (lv_sub hl [1, 2, 3, 4, 5, 6, 7, 0] rfl)
                  · refine lv_aload_n hx hb dX11_goesRound_74 rfl (lv_at hl 0 rfl) ?_
                    refine va_get (D := (g.1, g.2.1)) (ci := 13) (v := .ref (g.2.2.2 16)) (C := RX11) (T := TX11) (N := 30) hx hb hts iX11 hown hK.1 hP 0 (gM0 g (sA σ 13 f) tl) rfl 27 (by decide) k95 (fun _ h9 => h9) rfl dX11_goesRound_75 ?_
                    refine lv_iload hx hb dX11_goesRound_78 (lv_at hl 6 rfl) ?_
                    refine lv_iconst (v := nI 1) hx hb dX11_goesRound_80 (by decide) ?_
                    refine jn_zast (f := f) hx hb hK.1 hP hD hS 16 2 (gM16 g (sA σ 13 f) tl) rfl (by omega) (Nat.le_of_ble_eq_true rfl) (by decide) (uM_A13 g (sA σ 13 f) tl _) dX11_goesRound_81 (fun H locs hP hD hS => ?_)
                    refine lv_goto (tgt := 109) hx hb dX11_goesRound_82 (by decide) ?_
                    refine lv_iinc (v := nI (t0 + 1)) (lv' := [(7, .int (nI (t0 + 1))), (0, .ref (g.2.2.2 0)), (1, .int (nI bg)), (2, .int (nI q)), (3, .int (nI mt)), (4, .int (nI cd)), (5, .int (nI x0)), (6, .int (nI (cd + v33)))]) hx hb dX11_goesRound_109 hl (k := 7) rfl (jn_ii _ 1) (by decide) rfl (fun ls hl => ?_)
                    refine lv_goto (tgt := 39) hx hb dX11_goesRound_112 (by decide) ?_
                    exact ih39 (t0 + 1) (va_up f (cd + v33) 1) (by omega) (by first | exact gri_no h6 c_62 | exact gri_hit h6 c_62 (by omega) ev33 | exact gri_met h6 c_71 c_91 | exact gri_call h6 c_62 c_71 c_91 ev33 h_106) (by omega) _ _ hP hD hS _ (lv_sub hl [1, 2, 3, 4, 5, 6, 7, 0] rfl)
                · refine lv_goto (tgt := 109) hx hb dX11_goesRound_65 (by decide) ?_
                  refine lv_iinc (v := nI (t0 + 1)) (lv' := [(7, .int (nI (t0 + 1))), (0, .ref (g.2.2.2 0)), (1, .int (nI bg)), (2, .int (nI q)), (3, .int (nI mt)), (4, .int (nI cd)), (5, .int (nI x0)), (6, .int (nI (cd + v33)))]) hx hb dX11_goesRound_109 hl (k := 7) rfl (jn_ii _ 1) (by decide) rfl (fun ls hl => ?_)
                  refine lv_goto (tgt := 39) hx hb dX11_goesRound_112 (by decide) ?_
                  exact ih39 (t0 + 1) f (by omega) (by first | exact gri_no h6 c_62 | exact gri_hit h6 c_62 (by omega) ev33 | exact gri_met h6 c_71 c_91 | exact gri_call h6 c_62 c_71 c_91 ev33 h_106) (by omega) _ _ hP hD hS _ (lv_sub hl [1, 2, 3, 4, 5, 6, 7, 0] rfl)
          exact lp39 _ 0 f (by decide) (gri_0 h2) (Nat.lt_succ_self _) _ _ hP hD hS _ (lv_sub hl [2, 3, 4, 5, 6, 7, 1, 0] rfl)
        refine jn_zne hx hb (by omega) (tgt := 21) dX11_goesRound_13 (by decide) (fun c_13 => ?_) (fun c_13 => ?_)
        · refine lv_iload hx hb dX11_goesRound_21 (lv_at hl 5 rfl) ?_
          refine lv_iconst (v := nI 1) hx hb dX11_goesRound_23 (by decide) ?_
          refine jn_cne hx hb (by omega) (by decide) (tgt := 32) dX11_goesRound_24 (by decide) (fun c_24 => ?_) (fun c_24 => ?_)
          · refine lv_iconst (v := nI 1) hx hb dX11_goesRound_32 (by decide) ?_
            exact jp33 1 (by unfold wt; rw [if_neg c_13]; first | exact (if_neg c_24).symm | exact (if_pos (by omega)).symm)
          · refine lv_bipush (v := nI 10) hx hb dX11_goesRound_27 (by decide) ?_
            refine lv_goto (tgt := 33) hx hb dX11_goesRound_29 (by decide) ?_
            exact jp33 10 (by unfold wt; rw [if_neg c_13]; first | exact (if_neg c_24).symm | exact (if_pos (by omega)).symm)
        · refine lv_bipush (v := nI 100) hx hb dX11_goesRound_16 (by decide) ?_
          refine lv_goto (tgt := 33) hx hb dX11_goesRound_18 (by decide) ?_
          exact jp33 100 (by rw [show x0 = 0 by omega]; rfl)
  exact lp3 _ 0 (σ.2.1 13) (by decide) (gro_0 hFd (fun z => grl_0)) (Nat.lt_succ_self _) _ _ hP hD hS _ (lv_sub hl [1, 2, 3, 4, 5, 0] rfl)

abbrev r_c_X11_layCycles : Room := { frames := 6, cells := 0, slots := 0, locals := 157 }
set_option maxHeartbeats 4000000 in
set_option maxRecDepth 100000 in
theorem c_X11_layCycles (l : Launch) (g : GC) (tl : va_W) (sz : Nat) (σ : SS) (hT : OkT (σ.2.1 0)) (hF : ((σ.2.1 0) 15) < 32) : Met l yX11_layCycles wsX11_layCycles r_c_X11_layCycles (va_Pc [.ref (g.2.2.2 0)] (PW g (wM g σ ++ tl) sz)) (va_Qv (fun (z : Nat × (Nat → Nat)) => match z with | (us, f13) => (us = fR (σ.2.1 0) 5 &&& bR (σ.2.1 0) ((σ.2.1 0) 15) 5) ∧ (FdN f13 (cyN (σ.2.1 0) us 5))) (fun (z : Nat × (Nat → Nat)) t => BW g (va_A (wM g σ ++ tl) sz) ((fun z : Nat × (Nat → Nat) => match z with | (us, f13) => wM g (sA (sF σ 12 us) 13 f13) ++ tl) z) t) (va_A (wM g σ ++ tl) sz)) 0 0 (va_A (wM g σ ++ tl) sz) := by
  refine jn_sv (wf := fun z : Nat × (Nat → Nat) => match z with | (us, f13) => wM g (sA (sF σ 12 us) 13 f13) ++ tl) (cc := cX11_layCycles) (maxL := 2) (own := RX11) (by decide) rfl rfl (Nat.le_of_ble_eq_true rfl) ?_
  intro p e s m below meth c Q A hx hb hml hown hts hK hP hD hS hAA hq ls hl
  obtain ⟨H, eH⟩ : ∃ z, z = s.heap := ⟨_, rfl⟩
  obtain ⟨locs, el⟩ : ∃ z : List Loc, z = [] := ⟨_, rfl⟩
  rw [← eH] at hP
  have hS : va_S A s.heap H locs := by rw [eH, el]; exact hS
  have goal0 : W p l e r_c_X11_layCycles s m ([.ref (g.2.2.2 0)] : List Value).toArray below meth c H locs 0 0 Q (F0 m 0 ls []) → W p l e r_c_X11_layCycles s m ([.ref (g.2.2.2 0)] : List Value).toArray below meth c s.heap [] 0 0 Q (F0 m 0 ls []) := fun h => by rw [eH, el] at h; exact h
  refine goal0 ?_
  have hl : lv_has ls 2 [(0, .ref (g.2.2.2 0))] := hl
  have iX11 : ∀ w ∈ wsX110, w ∈ wsX11_layCycles := by decide +kernel
  have k99 := hts (.fieldLink RX11 99 "JumpingAutomataModel" "useful" "I") (by decide +kernel)
  have k95 := hts (.fieldLink RX11 95 "JumpingAutomataModel" "found" "[Z") (by decide +kernel)
  refine lv_iconst (v := nI 0) hx hb dX11_layCycles_0 (by decide) ?_
  refine lv_istore_n (lv' := [(1, .int (nI 0)), (0, .ref (g.2.2.2 0))]) hx hb dX11_layCycles_1 rfl hl (by decide) rfl (fun ls hl => ?_)
  have lp2 : ∀ (fu : Nat), ∀ (k : Nat) (f : Nat → Nat), (k ≤ 1000) → (∀ z, z < k → f z = 0) → 1000 - k < fu → ∀ (H : Heap) (locs : List Loc), va_P (g.1, g.2.1) vwCl (wM g (sA σ 13 f) ++ tl) H → va_D A (wM g (sA σ 13 f) ++ tl) → va_S A s.heap H locs → ∀ ls : Array Slot, lv_has ls 2 [(0, .ref (g.2.2.2 0)), (1, .int (nI k))] → W p l e r_c_X11_layCycles s m ([.ref (g.2.2.2 0)] : List Value).toArray below meth c H locs 0 0 Q (F0 m 2 ls []) := by
    intro fu
    induction fu with
    | zero => intro k f h1 h2 hf; exact absurd hf (Nat.not_lt_zero _)
    | succ fu ih2 =>
      intro k f h1 h2 hf H locs hP hD hS ls hl
      refine lv_iload_n hx hb dX11_layCycles_2 rfl (lv_at hl 1 rfl) ?_
      refine lv_sipush (v := nI 1000) hx hb dX11_layCycles_3 (by decide) ?_
      refine jn_cge hx hb (by omega) (by decide) (tgt := 22) dX11_layCycles_6 (by decide) (fun c_6 => ?_) (fun c_6 => ?_)
      · refine lv_aload_n hx hb dX11_layCycles_22 rfl (lv_at hl 0 rfl) ?_
        refine lv_aload_n hx hb dX11_layCycles_23 rfl (lv_at hl 0 rfl) ?_
        refine vp_callSi (va_Run.run (va_runV (As := []) (rest := [.ref (g.2.2.2 0)]) ⟨hx, hb, hml, hown, hts⟩ (c_X11_usefulStates l g tl (sA σ 13 f) hT hF) (cwV 0 hts gX11_layCycles_X11_usefulStates rfl rfl rfl (by decide +kernel) ⟨Nat.le_of_ble_eq_true rfl, Nat.le_of_ble_eq_true rfl⟩) (okPV hK hP rfl (gM0 g (sA σ 13 f) tl)) rfl rfl hl.1 rfl (lv_room (Nat.le_of_ble_eq_true rfl)) dX11_layCycles_24 ⟨Nat.le_of_ble_eq_true rfl, Nat.le_of_ble_eq_true rfl⟩)) (fun r_24 h_24 => ?_)
        have h_24 : r_24 = (nI (fR (σ.2.1 0) 5 &&& bR (σ.2.1 0) ((σ.2.1 0) 15) 5)) := h_24
        subst h_24
        refine jn_nm (fun us eus => ?_)
        have hus : us < 32 := by rw [eus]; exact and_lt (bR_lt hF _)
        refine jn_put (D := (g.1, g.2.1)) (ci := 13) (v := .int (nI us)) (ty := .int) (C := RX11) (T := TX11) (N := 30) hx hb hts iX11 tyX11 tyX11_ok nmX11 hown hK.1 hP hD hS 0 (gM0 g (sA σ 13 f) tl) rfl 28 (by decide) k99 (fun _ h9 => h9) rfl (by decide +kernel) rfl rfl (Nat.le_of_ble_eq_true rfl) (uM_F12 g (sA σ 13 f) tl us) dX11_layCycles_27 (fun H locs hP hD hS => ?_)
        refine lv_iconst (v := nI 0) hx hb dX11_layCycles_30 (by decide) ?_
        refine lv_istore_n (lv' := [(1, .int (nI 0)), (0, .ref (g.2.2.2 0))]) hx hb dX11_layCycles_31 rfl hl (by decide) rfl (fun ls hl => ?_)
        have lp32 : ∀ (fu : Nat), ∀ (q : Nat) (f : Nat → Nat), (q ≤ 5) → (FdN f (cyN (σ.2.1 0) us q)) → 5 - q < fu → ∀ (H : Heap) (locs : List Loc), va_P (g.1, g.2.1) vwCl (wM g (sA (sF σ 12 us) 13 f) ++ tl) H → va_D A (wM g (sA (sF σ 12 us) 13 f) ++ tl) → va_S A s.heap H locs → ∀ ls : Array Slot, lv_has ls 2 [(0, .ref (g.2.2.2 0)), (1, .int (nI q))] → W p l e r_c_X11_layCycles s m ([.ref (g.2.2.2 0)] : List Value).toArray below meth c H locs 0 0 Q (F0 m 32 ls []) := by
          intro fu
          induction fu with
          | zero => intro q f h3 h4 hf; exact absurd hf (Nat.not_lt_zero _)
          | succ fu ih32 =>
            intro q f h3 h4 hf H locs hP hD hS ls hl
            refine lv_iload_n hx hb dX11_layCycles_32 rfl (lv_at hl 1 rfl) ?_
            refine lv_iconst (v := nI 5) hx hb dX11_layCycles_33 (by decide) ?_
            refine jn_cge hx hb (by omega) (by decide) (tgt := 64) dX11_layCycles_34 (by decide) (fun c_34 => ?_) (fun c_34 => ?_)
            · exact hq _ _ _ _ (us, f) dX11_layCycles_64 ⟨eus, by rw [← show q = 5 by omega]; exact h4⟩ hP hD hS
            · refine lv_aload_n hx hb dX11_layCycles_37 rfl (lv_at hl 0 rfl) ?_
              refine va_get (D := (g.1, g.2.1)) (ci := 13) (v := .int (nI us)) (C := RX11) (T := TX11) (N := 30) hx hb hts iX11 hown hK.1 hP 0 (gM0 g (sA (sF σ 12 us) 13 f) tl) rfl 28 (by decide) k99 (fun _ h9 => h9) rfl dX11_layCycles_38 ?_
              refine lv_iload_n hx hb dX11_layCycles_41 rfl (lv_at hl 1 rfl) ?_
              refine vp_callSi (va_Run.run (va_runS (As := [.int (nI us), .int (nI q)]) (rest := []) ⟨hx, hb, hml, hown, hts⟩ (c_X11_has l us q (by omega) (by omega)) (va_cwS 2 hts gX11_layCycles_X11_has rfl rfl rfl (by decide +kernel) ⟨Nat.le_of_ble_eq_true rfl, Nat.le_of_ble_eq_true rfl⟩) okTS rfl rfl hl.1 rfl (lv_room (Nat.le_of_ble_eq_true rfl)) dX11_layCycles_42 ⟨Nat.le_of_ble_eq_true rfl, Nat.le_of_ble_eq_true rfl⟩)) (fun r_42 h_42 => ?_)
              subst h_42
              refine jn_beq hx hb (tgt := 58) dX11_layCycles_45 (by decide) (fun c_45 => ?_) (fun c_45 => ?_)
              · refine lv_iinc (v := nI (q + 1)) (lv' := [(1, .int (nI (q + 1))), (0, .ref (g.2.2.2 0))]) hx hb dX11_layCycles_58 hl (k := 1) rfl (jn_ii _ 1) (by decide) rfl (fun ls hl => ?_)
                refine lv_goto (tgt := 32) hx hb dX11_layCycles_61 (by decide) ?_
                exact ih32 (q + 1) f (by omega) (by first | exact fdn_n h4 c_45 | exact fdn_y h4 c_45 h_55) (by omega) _ _ hP hD hS _ (lv_sub hl [1, 0] rfl)
              · refine lv_aload_n hx hb dX11_layCycles_48 rfl (lv_at hl 0 rfl) ?_
                refine lv_iload_n hx hb dX11_layCycles_49 rfl (lv_at hl 1 rfl) ?_
                refine lv_iload_n hx hb dX11_layCycles_50 rfl (lv_at hl 1 rfl) ?_
                refine lv_iconst (v := nI 1) hx hb dX11_layCycles_51 (by decide) ?_
                refine lv_iload_n hx hb dX11_layCycles_52 rfl (lv_at hl 1 rfl) ?_
                refine jn_shl1 hx hb (by omega) dX11_layCycles_53 ?_
                refine lv_iconst (v := nI 0) hx hb dX11_layCycles_54 (by decide) ?_
                refine jn_callv (va_runV (As := [.int (nI q), .int (nI q), .int (nI (2 ^ q)), .int (nI 0)]) (rest := []) ⟨hx, hb, hml, hown, hts⟩ (c_X11_goesRound_d0 l g tl H.size (sA (sF σ 12 us) 13 f) q q (2 ^ q) 0 hT hus (by omega) (by omega) ((by decide : ∀ k, k < 5 → 2 ^ k < 32) q (by omega)) (un4 q (by omega)) ⟨by decide, by decide⟩ (fun z hz => (h4 z hz).1)) (cwV 4 hts gX11_layCycles_X11_goesRound rfl rfl rfl (by decide +kernel) ⟨Nat.le_of_ble_eq_true rfl, Nat.le_of_ble_eq_true rfl⟩) (okWV hK hP hD rfl (gM0 g (sA (sF σ 12 us) 13 f) tl)) rfl rfl hl.1 rfl (lv_room (Nat.le_of_ble_eq_true rfl)) dX11_layCycles_55 ⟨Nat.le_of_ble_eq_true rfl, Nat.le_of_ble_eq_true rfl⟩) hD hS hAA (fun u H locs hw_ hP hD hS => ?_)
                obtain ⟨f13_55, rfl⟩ : ∃ z, z = u := ⟨_, rfl⟩
                have h_55 := hw_
                have h_55 : GrO (f) f13_55 (grW (σ.2.1 0) (us) q 5 q (2 ^ q) 0) := h_55
                have hP : va_P (g.1, g.2.1) vwCl (wM g (sA (sA (sF σ 12 us) 13 f) 13 f13_55) ++ tl) H := hP
                have hD : va_D A (wM g (sA (sA (sF σ 12 us) 13 f) 13 f13_55) ++ tl) := hD
                refine lv_iinc (v := nI (q + 1)) (lv' := [(1, .int (nI (q + 1))), (0, .ref (g.2.2.2 0))]) hx hb dX11_layCycles_58 hl (k := 1) rfl (jn_ii _ 1) (by decide) rfl (fun ls hl => ?_)
                refine lv_goto (tgt := 32) hx hb dX11_layCycles_61 (by decide) ?_
                exact ih32 (q + 1) f13_55 (by omega) (by first | exact fdn_n h4 c_45 | exact fdn_y h4 c_45 h_55) (by omega) _ _ hP hD hS _ (lv_sub hl [1, 0] rfl)
        exact lp32 _ 0 f (by decide) (fdn_0 (fun z hz => h2 z (by omega))) (Nat.lt_succ_self _) _ _ hP hD hS _ (lv_sub hl [1, 0] rfl)
      · refine lv_aload_n hx hb dX11_layCycles_9 rfl (lv_at hl 0 rfl) ?_
        refine va_get (D := (g.1, g.2.1)) (ci := 13) (v := .ref (g.2.2.2 16)) (C := RX11) (T := TX11) (N := 30) hx hb hts iX11 hown hK.1 hP 0 (gM0 g (sA σ 13 f) tl) rfl 27 (by decide) k95 (fun _ h9 => h9) rfl dX11_layCycles_10 ?_
        refine lv_iload_n hx hb dX11_layCycles_13 rfl (lv_at hl 1 rfl) ?_
        refine lv_iconst (v := nI 0) hx hb dX11_layCycles_14 (by decide) ?_
        refine jn_zast (f := f) hx hb hK.1 hP hD hS 16 2 (gM16 g (sA σ 13 f) tl) rfl (by omega) (Nat.le_of_ble_eq_true rfl) (by decide) (uM_A13 g (sA σ 13 f) tl _) dX11_layCycles_15 (fun H locs hP hD hS => ?_)
        refine lv_iinc (v := nI (k + 1)) (lv' := [(1, .int (nI (k + 1))), (0, .ref (g.2.2.2 0))]) hx hb dX11_layCycles_16 hl (k := 1) rfl (jn_ii _ 1) (by decide) rfl (fun ls hl => ?_)
        refine lv_goto (tgt := 2) hx hb dX11_layCycles_19 (by decide) ?_
        exact ih2 (k + 1) (va_up f k 0) (by omega) (fun z hz => by unfold va_up; split <;> first | rfl | exact h2 z (by omega)) (by omega) _ _ hP hD hS _ (lv_sub hl [1, 0] rfl)
  exact lp2 _ 0 (σ.2.1 13) (by decide) (fun z hz => absurd hz (by omega)) (Nat.lt_succ_self _) _ _ hP hD hS _ (lv_sub hl [1, 0] rfl)

abbrev r_c_X11_cycleCount : Room := { frames := 7, cells := 0, slots := 0, locals := 178 }
set_option maxHeartbeats 4000000 in
set_option maxRecDepth 100000 in
theorem c_X11_cycleCount (l : Launch) (g : GC) (tl : va_W) (sz : Nat) (σ : SS) (hT : OkT (σ.2.1 0)) (hF : ((σ.2.1 0) 15) < 32) : Met l yX11_cycleCount wsX11_cycleCount r_c_X11_cycleCount (va_Pc [.ref (g.2.2.2 0)] (PW g (wM g σ ++ tl) sz)) (va_Qi (fun (r : Int32) (z : Nat × (Nat → Nat)) => match z with | (us, f13) => (r = nI (fb_ct (fdB f13) 1000)) ∧ (us = fR (σ.2.1 0) 5 &&& bR (σ.2.1 0) ((σ.2.1 0) 15) 5) ∧ (FdN f13 (cyN (σ.2.1 0) us 5))) (fun (z : Nat × (Nat → Nat)) t => BW g (va_A (wM g σ ++ tl) sz) ((fun z : Nat × (Nat → Nat) => match z with | (us, f13) => wM g (sA (sF σ 12 us) 13 f13) ++ tl) z) t) (va_A (wM g σ ++ tl) sz)) 0 0 (va_A (wM g σ ++ tl) sz) := by
  refine jn_si (wf := fun z : Nat × (Nat → Nat) => match z with | (us, f13) => wM g (sA (sF σ 12 us) 13 f13) ++ tl) (cc := cX11_cycleCount) (maxL := 1) (own := RX11) (by decide) rfl rfl (Nat.le_of_ble_eq_true rfl) ?_
  intro p e s m below meth c Q A hx hb hml hown hts hK hP hD hS hAA hq ls hl
  obtain ⟨H, eH⟩ : ∃ z, z = s.heap := ⟨_, rfl⟩
  obtain ⟨locs, el⟩ : ∃ z : List Loc, z = [] := ⟨_, rfl⟩
  rw [← eH] at hP
  have hS : va_S A s.heap H locs := by rw [eH, el]; exact hS
  have goal0 : W p l e r_c_X11_cycleCount s m ([.ref (g.2.2.2 0)] : List Value).toArray below meth c H locs 0 0 Q (F0 m 0 ls []) → W p l e r_c_X11_cycleCount s m ([.ref (g.2.2.2 0)] : List Value).toArray below meth c s.heap [] 0 0 Q (F0 m 0 ls []) := fun h => by rw [eH, el] at h; exact h
  refine goal0 ?_
  have hl : lv_has ls 1 [(0, .ref (g.2.2.2 0))] := hl
  refine lv_aload_n hx hb dX11_cycleCount_0 rfl (lv_at hl 0 rfl) ?_
  refine jn_callv (va_runV (As := []) (rest := []) ⟨hx, hb, hml, hown, hts⟩ (c_X11_layCycles l g tl H.size σ hT hF) (cwV 0 hts gX11_cycleCount_X11_layCycles rfl rfl rfl (by decide +kernel) ⟨Nat.le_of_ble_eq_true rfl, Nat.le_of_ble_eq_true rfl⟩) (okWV hK hP hD rfl (gM0 g σ tl)) rfl rfl hl.1 rfl (lv_room (Nat.le_of_ble_eq_true rfl)) dX11_cycleCount_1 ⟨Nat.le_of_ble_eq_true rfl, Nat.le_of_ble_eq_true rfl⟩) hD hS hAA (fun u H locs hw_ hP hD hS => ?_)
  obtain ⟨us_1, f13_1⟩ := u
  have h_1 := hw_
  have h_1 : (us_1 = fR (σ.2.1 0) 5 &&& bR (σ.2.1 0) ((σ.2.1 0) 15) 5) ∧ (FdN f13_1 (cyN (σ.2.1 0) us_1 5)) := h_1
  have hP : va_P (g.1, g.2.1) vwCl (wM g (sA (sF σ 12 us_1) 13 f13_1) ++ tl) H := hP
  have hD : va_D A (wM g (sA (sF σ 12 us_1) 13 f13_1) ++ tl) := hD
  refine lv_aload_n hx hb dX11_cycleCount_4 rfl (lv_at hl 0 rfl) ?_
  refine vp_callSi (va_Run.run (va_runV (As := []) (rest := []) ⟨hx, hb, hml, hown, hts⟩ (c_X11_foundMany l g tl (sA (sF σ 12 us_1) 13 f13_1) (fun k hk => (h_1.2 k hk).1)) (cwV 0 hts gX11_cycleCount_X11_foundMany rfl rfl rfl (by decide +kernel) ⟨Nat.le_of_ble_eq_true rfl, Nat.le_of_ble_eq_true rfl⟩) (okPV hK hP rfl (gM0 g (sA (sF σ 12 us_1) 13 f13_1) tl)) rfl rfl hl.1 rfl (lv_room (Nat.le_of_ble_eq_true rfl)) dX11_cycleCount_5 ⟨Nat.le_of_ble_eq_true rfl, Nat.le_of_ble_eq_true rfl⟩)) (fun r_5 h_5 => ?_)
  have h_5 : r_5 = (nI (fb_ct (fdB (f13_1)) 1000)) := h_5
  subst h_5
  exact hq _ _ _ _ ((nI (fb_ct (fdB (f13_1)) 1000))) (us_1, f13_1) dX11_cycleCount_8 ⟨rfl, h_1⟩ hP hD hS

abbrev r_c_X11_cycle : Room := { frames := 7, cells := 0, slots := 0, locals := 178 }
set_option maxHeartbeats 4000000 in
set_option maxRecDepth 100000 in
theorem c_X11_cycle (l : Launch) (g : GC) (tl : va_W) (sz : Nat) (σ : SS) (idx : Nat) (hT : OkT (σ.2.1 0)) (hF : ((σ.2.1 0) 15) < 32) (hi : idx < 4294967296) : Met l yX11_cycle wsX11_cycle r_c_X11_cycle (va_Pc [.ref (g.2.2.2 0), .int (nI idx)] (PW g (wM g σ ++ tl) sz)) (va_Qi (fun (r : Int32) (z : Nat × Nat × Nat × (Nat → Nat)) => match z with | (r0, th, us, f13) => (r = nI (r0)) ∧ (us = fR (σ.2.1 0) 5 &&& bR (σ.2.1 0) ((σ.2.1 0) 15) 5) ∧ (FdN f13 (cyN (σ.2.1 0) us 5)) ∧ ((idx < fb_ct (fdB f13) 1000 ∧ th = 0 ∧ r0 = kth (fdB f13) idx 1000) ∨ (¬ idx < fb_ct (fdB f13) 1000 ∧ th = 1 ∧ r0 = 0))) (fun (z : Nat × Nat × Nat × (Nat → Nat)) t => BW g (va_A (wM g σ ++ tl) sz) ((fun z : Nat × Nat × Nat × (Nat → Nat) => match z with | (r0, th, us, f13) => wM g (sA (sF (sF σ 0 th) 12 us) 13 f13) ++ tl) z) t) (va_A (wM g σ ++ tl) sz)) 0 0 (va_A (wM g σ ++ tl) sz) := by
  refine jn_si (wf := fun z : Nat × Nat × Nat × (Nat → Nat) => match z with | (r0, th, us, f13) => wM g (sA (sF (sF σ 0 th) 12 us) 13 f13) ++ tl) (cc := cX11_cycle) (maxL := 2) (own := RX11) (by decide) rfl rfl (Nat.le_of_ble_eq_true rfl) ?_
  intro p e s m below meth c Q A hx hb hml hown hts hK hP hD hS hAA hq ls hl
  obtain ⟨H, eH⟩ : ∃ z, z = s.heap := ⟨_, rfl⟩
  obtain ⟨locs, el⟩ : ∃ z : List Loc, z = [] := ⟨_, rfl⟩
  rw [← eH] at hP
  have hS : va_S A s.heap H locs := by rw [eH, el]; exact hS
  have goal0 : W p l e r_c_X11_cycle s m ([.ref (g.2.2.2 0), .int (nI idx)] : List Value).toArray below meth c H locs 0 0 Q (F0 m 0 ls []) → W p l e r_c_X11_cycle s m ([.ref (g.2.2.2 0), .int (nI idx)] : List Value).toArray below meth c s.heap [] 0 0 Q (F0 m 0 ls []) := fun h => by rw [eH, el] at h; exact h
  refine goal0 ?_
  have hl : lv_has ls 2 [(0, .ref (g.2.2.2 0)), (1, .int (nI idx))] := hl
  have iX11 : ∀ w ∈ wsX110, w ∈ wsX11_cycle := by decide +kernel
  have k1 := hts (.fieldLink RX11 1 "JumpingAutomataModel" "thrown" "I") (by decide +kernel)
  refine lv_aload_n hx hb dX11_cycle_0 rfl (lv_at hl 0 rfl) ?_
  refine lv_iconst (v := nI 0) hx hb dX11_cycle_1 (by decide) ?_
  refine jn_put (D := (g.1, g.2.1)) (ci := 13) (v := .int (nI 0)) (ty := .int) (C := RX11) (T := TX11) (N := 30) hx hb hts iX11 tyX11 tyX11_ok nmX11 hown hK.1 hP hD hS 0 (gM0 g σ tl) rfl 0 (by decide) k1 (fun _ h9 => h9) rfl (by decide +kernel) rfl rfl (Nat.le_of_ble_eq_true rfl) (uM_F0 g σ tl 0) dX11_cycle_2 (fun H locs hP hD hS => ?_)
  refine lv_aload_n hx hb dX11_cycle_5 rfl (lv_at hl 0 rfl) ?_
  refine jn_callv (va_runV (As := []) (rest := []) ⟨hx, hb, hml, hown, hts⟩ (c_X11_layCycles l g tl H.size (sF σ 0 0) hT hF) (cwV 0 hts gX11_cycle_X11_layCycles rfl rfl rfl (by decide +kernel) ⟨Nat.le_of_ble_eq_true rfl, Nat.le_of_ble_eq_true rfl⟩) (okWV hK hP hD rfl (gM0 g (sF σ 0 0) tl)) rfl rfl hl.1 rfl (lv_room (Nat.le_of_ble_eq_true rfl)) dX11_cycle_6 ⟨Nat.le_of_ble_eq_true rfl, Nat.le_of_ble_eq_true rfl⟩) hD hS hAA (fun u H locs hw_ hP hD hS => ?_)
  obtain ⟨us_6, f13_6⟩ := u
  have h_6 := hw_
  have h_6 : (us_6 = fR (σ.2.1 0) 5 &&& bR (σ.2.1 0) ((σ.2.1 0) 15) 5) ∧ (FdN f13_6 (cyN (σ.2.1 0) us_6 5)) := h_6
  have hP : va_P (g.1, g.2.1) vwCl (wM g (sA (sF (sF σ 0 0) 12 us_6) 13 f13_6) ++ tl) H := hP
  have hD : va_D A (wM g (sA (sF (sF σ 0 0) 12 us_6) 13 f13_6) ++ tl) := hD
  refine lv_aload_n hx hb dX11_cycle_9 rfl (lv_at hl 0 rfl) ?_
  refine lv_iload_n hx hb dX11_cycle_10 rfl (lv_at hl 1 rfl) ?_
  refine jn_calli (va_runV (As := [.int (nI idx)]) (rest := []) ⟨hx, hb, hml, hown, hts⟩ (c_X11_foundAt l g tl H.size (sA (sF (sF σ 0 0) 12 us_6) 13 f13_6) idx (fun k hk => (h_6.2 k hk).1) hi) (cwV 1 hts gX11_cycle_X11_foundAt rfl rfl rfl (by decide +kernel) ⟨Nat.le_of_ble_eq_true rfl, Nat.le_of_ble_eq_true rfl⟩) (okWV hK hP hD rfl (gM0 g (sA (sF (sF σ 0 0) 12 us_6) 13 f13_6) tl)) rfl rfl hl.1 rfl (lv_room (Nat.le_of_ble_eq_true rfl)) dX11_cycle_11 ⟨Nat.le_of_ble_eq_true rfl, Nat.le_of_ble_eq_true rfl⟩) hD hS hAA (fun r_11 u H locs hw_ hP hD hS => ?_)
  obtain ⟨r0_11, th_11⟩ := u
  obtain ⟨rfl, h_11⟩ := hw_
  have h_11 : (idx < fb_ct (fdB (f13_6)) 1000 ∧ th_11 = 0 ∧ r0_11 = kth (fdB (f13_6)) idx 1000) ∨ (¬ idx < fb_ct (fdB (f13_6)) 1000 ∧ th_11 = 1 ∧ r0_11 = 0) := h_11
  have hP : va_P (g.1, g.2.1) vwCl (wM g (sF (sA (sF (sF σ 0 0) 12 us_6) 13 f13_6) 0 th_11) ++ tl) H := hP
  have hD : va_D A (wM g (sF (sA (sF (sF σ 0 0) 12 us_6) 13 f13_6) 0 th_11) ++ tl) := hD
  exact hq _ _ _ _ ((nI r0_11)) (r0_11, th_11, us_6, f13_6) dX11_cycle_14 ⟨rfl, h_6.1, h_6.2, h_11⟩ hP hD hS
