abbrev r_c_X11_isIn : Room := { frames := 31, cells := 0, slots := 0, locals := 806 }
set_option maxHeartbeats 4000000 in
set_option maxRecDepth 100000 in
theorem c_X11_isIn (l : Launch) (g : GC) (tl : va_W) (σ : SS) (s2 x1 x2 x3 : Nat) (hOS : OkS (σ.2.1 0)) (hs : s2 < 2) (h1x : x1 < 10) (h2x : x2 < 10) (h3x : x3 < 10) : Met l yX11_isIn wsX11_isIn r_c_X11_isIn (va_Pc [.ref (g.2.2.2 0), .int (nI s2), .int (nI x1), .int (nI x2), .int (nI x3)] (PP g (wM g σ ++ tl))) (vp_Si (fun r => r = nI (if cB (inR (σ.2.1 0) s2 x1 x2 x3) = true then 1 else 0))) 0 0 (fun _ => False) := by
  refine jn_pz (cc := cX11_isIn) (maxL := 6) (own := RX11) (by decide) rfl rfl (Nat.le_of_ble_eq_true rfl) ?_
  intro p e s m below meth c Q hx hb hml hown hts ⟨hP, hK⟩ hq ls hl
  have hl : lv_has ls 6 [(0, .ref (g.2.2.2 0)), (1, .int (nI s2)), (2, .int (nI x1)), (3, .int (nI x2)), (4, .int (nI x3))] := hl
  have iX11 : ∀ w ∈ wsX110, w ∈ wsX11_isIn := by decide +kernel
  have k13 := hts (.fieldLink RX11 13 "JumpingAutomataModel" "now" "[I") (by decide +kernel)
  have hm4 := (hOS s2 hs).1
  refine lv_iconst (v := nI 4) hx hb dX11_isIn_0 (by decide) ?_
  refine lv_iload_n hx hb dX11_isIn_1 rfl (lv_at hl 1 rfl) ?_
  refine jn_imul hx hb dX11_isIn_2 ?_
  refine lv_istore (lv' := [(5, .int (nI (4 * s2))), (0, .ref (g.2.2.2 0)), (1, .int (nI s2)), (2, .int (nI x1)), (3, .int (nI x2)), (4, .int (nI x3))]) hx hb dX11_isIn_3 hl (by decide) rfl (fun ls hl => ?_)
  have lp5 : ∀ (fu : Nat), ∀ (lv : Nat), (4 * s2 ≤ lv) → (lv ≤ 4 * s2 + (σ.2.1 0) (16 + s2)) → (∀ j, 4 * s2 ≤ j → j < lv → ¬ mdI (σ.2.1 0) j x1 x2 x3) → 4 * s2 + (σ.2.1 0) (16 + s2) - lv < fu → ∀ ls : Array Slot, lv_has ls 6 [(0, .ref (g.2.2.2 0)), (1, .int (nI s2)), (2, .int (nI x1)), (3, .int (nI x2)), (4, .int (nI x3)), (5, .int (nI lv))] → W p l e r_c_X11_isIn s m ([.ref (g.2.2.2 0), .int (nI s2), .int (nI x1), .int (nI x2), .int (nI x3)] : List Value).toArray below meth c s.heap [] 0 0 Q (F0 m 5 ls []) := by
    intro fu
    induction fu with
    | zero => intro lv h1 h2 h3 hf; exact absurd hf (Nat.not_lt_zero _)
    | succ fu ih5 =>
      intro lv h1 h2 h3 hf ls hl
      refine lv_iload hx hb dX11_isIn_5 (lv_at hl 5 rfl) ?_
      refine lv_iconst (v := nI 4) hx hb dX11_isIn_7 (by decide) ?_
      refine lv_iload_n hx hb dX11_isIn_8 rfl (lv_at hl 1 rfl) ?_
      refine jn_imul hx hb dX11_isIn_9 ?_
      refine lv_aload_n hx hb dX11_isIn_10 rfl (lv_at hl 0 rfl) ?_
      refine va_get (D := (g.1, g.2.1)) (ci := 13) (v := .ref (g.2.2.2 1)) (C := RX11) (T := TX11) (N := 30) hx hb hts iX11 hown hK.1 hP 0 (gM0 g σ tl) rfl 1 (by decide) k13 (fun _ h9 => h9) rfl dX11_isIn_11 ?_
      refine lv_bipush (v := nI 16) hx hb dX11_isIn_14 (by decide) ?_
      refine lv_iload_n hx hb dX11_isIn_16 rfl (lv_at hl 1 rfl) ?_
      refine jn_iadd hx hb dX11_isIn_17 ?_
      refine jn_iald (f := σ.2.1 0) hx hb hK.1 hP 1 0 (gM1 g σ tl) rfl (by omega) (Nat.le_of_ble_eq_true rfl) dX11_isIn_18 ?_
      refine jn_iadd hx hb dX11_isIn_19 ?_
      refine jn_cge hx hb (by omega) (by omega) (tgt := 88) dX11_isIn_20 (by decide) (fun c_20 => ?_) (fun c_20 => ?_)
      · refine lv_iconst (v := nI 0) hx hb dX11_isIn_88 (by decide) ?_
        exact hq _ _ ((nI 0)) dX11_isIn_89 jn_n0 (n_if0 (fun q => in_n (by omega) h3 (cB_iff.mp q)))
      · have hLn : Ln (σ.2.1 0) lv := ok_ln hOS hs h1 (by omega)
        obtain ⟨b1, b2, b3⟩ := hLn.1
        have hH3 := hLn.2.1
        have hmi := md_in h1x h2x h3x hLn
        refine lv_aload_n hx hb dX11_isIn_23 rfl (lv_at hl 0 rfl) ?_
        refine lv_iload hx hb dX11_isIn_24 (lv_at hl 5 rfl) ?_
        refine lv_iconst (v := nI 0) hx hb dX11_isIn_26 (by decide) ?_
        refine lv_iload_n hx hb dX11_isIn_27 rfl (lv_at hl 2 rfl) ?_
        refine lv_aload_n hx hb dX11_isIn_28 rfl (lv_at hl 0 rfl) ?_
        refine va_get (D := (g.1, g.2.1)) (ci := 13) (v := .ref (g.2.2.2 1)) (C := RX11) (T := TX11) (N := 30) hx hb hts iX11 hown hK.1 hP 0 (gM0 g σ tl) rfl 1 (by decide) k13 (fun _ h9 => h9) rfl dX11_isIn_29 ?_
        refine lv_bipush (v := nI 18) hx hb dX11_isIn_32 (by decide) ?_
        refine lv_iconst (v := nI 3) hx hb dX11_isIn_34 (by decide) ?_
        refine lv_iload hx hb dX11_isIn_35 (lv_at hl 5 rfl) ?_
        refine jn_imul hx hb dX11_isIn_37 ?_
        refine jn_iadd hx hb dX11_isIn_38 ?_
        refine jn_iald (f := σ.2.1 0) hx hb hK.1 hP 1 0 (gM1 g σ tl) rfl (by omega) (Nat.le_of_ble_eq_true rfl) dX11_isIn_39 ?_
        refine jn_isubB hx hb (by omega) dX11_isIn_40 ?_
        refine lv_iload_n hx hb dX11_isIn_41 rfl (lv_at hl 3 rfl) ?_
        refine lv_aload_n hx hb dX11_isIn_42 rfl (lv_at hl 0 rfl) ?_
        refine va_get (D := (g.1, g.2.1)) (ci := 13) (v := .ref (g.2.2.2 1)) (C := RX11) (T := TX11) (N := 30) hx hb hts iX11 hown hK.1 hP 0 (gM0 g σ tl) rfl 1 (by decide) k13 (fun _ h9 => h9) rfl dX11_isIn_43 ?_
        refine lv_bipush (v := nI 18) hx hb dX11_isIn_46 (by decide) ?_
        refine lv_iconst (v := nI 3) hx hb dX11_isIn_48 (by decide) ?_
        refine lv_iload hx hb dX11_isIn_49 (lv_at hl 5 rfl) ?_
        refine jn_imul hx hb dX11_isIn_51 ?_
        refine jn_iadd hx hb dX11_isIn_52 ?_
        refine lv_iconst (v := nI 1) hx hb dX11_isIn_53 (by decide) ?_
        refine jn_iadd hx hb dX11_isIn_54 ?_
        refine jn_iald (f := σ.2.1 0) hx hb hK.1 hP 1 0 (gM1 g σ tl) rfl (by omega) (Nat.le_of_ble_eq_true rfl) dX11_isIn_55 ?_
        refine jn_isubB hx hb (by omega) dX11_isIn_56 ?_
        refine lv_iload hx hb dX11_isIn_57 (lv_at hl 4 rfl) ?_
        refine lv_aload_n hx hb dX11_isIn_59 rfl (lv_at hl 0 rfl) ?_
        refine va_get (D := (g.1, g.2.1)) (ci := 13) (v := .ref (g.2.2.2 1)) (C := RX11) (T := TX11) (N := 30) hx hb hts iX11 hown hK.1 hP 0 (gM0 g σ tl) rfl 1 (by decide) k13 (fun _ h9 => h9) rfl dX11_isIn_60 ?_
        refine lv_bipush (v := nI 18) hx hb dX11_isIn_63 (by decide) ?_
        refine lv_iconst (v := nI 3) hx hb dX11_isIn_65 (by decide) ?_
        refine lv_iload hx hb dX11_isIn_66 (lv_at hl 5 rfl) ?_
        refine jn_imul hx hb dX11_isIn_68 ?_
        refine jn_iadd hx hb dX11_isIn_69 ?_
        refine lv_iconst (v := nI 2) hx hb dX11_isIn_70 (by decide) ?_
        refine jn_iadd hx hb dX11_isIn_71 ?_
        refine jn_iald (f := σ.2.1 0) hx hb hK.1 hP 1 0 (gM1 g σ tl) rfl (by omega) (Nat.le_of_ble_eq_true rfl) dX11_isIn_72 ?_
        refine jn_isubB hx hb (by omega) dX11_isIn_73 ?_
        refine vp_callSi (va_Run.run (va_runV (As := [.int (nI lv), .int (nI 0), .int (nI (sb x1 ((σ.2.1 0) (18 + (3 * lv))))), .int (nI (sb x2 ((σ.2.1 0) ((18 + (3 * lv)) + 1)))), .int (nI (sb x3 ((σ.2.1 0) ((18 + (3 * lv)) + 2))))]) (rest := []) ⟨hx, hb, hml, hown, hts⟩ (c_X11_isMade_d30 l g tl σ lv 0 (sb x1 ((σ.2.1 0) (18 + (3 * lv)))) (sb x2 ((σ.2.1 0) ((18 + (3 * lv)) + 1))) (sb x3 ((σ.2.1 0) ((18 + (3 * lv)) + 2))) (by omega) hLn (Nat.zero_le _) (sb_or h1x b1) (sb_or h2x b2) (sb_or h3x b3) (fun h1 h2 h3 => by omega)) (cwV 5 hts gX11_isIn_X11_isMade rfl rfl rfl (by decide +kernel) ⟨Nat.le_of_ble_eq_true rfl, Nat.le_of_ble_eq_true rfl⟩) (okPV hK hP rfl (gM0 g σ tl)) rfl rfl hl.1 rfl (lv_room (Nat.le_of_ble_eq_true rfl)) dX11_isIn_74 ⟨Nat.le_of_ble_eq_true rfl, Nat.le_of_ble_eq_true rfl⟩)) (fun r_74 h_74 => ?_)
        subst h_74
        refine jn_beq hx hb (tgt := 82) dX11_isIn_77 (by decide) (fun c_77 => ?_) (fun c_77 => ?_)
        · refine lv_iinc (v := nI (lv + 1)) (lv' := [(5, .int (nI (lv + 1))), (0, .ref (g.2.2.2 0)), (1, .int (nI s2)), (2, .int (nI x1)), (3, .int (nI x2)), (4, .int (nI x3))]) hx hb dX11_isIn_82 hl (k := 5) rfl (jn_ii _ 1) (by decide) rfl (fun ls hl => ?_)
          refine lv_goto (tgt := 5) hx hb dX11_isIn_85 (by decide) ?_
          exact ih5 (lv + 1) (by omega) (by omega) (fun j q1 q2 => by rcases Nat.lt_or_ge j lv with q | q; { exact h3 j q1 q }; { rw [show j = lv by omega]; exact fun w => c_77 (hmi.mpr w) }) (by omega) _ (lv_sub hl [1, 2, 3, 4, 5, 0] rfl)
        · refine lv_iconst (v := nI 1) hx hb dX11_isIn_80 (by decide) ?_
          exact hq _ _ ((nI 1)) dX11_isIn_81 jn_n1 (n_if1 (cB_iff.mpr (in_y h1 (by omega) (hmi.mp c_77))))
  exact lp5 _ (4 * s2) (by omega) (by omega) (fun j h1 h2 => absurd h1 (by omega)) (Nat.lt_succ_self _) _ (lv_sub hl [1, 2, 3, 4, 5, 0] rfl)

abbrev r_c_X11_contains : Room := { frames := 32, cells := 0, slots := 0, locals := 831 }
set_option maxHeartbeats 4000000 in
set_option maxRecDepth 100000 in
theorem c_X11_contains (l : Launch) (g : GC) (tl : va_W) (sz : Nat) (σ : SS) (s2 x1 x2 x3 : Nat) (hOS : OkS (σ.2.1 0)) (hs2 : s2 < 4294967296) (hx1 : x1 < 4294967296) (hx2 : x2 < 4294967296) (hx3 : x3 < 4294967296) : Met l yX11_contains wsX11_contains r_c_X11_contains (va_Pc [.ref (g.2.2.2 0), .int (nI s2), .int (nI x1), .int (nI x2), .int (nI x3)] (PW g (wM g σ ++ tl) sz)) (va_Qi (fun (r : Int32) (z : Nat × Nat) => match z with | (r0, th) => (r = nI (r0)) ∧ ((¬ s2 < 2 ∧ th = 1) ∨ (s2 < 2 ∧ ¬ (x1 < 10 ∧ x2 < 10 ∧ x3 < 10) ∧ th = 2) ∨ (s2 < 2 ∧ (x1 < 10 ∧ x2 < 10 ∧ x3 < 10) ∧ th = 0 ∧ r0 = if cB (inR (σ.2.1 0) s2 x1 x2 x3) = true then 1 else 0))) (fun (z : Nat × Nat) t => BW g (va_A (wM g σ ++ tl) sz) ((fun z : Nat × Nat => match z with | (r0, th) => wM g (sF σ 0 th) ++ tl) z) t) (va_A (wM g σ ++ tl) sz)) 0 0 (va_A (wM g σ ++ tl) sz) := by
  refine jn_sz (wf := fun z : Nat × Nat => match z with | (r0, th) => wM g (sF σ 0 th) ++ tl) (cc := cX11_contains) (maxL := 5) (own := RX11) (by decide) rfl rfl (Nat.le_of_ble_eq_true rfl) ?_
  intro p e s m below meth c Q A hx hb hml hown hts hK hP hD hS hAA hq ls hl
  obtain ⟨H, eH⟩ : ∃ z, z = s.heap := ⟨_, rfl⟩
  obtain ⟨locs, el⟩ : ∃ z : List Loc, z = [] := ⟨_, rfl⟩
  rw [← eH] at hP
  have hS : va_S A s.heap H locs := by rw [eH, el]; exact hS
  have goal0 : W p l e r_c_X11_contains s m ([.ref (g.2.2.2 0), .int (nI s2), .int (nI x1), .int (nI x2), .int (nI x3)] : List Value).toArray below meth c H locs 0 0 Q (F0 m 0 ls []) → W p l e r_c_X11_contains s m ([.ref (g.2.2.2 0), .int (nI s2), .int (nI x1), .int (nI x2), .int (nI x3)] : List Value).toArray below meth c s.heap [] 0 0 Q (F0 m 0 ls []) := fun h => by rw [eH, el] at h; exact h
  refine goal0 ?_
  have hl : lv_has ls 5 [(0, .ref (g.2.2.2 0)), (1, .int (nI s2)), (2, .int (nI x1)), (3, .int (nI x2)), (4, .int (nI x3))] := hl
  have iX11 : ∀ w ∈ wsX110, w ∈ wsX11_contains := by decide +kernel
  have k1 := hts (.fieldLink RX11 1 "JumpingAutomataModel" "thrown" "I") (by decide +kernel)
  refine lv_aload_n hx hb dX11_contains_0 rfl (lv_at hl 0 rfl) ?_
  refine lv_iconst (v := nI 0) hx hb dX11_contains_1 (by decide) ?_
  refine jn_put (D := (g.1, g.2.1)) (ci := 13) (v := .int (nI 0)) (ty := .int) (C := RX11) (T := TX11) (N := 30) hx hb hts iX11 tyX11 tyX11_ok nmX11 hown hK.1 hP hD hS 0 (gM0 g σ tl) rfl 0 (by decide) k1 (fun _ h9 => h9) rfl (by decide +kernel) rfl rfl (Nat.le_of_ble_eq_true rfl) (uM_F0 g σ tl 0) dX11_contains_2 (fun H locs hP hD hS => ?_)
  refine lv_iload_n hx hb dX11_contains_5 rfl (lv_at hl 1 rfl) ?_
  refine vp_callSi (va_Run.run (va_runS (As := [.int (nI s2)]) (rest := []) ⟨hx, hb, hml, hown, hts⟩ (c_X11_isSet l s2 (by omega)) (va_cwS 1 hts gX11_contains_X11_isSet rfl rfl rfl (by decide +kernel) ⟨Nat.le_of_ble_eq_true rfl, Nat.le_of_ble_eq_true rfl⟩) okTS rfl rfl hl.1 rfl (lv_room (Nat.le_of_ble_eq_true rfl)) dX11_contains_6 ⟨Nat.le_of_ble_eq_true rfl, Nat.le_of_ble_eq_true rfl⟩)) (fun r_6 h_6 => ?_)
  subst h_6
  refine jn_bne hx hb (tgt := 26) dX11_contains_9 (by decide) (fun c_9 => ?_) (fun c_9 => ?_)
  · refine lv_iload_n hx hb dX11_contains_26 rfl (lv_at hl 2 rfl) ?_
    refine lv_iload_n hx hb dX11_contains_27 rfl (lv_at hl 3 rfl) ?_
    refine lv_iload hx hb dX11_contains_28 (lv_at hl 4 rfl) ?_
    refine vp_callSi (va_Run.run (va_runS (As := [.int (nI x1), .int (nI x2), .int (nI x3)]) (rest := []) ⟨hx, hb, hml, hown, hts⟩ (c_X11_areNine l x1 x2 x3 hx1 hx2 hx3) (va_cwS 3 hts gX11_contains_X11_areNine rfl rfl rfl (by decide +kernel) ⟨Nat.le_of_ble_eq_true rfl, Nat.le_of_ble_eq_true rfl⟩) okTS rfl rfl hl.1 rfl (lv_room (Nat.le_of_ble_eq_true rfl)) dX11_contains_30 ⟨Nat.le_of_ble_eq_true rfl, Nat.le_of_ble_eq_true rfl⟩)) (fun r_30 h_30 => ?_)
    subst h_30
    refine jn_beq hx hb (tgt := 48) dX11_contains_33 (by decide) (fun c_33 => ?_) (fun c_33 => ?_)
    · refine lv_aload_n hx hb dX11_contains_48 rfl (lv_at hl 0 rfl) ?_
      refine lv_iconst (v := nI 2) hx hb dX11_contains_49 (by decide) ?_
      refine jn_calli (va_runV (As := [.int (nI 2)]) (rest := []) ⟨hx, hb, hml, hown, hts⟩ (c_X11_fails l g tl H.size (sF σ 0 0) 2) (cwV 1 hts gX11_contains_X11_fails rfl rfl rfl (by decide +kernel) ⟨Nat.le_of_ble_eq_true rfl, Nat.le_of_ble_eq_true rfl⟩) (okWV hK hP hD rfl (gM0 g (sF σ 0 0) tl)) rfl rfl hl.1 rfl (lv_room (Nat.le_of_ble_eq_true rfl)) dX11_contains_50 ⟨Nat.le_of_ble_eq_true rfl, Nat.le_of_ble_eq_true rfl⟩) hD hS hAA (fun r_50 u H locs hw_ hP hD hS => ?_)
      obtain rfl := hw_
      have hP : va_P (g.1, g.2.1) vwCl (wM g (sF (sF σ 0 0) 0 2) ++ tl) H := hP
      have hD : va_D A (wM g (sF (sF σ 0 0) 0 2) ++ tl) := hD
      refine jn_zle hx hb (by decide) (tgt := 60) dX11_contains_53 (by decide) (fun c_53 => ?_) (fun c_53 => absurd c_53 (by omega))
      refine lv_iconst (v := nI 0) hx hb dX11_contains_60 (by decide) ?_
      exact hq _ _ _ _ ((nI 0)) (_, 2) dX11_contains_61 jn_n0 (by first | exact ⟨rfl, (Or.inr (Or.inr ⟨c_9, c_33, rfl, rfl⟩))⟩ | exact ⟨rfl, (Or.inr (Or.inl ⟨c_9, c_33, rfl⟩))⟩) hP hD hS
    · refine lv_aload_n hx hb dX11_contains_36 rfl (lv_at hl 0 rfl) ?_
      refine lv_iload_n hx hb dX11_contains_37 rfl (lv_at hl 1 rfl) ?_
      refine lv_iload_n hx hb dX11_contains_38 rfl (lv_at hl 2 rfl) ?_
      refine lv_iload_n hx hb dX11_contains_39 rfl (lv_at hl 3 rfl) ?_
      refine lv_iload hx hb dX11_contains_40 (lv_at hl 4 rfl) ?_
      refine vp_callSi (va_Run.run (va_runV (As := [.int (nI s2), .int (nI x1), .int (nI x2), .int (nI x3)]) (rest := []) ⟨hx, hb, hml, hown, hts⟩ (c_X11_isIn l g tl (sF σ 0 0) s2 x1 x2 x3 hOS c_9 c_33.1 c_33.2.1 c_33.2.2) (cwV 4 hts gX11_contains_X11_isIn rfl rfl rfl (by decide +kernel) ⟨Nat.le_of_ble_eq_true rfl, Nat.le_of_ble_eq_true rfl⟩) (okPV hK hP rfl (gM0 g (sF σ 0 0) tl)) rfl rfl hl.1 rfl (lv_room (Nat.le_of_ble_eq_true rfl)) dX11_contains_42 ⟨Nat.le_of_ble_eq_true rfl, Nat.le_of_ble_eq_true rfl⟩)) (fun r_42 h_42 => ?_)
      have h_42 : r_42 = (nI (if cB (inR (σ.2.1 0) s2 x1 x2 x3) = true then 1 else 0)) := h_42
      subst h_42
      refine lv_goto (tgt := 61) hx hb dX11_contains_45 (by decide) ?_
      exact hq _ _ _ _ ((nI (if cB (inR (σ.2.1 0) s2 x1 x2 x3) = true then 1 else 0))) (_, 0) dX11_contains_61 (jn_nb _) (by first | exact ⟨rfl, (Or.inr (Or.inr ⟨c_9, c_33, rfl, rfl⟩))⟩ | exact ⟨rfl, (Or.inr (Or.inl ⟨c_9, c_33, rfl⟩))⟩) hP hD hS
  · refine lv_aload_n hx hb dX11_contains_12 rfl (lv_at hl 0 rfl) ?_
    refine lv_iconst (v := nI 1) hx hb dX11_contains_13 (by decide) ?_
    refine jn_calli (va_runV (As := [.int (nI 1)]) (rest := []) ⟨hx, hb, hml, hown, hts⟩ (c_X11_fails l g tl H.size (sF σ 0 0) 1) (cwV 1 hts gX11_contains_X11_fails rfl rfl rfl (by decide +kernel) ⟨Nat.le_of_ble_eq_true rfl, Nat.le_of_ble_eq_true rfl⟩) (okWV hK hP hD rfl (gM0 g (sF σ 0 0) tl)) rfl rfl hl.1 rfl (lv_room (Nat.le_of_ble_eq_true rfl)) dX11_contains_14 ⟨Nat.le_of_ble_eq_true rfl, Nat.le_of_ble_eq_true rfl⟩) hD hS hAA (fun r_14 u H locs hw_ hP hD hS => ?_)
    obtain rfl := hw_
    have hP : va_P (g.1, g.2.1) vwCl (wM g (sF (sF σ 0 0) 0 1) ++ tl) H := hP
    have hD : va_D A (wM g (sF (sF σ 0 0) 0 1) ++ tl) := hD
    refine jn_zle hx hb (by decide) (tgt := 24) dX11_contains_17 (by decide) (fun c_17 => ?_) (fun c_17 => absurd c_17 (by omega))
    refine lv_iconst (v := nI 0) hx hb dX11_contains_24 (by decide) ?_
    exact hq _ _ _ _ ((nI 0)) (0, 1) dX11_contains_25 jn_n0 ⟨rfl, (Or.inl ⟨c_9, rfl⟩)⟩ hP hD hS

abbrev r_c_X11_elements : Room := { frames := 32, cells := 0, slots := 0, locals := 831 }
set_option maxHeartbeats 4000000 in
set_option maxRecDepth 100000 in
theorem c_X11_elements (l : Launch) (g : GC) (tl : va_W) (sz : Nat) (σ : SS) (s2 bd : Nat) (hOS : OkS (σ.2.1 0)) (hs2 : s2 < 4294967296) (hbd : bd < 4294967296) : Met l yX11_elements wsX11_elements r_c_X11_elements (va_Pc [.ref (g.2.2.2 0), .int (nI s2), .int (nI bd)] (PW g (wM g σ ++ tl) sz)) (va_Qi (fun (r : Int32) (z : Nat × Nat) => match z with | (r0, th) => (r = nI (r0)) ∧ ((¬ s2 < 2 ∧ th = 1) ∨ (s2 < 2 ∧ ¬ bd < 7 ∧ th = 2) ∨ (s2 < 2 ∧ bd < 7 ∧ th = 0 ∧ r0 = cnt3 (fun a b c => cB (inR (σ.2.1 0) s2 a b c)) (bd + 1)))) (fun (z : Nat × Nat) t => BW g (va_A (wM g σ ++ tl) sz) ((fun z : Nat × Nat => match z with | (r0, th) => wM g (sF σ 0 th) ++ tl) z) t) (va_A (wM g σ ++ tl) sz)) 0 0 (va_A (wM g σ ++ tl) sz) := by
  refine jn_si (wf := fun z : Nat × Nat => match z with | (r0, th) => wM g (sF σ 0 th) ++ tl) (cc := cX11_elements) (maxL := 7) (own := RX11) (by decide) rfl rfl (Nat.le_of_ble_eq_true rfl) ?_
  intro p e s m below meth c Q A hx hb hml hown hts hK hP hD hS hAA hq ls hl
  obtain ⟨H, eH⟩ : ∃ z, z = s.heap := ⟨_, rfl⟩
  obtain ⟨locs, el⟩ : ∃ z : List Loc, z = [] := ⟨_, rfl⟩
  rw [← eH] at hP
  have hS : va_S A s.heap H locs := by rw [eH, el]; exact hS
  have goal0 : W p l e r_c_X11_elements s m ([.ref (g.2.2.2 0), .int (nI s2), .int (nI bd)] : List Value).toArray below meth c H locs 0 0 Q (F0 m 0 ls []) → W p l e r_c_X11_elements s m ([.ref (g.2.2.2 0), .int (nI s2), .int (nI bd)] : List Value).toArray below meth c s.heap [] 0 0 Q (F0 m 0 ls []) := fun h => by rw [eH, el] at h; exact h
  refine goal0 ?_
  have hl : lv_has ls 7 [(0, .ref (g.2.2.2 0)), (1, .int (nI s2)), (2, .int (nI bd))] := hl
  have iX11 : ∀ w ∈ wsX110, w ∈ wsX11_elements := by decide +kernel
  have k1 := hts (.fieldLink RX11 1 "JumpingAutomataModel" "thrown" "I") (by decide +kernel)
  refine lv_aload_n hx hb dX11_elements_0 rfl (lv_at hl 0 rfl) ?_
  refine lv_iconst (v := nI 0) hx hb dX11_elements_1 (by decide) ?_
  refine jn_put (D := (g.1, g.2.1)) (ci := 13) (v := .int (nI 0)) (ty := .int) (C := RX11) (T := TX11) (N := 30) hx hb hts iX11 tyX11 tyX11_ok nmX11 hown hK.1 hP hD hS 0 (gM0 g σ tl) rfl 0 (by decide) k1 (fun _ h9 => h9) rfl (by decide +kernel) rfl rfl (Nat.le_of_ble_eq_true rfl) (uM_F0 g σ tl 0) dX11_elements_2 (fun H locs hP hD hS => ?_)
  refine lv_iload_n hx hb dX11_elements_5 rfl (lv_at hl 1 rfl) ?_
  refine vp_callSi (va_Run.run (va_runS (As := [.int (nI s2)]) (rest := []) ⟨hx, hb, hml, hown, hts⟩ (c_X11_isSet l s2 (by omega)) (va_cwS 1 hts gX11_elements_X11_isSet rfl rfl rfl (by decide +kernel) ⟨Nat.le_of_ble_eq_true rfl, Nat.le_of_ble_eq_true rfl⟩) okTS rfl rfl hl.1 rfl (lv_room (Nat.le_of_ble_eq_true rfl)) dX11_elements_6 ⟨Nat.le_of_ble_eq_true rfl, Nat.le_of_ble_eq_true rfl⟩)) (fun r_6 h_6 => ?_)
  subst h_6
  refine jn_bne hx hb (tgt := 18) dX11_elements_9 (by decide) (fun c_9 => ?_) (fun c_9 => ?_)
  · refine lv_iload_n hx hb dX11_elements_18 rfl (lv_at hl 2 rfl) ?_
    refine lv_iconst (v := nI 0) hx hb dX11_elements_19 (by decide) ?_
    refine lv_bipush (v := nI 6) hx hb dX11_elements_20 (by decide) ?_
    refine vp_callSi (va_Run.run (va_runS (As := [.int (nI bd), .int (nI 0), .int (nI 6)]) (rest := []) ⟨hx, hb, hml, hown, hts⟩ (c_X11_in l bd 0 6 (by omega) (by decide) (by decide)) (va_cwS 3 hts gX11_elements_X11_in rfl rfl rfl (by decide +kernel) ⟨Nat.le_of_ble_eq_true rfl, Nat.le_of_ble_eq_true rfl⟩) okTS rfl rfl hl.1 rfl (lv_room (Nat.le_of_ble_eq_true rfl)) dX11_elements_22 ⟨Nat.le_of_ble_eq_true rfl, Nat.le_of_ble_eq_true rfl⟩)) (fun r_22 h_22 => ?_)
    subst h_22
    refine jn_bne hx hb (tgt := 34) dX11_elements_25 (by decide) (fun c_25 => ?_) (fun c_25 => ?_)
    · refine lv_iconst (v := nI 0) hx hb dX11_elements_34 (by decide) ?_
      refine lv_istore_n (lv' := [(3, .int (nI 0)), (0, .ref (g.2.2.2 0)), (1, .int (nI s2)), (2, .int (nI bd))]) hx hb dX11_elements_35 rfl hl (by decide) rfl (fun ls hl => ?_)
      refine lv_iconst (v := nI 0) hx hb dX11_elements_36 (by decide) ?_
      refine lv_istore (lv' := [(4, .int (nI 0)), (3, .int (nI 0)), (0, .ref (g.2.2.2 0)), (1, .int (nI s2)), (2, .int (nI bd))]) hx hb dX11_elements_37 hl (by decide) rfl (fun ls hl => ?_)
      have lp39 : ∀ (fu : Nat), ∀ (a : Nat) (z : Nat), (a ≤ bd + 1) → (z = fb_sm (fun a => fb_sm (fun b => fb_ct (fun c => (fun a b c => cB (inR (σ.2.1 0) s2 a b c)) a b c) (bd + 1)) (bd + 1)) a) → bd + 1 - a < fu → ∀ (H : Heap) (locs : List Loc), va_P (g.1, g.2.1) vwCl (wM g (sF σ 0 0) ++ tl) H → va_D A (wM g (sF σ 0 0) ++ tl) → va_S A s.heap H locs → ∀ ls : Array Slot, lv_has ls 7 [(0, .ref (g.2.2.2 0)), (1, .int (nI s2)), (2, .int (nI bd)), (3, .int (nI z)), (4, .int (nI a))] → W p l e r_c_X11_elements s m ([.ref (g.2.2.2 0), .int (nI s2), .int (nI bd)] : List Value).toArray below meth c H locs 0 0 Q (F0 m 39 ls []) := by
        intro fu
        induction fu with
        | zero => intro a z h1 h2 hf; exact absurd hf (Nat.not_lt_zero _)
        | succ fu ih39 =>
          intro a z h1 h2 hf H locs hP hD hS ls hl
          refine lv_iload hx hb dX11_elements_39 (lv_at hl 4 rfl) ?_
          refine lv_iload_n hx hb dX11_elements_41 rfl (lv_at hl 2 rfl) ?_
          refine jn_cgt hx hb (by omega) (by omega) (tgt := 103) dX11_elements_42 (by decide) (fun c_42 => ?_) (fun c_42 => ?_)
          · refine lv_iload_n hx hb dX11_elements_103 rfl (lv_at hl 3 rfl) ?_
            exact hq _ _ _ _ ((nI z)) (_, 0) dX11_elements_104 ⟨rfl, (Or.inr (Or.inr ⟨c_9, by omega, rfl, by rw [h2, show a = bd + 1 by omega]; rfl⟩))⟩ hP hD hS
          · refine lv_iconst (v := nI 0) hx hb dX11_elements_45 (by decide) ?_
            refine lv_istore (lv' := [(5, .int (nI 0)), (0, .ref (g.2.2.2 0)), (1, .int (nI s2)), (2, .int (nI bd)), (3, .int (nI z)), (4, .int (nI a))]) hx hb dX11_elements_46 hl (by decide) rfl (fun ls hl => ?_)
            have lp48 : ∀ (fu : Nat), ∀ (b : Nat) (z : Nat), (b ≤ bd + 1) → (z = fb_sm (fun a => fb_sm (fun b => fb_ct (fun c => (fun a b c => cB (inR (σ.2.1 0) s2 a b c)) a b c) (bd + 1)) (bd + 1)) a + fb_sm (fun b => fb_ct (fun c => (fun a b c => cB (inR (σ.2.1 0) s2 a b c)) a b c) (bd + 1)) b) → bd + 1 - b < fu → ∀ (H : Heap) (locs : List Loc), va_P (g.1, g.2.1) vwCl (wM g (sF σ 0 0) ++ tl) H → va_D A (wM g (sF σ 0 0) ++ tl) → va_S A s.heap H locs → ∀ ls : Array Slot, lv_has ls 7 [(0, .ref (g.2.2.2 0)), (1, .int (nI s2)), (2, .int (nI bd)), (3, .int (nI z)), (4, .int (nI a)), (5, .int (nI b))] → W p l e r_c_X11_elements s m ([.ref (g.2.2.2 0), .int (nI s2), .int (nI bd)] : List Value).toArray below meth c H locs 0 0 Q (F0 m 48 ls []) := by
              intro fu
              induction fu with
              | zero => intro b z h3 h4 hf; exact absurd hf (Nat.not_lt_zero _)
              | succ fu ih48 =>
                intro b z h3 h4 hf H locs hP hD hS ls hl
                refine lv_iload hx hb dX11_elements_48 (lv_at hl 5 rfl) ?_
                refine lv_iload_n hx hb dX11_elements_50 rfl (lv_at hl 2 rfl) ?_
                refine jn_cgt hx hb (by omega) (by omega) (tgt := 97) dX11_elements_51 (by decide) (fun c_51 => ?_) (fun c_51 => ?_)
                · refine lv_iinc (v := nI (a + 1)) (lv' := [(4, .int (nI (a + 1))), (0, .ref (g.2.2.2 0)), (1, .int (nI s2)), (2, .int (nI bd)), (3, .int (nI z)), (5, .int (nI b))]) hx hb dX11_elements_97 hl (k := 4) rfl (jn_ii _ 1) (by decide) rfl (fun ls hl => ?_)
                  refine lv_goto (tgt := 39) hx hb dX11_elements_100 (by decide) ?_
                  exact ih39 (a + 1) z (by omega) (by rw [h4, show b = bd + 1 by omega]; rfl) (by omega) _ _ hP hD hS _ (lv_sub hl [1, 2, 3, 4, 0] rfl)
                · refine lv_iconst (v := nI 0) hx hb dX11_elements_54 (by decide) ?_
                  refine lv_istore (lv' := [(6, .int (nI 0)), (0, .ref (g.2.2.2 0)), (1, .int (nI s2)), (2, .int (nI bd)), (3, .int (nI z)), (4, .int (nI a)), (5, .int (nI b))]) hx hb dX11_elements_55 hl (by decide) rfl (fun ls hl => ?_)
                  have lp57 : ∀ (fu : Nat), ∀ (c0 : Nat) (z : Nat), (c0 ≤ bd + 1) → (z = fb_sm (fun a => fb_sm (fun b => fb_ct (fun c => (fun a b c => cB (inR (σ.2.1 0) s2 a b c)) a b c) (bd + 1)) (bd + 1)) a + fb_sm (fun b => fb_ct (fun c => (fun a b c => cB (inR (σ.2.1 0) s2 a b c)) a b c) (bd + 1)) b + fb_ct (fun c => (fun a b c => cB (inR (σ.2.1 0) s2 a b c)) a b c) c0) → bd + 1 - c0 < fu → ∀ (H : Heap) (locs : List Loc), va_P (g.1, g.2.1) vwCl (wM g (sF σ 0 0) ++ tl) H → va_D A (wM g (sF σ 0 0) ++ tl) → va_S A s.heap H locs → ∀ ls : Array Slot, lv_has ls 7 [(0, .ref (g.2.2.2 0)), (1, .int (nI s2)), (2, .int (nI bd)), (3, .int (nI z)), (4, .int (nI a)), (5, .int (nI b)), (6, .int (nI c0))] → W p l e r_c_X11_elements s m ([.ref (g.2.2.2 0), .int (nI s2), .int (nI bd)] : List Value).toArray below meth c H locs 0 0 Q (F0 m 57 ls []) := by
                    intro fu
                    induction fu with
                    | zero => intro c0 z h5 h6 hf; exact absurd hf (Nat.not_lt_zero _)
                    | succ fu ih57 =>
                      intro c0 z h5 h6 hf H locs hP hD hS ls hl
                      refine lv_iload hx hb dX11_elements_57 (lv_at hl 6 rfl) ?_
                      refine lv_iload_n hx hb dX11_elements_59 rfl (lv_at hl 2 rfl) ?_
                      refine jn_cgt hx hb (by omega) (by omega) (tgt := 91) dX11_elements_60 (by decide) (fun c_60 => ?_) (fun c_60 => ?_)
                      · refine lv_iinc (v := nI (b + 1)) (lv' := [(5, .int (nI (b + 1))), (0, .ref (g.2.2.2 0)), (1, .int (nI s2)), (2, .int (nI bd)), (3, .int (nI z)), (4, .int (nI a)), (6, .int (nI c0))]) hx hb dX11_elements_91 hl (k := 5) rfl (jn_ii _ 1) (by decide) rfl (fun ls hl => ?_)
                        refine lv_goto (tgt := 48) hx hb dX11_elements_94 (by decide) ?_
                        exact ih48 (b + 1) z (by omega) (by rw [h6, show c0 = bd + 1 by omega, Nat.add_assoc]; rfl) (by omega) _ _ hP hD hS _ (lv_sub hl [1, 2, 3, 4, 5, 0] rfl)
                      · refine lv_iload_n hx hb dX11_elements_63 rfl (lv_at hl 3 rfl) ?_
                        refine lv_aload_n hx hb dX11_elements_64 rfl (lv_at hl 0 rfl) ?_
                        refine lv_iload_n hx hb dX11_elements_65 rfl (lv_at hl 1 rfl) ?_
                        refine lv_iload hx hb dX11_elements_66 (lv_at hl 4 rfl) ?_
                        refine lv_iload hx hb dX11_elements_68 (lv_at hl 5 rfl) ?_
                        refine lv_iload hx hb dX11_elements_70 (lv_at hl 6 rfl) ?_
                        refine vp_callSi (va_Run.run (va_runV (As := [.int (nI s2), .int (nI a), .int (nI b), .int (nI c0)]) (rest := [.int (nI z)]) ⟨hx, hb, hml, hown, hts⟩ (c_X11_isIn l g tl (sF σ 0 0) s2 a b c0 hOS c_9 (by omega) (by omega) (by omega)) (cwV 4 hts gX11_elements_X11_isIn rfl rfl rfl (by decide +kernel) ⟨Nat.le_of_ble_eq_true rfl, Nat.le_of_ble_eq_true rfl⟩) (okPV hK hP rfl (gM0 g (sF σ 0 0) tl)) rfl rfl hl.1 rfl (lv_room (Nat.le_of_ble_eq_true rfl)) dX11_elements_72 ⟨Nat.le_of_ble_eq_true rfl, Nat.le_of_ble_eq_true rfl⟩)) (fun r_72 h_72 => ?_)
                        have h_72 : r_72 = (nI (if cB (inR (σ.2.1 0) s2 a b c0) = true then 1 else 0)) := h_72
                        subst h_72
                        have jp83 : ∀ v83 : Nat, v83 = (if cB (inR (σ.2.1 0) s2 a b c0) = true then 1 else 0) → W p l e r_c_X11_elements s m ([.ref (g.2.2.2 0), .int (nI s2), .int (nI bd)] : List Value).toArray below meth c H locs 0 0 Q (F0 m 83 ls [.int (nI v83), .int (nI z)]) := by
                          intro v83 ev83
                          refine jn_iadd hx hb dX11_elements_83 ?_
                          refine lv_istore_n (lv' := [(3, .int (nI (z + v83))), (0, .ref (g.2.2.2 0)), (1, .int (nI s2)), (2, .int (nI bd)), (4, .int (nI a)), (5, .int (nI b)), (6, .int (nI c0))]) hx hb dX11_elements_84 rfl hl (by decide) rfl (fun ls hl => ?_)
                          refine lv_iinc (v := nI (c0 + 1)) (lv' := [(6, .int (nI (c0 + 1))), (3, .int (nI (z + v83))), (0, .ref (g.2.2.2 0)), (1, .int (nI s2)), (2, .int (nI bd)), (4, .int (nI a)), (5, .int (nI b))]) hx hb dX11_elements_85 hl (k := 6) rfl (jn_ii _ 1) (by decide) rfl (fun ls hl => ?_)
                          refine lv_goto (tgt := 57) hx hb dX11_elements_88 (by decide) ?_
                          exact ih57 (c0 + 1) (z + v83) (by omega) (by rw [h6, ev83]; exact ct_if rfl) (by omega) _ _ hP hD hS _ (lv_sub hl [2, 3, 4, 1, 5, 6, 0] rfl)
                        refine jn_beq hx hb (tgt := 82) dX11_elements_75 (by decide) (fun c_75 => ?_) (fun c_75 => ?_)
                        · refine lv_iconst (v := nI 0) hx hb dX11_elements_82 (by decide) ?_
                          exact jp83 0 (by rw [if_neg c_75])
                        · refine lv_iconst (v := nI 1) hx hb dX11_elements_78 (by decide) ?_
                          refine lv_goto (tgt := 83) hx hb dX11_elements_79 (by decide) ?_
                          exact jp83 1 (by rw [if_pos c_75])
                  exact lp57 _ 0 z (by omega) (by rw [h4]; rfl) (Nat.lt_succ_self _) _ _ hP hD hS _ (lv_sub hl [1, 2, 3, 4, 5, 6, 0] rfl)
            exact lp48 _ 0 z (by omega) (by rw [h2]; rfl) (Nat.lt_succ_self _) _ _ hP hD hS _ (lv_sub hl [1, 2, 3, 4, 5, 0] rfl)
      exact lp39 _ 0 0 (by omega) rfl (Nat.lt_succ_self _) _ _ hP hD hS _ (lv_sub hl [2, 3, 4, 1, 0] rfl)
    · refine lv_aload_n hx hb dX11_elements_28 rfl (lv_at hl 0 rfl) ?_
      refine lv_iconst (v := nI 2) hx hb dX11_elements_29 (by decide) ?_
      refine jn_calli (va_runV (As := [.int (nI 2)]) (rest := []) ⟨hx, hb, hml, hown, hts⟩ (c_X11_fails l g tl H.size (sF σ 0 0) 2) (cwV 1 hts gX11_elements_X11_fails rfl rfl rfl (by decide +kernel) ⟨Nat.le_of_ble_eq_true rfl, Nat.le_of_ble_eq_true rfl⟩) (okWV hK hP hD rfl (gM0 g (sF σ 0 0) tl)) rfl rfl hl.1 rfl (lv_room (Nat.le_of_ble_eq_true rfl)) dX11_elements_30 ⟨Nat.le_of_ble_eq_true rfl, Nat.le_of_ble_eq_true rfl⟩) hD hS hAA (fun r_30 u H locs hw_ hP hD hS => ?_)
      obtain rfl := hw_
      have hP : va_P (g.1, g.2.1) vwCl (wM g (sF (sF σ 0 0) 0 2) ++ tl) H := hP
      have hD : va_D A (wM g (sF (sF σ 0 0) 0 2) ++ tl) := hD
      exact hq _ _ _ _ ((nI 0)) (0, 2) dX11_elements_33 ⟨rfl, (Or.inr (Or.inl ⟨c_9, by omega, rfl⟩))⟩ hP hD hS
  · refine lv_aload_n hx hb dX11_elements_12 rfl (lv_at hl 0 rfl) ?_
    refine lv_iconst (v := nI 1) hx hb dX11_elements_13 (by decide) ?_
    refine jn_calli (va_runV (As := [.int (nI 1)]) (rest := []) ⟨hx, hb, hml, hown, hts⟩ (c_X11_fails l g tl H.size (sF σ 0 0) 1) (cwV 1 hts gX11_elements_X11_fails rfl rfl rfl (by decide +kernel) ⟨Nat.le_of_ble_eq_true rfl, Nat.le_of_ble_eq_true rfl⟩) (okWV hK hP hD rfl (gM0 g (sF σ 0 0) tl)) rfl rfl hl.1 rfl (lv_room (Nat.le_of_ble_eq_true rfl)) dX11_elements_14 ⟨Nat.le_of_ble_eq_true rfl, Nat.le_of_ble_eq_true rfl⟩) hD hS hAA (fun r_14 u H locs hw_ hP hD hS => ?_)
    obtain rfl := hw_
    have hP : va_P (g.1, g.2.1) vwCl (wM g (sF (sF σ 0 0) 0 1) ++ tl) H := hP
    have hD : va_D A (wM g (sF (sF σ 0 0) 0 1) ++ tl) := hD
    exact hq _ _ _ _ ((nI 0)) (0, 1) dX11_elements_17 ⟨rfl, (Or.inl ⟨c_9, rfl⟩)⟩ hP hD hS

abbrev r_c_X11_reachedCounts : Room := { frames := 3, cells := 0, slots := 0, locals := 70 }
set_option maxHeartbeats 4000000 in
set_option maxRecDepth 100000 in
theorem c_X11_reachedCounts (l : Launch) (g : GC) (tl : va_W) (sz : Nat) (σ : SS) (bd : Nat) (hT : OkT (σ.2.1 0)) (hF : ((σ.2.1 0) 15) < 32) (hbd : bd < 4294967296) : Met l yX11_reachedCounts wsX11_reachedCounts r_c_X11_reachedCounts (va_Pc [.ref (g.2.2.2 0), .int (nI bd)] (PW g (wM g σ ++ tl) sz)) (va_Qi (fun (r : Int32) (z : Nat × Nat × (Nat → Nat)) => match z with | (r0, th, f7) => (r = nI (r0)) ∧ ((¬ bd < 7 ∧ th = 1) ∨ (bd < 7 ∧ th = 0 ∧ r0 = cnt3 (fun a b c => decide (rch (σ.2.1 0) a b c &&& ((σ.2.1 0) 15) ≠ 0)) (bd + 1)))) (fun (z : Nat × Nat × (Nat → Nat)) t => BW g (va_A (wM g σ ++ tl) sz) ((fun z : Nat × Nat × (Nat → Nat) => match z with | (r0, th, f7) => wM g (sA (sF σ 0 th) 7 f7) ++ tl) z) t) (va_A (wM g σ ++ tl) sz)) 0 0 (va_A (wM g σ ++ tl) sz) := by
  refine jn_si (wf := fun z : Nat × Nat × (Nat → Nat) => match z with | (r0, th, f7) => wM g (sA (sF σ 0 th) 7 f7) ++ tl) (cc := cX11_reachedCounts) (maxL := 6) (own := RX11) (by decide) rfl rfl (Nat.le_of_ble_eq_true rfl) ?_
  intro p e s m below meth c Q A hx hb hml hown hts hK hP hD hS hAA hq ls hl
  obtain ⟨H, eH⟩ : ∃ z, z = s.heap := ⟨_, rfl⟩
  obtain ⟨locs, el⟩ : ∃ z : List Loc, z = [] := ⟨_, rfl⟩
  rw [← eH] at hP
  have hS : va_S A s.heap H locs := by rw [eH, el]; exact hS
  have goal0 : W p l e r_c_X11_reachedCounts s m ([.ref (g.2.2.2 0), .int (nI bd)] : List Value).toArray below meth c H locs 0 0 Q (F0 m 0 ls []) → W p l e r_c_X11_reachedCounts s m ([.ref (g.2.2.2 0), .int (nI bd)] : List Value).toArray below meth c s.heap [] 0 0 Q (F0 m 0 ls []) := fun h => by rw [eH, el] at h; exact h
  refine goal0 ?_
  have hl : lv_has ls 6 [(0, .ref (g.2.2.2 0)), (1, .int (nI bd))] := hl
  have iX11 : ∀ w ∈ wsX110, w ∈ wsX11_reachedCounts := by decide +kernel
  have k1 := hts (.fieldLink RX11 1 "JumpingAutomataModel" "thrown" "I") (by decide +kernel)
  refine lv_aload_n hx hb dX11_reachedCounts_0 rfl (lv_at hl 0 rfl) ?_
  refine lv_iconst (v := nI 0) hx hb dX11_reachedCounts_1 (by decide) ?_
  refine jn_put (D := (g.1, g.2.1)) (ci := 13) (v := .int (nI 0)) (ty := .int) (C := RX11) (T := TX11) (N := 30) hx hb hts iX11 tyX11 tyX11_ok nmX11 hown hK.1 hP hD hS 0 (gM0 g σ tl) rfl 0 (by decide) k1 (fun _ h9 => h9) rfl (by decide +kernel) rfl rfl (Nat.le_of_ble_eq_true rfl) (uM_F0 g σ tl 0) dX11_reachedCounts_2 (fun H locs hP hD hS => ?_)
  refine lv_iload_n hx hb dX11_reachedCounts_5 rfl (lv_at hl 1 rfl) ?_
  refine lv_iconst (v := nI 0) hx hb dX11_reachedCounts_6 (by decide) ?_
  refine lv_bipush (v := nI 6) hx hb dX11_reachedCounts_7 (by decide) ?_
  refine vp_callSi (va_Run.run (va_runS (As := [.int (nI bd), .int (nI 0), .int (nI 6)]) (rest := []) ⟨hx, hb, hml, hown, hts⟩ (c_X11_in l bd 0 6 (by omega) (by decide) (by decide)) (va_cwS 3 hts gX11_reachedCounts_X11_in rfl rfl rfl (by decide +kernel) ⟨Nat.le_of_ble_eq_true rfl, Nat.le_of_ble_eq_true rfl⟩) okTS rfl rfl hl.1 rfl (lv_room (Nat.le_of_ble_eq_true rfl)) dX11_reachedCounts_9 ⟨Nat.le_of_ble_eq_true rfl, Nat.le_of_ble_eq_true rfl⟩)) (fun r_9 h_9 => ?_)
  subst h_9
  refine jn_bne hx hb (tgt := 21) dX11_reachedCounts_12 (by decide) (fun c_12 => ?_) (fun c_12 => ?_)
  · refine lv_aload_n hx hb dX11_reachedCounts_21 rfl (lv_at hl 0 rfl) ?_
    refine jn_callv (va_runV (As := []) (rest := []) ⟨hx, hb, hml, hown, hts⟩ (c_X11_layReached l g tl H.size (sF σ 0 0) hT) (cwV 0 hts gX11_reachedCounts_X11_layReached rfl rfl rfl (by decide +kernel) ⟨Nat.le_of_ble_eq_true rfl, Nat.le_of_ble_eq_true rfl⟩) (okWV hK hP hD rfl (gM0 g (sF σ 0 0) tl)) rfl rfl hl.1 rfl (lv_room (Nat.le_of_ble_eq_true rfl)) dX11_reachedCounts_22 ⟨Nat.le_of_ble_eq_true rfl, Nat.le_of_ble_eq_true rfl⟩) hD hS hAA (fun u H locs hw_ hP hD hS => ?_)
    obtain ⟨f_22, rfl⟩ : ∃ z, z = u := ⟨_, rfl⟩
    have h_22 := hw_
    have h_22 : ∀ a b c, a < 10 → b < 10 → c < 10 → f_22 (100 * a + 10 * b + c) = rch (σ.2.1 0) a b c := h_22
    have hP : va_P (g.1, g.2.1) vwCl (wM g (sA (sF σ 0 0) 7 f_22) ++ tl) H := hP
    have hD : va_D A (wM g (sA (sF σ 0 0) 7 f_22) ++ tl) := hD
    refine lv_iconst (v := nI 0) hx hb dX11_reachedCounts_25 (by decide) ?_
    refine lv_istore_n (lv' := [(2, .int (nI 0)), (0, .ref (g.2.2.2 0)), (1, .int (nI bd))]) hx hb dX11_reachedCounts_26 rfl hl (by decide) rfl (fun ls hl => ?_)
    refine lv_iconst (v := nI 0) hx hb dX11_reachedCounts_27 (by decide) ?_
    refine lv_istore_n (lv' := [(3, .int (nI 0)), (2, .int (nI 0)), (0, .ref (g.2.2.2 0)), (1, .int (nI bd))]) hx hb dX11_reachedCounts_28 rfl hl (by decide) rfl (fun ls hl => ?_)
    have lp29 : ∀ (fu : Nat), ∀ (a : Nat) (z : Nat), (a ≤ bd + 1) → (z = fb_sm (fun a => fb_sm (fun b => fb_ct (fun c => (fun a b c => decide (rch (σ.2.1 0) a b c &&& ((σ.2.1 0) 15) ≠ 0)) a b c) (bd + 1)) (bd + 1)) a) → bd + 1 - a < fu → ∀ (H : Heap) (locs : List Loc), va_P (g.1, g.2.1) vwCl (wM g (sA (sF σ 0 0) 7 f_22) ++ tl) H → va_D A (wM g (sA (sF σ 0 0) 7 f_22) ++ tl) → va_S A s.heap H locs → ∀ ls : Array Slot, lv_has ls 6 [(0, .ref (g.2.2.2 0)), (1, .int (nI bd)), (2, .int (nI z)), (3, .int (nI a))] → W p l e r_c_X11_reachedCounts s m ([.ref (g.2.2.2 0), .int (nI bd)] : List Value).toArray below meth c H locs 0 0 Q (F0 m 29 ls []) := by
      intro fu
      induction fu with
      | zero => intro a z h1 h2 hf; exact absurd hf (Nat.not_lt_zero _)
      | succ fu ih29 =>
        intro a z h1 h2 hf H locs hP hD hS ls hl
        refine lv_iload_n hx hb dX11_reachedCounts_29 rfl (lv_at hl 3 rfl) ?_
        refine lv_iload_n hx hb dX11_reachedCounts_30 rfl (lv_at hl 1 rfl) ?_
        refine jn_cgt hx hb (by omega) (by omega) (tgt := 90) dX11_reachedCounts_31 (by decide) (fun c_31 => ?_) (fun c_31 => ?_)
        · refine lv_iload_n hx hb dX11_reachedCounts_90 rfl (lv_at hl 2 rfl) ?_
          exact hq _ _ _ _ ((nI z)) (_, 0, f_22) dX11_reachedCounts_91 ⟨rfl, (Or.inr ⟨by omega, rfl, by rw [h2, show a = bd + 1 by omega]; rfl⟩)⟩ hP hD hS
        · refine lv_iconst (v := nI 0) hx hb dX11_reachedCounts_34 (by decide) ?_
          refine lv_istore (lv' := [(4, .int (nI 0)), (0, .ref (g.2.2.2 0)), (1, .int (nI bd)), (2, .int (nI z)), (3, .int (nI a))]) hx hb dX11_reachedCounts_35 hl (by decide) rfl (fun ls hl => ?_)
          have lp37 : ∀ (fu : Nat), ∀ (b : Nat) (z : Nat), (b ≤ bd + 1) → (z = fb_sm (fun a => fb_sm (fun b => fb_ct (fun c => (fun a b c => decide (rch (σ.2.1 0) a b c &&& ((σ.2.1 0) 15) ≠ 0)) a b c) (bd + 1)) (bd + 1)) a + fb_sm (fun b => fb_ct (fun c => (fun a b c => decide (rch (σ.2.1 0) a b c &&& ((σ.2.1 0) 15) ≠ 0)) a b c) (bd + 1)) b) → bd + 1 - b < fu → ∀ (H : Heap) (locs : List Loc), va_P (g.1, g.2.1) vwCl (wM g (sA (sF σ 0 0) 7 f_22) ++ tl) H → va_D A (wM g (sA (sF σ 0 0) 7 f_22) ++ tl) → va_S A s.heap H locs → ∀ ls : Array Slot, lv_has ls 6 [(0, .ref (g.2.2.2 0)), (1, .int (nI bd)), (2, .int (nI z)), (3, .int (nI a)), (4, .int (nI b))] → W p l e r_c_X11_reachedCounts s m ([.ref (g.2.2.2 0), .int (nI bd)] : List Value).toArray below meth c H locs 0 0 Q (F0 m 37 ls []) := by
            intro fu
            induction fu with
            | zero => intro b z h3 h4 hf; exact absurd hf (Nat.not_lt_zero _)
            | succ fu ih37 =>
              intro b z h3 h4 hf H locs hP hD hS ls hl
              refine lv_iload hx hb dX11_reachedCounts_37 (lv_at hl 4 rfl) ?_
              refine lv_iload_n hx hb dX11_reachedCounts_39 rfl (lv_at hl 1 rfl) ?_
              refine jn_cgt hx hb (by omega) (by omega) (tgt := 84) dX11_reachedCounts_40 (by decide) (fun c_40 => ?_) (fun c_40 => ?_)
              · refine lv_iinc (v := nI (a + 1)) (lv' := [(3, .int (nI (a + 1))), (0, .ref (g.2.2.2 0)), (1, .int (nI bd)), (2, .int (nI z)), (4, .int (nI b))]) hx hb dX11_reachedCounts_84 hl (k := 3) rfl (jn_ii _ 1) (by decide) rfl (fun ls hl => ?_)
                refine lv_goto (tgt := 29) hx hb dX11_reachedCounts_87 (by decide) ?_
                exact ih29 (a + 1) z (by omega) (by rw [h4, show b = bd + 1 by omega]; rfl) (by omega) _ _ hP hD hS _ (lv_sub hl [1, 2, 3, 0] rfl)
              · refine lv_iconst (v := nI 0) hx hb dX11_reachedCounts_43 (by decide) ?_
                refine lv_istore (lv' := [(5, .int (nI 0)), (0, .ref (g.2.2.2 0)), (1, .int (nI bd)), (2, .int (nI z)), (3, .int (nI a)), (4, .int (nI b))]) hx hb dX11_reachedCounts_44 hl (by decide) rfl (fun ls hl => ?_)
                have lp46 : ∀ (fu : Nat), ∀ (c0 : Nat) (z : Nat), (c0 ≤ bd + 1) → (z = fb_sm (fun a => fb_sm (fun b => fb_ct (fun c => (fun a b c => decide (rch (σ.2.1 0) a b c &&& ((σ.2.1 0) 15) ≠ 0)) a b c) (bd + 1)) (bd + 1)) a + fb_sm (fun b => fb_ct (fun c => (fun a b c => decide (rch (σ.2.1 0) a b c &&& ((σ.2.1 0) 15) ≠ 0)) a b c) (bd + 1)) b + fb_ct (fun c => (fun a b c => decide (rch (σ.2.1 0) a b c &&& ((σ.2.1 0) 15) ≠ 0)) a b c) c0) → bd + 1 - c0 < fu → ∀ (H : Heap) (locs : List Loc), va_P (g.1, g.2.1) vwCl (wM g (sA (sF σ 0 0) 7 f_22) ++ tl) H → va_D A (wM g (sA (sF σ 0 0) 7 f_22) ++ tl) → va_S A s.heap H locs → ∀ ls : Array Slot, lv_has ls 6 [(0, .ref (g.2.2.2 0)), (1, .int (nI bd)), (2, .int (nI z)), (3, .int (nI a)), (4, .int (nI b)), (5, .int (nI c0))] → W p l e r_c_X11_reachedCounts s m ([.ref (g.2.2.2 0), .int (nI bd)] : List Value).toArray below meth c H locs 0 0 Q (F0 m 46 ls []) := by
                  intro fu
                  induction fu with
                  | zero => intro c0 z h5 h6 hf; exact absurd hf (Nat.not_lt_zero _)
                  | succ fu ih46 =>
                    intro c0 z h5 h6 hf H locs hP hD hS ls hl
                    refine lv_iload hx hb dX11_reachedCounts_46 (lv_at hl 5 rfl) ?_
                    refine lv_iload_n hx hb dX11_reachedCounts_48 rfl (lv_at hl 1 rfl) ?_
                    refine jn_cgt hx hb (by omega) (by omega) (tgt := 78) dX11_reachedCounts_49 (by decide) (fun c_49 => ?_) (fun c_49 => ?_)
                    · refine lv_iinc (v := nI (b + 1)) (lv' := [(4, .int (nI (b + 1))), (0, .ref (g.2.2.2 0)), (1, .int (nI bd)), (2, .int (nI z)), (3, .int (nI a)), (5, .int (nI c0))]) hx hb dX11_reachedCounts_78 hl (k := 4) rfl (jn_ii _ 1) (by decide) rfl (fun ls hl => ?_)
                      refine lv_goto (tgt := 37) hx hb dX11_reachedCounts_81 (by decide) ?_
                      exact ih37 (b + 1) z (by omega) (by rw [h6, show c0 = bd + 1 by omega, Nat.add_assoc]; rfl) (by omega) _ _ hP hD hS _ (lv_sub hl [1, 2, 3, 4, 0] rfl)
                    · refine lv_iload_n hx hb dX11_reachedCounts_52 rfl (lv_at hl 2 rfl) ?_
                      refine lv_aload_n hx hb dX11_reachedCounts_53 rfl (lv_at hl 0 rfl) ?_
                      refine lv_iload_n hx hb dX11_reachedCounts_54 rfl (lv_at hl 3 rfl) ?_
                      refine lv_iload hx hb dX11_reachedCounts_55 (lv_at hl 4 rfl) ?_
                      refine lv_iload hx hb dX11_reachedCounts_57 (lv_at hl 5 rfl) ?_
                      refine vp_callSi (va_Run.run (va_runV (As := [.int (nI a), .int (nI b), .int (nI c0)]) (rest := [.int (nI z)]) ⟨hx, hb, hml, hown, hts⟩ (c_X11_isReached l g tl (sA (sF σ 0 0) 7 f_22) a b c0 hF (by omega) (by omega) (by omega)) (cwV 3 hts gX11_reachedCounts_X11_isReached rfl rfl rfl (by decide +kernel) ⟨Nat.le_of_ble_eq_true rfl, Nat.le_of_ble_eq_true rfl⟩) (okPV hK hP rfl (gM0 g (sA (sF σ 0 0) 7 f_22) tl)) rfl rfl hl.1 rfl (lv_room (Nat.le_of_ble_eq_true rfl)) dX11_reachedCounts_59 ⟨Nat.le_of_ble_eq_true rfl, Nat.le_of_ble_eq_true rfl⟩)) (fun r_59 h_59 => ?_)
                      have h_59 : r_59 = (nI (if (f_22) (100 * a + 10 * b + c0) &&& ((σ.2.1 0) 15) ≠ 0 then 1 else 0)) := h_59
                      subst h_59
                      have jp70 : ∀ v70 : Nat, v70 = (if f_22 (100 * a + 10 * b + c0) &&& ((σ.2.1 0) 15) ≠ 0 then 1 else 0) → W p l e r_c_X11_reachedCounts s m ([.ref (g.2.2.2 0), .int (nI bd)] : List Value).toArray below meth c H locs 0 0 Q (F0 m 70 ls [.int (nI v70), .int (nI z)]) := by
                        intro v70 ev70
                        refine jn_iadd hx hb dX11_reachedCounts_70 ?_
                        refine lv_istore_n (lv' := [(2, .int (nI (z + v70))), (0, .ref (g.2.2.2 0)), (1, .int (nI bd)), (3, .int (nI a)), (4, .int (nI b)), (5, .int (nI c0))]) hx hb dX11_reachedCounts_71 rfl hl (by decide) rfl (fun ls hl => ?_)
                        refine lv_iinc (v := nI (c0 + 1)) (lv' := [(5, .int (nI (c0 + 1))), (2, .int (nI (z + v70))), (0, .ref (g.2.2.2 0)), (1, .int (nI bd)), (3, .int (nI a)), (4, .int (nI b))]) hx hb dX11_reachedCounts_72 hl (k := 5) rfl (jn_ii _ 1) (by decide) rfl (fun ls hl => ?_)
                        refine lv_goto (tgt := 46) hx hb dX11_reachedCounts_75 (by decide) ?_
                        exact ih46 (c0 + 1) (z + v70) (by omega) (by rw [h6, ev70]; exact ct_if (by rw [h_22 a b c0 (by omega) (by omega) (by omega)]; by_cases q : rch (σ.2.1 0) a b c0 &&& (σ.2.1 0) 15 ≠ 0; { rw [if_pos q, if_pos (decide_eq_true q)] }; { rw [if_neg q, if_neg (by rw [decide_eq_true_iff]; exact q)] })) (by omega) _ _ hP hD hS _ (lv_sub hl [2, 3, 1, 4, 5, 0] rfl)
                      refine jn_beq hx hb (tgt := 69) dX11_reachedCounts_62 (by decide) (fun c_62 => ?_) (fun c_62 => ?_)
                      · refine lv_iconst (v := nI 0) hx hb dX11_reachedCounts_69 (by decide) ?_
                        exact jp70 0 (by rw [if_neg c_62])
                      · refine lv_iconst (v := nI 1) hx hb dX11_reachedCounts_65 (by decide) ?_
                        refine lv_goto (tgt := 70) hx hb dX11_reachedCounts_66 (by decide) ?_
                        exact jp70 1 (by rw [if_pos c_62])
                exact lp46 _ 0 z (by omega) (by rw [h4]; rfl) (Nat.lt_succ_self _) _ _ hP hD hS _ (lv_sub hl [1, 2, 3, 4, 5, 0] rfl)
          exact lp37 _ 0 z (by omega) (by rw [h2]; rfl) (Nat.lt_succ_self _) _ _ hP hD hS _ (lv_sub hl [1, 2, 3, 4, 0] rfl)
    exact lp29 _ 0 0 (by omega) rfl (Nat.lt_succ_self _) _ _ hP hD hS _ (lv_sub hl [2, 3, 1, 0] rfl)
  · refine lv_aload_n hx hb dX11_reachedCounts_15 rfl (lv_at hl 0 rfl) ?_
    refine lv_iconst (v := nI 1) hx hb dX11_reachedCounts_16 (by decide) ?_
    refine jn_calli (va_runV (As := [.int (nI 1)]) (rest := []) ⟨hx, hb, hml, hown, hts⟩ (c_X11_fails l g tl H.size (sF σ 0 0) 1) (cwV 1 hts gX11_reachedCounts_X11_fails rfl rfl rfl (by decide +kernel) ⟨Nat.le_of_ble_eq_true rfl, Nat.le_of_ble_eq_true rfl⟩) (okWV hK hP hD rfl (gM0 g (sF σ 0 0) tl)) rfl rfl hl.1 rfl (lv_room (Nat.le_of_ble_eq_true rfl)) dX11_reachedCounts_17 ⟨Nat.le_of_ble_eq_true rfl, Nat.le_of_ble_eq_true rfl⟩) hD hS hAA (fun r_17 u H locs hw_ hP hD hS => ?_)
    obtain rfl := hw_
    have hP : va_P (g.1, g.2.1) vwCl (wM g (sF (sF σ 0 0) 0 1) ++ tl) H := hP
    have hD : va_D A (wM g (sF (sF σ 0 0) 0 1) ++ tl) := hD
    exact hq _ _ _ _ ((nI 0)) (0, 1, (σ.2.1 7)) dX11_reachedCounts_20 ⟨rfl, (Or.inl ⟨by omega, rfl⟩)⟩ hP hD hS

abbrev r_c_X11_firstUnlike : Room := { frames := 32, cells := 0, slots := 0, locals := 831 }
set_option maxHeartbeats 4000000 in
set_option maxRecDepth 100000 in
theorem c_X11_firstUnlike (l : Launch) (g : GC) (tl : va_W) (sz : Nat) (σ : SS) (s2 bd wr : Nat) (hT : OkT (σ.2.1 0)) (hF : ((σ.2.1 0) 15) < 32) (hOS : OkS (σ.2.1 0)) (hs2 : s2 < 4294967296) (hbd : bd < 4294967296) (hwr : wr < 2) : Met l yX11_firstUnlike wsX11_firstUnlike r_c_X11_firstUnlike (va_Pc [.ref (g.2.2.2 0), .int (nI s2), .int (nI bd), .int (nI wr)] (PW g (wM g σ ++ tl) sz)) (va_Qi (fun (r : Int32) (z : Nat × Nat × (Nat → Nat)) => match z with | (r0, th, f7) => (r = nI (r0)) ∧ ((¬ s2 < 2 ∧ th = 1) ∨ (s2 < 2 ∧ ¬ bd < 7 ∧ th = 2) ∨ (s2 < 2 ∧ bd < 7 ∧ th = 3 ∧ ∀ x y z, x ≤ bd → y ≤ bd → z ≤ bd → ¬ (dfR (σ.2.1 0) ((σ.2.1 0) 15) (σ.2.1 0) s2 wr) x y z) ∨ (s2 < 2 ∧ bd < 7 ∧ th = 0 ∧ isDf (dfR (σ.2.1 0) ((σ.2.1 0) 15) (σ.2.1 0) s2 wr) bd r0))) (fun (z : Nat × Nat × (Nat → Nat)) t => BW g (va_A (wM g σ ++ tl) sz) ((fun z : Nat × Nat × (Nat → Nat) => match z with | (r0, th, f7) => wM g (sA (sF σ 0 th) 7 f7) ++ tl) z) t) (va_A (wM g σ ++ tl) sz)) 0 0 (va_A (wM g σ ++ tl) sz) := by
  refine jn_si (wf := fun z : Nat × Nat × (Nat → Nat) => match z with | (r0, th, f7) => wM g (sA (sF σ 0 th) 7 f7) ++ tl) (cc := cX11_firstUnlike) (maxL := 8) (own := RX11) (by decide) rfl rfl (Nat.le_of_ble_eq_true rfl) ?_
  intro p e s m below meth c Q A hx hb hml hown hts hK hP hD hS hAA hq ls hl
  obtain ⟨H, eH⟩ : ∃ z, z = s.heap := ⟨_, rfl⟩
  obtain ⟨locs, el⟩ : ∃ z : List Loc, z = [] := ⟨_, rfl⟩
  rw [← eH] at hP
  have hS : va_S A s.heap H locs := by rw [eH, el]; exact hS
  have goal0 : W p l e r_c_X11_firstUnlike s m ([.ref (g.2.2.2 0), .int (nI s2), .int (nI bd), .int (nI wr)] : List Value).toArray below meth c H locs 0 0 Q (F0 m 0 ls []) → W p l e r_c_X11_firstUnlike s m ([.ref (g.2.2.2 0), .int (nI s2), .int (nI bd), .int (nI wr)] : List Value).toArray below meth c s.heap [] 0 0 Q (F0 m 0 ls []) := fun h => by rw [eH, el] at h; exact h
  refine goal0 ?_
  have hl : lv_has ls 8 [(0, .ref (g.2.2.2 0)), (1, .int (nI s2)), (2, .int (nI bd)), (3, .int (nI wr))] := hl
  have iX11 : ∀ w ∈ wsX110, w ∈ wsX11_firstUnlike := by decide +kernel
  have k1 := hts (.fieldLink RX11 1 "JumpingAutomataModel" "thrown" "I") (by decide +kernel)
  refine lv_aload_n hx hb dX11_firstUnlike_0 rfl (lv_at hl 0 rfl) ?_
  refine lv_iconst (v := nI 0) hx hb dX11_firstUnlike_1 (by decide) ?_
  refine jn_put (D := (g.1, g.2.1)) (ci := 13) (v := .int (nI 0)) (ty := .int) (C := RX11) (T := TX11) (N := 30) hx hb hts iX11 tyX11 tyX11_ok nmX11 hown hK.1 hP hD hS 0 (gM0 g σ tl) rfl 0 (by decide) k1 (fun _ h9 => h9) rfl (by decide +kernel) rfl rfl (Nat.le_of_ble_eq_true rfl) (uM_F0 g σ tl 0) dX11_firstUnlike_2 (fun H locs hP hD hS => ?_)
  refine lv_iload_n hx hb dX11_firstUnlike_5 rfl (lv_at hl 1 rfl) ?_
  refine vp_callSi (va_Run.run (va_runS (As := [.int (nI s2)]) (rest := []) ⟨hx, hb, hml, hown, hts⟩ (c_X11_isSet l s2 (by omega)) (va_cwS 1 hts gX11_firstUnlike_X11_isSet rfl rfl rfl (by decide +kernel) ⟨Nat.le_of_ble_eq_true rfl, Nat.le_of_ble_eq_true rfl⟩) okTS rfl rfl hl.1 rfl (lv_room (Nat.le_of_ble_eq_true rfl)) dX11_firstUnlike_6 ⟨Nat.le_of_ble_eq_true rfl, Nat.le_of_ble_eq_true rfl⟩)) (fun r_6 h_6 => ?_)
  subst h_6
  refine jn_bne hx hb (tgt := 18) dX11_firstUnlike_9 (by decide) (fun c_9 => ?_) (fun c_9 => ?_)
  · refine lv_iload_n hx hb dX11_firstUnlike_18 rfl (lv_at hl 2 rfl) ?_
    refine lv_iconst (v := nI 0) hx hb dX11_firstUnlike_19 (by decide) ?_
    refine lv_bipush (v := nI 6) hx hb dX11_firstUnlike_20 (by decide) ?_
    refine vp_callSi (va_Run.run (va_runS (As := [.int (nI bd), .int (nI 0), .int (nI 6)]) (rest := []) ⟨hx, hb, hml, hown, hts⟩ (c_X11_in l bd 0 6 (by omega) (by decide) (by decide)) (va_cwS 3 hts gX11_firstUnlike_X11_in rfl rfl rfl (by decide +kernel) ⟨Nat.le_of_ble_eq_true rfl, Nat.le_of_ble_eq_true rfl⟩) okTS rfl rfl hl.1 rfl (lv_room (Nat.le_of_ble_eq_true rfl)) dX11_firstUnlike_22 ⟨Nat.le_of_ble_eq_true rfl, Nat.le_of_ble_eq_true rfl⟩)) (fun r_22 h_22 => ?_)
    subst h_22
    refine jn_bne hx hb (tgt := 34) dX11_firstUnlike_25 (by decide) (fun c_25 => ?_) (fun c_25 => ?_)
    · refine lv_aload_n hx hb dX11_firstUnlike_34 rfl (lv_at hl 0 rfl) ?_
      refine jn_callv (va_runV (As := []) (rest := []) ⟨hx, hb, hml, hown, hts⟩ (c_X11_layReached l g tl H.size (sF σ 0 0) hT) (cwV 0 hts gX11_firstUnlike_X11_layReached rfl rfl rfl (by decide +kernel) ⟨Nat.le_of_ble_eq_true rfl, Nat.le_of_ble_eq_true rfl⟩) (okWV hK hP hD rfl (gM0 g (sF σ 0 0) tl)) rfl rfl hl.1 rfl (lv_room (Nat.le_of_ble_eq_true rfl)) dX11_firstUnlike_35 ⟨Nat.le_of_ble_eq_true rfl, Nat.le_of_ble_eq_true rfl⟩) hD hS hAA (fun u H locs hw_ hP hD hS => ?_)
      obtain ⟨f_35, rfl⟩ : ∃ z, z = u := ⟨_, rfl⟩
      have h_35 := hw_
      have h_35 : ∀ a b c, a < 10 → b < 10 → c < 10 → f_35 (100 * a + 10 * b + c) = rch (σ.2.1 0) a b c := h_35
      have hP : va_P (g.1, g.2.1) vwCl (wM g (sA (sF σ 0 0) 7 f_35) ++ tl) H := hP
      have hD : va_D A (wM g (sA (sF σ 0 0) 7 f_35) ++ tl) := hD
      refine lv_iconst (v := nI 0) hx hb dX11_firstUnlike_38 (by decide) ?_
      refine lv_istore (lv' := [(4, .int (nI 0)), (0, .ref (g.2.2.2 0)), (1, .int (nI s2)), (2, .int (nI bd)), (3, .int (nI wr))]) hx hb dX11_firstUnlike_39 hl (by decide) rfl (fun ls hl => ?_)
      have lp41 : ∀ (fu : Nat), ∀ (sm : Nat), (sm ≤ 3 * bd + 1) → (nDf (dfR (σ.2.1 0) ((σ.2.1 0) 15) (σ.2.1 0) s2 wr) bd sm 0 0) → 3 * bd + 1 - sm < fu → ∀ (H : Heap) (locs : List Loc), va_P (g.1, g.2.1) vwCl (wM g (sA (sF σ 0 0) 7 f_35) ++ tl) H → va_D A (wM g (sA (sF σ 0 0) 7 f_35) ++ tl) → va_S A s.heap H locs → ∀ ls : Array Slot, lv_has ls 8 [(0, .ref (g.2.2.2 0)), (1, .int (nI s2)), (2, .int (nI bd)), (3, .int (nI wr)), (4, .int (nI sm))] → W p l e r_c_X11_firstUnlike s m ([.ref (g.2.2.2 0), .int (nI s2), .int (nI bd), .int (nI wr)] : List Value).toArray below meth c H locs 0 0 Q (F0 m 41 ls []) := by
        intro fu
        induction fu with
        | zero => intro sm h1 h2 hf; exact absurd hf (Nat.not_lt_zero _)
        | succ fu ih41 =>
          intro sm h1 h2 hf H locs hP hD hS ls hl
          refine lv_iload hx hb dX11_firstUnlike_41 (lv_at hl 4 rfl) ?_
          refine lv_iconst (v := nI 3) hx hb dX11_firstUnlike_43 (by decide) ?_
          refine lv_iload_n hx hb dX11_firstUnlike_44 rfl (lv_at hl 2 rfl) ?_
          refine jn_imul hx hb dX11_firstUnlike_45 ?_
          refine jn_cgt hx hb (by omega) (by omega) (tgt := 149) dX11_firstUnlike_46 (by decide) (fun c_46 => ?_) (fun c_46 => ?_)
          · refine lv_aload_n hx hb dX11_firstUnlike_149 rfl (lv_at hl 0 rfl) ?_
            refine lv_iconst (v := nI 3) hx hb dX11_firstUnlike_150 (by decide) ?_
            refine jn_calli (va_runV (As := [.int (nI 3)]) (rest := []) ⟨hx, hb, hml, hown, hts⟩ (c_X11_fails l g tl H.size (sA (sF σ 0 0) 7 f_35) 3) (cwV 1 hts gX11_firstUnlike_X11_fails rfl rfl rfl (by decide +kernel) ⟨Nat.le_of_ble_eq_true rfl, Nat.le_of_ble_eq_true rfl⟩) (okWV hK hP hD rfl (gM0 g (sA (sF σ 0 0) 7 f_35) tl)) rfl rfl hl.1 rfl (lv_room (Nat.le_of_ble_eq_true rfl)) dX11_firstUnlike_151 ⟨Nat.le_of_ble_eq_true rfl, Nat.le_of_ble_eq_true rfl⟩) hD hS hAA (fun r_151 u H locs hw_ hP hD hS => ?_)
            obtain rfl := hw_
            have hP : va_P (g.1, g.2.1) vwCl (wM g (sF (sA (sF σ 0 0) 7 f_35) 0 3) ++ tl) H := hP
            have hD : va_D A (wM g (sF (sA (sF σ 0 0) 7 f_35) 0 3) ++ tl) := hD
            exact hq _ _ _ _ ((nI 0)) (0, 3, f_35) dX11_firstUnlike_154 ⟨rfl, (Or.inr (Or.inr (Or.inl ⟨c_9, by omega, rfl, nd_end h2 (by omega)⟩)))⟩ hP hD hS
          · refine lv_iconst (v := nI 0) hx hb dX11_firstUnlike_49 (by decide) ?_
            refine lv_istore (lv' := [(5, .int (nI 0)), (0, .ref (g.2.2.2 0)), (1, .int (nI s2)), (2, .int (nI bd)), (3, .int (nI wr)), (4, .int (nI sm))]) hx hb dX11_firstUnlike_50 hl (by decide) rfl (fun ls hl => ?_)
            have lp52 : ∀ (fu : Nat), ∀ (a : Nat), (a ≤ bd + 1) → (nDf (dfR (σ.2.1 0) ((σ.2.1 0) 15) (σ.2.1 0) s2 wr) bd sm a 0) → bd + 1 - a < fu → ∀ (H : Heap) (locs : List Loc), va_P (g.1, g.2.1) vwCl (wM g (sA (sF σ 0 0) 7 f_35) ++ tl) H → va_D A (wM g (sA (sF σ 0 0) 7 f_35) ++ tl) → va_S A s.heap H locs → ∀ ls : Array Slot, lv_has ls 8 [(0, .ref (g.2.2.2 0)), (1, .int (nI s2)), (2, .int (nI bd)), (3, .int (nI wr)), (4, .int (nI sm)), (5, .int (nI a))] → W p l e r_c_X11_firstUnlike s m ([.ref (g.2.2.2 0), .int (nI s2), .int (nI bd), .int (nI wr)] : List Value).toArray below meth c H locs 0 0 Q (F0 m 52 ls []) := by
              intro fu
              induction fu with
              | zero => intro a h3 h4 hf; exact absurd hf (Nat.not_lt_zero _)
              | succ fu ih52 =>
                intro a h3 h4 hf H locs hP hD hS ls hl
                refine lv_iload hx hb dX11_firstUnlike_52 (lv_at hl 5 rfl) ?_
                refine lv_iload_n hx hb dX11_firstUnlike_54 rfl (lv_at hl 2 rfl) ?_
                refine jn_cgt hx hb (by omega) (by omega) (tgt := 143) dX11_firstUnlike_55 (by decide) (fun c_55 => ?_) (fun c_55 => ?_)
                · refine lv_iinc (v := nI (sm + 1)) (lv' := [(4, .int (nI (sm + 1))), (0, .ref (g.2.2.2 0)), (1, .int (nI s2)), (2, .int (nI bd)), (3, .int (nI wr)), (5, .int (nI a))]) hx hb dX11_firstUnlike_143 hl (k := 4) rfl (jn_ii _ 1) (by decide) rfl (fun ls hl => ?_)
                  refine lv_goto (tgt := 41) hx hb dX11_firstUnlike_146 (by decide) ?_
                  exact ih41 (sm + 1) (by omega) (nd_s h4 (by omega)) (by omega) _ _ hP hD hS _ (lv_sub hl [1, 2, 3, 4, 0] rfl)
                · refine lv_iconst (v := nI 0) hx hb dX11_firstUnlike_58 (by decide) ?_
                  refine lv_istore (lv' := [(6, .int (nI 0)), (0, .ref (g.2.2.2 0)), (1, .int (nI s2)), (2, .int (nI bd)), (3, .int (nI wr)), (4, .int (nI sm)), (5, .int (nI a))]) hx hb dX11_firstUnlike_59 hl (by decide) rfl (fun ls hl => ?_)
                  have lp61 : ∀ (fu : Nat), ∀ (b : Nat), (b ≤ bd + 1) → (nDf (dfR (σ.2.1 0) ((σ.2.1 0) 15) (σ.2.1 0) s2 wr) bd sm a b) → bd + 1 - b < fu → ∀ (H : Heap) (locs : List Loc), va_P (g.1, g.2.1) vwCl (wM g (sA (sF σ 0 0) 7 f_35) ++ tl) H → va_D A (wM g (sA (sF σ 0 0) 7 f_35) ++ tl) → va_S A s.heap H locs → ∀ ls : Array Slot, lv_has ls 8 [(0, .ref (g.2.2.2 0)), (1, .int (nI s2)), (2, .int (nI bd)), (3, .int (nI wr)), (4, .int (nI sm)), (5, .int (nI a)), (6, .int (nI b))] → W p l e r_c_X11_firstUnlike s m ([.ref (g.2.2.2 0), .int (nI s2), .int (nI bd), .int (nI wr)] : List Value).toArray below meth c H locs 0 0 Q (F0 m 61 ls []) := by
                    intro fu
                    induction fu with
                    | zero => intro b h5 h6 hf; exact absurd hf (Nat.not_lt_zero _)
                    | succ fu ih61 =>
                      intro b h5 h6 hf H locs hP hD hS ls hl
                      refine lv_iload hx hb dX11_firstUnlike_61 (lv_at hl 6 rfl) ?_
                      refine lv_iload_n hx hb dX11_firstUnlike_63 rfl (lv_at hl 2 rfl) ?_
                      refine jn_cgt hx hb (by omega) (by omega) (tgt := 137) dX11_firstUnlike_64 (by decide) (fun c_64 => ?_) (fun c_64 => ?_)
                      · refine lv_iinc (v := nI (a + 1)) (lv' := [(5, .int (nI (a + 1))), (0, .ref (g.2.2.2 0)), (1, .int (nI s2)), (2, .int (nI bd)), (3, .int (nI wr)), (4, .int (nI sm)), (6, .int (nI b))]) hx hb dX11_firstUnlike_137 hl (k := 5) rfl (jn_ii _ 1) (by decide) rfl (fun ls hl => ?_)
                        refine lv_goto (tgt := 52) hx hb dX11_firstUnlike_140 (by decide) ?_
                        exact ih52 (a + 1) (by omega) (nd_a h6 (by omega)) (by omega) _ _ hP hD hS _ (lv_sub hl [1, 2, 3, 4, 5, 0] rfl)
                      · refine lv_iload hx hb dX11_firstUnlike_67 (lv_at hl 4 rfl) ?_
                        refine lv_iload hx hb dX11_firstUnlike_69 (lv_at hl 5 rfl) ?_
                        refine jn_isubB hx hb (by omega) dX11_firstUnlike_71 ?_
                        refine lv_iload hx hb dX11_firstUnlike_72 (lv_at hl 6 rfl) ?_
                        refine jn_isubB hx hb (by omega) dX11_firstUnlike_74 ?_
                        refine jn_nm (fun cc0 ecc0 => ?_)
                        refine lv_istore (lv' := [(7, .int (nI cc0)), (0, .ref (g.2.2.2 0)), (1, .int (nI s2)), (2, .int (nI bd)), (3, .int (nI wr)), (4, .int (nI sm)), (5, .int (nI a)), (6, .int (nI b))]) hx hb dX11_firstUnlike_75 hl (by decide) rfl (fun ls hl => ?_)
                        refine lv_iload hx hb dX11_firstUnlike_77 (lv_at hl 0 rfl) ?_
                        refine lv_iconst (v := nI 0) hx hb dX11_firstUnlike_79 (by decide) ?_
                        refine lv_iload_n hx hb dX11_firstUnlike_80 rfl (lv_at hl 3 rfl) ?_
                        refine vp_callSi (va_Run.run (va_runS (As := [.int (nI cc0), .int (nI 0), .int (nI bd)]) (rest := []) ⟨hx, hb, hml, hown, hts⟩ (c_X11_in l cc0 0 bd (by rw [ecc0]; exact sb_lt (sb_lt (by omega))) (by decide) (by omega)) (va_cwS 3 hts gX11_firstUnlike_X11_in rfl rfl rfl (by decide +kernel) ⟨Nat.le_of_ble_eq_true rfl, Nat.le_of_ble_eq_true rfl⟩) okTS rfl rfl hl.1 rfl (lv_room (Nat.le_of_ble_eq_true rfl)) dX11_firstUnlike_81 ⟨Nat.le_of_ble_eq_true rfl, Nat.le_of_ble_eq_true rfl⟩)) (fun r_81 h_81 => ?_)
                        subst h_81
                        refine jn_beq hx hb (tgt := 131) dX11_firstUnlike_84 (by decide) (fun c_84 => ?_) (fun c_84 => ?_)
                        · rw [ecc0] at c_84
                          refine lv_iinc (v := nI (b + 1)) (lv' := [(6, .int (nI (b + 1))), (7, .int (nI cc0)), (0, .ref (g.2.2.2 0)), (1, .int (nI s2)), (2, .int (nI bd)), (3, .int (nI wr)), (4, .int (nI sm)), (5, .int (nI a))]) hx hb dX11_firstUnlike_131 hl (k := 7) rfl (jn_ii _ 1) (by decide) rfl (fun ls hl => ?_)
                          refine lv_goto (tgt := 61) hx hb dX11_firstUnlike_134 (by decide) ?_
                          exact ih61 (b + 1) (by omega) (nd_b h6 (fun q1 q2 => by first | exact absurd ⟨q1, q2⟩ (fun w => c_84 ((ss_in (by omega) (by omega) (by omega) (by omega)).mpr w)) | exact fun z => ite_ne hwr c_98 (by rw [hrr, ess]; exact z.1) | exact fun z => z.2 (by have e9 := ite_eq hwr c_113; rw [cB_iff, ess] at e9; exact e9))) (by omega) _ _ hP hD hS _ (lv_sub hl [2, 3, 4, 5, 6, 7, 0] rfl)
                        · have hin := (ss_in (s := sm) (a := a) (b := b) (bd := bd) (by omega) (by omega) (by omega) (by omega)).mp (by rw [← ecc0]; exact c_84)
                          have ess : cc0 = sm - a - b := by rw [ecc0]; exact ss_eq hin.1
                          refine lv_aload_n hx hb dX11_firstUnlike_87 rfl (lv_at hl 1 rfl) ?_
                          refine lv_iload hx hb dX11_firstUnlike_88 (lv_at hl 6 rfl) ?_
                          refine lv_iload hx hb dX11_firstUnlike_90 (lv_at hl 7 rfl) ?_
                          refine lv_iload hx hb dX11_firstUnlike_92 (lv_at hl 0 rfl) ?_
                          refine vp_callSi (va_Run.run (va_runV (As := [.int (nI a), .int (nI b), .int (nI cc0)]) (rest := []) ⟨hx, hb, hml, hown, hts⟩ (c_X11_isReached l g tl (sA (sF σ 0 0) 7 f_35) a b cc0 hF (by omega) (by omega) (by omega)) (cwV 3 hts gX11_firstUnlike_X11_isReached rfl rfl rfl (by decide +kernel) ⟨Nat.le_of_ble_eq_true rfl, Nat.le_of_ble_eq_true rfl⟩) (okPV hK hP rfl (gM0 g (sA (sF σ 0 0) 7 f_35) tl)) rfl rfl hl.1 rfl (lv_room (Nat.le_of_ble_eq_true rfl)) dX11_firstUnlike_94 ⟨Nat.le_of_ble_eq_true rfl, Nat.le_of_ble_eq_true rfl⟩)) (fun r_94 h_94 => ?_)
                          have h_94 : r_94 = (nI (if (f_35) (100 * a + 10 * b + cc0) &&& ((σ.2.1 0) 15) ≠ 0 then 1 else 0)) := h_94
                          subst h_94
                          have hrr := h_35 a b cc0 (by omega) (by omega) (by omega)
                          refine lv_iload_n hx hb dX11_firstUnlike_97 rfl (lv_at hl 4 rfl) ?_
                          refine jn_cne hx hb (Nat.lt_trans ite_2 (by decide)) (by omega) (tgt := 131) dX11_firstUnlike_98 (by decide) (fun c_98 => ?_) (fun c_98 => ?_)
                          · refine lv_iinc (v := nI (b + 1)) (lv' := [(6, .int (nI (b + 1))), (7, .int (nI cc0)), (0, .ref (g.2.2.2 0)), (1, .int (nI s2)), (2, .int (nI bd)), (3, .int (nI wr)), (4, .int (nI sm)), (5, .int (nI a))]) hx hb dX11_firstUnlike_131 hl (k := 7) rfl (jn_ii _ 1) (by decide) rfl (fun ls hl => ?_)
                            refine lv_goto (tgt := 61) hx hb dX11_firstUnlike_134 (by decide) ?_
                            exact ih61 (b + 1) (by omega) (nd_b h6 (fun q1 q2 => by first | exact absurd ⟨q1, q2⟩ (fun w => c_84 ((ss_in (by omega) (by omega) (by omega) (by omega)).mpr w)) | exact fun z => ite_ne hwr c_98 (by rw [hrr, ess]; exact z.1) | exact fun z => z.2 (by have e9 := ite_eq hwr c_113; rw [cB_iff, ess] at e9; exact e9))) (by omega) _ _ hP hD hS _ (lv_sub hl [2, 3, 4, 5, 6, 7, 0] rfl)
                          · refine lv_aload_n hx hb dX11_firstUnlike_101 rfl (lv_at hl 1 rfl) ?_
                            refine lv_iload_n hx hb dX11_firstUnlike_102 rfl (lv_at hl 2 rfl) ?_
                            refine lv_iload hx hb dX11_firstUnlike_103 (lv_at hl 6 rfl) ?_
                            refine lv_iload hx hb dX11_firstUnlike_105 (lv_at hl 7 rfl) ?_
                            refine lv_iload hx hb dX11_firstUnlike_107 (lv_at hl 0 rfl) ?_
                            refine vp_callSi (va_Run.run (va_runV (As := [.int (nI s2), .int (nI a), .int (nI b), .int (nI cc0)]) (rest := []) ⟨hx, hb, hml, hown, hts⟩ (c_X11_isIn l g tl (sA (sF σ 0 0) 7 f_35) s2 a b cc0 hOS c_9 (by omega) (by omega) (by omega)) (cwV 4 hts gX11_firstUnlike_X11_isIn rfl rfl rfl (by decide +kernel) ⟨Nat.le_of_ble_eq_true rfl, Nat.le_of_ble_eq_true rfl⟩) (okPV hK hP rfl (gM0 g (sA (sF σ 0 0) 7 f_35) tl)) rfl rfl hl.1 rfl (lv_room (Nat.le_of_ble_eq_true rfl)) dX11_firstUnlike_109 ⟨Nat.le_of_ble_eq_true rfl, Nat.le_of_ble_eq_true rfl⟩)) (fun r_109 h_109 => ?_)
                            have h_109 : r_109 = (nI (if cB (inR (σ.2.1 0) s2 a b cc0) = true then 1 else 0)) := h_109
                            subst h_109
                            refine lv_iload_n hx hb dX11_firstUnlike_112 rfl (lv_at hl 4 rfl) ?_
                            refine jn_ceq hx hb (Nat.lt_trans ite_2 (by decide)) (by omega) (tgt := 131) dX11_firstUnlike_113 (by decide) (fun c_113 => ?_) (fun c_113 => ?_)
                            · refine lv_iinc (v := nI (b + 1)) (lv' := [(6, .int (nI (b + 1))), (7, .int (nI cc0)), (0, .ref (g.2.2.2 0)), (1, .int (nI s2)), (2, .int (nI bd)), (3, .int (nI wr)), (4, .int (nI sm)), (5, .int (nI a))]) hx hb dX11_firstUnlike_131 hl (k := 7) rfl (jn_ii _ 1) (by decide) rfl (fun ls hl => ?_)
                              refine lv_goto (tgt := 61) hx hb dX11_firstUnlike_134 (by decide) ?_
                              exact ih61 (b + 1) (by omega) (nd_b h6 (fun q1 q2 => by first | exact absurd ⟨q1, q2⟩ (fun w => c_84 ((ss_in (by omega) (by omega) (by omega) (by omega)).mpr w)) | exact fun z => ite_ne hwr c_98 (by rw [hrr, ess]; exact z.1) | exact fun z => z.2 (by have e9 := ite_eq hwr c_113; rw [cB_iff, ess] at e9; exact e9))) (by omega) _ _ hP hD hS _ (lv_sub hl [2, 3, 4, 5, 6, 7, 0] rfl)
                            · refine lv_bipush (v := nI 100) hx hb dX11_firstUnlike_116 (by decide) ?_
                              refine lv_iload hx hb dX11_firstUnlike_118 (lv_at hl 6 rfl) ?_
                              refine jn_imul hx hb dX11_firstUnlike_120 ?_
                              refine lv_bipush (v := nI 10) hx hb dX11_firstUnlike_121 (by decide) ?_
                              refine lv_iload hx hb dX11_firstUnlike_123 (lv_at hl 7 rfl) ?_
                              refine jn_imul hx hb dX11_firstUnlike_125 ?_
                              refine jn_iadd hx hb dX11_firstUnlike_126 ?_
                              refine lv_iload hx hb dX11_firstUnlike_127 (lv_at hl 0 rfl) ?_
                              refine jn_iadd hx hb dX11_firstUnlike_129 ?_
                              exact hq _ _ _ _ ((nI (((100 * a) + (10 * b)) + cc0))) (_, 0, f_35) dX11_firstUnlike_130 ⟨rfl, (Or.inr (Or.inr (Or.inr ⟨c_9, by omega, rfl, a, b, cc0, by omega, by omega, by omega, ⟨by have e9 := ite_eq hwr c_98; rw [hrr] at e9; exact e9, by have e9 := ite_ne hwr c_113; rw [cB_iff] at e9; exact e9⟩, rfl, by rw [show a + b + cc0 = sm by omega]; exact h6⟩)))⟩ hP hD hS
                  exact lp61 _ 0 (by omega) h4 (Nat.lt_succ_self _) _ _ hP hD hS _ (lv_sub hl [1, 2, 3, 4, 5, 6, 0] rfl)
            exact lp52 _ 0 (by omega) h2 (Nat.lt_succ_self _) _ _ hP hD hS _ (lv_sub hl [1, 2, 3, 4, 5, 0] rfl)
      exact lp41 _ 0 (by omega) nd_0 (Nat.lt_succ_self _) _ _ hP hD hS _ (lv_sub hl [1, 2, 3, 4, 0] rfl)
    · refine lv_aload_n hx hb dX11_firstUnlike_28 rfl (lv_at hl 0 rfl) ?_
      refine lv_iconst (v := nI 2) hx hb dX11_firstUnlike_29 (by decide) ?_
      refine jn_calli (va_runV (As := [.int (nI 2)]) (rest := []) ⟨hx, hb, hml, hown, hts⟩ (c_X11_fails l g tl H.size (sF σ 0 0) 2) (cwV 1 hts gX11_firstUnlike_X11_fails rfl rfl rfl (by decide +kernel) ⟨Nat.le_of_ble_eq_true rfl, Nat.le_of_ble_eq_true rfl⟩) (okWV hK hP hD rfl (gM0 g (sF σ 0 0) tl)) rfl rfl hl.1 rfl (lv_room (Nat.le_of_ble_eq_true rfl)) dX11_firstUnlike_30 ⟨Nat.le_of_ble_eq_true rfl, Nat.le_of_ble_eq_true rfl⟩) hD hS hAA (fun r_30 u H locs hw_ hP hD hS => ?_)
      obtain rfl := hw_
      have hP : va_P (g.1, g.2.1) vwCl (wM g (sF (sF σ 0 0) 0 2) ++ tl) H := hP
      have hD : va_D A (wM g (sF (sF σ 0 0) 0 2) ++ tl) := hD
      exact hq _ _ _ _ ((nI 0)) (0, 2, (σ.2.1 7)) dX11_firstUnlike_33 ⟨rfl, (Or.inr (Or.inl ⟨c_9, by omega, rfl⟩))⟩ hP hD hS
  · refine lv_aload_n hx hb dX11_firstUnlike_12 rfl (lv_at hl 0 rfl) ?_
    refine lv_iconst (v := nI 1) hx hb dX11_firstUnlike_13 (by decide) ?_
    refine jn_calli (va_runV (As := [.int (nI 1)]) (rest := []) ⟨hx, hb, hml, hown, hts⟩ (c_X11_fails l g tl H.size (sF σ 0 0) 1) (cwV 1 hts gX11_firstUnlike_X11_fails rfl rfl rfl (by decide +kernel) ⟨Nat.le_of_ble_eq_true rfl, Nat.le_of_ble_eq_true rfl⟩) (okWV hK hP hD rfl (gM0 g (sF σ 0 0) tl)) rfl rfl hl.1 rfl (lv_room (Nat.le_of_ble_eq_true rfl)) dX11_firstUnlike_14 ⟨Nat.le_of_ble_eq_true rfl, Nat.le_of_ble_eq_true rfl⟩) hD hS hAA (fun r_14 u H locs hw_ hP hD hS => ?_)
    obtain rfl := hw_
    have hP : va_P (g.1, g.2.1) vwCl (wM g (sF (sF σ 0 0) 0 1) ++ tl) H := hP
    have hD : va_D A (wM g (sF (sF σ 0 0) 0 1) ++ tl) := hD
    exact hq _ _ _ _ ((nI 0)) (0, 1, (σ.2.1 7)) dX11_firstUnlike_17 ⟨rfl, (Or.inl ⟨c_9, rfl⟩)⟩ hP hD hS

abbrev r_c_X11_firstMissing : Room := { frames := 33, cells := 0, slots := 0, locals := 858 }
set_option maxHeartbeats 4000000 in
set_option maxRecDepth 100000 in
theorem c_X11_firstMissing (l : Launch) (g : GC) (tl : va_W) (sz : Nat) (σ : SS) (s2 bd : Nat) (hT : OkT (σ.2.1 0)) (hF : ((σ.2.1 0) 15) < 32) (hOS : OkS (σ.2.1 0)) (hs2 : s2 < 4294967296) (hbd : bd < 4294967296) : Met l yX11_firstMissing wsX11_firstMissing r_c_X11_firstMissing (va_Pc [.ref (g.2.2.2 0), .int (nI s2), .int (nI bd)] (PW g (wM g σ ++ tl) sz)) (va_Qi (fun (r : Int32) (z : Nat × Nat × (Nat → Nat)) => match z with | (r0, th, f7) => (r = nI (r0)) ∧ ((¬ s2 < 2 ∧ th = 1) ∨ (s2 < 2 ∧ ¬ bd < 7 ∧ th = 2) ∨ (s2 < 2 ∧ bd < 7 ∧ th = 3 ∧ ∀ x y z, x ≤ bd → y ≤ bd → z ≤ bd → ¬ (dfR (σ.2.1 0) ((σ.2.1 0) 15) (σ.2.1 0) s2 1) x y z) ∨ (s2 < 2 ∧ bd < 7 ∧ th = 0 ∧ isDf (dfR (σ.2.1 0) ((σ.2.1 0) 15) (σ.2.1 0) s2 1) bd r0))) (fun (z : Nat × Nat × (Nat → Nat)) t => BW g (va_A (wM g σ ++ tl) sz) ((fun z : Nat × Nat × (Nat → Nat) => match z with | (r0, th, f7) => wM g (sA (sF σ 0 th) 7 f7) ++ tl) z) t) (va_A (wM g σ ++ tl) sz)) 0 0 (va_A (wM g σ ++ tl) sz) := by
  refine jn_si (wf := fun z : Nat × Nat × (Nat → Nat) => match z with | (r0, th, f7) => wM g (sA (sF σ 0 th) 7 f7) ++ tl) (cc := cX11_firstMissing) (maxL := 3) (own := RX11) (by decide) rfl rfl (Nat.le_of_ble_eq_true rfl) ?_
  intro p e s m below meth c Q A hx hb hml hown hts hK hP hD hS hAA hq ls hl
  obtain ⟨H, eH⟩ : ∃ z, z = s.heap := ⟨_, rfl⟩
  obtain ⟨locs, el⟩ : ∃ z : List Loc, z = [] := ⟨_, rfl⟩
  rw [← eH] at hP
  have hS : va_S A s.heap H locs := by rw [eH, el]; exact hS
  have goal0 : W p l e r_c_X11_firstMissing s m ([.ref (g.2.2.2 0), .int (nI s2), .int (nI bd)] : List Value).toArray below meth c H locs 0 0 Q (F0 m 0 ls []) → W p l e r_c_X11_firstMissing s m ([.ref (g.2.2.2 0), .int (nI s2), .int (nI bd)] : List Value).toArray below meth c s.heap [] 0 0 Q (F0 m 0 ls []) := fun h => by rw [eH, el] at h; exact h
  refine goal0 ?_
  have hl : lv_has ls 3 [(0, .ref (g.2.2.2 0)), (1, .int (nI s2)), (2, .int (nI bd))] := hl
  refine lv_aload_n hx hb dX11_firstMissing_0 rfl (lv_at hl 0 rfl) ?_
  refine lv_iload_n hx hb dX11_firstMissing_1 rfl (lv_at hl 1 rfl) ?_
  refine lv_iload_n hx hb dX11_firstMissing_2 rfl (lv_at hl 2 rfl) ?_
  refine lv_iconst (v := nI 1) hx hb dX11_firstMissing_3 (by decide) ?_
  refine jn_calli (va_runV (As := [.int (nI s2), .int (nI bd), .int (nI 1)]) (rest := []) ⟨hx, hb, hml, hown, hts⟩ (c_X11_firstUnlike l g tl H.size σ s2 bd 1 hT hF hOS hs2 hbd (by decide)) (cwV 3 hts gX11_firstMissing_X11_firstUnlike rfl rfl rfl (by decide +kernel) ⟨Nat.le_of_ble_eq_true rfl, Nat.le_of_ble_eq_true rfl⟩) (okWV hK hP hD rfl (gM0 g σ tl)) rfl rfl hl.1 rfl (lv_room (Nat.le_of_ble_eq_true rfl)) dX11_firstMissing_4 ⟨Nat.le_of_ble_eq_true rfl, Nat.le_of_ble_eq_true rfl⟩) hD hS hAA (fun r_4 u H locs hw_ hP hD hS => ?_)
  obtain ⟨r0_4, th_4, f7_4⟩ := u
  obtain ⟨rfl, h_4⟩ := hw_
  have h_4 : (¬ s2 < 2 ∧ th_4 = 1) ∨ (s2 < 2 ∧ ¬ bd < 7 ∧ th_4 = 2) ∨ (s2 < 2 ∧ bd < 7 ∧ th_4 = 3 ∧ ∀ x y z, x ≤ bd → y ≤ bd → z ≤ bd → ¬ (dfR (σ.2.1 0) ((σ.2.1 0) 15) (σ.2.1 0) s2 1) x y z) ∨ (s2 < 2 ∧ bd < 7 ∧ th_4 = 0 ∧ isDf (dfR (σ.2.1 0) ((σ.2.1 0) 15) (σ.2.1 0) s2 1) bd r0_4) := h_4
  have hP : va_P (g.1, g.2.1) vwCl (wM g (sA (sF σ 0 th_4) 7 f7_4) ++ tl) H := hP
  have hD : va_D A (wM g (sA (sF σ 0 th_4) 7 f7_4) ++ tl) := hD
  exact hq _ _ _ _ ((nI r0_4)) (r0_4, th_4, f7_4) dX11_firstMissing_7 ⟨rfl, h_4⟩ hP hD hS

abbrev r_c_X11_firstExtra : Room := { frames := 33, cells := 0, slots := 0, locals := 858 }
set_option maxHeartbeats 4000000 in
set_option maxRecDepth 100000 in
theorem c_X11_firstExtra (l : Launch) (g : GC) (tl : va_W) (sz : Nat) (σ : SS) (s2 bd : Nat) (hT : OkT (σ.2.1 0)) (hF : ((σ.2.1 0) 15) < 32) (hOS : OkS (σ.2.1 0)) (hs2 : s2 < 4294967296) (hbd : bd < 4294967296) : Met l yX11_firstExtra wsX11_firstExtra r_c_X11_firstExtra (va_Pc [.ref (g.2.2.2 0), .int (nI s2), .int (nI bd)] (PW g (wM g σ ++ tl) sz)) (va_Qi (fun (r : Int32) (z : Nat × Nat × (Nat → Nat)) => match z with | (r0, th, f7) => (r = nI (r0)) ∧ ((¬ s2 < 2 ∧ th = 1) ∨ (s2 < 2 ∧ ¬ bd < 7 ∧ th = 2) ∨ (s2 < 2 ∧ bd < 7 ∧ th = 3 ∧ ∀ x y z, x ≤ bd → y ≤ bd → z ≤ bd → ¬ (dfR (σ.2.1 0) ((σ.2.1 0) 15) (σ.2.1 0) s2 0) x y z) ∨ (s2 < 2 ∧ bd < 7 ∧ th = 0 ∧ isDf (dfR (σ.2.1 0) ((σ.2.1 0) 15) (σ.2.1 0) s2 0) bd r0))) (fun (z : Nat × Nat × (Nat → Nat)) t => BW g (va_A (wM g σ ++ tl) sz) ((fun z : Nat × Nat × (Nat → Nat) => match z with | (r0, th, f7) => wM g (sA (sF σ 0 th) 7 f7) ++ tl) z) t) (va_A (wM g σ ++ tl) sz)) 0 0 (va_A (wM g σ ++ tl) sz) := by
  refine jn_si (wf := fun z : Nat × Nat × (Nat → Nat) => match z with | (r0, th, f7) => wM g (sA (sF σ 0 th) 7 f7) ++ tl) (cc := cX11_firstExtra) (maxL := 3) (own := RX11) (by decide) rfl rfl (Nat.le_of_ble_eq_true rfl) ?_
  intro p e s m below meth c Q A hx hb hml hown hts hK hP hD hS hAA hq ls hl
  obtain ⟨H, eH⟩ : ∃ z, z = s.heap := ⟨_, rfl⟩
  obtain ⟨locs, el⟩ : ∃ z : List Loc, z = [] := ⟨_, rfl⟩
  rw [← eH] at hP
  have hS : va_S A s.heap H locs := by rw [eH, el]; exact hS
  have goal0 : W p l e r_c_X11_firstExtra s m ([.ref (g.2.2.2 0), .int (nI s2), .int (nI bd)] : List Value).toArray below meth c H locs 0 0 Q (F0 m 0 ls []) → W p l e r_c_X11_firstExtra s m ([.ref (g.2.2.2 0), .int (nI s2), .int (nI bd)] : List Value).toArray below meth c s.heap [] 0 0 Q (F0 m 0 ls []) := fun h => by rw [eH, el] at h; exact h
  refine goal0 ?_
  have hl : lv_has ls 3 [(0, .ref (g.2.2.2 0)), (1, .int (nI s2)), (2, .int (nI bd))] := hl
  refine lv_aload_n hx hb dX11_firstExtra_0 rfl (lv_at hl 0 rfl) ?_
  refine lv_iload_n hx hb dX11_firstExtra_1 rfl (lv_at hl 1 rfl) ?_
  refine lv_iload_n hx hb dX11_firstExtra_2 rfl (lv_at hl 2 rfl) ?_
  refine lv_iconst (v := nI 0) hx hb dX11_firstExtra_3 (by decide) ?_
  refine jn_calli (va_runV (As := [.int (nI s2), .int (nI bd), .int (nI 0)]) (rest := []) ⟨hx, hb, hml, hown, hts⟩ (c_X11_firstUnlike l g tl H.size σ s2 bd 0 hT hF hOS hs2 hbd (by decide)) (cwV 3 hts gX11_firstExtra_X11_firstUnlike rfl rfl rfl (by decide +kernel) ⟨Nat.le_of_ble_eq_true rfl, Nat.le_of_ble_eq_true rfl⟩) (okWV hK hP hD rfl (gM0 g σ tl)) rfl rfl hl.1 rfl (lv_room (Nat.le_of_ble_eq_true rfl)) dX11_firstExtra_4 ⟨Nat.le_of_ble_eq_true rfl, Nat.le_of_ble_eq_true rfl⟩) hD hS hAA (fun r_4 u H locs hw_ hP hD hS => ?_)
  obtain ⟨r0_4, th_4, f7_4⟩ := u
  obtain ⟨rfl, h_4⟩ := hw_
  have h_4 : (¬ s2 < 2 ∧ th_4 = 1) ∨ (s2 < 2 ∧ ¬ bd < 7 ∧ th_4 = 2) ∨ (s2 < 2 ∧ bd < 7 ∧ th_4 = 3 ∧ ∀ x y z, x ≤ bd → y ≤ bd → z ≤ bd → ¬ (dfR (σ.2.1 0) ((σ.2.1 0) 15) (σ.2.1 0) s2 0) x y z) ∨ (s2 < 2 ∧ bd < 7 ∧ th_4 = 0 ∧ isDf (dfR (σ.2.1 0) ((σ.2.1 0) 15) (σ.2.1 0) s2 0) bd r0_4) := h_4
  have hP : va_P (g.1, g.2.1) vwCl (wM g (sA (sF σ 0 th_4) 7 f7_4) ++ tl) H := hP
  have hD : va_D A (wM g (sA (sF σ 0 th_4) 7 f7_4) ++ tl) := hD
  exact hq _ _ _ _ ((nI r0_4)) (r0_4, th_4, f7_4) dX11_firstExtra_7 ⟨rfl, h_4⟩ hP hD hS

abbrev r_c_X11_hasCyclePeriods : Room := { frames := 7, cells := 0, slots := 0, locals := 178 }
set_option maxHeartbeats 4000000 in
set_option maxRecDepth 100000 in
theorem c_X11_hasCyclePeriods (l : Launch) (g : GC) (tl : va_W) (sz : Nat) (σ : SS) (s2 ln : Nat) (hT : OkT (σ.2.1 0)) (hF : ((σ.2.1 0) 15) < 32) (hOS : OkS (σ.2.1 0)) (hs2 : s2 < 4294967296) (hln : ln < 4294967296) : Met l yX11_hasCyclePeriods wsX11_hasCyclePeriods r_c_X11_hasCyclePeriods (va_Pc [.ref (g.2.2.2 0), .int (nI s2), .int (nI ln)] (PW g (wM g σ ++ tl) sz)) (va_Qi (fun (r : Int32) (z : Nat × Nat × Nat × (Nat → Nat)) => match z with | (r0, th, us, f13) => (r = nI (r0)) ∧ ((¬ (s2 < 2 ∧ ln < (σ.2.1 0) (16 + s2)) ∧ th = 1) ∨ ((s2 < 2 ∧ ln < (σ.2.1 0) (16 + s2)) ∧ th = 0 ∧ r0 = 1 ∧ ∀ j, j < (σ.2.1 0) (42 + (4 * s2 + ln)) → cyN (σ.2.1 0) (fR (σ.2.1 0) 5 &&& bR (σ.2.1 0) ((σ.2.1 0) 15) 5) 5 (100 * (σ.2.1 0) (50 + 9 * (4 * s2 + ln) + 3 * j) + 10 * (σ.2.1 0) (50 + 9 * (4 * s2 + ln) + 3 * j + 1) + (σ.2.1 0) (50 + 9 * (4 * s2 + ln) + 3 * j + 2))) ∨ ((s2 < 2 ∧ ln < (σ.2.1 0) (16 + s2)) ∧ th = 0 ∧ r0 = 0 ∧ ∃ j, j < (σ.2.1 0) (42 + (4 * s2 + ln)) ∧ ¬ cyN (σ.2.1 0) (fR (σ.2.1 0) 5 &&& bR (σ.2.1 0) ((σ.2.1 0) 15) 5) 5 (100 * (σ.2.1 0) (50 + 9 * (4 * s2 + ln) + 3 * j) + 10 * (σ.2.1 0) (50 + 9 * (4 * s2 + ln) + 3 * j + 1) + (σ.2.1 0) (50 + 9 * (4 * s2 + ln) + 3 * j + 2))))) (fun (z : Nat × Nat × Nat × (Nat → Nat)) t => BW g (va_A (wM g σ ++ tl) sz) ((fun z : Nat × Nat × Nat × (Nat → Nat) => match z with | (r0, th, us, f13) => wM g (sA (sF (sF σ 0 th) 12 us) 13 f13) ++ tl) z) t) (va_A (wM g σ ++ tl) sz)) 0 0 (va_A (wM g σ ++ tl) sz) := by
  refine jn_sz (wf := fun z : Nat × Nat × Nat × (Nat → Nat) => match z with | (r0, th, us, f13) => wM g (sA (sF (sF σ 0 th) 12 us) 13 f13) ++ tl) (cc := cX11_hasCyclePeriods) (maxL := 5) (own := RX11) (by decide) rfl rfl (Nat.le_of_ble_eq_true rfl) ?_
  intro p e s m below meth c Q A hx hb hml hown hts hK hP hD hS hAA hq ls hl
  obtain ⟨H, eH⟩ : ∃ z, z = s.heap := ⟨_, rfl⟩
  obtain ⟨locs, el⟩ : ∃ z : List Loc, z = [] := ⟨_, rfl⟩
  rw [← eH] at hP
  have hS : va_S A s.heap H locs := by rw [eH, el]; exact hS
  have goal0 : W p l e r_c_X11_hasCyclePeriods s m ([.ref (g.2.2.2 0), .int (nI s2), .int (nI ln)] : List Value).toArray below meth c H locs 0 0 Q (F0 m 0 ls []) → W p l e r_c_X11_hasCyclePeriods s m ([.ref (g.2.2.2 0), .int (nI s2), .int (nI ln)] : List Value).toArray below meth c s.heap [] 0 0 Q (F0 m 0 ls []) := fun h => by rw [eH, el] at h; exact h
  refine goal0 ?_
  have hl : lv_has ls 5 [(0, .ref (g.2.2.2 0)), (1, .int (nI s2)), (2, .int (nI ln))] := hl
  have iX11 : ∀ w ∈ wsX110, w ∈ wsX11_hasCyclePeriods := by decide +kernel
  have k1 := hts (.fieldLink RX11 1 "JumpingAutomataModel" "thrown" "I") (by decide +kernel)
  have k13 := hts (.fieldLink RX11 13 "JumpingAutomataModel" "now" "[I") (by decide +kernel)
  have k95 := hts (.fieldLink RX11 95 "JumpingAutomataModel" "found" "[Z") (by decide +kernel)
  have hm : ∀ s, s < 2 → (σ.2.1 0) (16 + s) ≤ 4 := fun s hs => (hOS s hs).1
  refine lv_aload_n hx hb dX11_hasCyclePeriods_0 rfl (lv_at hl 0 rfl) ?_
  refine lv_iconst (v := nI 0) hx hb dX11_hasCyclePeriods_1 (by decide) ?_
  refine jn_put (D := (g.1, g.2.1)) (ci := 13) (v := .int (nI 0)) (ty := .int) (C := RX11) (T := TX11) (N := 30) hx hb hts iX11 tyX11 tyX11_ok nmX11 hown hK.1 hP hD hS 0 (gM0 g σ tl) rfl 0 (by decide) k1 (fun _ h9 => h9) rfl (by decide +kernel) rfl rfl (Nat.le_of_ble_eq_true rfl) (uM_F0 g σ tl 0) dX11_hasCyclePeriods_2 (fun H locs hP hD hS => ?_)
  refine lv_aload_n hx hb dX11_hasCyclePeriods_5 rfl (lv_at hl 0 rfl) ?_
  refine lv_iload_n hx hb dX11_hasCyclePeriods_6 rfl (lv_at hl 1 rfl) ?_
  refine lv_iload_n hx hb dX11_hasCyclePeriods_7 rfl (lv_at hl 2 rfl) ?_
  refine vp_callSi (va_Run.run (va_runV (As := [.int (nI s2), .int (nI ln)]) (rest := []) ⟨hx, hb, hml, hown, hts⟩ (c_X11_isLinear l g tl (sF σ 0 0) s2 ln hm hs2 hln) (cwV 2 hts gX11_hasCyclePeriods_X11_isLinear rfl rfl rfl (by decide +kernel) ⟨Nat.le_of_ble_eq_true rfl, Nat.le_of_ble_eq_true rfl⟩) (okPV hK hP rfl (gM0 g (sF σ 0 0) tl)) rfl rfl hl.1 rfl (lv_room (Nat.le_of_ble_eq_true rfl)) dX11_hasCyclePeriods_8 ⟨Nat.le_of_ble_eq_true rfl, Nat.le_of_ble_eq_true rfl⟩)) (fun r_8 h_8 => ?_)
  have h_8 : r_8 = (nI (if s2 < 2 ∧ ln < (σ.2.1 0) (16 + s2) then 1 else 0)) := h_8
  subst h_8
  refine jn_bne hx hb (tgt := 28) dX11_hasCyclePeriods_11 (by decide) (fun c_11 => ?_) (fun c_11 => ?_)
  · refine lv_aload_n hx hb dX11_hasCyclePeriods_28 rfl (lv_at hl 0 rfl) ?_
    refine jn_callv (va_runV (As := []) (rest := []) ⟨hx, hb, hml, hown, hts⟩ (c_X11_layCycles l g tl H.size (sF σ 0 0) hT hF) (cwV 0 hts gX11_hasCyclePeriods_X11_layCycles rfl rfl rfl (by decide +kernel) ⟨Nat.le_of_ble_eq_true rfl, Nat.le_of_ble_eq_true rfl⟩) (okWV hK hP hD rfl (gM0 g (sF σ 0 0) tl)) rfl rfl hl.1 rfl (lv_room (Nat.le_of_ble_eq_true rfl)) dX11_hasCyclePeriods_29 ⟨Nat.le_of_ble_eq_true rfl, Nat.le_of_ble_eq_true rfl⟩) hD hS hAA (fun u H locs hw_ hP hD hS => ?_)
    obtain ⟨us_29, f13_29⟩ := u
    have h_29 := hw_
    have h_29 : (us_29 = fR (σ.2.1 0) 5 &&& bR (σ.2.1 0) ((σ.2.1 0) 15) 5) ∧ (FdN f13_29 (cyN (σ.2.1 0) us_29 5)) := h_29
    have hP : va_P (g.1, g.2.1) vwCl (wM g (sA (sF (sF σ 0 0) 12 us_29) 13 f13_29) ++ tl) H := hP
    have hD : va_D A (wM g (sA (sF (sF σ 0 0) 12 us_29) 13 f13_29) ++ tl) := hD
    have hLn := (hOS s2 c_11.1).2 ln c_11.2
    have hm1 := hm s2 c_11.1
    have hH3 := hLn.2.1
    refine lv_iconst (v := nI 4) hx hb dX11_hasCyclePeriods_32 (by decide) ?_
    refine lv_iload_n hx hb dX11_hasCyclePeriods_33 rfl (lv_at hl 1 rfl) ?_
    refine jn_imul hx hb dX11_hasCyclePeriods_34 ?_
    refine lv_iload_n hx hb dX11_hasCyclePeriods_35 rfl (lv_at hl 2 rfl) ?_
    refine jn_iadd hx hb dX11_hasCyclePeriods_36 ?_
    refine lv_istore_n (lv' := [(3, .int (nI ((4 * s2) + ln))), (0, .ref (g.2.2.2 0)), (1, .int (nI s2)), (2, .int (nI ln))]) hx hb dX11_hasCyclePeriods_37 rfl hl (by decide) rfl (fun ls hl => ?_)
    refine lv_bipush (v := nI 50) hx hb dX11_hasCyclePeriods_38 (by decide) ?_
    refine lv_bipush (v := nI 9) hx hb dX11_hasCyclePeriods_40 (by decide) ?_
    refine lv_iload_n hx hb dX11_hasCyclePeriods_42 rfl (lv_at hl 0 rfl) ?_
    refine jn_imul hx hb dX11_hasCyclePeriods_43 ?_
    refine jn_iadd hx hb dX11_hasCyclePeriods_44 ?_
    refine lv_istore (lv' := [(4, .int (nI (50 + (9 * ((4 * s2) + ln))))), (3, .int (nI ((4 * s2) + ln))), (0, .ref (g.2.2.2 0)), (1, .int (nI s2)), (2, .int (nI ln))]) hx hb dX11_hasCyclePeriods_45 hl (by decide) rfl (fun ls hl => ?_)
    have lp47 : ∀ (fu : Nat), ∀ (k : Nat) (i : Nat), (k = 50 + 9 * (4 * s2 + ln) + 3 * i) → (i ≤ (σ.2.1 0) (42 + (4 * s2 + ln))) → (∀ j, j < i → cyN (σ.2.1 0) (fR (σ.2.1 0) 5 &&& bR (σ.2.1 0) ((σ.2.1 0) 15) 5) 5 (100 * (σ.2.1 0) (50 + 9 * (4 * s2 + ln) + 3 * j) + 10 * (σ.2.1 0) (50 + 9 * (4 * s2 + ln) + 3 * j + 1) + (σ.2.1 0) (50 + 9 * (4 * s2 + ln) + 3 * j + 2))) → (σ.2.1 0) (42 + (4 * s2 + ln)) - i < fu → ∀ (H : Heap) (locs : List Loc), va_P (g.1, g.2.1) vwCl (wM g (sA (sF (sF σ 0 0) 12 us_29) 13 f13_29) ++ tl) H → va_D A (wM g (sA (sF (sF σ 0 0) 12 us_29) 13 f13_29) ++ tl) → va_S A s.heap H locs → ∀ ls : Array Slot, lv_has ls 5 [(0, .ref (g.2.2.2 0)), (1, .int (nI s2)), (2, .int (nI ln)), (3, .int (nI ((4 * s2) + ln))), (4, .int (nI k))] → W p l e r_c_X11_hasCyclePeriods s m ([.ref (g.2.2.2 0), .int (nI s2), .int (nI ln)] : List Value).toArray below meth c H locs 0 0 Q (F0 m 47 ls []) := by
      intro fu
      induction fu with
      | zero => intro k i h0 h1 h2 hf; exact absurd hf (Nat.not_lt_zero _)
      | succ fu ih47 =>
        intro k i h0 h1 h2 hf H locs hP hD hS ls hl
        refine lv_iload hx hb dX11_hasCyclePeriods_47 (lv_at hl 4 rfl) ?_
        refine lv_bipush (v := nI 50) hx hb dX11_hasCyclePeriods_49 (by decide) ?_
        refine lv_bipush (v := nI 9) hx hb dX11_hasCyclePeriods_51 (by decide) ?_
        refine lv_iload_n hx hb dX11_hasCyclePeriods_53 rfl (lv_at hl 3 rfl) ?_
        refine jn_imul hx hb dX11_hasCyclePeriods_54 ?_
        refine jn_iadd hx hb dX11_hasCyclePeriods_55 ?_
        refine lv_iconst (v := nI 3) hx hb dX11_hasCyclePeriods_56 (by decide) ?_
        refine lv_aload_n hx hb dX11_hasCyclePeriods_57 rfl (lv_at hl 0 rfl) ?_
        refine va_get (D := (g.1, g.2.1)) (ci := 13) (v := .ref (g.2.2.2 1)) (C := RX11) (T := TX11) (N := 30) hx hb hts iX11 hown hK.1 hP 0 (gM0 g (sA (sF (sF σ 0 0) 12 us_29) 13 f13_29) tl) rfl 1 (by decide) k13 (fun _ h9 => h9) rfl dX11_hasCyclePeriods_58 ?_
        refine lv_bipush (v := nI 42) hx hb dX11_hasCyclePeriods_61 (by decide) ?_
        refine lv_iload_n hx hb dX11_hasCyclePeriods_63 rfl (lv_at hl 3 rfl) ?_
        refine jn_iadd hx hb dX11_hasCyclePeriods_64 ?_
        refine jn_iald (f := σ.2.1 0) hx hb hK.1 hP 1 0 (gM1 g (sA (sF (sF σ 0 0) 12 us_29) 13 f13_29) tl) rfl (by omega) (Nat.le_of_ble_eq_true rfl) dX11_hasCyclePeriods_65 ?_
        refine jn_imul hx hb dX11_hasCyclePeriods_66 ?_
        refine jn_iadd hx hb dX11_hasCyclePeriods_67 ?_
        refine jn_cge hx hb (by omega) (by omega) (tgt := 120) dX11_hasCyclePeriods_68 (by decide) (fun c_68 => ?_) (fun c_68 => ?_)
        · refine lv_iconst (v := nI 1) hx hb dX11_hasCyclePeriods_120 (by decide) ?_
          exact hq _ _ _ _ ((nI 1)) (1, 0, us_29, f13_29) dX11_hasCyclePeriods_121 jn_n1 ⟨rfl, (Or.inr (Or.inl ⟨c_11, rfl, rfl, fun j hj => h2 j (by omega)⟩))⟩ hP hD hS
        · obtain ⟨p1, p2, p3, p4⟩ := hLn.2.2 i (by omega)
          rw [← h0] at p1 p2 p3 p4
          have hfd := h_29.2 (100 * (σ.2.1 0) (50 + 9 * (4 * s2 + ln) + 3 * i) + 10 * (σ.2.1 0) (50 + 9 * (4 * s2 + ln) + 3 * i + 1) + (σ.2.1 0) (50 + 9 * (4 * s2 + ln) + 3 * i + 2)) (by rw [← h0]; omega)
          refine lv_aload_n hx hb dX11_hasCyclePeriods_71 rfl (lv_at hl 0 rfl) ?_
          refine va_get (D := (g.1, g.2.1)) (ci := 13) (v := .ref (g.2.2.2 16)) (C := RX11) (T := TX11) (N := 30) hx hb hts iX11 hown hK.1 hP 0 (gM0 g (sA (sF (sF σ 0 0) 12 us_29) 13 f13_29) tl) rfl 27 (by decide) k95 (fun _ h9 => h9) rfl dX11_hasCyclePeriods_72 ?_
          refine lv_bipush (v := nI 100) hx hb dX11_hasCyclePeriods_75 (by decide) ?_
          refine lv_aload_n hx hb dX11_hasCyclePeriods_77 rfl (lv_at hl 0 rfl) ?_
          refine va_get (D := (g.1, g.2.1)) (ci := 13) (v := .ref (g.2.2.2 1)) (C := RX11) (T := TX11) (N := 30) hx hb hts iX11 hown hK.1 hP 0 (gM0 g (sA (sF (sF σ 0 0) 12 us_29) 13 f13_29) tl) rfl 1 (by decide) k13 (fun _ h9 => h9) rfl dX11_hasCyclePeriods_78 ?_
          refine lv_iload hx hb dX11_hasCyclePeriods_81 (lv_at hl 4 rfl) ?_
          refine jn_iald (f := σ.2.1 0) hx hb hK.1 hP 1 0 (gM1 g (sA (sF (sF σ 0 0) 12 us_29) 13 f13_29) tl) rfl (by omega) (Nat.le_of_ble_eq_true rfl) dX11_hasCyclePeriods_83 ?_
          refine jn_imul hx hb dX11_hasCyclePeriods_84 ?_
          refine lv_bipush (v := nI 10) hx hb dX11_hasCyclePeriods_85 (by decide) ?_
          refine lv_aload_n hx hb dX11_hasCyclePeriods_87 rfl (lv_at hl 0 rfl) ?_
          refine va_get (D := (g.1, g.2.1)) (ci := 13) (v := .ref (g.2.2.2 1)) (C := RX11) (T := TX11) (N := 30) hx hb hts iX11 hown hK.1 hP 0 (gM0 g (sA (sF (sF σ 0 0) 12 us_29) 13 f13_29) tl) rfl 1 (by decide) k13 (fun _ h9 => h9) rfl dX11_hasCyclePeriods_88 ?_
          refine lv_iload hx hb dX11_hasCyclePeriods_91 (lv_at hl 4 rfl) ?_
          refine lv_iconst (v := nI 1) hx hb dX11_hasCyclePeriods_93 (by decide) ?_
          refine jn_iadd hx hb dX11_hasCyclePeriods_94 ?_
          refine jn_iald (f := σ.2.1 0) hx hb hK.1 hP 1 0 (gM1 g (sA (sF (sF σ 0 0) 12 us_29) 13 f13_29) tl) rfl (by omega) (Nat.le_of_ble_eq_true rfl) dX11_hasCyclePeriods_95 ?_
          refine jn_imul hx hb dX11_hasCyclePeriods_96 ?_
          refine jn_iadd hx hb dX11_hasCyclePeriods_97 ?_
          refine lv_aload_n hx hb dX11_hasCyclePeriods_98 rfl (lv_at hl 0 rfl) ?_
          refine va_get (D := (g.1, g.2.1)) (ci := 13) (v := .ref (g.2.2.2 1)) (C := RX11) (T := TX11) (N := 30) hx hb hts iX11 hown hK.1 hP 0 (gM0 g (sA (sF (sF σ 0 0) 12 us_29) 13 f13_29) tl) rfl 1 (by decide) k13 (fun _ h9 => h9) rfl dX11_hasCyclePeriods_99 ?_
          refine lv_iload hx hb dX11_hasCyclePeriods_102 (lv_at hl 4 rfl) ?_
          refine lv_iconst (v := nI 2) hx hb dX11_hasCyclePeriods_104 (by decide) ?_
          refine jn_iadd hx hb dX11_hasCyclePeriods_105 ?_
          refine jn_iald (f := σ.2.1 0) hx hb hK.1 hP 1 0 (gM1 g (sA (sF (sF σ 0 0) 12 us_29) 13 f13_29) tl) rfl (by omega) (Nat.le_of_ble_eq_true rfl) dX11_hasCyclePeriods_106 ?_
          refine jn_iadd hx hb dX11_hasCyclePeriods_107 ?_
          refine jn_zald (f := f13_29) hx hb hK.1 hP 16 2 (gM16 g (sA (sF (sF σ 0 0) 12 us_29) 13 f13_29) tl) rfl (by omega) (Nat.le_of_ble_eq_true rfl) dX11_hasCyclePeriods_108 ?_
          rw [show 100 * (σ.2.1 0) k + 10 * (σ.2.1 0) (k + 1) + (σ.2.1 0) (k + 2) = (100 * (σ.2.1 0) (50 + 9 * (4 * s2 + ln) + 3 * i) + 10 * (σ.2.1 0) (50 + 9 * (4 * s2 + ln) + 3 * i + 1) + (σ.2.1 0) (50 + 9 * (4 * s2 + ln) + 3 * i + 2)) by rw [h0]]
          refine jn_zne hx hb (by have := hfd.1; omega) (tgt := 114) dX11_hasCyclePeriods_109 (by decide) (fun c_109 => ?_) (fun c_109 => ?_)
          · refine lv_iinc (v := nI (k + 3)) (lv' := [(4, .int (nI (k + 3))), (0, .ref (g.2.2.2 0)), (1, .int (nI s2)), (2, .int (nI ln)), (3, .int (nI ((4 * s2) + ln)))]) hx hb dX11_hasCyclePeriods_114 hl (k := 4) rfl (jn_ii _ 3) (by decide) rfl (fun ls hl => ?_)
            refine lv_goto (tgt := 47) hx hb dX11_hasCyclePeriods_117 (by decide) ?_
            exact ih47 (k + 3) ((i + 1)) (by omega) (by omega) (fun j hj => by rcases Nat.lt_or_ge j i with q | q; { exact h2 j q }; { rw [show j = i by omega, ← h_29.1]; exact (hfd.2).mp c_109 }) (by omega) _ _ hP hD hS _ (lv_sub hl [1, 2, 3, 4, 0] rfl)
          · refine lv_iconst (v := nI 0) hx hb dX11_hasCyclePeriods_112 (by decide) ?_
            exact hq _ _ _ _ ((nI 0)) (0, 0, us_29, f13_29) dX11_hasCyclePeriods_113 jn_n0 ⟨rfl, (Or.inr (Or.inr ⟨c_11, rfl, rfl, i, by omega, fun q => hfd.2.mpr (by rw [h_29.1]; exact q) c_109⟩))⟩ hP hD hS
    exact lp47 _ (50 + (9 * ((4 * s2) + ln))) 0 (by omega) (by omega) (fun j hj => absurd hj (by omega)) (Nat.lt_succ_self _) _ _ hP hD hS _ (lv_sub hl [2, 3, 4, 1, 0] rfl)
  · refine lv_aload_n hx hb dX11_hasCyclePeriods_14 rfl (lv_at hl 0 rfl) ?_
    refine lv_iconst (v := nI 1) hx hb dX11_hasCyclePeriods_15 (by decide) ?_
    refine jn_calli (va_runV (As := [.int (nI 1)]) (rest := []) ⟨hx, hb, hml, hown, hts⟩ (c_X11_fails l g tl H.size (sF σ 0 0) 1) (cwV 1 hts gX11_hasCyclePeriods_X11_fails rfl rfl rfl (by decide +kernel) ⟨Nat.le_of_ble_eq_true rfl, Nat.le_of_ble_eq_true rfl⟩) (okWV hK hP hD rfl (gM0 g (sF σ 0 0) tl)) rfl rfl hl.1 rfl (lv_room (Nat.le_of_ble_eq_true rfl)) dX11_hasCyclePeriods_16 ⟨Nat.le_of_ble_eq_true rfl, Nat.le_of_ble_eq_true rfl⟩) hD hS hAA (fun r_16 u H locs hw_ hP hD hS => ?_)
    obtain rfl := hw_
    have hP : va_P (g.1, g.2.1) vwCl (wM g (sF (sF σ 0 0) 0 1) ++ tl) H := hP
    have hD : va_D A (wM g (sF (sF σ 0 0) 0 1) ++ tl) := hD
    refine jn_zle hx hb (by decide) (tgt := 26) dX11_hasCyclePeriods_19 (by decide) (fun c_19 => ?_) (fun c_19 => absurd c_19 (by omega))
    refine lv_iconst (v := nI 0) hx hb dX11_hasCyclePeriods_26 (by decide) ?_
    exact hq _ _ _ _ ((nI 0)) (0, 1, (σ.1 12), (σ.2.1 13)) dX11_hasCyclePeriods_27 jn_n0 ⟨rfl, (Or.inl ⟨c_11, rfl⟩)⟩ hP hD hS
