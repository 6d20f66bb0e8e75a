abbrev r_c_X2_nextPosition : Room := { frames := 2, cells := 0, slots := 0, locals := 47 }
set_option maxHeartbeats 4000000 in
set_option maxRecDepth 100000 in
theorem c_X2_nextPosition (l : Launch) (g : GC) (tl : va_W) (σ : SS) (n rd la mq lf : Nat) (hA : OkA σ) (hl4 : σ.1 4 = n) (hn : n ≤ 8) (hw : ∀ i, i < n → (σ.2.1 24) i < 3) (hs : rd < 256) (hl5 : la < 8) (hm : mq < 32) (hf5 : lf < 63) (hpc : ∀ p, p < n → ¬ rd.testBit p = true → (σ.2.1 21) ((rd ||| 2 ^ p) * 8 + p) < 1073741824) (hex : ∃ p, p < n ∧ (fun p => !Nat.testBit rd p && (adf la p + lst (fun t => at6 ((σ.2.1 21) ((rd ||| 2 ^ p) * 8 + p)) t) (stp (σ.2.1 0) ((σ.2.1 24) p) mq) == lf)) p = true) : Met l yX2_nextPosition wsX2_nextPosition r_c_X2_nextPosition (va_Pc [.ref (g.2.2.2 36), .ref (g.2.2.2 1), .int (nI rd), .int (nI la), .int (nI mq), .int (nI lf)] (PP g (wC g σ ++ tl))) (vp_Si (fun r => r = nI (fa_first (fun p => !Nat.testBit rd p && (adf la p + lst (fun t => at6 ((σ.2.1 21) ((rd ||| 2 ^ p) * 8 + p)) t) (stp (σ.2.1 0) ((σ.2.1 24) p) mq) == lf)) n))) 0 0 (fun _ => False) := by
  refine jn_pi (cc := cX2_nextPosition) (maxL := 8) (own := RX2) (by decide) rfl rfl (Nat.le_of_ble_eq_true rfl) ?_
  intro p e s m below meth c Q hx hb hml hown hts ⟨hP, hK⟩ hq ls hl
  have hl : lv_has ls 8 [(0, .ref (g.2.2.2 36)), (1, .ref (g.2.2.2 1)), (2, .int (nI rd)), (3, .int (nI la)), (4, .int (nI mq)), (5, .int (nI lf))] := hl
  have iX2 : ∀ w ∈ wsX20, w ∈ wsX2_nextPosition := by decide +kernel
  have k24 := hts (.fieldLink RX2 24 "JumpingAutomata$BestOrder" "length" "I") (by decide +kernel)
  have k21 := hts (.fieldLink RX2 21 "JumpingAutomata$BestOrder" "letters" "[I") (by decide +kernel)
  refine lv_iconst (v := nI 0) hx hb dX2_nextPosition_0 (by decide) ?_
  refine lv_istore (lv' := [(6, .int (nI 0)), (0, .ref (g.2.2.2 36)), (1, .ref (g.2.2.2 1)), (2, .int (nI rd)), (3, .int (nI la)), (4, .int (nI mq)), (5, .int (nI lf))]) hx hb dX2_nextPosition_1 hl (by decide) rfl (fun ls hl => ?_)
  have lp3 : ∀ (fu : Nat), ∀ (p0 : Nat), (p0 ≤ n) → (∀ z, z < p0 → (fun p => !Nat.testBit rd p && (adf la p + lst (fun t => at6 ((σ.2.1 21) ((rd ||| 2 ^ p) * 8 + p)) t) (stp (σ.2.1 0) ((σ.2.1 24) p) mq) == lf)) z = false) → n - p0 < fu → ∀ ls : Array Slot, lv_has ls 8 [(0, .ref (g.2.2.2 36)), (1, .ref (g.2.2.2 1)), (2, .int (nI rd)), (3, .int (nI la)), (4, .int (nI mq)), (5, .int (nI lf)), (6, .int (nI p0))] → W p l e r_c_X2_nextPosition s m ([.ref (g.2.2.2 36), .ref (g.2.2.2 1), .int (nI rd), .int (nI la), .int (nI mq), .int (nI lf)] : List Value).toArray below meth c s.heap [] 0 0 Q (F0 m 3 ls []) := by
    intro fu
    induction fu with
    | zero => intro p0 h1 h2 hf; exact absurd hf (Nat.not_lt_zero _)
    | succ fu ih3 =>
      intro p0 h1 h2 hf ls hl
      refine lv_iload hx hb dX2_nextPosition_3 (lv_at hl 6 rfl) ?_
      refine lv_aload_n hx hb dX2_nextPosition_5 rfl (lv_at hl 0 rfl) ?_
      refine va_get (D := (g.1, g.2.1)) (ci := 4) (v := .int (nI (σ.1 4))) (C := RX2) (T := TX2) (N := 7) hx hb hts iX2 hown hK.1 hP 36 (gC36 g σ tl) rfl 4 (by decide) k24 (fun _ h9 => h9) rfl dX2_nextPosition_6 ?_
      refine jn_cge hx hb (by omega) (by omega) (tgt := 82) dX2_nextPosition_9 (by decide) (fun c_9 => ?_) (fun c_9 => ?_)
      · refine lv_iconst (v := nI 0) hx hb dX2_nextPosition_82 (by decide) ?_
        exact hq _ _ ((nI 0)) dX2_nextPosition_83 (by obtain ⟨z, hz, hv⟩ := hex; exact absurd hv (by rw [h2 z (by omega)]; decide))
      · refine lv_iload hx hb dX2_nextPosition_12 (lv_at hl 6 rfl) ?_
        refine lv_bipush (v := nI 8) hx hb dX2_nextPosition_14 (by decide) ?_
        refine jn_cge hx hb (by omega) (by decide) (tgt := 82) dX2_nextPosition_16 (by decide) (fun c_16 => absurd c_16 (by omega)) (fun c_16 => ?_)
        refine lv_iload_n hx hb dX2_nextPosition_19 rfl (lv_at hl 2 rfl) ?_
        refine lv_iload hx hb dX2_nextPosition_20 (lv_at hl 6 rfl) ?_
        refine jn_ishr hx hb (by omega) (by omega) dX2_nextPosition_22 ?_
        refine lv_iconst (v := nI 1) hx hb dX2_nextPosition_23 (by decide) ?_
        refine jn_and1 hx hb dX2_nextPosition_24 ?_
        refine jn_bne hx hb (tgt := 76) dX2_nextPosition_25 (by decide) (fun c_25 => ?_) (fun c_25 => ?_)
        · refine lv_iinc (v := nI (p0 + 1)) (lv' := [(6, .int (nI (p0 + 1))), (0, .ref (g.2.2.2 36)), (1, .ref (g.2.2.2 1)), (2, .int (nI rd)), (3, .int (nI la)), (4, .int (nI mq)), (5, .int (nI lf))]) hx hb dX2_nextPosition_76 hl (k := 6) rfl (jn_ii _ 1) (by decide) rfl (fun ls hl => ?_)
          refine lv_goto (tgt := 3) hx hb dX2_nextPosition_79 (by decide) ?_
          exact ih3 (p0 + 1) (by omega) (fun z hz => by rcases Nat.lt_or_ge z p0 with y | y; { exact h2 z y }; { rw [show z = p0 by omega]; first | exact nx_no (Or.inl c_25) | exact nx_no (Or.inr (beq_false_of_ne c_70)) }) (by omega) _ (lv_sub hl [1, 2, 3, 4, 5, 6, 0] rfl)
        · refine lv_aload_n hx hb dX2_nextPosition_28 rfl (lv_at hl 1 rfl) ?_
          refine lv_aload_n hx hb dX2_nextPosition_29 rfl (lv_at hl 0 rfl) ?_
          refine va_get (D := (g.1, g.2.1)) (ci := 4) (v := .ref (g.2.2.2 40)) (C := RX2) (T := TX2) (N := 7) hx hb hts iX2 hown hK.1 hP 36 (gC36 g σ tl) rfl 3 (by decide) k21 (fun _ h9 => h9) rfl dX2_nextPosition_30 ?_
          refine lv_iload hx hb dX2_nextPosition_33 (lv_at hl 6 rfl) ?_
          refine jn_iald (f := σ.2.1 24) hx hb hK.1 hP 40 0 (gC40 g σ tl) rfl (by omega) (Nat.le_of_ble_eq_true rfl) dX2_nextPosition_35 ?_
          refine lv_iload hx hb dX2_nextPosition_36 (lv_at hl 4 rfl) ?_
          refine vp_callSi (va_Run.run (va_runV (As := [.int (nI ((σ.2.1 24) p0)), .int (nI mq)]) (rest := []) ⟨hx, hb, hml, hown, hts⟩ (c_X0_step l g tl σ ((σ.2.1 24) p0) mq hA (hw p0 (by omega)) hm) (cwV 2 hts gX2_nextPosition_X0_step rfl rfl rfl (by decide +kernel) ⟨Nat.le_of_ble_eq_true rfl, Nat.le_of_ble_eq_true rfl⟩) (okPV hK hP rfl (gC1 g σ tl)) rfl rfl hl.1 rfl (lv_room (Nat.le_of_ble_eq_true rfl)) dX2_nextPosition_38 ⟨Nat.le_of_ble_eq_true rfl, Nat.le_of_ble_eq_true rfl⟩)) (fun r_38 h_38 => ?_)
          subst h_38
          have st32 : stp (σ.2.1 0) ((σ.2.1 24) p0) mq < 32 := stp_lt hA.1 (hw p0 (by omega))
          refine lv_istore (lv' := [(7, .int (nI (stp (σ.2.1 0) ((σ.2.1 24) p0) mq))), (0, .ref (g.2.2.2 36)), (1, .ref (g.2.2.2 1)), (2, .int (nI rd)), (3, .int (nI la)), (4, .int (nI mq)), (5, .int (nI lf)), (6, .int (nI p0))]) hx hb dX2_nextPosition_41 hl (by decide) rfl (fun ls hl => ?_)
          refine lv_iload_n hx hb dX2_nextPosition_43 rfl (lv_at hl 4 rfl) ?_
          refine lv_iload hx hb dX2_nextPosition_44 (lv_at hl 7 rfl) ?_
          refine lv_isub hx hb dX2_nextPosition_46 ?_
          refine jn_abs hx hb (hml.trans hl.1.symm) hown (hts (.methodLink RX2 88 Lib.Math.abs.name) (by decide +kernel)) (hts (.static Lib.Math.abs.name) (by decide +kernel)) (hts (.initialized "java/lang/Math") (by decide +kernel)) (hts (.code Lib.Math.abs.name Lib.Math.abs.code 1 (some .int)) (by decide +kernel)) (Nat.le_of_ble_eq_true rfl) (Nat.le_of_ble_eq_true rfl) (Nat.le_of_ble_eq_true rfl) (Nat.le_of_ble_eq_true rfl) (by omega) (by omega) dX2_nextPosition_47 ?_
          refine lv_aload_n hx hb dX2_nextPosition_50 rfl (lv_at hl 1 rfl) ?_
          refine lv_iload_n hx hb dX2_nextPosition_51 rfl (lv_at hl 3 rfl) ?_
          refine lv_iconst (v := nI 1) hx hb dX2_nextPosition_52 (by decide) ?_
          refine lv_iload hx hb dX2_nextPosition_53 (lv_at hl 7 rfl) ?_
          refine jn_shl1 hx hb (by omega) dX2_nextPosition_55 ?_
          refine jn_ior hx hb dX2_nextPosition_56 ?_
          refine lv_iload hx hb dX2_nextPosition_57 (lv_at hl 7 rfl) ?_
          refine vp_callSi (va_Run.run (va_runV (As := [.int (nI (rd ||| (2 ^ p0))), .int (nI p0)]) (rest := [.int (nI ((la - p0) + (p0 - la)))]) ⟨hx, hb, hml, hown, hts⟩ (c_X2_costsAt l g tl σ (rd ||| (2 ^ p0)) p0 (or_lt8 (n := 8) hs (by omega)) (by omega)) (cwV 2 hts gX2_nextPosition_X2_costsAt rfl rfl rfl (by decide +kernel) ⟨Nat.le_of_ble_eq_true rfl, Nat.le_of_ble_eq_true rfl⟩) (okPV hK hP rfl (gC36 g σ tl)) rfl rfl hl.1 rfl (lv_room (Nat.le_of_ble_eq_true rfl)) dX2_nextPosition_59 ⟨Nat.le_of_ble_eq_true rfl, Nat.le_of_ble_eq_true rfl⟩)) (fun r_59 h_59 => ?_)
          subst h_59
          refine lv_iload hx hb dX2_nextPosition_62 (lv_at hl 0 rfl) ?_
          refine vp_callSi (va_Run.run (va_runS (As := [.int (nI ((σ.2.1 21) ((rd ||| (2 ^ p0)) * 8 + p0))), .int (nI (stp (σ.2.1 0) ((σ.2.1 24) p0) mq))]) (rest := [.int (nI ((la - p0) + (p0 - la)))]) ⟨hx, hb, hml, hown, hts⟩ (c_X2_leastOf l ((σ.2.1 21) ((rd ||| (2 ^ p0)) * 8 + p0)) (stp (σ.2.1 0) ((σ.2.1 24) p0) mq) (by have := hpc p0 (by omega) c_25; omega) st32) (va_cwS 2 hts gX2_nextPosition_X2_leastOf rfl rfl rfl (by decide +kernel) ⟨Nat.le_of_ble_eq_true rfl, Nat.le_of_ble_eq_true rfl⟩) okTS rfl rfl hl.1 rfl (lv_room (Nat.le_of_ble_eq_true rfl)) dX2_nextPosition_64 ⟨Nat.le_of_ble_eq_true rfl, Nat.le_of_ble_eq_true rfl⟩)) (fun r_64 h_64 => ?_)
          subst h_64
          refine jn_iadd hx hb dX2_nextPosition_67 ?_
          refine lv_iload hx hb dX2_nextPosition_68 (lv_at hl 6 rfl) ?_
          refine jn_cne hx hb (jn_small (adf_le8 (la := la) (p := p0) (by omega) (by omega)) (lstF_le _ _ 5)) (by omega) (tgt := 76) dX2_nextPosition_70 (by decide) (fun c_70 => ?_) (fun c_70 => ?_)
          · refine lv_iinc (v := nI (p0 + 1)) (lv' := [(6, .int (nI (p0 + 1))), (7, .int (nI (stp (σ.2.1 0) ((σ.2.1 24) p0) mq))), (0, .ref (g.2.2.2 36)), (1, .ref (g.2.2.2 1)), (2, .int (nI rd)), (3, .int (nI la)), (4, .int (nI mq)), (5, .int (nI lf))]) hx hb dX2_nextPosition_76 hl (k := 7) rfl (jn_ii _ 1) (by decide) rfl (fun ls hl => ?_)
            refine lv_goto (tgt := 3) hx hb dX2_nextPosition_79 (by decide) ?_
            exact ih3 (p0 + 1) (by omega) (fun z hz => by rcases Nat.lt_or_ge z p0 with y | y; { exact h2 z y }; { rw [show z = p0 by omega]; first | exact nx_no (Or.inl c_25) | exact nx_no (Or.inr (beq_false_of_ne c_70)) }) (by omega) _ (lv_sub hl [2, 3, 4, 5, 6, 7, 0] rfl)
          · refine lv_iload hx hb dX2_nextPosition_73 (lv_at hl 7 rfl) ?_
            exact hq _ _ ((nI p0)) dX2_nextPosition_75 (by rw [first_eq (i := p0) (by omega) (nx_yes (by simpa using c_25) (beq_iff_eq.mpr c_70)) h2])
  exact lp3 _ 0 (by omega) (fun z hz => absurd hz (by omega)) (Nat.lt_succ_self _) _ (lv_sub hl [1, 2, 3, 4, 5, 6, 0] rfl)
