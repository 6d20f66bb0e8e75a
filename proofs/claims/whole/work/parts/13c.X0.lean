abbrev r_c_X0_codeAt : Room := { frames := 3, cells := 0, slots := 0, locals := 65 }
set_option maxHeartbeats 4000000 in
set_option maxRecDepth 100000 in
theorem c_X0_codeAt (l : Launch) (g : GC) (tl : va_W) (σ : SS) (idx : Nat) (hA : OkA σ) (hi : idx < fb_ct (pT (σ.2.1 0)) 75) : Met l yX0_codeAt wsX0_codeAt r_c_X0_codeAt (va_Pc [.ref (g.2.2.2 1), .int (nI idx)] (PP g (wC g σ ++ tl))) (vp_Si (fun r => r = nI (cdT (kth (pT (σ.2.1 0)) idx 75)))) 0 0 (fun _ => False) := by
  refine jn_pi (cc := cX0_codeAt) (maxL := 6) (own := RX0) (by decide) rfl rfl (Nat.le_of_ble_eq_true rfl) ?_
  intro p e s m below meth c Q hx hb hml hown hts ⟨hP, hK⟩ hq ls hl
  have hl : lv_has ls 6 [(0, .ref (g.2.2.2 1)), (1, .int (nI idx))] := hl
  have hi2 := fb_ct_le (pT (σ.2.1 0)) 75
  refine lv_iload_n hx hb dX0_codeAt_0 rfl (lv_at hl 1 rfl) ?_
  refine lv_istore_n (lv' := [(2, .int (nI idx)), (0, .ref (g.2.2.2 1)), (1, .int (nI idx))]) hx hb dX0_codeAt_1 rfl hl (by decide) rfl (fun ls hl => ?_)
  refine lv_iconst (v := nI 0) hx hb dX0_codeAt_2 (by decide) ?_
  refine lv_istore_n (lv' := [(3, .int (nI 0)), (2, .int (nI idx)), (0, .ref (g.2.2.2 1)), (1, .int (nI idx))]) hx hb dX0_codeAt_3 rfl hl (by decide) rfl (fun ls hl => ?_)
  have lp4 : ∀ (fu : Nat), ∀ (a : Nat) (lf : Nat), (a ≤ 5) → (lf + fb_ct (pT (σ.2.1 0)) (15 * a) = idx) → 5 - a < fu → ∀ ls : Array Slot, lv_has ls 6 [(0, .ref (g.2.2.2 1)), (1, .int (nI idx)), (2, .int (nI lf)), (3, .int (nI a))] → W p l e r_c_X0_codeAt s m ([.ref (g.2.2.2 1), .int (nI idx)] : List Value).toArray below meth c s.heap [] 0 0 Q (F0 m 4 ls []) := by
    intro fu
    induction fu with
    | zero => intro a lf h1 h2 hf; exact absurd hf (Nat.not_lt_zero _)
    | succ fu ih4 =>
      intro a lf h1 h2 hf ls hl
      refine lv_iload_n hx hb dX0_codeAt_4 rfl (lv_at hl 3 rfl) ?_
      refine lv_iconst (v := nI 5) hx hb dX0_codeAt_5 (by decide) ?_
      refine jn_cge hx hb (by omega) (by decide) (tgt := 73) dX0_codeAt_6 (by decide) (fun c_6 => ?_) (fun c_6 => ?_)
      · refine lv_iconst (v := nI 4294967295) hx hb dX0_codeAt_73 (by decide) ?_
        exact hq _ _ ((nI 4294967295)) dX0_codeAt_74 (by have e : a = 5 := (by omega); subst e; have h7 : lf + fb_ct (pT (σ.2.1 0)) 75 = idx := h2; exact absurd hi (by omega))
      · refine lv_iconst (v := nI 0) hx hb dX0_codeAt_9 (by decide) ?_
        refine lv_istore (lv' := [(4, .int (nI 0)), (0, .ref (g.2.2.2 1)), (1, .int (nI idx)), (2, .int (nI lf)), (3, .int (nI a))]) hx hb dX0_codeAt_10 hl (by decide) rfl (fun ls hl => ?_)
        have lp12 : ∀ (fu : Nat), ∀ (b : Nat) (lf : Nat), (b ≤ 3) → (lf + fb_ct (pT (σ.2.1 0)) (15 * a + 5 * b) = idx) → 3 - b < fu → ∀ ls : Array Slot, lv_has ls 6 [(0, .ref (g.2.2.2 1)), (1, .int (nI idx)), (2, .int (nI lf)), (3, .int (nI a)), (4, .int (nI b))] → W p l e r_c_X0_codeAt s m ([.ref (g.2.2.2 1), .int (nI idx)] : List Value).toArray below meth c s.heap [] 0 0 Q (F0 m 12 ls []) := by
          intro fu
          induction fu with
          | zero => intro b lf h3 h4 hf; exact absurd hf (Nat.not_lt_zero _)
          | succ fu ih12 =>
            intro b lf h3 h4 hf ls hl
            refine lv_iload hx hb dX0_codeAt_12 (lv_at hl 4 rfl) ?_
            refine lv_iconst (v := nI 3) hx hb dX0_codeAt_14 (by decide) ?_
            refine jn_cge hx hb (by omega) (by decide) (tgt := 67) dX0_codeAt_15 (by decide) (fun c_15 => ?_) (fun c_15 => ?_)
            · refine lv_iinc (v := nI (a + 1)) (lv' := [(3, .int (nI (a + 1))), (0, .ref (g.2.2.2 1)), (1, .int (nI idx)), (2, .int (nI lf)), (4, .int (nI b))]) hx hb dX0_codeAt_67 hl (k := 3) rfl (jn_ii _ 1) (by decide) rfl (fun ls hl => ?_)
              refine lv_goto (tgt := 4) hx hb dX0_codeAt_70 (by decide) ?_
              exact ih4 (a + 1) lf (by omega) (by rw [show b = 3 by omega] at h4; exact h4) (by omega) _ (lv_sub hl [1, 2, 3, 0] rfl)
            · refine lv_iconst (v := nI 0) hx hb dX0_codeAt_18 (by decide) ?_
              refine lv_istore (lv' := [(5, .int (nI 0)), (0, .ref (g.2.2.2 1)), (1, .int (nI idx)), (2, .int (nI lf)), (3, .int (nI a)), (4, .int (nI b))]) hx hb dX0_codeAt_19 hl (by decide) rfl (fun ls hl => ?_)
              have lp21 : ∀ (fu : Nat), ∀ (c0 : Nat) (lf : Nat), (c0 ≤ 5) → (lf + fb_ct (pT (σ.2.1 0)) (15 * a + 5 * b + c0) = idx) → 5 - c0 < fu → ∀ ls : Array Slot, lv_has ls 6 [(0, .ref (g.2.2.2 1)), (1, .int (nI idx)), (2, .int (nI lf)), (3, .int (nI a)), (4, .int (nI b)), (5, .int (nI c0))] → W p l e r_c_X0_codeAt s m ([.ref (g.2.2.2 1), .int (nI idx)] : List Value).toArray below meth c s.heap [] 0 0 Q (F0 m 21 ls []) := by
                intro fu
                induction fu with
                | zero => intro c0 lf h5 h6 hf; exact absurd hf (Nat.not_lt_zero _)
                | succ fu ih21 =>
                  intro c0 lf h5 h6 hf ls hl
                  refine lv_iload hx hb dX0_codeAt_21 (lv_at hl 5 rfl) ?_
                  refine lv_iconst (v := nI 5) hx hb dX0_codeAt_23 (by decide) ?_
                  refine jn_cge hx hb (by omega) (by decide) (tgt := 61) dX0_codeAt_24 (by decide) (fun c_24 => ?_) (fun c_24 => ?_)
                  · refine lv_iinc (v := nI (b + 1)) (lv' := [(4, .int (nI (b + 1))), (0, .ref (g.2.2.2 1)), (1, .int (nI idx)), (2, .int (nI lf)), (3, .int (nI a)), (5, .int (nI c0))]) hx hb dX0_codeAt_61 hl (k := 4) rfl (jn_ii _ 1) (by decide) rfl (fun ls hl => ?_)
                    refine lv_goto (tgt := 12) hx hb dX0_codeAt_64 (by decide) ?_
                    exact ih12 (b + 1) lf (by omega) (by rw [show c0 = 5 by omega] at h6; exact h6) (by omega) _ (lv_sub hl [1, 2, 3, 4, 0] rfl)
                  · refine lv_aload_n hx hb dX0_codeAt_27 rfl (lv_at hl 0 rfl) ?_
                    refine lv_iload_n hx hb dX0_codeAt_28 rfl (lv_at hl 3 rfl) ?_
                    refine lv_iload hx hb dX0_codeAt_29 (lv_at hl 4 rfl) ?_
                    refine lv_iload hx hb dX0_codeAt_31 (lv_at hl 5 rfl) ?_
                    refine vp_callSi (va_Run.run (va_runV (As := [.int (nI a), .int (nI b), .int (nI c0)]) (rest := []) ⟨hx, hb, hml, hown, hts⟩ (c_X0_has l g tl σ a b c0 hA (by omega) (by omega) (by omega)) (cwV 3 hts gX0_codeAt_X0_has rfl rfl rfl (by decide +kernel) ⟨Nat.le_of_ble_eq_true rfl, Nat.le_of_ble_eq_true rfl⟩) (okPV hK hP rfl (gC1 g σ tl)) rfl rfl hl.1 rfl (lv_room (Nat.le_of_ble_eq_true rfl)) dX0_codeAt_33 ⟨Nat.le_of_ble_eq_true rfl, Nat.le_of_ble_eq_true rfl⟩)) (fun r_33 h_33 => ?_)
                    subst h_33
                    refine jn_beq hx hb (tgt := 55) dX0_codeAt_36 (by decide) (fun c_36 => ?_) (fun c_36 => ?_)
                    · refine lv_iinc (v := nI (c0 + 1)) (lv' := [(5, .int (nI (c0 + 1))), (0, .ref (g.2.2.2 1)), (1, .int (nI idx)), (2, .int (nI lf)), (3, .int (nI a)), (4, .int (nI b))]) hx hb dX0_codeAt_55 hl (k := 5) rfl (jn_ii _ 1) (by decide) rfl (fun ls hl => ?_)
                      refine lv_goto (tgt := 21) hx hb dX0_codeAt_58 (by decide) ?_
                      exact ih21 (c0 + 1) lf (by omega) (by rw [show 15 * a + 5 * b + (c0 + 1) = (15 * a + 5 * b + c0) + 1 by omega, fb_ct_succ, pT_at _ _ _ (by omega)]; first | (rw [if_pos c_36]; omega) | (rw [if_neg c_36]; omega)) (by omega) _ (lv_sub hl [1, 2, 3, 4, 5, 0] rfl)
                    · refine lv_iload_n hx hb dX0_codeAt_39 rfl (lv_at hl 2 rfl) ?_
                      refine jn_zne hx hb (by omega) (tgt := 52) dX0_codeAt_40 (by decide) (fun c_40 => ?_) (fun c_40 => ?_)
                      · refine lv_iinc (v := nI (lf - 1)) (lv' := [(2, .int (nI (lf - 1))), (0, .ref (g.2.2.2 1)), (1, .int (nI idx)), (3, .int (nI a)), (4, .int (nI b)), (5, .int (nI c0))]) hx hb dX0_codeAt_52 hl (k := 2) rfl (jn_im (by omega)) (by decide) rfl (fun ls hl => ?_)
                        refine lv_iinc (v := nI (c0 + 1)) (lv' := [(5, .int (nI (c0 + 1))), (2, .int (nI (lf - 1))), (0, .ref (g.2.2.2 1)), (1, .int (nI idx)), (3, .int (nI a)), (4, .int (nI b))]) hx hb dX0_codeAt_55 hl (k := 5) rfl (jn_ii _ 1) (by decide) rfl (fun ls hl => ?_)
                        refine lv_goto (tgt := 21) hx hb dX0_codeAt_58 (by decide) ?_
                        exact ih21 (c0 + 1) (lf - 1) (by omega) (by rw [show 15 * a + 5 * b + (c0 + 1) = (15 * a + 5 * b + c0) + 1 by omega, fb_ct_succ, pT_at _ _ _ (by omega)]; first | (rw [if_pos c_36]; omega) | (rw [if_neg c_36]; omega)) (by omega) _ (lv_sub hl [2, 3, 1, 4, 5, 0] rfl)
                      · refine lv_iload_n hx hb dX0_codeAt_43 rfl (lv_at hl 3 rfl) ?_
                        refine lv_iload hx hb dX0_codeAt_44 (lv_at hl 4 rfl) ?_
                        refine lv_iload hx hb dX0_codeAt_46 (lv_at hl 5 rfl) ?_
                        refine vp_callSi (va_Run.run (va_runSN (As := [.int (nI a), .int (nI b), .int (nI c0)]) (rest := []) ⟨hx, hb, hml, hown, hts⟩ (c_X10_codeOf l a b c0) ⟨(va_cnB 3 hts gX0_codeAt_X10_codeOf_n49 rfl rfl rfl (hK.2 _ (List.mem_of_getElem? (i := 23) rfl)) (hts (.initialized RX10) (by decide +kernel)) (by decide +kernel) ⟨Nat.le_of_ble_eq_true rfl, Nat.le_of_ble_eq_true rfl⟩), hts (.static yX10_codeOf) (by decide +kernel), trivial⟩ okTS rfl rfl hl.1 rfl (lv_room (Nat.le_of_ble_eq_true rfl)) dX0_codeAt_48 ⟨Nat.le_of_ble_eq_true rfl, Nat.le_of_ble_eq_true rfl⟩)) (fun r_48 h_48 => ?_)
                        subst h_48
                        exact hq _ _ ((nI (100 * a + 10 * b + c0))) dX0_codeAt_51 (by rw [kth_eq (j := 15 * a + 5 * b + c0) (by omega) (by rw [pT_at _ _ _ (by omega)]; exact c_36) (by omega), cdT_at _ _ _ (by omega) (by omega)])
              exact lp21 _ 0 lf (by decide) h4 (Nat.lt_succ_self _) _ (lv_sub hl [1, 2, 3, 4, 5, 0] rfl)
        exact lp12 _ 0 lf (by decide) h2 (Nat.lt_succ_self _) _ (lv_sub hl [1, 2, 3, 4, 0] rfl)
  exact lp4 _ 0 idx (by decide) rfl (Nat.lt_succ_self _) _ (lv_sub hl [2, 3, 1, 0] rfl)

abbrev r_c_X0_writeTo : Room := { frames := 1, cells := 0, slots := 0, locals := 64 }
set_option maxHeartbeats 4000000 in
set_option maxRecDepth 100000 in
theorem c_X0_writeTo (l : Launch) (g : GC) (tl : va_W) (sz : Nat) (σ : SS) (j : Nat) (hj : j < 9) : Met l yX0_writeTo wsX0_writeTo r_c_X0_writeTo (va_Pc [.ref (g.2.2.2 1), .ref (g.2.2.2 (8 + j))] (PW g (wC g σ ++ tl) sz)) (va_Qv (fun (_ : Unit) => True) (fun (_ : Unit) t => BW g (va_A (wC g σ ++ tl) sz) (wC g (sL σ (2 + j) (va_up (va_cpy (σ.2.1 0) (σ.2.2 (2 + j)) 0 0 15) 15 (σ.1 0))) ++ tl) t) (va_A (wC g σ ++ tl) sz)) 0 0 (va_A (wC g σ ++ tl) sz) := by
  refine jn_sv (wf := fun _ : Unit => wC g (sL σ (2 + j) (va_up (va_cpy (σ.2.1 0) (σ.2.2 (2 + j)) 0 0 15) 15 (σ.1 0))) ++ tl) (cc := cX0_writeTo) (maxL := 2) (own := RX0) (by decide) rfl rfl (Nat.le_of_ble_eq_true rfl) ?_
  intro p e s m below meth c Q A hx hb hml hown hts hK hP hD hS hAA hq ls hl
  obtain ⟨H, eH⟩ : ∃ z, z = s.heap := ⟨_, rfl⟩
  obtain ⟨locs, el⟩ : ∃ z : List Loc, z = [] := ⟨_, rfl⟩
  rw [← eH] at hP
  have hS : va_S A s.heap H locs := by rw [eH, el]; exact hS
  have goal0 : W p l e r_c_X0_writeTo s m ([.ref (g.2.2.2 1), .ref (g.2.2.2 (8 + j))] : List Value).toArray below meth c H locs 0 0 Q (F0 m 0 ls []) → W p l e r_c_X0_writeTo s m ([.ref (g.2.2.2 1), .ref (g.2.2.2 (8 + j))] : List Value).toArray below meth c s.heap [] 0 0 Q (F0 m 0 ls []) := fun h => by rw [eH, el] at h; exact h
  refine goal0 ?_
  have hl : lv_has ls 2 [(0, .ref (g.2.2.2 1)), (1, .ref (g.2.2.2 (8 + j)))] := hl
  have iX0 : ∀ w ∈ wsX00, w ∈ wsX0_writeTo := by decide +kernel
  have k9 := hts (.fieldLink RX0 9 "JumpingAutomata$Automaton" "targets" "[I") (by decide +kernel)
  have k18 := hts (.fieldLink RX0 18 "JumpingAutomata$Automaton" "finals" "I") (by decide +kernel)
  refine lv_aload_n hx hb dX0_writeTo_0 rfl (lv_at hl 1 rfl) ?_
  refine va_alen hx hb hK.1 hP (8 + j) 0 (gCrE g σ tl j hj (f := σ.2.2 (2 + j)) (by first | rfl | exact sL_same _ _ _ | exact if_neg (by omega))) rfl (v := nI 58) rfl dX0_writeTo_1 ?_
  refine lv_bipush (v := nI 16) hx hb dX0_writeTo_2 (by decide) ?_
  refine jn_clt hx hb (by decide) (by decide) (tgt := 27) dX0_writeTo_4 (by decide) (fun c_4 => absurd c_4 (by omega)) (fun c_4 => ?_)
  refine lv_aload_n hx hb dX0_writeTo_7 rfl (lv_at hl 0 rfl) ?_
  refine va_get (D := (g.1, g.2.1)) (ci := 2) (v := .ref (g.2.2.2 2)) (C := RX0) (T := TX0) (N := 3) hx hb hts iX0 hown hK.1 hP 1 (gC1 g σ tl) rfl 0 (by decide) k9 (fun _ h9 => h9) rfl dX0_writeTo_8 ?_
  refine lv_iconst (v := nI 0) hx hb dX0_writeTo_11 (by decide) ?_
  refine lv_aload_n hx hb dX0_writeTo_12 rfl (lv_at hl 1 rfl) ?_
  refine lv_iconst (v := nI 0) hx hb dX0_writeTo_13 (by decide) ?_
  refine lv_bipush (v := nI 15) hx hb dX0_writeTo_14 (by decide) ?_
  refine jn_copyi (f := σ.2.1 0) (f2 := σ.2.2 (2 + j)) hx hb (hml.trans hl.1.symm) hown (hts (.methodLink RX0 56 arraycopyName) (by decide +kernel)) (hts (.native arraycopyName) (by decide +kernel)) (hts (.static arraycopyName) (by decide +kernel)) (hts (.initialized "java/lang/System") (by decide +kernel)) hK.1 hP hD hS 2 (8 + j) 0 0 (gC2 g σ tl) (gCrE g σ tl j hj (f := σ.2.2 (2 + j)) (by first | rfl | exact sL_same _ _ _ | exact if_neg (by omega))) rfl rfl (by decide) (by decide) (by decide) (by decide) (by decide) (Nat.le_of_ble_eq_true rfl) (Nat.le_of_ble_eq_true rfl) (uC_Ar g σ tl j hj _) dX0_writeTo_16 (fun H locs hP hD hS => ?_)
  refine lv_aload_n hx hb dX0_writeTo_19 rfl (lv_at hl 1 rfl) ?_
  refine lv_bipush (v := nI 15) hx hb dX0_writeTo_20 (by decide) ?_
  refine lv_aload_n hx hb dX0_writeTo_22 rfl (lv_at hl 0 rfl) ?_
  refine va_get (D := (g.1, g.2.1)) (ci := 2) (v := .int (nI (σ.1 0))) (C := RX0) (T := TX0) (N := 3) hx hb hts iX0 hown hK.1 hP 1 (gC1 g (sL σ (2 + j) (va_cpy (σ.2.1 0) (σ.2.2 (2 + j)) 0 0 15)) tl) rfl 2 (by decide) k18 (fun _ h9 => h9) rfl dX0_writeTo_23 ?_
  refine jn_iast (f := va_cpy (σ.2.1 0) (σ.2.2 (2 + j)) 0 0 15) hx hb hK.1 hP hD hS (8 + j) 0 (gCrE g (sL σ (2 + j) (va_cpy (σ.2.1 0) (σ.2.2 (2 + j)) 0 0 15)) tl j hj (f := va_cpy (σ.2.1 0) (σ.2.2 (2 + j)) 0 0 15) (by first | rfl | exact sL_same _ _ _ | exact if_neg (by omega))) rfl (by decide) (Nat.le_of_ble_eq_true rfl) (uC_Ar2 g σ tl j hj _ _) dX0_writeTo_26 (fun H locs hP hD hS => ?_)
  exact hq _ _ _ _ () dX0_writeTo_27 trivial hP hD hS

abbrev r_c_X0_readFrom : Room := { frames := 1, cells := 0, slots := 0, locals := 64 }
set_option maxHeartbeats 4000000 in
set_option maxRecDepth 100000 in
theorem c_X0_readFrom (l : Launch) (g : GC) (tl : va_W) (sz : Nat) (σ : SS) (j : Nat) (hj : j < 9) : Met l yX0_readFrom wsX0_readFrom r_c_X0_readFrom (va_Pc [.ref (g.2.2.2 1), .ref (g.2.2.2 (8 + j))] (PW g (wC g σ ++ tl) sz)) (va_Qv (fun (_ : Unit) => True) (fun (_ : Unit) t => BW g (va_A (wC g σ ++ tl) sz) (wC g (sF (sA σ 0 (va_cpy (σ.2.2 (2 + j)) (σ.2.1 0) 0 0 15)) 0 ((σ.2.2 (2 + j)) 15)) ++ tl) t) (va_A (wC g σ ++ tl) sz)) 0 0 (va_A (wC g σ ++ tl) sz) := by
  refine jn_sv (wf := fun _ : Unit => wC g (sF (sA σ 0 (va_cpy (σ.2.2 (2 + j)) (σ.2.1 0) 0 0 15)) 0 ((σ.2.2 (2 + j)) 15)) ++ tl) (cc := cX0_readFrom) (maxL := 2) (own := RX0) (by decide) rfl rfl (Nat.le_of_ble_eq_true rfl) ?_
  intro p e s m below meth c Q A hx hb hml hown hts hK hP hD hS hAA hq ls hl
  obtain ⟨H, eH⟩ : ∃ z, z = s.heap := ⟨_, rfl⟩
  obtain ⟨locs, el⟩ : ∃ z : List Loc, z = [] := ⟨_, rfl⟩
  rw [← eH] at hP
  have hS : va_S A s.heap H locs := by rw [eH, el]; exact hS
  have goal0 : W p l e r_c_X0_readFrom s m ([.ref (g.2.2.2 1), .ref (g.2.2.2 (8 + j))] : List Value).toArray below meth c H locs 0 0 Q (F0 m 0 ls []) → W p l e r_c_X0_readFrom s m ([.ref (g.2.2.2 1), .ref (g.2.2.2 (8 + j))] : List Value).toArray below meth c s.heap [] 0 0 Q (F0 m 0 ls []) := fun h => by rw [eH, el] at h; exact h
  refine goal0 ?_
  have hl : lv_has ls 2 [(0, .ref (g.2.2.2 1)), (1, .ref (g.2.2.2 (8 + j)))] := hl
  have iX0 : ∀ w ∈ wsX00, w ∈ wsX0_readFrom := by decide +kernel
  have k9 := hts (.fieldLink RX0 9 "JumpingAutomata$Automaton" "targets" "[I") (by decide +kernel)
  have k18 := hts (.fieldLink RX0 18 "JumpingAutomata$Automaton" "finals" "I") (by decide +kernel)
  refine lv_aload_n hx hb dX0_readFrom_0 rfl (lv_at hl 1 rfl) ?_
  refine va_alen hx hb hK.1 hP (8 + j) 0 (gCrE g σ tl j hj (f := σ.2.2 (2 + j)) (by first | rfl | exact sL_same _ _ _ | exact if_neg (by omega))) rfl (v := nI 58) rfl dX0_readFrom_1 ?_
  refine lv_bipush (v := nI 16) hx hb dX0_readFrom_2 (by decide) ?_
  refine jn_clt hx hb (by decide) (by decide) (tgt := 27) dX0_readFrom_4 (by decide) (fun c_4 => absurd c_4 (by omega)) (fun c_4 => ?_)
  refine lv_aload_n hx hb dX0_readFrom_7 rfl (lv_at hl 1 rfl) ?_
  refine lv_iconst (v := nI 0) hx hb dX0_readFrom_8 (by decide) ?_
  refine lv_aload_n hx hb dX0_readFrom_9 rfl (lv_at hl 0 rfl) ?_
  refine va_get (D := (g.1, g.2.1)) (ci := 2) (v := .ref (g.2.2.2 2)) (C := RX0) (T := TX0) (N := 3) hx hb hts iX0 hown hK.1 hP 1 (gC1 g σ tl) rfl 0 (by decide) k9 (fun _ h9 => h9) rfl dX0_readFrom_10 ?_
  refine lv_iconst (v := nI 0) hx hb dX0_readFrom_13 (by decide) ?_
  refine lv_bipush (v := nI 15) hx hb dX0_readFrom_14 (by decide) ?_
  refine jn_copyi (f := σ.2.2 (2 + j)) (f2 := σ.2.1 0) hx hb (hml.trans hl.1.symm) hown (hts (.methodLink RX0 56 arraycopyName) (by decide +kernel)) (hts (.native arraycopyName) (by decide +kernel)) (hts (.static arraycopyName) (by decide +kernel)) (hts (.initialized "java/lang/System") (by decide +kernel)) hK.1 hP hD hS (8 + j) 2 0 0 (gCrE g σ tl j hj (f := σ.2.2 (2 + j)) (by first | rfl | exact sL_same _ _ _ | exact if_neg (by omega))) (gC2 g σ tl) rfl rfl (by decide) (by decide) (by decide) (by decide) (by decide) (Nat.le_of_ble_eq_true rfl) (Nat.le_of_ble_eq_true rfl) (uC_A0 g σ tl _) dX0_readFrom_16 (fun H locs hP hD hS => ?_)
  refine lv_aload_n hx hb dX0_readFrom_19 rfl (lv_at hl 0 rfl) ?_
  refine lv_aload_n hx hb dX0_readFrom_20 rfl (lv_at hl 1 rfl) ?_
  refine lv_bipush (v := nI 15) hx hb dX0_readFrom_21 (by decide) ?_
  refine jn_iald (f := σ.2.2 (2 + j)) hx hb hK.1 hP (8 + j) 0 (gCrE g (sA σ 0 (va_cpy (σ.2.2 (2 + j)) (σ.2.1 0) 0 0 15)) tl j hj (f := σ.2.2 (2 + j)) (by first | rfl | exact sL_same _ _ _ | exact if_neg (by omega))) rfl (by decide) (Nat.le_of_ble_eq_true rfl) dX0_readFrom_23 ?_
  refine jn_put (D := (g.1, g.2.1)) (ci := 2) (v := .int (nI ((σ.2.2 (2 + j)) 15))) (ty := .int) (C := RX0) (T := TX0) (N := 3) hx hb hts iX0 tyX0 tyX0_ok nmX0 hown hK.1 hP hD hS 1 (gC1 g (sA σ 0 (va_cpy (σ.2.2 (2 + j)) (σ.2.1 0) 0 0 15)) tl) rfl 2 (by decide) k18 (fun _ h9 => h9) rfl (by decide +kernel) rfl rfl (Nat.le_of_ble_eq_true rfl) (uC_F0 g (sA σ 0 (va_cpy (σ.2.2 (2 + j)) (σ.2.1 0) 0 0 15)) tl ((σ.2.2 (2 + j)) 15)) dX0_readFrom_24 (fun H locs hP hD hS => ?_)
  exact hq _ _ _ _ () dX0_readFrom_27 trivial hP hD hS
