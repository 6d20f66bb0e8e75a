abbrev r_c_X10_choose : Room := { frames := 0, cells := 0, slots := 0, locals := 0 }
set_option maxHeartbeats 4000000 in
set_option maxRecDepth 100000 in
theorem c_X10_choose (l : Launch) (a s2 : Nat) (ha : a ≤ 8) (hs : s2 ≤ a) : Met l yX10_choose wsX10_choose r_c_X10_choose (va_Pc [.int (nI a), .int (nI s2)] (fun _ => True)) (vp_Sl (fun r => r = lN (chF a s2 s2))) 0 0 (fun _ => False) := by
  refine jn_pl (cc := cX10_choose) (maxL := 5) (own := RX10) (by decide) rfl rfl (Nat.le_of_ble_eq_true rfl) ?_
  intro p e s m below meth c Q hx hb hml hown hts _ hq ls hl
  have hl : lv_has ls 5 [(0, .int (nI a)), (1, .int (nI s2))] := hl
  refine lv_lconst (v := lN 1) hx hb dX10_choose_0 (by decide) ?_
  refine lv_lstore_n (lv' := [(2, .long (lN 1)), (0, .int (nI a)), (1, .int (nI s2))]) hx hb dX10_choose_1 rfl hl (by decide) rfl (fun ls hl => ?_)
  refine lv_iconst (v := nI 1) hx hb dX10_choose_2 (by decide) ?_
  refine lv_istore (lv' := [(4, .int (nI 1)), (2, .long (lN 1)), (0, .int (nI a)), (1, .int (nI s2))]) hx hb dX10_choose_3 hl (by decide) rfl (fun ls hl => ?_)
  have lp5 : ∀ (fu : Nat), ∀ (i : Nat) (w2 : Nat), (1 ≤ i) → (i ≤ s2 + 1) → (w2 = chF a s2 (i - 1)) → s2 + 1 - i < fu → ∀ ls : Array Slot, lv_has ls 5 [(0, .int (nI a)), (1, .int (nI s2)), (2, .long (lN w2)), (4, .int (nI i))] → W p l e r_c_X10_choose s m ([.int (nI a), .int (nI s2)] : List Value).toArray below meth c s.heap [] 0 0 Q (F0 m 5 ls []) := by
    intro fu
    induction fu with
    | zero => intro i w2 h1 h2 h3 hf; exact absurd hf (Nat.not_lt_zero _)
    | succ fu ih5 =>
      intro i w2 h1 h2 h3 hf ls hl
      have hlt : w2 < 100000000 := by rw [h3]; exact chF_lt ha (by omega) (by omega)
      refine lv_iload hx hb dX10_choose_5 (lv_at hl 3 rfl) ?_
      refine lv_iload_n hx hb dX10_choose_7 rfl (lv_at hl 1 rfl) ?_
      refine jn_cgt hx hb (by omega) (by omega) (tgt := 31) dX10_choose_8 (by decide) (fun c_8 => ?_) (fun c_8 => ?_)
      · refine lv_lload_n hx hb dX10_choose_31 rfl (lv_at hl 2 rfl) ?_
        exact hq _ _ ((lN w2)) dX10_choose_32 (by rw [h3, show i - 1 = s2 by omega])
      · refine lv_lload_n hx hb dX10_choose_11 rfl (lv_at hl 2 rfl) ?_
        refine lv_iload_n hx hb dX10_choose_12 rfl (lv_at hl 0 rfl) ?_
        refine lv_iload_n hx hb dX10_choose_13 rfl (lv_at hl 1 rfl) ?_
        refine jn_isub hx hb (by omega) dX10_choose_14 ?_
        refine lv_iload hx hb dX10_choose_15 (lv_at hl 3 rfl) ?_
        refine jn_iadd hx hb dX10_choose_17 ?_
        refine jn_i2l hx hb (by omega) dX10_choose_18 ?_
        refine jn_lmul hx hb dX10_choose_19 ?_
        refine lv_iload hx hb dX10_choose_20 (lv_at hl 3 rfl) ?_
        refine jn_i2l hx hb (by omega) dX10_choose_22 ?_
        refine jn_ldiv hx hb (Nat.lt_of_le_of_lt (Nat.mul_le_mul (Nat.le_of_lt hlt) (show a - s2 + i ≤ 20 by omega)) (by decide)) (by omega) (Nat.lt_of_le_of_lt (show i ≤ 20 by omega) (by decide)) dX10_choose_23 ?_
        refine lv_lstore_n (lv' := [(2, .long (lN ((w2 * ((a - s2) + i)) / i))), (0, .int (nI a)), (1, .int (nI s2)), (4, .int (nI i))]) hx hb dX10_choose_24 rfl hl (by decide) rfl (fun ls hl => ?_)
        refine lv_iinc (v := nI (i + 1)) (lv' := [(4, .int (nI (i + 1))), (2, .long (lN ((w2 * ((a - s2) + i)) / i))), (0, .int (nI a)), (1, .int (nI s2))]) hx hb dX10_choose_25 hl (k := 3) rfl (jn_ii _ 1) (by decide) rfl (fun ls hl => ?_)
        refine lv_goto (tgt := 5) hx hb dX10_choose_28 (by decide) ?_
        exact ih5 (i + 1) ((w2 * ((a - s2) + i)) / i) (by omega) (by omega) (by rw [h3, show i + 1 - 1 = (i - 1) + 1 by omega, chF, show i - 1 + 1 = i by omega]) (by omega) _ (lv_sub hl [2, 3, 1, 0] rfl)
  exact lp5 _ 1 1 (by decide) (by omega) rfl (Nat.lt_succ_self _) _ (lv_sub hl [2, 3, 1, 0] rfl)

abbrev r_c_X10_isPosition : Room := { frames := 0, cells := 0, slots := 0, locals := 0 }
set_option maxHeartbeats 4000000 in
set_option maxRecDepth 100000 in
theorem c_X10_isPosition (l : Launch) (g : GC) (tl : va_W) (σ : SS) (x : Nat) (hx : x < 4294967296) (hw8 : (σ.1 20) ≤ 8) : Met l yX10_isPosition wsX10_isPosition r_c_X10_isPosition (va_Pc [.ref (g.2.2.2 0), .int (nI x)] (PP g (wC g σ ++ tl))) (vp_Si (fun r => r = nI (if x < (σ.1 20) then 1 else 0))) 0 0 (fun _ => False) := by
  refine jn_pz (cc := cX10_isPosition) (maxL := 2) (own := RX10) (by decide) rfl rfl (Nat.le_of_ble_eq_true rfl) ?_
  intro p e s m below meth c Q hx hb hml hown hts ⟨hP, hK⟩ hq ls hl
  have hl : lv_has ls 2 [(0, .ref (g.2.2.2 0)), (1, .int (nI x))] := hl
  have iX10 : ∀ w ∈ wsX100, w ∈ wsX10_isPosition := by decide +kernel
  have k41 := hts (.fieldLink RX10 41 "JumpingAutomata" "wordSize" "I") (by decide +kernel)
  refine lv_iload_n hx hb dX10_isPosition_0 rfl (lv_at hl 1 rfl) ?_
  refine jn_zlt hx hb (by omega) (tgt := 22) dX10_isPosition_1 (by decide) (fun c_1 => ?_) (fun c_1 => ?_)
  · refine lv_iconst (v := nI 0) hx hb dX10_isPosition_22 (by decide) ?_
    exact hq _ _ ((nI 0)) dX10_isPosition_23 jn_n0 (by first | rw [if_pos (by omega)] | rw [if_neg (by omega)])
  · refine lv_iload_n hx hb dX10_isPosition_4 rfl (lv_at hl 1 rfl) ?_
    refine lv_aload_n hx hb dX10_isPosition_5 rfl (lv_at hl 0 rfl) ?_
    refine va_get (D := (g.1, g.2.1)) (ci := 12) (v := .int (nI (σ.1 20))) (C := RX10) (T := TX10) (N := 15) hx hb hts iX10 hown hK.1 hP 0 (gC0 g σ tl) rfl 5 (by decide) k41 (fun _ h9 => h9) rfl dX10_isPosition_6 ?_
    refine jn_cge hx hb (by omega) (by omega) (tgt := 22) dX10_isPosition_9 (by decide) (fun c_9 => ?_) (fun c_9 => ?_)
    · refine lv_iconst (v := nI 0) hx hb dX10_isPosition_22 (by decide) ?_
      exact hq _ _ ((nI 0)) dX10_isPosition_23 jn_n0 (by first | rw [if_pos (by omega)] | rw [if_neg (by omega)])
    · refine lv_iload_n hx hb dX10_isPosition_12 rfl (lv_at hl 1 rfl) ?_
      refine lv_bipush (v := nI 8) hx hb dX10_isPosition_13 (by decide) ?_
      refine jn_cge hx hb (by omega) (by decide) (tgt := 22) dX10_isPosition_15 (by decide) (fun c_15 => absurd c_15 (by omega)) (fun c_15 => ?_)
      refine lv_iconst (v := nI 1) hx hb dX10_isPosition_18 (by decide) ?_
      refine lv_goto (tgt := 23) hx hb dX10_isPosition_19 (by decide) ?_
      exact hq _ _ ((nI 1)) dX10_isPosition_23 jn_n1 (by first | rw [if_pos (by omega)] | rw [if_neg (by omega)])

abbrev r_c_X10_faultPosition : Room := { frames := 0, cells := 0, slots := 0, locals := 0 }
set_option maxHeartbeats 4000000 in
set_option maxRecDepth 100000 in
theorem c_X10_faultPosition (l : Launch) (g : GC) (tl : va_W) (σ : SS) : Met l yX10_faultPosition wsX10_faultPosition r_c_X10_faultPosition (va_Pc [.ref (g.2.2.2 0)] (PP g (wC g σ ++ tl))) (vp_Si (fun r => r = nI (σ.1 2))) 0 0 (fun _ => False) := by
  refine jn_pi (cc := cX10_faultPosition) (maxL := 1) (own := RX10) (by decide) rfl rfl (Nat.le_of_ble_eq_true rfl) ?_
  intro p e s m below meth c Q hx hb hml hown hts ⟨hP, hK⟩ hq ls hl
  have hl : lv_has ls 1 [(0, .ref (g.2.2.2 0))] := hl
  have iX10 : ∀ w ∈ wsX100, w ∈ wsX10_faultPosition := by decide +kernel
  have iX1 : ∀ w ∈ wsX10, w ∈ wsX10_faultPosition := by decide +kernel
  have k33 := hts (.fieldLink RX10 33 "JumpingAutomata" "text" "LJumpingAutomata$AutomatonText;") (by decide +kernel)
  have k117 := hts (.fieldLink RX10 117 "JumpingAutomata$AutomatonText" "fault" "I") (by decide +kernel)
  refine lv_aload_n hx hb dX10_faultPosition_0 rfl (lv_at hl 0 rfl) ?_
  refine va_get (D := (g.1, g.2.1)) (ci := 12) (v := .ref (g.2.2.2 17)) (C := RX10) (T := TX10) (N := 15) hx hb hts iX10 hown hK.1 hP 0 (gC0 g σ tl) rfl 3 (by decide) k33 (fun _ h9 => h9) rfl dX10_faultPosition_1 ?_
  refine va_get (D := (g.1, g.2.1)) (ci := 3) (v := .int (nI (σ.1 2))) (C := RX1) (T := TX1) (N := 5) hx hb hts iX1 hown hK.1 hP 17 (gC17 g σ tl) rfl 2 (by decide) k117 (fun _ h9 => h9) rfl dX10_faultPosition_4 ?_
  exact hq _ _ ((nI (σ.1 2))) dX10_faultPosition_7 rfl

abbrev r_c_X10_transitionCount : Room := { frames := 2, cells := 0, slots := 0, locals := 42 }
set_option maxHeartbeats 4000000 in
set_option maxRecDepth 100000 in
theorem c_X10_transitionCount (l : Launch) (g : GC) (tl : va_W) (σ : SS) (hA : OkA σ) : Met l yX10_transitionCount wsX10_transitionCount r_c_X10_transitionCount (va_Pc [.ref (g.2.2.2 0)] (PP g (wC g σ ++ tl))) (vp_Si (fun r => r = nI (cntT (σ.2.1 0)))) 0 0 (fun _ => False) := by
  refine jn_pi (cc := cX10_transitionCount) (maxL := 1) (own := RX10) (by decide) rfl rfl (Nat.le_of_ble_eq_true rfl) ?_
  intro p e s m below meth c Q hx hb hml hown hts ⟨hP, hK⟩ hq ls hl
  have hl : lv_has ls 1 [(0, .ref (g.2.2.2 0))] := hl
  have iX10 : ∀ w ∈ wsX100, w ∈ wsX10_transitionCount := by decide +kernel
  have k12 := hts (.fieldLink RX10 12 "JumpingAutomata" "automaton" "LJumpingAutomata$Automaton;") (by decide +kernel)
  refine lv_aload_n hx hb dX10_transitionCount_0 rfl (lv_at hl 0 rfl) ?_
  refine va_get (D := (g.1, g.2.1)) (ci := 12) (v := .ref (g.2.2.2 1)) (C := RX10) (T := TX10) (N := 15) hx hb hts iX10 hown hK.1 hP 0 (gC0 g σ tl) rfl 0 (by decide) k12 (fun _ h9 => h9) rfl dX10_transitionCount_1 ?_
  refine vp_callSi (va_Run.run (va_runV (As := []) (rest := []) ⟨hx, hb, hml, hown, hts⟩ (c_X0_size l g tl σ hA) (cwV 0 hts gX10_transitionCount_X0_size rfl rfl rfl (by decide +kernel) ⟨Nat.le_of_ble_eq_true rfl, Nat.le_of_ble_eq_true rfl⟩) (okPV hK hP rfl (gC1 g σ tl)) rfl rfl hl.1 rfl (lv_room (Nat.le_of_ble_eq_true rfl)) dX10_transitionCount_4 ⟨Nat.le_of_ble_eq_true rfl, Nat.le_of_ble_eq_true rfl⟩)) (fun r_4 h_4 => ?_)
  subst h_4
  exact hq _ _ ((nI (cntT (σ.2.1 0)))) dX10_transitionCount_7 rfl

abbrev r_c_X10_isDeterministic : Room := { frames := 1, cells := 0, slots := 0, locals := 21 }
set_option maxHeartbeats 4000000 in
set_option maxRecDepth 100000 in
theorem c_X10_isDeterministic (l : Launch) (g : GC) (tl : va_W) (σ : SS) (hA : OkA σ) : Met l yX10_isDeterministic wsX10_isDeterministic r_c_X10_isDeterministic (va_Pc [.ref (g.2.2.2 0)] (PP g (wC g σ ++ tl))) (vp_Si (fun r => r = nI (if detT (σ.2.1 0) then 1 else 0))) 0 0 (fun _ => False) := by
  refine jn_pz (cc := cX10_isDeterministic) (maxL := 1) (own := RX10) (by decide) rfl rfl (Nat.le_of_ble_eq_true rfl) ?_
  intro p e s m below meth c Q hx hb hml hown hts ⟨hP, hK⟩ hq ls hl
  have hl : lv_has ls 1 [(0, .ref (g.2.2.2 0))] := hl
  have iX10 : ∀ w ∈ wsX100, w ∈ wsX10_isDeterministic := by decide +kernel
  have k12 := hts (.fieldLink RX10 12 "JumpingAutomata" "automaton" "LJumpingAutomata$Automaton;") (by decide +kernel)
  refine lv_aload_n hx hb dX10_isDeterministic_0 rfl (lv_at hl 0 rfl) ?_
  refine va_get (D := (g.1, g.2.1)) (ci := 12) (v := .ref (g.2.2.2 1)) (C := RX10) (T := TX10) (N := 15) hx hb hts iX10 hown hK.1 hP 0 (gC0 g σ tl) rfl 0 (by decide) k12 (fun _ h9 => h9) rfl dX10_isDeterministic_1 ?_
  refine vp_callSi (va_Run.run (va_runV (As := []) (rest := []) ⟨hx, hb, hml, hown, hts⟩ (c_X0_hasSingleTargets l g tl σ hA) (cwV 0 hts gX10_isDeterministic_X0_hasSingleTargets rfl rfl rfl (by decide +kernel) ⟨Nat.le_of_ble_eq_true rfl, Nat.le_of_ble_eq_true rfl⟩) (okPV hK hP rfl (gC1 g σ tl)) rfl rfl hl.1 rfl (lv_room (Nat.le_of_ble_eq_true rfl)) dX10_isDeterministic_4 ⟨Nat.le_of_ble_eq_true rfl, Nat.le_of_ble_eq_true rfl⟩)) (fun r_4 h_4 => ?_)
  subst h_4
  exact hq _ _ ((nI (if detT (σ.2.1 0) then 1 else 0))) dX10_isDeterministic_7 (jn_nb _) rfl

abbrev r_c_X10_usefulStates : Room := { frames := 3, cells := 0, slots := 0, locals := 65 }
set_option maxHeartbeats 4000000 in
set_option maxRecDepth 100000 in
theorem c_X10_usefulStates (l : Launch) (g : GC) (tl : va_W) (σ : SS) (hA : OkA σ) : Met l yX10_usefulStates wsX10_usefulStates r_c_X10_usefulStates (va_Pc [.ref (g.2.2.2 0)] (PP g (wC g σ ++ tl))) (vp_Si (fun r => r = nI (frm (σ.2.1 0) 4 &&& twd (σ.2.1 0) (σ.1 0) 4))) 0 0 (fun _ => False) := by
  refine jn_pi (cc := cX10_usefulStates) (maxL := 1) (own := RX10) (by decide) rfl rfl (Nat.le_of_ble_eq_true rfl) ?_
  intro p e s m below meth c Q hx hb hml hown hts ⟨hP, hK⟩ hq ls hl
  have hl : lv_has ls 1 [(0, .ref (g.2.2.2 0))] := hl
  have iX10 : ∀ w ∈ wsX100, w ∈ wsX10_usefulStates := by decide +kernel
  have k12 := hts (.fieldLink RX10 12 "JumpingAutomata" "automaton" "LJumpingAutomata$Automaton;") (by decide +kernel)
  refine lv_aload_n hx hb dX10_usefulStates_0 rfl (lv_at hl 0 rfl) ?_
  refine va_get (D := (g.1, g.2.1)) (ci := 12) (v := .ref (g.2.2.2 1)) (C := RX10) (T := TX10) (N := 15) hx hb hts iX10 hown hK.1 hP 0 (gC0 g σ tl) rfl 0 (by decide) k12 (fun _ h9 => h9) rfl dX10_usefulStates_1 ?_
  refine vp_callSi (va_Run.run (va_runV (As := []) (rest := []) ⟨hx, hb, hml, hown, hts⟩ (c_X0_useful l g tl σ hA) (cwV 0 hts gX10_usefulStates_X0_useful rfl rfl rfl (by decide +kernel) ⟨Nat.le_of_ble_eq_true rfl, Nat.le_of_ble_eq_true rfl⟩) (okPV hK hP rfl (gC1 g σ tl)) rfl rfl hl.1 rfl (lv_room (Nat.le_of_ble_eq_true rfl)) dX10_usefulStates_4 ⟨Nat.le_of_ble_eq_true rfl, Nat.le_of_ble_eq_true rfl⟩)) (fun r_4 h_4 => ?_)
  subst h_4
  exact hq _ _ ((nI (frm (σ.2.1 0) 4 &&& twd (σ.2.1 0) (σ.1 0) 4))) dX10_usefulStates_7 rfl

abbrev r_c_X10_wordLength : Room := { frames := 0, cells := 0, slots := 0, locals := 0 }
set_option maxHeartbeats 4000000 in
set_option maxRecDepth 100000 in
theorem c_X10_wordLength (l : Launch) (g : GC) (tl : va_W) (σ : SS) : Met l yX10_wordLength wsX10_wordLength r_c_X10_wordLength (va_Pc [.ref (g.2.2.2 0)] (PP g (wC g σ ++ tl))) (vp_Si (fun r => r = nI ((σ.1 20)))) 0 0 (fun _ => False) := by
  refine jn_pi (cc := cX10_wordLength) (maxL := 1) (own := RX10) (by decide) rfl rfl (Nat.le_of_ble_eq_true rfl) ?_
  intro p e s m below meth c Q hx hb hml hown hts ⟨hP, hK⟩ hq ls hl
  have hl : lv_has ls 1 [(0, .ref (g.2.2.2 0))] := hl
  have iX10 : ∀ w ∈ wsX100, w ∈ wsX10_wordLength := by decide +kernel
  have k41 := hts (.fieldLink RX10 41 "JumpingAutomata" "wordSize" "I") (by decide +kernel)
  refine lv_aload_n hx hb dX10_wordLength_0 rfl (lv_at hl 0 rfl) ?_
  refine va_get (D := (g.1, g.2.1)) (ci := 12) (v := .int (nI (σ.1 20))) (C := RX10) (T := TX10) (N := 15) hx hb hts iX10 hown hK.1 hP 0 (gC0 g σ tl) rfl 5 (by decide) k41 (fun _ h9 => h9) rfl dX10_wordLength_1 ?_
  exact hq _ _ ((nI (σ.1 20))) dX10_wordLength_4 rfl

abbrev r_c_X10_clearWord : Room := { frames := 0, cells := 0, slots := 0, locals := 0 }
set_option maxHeartbeats 4000000 in
set_option maxRecDepth 100000 in
theorem c_X10_clearWord (l : Launch) (g : GC) (tl : va_W) (sz : Nat) (σ : SS) : Met l yX10_clearWord wsX10_clearWord r_c_X10_clearWord (va_Pc [.ref (g.2.2.2 0)] (PW g (wC g σ ++ tl) sz)) (va_Qi (fun (r : Int32) (_ : Unit) => r = nI ((σ.1 20))) (fun (_ : Unit) t => BW g (va_A (wC g σ ++ tl) sz) (wC g (sF (sF σ 20 0) 21 0) ++ tl) t) (va_A (wC g σ ++ tl) sz)) 0 0 (va_A (wC g σ ++ tl) sz) := by
  refine jn_si (wf := fun _ : Unit => wC g (sF (sF σ 20 0) 21 0) ++ tl) (cc := cX10_clearWord) (maxL := 2) (own := RX10) (by decide) rfl rfl (Nat.le_of_ble_eq_true rfl) ?_
  intro p e s m below meth c Q A hx hb hml hown hts hK hP hD hS hAA hq ls hl
  obtain ⟨H, eH⟩ : ∃ z, z = s.heap := ⟨_, rfl⟩
  obtain ⟨locs, el⟩ : ∃ z : List Loc, z = [] := ⟨_, rfl⟩
  rw [← eH] at hP
  have hS : va_S A s.heap H locs := by rw [eH, el]; exact hS
  have goal0 : W p l e r_c_X10_clearWord s m ([.ref (g.2.2.2 0)] : List Value).toArray below meth c H locs 0 0 Q (F0 m 0 ls []) → W p l e r_c_X10_clearWord s m ([.ref (g.2.2.2 0)] : List Value).toArray below meth c s.heap [] 0 0 Q (F0 m 0 ls []) := fun h => by rw [eH, el] at h; exact h
  refine goal0 ?_
  have hl : lv_has ls 2 [(0, .ref (g.2.2.2 0))] := hl
  have iX10 : ∀ w ∈ wsX100, w ∈ wsX10_clearWord := by decide +kernel
  have k41 := hts (.fieldLink RX10 41 "JumpingAutomata" "wordSize" "I") (by decide +kernel)
  have k93 := hts (.fieldLink RX10 93 "JumpingAutomata" "orderKnown" "Z") (by decide +kernel)
  refine lv_aload_n hx hb dX10_clearWord_0 rfl (lv_at hl 0 rfl) ?_
  refine va_get (D := (g.1, g.2.1)) (ci := 12) (v := .int (nI (σ.1 20))) (C := RX10) (T := TX10) (N := 15) hx hb hts iX10 hown hK.1 hP 0 (gC0 g σ tl) rfl 5 (by decide) k41 (fun _ h9 => h9) rfl dX10_clearWord_1 ?_
  refine lv_istore_n (lv' := [(1, .int (nI (σ.1 20))), (0, .ref (g.2.2.2 0))]) hx hb dX10_clearWord_4 rfl hl (by decide) rfl (fun ls hl => ?_)
  refine lv_aload_n hx hb dX10_clearWord_5 rfl (lv_at hl 1 rfl) ?_
  refine lv_iconst (v := nI 0) hx hb dX10_clearWord_6 (by decide) ?_
  refine jn_put (D := (g.1, g.2.1)) (ci := 12) (v := .int (nI 0)) (ty := .int) (C := RX10) (T := TX10) (N := 15) hx hb hts iX10 tyX10 tyX10_ok nmX10 hown hK.1 hP hD hS 0 (gC0 g σ tl) rfl 5 (by decide) k41 (fun _ h9 => h9) rfl (by decide +kernel) rfl rfl (Nat.le_of_ble_eq_true rfl) (uC_F20 g σ tl 0) dX10_clearWord_7 (fun H locs hP hD hS => ?_)
  refine lv_aload_n hx hb dX10_clearWord_10 rfl (lv_at hl 1 rfl) ?_
  refine lv_iconst (v := nI 0) hx hb dX10_clearWord_11 (by decide) ?_
  refine jn_put (D := (g.1, g.2.1)) (ci := 12) (v := .int (nI 0)) (ty := .boolean) (C := RX10) (T := TX10) (N := 15) hx hb hts iX10 tyX10 tyX10_ok nmX10 hown hK.1 hP hD hS 0 (gC0 g (sF σ 20 0) tl) rfl 14 (by decide) k93 (fun _ h9 => h9) rfl (by decide +kernel) jn_n0 jn_f0 (Nat.le_of_ble_eq_true rfl) (uC_F21 g (sF σ 20 0) tl 0) dX10_clearWord_12 (fun H locs hP hD hS => ?_)
  refine lv_iload_n hx hb dX10_clearWord_15 rfl (lv_at hl 0 rfl) ?_
  exact hq _ _ _ _ ((nI (σ.1 20))) () dX10_clearWord_16 rfl hP hD hS

abbrev r_c_X10_beginChange : Room := { frames := 4, cells := 0, slots := 0, locals := 130 }
set_option maxHeartbeats 4000000 in
set_option maxRecDepth 100000 in
theorem c_X10_beginChange (l : Launch) (g : GC) (tl : va_W) (sz : Nat) (σ : SS) (hM : OkM σ) : Met l yX10_beginChange wsX10_beginChange r_c_X10_beginChange (va_Pc [.ref (g.2.2.2 0)] (PW g (wC g σ ++ tl) sz)) (va_Qv (fun (_ : Unit) => True) (fun (_ : Unit) t => BW g (va_A (wC g σ ++ tl) sz) (wC g (sF (sF (sL σ (2 + σ.1 9) (snp σ (σ.2.2 (2 + σ.1 9)))) 9 ((σ.1 9 + 1) % 8)) 10 (min (σ.1 10 + 1) 8)) ++ tl) t) (va_A (wC g σ ++ tl) sz)) 0 0 (va_A (wC g σ ++ tl) sz) := by
  refine jn_sv (wf := fun _ : Unit => wC g (sF (sF (sL σ (2 + σ.1 9) (snp σ (σ.2.2 (2 + σ.1 9)))) 9 ((σ.1 9 + 1) % 8)) 10 (min (σ.1 10 + 1) 8)) ++ tl) (cc := cX10_beginChange) (maxL := 1) (own := RX10) (by decide) rfl rfl (Nat.le_of_ble_eq_true rfl) ?_
  intro p e s m below meth c Q A hx hb hml hown hts hK hP hD hS hAA hq ls hl
  obtain ⟨H, eH⟩ : ∃ z, z = s.heap := ⟨_, rfl⟩
  obtain ⟨locs, el⟩ : ∃ z : List Loc, z = [] := ⟨_, rfl⟩
  rw [← eH] at hP
  have hS : va_S A s.heap H locs := by rw [eH, el]; exact hS
  have goal0 : W p l e r_c_X10_beginChange s m ([.ref (g.2.2.2 0)] : List Value).toArray below meth c H locs 0 0 Q (F0 m 0 ls []) → W p l e r_c_X10_beginChange s m ([.ref (g.2.2.2 0)] : List Value).toArray below meth c s.heap [] 0 0 Q (F0 m 0 ls []) := fun h => by rw [eH, el] at h; exact h
  refine goal0 ?_
  have hl : lv_has ls 1 [(0, .ref (g.2.2.2 0))] := hl
  have iX10 : ∀ w ∈ wsX100, w ∈ wsX10_beginChange := by decide +kernel
  have k26 := hts (.fieldLink RX10 26 "JumpingAutomata" "memory" "LJumpingAutomata$Memory;") (by decide +kernel)
  have k12 := hts (.fieldLink RX10 12 "JumpingAutomata" "automaton" "LJumpingAutomata$Automaton;") (by decide +kernel)
  have k19 := hts (.fieldLink RX10 19 "JumpingAutomata" "sets" "LJumpingAutomata$CountingSets;") (by decide +kernel)
  refine lv_aload_n hx hb dX10_beginChange_0 rfl (lv_at hl 0 rfl) ?_
  refine va_get (D := (g.1, g.2.1)) (ci := 12) (v := .ref (g.2.2.2 6)) (C := RX10) (T := TX10) (N := 15) hx hb hts iX10 hown hK.1 hP 0 (gC0 g σ tl) rfl 2 (by decide) k26 (fun _ h9 => h9) rfl dX10_beginChange_1 ?_
  refine lv_aload_n hx hb dX10_beginChange_4 rfl (lv_at hl 0 rfl) ?_
  refine va_get (D := (g.1, g.2.1)) (ci := 12) (v := .ref (g.2.2.2 1)) (C := RX10) (T := TX10) (N := 15) hx hb hts iX10 hown hK.1 hP 0 (gC0 g σ tl) rfl 0 (by decide) k12 (fun _ h9 => h9) rfl dX10_beginChange_5 ?_
  refine lv_aload_n hx hb dX10_beginChange_8 rfl (lv_at hl 0 rfl) ?_
  refine va_get (D := (g.1, g.2.1)) (ci := 12) (v := .ref (g.2.2.2 4)) (C := RX10) (T := TX10) (N := 15) hx hb hts iX10 hown hK.1 hP 0 (gC0 g σ tl) rfl 1 (by decide) k19 (fun _ h9 => h9) rfl dX10_beginChange_9 ?_
  refine jn_callv (va_runV (As := [.ref (g.2.2.2 1), .ref (g.2.2.2 4)]) (rest := []) ⟨hx, hb, hml, hown, hts⟩ (c_X7_push l g tl H.size σ hM) (cwV 2 hts gX10_beginChange_X7_push rfl rfl rfl (by decide +kernel) ⟨Nat.le_of_ble_eq_true rfl, Nat.le_of_ble_eq_true rfl⟩) (okWV hK hP hD rfl (gC6 g σ tl)) rfl rfl hl.1 rfl (lv_room (Nat.le_of_ble_eq_true rfl)) dX10_beginChange_12 ⟨Nat.le_of_ble_eq_true rfl, Nat.le_of_ble_eq_true rfl⟩) hD hS hAA (fun u H locs hw_ hP hD hS => ?_)
  have hP : va_P (g.1, g.2.1) vwCl (wC g (sF (sF (sL σ (2 + σ.1 9) (snp σ (σ.2.2 (2 + σ.1 9)))) 9 ((σ.1 9 + 1) % 8)) 10 (min (σ.1 10 + 1) 8)) ++ tl) H := hP
  have hD : va_D A (wC g (sF (sF (sL σ (2 + σ.1 9) (snp σ (σ.2.2 (2 + σ.1 9)))) 9 ((σ.1 9 + 1) % 8)) 10 (min (σ.1 10 + 1) 8)) ++ tl) := hD
  exact hq _ _ _ _ () dX10_beginChange_15 trivial hP hD hS

abbrev r_c_X10_endAutomatonChange : Room := { frames := 1, cells := 0, slots := 0, locals := 26 }
set_option maxHeartbeats 4000000 in
set_option maxRecDepth 100000 in
theorem c_X10_endAutomatonChange (l : Launch) (g : GC) (tl : va_W) (sz : Nat) (σ : SS) (hT : OkT (σ.2.1 0)) : Met l yX10_endAutomatonChange wsX10_endAutomatonChange r_c_X10_endAutomatonChange (va_Pc [.ref (g.2.2.2 0)] (PW g (wC g σ ++ tl) sz)) (va_Qv (fun (f1 : (Nat → Nat)) => ∀ x, x < 3 → ∀ m, m < 32 → f1 (x * 32 + m) = stp (σ.2.1 0) x m) (fun (f1 : (Nat → Nat)) t => BW g (va_A (wC g σ ++ tl) sz) (wC g (sF (sA σ 1 f1) 21 0) ++ tl) t) (va_A (wC g σ ++ tl) sz)) 0 0 (va_A (wC g σ ++ tl) sz) := by
  refine jn_sv (wf := fun f1 : (Nat → Nat) => wC g (sF (sA σ 1 f1) 21 0) ++ tl) (cc := cX10_endAutomatonChange) (maxL := 1) (own := RX10) (by decide) rfl rfl (Nat.le_of_ble_eq_true rfl) ?_
  intro p e s m below meth c Q A hx hb hml hown hts hK hP hD hS hAA hq ls hl
  obtain ⟨H, eH⟩ : ∃ z, z = s.heap := ⟨_, rfl⟩
  obtain ⟨locs, el⟩ : ∃ z : List Loc, z = [] := ⟨_, rfl⟩
  rw [← eH] at hP
  have hS : va_S A s.heap H locs := by rw [eH, el]; exact hS
  have goal0 : W p l e r_c_X10_endAutomatonChange s m ([.ref (g.2.2.2 0)] : List Value).toArray below meth c H locs 0 0 Q (F0 m 0 ls []) → W p l e r_c_X10_endAutomatonChange s m ([.ref (g.2.2.2 0)] : List Value).toArray below meth c s.heap [] 0 0 Q (F0 m 0 ls []) := fun h => by rw [eH, el] at h; exact h
  refine goal0 ?_
  have hl : lv_has ls 1 [(0, .ref (g.2.2.2 0))] := hl
  have iX10 : ∀ w ∈ wsX100, w ∈ wsX10_endAutomatonChange := by decide +kernel
  have k12 := hts (.fieldLink RX10 12 "JumpingAutomata" "automaton" "LJumpingAutomata$Automaton;") (by decide +kernel)
  have k93 := hts (.fieldLink RX10 93 "JumpingAutomata" "orderKnown" "Z") (by decide +kernel)
  refine lv_aload_n hx hb dX10_endAutomatonChange_0 rfl (lv_at hl 0 rfl) ?_
  refine va_get (D := (g.1, g.2.1)) (ci := 12) (v := .ref (g.2.2.2 1)) (C := RX10) (T := TX10) (N := 15) hx hb hts iX10 hown hK.1 hP 0 (gC0 g σ tl) rfl 0 (by decide) k12 (fun _ h9 => h9) rfl dX10_endAutomatonChange_1 ?_
  refine jn_callv (va_runV (As := []) (rest := []) ⟨hx, hb, hml, hown, hts⟩ (c_X0_rebuild l g tl H.size σ hT) (cwV 0 hts gX10_endAutomatonChange_X0_rebuild rfl rfl rfl (by decide +kernel) ⟨Nat.le_of_ble_eq_true rfl, Nat.le_of_ble_eq_true rfl⟩) (okWV hK hP hD rfl (gC1 g σ tl)) rfl rfl hl.1 rfl (lv_room (Nat.le_of_ble_eq_true rfl)) dX10_endAutomatonChange_4 ⟨Nat.le_of_ble_eq_true rfl, Nat.le_of_ble_eq_true rfl⟩) hD hS hAA (fun u H locs hw_ hP hD hS => ?_)
  obtain ⟨f_4, rfl⟩ : ∃ z, z = u := ⟨_, rfl⟩
  have h_4 := hw_
  have h_4 : ∀ x, x < 3 → ∀ m, m < 32 → f_4 (x * 32 + m) = stp (σ.2.1 0) x m := h_4
  have hP : va_P (g.1, g.2.1) vwCl (wC g (sA σ 1 f_4) ++ tl) H := hP
  have hD : va_D A (wC g (sA σ 1 f_4) ++ tl) := hD
  refine lv_aload_n hx hb dX10_endAutomatonChange_7 rfl (lv_at hl 0 rfl) ?_
  refine lv_iconst (v := nI 0) hx hb dX10_endAutomatonChange_8 (by decide) ?_
  refine jn_put (D := (g.1, g.2.1)) (ci := 12) (v := .int (nI 0)) (ty := .boolean) (C := RX10) (T := TX10) (N := 15) hx hb hts iX10 tyX10 tyX10_ok nmX10 hown hK.1 hP hD hS 0 (gC0 g (sA σ 1 f_4) tl) rfl 14 (by decide) k93 (fun _ h9 => h9) rfl (by decide +kernel) jn_n0 jn_f0 (Nat.le_of_ble_eq_true rfl) (uC_F21 g (sA σ 1 f_4) tl 0) dX10_endAutomatonChange_9 (fun H locs hP hD hS => ?_)
  exact hq _ _ _ _ (f_4) dX10_endAutomatonChange_12 h_4 hP hD hS

abbrev r_c_X10_takeWord : Room := { frames := 1, cells := 0, slots := 0, locals := 64 }
set_option maxHeartbeats 4000000 in
set_option maxRecDepth 100000 in
theorem c_X10_takeWord (l : Launch) (g : GC) (tl : va_W) (sz : Nat) (σ : SS) (n : Nat) (hn : n ≤ 8) : Met l yX10_takeWord wsX10_takeWord r_c_X10_takeWord (va_Pc [.ref (g.2.2.2 0), .int (nI n)] (PW g (wC g σ ++ tl) sz)) (va_Qv (fun (_ : Unit) => True) (fun (_ : Unit) t => BW g (va_A (wC g σ ++ tl) sz) (wC g (sF (sF (sA σ 14 (va_cpy (σ.2.1 19) (σ.2.1 14) 0 0 n)) 20 n) 21 0) ++ tl) t) (va_A (wC g σ ++ tl) sz)) 0 0 (va_A (wC g σ ++ tl) sz) := by
  refine jn_sv (wf := fun _ : Unit => wC g (sF (sF (sA σ 14 (va_cpy (σ.2.1 19) (σ.2.1 14) 0 0 n)) 20 n) 21 0) ++ tl) (cc := cX10_takeWord) (maxL := 2) (own := RX10) (by decide) rfl rfl (Nat.le_of_ble_eq_true rfl) ?_
  intro p e s m below meth c Q A hx hb hml hown hts hK hP hD hS hAA hq ls hl
  obtain ⟨H, eH⟩ : ∃ z, z = s.heap := ⟨_, rfl⟩
  obtain ⟨locs, el⟩ : ∃ z : List Loc, z = [] := ⟨_, rfl⟩
  rw [← eH] at hP
  have hS : va_S A s.heap H locs := by rw [eH, el]; exact hS
  have goal0 : W p l e r_c_X10_takeWord s m ([.ref (g.2.2.2 0), .int (nI n)] : List Value).toArray below meth c H locs 0 0 Q (F0 m 0 ls []) → W p l e r_c_X10_takeWord s m ([.ref (g.2.2.2 0), .int (nI n)] : List Value).toArray below meth c s.heap [] 0 0 Q (F0 m 0 ls []) := fun h => by rw [eH, el] at h; exact h
  refine goal0 ?_
  have hl : lv_has ls 2 [(0, .ref (g.2.2.2 0)), (1, .int (nI n))] := hl
  have iX10 : ∀ w ∈ wsX100, w ∈ wsX10_takeWord := by decide +kernel
  have iX9 : ∀ w ∈ wsX90, w ∈ wsX10_takeWord := by decide +kernel
  have k75 := hts (.fieldLink RX10 75 "JumpingAutomata" "search" "LJumpingAutomata$WordSearch;") (by decide +kernel)
  have k439 := hts (.fieldLink RX10 439 "JumpingAutomata$WordSearch" "letters" "[I") (by decide +kernel)
  have k37 := hts (.fieldLink RX10 37 "JumpingAutomata" "word" "[I") (by decide +kernel)
  have k41 := hts (.fieldLink RX10 41 "JumpingAutomata" "wordSize" "I") (by decide +kernel)
  have k93 := hts (.fieldLink RX10 93 "JumpingAutomata" "orderKnown" "Z") (by decide +kernel)
  refine lv_iload_n hx hb dX10_takeWord_0 rfl (lv_at hl 1 rfl) ?_
  refine jn_zlt hx hb (by omega) (tgt := 10) dX10_takeWord_1 (by decide) (fun c_1 => absurd c_1 (by omega)) (fun c_1 => ?_)
  refine lv_iload_n hx hb dX10_takeWord_4 rfl (lv_at hl 1 rfl) ?_
  refine lv_bipush (v := nI 8) hx hb dX10_takeWord_5 (by decide) ?_
  refine jn_cle hx hb (by omega) (by decide) (tgt := 11) dX10_takeWord_7 (by decide) (fun c_7 => ?_) (fun c_7 => absurd c_7 (by omega))
  refine lv_aload_n hx hb dX10_takeWord_11 rfl (lv_at hl 0 rfl) ?_
  refine va_get (D := (g.1, g.2.1)) (ci := 12) (v := .ref (g.2.2.2 30)) (C := RX10) (T := TX10) (N := 15) hx hb hts iX10 hown hK.1 hP 0 (gC0 g σ tl) rfl 11 (by decide) k75 (fun _ h9 => h9) rfl dX10_takeWord_12 ?_
  refine va_get (D := (g.1, g.2.1)) (ci := 11) (v := .ref (g.2.2.2 31)) (C := RX9) (T := TX9) (N := 7) hx hb hts iX9 hown hK.1 hP 30 (gC30 g σ tl) rfl 0 (by decide) k439 (fun _ h9 => h9) rfl dX10_takeWord_15 ?_
  refine lv_iconst (v := nI 0) hx hb dX10_takeWord_18 (by decide) ?_
  refine lv_aload_n hx hb dX10_takeWord_19 rfl (lv_at hl 0 rfl) ?_
  refine va_get (D := (g.1, g.2.1)) (ci := 12) (v := .ref (g.2.2.2 20)) (C := RX10) (T := TX10) (N := 15) hx hb hts iX10 hown hK.1 hP 0 (gC0 g σ tl) rfl 4 (by decide) k37 (fun _ h9 => h9) rfl dX10_takeWord_20 ?_
  refine lv_iconst (v := nI 0) hx hb dX10_takeWord_23 (by decide) ?_
  refine lv_iload_n hx hb dX10_takeWord_24 rfl (lv_at hl 1 rfl) ?_
  refine jn_copyi (f := σ.2.1 19) (f2 := σ.2.1 14) hx hb (hml.trans hl.1.symm) hown (hts (.methodLink RX10 442 arraycopyName) (by decide +kernel)) (hts (.native arraycopyName) (by decide +kernel)) (hts (.static arraycopyName) (by decide +kernel)) (hts (.initialized "java/lang/System") (by decide +kernel)) hK.1 hP hD hS 31 20 0 0 (gC31 g σ tl) (gC20 g σ tl) rfl rfl (by decide) (by decide) (by omega) (by omega) (by omega) (Nat.le_of_ble_eq_true rfl) (Nat.le_of_ble_eq_true rfl) (uC_A14 g σ tl _) dX10_takeWord_25 (fun H locs hP hD hS => ?_)
  refine lv_aload_n hx hb dX10_takeWord_28 rfl (lv_at hl 0 rfl) ?_
  refine lv_iload_n hx hb dX10_takeWord_29 rfl (lv_at hl 1 rfl) ?_
  refine jn_put (D := (g.1, g.2.1)) (ci := 12) (v := .int (nI n)) (ty := .int) (C := RX10) (T := TX10) (N := 15) hx hb hts iX10 tyX10 tyX10_ok nmX10 hown hK.1 hP hD hS 0 (gC0 g (sA σ 14 (va_cpy (σ.2.1 19) (σ.2.1 14) 0 0 n)) tl) rfl 5 (by decide) k41 (fun _ h9 => h9) rfl (by decide +kernel) rfl rfl (Nat.le_of_ble_eq_true rfl) (uC_F20 g (sA σ 14 (va_cpy (σ.2.1 19) (σ.2.1 14) 0 0 n)) tl n) dX10_takeWord_30 (fun H locs hP hD hS => ?_)
  refine lv_aload_n hx hb dX10_takeWord_33 rfl (lv_at hl 0 rfl) ?_
  refine lv_iconst (v := nI 0) hx hb dX10_takeWord_34 (by decide) ?_
  refine jn_put (D := (g.1, g.2.1)) (ci := 12) (v := .int (nI 0)) (ty := .boolean) (C := RX10) (T := TX10) (N := 15) hx hb hts iX10 tyX10 tyX10_ok nmX10 hown hK.1 hP hD hS 0 (gC0 g (sF (sA σ 14 (va_cpy (σ.2.1 19) (σ.2.1 14) 0 0 n)) 20 n) tl) rfl 14 (by decide) k93 (fun _ h9 => h9) rfl (by decide +kernel) jn_n0 jn_f0 (Nat.le_of_ble_eq_true rfl) (uC_F21 g (sF (sA σ 14 (va_cpy (σ.2.1 19) (σ.2.1 14) 0 0 n)) 20 n) tl 0) dX10_takeWord_35 (fun H locs hP hD hS => ?_)
  exact hq _ _ _ _ () dX10_takeWord_38 trivial hP hD hS

abbrev r_c_X10_save : Room := { frames := 4, cells := 0, slots := 0, locals := 130 }
set_option maxHeartbeats 4000000 in
set_option maxRecDepth 100000 in
theorem c_X10_save (l : Launch) (g : GC) (tl : va_W) (sz : Nat) (σ : SS) : Met l yX10_save wsX10_save r_c_X10_save (va_Pc [.ref (g.2.2.2 0)] (PW g (wC g σ ++ tl) sz)) (va_Qv (fun (_ : Unit) => True) (fun (_ : Unit) t => BW g (va_A (wC g σ ++ tl) sz) (wC g (sF (sL σ 10 (snp σ (σ.2.2 10))) 11 1) ++ tl) t) (va_A (wC g σ ++ tl) sz)) 0 0 (va_A (wC g σ ++ tl) sz) := by
  refine jn_sv (wf := fun _ : Unit => wC g (sF (sL σ 10 (snp σ (σ.2.2 10))) 11 1) ++ tl) (cc := cX10_save) (maxL := 1) (own := RX10) (by decide) rfl rfl (Nat.le_of_ble_eq_true rfl) ?_
  intro p e s m below meth c Q A hx hb hml hown hts hK hP hD hS hAA hq ls hl
  obtain ⟨H, eH⟩ : ∃ z, z = s.heap := ⟨_, rfl⟩
  obtain ⟨locs, el⟩ : ∃ z : List Loc, z = [] := ⟨_, rfl⟩
  rw [← eH] at hP
  have hS : va_S A s.heap H locs := by rw [eH, el]; exact hS
  have goal0 : W p l e r_c_X10_save s m ([.ref (g.2.2.2 0)] : List Value).toArray below meth c H locs 0 0 Q (F0 m 0 ls []) → W p l e r_c_X10_save s m ([.ref (g.2.2.2 0)] : List Value).toArray below meth c s.heap [] 0 0 Q (F0 m 0 ls []) := fun h => by rw [eH, el] at h; exact h
  refine goal0 ?_
  have hl : lv_has ls 1 [(0, .ref (g.2.2.2 0))] := hl
  have iX10 : ∀ w ∈ wsX100, w ∈ wsX10_save := by decide +kernel
  have k26 := hts (.fieldLink RX10 26 "JumpingAutomata" "memory" "LJumpingAutomata$Memory;") (by decide +kernel)
  have k12 := hts (.fieldLink RX10 12 "JumpingAutomata" "automaton" "LJumpingAutomata$Automaton;") (by decide +kernel)
  have k19 := hts (.fieldLink RX10 19 "JumpingAutomata" "sets" "LJumpingAutomata$CountingSets;") (by decide +kernel)
  refine lv_aload_n hx hb dX10_save_0 rfl (lv_at hl 0 rfl) ?_
  refine va_get (D := (g.1, g.2.1)) (ci := 12) (v := .ref (g.2.2.2 6)) (C := RX10) (T := TX10) (N := 15) hx hb hts iX10 hown hK.1 hP 0 (gC0 g σ tl) rfl 2 (by decide) k26 (fun _ h9 => h9) rfl dX10_save_1 ?_
  refine lv_aload_n hx hb dX10_save_4 rfl (lv_at hl 0 rfl) ?_
  refine va_get (D := (g.1, g.2.1)) (ci := 12) (v := .ref (g.2.2.2 1)) (C := RX10) (T := TX10) (N := 15) hx hb hts iX10 hown hK.1 hP 0 (gC0 g σ tl) rfl 0 (by decide) k12 (fun _ h9 => h9) rfl dX10_save_5 ?_
  refine lv_aload_n hx hb dX10_save_8 rfl (lv_at hl 0 rfl) ?_
  refine va_get (D := (g.1, g.2.1)) (ci := 12) (v := .ref (g.2.2.2 4)) (C := RX10) (T := TX10) (N := 15) hx hb hts iX10 hown hK.1 hP 0 (gC0 g σ tl) rfl 1 (by decide) k19 (fun _ h9 => h9) rfl dX10_save_9 ?_
  refine jn_callv (va_runV (As := [.ref (g.2.2.2 1), .ref (g.2.2.2 4)]) (rest := []) ⟨hx, hb, hml, hown, hts⟩ (c_X7_keep l g tl H.size σ) (cwV 2 hts gX10_save_X7_keep rfl rfl rfl (by decide +kernel) ⟨Nat.le_of_ble_eq_true rfl, Nat.le_of_ble_eq_true rfl⟩) (okWV hK hP hD rfl (gC6 g σ tl)) rfl rfl hl.1 rfl (lv_room (Nat.le_of_ble_eq_true rfl)) dX10_save_12 ⟨Nat.le_of_ble_eq_true rfl, Nat.le_of_ble_eq_true rfl⟩) hD hS hAA (fun u H locs hw_ hP hD hS => ?_)
  have hP : va_P (g.1, g.2.1) vwCl (wC g (sF (sL σ 10 (snp σ (σ.2.2 10))) 11 1) ++ tl) H := hP
  have hD : va_D A (wC g (sF (sL σ 10 (snp σ (σ.2.2 10))) 11 1) ++ tl) := hD
  exact hq _ _ _ _ () dX10_save_15 trivial hP hD hS
