abbrev r_c_X11_thrown : Room := { frames := 0, cells := 0, slots := 0, locals := 0 }
set_option maxHeartbeats 4000000 in
set_option maxRecDepth 100000 in
theorem c_X11_thrown (l : Launch) (g : GC) (tl : va_W) (σ : SS) : Met l yX11_thrown wsX11_thrown r_c_X11_thrown (va_Pc [.ref (g.2.2.2 0)] (PP g (wM g σ ++ tl))) (vp_Si (fun r => r = nI (σ.1 0))) 0 0 (fun _ => False) := by
  refine jn_pi (cc := cX11_thrown) (maxL := 1) (own := RX11) (by decide) rfl rfl (Nat.le_of_ble_eq_true rfl) ?_
  intro p e s m below meth c Q hx hb hml hown hts ⟨hP, hK⟩ hq ls hl
  have hl : lv_has ls 1 [(0, .ref (g.2.2.2 0))] := hl
  have iX11 : ∀ w ∈ wsX110, w ∈ wsX11_thrown := by decide +kernel
  have k1 := hts (.fieldLink RX11 1 "JumpingAutomataModel" "thrown" "I") (by decide +kernel)
  refine lv_aload_n hx hb dX11_thrown_0 rfl (lv_at hl 0 rfl) ?_
  refine va_get (D := (g.1, g.2.1)) (ci := 13) (v := .int (nI (σ.1 0))) (C := RX11) (T := TX11) (N := 30) hx hb hts iX11 hown hK.1 hP 0 (gM0 g σ tl) rfl 0 (by decide) k1 (fun _ h9 => h9) rfl dX11_thrown_1 ?_
  exact hq _ _ ((nI (σ.1 0))) dX11_thrown_4 rfl

abbrev r_c_X11_in : Room := { frames := 0, cells := 0, slots := 0, locals := 0 }
set_option maxHeartbeats 4000000 in
set_option maxRecDepth 100000 in
theorem c_X11_in (l : Launch) (v lo mo : Nat) (hv : v < 4294967296) (hlo : lo < 2147483648) (hmo : mo < 4294967296) : Met l yX11_in wsX11_in r_c_X11_in (va_Pc [.int (nI v), .int (nI lo), .int (nI mo)] (fun _ => True)) (vp_Si (fun r => r = nI (if lo ≤ v ∧ v ≤ mo ∧ mo < 2147483648 then 1 else 0))) 0 0 (fun _ => False) := by
  refine jn_pz (cc := cX11_in) (maxL := 3) (own := RX11) (by decide) rfl rfl (Nat.le_of_ble_eq_true rfl) ?_
  intro p e s m below meth c Q hx hb hml hown hts _ hq ls hl
  have hl : lv_has ls 3 [(0, .int (nI v)), (1, .int (nI lo)), (2, .int (nI mo))] := hl
  refine lv_iload_n hx hb dX11_in_0 rfl (lv_at hl 0 rfl) ?_
  refine lv_iload_n hx hb dX11_in_1 rfl (lv_at hl 1 rfl) ?_
  refine jn_cltS hx hb (by omega) (by omega) (tgt := 14) dX11_in_2 (by decide) (fun c_2 => ?_) (fun c_2 => ?_)
  · refine lv_iconst (v := nI 0) hx hb dX11_in_14 (by decide) ?_
    exact hq _ _ ((nI 0)) dX11_in_15 jn_n0 (by first | rw [if_pos (by omega)] | rw [if_neg (by omega)])
  · refine lv_iload_n hx hb dX11_in_5 rfl (lv_at hl 0 rfl) ?_
    refine lv_iload_n hx hb dX11_in_6 rfl (lv_at hl 2 rfl) ?_
    refine jn_cgtT hx hb (by omega) (by omega) (tgt := 14) dX11_in_7 (by decide) (fun c_7 => ?_) (fun c_7 => ?_)
    · refine lv_iconst (v := nI 0) hx hb dX11_in_14 (by decide) ?_
      exact hq _ _ ((nI 0)) dX11_in_15 jn_n0 (by first | rw [if_pos (by omega)] | rw [if_neg (by omega)])
    · refine lv_iconst (v := nI 1) hx hb dX11_in_10 (by decide) ?_
      refine lv_goto (tgt := 15) hx hb dX11_in_11 (by decide) ?_
      exact hq _ _ ((nI 1)) dX11_in_15 jn_n1 (by first | rw [if_pos (by omega)] | rw [if_neg (by omega)])

abbrev r_c_X11_fails : Room := { frames := 0, cells := 0, slots := 0, locals := 0 }
set_option maxHeartbeats 4000000 in
set_option maxRecDepth 100000 in
theorem c_X11_fails (l : Launch) (g : GC) (tl : va_W) (sz : Nat) (σ : SS) (x : Nat) : Met l yX11_fails wsX11_fails r_c_X11_fails (va_Pc [.ref (g.2.2.2 0), .int (nI x)] (PW g (wM g σ ++ tl) sz)) (va_Qi (fun (r : Int32) (_ : Unit) => r = nI (0)) (fun (_ : Unit) t => BW g (va_A (wM g σ ++ tl) sz) (wM g (sF σ 0 x) ++ tl) t) (va_A (wM g σ ++ tl) sz)) 0 0 (va_A (wM g σ ++ tl) sz) := by
  refine jn_si (wf := fun _ : Unit => wM g (sF σ 0 x) ++ tl) (cc := cX11_fails) (maxL := 2) (own := RX11) (by decide) rfl rfl (Nat.le_of_ble_eq_true rfl) ?_
  intro p e s m below meth c Q A hx hb hml hown hts hK hP hD hS hAA hq ls hl
  obtain ⟨H, eH⟩ : ∃ z, z = s.heap := ⟨_, rfl⟩
  obtain ⟨locs, el⟩ : ∃ z : List Loc, z = [] := ⟨_, rfl⟩
  rw [← eH] at hP
  have hS : va_S A s.heap H locs := by rw [eH, el]; exact hS
  have goal0 : W p l e r_c_X11_fails s m ([.ref (g.2.2.2 0), .int (nI x)] : List Value).toArray below meth c H locs 0 0 Q (F0 m 0 ls []) → W p l e r_c_X11_fails s m ([.ref (g.2.2.2 0), .int (nI x)] : List Value).toArray below meth c s.heap [] 0 0 Q (F0 m 0 ls []) := fun h => by rw [eH, el] at h; exact h
  refine goal0 ?_
  have hl : lv_has ls 2 [(0, .ref (g.2.2.2 0)), (1, .int (nI x))] := hl
  have iX11 : ∀ w ∈ wsX110, w ∈ wsX11_fails := by decide +kernel
  have k1 := hts (.fieldLink RX11 1 "JumpingAutomataModel" "thrown" "I") (by decide +kernel)
  refine lv_aload_n hx hb dX11_fails_0 rfl (lv_at hl 0 rfl) ?_
  refine lv_iload_n hx hb dX11_fails_1 rfl (lv_at hl 1 rfl) ?_
  refine jn_put (D := (g.1, g.2.1)) (ci := 13) (v := .int (nI x)) (ty := .int) (C := RX11) (T := TX11) (N := 30) hx hb hts iX11 tyX11 tyX11_ok nmX11 hown hK.1 hP hD hS 0 (gM0 g σ tl) rfl 0 (by decide) k1 (fun _ h9 => h9) rfl (by decide +kernel) rfl rfl (Nat.le_of_ble_eq_true rfl) (uM_F0 g σ tl x) dX11_fails_2 (fun H locs hP hD hS => ?_)
  refine lv_iconst (v := nI 0) hx hb dX11_fails_5 (by decide) ?_
  exact hq _ _ _ _ ((nI 0)) () dX11_fails_6 rfl hP hD hS

abbrev r_c_X11_bits : Room := { frames := 0, cells := 0, slots := 0, locals := 0 }
set_option maxHeartbeats 4000000 in
set_option maxRecDepth 100000 in
theorem c_X11_bits (l : Launch) (x : Nat) (hx : x < 32) : Met l yX11_bits wsX11_bits r_c_X11_bits (va_Pc [.int (nI x)] (fun _ => True)) (vp_Si (fun r => r = nI (pop x))) 0 0 (fun _ => False) := by
  refine jn_pi (cc := cX11_bits) (maxL := 3) (own := RX11) (by decide) rfl rfl (Nat.le_of_ble_eq_true rfl) ?_
  intro p e s m below meth c Q hx hb hml hown hts _ hq ls hl
  have hl : lv_has ls 3 [(0, .int (nI x))] := hl
  refine lv_iconst (v := nI 0) hx hb dX11_bits_0 (by decide) ?_
  refine lv_istore_n (lv' := [(1, .int (nI 0)), (0, .int (nI x))]) hx hb dX11_bits_1 rfl hl (by decide) rfl (fun ls hl => ?_)
  refine lv_iconst (v := nI 0) hx hb dX11_bits_2 (by decide) ?_
  refine lv_istore_n (lv' := [(2, .int (nI 0)), (1, .int (nI 0)), (0, .int (nI x))]) hx hb dX11_bits_3 rfl hl (by decide) rfl (fun ls hl => ?_)
  have lp4 : ∀ (fu : Nat), ∀ (i : Nat) (z : Nat), (i ≤ 32) → (z = fb_sm (fun k => if Nat.testBit x k = true then 1 else 0) i) → 32 - i < fu → ∀ ls : Array Slot, lv_has ls 3 [(0, .int (nI x)), (1, .int (nI z)), (2, .int (nI i))] → W p l e r_c_X11_bits s m ([.int (nI x)] : List Value).toArray below meth c s.heap [] 0 0 Q (F0 m 4 ls []) := by
    intro fu
    induction fu with
    | zero => intro i z h1 h2 hf; exact absurd hf (Nat.not_lt_zero _)
    | succ fu ih4 =>
      intro i z h1 h2 hf ls hl
      refine lv_iload_n hx hb dX11_bits_4 rfl (lv_at hl 2 rfl) ?_
      refine lv_bipush (v := nI 32) hx hb dX11_bits_5 (by decide) ?_
      refine jn_cge hx hb (by omega) (by decide) (tgt := 24) dX11_bits_7 (by decide) (fun c_7 => ?_) (fun c_7 => ?_)
      · refine lv_iload_n hx hb dX11_bits_24 rfl (lv_at hl 1 rfl) ?_
        exact hq _ _ ((nI z)) dX11_bits_25 (by rw [h2, show i = 32 by omega, popB x (by omega)])
      · refine lv_iload_n hx hb dX11_bits_10 rfl (lv_at hl 1 rfl) ?_
        refine lv_iload_n hx hb dX11_bits_11 rfl (lv_at hl 0 rfl) ?_
        refine lv_iload_n hx hb dX11_bits_12 rfl (lv_at hl 2 rfl) ?_
        refine jn_iushr hx hb (by omega) (by omega) dX11_bits_13 ?_
        refine lv_iconst (v := nI 1) hx hb dX11_bits_14 (by decide) ?_
        refine jn_and1 hx hb dX11_bits_15 ?_
        refine jn_iadd hx hb dX11_bits_16 ?_
        refine lv_istore_n (lv' := [(1, .int (nI (z + (if Nat.testBit x i = true then 1 else 0)))), (0, .int (nI x)), (2, .int (nI i))]) hx hb dX11_bits_17 rfl hl (by decide) rfl (fun ls hl => ?_)
        refine lv_iinc (v := nI (i + 1)) (lv' := [(2, .int (nI (i + 1))), (1, .int (nI (z + (if Nat.testBit x i = true then 1 else 0)))), (0, .int (nI x))]) hx hb dX11_bits_18 hl (k := 2) rfl (jn_ii _ 1) (by decide) rfl (fun ls hl => ?_)
        refine lv_goto (tgt := 4) hx hb dX11_bits_21 (by decide) ?_
        exact ih4 (i + 1) (z + (if Nat.testBit x i = true then 1 else 0)) (by omega) (by rw [h2]; rfl) (by omega) _ (lv_sub hl [2, 1, 0] rfl)
  exact lp4 _ 0 0 (by decide) rfl (Nat.lt_succ_self _) _ (lv_sub hl [2, 1, 0] rfl)

abbrev r_c_X11_has : Room := { frames := 0, cells := 0, slots := 0, locals := 0 }
set_option maxHeartbeats 4000000 in
set_option maxRecDepth 100000 in
theorem c_X11_has (l : Launch) (x k : Nat) (hx : x < 2147483648) (hk : k < 32) : Met l yX11_has wsX11_has r_c_X11_has (va_Pc [.int (nI x), .int (nI k)] (fun _ => True)) (vp_Si (fun r => r = nI (if Nat.testBit x k = true then 1 else 0))) 0 0 (fun _ => False) := by
  refine jn_pz (cc := cX11_has) (maxL := 2) (own := RX11) (by decide) rfl rfl (Nat.le_of_ble_eq_true rfl) ?_
  intro p e s m below meth c Q hx hb hml hown hts _ hq ls hl
  have hl : lv_has ls 2 [(0, .int (nI x)), (1, .int (nI k))] := hl
  refine lv_iload_n hx hb dX11_has_0 rfl (lv_at hl 0 rfl) ?_
  refine lv_iload_n hx hb dX11_has_1 rfl (lv_at hl 1 rfl) ?_
  refine jn_ishr hx hb (by omega) (by omega) dX11_has_2 ?_
  refine lv_iconst (v := nI 1) hx hb dX11_has_3 (by decide) ?_
  refine jn_and1 hx hb dX11_has_4 ?_
  refine lv_iconst (v := nI 1) hx hb dX11_has_5 (by decide) ?_
  refine jn_cne hx hb ite_lt (by decide) (tgt := 13) dX11_has_6 (by decide) (fun c_6 => ?_) (fun c_6 => ?_)
  · refine lv_iconst (v := nI 0) hx hb dX11_has_13 (by decide) ?_
    exact hq _ _ ((nI 0)) dX11_has_14 jn_n0 (by first | rw [if_pos (ite_1 c_6)] | rw [if_neg (ite_n1 c_6)])
  · refine lv_iconst (v := nI 1) hx hb dX11_has_9 (by decide) ?_
    refine lv_goto (tgt := 14) hx hb dX11_has_10 (by decide) ?_
    exact hq _ _ ((nI 1)) dX11_has_14 jn_n1 (by first | rw [if_pos (ite_1 c_6)] | rw [if_neg (ite_n1 c_6)])

abbrev r_c_X11_isState : Room := { frames := 1, cells := 0, slots := 0, locals := 22 }
set_option maxHeartbeats 4000000 in
set_option maxRecDepth 100000 in
theorem c_X11_isState (l : Launch) (x : Nat) (hx : x < 4294967296) : Met l yX11_isState wsX11_isState r_c_X11_isState (va_Pc [.int (nI x)] (fun _ => True)) (vp_Si (fun r => r = nI (if x < 5 then 1 else 0))) 0 0 (fun _ => False) := by
  refine jn_pz (cc := cX11_isState) (maxL := 1) (own := RX11) (by decide) rfl rfl (Nat.le_of_ble_eq_true rfl) ?_
  intro p e s m below meth c Q hx hb hml hown hts _ hq ls hl
  have hl : lv_has ls 1 [(0, .int (nI x))] := hl
  refine lv_iload_n hx hb dX11_isState_0 rfl (lv_at hl 0 rfl) ?_
  refine lv_iconst (v := nI 0) hx hb dX11_isState_1 (by decide) ?_
  refine lv_iconst (v := nI 4) hx hb dX11_isState_2 (by decide) ?_
  refine vp_callSi (va_Run.run (va_runS (As := [.int (nI x), .int (nI 0), .int (nI 4)]) (rest := []) ⟨hx, hb, hml, hown, hts⟩ (c_X11_in l x 0 4 (by omega) (by decide) (by decide)) (va_cwS 3 hts gX11_isState_X11_in rfl rfl rfl (by decide +kernel) ⟨Nat.le_of_ble_eq_true rfl, Nat.le_of_ble_eq_true rfl⟩) okTS rfl rfl hl.1 rfl (lv_room (Nat.le_of_ble_eq_true rfl)) dX11_isState_3 ⟨Nat.le_of_ble_eq_true rfl, Nat.le_of_ble_eq_true rfl⟩)) (fun r_3 h_3 => ?_)
  subst h_3
  exact hq _ _ ((nI (if 0 ≤ x ∧ x ≤ 4 ∧ 4 < 2147483648 then 1 else 0))) dX11_isState_6 (jn_nb _) (ifn (by omega))

abbrev r_c_X11_isLetter : Room := { frames := 1, cells := 0, slots := 0, locals := 22 }
set_option maxHeartbeats 4000000 in
set_option maxRecDepth 100000 in
theorem c_X11_isLetter (l : Launch) (x : Nat) (hx : x < 4294967296) : Met l yX11_isLetter wsX11_isLetter r_c_X11_isLetter (va_Pc [.int (nI x)] (fun _ => True)) (vp_Si (fun r => r = nI (if x < 3 then 1 else 0))) 0 0 (fun _ => False) := by
  refine jn_pz (cc := cX11_isLetter) (maxL := 1) (own := RX11) (by decide) rfl rfl (Nat.le_of_ble_eq_true rfl) ?_
  intro p e s m below meth c Q hx hb hml hown hts _ hq ls hl
  have hl : lv_has ls 1 [(0, .int (nI x))] := hl
  refine lv_iload_n hx hb dX11_isLetter_0 rfl (lv_at hl 0 rfl) ?_
  refine lv_iconst (v := nI 0) hx hb dX11_isLetter_1 (by decide) ?_
  refine lv_iconst (v := nI 2) hx hb dX11_isLetter_2 (by decide) ?_
  refine vp_callSi (va_Run.run (va_runS (As := [.int (nI x), .int (nI 0), .int (nI 2)]) (rest := []) ⟨hx, hb, hml, hown, hts⟩ (c_X11_in l x 0 2 (by omega) (by decide) (by decide)) (va_cwS 3 hts gX11_isLetter_X11_in rfl rfl rfl (by decide +kernel) ⟨Nat.le_of_ble_eq_true rfl, Nat.le_of_ble_eq_true rfl⟩) okTS rfl rfl hl.1 rfl (lv_room (Nat.le_of_ble_eq_true rfl)) dX11_isLetter_3 ⟨Nat.le_of_ble_eq_true rfl, Nat.le_of_ble_eq_true rfl⟩)) (fun r_3 h_3 => ?_)
  subst h_3
  exact hq _ _ ((nI (if 0 ≤ x ∧ x ≤ 2 ∧ 2 < 2147483648 then 1 else 0))) dX11_isLetter_6 (jn_nb _) (ifn (by omega))

abbrev r_c_X11_isSet : Room := { frames := 1, cells := 0, slots := 0, locals := 22 }
set_option maxHeartbeats 4000000 in
set_option maxRecDepth 100000 in
theorem c_X11_isSet (l : Launch) (x : Nat) (hx : x < 4294967296) : Met l yX11_isSet wsX11_isSet r_c_X11_isSet (va_Pc [.int (nI x)] (fun _ => True)) (vp_Si (fun r => r = nI (if x < 2 then 1 else 0))) 0 0 (fun _ => False) := by
  refine jn_pz (cc := cX11_isSet) (maxL := 1) (own := RX11) (by decide) rfl rfl (Nat.le_of_ble_eq_true rfl) ?_
  intro p e s m below meth c Q hx hb hml hown hts _ hq ls hl
  have hl : lv_has ls 1 [(0, .int (nI x))] := hl
  refine lv_iload_n hx hb dX11_isSet_0 rfl (lv_at hl 0 rfl) ?_
  refine lv_iconst (v := nI 0) hx hb dX11_isSet_1 (by decide) ?_
  refine lv_iconst (v := nI 1) hx hb dX11_isSet_2 (by decide) ?_
  refine vp_callSi (va_Run.run (va_runS (As := [.int (nI x), .int (nI 0), .int (nI 1)]) (rest := []) ⟨hx, hb, hml, hown, hts⟩ (c_X11_in l x 0 1 (by omega) (by decide) (by decide)) (va_cwS 3 hts gX11_isSet_X11_in rfl rfl rfl (by decide +kernel) ⟨Nat.le_of_ble_eq_true rfl, Nat.le_of_ble_eq_true rfl⟩) okTS rfl rfl hl.1 rfl (lv_room (Nat.le_of_ble_eq_true rfl)) dX11_isSet_3 ⟨Nat.le_of_ble_eq_true rfl, Nat.le_of_ble_eq_true rfl⟩)) (fun r_3 h_3 => ?_)
  subst h_3
  exact hq _ _ ((nI (if 0 ≤ x ∧ x ≤ 1 ∧ 1 < 2147483648 then 1 else 0))) dX11_isSet_6 (jn_nb _) (ifn (by omega))

abbrev r_c_X11_next : Room := { frames := 0, cells := 0, slots := 0, locals := 0 }
set_option maxHeartbeats 4000000 in
set_option maxRecDepth 100000 in
theorem c_X11_next (l : Launch) (g : GC) (tl : va_W) (σ : SS) (q x : Nat) (hq : q < 5) (hx : x < 3) : Met l yX11_next wsX11_next r_c_X11_next (va_Pc [.ref (g.2.2.2 0), .int (nI q), .int (nI x)] (PP g (wM g σ ++ tl))) (vp_Si (fun r => r = nI ((σ.2.1 0) (q * 3 + x)))) 0 0 (fun _ => False) := by
  refine jn_pi (cc := cX11_next) (maxL := 3) (own := RX11) (by decide) rfl rfl (Nat.le_of_ble_eq_true rfl) ?_
  intro p e s m below meth c Q hx hb hml hown hts ⟨hP, hK⟩ hq ls hl
  have hl : lv_has ls 3 [(0, .ref (g.2.2.2 0)), (1, .int (nI q)), (2, .int (nI x))] := hl
  have iX11 : ∀ w ∈ wsX110, w ∈ wsX11_next := by decide +kernel
  have k13 := hts (.fieldLink RX11 13 "JumpingAutomataModel" "now" "[I") (by decide +kernel)
  refine lv_aload_n hx hb dX11_next_0 rfl (lv_at hl 0 rfl) ?_
  refine va_get (D := (g.1, g.2.1)) (ci := 13) (v := .ref (g.2.2.2 1)) (C := RX11) (T := TX11) (N := 30) hx hb hts iX11 hown hK.1 hP 0 (gM0 g σ tl) rfl 1 (by decide) k13 (fun _ h9 => h9) rfl dX11_next_1 ?_
  refine lv_iconst (v := nI 3) hx hb dX11_next_4 (by decide) ?_
  refine lv_iload_n hx hb dX11_next_5 rfl (lv_at hl 1 rfl) ?_
  refine jn_imul hx hb dX11_next_6 ?_
  refine lv_iload_n hx hb dX11_next_7 rfl (lv_at hl 2 rfl) ?_
  refine jn_iadd hx hb dX11_next_8 ?_
  refine jn_iald (f := σ.2.1 0) hx hb hK.1 hP 1 0 (gM1 g σ tl) rfl (by omega) (Nat.le_of_ble_eq_true rfl) dX11_next_9 ?_
  exact hq _ _ ((nI ((σ.2.1 0) ((3 * q) + x)))) dX11_next_10 (by rw [Nat.mul_comm])

abbrev r_c_X11_faultPosition : Room := { frames := 0, cells := 0, slots := 0, locals := 0 }
set_option maxHeartbeats 4000000 in
set_option maxRecDepth 100000 in
theorem c_X11_faultPosition (l : Launch) (g : GC) (tl : va_W) (σ : SS) : Met l yX11_faultPosition wsX11_faultPosition r_c_X11_faultPosition (va_Pc [.ref (g.2.2.2 0)] (PP g (wM g σ ++ tl))) (vp_Si (fun r => r = nI (σ.1 5))) 0 0 (fun _ => False) := by
  refine jn_pi (cc := cX11_faultPosition) (maxL := 1) (own := RX11) (by decide) rfl rfl (Nat.le_of_ble_eq_true rfl) ?_
  intro p e s m below meth c Q hx hb hml hown hts ⟨hP, hK⟩ hq ls hl
  have hl : lv_has ls 1 [(0, .ref (g.2.2.2 0))] := hl
  have iX11 : ∀ w ∈ wsX110, w ∈ wsX11_faultPosition := by decide +kernel
  have k39 := hts (.fieldLink RX11 39 "JumpingAutomataModel" "fault" "I") (by decide +kernel)
  refine lv_aload_n hx hb dX11_faultPosition_0 rfl (lv_at hl 0 rfl) ?_
  refine va_get (D := (g.1, g.2.1)) (ci := 13) (v := .int (nI (σ.1 5))) (C := RX11) (T := TX11) (N := 30) hx hb hts iX11 hown hK.1 hP 0 (gM0 g σ tl) rfl 9 (by decide) k39 (fun _ h9 => h9) rfl dX11_faultPosition_1 ?_
  exact hq _ _ ((nI (σ.1 5))) dX11_faultPosition_4 rfl

abbrev r_c_X11_wordLength : Room := { frames := 0, cells := 0, slots := 0, locals := 0 }
set_option maxHeartbeats 4000000 in
set_option maxRecDepth 100000 in
theorem c_X11_wordLength (l : Launch) (g : GC) (tl : va_W) (σ : SS) : Met l yX11_wordLength wsX11_wordLength r_c_X11_wordLength (va_Pc [.ref (g.2.2.2 0)] (PP g (wM g σ ++ tl))) (vp_Si (fun r => r = nI (σ.1 6))) 0 0 (fun _ => False) := by
  refine jn_pi (cc := cX11_wordLength) (maxL := 1) (own := RX11) (by decide) rfl rfl (Nat.le_of_ble_eq_true rfl) ?_
  intro p e s m below meth c Q hx hb hml hown hts ⟨hP, hK⟩ hq ls hl
  have hl : lv_has ls 1 [(0, .ref (g.2.2.2 0))] := hl
  have iX11 : ∀ w ∈ wsX110, w ∈ wsX11_wordLength := by decide +kernel
  have k51 := hts (.fieldLink RX11 51 "JumpingAutomataModel" "length" "I") (by decide +kernel)
  refine lv_aload_n hx hb dX11_wordLength_0 rfl (lv_at hl 0 rfl) ?_
  refine va_get (D := (g.1, g.2.1)) (ci := 13) (v := .int (nI (σ.1 6))) (C := RX11) (T := TX11) (N := 30) hx hb hts iX11 hown hK.1 hP 0 (gM0 g σ tl) rfl 13 (by decide) k51 (fun _ h9 => h9) rfl dX11_wordLength_1 ?_
  exact hq _ _ ((nI (σ.1 6))) dX11_wordLength_4 rfl

abbrev r_c_X11_clearWord : Room := { frames := 0, cells := 0, slots := 0, locals := 0 }
set_option maxHeartbeats 4000000 in
set_option maxRecDepth 100000 in
theorem c_X11_clearWord (l : Launch) (g : GC) (tl : va_W) (sz : Nat) (σ : SS) : Met l yX11_clearWord wsX11_clearWord r_c_X11_clearWord (va_Pc [.ref (g.2.2.2 0)] (PW g (wM g σ ++ tl) sz)) (va_Qi (fun (r : Int32) (_ : Unit) => r = nI (σ.1 6)) (fun (_ : Unit) t => BW g (va_A (wM g σ ++ tl) sz) (wM g (sF σ 6 0) ++ tl) t) (va_A (wM g σ ++ tl) sz)) 0 0 (va_A (wM g σ ++ tl) sz) := by
  refine jn_si (wf := fun _ : Unit => wM g (sF σ 6 0) ++ tl) (cc := cX11_clearWord) (maxL := 2) (own := RX11) (by decide) rfl rfl (Nat.le_of_ble_eq_true rfl) ?_
  intro p e s m below meth c Q A hx hb hml hown hts hK hP hD hS hAA hq ls hl
  obtain ⟨H, eH⟩ : ∃ z, z = s.heap := ⟨_, rfl⟩
  obtain ⟨locs, el⟩ : ∃ z : List Loc, z = [] := ⟨_, rfl⟩
  rw [← eH] at hP
  have hS : va_S A s.heap H locs := by rw [eH, el]; exact hS
  have goal0 : W p l e r_c_X11_clearWord s m ([.ref (g.2.2.2 0)] : List Value).toArray below meth c H locs 0 0 Q (F0 m 0 ls []) → W p l e r_c_X11_clearWord s m ([.ref (g.2.2.2 0)] : List Value).toArray below meth c s.heap [] 0 0 Q (F0 m 0 ls []) := fun h => by rw [eH, el] at h; exact h
  refine goal0 ?_
  have hl : lv_has ls 2 [(0, .ref (g.2.2.2 0))] := hl
  have iX11 : ∀ w ∈ wsX110, w ∈ wsX11_clearWord := by decide +kernel
  have k51 := hts (.fieldLink RX11 51 "JumpingAutomataModel" "length" "I") (by decide +kernel)
  refine lv_aload_n hx hb dX11_clearWord_0 rfl (lv_at hl 0 rfl) ?_
  refine va_get (D := (g.1, g.2.1)) (ci := 13) (v := .int (nI (σ.1 6))) (C := RX11) (T := TX11) (N := 30) hx hb hts iX11 hown hK.1 hP 0 (gM0 g σ tl) rfl 13 (by decide) k51 (fun _ h9 => h9) rfl dX11_clearWord_1 ?_
  refine lv_istore_n (lv' := [(1, .int (nI (σ.1 6))), (0, .ref (g.2.2.2 0))]) hx hb dX11_clearWord_4 rfl hl (by decide) rfl (fun ls hl => ?_)
  refine lv_aload_n hx hb dX11_clearWord_5 rfl (lv_at hl 1 rfl) ?_
  refine lv_iconst (v := nI 0) hx hb dX11_clearWord_6 (by decide) ?_
  refine jn_put (D := (g.1, g.2.1)) (ci := 13) (v := .int (nI 0)) (ty := .int) (C := RX11) (T := TX11) (N := 30) hx hb hts iX11 tyX11 tyX11_ok nmX11 hown hK.1 hP hD hS 0 (gM0 g σ tl) rfl 13 (by decide) k51 (fun _ h9 => h9) rfl (by decide +kernel) rfl rfl (Nat.le_of_ble_eq_true rfl) (uM_F6 g σ tl 0) dX11_clearWord_7 (fun H locs hP hD hS => ?_)
  refine lv_iload_n hx hb dX11_clearWord_10 rfl (lv_at hl 0 rfl) ?_
  exact hq _ _ _ _ ((nI (σ.1 6))) () dX11_clearWord_11 rfl hP hD hS

abbrev r_c_X11_keeps : Room := { frames := 0, cells := 0, slots := 0, locals := 0 }
set_option maxHeartbeats 4000000 in
set_option maxRecDepth 100000 in
theorem c_X11_keeps (l : Launch) (g : GC) (tl : va_W) (sz : Nat) (σ : SS) (hc8 : (σ.1 1) ≤ 8) : Met l yX11_keeps wsX11_keeps r_c_X11_keeps (va_Pc [.ref (g.2.2.2 0)] (PW g (wM g σ ++ tl) sz)) (va_Qv (fun (z : (Nat → Nat) × Nat) => match z with | (kp, ch) => (KpO (σ.2.1 2) (σ.2.1 0) (σ.1 1) kp) ∧ (ch = min ((σ.1 1) + 1) 8)) (fun (z : (Nat → Nat) × Nat) t => BW g (va_A (wM g σ ++ tl) sz) ((fun z : (Nat → Nat) × Nat => match z with | (kp, ch) => wM g (sA (sF σ 1 ch) 2 kp) ++ tl) z) t) (va_A (wM g σ ++ tl) sz)) 0 0 (va_A (wM g σ ++ tl) sz) := by
  refine jn_sv (wf := fun z : (Nat → Nat) × Nat => match z with | (kp, ch) => wM g (sA (sF σ 1 ch) 2 kp) ++ tl) (cc := cX11_keeps) (maxL := 2) (own := RX11) (by decide) rfl rfl (Nat.le_of_ble_eq_true rfl) ?_
  intro p e s m below meth c Q A hx hb hml hown hts hK hP hD hS hAA hq ls hl
  obtain ⟨H, eH⟩ : ∃ z, z = s.heap := ⟨_, rfl⟩
  obtain ⟨locs, el⟩ : ∃ z : List Loc, z = [] := ⟨_, rfl⟩
  rw [← eH] at hP
  have hS : va_S A s.heap H locs := by rw [eH, el]; exact hS
  have goal0 : W p l e r_c_X11_keeps s m ([.ref (g.2.2.2 0)] : List Value).toArray below meth c H locs 0 0 Q (F0 m 0 ls []) → W p l e r_c_X11_keeps s m ([.ref (g.2.2.2 0)] : List Value).toArray below meth c s.heap [] 0 0 Q (F0 m 0 ls []) := fun h => by rw [eH, el] at h; exact h
  refine goal0 ?_
  have hl : lv_has ls 2 [(0, .ref (g.2.2.2 0))] := hl
  have iX11 : ∀ w ∈ wsX110, w ∈ wsX11_keeps := by decide +kernel
  have k23 := hts (.fieldLink RX11 23 "JumpingAutomataModel" "changes" "I") (by decide +kernel)
  have k20 := hts (.fieldLink RX11 20 "JumpingAutomataModel" "kept" "[I") (by decide +kernel)
  have k13 := hts (.fieldLink RX11 13 "JumpingAutomataModel" "now" "[I") (by decide +kernel)
  refine lv_aload_n hx hb dX11_keeps_0 rfl (lv_at hl 0 rfl) ?_
  refine va_get (D := (g.1, g.2.1)) (ci := 13) (v := .int (nI (σ.1 1))) (C := RX11) (T := TX11) (N := 30) hx hb hts iX11 hown hK.1 hP 0 (gM0 g σ tl) rfl 4 (by decide) k23 (fun _ h9 => h9) rfl dX11_keeps_1 ?_
  refine lv_bipush (v := nI 8) hx hb dX11_keeps_4 (by decide) ?_
  refine jn_cne hx hb (by omega) (by decide) (tgt := 49) dX11_keeps_6 (by decide) (fun c_6 => ?_) (fun c_6 => ?_)
  · refine lv_iconst (v := nI 0) hx hb dX11_keeps_49 (by decide) ?_
    refine lv_istore_n (lv' := [(1, .int (nI 0)), (0, .ref (g.2.2.2 0))]) hx hb dX11_keeps_50 rfl hl (by decide) rfl (fun ls hl => ?_)
    obtain ⟨ob, eob⟩ : ∃ z, z = (σ.2.1 2) := ⟨_, rfl⟩
    have lp51 : ∀ (fu : Nat), ∀ (i2 : Nat) (kp2 : Nat → Nat), (i2 ≤ 122) → (∀ k, k < i2 → kp2 ((σ.1 1) * 122 + k) = (σ.2.1 0) k) → (∀ k, k < (σ.1 1) * 122 → kp2 k = ob k) → 122 - i2 < fu → ∀ (H : Heap) (locs : List Loc), va_P (g.1, g.2.1) vwCl (wM g (sA σ 2 kp2) ++ tl) H → va_D A (wM g (sA σ 2 kp2) ++ tl) → va_S A s.heap H locs → ∀ ls : Array Slot, lv_has ls 2 [(0, .ref (g.2.2.2 0)), (1, .int (nI i2))] → W p l e r_c_X11_keeps s m ([.ref (g.2.2.2 0)] : List Value).toArray below meth c H locs 0 0 Q (F0 m 51 ls []) := by
      intro fu
      induction fu with
      | zero => intro i2 kp2 h4 h5 h6 hf; exact absurd hf (Nat.not_lt_zero _)
      | succ fu ih51 =>
        intro i2 kp2 h4 h5 h6 hf H locs hP hD hS ls hl
        refine lv_iload_n hx hb dX11_keeps_51 rfl (lv_at hl 1 rfl) ?_
        refine lv_bipush (v := nI 122) hx hb dX11_keeps_52 (by decide) ?_
        refine jn_cge hx hb (by omega) (by decide) (tgt := 83) dX11_keeps_54 (by decide) (fun c_54 => ?_) (fun c_54 => ?_)
        · refine lv_aload_n hx hb dX11_keeps_83 rfl (lv_at hl 0 rfl) ?_
          refine lv_dup hx hb dX11_keeps_84 rfl ?_
          refine va_get (D := (g.1, g.2.1)) (ci := 13) (v := .int (nI (σ.1 1))) (C := RX11) (T := TX11) (N := 30) hx hb hts iX11 hown hK.1 hP 0 (gM0 g (sA σ 2 kp2) tl) rfl 4 (by decide) k23 (fun _ h9 => h9) rfl dX11_keeps_85 ?_
          refine lv_iconst (v := nI 1) hx hb dX11_keeps_88 (by decide) ?_
          refine jn_iadd hx hb dX11_keeps_89 ?_
          refine jn_put (D := (g.1, g.2.1)) (ci := 13) (v := .int (nI ((σ.1 1) + 1))) (ty := .int) (C := RX11) (T := TX11) (N := 30) hx hb hts iX11 tyX11 tyX11_ok nmX11 hown hK.1 hP hD hS 0 (gM0 g (sA σ 2 kp2) tl) rfl 4 (by decide) k23 (fun _ h9 => h9) rfl (by decide +kernel) rfl rfl (Nat.le_of_ble_eq_true rfl) (uM_F1 g (sA σ 2 kp2) tl ((σ.1 1) + 1)) dX11_keeps_90 (fun H locs hP hD hS => ?_)
          exact hq _ _ _ _ (kp2, ((σ.1 1) + 1)) dX11_keeps_93 (by first | exact ⟨kp_a (by omega) (fun k hk => by rw [h6 k (by omega), eob]; exact h2 k (by omega)) (fun k hk => by have := h5 k (by omega); rwa [show σ.1 1 - 1 = 7 by omega] at this), by omega⟩ | exact ⟨kp_b (by omega) (fun k hk => by rw [h6 k (by omega), eob]) (fun k hk => h5 k (by omega)), by omega⟩) hP hD hS
        · refine lv_aload_n hx hb dX11_keeps_57 rfl (lv_at hl 0 rfl) ?_
          refine va_get (D := (g.1, g.2.1)) (ci := 13) (v := .ref (g.2.2.2 3)) (C := RX11) (T := TX11) (N := 30) hx hb hts iX11 hown hK.1 hP 0 (gM0 g (sA σ 2 kp2) tl) rfl 3 (by decide) k20 (fun _ h9 => h9) rfl dX11_keeps_58 ?_
          refine lv_aload_n hx hb dX11_keeps_61 rfl (lv_at hl 0 rfl) ?_
          refine va_get (D := (g.1, g.2.1)) (ci := 13) (v := .int (nI (σ.1 1))) (C := RX11) (T := TX11) (N := 30) hx hb hts iX11 hown hK.1 hP 0 (gM0 g (sA σ 2 kp2) tl) rfl 4 (by decide) k23 (fun _ h9 => h9) rfl dX11_keeps_62 ?_
          refine lv_bipush (v := nI 122) hx hb dX11_keeps_65 (by decide) ?_
          refine jn_imul hx hb dX11_keeps_67 ?_
          refine lv_iload_n hx hb dX11_keeps_68 rfl (lv_at hl 1 rfl) ?_
          refine jn_iadd hx hb dX11_keeps_69 ?_
          refine lv_aload_n hx hb dX11_keeps_70 rfl (lv_at hl 0 rfl) ?_
          refine va_get (D := (g.1, g.2.1)) (ci := 13) (v := .ref (g.2.2.2 1)) (C := RX11) (T := TX11) (N := 30) hx hb hts iX11 hown hK.1 hP 0 (gM0 g (sA σ 2 kp2) tl) rfl 1 (by decide) k13 (fun _ h9 => h9) rfl dX11_keeps_71 ?_
          refine lv_iload_n hx hb dX11_keeps_74 rfl (lv_at hl 1 rfl) ?_
          refine jn_iald (f := σ.2.1 0) hx hb hK.1 hP 1 0 (gM1 g (sA σ 2 kp2) tl) rfl (by omega) (Nat.le_of_ble_eq_true rfl) dX11_keeps_75 ?_
          refine jn_iast (f := kp2) hx hb hK.1 hP hD hS 3 0 (gM3 g (sA σ 2 kp2) tl) rfl (by omega) (Nat.le_of_ble_eq_true rfl) (uM_A2 g (sA σ 2 kp2) tl _) dX11_keeps_76 (fun H locs hP hD hS => ?_)
          refine lv_iinc (v := nI (i2 + 1)) (lv' := [(1, .int (nI (i2 + 1))), (0, .ref (g.2.2.2 0))]) hx hb dX11_keeps_77 hl (k := 1) rfl (jn_ii _ 1) (by decide) rfl (fun ls hl => ?_)
          refine lv_goto (tgt := 51) hx hb dX11_keeps_80 (by decide) ?_
          exact ih51 (i2 + 1) (va_up kp2 (((σ.1 1) * 122) + i2) ((σ.2.1 0) i2)) (by omega) (fun k hk => by unfold va_up; split; { rename_i q; rw [show k = i2 by omega] }; { exact h5 k (by omega) }) (fun k hk => by rw [va_up, if_neg (by omega)]; exact h6 k hk) (by omega) _ _ hP hD hS _ (lv_sub hl [1, 0] rfl)
    exact lp51 _ 0 (σ.2.1 2) (by decide) (fun k hk => absurd hk (by omega)) (fun k hk => by rw [eob]) (Nat.lt_succ_self _) _ _ hP hD hS _ (lv_sub hl [1, 0] rfl)
  · refine lv_iconst (v := nI 0) hx hb dX11_keeps_9 (by decide) ?_
    refine lv_istore_n (lv' := [(1, .int (nI 0)), (0, .ref (g.2.2.2 0))]) hx hb dX11_keeps_10 rfl hl (by decide) rfl (fun ls hl => ?_)
    have lp11 : ∀ (fu : Nat), ∀ (i : Nat) (kp1 : Nat → Nat), (i ≤ 854) → (∀ k, k < i → kp1 k = (σ.2.1 2) (k + 122)) → (∀ k, i ≤ k → kp1 k = (σ.2.1 2) k) → 854 - i < fu → ∀ (H : Heap) (locs : List Loc), va_P (g.1, g.2.1) vwCl (wM g (sA σ 2 kp1) ++ tl) H → va_D A (wM g (sA σ 2 kp1) ++ tl) → va_S A s.heap H locs → ∀ ls : Array Slot, lv_has ls 2 [(0, .ref (g.2.2.2 0)), (1, .int (nI i))] → W p l e r_c_X11_keeps s m ([.ref (g.2.2.2 0)] : List Value).toArray below meth c H locs 0 0 Q (F0 m 11 ls []) := by
      intro fu
      induction fu with
      | zero => intro i kp1 h1 h2 h3 hf; exact absurd hf (Nat.not_lt_zero _)
      | succ fu ih11 =>
        intro i kp1 h1 h2 h3 hf H locs hP hD hS ls hl
        refine lv_iload_n hx hb dX11_keeps_11 rfl (lv_at hl 1 rfl) ?_
        refine lv_sipush (v := nI 854) hx hb dX11_keeps_12 (by decide) ?_
        refine jn_cge hx hb (by omega) (by decide) (tgt := 39) dX11_keeps_15 (by decide) (fun c_15 => ?_) (fun c_15 => ?_)
        · refine lv_aload_n hx hb dX11_keeps_39 rfl (lv_at hl 0 rfl) ?_
          refine lv_dup hx hb dX11_keeps_40 rfl ?_
          refine va_get (D := (g.1, g.2.1)) (ci := 13) (v := .int (nI (σ.1 1))) (C := RX11) (T := TX11) (N := 30) hx hb hts iX11 hown hK.1 hP 0 (gM0 g (sA σ 2 kp1) tl) rfl 4 (by decide) k23 (fun _ h9 => h9) rfl dX11_keeps_41 ?_
          refine lv_iconst (v := nI 1) hx hb dX11_keeps_44 (by decide) ?_
          refine jn_isub hx hb (by omega) dX11_keeps_45 ?_
          refine jn_put (D := (g.1, g.2.1)) (ci := 13) (v := .int (nI ((σ.1 1) - 1))) (ty := .int) (C := RX11) (T := TX11) (N := 30) hx hb hts iX11 tyX11 tyX11_ok nmX11 hown hK.1 hP hD hS 0 (gM0 g (sA σ 2 kp1) tl) rfl 4 (by decide) k23 (fun _ h9 => h9) rfl (by decide +kernel) rfl rfl (Nat.le_of_ble_eq_true rfl) (uM_F1 g (sA σ 2 kp1) tl ((σ.1 1) - 1)) dX11_keeps_46 (fun H locs hP hD hS => ?_)
          refine lv_iconst (v := nI 0) hx hb dX11_keeps_49 (by decide) ?_
          refine lv_istore_n (lv' := [(1, .int (nI 0)), (0, .ref (g.2.2.2 0))]) hx hb dX11_keeps_50 rfl hl (by decide) rfl (fun ls hl => ?_)
          obtain ⟨ob, eob⟩ : ∃ z, z = kp1 := ⟨_, rfl⟩
          have lp51 : ∀ (fu : Nat), ∀ (i2 : Nat) (kp2 : Nat → Nat), (i2 ≤ 122) → (∀ k, k < i2 → kp2 (((σ.1 1) - 1) * 122 + k) = (σ.2.1 0) k) → (∀ k, k < ((σ.1 1) - 1) * 122 → kp2 k = ob k) → 122 - i2 < fu → ∀ (H : Heap) (locs : List Loc), va_P (g.1, g.2.1) vwCl (wM g (sA (sF σ 1 ((σ.1 1) - 1)) 2 kp2) ++ tl) H → va_D A (wM g (sA (sF σ 1 ((σ.1 1) - 1)) 2 kp2) ++ tl) → va_S A s.heap H locs → ∀ ls : Array Slot, lv_has ls 2 [(0, .ref (g.2.2.2 0)), (1, .int (nI i2))] → W p l e r_c_X11_keeps s m ([.ref (g.2.2.2 0)] : List Value).toArray below meth c H locs 0 0 Q (F0 m 51 ls []) := by
            intro fu
            induction fu with
            | zero => intro i2 kp2 h4 h5 h6 hf; exact absurd hf (Nat.not_lt_zero _)
            | succ fu ih51 =>
              intro i2 kp2 h4 h5 h6 hf H locs hP hD hS ls hl
              refine lv_iload_n hx hb dX11_keeps_51 rfl (lv_at hl 1 rfl) ?_
              refine lv_bipush (v := nI 122) hx hb dX11_keeps_52 (by decide) ?_
              refine jn_cge hx hb (by omega) (by decide) (tgt := 83) dX11_keeps_54 (by decide) (fun c_54 => ?_) (fun c_54 => ?_)
              · refine lv_aload_n hx hb dX11_keeps_83 rfl (lv_at hl 0 rfl) ?_
                refine lv_dup hx hb dX11_keeps_84 rfl ?_
                refine va_get (D := (g.1, g.2.1)) (ci := 13) (v := .int (nI ((σ.1 1) - 1))) (C := RX11) (T := TX11) (N := 30) hx hb hts iX11 hown hK.1 hP 0 (gM0 g (sA (sF σ 1 ((σ.1 1) - 1)) 2 kp2) tl) rfl 4 (by decide) k23 (fun _ h9 => h9) rfl dX11_keeps_85 ?_
                refine lv_iconst (v := nI 1) hx hb dX11_keeps_88 (by decide) ?_
                refine jn_iadd hx hb dX11_keeps_89 ?_
                refine jn_put (D := (g.1, g.2.1)) (ci := 13) (v := .int (nI (((σ.1 1) - 1) + 1))) (ty := .int) (C := RX11) (T := TX11) (N := 30) hx hb hts iX11 tyX11 tyX11_ok nmX11 hown hK.1 hP hD hS 0 (gM0 g (sA (sF σ 1 ((σ.1 1) - 1)) 2 kp2) tl) rfl 4 (by decide) k23 (fun _ h9 => h9) rfl (by decide +kernel) rfl rfl (Nat.le_of_ble_eq_true rfl) (uM_F1 g (sA (sF σ 1 ((σ.1 1) - 1)) 2 kp2) tl (((σ.1 1) - 1) + 1)) dX11_keeps_90 (fun H locs hP hD hS => ?_)
                exact hq _ _ _ _ (kp2, (((σ.1 1) - 1) + 1)) dX11_keeps_93 (by first | exact ⟨kp_a (by omega) (fun k hk => by rw [h6 k (by omega), eob]; exact h2 k (by omega)) (fun k hk => by have := h5 k (by omega); rwa [show σ.1 1 - 1 = 7 by omega] at this), by omega⟩ | exact ⟨kp_b (by omega) (fun k hk => by rw [h6 k (by omega), eob]) (fun k hk => h5 k (by omega)), by omega⟩) hP hD hS
              · refine lv_aload_n hx hb dX11_keeps_57 rfl (lv_at hl 0 rfl) ?_
                refine va_get (D := (g.1, g.2.1)) (ci := 13) (v := .ref (g.2.2.2 3)) (C := RX11) (T := TX11) (N := 30) hx hb hts iX11 hown hK.1 hP 0 (gM0 g (sA (sF σ 1 ((σ.1 1) - 1)) 2 kp2) tl) rfl 3 (by decide) k20 (fun _ h9 => h9) rfl dX11_keeps_58 ?_
                refine lv_aload_n hx hb dX11_keeps_61 rfl (lv_at hl 0 rfl) ?_
                refine va_get (D := (g.1, g.2.1)) (ci := 13) (v := .int (nI ((σ.1 1) - 1))) (C := RX11) (T := TX11) (N := 30) hx hb hts iX11 hown hK.1 hP 0 (gM0 g (sA (sF σ 1 ((σ.1 1) - 1)) 2 kp2) tl) rfl 4 (by decide) k23 (fun _ h9 => h9) rfl dX11_keeps_62 ?_
                refine lv_bipush (v := nI 122) hx hb dX11_keeps_65 (by decide) ?_
                refine jn_imul hx hb dX11_keeps_67 ?_
                refine lv_iload_n hx hb dX11_keeps_68 rfl (lv_at hl 1 rfl) ?_
                refine jn_iadd hx hb dX11_keeps_69 ?_
                refine lv_aload_n hx hb dX11_keeps_70 rfl (lv_at hl 0 rfl) ?_
                refine va_get (D := (g.1, g.2.1)) (ci := 13) (v := .ref (g.2.2.2 1)) (C := RX11) (T := TX11) (N := 30) hx hb hts iX11 hown hK.1 hP 0 (gM0 g (sA (sF σ 1 ((σ.1 1) - 1)) 2 kp2) tl) rfl 1 (by decide) k13 (fun _ h9 => h9) rfl dX11_keeps_71 ?_
                refine lv_iload_n hx hb dX11_keeps_74 rfl (lv_at hl 1 rfl) ?_
                refine jn_iald (f := σ.2.1 0) hx hb hK.1 hP 1 0 (gM1 g (sA (sF σ 1 ((σ.1 1) - 1)) 2 kp2) tl) rfl (by omega) (Nat.le_of_ble_eq_true rfl) dX11_keeps_75 ?_
                refine jn_iast (f := kp2) hx hb hK.1 hP hD hS 3 0 (gM3 g (sA (sF σ 1 ((σ.1 1) - 1)) 2 kp2) tl) rfl (by omega) (Nat.le_of_ble_eq_true rfl) (uM_A2 g (sA (sF σ 1 ((σ.1 1) - 1)) 2 kp2) tl _) dX11_keeps_76 (fun H locs hP hD hS => ?_)
                refine lv_iinc (v := nI (i2 + 1)) (lv' := [(1, .int (nI (i2 + 1))), (0, .ref (g.2.2.2 0))]) hx hb dX11_keeps_77 hl (k := 1) rfl (jn_ii _ 1) (by decide) rfl (fun ls hl => ?_)
                refine lv_goto (tgt := 51) hx hb dX11_keeps_80 (by decide) ?_
                exact ih51 (i2 + 1) (va_up kp2 ((((σ.1 1) - 1) * 122) + i2) ((σ.2.1 0) i2)) (by omega) (fun k hk => by unfold va_up; split; { rename_i q; rw [show k = i2 by omega] }; { exact h5 k (by omega) }) (fun k hk => by rw [va_up, if_neg (by omega)]; exact h6 k hk) (by omega) _ _ hP hD hS _ (lv_sub hl [1, 0] rfl)
          exact lp51 _ 0 kp1 (by decide) (fun k hk => absurd hk (by omega)) (fun k hk => by rw [eob]) (Nat.lt_succ_self _) _ _ hP hD hS _ (lv_sub hl [1, 0] rfl)
        · refine lv_aload_n hx hb dX11_keeps_18 rfl (lv_at hl 0 rfl) ?_
          refine va_get (D := (g.1, g.2.1)) (ci := 13) (v := .ref (g.2.2.2 3)) (C := RX11) (T := TX11) (N := 30) hx hb hts iX11 hown hK.1 hP 0 (gM0 g (sA σ 2 kp1) tl) rfl 3 (by decide) k20 (fun _ h9 => h9) rfl dX11_keeps_19 ?_
          refine lv_iload_n hx hb dX11_keeps_22 rfl (lv_at hl 1 rfl) ?_
          refine lv_aload_n hx hb dX11_keeps_23 rfl (lv_at hl 0 rfl) ?_
          refine va_get (D := (g.1, g.2.1)) (ci := 13) (v := .ref (g.2.2.2 3)) (C := RX11) (T := TX11) (N := 30) hx hb hts iX11 hown hK.1 hP 0 (gM0 g (sA σ 2 kp1) tl) rfl 3 (by decide) k20 (fun _ h9 => h9) rfl dX11_keeps_24 ?_
          refine lv_iload_n hx hb dX11_keeps_27 rfl (lv_at hl 1 rfl) ?_
          refine lv_bipush (v := nI 122) hx hb dX11_keeps_28 (by decide) ?_
          refine jn_iadd hx hb dX11_keeps_30 ?_
          refine jn_iald (f := kp1) hx hb hK.1 hP 3 0 (gM3 g (sA σ 2 kp1) tl) rfl (by omega) (Nat.le_of_ble_eq_true rfl) dX11_keeps_31 ?_
          refine jn_iast (f := kp1) hx hb hK.1 hP hD hS 3 0 (gM3 g (sA σ 2 kp1) tl) rfl (by omega) (Nat.le_of_ble_eq_true rfl) (uM_A2 g (sA σ 2 kp1) tl _) dX11_keeps_32 (fun H locs hP hD hS => ?_)
          refine lv_iinc (v := nI (i + 1)) (lv' := [(1, .int (nI (i + 1))), (0, .ref (g.2.2.2 0))]) hx hb dX11_keeps_33 hl (k := 1) rfl (jn_ii _ 1) (by decide) rfl (fun ls hl => ?_)
          refine lv_goto (tgt := 11) hx hb dX11_keeps_36 (by decide) ?_
          exact ih11 (i + 1) (va_up kp1 i (kp1 (i + 122))) (by omega) (fun k hk => by unfold va_up; split; { rename_i q; rw [q]; exact h3 _ (by omega) }; { exact h2 k (by omega) }) (fun k hk => by rw [va_up, if_neg (by omega)]; exact h3 k (by omega)) (by omega) _ _ hP hD hS _ (lv_sub hl [1, 0] rfl)
    exact lp11 _ 0 (σ.2.1 2) (by decide) (fun k hk => absurd hk (by omega)) (fun _ _ => rfl) (Nat.lt_succ_self _) _ _ hP hD hS _ (lv_sub hl [1, 0] rfl)
