abbrev r_c_X11_transitionCount : Room := { frames := 1, cells := 0, slots := 0, locals := 22 }
set_option maxHeartbeats 4000000 in
set_option maxRecDepth 100000 in
theorem c_X11_transitionCount (l : Launch) (g : GC) (tl : va_W) (σ : SS) (hT : OkT (σ.2.1 0)) : Met l yX11_transitionCount wsX11_transitionCount r_c_X11_transitionCount (va_Pc [.ref (g.2.2.2 0)] (PP g (wM g σ ++ tl))) (vp_Si (fun r => r = nI (cntT (σ.2.1 0)))) 0 0 (fun _ => False) := by
  refine jn_pi (cc := cX11_transitionCount) (maxL := 3) (own := RX11) (by decide) rfl rfl (Nat.le_of_ble_eq_true rfl) ?_
  intro p e s m below meth c Q hx hb hml hown hts ⟨hP, hK⟩ hq ls hl
  have hl : lv_has ls 3 [(0, .ref (g.2.2.2 0))] := hl
  have iX11 : ∀ w ∈ wsX110, w ∈ wsX11_transitionCount := by decide +kernel
  have k13 := hts (.fieldLink RX11 13 "JumpingAutomataModel" "now" "[I") (by decide +kernel)
  refine lv_iconst (v := nI 0) hx hb dX11_transitionCount_0 (by decide) ?_
  refine lv_istore_n (lv' := [(1, .int (nI 0)), (0, .ref (g.2.2.2 0))]) hx hb dX11_transitionCount_1 rfl hl (by decide) rfl (fun ls hl => ?_)
  refine lv_iconst (v := nI 0) hx hb dX11_transitionCount_2 (by decide) ?_
  refine lv_istore_n (lv' := [(2, .int (nI 0)), (1, .int (nI 0)), (0, .ref (g.2.2.2 0))]) hx hb dX11_transitionCount_3 rfl hl (by decide) rfl (fun ls hl => ?_)
  have lp4 : ∀ (fu : Nat), ∀ (i : Nat) (z : Nat), (i ≤ 15) → (z = fb_sm (fun k => pop ((σ.2.1 0) k)) i) → 15 - i < fu → ∀ ls : Array Slot, lv_has ls 3 [(0, .ref (g.2.2.2 0)), (1, .int (nI z)), (2, .int (nI i))] → W p l e r_c_X11_transitionCount s m ([.ref (g.2.2.2 0)] : List Value).toArray below meth c s.heap [] 0 0 Q (F0 m 4 ls []) := by
    intro fu
    induction fu with
    | zero => intro i z h1 h2 hf; exact absurd hf (Nat.not_lt_zero _)
    | succ fu ih4 =>
      intro i z h1 h2 hf ls hl
      refine lv_iload_n hx hb dX11_transitionCount_4 rfl (lv_at hl 2 rfl) ?_
      refine lv_bipush (v := nI 15) hx hb dX11_transitionCount_5 (by decide) ?_
      refine jn_cge hx hb (by omega) (by decide) (tgt := 28) dX11_transitionCount_7 (by decide) (fun c_7 => ?_) (fun c_7 => ?_)
      · refine lv_iload_n hx hb dX11_transitionCount_28 rfl (lv_at hl 1 rfl) ?_
        exact hq _ _ ((nI z)) dX11_transitionCount_29 (by rw [h2, show i = 15 by omega]; rfl)
      · refine lv_iload_n hx hb dX11_transitionCount_10 rfl (lv_at hl 1 rfl) ?_
        refine lv_aload_n hx hb dX11_transitionCount_11 rfl (lv_at hl 0 rfl) ?_
        refine va_get (D := (g.1, g.2.1)) (ci := 13) (v := .ref (g.2.2.2 1)) (C := RX11) (T := TX11) (N := 30) hx hb hts iX11 hown hK.1 hP 0 (gM0 g σ tl) rfl 1 (by decide) k13 (fun _ h9 => h9) rfl dX11_transitionCount_12 ?_
        refine lv_iload_n hx hb dX11_transitionCount_15 rfl (lv_at hl 2 rfl) ?_
        refine jn_iald (f := σ.2.1 0) hx hb hK.1 hP 1 0 (gM1 g σ tl) rfl (by omega) (Nat.le_of_ble_eq_true rfl) dX11_transitionCount_16 ?_
        refine vp_callSi (va_Run.run (va_runS (As := [.int (nI ((σ.2.1 0) i))]) (rest := [.int (nI z)]) ⟨hx, hb, hml, hown, hts⟩ (c_X11_bits l ((σ.2.1 0) i) (hT i (by omega))) (va_cwS 1 hts gX11_transitionCount_X11_bits rfl rfl rfl (by decide +kernel) ⟨Nat.le_of_ble_eq_true rfl, Nat.le_of_ble_eq_true rfl⟩) okTS rfl rfl hl.1 rfl (lv_room (Nat.le_of_ble_eq_true rfl)) dX11_transitionCount_17 ⟨Nat.le_of_ble_eq_true rfl, Nat.le_of_ble_eq_true rfl⟩)) (fun r_17 h_17 => ?_)
        subst h_17
        refine jn_iadd hx hb dX11_transitionCount_20 ?_
        refine lv_istore_n (lv' := [(1, .int (nI (z + (pop ((σ.2.1 0) i))))), (0, .ref (g.2.2.2 0)), (2, .int (nI i))]) hx hb dX11_transitionCount_21 rfl hl (by decide) rfl (fun ls hl => ?_)
        refine lv_iinc (v := nI (i + 1)) (lv' := [(2, .int (nI (i + 1))), (1, .int (nI (z + (pop ((σ.2.1 0) i))))), (0, .ref (g.2.2.2 0))]) hx hb dX11_transitionCount_22 hl (k := 2) rfl (jn_ii _ 1) (by decide) rfl (fun ls hl => ?_)
        refine lv_goto (tgt := 4) hx hb dX11_transitionCount_25 (by decide) ?_
        exact ih4 (i + 1) (z + (pop ((σ.2.1 0) i))) (by omega) (by rw [h2]; rfl) (by omega) _ (lv_sub hl [2, 1, 0] rfl)
  exact lp4 _ 0 0 (by decide) rfl (Nat.lt_succ_self _) _ (lv_sub hl [2, 1, 0] rfl)

abbrev r_c_X11_isDeterministic : Room := { frames := 1, cells := 0, slots := 0, locals := 22 }
set_option maxHeartbeats 4000000 in
set_option maxRecDepth 100000 in
theorem c_X11_isDeterministic (l : Launch) (g : GC) (tl : va_W) (σ : SS) (hT : OkT (σ.2.1 0)) : Met l yX11_isDeterministic wsX11_isDeterministic r_c_X11_isDeterministic (va_Pc [.ref (g.2.2.2 0)] (PP g (wM g σ ++ tl))) (vp_Si (fun r => r = nI (if detT (σ.2.1 0) then 1 else 0))) 0 0 (fun _ => False) := by
  refine jn_pz (cc := cX11_isDeterministic) (maxL := 2) (own := RX11) (by decide) rfl rfl (Nat.le_of_ble_eq_true rfl) ?_
  intro p e s m below meth c Q hx hb hml hown hts ⟨hP, hK⟩ hq ls hl
  have hl : lv_has ls 2 [(0, .ref (g.2.2.2 0))] := hl
  have iX11 : ∀ w ∈ wsX110, w ∈ wsX11_isDeterministic := by decide +kernel
  have k13 := hts (.fieldLink RX11 13 "JumpingAutomataModel" "now" "[I") (by decide +kernel)
  refine lv_iconst (v := nI 0) hx hb dX11_isDeterministic_0 (by decide) ?_
  refine lv_istore_n (lv' := [(1, .int (nI 0)), (0, .ref (g.2.2.2 0))]) hx hb dX11_isDeterministic_1 rfl hl (by decide) rfl (fun ls hl => ?_)
  have lp2 : ∀ (fu : Nat), ∀ (i : Nat), (i ≤ 15) → (∀ k, k < i → pop ((σ.2.1 0) k) ≤ 1) → 15 - i < fu → ∀ ls : Array Slot, lv_has ls 2 [(0, .ref (g.2.2.2 0)), (1, .int (nI i))] → W p l e r_c_X11_isDeterministic s m ([.ref (g.2.2.2 0)] : List Value).toArray below meth c s.heap [] 0 0 Q (F0 m 2 ls []) := by
    intro fu
    induction fu with
    | zero => intro i h1 h2 hf; exact absurd hf (Nat.not_lt_zero _)
    | succ fu ih2 =>
      intro i h1 h2 hf ls hl
      refine lv_iload_n hx hb dX11_isDeterministic_2 rfl (lv_at hl 1 rfl) ?_
      refine lv_bipush (v := nI 15) hx hb dX11_isDeterministic_3 (by decide) ?_
      refine jn_cge hx hb (by omega) (by decide) (tgt := 29) dX11_isDeterministic_5 (by decide) (fun c_5 => ?_) (fun c_5 => ?_)
      · refine lv_iconst (v := nI 1) hx hb dX11_isDeterministic_29 (by decide) ?_
        exact hq _ _ ((nI 1)) dX11_isDeterministic_30 jn_n1 (by rw [if_pos (fun k hk => h2 k (by omega))])
      · refine lv_aload_n hx hb dX11_isDeterministic_8 rfl (lv_at hl 0 rfl) ?_
        refine va_get (D := (g.1, g.2.1)) (ci := 13) (v := .ref (g.2.2.2 1)) (C := RX11) (T := TX11) (N := 30) hx hb hts iX11 hown hK.1 hP 0 (gM0 g σ tl) rfl 1 (by decide) k13 (fun _ h9 => h9) rfl dX11_isDeterministic_9 ?_
        refine lv_iload_n hx hb dX11_isDeterministic_12 rfl (lv_at hl 1 rfl) ?_
        refine jn_iald (f := σ.2.1 0) hx hb hK.1 hP 1 0 (gM1 g σ tl) rfl (by omega) (Nat.le_of_ble_eq_true rfl) dX11_isDeterministic_13 ?_
        refine vp_callSi (va_Run.run (va_runS (As := [.int (nI ((σ.2.1 0) i))]) (rest := []) ⟨hx, hb, hml, hown, hts⟩ (c_X11_bits l ((σ.2.1 0) i) (hT i (by omega))) (va_cwS 1 hts gX11_isDeterministic_X11_bits rfl rfl rfl (by decide +kernel) ⟨Nat.le_of_ble_eq_true rfl, Nat.le_of_ble_eq_true rfl⟩) okTS rfl rfl hl.1 rfl (lv_room (Nat.le_of_ble_eq_true rfl)) dX11_isDeterministic_14 ⟨Nat.le_of_ble_eq_true rfl, Nat.le_of_ble_eq_true rfl⟩)) (fun r_14 h_14 => ?_)
        subst h_14
        have p5 := pop_le _ (hT i (by omega))
        refine lv_iconst (v := nI 1) hx hb dX11_isDeterministic_17 (by decide) ?_
        refine jn_cle hx hb (by omega) (by decide) (tgt := 23) dX11_isDeterministic_18 (by decide) (fun c_18 => ?_) (fun c_18 => ?_)
        · refine lv_iinc (v := nI (i + 1)) (lv' := [(1, .int (nI (i + 1))), (0, .ref (g.2.2.2 0))]) hx hb dX11_isDeterministic_23 hl (k := 1) rfl (jn_ii _ 1) (by decide) rfl (fun ls hl => ?_)
          refine lv_goto (tgt := 2) hx hb dX11_isDeterministic_26 (by decide) ?_
          exact ih2 (i + 1) (by omega) (fun k hk => by rcases Nat.lt_or_ge k i with q | q; { exact h2 k q }; { rw [show k = i by omega]; exact c_18 }) (by omega) _ (lv_sub hl [1, 0] rfl)
        · refine lv_iconst (v := nI 0) hx hb dX11_isDeterministic_21 (by decide) ?_
          exact hq _ _ ((nI 0)) dX11_isDeterministic_22 jn_n0 (by rw [if_neg (fun q => absurd (q i (by omega)) (by omega))])
  exact lp2 _ 0 (by decide) (fun k hk => absurd hk (by omega)) (Nat.lt_succ_self _) _ (lv_sub hl [1, 0] rfl)

abbrev r_c_X11_allFrom : Room := { frames := 1, cells := 0, slots := 0, locals := 22 }
set_option maxHeartbeats 4000000 in
set_option maxRecDepth 100000 in
theorem c_X11_allFrom (l : Launch) (g : GC) (tl : va_W) (σ : SS) (st : Nat) (hT : OkT (σ.2.1 0)) (hst : st < 2147483648) : Met l yX11_allFrom wsX11_allFrom r_c_X11_allFrom (va_Pc [.ref (g.2.2.2 0), .int (nI st)] (PP g (wM g σ ++ tl))) (vp_Si (fun r => r = nI (alF (σ.2.1 0) st))) 0 0 (fun _ => False) := by
  refine jn_pi (cc := cX11_allFrom) (maxL := 5) (own := RX11) (by decide) rfl rfl (Nat.le_of_ble_eq_true rfl) ?_
  intro p e s m below meth c Q hx hb hml hown hts ⟨hP, hK⟩ hq ls hl
  have hl : lv_has ls 5 [(0, .ref (g.2.2.2 0)), (1, .int (nI st))] := hl
  refine lv_iconst (v := nI 0) hx hb dX11_allFrom_0 (by decide) ?_
  refine lv_istore_n (lv' := [(2, .int (nI 0)), (0, .ref (g.2.2.2 0)), (1, .int (nI st))]) hx hb dX11_allFrom_1 rfl hl (by decide) rfl (fun ls hl => ?_)
  refine lv_iconst (v := nI 0) hx hb dX11_allFrom_2 (by decide) ?_
  refine lv_istore_n (lv' := [(3, .int (nI 0)), (2, .int (nI 0)), (0, .ref (g.2.2.2 0)), (1, .int (nI st))]) hx hb dX11_allFrom_3 rfl hl (by decide) rfl (fun ls hl => ?_)
  have lp4 : ∀ (fu : Nat), ∀ (q : Nat) (z : Nat), (q ≤ 5) → (z = orU (alG (σ.2.1 0) st) q) → 5 - q < fu → ∀ ls : Array Slot, lv_has ls 5 [(0, .ref (g.2.2.2 0)), (1, .int (nI st)), (2, .int (nI z)), (3, .int (nI q))] → W p l e r_c_X11_allFrom s m ([.ref (g.2.2.2 0), .int (nI st)] : List Value).toArray below meth c s.heap [] 0 0 Q (F0 m 4 ls []) := by
    intro fu
    induction fu with
    | zero => intro q z h1 h2 hf; exact absurd hf (Nat.not_lt_zero _)
    | succ fu ih4 =>
      intro q z h1 h2 hf ls hl
      refine lv_iload_n hx hb dX11_allFrom_4 rfl (lv_at hl 3 rfl) ?_
      refine lv_iconst (v := nI 5) hx hb dX11_allFrom_5 (by decide) ?_
      refine jn_cge hx hb (by omega) (by decide) (tgt := 48) dX11_allFrom_6 (by decide) (fun c_6 => ?_) (fun c_6 => ?_)
      · refine lv_iload_n hx hb dX11_allFrom_48 rfl (lv_at hl 2 rfl) ?_
        exact hq _ _ ((nI z)) dX11_allFrom_49 (by rw [h2, show q = 5 by omega]; rfl)
      · refine lv_iconst (v := nI 0) hx hb dX11_allFrom_9 (by decide) ?_
        refine lv_istore (lv' := [(4, .int (nI 0)), (0, .ref (g.2.2.2 0)), (1, .int (nI st)), (2, .int (nI z)), (3, .int (nI q))]) hx hb dX11_allFrom_10 hl (by decide) rfl (fun ls hl => ?_)
        have lp12 : ∀ (fu : Nat), ∀ (x0 : Nat) (z : Nat), (x0 ≤ 3) → (z = orU (alG (σ.2.1 0) st) q ||| orU (fun x => (σ.2.1 0) (q * 3 + x)) x0) → (0 < x0 → Nat.testBit st q = true) → 3 - x0 < fu → ∀ ls : Array Slot, lv_has ls 5 [(0, .ref (g.2.2.2 0)), (1, .int (nI st)), (2, .int (nI z)), (3, .int (nI q)), (4, .int (nI x0))] → W p l e r_c_X11_allFrom s m ([.ref (g.2.2.2 0), .int (nI st)] : List Value).toArray below meth c s.heap [] 0 0 Q (F0 m 12 ls []) := by
          intro fu
          induction fu with
          | zero => intro x0 z h3 h4 h5 hf; exact absurd hf (Nat.not_lt_zero _)
          | succ fu ih12 =>
            intro x0 z h3 h4 h5 hf ls hl
            refine lv_iload hx hb dX11_allFrom_12 (lv_at hl 4 rfl) ?_
            refine lv_iconst (v := nI 3) hx hb dX11_allFrom_14 (by decide) ?_
            refine jn_cge hx hb (by omega) (by decide) (tgt := 42) dX11_allFrom_15 (by decide) (fun c_15 => ?_) (fun c_15 => ?_)
            · refine lv_iinc (v := nI (q + 1)) (lv' := [(3, .int (nI (q + 1))), (0, .ref (g.2.2.2 0)), (1, .int (nI st)), (2, .int (nI z)), (4, .int (nI x0))]) hx hb dX11_allFrom_42 hl (k := 3) rfl (jn_ii _ 1) (by decide) rfl (fun ls hl => ?_)
              refine lv_goto (tgt := 4) hx hb dX11_allFrom_45 (by decide) ?_
              exact ih4 (q + 1) z (by omega) (by first | exact al_0 (by rw [show x0 = 0 by omega] at h4; exact h4) c_23 | (have e3 : x0 = 3 := (by omega); subst e3; exact al_3 h4 (h5 (by omega)))) (by omega) _ (lv_sub hl [1, 2, 3, 0] rfl)
            · refine lv_iload_n hx hb dX11_allFrom_18 rfl (lv_at hl 1 rfl) ?_
              refine lv_iload_n hx hb dX11_allFrom_19 rfl (lv_at hl 3 rfl) ?_
              refine vp_callSi (va_Run.run (va_runS (As := [.int (nI st), .int (nI q)]) (rest := []) ⟨hx, hb, hml, hown, hts⟩ (c_X11_has l st q hst (by omega)) (va_cwS 2 hts gX11_allFrom_X11_has rfl rfl rfl (by decide +kernel) ⟨Nat.le_of_ble_eq_true rfl, Nat.le_of_ble_eq_true rfl⟩) okTS rfl rfl hl.1 rfl (lv_room (Nat.le_of_ble_eq_true rfl)) dX11_allFrom_20 ⟨Nat.le_of_ble_eq_true rfl, Nat.le_of_ble_eq_true rfl⟩)) (fun r_20 h_20 => ?_)
              subst h_20
              refine jn_beq hx hb (tgt := 42) dX11_allFrom_23 (by decide) (fun c_23 => ?_) (fun c_23 => ?_)
              · have e0 : x0 = 0 := Nat.eq_zero_of_not_pos (fun h => c_23 (h5 h))
                refine lv_iinc (v := nI (q + 1)) (lv' := [(3, .int (nI (q + 1))), (0, .ref (g.2.2.2 0)), (1, .int (nI st)), (2, .int (nI z)), (4, .int (nI x0))]) hx hb dX11_allFrom_42 hl (k := 3) rfl (jn_ii _ 1) (by decide) rfl (fun ls hl => ?_)
                refine lv_goto (tgt := 4) hx hb dX11_allFrom_45 (by decide) ?_
                exact ih4 (q + 1) z (by omega) (by first | exact al_0 (by rw [show x0 = 0 by omega] at h4; exact h4) c_23 | (have e3 : x0 = 3 := (by omega); subst e3; exact al_3 h4 (h5 (by omega)))) (by omega) _ (lv_sub hl [1, 2, 3, 0] rfl)
              · refine lv_iload_n hx hb dX11_allFrom_26 rfl (lv_at hl 2 rfl) ?_
                refine lv_aload_n hx hb dX11_allFrom_27 rfl (lv_at hl 0 rfl) ?_
                refine lv_iload_n hx hb dX11_allFrom_28 rfl (lv_at hl 3 rfl) ?_
                refine lv_iload hx hb dX11_allFrom_29 (lv_at hl 4 rfl) ?_
                refine vp_callSi (va_Run.run (va_runV (As := [.int (nI q), .int (nI x0)]) (rest := [.int (nI z)]) ⟨hx, hb, hml, hown, hts⟩ (c_X11_next l g tl σ q x0 (by omega) (by omega)) (cwV 2 hts gX11_allFrom_X11_next rfl rfl rfl (by decide +kernel) ⟨Nat.le_of_ble_eq_true rfl, Nat.le_of_ble_eq_true rfl⟩) (okPV hK hP rfl (gM0 g σ tl)) rfl rfl hl.1 rfl (lv_room (Nat.le_of_ble_eq_true rfl)) dX11_allFrom_31 ⟨Nat.le_of_ble_eq_true rfl, Nat.le_of_ble_eq_true rfl⟩)) (fun r_31 h_31 => ?_)
                subst h_31
                refine jn_ior hx hb dX11_allFrom_34 ?_
                refine lv_istore_n (lv' := [(2, .int (nI (z ||| ((σ.2.1 0) (q * 3 + x0))))), (0, .ref (g.2.2.2 0)), (1, .int (nI st)), (3, .int (nI q)), (4, .int (nI x0))]) hx hb dX11_allFrom_35 rfl hl (by decide) rfl (fun ls hl => ?_)
                refine lv_iinc (v := nI (x0 + 1)) (lv' := [(4, .int (nI (x0 + 1))), (2, .int (nI (z ||| ((σ.2.1 0) (q * 3 + x0))))), (0, .ref (g.2.2.2 0)), (1, .int (nI st)), (3, .int (nI q))]) hx hb dX11_allFrom_36 hl (k := 4) rfl (jn_ii _ 1) (by decide) rfl (fun ls hl => ?_)
                refine lv_goto (tgt := 12) hx hb dX11_allFrom_39 (by decide) ?_
                exact ih12 (x0 + 1) (z ||| ((σ.2.1 0) (q * 3 + x0))) (by omega) (by rw [h4, orU_s, Nat.or_assoc]) (fun _ => c_23) (by omega) _ (lv_sub hl [2, 3, 1, 4, 0] rfl)
        exact lp12 _ 0 z (by decide) (by rw [h2]; exact (Nat.or_zero _).symm) (fun h => absurd h (by omega)) (Nat.lt_succ_self _) _ (lv_sub hl [1, 2, 3, 4, 0] rfl)
  exact lp4 _ 0 0 (by decide) rfl (Nat.lt_succ_self _) _ (lv_sub hl [2, 3, 1, 0] rfl)

abbrev r_c_X11_usefulStates : Room := { frames := 2, cells := 0, slots := 0, locals := 46 }
set_option maxHeartbeats 4000000 in
set_option maxRecDepth 100000 in
theorem c_X11_usefulStates (l : Launch) (g : GC) (tl : va_W) (σ : SS) (hT : OkT (σ.2.1 0)) (hF : ((σ.2.1 0) 15) < 32) : Met l yX11_usefulStates wsX11_usefulStates r_c_X11_usefulStates (va_Pc [.ref (g.2.2.2 0)] (PP g (wM g σ ++ tl))) (vp_Si (fun r => r = nI (fR (σ.2.1 0) 5 &&& bR (σ.2.1 0) ((σ.2.1 0) 15) 5))) 0 0 (fun _ => False) := by
  refine jn_pi (cc := cX11_usefulStates) (maxL := 5) (own := RX11) (by decide) rfl rfl (Nat.le_of_ble_eq_true rfl) ?_
  intro p e s m below meth c Q hx hb hml hown hts ⟨hP, hK⟩ hq ls hl
  have hl : lv_has ls 5 [(0, .ref (g.2.2.2 0))] := hl
  have iX11 : ∀ w ∈ wsX110, w ∈ wsX11_usefulStates := by decide +kernel
  have k13 := hts (.fieldLink RX11 13 "JumpingAutomataModel" "now" "[I") (by decide +kernel)
  refine lv_iconst (v := nI 1) hx hb dX11_usefulStates_0 (by decide) ?_
  refine lv_istore_n (lv' := [(1, .int (nI 1)), (0, .ref (g.2.2.2 0))]) hx hb dX11_usefulStates_1 rfl hl (by decide) rfl (fun ls hl => ?_)
  refine lv_aload_n hx hb dX11_usefulStates_2 rfl (lv_at hl 1 rfl) ?_
  refine va_get (D := (g.1, g.2.1)) (ci := 13) (v := .ref (g.2.2.2 1)) (C := RX11) (T := TX11) (N := 30) hx hb hts iX11 hown hK.1 hP 0 (gM0 g σ tl) rfl 1 (by decide) k13 (fun _ h9 => h9) rfl dX11_usefulStates_3 ?_
  refine lv_bipush (v := nI 15) hx hb dX11_usefulStates_6 (by decide) ?_
  refine jn_iald (f := σ.2.1 0) hx hb hK.1 hP 1 0 (gM1 g σ tl) rfl (by decide) (Nat.le_of_ble_eq_true rfl) dX11_usefulStates_8 ?_
  refine lv_istore_n (lv' := [(2, .int (nI ((σ.2.1 0) 15))), (1, .int (nI 1)), (0, .ref (g.2.2.2 0))]) hx hb dX11_usefulStates_9 rfl hl (by decide) rfl (fun ls hl => ?_)
  refine lv_iconst (v := nI 0) hx hb dX11_usefulStates_10 (by decide) ?_
  refine lv_istore_n (lv' := [(3, .int (nI 0)), (2, .int (nI ((σ.2.1 0) 15))), (1, .int (nI 1)), (0, .ref (g.2.2.2 0))]) hx hb dX11_usefulStates_11 rfl hl (by decide) rfl (fun ls hl => ?_)
  have lp12 : ∀ (fu : Nat), ∀ (i : Nat) (a : Nat) (b : Nat), (i ≤ 5) → (a = fR (σ.2.1 0) i) → (b = bR (σ.2.1 0) ((σ.2.1 0) 15) i) → 5 - i < fu → ∀ ls : Array Slot, lv_has ls 5 [(0, .ref (g.2.2.2 0)), (1, .int (nI a)), (2, .int (nI b)), (3, .int (nI i))] → W p l e r_c_X11_usefulStates s m ([.ref (g.2.2.2 0)] : List Value).toArray below meth c s.heap [] 0 0 Q (F0 m 12 ls []) := by
    intro fu
    induction fu with
    | zero => intro i a b h1 h2 h3 hf; exact absurd hf (Nat.not_lt_zero _)
    | succ fu ih12 =>
      intro i a b h1 h2 h3 hf ls hl
      have ha32 : a < 32 := by rw [h2]; exact fR_lt hT _
      refine lv_iload_n hx hb dX11_usefulStates_12 rfl (lv_at hl 3 rfl) ?_
      refine lv_iconst (v := nI 5) hx hb dX11_usefulStates_13 (by decide) ?_
      refine jn_cge hx hb (by omega) (by decide) (tgt := 66) dX11_usefulStates_14 (by decide) (fun c_14 => ?_) (fun c_14 => ?_)
      · refine lv_iload_n hx hb dX11_usefulStates_66 rfl (lv_at hl 1 rfl) ?_
        refine lv_iload_n hx hb dX11_usefulStates_67 rfl (lv_at hl 2 rfl) ?_
        refine jn_iand hx hb dX11_usefulStates_68 ?_
        exact hq _ _ ((nI (a &&& b))) dX11_usefulStates_69 (by rw [h2, h3, show i = 5 by omega])
      · refine lv_iload_n hx hb dX11_usefulStates_17 rfl (lv_at hl 1 rfl) ?_
        refine lv_aload_n hx hb dX11_usefulStates_18 rfl (lv_at hl 0 rfl) ?_
        refine lv_iload_n hx hb dX11_usefulStates_19 rfl (lv_at hl 1 rfl) ?_
        refine vp_callSi (va_Run.run (va_runV (As := [.int (nI a)]) (rest := [.int (nI a)]) ⟨hx, hb, hml, hown, hts⟩ (c_X11_allFrom l g tl σ a hT (by omega)) (cwV 1 hts gX11_usefulStates_X11_allFrom rfl rfl rfl (by decide +kernel) ⟨Nat.le_of_ble_eq_true rfl, Nat.le_of_ble_eq_true rfl⟩) (okPV hK hP rfl (gM0 g σ tl)) rfl rfl hl.1 rfl (lv_room (Nat.le_of_ble_eq_true rfl)) dX11_usefulStates_20 ⟨Nat.le_of_ble_eq_true rfl, Nat.le_of_ble_eq_true rfl⟩)) (fun r_20 h_20 => ?_)
        subst h_20
        refine jn_ior hx hb dX11_usefulStates_23 ?_
        refine lv_istore_n (lv' := [(1, .int (nI (a ||| (alF (σ.2.1 0) a)))), (0, .ref (g.2.2.2 0)), (2, .int (nI b)), (3, .int (nI i))]) hx hb dX11_usefulStates_24 rfl hl (by decide) rfl (fun ls hl => ?_)
        refine lv_iconst (v := nI 0) hx hb dX11_usefulStates_25 (by decide) ?_
        refine lv_istore (lv' := [(4, .int (nI 0)), (1, .int (nI (a ||| (alF (σ.2.1 0) a)))), (0, .ref (g.2.2.2 0)), (2, .int (nI b)), (3, .int (nI i))]) hx hb dX11_usefulStates_26 hl (by decide) rfl (fun ls hl => ?_)
        have lp28 : ∀ (fu : Nat), ∀ (q : Nat) (b : Nat), (q ≤ 5) → (b = bI (σ.2.1 0) (bR (σ.2.1 0) ((σ.2.1 0) 15) i) q) → 5 - q < fu → ∀ ls : Array Slot, lv_has ls 5 [(0, .ref (g.2.2.2 0)), (1, .int (nI (a ||| (alF (σ.2.1 0) a)))), (2, .int (nI b)), (3, .int (nI i)), (4, .int (nI q))] → W p l e r_c_X11_usefulStates s m ([.ref (g.2.2.2 0)] : List Value).toArray below meth c s.heap [] 0 0 Q (F0 m 28 ls []) := by
          intro fu
          induction fu with
          | zero => intro q b h4 h5 hf; exact absurd hf (Nat.not_lt_zero _)
          | succ fu ih28 =>
            intro q b h4 h5 hf ls hl
            have hb32 : b < 32 := by rw [h5]; exact bI_lt (bR_lt hF _) q h4
            refine lv_iload hx hb dX11_usefulStates_28 (lv_at hl 4 rfl) ?_
            refine lv_iconst (v := nI 5) hx hb dX11_usefulStates_30 (by decide) ?_
            refine jn_cge hx hb (by omega) (by decide) (tgt := 60) dX11_usefulStates_31 (by decide) (fun c_31 => ?_) (fun c_31 => ?_)
            · refine lv_iinc (v := nI (i + 1)) (lv' := [(3, .int (nI (i + 1))), (0, .ref (g.2.2.2 0)), (1, .int (nI (a ||| (alF (σ.2.1 0) a)))), (2, .int (nI b)), (4, .int (nI q))]) hx hb dX11_usefulStates_60 hl (k := 3) rfl (jn_ii _ 1) (by decide) rfl (fun ls hl => ?_)
              refine lv_goto (tgt := 12) hx hb dX11_usefulStates_63 (by decide) ?_
              exact ih12 (i + 1) (a ||| (alF (σ.2.1 0) a)) b (by omega) (by rw [h2]; rfl) (by rw [h5, show q = 5 by omega]; rfl) (by omega) _ (lv_sub hl [1, 2, 3, 0] rfl)
            · refine lv_aload_n hx hb dX11_usefulStates_34 rfl (lv_at hl 0 rfl) ?_
              refine lv_iconst (v := nI 1) hx hb dX11_usefulStates_35 (by decide) ?_
              refine lv_iload hx hb dX11_usefulStates_36 (lv_at hl 4 rfl) ?_
              refine jn_shl1 hx hb (by omega) dX11_usefulStates_38 ?_
              refine vp_callSi (va_Run.run (va_runV (As := [.int (nI (2 ^ q))]) (rest := []) ⟨hx, hb, hml, hown, hts⟩ (c_X11_allFrom l g tl σ (2 ^ q) hT (Nat.lt_trans ((by decide : ∀ k, k < 5 → 2 ^ k < 32) q (by omega)) (by decide))) (cwV 1 hts gX11_usefulStates_X11_allFrom rfl rfl rfl (by decide +kernel) ⟨Nat.le_of_ble_eq_true rfl, Nat.le_of_ble_eq_true rfl⟩) (okPV hK hP rfl (gM0 g σ tl)) rfl rfl hl.1 rfl (lv_room (Nat.le_of_ble_eq_true rfl)) dX11_usefulStates_39 ⟨Nat.le_of_ble_eq_true rfl, Nat.le_of_ble_eq_true rfl⟩)) (fun r_39 h_39 => ?_)
              subst h_39
              refine lv_iload_n hx hb dX11_usefulStates_42 rfl (lv_at hl 2 rfl) ?_
              refine jn_iand hx hb dX11_usefulStates_43 ?_
              refine jn_zeq hx hb (and_lt (by omega)) (tgt := 54) dX11_usefulStates_44 (by decide) (fun c_44 => ?_) (fun c_44 => ?_)
              · refine lv_iinc (v := nI (q + 1)) (lv' := [(4, .int (nI (q + 1))), (0, .ref (g.2.2.2 0)), (1, .int (nI (a ||| (alF (σ.2.1 0) a)))), (2, .int (nI b)), (3, .int (nI i))]) hx hb dX11_usefulStates_54 hl (k := 4) rfl (jn_ii _ 1) (by decide) rfl (fun ls hl => ?_)
                refine lv_goto (tgt := 28) hx hb dX11_usefulStates_57 (by decide) ?_
                exact ih28 (q + 1) b (by omega) (by rw [h5]; first | rw [bI, if_pos (by rw [← h5]; exact c_44)] | rw [bI, if_neg (by rw [← h5]; exact c_44)]) (by omega) _ (lv_sub hl [1, 2, 3, 4, 0] rfl)
              · refine lv_iload_n hx hb dX11_usefulStates_47 rfl (lv_at hl 2 rfl) ?_
                refine lv_iconst (v := nI 1) hx hb dX11_usefulStates_48 (by decide) ?_
                refine lv_iload hx hb dX11_usefulStates_49 (lv_at hl 4 rfl) ?_
                refine jn_shl1 hx hb (by omega) dX11_usefulStates_51 ?_
                refine jn_ior hx hb dX11_usefulStates_52 ?_
                refine lv_istore_n (lv' := [(2, .int (nI (b ||| (2 ^ q)))), (0, .ref (g.2.2.2 0)), (1, .int (nI (a ||| (alF (σ.2.1 0) a)))), (3, .int (nI i)), (4, .int (nI q))]) hx hb dX11_usefulStates_53 rfl hl (by decide) rfl (fun ls hl => ?_)
                refine lv_iinc (v := nI (q + 1)) (lv' := [(4, .int (nI (q + 1))), (2, .int (nI (b ||| (2 ^ q)))), (0, .ref (g.2.2.2 0)), (1, .int (nI (a ||| (alF (σ.2.1 0) a)))), (3, .int (nI i))]) hx hb dX11_usefulStates_54 hl (k := 4) rfl (jn_ii _ 1) (by decide) rfl (fun ls hl => ?_)
                refine lv_goto (tgt := 28) hx hb dX11_usefulStates_57 (by decide) ?_
                exact ih28 (q + 1) (b ||| (2 ^ q)) (by omega) (by rw [h5]; first | rw [bI, if_pos (by rw [← h5]; exact c_44)] | rw [bI, if_neg (by rw [← h5]; exact c_44)]) (by omega) _ (lv_sub hl [2, 3, 1, 4, 0] rfl)
        exact lp28 _ 0 b (by decide) (by rw [h3]; rfl) (Nat.lt_succ_self _) _ (lv_sub hl [2, 1, 3, 4, 0] rfl)
  exact lp12 _ 0 1 ((σ.2.1 0) 15) (by decide) rfl rfl (Nat.lt_succ_self _) _ (lv_sub hl [3, 2, 1, 0] rfl)

abbrev r_c_X11_after : Room := { frames := 1, cells := 0, slots := 0, locals := 22 }
set_option maxHeartbeats 4000000 in
set_option maxRecDepth 100000 in
theorem c_X11_after (l : Launch) (g : GC) (tl : va_W) (σ : SS) (st x : Nat) (hst : st < 2147483648) (hx : x < 3) : Met l yX11_after wsX11_after r_c_X11_after (va_Pc [.ref (g.2.2.2 0), .int (nI st), .int (nI x)] (PP g (wM g σ ++ tl))) (vp_Si (fun r => r = nI (stp (σ.2.1 0) x st))) 0 0 (fun _ => False) := by
  refine jn_pi (cc := cX11_after) (maxL := 5) (own := RX11) (by decide) rfl rfl (Nat.le_of_ble_eq_true rfl) ?_
  intro p e s m below meth c Q hx hb hml hown hts ⟨hP, hK⟩ hq ls hl
  have hl : lv_has ls 5 [(0, .ref (g.2.2.2 0)), (1, .int (nI st)), (2, .int (nI x))] := hl
  refine lv_iconst (v := nI 0) hx hb dX11_after_0 (by decide) ?_
  refine lv_istore_n (lv' := [(3, .int (nI 0)), (0, .ref (g.2.2.2 0)), (1, .int (nI st)), (2, .int (nI x))]) hx hb dX11_after_1 rfl hl (by decide) rfl (fun ls hl => ?_)
  refine lv_iconst (v := nI 0) hx hb dX11_after_2 (by decide) ?_
  refine lv_istore (lv' := [(4, .int (nI 0)), (3, .int (nI 0)), (0, .ref (g.2.2.2 0)), (1, .int (nI st)), (2, .int (nI x))]) hx hb dX11_after_3 hl (by decide) rfl (fun ls hl => ?_)
  have lp5 : ∀ (fu : Nat), ∀ (q : Nat) (z : Nat), (q ≤ 5) → (z = orU (fun q => if Nat.testBit st q = true then (σ.2.1 0) (q * 3 + x) else 0) q) → 5 - q < fu → ∀ ls : Array Slot, lv_has ls 5 [(0, .ref (g.2.2.2 0)), (1, .int (nI st)), (2, .int (nI x)), (3, .int (nI z)), (4, .int (nI q))] → W p l e r_c_X11_after s m ([.ref (g.2.2.2 0), .int (nI st), .int (nI x)] : List Value).toArray below meth c s.heap [] 0 0 Q (F0 m 5 ls []) := by
    intro fu
    induction fu with
    | zero => intro q z h1 h2 hf; exact absurd hf (Nat.not_lt_zero _)
    | succ fu ih5 =>
      intro q z h1 h2 hf ls hl
      refine lv_iload hx hb dX11_after_5 (lv_at hl 4 rfl) ?_
      refine lv_iconst (v := nI 5) hx hb dX11_after_7 (by decide) ?_
      refine jn_cge hx hb (by omega) (by decide) (tgt := 36) dX11_after_8 (by decide) (fun c_8 => ?_) (fun c_8 => ?_)
      · refine lv_iload_n hx hb dX11_after_36 rfl (lv_at hl 3 rfl) ?_
        exact hq _ _ ((nI z)) dX11_after_37 (by rw [h2, show q = 5 by omega]; rfl)
      · refine lv_iload_n hx hb dX11_after_11 rfl (lv_at hl 1 rfl) ?_
        refine lv_iload hx hb dX11_after_12 (lv_at hl 4 rfl) ?_
        refine vp_callSi (va_Run.run (va_runS (As := [.int (nI st), .int (nI q)]) (rest := []) ⟨hx, hb, hml, hown, hts⟩ (c_X11_has l st q hst (by omega)) (va_cwS 2 hts gX11_after_X11_has rfl rfl rfl (by decide +kernel) ⟨Nat.le_of_ble_eq_true rfl, Nat.le_of_ble_eq_true rfl⟩) okTS rfl rfl hl.1 rfl (lv_room (Nat.le_of_ble_eq_true rfl)) dX11_after_14 ⟨Nat.le_of_ble_eq_true rfl, Nat.le_of_ble_eq_true rfl⟩)) (fun r_14 h_14 => ?_)
        subst h_14
        refine jn_beq hx hb (tgt := 30) dX11_after_17 (by decide) (fun c_17 => ?_) (fun c_17 => ?_)
        · refine lv_iinc (v := nI (q + 1)) (lv' := [(4, .int (nI (q + 1))), (0, .ref (g.2.2.2 0)), (1, .int (nI st)), (2, .int (nI x)), (3, .int (nI z))]) hx hb dX11_after_30 hl (k := 4) rfl (jn_ii _ 1) (by decide) rfl (fun ls hl => ?_)
          refine lv_goto (tgt := 5) hx hb dX11_after_33 (by decide) ?_
          exact ih5 (q + 1) z (by omega) (by rw [h2, orU_s]; first | (show _ = _ ||| (if _ then _ else _); rw [if_pos c_17]) | (show _ = _ ||| (if _ then _ else _); rw [if_neg c_17]; exact (Nat.or_zero _).symm)) (by omega) _ (lv_sub hl [1, 2, 3, 4, 0] rfl)
        · refine lv_iload_n hx hb dX11_after_20 rfl (lv_at hl 3 rfl) ?_
          refine lv_aload_n hx hb dX11_after_21 rfl (lv_at hl 0 rfl) ?_
          refine lv_iload hx hb dX11_after_22 (lv_at hl 4 rfl) ?_
          refine lv_iload_n hx hb dX11_after_24 rfl (lv_at hl 2 rfl) ?_
          refine vp_callSi (va_Run.run (va_runV (As := [.int (nI q), .int (nI x)]) (rest := [.int (nI z)]) ⟨hx, hb, hml, hown, hts⟩ (c_X11_next l g tl σ q x (by omega) (by omega)) (cwV 2 hts gX11_after_X11_next rfl rfl rfl (by decide +kernel) ⟨Nat.le_of_ble_eq_true rfl, Nat.le_of_ble_eq_true rfl⟩) (okPV hK hP rfl (gM0 g σ tl)) rfl rfl hl.1 rfl (lv_room (Nat.le_of_ble_eq_true rfl)) dX11_after_25 ⟨Nat.le_of_ble_eq_true rfl, Nat.le_of_ble_eq_true rfl⟩)) (fun r_25 h_25 => ?_)
          subst h_25
          refine jn_ior hx hb dX11_after_28 ?_
          refine lv_istore_n (lv' := [(3, .int (nI (z ||| ((σ.2.1 0) (q * 3 + x))))), (0, .ref (g.2.2.2 0)), (1, .int (nI st)), (2, .int (nI x)), (4, .int (nI q))]) hx hb dX11_after_29 rfl hl (by decide) rfl (fun ls hl => ?_)
          refine lv_iinc (v := nI (q + 1)) (lv' := [(4, .int (nI (q + 1))), (3, .int (nI (z ||| ((σ.2.1 0) (q * 3 + x))))), (0, .ref (g.2.2.2 0)), (1, .int (nI st)), (2, .int (nI x))]) hx hb dX11_after_30 hl (k := 4) rfl (jn_ii _ 1) (by decide) rfl (fun ls hl => ?_)
          refine lv_goto (tgt := 5) hx hb dX11_after_33 (by decide) ?_
          exact ih5 (q + 1) (z ||| ((σ.2.1 0) (q * 3 + x))) (by omega) (by rw [h2, orU_s]; first | (show _ = _ ||| (if _ then _ else _); rw [if_pos c_17]) | (show _ = _ ||| (if _ then _ else _); rw [if_neg c_17]; exact (Nat.or_zero _).symm)) (by omega) _ (lv_sub hl [2, 3, 4, 1, 0] rfl)
  exact lp5 _ 0 0 (by decide) rfl (Nat.lt_succ_self _) _ (lv_sub hl [2, 3, 4, 1, 0] rfl)

abbrev r_c_X11_isInOrder_6 : Room := { frames := 2, cells := 0, slots := 0, locals := 46 }
set_option maxHeartbeats 4000000 in
set_option maxRecDepth 100000 in
theorem c_X11_isInOrder_6 (l : Launch) (g : GC) (tl : va_W) (σ : SS) (n : Nat) (hT : OkT (σ.2.1 0)) (hF : ((σ.2.1 0) 15) < 32) (hn : n ≤ 8) (hw : ∀ i, i < n → (σ.2.1 5) i < 3) : Met l yX11_isInOrder wsX11_isInOrder r_c_X11_isInOrder_6 (va_Pc [.ref (g.2.2.2 0), .ref (g.2.2.2 6), .int (nI n)] (PP g (wM g σ ++ tl))) (vp_Si (fun r => r = nI (if wrun (σ.2.1 0) (σ.2.1 5) n &&& ((σ.2.1 0) 15) ≠ 0 then 1 else 0))) 0 0 (fun _ => False) := by
  refine jn_pz (cc := cX11_isInOrder) (maxL := 5) (own := RX11) (by decide) rfl rfl (Nat.le_of_ble_eq_true rfl) ?_
  intro p e s m below meth c Q hx hb hml hown hts ⟨hP, hK⟩ hq ls hl
  have hl : lv_has ls 5 [(0, .ref (g.2.2.2 0)), (1, .ref (g.2.2.2 6)), (2, .int (nI n))] := hl
  have iX11 : ∀ w ∈ wsX110, w ∈ wsX11_isInOrder := by decide +kernel
  have k13 := hts (.fieldLink RX11 13 "JumpingAutomataModel" "now" "[I") (by decide +kernel)
  refine lv_iconst (v := nI 1) hx hb dX11_isInOrder_0 (by decide) ?_
  refine lv_istore_n (lv' := [(3, .int (nI 1)), (0, .ref (g.2.2.2 0)), (1, .ref (g.2.2.2 6)), (2, .int (nI n))]) hx hb dX11_isInOrder_1 rfl hl (by decide) rfl (fun ls hl => ?_)
  refine lv_iconst (v := nI 0) hx hb dX11_isInOrder_2 (by decide) ?_
  refine lv_istore (lv' := [(4, .int (nI 0)), (3, .int (nI 1)), (0, .ref (g.2.2.2 0)), (1, .ref (g.2.2.2 6)), (2, .int (nI n))]) hx hb dX11_isInOrder_3 hl (by decide) rfl (fun ls hl => ?_)
  have lp5 : ∀ (fu : Nat), ∀ (i : Nat) (z : Nat), (i ≤ n) → (z = wrun (σ.2.1 0) (σ.2.1 5) i) → n - i < fu → ∀ ls : Array Slot, lv_has ls 5 [(0, .ref (g.2.2.2 0)), (1, .ref (g.2.2.2 6)), (2, .int (nI n)), (3, .int (nI z)), (4, .int (nI i))] → W p l e r_c_X11_isInOrder_6 s m ([.ref (g.2.2.2 0), .ref (g.2.2.2 6), .int (nI n)] : List Value).toArray below meth c s.heap [] 0 0 Q (F0 m 5 ls []) := by
    intro fu
    induction fu with
    | zero => intro i z h1 h2 hf; exact absurd hf (Nat.not_lt_zero _)
    | succ fu ih5 =>
      intro i z h1 h2 hf ls hl
      have hz : z < 32 := by rw [h2]; exact wrun_lt hT i (fun j hj => hw j (by omega))
      refine lv_iload hx hb dX11_isInOrder_5 (lv_at hl 4 rfl) ?_
      refine lv_iload_n hx hb dX11_isInOrder_7 rfl (lv_at hl 2 rfl) ?_
      refine jn_cge hx hb (by omega) (by omega) (tgt := 27) dX11_isInOrder_8 (by decide) (fun c_8 => ?_) (fun c_8 => ?_)
      · refine lv_iload_n hx hb dX11_isInOrder_27 rfl (lv_at hl 3 rfl) ?_
        refine lv_aload_n hx hb dX11_isInOrder_28 rfl (lv_at hl 0 rfl) ?_
        refine va_get (D := (g.1, g.2.1)) (ci := 13) (v := .ref (g.2.2.2 1)) (C := RX11) (T := TX11) (N := 30) hx hb hts iX11 hown hK.1 hP 0 (gM0 g σ tl) rfl 1 (by decide) k13 (fun _ h9 => h9) rfl dX11_isInOrder_29 ?_
        refine lv_bipush (v := nI 15) hx hb dX11_isInOrder_32 (by decide) ?_
        refine jn_iald (f := σ.2.1 0) hx hb hK.1 hP 1 0 (gM1 g σ tl) rfl (by decide) (Nat.le_of_ble_eq_true rfl) dX11_isInOrder_34 ?_
        refine jn_iand hx hb dX11_isInOrder_35 ?_
        refine jn_zeq hx hb (and_ltl (by omega)) (tgt := 43) dX11_isInOrder_36 (by decide) (fun c_36 => ?_) (fun c_36 => ?_)
        · rw [h2, show i = n by omega] at c_36
          refine lv_iconst (v := nI 0) hx hb dX11_isInOrder_43 (by decide) ?_
          exact hq _ _ ((nI 0)) dX11_isInOrder_44 jn_n0 (by first | exact n_if1 c_36 | exact n_if0 (fun q => q c_36))
        · rw [h2, show i = n by omega] at c_36
          refine lv_iconst (v := nI 1) hx hb dX11_isInOrder_39 (by decide) ?_
          refine lv_goto (tgt := 44) hx hb dX11_isInOrder_40 (by decide) ?_
          exact hq _ _ ((nI 1)) dX11_isInOrder_44 jn_n1 (by first | exact n_if1 c_36 | exact n_if0 (fun q => q c_36))
      · refine lv_aload_n hx hb dX11_isInOrder_11 rfl (lv_at hl 0 rfl) ?_
        refine lv_iload_n hx hb dX11_isInOrder_12 rfl (lv_at hl 3 rfl) ?_
        refine lv_aload_n hx hb dX11_isInOrder_13 rfl (lv_at hl 1 rfl) ?_
        refine lv_iload hx hb dX11_isInOrder_14 (lv_at hl 4 rfl) ?_
        refine jn_iald (f := σ.2.1 5) hx hb hK.1 hP 6 0 (gM6 g σ tl) rfl (by omega) (Nat.le_of_ble_eq_true rfl) dX11_isInOrder_16 ?_
        refine vp_callSi (va_Run.run (va_runV (As := [.int (nI z), .int (nI ((σ.2.1 5) i))]) (rest := []) ⟨hx, hb, hml, hown, hts⟩ (c_X11_after l g tl σ z ((σ.2.1 5) i) (by omega) (hw i (by omega))) (cwV 2 hts gX11_isInOrder_X11_after rfl rfl rfl (by decide +kernel) ⟨Nat.le_of_ble_eq_true rfl, Nat.le_of_ble_eq_true rfl⟩) (okPV hK hP rfl (gM0 g σ tl)) rfl rfl hl.1 rfl (lv_room (Nat.le_of_ble_eq_true rfl)) dX11_isInOrder_17 ⟨Nat.le_of_ble_eq_true rfl, Nat.le_of_ble_eq_true rfl⟩)) (fun r_17 h_17 => ?_)
        subst h_17
        refine lv_istore_n (lv' := [(3, .int (nI (stp (σ.2.1 0) ((σ.2.1 5) i) z))), (0, .ref (g.2.2.2 0)), (1, .ref (g.2.2.2 6)), (2, .int (nI n)), (4, .int (nI i))]) hx hb dX11_isInOrder_20 rfl hl (by decide) rfl (fun ls hl => ?_)
        refine lv_iinc (v := nI (i + 1)) (lv' := [(4, .int (nI (i + 1))), (3, .int (nI (stp (σ.2.1 0) ((σ.2.1 5) i) z))), (0, .ref (g.2.2.2 0)), (1, .ref (g.2.2.2 6)), (2, .int (nI n))]) hx hb dX11_isInOrder_21 hl (k := 4) rfl (jn_ii _ 1) (by decide) rfl (fun ls hl => ?_)
        refine lv_goto (tgt := 5) hx hb dX11_isInOrder_24 (by decide) ?_
        exact ih5 (i + 1) (stp (σ.2.1 0) ((σ.2.1 5) i) z) (by omega) (by rw [h2]; rfl) (by omega) _ (lv_sub hl [2, 3, 4, 1, 0] rfl)
  exact lp5 _ 0 1 (by omega) rfl (Nat.lt_succ_self _) _ (lv_sub hl [2, 3, 4, 1, 0] rfl)

abbrev r_c_X11_isInOrder_7 : Room := { frames := 2, cells := 0, slots := 0, locals := 46 }
set_option maxHeartbeats 4000000 in
set_option maxRecDepth 100000 in
theorem c_X11_isInOrder_7 (l : Launch) (g : GC) (tl : va_W) (σ : SS) (n : Nat) (hT : OkT (σ.2.1 0)) (hF : ((σ.2.1 0) 15) < 32) (hn : n ≤ 8) (hw : ∀ i, i < n → (σ.2.1 6) i < 3) : Met l yX11_isInOrder wsX11_isInOrder r_c_X11_isInOrder_7 (va_Pc [.ref (g.2.2.2 0), .ref (g.2.2.2 7), .int (nI n)] (PP g (wM g σ ++ tl))) (vp_Si (fun r => r = nI (if wrun (σ.2.1 0) (σ.2.1 6) n &&& ((σ.2.1 0) 15) ≠ 0 then 1 else 0))) 0 0 (fun _ => False) := by
  refine jn_pz (cc := cX11_isInOrder) (maxL := 5) (own := RX11) (by decide) rfl rfl (Nat.le_of_ble_eq_true rfl) ?_
  intro p e s m below meth c Q hx hb hml hown hts ⟨hP, hK⟩ hq ls hl
  have hl : lv_has ls 5 [(0, .ref (g.2.2.2 0)), (1, .ref (g.2.2.2 7)), (2, .int (nI n))] := hl
  have iX11 : ∀ w ∈ wsX110, w ∈ wsX11_isInOrder := by decide +kernel
  have k13 := hts (.fieldLink RX11 13 "JumpingAutomataModel" "now" "[I") (by decide +kernel)
  refine lv_iconst (v := nI 1) hx hb dX11_isInOrder_0 (by decide) ?_
  refine lv_istore_n (lv' := [(3, .int (nI 1)), (0, .ref (g.2.2.2 0)), (1, .ref (g.2.2.2 7)), (2, .int (nI n))]) hx hb dX11_isInOrder_1 rfl hl (by decide) rfl (fun ls hl => ?_)
  refine lv_iconst (v := nI 0) hx hb dX11_isInOrder_2 (by decide) ?_
  refine lv_istore (lv' := [(4, .int (nI 0)), (3, .int (nI 1)), (0, .ref (g.2.2.2 0)), (1, .ref (g.2.2.2 7)), (2, .int (nI n))]) hx hb dX11_isInOrder_3 hl (by decide) rfl (fun ls hl => ?_)
  have lp5 : ∀ (fu : Nat), ∀ (i : Nat) (z : Nat), (i ≤ n) → (z = wrun (σ.2.1 0) (σ.2.1 6) i) → n - i < fu → ∀ ls : Array Slot, lv_has ls 5 [(0, .ref (g.2.2.2 0)), (1, .ref (g.2.2.2 7)), (2, .int (nI n)), (3, .int (nI z)), (4, .int (nI i))] → W p l e r_c_X11_isInOrder_7 s m ([.ref (g.2.2.2 0), .ref (g.2.2.2 7), .int (nI n)] : List Value).toArray below meth c s.heap [] 0 0 Q (F0 m 5 ls []) := by
    intro fu
    induction fu with
    | zero => intro i z h1 h2 hf; exact absurd hf (Nat.not_lt_zero _)
    | succ fu ih5 =>
      intro i z h1 h2 hf ls hl
      have hz : z < 32 := by rw [h2]; exact wrun_lt hT i (fun j hj => hw j (by omega))
      refine lv_iload hx hb dX11_isInOrder_5 (lv_at hl 4 rfl) ?_
      refine lv_iload_n hx hb dX11_isInOrder_7 rfl (lv_at hl 2 rfl) ?_
      refine jn_cge hx hb (by omega) (by omega) (tgt := 27) dX11_isInOrder_8 (by decide) (fun c_8 => ?_) (fun c_8 => ?_)
      · refine lv_iload_n hx hb dX11_isInOrder_27 rfl (lv_at hl 3 rfl) ?_
        refine lv_aload_n hx hb dX11_isInOrder_28 rfl (lv_at hl 0 rfl) ?_
        refine va_get (D := (g.1, g.2.1)) (ci := 13) (v := .ref (g.2.2.2 1)) (C := RX11) (T := TX11) (N := 30) hx hb hts iX11 hown hK.1 hP 0 (gM0 g σ tl) rfl 1 (by decide) k13 (fun _ h9 => h9) rfl dX11_isInOrder_29 ?_
        refine lv_bipush (v := nI 15) hx hb dX11_isInOrder_32 (by decide) ?_
        refine jn_iald (f := σ.2.1 0) hx hb hK.1 hP 1 0 (gM1 g σ tl) rfl (by decide) (Nat.le_of_ble_eq_true rfl) dX11_isInOrder_34 ?_
        refine jn_iand hx hb dX11_isInOrder_35 ?_
        refine jn_zeq hx hb (and_ltl (by omega)) (tgt := 43) dX11_isInOrder_36 (by decide) (fun c_36 => ?_) (fun c_36 => ?_)
        · rw [h2, show i = n by omega] at c_36
          refine lv_iconst (v := nI 0) hx hb dX11_isInOrder_43 (by decide) ?_
          exact hq _ _ ((nI 0)) dX11_isInOrder_44 jn_n0 (by first | exact n_if1 c_36 | exact n_if0 (fun q => q c_36))
        · rw [h2, show i = n by omega] at c_36
          refine lv_iconst (v := nI 1) hx hb dX11_isInOrder_39 (by decide) ?_
          refine lv_goto (tgt := 44) hx hb dX11_isInOrder_40 (by decide) ?_
          exact hq _ _ ((nI 1)) dX11_isInOrder_44 jn_n1 (by first | exact n_if1 c_36 | exact n_if0 (fun q => q c_36))
      · refine lv_aload_n hx hb dX11_isInOrder_11 rfl (lv_at hl 0 rfl) ?_
        refine lv_iload_n hx hb dX11_isInOrder_12 rfl (lv_at hl 3 rfl) ?_
        refine lv_aload_n hx hb dX11_isInOrder_13 rfl (lv_at hl 1 rfl) ?_
        refine lv_iload hx hb dX11_isInOrder_14 (lv_at hl 4 rfl) ?_
        refine jn_iald (f := σ.2.1 6) hx hb hK.1 hP 7 0 (gM7 g σ tl) rfl (by omega) (Nat.le_of_ble_eq_true rfl) dX11_isInOrder_16 ?_
        refine vp_callSi (va_Run.run (va_runV (As := [.int (nI z), .int (nI ((σ.2.1 6) i))]) (rest := []) ⟨hx, hb, hml, hown, hts⟩ (c_X11_after l g tl σ z ((σ.2.1 6) i) (by omega) (hw i (by omega))) (cwV 2 hts gX11_isInOrder_X11_after rfl rfl rfl (by decide +kernel) ⟨Nat.le_of_ble_eq_true rfl, Nat.le_of_ble_eq_true rfl⟩) (okPV hK hP rfl (gM0 g σ tl)) rfl rfl hl.1 rfl (lv_room (Nat.le_of_ble_eq_true rfl)) dX11_isInOrder_17 ⟨Nat.le_of_ble_eq_true rfl, Nat.le_of_ble_eq_true rfl⟩)) (fun r_17 h_17 => ?_)
        subst h_17
        refine lv_istore_n (lv' := [(3, .int (nI (stp (σ.2.1 0) ((σ.2.1 6) i) z))), (0, .ref (g.2.2.2 0)), (1, .ref (g.2.2.2 7)), (2, .int (nI n)), (4, .int (nI i))]) hx hb dX11_isInOrder_20 rfl hl (by decide) rfl (fun ls hl => ?_)
        refine lv_iinc (v := nI (i + 1)) (lv' := [(4, .int (nI (i + 1))), (3, .int (nI (stp (σ.2.1 0) ((σ.2.1 6) i) z))), (0, .ref (g.2.2.2 0)), (1, .ref (g.2.2.2 7)), (2, .int (nI n))]) hx hb dX11_isInOrder_21 hl (k := 4) rfl (jn_ii _ 1) (by decide) rfl (fun ls hl => ?_)
        refine lv_goto (tgt := 5) hx hb dX11_isInOrder_24 (by decide) ?_
        exact ih5 (i + 1) (stp (σ.2.1 0) ((σ.2.1 6) i) z) (by omega) (by rw [h2]; rfl) (by omega) _ (lv_sub hl [2, 3, 4, 1, 0] rfl)
  exact lp5 _ 0 1 (by omega) rfl (Nat.lt_succ_self _) _ (lv_sub hl [2, 3, 4, 1, 0] rfl)

abbrev r_c_X11_place : Room := { frames := 0, cells := 0, slots := 0, locals := 0 }
set_option maxHeartbeats 4000000 in
set_option maxRecDepth 100000 in
theorem c_X11_place (l : Launch) (a b c2 : Nat) : Met l yX11_place wsX11_place r_c_X11_place (va_Pc [.int (nI a), .int (nI b), .int (nI c2)] (fun _ => True)) (vp_Si (fun r => r = nI (100 * a + 10 * b + c2))) 0 0 (fun _ => False) := by
  refine jn_pi (cc := cX11_place) (maxL := 3) (own := RX11) (by decide) rfl rfl (Nat.le_of_ble_eq_true rfl) ?_
  intro p e s m below meth c Q hx hb hml hown hts _ hq ls hl
  have hl : lv_has ls 3 [(0, .int (nI a)), (1, .int (nI b)), (2, .int (nI c2))] := hl
  refine lv_bipush (v := nI 10) hx hb dX11_place_0 (by decide) ?_
  refine lv_iload_n hx hb dX11_place_2 rfl (lv_at hl 0 rfl) ?_
  refine jn_imul hx hb dX11_place_3 ?_
  refine lv_iload_n hx hb dX11_place_4 rfl (lv_at hl 1 rfl) ?_
  refine jn_iadd hx hb dX11_place_5 ?_
  refine lv_bipush (v := nI 10) hx hb dX11_place_6 (by decide) ?_
  refine jn_imul hx hb dX11_place_8 ?_
  refine lv_iload_n hx hb dX11_place_9 rfl (lv_at hl 2 rfl) ?_
  refine jn_iadd hx hb dX11_place_10 ?_
  exact hq _ _ ((nI ((((10 * a) + b) * 10) + c2))) dX11_place_11 (congrArg nI (by omega))

abbrev r_c_X11_layReached : Room := { frames := 2, cells := 0, slots := 0, locals := 46 }
set_option maxHeartbeats 4000000 in
set_option maxRecDepth 100000 in
theorem c_X11_layReached (l : Launch) (g : GC) (tl : va_W) (sz : Nat) (σ : SS) (hT : OkT (σ.2.1 0)) : Met l yX11_layReached wsX11_layReached r_c_X11_layReached (va_Pc [.ref (g.2.2.2 0)] (PW g (wM g σ ++ tl) sz)) (va_Qv (fun (f : (Nat → Nat)) => ∀ a b c, a < 10 → b < 10 → c < 10 → f (100 * a + 10 * b + c) = rch (σ.2.1 0) a b c) (fun (f : (Nat → Nat)) t => BW g (va_A (wM g σ ++ tl) sz) (wM g (sA σ 7 f) ++ tl) t) (va_A (wM g σ ++ tl) sz)) 0 0 (va_A (wM g σ ++ tl) sz) := by
  refine jn_sv (wf := fun f : (Nat → Nat) => wM g (sA σ 7 f) ++ tl) (cc := cX11_layReached) (maxL := 5) (own := RX11) (by decide) rfl rfl (Nat.le_of_ble_eq_true rfl) ?_
  intro p e s m below meth c Q A hx hb hml hown hts hK hP hD hS hAA hq ls hl
  obtain ⟨H, eH⟩ : ∃ z, z = s.heap := ⟨_, rfl⟩
  obtain ⟨locs, el⟩ : ∃ z : List Loc, z = [] := ⟨_, rfl⟩
  rw [← eH] at hP
  have hS : va_S A s.heap H locs := by rw [eH, el]; exact hS
  have goal0 : W p l e r_c_X11_layReached s m ([.ref (g.2.2.2 0)] : List Value).toArray below meth c H locs 0 0 Q (F0 m 0 ls []) → W p l e r_c_X11_layReached s m ([.ref (g.2.2.2 0)] : List Value).toArray below meth c s.heap [] 0 0 Q (F0 m 0 ls []) := fun h => by rw [eH, el] at h; exact h
  refine goal0 ?_
  have hl : lv_has ls 5 [(0, .ref (g.2.2.2 0))] := hl
  have iX11 : ∀ w ∈ wsX110, w ∈ wsX11_layReached := by decide +kernel
  have k54 := hts (.fieldLink RX11 54 "JumpingAutomataModel" "by" "[I") (by decide +kernel)
  refine lv_iconst (v := nI 0) hx hb dX11_layReached_0 (by decide) ?_
  refine lv_istore_n (lv' := [(1, .int (nI 0)), (0, .ref (g.2.2.2 0))]) hx hb dX11_layReached_1 rfl hl (by decide) rfl (fun ls hl => ?_)
  have lp2 : ∀ (fu : Nat), ∀ (a : Nat) (f : Nat → Nat), (a ≤ 10) → (Dn (σ.2.1 0) f 9 9 a 0 0) → 10 - a < fu → ∀ (H : Heap) (locs : List Loc), va_P (g.1, g.2.1) vwCl (wM g (sA σ 7 f) ++ tl) H → va_D A (wM g (sA σ 7 f) ++ tl) → va_S A s.heap H locs → ∀ ls : Array Slot, lv_has ls 5 [(0, .ref (g.2.2.2 0)), (1, .int (nI a))] → W p l e r_c_X11_layReached s m ([.ref (g.2.2.2 0)] : List Value).toArray below meth c H locs 0 0 Q (F0 m 2 ls []) := by
    intro fu
    induction fu with
    | zero => intro a f h1 h2 hf; exact absurd hf (Nat.not_lt_zero _)
    | succ fu ih2 =>
      intro a f h1 h2 hf H locs hP hD hS ls hl
      refine lv_iload_n hx hb dX11_layReached_2 rfl (lv_at hl 1 rfl) ?_
      refine lv_bipush (v := nI 10) hx hb dX11_layReached_3 (by decide) ?_
      refine jn_cge hx hb (by omega) (by decide) (tgt := 151) dX11_layReached_5 (by decide) (fun c_5 => ?_) (fun c_5 => ?_)
      · exact hq _ _ _ _ (f) dX11_layReached_151 (fun x y z hx hy hz => h2 x y z (by omega) (by omega) (by omega)) hP hD hS
      · refine lv_iconst (v := nI 0) hx hb dX11_layReached_8 (by decide) ?_
        refine lv_istore_n (lv' := [(2, .int (nI 0)), (0, .ref (g.2.2.2 0)), (1, .int (nI a))]) hx hb dX11_layReached_9 rfl hl (by decide) rfl (fun ls hl => ?_)
        have lp10 : ∀ (fu : Nat), ∀ (b : Nat) (f : Nat → Nat), (b ≤ 10) → (Dn (σ.2.1 0) f 9 9 a b 0) → 10 - b < fu → ∀ (H : Heap) (locs : List Loc), va_P (g.1, g.2.1) vwCl (wM g (sA σ 7 f) ++ tl) H → va_D A (wM g (sA σ 7 f) ++ tl) → va_S A s.heap H locs → ∀ ls : Array Slot, lv_has ls 5 [(0, .ref (g.2.2.2 0)), (1, .int (nI a)), (2, .int (nI b))] → W p l e r_c_X11_layReached s m ([.ref (g.2.2.2 0)] : List Value).toArray below meth c H locs 0 0 Q (F0 m 10 ls []) := by
          intro fu
          induction fu with
          | zero => intro b f h3 h4 hf; exact absurd hf (Nat.not_lt_zero _)
          | succ fu ih10 =>
            intro b f h3 h4 hf H locs hP hD hS ls hl
            refine lv_iload_n hx hb dX11_layReached_10 rfl (lv_at hl 2 rfl) ?_
            refine lv_bipush (v := nI 10) hx hb dX11_layReached_11 (by decide) ?_
            refine jn_cge hx hb (by omega) (by decide) (tgt := 145) dX11_layReached_13 (by decide) (fun c_13 => ?_) (fun c_13 => ?_)
            · refine lv_iinc (v := nI (a + 1)) (lv' := [(1, .int (nI (a + 1))), (0, .ref (g.2.2.2 0)), (2, .int (nI b))]) hx hb dX11_layReached_145 hl (k := 1) rfl (jn_ii _ 1) (by decide) rfl (fun ls hl => ?_)
              refine lv_goto (tgt := 2) hx hb dX11_layReached_148 (by decide) ?_
              exact ih2 (a + 1) f (by omega) (dn_a h4 (by omega)) (by omega) _ _ hP hD hS _ (lv_sub hl [1, 0] rfl)
            · refine lv_iconst (v := nI 0) hx hb dX11_layReached_16 (by decide) ?_
              refine lv_istore_n (lv' := [(3, .int (nI 0)), (0, .ref (g.2.2.2 0)), (1, .int (nI a)), (2, .int (nI b))]) hx hb dX11_layReached_17 rfl hl (by decide) rfl (fun ls hl => ?_)
              have lp18 : ∀ (fu : Nat), ∀ (c0 : Nat) (f : Nat → Nat), (c0 ≤ 10) → (Dn (σ.2.1 0) f 9 9 a b c0) → 10 - c0 < fu → ∀ (H : Heap) (locs : List Loc), va_P (g.1, g.2.1) vwCl (wM g (sA σ 7 f) ++ tl) H → va_D A (wM g (sA σ 7 f) ++ tl) → va_S A s.heap H locs → ∀ ls : Array Slot, lv_has ls 5 [(0, .ref (g.2.2.2 0)), (1, .int (nI a)), (2, .int (nI b)), (3, .int (nI c0))] → W p l e r_c_X11_layReached s m ([.ref (g.2.2.2 0)] : List Value).toArray below meth c H locs 0 0 Q (F0 m 18 ls []) := by
                intro fu
                induction fu with
                | zero => intro c0 f h5 h6 hf; exact absurd hf (Nat.not_lt_zero _)
                | succ fu ih18 =>
                  intro c0 f h5 h6 hf H locs hP hD hS ls hl
                  refine lv_iload_n hx hb dX11_layReached_18 rfl (lv_at hl 3 rfl) ?_
                  refine lv_bipush (v := nI 10) hx hb dX11_layReached_19 (by decide) ?_
                  refine jn_cge hx hb (by omega) (by decide) (tgt := 139) dX11_layReached_21 (by decide) (fun c_21 => ?_) (fun c_21 => ?_)
                  · refine lv_iinc (v := nI (b + 1)) (lv' := [(2, .int (nI (b + 1))), (0, .ref (g.2.2.2 0)), (1, .int (nI a)), (3, .int (nI c0))]) hx hb dX11_layReached_139 hl (k := 2) rfl (jn_ii _ 1) (by decide) rfl (fun ls hl => ?_)
                    refine lv_goto (tgt := 10) hx hb dX11_layReached_142 (by decide) ?_
                    exact ih10 (b + 1) f (by omega) (dn_b h6 (by omega)) (by omega) _ _ hP hD hS _ (lv_sub hl [1, 2, 0] rfl)
                  · refine lv_iload_n hx hb dX11_layReached_24 rfl (lv_at hl 1 rfl) ?_
                    refine lv_iload_n hx hb dX11_layReached_25 rfl (lv_at hl 2 rfl) ?_
                    refine jn_iadd hx hb dX11_layReached_26 ?_
                    refine lv_iload_n hx hb dX11_layReached_27 rfl (lv_at hl 3 rfl) ?_
                    refine jn_iadd hx hb dX11_layReached_28 ?_
                    have jp37 : ∀ v37 : Nat, v37 = (if a + b + c0 = 0 then 1 else 0) → W p l e r_c_X11_layReached s m ([.ref (g.2.2.2 0)] : List Value).toArray below meth c H locs 0 0 Q (F0 m 37 ls [.int (nI v37)]) := by
                      intro v37 ev37
                      refine lv_istore (lv' := [(4, .int (nI v37)), (0, .ref (g.2.2.2 0)), (1, .int (nI a)), (2, .int (nI b)), (3, .int (nI c0))]) hx hb dX11_layReached_37 hl (by decide) rfl (fun ls hl => ?_)
                      refine lv_iload_n hx hb dX11_layReached_39 rfl (lv_at hl 2 rfl) ?_
                      refine jn_zle hx hb (by omega) (tgt := 66) dX11_layReached_40 (by decide) (fun c_40 => ?_) (fun c_40 => ?_)
                      · refine lv_iload_n hx hb dX11_layReached_66 rfl (lv_at hl 3 rfl) ?_
                        refine jn_zle hx hb (by omega) (tgt := 93) dX11_layReached_67 (by decide) (fun c_67 => ?_) (fun c_67 => ?_)
                        · refine lv_iload_n hx hb dX11_layReached_93 rfl (lv_at hl 4 rfl) ?_
                          refine jn_zle hx hb (by omega) (tgt := 120) dX11_layReached_94 (by decide) (fun c_94 => ?_) (fun c_94 => ?_)
                          · refine lv_aload_n hx hb dX11_layReached_120 rfl (lv_at hl 1 rfl) ?_
                            refine va_get (D := (g.1, g.2.1)) (ci := 13) (v := .ref (g.2.2.2 8)) (C := RX11) (T := TX11) (N := 30) hx hb hts iX11 hown hK.1 hP 0 (gM0 g (sA σ 7 f) tl) rfl 14 (by decide) k54 (fun _ h9 => h9) rfl dX11_layReached_121 ?_
                            refine lv_iload_n hx hb dX11_layReached_124 rfl (lv_at hl 2 rfl) ?_
                            refine lv_iload_n hx hb dX11_layReached_125 rfl (lv_at hl 3 rfl) ?_
                            refine lv_iload_n hx hb dX11_layReached_126 rfl (lv_at hl 4 rfl) ?_
                            refine vp_callSi (va_Run.run (va_runS (As := [.int (nI a), .int (nI b), .int (nI c0)]) (rest := [.ref (g.2.2.2 8)]) ⟨hx, hb, hml, hown, hts⟩ (c_X11_place l a b c0) (va_cwS 3 hts gX11_layReached_X11_place rfl rfl rfl (by decide +kernel) ⟨Nat.le_of_ble_eq_true rfl, Nat.le_of_ble_eq_true rfl⟩) okTS rfl rfl hl.1 rfl (lv_room (Nat.le_of_ble_eq_true rfl)) dX11_layReached_127 ⟨Nat.le_of_ble_eq_true rfl, Nat.le_of_ble_eq_true rfl⟩)) (fun r_127 h_127 => ?_)
                            subst h_127
                            refine lv_iload hx hb dX11_layReached_130 (lv_at hl 0 rfl) ?_
                            refine jn_iast (f := f) hx hb hK.1 hP hD hS 8 0 (gM8 g (sA σ 7 f) tl) rfl (by omega) (Nat.le_of_ble_eq_true rfl) (uM_A7 g (sA σ 7 f) tl _) dX11_layReached_132 (fun H locs hP hD hS => ?_)
                            refine lv_iinc (v := nI (c0 + 1)) (lv' := [(3, .int (nI (c0 + 1))), (4, .int (nI v37)), (0, .ref (g.2.2.2 0)), (1, .int (nI a)), (2, .int (nI b))]) hx hb dX11_layReached_133 hl (k := 4) rfl (jn_ii _ 1) (by decide) rfl (fun ls hl => ?_)
                            refine lv_goto (tgt := 18) hx hb dX11_layReached_136 (by decide) ?_
                            exact ih18 (c0 + 1) (va_up f (100 * a + 10 * b + c0) v37) (by omega) (dn_put (by decide) (by decide) (by omega) (by omega) h6 (rc_v (by first | exact Or.inl ⟨by omega, rfl⟩ | exact Or.inr ⟨by omega, rfl⟩) (by first | exact Or.inl ⟨by omega, rfl⟩ | exact Or.inr ⟨by omega, rfl⟩) (by first | exact Or.inl ⟨by omega, rfl⟩ | exact Or.inr ⟨by omega, rfl⟩) ev37)) (by omega) _ _ hP hD hS _ (lv_sub hl [2, 3, 4, 0] rfl)
                          · refine lv_iload hx hb dX11_layReached_97 (lv_at hl 0 rfl) ?_
                            refine lv_aload_n hx hb dX11_layReached_99 rfl (lv_at hl 1 rfl) ?_
                            refine lv_aload_n hx hb dX11_layReached_100 rfl (lv_at hl 1 rfl) ?_
                            refine va_get (D := (g.1, g.2.1)) (ci := 13) (v := .ref (g.2.2.2 8)) (C := RX11) (T := TX11) (N := 30) hx hb hts iX11 hown hK.1 hP 0 (gM0 g (sA σ 7 f) tl) rfl 14 (by decide) k54 (fun _ h9 => h9) rfl dX11_layReached_101 ?_
                            refine lv_iload_n hx hb dX11_layReached_104 rfl (lv_at hl 2 rfl) ?_
                            refine lv_iload_n hx hb dX11_layReached_105 rfl (lv_at hl 3 rfl) ?_
                            refine lv_iload_n hx hb dX11_layReached_106 rfl (lv_at hl 4 rfl) ?_
                            refine lv_iconst (v := nI 1) hx hb dX11_layReached_107 (by decide) ?_
                            refine jn_isub hx hb (by omega) dX11_layReached_108 ?_
                            refine vp_callSi (va_Run.run (va_runS (As := [.int (nI a), .int (nI b), .int (nI (c0 - 1))]) (rest := [.ref (g.2.2.2 8), .ref (g.2.2.2 0), .int (nI v37)]) ⟨hx, hb, hml, hown, hts⟩ (c_X11_place l a b (c0 - 1)) (va_cwS 3 hts gX11_layReached_X11_place rfl rfl rfl (by decide +kernel) ⟨Nat.le_of_ble_eq_true rfl, Nat.le_of_ble_eq_true rfl⟩) okTS rfl rfl hl.1 rfl (lv_room (Nat.le_of_ble_eq_true rfl)) dX11_layReached_109 ⟨Nat.le_of_ble_eq_true rfl, Nat.le_of_ble_eq_true rfl⟩)) (fun r_109 h_109 => ?_)
                            subst h_109
                            refine jn_iald (f := f) hx hb hK.1 hP 8 0 (gM8 g (sA σ 7 f) tl) rfl (by omega) (Nat.le_of_ble_eq_true rfl) dX11_layReached_112 ?_
                            rw [show f (100 * a + 10 * b + (c0 - 1)) = rch (σ.2.1 0) a b (c0 - 1) from h6 _ _ _ (by omega) (by omega) (by omega)]
                            refine lv_iconst (v := nI 2) hx hb dX11_layReached_113 (by decide) ?_
                            refine vp_callSi (va_Run.run (va_runV (As := [.int (nI (rch (σ.2.1 0) a b (c0 - 1))), .int (nI 2)]) (rest := [.int (nI v37)]) ⟨hx, hb, hml, hown, hts⟩ (c_X11_after l g tl (sA σ 7 f) (rch (σ.2.1 0) a b (c0 - 1)) 2 (Nat.lt_trans (rch_lt hT _ _ _) (by decide)) (by decide)) (cwV 2 hts gX11_layReached_X11_after rfl rfl rfl (by decide +kernel) ⟨Nat.le_of_ble_eq_true rfl, Nat.le_of_ble_eq_true rfl⟩) (okPV hK hP rfl (gM0 g (sA σ 7 f) tl)) rfl rfl hl.1 rfl (lv_room (Nat.le_of_ble_eq_true rfl)) dX11_layReached_114 ⟨Nat.le_of_ble_eq_true rfl, Nat.le_of_ble_eq_true rfl⟩)) (fun r_114 h_114 => ?_)
                            have h_114 : r_114 = (nI (stp (σ.2.1 0) 2 (rch (σ.2.1 0) a b (c0 - 1)))) := h_114
                            subst h_114
                            refine jn_ior hx hb dX11_layReached_117 ?_
                            refine lv_istore (lv' := [(4, .int (nI (v37 ||| (stp (σ.2.1 0) 2 (rch (σ.2.1 0) a b (c0 - 1)))))), (0, .ref (g.2.2.2 0)), (1, .int (nI a)), (2, .int (nI b)), (3, .int (nI c0))]) hx hb dX11_layReached_118 hl (by decide) rfl (fun ls hl => ?_)
                            refine lv_aload_n hx hb dX11_layReached_120 rfl (lv_at hl 1 rfl) ?_
                            refine va_get (D := (g.1, g.2.1)) (ci := 13) (v := .ref (g.2.2.2 8)) (C := RX11) (T := TX11) (N := 30) hx hb hts iX11 hown hK.1 hP 0 (gM0 g (sA σ 7 f) tl) rfl 14 (by decide) k54 (fun _ h9 => h9) rfl dX11_layReached_121 ?_
                            refine lv_iload_n hx hb dX11_layReached_124 rfl (lv_at hl 2 rfl) ?_
                            refine lv_iload_n hx hb dX11_layReached_125 rfl (lv_at hl 3 rfl) ?_
                            refine lv_iload_n hx hb dX11_layReached_126 rfl (lv_at hl 4 rfl) ?_
                            refine vp_callSi (va_Run.run (va_runS (As := [.int (nI a), .int (nI b), .int (nI c0)]) (rest := [.ref (g.2.2.2 8)]) ⟨hx, hb, hml, hown, hts⟩ (c_X11_place l a b c0) (va_cwS 3 hts gX11_layReached_X11_place rfl rfl rfl (by decide +kernel) ⟨Nat.le_of_ble_eq_true rfl, Nat.le_of_ble_eq_true rfl⟩) okTS rfl rfl hl.1 rfl (lv_room (Nat.le_of_ble_eq_true rfl)) dX11_layReached_127 ⟨Nat.le_of_ble_eq_true rfl, Nat.le_of_ble_eq_true rfl⟩)) (fun r_127 h_127 => ?_)
                            subst h_127
                            refine lv_iload hx hb dX11_layReached_130 (lv_at hl 0 rfl) ?_
                            refine jn_iast (f := f) hx hb hK.1 hP hD hS 8 0 (gM8 g (sA σ 7 f) tl) rfl (by omega) (Nat.le_of_ble_eq_true rfl) (uM_A7 g (sA σ 7 f) tl _) dX11_layReached_132 (fun H locs hP hD hS => ?_)
                            refine lv_iinc (v := nI (c0 + 1)) (lv' := [(3, .int (nI (c0 + 1))), (4, .int (nI (v37 ||| (stp (σ.2.1 0) 2 (rch (σ.2.1 0) a b (c0 - 1)))))), (0, .ref (g.2.2.2 0)), (1, .int (nI a)), (2, .int (nI b))]) hx hb dX11_layReached_133 hl (k := 4) rfl (jn_ii _ 1) (by decide) rfl (fun ls hl => ?_)
                            refine lv_goto (tgt := 18) hx hb dX11_layReached_136 (by decide) ?_
                            exact ih18 (c0 + 1) (va_up f (100 * a + 10 * b + c0) (v37 ||| (stp (σ.2.1 0) 2 (rch (σ.2.1 0) a b (c0 - 1))))) (by omega) (dn_put (by decide) (by decide) (by omega) (by omega) h6 (rc_v (by first | exact Or.inl ⟨by omega, rfl⟩ | exact Or.inr ⟨by omega, rfl⟩) (by first | exact Or.inl ⟨by omega, rfl⟩ | exact Or.inr ⟨by omega, rfl⟩) (by first | exact Or.inl ⟨by omega, rfl⟩ | exact Or.inr ⟨by omega, rfl⟩) ev37)) (by omega) _ _ hP hD hS _ (lv_sub hl [2, 3, 4, 0] rfl)
                        · refine lv_iload hx hb dX11_layReached_70 (lv_at hl 0 rfl) ?_
                          refine lv_aload_n hx hb dX11_layReached_72 rfl (lv_at hl 1 rfl) ?_
                          refine lv_aload_n hx hb dX11_layReached_73 rfl (lv_at hl 1 rfl) ?_
                          refine va_get (D := (g.1, g.2.1)) (ci := 13) (v := .ref (g.2.2.2 8)) (C := RX11) (T := TX11) (N := 30) hx hb hts iX11 hown hK.1 hP 0 (gM0 g (sA σ 7 f) tl) rfl 14 (by decide) k54 (fun _ h9 => h9) rfl dX11_layReached_74 ?_
                          refine lv_iload_n hx hb dX11_layReached_77 rfl (lv_at hl 2 rfl) ?_
                          refine lv_iload_n hx hb dX11_layReached_78 rfl (lv_at hl 3 rfl) ?_
                          refine lv_iconst (v := nI 1) hx hb dX11_layReached_79 (by decide) ?_
                          refine jn_isub hx hb (by omega) dX11_layReached_80 ?_
                          refine lv_iload_n hx hb dX11_layReached_81 rfl (lv_at hl 4 rfl) ?_
                          refine vp_callSi (va_Run.run (va_runS (As := [.int (nI a), .int (nI (b - 1)), .int (nI c0)]) (rest := [.ref (g.2.2.2 8), .ref (g.2.2.2 0), .int (nI v37)]) ⟨hx, hb, hml, hown, hts⟩ (c_X11_place l a (b - 1) c0) (va_cwS 3 hts gX11_layReached_X11_place rfl rfl rfl (by decide +kernel) ⟨Nat.le_of_ble_eq_true rfl, Nat.le_of_ble_eq_true rfl⟩) okTS rfl rfl hl.1 rfl (lv_room (Nat.le_of_ble_eq_true rfl)) dX11_layReached_82 ⟨Nat.le_of_ble_eq_true rfl, Nat.le_of_ble_eq_true rfl⟩)) (fun r_82 h_82 => ?_)
                          subst h_82
                          refine jn_iald (f := f) hx hb hK.1 hP 8 0 (gM8 g (sA σ 7 f) tl) rfl (by omega) (Nat.le_of_ble_eq_true rfl) dX11_layReached_85 ?_
                          rw [show f (100 * a + 10 * (b - 1) + c0) = rch (σ.2.1 0) a (b - 1) c0 from h6 _ _ _ (by omega) (by omega) (by omega)]
                          refine lv_iconst (v := nI 1) hx hb dX11_layReached_86 (by decide) ?_
                          refine vp_callSi (va_Run.run (va_runV (As := [.int (nI (rch (σ.2.1 0) a (b - 1) c0)), .int (nI 1)]) (rest := [.int (nI v37)]) ⟨hx, hb, hml, hown, hts⟩ (c_X11_after l g tl (sA σ 7 f) (rch (σ.2.1 0) a (b - 1) c0) 1 (Nat.lt_trans (rch_lt hT _ _ _) (by decide)) (by decide)) (cwV 2 hts gX11_layReached_X11_after rfl rfl rfl (by decide +kernel) ⟨Nat.le_of_ble_eq_true rfl, Nat.le_of_ble_eq_true rfl⟩) (okPV hK hP rfl (gM0 g (sA σ 7 f) tl)) rfl rfl hl.1 rfl (lv_room (Nat.le_of_ble_eq_true rfl)) dX11_layReached_87 ⟨Nat.le_of_ble_eq_true rfl, Nat.le_of_ble_eq_true rfl⟩)) (fun r_87 h_87 => ?_)
                          have h_87 : r_87 = (nI (stp (σ.2.1 0) 1 (rch (σ.2.1 0) a (b - 1) c0))) := h_87
                          subst h_87
                          refine jn_ior hx hb dX11_layReached_90 ?_
                          refine lv_istore (lv' := [(4, .int (nI (v37 ||| (stp (σ.2.1 0) 1 (rch (σ.2.1 0) a (b - 1) c0))))), (0, .ref (g.2.2.2 0)), (1, .int (nI a)), (2, .int (nI b)), (3, .int (nI c0))]) hx hb dX11_layReached_91 hl (by decide) rfl (fun ls hl => ?_)
                          refine lv_iload_n hx hb dX11_layReached_93 rfl (lv_at hl 4 rfl) ?_
                          refine jn_zle hx hb (by omega) (tgt := 120) dX11_layReached_94 (by decide) (fun c_94 => ?_) (fun c_94 => ?_)
                          · refine lv_aload_n hx hb dX11_layReached_120 rfl (lv_at hl 1 rfl) ?_
                            refine va_get (D := (g.1, g.2.1)) (ci := 13) (v := .ref (g.2.2.2 8)) (C := RX11) (T := TX11) (N := 30) hx hb hts iX11 hown hK.1 hP 0 (gM0 g (sA σ 7 f) tl) rfl 14 (by decide) k54 (fun _ h9 => h9) rfl dX11_layReached_121 ?_
                            refine lv_iload_n hx hb dX11_layReached_124 rfl (lv_at hl 2 rfl) ?_
                            refine lv_iload_n hx hb dX11_layReached_125 rfl (lv_at hl 3 rfl) ?_
                            refine lv_iload_n hx hb dX11_layReached_126 rfl (lv_at hl 4 rfl) ?_
                            refine vp_callSi (va_Run.run (va_runS (As := [.int (nI a), .int (nI b), .int (nI c0)]) (rest := [.ref (g.2.2.2 8)]) ⟨hx, hb, hml, hown, hts⟩ (c_X11_place l a b c0) (va_cwS 3 hts gX11_layReached_X11_place rfl rfl rfl (by decide +kernel) ⟨Nat.le_of_ble_eq_true rfl, Nat.le_of_ble_eq_true rfl⟩) okTS rfl rfl hl.1 rfl (lv_room (Nat.le_of_ble_eq_true rfl)) dX11_layReached_127 ⟨Nat.le_of_ble_eq_true rfl, Nat.le_of_ble_eq_true rfl⟩)) (fun r_127 h_127 => ?_)
                            subst h_127
                            refine lv_iload hx hb dX11_layReached_130 (lv_at hl 0 rfl) ?_
                            refine jn_iast (f := f) hx hb hK.1 hP hD hS 8 0 (gM8 g (sA σ 7 f) tl) rfl (by omega) (Nat.le_of_ble_eq_true rfl) (uM_A7 g (sA σ 7 f) tl _) dX11_layReached_132 (fun H locs hP hD hS => ?_)
                            refine lv_iinc (v := nI (c0 + 1)) (lv' := [(3, .int (nI (c0 + 1))), (4, .int (nI (v37 ||| (stp (σ.2.1 0) 1 (rch (σ.2.1 0) a (b - 1) c0))))), (0, .ref (g.2.2.2 0)), (1, .int (nI a)), (2, .int (nI b))]) hx hb dX11_layReached_133 hl (k := 4) rfl (jn_ii _ 1) (by decide) rfl (fun ls hl => ?_)
                            refine lv_goto (tgt := 18) hx hb dX11_layReached_136 (by decide) ?_
                            exact ih18 (c0 + 1) (va_up f (100 * a + 10 * b + c0) (v37 ||| (stp (σ.2.1 0) 1 (rch (σ.2.1 0) a (b - 1) c0)))) (by omega) (dn_put (by decide) (by decide) (by omega) (by omega) h6 (rc_v (by first | exact Or.inl ⟨by omega, rfl⟩ | exact Or.inr ⟨by omega, rfl⟩) (by first | exact Or.inl ⟨by omega, rfl⟩ | exact Or.inr ⟨by omega, rfl⟩) (by first | exact Or.inl ⟨by omega, rfl⟩ | exact Or.inr ⟨by omega, rfl⟩) ev37)) (by omega) _ _ hP hD hS _ (lv_sub hl [2, 3, 4, 0] rfl)
                          · refine lv_iload hx hb dX11_layReached_97 (lv_at hl 0 rfl) ?_
                            refine lv_aload_n hx hb dX11_layReached_99 rfl (lv_at hl 1 rfl) ?_
                            refine lv_aload_n hx hb dX11_layReached_100 rfl (lv_at hl 1 rfl) ?_
                            refine va_get (D := (g.1, g.2.1)) (ci := 13) (v := .ref (g.2.2.2 8)) (C := RX11) (T := TX11) (N := 30) hx hb hts iX11 hown hK.1 hP 0 (gM0 g (sA σ 7 f) tl) rfl 14 (by decide) k54 (fun _ h9 => h9) rfl dX11_layReached_101 ?_
                            refine lv_iload_n hx hb dX11_layReached_104 rfl (lv_at hl 2 rfl) ?_
                            refine lv_iload_n hx hb dX11_layReached_105 rfl (lv_at hl 3 rfl) ?_
                            refine lv_iload_n hx hb dX11_layReached_106 rfl (lv_at hl 4 rfl) ?_
                            refine lv_iconst (v := nI 1) hx hb dX11_layReached_107 (by decide) ?_
                            refine jn_isub hx hb (by omega) dX11_layReached_108 ?_
                            refine vp_callSi (va_Run.run (va_runS (As := [.int (nI a), .int (nI b), .int (nI (c0 - 1))]) (rest := [.ref (g.2.2.2 8), .ref (g.2.2.2 0), .int (nI (v37 ||| (stp (σ.2.1 0) 1 (rch (σ.2.1 0) a (b - 1) c0))))]) ⟨hx, hb, hml, hown, hts⟩ (c_X11_place l a b (c0 - 1)) (va_cwS 3 hts gX11_layReached_X11_place rfl rfl rfl (by decide +kernel) ⟨Nat.le_of_ble_eq_true rfl, Nat.le_of_ble_eq_true rfl⟩) okTS rfl rfl hl.1 rfl (lv_room (Nat.le_of_ble_eq_true rfl)) dX11_layReached_109 ⟨Nat.le_of_ble_eq_true rfl, Nat.le_of_ble_eq_true rfl⟩)) (fun r_109 h_109 => ?_)
                            subst h_109
                            refine jn_iald (f := f) hx hb hK.1 hP 8 0 (gM8 g (sA σ 7 f) tl) rfl (by omega) (Nat.le_of_ble_eq_true rfl) dX11_layReached_112 ?_
                            rw [show f (100 * a + 10 * b + (c0 - 1)) = rch (σ.2.1 0) a b (c0 - 1) from h6 _ _ _ (by omega) (by omega) (by omega)]
                            refine lv_iconst (v := nI 2) hx hb dX11_layReached_113 (by decide) ?_
                            refine vp_callSi (va_Run.run (va_runV (As := [.int (nI (rch (σ.2.1 0) a b (c0 - 1))), .int (nI 2)]) (rest := [.int (nI (v37 ||| (stp (σ.2.1 0) 1 (rch (σ.2.1 0) a (b - 1) c0))))]) ⟨hx, hb, hml, hown, hts⟩ (c_X11_after l g tl (sA σ 7 f) (rch (σ.2.1 0) a b (c0 - 1)) 2 (Nat.lt_trans (rch_lt hT _ _ _) (by decide)) (by decide)) (cwV 2 hts gX11_layReached_X11_after rfl rfl rfl (by decide +kernel) ⟨Nat.le_of_ble_eq_true rfl, Nat.le_of_ble_eq_true rfl⟩) (okPV hK hP rfl (gM0 g (sA σ 7 f) tl)) rfl rfl hl.1 rfl (lv_room (Nat.le_of_ble_eq_true rfl)) dX11_layReached_114 ⟨Nat.le_of_ble_eq_true rfl, Nat.le_of_ble_eq_true rfl⟩)) (fun r_114 h_114 => ?_)
                            have h_114 : r_114 = (nI (stp (σ.2.1 0) 2 (rch (σ.2.1 0) a b (c0 - 1)))) := h_114
                            subst h_114
                            refine jn_ior hx hb dX11_layReached_117 ?_
                            refine lv_istore (lv' := [(4, .int (nI ((v37 ||| (stp (σ.2.1 0) 1 (rch (σ.2.1 0) a (b - 1) c0))) ||| (stp (σ.2.1 0) 2 (rch (σ.2.1 0) a b (c0 - 1)))))), (0, .ref (g.2.2.2 0)), (1, .int (nI a)), (2, .int (nI b)), (3, .int (nI c0))]) hx hb dX11_layReached_118 hl (by decide) rfl (fun ls hl => ?_)
                            refine lv_aload_n hx hb dX11_layReached_120 rfl (lv_at hl 1 rfl) ?_
                            refine va_get (D := (g.1, g.2.1)) (ci := 13) (v := .ref (g.2.2.2 8)) (C := RX11) (T := TX11) (N := 30) hx hb hts iX11 hown hK.1 hP 0 (gM0 g (sA σ 7 f) tl) rfl 14 (by decide) k54 (fun _ h9 => h9) rfl dX11_layReached_121 ?_
                            refine lv_iload_n hx hb dX11_layReached_124 rfl (lv_at hl 2 rfl) ?_
                            refine lv_iload_n hx hb dX11_layReached_125 rfl (lv_at hl 3 rfl) ?_
                            refine lv_iload_n hx hb dX11_layReached_126 rfl (lv_at hl 4 rfl) ?_
                            refine vp_callSi (va_Run.run (va_runS (As := [.int (nI a), .int (nI b), .int (nI c0)]) (rest := [.ref (g.2.2.2 8)]) ⟨hx, hb, hml, hown, hts⟩ (c_X11_place l a b c0) (va_cwS 3 hts gX11_layReached_X11_place rfl rfl rfl (by decide +kernel) ⟨Nat.le_of_ble_eq_true rfl, Nat.le_of_ble_eq_true rfl⟩) okTS rfl rfl hl.1 rfl (lv_room (Nat.le_of_ble_eq_true rfl)) dX11_layReached_127 ⟨Nat.le_of_ble_eq_true rfl, Nat.le_of_ble_eq_true rfl⟩)) (fun r_127 h_127 => ?_)
                            subst h_127
                            refine lv_iload hx hb dX11_layReached_130 (lv_at hl 0 rfl) ?_
                            refine jn_iast (f := f) hx hb hK.1 hP hD hS 8 0 (gM8 g (sA σ 7 f) tl) rfl (by omega) (Nat.le_of_ble_eq_true rfl) (uM_A7 g (sA σ 7 f) tl _) dX11_layReached_132 (fun H locs hP hD hS => ?_)
                            refine lv_iinc (v := nI (c0 + 1)) (lv' := [(3, .int (nI (c0 + 1))), (4, .int (nI ((v37 ||| (stp (σ.2.1 0) 1 (rch (σ.2.1 0) a (b - 1) c0))) ||| (stp (σ.2.1 0) 2 (rch (σ.2.1 0) a b (c0 - 1)))))), (0, .ref (g.2.2.2 0)), (1, .int (nI a)), (2, .int (nI b))]) hx hb dX11_layReached_133 hl (k := 4) rfl (jn_ii _ 1) (by decide) rfl (fun ls hl => ?_)
                            refine lv_goto (tgt := 18) hx hb dX11_layReached_136 (by decide) ?_
                            exact ih18 (c0 + 1) (va_up f (100 * a + 10 * b + c0) ((v37 ||| (stp (σ.2.1 0) 1 (rch (σ.2.1 0) a (b - 1) c0))) ||| (stp (σ.2.1 0) 2 (rch (σ.2.1 0) a b (c0 - 1))))) (by omega) (dn_put (by decide) (by decide) (by omega) (by omega) h6 (rc_v (by first | exact Or.inl ⟨by omega, rfl⟩ | exact Or.inr ⟨by omega, rfl⟩) (by first | exact Or.inl ⟨by omega, rfl⟩ | exact Or.inr ⟨by omega, rfl⟩) (by first | exact Or.inl ⟨by omega, rfl⟩ | exact Or.inr ⟨by omega, rfl⟩) ev37)) (by omega) _ _ hP hD hS _ (lv_sub hl [2, 3, 4, 0] rfl)
                      · refine lv_iload hx hb dX11_layReached_43 (lv_at hl 0 rfl) ?_
                        refine lv_aload_n hx hb dX11_layReached_45 rfl (lv_at hl 1 rfl) ?_
                        refine lv_aload_n hx hb dX11_layReached_46 rfl (lv_at hl 1 rfl) ?_
                        refine va_get (D := (g.1, g.2.1)) (ci := 13) (v := .ref (g.2.2.2 8)) (C := RX11) (T := TX11) (N := 30) hx hb hts iX11 hown hK.1 hP 0 (gM0 g (sA σ 7 f) tl) rfl 14 (by decide) k54 (fun _ h9 => h9) rfl dX11_layReached_47 ?_
                        refine lv_iload_n hx hb dX11_layReached_50 rfl (lv_at hl 2 rfl) ?_
                        refine lv_iconst (v := nI 1) hx hb dX11_layReached_51 (by decide) ?_
                        refine jn_isub hx hb (by omega) dX11_layReached_52 ?_
                        refine lv_iload_n hx hb dX11_layReached_53 rfl (lv_at hl 3 rfl) ?_
                        refine lv_iload_n hx hb dX11_layReached_54 rfl (lv_at hl 4 rfl) ?_
                        refine vp_callSi (va_Run.run (va_runS (As := [.int (nI (a - 1)), .int (nI b), .int (nI c0)]) (rest := [.ref (g.2.2.2 8), .ref (g.2.2.2 0), .int (nI v37)]) ⟨hx, hb, hml, hown, hts⟩ (c_X11_place l (a - 1) b c0) (va_cwS 3 hts gX11_layReached_X11_place rfl rfl rfl (by decide +kernel) ⟨Nat.le_of_ble_eq_true rfl, Nat.le_of_ble_eq_true rfl⟩) okTS rfl rfl hl.1 rfl (lv_room (Nat.le_of_ble_eq_true rfl)) dX11_layReached_55 ⟨Nat.le_of_ble_eq_true rfl, Nat.le_of_ble_eq_true rfl⟩)) (fun r_55 h_55 => ?_)
                        subst h_55
                        refine jn_iald (f := f) hx hb hK.1 hP 8 0 (gM8 g (sA σ 7 f) tl) rfl (by omega) (Nat.le_of_ble_eq_true rfl) dX11_layReached_58 ?_
                        rw [show f (100 * (a - 1) + 10 * b + c0) = rch (σ.2.1 0) (a - 1) b c0 from h6 _ _ _ (by omega) (by omega) (by omega)]
                        refine lv_iconst (v := nI 0) hx hb dX11_layReached_59 (by decide) ?_
                        refine vp_callSi (va_Run.run (va_runV (As := [.int (nI (rch (σ.2.1 0) (a - 1) b c0)), .int (nI 0)]) (rest := [.int (nI v37)]) ⟨hx, hb, hml, hown, hts⟩ (c_X11_after l g tl (sA σ 7 f) (rch (σ.2.1 0) (a - 1) b c0) 0 (Nat.lt_trans (rch_lt hT _ _ _) (by decide)) (by decide)) (cwV 2 hts gX11_layReached_X11_after rfl rfl rfl (by decide +kernel) ⟨Nat.le_of_ble_eq_true rfl, Nat.le_of_ble_eq_true rfl⟩) (okPV hK hP rfl (gM0 g (sA σ 7 f) tl)) rfl rfl hl.1 rfl (lv_room (Nat.le_of_ble_eq_true rfl)) dX11_layReached_60 ⟨Nat.le_of_ble_eq_true rfl, Nat.le_of_ble_eq_true rfl⟩)) (fun r_60 h_60 => ?_)
                        have h_60 : r_60 = (nI (stp (σ.2.1 0) 0 (rch (σ.2.1 0) (a - 1) b c0))) := h_60
                        subst h_60
                        refine jn_ior hx hb dX11_layReached_63 ?_
                        refine lv_istore (lv' := [(4, .int (nI (v37 ||| (stp (σ.2.1 0) 0 (rch (σ.2.1 0) (a - 1) b c0))))), (0, .ref (g.2.2.2 0)), (1, .int (nI a)), (2, .int (nI b)), (3, .int (nI c0))]) hx hb dX11_layReached_64 hl (by decide) rfl (fun ls hl => ?_)
                        refine lv_iload_n hx hb dX11_layReached_66 rfl (lv_at hl 3 rfl) ?_
                        refine jn_zle hx hb (by omega) (tgt := 93) dX11_layReached_67 (by decide) (fun c_67 => ?_) (fun c_67 => ?_)
                        · refine lv_iload_n hx hb dX11_layReached_93 rfl (lv_at hl 4 rfl) ?_
                          refine jn_zle hx hb (by omega) (tgt := 120) dX11_layReached_94 (by decide) (fun c_94 => ?_) (fun c_94 => ?_)
                          · refine lv_aload_n hx hb dX11_layReached_120 rfl (lv_at hl 1 rfl) ?_
                            refine va_get (D := (g.1, g.2.1)) (ci := 13) (v := .ref (g.2.2.2 8)) (C := RX11) (T := TX11) (N := 30) hx hb hts iX11 hown hK.1 hP 0 (gM0 g (sA σ 7 f) tl) rfl 14 (by decide) k54 (fun _ h9 => h9) rfl dX11_layReached_121 ?_
                            refine lv_iload_n hx hb dX11_layReached_124 rfl (lv_at hl 2 rfl) ?_
                            refine lv_iload_n hx hb dX11_layReached_125 rfl (lv_at hl 3 rfl) ?_
                            refine lv_iload_n hx hb dX11_layReached_126 rfl (lv_at hl 4 rfl) ?_
                            refine vp_callSi (va_Run.run (va_runS (As := [.int (nI a), .int (nI b), .int (nI c0)]) (rest := [.ref (g.2.2.2 8)]) ⟨hx, hb, hml, hown, hts⟩ (c_X11_place l a b c0) (va_cwS 3 hts gX11_layReached_X11_place rfl rfl rfl (by decide +kernel) ⟨Nat.le_of_ble_eq_true rfl, Nat.le_of_ble_eq_true rfl⟩) okTS rfl rfl hl.1 rfl (lv_room (Nat.le_of_ble_eq_true rfl)) dX11_layReached_127 ⟨Nat.le_of_ble_eq_true rfl, Nat.le_of_ble_eq_true rfl⟩)) (fun r_127 h_127 => ?_)
                            subst h_127
                            refine lv_iload hx hb dX11_layReached_130 (lv_at hl 0 rfl) ?_
                            refine jn_iast (f := f) hx hb hK.1 hP hD hS 8 0 (gM8 g (sA σ 7 f) tl) rfl (by omega) (Nat.le_of_ble_eq_true rfl) (uM_A7 g (sA σ 7 f) tl _) dX11_layReached_132 (fun H locs hP hD hS => ?_)
                            refine lv_iinc (v := nI (c0 + 1)) (lv' := [(3, .int (nI (c0 + 1))), (4, .int (nI (v37 ||| (stp (σ.2.1 0) 0 (rch (σ.2.1 0) (a - 1) b c0))))), (0, .ref (g.2.2.2 0)), (1, .int (nI a)), (2, .int (nI b))]) hx hb dX11_layReached_133 hl (k := 4) rfl (jn_ii _ 1) (by decide) rfl (fun ls hl => ?_)
                            refine lv_goto (tgt := 18) hx hb dX11_layReached_136 (by decide) ?_
                            exact ih18 (c0 + 1) (va_up f (100 * a + 10 * b + c0) (v37 ||| (stp (σ.2.1 0) 0 (rch (σ.2.1 0) (a - 1) b c0)))) (by omega) (dn_put (by decide) (by decide) (by omega) (by omega) h6 (rc_v (by first | exact Or.inl ⟨by omega, rfl⟩ | exact Or.inr ⟨by omega, rfl⟩) (by first | exact Or.inl ⟨by omega, rfl⟩ | exact Or.inr ⟨by omega, rfl⟩) (by first | exact Or.inl ⟨by omega, rfl⟩ | exact Or.inr ⟨by omega, rfl⟩) ev37)) (by omega) _ _ hP hD hS _ (lv_sub hl [2, 3, 4, 0] rfl)
                          · refine lv_iload hx hb dX11_layReached_97 (lv_at hl 0 rfl) ?_
                            refine lv_aload_n hx hb dX11_layReached_99 rfl (lv_at hl 1 rfl) ?_
                            refine lv_aload_n hx hb dX11_layReached_100 rfl (lv_at hl 1 rfl) ?_
                            refine va_get (D := (g.1, g.2.1)) (ci := 13) (v := .ref (g.2.2.2 8)) (C := RX11) (T := TX11) (N := 30) hx hb hts iX11 hown hK.1 hP 0 (gM0 g (sA σ 7 f) tl) rfl 14 (by decide) k54 (fun _ h9 => h9) rfl dX11_layReached_101 ?_
                            refine lv_iload_n hx hb dX11_layReached_104 rfl (lv_at hl 2 rfl) ?_
                            refine lv_iload_n hx hb dX11_layReached_105 rfl (lv_at hl 3 rfl) ?_
                            refine lv_iload_n hx hb dX11_layReached_106 rfl (lv_at hl 4 rfl) ?_
                            refine lv_iconst (v := nI 1) hx hb dX11_layReached_107 (by decide) ?_
                            refine jn_isub hx hb (by omega) dX11_layReached_108 ?_
                            refine vp_callSi (va_Run.run (va_runS (As := [.int (nI a), .int (nI b), .int (nI (c0 - 1))]) (rest := [.ref (g.2.2.2 8), .ref (g.2.2.2 0), .int (nI (v37 ||| (stp (σ.2.1 0) 0 (rch (σ.2.1 0) (a - 1) b c0))))]) ⟨hx, hb, hml, hown, hts⟩ (c_X11_place l a b (c0 - 1)) (va_cwS 3 hts gX11_layReached_X11_place rfl rfl rfl (by decide +kernel) ⟨Nat.le_of_ble_eq_true rfl, Nat.le_of_ble_eq_true rfl⟩) okTS rfl rfl hl.1 rfl (lv_room (Nat.le_of_ble_eq_true rfl)) dX11_layReached_109 ⟨Nat.le_of_ble_eq_true rfl, Nat.le_of_ble_eq_true rfl⟩)) (fun r_109 h_109 => ?_)
                            subst h_109
                            refine jn_iald (f := f) hx hb hK.1 hP 8 0 (gM8 g (sA σ 7 f) tl) rfl (by omega) (Nat.le_of_ble_eq_true rfl) dX11_layReached_112 ?_
                            rw [show f (100 * a + 10 * b + (c0 - 1)) = rch (σ.2.1 0) a b (c0 - 1) from h6 _ _ _ (by omega) (by omega) (by omega)]
                            refine lv_iconst (v := nI 2) hx hb dX11_layReached_113 (by decide) ?_
                            refine vp_callSi (va_Run.run (va_runV (As := [.int (nI (rch (σ.2.1 0) a b (c0 - 1))), .int (nI 2)]) (rest := [.int (nI (v37 ||| (stp (σ.2.1 0) 0 (rch (σ.2.1 0) (a - 1) b c0))))]) ⟨hx, hb, hml, hown, hts⟩ (c_X11_after l g tl (sA σ 7 f) (rch (σ.2.1 0) a b (c0 - 1)) 2 (Nat.lt_trans (rch_lt hT _ _ _) (by decide)) (by decide)) (cwV 2 hts gX11_layReached_X11_after rfl rfl rfl (by decide +kernel) ⟨Nat.le_of_ble_eq_true rfl, Nat.le_of_ble_eq_true rfl⟩) (okPV hK hP rfl (gM0 g (sA σ 7 f) tl)) rfl rfl hl.1 rfl (lv_room (Nat.le_of_ble_eq_true rfl)) dX11_layReached_114 ⟨Nat.le_of_ble_eq_true rfl, Nat.le_of_ble_eq_true rfl⟩)) (fun r_114 h_114 => ?_)
                            have h_114 : r_114 = (nI (stp (σ.2.1 0) 2 (rch (σ.2.1 0) a b (c0 - 1)))) := h_114
                            subst h_114
                            refine jn_ior hx hb dX11_layReached_117 ?_
                            refine lv_istore (lv' := [(4, .int (nI ((v37 ||| (stp (σ.2.1 0) 0 (rch (σ.2.1 0) (a - 1) b c0))) ||| (stp (σ.2.1 0) 2 (rch (σ.2.1 0) a b (c0 - 1)))))), (0, .ref (g.2.2.2 0)), (1, .int (nI a)), (2, .int (nI b)), (3, .int (nI c0))]) hx hb dX11_layReached_118 hl (by decide) rfl (fun ls hl => ?_)
                            refine lv_aload_n hx hb dX11_layReached_120 rfl (lv_at hl 1 rfl) ?_
                            refine va_get (D := (g.1, g.2.1)) (ci := 13) (v := .ref (g.2.2.2 8)) (C := RX11) (T := TX11) (N := 30) hx hb hts iX11 hown hK.1 hP 0 (gM0 g (sA σ 7 f) tl) rfl 14 (by decide) k54 (fun _ h9 => h9) rfl dX11_layReached_121 ?_
                            refine lv_iload_n hx hb dX11_layReached_124 rfl (lv_at hl 2 rfl) ?_
                            refine lv_iload_n hx hb dX11_layReached_125 rfl (lv_at hl 3 rfl) ?_
                            refine lv_iload_n hx hb dX11_layReached_126 rfl (lv_at hl 4 rfl) ?_
                            refine vp_callSi (va_Run.run (va_runS (As := [.int (nI a), .int (nI b), .int (nI c0)]) (rest := [.ref (g.2.2.2 8)]) ⟨hx, hb, hml, hown, hts⟩ (c_X11_place l a b c0) (va_cwS 3 hts gX11_layReached_X11_place rfl rfl rfl (by decide +kernel) ⟨Nat.le_of_ble_eq_true rfl, Nat.le_of_ble_eq_true rfl⟩) okTS rfl rfl hl.1 rfl (lv_room (Nat.le_of_ble_eq_true rfl)) dX11_layReached_127 ⟨Nat.le_of_ble_eq_true rfl, Nat.le_of_ble_eq_true rfl⟩)) (fun r_127 h_127 => ?_)
                            subst h_127
                            refine lv_iload hx hb dX11_layReached_130 (lv_at hl 0 rfl) ?_
                            refine jn_iast (f := f) hx hb hK.1 hP hD hS 8 0 (gM8 g (sA σ 7 f) tl) rfl (by omega) (Nat.le_of_ble_eq_true rfl) (uM_A7 g (sA σ 7 f) tl _) dX11_layReached_132 (fun H locs hP hD hS => ?_)
                            refine lv_iinc (v := nI (c0 + 1)) (lv' := [(3, .int (nI (c0 + 1))), (4, .int (nI ((v37 ||| (stp (σ.2.1 0) 0 (rch (σ.2.1 0) (a - 1) b c0))) ||| (stp (σ.2.1 0) 2 (rch (σ.2.1 0) a b (c0 - 1)))))), (0, .ref (g.2.2.2 0)), (1, .int (nI a)), (2, .int (nI b))]) hx hb dX11_layReached_133 hl (k := 4) rfl (jn_ii _ 1) (by decide) rfl (fun ls hl => ?_)
                            refine lv_goto (tgt := 18) hx hb dX11_layReached_136 (by decide) ?_
                            exact ih18 (c0 + 1) (va_up f (100 * a + 10 * b + c0) ((v37 ||| (stp (σ.2.1 0) 0 (rch (σ.2.1 0) (a - 1) b c0))) ||| (stp (σ.2.1 0) 2 (rch (σ.2.1 0) a b (c0 - 1))))) (by omega) (dn_put (by decide) (by decide) (by omega) (by omega) h6 (rc_v (by first | exact Or.inl ⟨by omega, rfl⟩ | exact Or.inr ⟨by omega, rfl⟩) (by first | exact Or.inl ⟨by omega, rfl⟩ | exact Or.inr ⟨by omega, rfl⟩) (by first | exact Or.inl ⟨by omega, rfl⟩ | exact Or.inr ⟨by omega, rfl⟩) ev37)) (by omega) _ _ hP hD hS _ (lv_sub hl [2, 3, 4, 0] rfl)
                        · refine lv_iload hx hb dX11_layReached_70 (lv_at hl 0 rfl) ?_
                          refine lv_aload_n hx hb dX11_layReached_72 rfl (lv_at hl 1 rfl) ?_
                          refine lv_aload_n hx hb dX11_layReached_73 rfl (lv_at hl 1 rfl) ?_
                          refine va_get (D := (g.1, g.2.1)) (ci := 13) (v := .ref (g.2.2.2 8)) (C := RX11) (T := TX11) (N := 30) hx hb hts iX11 hown hK.1 hP 0 (gM0 g (sA σ 7 f) tl) rfl 14 (by decide) k54 (fun _ h9 => h9) rfl dX11_layReached_74 ?_
                          refine lv_iload_n hx hb dX11_layReached_77 rfl (lv_at hl 2 rfl) ?_
                          refine lv_iload_n hx hb dX11_layReached_78 rfl (lv_at hl 3 rfl) ?_
                          refine lv_iconst (v := nI 1) hx hb dX11_layReached_79 (by decide) ?_
                          refine jn_isub hx hb (by omega) dX11_layReached_80 ?_
                          refine lv_iload_n hx hb dX11_layReached_81 rfl (lv_at hl 4 rfl) ?_
                          refine vp_callSi (va_Run.run (va_runS (As := [.int (nI a), .int (nI (b - 1)), .int (nI c0)]) (rest := [.ref (g.2.2.2 8), .ref (g.2.2.2 0), .int (nI (v37 ||| (stp (σ.2.1 0) 0 (rch (σ.2.1 0) (a - 1) b c0))))]) ⟨hx, hb, hml, hown, hts⟩ (c_X11_place l a (b - 1) c0) (va_cwS 3 hts gX11_layReached_X11_place rfl rfl rfl (by decide +kernel) ⟨Nat.le_of_ble_eq_true rfl, Nat.le_of_ble_eq_true rfl⟩) okTS rfl rfl hl.1 rfl (lv_room (Nat.le_of_ble_eq_true rfl)) dX11_layReached_82 ⟨Nat.le_of_ble_eq_true rfl, Nat.le_of_ble_eq_true rfl⟩)) (fun r_82 h_82 => ?_)
                          subst h_82
                          refine jn_iald (f := f) hx hb hK.1 hP 8 0 (gM8 g (sA σ 7 f) tl) rfl (by omega) (Nat.le_of_ble_eq_true rfl) dX11_layReached_85 ?_
                          rw [show f (100 * a + 10 * (b - 1) + c0) = rch (σ.2.1 0) a (b - 1) c0 from h6 _ _ _ (by omega) (by omega) (by omega)]
                          refine lv_iconst (v := nI 1) hx hb dX11_layReached_86 (by decide) ?_
                          refine vp_callSi (va_Run.run (va_runV (As := [.int (nI (rch (σ.2.1 0) a (b - 1) c0)), .int (nI 1)]) (rest := [.int (nI (v37 ||| (stp (σ.2.1 0) 0 (rch (σ.2.1 0) (a - 1) b c0))))]) ⟨hx, hb, hml, hown, hts⟩ (c_X11_after l g tl (sA σ 7 f) (rch (σ.2.1 0) a (b - 1) c0) 1 (Nat.lt_trans (rch_lt hT _ _ _) (by decide)) (by decide)) (cwV 2 hts gX11_layReached_X11_after rfl rfl rfl (by decide +kernel) ⟨Nat.le_of_ble_eq_true rfl, Nat.le_of_ble_eq_true rfl⟩) (okPV hK hP rfl (gM0 g (sA σ 7 f) tl)) rfl rfl hl.1 rfl (lv_room (Nat.le_of_ble_eq_true rfl)) dX11_layReached_87 ⟨Nat.le_of_ble_eq_true rfl, Nat.le_of_ble_eq_true rfl⟩)) (fun r_87 h_87 => ?_)
                          have h_87 : r_87 = (nI (stp (σ.2.1 0) 1 (rch (σ.2.1 0) a (b - 1) c0))) := h_87
                          subst h_87
                          refine jn_ior hx hb dX11_layReached_90 ?_
                          refine lv_istore (lv' := [(4, .int (nI ((v37 ||| (stp (σ.2.1 0) 0 (rch (σ.2.1 0) (a - 1) b c0))) ||| (stp (σ.2.1 0) 1 (rch (σ.2.1 0) a (b - 1) c0))))), (0, .ref (g.2.2.2 0)), (1, .int (nI a)), (2, .int (nI b)), (3, .int (nI c0))]) hx hb dX11_layReached_91 hl (by decide) rfl (fun ls hl => ?_)
                          refine lv_iload_n hx hb dX11_layReached_93 rfl (lv_at hl 4 rfl) ?_
                          refine jn_zle hx hb (by omega) (tgt := 120) dX11_layReached_94 (by decide) (fun c_94 => ?_) (fun c_94 => ?_)
                          · refine lv_aload_n hx hb dX11_layReached_120 rfl (lv_at hl 1 rfl) ?_
                            refine va_get (D := (g.1, g.2.1)) (ci := 13) (v := .ref (g.2.2.2 8)) (C := RX11) (T := TX11) (N := 30) hx hb hts iX11 hown hK.1 hP 0 (gM0 g (sA σ 7 f) tl) rfl 14 (by decide) k54 (fun _ h9 => h9) rfl dX11_layReached_121 ?_
                            refine lv_iload_n hx hb dX11_layReached_124 rfl (lv_at hl 2 rfl) ?_
                            refine lv_iload_n hx hb dX11_layReached_125 rfl (lv_at hl 3 rfl) ?_
                            refine lv_iload_n hx hb dX11_layReached_126 rfl (lv_at hl 4 rfl) ?_
                            refine vp_callSi (va_Run.run (va_runS (As := [.int (nI a), .int (nI b), .int (nI c0)]) (rest := [.ref (g.2.2.2 8)]) ⟨hx, hb, hml, hown, hts⟩ (c_X11_place l a b c0) (va_cwS 3 hts gX11_layReached_X11_place rfl rfl rfl (by decide +kernel) ⟨Nat.le_of_ble_eq_true rfl, Nat.le_of_ble_eq_true rfl⟩) okTS rfl rfl hl.1 rfl (lv_room (Nat.le_of_ble_eq_true rfl)) dX11_layReached_127 ⟨Nat.le_of_ble_eq_true rfl, Nat.le_of_ble_eq_true rfl⟩)) (fun r_127 h_127 => ?_)
                            subst h_127
                            refine lv_iload hx hb dX11_layReached_130 (lv_at hl 0 rfl) ?_
                            refine jn_iast (f := f) hx hb hK.1 hP hD hS 8 0 (gM8 g (sA σ 7 f) tl) rfl (by omega) (Nat.le_of_ble_eq_true rfl) (uM_A7 g (sA σ 7 f) tl _) dX11_layReached_132 (fun H locs hP hD hS => ?_)
                            refine lv_iinc (v := nI (c0 + 1)) (lv' := [(3, .int (nI (c0 + 1))), (4, .int (nI ((v37 ||| (stp (σ.2.1 0) 0 (rch (σ.2.1 0) (a - 1) b c0))) ||| (stp (σ.2.1 0) 1 (rch (σ.2.1 0) a (b - 1) c0))))), (0, .ref (g.2.2.2 0)), (1, .int (nI a)), (2, .int (nI b))]) hx hb dX11_layReached_133 hl (k := 4) rfl (jn_ii _ 1) (by decide) rfl (fun ls hl => ?_)
                            refine lv_goto (tgt := 18) hx hb dX11_layReached_136 (by decide) ?_
                            exact ih18 (c0 + 1) (va_up f (100 * a + 10 * b + c0) ((v37 ||| (stp (σ.2.1 0) 0 (rch (σ.2.1 0) (a - 1) b c0))) ||| (stp (σ.2.1 0) 1 (rch (σ.2.1 0) a (b - 1) c0)))) (by omega) (dn_put (by decide) (by decide) (by omega) (by omega) h6 (rc_v (by first | exact Or.inl ⟨by omega, rfl⟩ | exact Or.inr ⟨by omega, rfl⟩) (by first | exact Or.inl ⟨by omega, rfl⟩ | exact Or.inr ⟨by omega, rfl⟩) (by first | exact Or.inl ⟨by omega, rfl⟩ | exact Or.inr ⟨by omega, rfl⟩) ev37)) (by omega) _ _ hP hD hS _ (lv_sub hl [2, 3, 4, 0] rfl)
                          · refine lv_iload hx hb dX11_layReached_97 (lv_at hl 0 rfl) ?_
                            refine lv_aload_n hx hb dX11_layReached_99 rfl (lv_at hl 1 rfl) ?_
                            refine lv_aload_n hx hb dX11_layReached_100 rfl (lv_at hl 1 rfl) ?_
                            refine va_get (D := (g.1, g.2.1)) (ci := 13) (v := .ref (g.2.2.2 8)) (C := RX11) (T := TX11) (N := 30) hx hb hts iX11 hown hK.1 hP 0 (gM0 g (sA σ 7 f) tl) rfl 14 (by decide) k54 (fun _ h9 => h9) rfl dX11_layReached_101 ?_
                            refine lv_iload_n hx hb dX11_layReached_104 rfl (lv_at hl 2 rfl) ?_
                            refine lv_iload_n hx hb dX11_layReached_105 rfl (lv_at hl 3 rfl) ?_
                            refine lv_iload_n hx hb dX11_layReached_106 rfl (lv_at hl 4 rfl) ?_
                            refine lv_iconst (v := nI 1) hx hb dX11_layReached_107 (by decide) ?_
                            refine jn_isub hx hb (by omega) dX11_layReached_108 ?_
                            refine vp_callSi (va_Run.run (va_runS (As := [.int (nI a), .int (nI b), .int (nI (c0 - 1))]) (rest := [.ref (g.2.2.2 8), .ref (g.2.2.2 0), .int (nI ((v37 ||| (stp (σ.2.1 0) 0 (rch (σ.2.1 0) (a - 1) b c0))) ||| (stp (σ.2.1 0) 1 (rch (σ.2.1 0) a (b - 1) c0))))]) ⟨hx, hb, hml, hown, hts⟩ (c_X11_place l a b (c0 - 1)) (va_cwS 3 hts gX11_layReached_X11_place rfl rfl rfl (by decide +kernel) ⟨Nat.le_of_ble_eq_true rfl, Nat.le_of_ble_eq_true rfl⟩) okTS rfl rfl hl.1 rfl (lv_room (Nat.le_of_ble_eq_true rfl)) dX11_layReached_109 ⟨Nat.le_of_ble_eq_true rfl, Nat.le_of_ble_eq_true rfl⟩)) (fun r_109 h_109 => ?_)
                            subst h_109
                            refine jn_iald (f := f) hx hb hK.1 hP 8 0 (gM8 g (sA σ 7 f) tl) rfl (by omega) (Nat.le_of_ble_eq_true rfl) dX11_layReached_112 ?_
                            rw [show f (100 * a + 10 * b + (c0 - 1)) = rch (σ.2.1 0) a b (c0 - 1) from h6 _ _ _ (by omega) (by omega) (by omega)]
                            refine lv_iconst (v := nI 2) hx hb dX11_layReached_113 (by decide) ?_
                            refine vp_callSi (va_Run.run (va_runV (As := [.int (nI (rch (σ.2.1 0) a b (c0 - 1))), .int (nI 2)]) (rest := [.int (nI ((v37 ||| (stp (σ.2.1 0) 0 (rch (σ.2.1 0) (a - 1) b c0))) ||| (stp (σ.2.1 0) 1 (rch (σ.2.1 0) a (b - 1) c0))))]) ⟨hx, hb, hml, hown, hts⟩ (c_X11_after l g tl (sA σ 7 f) (rch (σ.2.1 0) a b (c0 - 1)) 2 (Nat.lt_trans (rch_lt hT _ _ _) (by decide)) (by decide)) (cwV 2 hts gX11_layReached_X11_after rfl rfl rfl (by decide +kernel) ⟨Nat.le_of_ble_eq_true rfl, Nat.le_of_ble_eq_true rfl⟩) (okPV hK hP rfl (gM0 g (sA σ 7 f) tl)) rfl rfl hl.1 rfl (lv_room (Nat.le_of_ble_eq_true rfl)) dX11_layReached_114 ⟨Nat.le_of_ble_eq_true rfl, Nat.le_of_ble_eq_true rfl⟩)) (fun r_114 h_114 => ?_)
                            have h_114 : r_114 = (nI (stp (σ.2.1 0) 2 (rch (σ.2.1 0) a b (c0 - 1)))) := h_114
                            subst h_114
                            refine jn_ior hx hb dX11_layReached_117 ?_
                            refine lv_istore (lv' := [(4, .int (nI (((v37 ||| (stp (σ.2.1 0) 0 (rch (σ.2.1 0) (a - 1) b c0))) ||| (stp (σ.2.1 0) 1 (rch (σ.2.1 0) a (b - 1) c0))) ||| (stp (σ.2.1 0) 2 (rch (σ.2.1 0) a b (c0 - 1)))))), (0, .ref (g.2.2.2 0)), (1, .int (nI a)), (2, .int (nI b)), (3, .int (nI c0))]) hx hb dX11_layReached_118 hl (by decide) rfl (fun ls hl => ?_)
                            refine lv_aload_n hx hb dX11_layReached_120 rfl (lv_at hl 1 rfl) ?_
                            refine va_get (D := (g.1, g.2.1)) (ci := 13) (v := .ref (g.2.2.2 8)) (C := RX11) (T := TX11) (N := 30) hx hb hts iX11 hown hK.1 hP 0 (gM0 g (sA σ 7 f) tl) rfl 14 (by decide) k54 (fun _ h9 => h9) rfl dX11_layReached_121 ?_
                            refine lv_iload_n hx hb dX11_layReached_124 rfl (lv_at hl 2 rfl) ?_
                            refine lv_iload_n hx hb dX11_layReached_125 rfl (lv_at hl 3 rfl) ?_
                            refine lv_iload_n hx hb dX11_layReached_126 rfl (lv_at hl 4 rfl) ?_
                            refine vp_callSi (va_Run.run (va_runS (As := [.int (nI a), .int (nI b), .int (nI c0)]) (rest := [.ref (g.2.2.2 8)]) ⟨hx, hb, hml, hown, hts⟩ (c_X11_place l a b c0) (va_cwS 3 hts gX11_layReached_X11_place rfl rfl rfl (by decide +kernel) ⟨Nat.le_of_ble_eq_true rfl, Nat.le_of_ble_eq_true rfl⟩) okTS rfl rfl hl.1 rfl (lv_room (Nat.le_of_ble_eq_true rfl)) dX11_layReached_127 ⟨Nat.le_of_ble_eq_true rfl, Nat.le_of_ble_eq_true rfl⟩)) (fun r_127 h_127 => ?_)
                            subst h_127
                            refine lv_iload hx hb dX11_layReached_130 (lv_at hl 0 rfl) ?_
                            refine jn_iast (f := f) hx hb hK.1 hP hD hS 8 0 (gM8 g (sA σ 7 f) tl) rfl (by omega) (Nat.le_of_ble_eq_true rfl) (uM_A7 g (sA σ 7 f) tl _) dX11_layReached_132 (fun H locs hP hD hS => ?_)
                            refine lv_iinc (v := nI (c0 + 1)) (lv' := [(3, .int (nI (c0 + 1))), (4, .int (nI (((v37 ||| (stp (σ.2.1 0) 0 (rch (σ.2.1 0) (a - 1) b c0))) ||| (stp (σ.2.1 0) 1 (rch (σ.2.1 0) a (b - 1) c0))) ||| (stp (σ.2.1 0) 2 (rch (σ.2.1 0) a b (c0 - 1)))))), (0, .ref (g.2.2.2 0)), (1, .int (nI a)), (2, .int (nI b))]) hx hb dX11_layReached_133 hl (k := 4) rfl (jn_ii _ 1) (by decide) rfl (fun ls hl => ?_)
                            refine lv_goto (tgt := 18) hx hb dX11_layReached_136 (by decide) ?_
                            exact ih18 (c0 + 1) (va_up f (100 * a + 10 * b + c0) (((v37 ||| (stp (σ.2.1 0) 0 (rch (σ.2.1 0) (a - 1) b c0))) ||| (stp (σ.2.1 0) 1 (rch (σ.2.1 0) a (b - 1) c0))) ||| (stp (σ.2.1 0) 2 (rch (σ.2.1 0) a b (c0 - 1))))) (by omega) (dn_put (by decide) (by decide) (by omega) (by omega) h6 (rc_v (by first | exact Or.inl ⟨by omega, rfl⟩ | exact Or.inr ⟨by omega, rfl⟩) (by first | exact Or.inl ⟨by omega, rfl⟩ | exact Or.inr ⟨by omega, rfl⟩) (by first | exact Or.inl ⟨by omega, rfl⟩ | exact Or.inr ⟨by omega, rfl⟩) ev37)) (by omega) _ _ hP hD hS _ (lv_sub hl [2, 3, 4, 0] rfl)
                    refine jn_zne hx hb (by omega) (tgt := 36) dX11_layReached_29 (by decide) (fun c_29 => ?_) (fun c_29 => ?_)
                    · refine lv_iconst (v := nI 0) hx hb dX11_layReached_36 (by decide) ?_
                      exact jp37 0 (by rw [if_neg c_29])
                    · refine lv_iconst (v := nI 1) hx hb dX11_layReached_32 (by decide) ?_
                      refine lv_goto (tgt := 37) hx hb dX11_layReached_33 (by decide) ?_
                      exact jp37 1 (by rw [if_pos c_29])
              exact lp18 _ 0 f (by decide) h4 (Nat.lt_succ_self _) _ _ hP hD hS _ (lv_sub hl [1, 2, 3, 0] rfl)
        exact lp10 _ 0 f (by decide) h2 (Nat.lt_succ_self _) _ _ hP hD hS _ (lv_sub hl [1, 2, 0] rfl)
  exact lp2 _ 0 (σ.2.1 7) (by decide) (fun x y z _ _ q => absurd q (by omega)) (Nat.lt_succ_self _) _ _ hP hD hS _ (lv_sub hl [1, 0] rfl)

abbrev r_c_X11_isReached : Room := { frames := 1, cells := 0, slots := 0, locals := 22 }
set_option maxHeartbeats 4000000 in
set_option maxRecDepth 100000 in
theorem c_X11_isReached (l : Launch) (g : GC) (tl : va_W) (σ : SS) (a b c2 : Nat) (hF : ((σ.2.1 0) 15) < 32) (ha : a < 10) (hb2 : b < 10) (hc : c2 < 10) : Met l yX11_isReached wsX11_isReached r_c_X11_isReached (va_Pc [.ref (g.2.2.2 0), .int (nI a), .int (nI b), .int (nI c2)] (PP g (wM g σ ++ tl))) (vp_Si (fun r => r = nI (if (σ.2.1 7) (100 * a + 10 * b + c2) &&& ((σ.2.1 0) 15) ≠ 0 then 1 else 0))) 0 0 (fun _ => False) := by
  refine jn_pz (cc := cX11_isReached) (maxL := 4) (own := RX11) (by decide) rfl rfl (Nat.le_of_ble_eq_true rfl) ?_
  intro p e s m below meth c Q hx hb hml hown hts ⟨hP, hK⟩ hq ls hl
  have hl : lv_has ls 4 [(0, .ref (g.2.2.2 0)), (1, .int (nI a)), (2, .int (nI b)), (3, .int (nI c2))] := hl
  have iX11 : ∀ w ∈ wsX110, w ∈ wsX11_isReached := by decide +kernel
  have k54 := hts (.fieldLink RX11 54 "JumpingAutomataModel" "by" "[I") (by decide +kernel)
  have k13 := hts (.fieldLink RX11 13 "JumpingAutomataModel" "now" "[I") (by decide +kernel)
  refine lv_aload_n hx hb dX11_isReached_0 rfl (lv_at hl 0 rfl) ?_
  refine va_get (D := (g.1, g.2.1)) (ci := 13) (v := .ref (g.2.2.2 8)) (C := RX11) (T := TX11) (N := 30) hx hb hts iX11 hown hK.1 hP 0 (gM0 g σ tl) rfl 14 (by decide) k54 (fun _ h9 => h9) rfl dX11_isReached_1 ?_
  refine lv_iload_n hx hb dX11_isReached_4 rfl (lv_at hl 1 rfl) ?_
  refine lv_iload_n hx hb dX11_isReached_5 rfl (lv_at hl 2 rfl) ?_
  refine lv_iload_n hx hb dX11_isReached_6 rfl (lv_at hl 3 rfl) ?_
  refine vp_callSi (va_Run.run (va_runS (As := [.int (nI a), .int (nI b), .int (nI c2)]) (rest := [.ref (g.2.2.2 8)]) ⟨hx, hb, hml, hown, hts⟩ (c_X11_place l a b c2) (va_cwS 3 hts gX11_isReached_X11_place rfl rfl rfl (by decide +kernel) ⟨Nat.le_of_ble_eq_true rfl, Nat.le_of_ble_eq_true rfl⟩) okTS rfl rfl hl.1 rfl (lv_room (Nat.le_of_ble_eq_true rfl)) dX11_isReached_7 ⟨Nat.le_of_ble_eq_true rfl, Nat.le_of_ble_eq_true rfl⟩)) (fun r_7 h_7 => ?_)
  subst h_7
  refine jn_iald (f := σ.2.1 7) hx hb hK.1 hP 8 0 (gM8 g σ tl) rfl (by omega) (Nat.le_of_ble_eq_true rfl) dX11_isReached_10 ?_
  refine lv_aload_n hx hb dX11_isReached_11 rfl (lv_at hl 0 rfl) ?_
  refine va_get (D := (g.1, g.2.1)) (ci := 13) (v := .ref (g.2.2.2 1)) (C := RX11) (T := TX11) (N := 30) hx hb hts iX11 hown hK.1 hP 0 (gM0 g σ tl) rfl 1 (by decide) k13 (fun _ h9 => h9) rfl dX11_isReached_12 ?_
  refine lv_bipush (v := nI 15) hx hb dX11_isReached_15 (by decide) ?_
  refine jn_iald (f := σ.2.1 0) hx hb hK.1 hP 1 0 (gM1 g σ tl) rfl (by decide) (Nat.le_of_ble_eq_true rfl) dX11_isReached_17 ?_
  refine jn_iand hx hb dX11_isReached_18 ?_
  refine jn_zeq hx hb (and_lt (by omega)) (tgt := 26) dX11_isReached_19 (by decide) (fun c_19 => ?_) (fun c_19 => ?_)
  · refine lv_iconst (v := nI 0) hx hb dX11_isReached_26 (by decide) ?_
    exact hq _ _ ((nI 0)) dX11_isReached_27 jn_n0 (by first | exact n_if1 c_19 | exact n_if0 (fun q => q c_19))
  · refine lv_iconst (v := nI 1) hx hb dX11_isReached_22 (by decide) ?_
    refine lv_goto (tgt := 27) hx hb dX11_isReached_23 (by decide) ?_
    exact hq _ _ ((nI 1)) dX11_isReached_27 jn_n1 (by first | exact n_if1 c_19 | exact n_if0 (fun q => q c_19))

abbrev r_c_X11_single : Room := { frames := 0, cells := 0, slots := 0, locals := 0 }
set_option maxHeartbeats 4000000 in
set_option maxRecDepth 100000 in
theorem c_X11_single (l : Launch) (x : Nat) (hx : x < 32) : Met l yX11_single wsX11_single r_c_X11_single (va_Pc [.int (nI x)] (fun _ => True)) (vp_Si (fun r => r = nI (sgl x))) 0 0 (fun _ => False) := by
  refine jn_pi (cc := cX11_single) (maxL := 2) (own := RX11) (by decide) rfl rfl (Nat.le_of_ble_eq_true rfl) ?_
  intro p e s m below meth c Q hx hb hml hown hts _ hq ls hl
  have hl : lv_has ls 2 [(0, .int (nI x))] := hl
  refine lv_iconst (v := nI 0) hx hb dX11_single_0 (by decide) ?_
  refine lv_istore_n (lv' := [(1, .int (nI 0)), (0, .int (nI x))]) hx hb dX11_single_1 rfl hl (by decide) rfl (fun ls hl => ?_)
  have lp2 : ∀ (fu : Nat), ∀ (q : Nat), (q < 6) → (∀ j, j < q → 1 < x / 2 ^ j) → 6 - q < fu → ∀ ls : Array Slot, lv_has ls 2 [(0, .int (nI x)), (1, .int (nI q))] → W p l e r_c_X11_single s m ([.int (nI x)] : List Value).toArray below meth c s.heap [] 0 0 Q (F0 m 2 ls []) := by
    intro fu
    induction fu with
    | zero => intro q h1 h2 hf; exact absurd hf (Nat.not_lt_zero _)
    | succ fu ih2 =>
      intro q h1 h2 hf ls hl
      refine lv_iload_n hx hb dX11_single_2 rfl (lv_at hl 0 rfl) ?_
      refine lv_iload_n hx hb dX11_single_3 rfl (lv_at hl 1 rfl) ?_
      refine jn_ishr hx hb (by omega) (by omega) dX11_single_4 ?_
      refine lv_iconst (v := nI 1) hx hb dX11_single_5 (by decide) ?_
      refine jn_cle hx hb (Nat.lt_of_le_of_lt (Nat.div_le_self _ _) (by omega)) (by decide) (tgt := 15) dX11_single_6 (by decide) (fun c_6 => ?_) (fun c_6 => ?_)
      · refine lv_iload_n hx hb dX11_single_15 rfl (lv_at hl 1 rfl) ?_
        exact hq _ _ ((nI q)) dX11_single_16 (by rw [sgl_eq x (by omega) q (by have := sgl_q x (by omega) q h1 h2; omega) h2 c_6])
      · refine lv_iinc (v := nI (q + 1)) (lv' := [(1, .int (nI (q + 1))), (0, .int (nI x))]) hx hb dX11_single_9 hl (k := 1) rfl (jn_ii _ 1) (by decide) rfl (fun ls hl => ?_)
        refine lv_goto (tgt := 2) hx hb dX11_single_12 (by decide) ?_
        exact ih2 (q + 1) (by have := sgl_q x (by omega) q h1 h2; omega) (fun j hj => by rcases Nat.lt_or_ge j q with z | z; { exact h2 j z }; { rw [show j = q by omega]; exact c_6 }) (by omega) _ (lv_sub hl [1, 0] rfl)
  exact lp2 _ 0 (by decide) (fun j hj => absurd hj (by omega)) (Nat.lt_succ_self _) _ (lv_sub hl [1, 0] rfl)

abbrev r_c_X11_lacksMode : Room := { frames := 2, cells := 0, slots := 0, locals := 43 }
set_option maxHeartbeats 4000000 in
set_option maxRecDepth 100000 in
theorem c_X11_lacksMode (l : Launch) (g : GC) (tl : va_W) (σ : SS) (md : Nat) (hT : OkT (σ.2.1 0)) (hmd : md < 2147483648) : Met l yX11_lacksMode wsX11_lacksMode r_c_X11_lacksMode (va_Pc [.ref (g.2.2.2 0), .int (nI md)] (PP g (wM g σ ++ tl))) (vp_Si (fun r => r = nI (if md = 2 ∧ ¬ detT (σ.2.1 0) then 1 else 0))) 0 0 (fun _ => False) := by
  refine jn_pz (cc := cX11_lacksMode) (maxL := 2) (own := RX11) (by decide) rfl rfl (Nat.le_of_ble_eq_true rfl) ?_
  intro p e s m below meth c Q hx hb hml hown hts ⟨hP, hK⟩ hq ls hl
  have hl : lv_has ls 2 [(0, .ref (g.2.2.2 0)), (1, .int (nI md))] := hl
  refine lv_iload_n hx hb dX11_lacksMode_0 rfl (lv_at hl 1 rfl) ?_
  refine lv_iconst (v := nI 2) hx hb dX11_lacksMode_1 (by decide) ?_
  refine jn_cne hx hb (by omega) (by decide) (tgt := 16) dX11_lacksMode_2 (by decide) (fun c_2 => ?_) (fun c_2 => ?_)
  · refine lv_iconst (v := nI 0) hx hb dX11_lacksMode_16 (by decide) ?_
    exact hq _ _ ((nI 0)) dX11_lacksMode_17 jn_n0 (by first | exact n_if0 (fun q => c_2 q.1) | exact n_if0 (fun q => q.2 c_9) | exact n_if1 ⟨by omega, c_9⟩)
  · refine lv_aload_n hx hb dX11_lacksMode_5 rfl (lv_at hl 0 rfl) ?_
    refine vp_callSi (va_Run.run (va_runV (As := []) (rest := []) ⟨hx, hb, hml, hown, hts⟩ (c_X11_isDeterministic l g tl σ hT) (cwV 0 hts gX11_lacksMode_X11_isDeterministic rfl rfl rfl (by decide +kernel) ⟨Nat.le_of_ble_eq_true rfl, Nat.le_of_ble_eq_true rfl⟩) (okPV hK hP rfl (gM0 g σ tl)) rfl rfl hl.1 rfl (lv_room (Nat.le_of_ble_eq_true rfl)) dX11_lacksMode_6 ⟨Nat.le_of_ble_eq_true rfl, Nat.le_of_ble_eq_true rfl⟩)) (fun r_6 h_6 => ?_)
    subst h_6
    refine jn_bne hx hb (tgt := 16) dX11_lacksMode_9 (by decide) (fun c_9 => ?_) (fun c_9 => ?_)
    · refine lv_iconst (v := nI 0) hx hb dX11_lacksMode_16 (by decide) ?_
      exact hq _ _ ((nI 0)) dX11_lacksMode_17 jn_n0 (by first | exact n_if0 (fun q => c_2 q.1) | exact n_if0 (fun q => q.2 c_9) | exact n_if1 ⟨by omega, c_9⟩)
    · refine lv_iconst (v := nI 1) hx hb dX11_lacksMode_12 (by decide) ?_
      refine lv_goto (tgt := 17) hx hb dX11_lacksMode_13 (by decide) ?_
      exact hq _ _ ((nI 1)) dX11_lacksMode_17 jn_n1 (by first | exact n_if0 (fun q => c_2 q.1) | exact n_if0 (fun q => q.2 c_9) | exact n_if1 ⟨by omega, c_9⟩)

abbrev r_c_X11_power : Room := { frames := 0, cells := 0, slots := 0, locals := 0 }
set_option maxHeartbeats 4000000 in
set_option maxRecDepth 100000 in
theorem c_X11_power (l : Launch) (n : Nat) (hn : n ≤ 8) : Met l yX11_power wsX11_power r_c_X11_power (va_Pc [.int (nI n)] (fun _ => True)) (vp_Si (fun r => r = nI (3 ^ n))) 0 0 (fun _ => False) := by
  refine jn_pi (cc := cX11_power) (maxL := 3) (own := RX11) (by decide) rfl rfl (Nat.le_of_ble_eq_true rfl) ?_
  intro p e s m below meth c Q hx hb hml hown hts _ hq ls hl
  have hl : lv_has ls 3 [(0, .int (nI n))] := hl
  refine lv_iconst (v := nI 1) hx hb dX11_power_0 (by decide) ?_
  refine lv_istore_n (lv' := [(1, .int (nI 1)), (0, .int (nI n))]) hx hb dX11_power_1 rfl hl (by decide) rfl (fun ls hl => ?_)
  refine lv_iconst (v := nI 0) hx hb dX11_power_2 (by decide) ?_
  refine lv_istore_n (lv' := [(2, .int (nI 0)), (1, .int (nI 1)), (0, .int (nI n))]) hx hb dX11_power_3 rfl hl (by decide) rfl (fun ls hl => ?_)
  have lp4 : ∀ (fu : Nat), ∀ (i : Nat) (z : Nat), (i ≤ n) → (z = 3 ^ i) → n - i < fu → ∀ ls : Array Slot, lv_has ls 3 [(0, .int (nI n)), (1, .int (nI z)), (2, .int (nI i))] → W p l e r_c_X11_power s m ([.int (nI n)] : List Value).toArray below meth c s.heap [] 0 0 Q (F0 m 4 ls []) := by
    intro fu
    induction fu with
    | zero => intro i z h1 h2 hf; exact absurd hf (Nat.not_lt_zero _)
    | succ fu ih4 =>
      intro i z h1 h2 hf ls hl
      refine lv_iload_n hx hb dX11_power_4 rfl (lv_at hl 2 rfl) ?_
      refine lv_iload_n hx hb dX11_power_5 rfl (lv_at hl 0 rfl) ?_
      refine jn_cge hx hb (by omega) (by omega) (tgt := 19) dX11_power_6 (by decide) (fun c_6 => ?_) (fun c_6 => ?_)
      · refine lv_iload_n hx hb dX11_power_19 rfl (lv_at hl 1 rfl) ?_
        exact hq _ _ ((nI z)) dX11_power_20 (by rw [h2, show i = n by omega])
      · refine lv_iload_n hx hb dX11_power_9 rfl (lv_at hl 1 rfl) ?_
        refine lv_iconst (v := nI 3) hx hb dX11_power_10 (by decide) ?_
        refine jn_imul hx hb dX11_power_11 ?_
        refine lv_istore_n (lv' := [(1, .int (nI (z * 3))), (0, .int (nI n)), (2, .int (nI i))]) hx hb dX11_power_12 rfl hl (by decide) rfl (fun ls hl => ?_)
        refine lv_iinc (v := nI (i + 1)) (lv' := [(2, .int (nI (i + 1))), (1, .int (nI (z * 3))), (0, .int (nI n))]) hx hb dX11_power_13 hl (k := 2) rfl (jn_ii _ 1) (by decide) rfl (fun ls hl => ?_)
        refine lv_goto (tgt := 4) hx hb dX11_power_16 (by decide) ?_
        exact ih4 (i + 1) (z * 3) (by omega) (by rw [h2]; rfl) (by omega) _ (lv_sub hl [2, 1, 0] rfl)
  exact lp4 _ 0 1 (by omega) rfl (Nat.lt_succ_self _) _ (lv_sub hl [2, 1, 0] rfl)
