abbrev r_c_X5_at_21 : Room := { frames := 0, cells := 0, slots := 0, locals := 0 }
set_option maxHeartbeats 4000000 in
set_option maxRecDepth 100000 in
theorem c_X5_at_21 (l : Launch) (g : GC) (tl : va_W) (σ : SS) (k : Nat) (hk : k < 1000) : Met l yX5_at wsX5_at r_c_X5_at_21 (va_Pc [.ref (g.2.2.2 21), .int (nI k)] (PP g (wC g σ ++ tl))) (vp_Si (fun r => r = nI ((σ.2.1 15) k))) 0 0 (fun _ => False) := by
  refine jn_pi (cc := cX5_at) (maxL := 2) (own := RX5) (by decide) rfl rfl (Nat.le_of_ble_eq_true rfl) ?_
  intro p e s m below meth c Q hx hb hml hown hts ⟨hP, hK⟩ hq ls hl
  have hl : lv_has ls 2 [(0, .ref (g.2.2.2 21)), (1, .int (nI k))] := hl
  have iX5 : ∀ w ∈ wsX50, w ∈ wsX5_at := by decide +kernel
  have k9 := hts (.fieldLink RX5 9 "JumpingAutomata$CountsTable" "masks" "[I") (by decide +kernel)
  refine lv_iload_n hx hb dX5_at_0 rfl (lv_at hl 1 rfl) ?_
  refine jn_zlt hx hb (by omega) (tgt := 20) dX5_at_1 (by decide) (fun c_1 => absurd c_1 (by omega)) (fun c_1 => ?_)
  refine lv_iload_n hx hb dX5_at_4 rfl (lv_at hl 1 rfl) ?_
  refine lv_sipush (v := nI 1000) hx hb dX5_at_5 (by decide) ?_
  refine jn_cge hx hb (by omega) (by decide) (tgt := 20) dX5_at_8 (by decide) (fun c_8 => absurd c_8 (by omega)) (fun c_8 => ?_)
  refine lv_aload_n hx hb dX5_at_11 rfl (lv_at hl 0 rfl) ?_
  refine va_get (D := (g.1, g.2.1)) (ci := 7) (v := .ref (g.2.2.2 22)) (C := RX5) (T := TX5) (N := 1) hx hb hts iX5 hown hK.1 hP 21 (gC21 g σ tl) rfl 0 (by decide) k9 (fun _ h9 => h9) rfl dX5_at_12 ?_
  refine lv_iload_n hx hb dX5_at_15 rfl (lv_at hl 1 rfl) ?_
  refine jn_iald (f := σ.2.1 15) hx hb hK.1 hP 22 0 (gC22 g σ tl) rfl (by omega) (Nat.le_of_ble_eq_true rfl) dX5_at_16 ?_
  refine lv_goto (tgt := 21) hx hb dX5_at_17 (by decide) ?_
  exact hq _ _ ((nI ((σ.2.1 15) k))) dX5_at_21 rfl

abbrev r_c_X5_countMeeting_21 : Room := { frames := 1, cells := 0, slots := 0, locals := 22 }
set_option maxHeartbeats 4000000 in
set_option maxRecDepth 100000 in
theorem c_X5_countMeeting_21 (l : Launch) (g : GC) (tl : va_W) (σ : SS) (v bd : Nat) (hv : v < 4294967296) (hb2 : bd < 10) : Met l yX5_countMeeting wsX5_countMeeting r_c_X5_countMeeting_21 (va_Pc [.ref (g.2.2.2 21), .int (nI v), .int (nI bd)] (PP g (wC g σ ++ tl))) (vp_Si (fun r => r = nI (cnt3 (fun a b c => decide ((σ.2.1 15) (100 * a + 10 * b + c) &&& v ≠ 0)) (bd + 1)))) 0 0 (fun _ => False) := by
  refine jn_pi (cc := cX5_countMeeting) (maxL := 7) (own := RX5) (by decide) rfl rfl (Nat.le_of_ble_eq_true rfl) ?_
  intro p e s m below meth c Q hx hb hml hown hts ⟨hP, hK⟩ hq ls hl
  have hl : lv_has ls 7 [(0, .ref (g.2.2.2 21)), (1, .int (nI v)), (2, .int (nI bd))] := hl
  refine lv_iconst (v := nI 0) hx hb dX5_countMeeting_0 (by decide) ?_
  refine lv_istore_n (lv' := [(3, .int (nI 0)), (0, .ref (g.2.2.2 21)), (1, .int (nI v)), (2, .int (nI bd))]) hx hb dX5_countMeeting_1 rfl hl (by decide) rfl (fun ls hl => ?_)
  refine lv_iconst (v := nI 0) hx hb dX5_countMeeting_2 (by decide) ?_
  refine lv_istore (lv' := [(4, .int (nI 0)), (3, .int (nI 0)), (0, .ref (g.2.2.2 21)), (1, .int (nI v)), (2, .int (nI bd))]) hx hb dX5_countMeeting_3 hl (by decide) rfl (fun ls hl => ?_)
  have lp5 : ∀ (fu : Nat), ∀ (a : Nat) (z : Nat), (a ≤ bd + 1) → (z = fb_sm (fun a => fb_sm (fun b => fb_ct (fun c => decide ((σ.2.1 15) (100 * a + 10 * b + c) &&& v ≠ 0)) (bd + 1)) (bd + 1)) a) → bd + 1 - a < fu → ∀ ls : Array Slot, lv_has ls 7 [(0, .ref (g.2.2.2 21)), (1, .int (nI v)), (2, .int (nI bd)), (3, .int (nI z)), (4, .int (nI a))] → W p l e r_c_X5_countMeeting_21 s m ([.ref (g.2.2.2 21), .int (nI v), .int (nI bd)] : List Value).toArray below meth c s.heap [] 0 0 Q (F0 m 5 ls []) := by
    intro fu
    induction fu with
    | zero => intro a z h1 h2 hf; exact absurd hf (Nat.not_lt_zero _)
    | succ fu ih5 =>
      intro a z h1 h2 hf ls hl
      refine lv_iload hx hb dX5_countMeeting_5 (lv_at hl 4 rfl) ?_
      refine lv_iload_n hx hb dX5_countMeeting_7 rfl (lv_at hl 2 rfl) ?_
      refine jn_cgt hx hb (by omega) (by omega) (tgt := 73) dX5_countMeeting_8 (by decide) (fun c_8 => ?_) (fun c_8 => ?_)
      · refine lv_iload_n hx hb dX5_countMeeting_73 rfl (lv_at hl 3 rfl) ?_
        exact hq _ _ ((nI z)) dX5_countMeeting_74 (by rw [h2, show a = bd + 1 by omega]; rfl)
      · refine lv_iconst (v := nI 0) hx hb dX5_countMeeting_11 (by decide) ?_
        refine lv_istore (lv' := [(5, .int (nI 0)), (0, .ref (g.2.2.2 21)), (1, .int (nI v)), (2, .int (nI bd)), (3, .int (nI z)), (4, .int (nI a))]) hx hb dX5_countMeeting_12 hl (by decide) rfl (fun ls hl => ?_)
        have lp14 : ∀ (fu : Nat), ∀ (b : Nat) (z : Nat), (b ≤ bd + 1) → (z = fb_sm (fun a => fb_sm (fun b => fb_ct (fun c => decide ((σ.2.1 15) (100 * a + 10 * b + c) &&& v ≠ 0)) (bd + 1)) (bd + 1)) a + fb_sm (fun b => fb_ct (fun c => decide ((σ.2.1 15) (100 * a + 10 * b + c) &&& v ≠ 0)) (bd + 1)) b) → bd + 1 - b < fu → ∀ ls : Array Slot, lv_has ls 7 [(0, .ref (g.2.2.2 21)), (1, .int (nI v)), (2, .int (nI bd)), (3, .int (nI z)), (4, .int (nI a)), (5, .int (nI b))] → W p l e r_c_X5_countMeeting_21 s m ([.ref (g.2.2.2 21), .int (nI v), .int (nI bd)] : List Value).toArray below meth c s.heap [] 0 0 Q (F0 m 14 ls []) := by
          intro fu
          induction fu with
          | zero => intro b z h3 h4 hf; exact absurd hf (Nat.not_lt_zero _)
          | succ fu ih14 =>
            intro b z h3 h4 hf ls hl
            refine lv_iload hx hb dX5_countMeeting_14 (lv_at hl 5 rfl) ?_
            refine lv_iload_n hx hb dX5_countMeeting_16 rfl (lv_at hl 2 rfl) ?_
            refine jn_cgt hx hb (by omega) (by omega) (tgt := 67) dX5_countMeeting_17 (by decide) (fun c_17 => ?_) (fun c_17 => ?_)
            · refine lv_iinc (v := nI (a + 1)) (lv' := [(4, .int (nI (a + 1))), (0, .ref (g.2.2.2 21)), (1, .int (nI v)), (2, .int (nI bd)), (3, .int (nI z)), (5, .int (nI b))]) hx hb dX5_countMeeting_67 hl (k := 4) rfl (jn_ii _ 1) (by decide) rfl (fun ls hl => ?_)
              refine lv_goto (tgt := 5) hx hb dX5_countMeeting_70 (by decide) ?_
              exact ih5 (a + 1) z (by omega) (by rw [h4, show b = bd + 1 by omega]; rfl) (by omega) _ (lv_sub hl [1, 2, 3, 4, 0] rfl)
            · refine lv_iconst (v := nI 0) hx hb dX5_countMeeting_20 (by decide) ?_
              refine lv_istore (lv' := [(6, .int (nI 0)), (0, .ref (g.2.2.2 21)), (1, .int (nI v)), (2, .int (nI bd)), (3, .int (nI z)), (4, .int (nI a)), (5, .int (nI b))]) hx hb dX5_countMeeting_21 hl (by decide) rfl (fun ls hl => ?_)
              have lp23 : ∀ (fu : Nat), ∀ (c0 : Nat) (z : Nat), (c0 ≤ bd + 1) → (z = fb_sm (fun a => fb_sm (fun b => fb_ct (fun c => decide ((σ.2.1 15) (100 * a + 10 * b + c) &&& v ≠ 0)) (bd + 1)) (bd + 1)) a + fb_sm (fun b => fb_ct (fun c => decide ((σ.2.1 15) (100 * a + 10 * b + c) &&& v ≠ 0)) (bd + 1)) b + fb_ct (fun c => decide ((σ.2.1 15) (100 * a + 10 * b + c) &&& v ≠ 0)) c0) → bd + 1 - c0 < fu → ∀ ls : Array Slot, lv_has ls 7 [(0, .ref (g.2.2.2 21)), (1, .int (nI v)), (2, .int (nI bd)), (3, .int (nI z)), (4, .int (nI a)), (5, .int (nI b)), (6, .int (nI c0))] → W p l e r_c_X5_countMeeting_21 s m ([.ref (g.2.2.2 21), .int (nI v), .int (nI bd)] : List Value).toArray below meth c s.heap [] 0 0 Q (F0 m 23 ls []) := by
                intro fu
                induction fu with
                | zero => intro c0 z h5 h6 hf; exact absurd hf (Nat.not_lt_zero _)
                | succ fu ih23 =>
                  intro c0 z h5 h6 hf ls hl
                  refine lv_iload hx hb dX5_countMeeting_23 (lv_at hl 6 rfl) ?_
                  refine lv_iload_n hx hb dX5_countMeeting_25 rfl (lv_at hl 2 rfl) ?_
                  refine jn_cgt hx hb (by omega) (by omega) (tgt := 61) dX5_countMeeting_26 (by decide) (fun c_26 => ?_) (fun c_26 => ?_)
                  · refine lv_iinc (v := nI (b + 1)) (lv' := [(5, .int (nI (b + 1))), (0, .ref (g.2.2.2 21)), (1, .int (nI v)), (2, .int (nI bd)), (3, .int (nI z)), (4, .int (nI a)), (6, .int (nI c0))]) hx hb dX5_countMeeting_61 hl (k := 5) rfl (jn_ii _ 1) (by decide) rfl (fun ls hl => ?_)
                    refine lv_goto (tgt := 14) hx hb dX5_countMeeting_64 (by decide) ?_
                    exact ih14 (b + 1) z (by omega) (by rw [h6, show c0 = bd + 1 by omega, Nat.add_assoc]; rfl) (by omega) _ (lv_sub hl [1, 2, 3, 4, 5, 0] rfl)
                  · refine lv_iload_n hx hb dX5_countMeeting_29 rfl (lv_at hl 3 rfl) ?_
                    refine lv_aload_n hx hb dX5_countMeeting_30 rfl (lv_at hl 0 rfl) ?_
                    refine lv_iload hx hb dX5_countMeeting_31 (lv_at hl 4 rfl) ?_
                    refine lv_iload hx hb dX5_countMeeting_33 (lv_at hl 5 rfl) ?_
                    refine lv_iload hx hb dX5_countMeeting_35 (lv_at hl 6 rfl) ?_
                    refine vp_callSi (va_Run.run (va_runSN (As := [.int (nI a), .int (nI b), .int (nI c0)]) (rest := [.ref (g.2.2.2 21), .int (nI z)]) ⟨hx, hb, hml, hown, hts⟩ (c_X10_codeOf l a b c0) ⟨(va_cnB 3 hts gX5_countMeeting_X10_codeOf_n19 rfl rfl rfl (hK.2 _ (List.mem_of_getElem? (i := 14) rfl)) (hts (.initialized RX10) (by decide +kernel)) (by decide +kernel) ⟨Nat.le_of_ble_eq_true rfl, Nat.le_of_ble_eq_true rfl⟩), hts (.static yX10_codeOf) (by decide +kernel), trivial⟩ okTS rfl rfl hl.1 rfl (lv_room (Nat.le_of_ble_eq_true rfl)) dX5_countMeeting_37 ⟨Nat.le_of_ble_eq_true rfl, Nat.le_of_ble_eq_true rfl⟩)) (fun r_37 h_37 => ?_)
                    subst h_37
                    refine vp_callSi (va_Run.run (va_runV (As := [.int (nI (100 * a + 10 * b + c0))]) (rest := [.int (nI z)]) ⟨hx, hb, hml, hown, hts⟩ (c_X5_at_21 l g tl σ (100 * a + 10 * b + c0) (by omega)) (cwV 1 hts gX5_countMeeting_X5_at rfl rfl rfl (by decide +kernel) ⟨Nat.le_of_ble_eq_true rfl, Nat.le_of_ble_eq_true rfl⟩) (okPV hK hP rfl (gC21 g σ tl)) rfl rfl hl.1 rfl (lv_room (Nat.le_of_ble_eq_true rfl)) dX5_countMeeting_40 ⟨Nat.le_of_ble_eq_true rfl, Nat.le_of_ble_eq_true rfl⟩)) (fun r_40 h_40 => ?_)
                    subst h_40
                    refine lv_iload_n hx hb dX5_countMeeting_43 rfl (lv_at hl 1 rfl) ?_
                    refine jn_iand hx hb dX5_countMeeting_44 ?_
                    have jp53 : ∀ v53 : Nat, v53 = (if (σ.2.1 15) (100 * a + 10 * b + c0) &&& v = 0 then 0 else 1) → W p l e r_c_X5_countMeeting_21 s m ([.ref (g.2.2.2 21), .int (nI v), .int (nI bd)] : List Value).toArray below meth c s.heap [] 0 0 Q (F0 m 53 ls [.int (nI v53), .int (nI z)]) := by
                      intro v53 ev53
                      refine jn_iadd hx hb dX5_countMeeting_53 ?_
                      refine lv_istore_n (lv' := [(3, .int (nI (z + v53))), (0, .ref (g.2.2.2 21)), (1, .int (nI v)), (2, .int (nI bd)), (4, .int (nI a)), (5, .int (nI b)), (6, .int (nI c0))]) hx hb dX5_countMeeting_54 rfl hl (by decide) rfl (fun ls hl => ?_)
                      refine lv_iinc (v := nI (c0 + 1)) (lv' := [(6, .int (nI (c0 + 1))), (3, .int (nI (z + v53))), (0, .ref (g.2.2.2 21)), (1, .int (nI v)), (2, .int (nI bd)), (4, .int (nI a)), (5, .int (nI b))]) hx hb dX5_countMeeting_55 hl (k := 6) rfl (jn_ii _ 1) (by decide) rfl (fun ls hl => ?_)
                      refine lv_goto (tgt := 23) hx hb dX5_countMeeting_58 (by decide) ?_
                      exact ih23 (c0 + 1) (z + v53) (by omega) (by rw [h6, fb_ct_succ, Nat.add_assoc]; congr 1; congr 1; rw [ev53]; by_cases q : (σ.2.1 15) (100 * a + 10 * b + c0) &&& v = 0; { rw [if_pos q, if_neg (by simp [q])] }; { rw [if_neg q, if_pos (by simp [q])] }) (by omega) _ (lv_sub hl [2, 3, 4, 1, 5, 6, 0] rfl)
                    refine jn_zeq hx hb (and_lt (by omega)) (tgt := 52) dX5_countMeeting_45 (by decide) (fun c_45 => ?_) (fun c_45 => ?_)
                    · refine lv_iconst (v := nI 0) hx hb dX5_countMeeting_52 (by decide) ?_
                      exact jp53 0 (by rw [if_pos c_45])
                    · refine lv_iconst (v := nI 1) hx hb dX5_countMeeting_48 (by decide) ?_
                      refine lv_goto (tgt := 53) hx hb dX5_countMeeting_49 (by decide) ?_
                      exact jp53 1 (by rw [if_neg c_45])
              exact lp23 _ 0 z (by omega) (by rw [h4]; rfl) (Nat.lt_succ_self _) _ (lv_sub hl [1, 2, 3, 4, 5, 6, 0] rfl)
        exact lp14 _ 0 z (by omega) (by rw [h2]; rfl) (Nat.lt_succ_self _) _ (lv_sub hl [1, 2, 3, 4, 5, 0] rfl)
  exact lp5 _ 0 0 (by omega) rfl (Nat.lt_succ_self _) _ (lv_sub hl [2, 3, 4, 1, 0] rfl)

abbrev r_c_X5_fillReached_21 : Room := { frames := 2, cells := 0, slots := 0, locals := 42 }
set_option maxHeartbeats 4000000 in
set_option maxRecDepth 100000 in
theorem c_X5_fillReached_21 (l : Launch) (g : GC) (tl : va_W) (sz : Nat) (σ : SS) (ta tb tc : Nat) (hA : OkA σ) (h1 : ta < 10) (h2 : tb < 10) (h3 : tc < 10) : Met l yX5_fillReached wsX5_fillReached r_c_X5_fillReached_21 (va_Pc [.ref (g.2.2.2 21), .ref (g.2.2.2 1), .int (nI ta), .int (nI tb), .int (nI tc)] (PW g (wC g σ ++ tl) sz)) (va_Qv (fun (f : (Nat → Nat)) => ∀ a b c, a ≤ ta → b ≤ tb → c ≤ tc → f (100 * a + 10 * b + c) = rch (σ.2.1 0) a b c) (fun (f : (Nat → Nat)) t => BW g (va_A (wC g σ ++ tl) sz) (wC g (sA σ 15 f) ++ tl) t) (va_A (wC g σ ++ tl) sz)) 0 0 (va_A (wC g σ ++ tl) sz) := by
  refine jn_sv (wf := fun f : (Nat → Nat) => wC g (sA σ 15 f) ++ tl) (cc := cX5_fillReached) (maxL := 10) (own := RX5) (by decide) rfl rfl (Nat.le_of_ble_eq_true rfl) ?_
  intro p e s m below meth c Q A hx hb hml hown hts hK hP hD hS hAA hq ls hl
  obtain ⟨H, eH⟩ : ∃ z, z = s.heap := ⟨_, rfl⟩
  obtain ⟨locs, el⟩ : ∃ z : List Loc, z = [] := ⟨_, rfl⟩
  rw [← eH] at hP
  have hS : va_S A s.heap H locs := by rw [eH, el]; exact hS
  have goal0 : W p l e r_c_X5_fillReached_21 s m ([.ref (g.2.2.2 21), .ref (g.2.2.2 1), .int (nI ta), .int (nI tb), .int (nI tc)] : List Value).toArray below meth c H locs 0 0 Q (F0 m 0 ls []) → W p l e r_c_X5_fillReached_21 s m ([.ref (g.2.2.2 21), .ref (g.2.2.2 1), .int (nI ta), .int (nI tb), .int (nI tc)] : List Value).toArray below meth c s.heap [] 0 0 Q (F0 m 0 ls []) := fun h => by rw [eH, el] at h; exact h
  refine goal0 ?_
  have hl : lv_has ls 10 [(0, .ref (g.2.2.2 21)), (1, .ref (g.2.2.2 1)), (2, .int (nI ta)), (3, .int (nI tb)), (4, .int (nI tc))] := hl
  have iX5 : ∀ w ∈ wsX50, w ∈ wsX5_fillReached := by decide +kernel
  have k9 := hts (.fieldLink RX5 9 "JumpingAutomata$CountsTable" "masks" "[I") (by decide +kernel)
  refine lv_iload_n hx hb dX5_fillReached_0 rfl (lv_at hl 2 rfl) ?_
  refine lv_iload_n hx hb dX5_fillReached_1 rfl (lv_at hl 3 rfl) ?_
  refine lv_iload hx hb dX5_fillReached_2 (lv_at hl 4 rfl) ?_
  refine vp_callSi (va_Run.run (va_runSN (As := [.int (nI ta), .int (nI tb), .int (nI tc)]) (rest := []) ⟨hx, hb, hml, hown, hts⟩ (c_X10_areDigits l ta tb tc (by omega) (by omega) (by omega)) ⟨(va_cnB 3 hts gX5_fillReached_X10_areDigits_n15 rfl rfl rfl (hK.2 _ (List.mem_of_getElem? (i := 13) rfl)) (hts (.initialized RX10) (by decide +kernel)) (by decide +kernel) ⟨Nat.le_of_ble_eq_true rfl, Nat.le_of_ble_eq_true rfl⟩), hts (.static yX10_areDigits) (by decide +kernel), trivial⟩ okTS rfl rfl hl.1 rfl (lv_room (Nat.le_of_ble_eq_true rfl)) dX5_fillReached_4 ⟨Nat.le_of_ble_eq_true rfl, Nat.le_of_ble_eq_true rfl⟩)) (fun r_4 h_4 => ?_)
  subst h_4
  refine jn_bne hx hb (tgt := 11) dX5_fillReached_7 (by decide) (fun c_7 => ?_) (fun c_7 => absurd c_7 (by omega))
  refine lv_iconst (v := nI 0) hx hb dX5_fillReached_11 (by decide) ?_
  refine lv_istore (lv' := [(5, .int (nI 0)), (0, .ref (g.2.2.2 21)), (1, .ref (g.2.2.2 1)), (2, .int (nI ta)), (3, .int (nI tb)), (4, .int (nI tc))]) hx hb dX5_fillReached_12 hl (by decide) rfl (fun ls hl => ?_)
  have lp14 : ∀ (fu : Nat), ∀ (a : Nat) (f : Nat → Nat), (a ≤ ta + 1) → (Dn (σ.2.1 0) f tb tc a 0 0) → ta + 1 - a < fu → ∀ (H : Heap) (locs : List Loc), va_P (g.1, g.2.1) vwCl (wC g (sA σ 15 f) ++ tl) H → va_D A (wC g (sA σ 15 f) ++ tl) → va_S A s.heap H locs → ∀ ls : Array Slot, lv_has ls 10 [(0, .ref (g.2.2.2 21)), (1, .ref (g.2.2.2 1)), (2, .int (nI ta)), (3, .int (nI tb)), (4, .int (nI tc)), (5, .int (nI a))] → W p l e r_c_X5_fillReached_21 s m ([.ref (g.2.2.2 21), .ref (g.2.2.2 1), .int (nI ta), .int (nI tb), .int (nI tc)] : List Value).toArray below meth c H locs 0 0 Q (F0 m 14 ls []) := by
    intro fu
    induction fu with
    | zero => intro a f h4 h5 hf; exact absurd hf (Nat.not_lt_zero _)
    | succ fu ih14 =>
      intro a f h4 h5 hf H locs hP hD hS ls hl
      refine lv_iload hx hb dX5_fillReached_14 (lv_at hl 5 rfl) ?_
      refine lv_iload_n hx hb dX5_fillReached_16 rfl (lv_at hl 2 rfl) ?_
      refine jn_cgt hx hb (by omega) (by omega) (tgt := 175) dX5_fillReached_17 (by decide) (fun c_17 => ?_) (fun c_17 => ?_)
      · exact hq _ _ _ _ (f) dX5_fillReached_175 (fun x y z hx hy hz => h5 x y z hy hz (by omega)) hP hD hS
      · refine lv_iconst (v := nI 0) hx hb dX5_fillReached_20 (by decide) ?_
        refine lv_istore (lv' := [(6, .int (nI 0)), (0, .ref (g.2.2.2 21)), (1, .ref (g.2.2.2 1)), (2, .int (nI ta)), (3, .int (nI tb)), (4, .int (nI tc)), (5, .int (nI a))]) hx hb dX5_fillReached_21 hl (by decide) rfl (fun ls hl => ?_)
        have lp23 : ∀ (fu : Nat), ∀ (b : Nat) (f : Nat → Nat), (b ≤ tb + 1) → (Dn (σ.2.1 0) f tb tc a b 0) → tb + 1 - b < fu → ∀ (H : Heap) (locs : List Loc), va_P (g.1, g.2.1) vwCl (wC g (sA σ 15 f) ++ tl) H → va_D A (wC g (sA σ 15 f) ++ tl) → va_S A s.heap H locs → ∀ ls : Array Slot, lv_has ls 10 [(0, .ref (g.2.2.2 21)), (1, .ref (g.2.2.2 1)), (2, .int (nI ta)), (3, .int (nI tb)), (4, .int (nI tc)), (5, .int (nI a)), (6, .int (nI b))] → W p l e r_c_X5_fillReached_21 s m ([.ref (g.2.2.2 21), .ref (g.2.2.2 1), .int (nI ta), .int (nI tb), .int (nI tc)] : List Value).toArray below meth c H locs 0 0 Q (F0 m 23 ls []) := by
          intro fu
          induction fu with
          | zero => intro b f h6 h7 hf; exact absurd hf (Nat.not_lt_zero _)
          | succ fu ih23 =>
            intro b f h6 h7 hf H locs hP hD hS ls hl
            refine lv_iload hx hb dX5_fillReached_23 (lv_at hl 6 rfl) ?_
            refine lv_iload_n hx hb dX5_fillReached_25 rfl (lv_at hl 3 rfl) ?_
            refine jn_cgt hx hb (by omega) (by omega) (tgt := 169) dX5_fillReached_26 (by decide) (fun c_26 => ?_) (fun c_26 => ?_)
            · refine lv_iinc (v := nI (a + 1)) (lv' := [(5, .int (nI (a + 1))), (0, .ref (g.2.2.2 21)), (1, .ref (g.2.2.2 1)), (2, .int (nI ta)), (3, .int (nI tb)), (4, .int (nI tc)), (6, .int (nI b))]) hx hb dX5_fillReached_169 hl (k := 5) rfl (jn_ii _ 1) (by decide) rfl (fun ls hl => ?_)
              refine lv_goto (tgt := 14) hx hb dX5_fillReached_172 (by decide) ?_
              exact ih14 (a + 1) f (by omega) (dn_a h7 (by omega)) (by omega) _ _ hP hD hS _ (lv_sub hl [1, 2, 3, 4, 5, 0] rfl)
            · refine lv_iconst (v := nI 0) hx hb dX5_fillReached_29 (by decide) ?_
              refine lv_istore (lv' := [(7, .int (nI 0)), (0, .ref (g.2.2.2 21)), (1, .ref (g.2.2.2 1)), (2, .int (nI ta)), (3, .int (nI tb)), (4, .int (nI tc)), (5, .int (nI a)), (6, .int (nI b))]) hx hb dX5_fillReached_30 hl (by decide) rfl (fun ls hl => ?_)
              have lp32 : ∀ (fu : Nat), ∀ (c0 : Nat) (f : Nat → Nat), (c0 ≤ tc + 1) → (Dn (σ.2.1 0) f tb tc a b c0) → tc + 1 - c0 < fu → ∀ (H : Heap) (locs : List Loc), va_P (g.1, g.2.1) vwCl (wC g (sA σ 15 f) ++ tl) H → va_D A (wC g (sA σ 15 f) ++ tl) → va_S A s.heap H locs → ∀ ls : Array Slot, lv_has ls 10 [(0, .ref (g.2.2.2 21)), (1, .ref (g.2.2.2 1)), (2, .int (nI ta)), (3, .int (nI tb)), (4, .int (nI tc)), (5, .int (nI a)), (6, .int (nI b)), (7, .int (nI c0))] → W p l e r_c_X5_fillReached_21 s m ([.ref (g.2.2.2 21), .ref (g.2.2.2 1), .int (nI ta), .int (nI tb), .int (nI tc)] : List Value).toArray below meth c H locs 0 0 Q (F0 m 32 ls []) := by
                intro fu
                induction fu with
                | zero => intro c0 f h8 h9 hf; exact absurd hf (Nat.not_lt_zero _)
                | succ fu ih32 =>
                  intro c0 f h8 h9 hf H locs hP hD hS ls hl
                  refine lv_iload hx hb dX5_fillReached_32 (lv_at hl 7 rfl) ?_
                  refine lv_iload hx hb dX5_fillReached_34 (lv_at hl 4 rfl) ?_
                  refine jn_cgt hx hb (by omega) (by omega) (tgt := 163) dX5_fillReached_36 (by decide) (fun c_36 => ?_) (fun c_36 => ?_)
                  · refine lv_iinc (v := nI (b + 1)) (lv' := [(6, .int (nI (b + 1))), (0, .ref (g.2.2.2 21)), (1, .ref (g.2.2.2 1)), (2, .int (nI ta)), (3, .int (nI tb)), (4, .int (nI tc)), (5, .int (nI a)), (7, .int (nI c0))]) hx hb dX5_fillReached_163 hl (k := 6) rfl (jn_ii _ 1) (by decide) rfl (fun ls hl => ?_)
                    refine lv_goto (tgt := 23) hx hb dX5_fillReached_166 (by decide) ?_
                    exact ih23 (b + 1) f (by omega) (dn_b h9 (by omega)) (by omega) _ _ hP hD hS _ (lv_sub hl [1, 2, 3, 4, 5, 6, 0] rfl)
                  · refine lv_iload hx hb dX5_fillReached_39 (lv_at hl 5 rfl) ?_
                    refine lv_iload hx hb dX5_fillReached_41 (lv_at hl 6 rfl) ?_
                    refine lv_iload hx hb dX5_fillReached_43 (lv_at hl 7 rfl) ?_
                    refine vp_callSi (va_Run.run (va_runSN (As := [.int (nI a), .int (nI b), .int (nI c0)]) (rest := []) ⟨hx, hb, hml, hown, hts⟩ (c_X10_codeOf l a b c0) ⟨(va_cnB 3 hts gX5_fillReached_X10_codeOf_n19 rfl rfl rfl (hK.2 _ (List.mem_of_getElem? (i := 14) rfl)) (hts (.initialized RX10) (by decide +kernel)) (by decide +kernel) ⟨Nat.le_of_ble_eq_true rfl, Nat.le_of_ble_eq_true rfl⟩), hts (.static yX10_codeOf) (by decide +kernel), trivial⟩ okTS rfl rfl hl.1 rfl (lv_room (Nat.le_of_ble_eq_true rfl)) dX5_fillReached_45 ⟨Nat.le_of_ble_eq_true rfl, Nat.le_of_ble_eq_true rfl⟩)) (fun r_45 h_45 => ?_)
                    subst h_45
                    refine lv_istore (lv' := [(8, .int (nI (100 * a + 10 * b + c0))), (0, .ref (g.2.2.2 21)), (1, .ref (g.2.2.2 1)), (2, .int (nI ta)), (3, .int (nI tb)), (4, .int (nI tc)), (5, .int (nI a)), (6, .int (nI b)), (7, .int (nI c0))]) hx hb dX5_fillReached_48 hl (by decide) rfl (fun ls hl => ?_)
                    refine lv_iload hx hb dX5_fillReached_50 (lv_at hl 0 rfl) ?_
                    have jp60 : ∀ v60 : Nat, v60 = (if 100 * a + 10 * b + c0 = 0 then 1 else 0) → W p l e r_c_X5_fillReached_21 s m ([.ref (g.2.2.2 21), .ref (g.2.2.2 1), .int (nI ta), .int (nI tb), .int (nI tc)] : List Value).toArray below meth c H locs 0 0 Q (F0 m 60 ls [.int (nI v60)]) := by
                      intro v60 ev60
                      refine lv_istore (lv' := [(9, .int (nI v60)), (8, .int (nI (100 * a + 10 * b + c0))), (0, .ref (g.2.2.2 21)), (1, .ref (g.2.2.2 1)), (2, .int (nI ta)), (3, .int (nI tb)), (4, .int (nI tc)), (5, .int (nI a)), (6, .int (nI b)), (7, .int (nI c0))]) hx hb dX5_fillReached_60 hl (by decide) rfl (fun ls hl => ?_)
                      refine lv_iload hx hb dX5_fillReached_62 (lv_at hl 0 rfl) ?_
                      refine lv_iload hx hb dX5_fillReached_64 (lv_at hl 7 rfl) ?_
                      have jp88 : ∀ v88 : Nat, v88 = (if 0 < a then stp (σ.2.1 0) 0 (rch (σ.2.1 0) (a - 1) b c0) else 0) → W p l e r_c_X5_fillReached_21 s m ([.ref (g.2.2.2 21), .ref (g.2.2.2 1), .int (nI ta), .int (nI tb), .int (nI tc)] : List Value).toArray below meth c H locs 0 0 Q (F0 m 88 ls [.int (nI v88), .int (nI v60)]) := by
                        intro v88 ev88
                        refine jn_ior hx hb dX5_fillReached_88 ?_
                        refine lv_istore (lv' := [(9, .int (nI (v60 ||| v88))), (8, .int (nI (100 * a + 10 * b + c0))), (0, .ref (g.2.2.2 21)), (1, .ref (g.2.2.2 1)), (2, .int (nI ta)), (3, .int (nI tb)), (4, .int (nI tc)), (5, .int (nI a)), (6, .int (nI b)), (7, .int (nI c0))]) hx hb dX5_fillReached_89 hl (by decide) rfl (fun ls hl => ?_)
                        refine lv_iload hx hb dX5_fillReached_91 (lv_at hl 0 rfl) ?_
                        refine lv_iload hx hb dX5_fillReached_93 (lv_at hl 8 rfl) ?_
                        have jp117 : ∀ v117 : Nat, v117 = (if 0 < b then stp (σ.2.1 0) 1 (rch (σ.2.1 0) a (b - 1) c0) else 0) → W p l e r_c_X5_fillReached_21 s m ([.ref (g.2.2.2 21), .ref (g.2.2.2 1), .int (nI ta), .int (nI tb), .int (nI tc)] : List Value).toArray below meth c H locs 0 0 Q (F0 m 117 ls [.int (nI v117), .int (nI (v60 ||| v88))]) := by
                          intro v117 ev117
                          refine jn_ior hx hb dX5_fillReached_117 ?_
                          refine lv_istore (lv' := [(9, .int (nI ((v60 ||| v88) ||| v117))), (8, .int (nI (100 * a + 10 * b + c0))), (0, .ref (g.2.2.2 21)), (1, .ref (g.2.2.2 1)), (2, .int (nI ta)), (3, .int (nI tb)), (4, .int (nI tc)), (5, .int (nI a)), (6, .int (nI b)), (7, .int (nI c0))]) hx hb dX5_fillReached_118 hl (by decide) rfl (fun ls hl => ?_)
                          refine lv_iload hx hb dX5_fillReached_120 (lv_at hl 0 rfl) ?_
                          refine lv_iload hx hb dX5_fillReached_122 (lv_at hl 9 rfl) ?_
                          have jp145 : ∀ v145 : Nat, v145 = (if 0 < c0 then stp (σ.2.1 0) 2 (rch (σ.2.1 0) a b (c0 - 1)) else 0) → W p l e r_c_X5_fillReached_21 s m ([.ref (g.2.2.2 21), .ref (g.2.2.2 1), .int (nI ta), .int (nI tb), .int (nI tc)] : List Value).toArray below meth c H locs 0 0 Q (F0 m 145 ls [.int (nI v145), .int (nI ((v60 ||| v88) ||| v117))]) := by
                            intro v145 ev145
                            refine jn_ior hx hb dX5_fillReached_145 ?_
                            refine lv_istore (lv' := [(9, .int (nI (((v60 ||| v88) ||| v117) ||| v145))), (8, .int (nI (100 * a + 10 * b + c0))), (0, .ref (g.2.2.2 21)), (1, .ref (g.2.2.2 1)), (2, .int (nI ta)), (3, .int (nI tb)), (4, .int (nI tc)), (5, .int (nI a)), (6, .int (nI b)), (7, .int (nI c0))]) hx hb dX5_fillReached_146 hl (by decide) rfl (fun ls hl => ?_)
                            refine lv_aload_n hx hb dX5_fillReached_148 rfl (lv_at hl 2 rfl) ?_
                            refine va_get (D := (g.1, g.2.1)) (ci := 7) (v := .ref (g.2.2.2 22)) (C := RX5) (T := TX5) (N := 1) hx hb hts iX5 hown hK.1 hP 21 (gC21 g (sA σ 15 f) tl) rfl 0 (by decide) k9 (fun _ h9 => h9) rfl dX5_fillReached_149 ?_
                            refine lv_iload hx hb dX5_fillReached_152 (lv_at hl 1 rfl) ?_
                            refine lv_iload hx hb dX5_fillReached_154 (lv_at hl 0 rfl) ?_
                            refine jn_iast (f := f) hx hb hK.1 hP hD hS 22 0 (gC22 g (sA σ 15 f) tl) rfl (by omega) (Nat.le_of_ble_eq_true rfl) (uC_A15 g (sA σ 15 f) tl _) dX5_fillReached_156 (fun H locs hP hD hS => ?_)
                            refine lv_iinc (v := nI (c0 + 1)) (lv' := [(7, .int (nI (c0 + 1))), (9, .int (nI (((v60 ||| v88) ||| v117) ||| v145))), (8, .int (nI (100 * a + 10 * b + c0))), (0, .ref (g.2.2.2 21)), (1, .ref (g.2.2.2 1)), (2, .int (nI ta)), (3, .int (nI tb)), (4, .int (nI tc)), (5, .int (nI a)), (6, .int (nI b))]) hx hb dX5_fillReached_157 hl (k := 9) rfl (jn_ii _ 1) (by decide) rfl (fun ls hl => ?_)
                            refine lv_goto (tgt := 32) hx hb dX5_fillReached_160 (by decide) ?_
                            exact ih32 (c0 + 1) (va_up f (100 * a + 10 * b + c0) (((v60 ||| v88) ||| v117) ||| v145)) (by omega) (dn_put h2 h3 (by omega) (by omega) h9 (by rw [ev60, ev88, ev117, ev145, c0_eq, ← rch_eq])) (by omega) _ _ hP hD hS _ (lv_sub hl [3, 4, 5, 6, 7, 8, 9, 0] rfl)
                          refine jn_zle hx hb (by omega) (tgt := 144) dX5_fillReached_124 (by decide) (fun c_124 => ?_) (fun c_124 => ?_)
                          · refine lv_iconst (v := nI 0) hx hb dX5_fillReached_144 (by decide) ?_
                            exact jp145 0 (by rw [if_neg (by omega)])
                          · refine lv_aload_n hx hb dX5_fillReached_127 rfl (lv_at hl 3 rfl) ?_
                            refine lv_iconst (v := nI 2) hx hb dX5_fillReached_128 (by decide) ?_
                            refine lv_aload_n hx hb dX5_fillReached_129 rfl (lv_at hl 2 rfl) ?_
                            refine va_get (D := (g.1, g.2.1)) (ci := 7) (v := .ref (g.2.2.2 22)) (C := RX5) (T := TX5) (N := 1) hx hb hts iX5 hown hK.1 hP 21 (gC21 g (sA σ 15 f) tl) rfl 0 (by decide) k9 (fun _ h9 => h9) rfl dX5_fillReached_130 ?_
                            refine lv_iload hx hb dX5_fillReached_133 (lv_at hl 1 rfl) ?_
                            refine lv_iconst (v := nI 1) hx hb dX5_fillReached_135 (by decide) ?_
                            refine jn_isub hx hb (by omega) dX5_fillReached_136 ?_
                            refine jn_iald (f := f) hx hb hK.1 hP 22 0 (gC22 g (sA σ 15 f) tl) rfl (by omega) (Nat.le_of_ble_eq_true rfl) dX5_fillReached_137 ?_
                            rw [show f (100 * a + 10 * b + c0 - 1) = rch (σ.2.1 0) a b (c0 - 1) by rw [show 100 * a + 10 * b + c0 - 1 = 100 * a + 10 * b + (c0 - 1) by omega]; exact h9 _ _ _ (by omega) (by omega) (by omega)]
                            refine vp_callSi (va_Run.run (va_runV (As := [.int (nI 2), .int (nI (rch (σ.2.1 0) a b (c0 - 1)))]) (rest := [.int (nI ((v60 ||| v88) ||| v117))]) ⟨hx, hb, hml, hown, hts⟩ (c_X0_step l g tl (sA σ 15 f) 2 (rch (σ.2.1 0) a b (c0 - 1)) hA (by decide) (rch_lt hA.1 _ _ _)) (cwV 2 hts gX5_fillReached_X0_step rfl rfl rfl (by decide +kernel) ⟨Nat.le_of_ble_eq_true rfl, Nat.le_of_ble_eq_true rfl⟩) (okPV hK hP rfl (gC1 g (sA σ 15 f) tl)) rfl rfl hl.1 rfl (lv_room (Nat.le_of_ble_eq_true rfl)) dX5_fillReached_138 ⟨Nat.le_of_ble_eq_true rfl, Nat.le_of_ble_eq_true rfl⟩)) (fun r_138 h_138 => ?_)
                            have h_138 : r_138 = (nI (stp (σ.2.1 0) 2 (rch (σ.2.1 0) a b (c0 - 1)))) := h_138
                            subst h_138
                            refine lv_goto (tgt := 145) hx hb dX5_fillReached_141 (by decide) ?_
                            exact jp145 (stp (σ.2.1 0) 2 (rch (σ.2.1 0) a b (c0 - 1))) (by rw [if_pos (by omega)])
                        refine jn_zle hx hb (by omega) (tgt := 116) dX5_fillReached_95 (by decide) (fun c_95 => ?_) (fun c_95 => ?_)
                        · refine lv_iconst (v := nI 0) hx hb dX5_fillReached_116 (by decide) ?_
                          exact jp117 0 (by rw [if_neg (by omega)])
                        · refine lv_aload_n hx hb dX5_fillReached_98 rfl (lv_at hl 3 rfl) ?_
                          refine lv_iconst (v := nI 1) hx hb dX5_fillReached_99 (by decide) ?_
                          refine lv_aload_n hx hb dX5_fillReached_100 rfl (lv_at hl 2 rfl) ?_
                          refine va_get (D := (g.1, g.2.1)) (ci := 7) (v := .ref (g.2.2.2 22)) (C := RX5) (T := TX5) (N := 1) hx hb hts iX5 hown hK.1 hP 21 (gC21 g (sA σ 15 f) tl) rfl 0 (by decide) k9 (fun _ h9 => h9) rfl dX5_fillReached_101 ?_
                          refine lv_iload hx hb dX5_fillReached_104 (lv_at hl 1 rfl) ?_
                          refine lv_bipush (v := nI 10) hx hb dX5_fillReached_106 (by decide) ?_
                          refine jn_isub hx hb (by omega) dX5_fillReached_108 ?_
                          refine jn_iald (f := f) hx hb hK.1 hP 22 0 (gC22 g (sA σ 15 f) tl) rfl (by omega) (Nat.le_of_ble_eq_true rfl) dX5_fillReached_109 ?_
                          rw [show f (100 * a + 10 * b + c0 - 10) = rch (σ.2.1 0) a (b - 1) c0 by rw [show 100 * a + 10 * b + c0 - 10 = 100 * a + 10 * (b - 1) + c0 by omega]; exact h9 _ _ _ (by omega) (by omega) (by omega)]
                          refine vp_callSi (va_Run.run (va_runV (As := [.int (nI 1), .int (nI (rch (σ.2.1 0) a (b - 1) c0))]) (rest := [.int (nI (v60 ||| v88))]) ⟨hx, hb, hml, hown, hts⟩ (c_X0_step l g tl (sA σ 15 f) 1 (rch (σ.2.1 0) a (b - 1) c0) hA (by decide) (rch_lt hA.1 _ _ _)) (cwV 2 hts gX5_fillReached_X0_step rfl rfl rfl (by decide +kernel) ⟨Nat.le_of_ble_eq_true rfl, Nat.le_of_ble_eq_true rfl⟩) (okPV hK hP rfl (gC1 g (sA σ 15 f) tl)) rfl rfl hl.1 rfl (lv_room (Nat.le_of_ble_eq_true rfl)) dX5_fillReached_110 ⟨Nat.le_of_ble_eq_true rfl, Nat.le_of_ble_eq_true rfl⟩)) (fun r_110 h_110 => ?_)
                          have h_110 : r_110 = (nI (stp (σ.2.1 0) 1 (rch (σ.2.1 0) a (b - 1) c0))) := h_110
                          subst h_110
                          refine lv_goto (tgt := 117) hx hb dX5_fillReached_113 (by decide) ?_
                          exact jp117 (stp (σ.2.1 0) 1 (rch (σ.2.1 0) a (b - 1) c0)) (by rw [if_pos (by omega)])
                      refine jn_zle hx hb (by omega) (tgt := 87) dX5_fillReached_66 (by decide) (fun c_66 => ?_) (fun c_66 => ?_)
                      · refine lv_iconst (v := nI 0) hx hb dX5_fillReached_87 (by decide) ?_
                        exact jp88 0 (by rw [if_neg (by omega)])
                      · refine lv_aload_n hx hb dX5_fillReached_69 rfl (lv_at hl 3 rfl) ?_
                        refine lv_iconst (v := nI 0) hx hb dX5_fillReached_70 (by decide) ?_
                        refine lv_aload_n hx hb dX5_fillReached_71 rfl (lv_at hl 2 rfl) ?_
                        refine va_get (D := (g.1, g.2.1)) (ci := 7) (v := .ref (g.2.2.2 22)) (C := RX5) (T := TX5) (N := 1) hx hb hts iX5 hown hK.1 hP 21 (gC21 g (sA σ 15 f) tl) rfl 0 (by decide) k9 (fun _ h9 => h9) rfl dX5_fillReached_72 ?_
                        refine lv_iload hx hb dX5_fillReached_75 (lv_at hl 1 rfl) ?_
                        refine lv_bipush (v := nI 100) hx hb dX5_fillReached_77 (by decide) ?_
                        refine jn_isub hx hb (by omega) dX5_fillReached_79 ?_
                        refine jn_iald (f := f) hx hb hK.1 hP 22 0 (gC22 g (sA σ 15 f) tl) rfl (by omega) (Nat.le_of_ble_eq_true rfl) dX5_fillReached_80 ?_
                        rw [show f (100 * a + 10 * b + c0 - 100) = rch (σ.2.1 0) (a - 1) b c0 by rw [show 100 * a + 10 * b + c0 - 100 = 100 * (a - 1) + 10 * b + c0 by omega]; exact h9 _ _ _ (by omega) (by omega) (by omega)]
                        refine vp_callSi (va_Run.run (va_runV (As := [.int (nI 0), .int (nI (rch (σ.2.1 0) (a - 1) b c0))]) (rest := [.int (nI v60)]) ⟨hx, hb, hml, hown, hts⟩ (c_X0_step l g tl (sA σ 15 f) 0 (rch (σ.2.1 0) (a - 1) b c0) hA (by decide) (rch_lt hA.1 _ _ _)) (cwV 2 hts gX5_fillReached_X0_step rfl rfl rfl (by decide +kernel) ⟨Nat.le_of_ble_eq_true rfl, Nat.le_of_ble_eq_true rfl⟩) (okPV hK hP rfl (gC1 g (sA σ 15 f) tl)) rfl rfl hl.1 rfl (lv_room (Nat.le_of_ble_eq_true rfl)) dX5_fillReached_81 ⟨Nat.le_of_ble_eq_true rfl, Nat.le_of_ble_eq_true rfl⟩)) (fun r_81 h_81 => ?_)
                        have h_81 : r_81 = (nI (stp (σ.2.1 0) 0 (rch (σ.2.1 0) (a - 1) b c0))) := h_81
                        subst h_81
                        refine lv_goto (tgt := 88) hx hb dX5_fillReached_84 (by decide) ?_
                        exact jp88 (stp (σ.2.1 0) 0 (rch (σ.2.1 0) (a - 1) b c0)) (by rw [if_pos (by omega)])
                    refine jn_zne hx hb (by omega) (tgt := 59) dX5_fillReached_52 (by decide) (fun c_52 => ?_) (fun c_52 => ?_)
                    · refine lv_iconst (v := nI 0) hx hb dX5_fillReached_59 (by decide) ?_
                      exact jp60 0 (by rw [if_neg c_52])
                    · refine lv_iconst (v := nI 1) hx hb dX5_fillReached_55 (by decide) ?_
                      refine lv_goto (tgt := 60) hx hb dX5_fillReached_56 (by decide) ?_
                      exact jp60 1 (by rw [if_pos c_52])
              exact lp32 _ 0 f (by omega) h7 (Nat.lt_succ_self _) _ _ hP hD hS _ (lv_sub hl [1, 2, 3, 4, 5, 6, 7, 0] rfl)
        exact lp23 _ 0 f (by omega) h5 (Nat.lt_succ_self _) _ _ hP hD hS _ (lv_sub hl [1, 2, 3, 4, 5, 6, 0] rfl)
  exact lp14 _ 0 (σ.2.1 15) (by omega) (fun x y z _ _ q => absurd q (by omega)) (Nat.lt_succ_self _) _ _ hP hD hS _ (lv_sub hl [1, 2, 3, 4, 5, 0] rfl)

abbrev r_c_X5_at_23 : Room := { frames := 0, cells := 0, slots := 0, locals := 0 }
set_option maxHeartbeats 4000000 in
set_option maxRecDepth 100000 in
theorem c_X5_at_23 (l : Launch) (g : GC) (tl : va_W) (σ : SS) (k : Nat) (hk : k < 1000) : Met l yX5_at wsX5_at r_c_X5_at_23 (va_Pc [.ref (g.2.2.2 23), .int (nI k)] (PP g (wC g σ ++ tl))) (vp_Si (fun r => r = nI ((σ.2.1 16) k))) 0 0 (fun _ => False) := by
  refine jn_pi (cc := cX5_at) (maxL := 2) (own := RX5) (by decide) rfl rfl (Nat.le_of_ble_eq_true rfl) ?_
  intro p e s m below meth c Q hx hb hml hown hts ⟨hP, hK⟩ hq ls hl
  have hl : lv_has ls 2 [(0, .ref (g.2.2.2 23)), (1, .int (nI k))] := hl
  have iX5 : ∀ w ∈ wsX50, w ∈ wsX5_at := by decide +kernel
  have k9 := hts (.fieldLink RX5 9 "JumpingAutomata$CountsTable" "masks" "[I") (by decide +kernel)
  refine lv_iload_n hx hb dX5_at_0 rfl (lv_at hl 1 rfl) ?_
  refine jn_zlt hx hb (by omega) (tgt := 20) dX5_at_1 (by decide) (fun c_1 => absurd c_1 (by omega)) (fun c_1 => ?_)
  refine lv_iload_n hx hb dX5_at_4 rfl (lv_at hl 1 rfl) ?_
  refine lv_sipush (v := nI 1000) hx hb dX5_at_5 (by decide) ?_
  refine jn_cge hx hb (by omega) (by decide) (tgt := 20) dX5_at_8 (by decide) (fun c_8 => absurd c_8 (by omega)) (fun c_8 => ?_)
  refine lv_aload_n hx hb dX5_at_11 rfl (lv_at hl 0 rfl) ?_
  refine va_get (D := (g.1, g.2.1)) (ci := 7) (v := .ref (g.2.2.2 24)) (C := RX5) (T := TX5) (N := 1) hx hb hts iX5 hown hK.1 hP 23 (gC23 g σ tl) rfl 0 (by decide) k9 (fun _ h9 => h9) rfl dX5_at_12 ?_
  refine lv_iload_n hx hb dX5_at_15 rfl (lv_at hl 1 rfl) ?_
  refine jn_iald (f := σ.2.1 16) hx hb hK.1 hP 24 0 (gC24 g σ tl) rfl (by omega) (Nat.le_of_ble_eq_true rfl) dX5_at_16 ?_
  refine lv_goto (tgt := 21) hx hb dX5_at_17 (by decide) ?_
  exact hq _ _ ((nI ((σ.2.1 16) k))) dX5_at_21 rfl

abbrev r_c_X5_countMeeting_23 : Room := { frames := 1, cells := 0, slots := 0, locals := 22 }
set_option maxHeartbeats 4000000 in
set_option maxRecDepth 100000 in
theorem c_X5_countMeeting_23 (l : Launch) (g : GC) (tl : va_W) (σ : SS) (v bd : Nat) (hv : v < 4294967296) (hb2 : bd < 10) : Met l yX5_countMeeting wsX5_countMeeting r_c_X5_countMeeting_23 (va_Pc [.ref (g.2.2.2 23), .int (nI v), .int (nI bd)] (PP g (wC g σ ++ tl))) (vp_Si (fun r => r = nI (cnt3 (fun a b c => decide ((σ.2.1 16) (100 * a + 10 * b + c) &&& v ≠ 0)) (bd + 1)))) 0 0 (fun _ => False) := by
  refine jn_pi (cc := cX5_countMeeting) (maxL := 7) (own := RX5) (by decide) rfl rfl (Nat.le_of_ble_eq_true rfl) ?_
  intro p e s m below meth c Q hx hb hml hown hts ⟨hP, hK⟩ hq ls hl
  have hl : lv_has ls 7 [(0, .ref (g.2.2.2 23)), (1, .int (nI v)), (2, .int (nI bd))] := hl
  refine lv_iconst (v := nI 0) hx hb dX5_countMeeting_0 (by decide) ?_
  refine lv_istore_n (lv' := [(3, .int (nI 0)), (0, .ref (g.2.2.2 23)), (1, .int (nI v)), (2, .int (nI bd))]) hx hb dX5_countMeeting_1 rfl hl (by decide) rfl (fun ls hl => ?_)
  refine lv_iconst (v := nI 0) hx hb dX5_countMeeting_2 (by decide) ?_
  refine lv_istore (lv' := [(4, .int (nI 0)), (3, .int (nI 0)), (0, .ref (g.2.2.2 23)), (1, .int (nI v)), (2, .int (nI bd))]) hx hb dX5_countMeeting_3 hl (by decide) rfl (fun ls hl => ?_)
  have lp5 : ∀ (fu : Nat), ∀ (a : Nat) (z : Nat), (a ≤ bd + 1) → (z = fb_sm (fun a => fb_sm (fun b => fb_ct (fun c => decide ((σ.2.1 16) (100 * a + 10 * b + c) &&& v ≠ 0)) (bd + 1)) (bd + 1)) a) → bd + 1 - a < fu → ∀ ls : Array Slot, lv_has ls 7 [(0, .ref (g.2.2.2 23)), (1, .int (nI v)), (2, .int (nI bd)), (3, .int (nI z)), (4, .int (nI a))] → W p l e r_c_X5_countMeeting_23 s m ([.ref (g.2.2.2 23), .int (nI v), .int (nI bd)] : List Value).toArray below meth c s.heap [] 0 0 Q (F0 m 5 ls []) := by
    intro fu
    induction fu with
    | zero => intro a z h1 h2 hf; exact absurd hf (Nat.not_lt_zero _)
    | succ fu ih5 =>
      intro a z h1 h2 hf ls hl
      refine lv_iload hx hb dX5_countMeeting_5 (lv_at hl 4 rfl) ?_
      refine lv_iload_n hx hb dX5_countMeeting_7 rfl (lv_at hl 2 rfl) ?_
      refine jn_cgt hx hb (by omega) (by omega) (tgt := 73) dX5_countMeeting_8 (by decide) (fun c_8 => ?_) (fun c_8 => ?_)
      · refine lv_iload_n hx hb dX5_countMeeting_73 rfl (lv_at hl 3 rfl) ?_
        exact hq _ _ ((nI z)) dX5_countMeeting_74 (by rw [h2, show a = bd + 1 by omega]; rfl)
      · refine lv_iconst (v := nI 0) hx hb dX5_countMeeting_11 (by decide) ?_
        refine lv_istore (lv' := [(5, .int (nI 0)), (0, .ref (g.2.2.2 23)), (1, .int (nI v)), (2, .int (nI bd)), (3, .int (nI z)), (4, .int (nI a))]) hx hb dX5_countMeeting_12 hl (by decide) rfl (fun ls hl => ?_)
        have lp14 : ∀ (fu : Nat), ∀ (b : Nat) (z : Nat), (b ≤ bd + 1) → (z = fb_sm (fun a => fb_sm (fun b => fb_ct (fun c => decide ((σ.2.1 16) (100 * a + 10 * b + c) &&& v ≠ 0)) (bd + 1)) (bd + 1)) a + fb_sm (fun b => fb_ct (fun c => decide ((σ.2.1 16) (100 * a + 10 * b + c) &&& v ≠ 0)) (bd + 1)) b) → bd + 1 - b < fu → ∀ ls : Array Slot, lv_has ls 7 [(0, .ref (g.2.2.2 23)), (1, .int (nI v)), (2, .int (nI bd)), (3, .int (nI z)), (4, .int (nI a)), (5, .int (nI b))] → W p l e r_c_X5_countMeeting_23 s m ([.ref (g.2.2.2 23), .int (nI v), .int (nI bd)] : List Value).toArray below meth c s.heap [] 0 0 Q (F0 m 14 ls []) := by
          intro fu
          induction fu with
          | zero => intro b z h3 h4 hf; exact absurd hf (Nat.not_lt_zero _)
          | succ fu ih14 =>
            intro b z h3 h4 hf ls hl
            refine lv_iload hx hb dX5_countMeeting_14 (lv_at hl 5 rfl) ?_
            refine lv_iload_n hx hb dX5_countMeeting_16 rfl (lv_at hl 2 rfl) ?_
            refine jn_cgt hx hb (by omega) (by omega) (tgt := 67) dX5_countMeeting_17 (by decide) (fun c_17 => ?_) (fun c_17 => ?_)
            · refine lv_iinc (v := nI (a + 1)) (lv' := [(4, .int (nI (a + 1))), (0, .ref (g.2.2.2 23)), (1, .int (nI v)), (2, .int (nI bd)), (3, .int (nI z)), (5, .int (nI b))]) hx hb dX5_countMeeting_67 hl (k := 4) rfl (jn_ii _ 1) (by decide) rfl (fun ls hl => ?_)
              refine lv_goto (tgt := 5) hx hb dX5_countMeeting_70 (by decide) ?_
              exact ih5 (a + 1) z (by omega) (by rw [h4, show b = bd + 1 by omega]; rfl) (by omega) _ (lv_sub hl [1, 2, 3, 4, 0] rfl)
            · refine lv_iconst (v := nI 0) hx hb dX5_countMeeting_20 (by decide) ?_
              refine lv_istore (lv' := [(6, .int (nI 0)), (0, .ref (g.2.2.2 23)), (1, .int (nI v)), (2, .int (nI bd)), (3, .int (nI z)), (4, .int (nI a)), (5, .int (nI b))]) hx hb dX5_countMeeting_21 hl (by decide) rfl (fun ls hl => ?_)
              have lp23 : ∀ (fu : Nat), ∀ (c0 : Nat) (z : Nat), (c0 ≤ bd + 1) → (z = fb_sm (fun a => fb_sm (fun b => fb_ct (fun c => decide ((σ.2.1 16) (100 * a + 10 * b + c) &&& v ≠ 0)) (bd + 1)) (bd + 1)) a + fb_sm (fun b => fb_ct (fun c => decide ((σ.2.1 16) (100 * a + 10 * b + c) &&& v ≠ 0)) (bd + 1)) b + fb_ct (fun c => decide ((σ.2.1 16) (100 * a + 10 * b + c) &&& v ≠ 0)) c0) → bd + 1 - c0 < fu → ∀ ls : Array Slot, lv_has ls 7 [(0, .ref (g.2.2.2 23)), (1, .int (nI v)), (2, .int (nI bd)), (3, .int (nI z)), (4, .int (nI a)), (5, .int (nI b)), (6, .int (nI c0))] → W p l e r_c_X5_countMeeting_23 s m ([.ref (g.2.2.2 23), .int (nI v), .int (nI bd)] : List Value).toArray below meth c s.heap [] 0 0 Q (F0 m 23 ls []) := by
                intro fu
                induction fu with
                | zero => intro c0 z h5 h6 hf; exact absurd hf (Nat.not_lt_zero _)
                | succ fu ih23 =>
                  intro c0 z h5 h6 hf ls hl
                  refine lv_iload hx hb dX5_countMeeting_23 (lv_at hl 6 rfl) ?_
                  refine lv_iload_n hx hb dX5_countMeeting_25 rfl (lv_at hl 2 rfl) ?_
                  refine jn_cgt hx hb (by omega) (by omega) (tgt := 61) dX5_countMeeting_26 (by decide) (fun c_26 => ?_) (fun c_26 => ?_)
                  · refine lv_iinc (v := nI (b + 1)) (lv' := [(5, .int (nI (b + 1))), (0, .ref (g.2.2.2 23)), (1, .int (nI v)), (2, .int (nI bd)), (3, .int (nI z)), (4, .int (nI a)), (6, .int (nI c0))]) hx hb dX5_countMeeting_61 hl (k := 5) rfl (jn_ii _ 1) (by decide) rfl (fun ls hl => ?_)
                    refine lv_goto (tgt := 14) hx hb dX5_countMeeting_64 (by decide) ?_
                    exact ih14 (b + 1) z (by omega) (by rw [h6, show c0 = bd + 1 by omega, Nat.add_assoc]; rfl) (by omega) _ (lv_sub hl [1, 2, 3, 4, 5, 0] rfl)
                  · refine lv_iload_n hx hb dX5_countMeeting_29 rfl (lv_at hl 3 rfl) ?_
                    refine lv_aload_n hx hb dX5_countMeeting_30 rfl (lv_at hl 0 rfl) ?_
                    refine lv_iload hx hb dX5_countMeeting_31 (lv_at hl 4 rfl) ?_
                    refine lv_iload hx hb dX5_countMeeting_33 (lv_at hl 5 rfl) ?_
                    refine lv_iload hx hb dX5_countMeeting_35 (lv_at hl 6 rfl) ?_
                    refine vp_callSi (va_Run.run (va_runSN (As := [.int (nI a), .int (nI b), .int (nI c0)]) (rest := [.ref (g.2.2.2 23), .int (nI z)]) ⟨hx, hb, hml, hown, hts⟩ (c_X10_codeOf l a b c0) ⟨(va_cnB 3 hts gX5_countMeeting_X10_codeOf_n19 rfl rfl rfl (hK.2 _ (List.mem_of_getElem? (i := 14) rfl)) (hts (.initialized RX10) (by decide +kernel)) (by decide +kernel) ⟨Nat.le_of_ble_eq_true rfl, Nat.le_of_ble_eq_true rfl⟩), hts (.static yX10_codeOf) (by decide +kernel), trivial⟩ okTS rfl rfl hl.1 rfl (lv_room (Nat.le_of_ble_eq_true rfl)) dX5_countMeeting_37 ⟨Nat.le_of_ble_eq_true rfl, Nat.le_of_ble_eq_true rfl⟩)) (fun r_37 h_37 => ?_)
                    subst h_37
                    refine vp_callSi (va_Run.run (va_runV (As := [.int (nI (100 * a + 10 * b + c0))]) (rest := [.int (nI z)]) ⟨hx, hb, hml, hown, hts⟩ (c_X5_at_23 l g tl σ (100 * a + 10 * b + c0) (by omega)) (cwV 1 hts gX5_countMeeting_X5_at rfl rfl rfl (by decide +kernel) ⟨Nat.le_of_ble_eq_true rfl, Nat.le_of_ble_eq_true rfl⟩) (okPV hK hP rfl (gC23 g σ tl)) rfl rfl hl.1 rfl (lv_room (Nat.le_of_ble_eq_true rfl)) dX5_countMeeting_40 ⟨Nat.le_of_ble_eq_true rfl, Nat.le_of_ble_eq_true rfl⟩)) (fun r_40 h_40 => ?_)
                    subst h_40
                    refine lv_iload_n hx hb dX5_countMeeting_43 rfl (lv_at hl 1 rfl) ?_
                    refine jn_iand hx hb dX5_countMeeting_44 ?_
                    have jp53 : ∀ v53 : Nat, v53 = (if (σ.2.1 16) (100 * a + 10 * b + c0) &&& v = 0 then 0 else 1) → W p l e r_c_X5_countMeeting_23 s m ([.ref (g.2.2.2 23), .int (nI v), .int (nI bd)] : List Value).toArray below meth c s.heap [] 0 0 Q (F0 m 53 ls [.int (nI v53), .int (nI z)]) := by
                      intro v53 ev53
                      refine jn_iadd hx hb dX5_countMeeting_53 ?_
                      refine lv_istore_n (lv' := [(3, .int (nI (z + v53))), (0, .ref (g.2.2.2 23)), (1, .int (nI v)), (2, .int (nI bd)), (4, .int (nI a)), (5, .int (nI b)), (6, .int (nI c0))]) hx hb dX5_countMeeting_54 rfl hl (by decide) rfl (fun ls hl => ?_)
                      refine lv_iinc (v := nI (c0 + 1)) (lv' := [(6, .int (nI (c0 + 1))), (3, .int (nI (z + v53))), (0, .ref (g.2.2.2 23)), (1, .int (nI v)), (2, .int (nI bd)), (4, .int (nI a)), (5, .int (nI b))]) hx hb dX5_countMeeting_55 hl (k := 6) rfl (jn_ii _ 1) (by decide) rfl (fun ls hl => ?_)
                      refine lv_goto (tgt := 23) hx hb dX5_countMeeting_58 (by decide) ?_
                      exact ih23 (c0 + 1) (z + v53) (by omega) (by rw [h6, fb_ct_succ, Nat.add_assoc]; congr 1; congr 1; rw [ev53]; by_cases q : (σ.2.1 16) (100 * a + 10 * b + c0) &&& v = 0; { rw [if_pos q, if_neg (by simp [q])] }; { rw [if_neg q, if_pos (by simp [q])] }) (by omega) _ (lv_sub hl [2, 3, 4, 1, 5, 6, 0] rfl)
                    refine jn_zeq hx hb (and_lt (by omega)) (tgt := 52) dX5_countMeeting_45 (by decide) (fun c_45 => ?_) (fun c_45 => ?_)
                    · refine lv_iconst (v := nI 0) hx hb dX5_countMeeting_52 (by decide) ?_
                      exact jp53 0 (by rw [if_pos c_45])
                    · refine lv_iconst (v := nI 1) hx hb dX5_countMeeting_48 (by decide) ?_
                      refine lv_goto (tgt := 53) hx hb dX5_countMeeting_49 (by decide) ?_
                      exact jp53 1 (by rw [if_neg c_45])
              exact lp23 _ 0 z (by omega) (by rw [h4]; rfl) (Nat.lt_succ_self _) _ (lv_sub hl [1, 2, 3, 4, 5, 6, 0] rfl)
        exact lp14 _ 0 z (by omega) (by rw [h2]; rfl) (Nat.lt_succ_self _) _ (lv_sub hl [1, 2, 3, 4, 5, 0] rfl)
  exact lp5 _ 0 0 (by omega) rfl (Nat.lt_succ_self _) _ (lv_sub hl [2, 3, 4, 1, 0] rfl)

abbrev r_c_X5_empty_23 : Room := { frames := 0, cells := 0, slots := 0, locals := 0 }
set_option maxHeartbeats 4000000 in
set_option maxRecDepth 100000 in
theorem c_X5_empty_23 (l : Launch) (g : GC) (tl : va_W) (sz : Nat) (σ : SS) (tp : Nat) (h1 : tp < 1000) : Met l yX5_empty wsX5_empty r_c_X5_empty_23 (va_Pc [.ref (g.2.2.2 23), .int (nI tp)] (PW g (wC g σ ++ tl) sz)) (va_Qv (fun (f : (Nat → Nat)) => ∀ k, k ≤ tp → f k = 0) (fun (f : (Nat → Nat)) t => BW g (va_A (wC g σ ++ tl) sz) (wC g (sA σ 16 f) ++ tl) t) (va_A (wC g σ ++ tl) sz)) 0 0 (va_A (wC g σ ++ tl) sz) := by
  refine jn_sv (wf := fun f : (Nat → Nat) => wC g (sA σ 16 f) ++ tl) (cc := cX5_empty) (maxL := 3) (own := RX5) (by decide) rfl rfl (Nat.le_of_ble_eq_true rfl) ?_
  intro p e s m below meth c Q A hx hb hml hown hts hK hP hD hS hAA hq ls hl
  obtain ⟨H, eH⟩ : ∃ z, z = s.heap := ⟨_, rfl⟩
  obtain ⟨locs, el⟩ : ∃ z : List Loc, z = [] := ⟨_, rfl⟩
  rw [← eH] at hP
  have hS : va_S A s.heap H locs := by rw [eH, el]; exact hS
  have goal0 : W p l e r_c_X5_empty_23 s m ([.ref (g.2.2.2 23), .int (nI tp)] : List Value).toArray below meth c H locs 0 0 Q (F0 m 0 ls []) → W p l e r_c_X5_empty_23 s m ([.ref (g.2.2.2 23), .int (nI tp)] : List Value).toArray below meth c s.heap [] 0 0 Q (F0 m 0 ls []) := fun h => by rw [eH, el] at h; exact h
  refine goal0 ?_
  have hl : lv_has ls 3 [(0, .ref (g.2.2.2 23)), (1, .int (nI tp))] := hl
  have iX5 : ∀ w ∈ wsX50, w ∈ wsX5_empty := by decide +kernel
  have k9 := hts (.fieldLink RX5 9 "JumpingAutomata$CountsTable" "masks" "[I") (by decide +kernel)
  refine lv_iconst (v := nI 0) hx hb dX5_empty_0 (by decide) ?_
  refine lv_istore_n (lv' := [(2, .int (nI 0)), (0, .ref (g.2.2.2 23)), (1, .int (nI tp))]) hx hb dX5_empty_1 rfl hl (by decide) rfl (fun ls hl => ?_)
  have lp2 : ∀ (fu : Nat), ∀ (i : Nat) (f : Nat → Nat), (i ≤ tp + 1) → (∀ k, k < i → f k = 0) → tp + 1 - i < fu → ∀ (H : Heap) (locs : List Loc), va_P (g.1, g.2.1) vwCl (wC g (sA σ 16 f) ++ tl) H → va_D A (wC g (sA σ 16 f) ++ tl) → va_S A s.heap H locs → ∀ ls : Array Slot, lv_has ls 3 [(0, .ref (g.2.2.2 23)), (1, .int (nI tp)), (2, .int (nI i))] → W p l e r_c_X5_empty_23 s m ([.ref (g.2.2.2 23), .int (nI tp)] : List Value).toArray below meth c H locs 0 0 Q (F0 m 2 ls []) := by
    intro fu
    induction fu with
    | zero => intro i f h2 h3 hf; exact absurd hf (Nat.not_lt_zero _)
    | succ fu ih2 =>
      intro i f h2 h3 hf H locs hP hD hS ls hl
      refine lv_iload_n hx hb dX5_empty_2 rfl (lv_at hl 2 rfl) ?_
      refine lv_sipush (v := nI 1000) hx hb dX5_empty_3 (by decide) ?_
      refine jn_cge hx hb (by omega) (by decide) (tgt := 27) dX5_empty_6 (by decide) (fun c_6 => ?_) (fun c_6 => ?_)
      · exact hq _ _ _ _ (f) dX5_empty_27 (fun k hk => h3 k (by omega)) hP hD hS
      · refine lv_iload_n hx hb dX5_empty_9 rfl (lv_at hl 2 rfl) ?_
        refine lv_iload_n hx hb dX5_empty_10 rfl (lv_at hl 1 rfl) ?_
        refine jn_cgt hx hb (by omega) (by omega) (tgt := 27) dX5_empty_11 (by decide) (fun c_11 => ?_) (fun c_11 => ?_)
        · exact hq _ _ _ _ (f) dX5_empty_27 (fun k hk => h3 k (by omega)) hP hD hS
        · refine lv_aload_n hx hb dX5_empty_14 rfl (lv_at hl 0 rfl) ?_
          refine va_get (D := (g.1, g.2.1)) (ci := 7) (v := .ref (g.2.2.2 24)) (C := RX5) (T := TX5) (N := 1) hx hb hts iX5 hown hK.1 hP 23 (gC23 g (sA σ 16 f) tl) rfl 0 (by decide) k9 (fun _ h9 => h9) rfl dX5_empty_15 ?_
          refine lv_iload_n hx hb dX5_empty_18 rfl (lv_at hl 2 rfl) ?_
          refine lv_iconst (v := nI 0) hx hb dX5_empty_19 (by decide) ?_
          refine jn_iast (f := f) hx hb hK.1 hP hD hS 24 0 (gC24 g (sA σ 16 f) tl) rfl (by omega) (Nat.le_of_ble_eq_true rfl) (uC_A16 g (sA σ 16 f) tl _) dX5_empty_20 (fun H locs hP hD hS => ?_)
          refine lv_iinc (v := nI (i + 1)) (lv' := [(2, .int (nI (i + 1))), (0, .ref (g.2.2.2 23)), (1, .int (nI tp))]) hx hb dX5_empty_21 hl (k := 2) rfl (jn_ii _ 1) (by decide) rfl (fun ls hl => ?_)
          refine lv_goto (tgt := 2) hx hb dX5_empty_24 (by decide) ?_
          exact ih2 (i + 1) (va_up f i 0) (by omega) (fun k hk => by unfold va_up; split <;> first | rfl | exact h3 k (by omega)) (by omega) _ _ hP hD hS _ (lv_sub hl [1, 2, 0] rfl)
  exact lp2 _ 0 (σ.2.1 16) (by omega) (fun k hk => absurd hk (by omega)) (Nat.lt_succ_self _) _ _ hP hD hS _ (lv_sub hl [1, 2, 0] rfl)

abbrev r_c_X5_mark_23 : Room := { frames := 0, cells := 0, slots := 0, locals := 0 }
set_option maxHeartbeats 4000000 in
set_option maxRecDepth 100000 in
theorem c_X5_mark_23 (l : Launch) (g : GC) (tl : va_W) (sz : Nat) (σ : SS) (k v : Nat) (h1 : k < 1000) : Met l yX5_mark wsX5_mark r_c_X5_mark_23 (va_Pc [.ref (g.2.2.2 23), .int (nI k), .int (nI v)] (PW g (wC g σ ++ tl) sz)) (va_Qv (fun (_ : Unit) => True) (fun (_ : Unit) t => BW g (va_A (wC g σ ++ tl) sz) (wC g (sA σ 16 (va_up (σ.2.1 16) k ((σ.2.1 16) k ||| v))) ++ tl) t) (va_A (wC g σ ++ tl) sz)) 0 0 (va_A (wC g σ ++ tl) sz) := by
  refine jn_sv (wf := fun _ : Unit => wC g (sA σ 16 (va_up (σ.2.1 16) k ((σ.2.1 16) k ||| v))) ++ tl) (cc := cX5_mark) (maxL := 3) (own := RX5) (by decide) rfl rfl (Nat.le_of_ble_eq_true rfl) ?_
  intro p e s m below meth c Q A hx hb hml hown hts hK hP hD hS hAA hq ls hl
  obtain ⟨H, eH⟩ : ∃ z, z = s.heap := ⟨_, rfl⟩
  obtain ⟨locs, el⟩ : ∃ z : List Loc, z = [] := ⟨_, rfl⟩
  rw [← eH] at hP
  have hS : va_S A s.heap H locs := by rw [eH, el]; exact hS
  have goal0 : W p l e r_c_X5_mark_23 s m ([.ref (g.2.2.2 23), .int (nI k), .int (nI v)] : List Value).toArray below meth c H locs 0 0 Q (F0 m 0 ls []) → W p l e r_c_X5_mark_23 s m ([.ref (g.2.2.2 23), .int (nI k), .int (nI v)] : List Value).toArray below meth c s.heap [] 0 0 Q (F0 m 0 ls []) := fun h => by rw [eH, el] at h; exact h
  refine goal0 ?_
  have hl : lv_has ls 3 [(0, .ref (g.2.2.2 23)), (1, .int (nI k)), (2, .int (nI v))] := hl
  have iX5 : ∀ w ∈ wsX50, w ∈ wsX5_mark := by decide +kernel
  have k9 := hts (.fieldLink RX5 9 "JumpingAutomata$CountsTable" "masks" "[I") (by decide +kernel)
  refine lv_iload_n hx hb dX5_mark_0 rfl (lv_at hl 1 rfl) ?_
  refine jn_zlt hx hb (by omega) (tgt := 21) dX5_mark_1 (by decide) (fun c_1 => absurd c_1 (by omega)) (fun c_1 => ?_)
  refine lv_iload_n hx hb dX5_mark_4 rfl (lv_at hl 1 rfl) ?_
  refine lv_sipush (v := nI 1000) hx hb dX5_mark_5 (by decide) ?_
  refine jn_cge hx hb (by omega) (by decide) (tgt := 21) dX5_mark_8 (by decide) (fun c_8 => absurd c_8 (by omega)) (fun c_8 => ?_)
  refine lv_aload_n hx hb dX5_mark_11 rfl (lv_at hl 0 rfl) ?_
  refine va_get (D := (g.1, g.2.1)) (ci := 7) (v := .ref (g.2.2.2 24)) (C := RX5) (T := TX5) (N := 1) hx hb hts iX5 hown hK.1 hP 23 (gC23 g σ tl) rfl 0 (by decide) k9 (fun _ h9 => h9) rfl dX5_mark_12 ?_
  refine lv_iload_n hx hb dX5_mark_15 rfl (lv_at hl 1 rfl) ?_
  refine lv_dup2_11 hx hb dX5_mark_16 rfl rfl ?_
  refine jn_iald (f := σ.2.1 16) hx hb hK.1 hP 24 0 (gC24 g σ tl) rfl (by omega) (Nat.le_of_ble_eq_true rfl) dX5_mark_17 ?_
  refine lv_iload_n hx hb dX5_mark_18 rfl (lv_at hl 2 rfl) ?_
  refine jn_ior hx hb dX5_mark_19 ?_
  refine jn_iast (f := σ.2.1 16) hx hb hK.1 hP hD hS 24 0 (gC24 g σ tl) rfl (by omega) (Nat.le_of_ble_eq_true rfl) (uC_A16 g σ tl _) dX5_mark_20 (fun H locs hP hD hS => ?_)
  exact hq _ _ _ _ () dX5_mark_21 trivial hP hD hS

abbrev r_c_X5_spread_23 : Room := { frames := 1, cells := 0, slots := 0, locals := 22 }
set_option maxHeartbeats 4000000 in
set_option maxRecDepth 100000 in
theorem c_X5_spread_23 (l : Launch) (g : GC) (tl : va_W) (sz : Nat) (σ : SS) (q l2 tp : Nat) (h0 : 0 < q) (h1 : q < 1000) (h2 : tp < 1000) : Met l yX5_spread wsX5_spread r_c_X5_spread_23 (va_Pc [.ref (g.2.2.2 23), .int (nI q), .int (nI (2 ^ l2)), .int (nI tp)] (PW g (wC g σ ++ tl) sz)) (va_Qv (fun (f2 : (Nat → Nat)) => ∀ x y z, x ≤ tp / 100 → y ≤ tp / 10 % 10 → z ≤ tp % 10 → GdA (σ.2.1 16) f2 q l2 x y z) (fun (f2 : (Nat → Nat)) t => BW g (va_A (wC g σ ++ tl) sz) (wC g (sA σ 16 f2) ++ tl) t) (va_A (wC g σ ++ tl) sz)) 0 0 (va_A (wC g σ ++ tl) sz) := by
  refine jn_sv (wf := fun f2 : (Nat → Nat) => wC g (sA σ 16 f2) ++ tl) (cc := cX5_spread) (maxL := 11) (own := RX5) (by decide) rfl rfl (Nat.le_of_ble_eq_true rfl) ?_
  intro p e s m below meth c Q A hx hb hml hown hts hK hP hD hS hAA hq ls hl
  obtain ⟨H, eH⟩ : ∃ z, z = s.heap := ⟨_, rfl⟩
  obtain ⟨locs, el⟩ : ∃ z : List Loc, z = [] := ⟨_, rfl⟩
  rw [← eH] at hP
  have hS : va_S A s.heap H locs := by rw [eH, el]; exact hS
  have goal0 : W p l e r_c_X5_spread_23 s m ([.ref (g.2.2.2 23), .int (nI q), .int (nI (2 ^ l2)), .int (nI tp)] : List Value).toArray below meth c H locs 0 0 Q (F0 m 0 ls []) → W p l e r_c_X5_spread_23 s m ([.ref (g.2.2.2 23), .int (nI q), .int (nI (2 ^ l2)), .int (nI tp)] : List Value).toArray below meth c s.heap [] 0 0 Q (F0 m 0 ls []) := fun h => by rw [eH, el] at h; exact h
  refine goal0 ?_
  have hl : lv_has ls 11 [(0, .ref (g.2.2.2 23)), (1, .int (nI q)), (2, .int (nI (2 ^ l2))), (3, .int (nI tp))] := hl
  have iX5 : ∀ w ∈ wsX50, w ∈ wsX5_spread := by decide +kernel
  have k9 := hts (.fieldLink RX5 9 "JumpingAutomata$CountsTable" "masks" "[I") (by decide +kernel)
  refine lv_iload_n hx hb dX5_spread_0 rfl (lv_at hl 1 rfl) ?_
  refine jn_zlt hx hb (by omega) (tgt := 22) dX5_spread_1 (by decide) (fun c_1 => absurd c_1 (by omega)) (fun c_1 => ?_)
  refine lv_iload_n hx hb dX5_spread_4 rfl (lv_at hl 1 rfl) ?_
  refine lv_sipush (v := nI 1000) hx hb dX5_spread_5 (by decide) ?_
  refine jn_cge hx hb (by omega) (by decide) (tgt := 22) dX5_spread_8 (by decide) (fun c_8 => absurd c_8 (by omega)) (fun c_8 => ?_)
  refine lv_iload_n hx hb dX5_spread_11 rfl (lv_at hl 3 rfl) ?_
  refine jn_zlt hx hb (by omega) (tgt := 22) dX5_spread_12 (by decide) (fun c_12 => absurd c_12 (by omega)) (fun c_12 => ?_)
  refine lv_iload_n hx hb dX5_spread_15 rfl (lv_at hl 3 rfl) ?_
  refine lv_sipush (v := nI 1000) hx hb dX5_spread_16 (by decide) ?_
  refine jn_clt hx hb (by omega) (by decide) (tgt := 23) dX5_spread_19 (by decide) (fun c_19 => ?_) (fun c_19 => absurd c_19 (by omega))
  refine lv_iload_n hx hb dX5_spread_23 rfl (lv_at hl 3 rfl) ?_
  refine vp_callSi (va_Run.run (va_runSN (As := [.int (nI tp)]) (rest := []) ⟨hx, hb, hml, hown, hts⟩ (c_X10_firstOf l tp (by omega)) ⟨(va_cnB 1 hts gX5_spread_X10_firstOf_n59 rfl rfl rfl (hK.2 _ (List.mem_of_getElem? (i := 25) rfl)) (hts (.initialized RX10) (by decide +kernel)) (by decide +kernel) ⟨Nat.le_of_ble_eq_true rfl, Nat.le_of_ble_eq_true rfl⟩), hts (.static yX10_firstOf) (by decide +kernel), trivial⟩ okTS rfl rfl hl.1 rfl (lv_room (Nat.le_of_ble_eq_true rfl)) dX5_spread_24 ⟨Nat.le_of_ble_eq_true rfl, Nat.le_of_ble_eq_true rfl⟩)) (fun r_24 h_24 => ?_)
  subst h_24
  refine lv_istore (lv' := [(4, .int (nI (tp / 100))), (0, .ref (g.2.2.2 23)), (1, .int (nI q)), (2, .int (nI (2 ^ l2))), (3, .int (nI tp))]) hx hb dX5_spread_27 hl (by decide) rfl (fun ls hl => ?_)
  refine lv_iload_n hx hb dX5_spread_29 rfl (lv_at hl 4 rfl) ?_
  refine vp_callSi (va_Run.run (va_runSN (As := [.int (nI tp)]) (rest := []) ⟨hx, hb, hml, hown, hts⟩ (c_X10_secondOf l tp (by omega)) ⟨(va_cnB 1 hts gX5_spread_X10_secondOf_n62 rfl rfl rfl (hK.2 _ (List.mem_of_getElem? (i := 26) rfl)) (hts (.initialized RX10) (by decide +kernel)) (by decide +kernel) ⟨Nat.le_of_ble_eq_true rfl, Nat.le_of_ble_eq_true rfl⟩), hts (.static yX10_secondOf) (by decide +kernel), trivial⟩ okTS rfl rfl hl.1 rfl (lv_room (Nat.le_of_ble_eq_true rfl)) dX5_spread_30 ⟨Nat.le_of_ble_eq_true rfl, Nat.le_of_ble_eq_true rfl⟩)) (fun r_30 h_30 => ?_)
  subst h_30
  refine lv_istore (lv' := [(5, .int (nI (tp / 10 % 10))), (4, .int (nI (tp / 100))), (0, .ref (g.2.2.2 23)), (1, .int (nI q)), (2, .int (nI (2 ^ l2))), (3, .int (nI tp))]) hx hb dX5_spread_33 hl (by decide) rfl (fun ls hl => ?_)
  refine lv_iload_n hx hb dX5_spread_35 rfl (lv_at hl 5 rfl) ?_
  refine vp_callSi (va_Run.run (va_runSN (As := [.int (nI tp)]) (rest := []) ⟨hx, hb, hml, hown, hts⟩ (c_X10_thirdOf l tp (by omega)) ⟨(va_cnB 1 hts gX5_spread_X10_thirdOf_n65 rfl rfl rfl (hK.2 _ (List.mem_of_getElem? (i := 27) rfl)) (hts (.initialized RX10) (by decide +kernel)) (by decide +kernel) ⟨Nat.le_of_ble_eq_true rfl, Nat.le_of_ble_eq_true rfl⟩), hts (.static yX10_thirdOf) (by decide +kernel), trivial⟩ okTS rfl rfl hl.1 rfl (lv_room (Nat.le_of_ble_eq_true rfl)) dX5_spread_36 ⟨Nat.le_of_ble_eq_true rfl, Nat.le_of_ble_eq_true rfl⟩)) (fun r_36 h_36 => ?_)
  subst h_36
  refine lv_istore (lv' := [(6, .int (nI (tp % 10))), (5, .int (nI (tp / 10 % 10))), (4, .int (nI (tp / 100))), (0, .ref (g.2.2.2 23)), (1, .int (nI q)), (2, .int (nI (2 ^ l2))), (3, .int (nI tp))]) hx hb dX5_spread_39 hl (by decide) rfl (fun ls hl => ?_)
  refine lv_iload_n hx hb dX5_spread_41 rfl (lv_at hl 4 rfl) ?_
  refine vp_callSi (va_Run.run (va_runSN (As := [.int (nI q)]) (rest := []) ⟨hx, hb, hml, hown, hts⟩ (c_X10_firstOf l q (by omega)) ⟨(va_cnB 1 hts gX5_spread_X10_firstOf_n59 rfl rfl rfl (hK.2 _ (List.mem_of_getElem? (i := 25) rfl)) (hts (.initialized RX10) (by decide +kernel)) (by decide +kernel) ⟨Nat.le_of_ble_eq_true rfl, Nat.le_of_ble_eq_true rfl⟩), hts (.static yX10_firstOf) (by decide +kernel), trivial⟩ okTS rfl rfl hl.1 rfl (lv_room (Nat.le_of_ble_eq_true rfl)) dX5_spread_42 ⟨Nat.le_of_ble_eq_true rfl, Nat.le_of_ble_eq_true rfl⟩)) (fun r_42 h_42 => ?_)
  subst h_42
  refine lv_istore (lv' := [(7, .int (nI (q / 100))), (6, .int (nI (tp % 10))), (5, .int (nI (tp / 10 % 10))), (4, .int (nI (tp / 100))), (0, .ref (g.2.2.2 23)), (1, .int (nI q)), (2, .int (nI (2 ^ l2))), (3, .int (nI tp))]) hx hb dX5_spread_45 hl (by decide) rfl (fun ls hl => ?_)
  have lp47 : ∀ (fu : Nat), ∀ (a : Nat) (f2 : Nat → Nat), (q / 100 ≤ a ∧ (a ≤ tp / 100 + 1 ∨ a = q / 100)) → (Spr (σ.2.1 16) f2 q l2 (tp / 100) (tp / 10 % 10) (tp % 10) a (q / 10 % 10) (q % 10)) → tp / 100 + 1 - a < fu → ∀ (H : Heap) (locs : List Loc), va_P (g.1, g.2.1) vwCl (wC g (sA σ 16 f2) ++ tl) H → va_D A (wC g (sA σ 16 f2) ++ tl) → va_S A s.heap H locs → ∀ ls : Array Slot, lv_has ls 11 [(0, .ref (g.2.2.2 23)), (1, .int (nI q)), (2, .int (nI (2 ^ l2))), (3, .int (nI tp)), (4, .int (nI (tp / 100))), (5, .int (nI (tp / 10 % 10))), (6, .int (nI (tp % 10))), (7, .int (nI a))] → W p l e r_c_X5_spread_23 s m ([.ref (g.2.2.2 23), .int (nI q), .int (nI (2 ^ l2)), .int (nI tp)] : List Value).toArray below meth c H locs 0 0 Q (F0 m 47 ls []) := by
    intro fu
    induction fu with
    | zero => intro a f2 h3 h4 hf; exact absurd hf (Nat.not_lt_zero _)
    | succ fu ih47 =>
      intro a f2 h3 h4 hf H locs hP hD hS ls hl
      refine lv_iload hx hb dX5_spread_47 (lv_at hl 7 rfl) ?_
      refine lv_iload hx hb dX5_spread_49 (lv_at hl 4 rfl) ?_
      refine jn_cgt hx hb (by omega) (by omega) (tgt := 130) dX5_spread_51 (by decide) (fun c_51 => ?_) (fun c_51 => ?_)
      · exact hq _ _ _ _ (f2) dX5_spread_130 (spr_end h4 (by omega)) hP hD hS
      · refine lv_iload_n hx hb dX5_spread_54 rfl (lv_at hl 1 rfl) ?_
        refine vp_callSi (va_Run.run (va_runSN (As := [.int (nI q)]) (rest := []) ⟨hx, hb, hml, hown, hts⟩ (c_X10_secondOf l q (by omega)) ⟨(va_cnB 1 hts gX5_spread_X10_secondOf_n62 rfl rfl rfl (hK.2 _ (List.mem_of_getElem? (i := 26) rfl)) (hts (.initialized RX10) (by decide +kernel)) (by decide +kernel) ⟨Nat.le_of_ble_eq_true rfl, Nat.le_of_ble_eq_true rfl⟩), hts (.static yX10_secondOf) (by decide +kernel), trivial⟩ okTS rfl rfl hl.1 rfl (lv_room (Nat.le_of_ble_eq_true rfl)) dX5_spread_55 ⟨Nat.le_of_ble_eq_true rfl, Nat.le_of_ble_eq_true rfl⟩)) (fun r_55 h_55 => ?_)
        subst h_55
        refine lv_istore (lv' := [(8, .int (nI (q / 10 % 10))), (0, .ref (g.2.2.2 23)), (1, .int (nI q)), (2, .int (nI (2 ^ l2))), (3, .int (nI tp)), (4, .int (nI (tp / 100))), (5, .int (nI (tp / 10 % 10))), (6, .int (nI (tp % 10))), (7, .int (nI a))]) hx hb dX5_spread_58 hl (by decide) rfl (fun ls hl => ?_)
        have lp60 : ∀ (fu : Nat), ∀ (b : Nat) (f2 : Nat → Nat), (q / 10 % 10 ≤ b ∧ (b ≤ tp / 10 % 10 + 1 ∨ b = q / 10 % 10)) → (Spr (σ.2.1 16) f2 q l2 (tp / 100) (tp / 10 % 10) (tp % 10) a b (q % 10)) → tp / 10 % 10 + 1 - b < fu → ∀ (H : Heap) (locs : List Loc), va_P (g.1, g.2.1) vwCl (wC g (sA σ 16 f2) ++ tl) H → va_D A (wC g (sA σ 16 f2) ++ tl) → va_S A s.heap H locs → ∀ ls : Array Slot, lv_has ls 11 [(0, .ref (g.2.2.2 23)), (1, .int (nI q)), (2, .int (nI (2 ^ l2))), (3, .int (nI tp)), (4, .int (nI (tp / 100))), (5, .int (nI (tp / 10 % 10))), (6, .int (nI (tp % 10))), (7, .int (nI a)), (8, .int (nI b))] → W p l e r_c_X5_spread_23 s m ([.ref (g.2.2.2 23), .int (nI q), .int (nI (2 ^ l2)), .int (nI tp)] : List Value).toArray below meth c H locs 0 0 Q (F0 m 60 ls []) := by
          intro fu
          induction fu with
          | zero => intro b f2 h5 h6 hf; exact absurd hf (Nat.not_lt_zero _)
          | succ fu ih60 =>
            intro b f2 h5 h6 hf H locs hP hD hS ls hl
            refine lv_iload hx hb dX5_spread_60 (lv_at hl 8 rfl) ?_
            refine lv_iload hx hb dX5_spread_62 (lv_at hl 5 rfl) ?_
            refine jn_cgt hx hb (by omega) (by omega) (tgt := 124) dX5_spread_64 (by decide) (fun c_64 => ?_) (fun c_64 => ?_)
            · refine lv_iinc (v := nI (a + 1)) (lv' := [(7, .int (nI (a + 1))), (0, .ref (g.2.2.2 23)), (1, .int (nI q)), (2, .int (nI (2 ^ l2))), (3, .int (nI tp)), (4, .int (nI (tp / 100))), (5, .int (nI (tp / 10 % 10))), (6, .int (nI (tp % 10))), (8, .int (nI b))]) hx hb dX5_spread_124 hl (k := 7) rfl (jn_ii _ 1) (by decide) rfl (fun ls hl => ?_)
              refine lv_goto (tgt := 47) hx hb dX5_spread_127 (by decide) ?_
              exact ih47 (a + 1) f2 (by omega) (spr_a h6 (by omega)) (by omega) _ _ hP hD hS _ (lv_sub hl [1, 2, 3, 4, 5, 6, 7, 0] rfl)
            · refine lv_iload_n hx hb dX5_spread_67 rfl (lv_at hl 1 rfl) ?_
              refine vp_callSi (va_Run.run (va_runSN (As := [.int (nI q)]) (rest := []) ⟨hx, hb, hml, hown, hts⟩ (c_X10_thirdOf l q (by omega)) ⟨(va_cnB 1 hts gX5_spread_X10_thirdOf_n65 rfl rfl rfl (hK.2 _ (List.mem_of_getElem? (i := 27) rfl)) (hts (.initialized RX10) (by decide +kernel)) (by decide +kernel) ⟨Nat.le_of_ble_eq_true rfl, Nat.le_of_ble_eq_true rfl⟩), hts (.static yX10_thirdOf) (by decide +kernel), trivial⟩ okTS rfl rfl hl.1 rfl (lv_room (Nat.le_of_ble_eq_true rfl)) dX5_spread_68 ⟨Nat.le_of_ble_eq_true rfl, Nat.le_of_ble_eq_true rfl⟩)) (fun r_68 h_68 => ?_)
              subst h_68
              refine lv_istore (lv' := [(9, .int (nI (q % 10))), (0, .ref (g.2.2.2 23)), (1, .int (nI q)), (2, .int (nI (2 ^ l2))), (3, .int (nI tp)), (4, .int (nI (tp / 100))), (5, .int (nI (tp / 10 % 10))), (6, .int (nI (tp % 10))), (7, .int (nI a)), (8, .int (nI b))]) hx hb dX5_spread_71 hl (by decide) rfl (fun ls hl => ?_)
              have lp73 : ∀ (fu : Nat), ∀ (c0 : Nat) (f2 : Nat → Nat), (q % 10 ≤ c0 ∧ (c0 ≤ tp % 10 + 1 ∨ c0 = q % 10)) → (Spr (σ.2.1 16) f2 q l2 (tp / 100) (tp / 10 % 10) (tp % 10) a b c0) → tp % 10 + 1 - c0 < fu → ∀ (H : Heap) (locs : List Loc), va_P (g.1, g.2.1) vwCl (wC g (sA σ 16 f2) ++ tl) H → va_D A (wC g (sA σ 16 f2) ++ tl) → va_S A s.heap H locs → ∀ ls : Array Slot, lv_has ls 11 [(0, .ref (g.2.2.2 23)), (1, .int (nI q)), (2, .int (nI (2 ^ l2))), (3, .int (nI tp)), (4, .int (nI (tp / 100))), (5, .int (nI (tp / 10 % 10))), (6, .int (nI (tp % 10))), (7, .int (nI a)), (8, .int (nI b)), (9, .int (nI c0))] → W p l e r_c_X5_spread_23 s m ([.ref (g.2.2.2 23), .int (nI q), .int (nI (2 ^ l2)), .int (nI tp)] : List Value).toArray below meth c H locs 0 0 Q (F0 m 73 ls []) := by
                intro fu
                induction fu with
                | zero => intro c0 f2 h7 h8 hf; exact absurd hf (Nat.not_lt_zero _)
                | succ fu ih73 =>
                  intro c0 f2 h7 h8 hf H locs hP hD hS ls hl
                  refine lv_iload hx hb dX5_spread_73 (lv_at hl 9 rfl) ?_
                  refine lv_iload hx hb dX5_spread_75 (lv_at hl 6 rfl) ?_
                  refine jn_cgt hx hb (by omega) (by omega) (tgt := 118) dX5_spread_77 (by decide) (fun c_77 => ?_) (fun c_77 => ?_)
                  · refine lv_iinc (v := nI (b + 1)) (lv' := [(8, .int (nI (b + 1))), (0, .ref (g.2.2.2 23)), (1, .int (nI q)), (2, .int (nI (2 ^ l2))), (3, .int (nI tp)), (4, .int (nI (tp / 100))), (5, .int (nI (tp / 10 % 10))), (6, .int (nI (tp % 10))), (7, .int (nI a)), (9, .int (nI c0))]) hx hb dX5_spread_118 hl (k := 8) rfl (jn_ii _ 1) (by decide) rfl (fun ls hl => ?_)
                    refine lv_goto (tgt := 60) hx hb dX5_spread_121 (by decide) ?_
                    exact ih60 (b + 1) f2 (by omega) (spr_b h8 (by omega)) (by omega) _ _ hP hD hS _ (lv_sub hl [1, 2, 3, 4, 5, 6, 7, 8, 0] rfl)
                  · refine lv_iload hx hb dX5_spread_80 (lv_at hl 7 rfl) ?_
                    refine lv_iload hx hb dX5_spread_82 (lv_at hl 8 rfl) ?_
                    refine lv_iload hx hb dX5_spread_84 (lv_at hl 9 rfl) ?_
                    refine vp_callSi (va_Run.run (va_runSN (As := [.int (nI a), .int (nI b), .int (nI c0)]) (rest := []) ⟨hx, hb, hml, hown, hts⟩ (c_X10_codeOf l a b c0) ⟨(va_cnB 3 hts gX5_spread_X10_codeOf_n19 rfl rfl rfl (hK.2 _ (List.mem_of_getElem? (i := 14) rfl)) (hts (.initialized RX10) (by decide +kernel)) (by decide +kernel) ⟨Nat.le_of_ble_eq_true rfl, Nat.le_of_ble_eq_true rfl⟩), hts (.static yX10_codeOf) (by decide +kernel), trivial⟩ okTS rfl rfl hl.1 rfl (lv_room (Nat.le_of_ble_eq_true rfl)) dX5_spread_86 ⟨Nat.le_of_ble_eq_true rfl, Nat.le_of_ble_eq_true rfl⟩)) (fun r_86 h_86 => ?_)
                    subst h_86
                    refine lv_istore (lv' := [(10, .int (nI (100 * a + 10 * b + c0))), (0, .ref (g.2.2.2 23)), (1, .int (nI q)), (2, .int (nI (2 ^ l2))), (3, .int (nI tp)), (4, .int (nI (tp / 100))), (5, .int (nI (tp / 10 % 10))), (6, .int (nI (tp % 10))), (7, .int (nI a)), (8, .int (nI b)), (9, .int (nI c0))]) hx hb dX5_spread_89 hl (by decide) rfl (fun ls hl => ?_)
                    refine lv_aload_n hx hb dX5_spread_91 rfl (lv_at hl 1 rfl) ?_
                    refine va_get (D := (g.1, g.2.1)) (ci := 7) (v := .ref (g.2.2.2 24)) (C := RX5) (T := TX5) (N := 1) hx hb hts iX5 hown hK.1 hP 23 (gC23 g (sA σ 16 f2) tl) rfl 0 (by decide) k9 (fun _ h9 => h9) rfl dX5_spread_92 ?_
                    refine lv_iload hx hb dX5_spread_95 (lv_at hl 0 rfl) ?_
                    refine lv_dup2_11 hx hb dX5_spread_97 rfl rfl ?_
                    refine jn_iald (f := f2) hx hb hK.1 hP 24 0 (gC24 g (sA σ 16 f2) tl) rfl (by omega) (Nat.le_of_ble_eq_true rfl) dX5_spread_98 ?_
                    refine lv_aload_n hx hb dX5_spread_99 rfl (lv_at hl 1 rfl) ?_
                    refine va_get (D := (g.1, g.2.1)) (ci := 7) (v := .ref (g.2.2.2 24)) (C := RX5) (T := TX5) (N := 1) hx hb hts iX5 hown hK.1 hP 23 (gC23 g (sA σ 16 f2) tl) rfl 0 (by decide) k9 (fun _ h9 => h9) rfl dX5_spread_100 ?_
                    refine lv_iload hx hb dX5_spread_103 (lv_at hl 0 rfl) ?_
                    refine lv_iload_n hx hb dX5_spread_105 rfl (lv_at hl 2 rfl) ?_
                    refine jn_isub hx hb (by omega) dX5_spread_106 ?_
                    refine jn_iald (f := f2) hx hb hK.1 hP 24 0 (gC24 g (sA σ 16 f2) tl) rfl (by omega) (Nat.le_of_ble_eq_true rfl) dX5_spread_107 ?_
                    refine lv_iload_n hx hb dX5_spread_108 rfl (lv_at hl 3 rfl) ?_
                    refine jn_iand hx hb dX5_spread_109 ?_
                    refine jn_ior hx hb dX5_spread_110 ?_
                    refine jn_iast (f := f2) hx hb hK.1 hP hD hS 24 0 (gC24 g (sA σ 16 f2) tl) rfl (by omega) (Nat.le_of_ble_eq_true rfl) (uC_A16 g (sA σ 16 f2) tl _) dX5_spread_111 (fun H locs hP hD hS => ?_)
                    refine lv_iinc (v := nI (c0 + 1)) (lv' := [(9, .int (nI (c0 + 1))), (10, .int (nI (100 * a + 10 * b + c0))), (0, .ref (g.2.2.2 23)), (1, .int (nI q)), (2, .int (nI (2 ^ l2))), (3, .int (nI tp)), (4, .int (nI (tp / 100))), (5, .int (nI (tp / 10 % 10))), (6, .int (nI (tp % 10))), (7, .int (nI a)), (8, .int (nI b))]) hx hb dX5_spread_112 hl (k := 10) rfl (jn_ii _ 1) (by decide) rfl (fun ls hl => ?_)
                    refine lv_goto (tgt := 73) hx hb dX5_spread_115 (by decide) ?_
                    exact ih73 (c0 + 1) (va_up f2 (100 * a + 10 * b + c0) ((f2 (100 * a + 10 * b + c0)) ||| ((f2 ((100 * a + 10 * b + c0) - q)) &&& (2 ^ l2)))) (by omega) (spr_put (by omega) (by omega) (by omega) h0 h1 (by omega) (by omega) (by omega) (by omega) (by omega) (by omega) h8) (by omega) _ _ hP hD hS _ (lv_sub hl [2, 3, 4, 5, 6, 7, 8, 9, 10, 0] rfl)
              exact lp73 _ (q % 10) f2 (by omega) h6 (Nat.lt_succ_self _) _ _ hP hD hS _ (lv_sub hl [1, 2, 3, 4, 5, 6, 7, 8, 9, 0] rfl)
        exact lp60 _ (q / 10 % 10) f2 (by omega) h4 (Nat.lt_succ_self _) _ _ hP hD hS _ (lv_sub hl [1, 2, 3, 4, 5, 6, 7, 8, 0] rfl)
  exact lp47 _ (q / 100) (σ.2.1 16) (by omega) spr_0 (Nat.lt_succ_self _) _ _ hP hD hS _ (lv_sub hl [4, 5, 6, 7, 3, 2, 1, 0] rfl)

abbrev r_c_X5_fillMembers_23 : Room := { frames := 4, cells := 0, slots := 0, locals := 88 }
set_option maxHeartbeats 4000000 in
set_option maxRecDepth 100000 in
theorem c_X5_fillMembers_23 (l : Launch) (g : GC) (tl : va_W) (sz : Nat) (σ : SS) (s2 ta tb tc : Nat) (hC : OkC (σ.2.1 2)) (hs : s2 < 2) (h1 : ta < 10) (h2 : tb < 10) (h3 : tc < 10) : Met l yX5_fillMembers wsX5_fillMembers r_c_X5_fillMembers_23 (va_Pc [.ref (g.2.2.2 23), .ref (g.2.2.2 4), .int (nI s2), .int (nI ta), .int (nI tb), .int (nI tc)] (PW g (wC g σ ++ tl) sz)) (va_Qv (fun (f : (Nat → Nat)) => Mbr (σ.2.1 2) f s2 ta tb tc ((σ.2.1 2) (s2 * 21))) (fun (f : (Nat → Nat)) t => BW g (va_A (wC g σ ++ tl) sz) (wC g (sA σ 16 f) ++ tl) t) (va_A (wC g σ ++ tl) sz)) 0 0 (va_A (wC g σ ++ tl) sz) := by
  refine jn_sv (wf := fun f : (Nat → Nat) => wC g (sA σ 16 f) ++ tl) (cc := cX5_fillMembers) (maxL := 11) (own := RX5) (by decide) rfl rfl (Nat.le_of_ble_eq_true rfl) ?_
  intro p e s m below meth c Q A hx hb hml hown hts hK hP hD hS hAA hq ls hl
  obtain ⟨H, eH⟩ : ∃ z, z = s.heap := ⟨_, rfl⟩
  obtain ⟨locs, el⟩ : ∃ z : List Loc, z = [] := ⟨_, rfl⟩
  rw [← eH] at hP
  have hS : va_S A s.heap H locs := by rw [eH, el]; exact hS
  have goal0 : W p l e r_c_X5_fillMembers_23 s m ([.ref (g.2.2.2 23), .ref (g.2.2.2 4), .int (nI s2), .int (nI ta), .int (nI tb), .int (nI tc)] : List Value).toArray below meth c H locs 0 0 Q (F0 m 0 ls []) → W p l e r_c_X5_fillMembers_23 s m ([.ref (g.2.2.2 23), .ref (g.2.2.2 4), .int (nI s2), .int (nI ta), .int (nI tb), .int (nI tc)] : List Value).toArray below meth c s.heap [] 0 0 Q (F0 m 0 ls []) := fun h => by rw [eH, el] at h; exact h
  refine goal0 ?_
  have hl : lv_has ls 11 [(0, .ref (g.2.2.2 23)), (1, .ref (g.2.2.2 4)), (2, .int (nI s2)), (3, .int (nI ta)), (4, .int (nI tb)), (5, .int (nI tc))] := hl
  have hc4 := (hC s2 hs).1
  have d1 : (100 * ta + 10 * tb + tc) / 100 = ta := by omega
  have d2 : (100 * ta + 10 * tb + tc) / 10 % 10 = tb := by omega
  have d3 : (100 * ta + 10 * tb + tc) % 10 = tc := by omega
  refine lv_iload_n hx hb dX5_fillMembers_0 rfl (lv_at hl 3 rfl) ?_
  refine lv_iload hx hb dX5_fillMembers_1 (lv_at hl 4 rfl) ?_
  refine lv_iload hx hb dX5_fillMembers_3 (lv_at hl 5 rfl) ?_
  refine vp_callSi (va_Run.run (va_runSN (As := [.int (nI ta), .int (nI tb), .int (nI tc)]) (rest := []) ⟨hx, hb, hml, hown, hts⟩ (c_X10_areDigits l ta tb tc (by omega) (by omega) (by omega)) ⟨(va_cnB 3 hts gX5_fillMembers_X10_areDigits_n15 rfl rfl rfl (hK.2 _ (List.mem_of_getElem? (i := 13) rfl)) (hts (.initialized RX10) (by decide +kernel)) (by decide +kernel) ⟨Nat.le_of_ble_eq_true rfl, Nat.le_of_ble_eq_true rfl⟩), hts (.static yX10_areDigits) (by decide +kernel), trivial⟩ okTS rfl rfl hl.1 rfl (lv_room (Nat.le_of_ble_eq_true rfl)) dX5_fillMembers_5 ⟨Nat.le_of_ble_eq_true rfl, Nat.le_of_ble_eq_true rfl⟩)) (fun r_5 h_5 => ?_)
  subst h_5
  refine jn_bne hx hb (tgt := 12) dX5_fillMembers_8 (by decide) (fun c_8 => ?_) (fun c_8 => absurd c_8 (by omega))
  refine lv_iload_n hx hb dX5_fillMembers_12 rfl (lv_at hl 3 rfl) ?_
  refine lv_iload hx hb dX5_fillMembers_13 (lv_at hl 4 rfl) ?_
  refine lv_iload hx hb dX5_fillMembers_15 (lv_at hl 5 rfl) ?_
  refine vp_callSi (va_Run.run (va_runSN (As := [.int (nI ta), .int (nI tb), .int (nI tc)]) (rest := []) ⟨hx, hb, hml, hown, hts⟩ (c_X10_codeOf l ta tb tc) ⟨(va_cnB 3 hts gX5_fillMembers_X10_codeOf_n19 rfl rfl rfl (hK.2 _ (List.mem_of_getElem? (i := 14) rfl)) (hts (.initialized RX10) (by decide +kernel)) (by decide +kernel) ⟨Nat.le_of_ble_eq_true rfl, Nat.le_of_ble_eq_true rfl⟩), hts (.static yX10_codeOf) (by decide +kernel), trivial⟩ okTS rfl rfl hl.1 rfl (lv_room (Nat.le_of_ble_eq_true rfl)) dX5_fillMembers_17 ⟨Nat.le_of_ble_eq_true rfl, Nat.le_of_ble_eq_true rfl⟩)) (fun r_17 h_17 => ?_)
  subst h_17
  refine lv_istore (lv' := [(6, .int (nI (100 * ta + 10 * tb + tc))), (0, .ref (g.2.2.2 23)), (1, .ref (g.2.2.2 4)), (2, .int (nI s2)), (3, .int (nI ta)), (4, .int (nI tb)), (5, .int (nI tc))]) hx hb dX5_fillMembers_20 hl (by decide) rfl (fun ls hl => ?_)
  refine lv_aload_n hx hb dX5_fillMembers_22 rfl (lv_at hl 1 rfl) ?_
  refine lv_iload hx hb dX5_fillMembers_23 (lv_at hl 0 rfl) ?_
  refine jn_callv (va_runV (As := [.int (nI (100 * ta + 10 * tb + tc))]) (rest := []) ⟨hx, hb, hml, hown, hts⟩ (c_X5_empty_23 l g tl H.size σ (100 * ta + 10 * tb + tc) (by omega)) (cwV 1 hts gX5_fillMembers_X5_empty rfl rfl rfl (by decide +kernel) ⟨Nat.le_of_ble_eq_true rfl, Nat.le_of_ble_eq_true rfl⟩) (okWV hK hP hD rfl (gC23 g σ tl)) rfl rfl hl.1 rfl (lv_room (Nat.le_of_ble_eq_true rfl)) dX5_fillMembers_25 ⟨Nat.le_of_ble_eq_true rfl, Nat.le_of_ble_eq_true rfl⟩) hD hS hAA (fun u H locs hw_ hP hD hS => ?_)
  obtain ⟨f_25, rfl⟩ : ∃ z, z = u := ⟨_, rfl⟩
  have h_25 := hw_
  have h_25 : ∀ k, k ≤ (100 * ta + 10 * tb + tc) → f_25 k = 0 := h_25
  have hP : va_P (g.1, g.2.1) vwCl (wC g (sA σ 16 f_25) ++ tl) H := hP
  have hD : va_D A (wC g (sA σ 16 f_25) ++ tl) := hD
  refine lv_aload_n hx hb dX5_fillMembers_28 rfl (lv_at hl 2 rfl) ?_
  refine lv_iload_n hx hb dX5_fillMembers_29 rfl (lv_at hl 3 rfl) ?_
  refine vp_callSi (va_Run.run (va_runV (As := [.int (nI s2)]) (rest := []) ⟨hx, hb, hml, hown, hts⟩ (c_X3_linearCount l g tl (sA σ 16 f_25) s2 hC (by omega)) (cwV 1 hts gX5_fillMembers_X3_linearCount rfl rfl rfl (by decide +kernel) ⟨Nat.le_of_ble_eq_true rfl, Nat.le_of_ble_eq_true rfl⟩) (okPV hK hP rfl (gC4 g (sA σ 16 f_25) tl)) rfl rfl hl.1 rfl (lv_room (Nat.le_of_ble_eq_true rfl)) dX5_fillMembers_30 ⟨Nat.le_of_ble_eq_true rfl, Nat.le_of_ble_eq_true rfl⟩)) (fun r_30 h_30 => ?_)
  have h_30 : r_30 = (nI (if s2 < 2 then (σ.2.1 2) (s2 * 21) else 0)) := h_30
  subst h_30
  rw [if_pos hs]
  refine lv_istore (lv' := [(7, .int (nI ((σ.2.1 2) (s2 * 21)))), (6, .int (nI (100 * ta + 10 * tb + tc))), (0, .ref (g.2.2.2 23)), (1, .ref (g.2.2.2 4)), (2, .int (nI s2)), (3, .int (nI ta)), (4, .int (nI tb)), (5, .int (nI tc))]) hx hb dX5_fillMembers_33 hl (by decide) rfl (fun ls hl => ?_)
  refine lv_iconst (v := nI 0) hx hb dX5_fillMembers_35 (by decide) ?_
  refine lv_istore (lv' := [(8, .int (nI 0)), (7, .int (nI ((σ.2.1 2) (s2 * 21)))), (6, .int (nI (100 * ta + 10 * tb + tc))), (0, .ref (g.2.2.2 23)), (1, .ref (g.2.2.2 4)), (2, .int (nI s2)), (3, .int (nI ta)), (4, .int (nI tb)), (5, .int (nI tc))]) hx hb dX5_fillMembers_36 hl (by decide) rfl (fun ls hl => ?_)
  have lp38 : ∀ (fu : Nat), ∀ (i : Nat) (f : Nat → Nat), (i ≤ (σ.2.1 2) (s2 * 21)) → (Mbr (σ.2.1 2) f s2 ta tb tc i) → (σ.2.1 2) (s2 * 21) - i < fu → ∀ (H : Heap) (locs : List Loc), va_P (g.1, g.2.1) vwCl (wC g (sA σ 16 f) ++ tl) H → va_D A (wC g (sA σ 16 f) ++ tl) → va_S A s.heap H locs → ∀ ls : Array Slot, lv_has ls 11 [(0, .ref (g.2.2.2 23)), (1, .ref (g.2.2.2 4)), (2, .int (nI s2)), (3, .int (nI ta)), (4, .int (nI tb)), (5, .int (nI tc)), (6, .int (nI (100 * ta + 10 * tb + tc))), (7, .int (nI ((σ.2.1 2) (s2 * 21)))), (8, .int (nI i))] → W p l e r_c_X5_fillMembers_23 s m ([.ref (g.2.2.2 23), .ref (g.2.2.2 4), .int (nI s2), .int (nI ta), .int (nI tb), .int (nI tc)] : List Value).toArray below meth c H locs 0 0 Q (F0 m 38 ls []) := by
    intro fu
    induction fu with
    | zero => intro i f h4 h5 hf; exact absurd hf (Nat.not_lt_zero _)
    | succ fu ih38 =>
      intro i f h4 h5 hf H locs hP hD hS ls hl
      refine lv_iload hx hb dX5_fillMembers_38 (lv_at hl 8 rfl) ?_
      refine lv_iload hx hb dX5_fillMembers_40 (lv_at hl 7 rfl) ?_
      refine jn_cge hx hb (by omega) (by omega) (tgt := 122) dX5_fillMembers_42 (by decide) (fun c_42 => ?_) (fun c_42 => ?_)
      · exact hq _ _ _ _ (f) dX5_fillMembers_122 (by rw [← show i = (σ.2.1 2) (s2 * 21) by omega]; exact h5) hP hD hS
      · refine lv_iload hx hb dX5_fillMembers_45 (lv_at hl 8 rfl) ?_
        refine lv_iconst (v := nI 4) hx hb dX5_fillMembers_47 (by decide) ?_
        have hc5 := (hC s2 hs).2 i (by omega)
        refine jn_cge hx hb (by omega) (by decide) (tgt := 122) dX5_fillMembers_48 (by decide) (fun c_48 => absurd c_48 (by omega)) (fun c_48 => ?_)
        refine lv_aload_n hx hb dX5_fillMembers_51 rfl (lv_at hl 0 rfl) ?_
        refine lv_aload_n hx hb dX5_fillMembers_52 rfl (lv_at hl 1 rfl) ?_
        refine lv_iload_n hx hb dX5_fillMembers_53 rfl (lv_at hl 2 rfl) ?_
        refine lv_iload hx hb dX5_fillMembers_54 (lv_at hl 8 rfl) ?_
        refine vp_callSi (va_Run.run (va_runV (As := [.int (nI s2), .int (nI i)]) (rest := [.ref (g.2.2.2 23)]) ⟨hx, hb, hml, hown, hts⟩ (c_X3_base l g tl (sA σ 16 f) s2 i hC (by omega) (by exact c_42)) (cwV 2 hts gX5_fillMembers_X3_base rfl rfl rfl (by decide +kernel) ⟨Nat.le_of_ble_eq_true rfl, Nat.le_of_ble_eq_true rfl⟩) (okPV hK hP rfl (gC4 g (sA σ 16 f) tl)) rfl rfl hl.1 rfl (lv_room (Nat.le_of_ble_eq_true rfl)) dX5_fillMembers_56 ⟨Nat.le_of_ble_eq_true rfl, Nat.le_of_ble_eq_true rfl⟩)) (fun r_56 h_56 => ?_)
        have h_56 : r_56 = (nI ((σ.2.1 2) (s2 * 21 + 1 + i * 5))) := h_56
        subst h_56
        refine lv_iconst (v := nI 1) hx hb dX5_fillMembers_59 (by decide) ?_
        refine lv_iload hx hb dX5_fillMembers_60 (lv_at hl 8 rfl) ?_
        refine jn_shl1 hx hb (by omega) dX5_fillMembers_62 ?_
        refine jn_callv (va_runV (As := [.int (nI ((σ.2.1 2) (s2 * 21 + 1 + i * 5))), .int (nI (2 ^ i))]) (rest := []) ⟨hx, hb, hml, hown, hts⟩ (c_X5_mark_23 l g tl H.size (sA σ 16 f) ((σ.2.1 2) (s2 * 21 + 1 + i * 5)) (2 ^ i) hc5.1) (cwV 2 hts gX5_fillMembers_X5_mark rfl rfl rfl (by decide +kernel) ⟨Nat.le_of_ble_eq_true rfl, Nat.le_of_ble_eq_true rfl⟩) (okWV hK hP hD rfl (gC23 g (sA σ 16 f) tl)) rfl rfl hl.1 rfl (lv_room (Nat.le_of_ble_eq_true rfl)) dX5_fillMembers_63 ⟨Nat.le_of_ble_eq_true rfl, Nat.le_of_ble_eq_true rfl⟩) hD hS hAA (fun u H locs hw_ hP hD hS => ?_)
        have hP : va_P (g.1, g.2.1) vwCl (wC g (sA (sA σ 16 f) 16 (va_up (f) ((σ.2.1 2) (s2 * 21 + 1 + i * 5)) ((f) ((σ.2.1 2) (s2 * 21 + 1 + i * 5)) ||| (2 ^ i)))) ++ tl) H := hP
        have hD : va_D A (wC g (sA (sA σ 16 f) 16 (va_up (f) ((σ.2.1 2) (s2 * 21 + 1 + i * 5)) ((f) ((σ.2.1 2) (s2 * 21 + 1 + i * 5)) ||| (2 ^ i)))) ++ tl) := hD
        refine lv_aload_n hx hb dX5_fillMembers_66 rfl (lv_at hl 1 rfl) ?_
        refine lv_iload_n hx hb dX5_fillMembers_67 rfl (lv_at hl 2 rfl) ?_
        refine lv_iload hx hb dX5_fillMembers_68 (lv_at hl 8 rfl) ?_
        refine vp_callSi (va_Run.run (va_runV (As := [.int (nI s2), .int (nI i)]) (rest := []) ⟨hx, hb, hml, hown, hts⟩ (c_X3_periodCount l g tl (sA (sA σ 16 f) 16 (va_up (f) ((σ.2.1 2) (s2 * 21 + 1 + i * 5)) ((f) ((σ.2.1 2) (s2 * 21 + 1 + i * 5)) ||| (2 ^ i)))) s2 i hC (by omega) (by exact c_42)) (cwV 2 hts gX5_fillMembers_X3_periodCount rfl rfl rfl (by decide +kernel) ⟨Nat.le_of_ble_eq_true rfl, Nat.le_of_ble_eq_true rfl⟩) (okPV hK hP rfl (gC4 g (sA (sA σ 16 f) 16 (va_up (f) ((σ.2.1 2) (s2 * 21 + 1 + i * 5)) ((f) ((σ.2.1 2) (s2 * 21 + 1 + i * 5)) ||| (2 ^ i)))) tl)) rfl rfl hl.1 rfl (lv_room (Nat.le_of_ble_eq_true rfl)) dX5_fillMembers_70 ⟨Nat.le_of_ble_eq_true rfl, Nat.le_of_ble_eq_true rfl⟩)) (fun r_70 h_70 => ?_)
        have h_70 : r_70 = (nI ((σ.2.1 2) (s2 * 21 + 1 + i * 5 + 1))) := h_70
        subst h_70
        refine lv_istore (lv' := [(9, .int (nI ((σ.2.1 2) (s2 * 21 + 1 + i * 5 + 1)))), (0, .ref (g.2.2.2 23)), (1, .ref (g.2.2.2 4)), (2, .int (nI s2)), (3, .int (nI ta)), (4, .int (nI tb)), (5, .int (nI tc)), (6, .int (nI (100 * ta + 10 * tb + tc))), (7, .int (nI ((σ.2.1 2) (s2 * 21)))), (8, .int (nI i))]) hx hb dX5_fillMembers_73 hl (by decide) rfl (fun ls hl => ?_)
        refine lv_iconst (v := nI 0) hx hb dX5_fillMembers_75 (by decide) ?_
        refine lv_istore (lv' := [(10, .int (nI 0)), (9, .int (nI ((σ.2.1 2) (s2 * 21 + 1 + i * 5 + 1)))), (0, .ref (g.2.2.2 23)), (1, .ref (g.2.2.2 4)), (2, .int (nI s2)), (3, .int (nI ta)), (4, .int (nI tb)), (5, .int (nI tc)), (6, .int (nI (100 * ta + 10 * tb + tc))), (7, .int (nI ((σ.2.1 2) (s2 * 21)))), (8, .int (nI i))]) hx hb dX5_fillMembers_76 hl (by decide) rfl (fun ls hl => ?_)
        have lp78 : ∀ (fu : Nat), ∀ (k : Nat) (f : Nat → Nat), (k ≤ (σ.2.1 2) (s2 * 21 + 1 + i * 5 + 1)) → (MbrK (σ.2.1 2) f s2 ta tb tc i k) → (σ.2.1 2) (s2 * 21 + 1 + i * 5 + 1) - k < fu → ∀ (H : Heap) (locs : List Loc), va_P (g.1, g.2.1) vwCl (wC g (sA σ 16 f) ++ tl) H → va_D A (wC g (sA σ 16 f) ++ tl) → va_S A s.heap H locs → ∀ ls : Array Slot, lv_has ls 11 [(0, .ref (g.2.2.2 23)), (1, .ref (g.2.2.2 4)), (2, .int (nI s2)), (3, .int (nI ta)), (4, .int (nI tb)), (5, .int (nI tc)), (6, .int (nI (100 * ta + 10 * tb + tc))), (7, .int (nI ((σ.2.1 2) (s2 * 21)))), (8, .int (nI i)), (9, .int (nI ((σ.2.1 2) (s2 * 21 + 1 + i * 5 + 1)))), (10, .int (nI k))] → W p l e r_c_X5_fillMembers_23 s m ([.ref (g.2.2.2 23), .ref (g.2.2.2 4), .int (nI s2), .int (nI ta), .int (nI tb), .int (nI tc)] : List Value).toArray below meth c H locs 0 0 Q (F0 m 78 ls []) := by
          intro fu
          induction fu with
          | zero => intro k f h6 h7 hf; exact absurd hf (Nat.not_lt_zero _)
          | succ fu ih78 =>
            intro k f h6 h7 hf H locs hP hD hS ls hl
            refine lv_iload hx hb dX5_fillMembers_78 (lv_at hl 10 rfl) ?_
            refine lv_iload hx hb dX5_fillMembers_80 (lv_at hl 9 rfl) ?_
            refine jn_cge hx hb (by omega) (by omega) (tgt := 116) dX5_fillMembers_82 (by decide) (fun c_82 => ?_) (fun c_82 => ?_)
            · refine lv_iinc (v := nI (i + 1)) (lv' := [(8, .int (nI (i + 1))), (0, .ref (g.2.2.2 23)), (1, .ref (g.2.2.2 4)), (2, .int (nI s2)), (3, .int (nI ta)), (4, .int (nI tb)), (5, .int (nI tc)), (6, .int (nI (100 * ta + 10 * tb + tc))), (7, .int (nI ((σ.2.1 2) (s2 * 21)))), (9, .int (nI ((σ.2.1 2) (s2 * 21 + 1 + i * 5 + 1)))), (10, .int (nI k))]) hx hb dX5_fillMembers_116 hl (k := 8) rfl (jn_ii _ 1) (by decide) rfl (fun ls hl => ?_)
              refine lv_goto (tgt := 38) hx hb dX5_fillMembers_119 (by decide) ?_
              exact ih38 (i + 1) f (by omega) (mbr_next (by omega) h7) (by omega) _ _ hP hD hS _ (lv_sub hl [1, 2, 3, 4, 5, 6, 7, 8, 0] rfl)
            · refine lv_iload hx hb dX5_fillMembers_85 (lv_at hl 10 rfl) ?_
              refine lv_iconst (v := nI 3) hx hb dX5_fillMembers_87 (by decide) ?_
              refine jn_cge hx hb (by omega) (by decide) (tgt := 116) dX5_fillMembers_88 (by decide) (fun c_88 => absurd c_88 (by omega)) (fun c_88 => ?_)
              refine lv_aload_n hx hb dX5_fillMembers_91 rfl (lv_at hl 0 rfl) ?_
              refine lv_aload_n hx hb dX5_fillMembers_92 rfl (lv_at hl 1 rfl) ?_
              refine lv_iload_n hx hb dX5_fillMembers_93 rfl (lv_at hl 2 rfl) ?_
              refine lv_iload hx hb dX5_fillMembers_94 (lv_at hl 8 rfl) ?_
              refine lv_iload hx hb dX5_fillMembers_96 (lv_at hl 10 rfl) ?_
              refine vp_callSi (va_Run.run (va_runV (As := [.int (nI s2), .int (nI i), .int (nI k)]) (rest := [.ref (g.2.2.2 23)]) ⟨hx, hb, hml, hown, hts⟩ (c_X3_period l g tl (sA σ 16 f) s2 i k hC (by omega) (by exact c_42) (by exact c_82)) (cwV 3 hts gX5_fillMembers_X3_period rfl rfl rfl (by decide +kernel) ⟨Nat.le_of_ble_eq_true rfl, Nat.le_of_ble_eq_true rfl⟩) (okPV hK hP rfl (gC4 g (sA σ 16 f) tl)) rfl rfl hl.1 rfl (lv_room (Nat.le_of_ble_eq_true rfl)) dX5_fillMembers_98 ⟨Nat.le_of_ble_eq_true rfl, Nat.le_of_ble_eq_true rfl⟩)) (fun r_98 h_98 => ?_)
              have h_98 : r_98 = (nI ((σ.2.1 2) (s2 * 21 + 1 + i * 5 + 2 + k))) := h_98
              subst h_98
              refine lv_iconst (v := nI 1) hx hb dX5_fillMembers_101 (by decide) ?_
              refine lv_iload hx hb dX5_fillMembers_102 (lv_at hl 8 rfl) ?_
              refine jn_shl1 hx hb (by omega) dX5_fillMembers_104 ?_
              refine lv_iload hx hb dX5_fillMembers_105 (lv_at hl 6 rfl) ?_
              refine jn_callv (va_runV (As := [.int (nI ((σ.2.1 2) (s2 * 21 + 1 + i * 5 + 2 + k))), .int (nI (2 ^ i)), .int (nI (100 * ta + 10 * tb + tc))]) (rest := []) ⟨hx, hb, hml, hown, hts⟩ (c_X5_spread_23 l g tl H.size (sA σ 16 f) ((σ.2.1 2) (s2 * 21 + 1 + i * 5 + 2 + k)) i (100 * ta + 10 * tb + tc) (hc5.2.2 k (by omega)).1 (hc5.2.2 k (by omega)).2 (by omega)) (cwV 3 hts gX5_fillMembers_X5_spread rfl rfl rfl (by decide +kernel) ⟨Nat.le_of_ble_eq_true rfl, Nat.le_of_ble_eq_true rfl⟩) (okWV hK hP hD rfl (gC23 g (sA σ 16 f) tl)) rfl rfl hl.1 rfl (lv_room (Nat.le_of_ble_eq_true rfl)) dX5_fillMembers_107 ⟨Nat.le_of_ble_eq_true rfl, Nat.le_of_ble_eq_true rfl⟩) hD hS hAA (fun u H locs hw_ hP hD hS => ?_)
              obtain ⟨f2_107, rfl⟩ : ∃ z, z = u := ⟨_, rfl⟩
              have h_107 := hw_
              have h_107 : ∀ x y z, x ≤ (100 * ta + 10 * tb + tc) / 100 → y ≤ (100 * ta + 10 * tb + tc) / 10 % 10 → z ≤ (100 * ta + 10 * tb + tc) % 10 → GdA (f) f2_107 ((σ.2.1 2) (s2 * 21 + 1 + i * 5 + 2 + k)) i x y z := h_107
              have hP : va_P (g.1, g.2.1) vwCl (wC g (sA (sA σ 16 f) 16 f2_107) ++ tl) H := hP
              have hD : va_D A (wC g (sA (sA σ 16 f) 16 f2_107) ++ tl) := hD
              refine lv_iinc (v := nI (k + 1)) (lv' := [(10, .int (nI (k + 1))), (0, .ref (g.2.2.2 23)), (1, .ref (g.2.2.2 4)), (2, .int (nI s2)), (3, .int (nI ta)), (4, .int (nI tb)), (5, .int (nI tc)), (6, .int (nI (100 * ta + 10 * tb + tc))), (7, .int (nI ((σ.2.1 2) (s2 * 21)))), (8, .int (nI i)), (9, .int (nI ((σ.2.1 2) (s2 * 21 + 1 + i * 5 + 1))))]) hx hb dX5_fillMembers_110 hl (k := 10) rfl (jn_ii _ 1) (by decide) rfl (fun ls hl => ?_)
              refine lv_goto (tgt := 78) hx hb dX5_fillMembers_113 (by decide) ?_
              exact ih78 (k + 1) f2_107 (by omega) (mbr_spread h1 h2 h3 h7 (by rw [d1, d2, d3] at h_107; exact h_107)) (by omega) _ _ hP hD hS _ (lv_sub hl [1, 2, 3, 4, 5, 6, 7, 8, 9, 10, 0] rfl)
        exact lp78 _ 0 (va_up (f) ((σ.2.1 2) (s2 * 21 + 1 + i * 5)) ((f) ((σ.2.1 2) (s2 * 21 + 1 + i * 5)) ||| (2 ^ i))) (by omega) (mbr_mark h1 h2 h3 hc5.1 h5) (Nat.lt_succ_self _) _ _ hP hD hS _ (lv_sub hl [2, 3, 4, 5, 6, 7, 8, 9, 10, 1, 0] rfl)
  exact lp38 _ 0 f_25 (by omega) (mbr_0 h2 h3 h_25 h1) (Nat.lt_succ_self _) _ _ hP hD hS _ (lv_sub hl [3, 4, 5, 6, 7, 8, 2, 1, 0] rfl)
