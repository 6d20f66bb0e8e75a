abbrev r_c_X1_isFull : Room := { frames := 0, cells := 0, slots := 0, locals := 0 }
set_option maxHeartbeats 4000000 in
set_option maxRecDepth 100000 in
theorem c_X1_isFull (l : Launch) (g : GC) (tl : va_W) (σ : SS) (hX : OkX σ) : Met l yX1_isFull wsX1_isFull r_c_X1_isFull (va_Pc [.ref (g.2.2.2 17)] (PP g (wC g σ ++ tl))) (vp_Si (fun r => r = nI (if 40 ≤ σ.1 1 then 1 else 0))) 0 0 (fun _ => False) := by
  refine jn_pz (cc := cX1_isFull) (maxL := 1) (own := RX1) (by decide) rfl rfl (Nat.le_of_ble_eq_true rfl) ?_
  intro p e s m below meth c Q hx hb hml hown hts ⟨hP, hK⟩ hq ls hl
  have hl : lv_has ls 1 [(0, .ref (g.2.2.2 17))] := hl
  have iX1 : ∀ w ∈ wsX10, w ∈ wsX1_isFull := by decide +kernel
  have k15 := hts (.fieldLink RX1 15 "JumpingAutomata$AutomatonText" "size" "I") (by decide +kernel)
  have hX1 := hX.1
  refine lv_aload_n hx hb dX1_isFull_0 rfl (lv_at hl 0 rfl) ?_
  refine va_get (D := (g.1, g.2.1)) (ci := 3) (v := .int (nI (σ.1 1))) (C := RX1) (T := TX1) (N := 5) hx hb hts iX1 hown hK.1 hP 17 (gC17 g σ tl) rfl 1 (by decide) k15 (fun _ h9 => h9) rfl dX1_isFull_1 ?_
  refine jn_zlt hx hb (by omega) (tgt := 16) dX1_isFull_4 (by decide) (fun c_4 => ?_) (fun c_4 => ?_)
  · refine lv_iconst (v := nI 1) hx hb dX1_isFull_16 (by decide) ?_
    refine lv_goto (tgt := 21) hx hb dX1_isFull_17 (by decide) ?_
    exact hq _ _ ((nI 1)) dX1_isFull_21 jn_n1 (by first | rw [if_pos (by omega)] | rw [if_neg (by omega)])
  · refine lv_aload_n hx hb dX1_isFull_7 rfl (lv_at hl 0 rfl) ?_
    refine va_get (D := (g.1, g.2.1)) (ci := 3) (v := .int (nI (σ.1 1))) (C := RX1) (T := TX1) (N := 5) hx hb hts iX1 hown hK.1 hP 17 (gC17 g σ tl) rfl 1 (by decide) k15 (fun _ h9 => h9) rfl dX1_isFull_8 ?_
    refine lv_bipush (v := nI 40) hx hb dX1_isFull_11 (by decide) ?_
    refine jn_clt hx hb (by omega) (by decide) (tgt := 20) dX1_isFull_13 (by decide) (fun c_13 => ?_) (fun c_13 => ?_)
    · refine lv_iconst (v := nI 0) hx hb dX1_isFull_20 (by decide) ?_
      exact hq _ _ ((nI 0)) dX1_isFull_21 jn_n0 (by first | rw [if_pos (by omega)] | rw [if_neg (by omega)])
    · refine lv_iconst (v := nI 1) hx hb dX1_isFull_16 (by decide) ?_
      refine lv_goto (tgt := 21) hx hb dX1_isFull_17 (by decide) ?_
      exact hq _ _ ((nI 1)) dX1_isFull_21 jn_n1 (by first | rw [if_pos (by omega)] | rw [if_neg (by omega)])

abbrev r_c_X1_append : Room := { frames := 1, cells := 0, slots := 0, locals := 20 }
set_option maxHeartbeats 4000000 in
set_option maxRecDepth 100000 in
theorem c_X1_append (l : Launch) (g : GC) (tl : va_W) (sz : Nat) (σ : SS) (v : Nat) (hX : OkX σ) (hs : σ.1 1 < 40) : Met l yX1_append wsX1_append r_c_X1_append (va_Pc [.ref (g.2.2.2 17), .int (nI v)] (PW g (wC g σ ++ tl) sz)) (va_Qi (fun (r : Int32) (_ : Unit) => r = nI (σ.1 1 + 1)) (fun (_ : Unit) t => BW g (va_A (wC g σ ++ tl) sz) (wC g (sF (sA σ 12 (va_up (σ.2.1 12) (σ.1 1) v)) 1 (σ.1 1 + 1)) ++ tl) t) (va_A (wC g σ ++ tl) sz)) 0 0 (va_A (wC g σ ++ tl) sz) := by
  refine jn_si (wf := fun _ : Unit => wC g (sF (sA σ 12 (va_up (σ.2.1 12) (σ.1 1) v)) 1 (σ.1 1 + 1)) ++ tl) (cc := cX1_append) (maxL := 2) (own := RX1) (by decide) rfl rfl (Nat.le_of_ble_eq_true rfl) ?_
  intro p e s m below meth c Q A hx hb hml hown hts hK hP hD hS hAA hq ls hl
  obtain ⟨H, eH⟩ : ∃ z, z = s.heap := ⟨_, rfl⟩
  obtain ⟨locs, el⟩ : ∃ z : List Loc, z = [] := ⟨_, rfl⟩
  rw [← eH] at hP
  have hS : va_S A s.heap H locs := by rw [eH, el]; exact hS
  have goal0 : W p l e r_c_X1_append s m ([.ref (g.2.2.2 17), .int (nI v)] : List Value).toArray below meth c H locs 0 0 Q (F0 m 0 ls []) → W p l e r_c_X1_append s m ([.ref (g.2.2.2 17), .int (nI v)] : List Value).toArray below meth c s.heap [] 0 0 Q (F0 m 0 ls []) := fun h => by rw [eH, el] at h; exact h
  refine goal0 ?_
  have hl : lv_has ls 2 [(0, .ref (g.2.2.2 17)), (1, .int (nI v))] := hl
  have iX1 : ∀ w ∈ wsX10, w ∈ wsX1_append := by decide +kernel
  have k11 := hts (.fieldLink RX1 11 "JumpingAutomata$AutomatonText" "signs" "[I") (by decide +kernel)
  have k15 := hts (.fieldLink RX1 15 "JumpingAutomata$AutomatonText" "size" "I") (by decide +kernel)
  refine lv_aload_n hx hb dX1_append_0 rfl (lv_at hl 0 rfl) ?_
  refine vp_callSi (va_Run.run (va_runV (As := []) (rest := []) ⟨hx, hb, hml, hown, hts⟩ (c_X1_isFull l g tl σ hX) (cwV 0 hts gX1_append_X1_isFull rfl rfl rfl (by decide +kernel) ⟨Nat.le_of_ble_eq_true rfl, Nat.le_of_ble_eq_true rfl⟩) (okPV hK hP rfl (gC17 g σ tl)) rfl rfl hl.1 rfl (lv_room (Nat.le_of_ble_eq_true rfl)) dX1_append_1 ⟨Nat.le_of_ble_eq_true rfl, Nat.le_of_ble_eq_true rfl⟩)) (fun r_1 h_1 => ?_)
  subst h_1
  refine jn_bne hx hb (tgt := 27) dX1_append_4 (by decide) (fun c_4 => absurd c_4 (by omega)) (fun c_4 => ?_)
  refine lv_aload_n hx hb dX1_append_7 rfl (lv_at hl 0 rfl) ?_
  refine va_get (D := (g.1, g.2.1)) (ci := 3) (v := .ref (g.2.2.2 18)) (C := RX1) (T := TX1) (N := 5) hx hb hts iX1 hown hK.1 hP 17 (gC17 g σ tl) rfl 0 (by decide) k11 (fun _ h9 => h9) rfl dX1_append_8 ?_
  refine lv_aload_n hx hb dX1_append_11 rfl (lv_at hl 0 rfl) ?_
  refine va_get (D := (g.1, g.2.1)) (ci := 3) (v := .int (nI (σ.1 1))) (C := RX1) (T := TX1) (N := 5) hx hb hts iX1 hown hK.1 hP 17 (gC17 g σ tl) rfl 1 (by decide) k15 (fun _ h9 => h9) rfl dX1_append_12 ?_
  refine lv_iload_n hx hb dX1_append_15 rfl (lv_at hl 1 rfl) ?_
  refine jn_iast (f := σ.2.1 12) hx hb hK.1 hP hD hS 18 0 (gC18 g σ tl) rfl (by omega) (Nat.le_of_ble_eq_true rfl) (uC_A12 g σ tl _) dX1_append_16 (fun H locs hP hD hS => ?_)
  refine lv_aload_n hx hb dX1_append_17 rfl (lv_at hl 0 rfl) ?_
  refine lv_dup hx hb dX1_append_18 rfl ?_
  refine va_get (D := (g.1, g.2.1)) (ci := 3) (v := .int (nI (σ.1 1))) (C := RX1) (T := TX1) (N := 5) hx hb hts iX1 hown hK.1 hP 17 (gC17 g (sA σ 12 (va_up (σ.2.1 12) (σ.1 1) v)) tl) rfl 1 (by decide) k15 (fun _ h9 => h9) rfl dX1_append_19 ?_
  refine lv_iconst (v := nI 1) hx hb dX1_append_22 (by decide) ?_
  refine jn_iadd hx hb dX1_append_23 ?_
  refine jn_put (D := (g.1, g.2.1)) (ci := 3) (v := .int (nI ((σ.1 1) + 1))) (ty := .int) (C := RX1) (T := TX1) (N := 5) hx hb hts iX1 tyX1 tyX1_ok nmX1 hown hK.1 hP hD hS 17 (gC17 g (sA σ 12 (va_up (σ.2.1 12) (σ.1 1) v)) tl) rfl 1 (by decide) k15 (fun _ h9 => h9) rfl (by decide +kernel) rfl rfl (Nat.le_of_ble_eq_true rfl) (uC_F1 g (sA σ 12 (va_up (σ.2.1 12) (σ.1 1) v)) tl ((σ.1 1) + 1)) dX1_append_24 (fun H locs hP hD hS => ?_)
  refine lv_aload_n hx hb dX1_append_27 rfl (lv_at hl 0 rfl) ?_
  refine va_get (D := (g.1, g.2.1)) (ci := 3) (v := .int (nI ((σ.1 1) + 1))) (C := RX1) (T := TX1) (N := 5) hx hb hts iX1 hown hK.1 hP 17 (gC17 g (sF (sA σ 12 (va_up (σ.2.1 12) (σ.1 1) v)) 1 ((σ.1 1) + 1)) tl) rfl 1 (by decide) k15 (fun _ h9 => h9) rfl dX1_append_28 ?_
  exact hq _ _ _ _ ((nI ((σ.1 1) + 1))) () dX1_append_31 rfl hP hD hS

abbrev r_c_X1_stageAfter : Room := { frames := 1, cells := 0, slots := 0, locals := 20 }
set_option maxHeartbeats 4000000 in
set_option maxRecDepth 100000 in
theorem c_X1_stageAfter (l : Launch) (g : GC) (tl : va_W) (σ : SS) (st v : Nat) (h1 : st ≤ 4) (h2 : v < 127) : Met l yX1_stageAfter wsX1_stageAfter r_c_X1_stageAfter (va_Pc [.int (nI st), .int (nI v)] (PP g (wC g σ ++ tl))) (vp_Si (fun r => r = nI (stg st v))) 0 0 (fun _ => False) := by
  refine jn_pi (cc := cX1_stageAfter) (maxL := 3) (own := RX1) (by decide) rfl rfl (Nat.le_of_ble_eq_true rfl) ?_
  intro p e s m below meth c Q hx hb hml hown hts ⟨hP, hK⟩ hq ls hl
  have hl : lv_has ls 3 [(0, .int (nI st)), (1, .int (nI v))] := hl
  have s48 := sb_small (x := v) (y := 48) (n := 5) (by omega) (by decide) (by decide)
  have s97 := sb_small (x := v) (y := 97) (n := 3) (by omega) (by decide) (by decide)
  refine lv_iload_n hx hb dX1_stageAfter_0 rfl (lv_at hl 1 rfl) ?_
  refine lv_bipush (v := nI 48) hx hb dX1_stageAfter_1 (by decide) ?_
  refine jn_isubB hx hb (by decide) dX1_stageAfter_3 ?_
  refine vp_callSi (va_Run.run (va_runSN (As := [.int (nI (sb v 48))]) (rest := []) ⟨hx, hb, hml, hown, hts⟩ (c_X10_isState l (sb v 48) (sb_lt (by omega))) ⟨(va_cnB 1 hts gX1_stageAfter_X10_isState_n43 rfl rfl rfl (hK.2 _ (List.mem_of_getElem? (i := 19) rfl)) (hts (.initialized RX10) (by decide +kernel)) (by decide +kernel) ⟨Nat.le_of_ble_eq_true rfl, Nat.le_of_ble_eq_true rfl⟩), hts (.static yX10_isState) (by decide +kernel), trivial⟩ okTS rfl rfl hl.1 rfl (lv_room (Nat.le_of_ble_eq_true rfl)) dX1_stageAfter_4 ⟨Nat.le_of_ble_eq_true rfl, Nat.le_of_ble_eq_true rfl⟩)) (fun r_4 h_4 => ?_)
  subst h_4
  refine lv_istore_n (lv' := [(2, .int (nI (if (sb v 48) < 5 then 1 else 0))), (0, .int (nI st)), (1, .int (nI v))]) hx hb dX1_stageAfter_7 rfl hl (by decide) rfl (fun ls hl => ?_)
  refine lv_iload_n hx hb dX1_stageAfter_8 rfl (lv_at hl 1 rfl) ?_
  rcases (by omega : st = 0 ∨ st = 1 ∨ st = 2 ∨ st = 3 ∨ st = 4) with e_9 | e_9 | e_9 | e_9 | e_9
  · refine jn_tabIn hx hb 0 (off := 31) (tgt := 40) dX1_stageAfter_9 e_9 (by decide) (by decide) (by decide) (by decide) ?_
    refine lv_iload_n hx hb dX1_stageAfter_40 rfl (lv_at hl 0 rfl) ?_
    refine jn_beq hx hb (tgt := 48) dX1_stageAfter_41 (by decide) (fun c_41 => ?_) (fun c_41 => ?_)
    · refine lv_iload_n hx hb dX1_stageAfter_48 rfl (lv_at hl 2 rfl) ?_
      refine lv_bipush (v := nI 33) hx hb dX1_stageAfter_49 (by decide) ?_
      refine jn_cne hx hb (by omega) (by decide) (tgt := 58) dX1_stageAfter_51 (by decide) (fun c_51 => ?_) (fun c_51 => ?_)
      · refine lv_iconst (v := nI 5) hx hb dX1_stageAfter_58 (by decide) ?_
        exact hq _ _ ((nI 5)) dX1_stageAfter_59 (by unfold stg; first | rw [if_pos (by omega), if_pos (by omega)] | rw [if_pos (by omega), if_neg (by omega), if_pos (by omega)] | rw [if_pos (by omega), if_neg (by omega), if_neg (by omega)] | rw [if_neg (by omega), if_pos (by omega), if_pos (by omega)] | rw [if_neg (by omega), if_pos (by omega), if_neg (by omega)] | rw [if_neg (by omega), if_neg (by omega), if_pos (by omega), if_pos (by omega)] | rw [if_neg (by omega), if_neg (by omega), if_pos (by omega), if_neg (by omega)] | rw [if_neg (by omega), if_neg (by omega), if_neg (by omega), if_pos (by omega)] | rw [if_neg (by omega), if_neg (by omega), if_neg (by omega), if_neg (by omega)])
      · refine lv_iconst (v := nI 3) hx hb dX1_stageAfter_54 (by decide) ?_
        refine lv_goto (tgt := 59) hx hb dX1_stageAfter_55 (by decide) ?_
        exact hq _ _ ((nI 3)) dX1_stageAfter_59 (by unfold stg; first | rw [if_pos (by omega), if_pos (by omega)] | rw [if_pos (by omega), if_neg (by omega), if_pos (by omega)] | rw [if_pos (by omega), if_neg (by omega), if_neg (by omega)] | rw [if_neg (by omega), if_pos (by omega), if_pos (by omega)] | rw [if_neg (by omega), if_pos (by omega), if_neg (by omega)] | rw [if_neg (by omega), if_neg (by omega), if_pos (by omega), if_pos (by omega)] | rw [if_neg (by omega), if_neg (by omega), if_pos (by omega), if_neg (by omega)] | rw [if_neg (by omega), if_neg (by omega), if_neg (by omega), if_pos (by omega)] | rw [if_neg (by omega), if_neg (by omega), if_neg (by omega), if_neg (by omega)])
    · refine lv_iconst (v := nI 1) hx hb dX1_stageAfter_44 (by decide) ?_
      refine lv_goto (tgt := 59) hx hb dX1_stageAfter_45 (by decide) ?_
      exact hq _ _ ((nI 1)) dX1_stageAfter_59 (by unfold stg; first | rw [if_pos (by omega), if_pos (by omega)] | rw [if_pos (by omega), if_neg (by omega), if_pos (by omega)] | rw [if_pos (by omega), if_neg (by omega), if_neg (by omega)] | rw [if_neg (by omega), if_pos (by omega), if_pos (by omega)] | rw [if_neg (by omega), if_pos (by omega), if_neg (by omega)] | rw [if_neg (by omega), if_neg (by omega), if_pos (by omega), if_pos (by omega)] | rw [if_neg (by omega), if_neg (by omega), if_pos (by omega), if_neg (by omega)] | rw [if_neg (by omega), if_neg (by omega), if_neg (by omega), if_pos (by omega)] | rw [if_neg (by omega), if_neg (by omega), if_neg (by omega), if_neg (by omega)])
  · refine jn_tabIn hx hb 1 (off := 51) (tgt := 60) dX1_stageAfter_9 e_9 (by decide) (by decide) (by decide) (by decide) ?_
    refine lv_iload_n hx hb dX1_stageAfter_60 rfl (lv_at hl 2 rfl) ?_
    refine lv_bipush (v := nI 97) hx hb dX1_stageAfter_61 (by decide) ?_
    refine jn_isubB hx hb (by decide) dX1_stageAfter_63 ?_
    refine vp_callSi (va_Run.run (va_runSN (As := [.int (nI (sb v 97))]) (rest := []) ⟨hx, hb, hml, hown, hts⟩ (c_X10_isLetter l (sb v 97) (sb_lt (by omega))) ⟨(va_cnB 1 hts gX1_stageAfter_X10_isLetter_n47 rfl rfl rfl (hK.2 _ (List.mem_of_getElem? (i := 20) rfl)) (hts (.initialized RX10) (by decide +kernel)) (by decide +kernel) ⟨Nat.le_of_ble_eq_true rfl, Nat.le_of_ble_eq_true rfl⟩), hts (.static yX10_isLetter) (by decide +kernel), trivial⟩ okTS rfl rfl hl.1 rfl (lv_room (Nat.le_of_ble_eq_true rfl)) dX1_stageAfter_64 ⟨Nat.le_of_ble_eq_true rfl, Nat.le_of_ble_eq_true rfl⟩)) (fun r_64 h_64 => ?_)
    subst h_64
    refine jn_beq hx hb (tgt := 74) dX1_stageAfter_67 (by decide) (fun c_67 => ?_) (fun c_67 => ?_)
    · refine lv_iconst (v := nI 5) hx hb dX1_stageAfter_74 (by decide) ?_
      exact hq _ _ ((nI 5)) dX1_stageAfter_75 (by unfold stg; first | rw [if_pos (by omega), if_pos (by omega)] | rw [if_pos (by omega), if_neg (by omega), if_pos (by omega)] | rw [if_pos (by omega), if_neg (by omega), if_neg (by omega)] | rw [if_neg (by omega), if_pos (by omega), if_pos (by omega)] | rw [if_neg (by omega), if_pos (by omega), if_neg (by omega)] | rw [if_neg (by omega), if_neg (by omega), if_pos (by omega), if_pos (by omega)] | rw [if_neg (by omega), if_neg (by omega), if_pos (by omega), if_neg (by omega)] | rw [if_neg (by omega), if_neg (by omega), if_neg (by omega), if_pos (by omega)] | rw [if_neg (by omega), if_neg (by omega), if_neg (by omega), if_neg (by omega)])
    · refine lv_iconst (v := nI 2) hx hb dX1_stageAfter_70 (by decide) ?_
      refine lv_goto (tgt := 75) hx hb dX1_stageAfter_71 (by decide) ?_
      exact hq _ _ ((nI 2)) dX1_stageAfter_75 (by unfold stg; first | rw [if_pos (by omega), if_pos (by omega)] | rw [if_pos (by omega), if_neg (by omega), if_pos (by omega)] | rw [if_pos (by omega), if_neg (by omega), if_neg (by omega)] | rw [if_neg (by omega), if_pos (by omega), if_pos (by omega)] | rw [if_neg (by omega), if_pos (by omega), if_neg (by omega)] | rw [if_neg (by omega), if_neg (by omega), if_pos (by omega), if_pos (by omega)] | rw [if_neg (by omega), if_neg (by omega), if_pos (by omega), if_neg (by omega)] | rw [if_neg (by omega), if_neg (by omega), if_neg (by omega), if_pos (by omega)] | rw [if_neg (by omega), if_neg (by omega), if_neg (by omega), if_neg (by omega)])
  · refine jn_tabIn hx hb 2 (off := 67) (tgt := 76) dX1_stageAfter_9 e_9 (by decide) (by decide) (by decide) (by decide) ?_
    refine lv_iload_n hx hb dX1_stageAfter_76 rfl (lv_at hl 0 rfl) ?_
    refine jn_beq hx hb (tgt := 84) dX1_stageAfter_77 (by decide) (fun c_77 => ?_) (fun c_77 => ?_)
    · refine lv_iconst (v := nI 5) hx hb dX1_stageAfter_84 (by decide) ?_
      exact hq _ _ ((nI 5)) dX1_stageAfter_85 (by unfold stg; first | rw [if_pos (by omega), if_pos (by omega)] | rw [if_pos (by omega), if_neg (by omega), if_pos (by omega)] | rw [if_pos (by omega), if_neg (by omega), if_neg (by omega)] | rw [if_neg (by omega), if_pos (by omega), if_pos (by omega)] | rw [if_neg (by omega), if_pos (by omega), if_neg (by omega)] | rw [if_neg (by omega), if_neg (by omega), if_pos (by omega), if_pos (by omega)] | rw [if_neg (by omega), if_neg (by omega), if_pos (by omega), if_neg (by omega)] | rw [if_neg (by omega), if_neg (by omega), if_neg (by omega), if_pos (by omega)] | rw [if_neg (by omega), if_neg (by omega), if_neg (by omega), if_neg (by omega)])
    · refine lv_iconst (v := nI 4) hx hb dX1_stageAfter_80 (by decide) ?_
      refine lv_goto (tgt := 85) hx hb dX1_stageAfter_81 (by decide) ?_
      exact hq _ _ ((nI 4)) dX1_stageAfter_85 (by unfold stg; first | rw [if_pos (by omega), if_pos (by omega)] | rw [if_pos (by omega), if_neg (by omega), if_pos (by omega)] | rw [if_pos (by omega), if_neg (by omega), if_neg (by omega)] | rw [if_neg (by omega), if_pos (by omega), if_pos (by omega)] | rw [if_neg (by omega), if_pos (by omega), if_neg (by omega)] | rw [if_neg (by omega), if_neg (by omega), if_pos (by omega), if_pos (by omega)] | rw [if_neg (by omega), if_neg (by omega), if_pos (by omega), if_neg (by omega)] | rw [if_neg (by omega), if_neg (by omega), if_neg (by omega), if_pos (by omega)] | rw [if_neg (by omega), if_neg (by omega), if_neg (by omega), if_neg (by omega)])
  · refine jn_tabIn hx hb 3 (off := 67) (tgt := 76) dX1_stageAfter_9 e_9 (by decide) (by decide) (by decide) (by decide) ?_
    refine lv_iload_n hx hb dX1_stageAfter_76 rfl (lv_at hl 0 rfl) ?_
    refine jn_beq hx hb (tgt := 84) dX1_stageAfter_77 (by decide) (fun c_77 => ?_) (fun c_77 => ?_)
    · refine lv_iconst (v := nI 5) hx hb dX1_stageAfter_84 (by decide) ?_
      exact hq _ _ ((nI 5)) dX1_stageAfter_85 (by unfold stg; first | rw [if_pos (by omega), if_pos (by omega)] | rw [if_pos (by omega), if_neg (by omega), if_pos (by omega)] | rw [if_pos (by omega), if_neg (by omega), if_neg (by omega)] | rw [if_neg (by omega), if_pos (by omega), if_pos (by omega)] | rw [if_neg (by omega), if_pos (by omega), if_neg (by omega)] | rw [if_neg (by omega), if_neg (by omega), if_pos (by omega), if_pos (by omega)] | rw [if_neg (by omega), if_neg (by omega), if_pos (by omega), if_neg (by omega)] | rw [if_neg (by omega), if_neg (by omega), if_neg (by omega), if_pos (by omega)] | rw [if_neg (by omega), if_neg (by omega), if_neg (by omega), if_neg (by omega)])
    · refine lv_iconst (v := nI 4) hx hb dX1_stageAfter_80 (by decide) ?_
      refine lv_goto (tgt := 85) hx hb dX1_stageAfter_81 (by decide) ?_
      exact hq _ _ ((nI 4)) dX1_stageAfter_85 (by unfold stg; first | rw [if_pos (by omega), if_pos (by omega)] | rw [if_pos (by omega), if_neg (by omega), if_pos (by omega)] | rw [if_pos (by omega), if_neg (by omega), if_neg (by omega)] | rw [if_neg (by omega), if_pos (by omega), if_pos (by omega)] | rw [if_neg (by omega), if_pos (by omega), if_neg (by omega)] | rw [if_neg (by omega), if_neg (by omega), if_pos (by omega), if_pos (by omega)] | rw [if_neg (by omega), if_neg (by omega), if_pos (by omega), if_neg (by omega)] | rw [if_neg (by omega), if_neg (by omega), if_neg (by omega), if_pos (by omega)] | rw [if_neg (by omega), if_neg (by omega), if_neg (by omega), if_neg (by omega)])
  · refine jn_tabOut hx hb (tgt := 86) dX1_stageAfter_9 (by omega) (by omega) (by decide) ?_
    refine lv_iload_n hx hb dX1_stageAfter_86 rfl (lv_at hl 2 rfl) ?_
    refine lv_bipush (v := nI 44) hx hb dX1_stageAfter_87 (by decide) ?_
    refine jn_cne hx hb (by omega) (by decide) (tgt := 96) dX1_stageAfter_89 (by decide) (fun c_89 => ?_) (fun c_89 => ?_)
    · refine lv_iconst (v := nI 5) hx hb dX1_stageAfter_96 (by decide) ?_
      exact hq _ _ ((nI 5)) dX1_stageAfter_97 (by unfold stg; first | rw [if_pos (by omega), if_pos (by omega)] | rw [if_pos (by omega), if_neg (by omega), if_pos (by omega)] | rw [if_pos (by omega), if_neg (by omega), if_neg (by omega)] | rw [if_neg (by omega), if_pos (by omega), if_pos (by omega)] | rw [if_neg (by omega), if_pos (by omega), if_neg (by omega)] | rw [if_neg (by omega), if_neg (by omega), if_pos (by omega), if_pos (by omega)] | rw [if_neg (by omega), if_neg (by omega), if_pos (by omega), if_neg (by omega)] | rw [if_neg (by omega), if_neg (by omega), if_neg (by omega), if_pos (by omega)] | rw [if_neg (by omega), if_neg (by omega), if_neg (by omega), if_neg (by omega)])
    · refine lv_iconst (v := nI 0) hx hb dX1_stageAfter_92 (by decide) ?_
      refine lv_goto (tgt := 97) hx hb dX1_stageAfter_93 (by decide) ?_
      exact hq _ _ ((nI 0)) dX1_stageAfter_97 (by unfold stg; first | rw [if_pos (by omega), if_pos (by omega)] | rw [if_pos (by omega), if_neg (by omega), if_pos (by omega)] | rw [if_pos (by omega), if_neg (by omega), if_neg (by omega)] | rw [if_neg (by omega), if_pos (by omega), if_pos (by omega)] | rw [if_neg (by omega), if_pos (by omega), if_neg (by omega)] | rw [if_neg (by omega), if_neg (by omega), if_pos (by omega), if_pos (by omega)] | rw [if_neg (by omega), if_neg (by omega), if_pos (by omega), if_neg (by omega)] | rw [if_neg (by omega), if_neg (by omega), if_neg (by omega), if_pos (by omega)] | rw [if_neg (by omega), if_neg (by omega), if_neg (by omega), if_neg (by omega)])

abbrev r_c_X1_findFault : Room := { frames := 2, cells := 0, slots := 0, locals := 42 }
set_option maxHeartbeats 4000000 in
set_option maxRecDepth 100000 in
theorem c_X1_findFault (l : Launch) (g : GC) (tl : va_W) (σ : SS) (hX : OkX σ) : Met l yX1_findFault wsX1_findFault r_c_X1_findFault (va_Pc [.ref (g.2.2.2 17)] (PP g (wC g σ ++ tl))) (vp_Si (fun r => r = nI (fltC (σ.2.1 12) (σ.1 1)))) 0 0 (fun _ => False) := by
  refine jn_pi (cc := cX1_findFault) (maxL := 3) (own := RX1) (by decide) rfl rfl (Nat.le_of_ble_eq_true rfl) ?_
  intro p e s m below meth c Q hx hb hml hown hts ⟨hP, hK⟩ hq ls hl
  have hl : lv_has ls 3 [(0, .ref (g.2.2.2 17))] := hl
  have iX1 : ∀ w ∈ wsX10, w ∈ wsX1_findFault := by decide +kernel
  have k15 := hts (.fieldLink RX1 15 "JumpingAutomata$AutomatonText" "size" "I") (by decide +kernel)
  have k11 := hts (.fieldLink RX1 11 "JumpingAutomata$AutomatonText" "signs" "[I") (by decide +kernel)
  have hX1 := hX.1
  refine lv_iconst (v := nI 0) hx hb dX1_findFault_0 (by decide) ?_
  refine lv_istore_n (lv' := [(1, .int (nI 0)), (0, .ref (g.2.2.2 17))]) hx hb dX1_findFault_1 rfl hl (by decide) rfl (fun ls hl => ?_)
  refine lv_iconst (v := nI 0) hx hb dX1_findFault_2 (by decide) ?_
  refine lv_istore_n (lv' := [(2, .int (nI 0)), (1, .int (nI 0)), (0, .ref (g.2.2.2 17))]) hx hb dX1_findFault_3 rfl hl (by decide) rfl (fun ls hl => ?_)
  have lp4 : ∀ (fu : Nat), ∀ (i : Nat) (st : Nat), (i ≤ σ.1 1) → (st = stgs (σ.2.1 12) i) → (st ≤ 4) → (∀ k, k < i → stgs (σ.2.1 12) (k + 1) ≠ 5) → σ.1 1 - i < fu → ∀ ls : Array Slot, lv_has ls 3 [(0, .ref (g.2.2.2 17)), (1, .int (nI st)), (2, .int (nI i))] → W p l e r_c_X1_findFault s m ([.ref (g.2.2.2 17)] : List Value).toArray below meth c s.heap [] 0 0 Q (F0 m 4 ls []) := by
    intro fu
    induction fu with
    | zero => intro i st h1 h2 h3 h4 hf; exact absurd hf (Nat.not_lt_zero _)
    | succ fu ih4 =>
      intro i st h1 h2 h3 h4 hf ls hl
      refine lv_iload_n hx hb dX1_findFault_4 rfl (lv_at hl 2 rfl) ?_
      refine lv_aload_n hx hb dX1_findFault_5 rfl (lv_at hl 0 rfl) ?_
      refine va_get (D := (g.1, g.2.1)) (ci := 3) (v := .int (nI (σ.1 1))) (C := RX1) (T := TX1) (N := 5) hx hb hts iX1 hown hK.1 hP 17 (gC17 g σ tl) rfl 1 (by decide) k15 (fun _ h9 => h9) rfl dX1_findFault_6 ?_
      refine jn_cge hx hb (by omega) (by omega) (tgt := 42) dX1_findFault_9 (by decide) (fun c_9 => ?_) (fun c_9 => ?_)
      · refine lv_iload_n hx hb dX1_findFault_42 rfl (lv_at hl 1 rfl) ?_
        refine lv_iconst (v := nI 4) hx hb dX1_findFault_43 (by decide) ?_
        refine jn_cne hx hb (by omega) (by decide) (tgt := 51) dX1_findFault_44 (by decide) (fun c_44 => ?_) (fun c_44 => ?_)
        · have e1 : i = σ.1 1 := by omega
          refine lv_aload_n hx hb dX1_findFault_51 rfl (lv_at hl 0 rfl) ?_
          refine va_get (D := (g.1, g.2.1)) (ci := 3) (v := .int (nI (σ.1 1))) (C := RX1) (T := TX1) (N := 5) hx hb hts iX1 hown hK.1 hP 17 (gC17 g σ tl) rfl 1 (by decide) k15 (fun _ h9 => h9) rfl dX1_findFault_52 ?_
          exact hq _ _ ((nI (σ.1 1))) dX1_findFault_55 (by rw [fltC_end (by rw [← e1]; exact h4), ← e1, ← h2]; first | rw [if_pos c_44] | rw [if_neg c_44])
        · have e1 : i = σ.1 1 := by omega
          refine lv_iconst (v := nI 4294967295) hx hb dX1_findFault_47 (by decide) ?_
          refine lv_goto (tgt := 55) hx hb dX1_findFault_48 (by decide) ?_
          exact hq _ _ ((nI 4294967295)) dX1_findFault_55 (by rw [fltC_end (by rw [← e1]; exact h4), ← e1, ← h2]; first | rw [if_pos c_44] | rw [if_neg c_44])
      · refine lv_iload_n hx hb dX1_findFault_12 rfl (lv_at hl 2 rfl) ?_
        refine lv_bipush (v := nI 40) hx hb dX1_findFault_13 (by decide) ?_
        refine jn_cge hx hb (by omega) (by decide) (tgt := 42) dX1_findFault_15 (by decide) (fun c_15 => ?_) (fun c_15 => ?_)
        · refine lv_iload_n hx hb dX1_findFault_42 rfl (lv_at hl 1 rfl) ?_
          refine lv_iconst (v := nI 4) hx hb dX1_findFault_43 (by decide) ?_
          refine jn_cne hx hb (by omega) (by decide) (tgt := 51) dX1_findFault_44 (by decide) (fun c_44 => ?_) (fun c_44 => ?_)
          · have e1 : i = σ.1 1 := by omega
            refine lv_aload_n hx hb dX1_findFault_51 rfl (lv_at hl 0 rfl) ?_
            refine va_get (D := (g.1, g.2.1)) (ci := 3) (v := .int (nI (σ.1 1))) (C := RX1) (T := TX1) (N := 5) hx hb hts iX1 hown hK.1 hP 17 (gC17 g σ tl) rfl 1 (by decide) k15 (fun _ h9 => h9) rfl dX1_findFault_52 ?_
            exact hq _ _ ((nI (σ.1 1))) dX1_findFault_55 (by rw [fltC_end (by rw [← e1]; exact h4), ← e1, ← h2]; first | rw [if_pos c_44] | rw [if_neg c_44])
          · have e1 : i = σ.1 1 := by omega
            refine lv_iconst (v := nI 4294967295) hx hb dX1_findFault_47 (by decide) ?_
            refine lv_goto (tgt := 55) hx hb dX1_findFault_48 (by decide) ?_
            exact hq _ _ ((nI 4294967295)) dX1_findFault_55 (by rw [fltC_end (by rw [← e1]; exact h4), ← e1, ← h2]; first | rw [if_pos c_44] | rw [if_neg c_44])
        · refine lv_iload_n hx hb dX1_findFault_18 rfl (lv_at hl 1 rfl) ?_
          refine lv_aload_n hx hb dX1_findFault_19 rfl (lv_at hl 0 rfl) ?_
          refine va_get (D := (g.1, g.2.1)) (ci := 3) (v := .ref (g.2.2.2 18)) (C := RX1) (T := TX1) (N := 5) hx hb hts iX1 hown hK.1 hP 17 (gC17 g σ tl) rfl 0 (by decide) k11 (fun _ h9 => h9) rfl dX1_findFault_20 ?_
          refine lv_iload_n hx hb dX1_findFault_23 rfl (lv_at hl 2 rfl) ?_
          refine jn_iald (f := σ.2.1 12) hx hb hK.1 hP 18 0 (gC18 g σ tl) rfl (by omega) (Nat.le_of_ble_eq_true rfl) dX1_findFault_24 ?_
          refine vp_callSi (va_Run.run (va_runS (As := [.int (nI st), .int (nI ((σ.2.1 12) i))]) (rest := []) ⟨hx, hb, hml, hown, hts⟩ (c_X1_stageAfter l g tl σ st ((σ.2.1 12) i) (by omega) (hX.2 i (by omega)).2) (va_cwS 2 hts gX1_findFault_X1_stageAfter rfl rfl rfl (by decide +kernel) ⟨Nat.le_of_ble_eq_true rfl, Nat.le_of_ble_eq_true rfl⟩) (okPS hK hP) rfl rfl hl.1 rfl (lv_room (Nat.le_of_ble_eq_true rfl)) dX1_findFault_25 ⟨Nat.le_of_ble_eq_true rfl, Nat.le_of_ble_eq_true rfl⟩)) (fun r_25 h_25 => ?_)
          subst h_25
          refine lv_istore_n (lv' := [(1, .int (nI (stg st ((σ.2.1 12) i)))), (0, .ref (g.2.2.2 17)), (2, .int (nI i))]) hx hb dX1_findFault_28 rfl hl (by decide) rfl (fun ls hl => ?_)
          refine lv_iload_n hx hb dX1_findFault_29 rfl (lv_at hl 0 rfl) ?_
          refine lv_iconst (v := nI 5) hx hb dX1_findFault_30 (by decide) ?_
          refine jn_cne hx hb (by have := stg_le st ((σ.2.1 12) i); omega) (by decide) (tgt := 36) dX1_findFault_31 (by decide) (fun c_31 => ?_) (fun c_31 => ?_)
          · refine lv_iinc (v := nI (i + 1)) (lv' := [(2, .int (nI (i + 1))), (1, .int (nI (stg st ((σ.2.1 12) i)))), (0, .ref (g.2.2.2 17))]) hx hb dX1_findFault_36 hl (k := 2) rfl (jn_ii _ 1) (by decide) rfl (fun ls hl => ?_)
            refine lv_goto (tgt := 4) hx hb dX1_findFault_39 (by decide) ?_
            exact ih4 (i + 1) (stg st ((σ.2.1 12) i)) (by omega) (by rw [h2]; rfl) (by have := stg_le st ((σ.2.1 12) i); omega) (fun k hk => by rcases Nat.lt_or_ge k i with q | q; { exact h4 k q }; { rw [show k = i by omega]; intro q2; apply c_31; rw [h2]; exact q2 }) (by omega) _ (lv_sub hl [2, 1, 0] rfl)
          · refine lv_iload_n hx hb dX1_findFault_34 rfl (lv_at hl 2 rfl) ?_
            exact hq _ _ ((nI i)) dX1_findFault_35 (by rw [fltC_hit (i := i) (by omega) (by rw [← c_31, h2]; rfl) h4])
  exact lp4 _ 0 0 (by omega) rfl (by decide) (fun k hk => absurd hk (by omega)) (Nat.lt_succ_self _) _ (lv_sub hl [2, 1, 0] rfl)

abbrev r_c_X1_wantTransition : Room := { frames := 2, cells := 0, slots := 0, locals := 42 }
set_option maxHeartbeats 4000000 in
set_option maxRecDepth 100000 in
theorem c_X1_wantTransition (l : Launch) (g : GC) (tl : va_W) (sz : Nat) (σ : SS) (x y z : Nat) (hx : x < 4294967296) (hy : y < 3) (hz : z < 5) : Met l yX1_wantTransition wsX1_wantTransition r_c_X1_wantTransition (va_Pc [.ref (g.2.2.2 17), .int (nI x), .int (nI y), .int (nI z)] (PW g (wC g σ ++ tl) sz)) (va_Qv (fun (f : (Nat → Nat)) => f = if x < 5 then va_up (σ.2.1 13) (x * 3 + y) ((σ.2.1 13) (x * 3 + y) ||| 2 ^ z) else σ.2.1 13) (fun (f : (Nat → Nat)) t => BW g (va_A (wC g σ ++ tl) sz) (wC g (sA σ 13 f) ++ tl) t) (va_A (wC g σ ++ tl) sz)) 0 0 (va_A (wC g σ ++ tl) sz) := by
  refine jn_sv (wf := fun f : (Nat → Nat) => wC g (sA σ 13 f) ++ tl) (cc := cX1_wantTransition) (maxL := 4) (own := RX1) (by decide) rfl rfl (Nat.le_of_ble_eq_true rfl) ?_
  intro p e s m below meth c Q A hx hb hml hown hts hK hP hD hS hAA hq ls hl
  obtain ⟨H, eH⟩ : ∃ z, z = s.heap := ⟨_, rfl⟩
  obtain ⟨locs, el⟩ : ∃ z : List Loc, z = [] := ⟨_, rfl⟩
  rw [← eH] at hP
  have hS : va_S A s.heap H locs := by rw [eH, el]; exact hS
  have goal0 : W p l e r_c_X1_wantTransition s m ([.ref (g.2.2.2 17), .int (nI x), .int (nI y), .int (nI z)] : List Value).toArray below meth c H locs 0 0 Q (F0 m 0 ls []) → W p l e r_c_X1_wantTransition s m ([.ref (g.2.2.2 17), .int (nI x), .int (nI y), .int (nI z)] : List Value).toArray below meth c s.heap [] 0 0 Q (F0 m 0 ls []) := fun h => by rw [eH, el] at h; exact h
  refine goal0 ?_
  have hl : lv_has ls 4 [(0, .ref (g.2.2.2 17)), (1, .int (nI x)), (2, .int (nI y)), (3, .int (nI z))] := hl
  have iX1 : ∀ w ∈ wsX10, w ∈ wsX1_wantTransition := by decide +kernel
  have k22 := hts (.fieldLink RX1 22 "JumpingAutomata$AutomatonText" "wanted" "[I") (by decide +kernel)
  refine lv_iload_n hx hb dX1_wantTransition_0 rfl (lv_at hl 1 rfl) ?_
  refine lv_iload_n hx hb dX1_wantTransition_1 rfl (lv_at hl 2 rfl) ?_
  refine lv_iload_n hx hb dX1_wantTransition_2 rfl (lv_at hl 3 rfl) ?_
  refine vp_callSi (va_Run.run (va_runSN (As := [.int (nI x), .int (nI y), .int (nI z)]) (rest := []) ⟨hx, hb, hml, hown, hts⟩ (c_X10_isTransition l x y z (by omega) (by omega) (by omega)) ⟨(va_cnB 3 hts gX1_wantTransition_X10_isTransition_n54 rfl rfl rfl (hK.2 _ (List.mem_of_getElem? (i := 21) rfl)) (hts (.initialized RX10) (by decide +kernel)) (by decide +kernel) ⟨Nat.le_of_ble_eq_true rfl, Nat.le_of_ble_eq_true rfl⟩), hts (.static yX10_isTransition) (by decide +kernel), trivial⟩ okTS rfl rfl hl.1 rfl (lv_room (Nat.le_of_ble_eq_true rfl)) dX1_wantTransition_3 ⟨Nat.le_of_ble_eq_true rfl, Nat.le_of_ble_eq_true rfl⟩)) (fun r_3 h_3 => ?_)
  subst h_3
  refine jn_beq hx hb (tgt := 25) dX1_wantTransition_6 (by decide) (fun c_6 => ?_) (fun c_6 => ?_)
  · exact hq _ _ _ _ ((σ.2.1 13)) dX1_wantTransition_25 (by first | rw [if_pos (by omega)] | rw [if_neg (by omega)]) hP hD hS
  · refine lv_aload_n hx hb dX1_wantTransition_9 rfl (lv_at hl 0 rfl) ?_
    refine va_get (D := (g.1, g.2.1)) (ci := 3) (v := .ref (g.2.2.2 19)) (C := RX1) (T := TX1) (N := 5) hx hb hts iX1 hown hK.1 hP 17 (gC17 g σ tl) rfl 3 (by decide) k22 (fun _ h9 => h9) rfl dX1_wantTransition_10 ?_
    refine lv_iload_n hx hb dX1_wantTransition_13 rfl (lv_at hl 1 rfl) ?_
    refine lv_iconst (v := nI 3) hx hb dX1_wantTransition_14 (by decide) ?_
    refine jn_imul hx hb dX1_wantTransition_15 ?_
    refine lv_iload_n hx hb dX1_wantTransition_16 rfl (lv_at hl 2 rfl) ?_
    refine jn_iadd hx hb dX1_wantTransition_17 ?_
    refine lv_dup2_11 hx hb dX1_wantTransition_18 rfl rfl ?_
    refine jn_iald (f := σ.2.1 13) hx hb hK.1 hP 19 0 (gC19 g σ tl) rfl (by omega) (Nat.le_of_ble_eq_true rfl) dX1_wantTransition_19 ?_
    refine lv_iconst (v := nI 1) hx hb dX1_wantTransition_20 (by decide) ?_
    refine lv_iload_n hx hb dX1_wantTransition_21 rfl (lv_at hl 3 rfl) ?_
    refine jn_shl1 hx hb (by omega) dX1_wantTransition_22 ?_
    refine jn_ior hx hb dX1_wantTransition_23 ?_
    refine jn_iast (f := σ.2.1 13) hx hb hK.1 hP hD hS 19 0 (gC19 g σ tl) rfl (by omega) (Nat.le_of_ble_eq_true rfl) (uC_A13 g σ tl _) dX1_wantTransition_24 (fun H locs hP hD hS => ?_)
    exact hq _ _ _ _ ((va_up (σ.2.1 13) ((x * 3) + y) (((σ.2.1 13) ((x * 3) + y)) ||| (2 ^ z)))) dX1_wantTransition_25 (by first | rw [if_pos (by omega)] | rw [if_neg (by omega)]) hP hD hS

abbrev r_c_X1_gatherItems : Room := { frames := 3, cells := 0, slots := 0, locals := 65 }
set_option maxHeartbeats 4000000 in
set_option maxRecDepth 100000 in
theorem c_X1_gatherItems (l : Launch) (g : GC) (tl : va_W) (sz : Nat) (σ : SS) (hX : OkX σ) (hs : 1 ≤ σ.1 1) : Met l yX1_gatherItems wsX1_gatherItems r_c_X1_gatherItems (va_Pc [.ref (g.2.2.2 17)] (PW g (wC g σ ++ tl) sz)) (va_Qv (fun (z : (Nat → Nat) × Nat) => match z with | (f, v) => (∀ k, k < 15 → f k = (gi (σ.2.1 12) (σ.1 1)).1 k) ∧ (v = (gi (σ.2.1 12) (σ.1 1)).2)) (fun (z : (Nat → Nat) × Nat) t => BW g (va_A (wC g σ ++ tl) sz) ((fun z : (Nat → Nat) × Nat => match z with | (f, v) => wC g (sA (sF σ 3 v) 13 f) ++ tl) z) t) (va_A (wC g σ ++ tl) sz)) 0 0 (va_A (wC g σ ++ tl) sz) := by
  refine jn_sv (wf := fun z : (Nat → Nat) × Nat => match z with | (f, v) => wC g (sA (sF σ 3 v) 13 f) ++ tl) (cc := cX1_gatherItems) (maxL := 4) (own := RX1) (by decide) rfl rfl (Nat.le_of_ble_eq_true rfl) ?_
  intro p e s m below meth c Q A hx hb hml hown hts hK hP hD hS hAA hq ls hl
  obtain ⟨H, eH⟩ : ∃ z, z = s.heap := ⟨_, rfl⟩
  obtain ⟨locs, el⟩ : ∃ z : List Loc, z = [] := ⟨_, rfl⟩
  rw [← eH] at hP
  have hS : va_S A s.heap H locs := by rw [eH, el]; exact hS
  have goal0 : W p l e r_c_X1_gatherItems s m ([.ref (g.2.2.2 17)] : List Value).toArray below meth c H locs 0 0 Q (F0 m 0 ls []) → W p l e r_c_X1_gatherItems s m ([.ref (g.2.2.2 17)] : List Value).toArray below meth c s.heap [] 0 0 Q (F0 m 0 ls []) := fun h => by rw [eH, el] at h; exact h
  refine goal0 ?_
  have hl : lv_has ls 4 [(0, .ref (g.2.2.2 17))] := hl
  have iX1 : ∀ w ∈ wsX10, w ∈ wsX1_gatherItems := by decide +kernel
  have k25 := hts (.fieldLink RX1 25 "JumpingAutomata$AutomatonText" "wantedFinals" "I") (by decide +kernel)
  have k15 := hts (.fieldLink RX1 15 "JumpingAutomata$AutomatonText" "size" "I") (by decide +kernel)
  have k11 := hts (.fieldLink RX1 11 "JumpingAutomata$AutomatonText" "signs" "[I") (by decide +kernel)
  have k22 := hts (.fieldLink RX1 22 "JumpingAutomata$AutomatonText" "wanted" "[I") (by decide +kernel)
  have hX1 := hX.1
  refine lv_iconst (v := nI 0) hx hb dX1_gatherItems_0 (by decide) ?_
  refine lv_istore_n (lv' := [(1, .int (nI 0)), (0, .ref (g.2.2.2 17))]) hx hb dX1_gatherItems_1 rfl hl (by decide) rfl (fun ls hl => ?_)
  have lp2 : ∀ (fu : Nat), ∀ (i : Nat) (f : Nat → Nat), (i ≤ 15) → (∀ k, k < i → f k = 0) → 15 - i < fu → ∀ (H : Heap) (locs : List Loc), va_P (g.1, g.2.1) vwCl (wC g (sA σ 13 f) ++ tl) H → va_D A (wC g (sA σ 13 f) ++ tl) → va_S A s.heap H locs → ∀ ls : Array Slot, lv_has ls 4 [(0, .ref (g.2.2.2 17)), (1, .int (nI i))] → W p l e r_c_X1_gatherItems s m ([.ref (g.2.2.2 17)] : List Value).toArray below meth c H locs 0 0 Q (F0 m 2 ls []) := by
    intro fu
    induction fu with
    | zero => intro i f h1 h2 hf; exact absurd hf (Nat.not_lt_zero _)
    | succ fu ih2 =>
      intro i f h1 h2 hf H locs hP hD hS ls hl
      refine lv_iload_n hx hb dX1_gatherItems_2 rfl (lv_at hl 1 rfl) ?_
      refine lv_bipush (v := nI 15) hx hb dX1_gatherItems_3 (by decide) ?_
      refine jn_cge hx hb (by omega) (by decide) (tgt := 21) dX1_gatherItems_5 (by decide) (fun c_5 => ?_) (fun c_5 => ?_)
      · refine lv_aload_n hx hb dX1_gatherItems_21 rfl (lv_at hl 0 rfl) ?_
        refine lv_iconst (v := nI 0) hx hb dX1_gatherItems_22 (by decide) ?_
        refine jn_put (D := (g.1, g.2.1)) (ci := 3) (v := .int (nI 0)) (ty := .int) (C := RX1) (T := TX1) (N := 5) hx hb hts iX1 tyX1 tyX1_ok nmX1 hown hK.1 hP hD hS 17 (gC17 g (sA σ 13 f) tl) rfl 4 (by decide) k25 (fun _ h9 => h9) rfl (by decide +kernel) rfl rfl (Nat.le_of_ble_eq_true rfl) (uC_F3 g (sA σ 13 f) tl 0) dX1_gatherItems_23 (fun H locs hP hD hS => ?_)
        refine lv_iconst (v := nI 1) hx hb dX1_gatherItems_26 (by decide) ?_
        refine lv_istore_n (lv' := [(1, .int (nI 1)), (0, .ref (g.2.2.2 17))]) hx hb dX1_gatherItems_27 rfl hl (by decide) rfl (fun ls hl => ?_)
        have lp28 : ∀ (fu : Nat), ∀ (i : Nat) (f : Nat → Nat) (v : Nat), (1 ≤ i) → (i ≤ σ.1 1) → (∀ k, k < 15 → f k = (gi (σ.2.1 12) i).1 k) → (v = (gi (σ.2.1 12) i).2) → σ.1 1 - i < fu → ∀ (H : Heap) (locs : List Loc), va_P (g.1, g.2.1) vwCl (wC g (sA (sF σ 3 v) 13 f) ++ tl) H → va_D A (wC g (sA (sF σ 3 v) 13 f) ++ tl) → va_S A s.heap H locs → ∀ ls : Array Slot, lv_has ls 4 [(0, .ref (g.2.2.2 17)), (1, .int (nI i))] → W p l e r_c_X1_gatherItems s m ([.ref (g.2.2.2 17)] : List Value).toArray below meth c H locs 0 0 Q (F0 m 28 ls []) := by
          intro fu
          induction fu with
          | zero => intro i f v h0 h1 h2 h3 hf; exact absurd hf (Nat.not_lt_zero _)
          | succ fu ih28 =>
            intro i f v h0 h1 h2 h3 hf H locs hP hD hS ls hl
            refine lv_iload_n hx hb dX1_gatherItems_28 rfl (lv_at hl 1 rfl) ?_
            refine lv_aload_n hx hb dX1_gatherItems_29 rfl (lv_at hl 0 rfl) ?_
            refine va_get (D := (g.1, g.2.1)) (ci := 3) (v := .int (nI (σ.1 1))) (C := RX1) (T := TX1) (N := 5) hx hb hts iX1 hown hK.1 hP 17 (gC17 g (sA (sF σ 3 v) 13 f) tl) rfl 1 (by decide) k15 (fun _ h9 => h9) rfl dX1_gatherItems_30 ?_
            refine jn_cge hx hb (by omega) (by omega) (tgt := 141) dX1_gatherItems_33 (by decide) (fun c_33 => ?_) (fun c_33 => ?_)
            · have e1 : i = σ.1 1 := by omega
              exact hq _ _ _ _ (f, v) dX1_gatherItems_141 ⟨by rw [← e1]; exact h2, by rw [← e1]; exact h3⟩ hP hD hS
            · refine lv_iload_n hx hb dX1_gatherItems_36 rfl (lv_at hl 1 rfl) ?_
              refine lv_bipush (v := nI 40) hx hb dX1_gatherItems_37 (by decide) ?_
              refine jn_cge hx hb (by omega) (by decide) (tgt := 141) dX1_gatherItems_39 (by decide) (fun c_39 => ?_) (fun c_39 => ?_)
              · have e1 : i = σ.1 1 := by omega
                exact hq _ _ _ _ (f, v) dX1_gatherItems_141 ⟨by rw [← e1]; exact h2, by rw [← e1]; exact h3⟩ hP hD hS
              · have hb7 : ∀ k, k ≤ i → (σ.2.1 12) k < 127 := fun k hk => (hX.2 k (by omega)).2
                have hb8 := hb7 i (by omega)
                have hb9 := hb7 (i - 1) (by omega)
                have hb10 := hb7 (i - 2) (by omega)
                refine lv_aload_n hx hb dX1_gatherItems_42 rfl (lv_at hl 0 rfl) ?_
                refine va_get (D := (g.1, g.2.1)) (ci := 3) (v := .ref (g.2.2.2 18)) (C := RX1) (T := TX1) (N := 5) hx hb hts iX1 hown hK.1 hP 17 (gC17 g (sA (sF σ 3 v) 13 f) tl) rfl 0 (by decide) k11 (fun _ h9 => h9) rfl dX1_gatherItems_43 ?_
                refine lv_iload_n hx hb dX1_gatherItems_46 rfl (lv_at hl 1 rfl) ?_
                refine jn_iald (f := σ.2.1 12) hx hb hK.1 hP 18 0 (gC18 g (sA (sF σ 3 v) 13 f) tl) rfl (by omega) (Nat.le_of_ble_eq_true rfl) dX1_gatherItems_47 ?_
                refine lv_bipush (v := nI 48) hx hb dX1_gatherItems_48 (by decide) ?_
                refine jn_isubB hx hb (by decide) dX1_gatherItems_50 ?_
                refine lv_istore_n (lv' := [(2, .int (nI (sb ((σ.2.1 12) i) 48))), (0, .ref (g.2.2.2 17)), (1, .int (nI i))]) hx hb dX1_gatherItems_51 rfl hl (by decide) rfl (fun ls hl => ?_)
                refine lv_aload_n hx hb dX1_gatherItems_52 rfl (lv_at hl 1 rfl) ?_
                refine va_get (D := (g.1, g.2.1)) (ci := 3) (v := .ref (g.2.2.2 18)) (C := RX1) (T := TX1) (N := 5) hx hb hts iX1 hown hK.1 hP 17 (gC17 g (sA (sF σ 3 v) 13 f) tl) rfl 0 (by decide) k11 (fun _ h9 => h9) rfl dX1_gatherItems_53 ?_
                refine lv_iload_n hx hb dX1_gatherItems_56 rfl (lv_at hl 2 rfl) ?_
                refine lv_iconst (v := nI 1) hx hb dX1_gatherItems_57 (by decide) ?_
                refine jn_isub hx hb (by omega) dX1_gatherItems_58 ?_
                refine jn_iald (f := σ.2.1 12) hx hb hK.1 hP 18 0 (gC18 g (sA (sF σ 3 v) 13 f) tl) rfl (by omega) (Nat.le_of_ble_eq_true rfl) dX1_gatherItems_59 ?_
                refine lv_bipush (v := nI 97) hx hb dX1_gatherItems_60 (by decide) ?_
                refine jn_isubB hx hb (by decide) dX1_gatherItems_62 ?_
                refine lv_istore_n (lv' := [(3, .int (nI (sb ((σ.2.1 12) (i - 1)) 97))), (2, .int (nI (sb ((σ.2.1 12) i) 48))), (0, .ref (g.2.2.2 17)), (1, .int (nI i))]) hx hb dX1_gatherItems_63 rfl hl (by decide) rfl (fun ls hl => ?_)
                refine lv_iload_n hx hb dX1_gatherItems_64 rfl (lv_at hl 1 rfl) ?_
                refine vp_callSi (va_Run.run (va_runSN (As := [.int (nI (sb ((σ.2.1 12) i) 48))]) (rest := []) ⟨hx, hb, hml, hown, hts⟩ (c_X10_isState l (sb ((σ.2.1 12) i) 48) (sb_lt (by omega))) ⟨(va_cnB 1 hts gX1_gatherItems_X10_isState_n43 rfl rfl rfl (hK.2 _ (List.mem_of_getElem? (i := 19) rfl)) (hts (.initialized RX10) (by decide +kernel)) (by decide +kernel) ⟨Nat.le_of_ble_eq_true rfl, Nat.le_of_ble_eq_true rfl⟩), hts (.static yX10_isState) (by decide +kernel), trivial⟩ okTS rfl rfl hl.1 rfl (lv_room (Nat.le_of_ble_eq_true rfl)) dX1_gatherItems_65 ⟨Nat.le_of_ble_eq_true rfl, Nat.le_of_ble_eq_true rfl⟩)) (fun r_65 h_65 => ?_)
                subst h_65
                refine jn_beq hx hb (tgt := 99) dX1_gatherItems_68 (by decide) (fun c_68 => ?_) (fun c_68 => ?_)
                · refine lv_iload_n hx hb dX1_gatherItems_99 rfl (lv_at hl 1 rfl) ?_
                  refine vp_callSi (va_Run.run (va_runSN (As := [.int (nI (sb ((σ.2.1 12) i) 48))]) (rest := []) ⟨hx, hb, hml, hown, hts⟩ (c_X10_isState l (sb ((σ.2.1 12) i) 48) (sb_lt (by omega))) ⟨(va_cnB 1 hts gX1_gatherItems_X10_isState_n43 rfl rfl rfl (hK.2 _ (List.mem_of_getElem? (i := 19) rfl)) (hts (.initialized RX10) (by decide +kernel)) (by decide +kernel) ⟨Nat.le_of_ble_eq_true rfl, Nat.le_of_ble_eq_true rfl⟩), hts (.static yX10_isState) (by decide +kernel), trivial⟩ okTS rfl rfl hl.1 rfl (lv_room (Nat.le_of_ble_eq_true rfl)) dX1_gatherItems_100 ⟨Nat.le_of_ble_eq_true rfl, Nat.le_of_ble_eq_true rfl⟩)) (fun r_100 h_100 => ?_)
                  subst h_100
                  refine jn_beq hx hb (tgt := 135) dX1_gatherItems_103 (by decide) (fun c_103 => ?_) (fun c_103 => ?_)
                  · refine lv_iinc (v := nI (i + 1)) (lv' := [(1, .int (nI (i + 1))), (3, .int (nI (sb ((σ.2.1 12) (i - 1)) 97))), (2, .int (nI (sb ((σ.2.1 12) i) 48))), (0, .ref (g.2.2.2 17))]) hx hb dX1_gatherItems_135 hl (k := 3) rfl (jn_ii _ 1) (by decide) rfl (fun ls hl => ?_)
                    refine lv_goto (tgt := 28) hx hb dX1_gatherItems_138 (by decide) ?_
                    exact ih28 (i + 1) f v (by omega) (by omega) (by first | exact giA1 (by omega) hb7 c_68 c_81 h2 | exact giB1 hb7 c_103 (by omega) c_110 c_115 h_132 h2 | (rw [giC hb7 (by omega) (by omega)]; exact h2)) (by first | exact giA2 (by omega) hb7 c_68 c_81 h3 | exact giB2 hb7 c_103 (by omega) c_110 c_115 h3 | (rw [giC hb7 (by omega) (by omega)]; exact h3)) (by omega) _ _ hP hD hS _ (lv_sub hl [3, 0] rfl)
                  · refine lv_iload_n hx hb dX1_gatherItems_106 rfl (lv_at hl 0 rfl) ?_
                    refine vp_callSi (va_Run.run (va_runSN (As := [.int (nI (sb ((σ.2.1 12) (i - 1)) 97))]) (rest := []) ⟨hx, hb, hml, hown, hts⟩ (c_X10_isLetter l (sb ((σ.2.1 12) (i - 1)) 97) (sb_lt (by omega))) ⟨(va_cnB 1 hts gX1_gatherItems_X10_isLetter_n47 rfl rfl rfl (hK.2 _ (List.mem_of_getElem? (i := 20) rfl)) (hts (.initialized RX10) (by decide +kernel)) (by decide +kernel) ⟨Nat.le_of_ble_eq_true rfl, Nat.le_of_ble_eq_true rfl⟩), hts (.static yX10_isLetter) (by decide +kernel), trivial⟩ okTS rfl rfl hl.1 rfl (lv_room (Nat.le_of_ble_eq_true rfl)) dX1_gatherItems_107 ⟨Nat.le_of_ble_eq_true rfl, Nat.le_of_ble_eq_true rfl⟩)) (fun r_107 h_107 => ?_)
                    subst h_107
                    refine jn_beq hx hb (tgt := 135) dX1_gatherItems_110 (by decide) (fun c_110 => ?_) (fun c_110 => ?_)
                    · refine lv_iinc (v := nI (i + 1)) (lv' := [(1, .int (nI (i + 1))), (3, .int (nI (sb ((σ.2.1 12) (i - 1)) 97))), (2, .int (nI (sb ((σ.2.1 12) i) 48))), (0, .ref (g.2.2.2 17))]) hx hb dX1_gatherItems_135 hl (k := 3) rfl (jn_ii _ 1) (by decide) rfl (fun ls hl => ?_)
                      refine lv_goto (tgt := 28) hx hb dX1_gatherItems_138 (by decide) ?_
                      exact ih28 (i + 1) f v (by omega) (by omega) (by first | exact giA1 (by omega) hb7 c_68 c_81 h2 | exact giB1 hb7 c_103 (by omega) c_110 c_115 h_132 h2 | (rw [giC hb7 (by omega) (by omega)]; exact h2)) (by first | exact giA2 (by omega) hb7 c_68 c_81 h3 | exact giB2 hb7 c_103 (by omega) c_110 c_115 h3 | (rw [giC hb7 (by omega) (by omega)]; exact h3)) (by omega) _ _ hP hD hS _ (lv_sub hl [3, 0] rfl)
                    · refine lv_iload_n hx hb dX1_gatherItems_113 rfl (lv_at hl 3 rfl) ?_
                      refine lv_iconst (v := nI 2) hx hb dX1_gatherItems_114 (by decide) ?_
                      refine jn_clt hx hb (by omega) (by decide) (tgt := 135) dX1_gatherItems_115 (by decide) (fun c_115 => ?_) (fun c_115 => ?_)
                      · refine lv_iinc (v := nI (i + 1)) (lv' := [(1, .int (nI (i + 1))), (3, .int (nI (sb ((σ.2.1 12) (i - 1)) 97))), (2, .int (nI (sb ((σ.2.1 12) i) 48))), (0, .ref (g.2.2.2 17))]) hx hb dX1_gatherItems_135 hl (k := 3) rfl (jn_ii _ 1) (by decide) rfl (fun ls hl => ?_)
                        refine lv_goto (tgt := 28) hx hb dX1_gatherItems_138 (by decide) ?_
                        exact ih28 (i + 1) f v (by omega) (by omega) (by first | exact giA1 (by omega) hb7 c_68 c_81 h2 | exact giB1 hb7 c_103 (by omega) c_110 c_115 h_132 h2 | (rw [giC hb7 (by omega) (by omega)]; exact h2)) (by first | exact giA2 (by omega) hb7 c_68 c_81 h3 | exact giB2 hb7 c_103 (by omega) c_110 c_115 h3 | (rw [giC hb7 (by omega) (by omega)]; exact h3)) (by omega) _ _ hP hD hS _ (lv_sub hl [3, 0] rfl)
                      · refine lv_aload_n hx hb dX1_gatherItems_118 rfl (lv_at hl 2 rfl) ?_
                        refine lv_aload_n hx hb dX1_gatherItems_119 rfl (lv_at hl 2 rfl) ?_
                        refine va_get (D := (g.1, g.2.1)) (ci := 3) (v := .ref (g.2.2.2 18)) (C := RX1) (T := TX1) (N := 5) hx hb hts iX1 hown hK.1 hP 17 (gC17 g (sA (sF σ 3 v) 13 f) tl) rfl 0 (by decide) k11 (fun _ h9 => h9) rfl dX1_gatherItems_120 ?_
                        refine lv_iload_n hx hb dX1_gatherItems_123 rfl (lv_at hl 3 rfl) ?_
                        refine lv_iconst (v := nI 2) hx hb dX1_gatherItems_124 (by decide) ?_
                        refine jn_isub hx hb (by omega) dX1_gatherItems_125 ?_
                        refine jn_iald (f := σ.2.1 12) hx hb hK.1 hP 18 0 (gC18 g (sA (sF σ 3 v) 13 f) tl) rfl (by omega) (Nat.le_of_ble_eq_true rfl) dX1_gatherItems_126 ?_
                        refine lv_bipush (v := nI 48) hx hb dX1_gatherItems_127 (by decide) ?_
                        refine jn_isubB hx hb (by decide) dX1_gatherItems_129 ?_
                        refine lv_iload_n hx hb dX1_gatherItems_130 rfl (lv_at hl 0 rfl) ?_
                        refine lv_iload_n hx hb dX1_gatherItems_131 rfl (lv_at hl 1 rfl) ?_
                        refine jn_callv (va_runV (As := [.int (nI (sb ((σ.2.1 12) (i - 2)) 48)), .int (nI (sb ((σ.2.1 12) (i - 1)) 97)), .int (nI (sb ((σ.2.1 12) i) 48))]) (rest := []) ⟨hx, hb, hml, hown, hts⟩ (c_X1_wantTransition l g tl H.size (sA (sF σ 3 v) 13 f) (sb ((σ.2.1 12) (i - 2)) 48) (sb ((σ.2.1 12) (i - 1)) 97) (sb ((σ.2.1 12) i) 48) (sb_lt (by omega)) c_110 c_103) (cwV 3 hts gX1_gatherItems_X1_wantTransition rfl rfl rfl (by decide +kernel) ⟨Nat.le_of_ble_eq_true rfl, Nat.le_of_ble_eq_true rfl⟩) (okWV hK hP hD rfl (gC17 g (sA (sF σ 3 v) 13 f) tl)) rfl rfl hl.1 rfl (lv_room (Nat.le_of_ble_eq_true rfl)) dX1_gatherItems_132 ⟨Nat.le_of_ble_eq_true rfl, Nat.le_of_ble_eq_true rfl⟩) hD hS hAA (fun u H locs hw_ hP hD hS => ?_)
                        obtain ⟨f_132, rfl⟩ : ∃ z, z = u := ⟨_, rfl⟩
                        have h_132 := hw_
                        have h_132 : f_132 = if (sb ((σ.2.1 12) (i - 2)) 48) < 5 then va_up (f) ((sb ((σ.2.1 12) (i - 2)) 48) * 3 + (sb ((σ.2.1 12) (i - 1)) 97)) ((f) ((sb ((σ.2.1 12) (i - 2)) 48) * 3 + (sb ((σ.2.1 12) (i - 1)) 97)) ||| 2 ^ (sb ((σ.2.1 12) i) 48)) else f := h_132
                        have hP : va_P (g.1, g.2.1) vwCl (wC g (sA (sA (sF σ 3 v) 13 f) 13 f_132) ++ tl) H := hP
                        have hD : va_D A (wC g (sA (sA (sF σ 3 v) 13 f) 13 f_132) ++ tl) := hD
                        refine lv_iinc (v := nI (i + 1)) (lv' := [(1, .int (nI (i + 1))), (3, .int (nI (sb ((σ.2.1 12) (i - 1)) 97))), (2, .int (nI (sb ((σ.2.1 12) i) 48))), (0, .ref (g.2.2.2 17))]) hx hb dX1_gatherItems_135 hl (k := 3) rfl (jn_ii _ 1) (by decide) rfl (fun ls hl => ?_)
                        refine lv_goto (tgt := 28) hx hb dX1_gatherItems_138 (by decide) ?_
                        exact ih28 (i + 1) f_132 v (by omega) (by omega) (by first | exact giA1 (by omega) hb7 c_68 c_81 h2 | exact giB1 hb7 c_103 (by omega) c_110 c_115 h_132 h2 | (rw [giC hb7 (by omega) (by omega)]; exact h2)) (by first | exact giA2 (by omega) hb7 c_68 c_81 h3 | exact giB2 hb7 c_103 (by omega) c_110 c_115 h3 | (rw [giC hb7 (by omega) (by omega)]; exact h3)) (by omega) _ _ hP hD hS _ (lv_sub hl [3, 0] rfl)
                · refine lv_aload_n hx hb dX1_gatherItems_71 rfl (lv_at hl 2 rfl) ?_
                  refine va_get (D := (g.1, g.2.1)) (ci := 3) (v := .ref (g.2.2.2 18)) (C := RX1) (T := TX1) (N := 5) hx hb hts iX1 hown hK.1 hP 17 (gC17 g (sA (sF σ 3 v) 13 f) tl) rfl 0 (by decide) k11 (fun _ h9 => h9) rfl dX1_gatherItems_72 ?_
                  refine lv_iload_n hx hb dX1_gatherItems_75 rfl (lv_at hl 3 rfl) ?_
                  refine lv_iconst (v := nI 1) hx hb dX1_gatherItems_76 (by decide) ?_
                  refine jn_isub hx hb (by omega) dX1_gatherItems_77 ?_
                  refine jn_iald (f := σ.2.1 12) hx hb hK.1 hP 18 0 (gC18 g (sA (sF σ 3 v) 13 f) tl) rfl (by omega) (Nat.le_of_ble_eq_true rfl) dX1_gatherItems_78 ?_
                  refine lv_bipush (v := nI 33) hx hb dX1_gatherItems_79 (by decide) ?_
                  refine jn_cne hx hb (by omega) (by decide) (tgt := 99) dX1_gatherItems_81 (by decide) (fun c_81 => ?_) (fun c_81 => ?_)
                  · refine lv_iload_n hx hb dX1_gatherItems_99 rfl (lv_at hl 1 rfl) ?_
                    refine vp_callSi (va_Run.run (va_runSN (As := [.int (nI (sb ((σ.2.1 12) i) 48))]) (rest := []) ⟨hx, hb, hml, hown, hts⟩ (c_X10_isState l (sb ((σ.2.1 12) i) 48) (sb_lt (by omega))) ⟨(va_cnB 1 hts gX1_gatherItems_X10_isState_n43 rfl rfl rfl (hK.2 _ (List.mem_of_getElem? (i := 19) rfl)) (hts (.initialized RX10) (by decide +kernel)) (by decide +kernel) ⟨Nat.le_of_ble_eq_true rfl, Nat.le_of_ble_eq_true rfl⟩), hts (.static yX10_isState) (by decide +kernel), trivial⟩ okTS rfl rfl hl.1 rfl (lv_room (Nat.le_of_ble_eq_true rfl)) dX1_gatherItems_100 ⟨Nat.le_of_ble_eq_true rfl, Nat.le_of_ble_eq_true rfl⟩)) (fun r_100 h_100 => ?_)
                    subst h_100
                    refine jn_beq hx hb (tgt := 135) dX1_gatherItems_103 (by decide) (fun c_103 => ?_) (fun c_103 => ?_)
                    · refine lv_iinc (v := nI (i + 1)) (lv' := [(1, .int (nI (i + 1))), (3, .int (nI (sb ((σ.2.1 12) (i - 1)) 97))), (2, .int (nI (sb ((σ.2.1 12) i) 48))), (0, .ref (g.2.2.2 17))]) hx hb dX1_gatherItems_135 hl (k := 3) rfl (jn_ii _ 1) (by decide) rfl (fun ls hl => ?_)
                      refine lv_goto (tgt := 28) hx hb dX1_gatherItems_138 (by decide) ?_
                      exact ih28 (i + 1) f v (by omega) (by omega) (by first | exact giA1 (by omega) hb7 c_68 c_81 h2 | exact giB1 hb7 c_103 (by omega) c_110 c_115 h_132 h2 | (rw [giC hb7 (by omega) (by omega)]; exact h2)) (by first | exact giA2 (by omega) hb7 c_68 c_81 h3 | exact giB2 hb7 c_103 (by omega) c_110 c_115 h3 | (rw [giC hb7 (by omega) (by omega)]; exact h3)) (by omega) _ _ hP hD hS _ (lv_sub hl [3, 0] rfl)
                    · refine lv_iload_n hx hb dX1_gatherItems_106 rfl (lv_at hl 0 rfl) ?_
                      refine vp_callSi (va_Run.run (va_runSN (As := [.int (nI (sb ((σ.2.1 12) (i - 1)) 97))]) (rest := []) ⟨hx, hb, hml, hown, hts⟩ (c_X10_isLetter l (sb ((σ.2.1 12) (i - 1)) 97) (sb_lt (by omega))) ⟨(va_cnB 1 hts gX1_gatherItems_X10_isLetter_n47 rfl rfl rfl (hK.2 _ (List.mem_of_getElem? (i := 20) rfl)) (hts (.initialized RX10) (by decide +kernel)) (by decide +kernel) ⟨Nat.le_of_ble_eq_true rfl, Nat.le_of_ble_eq_true rfl⟩), hts (.static yX10_isLetter) (by decide +kernel), trivial⟩ okTS rfl rfl hl.1 rfl (lv_room (Nat.le_of_ble_eq_true rfl)) dX1_gatherItems_107 ⟨Nat.le_of_ble_eq_true rfl, Nat.le_of_ble_eq_true rfl⟩)) (fun r_107 h_107 => ?_)
                      subst h_107
                      refine jn_beq hx hb (tgt := 135) dX1_gatherItems_110 (by decide) (fun c_110 => ?_) (fun c_110 => ?_)
                      · refine lv_iinc (v := nI (i + 1)) (lv' := [(1, .int (nI (i + 1))), (3, .int (nI (sb ((σ.2.1 12) (i - 1)) 97))), (2, .int (nI (sb ((σ.2.1 12) i) 48))), (0, .ref (g.2.2.2 17))]) hx hb dX1_gatherItems_135 hl (k := 3) rfl (jn_ii _ 1) (by decide) rfl (fun ls hl => ?_)
                        refine lv_goto (tgt := 28) hx hb dX1_gatherItems_138 (by decide) ?_
                        exact ih28 (i + 1) f v (by omega) (by omega) (by first | exact giA1 (by omega) hb7 c_68 c_81 h2 | exact giB1 hb7 c_103 (by omega) c_110 c_115 h_132 h2 | (rw [giC hb7 (by omega) (by omega)]; exact h2)) (by first | exact giA2 (by omega) hb7 c_68 c_81 h3 | exact giB2 hb7 c_103 (by omega) c_110 c_115 h3 | (rw [giC hb7 (by omega) (by omega)]; exact h3)) (by omega) _ _ hP hD hS _ (lv_sub hl [3, 0] rfl)
                      · refine lv_iload_n hx hb dX1_gatherItems_113 rfl (lv_at hl 3 rfl) ?_
                        refine lv_iconst (v := nI 2) hx hb dX1_gatherItems_114 (by decide) ?_
                        refine jn_clt hx hb (by omega) (by decide) (tgt := 135) dX1_gatherItems_115 (by decide) (fun c_115 => ?_) (fun c_115 => ?_)
                        · refine lv_iinc (v := nI (i + 1)) (lv' := [(1, .int (nI (i + 1))), (3, .int (nI (sb ((σ.2.1 12) (i - 1)) 97))), (2, .int (nI (sb ((σ.2.1 12) i) 48))), (0, .ref (g.2.2.2 17))]) hx hb dX1_gatherItems_135 hl (k := 3) rfl (jn_ii _ 1) (by decide) rfl (fun ls hl => ?_)
                          refine lv_goto (tgt := 28) hx hb dX1_gatherItems_138 (by decide) ?_
                          exact ih28 (i + 1) f v (by omega) (by omega) (by first | exact giA1 (by omega) hb7 c_68 c_81 h2 | exact giB1 hb7 c_103 (by omega) c_110 c_115 h_132 h2 | (rw [giC hb7 (by omega) (by omega)]; exact h2)) (by first | exact giA2 (by omega) hb7 c_68 c_81 h3 | exact giB2 hb7 c_103 (by omega) c_110 c_115 h3 | (rw [giC hb7 (by omega) (by omega)]; exact h3)) (by omega) _ _ hP hD hS _ (lv_sub hl [3, 0] rfl)
                        · refine lv_aload_n hx hb dX1_gatherItems_118 rfl (lv_at hl 2 rfl) ?_
                          refine lv_aload_n hx hb dX1_gatherItems_119 rfl (lv_at hl 2 rfl) ?_
                          refine va_get (D := (g.1, g.2.1)) (ci := 3) (v := .ref (g.2.2.2 18)) (C := RX1) (T := TX1) (N := 5) hx hb hts iX1 hown hK.1 hP 17 (gC17 g (sA (sF σ 3 v) 13 f) tl) rfl 0 (by decide) k11 (fun _ h9 => h9) rfl dX1_gatherItems_120 ?_
                          refine lv_iload_n hx hb dX1_gatherItems_123 rfl (lv_at hl 3 rfl) ?_
                          refine lv_iconst (v := nI 2) hx hb dX1_gatherItems_124 (by decide) ?_
                          refine jn_isub hx hb (by omega) dX1_gatherItems_125 ?_
                          refine jn_iald (f := σ.2.1 12) hx hb hK.1 hP 18 0 (gC18 g (sA (sF σ 3 v) 13 f) tl) rfl (by omega) (Nat.le_of_ble_eq_true rfl) dX1_gatherItems_126 ?_
                          refine lv_bipush (v := nI 48) hx hb dX1_gatherItems_127 (by decide) ?_
                          refine jn_isubB hx hb (by decide) dX1_gatherItems_129 ?_
                          refine lv_iload_n hx hb dX1_gatherItems_130 rfl (lv_at hl 0 rfl) ?_
                          refine lv_iload_n hx hb dX1_gatherItems_131 rfl (lv_at hl 1 rfl) ?_
                          refine jn_callv (va_runV (As := [.int (nI (sb ((σ.2.1 12) (i - 2)) 48)), .int (nI (sb ((σ.2.1 12) (i - 1)) 97)), .int (nI (sb ((σ.2.1 12) i) 48))]) (rest := []) ⟨hx, hb, hml, hown, hts⟩ (c_X1_wantTransition l g tl H.size (sA (sF σ 3 v) 13 f) (sb ((σ.2.1 12) (i - 2)) 48) (sb ((σ.2.1 12) (i - 1)) 97) (sb ((σ.2.1 12) i) 48) (sb_lt (by omega)) c_110 c_103) (cwV 3 hts gX1_gatherItems_X1_wantTransition rfl rfl rfl (by decide +kernel) ⟨Nat.le_of_ble_eq_true rfl, Nat.le_of_ble_eq_true rfl⟩) (okWV hK hP hD rfl (gC17 g (sA (sF σ 3 v) 13 f) tl)) rfl rfl hl.1 rfl (lv_room (Nat.le_of_ble_eq_true rfl)) dX1_gatherItems_132 ⟨Nat.le_of_ble_eq_true rfl, Nat.le_of_ble_eq_true rfl⟩) hD hS hAA (fun u H locs hw_ hP hD hS => ?_)
                          obtain ⟨f_132, rfl⟩ : ∃ z, z = u := ⟨_, rfl⟩
                          have h_132 := hw_
                          have h_132 : f_132 = if (sb ((σ.2.1 12) (i - 2)) 48) < 5 then va_up (f) ((sb ((σ.2.1 12) (i - 2)) 48) * 3 + (sb ((σ.2.1 12) (i - 1)) 97)) ((f) ((sb ((σ.2.1 12) (i - 2)) 48) * 3 + (sb ((σ.2.1 12) (i - 1)) 97)) ||| 2 ^ (sb ((σ.2.1 12) i) 48)) else f := h_132
                          have hP : va_P (g.1, g.2.1) vwCl (wC g (sA (sA (sF σ 3 v) 13 f) 13 f_132) ++ tl) H := hP
                          have hD : va_D A (wC g (sA (sA (sF σ 3 v) 13 f) 13 f_132) ++ tl) := hD
                          refine lv_iinc (v := nI (i + 1)) (lv' := [(1, .int (nI (i + 1))), (3, .int (nI (sb ((σ.2.1 12) (i - 1)) 97))), (2, .int (nI (sb ((σ.2.1 12) i) 48))), (0, .ref (g.2.2.2 17))]) hx hb dX1_gatherItems_135 hl (k := 3) rfl (jn_ii _ 1) (by decide) rfl (fun ls hl => ?_)
                          refine lv_goto (tgt := 28) hx hb dX1_gatherItems_138 (by decide) ?_
                          exact ih28 (i + 1) f_132 v (by omega) (by omega) (by first | exact giA1 (by omega) hb7 c_68 c_81 h2 | exact giB1 hb7 c_103 (by omega) c_110 c_115 h_132 h2 | (rw [giC hb7 (by omega) (by omega)]; exact h2)) (by first | exact giA2 (by omega) hb7 c_68 c_81 h3 | exact giB2 hb7 c_103 (by omega) c_110 c_115 h3 | (rw [giC hb7 (by omega) (by omega)]; exact h3)) (by omega) _ _ hP hD hS _ (lv_sub hl [3, 0] rfl)
                  · refine lv_aload_n hx hb dX1_gatherItems_84 rfl (lv_at hl 2 rfl) ?_
                    refine lv_dup hx hb dX1_gatherItems_85 rfl ?_
                    refine va_get (D := (g.1, g.2.1)) (ci := 3) (v := .int (nI v)) (C := RX1) (T := TX1) (N := 5) hx hb hts iX1 hown hK.1 hP 17 (gC17 g (sA (sF σ 3 v) 13 f) tl) rfl 4 (by decide) k25 (fun _ h9 => h9) rfl dX1_gatherItems_86 ?_
                    refine lv_iconst (v := nI 1) hx hb dX1_gatherItems_89 (by decide) ?_
                    refine lv_iload_n hx hb dX1_gatherItems_90 rfl (lv_at hl 1 rfl) ?_
                    refine jn_shl1 hx hb (by omega) dX1_gatherItems_91 ?_
                    refine jn_ior hx hb dX1_gatherItems_92 ?_
                    refine jn_put (D := (g.1, g.2.1)) (ci := 3) (v := .int (nI (v ||| (2 ^ (sb ((σ.2.1 12) i) 48))))) (ty := .int) (C := RX1) (T := TX1) (N := 5) hx hb hts iX1 tyX1 tyX1_ok nmX1 hown hK.1 hP hD hS 17 (gC17 g (sA (sF σ 3 v) 13 f) tl) rfl 4 (by decide) k25 (fun _ h9 => h9) rfl (by decide +kernel) rfl rfl (Nat.le_of_ble_eq_true rfl) (uC_F3 g (sA (sF σ 3 v) 13 f) tl (v ||| (2 ^ (sb ((σ.2.1 12) i) 48)))) dX1_gatherItems_93 (fun H locs hP hD hS => ?_)
                    refine lv_goto (tgt := 135) hx hb dX1_gatherItems_96 (by decide) ?_
                    refine lv_iinc (v := nI (i + 1)) (lv' := [(1, .int (nI (i + 1))), (3, .int (nI (sb ((σ.2.1 12) (i - 1)) 97))), (2, .int (nI (sb ((σ.2.1 12) i) 48))), (0, .ref (g.2.2.2 17))]) hx hb dX1_gatherItems_135 hl (k := 3) rfl (jn_ii _ 1) (by decide) rfl (fun ls hl => ?_)
                    refine lv_goto (tgt := 28) hx hb dX1_gatherItems_138 (by decide) ?_
                    exact ih28 (i + 1) f (v ||| (2 ^ (sb ((σ.2.1 12) i) 48))) (by omega) (by omega) (by first | exact giA1 (by omega) hb7 c_68 c_81 h2 | exact giB1 hb7 c_103 (by omega) c_110 c_115 h_132 h2 | (rw [giC hb7 (by omega) (by omega)]; exact h2)) (by first | exact giA2 (by omega) hb7 c_68 c_81 h3 | exact giB2 hb7 c_103 (by omega) c_110 c_115 h3 | (rw [giC hb7 (by omega) (by omega)]; exact h3)) (by omega) _ _ hP hD hS _ (lv_sub hl [3, 0] rfl)
        exact lp28 _ 1 f 0 (by decide) hs (by rw [gi_1]; exact fun k hk => h2 k (by omega)) (by rw [gi_1]) (Nat.lt_succ_self _) _ _ hP hD hS _ (lv_sub hl [1, 0] rfl)
      · refine lv_aload_n hx hb dX1_gatherItems_8 rfl (lv_at hl 0 rfl) ?_
        refine va_get (D := (g.1, g.2.1)) (ci := 3) (v := .ref (g.2.2.2 19)) (C := RX1) (T := TX1) (N := 5) hx hb hts iX1 hown hK.1 hP 17 (gC17 g (sA σ 13 f) tl) rfl 3 (by decide) k22 (fun _ h9 => h9) rfl dX1_gatherItems_9 ?_
        refine lv_iload_n hx hb dX1_gatherItems_12 rfl (lv_at hl 1 rfl) ?_
        refine lv_iconst (v := nI 0) hx hb dX1_gatherItems_13 (by decide) ?_
        refine jn_iast (f := f) hx hb hK.1 hP hD hS 19 0 (gC19 g (sA σ 13 f) tl) rfl (by omega) (Nat.le_of_ble_eq_true rfl) (uC_A13 g (sA σ 13 f) tl _) dX1_gatherItems_14 (fun H locs hP hD hS => ?_)
        refine lv_iinc (v := nI (i + 1)) (lv' := [(1, .int (nI (i + 1))), (0, .ref (g.2.2.2 17))]) hx hb dX1_gatherItems_15 hl (k := 1) rfl (jn_ii _ 1) (by decide) rfl (fun ls hl => ?_)
        refine lv_goto (tgt := 2) hx hb dX1_gatherItems_18 (by decide) ?_
        exact ih2 (i + 1) (va_up f i 0) (by omega) (fun k hk => by unfold va_up; split <;> first | rfl | exact h2 k (by omega)) (by omega) _ _ hP hD hS _ (lv_sub hl [1, 0] rfl)
  exact lp2 _ 0 (σ.2.1 13) (by decide) (fun k hk => absurd hk (by omega)) (Nat.lt_succ_self _) _ _ hP hD hS _ (lv_sub hl [1, 0] rfl)

abbrev r_c_X1_read : Room := { frames := 4, cells := 0, slots := 0, locals := 88 }
set_option maxHeartbeats 4000000 in
set_option maxRecDepth 100000 in
theorem c_X1_read (l : Launch) (g : GC) (tl : va_W) (sz : Nat) (σ : SS) (hX : OkX σ) : Met l yX1_read wsX1_read r_c_X1_read (va_Pc [.ref (g.2.2.2 17)] (PW g (wC g σ ++ tl) sz)) (va_Qv (fun (z : (Nat → Nat) × Nat) => match z with | (f, v) => fltC (σ.2.1 12) (σ.1 1) = 4294967295 → (∀ k, k < 15 → f k = (gi (σ.2.1 12) (σ.1 1)).1 k) ∧ v = (gi (σ.2.1 12) (σ.1 1)).2) (fun (z : (Nat → Nat) × Nat) t => BW g (va_A (wC g σ ++ tl) sz) ((fun z : (Nat → Nat) × Nat => match z with | (f, v) => wC g (sA (sF (sF (sF σ 1 0) 2 (fltC (σ.2.1 12) (σ.1 1))) 3 v) 13 f) ++ tl) z) t) (va_A (wC g σ ++ tl) sz)) 0 0 (va_A (wC g σ ++ tl) sz) := by
  refine jn_sv (wf := fun z : (Nat → Nat) × Nat => match z with | (f, v) => wC g (sA (sF (sF (sF σ 1 0) 2 (fltC (σ.2.1 12) (σ.1 1))) 3 v) 13 f) ++ tl) (cc := cX1_read) (maxL := 1) (own := RX1) (by decide) rfl rfl (Nat.le_of_ble_eq_true rfl) ?_
  intro p e s m below meth c Q A hx hb hml hown hts hK hP hD hS hAA hq ls hl
  obtain ⟨H, eH⟩ : ∃ z, z = s.heap := ⟨_, rfl⟩
  obtain ⟨locs, el⟩ : ∃ z : List Loc, z = [] := ⟨_, rfl⟩
  rw [← eH] at hP
  have hS : va_S A s.heap H locs := by rw [eH, el]; exact hS
  have goal0 : W p l e r_c_X1_read s m ([.ref (g.2.2.2 17)] : List Value).toArray below meth c H locs 0 0 Q (F0 m 0 ls []) → W p l e r_c_X1_read s m ([.ref (g.2.2.2 17)] : List Value).toArray below meth c s.heap [] 0 0 Q (F0 m 0 ls []) := fun h => by rw [eH, el] at h; exact h
  refine goal0 ?_
  have hl : lv_has ls 1 [(0, .ref (g.2.2.2 17))] := hl
  have iX1 : ∀ w ∈ wsX10, w ∈ wsX1_read := by decide +kernel
  have k19 := hts (.fieldLink RX1 19 "JumpingAutomata$AutomatonText" "fault" "I") (by decide +kernel)
  have k15 := hts (.fieldLink RX1 15 "JumpingAutomata$AutomatonText" "size" "I") (by decide +kernel)
  have hX1 := hX.1
  have hfl := fltC_cases (σ.2.1 12) (σ.1 1)
  refine lv_aload_n hx hb dX1_read_0 rfl (lv_at hl 0 rfl) ?_
  refine lv_aload_n hx hb dX1_read_1 rfl (lv_at hl 0 rfl) ?_
  refine vp_callSi (va_Run.run (va_runV (As := []) (rest := [.ref (g.2.2.2 17)]) ⟨hx, hb, hml, hown, hts⟩ (c_X1_findFault l g tl σ hX) (cwV 0 hts gX1_read_X1_findFault rfl rfl rfl (by decide +kernel) ⟨Nat.le_of_ble_eq_true rfl, Nat.le_of_ble_eq_true rfl⟩) (okPV hK hP rfl (gC17 g σ tl)) rfl rfl hl.1 rfl (lv_room (Nat.le_of_ble_eq_true rfl)) dX1_read_2 ⟨Nat.le_of_ble_eq_true rfl, Nat.le_of_ble_eq_true rfl⟩)) (fun r_2 h_2 => ?_)
  subst h_2
  refine jn_put (D := (g.1, g.2.1)) (ci := 3) (v := .int (nI (fltC (σ.2.1 12) (σ.1 1)))) (ty := .int) (C := RX1) (T := TX1) (N := 5) hx hb hts iX1 tyX1 tyX1_ok nmX1 hown hK.1 hP hD hS 17 (gC17 g σ tl) rfl 2 (by decide) k19 (fun _ h9 => h9) rfl (by decide +kernel) rfl rfl (Nat.le_of_ble_eq_true rfl) (uC_F2 g σ tl (fltC (σ.2.1 12) (σ.1 1))) dX1_read_5 (fun H locs hP hD hS => ?_)
  refine lv_aload_n hx hb dX1_read_8 rfl (lv_at hl 0 rfl) ?_
  refine va_get (D := (g.1, g.2.1)) (ci := 3) (v := .int (nI (fltC (σ.2.1 12) (σ.1 1)))) (C := RX1) (T := TX1) (N := 5) hx hb hts iX1 hown hK.1 hP 17 (gC17 g (sF σ 2 (fltC (σ.2.1 12) (σ.1 1))) tl) rfl 2 (by decide) k19 (fun _ h9 => h9) rfl dX1_read_9 ?_
  refine jn_zge hx hb (by omega) (tgt := 19) dX1_read_12 (by decide) (fun c_12 => ?_) (fun c_12 => ?_)
  · refine lv_aload_n hx hb dX1_read_19 rfl (lv_at hl 0 rfl) ?_
    refine lv_iconst (v := nI 0) hx hb dX1_read_20 (by decide) ?_
    refine jn_put (D := (g.1, g.2.1)) (ci := 3) (v := .int (nI 0)) (ty := .int) (C := RX1) (T := TX1) (N := 5) hx hb hts iX1 tyX1 tyX1_ok nmX1 hown hK.1 hP hD hS 17 (gC17 g (sF σ 2 (fltC (σ.2.1 12) (σ.1 1))) tl) rfl 1 (by decide) k15 (fun _ h9 => h9) rfl (by decide +kernel) rfl rfl (Nat.le_of_ble_eq_true rfl) (uC_F1 g (sF σ 2 (fltC (σ.2.1 12) (σ.1 1))) tl 0) dX1_read_21 (fun H locs hP hD hS => ?_)
    exact hq _ _ _ _ ((σ.2.1 13), (σ.1 3)) dX1_read_24 (by first | exact fun _ => h_16 | exact fun q => absurd q (by omega)) hP hD hS
  · refine lv_aload_n hx hb dX1_read_15 rfl (lv_at hl 0 rfl) ?_
    refine jn_callv (va_runV (As := []) (rest := []) ⟨hx, hb, hml, hown, hts⟩ (c_X1_gatherItems l g tl H.size (sF σ 2 (fltC (σ.2.1 12) (σ.1 1))) hX (show 1 ≤ σ.1 1 by omega)) (cwV 0 hts gX1_read_X1_gatherItems rfl rfl rfl (by decide +kernel) ⟨Nat.le_of_ble_eq_true rfl, Nat.le_of_ble_eq_true rfl⟩) (okWV hK hP hD rfl (gC17 g (sF σ 2 (fltC (σ.2.1 12) (σ.1 1))) tl)) rfl rfl hl.1 rfl (lv_room (Nat.le_of_ble_eq_true rfl)) dX1_read_16 ⟨Nat.le_of_ble_eq_true rfl, Nat.le_of_ble_eq_true rfl⟩) hD hS hAA (fun u H locs hw_ hP hD hS => ?_)
    obtain ⟨f_16, v_16⟩ := u
    have h_16 := hw_
    have h_16 : (∀ k, k < 15 → f_16 k = (gi (σ.2.1 12) (σ.1 1)).1 k) ∧ (v_16 = (gi (σ.2.1 12) (σ.1 1)).2) := h_16
    have hP : va_P (g.1, g.2.1) vwCl (wC g (sA (sF (sF σ 2 (fltC (σ.2.1 12) (σ.1 1))) 3 v_16) 13 f_16) ++ tl) H := hP
    have hD : va_D A (wC g (sA (sF (sF σ 2 (fltC (σ.2.1 12) (σ.1 1))) 3 v_16) 13 f_16) ++ tl) := hD
    refine lv_aload_n hx hb dX1_read_19 rfl (lv_at hl 0 rfl) ?_
    refine lv_iconst (v := nI 0) hx hb dX1_read_20 (by decide) ?_
    refine jn_put (D := (g.1, g.2.1)) (ci := 3) (v := .int (nI 0)) (ty := .int) (C := RX1) (T := TX1) (N := 5) hx hb hts iX1 tyX1 tyX1_ok nmX1 hown hK.1 hP hD hS 17 (gC17 g (sA (sF (sF σ 2 (fltC (σ.2.1 12) (σ.1 1))) 3 v_16) 13 f_16) tl) rfl 1 (by decide) k15 (fun _ h9 => h9) rfl (by decide +kernel) rfl rfl (Nat.le_of_ble_eq_true rfl) (uC_F1 g (sA (sF (sF σ 2 (fltC (σ.2.1 12) (σ.1 1))) 3 v_16) 13 f_16) tl 0) dX1_read_21 (fun H locs hP hD hS => ?_)
    exact hq _ _ _ _ (f_16, v_16) dX1_read_24 (by first | exact fun _ => h_16 | exact fun q => absurd q (by omega)) hP hD hS
