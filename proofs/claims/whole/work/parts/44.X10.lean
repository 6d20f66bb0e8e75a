abbrev r_c_X10_runCount : Room := { frames := 3, cells := 0, slots := 0, locals := 91 }
set_option maxHeartbeats 4000000 in
set_option maxRecDepth 100000 in
theorem c_X10_runCount (l : Launch) (g : GC) (tl : va_W) (sz : Nat) (σ : SS) (hA : OkA σ) (hw8 : (σ.1 20) ≤ 8) (hw : ∀ i, i < (σ.1 20) → (σ.2.1 14) i < 3) : Met l yX10_runCount wsX10_runCount r_c_X10_runCount (va_Pc [.ref (g.2.2.2 0)] (PW g (wC g σ ++ tl) sz)) (va_Ql (fun (r : Int64) (z : (Nat → Nat) × (Nat → Nat)) => match z with | (f, g1) => r = lN (fb_sm (fun q => if 2 ^ q &&& (σ.1 0) ≠ 0 then rn (σ.2.1 0) (σ.2.1 14) (σ.1 20) q else 0) 5)) (fun (z : (Nat → Nat) × (Nat → Nat)) t => BW g (va_A (wC g σ ++ tl) sz) ((fun z : (Nat → Nat) × (Nat → Nat) => match z with | (f, g1) => wC g (sL (sL σ 0 f) 1 g1) ++ tl) z) t) (va_A (wC g σ ++ tl) sz)) 0 0 (va_A (wC g σ ++ tl) sz) := by
  refine jn_sl (wf := fun z : (Nat → Nat) × (Nat → Nat) => match z with | (f, g1) => wC g (sL (sL σ 0 f) 1 g1) ++ tl) (cc := cX10_runCount) (maxL := 1) (own := RX10) (by decide) rfl rfl (Nat.le_of_ble_eq_true rfl) ?_
  intro p e s m below meth c Q A hx hb hml hown hts hK hP hD hS hAA hq ls hl
  obtain ⟨H, eH⟩ : ∃ z, z = s.heap := ⟨_, rfl⟩
  obtain ⟨locs, el⟩ : ∃ z : List Loc, z = [] := ⟨_, rfl⟩
  rw [← eH] at hP
  have hS : va_S A s.heap H locs := by rw [eH, el]; exact hS
  have goal0 : W p l e r_c_X10_runCount s m ([.ref (g.2.2.2 0)] : List Value).toArray below meth c H locs 0 0 Q (F0 m 0 ls []) → W p l e r_c_X10_runCount s m ([.ref (g.2.2.2 0)] : List Value).toArray below meth c s.heap [] 0 0 Q (F0 m 0 ls []) := fun h => by rw [eH, el] at h; exact h
  refine goal0 ?_
  have hl : lv_has ls 1 [(0, .ref (g.2.2.2 0))] := hl
  have iX10 : ∀ w ∈ wsX100, w ∈ wsX10_runCount := by decide +kernel
  have k75 := hts (.fieldLink RX10 75 "JumpingAutomata" "search" "LJumpingAutomata$WordSearch;") (by decide +kernel)
  have k12 := hts (.fieldLink RX10 12 "JumpingAutomata" "automaton" "LJumpingAutomata$Automaton;") (by decide +kernel)
  have k37 := hts (.fieldLink RX10 37 "JumpingAutomata" "word" "[I") (by decide +kernel)
  have k41 := hts (.fieldLink RX10 41 "JumpingAutomata" "wordSize" "I") (by decide +kernel)
  refine lv_aload_n hx hb dX10_runCount_0 rfl (lv_at hl 0 rfl) ?_
  refine va_get (D := (g.1, g.2.1)) (ci := 12) (v := .ref (g.2.2.2 30)) (C := RX10) (T := TX10) (N := 15) hx hb hts iX10 hown hK.1 hP 0 (gC0 g σ tl) rfl 11 (by decide) k75 (fun _ h9 => h9) rfl dX10_runCount_1 ?_
  refine lv_aload_n hx hb dX10_runCount_4 rfl (lv_at hl 0 rfl) ?_
  refine va_get (D := (g.1, g.2.1)) (ci := 12) (v := .ref (g.2.2.2 1)) (C := RX10) (T := TX10) (N := 15) hx hb hts iX10 hown hK.1 hP 0 (gC0 g σ tl) rfl 0 (by decide) k12 (fun _ h9 => h9) rfl dX10_runCount_5 ?_
  refine lv_aload_n hx hb dX10_runCount_8 rfl (lv_at hl 0 rfl) ?_
  refine va_get (D := (g.1, g.2.1)) (ci := 12) (v := .ref (g.2.2.2 20)) (C := RX10) (T := TX10) (N := 15) hx hb hts iX10 hown hK.1 hP 0 (gC0 g σ tl) rfl 4 (by decide) k37 (fun _ h9 => h9) rfl dX10_runCount_9 ?_
  refine lv_aload_n hx hb dX10_runCount_12 rfl (lv_at hl 0 rfl) ?_
  refine va_get (D := (g.1, g.2.1)) (ci := 12) (v := .int (nI (σ.1 20))) (C := RX10) (T := TX10) (N := 15) hx hb hts iX10 hown hK.1 hP 0 (gC0 g σ tl) rfl 5 (by decide) k41 (fun _ h9 => h9) rfl dX10_runCount_13 ?_
  refine jn_calll (va_runV (As := [.ref (g.2.2.2 1), .ref (g.2.2.2 20), .int (nI (σ.1 20))]) (rest := []) ⟨hx, hb, hml, hown, hts⟩ (c_X9_countRuns l g tl H.size σ (σ.1 20) hA hw8 hw) (cwV 3 hts gX10_runCount_X9_countRuns rfl rfl rfl (by decide +kernel) ⟨Nat.le_of_ble_eq_true rfl, Nat.le_of_ble_eq_true rfl⟩) (okWV hK hP hD rfl (gC30 g σ tl)) rfl rfl hl.1 rfl (lv_room (Nat.le_of_ble_eq_true rfl)) dX10_runCount_16 ⟨Nat.le_of_ble_eq_true rfl, Nat.le_of_ble_eq_true rfl⟩) hD hS hAA (fun r_16 u H locs hw_ hP hD hS => ?_)
  obtain ⟨f_16, g1_16⟩ := u
  obtain rfl := hw_
  have hP : va_P (g.1, g.2.1) vwCl (wC g (sL (sL σ 0 f_16) 1 g1_16) ++ tl) H := hP
  have hD : va_D A (wC g (sL (sL σ 0 f_16) 1 g1_16) ++ tl) := hD
  exact hq _ _ _ _ ((lN (fb_sm (fun q => if 2 ^ q &&& (σ.1 0) ≠ 0 then rn (σ.2.1 0) (σ.2.1 14) (σ.1 20) q else 0) 5))) (f_16, g1_16) dX10_runCount_19 rfl hP hD hS

abbrev r_c_X10_acceptedArrangements : Room := { frames := 12, cells := 0, slots := 0, locals := 294 }
set_option maxHeartbeats 4000000 in
set_option maxRecDepth 100000 in
theorem c_X10_acceptedArrangements (l : Launch) (g : GC) (tl : va_W) (sz : Nat) (σ : SS) (hA : OkA σ) (hw8 : (σ.1 20) ≤ 8) (hw : ∀ i, i < (σ.1 20) → (σ.2.1 14) i < 3) : Met l yX10_acceptedArrangements wsX10_acceptedArrangements r_c_X10_acceptedArrangements (va_Pc [.ref (g.2.2.2 0)] (PW g (wC g σ ++ tl) sz)) (va_Ql (fun (r : Int64) (z : Nat × (Nat → Nat) × (Nat → Nat) × Nat) => match z with | (b, lt2, lf2, sn2) => r = lN (arrN (σ.2.1 0) (σ.1 0) (σ.1 20) (cntW (σ.2.1 14) (σ.1 20)) 1)) (fun (z : Nat × (Nat → Nat) × (Nat → Nat) × Nat) t => BW g (va_A (wC g σ ++ tl) sz) ((fun z : Nat × (Nat → Nat) × (Nat → Nat) × Nat => match z with | (b, lt2, lf2, sn2) => wC g (sA (sA (sF (sF (sF σ 17 ((σ.1 20))) 18 sn2) 19 4294967295) 19 lt2) 20 lf2) ++ tl) z) t) (va_A (wC g σ ++ tl) sz)) 0 0 (va_A (wC g σ ++ tl) sz) := by
  refine jn_sl (wf := fun z : Nat × (Nat → Nat) × (Nat → Nat) × Nat => match z with | (b, lt2, lf2, sn2) => wC g (sA (sA (sF (sF (sF σ 17 ((σ.1 20))) 18 sn2) 19 4294967295) 19 lt2) 20 lf2) ++ tl) (cc := cX10_acceptedArrangements) (maxL := 1) (own := RX10) (by decide) rfl rfl (Nat.le_of_ble_eq_true rfl) ?_
  intro p e s m below meth c Q A hx hb hml hown hts hK hP hD hS hAA hq ls hl
  obtain ⟨H, eH⟩ : ∃ z, z = s.heap := ⟨_, rfl⟩
  obtain ⟨locs, el⟩ : ∃ z : List Loc, z = [] := ⟨_, rfl⟩
  rw [← eH] at hP
  have hS : va_S A s.heap H locs := by rw [eH, el]; exact hS
  have goal0 : W p l e r_c_X10_acceptedArrangements s m ([.ref (g.2.2.2 0)] : List Value).toArray below meth c H locs 0 0 Q (F0 m 0 ls []) → W p l e r_c_X10_acceptedArrangements s m ([.ref (g.2.2.2 0)] : List Value).toArray below meth c s.heap [] 0 0 Q (F0 m 0 ls []) := fun h => by rw [eH, el] at h; exact h
  refine goal0 ?_
  have hl : lv_has ls 1 [(0, .ref (g.2.2.2 0))] := hl
  have iX10 : ∀ w ∈ wsX100, w ∈ wsX10_acceptedArrangements := by decide +kernel
  have k75 := hts (.fieldLink RX10 75 "JumpingAutomata" "search" "LJumpingAutomata$WordSearch;") (by decide +kernel)
  have k12 := hts (.fieldLink RX10 12 "JumpingAutomata" "automaton" "LJumpingAutomata$Automaton;") (by decide +kernel)
  have k37 := hts (.fieldLink RX10 37 "JumpingAutomata" "word" "[I") (by decide +kernel)
  have k41 := hts (.fieldLink RX10 41 "JumpingAutomata" "wordSize" "I") (by decide +kernel)
  refine lv_aload_n hx hb dX10_acceptedArrangements_0 rfl (lv_at hl 0 rfl) ?_
  refine va_get (D := (g.1, g.2.1)) (ci := 12) (v := .ref (g.2.2.2 30)) (C := RX10) (T := TX10) (N := 15) hx hb hts iX10 hown hK.1 hP 0 (gC0 g σ tl) rfl 11 (by decide) k75 (fun _ h9 => h9) rfl dX10_acceptedArrangements_1 ?_
  refine lv_aload_n hx hb dX10_acceptedArrangements_4 rfl (lv_at hl 0 rfl) ?_
  refine va_get (D := (g.1, g.2.1)) (ci := 12) (v := .ref (g.2.2.2 1)) (C := RX10) (T := TX10) (N := 15) hx hb hts iX10 hown hK.1 hP 0 (gC0 g σ tl) rfl 0 (by decide) k12 (fun _ h9 => h9) rfl dX10_acceptedArrangements_5 ?_
  refine lv_aload_n hx hb dX10_acceptedArrangements_8 rfl (lv_at hl 0 rfl) ?_
  refine va_get (D := (g.1, g.2.1)) (ci := 12) (v := .ref (g.2.2.2 20)) (C := RX10) (T := TX10) (N := 15) hx hb hts iX10 hown hK.1 hP 0 (gC0 g σ tl) rfl 4 (by decide) k37 (fun _ h9 => h9) rfl dX10_acceptedArrangements_9 ?_
  refine lv_aload_n hx hb dX10_acceptedArrangements_12 rfl (lv_at hl 0 rfl) ?_
  refine va_get (D := (g.1, g.2.1)) (ci := 12) (v := .int (nI (σ.1 20))) (C := RX10) (T := TX10) (N := 15) hx hb hts iX10 hown hK.1 hP 0 (gC0 g σ tl) rfl 5 (by decide) k41 (fun _ h9 => h9) rfl dX10_acceptedArrangements_13 ?_
  refine jn_calll (va_runV (As := [.ref (g.2.2.2 1), .ref (g.2.2.2 20), .int (nI (σ.1 20))]) (rest := []) ⟨hx, hb, hml, hown, hts⟩ (c_X9_countArrangements l g tl H.size σ (σ.1 20) hA hw8 hw) (cwV 3 hts gX10_acceptedArrangements_X9_countArrangements rfl rfl rfl (by decide +kernel) ⟨Nat.le_of_ble_eq_true rfl, Nat.le_of_ble_eq_true rfl⟩) (okWV hK hP hD rfl (gC30 g σ tl)) rfl rfl hl.1 rfl (lv_room (Nat.le_of_ble_eq_true rfl)) dX10_acceptedArrangements_16 ⟨Nat.le_of_ble_eq_true rfl, Nat.le_of_ble_eq_true rfl⟩) hD hS hAA (fun r_16 u H locs hw_ hP hD hS => ?_)
  obtain ⟨b_16, lt2_16, lf2_16, sn2_16⟩ := u
  obtain rfl := hw_
  have hP : va_P (g.1, g.2.1) vwCl (wC g (sA (sA (sF (sF (sF σ 17 ((σ.1 20))) 18 sn2_16) 19 4294967295) 19 lt2_16) 20 lf2_16) ++ tl) H := hP
  have hD : va_D A (wC g (sA (sA (sF (sF (sF σ 17 ((σ.1 20))) 18 sn2_16) 19 4294967295) 19 lt2_16) 20 lf2_16) ++ tl) := hD
  exact hq _ _ _ _ ((lN (arrN (σ.2.1 0) (σ.1 0) (σ.1 20) (cntW (σ.2.1 14) (σ.1 20)) 1))) (b_16, lt2_16, lf2_16, sn2_16) dX10_acceptedArrangements_19 rfl hP hD hS

abbrev r_c_X10_wordIsReached : Room := { frames := 3, cells := 0, slots := 0, locals := 71 }
set_option maxHeartbeats 4000000 in
set_option maxRecDepth 100000 in
theorem c_X10_wordIsReached (l : Launch) (g : GC) (tl : va_W) (sz : Nat) (σ : SS) (hA : OkA σ) (hw8 : (σ.1 20) ≤ 8) (hw : ∀ i, i < (σ.1 20) → (σ.2.1 14) i < 3) : Met l yX10_wordIsReached wsX10_wordIsReached r_c_X10_wordIsReached (va_Pc [.ref (g.2.2.2 0)] (PW g (wC g σ ++ tl) sz)) (va_Qi (fun (r : Int32) (f15 : (Nat → Nat)) => r = nI (if wrc (σ.2.1 0) (σ.2.1 14) (σ.1 0) (σ.1 20) then 1 else 0)) (fun (f15 : (Nat → Nat)) t => BW g (va_A (wC g σ ++ tl) sz) (wC g (sA σ 15 f15) ++ tl) t) (va_A (wC g σ ++ tl) sz)) 0 0 (va_A (wC g σ ++ tl) sz) := by
  refine jn_sz (wf := fun f15 : (Nat → Nat) => wC g (sA σ 15 f15) ++ tl) (cc := cX10_wordIsReached) (maxL := 3) (own := RX10) (by decide) rfl rfl (Nat.le_of_ble_eq_true rfl) ?_
  intro p e s m below meth c Q A hx hb hml hown hts hK hP hD hS hAA hq ls hl
  obtain ⟨H, eH⟩ : ∃ z, z = s.heap := ⟨_, rfl⟩
  obtain ⟨locs, el⟩ : ∃ z : List Loc, z = [] := ⟨_, rfl⟩
  rw [← eH] at hP
  have hS : va_S A s.heap H locs := by rw [eH, el]; exact hS
  have goal0 : W p l e r_c_X10_wordIsReached s m ([.ref (g.2.2.2 0)] : List Value).toArray below meth c H locs 0 0 Q (F0 m 0 ls []) → W p l e r_c_X10_wordIsReached s m ([.ref (g.2.2.2 0)] : List Value).toArray below meth c s.heap [] 0 0 Q (F0 m 0 ls []) := fun h => by rw [eH, el] at h; exact h
  refine goal0 ?_
  have hl : lv_has ls 3 [(0, .ref (g.2.2.2 0))] := hl
  have iX10 : ∀ w ∈ wsX100, w ∈ wsX10_wordIsReached := by decide +kernel
  have k41 := hts (.fieldLink RX10 41 "JumpingAutomata" "wordSize" "I") (by decide +kernel)
  have k48 := hts (.fieldLink RX10 48 "JumpingAutomata" "reached" "LJumpingAutomata$CountsTable;") (by decide +kernel)
  have k12 := hts (.fieldLink RX10 12 "JumpingAutomata" "automaton" "LJumpingAutomata$Automaton;") (by decide +kernel)
  have k37 := hts (.fieldLink RX10 37 "JumpingAutomata" "word" "[I") (by decide +kernel)
  have wl := wcd_lt hw8 hw
  refine lv_iconst (v := nI 0) hx hb dX10_wordIsReached_0 (by decide) ?_
  refine lv_istore_n (lv' := [(1, .int (nI 0)), (0, .ref (g.2.2.2 0))]) hx hb dX10_wordIsReached_1 rfl hl (by decide) rfl (fun ls hl => ?_)
  refine lv_iconst (v := nI 0) hx hb dX10_wordIsReached_2 (by decide) ?_
  refine lv_istore_n (lv' := [(2, .int (nI 0)), (1, .int (nI 0)), (0, .ref (g.2.2.2 0))]) hx hb dX10_wordIsReached_3 rfl hl (by decide) rfl (fun ls hl => ?_)
  have lp4 : ∀ (fu : Nat), ∀ (i : Nat) (cd : Nat), (i ≤ (σ.1 20)) → (cd = wcd (σ.2.1 14) i) → (σ.1 20) - i < fu → ∀ (H : Heap) (locs : List Loc), va_P (g.1, g.2.1) vwCl (wC g σ ++ tl) H → va_D A (wC g σ ++ tl) → va_S A s.heap H locs → ∀ ls : Array Slot, lv_has ls 3 [(0, .ref (g.2.2.2 0)), (1, .int (nI cd)), (2, .int (nI i))] → W p l e r_c_X10_wordIsReached s m ([.ref (g.2.2.2 0)] : List Value).toArray below meth c H locs 0 0 Q (F0 m 4 ls []) := by
    intro fu
    induction fu with
    | zero => intro i cd h1 h2 hf; exact absurd hf (Nat.not_lt_zero _)
    | succ fu ih4 =>
      intro i cd h1 h2 hf H locs hP hD hS ls hl
      refine lv_iload_n hx hb dX10_wordIsReached_4 rfl (lv_at hl 2 rfl) ?_
      refine lv_aload_n hx hb dX10_wordIsReached_5 rfl (lv_at hl 0 rfl) ?_
      refine va_get (D := (g.1, g.2.1)) (ci := 12) (v := .int (nI (σ.1 20))) (C := RX10) (T := TX10) (N := 15) hx hb hts iX10 hown hK.1 hP 0 (gC0 g σ tl) rfl 5 (by decide) k41 (fun _ h9 => h9) rfl dX10_wordIsReached_6 ?_
      refine jn_cge hx hb (by omega) (by omega) (tgt := 36) dX10_wordIsReached_9 (by decide) (fun c_9 => ?_) (fun c_9 => ?_)
      · have ecd : cd = wcd (σ.2.1 14) (σ.1 20) := by rw [h2, show i = (σ.1 20) by omega]
        refine lv_aload_n hx hb dX10_wordIsReached_36 rfl (lv_at hl 0 rfl) ?_
        refine va_get (D := (g.1, g.2.1)) (ci := 12) (v := .ref (g.2.2.2 21)) (C := RX10) (T := TX10) (N := 15) hx hb hts iX10 hown hK.1 hP 0 (gC0 g σ tl) rfl 6 (by decide) k48 (fun _ h9 => h9) rfl dX10_wordIsReached_37 ?_
        refine lv_aload_n hx hb dX10_wordIsReached_40 rfl (lv_at hl 0 rfl) ?_
        refine va_get (D := (g.1, g.2.1)) (ci := 12) (v := .ref (g.2.2.2 1)) (C := RX10) (T := TX10) (N := 15) hx hb hts iX10 hown hK.1 hP 0 (gC0 g σ tl) rfl 0 (by decide) k12 (fun _ h9 => h9) rfl dX10_wordIsReached_41 ?_
        refine lv_iload_n hx hb dX10_wordIsReached_44 rfl (lv_at hl 1 rfl) ?_
        refine vp_callSi (va_Run.run (va_runS (As := [.int (nI cd)]) (rest := [.ref (g.2.2.2 1), .ref (g.2.2.2 21)]) ⟨hx, hb, hml, hown, hts⟩ (c_X10_firstOf l cd (by omega)) (va_cwS 1 hts gX10_wordIsReached_X10_firstOf rfl rfl rfl (by decide +kernel) ⟨Nat.le_of_ble_eq_true rfl, Nat.le_of_ble_eq_true rfl⟩) okTS rfl rfl hl.1 rfl (lv_room (Nat.le_of_ble_eq_true rfl)) dX10_wordIsReached_45 ⟨Nat.le_of_ble_eq_true rfl, Nat.le_of_ble_eq_true rfl⟩)) (fun r_45 h_45 => ?_)
        subst h_45
        refine lv_iload_n hx hb dX10_wordIsReached_48 rfl (lv_at hl 1 rfl) ?_
        refine vp_callSi (va_Run.run (va_runS (As := [.int (nI cd)]) (rest := [.int (nI (cd / 100)), .ref (g.2.2.2 1), .ref (g.2.2.2 21)]) ⟨hx, hb, hml, hown, hts⟩ (c_X10_secondOf l cd (by omega)) (va_cwS 1 hts gX10_wordIsReached_X10_secondOf rfl rfl rfl (by decide +kernel) ⟨Nat.le_of_ble_eq_true rfl, Nat.le_of_ble_eq_true rfl⟩) okTS rfl rfl hl.1 rfl (lv_room (Nat.le_of_ble_eq_true rfl)) dX10_wordIsReached_49 ⟨Nat.le_of_ble_eq_true rfl, Nat.le_of_ble_eq_true rfl⟩)) (fun r_49 h_49 => ?_)
        subst h_49
        refine lv_iload_n hx hb dX10_wordIsReached_52 rfl (lv_at hl 1 rfl) ?_
        refine vp_callSi (va_Run.run (va_runS (As := [.int (nI cd)]) (rest := [.int (nI (cd / 10 % 10)), .int (nI (cd / 100)), .ref (g.2.2.2 1), .ref (g.2.2.2 21)]) ⟨hx, hb, hml, hown, hts⟩ (c_X10_thirdOf l cd (by omega)) (va_cwS 1 hts gX10_wordIsReached_X10_thirdOf rfl rfl rfl (by decide +kernel) ⟨Nat.le_of_ble_eq_true rfl, Nat.le_of_ble_eq_true rfl⟩) okTS rfl rfl hl.1 rfl (lv_room (Nat.le_of_ble_eq_true rfl)) dX10_wordIsReached_53 ⟨Nat.le_of_ble_eq_true rfl, Nat.le_of_ble_eq_true rfl⟩)) (fun r_53 h_53 => ?_)
        subst h_53
        refine jn_callv (va_runV (As := [.ref (g.2.2.2 1), .int (nI (cd / 100)), .int (nI (cd / 10 % 10)), .int (nI (cd % 10))]) (rest := []) ⟨hx, hb, hml, hown, hts⟩ (c_X5_fillReached_21 l g tl H.size σ (cd / 100) (cd / 10 % 10) (cd % 10) hA (by omega) (by omega) (by omega)) (cwV 4 hts gX10_wordIsReached_X5_fillReached rfl rfl rfl (by decide +kernel) ⟨Nat.le_of_ble_eq_true rfl, Nat.le_of_ble_eq_true rfl⟩) (okWV hK hP hD rfl (gC21 g σ tl)) rfl rfl hl.1 rfl (lv_room (Nat.le_of_ble_eq_true rfl)) dX10_wordIsReached_56 ⟨Nat.le_of_ble_eq_true rfl, Nat.le_of_ble_eq_true rfl⟩) hD hS hAA (fun u H locs hw_ hP hD hS => ?_)
        obtain ⟨f_56, rfl⟩ : ∃ z, z = u := ⟨_, rfl⟩
        have h_56 := hw_
        have h_56 : ∀ a b c, a ≤ (cd / 100) → b ≤ (cd / 10 % 10) → c ≤ (cd % 10) → f_56 (100 * a + 10 * b + c) = rch (σ.2.1 0) a b c := h_56
        have hP : va_P (g.1, g.2.1) vwCl (wC g (sA σ 15 f_56) ++ tl) H := hP
        have hD : va_D A (wC g (sA σ 15 f_56) ++ tl) := hD
        refine lv_aload_n hx hb dX10_wordIsReached_59 rfl (lv_at hl 0 rfl) ?_
        refine va_get (D := (g.1, g.2.1)) (ci := 12) (v := .ref (g.2.2.2 1)) (C := RX10) (T := TX10) (N := 15) hx hb hts iX10 hown hK.1 hP 0 (gC0 g (sA σ 15 f_56) tl) rfl 0 (by decide) k12 (fun _ h9 => h9) rfl dX10_wordIsReached_60 ?_
        refine lv_aload_n hx hb dX10_wordIsReached_63 rfl (lv_at hl 0 rfl) ?_
        refine va_get (D := (g.1, g.2.1)) (ci := 12) (v := .ref (g.2.2.2 21)) (C := RX10) (T := TX10) (N := 15) hx hb hts iX10 hown hK.1 hP 0 (gC0 g (sA σ 15 f_56) tl) rfl 6 (by decide) k48 (fun _ h9 => h9) rfl dX10_wordIsReached_64 ?_
        refine lv_iload_n hx hb dX10_wordIsReached_67 rfl (lv_at hl 1 rfl) ?_
        refine vp_callSi (va_Run.run (va_runV (As := [.int (nI cd)]) (rest := [.ref (g.2.2.2 1)]) ⟨hx, hb, hml, hown, hts⟩ (c_X5_at_21 l g tl (sA σ 15 f_56) cd (by omega)) (cwV 1 hts gX10_wordIsReached_X5_at rfl rfl rfl (by decide +kernel) ⟨Nat.le_of_ble_eq_true rfl, Nat.le_of_ble_eq_true rfl⟩) (okPV hK hP rfl (gC21 g (sA σ 15 f_56) tl)) rfl rfl hl.1 rfl (lv_room (Nat.le_of_ble_eq_true rfl)) dX10_wordIsReached_68 ⟨Nat.le_of_ble_eq_true rfl, Nat.le_of_ble_eq_true rfl⟩)) (fun r_68 h_68 => ?_)
        have h_68 : r_68 = (nI ((f_56) cd)) := h_68
        subst h_68
        have ev : f_56 cd = rch (σ.2.1 0) (cntW (σ.2.1 14) (σ.1 20) 0) (cntW (σ.2.1 14) (σ.1 20) 1) (cntW (σ.2.1 14) (σ.1 20) 2) := by have := h_56 (cd / 100) (cd / 10 % 10) (cd % 10) (Nat.le_refl _) (Nat.le_refl _) (Nat.le_refl _); rw [show 100 * (cd / 100) + 10 * (cd / 10 % 10) + cd % 10 = cd by omega, ecd, wl.1, wl.2.1, wl.2.2.1] at this; rw [ecd]; exact this
        refine vp_callSi (va_Run.run (va_runV (As := [.int (nI ((f_56) cd))]) (rest := []) ⟨hx, hb, hml, hown, hts⟩ (c_X0_accepting l g tl (sA σ 15 f_56) ((f_56) cd) hA) (cwV 1 hts gX10_wordIsReached_X0_accepting rfl rfl rfl (by decide +kernel) ⟨Nat.le_of_ble_eq_true rfl, Nat.le_of_ble_eq_true rfl⟩) (okPV hK hP rfl (gC1 g (sA σ 15 f_56) tl)) rfl rfl hl.1 rfl (lv_room (Nat.le_of_ble_eq_true rfl)) dX10_wordIsReached_71 ⟨Nat.le_of_ble_eq_true rfl, Nat.le_of_ble_eq_true rfl⟩)) (fun r_71 h_71 => ?_)
        have h_71 : r_71 = (nI (if ((f_56) cd) &&& σ.1 0 ≠ 0 then 1 else 0)) := h_71
        subst h_71
        exact hq _ _ _ _ ((nI (if ((f_56) cd) &&& σ.1 0 ≠ 0 then 1 else 0))) (f_56) dX10_wordIsReached_74 (jn_nb _) (by rw [ev]) hP hD hS
      · refine lv_iload_n hx hb dX10_wordIsReached_12 rfl (lv_at hl 2 rfl) ?_
        refine lv_bipush (v := nI 8) hx hb dX10_wordIsReached_13 (by decide) ?_
        refine jn_cge hx hb (by omega) (by decide) (tgt := 36) dX10_wordIsReached_15 (by decide) (fun c_15 => absurd c_15 (by omega)) (fun c_15 => ?_)
        refine lv_iload_n hx hb dX10_wordIsReached_18 rfl (lv_at hl 1 rfl) ?_
        refine lv_aload_n hx hb dX10_wordIsReached_19 rfl (lv_at hl 0 rfl) ?_
        refine va_get (D := (g.1, g.2.1)) (ci := 12) (v := .ref (g.2.2.2 20)) (C := RX10) (T := TX10) (N := 15) hx hb hts iX10 hown hK.1 hP 0 (gC0 g σ tl) rfl 4 (by decide) k37 (fun _ h9 => h9) rfl dX10_wordIsReached_20 ?_
        refine lv_iload_n hx hb dX10_wordIsReached_23 rfl (lv_at hl 2 rfl) ?_
        refine jn_iald (f := σ.2.1 14) hx hb hK.1 hP 20 0 (gC20 g σ tl) rfl (by omega) (Nat.le_of_ble_eq_true rfl) dX10_wordIsReached_24 ?_
        refine vp_callSi (va_Run.run (va_runS (As := [.int (nI ((σ.2.1 14) i))]) (rest := [.int (nI cd)]) ⟨hx, hb, hml, hown, hts⟩ (c_X10_weightOf l ((σ.2.1 14) i) (by have := hw i (by omega); omega)) (va_cwS 1 hts gX10_wordIsReached_X10_weightOf rfl rfl rfl (by decide +kernel) ⟨Nat.le_of_ble_eq_true rfl, Nat.le_of_ble_eq_true rfl⟩) okTS rfl rfl hl.1 rfl (lv_room (Nat.le_of_ble_eq_true rfl)) dX10_wordIsReached_25 ⟨Nat.le_of_ble_eq_true rfl, Nat.le_of_ble_eq_true rfl⟩)) (fun r_25 h_25 => ?_)
        subst h_25
        refine jn_iadd hx hb dX10_wordIsReached_28 ?_
        refine lv_istore_n (lv' := [(1, .int (nI (cd + (wt ((σ.2.1 14) i))))), (0, .ref (g.2.2.2 0)), (2, .int (nI i))]) hx hb dX10_wordIsReached_29 rfl hl (by decide) rfl (fun ls hl => ?_)
        refine lv_iinc (v := nI (i + 1)) (lv' := [(2, .int (nI (i + 1))), (1, .int (nI (cd + (wt ((σ.2.1 14) i))))), (0, .ref (g.2.2.2 0))]) hx hb dX10_wordIsReached_30 hl (k := 2) rfl (jn_ii _ 1) (by decide) rfl (fun ls hl => ?_)
        refine lv_goto (tgt := 4) hx hb dX10_wordIsReached_33 (by decide) ?_
        exact ih4 (i + 1) (cd + (wt ((σ.2.1 14) i))) (by omega) (by rw [h2]; rfl) (by omega) _ _ hP hD hS _ (lv_sub hl [2, 1, 0] rfl)
  exact lp4 _ 0 0 (by omega) rfl (Nat.lt_succ_self _) _ _ hP hD hS _ (lv_sub hl [2, 1, 0] rfl)

abbrev r_c_X10_findBestOrder : Room := { frames := 5, cells := 0, slots := 0, locals := 126 }
set_option maxHeartbeats 4000000 in
set_option maxRecDepth 100000 in
theorem c_X10_findBestOrder (l : Launch) (g : GC) (tl : va_W) (sz : Nat) (σ : SS) (hA : OkA σ) (hw8 : (σ.1 20) ≤ 8) (hw : ∀ i, i < (σ.1 20) → (σ.2.1 14) i < 3) (hk2 : σ.1 21 < 2) (hko : σ.1 21 = 1 → ordK (σ.2.1 0) (σ.2.1 14) (σ.1 0) (σ.1 20) (σ.1 5) (σ.2.1 25)) : Met l yX10_findBestOrder wsX10_findBestOrder r_c_X10_findBestOrder (va_Pc [.ref (g.2.2.2 0)] (PW g (wC g σ ++ tl) sz)) (va_Qi (fun (r : Int32) (z : Nat × Nat × Nat × (Nat → Nat) × (Nat → Nat) × (Nat → Nat) × (Nat → Nat) × (Nat → Nat)) => match z with | (n4, co, kn, pc2, S, bf2, w2, od) => (r = nI (if co < 63 then 1 else 0)) ∧ (ordK (σ.2.1 0) (σ.2.1 14) (σ.1 0) (σ.1 20) co od) ∧ (kn = 1)) (fun (z : Nat × Nat × Nat × (Nat → Nat) × (Nat → Nat) × (Nat → Nat) × (Nat → Nat) × (Nat → Nat)) t => BW g (va_A (wC g σ ++ tl) sz) ((fun z : Nat × Nat × Nat × (Nat → Nat) × (Nat → Nat) × (Nat → Nat) × (Nat → Nat) × (Nat → Nat) => match z with | (n4, co, kn, pc2, S, bf2, w2, od) => wC g (sA (sA (sA (sA (sA (sF (sF (sF σ 4 n4) 5 co) 21 kn) 21 pc2) 22 S) 23 bf2) 24 w2) 25 od) ++ tl) z) t) (va_A (wC g σ ++ tl) sz)) 0 0 (va_A (wC g σ ++ tl) sz) := by
  refine jn_sz (wf := fun z : Nat × Nat × Nat × (Nat → Nat) × (Nat → Nat) × (Nat → Nat) × (Nat → Nat) × (Nat → Nat) => match z with | (n4, co, kn, pc2, S, bf2, w2, od) => wC g (sA (sA (sA (sA (sA (sF (sF (sF σ 4 n4) 5 co) 21 kn) 21 pc2) 22 S) 23 bf2) 24 w2) 25 od) ++ tl) (cc := cX10_findBestOrder) (maxL := 1) (own := RX10) (by decide) rfl rfl (Nat.le_of_ble_eq_true rfl) ?_
  intro p e s m below meth c Q A hx hb hml hown hts hK hP hD hS hAA hq ls hl
  obtain ⟨H, eH⟩ : ∃ z, z = s.heap := ⟨_, rfl⟩
  obtain ⟨locs, el⟩ : ∃ z : List Loc, z = [] := ⟨_, rfl⟩
  rw [← eH] at hP
  have hS : va_S A s.heap H locs := by rw [eH, el]; exact hS
  have goal0 : W p l e r_c_X10_findBestOrder s m ([.ref (g.2.2.2 0)] : List Value).toArray below meth c H locs 0 0 Q (F0 m 0 ls []) → W p l e r_c_X10_findBestOrder s m ([.ref (g.2.2.2 0)] : List Value).toArray below meth c s.heap [] 0 0 Q (F0 m 0 ls []) := fun h => by rw [eH, el] at h; exact h
  refine goal0 ?_
  have hl : lv_has ls 1 [(0, .ref (g.2.2.2 0))] := hl
  have iX10 : ∀ w ∈ wsX100, w ∈ wsX10_findBestOrder := by decide +kernel
  have iX2 : ∀ w ∈ wsX20, w ∈ wsX10_findBestOrder := by decide +kernel
  have k93 := hts (.fieldLink RX10 93 "JumpingAutomata" "orderKnown" "Z") (by decide +kernel)
  have k89 := hts (.fieldLink RX10 89 "JumpingAutomata" "bestOrder" "LJumpingAutomata$BestOrder;") (by decide +kernel)
  have k267 := hts (.fieldLink RX10 267 "JumpingAutomata$BestOrder" "cost" "I") (by decide +kernel)
  have k12 := hts (.fieldLink RX10 12 "JumpingAutomata" "automaton" "LJumpingAutomata$Automaton;") (by decide +kernel)
  have k37 := hts (.fieldLink RX10 37 "JumpingAutomata" "word" "[I") (by decide +kernel)
  have k41 := hts (.fieldLink RX10 41 "JumpingAutomata" "wordSize" "I") (by decide +kernel)
  refine lv_aload_n hx hb dX10_findBestOrder_0 rfl (lv_at hl 0 rfl) ?_
  refine va_get (D := (g.1, g.2.1)) (ci := 12) (v := .int (nI (σ.1 21))) (C := RX10) (T := TX10) (N := 15) hx hb hts iX10 hown hK.1 hP 0 (gC0 g σ tl) rfl 14 (by decide) k93 (fun _ h9 => h9) rfl dX10_findBestOrder_1 ?_
  refine jn_zne hx hb (by omega) (tgt := 31) dX10_findBestOrder_4 (by decide) (fun c_4 => ?_) (fun c_4 => ?_)
  · have hco := hko (by omega)
    have hcl := oc_le (σ.2.1 0) (σ.2.1 14) (σ.1 0) (σ.1 20)
    have hc1 := hco.1
    refine lv_aload_n hx hb dX10_findBestOrder_31 rfl (lv_at hl 0 rfl) ?_
    refine va_get (D := (g.1, g.2.1)) (ci := 12) (v := .ref (g.2.2.2 36)) (C := RX10) (T := TX10) (N := 15) hx hb hts iX10 hown hK.1 hP 0 (gC0 g σ tl) rfl 13 (by decide) k89 (fun _ h9 => h9) rfl dX10_findBestOrder_32 ?_
    refine va_get (D := (g.1, g.2.1)) (ci := 4) (v := .int (nI (σ.1 5))) (C := RX2) (T := TX2) (N := 7) hx hb hts iX2 hown hK.1 hP 36 (gC36 g σ tl) rfl 6 (by decide) k267 (fun _ h9 => h9) rfl dX10_findBestOrder_35 ?_
    refine lv_bipush (v := nI 63) hx hb dX10_findBestOrder_38 (by decide) ?_
    refine jn_cge hx hb (by omega) (by decide) (tgt := 47) dX10_findBestOrder_40 (by decide) (fun c_40 => ?_) (fun c_40 => ?_)
    · refine lv_iconst (v := nI 0) hx hb dX10_findBestOrder_47 (by decide) ?_
      exact hq _ _ _ _ ((nI 0)) ((σ.1 4), (σ.1 5), (σ.1 21), (σ.2.1 21), (σ.2.1 22), (σ.2.1 23), (σ.2.1 24), (σ.2.1 25)) dX10_findBestOrder_48 jn_n0 (by first | exact ⟨by rw [if_pos (by omega)], hco, by omega⟩ | exact ⟨by rw [if_neg (by omega)], hco, by omega⟩) hP hD hS
    · refine lv_iconst (v := nI 1) hx hb dX10_findBestOrder_43 (by decide) ?_
      refine lv_goto (tgt := 48) hx hb dX10_findBestOrder_44 (by decide) ?_
      exact hq _ _ _ _ ((nI 1)) ((σ.1 4), (σ.1 5), (σ.1 21), (σ.2.1 21), (σ.2.1 22), (σ.2.1 23), (σ.2.1 24), (σ.2.1 25)) dX10_findBestOrder_48 jn_n1 (by first | exact ⟨by rw [if_pos (by omega)], hco, by omega⟩ | exact ⟨by rw [if_neg (by omega)], hco, by omega⟩) hP hD hS
  · refine lv_aload_n hx hb dX10_findBestOrder_7 rfl (lv_at hl 0 rfl) ?_
    refine va_get (D := (g.1, g.2.1)) (ci := 12) (v := .ref (g.2.2.2 36)) (C := RX10) (T := TX10) (N := 15) hx hb hts iX10 hown hK.1 hP 0 (gC0 g σ tl) rfl 13 (by decide) k89 (fun _ h9 => h9) rfl dX10_findBestOrder_8 ?_
    refine lv_aload_n hx hb dX10_findBestOrder_11 rfl (lv_at hl 0 rfl) ?_
    refine va_get (D := (g.1, g.2.1)) (ci := 12) (v := .ref (g.2.2.2 1)) (C := RX10) (T := TX10) (N := 15) hx hb hts iX10 hown hK.1 hP 0 (gC0 g σ tl) rfl 0 (by decide) k12 (fun _ h9 => h9) rfl dX10_findBestOrder_12 ?_
    refine lv_aload_n hx hb dX10_findBestOrder_15 rfl (lv_at hl 0 rfl) ?_
    refine va_get (D := (g.1, g.2.1)) (ci := 12) (v := .ref (g.2.2.2 20)) (C := RX10) (T := TX10) (N := 15) hx hb hts iX10 hown hK.1 hP 0 (gC0 g σ tl) rfl 4 (by decide) k37 (fun _ h9 => h9) rfl dX10_findBestOrder_16 ?_
    refine lv_aload_n hx hb dX10_findBestOrder_19 rfl (lv_at hl 0 rfl) ?_
    refine va_get (D := (g.1, g.2.1)) (ci := 12) (v := .int (nI (σ.1 20))) (C := RX10) (T := TX10) (N := 15) hx hb hts iX10 hown hK.1 hP 0 (gC0 g σ tl) rfl 5 (by decide) k41 (fun _ h9 => h9) rfl dX10_findBestOrder_20 ?_
    refine jn_callv (va_runV (As := [.ref (g.2.2.2 1), .ref (g.2.2.2 20), .int (nI (σ.1 20))]) (rest := []) ⟨hx, hb, hml, hown, hts⟩ (c_X2_find l g tl H.size σ (σ.1 20) hA hw8 hw) (cwV 3 hts gX10_findBestOrder_X2_find rfl rfl rfl (by decide +kernel) ⟨Nat.le_of_ble_eq_true rfl, Nat.le_of_ble_eq_true rfl⟩) (okWV hK hP hD rfl (gC36 g σ tl)) rfl rfl hl.1 rfl (lv_room (Nat.le_of_ble_eq_true rfl)) dX10_findBestOrder_23 ⟨Nat.le_of_ble_eq_true rfl, Nat.le_of_ble_eq_true rfl⟩) hD hS hAA (fun u H locs hw_ hP hD hS => ?_)
    obtain ⟨co_23, pc2_23, S_23, bf2_23, w2_23, od_23⟩ := u
    have h_23 := hw_
    have h_23 : (co_23 = ocost (σ.2.1 0) (σ.2.1 14) (σ.1 0) (σ.1 20)) ∧ (co_23 < 63 → isOrd (σ.2.1 0) (σ.2.1 14) (σ.1 0) (σ.1 20) (σ.1 20) 0 0 1 (ocost (σ.2.1 0) (σ.2.1 14) (σ.1 0) (σ.1 20)) od_23 ∧ ∀ j, j < (σ.1 20) → od_23 j < (σ.1 20)) := h_23
    have hP : va_P (g.1, g.2.1) vwCl (wC g (sA (sA (sA (sA (sA (sF (sF σ 4 ((σ.1 20))) 5 co_23) 21 pc2_23) 22 S_23) 23 bf2_23) 24 w2_23) 25 od_23) ++ tl) H := hP
    have hD : va_D A (wC g (sA (sA (sA (sA (sA (sF (sF σ 4 ((σ.1 20))) 5 co_23) 21 pc2_23) 22 S_23) 23 bf2_23) 24 w2_23) 25 od_23) ++ tl) := hD
    have hco : ordK (σ.2.1 0) (σ.2.1 14) (σ.1 0) (σ.1 20) co_23 od_23 := ⟨h_23.1, h_23.2⟩
    have hcl := oc_le (σ.2.1 0) (σ.2.1 14) (σ.1 0) (σ.1 20)
    have hc1 := hco.1
    refine lv_aload_n hx hb dX10_findBestOrder_26 rfl (lv_at hl 0 rfl) ?_
    refine lv_iconst (v := nI 1) hx hb dX10_findBestOrder_27 (by decide) ?_
    refine jn_put (D := (g.1, g.2.1)) (ci := 12) (v := .int (nI 1)) (ty := .boolean) (C := RX10) (T := TX10) (N := 15) hx hb hts iX10 tyX10 tyX10_ok nmX10 hown hK.1 hP hD hS 0 (gC0 g (sA (sA (sA (sA (sA (sF (sF σ 4 ((σ.1 20))) 5 co_23) 21 pc2_23) 22 S_23) 23 bf2_23) 24 w2_23) 25 od_23) tl) rfl 14 (by decide) k93 (fun _ h9 => h9) rfl (by decide +kernel) jn_n1 jn_f1 (Nat.le_of_ble_eq_true rfl) (uC_F21 g (sA (sA (sA (sA (sA (sF (sF σ 4 ((σ.1 20))) 5 co_23) 21 pc2_23) 22 S_23) 23 bf2_23) 24 w2_23) 25 od_23) tl 1) dX10_findBestOrder_28 (fun H locs hP hD hS => ?_)
    refine lv_aload_n hx hb dX10_findBestOrder_31 rfl (lv_at hl 0 rfl) ?_
    refine va_get (D := (g.1, g.2.1)) (ci := 12) (v := .ref (g.2.2.2 36)) (C := RX10) (T := TX10) (N := 15) hx hb hts iX10 hown hK.1 hP 0 (gC0 g (sF (sA (sA (sA (sA (sA (sF (sF σ 4 ((σ.1 20))) 5 co_23) 21 pc2_23) 22 S_23) 23 bf2_23) 24 w2_23) 25 od_23) 21 1) tl) rfl 13 (by decide) k89 (fun _ h9 => h9) rfl dX10_findBestOrder_32 ?_
    refine va_get (D := (g.1, g.2.1)) (ci := 4) (v := .int (nI co_23)) (C := RX2) (T := TX2) (N := 7) hx hb hts iX2 hown hK.1 hP 36 (gC36 g (sF (sA (sA (sA (sA (sA (sF (sF σ 4 ((σ.1 20))) 5 co_23) 21 pc2_23) 22 S_23) 23 bf2_23) 24 w2_23) 25 od_23) 21 1) tl) rfl 6 (by decide) k267 (fun _ h9 => h9) rfl dX10_findBestOrder_35 ?_
    refine lv_bipush (v := nI 63) hx hb dX10_findBestOrder_38 (by decide) ?_
    refine jn_cge hx hb (by omega) (by decide) (tgt := 47) dX10_findBestOrder_40 (by decide) (fun c_40 => ?_) (fun c_40 => ?_)
    · refine lv_iconst (v := nI 0) hx hb dX10_findBestOrder_47 (by decide) ?_
      exact hq _ _ _ _ ((nI 0)) (((σ.1 20)), co_23, 1, pc2_23, S_23, bf2_23, w2_23, od_23) dX10_findBestOrder_48 jn_n0 (by first | exact ⟨by rw [if_pos (by omega)], hco, by omega⟩ | exact ⟨by rw [if_neg (by omega)], hco, by omega⟩) hP hD hS
    · refine lv_iconst (v := nI 1) hx hb dX10_findBestOrder_43 (by decide) ?_
      refine lv_goto (tgt := 48) hx hb dX10_findBestOrder_44 (by decide) ?_
      exact hq _ _ _ _ ((nI 1)) (((σ.1 20)), co_23, 1, pc2_23, S_23, bf2_23, w2_23, od_23) dX10_findBestOrder_48 jn_n1 (by first | exact ⟨by rw [if_pos (by omega)], hco, by omega⟩ | exact ⟨by rw [if_neg (by omega)], hco, by omega⟩) hP hD hS
