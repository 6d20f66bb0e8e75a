abbrev r_c_X10_hasCyclePeriods : Room := { frames := 8, cells := 1, slots := 6, locals := 219 }
set_option maxHeartbeats 4000000 in
set_option maxRecDepth 100000 in
theorem c_X10_hasCyclePeriods (l : Launch) (hflg : l.stackTraces = false) (g : GC) (tl : va_W) (sz : Nat) (σ : SS) (s2 ln : Nat) (hA : OkA σ) (hC : OkC (σ.2.1 2)) (hs8 : σ.1 8 < 5) (hs2 : s2 < 4294967296) (hln : ln < 4294967296) : vx_Met l yX10_hasCyclePeriods wsX10_hasCyclePeriods r_c_X10_hasCyclePeriods (va_Pc [.ref (g.2.2.2 0), .int (nI s2), .int (nI ln)] (PX g (wC g σ ++ tl) sz)) (va_Qi (fun (r : Int32) (z : Nat × Nat × Nat × (Nat → Nat)) => match z with | (b, n7, s8, f18) => (r = nI (b)) ∧ (s2 < 2 ∧ ln < (σ.2.1 2) (s2 * 21)) ∧ ((b = 1 ∧ ∀ j, j < (σ.2.1 2) (s2 * 21 + 1 + ln * 5 + 1) → cyA (σ.2.1 0) (usf σ) 5 ((σ.2.1 2) (s2 * 21 + 1 + ln * 5 + 2 + j))) ∨ (b = 0 ∧ ∃ j, j < (σ.2.1 2) (s2 * 21 + 1 + ln * 5 + 1) ∧ ¬ cyA (σ.2.1 0) (usf σ) 5 ((σ.2.1 2) (s2 * 21 + 1 + ln * 5 + 2 + j)))) ∧ (s8 < 5)) (fun (z : Nat × Nat × Nat × (Nat → Nat)) t => BW g (va_A (wC g σ ++ tl) sz) ((fun z : Nat × Nat × Nat × (Nat → Nat) => match z with | (b, n7, s8, f18) => wC g (sA (sF (sF σ 7 n7) 8 s8) 18 f18) ++ tl) z) t) (va_A (wC g σ ++ tl) sz)) (XW g (va_A (wC g σ ++ tl) sz) (fun (E : String) (_ : Unit) => (E = "java/lang/IndexOutOfBoundsException" ∧ (¬ (s2 < 2 ∧ ln < (σ.2.1 2) (s2 * 21))))) (fun _ : Unit => wC g σ ++ tl)) 1 6 (va_A (wC g σ ++ tl) sz) := by
  refine jx_z hflg (wf := fun z : Nat × Nat × Nat × (Nat → Nat) => match z with | (b, n7, s8, f18) => wC g (sA (sF (sF σ 7 n7) 8 s8) 18 f18) ++ tl) (wx := fun _ : Unit => wC g σ ++ tl) (cc := cX10_hasCyclePeriods) (maxL := 5) (by decide) rfl rfl (Nat.le_of_ble_eq_true rfl) ?_
  intro p e s m below meth c Q A hx hb hml hown hts hKX hP hD hS hAA hZ hq hqt hqw hqo ls hl
  have hK := hKX.1
  obtain ⟨H, eH⟩ : ∃ z, z = s.heap := ⟨_, rfl⟩
  obtain ⟨locs, el⟩ : ∃ z : List Loc, z = [] := ⟨_, rfl⟩
  rw [← eH] at hP
  have hS : va_S A s.heap H locs := by rw [eH, el]; exact hS
  have goal0 : W p l e r_c_X10_hasCyclePeriods s m ([.ref (g.2.2.2 0), .int (nI s2), .int (nI ln)] : List Value).toArray below meth c H locs 0 0 Q (F0 m 0 ls []) → W p l e r_c_X10_hasCyclePeriods s m ([.ref (g.2.2.2 0), .int (nI s2), .int (nI ln)] : List Value).toArray below meth c s.heap [] 0 0 Q (F0 m 0 ls []) := fun h => by rw [eH, el] at h; exact h
  refine goal0 ?_
  have hl : lv_has ls 5 [(0, .ref (g.2.2.2 0)), (1, .int (nI s2)), (2, .int (nI ln))] := hl
  have iX10 : ∀ w ∈ wsX100, w ∈ wsX10_hasCyclePeriods := by decide +kernel
  have k68 := hts (.fieldLink RX10 68 "JumpingAutomata" "cycleFinder" "LJumpingAutomata$CycleFinder;") (by decide +kernel)
  have k12 := hts (.fieldLink RX10 12 "JumpingAutomata" "automaton" "LJumpingAutomata$Automaton;") (by decide +kernel)
  have k62 := hts (.fieldLink RX10 62 "JumpingAutomata" "cycles" "LJumpingAutomata$CountsList;") (by decide +kernel)
  have k19 := hts (.fieldLink RX10 19 "JumpingAutomata" "sets" "LJumpingAutomata$CountingSets;") (by decide +kernel)
  refine lv_aload_n hx hb dX10_hasCyclePeriods_0 rfl (lv_at hl 0 rfl) ?_
  refine lv_iload_n hx hb dX10_hasCyclePeriods_1 rfl (lv_at hl 1 rfl) ?_
  refine lv_iload_n hx hb dX10_hasCyclePeriods_2 rfl (lv_at hl 2 rfl) ?_
  refine jx_callv (vx_runV (As := [.int (nI s2), .int (nI ln)]) (rest := []) ⟨hx, hb, hml, hown, hts⟩ (c_X10_requireLinear l hflg g tl H.size σ s2 ln hC hs2 hln) (cwV 2 hts gX10_hasCyclePeriods_X10_requireLinear rfl rfl rfl (by decide +kernel) ⟨Nat.le_of_ble_eq_true rfl, Nat.le_of_ble_eq_true rfl⟩) (okXV hKX hP hD hZ hS hAA rfl (gC0 g σ tl)) rfl rfl hl.1 rfl (lv_room (Nat.le_of_ble_eq_true rfl)) dX10_hasCyclePeriods_3 ⟨Nat.le_of_ble_eq_true rfl, Nat.le_of_ble_eq_true rfl⟩) hD hS hAA (fun E ce q9 u H locs hxp hP hD hS h7 h8 h9 => ?_) (fun u H locs hw_ hP hD hS => ?_)
  · have hxp : (E = "java/lang/IndexOutOfBoundsException" ∧ (¬ (s2 < 2 ∧ ln < (σ.2.1 2) (s2 * 21)))) := hxp
    rcases hxp with ⟨eE, hc⟩
    · exact hqo _ _ _ _ _ _ _ _ _ _ () (Nat.le_of_ble_eq_true rfl) (Nat.le_of_ble_eq_true rfl) h7 h8 h9 ⟨eE, (by first | exact hc | omega)⟩ hP hD hS
  have h_3 := hw_
  have h_3 : s2 < 2 ∧ ln < (σ.2.1 2) (s2 * 21) := h_3
  have hP : va_P (g.1, g.2.1) vwCl (wC g σ ++ tl) H := hP
  have hD : va_D A (wC g σ ++ tl) := hD
  refine lv_aload_n hx hb dX10_hasCyclePeriods_6 rfl (lv_at hl 0 rfl) ?_
  refine va_get (D := (g.1, g.2.1)) (ci := 12) (v := .ref (g.2.2.2 29)) (C := RX10) (T := TX10) (N := 15) hx hb hts iX10 hown hK.1 hP 0 (gC0 g σ tl) rfl 10 (by decide) k68 (fun _ h9 => h9) rfl dX10_hasCyclePeriods_7 ?_
  refine lv_aload_n hx hb dX10_hasCyclePeriods_10 rfl (lv_at hl 0 rfl) ?_
  refine va_get (D := (g.1, g.2.1)) (ci := 12) (v := .ref (g.2.2.2 1)) (C := RX10) (T := TX10) (N := 15) hx hb hts iX10 hown hK.1 hP 0 (gC0 g σ tl) rfl 0 (by decide) k12 (fun _ h9 => h9) rfl dX10_hasCyclePeriods_11 ?_
  refine lv_aload_n hx hb dX10_hasCyclePeriods_14 rfl (lv_at hl 0 rfl) ?_
  refine va_get (D := (g.1, g.2.1)) (ci := 12) (v := .ref (g.2.2.2 27)) (C := RX10) (T := TX10) (N := 15) hx hb hts iX10 hown hK.1 hP 0 (gC0 g σ tl) rfl 9 (by decide) k62 (fun _ h9 => h9) rfl dX10_hasCyclePeriods_15 ?_
  refine jn_callv (va_runV (As := [.ref (g.2.2.2 1), .ref (g.2.2.2 27)]) (rest := []) ⟨hx, hb, hml, hown, hts⟩ (c_X6_gather l g tl H.size σ hA hs8) (cwV 2 hts gX10_hasCyclePeriods_X6_gather rfl rfl rfl (by decide +kernel) ⟨Nat.le_of_ble_eq_true rfl, Nat.le_of_ble_eq_true rfl⟩) (okWV hK hP hD rfl (gC29 g σ tl)) rfl rfl hl.1 rfl (lv_room (Nat.le_of_ble_eq_true rfl)) dX10_hasCyclePeriods_18 ⟨Nat.le_of_ble_eq_true rfl, Nat.le_of_ble_eq_true rfl⟩) hD hS hAA (fun u H locs hw_ hP hD hS => ?_)
  obtain ⟨f2_18, n2_18, s8_18⟩ := u
  have h_18 := hw_
  have h_18 : (LOk f2_18 n2_18) ∧ (∀ x, inL f2_18 n2_18 x ↔ cyA (σ.2.1 0) (usf σ) 5 x) ∧ (s8_18 < 5) := h_18
  have hP : va_P (g.1, g.2.1) vwCl (wC g (sA (sF (sF σ 7 n2_18) 8 s8_18) 18 f2_18) ++ tl) H := hP
  have hD : va_D A (wC g (sA (sF (sF σ 7 n2_18) 8 s8_18) 18 f2_18) ++ tl) := hD
  refine lv_aload_n hx hb dX10_hasCyclePeriods_21 rfl (lv_at hl 0 rfl) ?_
  refine va_get (D := (g.1, g.2.1)) (ci := 12) (v := .ref (g.2.2.2 4)) (C := RX10) (T := TX10) (N := 15) hx hb hts iX10 hown hK.1 hP 0 (gC0 g (sA (sF (sF σ 7 n2_18) 8 s8_18) 18 f2_18) tl) rfl 1 (by decide) k19 (fun _ h9 => h9) rfl dX10_hasCyclePeriods_22 ?_
  refine lv_iload_n hx hb dX10_hasCyclePeriods_25 rfl (lv_at hl 1 rfl) ?_
  refine lv_iload_n hx hb dX10_hasCyclePeriods_26 rfl (lv_at hl 2 rfl) ?_
  refine vp_callSi (va_Run.run (va_runV (As := [.int (nI s2), .int (nI ln)]) (rest := []) ⟨hx, hb, hml, hown, hts⟩ (c_X3_periodCount l g tl (sA (sF (sF σ 7 n2_18) 8 s8_18) 18 f2_18) s2 ln hC h_3.1 h_3.2) (cwV 2 hts gX10_hasCyclePeriods_X3_periodCount rfl rfl rfl (by decide +kernel) ⟨Nat.le_of_ble_eq_true rfl, Nat.le_of_ble_eq_true rfl⟩) (okPV hK hP rfl (gC4 g (sA (sF (sF σ 7 n2_18) 8 s8_18) 18 f2_18) tl)) rfl rfl hl.1 rfl (lv_room (Nat.le_of_ble_eq_true rfl)) dX10_hasCyclePeriods_27 ⟨Nat.le_of_ble_eq_true rfl, Nat.le_of_ble_eq_true rfl⟩)) (fun r_27 h_27 => ?_)
  have h_27 : r_27 = (nI ((σ.2.1 2) (s2 * 21 + 1 + ln * 5 + 1))) := h_27
  subst h_27
  have hc5 := (hC s2 h_3.1).2 ln h_3.2
  have hc6 := hc5.2.1
  refine lv_istore_n (lv' := [(3, .int (nI ((σ.2.1 2) (s2 * 21 + 1 + ln * 5 + 1)))), (0, .ref (g.2.2.2 0)), (1, .int (nI s2)), (2, .int (nI ln))]) hx hb dX10_hasCyclePeriods_30 rfl hl (by decide) rfl (fun ls hl => ?_)
  refine lv_iconst (v := nI 0) hx hb dX10_hasCyclePeriods_31 (by decide) ?_
  refine lv_istore (lv' := [(4, .int (nI 0)), (3, .int (nI ((σ.2.1 2) (s2 * 21 + 1 + ln * 5 + 1)))), (0, .ref (g.2.2.2 0)), (1, .int (nI s2)), (2, .int (nI ln))]) hx hb dX10_hasCyclePeriods_32 hl (by decide) rfl (fun ls hl => ?_)
  have lp34 : ∀ (fu : Nat), ∀ (i : Nat), (i ≤ (σ.2.1 2) (s2 * 21 + 1 + ln * 5 + 1)) → (∀ j, j < i → cyA (σ.2.1 0) (usf σ) 5 ((σ.2.1 2) (s2 * 21 + 1 + ln * 5 + 2 + j))) → (σ.2.1 2) (s2 * 21 + 1 + ln * 5 + 1) - i < fu → ∀ (H : Heap) (locs : List Loc), va_P (g.1, g.2.1) vwCl (wC g (sA (sF (sF σ 7 n2_18) 8 s8_18) 18 f2_18) ++ tl) H → va_D A (wC g (sA (sF (sF σ 7 n2_18) 8 s8_18) 18 f2_18) ++ tl) → va_S A s.heap H locs → ∀ ls : Array Slot, lv_has ls 5 [(0, .ref (g.2.2.2 0)), (1, .int (nI s2)), (2, .int (nI ln)), (3, .int (nI ((σ.2.1 2) (s2 * 21 + 1 + ln * 5 + 1)))), (4, .int (nI i))] → W p l e r_c_X10_hasCyclePeriods s m ([.ref (g.2.2.2 0), .int (nI s2), .int (nI ln)] : List Value).toArray below meth c H locs 1 6 Q (F0 m 34 ls []) := by
    intro fu
    induction fu with
    | zero => intro i h1 h2 hf; exact absurd hf (Nat.not_lt_zero _)
    | succ fu ih34 =>
      intro i h1 h2 hf H locs hP hD hS ls hl
      refine lv_iload hx hb dX10_hasCyclePeriods_34 (lv_at hl 4 rfl) ?_
      refine lv_iload_n hx hb dX10_hasCyclePeriods_36 rfl (lv_at hl 3 rfl) ?_
      refine jn_cge hx hb (by omega) (by omega) (tgt := 69) dX10_hasCyclePeriods_37 (by decide) (fun c_37 => ?_) (fun c_37 => ?_)
      · refine lv_iconst (v := nI 1) hx hb dX10_hasCyclePeriods_69 (by decide) ?_
        exact hq _ _ _ _ _ _ ((nI 1)) (1, n2_18, s8_18, f2_18) (Nat.le_of_ble_eq_true rfl) (Nat.le_of_ble_eq_true rfl) dX10_hasCyclePeriods_70 jn_n1 ⟨rfl, h_3, Or.inl ⟨rfl, fun j hj => h2 j (by omega)⟩, h_18.2.2⟩ hP hD hS
      · refine lv_aload_n hx hb dX10_hasCyclePeriods_40 rfl (lv_at hl 0 rfl) ?_
        refine va_get (D := (g.1, g.2.1)) (ci := 12) (v := .ref (g.2.2.2 27)) (C := RX10) (T := TX10) (N := 15) hx hb hts iX10 hown hK.1 hP 0 (gC0 g (sA (sF (sF σ 7 n2_18) 8 s8_18) 18 f2_18) tl) rfl 9 (by decide) k62 (fun _ h9 => h9) rfl dX10_hasCyclePeriods_41 ?_
        refine lv_aload_n hx hb dX10_hasCyclePeriods_44 rfl (lv_at hl 0 rfl) ?_
        refine va_get (D := (g.1, g.2.1)) (ci := 12) (v := .ref (g.2.2.2 4)) (C := RX10) (T := TX10) (N := 15) hx hb hts iX10 hown hK.1 hP 0 (gC0 g (sA (sF (sF σ 7 n2_18) 8 s8_18) 18 f2_18) tl) rfl 1 (by decide) k19 (fun _ h9 => h9) rfl dX10_hasCyclePeriods_45 ?_
        refine lv_iload_n hx hb dX10_hasCyclePeriods_48 rfl (lv_at hl 1 rfl) ?_
        refine lv_iload_n hx hb dX10_hasCyclePeriods_49 rfl (lv_at hl 2 rfl) ?_
        refine lv_iload hx hb dX10_hasCyclePeriods_50 (lv_at hl 4 rfl) ?_
        refine vp_callSi (va_Run.run (va_runV (As := [.int (nI s2), .int (nI ln), .int (nI i)]) (rest := [.ref (g.2.2.2 27)]) ⟨hx, hb, hml, hown, hts⟩ (c_X3_period l g tl (sA (sF (sF σ 7 n2_18) 8 s8_18) 18 f2_18) s2 ln i hC h_3.1 h_3.2 (by exact c_37)) (cwV 3 hts gX10_hasCyclePeriods_X3_period rfl rfl rfl (by decide +kernel) ⟨Nat.le_of_ble_eq_true rfl, Nat.le_of_ble_eq_true rfl⟩) (okPV hK hP rfl (gC4 g (sA (sF (sF σ 7 n2_18) 8 s8_18) 18 f2_18) tl)) rfl rfl hl.1 rfl (lv_room (Nat.le_of_ble_eq_true rfl)) dX10_hasCyclePeriods_52 ⟨Nat.le_of_ble_eq_true rfl, Nat.le_of_ble_eq_true rfl⟩)) (fun r_52 h_52 => ?_)
        have h_52 : r_52 = (nI ((σ.2.1 2) (s2 * 21 + 1 + ln * 5 + 2 + i))) := h_52
        subst h_52
        refine vp_callSi (va_Run.run (va_runV (As := [.int (nI ((σ.2.1 2) (s2 * 21 + 1 + ln * 5 + 2 + i)))]) (rest := []) ⟨hx, hb, hml, hown, hts⟩ (c_X4_holds_27 l g tl (sA (sF (sF σ 7 n2_18) 8 s8_18) 18 f2_18) ((σ.2.1 2) (s2 * 21 + 1 + ln * 5 + 2 + i)) h_18.1 (hc5.2.2 i (by omega)).2) (cwV 1 hts gX10_hasCyclePeriods_X4_holds rfl rfl rfl (by decide +kernel) ⟨Nat.le_of_ble_eq_true rfl, Nat.le_of_ble_eq_true rfl⟩) (okPV hK hP rfl (gC27 g (sA (sF (sF σ 7 n2_18) 8 s8_18) 18 f2_18) tl)) rfl rfl hl.1 rfl (lv_room (Nat.le_of_ble_eq_true rfl)) dX10_hasCyclePeriods_55 ⟨Nat.le_of_ble_eq_true rfl, Nat.le_of_ble_eq_true rfl⟩)) (fun r_55 h_55 => ?_)
        have h_55 : r_55 = (nI (if inL (f2_18) (n2_18) ((σ.2.1 2) (s2 * 21 + 1 + ln * 5 + 2 + i)) then 1 else 0)) := h_55
        subst h_55
        refine jn_bne hx hb (tgt := 63) dX10_hasCyclePeriods_58 (by decide) (fun c_58 => ?_) (fun c_58 => ?_)
        · refine lv_iinc (v := nI (i + 1)) (lv' := [(4, .int (nI (i + 1))), (0, .ref (g.2.2.2 0)), (1, .int (nI s2)), (2, .int (nI ln)), (3, .int (nI ((σ.2.1 2) (s2 * 21 + 1 + ln * 5 + 1))))]) hx hb dX10_hasCyclePeriods_63 hl (k := 4) rfl (jn_ii _ 1) (by decide) rfl (fun ls hl => ?_)
          refine lv_goto (tgt := 34) hx hb dX10_hasCyclePeriods_66 (by decide) ?_
          exact ih34 (i + 1) (by omega) (fun j hj => by rcases Nat.lt_or_ge j i with q | q; { exact h2 j q }; { rw [show j = i by omega]; exact (h_18.2.1 _).mp c_58 }) (by omega) _ _ hP hD hS _ (lv_sub hl [1, 2, 3, 4, 0] rfl)
        · refine lv_iconst (v := nI 0) hx hb dX10_hasCyclePeriods_61 (by decide) ?_
          exact hq _ _ _ _ _ _ ((nI 0)) (0, n2_18, s8_18, f2_18) (Nat.le_of_ble_eq_true rfl) (Nat.le_of_ble_eq_true rfl) dX10_hasCyclePeriods_62 jn_n0 ⟨rfl, h_3, Or.inr ⟨rfl, i, by omega, fun q => c_58 ((h_18.2.1 _).mpr q)⟩, h_18.2.2⟩ hP hD hS
  exact lp34 _ 0 (by omega) (fun j hj => absurd hj (by omega)) (Nat.lt_succ_self _) _ _ hP hD hS _ (lv_sub hl [2, 3, 4, 1, 0] rfl)

abbrev r_c_X10_acceptedWords : Room := { frames := 14, cells := 3, slots := 18, locals := 367 }
set_option maxHeartbeats 4000000 in
set_option maxRecDepth 100000 in
theorem c_X10_acceptedWords (l : Launch) (hflg : l.stackTraces = false) (g : GC) (tl : va_W) (sz : Nat) (σ : SS) (md n : Nat) (hA : OkA σ) (hmd : md < 4294967296) (hn : n < 4294967296) : vx_Met l yX10_acceptedWords wsX10_acceptedWords r_c_X10_acceptedWords (va_Pc [.ref (g.2.2.2 0), .int (nI md), .int (nI n)] (PX g (wC g σ ++ tl) sz)) (va_Ql (fun (r : Int64) (z : (Nat → Nat) × (Nat → Nat) × (Nat → Nat) × Nat × Nat × Nat × Nat × Nat) => match z with | (f15, l0, l1, m2, r2, k2, j2, p2) => (r = lN (cwN (σ.2.1 0) (σ.1 0) md n)) ∧ (md < 3) ∧ (n < 8) ∧ (md = 2 → detT (σ.2.1 0))) (fun (z : (Nat → Nat) × (Nat → Nat) × (Nat → Nat) × Nat × Nat × Nat × Nat × Nat) t => BW g (va_A (wC g σ ++ tl) sz) ((fun z : (Nat → Nat) × (Nat → Nat) × (Nat → Nat) × Nat × Nat × Nat × Nat × Nat => match z with | (f15, l0, l1, m2, r2, k2, j2, p2) => wC g (sF (sF (sF (sF (sF (sL (sL (sA σ 15 f15) 0 l0) 1 l1) 12 m2) 13 r2) 14 k2) 15 j2) 16 p2) ++ tl) z) t) (va_A (wC g σ ++ tl) sz)) (XW g (va_A (wC g σ ++ tl) sz) (fun (E : String) (_ : Unit) => (E = "java/lang/IllegalArgumentException" ∧ (¬ (md < 3 ∧ n < 8))) ∨ (E = "java/lang/UnsupportedOperationException" ∧ ((md < 3 ∧ n < 8) ∧ md = 2 ∧ ¬ detT (σ.2.1 0)))) (fun _ : Unit => wC g σ ++ tl)) 3 18 (va_A (wC g σ ++ tl) sz) := by
  refine jx_l hflg (wf := fun z : (Nat → Nat) × (Nat → Nat) × (Nat → Nat) × Nat × Nat × Nat × Nat × Nat => match z with | (f15, l0, l1, m2, r2, k2, j2, p2) => wC g (sF (sF (sF (sF (sF (sL (sL (sA σ 15 f15) 0 l0) 1 l1) 12 m2) 13 r2) 14 k2) 15 j2) 16 p2) ++ tl) (wx := fun _ : Unit => wC g σ ++ tl) (cc := cX10_acceptedWords) (maxL := 3) (by decide) rfl rfl (Nat.le_of_ble_eq_true rfl) ?_
  intro p e s m below meth c Q A hx hb hml hown hts hKX hP hD hS hAA hZ hq hqt hqw hqo ls hl
  have hK := hKX.1
  obtain ⟨H, eH⟩ : ∃ z, z = s.heap := ⟨_, rfl⟩
  obtain ⟨locs, el⟩ : ∃ z : List Loc, z = [] := ⟨_, rfl⟩
  rw [← eH] at hP
  have hS : va_S A s.heap H locs := by rw [eH, el]; exact hS
  have goal0 : W p l e r_c_X10_acceptedWords s m ([.ref (g.2.2.2 0), .int (nI md), .int (nI n)] : List Value).toArray below meth c H locs 0 0 Q (F0 m 0 ls []) → W p l e r_c_X10_acceptedWords s m ([.ref (g.2.2.2 0), .int (nI md), .int (nI n)] : List Value).toArray below meth c s.heap [] 0 0 Q (F0 m 0 ls []) := fun h => by rw [eH, el] at h; exact h
  refine goal0 ?_
  have hl : lv_has ls 3 [(0, .ref (g.2.2.2 0)), (1, .int (nI md)), (2, .int (nI n))] := hl
  refine lv_iload_n hx hb dX10_acceptedWords_0 rfl (lv_at hl 1 rfl) ?_
  refine jx_callv (vx_runS (As := [.int (nI md)]) (rest := []) ⟨hx, hb, hml, hown, hts⟩ (c_X10_requireMode l hflg g tl H.size σ md (by omega)) (va_cwS 1 hts gX10_acceptedWords_X10_requireMode rfl rfl rfl (by decide +kernel) ⟨Nat.le_of_ble_eq_true rfl, Nat.le_of_ble_eq_true rfl⟩) (okXS hKX hP hD hZ hS hAA) rfl rfl hl.1 rfl (lv_room (Nat.le_of_ble_eq_true rfl)) dX10_acceptedWords_1 ⟨Nat.le_of_ble_eq_true rfl, Nat.le_of_ble_eq_true rfl⟩) hD hS hAA (fun E ce q9 u H locs hxp hP hD hS h7 h8 h9 => ?_) (fun u H locs hw_ hP hD hS => ?_)
  · have hxp : (E = "java/lang/IllegalArgumentException" ∧ (¬ md < 3)) := hxp
    rcases hxp with ⟨eE, hc⟩
    · exact hqo _ _ _ _ _ _ _ _ _ _ () (Nat.le_of_ble_eq_true rfl) (Nat.le_of_ble_eq_true rfl) h7 h8 h9 (Or.inl ⟨eE, (by first | exact hc | omega)⟩) hP hD hS
  have h_1 := hw_
  have h_1 : md < 3 := h_1
  have hP : va_P (g.1, g.2.1) vwCl (wC g σ ++ tl) H := hP
  have hD : va_D A (wC g σ ++ tl) := hD
  refine lv_iload_n hx hb dX10_acceptedWords_4 rfl (lv_at hl 2 rfl) ?_
  refine jx_callv (vx_runS (As := [.int (nI n)]) (rest := []) ⟨hx, hb, hml, hown, hts⟩ (c_X10_requireLength l hflg g tl H.size σ n (by omega)) (va_cwS 1 hts gX10_acceptedWords_X10_requireLength rfl rfl rfl (by decide +kernel) ⟨Nat.le_of_ble_eq_true rfl, Nat.le_of_ble_eq_true rfl⟩) (okXS hKX hP hD hZ hS hAA) rfl rfl hl.1 rfl (lv_room (Nat.le_of_ble_eq_true rfl)) dX10_acceptedWords_5 ⟨Nat.le_of_ble_eq_true rfl, Nat.le_of_ble_eq_true rfl⟩) hD hS hAA (fun E ce q9 u H locs hxp hP hD hS h7 h8 h9 => ?_) (fun u H locs hw_ hP hD hS => ?_)
  · have hxp : (E = "java/lang/IllegalArgumentException" ∧ (¬ n < 8)) := hxp
    rcases hxp with ⟨eE, hc⟩
    · exact hqo _ _ _ _ _ _ _ _ _ _ () (Nat.le_of_ble_eq_true rfl) (Nat.le_of_ble_eq_true rfl) h7 h8 h9 (Or.inl ⟨eE, (by first | exact hc | omega)⟩) hP hD hS
  have h_5 := hw_
  have h_5 : n < 8 := h_5
  have hP : va_P (g.1, g.2.1) vwCl (wC g σ ++ tl) H := hP
  have hD : va_D A (wC g σ ++ tl) := hD
  refine lv_aload_n hx hb dX10_acceptedWords_8 rfl (lv_at hl 0 rfl) ?_
  refine lv_iload_n hx hb dX10_acceptedWords_9 rfl (lv_at hl 1 rfl) ?_
  refine jx_callv (vx_runV (As := [.int (nI md)]) (rest := []) ⟨hx, hb, hml, hown, hts⟩ (c_X10_requireReadable l hflg g tl H.size σ md hA h_1) (cwV 1 hts gX10_acceptedWords_X10_requireReadable rfl rfl rfl (by decide +kernel) ⟨Nat.le_of_ble_eq_true rfl, Nat.le_of_ble_eq_true rfl⟩) (okXV hKX hP hD hZ hS hAA rfl (gC0 g σ tl)) rfl rfl hl.1 rfl (lv_room (Nat.le_of_ble_eq_true rfl)) dX10_acceptedWords_10 ⟨Nat.le_of_ble_eq_true rfl, Nat.le_of_ble_eq_true rfl⟩) hD hS hAA (fun E ce q9 u H locs hxp hP hD hS h7 h8 h9 => ?_) (fun u H locs hw_ hP hD hS => ?_)
  · have hxp : (E = "java/lang/UnsupportedOperationException" ∧ (md = 2 ∧ ¬ detT (σ.2.1 0))) := hxp
    rcases hxp with ⟨eE, hc⟩
    · exact hqo _ _ _ _ _ _ _ _ _ _ () (Nat.le_of_ble_eq_true rfl) (Nat.le_of_ble_eq_true rfl) h7 h8 h9 (Or.inr ⟨eE, ⟨⟨h_1, h_5⟩, hc⟩⟩) hP hD hS
  have h_10 := hw_
  have h_10 : md = 2 → detT (σ.2.1 0) := h_10
  have hP : va_P (g.1, g.2.1) vwCl (wC g σ ++ tl) H := hP
  have hD : va_D A (wC g σ ++ tl) := hD
  refine lv_aload_n hx hb dX10_acceptedWords_13 rfl (lv_at hl 0 rfl) ?_
  refine lv_iload_n hx hb dX10_acceptedWords_14 rfl (lv_at hl 1 rfl) ?_
  refine lv_iload_n hx hb dX10_acceptedWords_15 rfl (lv_at hl 2 rfl) ?_
  refine jn_calll (va_runV (As := [.int (nI md), .int (nI n)]) (rest := []) ⟨hx, hb, hml, hown, hts⟩ (c_X10_countWords l g tl H.size σ md n hA h_1 (by omega)) (cwV 2 hts gX10_acceptedWords_X10_countWords rfl rfl rfl (by decide +kernel) ⟨Nat.le_of_ble_eq_true rfl, Nat.le_of_ble_eq_true rfl⟩) (okWV hK hP hD rfl (gC0 g σ tl)) rfl rfl hl.1 rfl (lv_room (Nat.le_of_ble_eq_true rfl)) dX10_acceptedWords_16 ⟨Nat.le_of_ble_eq_true rfl, Nat.le_of_ble_eq_true rfl⟩) hD hS hAA (fun r_16 u H locs hw_ hP hD hS => ?_)
  obtain ⟨f15_16, l0_16, l1_16, m2_16, r2_16, k2_16, j2_16, p2_16⟩ := u
  obtain rfl := hw_
  have hP : va_P (g.1, g.2.1) vwCl (wC g (sF (sF (sF (sF (sF (sL (sL (sA σ 15 f15_16) 0 l0_16) 1 l1_16) 12 m2_16) 13 r2_16) 14 k2_16) 15 j2_16) 16 p2_16) ++ tl) H := hP
  have hD : va_D A (wC g (sF (sF (sF (sF (sF (sL (sL (sA σ 15 f15_16) 0 l0_16) 1 l1_16) 12 m2_16) 13 r2_16) 14 k2_16) 15 j2_16) 16 p2_16) ++ tl) := hD
  exact hq _ _ _ _ _ _ ((lN (cwN (σ.2.1 0) (σ.1 0) md n))) (f15_16, l0_16, l1_16, m2_16, r2_16, k2_16, j2_16, p2_16) (Nat.le_of_ble_eq_true rfl) (Nat.le_of_ble_eq_true rfl) dX10_acceptedWords_19 ⟨rfl, h_1, h_5, h_10⟩ hP hD hS

abbrev r_c_X10_isClosed : Room := { frames := 7, cells := 1, slots := 6, locals := 111 }
set_option maxHeartbeats 4000000 in
set_option maxRecDepth 100000 in
theorem c_X10_isClosed (l : Launch) (hflg : l.stackTraces = false) (g : GC) (tl : va_W) (sz : Nat) (σ : SS) (n : Nat) (hA : OkA σ) (hn : n < 4294967296) : vx_Met l yX10_isClosed wsX10_isClosed r_c_X10_isClosed (va_Pc [.ref (g.2.2.2 0), .int (nI n)] (PX g (wC g σ ++ tl) sz)) (va_Qi (fun (r : Int32) (z : (Nat → Nat) × (Nat → Nat) × (Nat → Nat)) => match z with | (f15, l0, l1) => (r = nI (if ¬ solF (σ.2.1 0) (σ.1 0) n ≤ n then 1 else 0)) ∧ (n < 8)) (fun (z : (Nat → Nat) × (Nat → Nat) × (Nat → Nat)) t => BW g (va_A (wC g σ ++ tl) sz) ((fun z : (Nat → Nat) × (Nat → Nat) × (Nat → Nat) => match z with | (f15, l0, l1) => wC g (sL (sL (sA σ 15 f15) 0 l0) 1 l1) ++ tl) z) t) (va_A (wC g σ ++ tl) sz)) (XW g (va_A (wC g σ ++ tl) sz) (fun (E : String) (_ : Unit) => (E = "java/lang/IllegalArgumentException" ∧ (¬ n < 8))) (fun _ : Unit => wC g σ ++ tl)) 1 6 (va_A (wC g σ ++ tl) sz) := by
  refine jx_z hflg (wf := fun z : (Nat → Nat) × (Nat → Nat) × (Nat → Nat) => match z with | (f15, l0, l1) => wC g (sL (sL (sA σ 15 f15) 0 l0) 1 l1) ++ tl) (wx := fun _ : Unit => wC g σ ++ tl) (cc := cX10_isClosed) (maxL := 2) (by decide) rfl rfl (Nat.le_of_ble_eq_true rfl) ?_
  intro p e s m below meth c Q A hx hb hml hown hts hKX hP hD hS hAA hZ hq hqt hqw hqo ls hl
  have hK := hKX.1
  obtain ⟨H, eH⟩ : ∃ z, z = s.heap := ⟨_, rfl⟩
  obtain ⟨locs, el⟩ : ∃ z : List Loc, z = [] := ⟨_, rfl⟩
  rw [← eH] at hP
  have hS : va_S A s.heap H locs := by rw [eH, el]; exact hS
  have goal0 : W p l e r_c_X10_isClosed s m ([.ref (g.2.2.2 0), .int (nI n)] : List Value).toArray below meth c H locs 0 0 Q (F0 m 0 ls []) → W p l e r_c_X10_isClosed s m ([.ref (g.2.2.2 0), .int (nI n)] : List Value).toArray below meth c s.heap [] 0 0 Q (F0 m 0 ls []) := fun h => by rw [eH, el] at h; exact h
  refine goal0 ?_
  have hl : lv_has ls 2 [(0, .ref (g.2.2.2 0)), (1, .int (nI n))] := hl
  refine lv_iload_n hx hb dX10_isClosed_0 rfl (lv_at hl 1 rfl) ?_
  refine jx_callv (vx_runS (As := [.int (nI n)]) (rest := []) ⟨hx, hb, hml, hown, hts⟩ (c_X10_requireLength l hflg g tl H.size σ n (by omega)) (va_cwS 1 hts gX10_isClosed_X10_requireLength rfl rfl rfl (by decide +kernel) ⟨Nat.le_of_ble_eq_true rfl, Nat.le_of_ble_eq_true rfl⟩) (okXS hKX hP hD hZ hS hAA) rfl rfl hl.1 rfl (lv_room (Nat.le_of_ble_eq_true rfl)) dX10_isClosed_1 ⟨Nat.le_of_ble_eq_true rfl, Nat.le_of_ble_eq_true rfl⟩) hD hS hAA (fun E ce q9 u H locs hxp hP hD hS h7 h8 h9 => ?_) (fun u H locs hw_ hP hD hS => ?_)
  · have hxp : (E = "java/lang/IllegalArgumentException" ∧ (¬ n < 8)) := hxp
    rcases hxp with ⟨eE, hc⟩
    · exact hqo _ _ _ _ _ _ _ _ _ _ () (Nat.le_of_ble_eq_true rfl) (Nat.le_of_ble_eq_true rfl) h7 h8 h9 ⟨eE, (by first | exact hc | omega)⟩ hP hD hS
  have h_1 := hw_
  have h_1 : n < 8 := h_1
  have hP : va_P (g.1, g.2.1) vwCl (wC g σ ++ tl) H := hP
  have hD : va_D A (wC g σ ++ tl) := hD
  refine lv_aload_n hx hb dX10_isClosed_4 rfl (lv_at hl 0 rfl) ?_
  refine lv_iload_n hx hb dX10_isClosed_5 rfl (lv_at hl 1 rfl) ?_
  refine jn_calli (va_runV (As := [.int (nI n)]) (rest := []) ⟨hx, hb, hml, hown, hts⟩ (c_X10_shortestOpenLength l g tl H.size σ n hA (by omega)) (cwV 1 hts gX10_isClosed_X10_shortestOpenLength rfl rfl rfl (by decide +kernel) ⟨Nat.le_of_ble_eq_true rfl, Nat.le_of_ble_eq_true rfl⟩) (okWV hK hP hD rfl (gC0 g σ tl)) rfl rfl hl.1 rfl (lv_room (Nat.le_of_ble_eq_true rfl)) dX10_isClosed_6 ⟨Nat.le_of_ble_eq_true rfl, Nat.le_of_ble_eq_true rfl⟩) hD hS hAA (fun r_6 u H locs hw_ hP hD hS => ?_)
  obtain ⟨f15_6, l0_6, l1_6⟩ := u
  obtain ⟨rfl, h_6⟩ := hw_
  have h_6 : ∀ a b c, a ≤ n → b ≤ n → c ≤ n → f15_6 (100 * a + 10 * b + c) = rch (σ.2.1 0) a b c := h_6
  have hP : va_P (g.1, g.2.1) vwCl (wC g (sL (sL (sA σ 15 f15_6) 0 l0_6) 1 l1_6) ++ tl) H := hP
  have hD : va_D A (wC g (sL (sL (sA σ 15 f15_6) 0 l0_6) 1 l1_6) ++ tl) := hD
  have hsc := sol_c (T := (σ.2.1 0)) (fin := (σ.1 0)) (n := n) (by omega)
  refine jn_zge hx hb (by omega) (tgt := 16) dX10_isClosed_9 (by decide) (fun c_9 => ?_) (fun c_9 => ?_)
  · refine lv_iconst (v := nI 0) hx hb dX10_isClosed_16 (by decide) ?_
    exact hq _ _ _ _ _ _ ((nI 0)) (f15_6, l0_6, l1_6) (Nat.le_of_ble_eq_true rfl) (Nat.le_of_ble_eq_true rfl) dX10_isClosed_17 jn_n0 (by first | exact ⟨by rw [if_neg (by omega)], h_1⟩ | exact ⟨by rw [if_pos (by omega)], h_1⟩) hP hD hS
  · refine lv_iconst (v := nI 1) hx hb dX10_isClosed_12 (by decide) ?_
    refine lv_goto (tgt := 17) hx hb dX10_isClosed_13 (by decide) ?_
    exact hq _ _ _ _ _ _ ((nI 1)) (f15_6, l0_6, l1_6) (Nat.le_of_ble_eq_true rfl) (Nat.le_of_ble_eq_true rfl) dX10_isClosed_17 jn_n1 (by first | exact ⟨by rw [if_neg (by omega)], h_1⟩ | exact ⟨by rw [if_pos (by omega)], h_1⟩) hP hD hS

abbrev r_c_X10_takeOpenWord : Room := { frames := 10, cells := 2, slots := 12, locals := 260 }
set_option maxHeartbeats 4000000 in
set_option maxRecDepth 100000 in
theorem c_X10_takeOpenWord (l : Launch) (hflg : l.stackTraces = false) (g : GC) (tl : va_W) (sz : Nat) (σ : SS) (n : Nat) (hA : OkA σ) (hn : n < 4294967296) : vx_Met l yX10_takeOpenWord wsX10_takeOpenWord r_c_X10_takeOpenWord (va_Pc [.ref (g.2.2.2 0), .int (nI n)] (PX g (wC g σ ++ tl) sz)) (va_Qi (fun (r : Int32) (z : (Nat → Nat) × (Nat → Nat) × (Nat → Nat) × Nat × (Nat → Nat)) => match z with | (f15, l0, l1, n17, lt2) => (r = nI ((solF (σ.2.1 0) (σ.1 0) n))) ∧ (n < 8) ∧ ((solF (σ.2.1 0) (σ.1 0) n) ≤ n) ∧ (∀ a b c, a ≤ n → b ≤ n → c ≤ n → f15 (100 * a + 10 * b + c) = rch (σ.2.1 0) a b c) ∧ (opP (σ.2.1 0) f15 (σ.1 0) (solF (σ.2.1 0) (σ.1 0) n) 1 0) ∧ (isOp (σ.2.1 0) f15 (σ.1 0) (solF (σ.2.1 0) (σ.1 0) n) 1 0 lt2)) (fun (z : (Nat → Nat) × (Nat → Nat) × (Nat → Nat) × Nat × (Nat → Nat)) t => BW g (va_A (wC g σ ++ tl) sz) ((fun z : (Nat → Nat) × (Nat → Nat) × (Nat → Nat) × Nat × (Nat → Nat) => match z with | (f15, l0, l1, n17, lt2) => wC g (sF (sF (sA (sA (sF (sL (sL (sA σ 15 f15) 0 l0) 1 l1) 17 n17) 19 lt2) 14 (va_cpy lt2 (σ.2.1 14) 0 0 (solF (σ.2.1 0) (σ.1 0) n))) 20 ((solF (σ.2.1 0) (σ.1 0) n))) 21 0) ++ tl) z) t) (va_A (wC g σ ++ tl) sz)) (XW g (va_A (wC g σ ++ tl) sz) (fun (E : String) (z : (Nat → Nat) × (Nat → Nat) × (Nat → Nat) × Nat × (Nat → Nat)) => match z with | (f15, l0, l1, n17, lt2) => (E = "java/lang/IllegalArgumentException" ∧ (¬ n < 8)) ∨ (E = "java/util/NoSuchElementException" ∧ (n < 8 ∧ (∀ a b c, a ≤ n → b ≤ n → c ≤ n → f15 (100 * a + 10 * b + c) = rch (σ.2.1 0) a b c) ∧ (¬ (solF (σ.2.1 0) (σ.1 0) n) ≤ n ∨ ¬ opP (σ.2.1 0) f15 (σ.1 0) (solF (σ.2.1 0) (σ.1 0) n) 1 0)))) (fun z : (Nat → Nat) × (Nat → Nat) × (Nat → Nat) × Nat × (Nat → Nat) => match z with | (f15, l0, l1, n17, lt2) => wC g (sA (sF (sL (sL (sA σ 15 f15) 0 l0) 1 l1) 17 n17) 19 lt2) ++ tl)) 2 12 (va_A (wC g σ ++ tl) sz) := by
  refine jx_i hflg (wf := fun z : (Nat → Nat) × (Nat → Nat) × (Nat → Nat) × Nat × (Nat → Nat) => match z with | (f15, l0, l1, n17, lt2) => wC g (sF (sF (sA (sA (sF (sL (sL (sA σ 15 f15) 0 l0) 1 l1) 17 n17) 19 lt2) 14 (va_cpy lt2 (σ.2.1 14) 0 0 (solF (σ.2.1 0) (σ.1 0) n))) 20 ((solF (σ.2.1 0) (σ.1 0) n))) 21 0) ++ tl) (wx := fun z : (Nat → Nat) × (Nat → Nat) × (Nat → Nat) × Nat × (Nat → Nat) => match z with | (f15, l0, l1, n17, lt2) => wC g (sA (sF (sL (sL (sA σ 15 f15) 0 l0) 1 l1) 17 n17) 19 lt2) ++ tl) (cc := cX10_takeOpenWord) (maxL := 3) (by decide) rfl rfl (Nat.le_of_ble_eq_true rfl) ?_
  intro p e s m below meth c Q A hx hb hml hown hts hKX hP hD hS hAA hZ hq hqt hqw hqo ls hl
  have hK := hKX.1
  obtain ⟨H, eH⟩ : ∃ z, z = s.heap := ⟨_, rfl⟩
  obtain ⟨locs, el⟩ : ∃ z : List Loc, z = [] := ⟨_, rfl⟩
  rw [← eH] at hP
  have hS : va_S A s.heap H locs := by rw [eH, el]; exact hS
  have goal0 : W p l e r_c_X10_takeOpenWord s m ([.ref (g.2.2.2 0), .int (nI n)] : List Value).toArray below meth c H locs 0 0 Q (F0 m 0 ls []) → W p l e r_c_X10_takeOpenWord s m ([.ref (g.2.2.2 0), .int (nI n)] : List Value).toArray below meth c s.heap [] 0 0 Q (F0 m 0 ls []) := fun h => by rw [eH, el] at h; exact h
  refine goal0 ?_
  have hl : lv_has ls 3 [(0, .ref (g.2.2.2 0)), (1, .int (nI n))] := hl
  have iX10 : ∀ w ∈ wsX100, w ∈ wsX10_takeOpenWord := by decide +kernel
  have k75 := hts (.fieldLink RX10 75 "JumpingAutomata" "search" "LJumpingAutomata$WordSearch;") (by decide +kernel)
  have k12 := hts (.fieldLink RX10 12 "JumpingAutomata" "automaton" "LJumpingAutomata$Automaton;") (by decide +kernel)
  have k48 := hts (.fieldLink RX10 48 "JumpingAutomata" "reached" "LJumpingAutomata$CountsTable;") (by decide +kernel)
  have k41 := hts (.fieldLink RX10 41 "JumpingAutomata" "wordSize" "I") (by decide +kernel)
  refine lv_iload_n hx hb dX10_takeOpenWord_0 rfl (lv_at hl 1 rfl) ?_
  refine jx_callv (vx_runS (As := [.int (nI n)]) (rest := []) ⟨hx, hb, hml, hown, hts⟩ (c_X10_requireLength l hflg g tl H.size σ n (by omega)) (va_cwS 1 hts gX10_takeOpenWord_X10_requireLength rfl rfl rfl (by decide +kernel) ⟨Nat.le_of_ble_eq_true rfl, Nat.le_of_ble_eq_true rfl⟩) (okXS hKX hP hD hZ hS hAA) rfl rfl hl.1 rfl (lv_room (Nat.le_of_ble_eq_true rfl)) dX10_takeOpenWord_1 ⟨Nat.le_of_ble_eq_true rfl, Nat.le_of_ble_eq_true rfl⟩) hD hS hAA (fun E ce q9 u H locs hxp hP hD hS h7 h8 h9 => ?_) (fun u H locs hw_ hP hD hS => ?_)
  · have hxp : (E = "java/lang/IllegalArgumentException" ∧ (¬ n < 8)) := hxp
    rcases hxp with ⟨eE, hc⟩
    · exact hqo _ _ _ _ _ _ _ _ _ _ ((σ.2.1 15), (σ.2.2 0), (σ.2.2 1), (σ.1 17), (σ.2.1 19)) (Nat.le_of_ble_eq_true rfl) (Nat.le_of_ble_eq_true rfl) h7 h8 h9 (Or.inl ⟨eE, (by first | exact hc | omega)⟩) hP hD hS
  have h_1 := hw_
  have h_1 : n < 8 := h_1
  have hP : va_P (g.1, g.2.1) vwCl (wC g σ ++ tl) H := hP
  have hD : va_D A (wC g σ ++ tl) := hD
  refine lv_aload_n hx hb dX10_takeOpenWord_4 rfl (lv_at hl 0 rfl) ?_
  refine lv_iload_n hx hb dX10_takeOpenWord_5 rfl (lv_at hl 1 rfl) ?_
  refine jn_calli (va_runV (As := [.int (nI n)]) (rest := []) ⟨hx, hb, hml, hown, hts⟩ (c_X10_shortestOpenLength l g tl H.size σ n hA (by omega)) (cwV 1 hts gX10_takeOpenWord_X10_shortestOpenLength rfl rfl rfl (by decide +kernel) ⟨Nat.le_of_ble_eq_true rfl, Nat.le_of_ble_eq_true rfl⟩) (okWV hK hP hD rfl (gC0 g σ tl)) rfl rfl hl.1 rfl (lv_room (Nat.le_of_ble_eq_true rfl)) dX10_takeOpenWord_6 ⟨Nat.le_of_ble_eq_true rfl, Nat.le_of_ble_eq_true rfl⟩) hD hS hAA (fun r_6 u H locs hw_ hP hD hS => ?_)
  obtain ⟨f15_6, l0_6, l1_6⟩ := u
  obtain ⟨rfl, h_6⟩ := hw_
  have h_6 : ∀ a b c, a ≤ n → b ≤ n → c ≤ n → f15_6 (100 * a + 10 * b + c) = rch (σ.2.1 0) a b c := h_6
  have hP : va_P (g.1, g.2.1) vwCl (wC g (sL (sL (sA σ 15 f15_6) 0 l0_6) 1 l1_6) ++ tl) H := hP
  have hD : va_D A (wC g (sL (sL (sA σ 15 f15_6) 0 l0_6) 1 l1_6) ++ tl) := hD
  refine jn_nm (fun ol eol => ?_)
  have hsc := sol_c (T := (σ.2.1 0)) (fin := (σ.1 0)) (n := n) (by omega)
  refine lv_istore_n (lv' := [(2, .int (nI ol)), (0, .ref (g.2.2.2 0)), (1, .int (nI n))]) hx hb dX10_takeOpenWord_9 rfl hl (by decide) rfl (fun ls hl => ?_)
  refine lv_iload_n hx hb dX10_takeOpenWord_10 rfl (lv_at hl 0 rfl) ?_
  refine jn_zlt hx hb (by omega) (tgt := 33) dX10_takeOpenWord_11 (by decide) (fun c_11 => ?_) (fun c_11 => ?_)
  · exact hqw _ _ _ _ 33 164 371 168 "java/util/NoSuchElementException" "there is no such word" _ (f15_6, l0_6, l1_6, (σ.1 17), (σ.2.1 19)) hl.1 dX10_takeOpenWord_33 dX10_takeOpenWord_36 dX10_takeOpenWord_37 dX10_takeOpenWord_40 dX10_takeOpenWord_43 ⟨by decide +kernel, by decide +kernel, fun w hw => List.mem_cons_of_mem _ (List.mem_append_left _ (List.mem_append_left _ (List.mem_append_left _ (List.mem_append_right _ hw)))), by decide +kernel, by decide +kernel, by decide +kernel, by decide +kernel, by decide +kernel, Nat.le_of_ble_eq_true rfl, Nat.le_of_ble_eq_true rfl⟩ (Nat.le_of_ble_eq_true rfl) (Nat.le_of_ble_eq_true rfl) (Nat.le_of_ble_eq_true rfl) (Nat.le_of_ble_eq_true rfl) (Or.inr ⟨rfl, (by first | exact ⟨h_1, h_6, Or.inl (by omega)⟩ | exact ⟨h_1, h_6, Or.inr (h_27.resolve_left (fun z => by have := z.1; omega)).2⟩)⟩) hP hD hS
  · have hle : (solF (σ.2.1 0) (σ.1 0) n) ≤ n := by omega
    have eol2 : ol = (solF (σ.2.1 0) (σ.1 0) n) := by omega
    clear eol
    subst eol2
    refine lv_aload_n hx hb dX10_takeOpenWord_14 rfl (lv_at hl 1 rfl) ?_
    refine va_get (D := (g.1, g.2.1)) (ci := 12) (v := .ref (g.2.2.2 30)) (C := RX10) (T := TX10) (N := 15) hx hb hts iX10 hown hK.1 hP 0 (gC0 g (sL (sL (sA σ 15 f15_6) 0 l0_6) 1 l1_6) tl) rfl 11 (by decide) k75 (fun _ h9 => h9) rfl dX10_takeOpenWord_15 ?_
    refine lv_aload_n hx hb dX10_takeOpenWord_18 rfl (lv_at hl 1 rfl) ?_
    refine va_get (D := (g.1, g.2.1)) (ci := 12) (v := .ref (g.2.2.2 1)) (C := RX10) (T := TX10) (N := 15) hx hb hts iX10 hown hK.1 hP 0 (gC0 g (sL (sL (sA σ 15 f15_6) 0 l0_6) 1 l1_6) tl) rfl 0 (by decide) k12 (fun _ h9 => h9) rfl dX10_takeOpenWord_19 ?_
    refine lv_aload_n hx hb dX10_takeOpenWord_22 rfl (lv_at hl 1 rfl) ?_
    refine va_get (D := (g.1, g.2.1)) (ci := 12) (v := .ref (g.2.2.2 21)) (C := RX10) (T := TX10) (N := 15) hx hb hts iX10 hown hK.1 hP 0 (gC0 g (sL (sL (sA σ 15 f15_6) 0 l0_6) 1 l1_6) tl) rfl 6 (by decide) k48 (fun _ h9 => h9) rfl dX10_takeOpenWord_23 ?_
    refine lv_iload_n hx hb dX10_takeOpenWord_26 rfl (lv_at hl 0 rfl) ?_
    refine jn_calli (va_runV (As := [.ref (g.2.2.2 1), .ref (g.2.2.2 21), .int (nI (((solF (σ.2.1 0) (σ.1 0) n))))]) (rest := []) ⟨hx, hb, hml, hown, hts⟩ (c_X9_findOpenWord l g tl H.size (sL (sL (sA σ 15 f15_6) 0 l0_6) 1 l1_6) (((solF (σ.2.1 0) (σ.1 0) n))) hA (by omega)) (cwV 3 hts gX10_takeOpenWord_X9_findOpenWord rfl rfl rfl (by decide +kernel) ⟨Nat.le_of_ble_eq_true rfl, Nat.le_of_ble_eq_true rfl⟩) (okWV hK hP hD rfl (gC30 g (sL (sL (sA σ 15 f15_6) 0 l0_6) 1 l1_6) tl)) rfl rfl hl.1 rfl (lv_room (Nat.le_of_ble_eq_true rfl)) dX10_takeOpenWord_27 ⟨Nat.le_of_ble_eq_true rfl, Nat.le_of_ble_eq_true rfl⟩) hD hS hAA (fun r_27 u H locs hw_ hP hD hS => ?_)
    obtain ⟨b_27, lt2_27⟩ := u
    obtain ⟨rfl, h_27⟩ := hw_
    have h_27 : (b_27 = 1 ∧ opP (σ.2.1 0) (f15_6) (σ.1 0) (((solF (σ.2.1 0) (σ.1 0) n))) 1 0 ∧ isOp (σ.2.1 0) (f15_6) (σ.1 0) (((solF (σ.2.1 0) (σ.1 0) n))) 1 0 lt2_27) ∨ (b_27 = 0 ∧ ¬ opP (σ.2.1 0) (f15_6) (σ.1 0) (((solF (σ.2.1 0) (σ.1 0) n))) 1 0) := h_27
    have hP : va_P (g.1, g.2.1) vwCl (wC g (sA (sF (sL (sL (sA σ 15 f15_6) 0 l0_6) 1 l1_6) 17 ((((solF (σ.2.1 0) (σ.1 0) n))))) 19 lt2_27) ++ tl) H := hP
    have hD : va_D A (wC g (sA (sF (sL (sL (sA σ 15 f15_6) 0 l0_6) 1 l1_6) 17 ((((solF (σ.2.1 0) (σ.1 0) n))))) 19 lt2_27) ++ tl) := hD
    have hb01 : b_27 = 1 ∨ b_27 = 0 := h_27.imp (fun z => z.1) (fun z => z.1)
    refine jn_zne hx hb (by omega) (tgt := 44) dX10_takeOpenWord_30 (by decide) (fun c_30 => ?_) (fun c_30 => ?_)
    · refine lv_aload_n hx hb dX10_takeOpenWord_44 rfl (lv_at hl 1 rfl) ?_
      refine lv_iload_n hx hb dX10_takeOpenWord_45 rfl (lv_at hl 0 rfl) ?_
      refine jn_callv (va_runV (As := [.int (nI (((solF (σ.2.1 0) (σ.1 0) n))))]) (rest := []) ⟨hx, hb, hml, hown, hts⟩ (c_X10_takeWord l g tl H.size (sA (sF (sL (sL (sA σ 15 f15_6) 0 l0_6) 1 l1_6) 17 ((((solF (σ.2.1 0) (σ.1 0) n))))) 19 lt2_27) (((solF (σ.2.1 0) (σ.1 0) n))) (by omega)) (cwV 1 hts gX10_takeOpenWord_X10_takeWord rfl rfl rfl (by decide +kernel) ⟨Nat.le_of_ble_eq_true rfl, Nat.le_of_ble_eq_true rfl⟩) (okWV hK hP hD rfl (gC0 g (sA (sF (sL (sL (sA σ 15 f15_6) 0 l0_6) 1 l1_6) 17 ((((solF (σ.2.1 0) (σ.1 0) n))))) 19 lt2_27) tl)) rfl rfl hl.1 rfl (lv_room (Nat.le_of_ble_eq_true rfl)) dX10_takeOpenWord_46 ⟨Nat.le_of_ble_eq_true rfl, Nat.le_of_ble_eq_true rfl⟩) hD hS hAA (fun u H locs hw_ hP hD hS => ?_)
      have hP : va_P (g.1, g.2.1) vwCl (wC g (sF (sF (sA (sA (sF (sL (sL (sA σ 15 f15_6) 0 l0_6) 1 l1_6) 17 ((((solF (σ.2.1 0) (σ.1 0) n))))) 19 lt2_27) 14 (va_cpy (lt2_27) (σ.2.1 14) 0 0 (((solF (σ.2.1 0) (σ.1 0) n))))) 20 ((((solF (σ.2.1 0) (σ.1 0) n))))) 21 0) ++ tl) H := hP
      have hD : va_D A (wC g (sF (sF (sA (sA (sF (sL (sL (sA σ 15 f15_6) 0 l0_6) 1 l1_6) 17 ((((solF (σ.2.1 0) (σ.1 0) n))))) 19 lt2_27) 14 (va_cpy (lt2_27) (σ.2.1 14) 0 0 (((solF (σ.2.1 0) (σ.1 0) n))))) 20 ((((solF (σ.2.1 0) (σ.1 0) n))))) 21 0) ++ tl) := hD
      refine lv_aload_n hx hb dX10_takeOpenWord_49 rfl (lv_at hl 1 rfl) ?_
      refine va_get (D := (g.1, g.2.1)) (ci := 12) (v := .int (nI ((((solF (σ.2.1 0) (σ.1 0) n)))))) (C := RX10) (T := TX10) (N := 15) hx hb hts iX10 hown hK.1 hP 0 (gC0 g (sF (sF (sA (sA (sF (sL (sL (sA σ 15 f15_6) 0 l0_6) 1 l1_6) 17 ((((solF (σ.2.1 0) (σ.1 0) n))))) 19 lt2_27) 14 (va_cpy (lt2_27) (σ.2.1 14) 0 0 (((solF (σ.2.1 0) (σ.1 0) n))))) 20 ((((solF (σ.2.1 0) (σ.1 0) n))))) 21 0) tl) rfl 5 (by decide) k41 (fun _ h9 => h9) rfl dX10_takeOpenWord_50 ?_
      exact hq _ _ _ _ _ _ ((nI ((((solF (σ.2.1 0) (σ.1 0) n)))))) (f15_6, l0_6, l1_6, _, lt2_27) (Nat.le_of_ble_eq_true rfl) (Nat.le_of_ble_eq_true rfl) dX10_takeOpenWord_53 (by have z := h_27.resolve_right (fun z => by have := z.1; omega); exact ⟨rfl, h_1, hle, h_6, z.2.1, z.2.2⟩) hP hD hS
    · exact hqw _ _ _ _ 33 164 371 168 "java/util/NoSuchElementException" "there is no such word" _ (f15_6, l0_6, l1_6, ((((solF (σ.2.1 0) (σ.1 0) n)))), lt2_27) hl.1 dX10_takeOpenWord_33 dX10_takeOpenWord_36 dX10_takeOpenWord_37 dX10_takeOpenWord_40 dX10_takeOpenWord_43 ⟨by decide +kernel, by decide +kernel, fun w hw => List.mem_cons_of_mem _ (List.mem_append_left _ (List.mem_append_left _ (List.mem_append_left _ (List.mem_append_right _ hw)))), by decide +kernel, by decide +kernel, by decide +kernel, by decide +kernel, by decide +kernel, Nat.le_of_ble_eq_true rfl, Nat.le_of_ble_eq_true rfl⟩ (Nat.le_of_ble_eq_true rfl) (Nat.le_of_ble_eq_true rfl) (Nat.le_of_ble_eq_true rfl) (Nat.le_of_ble_eq_true rfl) (Or.inr ⟨rfl, (by first | exact ⟨h_1, h_6, Or.inl (by omega)⟩ | exact ⟨h_1, h_6, Or.inr (h_27.resolve_left (fun z => by have := z.1; omega)).2⟩)⟩) hP hD hS

abbrev r_c_X10_undo : Room := { frames := 6, cells := 1, slots := 6, locals := 130 }
set_option maxHeartbeats 4000000 in
set_option maxRecDepth 100000 in
theorem c_X10_undo (l : Launch) (hflg : l.stackTraces = false) (g : GC) (tl : va_W) (sz : Nat) (σ : SS) (hM : OkM σ) (hr : 0 < σ.1 10 → ∀ k, k < 15 → (σ.2.2 (2 + (σ.1 9 + 7) % 8)) k < 32) : vx_Met l yX10_undo wsX10_undo r_c_X10_undo (va_Pc [.ref (g.2.2.2 0)] (PX g (wC g σ ++ tl) sz)) (va_Qi (fun (r : Int32) (f1 : (Nat → Nat)) => (r = nI (σ.1 10 - 1)) ∧ (0 < σ.1 10) ∧ (∀ x, x < 3 → ∀ m, m < 32 → f1 (x * 32 + m) = stp (va_cpy (σ.2.2 (2 + (σ.1 9 + 7) % 8)) (σ.2.1 0) 0 0 15) x m)) (fun (f1 : (Nat → Nat)) t => BW g (va_A (wC g σ ++ tl) sz) (wC g (sF (sA (sF (sF (sF (sA (sA σ 0 (va_cpy (σ.2.2 (2 + (σ.1 9 + 7) % 8)) (σ.2.1 0) 0 0 15)) 2 (va_cpy (σ.2.2 (2 + (σ.1 9 + 7) % 8)) (σ.2.1 2) 16 0 42)) 0 ((σ.2.2 (2 + (σ.1 9 + 7) % 8)) 15)) 9 ((σ.1 9 + 7) % 8)) 10 (σ.1 10 - 1)) 1 f1) 21 0) ++ tl) t) (va_A (wC g σ ++ tl) sz)) (XW g (va_A (wC g σ ++ tl) sz) (fun (E : String) (_ : Unit) => (E = "java/lang/IllegalStateException" ∧ (¬ 0 < σ.1 10))) (fun _ : Unit => wC g σ ++ tl)) 1 6 (va_A (wC g σ ++ tl) sz) := by
  refine jx_i hflg (wf := fun f1 : (Nat → Nat) => wC g (sF (sA (sF (sF (sF (sA (sA σ 0 (va_cpy (σ.2.2 (2 + (σ.1 9 + 7) % 8)) (σ.2.1 0) 0 0 15)) 2 (va_cpy (σ.2.2 (2 + (σ.1 9 + 7) % 8)) (σ.2.1 2) 16 0 42)) 0 ((σ.2.2 (2 + (σ.1 9 + 7) % 8)) 15)) 9 ((σ.1 9 + 7) % 8)) 10 (σ.1 10 - 1)) 1 f1) 21 0) ++ tl) (wx := fun _ : Unit => wC g σ ++ tl) (cc := cX10_undo) (maxL := 1) (by decide) rfl rfl (Nat.le_of_ble_eq_true rfl) ?_
  intro p e s m below meth c Q A hx hb hml hown hts hKX hP hD hS hAA hZ hq hqt hqw hqo ls hl
  have hK := hKX.1
  obtain ⟨H, eH⟩ : ∃ z, z = s.heap := ⟨_, rfl⟩
  obtain ⟨locs, el⟩ : ∃ z : List Loc, z = [] := ⟨_, rfl⟩
  rw [← eH] at hP
  have hS : va_S A s.heap H locs := by rw [eH, el]; exact hS
  have goal0 : W p l e r_c_X10_undo s m ([.ref (g.2.2.2 0)] : List Value).toArray below meth c H locs 0 0 Q (F0 m 0 ls []) → W p l e r_c_X10_undo s m ([.ref (g.2.2.2 0)] : List Value).toArray below meth c s.heap [] 0 0 Q (F0 m 0 ls []) := fun h => by rw [eH, el] at h; exact h
  refine goal0 ?_
  have hl : lv_has ls 1 [(0, .ref (g.2.2.2 0))] := hl
  have iX10 : ∀ w ∈ wsX100, w ∈ wsX10_undo := by decide +kernel
  have iX7 : ∀ w ∈ wsX70, w ∈ wsX10_undo := by decide +kernel
  have k26 := hts (.fieldLink RX10 26 "JumpingAutomata" "memory" "LJumpingAutomata$Memory;") (by decide +kernel)
  have k383 := hts (.fieldLink RX10 383 "JumpingAutomata$Memory" "size" "I") (by decide +kernel)
  have k12 := hts (.fieldLink RX10 12 "JumpingAutomata" "automaton" "LJumpingAutomata$Automaton;") (by decide +kernel)
  have k19 := hts (.fieldLink RX10 19 "JumpingAutomata" "sets" "LJumpingAutomata$CountingSets;") (by decide +kernel)
  have hM2 := hM.2.1
  refine lv_aload_n hx hb dX10_undo_0 rfl (lv_at hl 0 rfl) ?_
  refine va_get (D := (g.1, g.2.1)) (ci := 12) (v := .ref (g.2.2.2 6)) (C := RX10) (T := TX10) (N := 15) hx hb hts iX10 hown hK.1 hP 0 (gC0 g σ tl) rfl 2 (by decide) k26 (fun _ h9 => h9) rfl dX10_undo_1 ?_
  refine va_get (D := (g.1, g.2.1)) (ci := 9) (v := .int (nI (σ.1 10))) (C := RX7) (T := TX7) (N := 5) hx hb hts iX7 hown hK.1 hP 6 (gC6 g σ tl) rfl 3 (by decide) k383 (fun _ h9 => h9) rfl dX10_undo_4 ?_
  refine jn_zgt hx hb (by omega) (tgt := 21) dX10_undo_7 (by decide) (fun c_7 => ?_) (fun c_7 => ?_)
  · refine lv_aload_n hx hb dX10_undo_21 rfl (lv_at hl 0 rfl) ?_
    refine va_get (D := (g.1, g.2.1)) (ci := 12) (v := .ref (g.2.2.2 6)) (C := RX10) (T := TX10) (N := 15) hx hb hts iX10 hown hK.1 hP 0 (gC0 g σ tl) rfl 2 (by decide) k26 (fun _ h9 => h9) rfl dX10_undo_22 ?_
    refine lv_aload_n hx hb dX10_undo_25 rfl (lv_at hl 0 rfl) ?_
    refine va_get (D := (g.1, g.2.1)) (ci := 12) (v := .ref (g.2.2.2 1)) (C := RX10) (T := TX10) (N := 15) hx hb hts iX10 hown hK.1 hP 0 (gC0 g σ tl) rfl 0 (by decide) k12 (fun _ h9 => h9) rfl dX10_undo_26 ?_
    refine lv_aload_n hx hb dX10_undo_29 rfl (lv_at hl 0 rfl) ?_
    refine va_get (D := (g.1, g.2.1)) (ci := 12) (v := .ref (g.2.2.2 4)) (C := RX10) (T := TX10) (N := 15) hx hb hts iX10 hown hK.1 hP 0 (gC0 g σ tl) rfl 1 (by decide) k19 (fun _ h9 => h9) rfl dX10_undo_30 ?_
    refine jn_callv (va_runV (As := [.ref (g.2.2.2 1), .ref (g.2.2.2 4)]) (rest := []) ⟨hx, hb, hml, hown, hts⟩ (c_X7_pop l g tl H.size σ hM (by omega)) (cwV 2 hts gX10_undo_X7_pop rfl rfl rfl (by decide +kernel) ⟨Nat.le_of_ble_eq_true rfl, Nat.le_of_ble_eq_true rfl⟩) (okWV hK hP hD rfl (gC6 g σ tl)) rfl rfl hl.1 rfl (lv_room (Nat.le_of_ble_eq_true rfl)) dX10_undo_33 ⟨Nat.le_of_ble_eq_true rfl, Nat.le_of_ble_eq_true rfl⟩) hD hS hAA (fun u H locs hw_ hP hD hS => ?_)
    have hP : va_P (g.1, g.2.1) vwCl (wC g (sF (sF (sF (sA (sA σ 0 (va_cpy (σ.2.2 (2 + (σ.1 9 + 7) % 8)) (σ.2.1 0) 0 0 15)) 2 (va_cpy (σ.2.2 (2 + (σ.1 9 + 7) % 8)) (σ.2.1 2) 16 0 42)) 0 ((σ.2.2 (2 + (σ.1 9 + 7) % 8)) 15)) 9 ((σ.1 9 + 7) % 8)) 10 (σ.1 10 - 1)) ++ tl) H := hP
    have hD : va_D A (wC g (sF (sF (sF (sA (sA σ 0 (va_cpy (σ.2.2 (2 + (σ.1 9 + 7) % 8)) (σ.2.1 0) 0 0 15)) 2 (va_cpy (σ.2.2 (2 + (σ.1 9 + 7) % 8)) (σ.2.1 2) 16 0 42)) 0 ((σ.2.2 (2 + (σ.1 9 + 7) % 8)) 15)) 9 ((σ.1 9 + 7) % 8)) 10 (σ.1 10 - 1)) ++ tl) := hD
    refine lv_aload_n hx hb dX10_undo_36 rfl (lv_at hl 0 rfl) ?_
    refine jn_callv (va_runV (As := []) (rest := []) ⟨hx, hb, hml, hown, hts⟩ (c_X10_endAutomatonChange l g tl H.size (sF (sF (sF (sA (sA σ 0 (va_cpy (σ.2.2 (2 + (σ.1 9 + 7) % 8)) (σ.2.1 0) 0 0 15)) 2 (va_cpy (σ.2.2 (2 + (σ.1 9 + 7) % 8)) (σ.2.1 2) 16 0 42)) 0 ((σ.2.2 (2 + (σ.1 9 + 7) % 8)) 15)) 9 ((σ.1 9 + 7) % 8)) 10 (σ.1 10 - 1)) (okT_cpy (hr (by omega)))) (cwV 0 hts gX10_undo_X10_endAutomatonChange rfl rfl rfl (by decide +kernel) ⟨Nat.le_of_ble_eq_true rfl, Nat.le_of_ble_eq_true rfl⟩) (okWV hK hP hD rfl (gC0 g (sF (sF (sF (sA (sA σ 0 (va_cpy (σ.2.2 (2 + (σ.1 9 + 7) % 8)) (σ.2.1 0) 0 0 15)) 2 (va_cpy (σ.2.2 (2 + (σ.1 9 + 7) % 8)) (σ.2.1 2) 16 0 42)) 0 ((σ.2.2 (2 + (σ.1 9 + 7) % 8)) 15)) 9 ((σ.1 9 + 7) % 8)) 10 (σ.1 10 - 1)) tl)) rfl rfl hl.1 rfl (lv_room (Nat.le_of_ble_eq_true rfl)) dX10_undo_37 ⟨Nat.le_of_ble_eq_true rfl, Nat.le_of_ble_eq_true rfl⟩) hD hS hAA (fun u H locs hw_ hP hD hS => ?_)
    obtain ⟨f1_37, rfl⟩ : ∃ z, z = u := ⟨_, rfl⟩
    have h_37 := hw_
    have h_37 : ∀ x, x < 3 → ∀ m, m < 32 → f1_37 (x * 32 + m) = stp ((va_cpy (σ.2.2 (2 + (σ.1 9 + 7) % 8)) (σ.2.1 0) 0 0 15)) x m := h_37
    have hP : va_P (g.1, g.2.1) vwCl (wC g (sF (sA (sF (sF (sF (sA (sA σ 0 (va_cpy (σ.2.2 (2 + (σ.1 9 + 7) % 8)) (σ.2.1 0) 0 0 15)) 2 (va_cpy (σ.2.2 (2 + (σ.1 9 + 7) % 8)) (σ.2.1 2) 16 0 42)) 0 ((σ.2.2 (2 + (σ.1 9 + 7) % 8)) 15)) 9 ((σ.1 9 + 7) % 8)) 10 (σ.1 10 - 1)) 1 f1_37) 21 0) ++ tl) H := hP
    have hD : va_D A (wC g (sF (sA (sF (sF (sF (sA (sA σ 0 (va_cpy (σ.2.2 (2 + (σ.1 9 + 7) % 8)) (σ.2.1 0) 0 0 15)) 2 (va_cpy (σ.2.2 (2 + (σ.1 9 + 7) % 8)) (σ.2.1 2) 16 0 42)) 0 ((σ.2.2 (2 + (σ.1 9 + 7) % 8)) 15)) 9 ((σ.1 9 + 7) % 8)) 10 (σ.1 10 - 1)) 1 f1_37) 21 0) ++ tl) := hD
    refine lv_aload_n hx hb dX10_undo_40 rfl (lv_at hl 0 rfl) ?_
    refine va_get (D := (g.1, g.2.1)) (ci := 12) (v := .ref (g.2.2.2 6)) (C := RX10) (T := TX10) (N := 15) hx hb hts iX10 hown hK.1 hP 0 (gC0 g (sF (sA (sF (sF (sF (sA (sA σ 0 (va_cpy (σ.2.2 (2 + (σ.1 9 + 7) % 8)) (σ.2.1 0) 0 0 15)) 2 (va_cpy (σ.2.2 (2 + (σ.1 9 + 7) % 8)) (σ.2.1 2) 16 0 42)) 0 ((σ.2.2 (2 + (σ.1 9 + 7) % 8)) 15)) 9 ((σ.1 9 + 7) % 8)) 10 (σ.1 10 - 1)) 1 f1_37) 21 0) tl) rfl 2 (by decide) k26 (fun _ h9 => h9) rfl dX10_undo_41 ?_
    refine va_get (D := (g.1, g.2.1)) (ci := 9) (v := .int (nI (σ.1 10 - 1))) (C := RX7) (T := TX7) (N := 5) hx hb hts iX7 hown hK.1 hP 6 (gC6 g (sF (sA (sF (sF (sF (sA (sA σ 0 (va_cpy (σ.2.2 (2 + (σ.1 9 + 7) % 8)) (σ.2.1 0) 0 0 15)) 2 (va_cpy (σ.2.2 (2 + (σ.1 9 + 7) % 8)) (σ.2.1 2) 16 0 42)) 0 ((σ.2.2 (2 + (σ.1 9 + 7) % 8)) 15)) 9 ((σ.1 9 + 7) % 8)) 10 (σ.1 10 - 1)) 1 f1_37) 21 0) tl) rfl 3 (by decide) k383 (fun _ h9 => h9) rfl dX10_undo_44 ?_
    exact hq _ _ _ _ _ _ ((nI (σ.1 10 - 1))) (f1_37) (Nat.le_of_ble_eq_true rfl) (Nat.le_of_ble_eq_true rfl) dX10_undo_47 ⟨rfl, by omega, h_37⟩ hP hD hS
  · exact hqw _ _ _ _ 10 108 384 112 "java/lang/IllegalStateException" "there is no change to take back" _ () hl.1 dX10_undo_10 dX10_undo_13 dX10_undo_14 dX10_undo_17 dX10_undo_20 ⟨by decide +kernel, by decide +kernel, fun w hw => List.mem_cons_of_mem _ (List.mem_append_left _ (List.mem_append_right _ hw)), by decide +kernel, by decide +kernel, by decide +kernel, by decide +kernel, by decide +kernel, Nat.le_of_ble_eq_true rfl, Nat.le_of_ble_eq_true rfl⟩ (Nat.le_of_ble_eq_true rfl) (Nat.le_of_ble_eq_true rfl) (Nat.le_of_ble_eq_true rfl) (Nat.le_of_ble_eq_true rfl) ⟨rfl, (by omega)⟩ hP hD hS

abbrev r_c_X10_restore : Room := { frames := 6, cells := 1, slots := 6, locals := 150 }
set_option maxHeartbeats 4000000 in
set_option maxRecDepth 100000 in
theorem c_X10_restore (l : Launch) (hflg : l.stackTraces = false) (g : GC) (tl : va_W) (sz : Nat) (σ : SS) (hM : OkM σ) (hr : σ.1 11 ≠ 0 → ∀ k, k < 15 → (σ.2.2 10) k < 32) : vx_Met l yX10_restore wsX10_restore r_c_X10_restore (va_Pc [.ref (g.2.2.2 0)] (PX g (wC g σ ++ tl) sz)) (va_Qv (fun (f1 : (Nat → Nat)) => (σ.1 11 ≠ 0) ∧ (∀ x, x < 3 → ∀ m, m < 32 → f1 (x * 32 + m) = stp (va_cpy (σ.2.2 10) (σ.2.1 0) 0 0 15) x m)) (fun (f1 : (Nat → Nat)) t => BW g (va_A (wC g σ ++ tl) sz) (wC g (sF (sA (sF (sA (sA (sF (sF (sL σ (2 + σ.1 9) (snp σ (σ.2.2 (2 + σ.1 9)))) 9 ((σ.1 9 + 1) % 8)) 10 (min (σ.1 10 + 1) 8)) 0 (va_cpy (σ.2.2 10) (σ.2.1 0) 0 0 15)) 2 (va_cpy (σ.2.2 10) (σ.2.1 2) 16 0 42)) 0 ((σ.2.2 10) 15)) 1 f1) 21 0) ++ tl) t) (va_A (wC g σ ++ tl) sz)) (XW g (va_A (wC g σ ++ tl) sz) (fun (E : String) (_ : Unit) => (E = "java/lang/IllegalStateException" ∧ (σ.1 11 = 0))) (fun _ : Unit => wC g σ ++ tl)) 1 6 (va_A (wC g σ ++ tl) sz) := by
  refine jx_v hflg (wf := fun f1 : (Nat → Nat) => wC g (sF (sA (sF (sA (sA (sF (sF (sL σ (2 + σ.1 9) (snp σ (σ.2.2 (2 + σ.1 9)))) 9 ((σ.1 9 + 1) % 8)) 10 (min (σ.1 10 + 1) 8)) 0 (va_cpy (σ.2.2 10) (σ.2.1 0) 0 0 15)) 2 (va_cpy (σ.2.2 10) (σ.2.1 2) 16 0 42)) 0 ((σ.2.2 10) 15)) 1 f1) 21 0) ++ tl) (wx := fun _ : Unit => wC g σ ++ tl) (cc := cX10_restore) (maxL := 1) (by decide) rfl rfl (Nat.le_of_ble_eq_true rfl) ?_
  intro p e s m below meth c Q A hx hb hml hown hts hKX hP hD hS hAA hZ hq hqt hqw hqo ls hl
  have hK := hKX.1
  obtain ⟨H, eH⟩ : ∃ z, z = s.heap := ⟨_, rfl⟩
  obtain ⟨locs, el⟩ : ∃ z : List Loc, z = [] := ⟨_, rfl⟩
  rw [← eH] at hP
  have hS : va_S A s.heap H locs := by rw [eH, el]; exact hS
  have goal0 : W p l e r_c_X10_restore s m ([.ref (g.2.2.2 0)] : List Value).toArray below meth c H locs 0 0 Q (F0 m 0 ls []) → W p l e r_c_X10_restore s m ([.ref (g.2.2.2 0)] : List Value).toArray below meth c s.heap [] 0 0 Q (F0 m 0 ls []) := fun h => by rw [eH, el] at h; exact h
  refine goal0 ?_
  have hl : lv_has ls 1 [(0, .ref (g.2.2.2 0))] := hl
  have iX10 : ∀ w ∈ wsX100, w ∈ wsX10_restore := by decide +kernel
  have iX7 : ∀ w ∈ wsX70, w ∈ wsX10_restore := by decide +kernel
  have k26 := hts (.fieldLink RX10 26 "JumpingAutomata" "memory" "LJumpingAutomata$Memory;") (by decide +kernel)
  have k393 := hts (.fieldLink RX10 393 "JumpingAutomata$Memory" "hasKept" "Z") (by decide +kernel)
  have k12 := hts (.fieldLink RX10 12 "JumpingAutomata" "automaton" "LJumpingAutomata$Automaton;") (by decide +kernel)
  have k19 := hts (.fieldLink RX10 19 "JumpingAutomata" "sets" "LJumpingAutomata$CountingSets;") (by decide +kernel)
  have hM1 := hM.1
  have hM3 := hM.2.2
  refine lv_aload_n hx hb dX10_restore_0 rfl (lv_at hl 0 rfl) ?_
  refine va_get (D := (g.1, g.2.1)) (ci := 12) (v := .ref (g.2.2.2 6)) (C := RX10) (T := TX10) (N := 15) hx hb hts iX10 hown hK.1 hP 0 (gC0 g σ tl) rfl 2 (by decide) k26 (fun _ h9 => h9) rfl dX10_restore_1 ?_
  refine va_get (D := (g.1, g.2.1)) (ci := 9) (v := .int (nI (σ.1 11))) (C := RX7) (T := TX7) (N := 5) hx hb hts iX7 hown hK.1 hP 6 (gC6 g σ tl) rfl 4 (by decide) k393 (fun _ h9 => h9) rfl dX10_restore_4 ?_
  refine jn_zne hx hb (by omega) (tgt := 21) dX10_restore_7 (by decide) (fun c_7 => ?_) (fun c_7 => ?_)
  · refine lv_aload_n hx hb dX10_restore_21 rfl (lv_at hl 0 rfl) ?_
    refine jn_callv (va_runV (As := []) (rest := []) ⟨hx, hb, hml, hown, hts⟩ (c_X10_beginChange l g tl H.size σ hM) (cwV 0 hts gX10_restore_X10_beginChange rfl rfl rfl (by decide +kernel) ⟨Nat.le_of_ble_eq_true rfl, Nat.le_of_ble_eq_true rfl⟩) (okWV hK hP hD rfl (gC0 g σ tl)) rfl rfl hl.1 rfl (lv_room (Nat.le_of_ble_eq_true rfl)) dX10_restore_22 ⟨Nat.le_of_ble_eq_true rfl, Nat.le_of_ble_eq_true rfl⟩) hD hS hAA (fun u H locs hw_ hP hD hS => ?_)
    have hP : va_P (g.1, g.2.1) vwCl (wC g (sF (sF (sL σ (2 + σ.1 9) (snp σ (σ.2.2 (2 + σ.1 9)))) 9 ((σ.1 9 + 1) % 8)) 10 (min (σ.1 10 + 1) 8)) ++ tl) H := hP
    have hD : va_D A (wC g (sF (sF (sL σ (2 + σ.1 9) (snp σ (σ.2.2 (2 + σ.1 9)))) 9 ((σ.1 9 + 1) % 8)) 10 (min (σ.1 10 + 1) 8)) ++ tl) := hD
    refine lv_aload_n hx hb dX10_restore_25 rfl (lv_at hl 0 rfl) ?_
    refine va_get (D := (g.1, g.2.1)) (ci := 12) (v := .ref (g.2.2.2 6)) (C := RX10) (T := TX10) (N := 15) hx hb hts iX10 hown hK.1 hP 0 (gC0 g (sF (sF (sL σ (2 + σ.1 9) (snp σ (σ.2.2 (2 + σ.1 9)))) 9 ((σ.1 9 + 1) % 8)) 10 (min (σ.1 10 + 1) 8)) tl) rfl 2 (by decide) k26 (fun _ h9 => h9) rfl dX10_restore_26 ?_
    refine lv_aload_n hx hb dX10_restore_29 rfl (lv_at hl 0 rfl) ?_
    refine va_get (D := (g.1, g.2.1)) (ci := 12) (v := .ref (g.2.2.2 1)) (C := RX10) (T := TX10) (N := 15) hx hb hts iX10 hown hK.1 hP 0 (gC0 g (sF (sF (sL σ (2 + σ.1 9) (snp σ (σ.2.2 (2 + σ.1 9)))) 9 ((σ.1 9 + 1) % 8)) 10 (min (σ.1 10 + 1) 8)) tl) rfl 0 (by decide) k12 (fun _ h9 => h9) rfl dX10_restore_30 ?_
    refine lv_aload_n hx hb dX10_restore_33 rfl (lv_at hl 0 rfl) ?_
    refine va_get (D := (g.1, g.2.1)) (ci := 12) (v := .ref (g.2.2.2 4)) (C := RX10) (T := TX10) (N := 15) hx hb hts iX10 hown hK.1 hP 0 (gC0 g (sF (sF (sL σ (2 + σ.1 9) (snp σ (σ.2.2 (2 + σ.1 9)))) 9 ((σ.1 9 + 1) % 8)) 10 (min (σ.1 10 + 1) 8)) tl) rfl 1 (by decide) k19 (fun _ h9 => h9) rfl dX10_restore_34 ?_
    refine jn_callv (va_runV (As := [.ref (g.2.2.2 1), .ref (g.2.2.2 4)]) (rest := []) ⟨hx, hb, hml, hown, hts⟩ (c_X7_recall2 l g tl H.size (sF (sF (sL σ (2 + σ.1 9) (snp σ (σ.2.2 (2 + σ.1 9)))) 9 ((σ.1 9 + 1) % 8)) 10 (min (σ.1 10 + 1) 8)) ((σ.2.2 10)) (if_neg (by omega)) ⟨show (σ.1 9 + 1) % 8 < 8 by omega, show min (σ.1 10 + 1) 8 ≤ 8 by omega, hM3⟩ c_7) (cwV 2 hts gX10_restore_X7_recall rfl rfl rfl (by decide +kernel) ⟨Nat.le_of_ble_eq_true rfl, Nat.le_of_ble_eq_true rfl⟩) (okWV hK hP hD rfl (gC6 g (sF (sF (sL σ (2 + σ.1 9) (snp σ (σ.2.2 (2 + σ.1 9)))) 9 ((σ.1 9 + 1) % 8)) 10 (min (σ.1 10 + 1) 8)) tl)) rfl rfl hl.1 rfl (lv_room (Nat.le_of_ble_eq_true rfl)) dX10_restore_37 ⟨Nat.le_of_ble_eq_true rfl, Nat.le_of_ble_eq_true rfl⟩) hD hS hAA (fun u H locs hw_ hP hD hS => ?_)
    have hP : va_P (g.1, g.2.1) vwCl (wC g (sF (sA (sA (sF (sF (sL σ (2 + σ.1 9) (snp σ (σ.2.2 (2 + σ.1 9)))) 9 ((σ.1 9 + 1) % 8)) 10 (min (σ.1 10 + 1) 8)) 0 (va_cpy ((σ.2.2 10)) (σ.2.1 0) 0 0 15)) 2 (va_cpy ((σ.2.2 10)) (σ.2.1 2) 16 0 42)) 0 (((σ.2.2 10)) 15)) ++ tl) H := hP
    have hD : va_D A (wC g (sF (sA (sA (sF (sF (sL σ (2 + σ.1 9) (snp σ (σ.2.2 (2 + σ.1 9)))) 9 ((σ.1 9 + 1) % 8)) 10 (min (σ.1 10 + 1) 8)) 0 (va_cpy ((σ.2.2 10)) (σ.2.1 0) 0 0 15)) 2 (va_cpy ((σ.2.2 10)) (σ.2.1 2) 16 0 42)) 0 (((σ.2.2 10)) 15)) ++ tl) := hD
    refine lv_aload_n hx hb dX10_restore_40 rfl (lv_at hl 0 rfl) ?_
    refine jn_callv (va_runV (As := []) (rest := []) ⟨hx, hb, hml, hown, hts⟩ (c_X10_endAutomatonChange l g tl H.size (sF (sA (sA (sF (sF (sL σ (2 + σ.1 9) (snp σ (σ.2.2 (2 + σ.1 9)))) 9 ((σ.1 9 + 1) % 8)) 10 (min (σ.1 10 + 1) 8)) 0 (va_cpy ((σ.2.2 10)) (σ.2.1 0) 0 0 15)) 2 (va_cpy ((σ.2.2 10)) (σ.2.1 2) 16 0 42)) 0 (((σ.2.2 10)) 15)) (okT_cpy (hr c_7))) (cwV 0 hts gX10_restore_X10_endAutomatonChange rfl rfl rfl (by decide +kernel) ⟨Nat.le_of_ble_eq_true rfl, Nat.le_of_ble_eq_true rfl⟩) (okWV hK hP hD rfl (gC0 g (sF (sA (sA (sF (sF (sL σ (2 + σ.1 9) (snp σ (σ.2.2 (2 + σ.1 9)))) 9 ((σ.1 9 + 1) % 8)) 10 (min (σ.1 10 + 1) 8)) 0 (va_cpy ((σ.2.2 10)) (σ.2.1 0) 0 0 15)) 2 (va_cpy ((σ.2.2 10)) (σ.2.1 2) 16 0 42)) 0 (((σ.2.2 10)) 15)) tl)) rfl rfl hl.1 rfl (lv_room (Nat.le_of_ble_eq_true rfl)) dX10_restore_41 ⟨Nat.le_of_ble_eq_true rfl, Nat.le_of_ble_eq_true rfl⟩) hD hS hAA (fun u H locs hw_ hP hD hS => ?_)
    obtain ⟨f1_41, rfl⟩ : ∃ z, z = u := ⟨_, rfl⟩
    have h_41 := hw_
    have h_41 : ∀ x, x < 3 → ∀ m, m < 32 → f1_41 (x * 32 + m) = stp ((va_cpy ((σ.2.2 10)) (σ.2.1 0) 0 0 15)) x m := h_41
    have hP : va_P (g.1, g.2.1) vwCl (wC g (sF (sA (sF (sA (sA (sF (sF (sL σ (2 + σ.1 9) (snp σ (σ.2.2 (2 + σ.1 9)))) 9 ((σ.1 9 + 1) % 8)) 10 (min (σ.1 10 + 1) 8)) 0 (va_cpy ((σ.2.2 10)) (σ.2.1 0) 0 0 15)) 2 (va_cpy ((σ.2.2 10)) (σ.2.1 2) 16 0 42)) 0 (((σ.2.2 10)) 15)) 1 f1_41) 21 0) ++ tl) H := hP
    have hD : va_D A (wC g (sF (sA (sF (sA (sA (sF (sF (sL σ (2 + σ.1 9) (snp σ (σ.2.2 (2 + σ.1 9)))) 9 ((σ.1 9 + 1) % 8)) 10 (min (σ.1 10 + 1) 8)) 0 (va_cpy ((σ.2.2 10)) (σ.2.1 0) 0 0 15)) 2 (va_cpy ((σ.2.2 10)) (σ.2.1 2) 16 0 42)) 0 (((σ.2.2 10)) 15)) 1 f1_41) 21 0) ++ tl) := hD
    exact hq _ _ _ _ _ _ (f1_41) (Nat.le_of_ble_eq_true rfl) (Nat.le_of_ble_eq_true rfl) dX10_restore_44 ⟨c_7, h_41⟩ hP hD hS
  · exact hqw _ _ _ _ 10 108 396 112 "java/lang/IllegalStateException" "nothing was saved" _ () hl.1 dX10_restore_10 dX10_restore_13 dX10_restore_14 dX10_restore_17 dX10_restore_20 ⟨by decide +kernel, by decide +kernel, fun w hw => List.mem_cons_of_mem _ (List.mem_append_left _ (List.mem_append_right _ hw)), by decide +kernel, by decide +kernel, by decide +kernel, by decide +kernel, by decide +kernel, Nat.le_of_ble_eq_true rfl, Nat.le_of_ble_eq_true rfl⟩ (Nat.le_of_ble_eq_true rfl) (Nat.le_of_ble_eq_true rfl) (Nat.le_of_ble_eq_true rfl) (Nat.le_of_ble_eq_true rfl) ⟨rfl, c_7⟩ hP hD hS
