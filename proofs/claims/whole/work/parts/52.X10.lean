abbrev r_c_X10_density : Room := { frames := 14, cells := 3, slots := 18, locals := 367 }
set_option maxHeartbeats 4000000 in
set_option maxRecDepth 100000 in
theorem c_X10_density (l : Launch) (hflg : l.stackTraces = false) (g : GC) (tl : va_W) (sz : Nat) (σ : SS) (md n : Nat) (hA : OkA σ) (hmd : md < 4294967296) (hn : n < 4294967296) (hcw : md < 3 → n < 8 → (md = 2 → detT (σ.2.1 0)) → cwN (σ.2.1 0) (σ.1 0) md n ≤ 3 ^ n) : vx_Met l yX10_density wsX10_density r_c_X10_density (va_Pc [.ref (g.2.2.2 0), .int (nI md), .int (nI n)] (PX g (wC g σ ++ tl) sz)) (va_Qd (fun (r : UInt64) (z : (Nat → Nat) × (Nat → Nat) × (Nat → Nat) × Nat × Nat × Nat × Nat × Nat) => match z with | (f15, l0, l1, m2, r2, k2, j2, p2) => (r = (ddQ n (cwN (σ.2.1 0) (σ.1 0) md n))) ∧ (md < 3) ∧ (n < 8) ∧ (md = 2 → detT (σ.2.1 0))) (fun (z : (Nat → Nat) × (Nat → Nat) × (Nat → Nat) × Nat × Nat × Nat × Nat × Nat) t => BW g (va_A (wC g σ ++ tl) sz) ((fun z : (Nat → Nat) × (Nat → Nat) × (Nat → Nat) × Nat × Nat × Nat × Nat × Nat => match z with | (f15, l0, l1, m2, r2, k2, j2, p2) => wC g (sF (sF (sF (sF (sF (sL (sL (sA σ 15 f15) 0 l0) 1 l1) 12 m2) 13 r2) 14 k2) 15 j2) 16 p2) ++ tl) z) t) (va_A (wC g σ ++ tl) sz)) (XW g (va_A (wC g σ ++ tl) sz) (fun (E : String) (_ : Unit) => (E = "java/lang/IllegalArgumentException" ∧ (¬ (md < 3 ∧ n < 8))) ∨ (E = "java/lang/UnsupportedOperationException" ∧ ((md < 3 ∧ n < 8) ∧ md = 2 ∧ ¬ detT (σ.2.1 0)))) (fun _ : Unit => wC g σ ++ tl)) 3 18 (va_A (wC g σ ++ tl) sz) := by
  refine jx_d hflg (wf := fun z : (Nat → Nat) × (Nat → Nat) × (Nat → Nat) × Nat × Nat × Nat × Nat × Nat => match z with | (f15, l0, l1, m2, r2, k2, j2, p2) => wC g (sF (sF (sF (sF (sF (sL (sL (sA σ 15 f15) 0 l0) 1 l1) 12 m2) 13 r2) 14 k2) 15 j2) 16 p2) ++ tl) (wx := fun _ : Unit => wC g σ ++ tl) (cc := cX10_density) (maxL := 6) (by decide) rfl rfl (Nat.le_of_ble_eq_true rfl) ?_
  intro p e s m below meth c Q A hx hb hml hown hts hKX hP hD hS hAA hZ hq hqt hqw hqo ls hl
  have hK := hKX.1
  obtain ⟨H, eH⟩ : ∃ z, z = s.heap := ⟨_, rfl⟩
  obtain ⟨locs, el⟩ : ∃ z : List Loc, z = [] := ⟨_, rfl⟩
  rw [← eH] at hP
  have hS : va_S A s.heap H locs := by rw [eH, el]; exact hS
  have goal0 : W p l e r_c_X10_density s m ([.ref (g.2.2.2 0), .int (nI md), .int (nI n)] : List Value).toArray below meth c H locs 0 0 Q (F0 m 0 ls []) → W p l e r_c_X10_density s m ([.ref (g.2.2.2 0), .int (nI md), .int (nI n)] : List Value).toArray below meth c s.heap [] 0 0 Q (F0 m 0 ls []) := fun h => by rw [eH, el] at h; exact h
  refine goal0 ?_
  have hl : lv_has ls 6 [(0, .ref (g.2.2.2 0)), (1, .int (nI md)), (2, .int (nI n))] := hl
  refine lv_iload_n hx hb dX10_density_0 rfl (lv_at hl 1 rfl) ?_
  refine jx_callv (vx_runS (As := [.int (nI md)]) (rest := []) ⟨hx, hb, hml, hown, hts⟩ (c_X10_requireMode l hflg g tl H.size σ md (by omega)) (va_cwS 1 hts gX10_density_X10_requireMode rfl rfl rfl (by decide +kernel) ⟨Nat.le_of_ble_eq_true rfl, Nat.le_of_ble_eq_true rfl⟩) (okXS hKX hP hD hZ hS hAA) rfl rfl hl.1 rfl (lv_room (Nat.le_of_ble_eq_true rfl)) dX10_density_1 ⟨Nat.le_of_ble_eq_true rfl, Nat.le_of_ble_eq_true rfl⟩) hD hS hAA (fun E ce q9 u H locs hxp hP hD hS h7 h8 h9 => ?_) (fun u H locs hw_ hP hD hS => ?_)
  · have hxp : (E = "java/lang/IllegalArgumentException" ∧ (¬ md < 3)) := hxp
    rcases hxp with ⟨eE, hc⟩
    · exact hqo _ _ _ _ _ _ _ _ _ _ () (Nat.le_of_ble_eq_true rfl) (Nat.le_of_ble_eq_true rfl) h7 h8 h9 (Or.inl ⟨eE, (by first | exact hc | omega)⟩) hP hD hS
  have h_1 := hw_
  have h_1 : md < 3 := h_1
  have hP : va_P (g.1, g.2.1) vwCl (wC g σ ++ tl) H := hP
  have hD : va_D A (wC g σ ++ tl) := hD
  refine lv_iload_n hx hb dX10_density_4 rfl (lv_at hl 2 rfl) ?_
  refine jx_callv (vx_runS (As := [.int (nI n)]) (rest := []) ⟨hx, hb, hml, hown, hts⟩ (c_X10_requireLength l hflg g tl H.size σ n (by omega)) (va_cwS 1 hts gX10_density_X10_requireLength rfl rfl rfl (by decide +kernel) ⟨Nat.le_of_ble_eq_true rfl, Nat.le_of_ble_eq_true rfl⟩) (okXS hKX hP hD hZ hS hAA) rfl rfl hl.1 rfl (lv_room (Nat.le_of_ble_eq_true rfl)) dX10_density_5 ⟨Nat.le_of_ble_eq_true rfl, Nat.le_of_ble_eq_true rfl⟩) hD hS hAA (fun E ce q9 u H locs hxp hP hD hS h7 h8 h9 => ?_) (fun u H locs hw_ hP hD hS => ?_)
  · have hxp : (E = "java/lang/IllegalArgumentException" ∧ (¬ n < 8)) := hxp
    rcases hxp with ⟨eE, hc⟩
    · exact hqo _ _ _ _ _ _ _ _ _ _ () (Nat.le_of_ble_eq_true rfl) (Nat.le_of_ble_eq_true rfl) h7 h8 h9 (Or.inl ⟨eE, (by first | exact hc | omega)⟩) hP hD hS
  have h_5 := hw_
  have h_5 : n < 8 := h_5
  have hP : va_P (g.1, g.2.1) vwCl (wC g σ ++ tl) H := hP
  have hD : va_D A (wC g σ ++ tl) := hD
  refine lv_aload_n hx hb dX10_density_8 rfl (lv_at hl 0 rfl) ?_
  refine lv_iload_n hx hb dX10_density_9 rfl (lv_at hl 1 rfl) ?_
  refine jx_callv (vx_runV (As := [.int (nI md)]) (rest := []) ⟨hx, hb, hml, hown, hts⟩ (c_X10_requireReadable l hflg g tl H.size σ md hA h_1) (cwV 1 hts gX10_density_X10_requireReadable rfl rfl rfl (by decide +kernel) ⟨Nat.le_of_ble_eq_true rfl, Nat.le_of_ble_eq_true rfl⟩) (okXV hKX hP hD hZ hS hAA rfl (gC0 g σ tl)) rfl rfl hl.1 rfl (lv_room (Nat.le_of_ble_eq_true rfl)) dX10_density_10 ⟨Nat.le_of_ble_eq_true rfl, Nat.le_of_ble_eq_true rfl⟩) hD hS hAA (fun E ce q9 u H locs hxp hP hD hS h7 h8 h9 => ?_) (fun u H locs hw_ hP hD hS => ?_)
  · have hxp : (E = "java/lang/UnsupportedOperationException" ∧ (md = 2 ∧ ¬ detT (σ.2.1 0))) := hxp
    rcases hxp with ⟨eE, hc⟩
    · exact hqo _ _ _ _ _ _ _ _ _ _ () (Nat.le_of_ble_eq_true rfl) (Nat.le_of_ble_eq_true rfl) h7 h8 h9 (Or.inr ⟨eE, ⟨⟨h_1, h_5⟩, hc⟩⟩) hP hD hS
  have h_10 := hw_
  have h_10 : md = 2 → detT (σ.2.1 0) := h_10
  have hP : va_P (g.1, g.2.1) vwCl (wC g σ ++ tl) H := hP
  have hD : va_D A (wC g σ ++ tl) := hD
  refine lv_lconst (v := lN 1) hx hb dX10_density_13 (by decide) ?_
  refine lv_lstore_n (lv' := [(3, .long (lN 1)), (0, .ref (g.2.2.2 0)), (1, .int (nI md)), (2, .int (nI n))]) hx hb dX10_density_14 rfl hl (by decide) rfl (fun ls hl => ?_)
  refine lv_iconst (v := nI 0) hx hb dX10_density_15 (by decide) ?_
  refine lv_istore (lv' := [(5, .int (nI 0)), (3, .long (lN 1)), (0, .ref (g.2.2.2 0)), (1, .int (nI md)), (2, .int (nI n))]) hx hb dX10_density_16 hl (by decide) rfl (fun ls hl => ?_)
  have lp18 : ∀ (fu : Nat), ∀ (i : Nat) (z : Nat), (i ≤ n) → (z = 3 ^ i) → n - i < fu → ∀ (H : Heap) (locs : List Loc), va_P (g.1, g.2.1) vwCl (wC g σ ++ tl) H → va_D A (wC g σ ++ tl) → va_S A s.heap H locs → ∀ ls : Array Slot, lv_has ls 6 [(0, .ref (g.2.2.2 0)), (1, .int (nI md)), (2, .int (nI n)), (3, .long (lN z)), (5, .int (nI i))] → W p l e r_c_X10_density s m ([.ref (g.2.2.2 0), .int (nI md), .int (nI n)] : List Value).toArray below meth c H locs 3 18 Q (F0 m 18 ls []) := by
    intro fu
    induction fu with
    | zero => intro i z h1 h2 hf; exact absurd hf (Nat.not_lt_zero _)
    | succ fu ih18 =>
      intro i z h1 h2 hf H locs hP hD hS ls hl
      refine lv_iload hx hb dX10_density_18 (lv_at hl 4 rfl) ?_
      refine lv_iload_n hx hb dX10_density_20 rfl (lv_at hl 2 rfl) ?_
      refine jn_cge hx hb (by omega) (by omega) (tgt := 36) dX10_density_21 (by decide) (fun c_21 => ?_) (fun c_21 => ?_)
      · refine lv_aload_n hx hb dX10_density_36 rfl (lv_at hl 0 rfl) ?_
        refine lv_iload_n hx hb dX10_density_37 rfl (lv_at hl 1 rfl) ?_
        refine lv_iload_n hx hb dX10_density_38 rfl (lv_at hl 2 rfl) ?_
        have ez : z = 3 ^ n := by rw [h2, show i = n by omega]
        refine jn_calll (va_runV (As := [.int (nI md), .int (nI n)]) (rest := []) ⟨hx, hb, hml, hown, hts⟩ (c_X10_countWords l g tl H.size σ md n hA h_1 (by omega)) (cwV 2 hts gX10_density_X10_countWords rfl rfl rfl (by decide +kernel) ⟨Nat.le_of_ble_eq_true rfl, Nat.le_of_ble_eq_true rfl⟩) (okWV hK hP hD rfl (gC0 g σ tl)) rfl rfl hl.1 rfl (lv_room (Nat.le_of_ble_eq_true rfl)) dX10_density_39 ⟨Nat.le_of_ble_eq_true rfl, Nat.le_of_ble_eq_true rfl⟩) hD hS hAA (fun r_39 u H locs hw_ hP hD hS => ?_)
        obtain ⟨f15_39, l0_39, l1_39, m2_39, r2_39, k2_39, j2_39, p2_39⟩ := u
        obtain rfl := hw_
        have hP : va_P (g.1, g.2.1) vwCl (wC g (sF (sF (sF (sF (sF (sL (sL (sA σ 15 f15_39) 0 l0_39) 1 l1_39) 12 m2_39) 13 r2_39) 14 k2_39) 15 j2_39) 16 p2_39) ++ tl) H := hP
        have hD : va_D A (wC g (sF (sF (sF (sF (sF (sL (sL (sA σ 15 f15_39) 0 l0_39) 1 l1_39) 12 m2_39) 13 r2_39) 14 k2_39) 15 j2_39) 16 p2_39) ++ tl) := hD
        refine lv_l2d hx hb dX10_density_42 ?_
        refine lv_lload_n hx hb dX10_density_43 rfl (lv_at hl 3 rfl) ?_
        refine lv_l2d hx hb dX10_density_44 ?_
        refine lv_ddiv hx hb dX10_density_45 (by rw [ez]; exact dd_n (by omega) (hcw h_1 h_5 h_10)) ?_
        exact hq _ _ _ _ _ _ ((FP.ddiv (FP.l2d (lN (cwN (σ.2.1 0) (σ.1 0) md n))) (FP.l2d (lN z)))) (f15_39, l0_39, l1_39, m2_39, r2_39, k2_39, j2_39, p2_39) (Nat.le_of_ble_eq_true rfl) (Nat.le_of_ble_eq_true rfl) dX10_density_46 ⟨by rw [ez]; rfl, h_1, h_5, h_10⟩ hP hD hS
      · refine lv_lload_n hx hb dX10_density_24 rfl (lv_at hl 3 rfl) ?_
        refine lv_ldc2 (v := 3) hx hb hown (hts (.constantLong RX10 373 3) (by decide +kernel)) dX10_density_25 ?_
        rw [show ((3 : Int64)) = lN 3 from rfl]
        refine jn_lmul hx hb dX10_density_28 ?_
        refine lv_lstore_n (lv' := [(3, .long (lN (z * 3))), (0, .ref (g.2.2.2 0)), (1, .int (nI md)), (2, .int (nI n)), (5, .int (nI i))]) hx hb dX10_density_29 rfl hl (by decide) rfl (fun ls hl => ?_)
        refine lv_iinc (v := nI (i + 1)) (lv' := [(5, .int (nI (i + 1))), (3, .long (lN (z * 3))), (0, .ref (g.2.2.2 0)), (1, .int (nI md)), (2, .int (nI n))]) hx hb dX10_density_30 hl (k := 4) rfl (jn_ii _ 1) (by decide) rfl (fun ls hl => ?_)
        refine lv_goto (tgt := 18) hx hb dX10_density_33 (by decide) ?_
        exact ih18 (i + 1) (z * 3) (by omega) (by rw [h2]; rfl) (by omega) _ _ hP hD hS _ (lv_sub hl [2, 3, 4, 1, 0] rfl)
  exact lp18 _ 0 1 (by omega) rfl (Nat.lt_succ_self _) _ _ hP hD hS _ (lv_sub hl [2, 3, 4, 1, 0] rfl)

abbrev r_c_X10_averageMinimum : Room := { frames := 6, cells := 1, slots := 6, locals := 96 }
set_option maxHeartbeats 4000000 in
set_option maxRecDepth 100000 in
theorem c_X10_averageMinimum (l : Launch) (hflg : l.stackTraces = false) (g : GC) (tl : va_W) (sz : Nat) (σ : SS) (hA : OkA σ) : vx_Met l yX10_averageMinimum wsX10_averageMinimum r_c_X10_averageMinimum (va_Pc [.ref (g.2.2.2 0)] (PX g (wC g σ ++ tl) sz)) (va_Qf (fun (r : UInt32) (z : Nat × (Nat → Nat) × (Nat → Nat)) => match z with | (n6, f15, f17) => (r = (ffQ n6 (fb_sm (fun i => dsum (f17 i)) n6))) ∧ (LOk f17 n6) ∧ (∀ z, inL f17 n6 z ↔ mnC (σ.2.1 0) (σ.1 0) z) ∧ (0 < n6)) (fun (z : Nat × (Nat → Nat) × (Nat → Nat)) t => BW g (va_A (wC g σ ++ tl) sz) ((fun z : Nat × (Nat → Nat) × (Nat → Nat) => match z with | (n6, f15, f17) => wC g (sA (sA (sF σ 6 n6) 15 f15) 17 f17) ++ tl) z) t) (va_A (wC g σ ++ tl) sz)) (XW g (va_A (wC g σ ++ tl) sz) (fun (E : String) (z : Nat × (Nat → Nat) × (Nat → Nat)) => match z with | (n6, f15, f17) => (E = "java/lang/ArithmeticException" ∧ ((LOk f17 n6) ∧ (∀ z, inL f17 n6 z ↔ mnC (σ.2.1 0) (σ.1 0) z) ∧ n6 = 0))) (fun z : Nat × (Nat → Nat) × (Nat → Nat) => match z with | (n6, f15, f17) => wC g (sA (sA (sF σ 6 n6) 15 f15) 17 f17) ++ tl)) 1 6 (va_A (wC g σ ++ tl) sz) := by
  refine jx_f hflg (wf := fun z : Nat × (Nat → Nat) × (Nat → Nat) => match z with | (n6, f15, f17) => wC g (sA (sA (sF σ 6 n6) 15 f15) 17 f17) ++ tl) (wx := fun z : Nat × (Nat → Nat) × (Nat → Nat) => match z with | (n6, f15, f17) => wC g (sA (sA (sF σ 6 n6) 15 f15) 17 f17) ++ tl) (cc := cX10_averageMinimum) (maxL := 1) (by decide) rfl rfl (Nat.le_of_ble_eq_true rfl) ?_
  intro p e s m below meth c Q A hx hb hml hown hts hKX hP hD hS hAA hZ hq hqt hqw hqo ls hl
  have hK := hKX.1
  obtain ⟨H, eH⟩ : ∃ z, z = s.heap := ⟨_, rfl⟩
  obtain ⟨locs, el⟩ : ∃ z : List Loc, z = [] := ⟨_, rfl⟩
  rw [← eH] at hP
  have hS : va_S A s.heap H locs := by rw [eH, el]; exact hS
  have goal0 : W p l e r_c_X10_averageMinimum s m ([.ref (g.2.2.2 0)] : List Value).toArray below meth c H locs 0 0 Q (F0 m 0 ls []) → W p l e r_c_X10_averageMinimum s m ([.ref (g.2.2.2 0)] : List Value).toArray below meth c s.heap [] 0 0 Q (F0 m 0 ls []) := fun h => by rw [eH, el] at h; exact h
  refine goal0 ?_
  have hl : lv_has ls 1 [(0, .ref (g.2.2.2 0))] := hl
  have iX10 : ∀ w ∈ wsX100, w ∈ wsX10_averageMinimum := by decide +kernel
  have iX4 : ∀ w ∈ wsX40, w ∈ wsX10_averageMinimum := by decide +kernel
  have k58 := hts (.fieldLink RX10 58 "JumpingAutomata" "minimals" "LJumpingAutomata$CountsList;") (by decide +kernel)
  have k292 := hts (.fieldLink RX10 292 "JumpingAutomata$CountsList" "size" "I") (by decide +kernel)
  refine lv_aload_n hx hb dX10_averageMinimum_0 rfl (lv_at hl 0 rfl) ?_
  refine jn_callv (va_runV (As := []) (rest := []) ⟨hx, hb, hml, hown, hts⟩ (c_X10_gatherMinimals l g tl H.size σ hA) (cwV 0 hts gX10_averageMinimum_X10_gatherMinimals rfl rfl rfl (by decide +kernel) ⟨Nat.le_of_ble_eq_true rfl, Nat.le_of_ble_eq_true rfl⟩) (okWV hK hP hD rfl (gC0 g σ tl)) rfl rfl hl.1 rfl (lv_room (Nat.le_of_ble_eq_true rfl)) dX10_averageMinimum_1 ⟨Nat.le_of_ble_eq_true rfl, Nat.le_of_ble_eq_true rfl⟩) hD hS hAA (fun u H locs hw_ hP hD hS => ?_)
  obtain ⟨n6_1, f15_1, f17_1⟩ := u
  have h_1 := hw_
  have h_1 : (LOk f17_1 n6_1) ∧ (∀ z, inL f17_1 n6_1 z ↔ mnC (σ.2.1 0) (σ.1 0) z) := h_1
  have hP : va_P (g.1, g.2.1) vwCl (wC g (sA (sA (sF σ 6 n6_1) 15 f15_1) 17 f17_1) ++ tl) H := hP
  have hD : va_D A (wC g (sA (sA (sF σ 6 n6_1) 15 f15_1) 17 f17_1) ++ tl) := hD
  have hl6 := h_1.1.1
  have hsm := mn_sum h_1.1 h_1.2
  refine lv_aload_n hx hb dX10_averageMinimum_4 rfl (lv_at hl 0 rfl) ?_
  refine va_get (D := (g.1, g.2.1)) (ci := 12) (v := .ref (g.2.2.2 25)) (C := RX10) (T := TX10) (N := 15) hx hb hts iX10 hown hK.1 hP 0 (gC0 g (sA (sA (sF σ 6 n6_1) 15 f15_1) 17 f17_1) tl) rfl 8 (by decide) k58 (fun _ h9 => h9) rfl dX10_averageMinimum_5 ?_
  refine va_get (D := (g.1, g.2.1)) (ci := 6) (v := .int (nI n6_1)) (C := RX4) (T := TX4) (N := 2) hx hb hts iX4 hown hK.1 hP 25 (gC25 g (sA (sA (sF σ 6 n6_1) 15 f15_1) 17 f17_1) tl) rfl 1 (by decide) k292 (fun _ h9 => h9) rfl dX10_averageMinimum_8 ?_
  refine jn_zgt hx hb (by omega) (tgt := 25) dX10_averageMinimum_11 (by decide) (fun c_11 => ?_) (fun c_11 => ?_)
  · refine lv_aload_n hx hb dX10_averageMinimum_25 rfl (lv_at hl 0 rfl) ?_
    refine va_get (D := (g.1, g.2.1)) (ci := 12) (v := .ref (g.2.2.2 25)) (C := RX10) (T := TX10) (N := 15) hx hb hts iX10 hown hK.1 hP 0 (gC0 g (sA (sA (sF σ 6 n6_1) 15 f15_1) 17 f17_1) tl) rfl 8 (by decide) k58 (fun _ h9 => h9) rfl dX10_averageMinimum_26 ?_
    refine vp_callSi (va_Run.run (va_runV (As := []) (rest := []) ⟨hx, hb, hml, hown, hts⟩ (c_X4_sumOfNumbers_25 l g tl (sA (sA (sF σ 6 n6_1) 15 f15_1) 17 f17_1) h_1.1) (cwV 0 hts gX10_averageMinimum_X4_sumOfNumbers rfl rfl rfl (by decide +kernel) ⟨Nat.le_of_ble_eq_true rfl, Nat.le_of_ble_eq_true rfl⟩) (okPV hK hP rfl (gC25 g (sA (sA (sF σ 6 n6_1) 15 f15_1) 17 f17_1) tl)) rfl rfl hl.1 rfl (lv_room (Nat.le_of_ble_eq_true rfl)) dX10_averageMinimum_29 ⟨Nat.le_of_ble_eq_true rfl, Nat.le_of_ble_eq_true rfl⟩)) (fun r_29 h_29 => ?_)
    have h_29 : r_29 = (nI (fb_sm (fun i => dsum ((f17_1) i)) (n6_1))) := h_29
    subst h_29
    refine lv_i2f hx hb dX10_averageMinimum_32 ?_
    refine lv_aload_n hx hb dX10_averageMinimum_33 rfl (lv_at hl 0 rfl) ?_
    refine va_get (D := (g.1, g.2.1)) (ci := 12) (v := .ref (g.2.2.2 25)) (C := RX10) (T := TX10) (N := 15) hx hb hts iX10 hown hK.1 hP 0 (gC0 g (sA (sA (sF σ 6 n6_1) 15 f15_1) 17 f17_1) tl) rfl 8 (by decide) k58 (fun _ h9 => h9) rfl dX10_averageMinimum_34 ?_
    refine va_get (D := (g.1, g.2.1)) (ci := 6) (v := .int (nI n6_1)) (C := RX4) (T := TX4) (N := 2) hx hb hts iX4 hown hK.1 hP 25 (gC25 g (sA (sA (sF σ 6 n6_1) 15 f15_1) 17 f17_1) tl) rfl 1 (by decide) k292 (fun _ h9 => h9) rfl dX10_averageMinimum_37 ?_
    refine lv_i2f hx hb dX10_averageMinimum_40 ?_
    refine lv_fdiv hx hb dX10_averageMinimum_41 (ff_n (by omega) (by omega) hsm).1 ?_
    exact hq _ _ _ _ _ _ ((FP.fdiv (FP.i2f (nI (fb_sm (fun i => dsum ((f17_1) i)) (n6_1)))) (FP.i2f (nI n6_1)))) (n6_1, f15_1, f17_1) (Nat.le_of_ble_eq_true rfl) (Nat.le_of_ble_eq_true rfl) dX10_averageMinimum_42 ⟨rfl, h_1.1, h_1.2, by omega⟩ hP hD hS
  · exact hqw _ _ _ _ 14 375 377 379 "java/lang/ArithmeticException" "there are no minimal counts" _ (n6_1, f15_1, f17_1) hl.1 dX10_averageMinimum_14 dX10_averageMinimum_17 dX10_averageMinimum_18 dX10_averageMinimum_21 dX10_averageMinimum_24 ⟨by decide +kernel, by decide +kernel, fun w hw => List.mem_cons_of_mem _ (List.mem_append_left _ (List.mem_append_right _ hw)), by decide +kernel, by decide +kernel, by decide +kernel, by decide +kernel, by decide +kernel, Nat.le_of_ble_eq_true rfl, Nat.le_of_ble_eq_true rfl⟩ (Nat.le_of_ble_eq_true rfl) (Nat.le_of_ble_eq_true rfl) (Nat.le_of_ble_eq_true rfl) (Nat.le_of_ble_eq_true rfl) ⟨rfl, ⟨h_1.1, h_1.2, by omega⟩⟩ hP hD hS
