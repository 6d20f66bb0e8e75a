abbrev r_c_X9_findArrangement : Room := { frames := 10, cells := 0, slots := 0, locals := 246 }
set_option maxHeartbeats 4000000 in
set_option maxRecDepth 100000 in
theorem c_X9_findArrangement (l : Launch) (g : GC) (tl : va_W) (sz : Nat) (σ : SS) (n rk : Nat) (hA : OkA σ) (hn : n ≤ 8) (hw : ∀ i, i < n → (σ.2.1 14) i < 3) (hrk : rk < 4294967296) : Met l yX9_findArrangement wsX9_findArrangement r_c_X9_findArrangement (va_Pc [.ref (g.2.2.2 30), .ref (g.2.2.2 1), .ref (g.2.2.2 20), .int (nI n), .int (nI rk)] (PW g (wC g σ ++ tl) sz)) (va_Qi (fun (r : Int32) (z : Nat × (Nat → Nat) × (Nat → Nat) × Nat) => match z with | (b, lt2, lf2, sn2) => (r = nI (b)) ∧ ((b = 1 ∧ rk < arrN (σ.2.1 0) (σ.1 0) n (cntW (σ.2.1 14) n) 1 ∧ isArr (σ.2.1 0) (σ.1 0) n (cntW (σ.2.1 14) n) 1 rk lt2) ∨ (b = 0 ∧ ¬ rk < arrN (σ.2.1 0) (σ.1 0) n (cntW (σ.2.1 14) n) 1 ∧ sn2 = arrN (σ.2.1 0) (σ.1 0) n (cntW (σ.2.1 14) n) 1))) (fun (z : Nat × (Nat → Nat) × (Nat → Nat) × Nat) t => BW g (va_A (wC g σ ++ tl) sz) ((fun z : Nat × (Nat → Nat) × (Nat → Nat) × Nat => match z with | (b, lt2, lf2, sn2) => wC g (sA (sA (sF (sF (sF σ 17 n) 18 sn2) 19 rk) 19 lt2) 20 lf2) ++ tl) z) t) (va_A (wC g σ ++ tl) sz)) 0 0 (va_A (wC g σ ++ tl) sz) := by
  refine jn_sz (wf := fun z : Nat × (Nat → Nat) × (Nat → Nat) × Nat => match z with | (b, lt2, lf2, sn2) => wC g (sA (sA (sF (sF (sF σ 17 n) 18 sn2) 19 rk) 19 lt2) 20 lf2) ++ tl) (cc := cX9_findArrangement) (maxL := 6) (own := RX9) (by decide) rfl rfl (Nat.le_of_ble_eq_true rfl) ?_
  intro p e s m below meth c Q A hx hb hml hown hts hK hP hD hS hAA hq ls hl
  obtain ⟨H, eH⟩ : ∃ z, z = s.heap := ⟨_, rfl⟩
  obtain ⟨locs, el⟩ : ∃ z : List Loc, z = [] := ⟨_, rfl⟩
  rw [← eH] at hP
  have hS : va_S A s.heap H locs := by rw [eH, el]; exact hS
  have goal0 : W p l e r_c_X9_findArrangement s m ([.ref (g.2.2.2 30), .ref (g.2.2.2 1), .ref (g.2.2.2 20), .int (nI n), .int (nI rk)] : List Value).toArray below meth c H locs 0 0 Q (F0 m 0 ls []) → W p l e r_c_X9_findArrangement s m ([.ref (g.2.2.2 30), .ref (g.2.2.2 1), .ref (g.2.2.2 20), .int (nI n), .int (nI rk)] : List Value).toArray below meth c s.heap [] 0 0 Q (F0 m 0 ls []) := fun h => by rw [eH, el] at h; exact h
  refine goal0 ?_
  have hl : lv_has ls 6 [(0, .ref (g.2.2.2 30)), (1, .ref (g.2.2.2 1)), (2, .ref (g.2.2.2 20)), (3, .int (nI n)), (4, .int (nI rk))] := hl
  have iX9 : ∀ w ∈ wsX90, w ∈ wsX9_findArrangement := by decide +kernel
  have k18 := hts (.fieldLink RX9 18 "JumpingAutomata$WordSearch" "length" "I") (by decide +kernel)
  have k22 := hts (.fieldLink RX9 22 "JumpingAutomata$WordSearch" "seen" "I") (by decide +kernel)
  have k25 := hts (.fieldLink RX9 25 "JumpingAutomata$WordSearch" "wanted" "I") (by decide +kernel)
  have k15 := hts (.fieldLink RX9 15 "JumpingAutomata$WordSearch" "left" "[I") (by decide +kernel)
  refine lv_iconst (v := nI 0) hx hb dX9_findArrangement_0 (by decide) ?_
  refine lv_istore (lv' := [(5, .int (nI 0)), (0, .ref (g.2.2.2 30)), (1, .ref (g.2.2.2 1)), (2, .ref (g.2.2.2 20)), (3, .int (nI n)), (4, .int (nI rk))]) hx hb dX9_findArrangement_1 hl (by decide) rfl (fun ls hl => ?_)
  have lp3 : ∀ (fu : Nat), ∀ (i : Nat) (f : Nat → Nat), (i ≤ 3) → (∀ x, x < i → f x = 0) → 3 - i < fu → ∀ (H : Heap) (locs : List Loc), va_P (g.1, g.2.1) vwCl (wC g (sA σ 20 f) ++ tl) H → va_D A (wC g (sA σ 20 f) ++ tl) → va_S A s.heap H locs → ∀ ls : Array Slot, lv_has ls 6 [(0, .ref (g.2.2.2 30)), (1, .ref (g.2.2.2 1)), (2, .ref (g.2.2.2 20)), (3, .int (nI n)), (4, .int (nI rk)), (5, .int (nI i))] → W p l e r_c_X9_findArrangement s m ([.ref (g.2.2.2 30), .ref (g.2.2.2 1), .ref (g.2.2.2 20), .int (nI n), .int (nI rk)] : List Value).toArray below meth c H locs 0 0 Q (F0 m 3 ls []) := by
    intro fu
    induction fu with
    | zero => intro i f h1 h2 hf; exact absurd hf (Nat.not_lt_zero _)
    | succ fu ih3 =>
      intro i f h1 h2 hf H locs hP hD hS ls hl
      refine lv_iload hx hb dX9_findArrangement_3 (lv_at hl 5 rfl) ?_
      refine lv_iconst (v := nI 3) hx hb dX9_findArrangement_5 (by decide) ?_
      refine jn_cge hx hb (by omega) (by decide) (tgt := 23) dX9_findArrangement_6 (by decide) (fun c_6 => ?_) (fun c_6 => ?_)
      · refine lv_iconst (v := nI 0) hx hb dX9_findArrangement_23 (by decide) ?_
        refine lv_istore (lv' := [(5, .int (nI 0)), (0, .ref (g.2.2.2 30)), (1, .ref (g.2.2.2 1)), (2, .ref (g.2.2.2 20)), (3, .int (nI n)), (4, .int (nI rk))]) hx hb dX9_findArrangement_24 hl (by decide) rfl (fun ls hl => ?_)
        have lp26 : ∀ (fu : Nat), ∀ (i : Nat) (f : Nat → Nat), (i ≤ n) → (∀ x, x < 3 → f x = cntW (σ.2.1 14) i x) → n - i < fu → ∀ (H : Heap) (locs : List Loc), va_P (g.1, g.2.1) vwCl (wC g (sA σ 20 f) ++ tl) H → va_D A (wC g (sA σ 20 f) ++ tl) → va_S A s.heap H locs → ∀ ls : Array Slot, lv_has ls 6 [(0, .ref (g.2.2.2 30)), (1, .ref (g.2.2.2 1)), (2, .ref (g.2.2.2 20)), (3, .int (nI n)), (4, .int (nI rk)), (5, .int (nI i))] → W p l e r_c_X9_findArrangement s m ([.ref (g.2.2.2 30), .ref (g.2.2.2 1), .ref (g.2.2.2 20), .int (nI n), .int (nI rk)] : List Value).toArray below meth c H locs 0 0 Q (F0 m 26 ls []) := by
          intro fu
          induction fu with
          | zero => intro i f h3 h4 hf; exact absurd hf (Nat.not_lt_zero _)
          | succ fu ih26 =>
            intro i f h3 h4 hf H locs hP hD hS ls hl
            refine lv_iload hx hb dX9_findArrangement_26 (lv_at hl 5 rfl) ?_
            refine lv_iload_n hx hb dX9_findArrangement_28 rfl (lv_at hl 3 rfl) ?_
            refine jn_cge hx hb (by omega) (by omega) (tgt := 68) dX9_findArrangement_29 (by decide) (fun c_29 => ?_) (fun c_29 => ?_)
            · refine lv_aload_n hx hb dX9_findArrangement_68 rfl (lv_at hl 0 rfl) ?_
              refine lv_iload_n hx hb dX9_findArrangement_69 rfl (lv_at hl 3 rfl) ?_
              refine jn_put (D := (g.1, g.2.1)) (ci := 11) (v := .int (nI n)) (ty := .int) (C := RX9) (T := TX9) (N := 7) hx hb hts iX9 tyX9 tyX9_ok nmX9 hown hK.1 hP hD hS 30 (gC30 g (sA σ 20 f) tl) rfl 2 (by decide) k18 (fun _ h9 => h9) rfl (by decide +kernel) rfl rfl (Nat.le_of_ble_eq_true rfl) (uC_F17 g (sA σ 20 f) tl n) dX9_findArrangement_70 (fun H locs hP hD hS => ?_)
              refine lv_aload_n hx hb dX9_findArrangement_73 rfl (lv_at hl 0 rfl) ?_
              refine lv_iconst (v := nI 0) hx hb dX9_findArrangement_74 (by decide) ?_
              refine jn_put (D := (g.1, g.2.1)) (ci := 11) (v := .int (nI 0)) (ty := .int) (C := RX9) (T := TX9) (N := 7) hx hb hts iX9 tyX9 tyX9_ok nmX9 hown hK.1 hP hD hS 30 (gC30 g (sF (sA σ 20 f) 17 n) tl) rfl 3 (by decide) k22 (fun _ h9 => h9) rfl (by decide +kernel) rfl rfl (Nat.le_of_ble_eq_true rfl) (uC_F18 g (sF (sA σ 20 f) 17 n) tl 0) dX9_findArrangement_75 (fun H locs hP hD hS => ?_)
              refine lv_aload_n hx hb dX9_findArrangement_78 rfl (lv_at hl 0 rfl) ?_
              refine lv_iload hx hb dX9_findArrangement_79 (lv_at hl 4 rfl) ?_
              refine jn_put (D := (g.1, g.2.1)) (ci := 11) (v := .int (nI rk)) (ty := .int) (C := RX9) (T := TX9) (N := 7) hx hb hts iX9 tyX9 tyX9_ok nmX9 hown hK.1 hP hD hS 30 (gC30 g (sF (sF (sA σ 20 f) 17 n) 18 0) tl) rfl 4 (by decide) k25 (fun _ h9 => h9) rfl (by decide +kernel) rfl rfl (Nat.le_of_ble_eq_true rfl) (uC_F19 g (sF (sF (sA σ 20 f) 17 n) 18 0) tl rk) dX9_findArrangement_81 (fun H locs hP hD hS => ?_)
              refine lv_aload_n hx hb dX9_findArrangement_84 rfl (lv_at hl 0 rfl) ?_
              refine lv_aload_n hx hb dX9_findArrangement_85 rfl (lv_at hl 1 rfl) ?_
              refine lv_iconst (v := nI 0) hx hb dX9_findArrangement_86 (by decide) ?_
              refine lv_iconst (v := nI 1) hx hb dX9_findArrangement_87 (by decide) ?_
              have e1 : i = n := by omega
              have h5 : ∀ x, x < 3 → f x = (cntW (σ.2.1 14) n) x := by rw [← e1]; exact h4
              have eA : arrN (σ.2.1 0) (σ.1 0) (n - 0) f 1 = arrN (σ.2.1 0) (σ.1 0) n (cntW (σ.2.1 14) n) 1 := arrN_cong _ _ _ _ _ _ h5
              refine jn_calli (va_runV (As := [.ref (g.2.2.2 1), .int (nI 0), .int (nI 1)]) (rest := []) ⟨hx, hb, hml, hown, hts⟩ (c_X9_arrange_d0 l g tl H.size (sF (sF (sF (sA σ 20 f) 17 n) 18 0) 19 rk) 1 hA hn (Nat.zero_le _) (by decide) hrk (show 0 + 3 ^ (n - 0) ≤ 10000 by rw [Nat.zero_add]; exact Nat.le_trans (Nat.pow_le_pow_right (by decide) (show n - 0 ≤ 8 by omega)) (by decide)) (show f 0 + f 1 + f 2 = n - 0 by rw [h5 0 (by decide), h5 1 (by decide), h5 2 (by decide), cntW_sum n hw]; rfl)) (cwV 3 hts gX9_findArrangement_X9_arrange rfl rfl rfl (by decide +kernel) ⟨Nat.le_of_ble_eq_true rfl, Nat.le_of_ble_eq_true rfl⟩) (okWV hK hP hD rfl (gC30 g (sF (sF (sF (sA σ 20 f) 17 n) 18 0) 19 rk) tl)) rfl rfl hl.1 rfl (lv_room (Nat.le_of_ble_eq_true rfl)) dX9_findArrangement_88 ⟨Nat.le_of_ble_eq_true rfl, Nat.le_of_ble_eq_true rfl⟩) hD hS hAA (fun r_88 u H locs hw_ hP hD hS => ?_)
              obtain ⟨b_88, lt2_88, lf2_88, sn2_88⟩ := u
              obtain ⟨rfl, h_88⟩ := hw_
              have h_88 : ((b_88 = 1 ∧ ((0) ≤ (rk) ∧ (rk) < (0) + arrN (σ.2.1 0) (σ.1 0) ((n) - 0) (f) 1) ∧ isArr (σ.2.1 0) (σ.1 0) ((n) - 0) (f) 1 ((rk) - (0)) (fun i => lt2_88 (0 + i))) ∨ (b_88 = 0 ∧ ¬ ((0) ≤ (rk) ∧ (rk) < (0) + arrN (σ.2.1 0) (σ.1 0) ((n) - 0) (f) 1) ∧ sn2_88 = (0) + arrN (σ.2.1 0) (σ.1 0) ((n) - 0) (f) 1 ∧ ∀ x, x < 3 → lf2_88 x = (f) x)) ∧ (∀ i, i < 0 → lt2_88 i = (σ.2.1 19) i) := h_88
              have hP : va_P (g.1, g.2.1) vwCl (wC g (sA (sA (sF (sF (sF (sF (sA σ 20 f) 17 n) 18 0) 19 rk) 18 sn2_88) 19 lt2_88) 20 lf2_88) ++ tl) H := hP
              have hD : va_D A (wC g (sA (sA (sF (sF (sF (sF (sA σ 20 f) 17 n) 18 0) 19 rk) 18 sn2_88) 19 lt2_88) 20 lf2_88) ++ tl) := hD
              exact hq _ _ _ _ ((nI b_88)) (_, lt2_88, lf2_88, sn2_88) dX9_findArrangement_91 (by rcases h_88.1 with z | z <;> rw [z.1] <;> decide) ⟨rfl, by rcases h_88.1 with z | z; { refine Or.inl ⟨z.1, by have := z.2.1.2; rw [eA] at this; omega, isArr_cong _ _ _ _ _ _ _ _ _ h5 (fun i _ => by rw [Nat.zero_add]) z.2.2⟩ }; { refine Or.inr ⟨z.1, by have := z.2.1; rw [eA] at this; omega, by have := z.2.2.1; rw [eA] at this; omega⟩ }⟩ hP hD hS
            · refine lv_iload hx hb dX9_findArrangement_32 (lv_at hl 5 rfl) ?_
              refine lv_aload_n hx hb dX9_findArrangement_34 rfl (lv_at hl 2 rfl) ?_
              refine va_alen hx hb hK.1 hP 20 0 (gC20 g (sA σ 20 f) tl) rfl (v := nI 8) rfl dX9_findArrangement_35 ?_
              refine jn_cge hx hb (by omega) (by decide) (tgt := 68) dX9_findArrangement_36 (by decide) (fun c_36 => ?_) (fun c_36 => ?_)
              · refine lv_aload_n hx hb dX9_findArrangement_68 rfl (lv_at hl 0 rfl) ?_
                refine lv_iload_n hx hb dX9_findArrangement_69 rfl (lv_at hl 3 rfl) ?_
                refine jn_put (D := (g.1, g.2.1)) (ci := 11) (v := .int (nI n)) (ty := .int) (C := RX9) (T := TX9) (N := 7) hx hb hts iX9 tyX9 tyX9_ok nmX9 hown hK.1 hP hD hS 30 (gC30 g (sA σ 20 f) tl) rfl 2 (by decide) k18 (fun _ h9 => h9) rfl (by decide +kernel) rfl rfl (Nat.le_of_ble_eq_true rfl) (uC_F17 g (sA σ 20 f) tl n) dX9_findArrangement_70 (fun H locs hP hD hS => ?_)
                refine lv_aload_n hx hb dX9_findArrangement_73 rfl (lv_at hl 0 rfl) ?_
                refine lv_iconst (v := nI 0) hx hb dX9_findArrangement_74 (by decide) ?_
                refine jn_put (D := (g.1, g.2.1)) (ci := 11) (v := .int (nI 0)) (ty := .int) (C := RX9) (T := TX9) (N := 7) hx hb hts iX9 tyX9 tyX9_ok nmX9 hown hK.1 hP hD hS 30 (gC30 g (sF (sA σ 20 f) 17 n) tl) rfl 3 (by decide) k22 (fun _ h9 => h9) rfl (by decide +kernel) rfl rfl (Nat.le_of_ble_eq_true rfl) (uC_F18 g (sF (sA σ 20 f) 17 n) tl 0) dX9_findArrangement_75 (fun H locs hP hD hS => ?_)
                refine lv_aload_n hx hb dX9_findArrangement_78 rfl (lv_at hl 0 rfl) ?_
                refine lv_iload hx hb dX9_findArrangement_79 (lv_at hl 4 rfl) ?_
                refine jn_put (D := (g.1, g.2.1)) (ci := 11) (v := .int (nI rk)) (ty := .int) (C := RX9) (T := TX9) (N := 7) hx hb hts iX9 tyX9 tyX9_ok nmX9 hown hK.1 hP hD hS 30 (gC30 g (sF (sF (sA σ 20 f) 17 n) 18 0) tl) rfl 4 (by decide) k25 (fun _ h9 => h9) rfl (by decide +kernel) rfl rfl (Nat.le_of_ble_eq_true rfl) (uC_F19 g (sF (sF (sA σ 20 f) 17 n) 18 0) tl rk) dX9_findArrangement_81 (fun H locs hP hD hS => ?_)
                refine lv_aload_n hx hb dX9_findArrangement_84 rfl (lv_at hl 0 rfl) ?_
                refine lv_aload_n hx hb dX9_findArrangement_85 rfl (lv_at hl 1 rfl) ?_
                refine lv_iconst (v := nI 0) hx hb dX9_findArrangement_86 (by decide) ?_
                refine lv_iconst (v := nI 1) hx hb dX9_findArrangement_87 (by decide) ?_
                have e1 : i = n := by omega
                have h5 : ∀ x, x < 3 → f x = (cntW (σ.2.1 14) n) x := by rw [← e1]; exact h4
                have eA : arrN (σ.2.1 0) (σ.1 0) (n - 0) f 1 = arrN (σ.2.1 0) (σ.1 0) n (cntW (σ.2.1 14) n) 1 := arrN_cong _ _ _ _ _ _ h5
                refine jn_calli (va_runV (As := [.ref (g.2.2.2 1), .int (nI 0), .int (nI 1)]) (rest := []) ⟨hx, hb, hml, hown, hts⟩ (c_X9_arrange_d0 l g tl H.size (sF (sF (sF (sA σ 20 f) 17 n) 18 0) 19 rk) 1 hA hn (Nat.zero_le _) (by decide) hrk (show 0 + 3 ^ (n - 0) ≤ 10000 by rw [Nat.zero_add]; exact Nat.le_trans (Nat.pow_le_pow_right (by decide) (show n - 0 ≤ 8 by omega)) (by decide)) (show f 0 + f 1 + f 2 = n - 0 by rw [h5 0 (by decide), h5 1 (by decide), h5 2 (by decide), cntW_sum n hw]; rfl)) (cwV 3 hts gX9_findArrangement_X9_arrange rfl rfl rfl (by decide +kernel) ⟨Nat.le_of_ble_eq_true rfl, Nat.le_of_ble_eq_true rfl⟩) (okWV hK hP hD rfl (gC30 g (sF (sF (sF (sA σ 20 f) 17 n) 18 0) 19 rk) tl)) rfl rfl hl.1 rfl (lv_room (Nat.le_of_ble_eq_true rfl)) dX9_findArrangement_88 ⟨Nat.le_of_ble_eq_true rfl, Nat.le_of_ble_eq_true rfl⟩) hD hS hAA (fun r_88 u H locs hw_ hP hD hS => ?_)
                obtain ⟨b_88, lt2_88, lf2_88, sn2_88⟩ := u
                obtain ⟨rfl, h_88⟩ := hw_
                have h_88 : ((b_88 = 1 ∧ ((0) ≤ (rk) ∧ (rk) < (0) + arrN (σ.2.1 0) (σ.1 0) ((n) - 0) (f) 1) ∧ isArr (σ.2.1 0) (σ.1 0) ((n) - 0) (f) 1 ((rk) - (0)) (fun i => lt2_88 (0 + i))) ∨ (b_88 = 0 ∧ ¬ ((0) ≤ (rk) ∧ (rk) < (0) + arrN (σ.2.1 0) (σ.1 0) ((n) - 0) (f) 1) ∧ sn2_88 = (0) + arrN (σ.2.1 0) (σ.1 0) ((n) - 0) (f) 1 ∧ ∀ x, x < 3 → lf2_88 x = (f) x)) ∧ (∀ i, i < 0 → lt2_88 i = (σ.2.1 19) i) := h_88
                have hP : va_P (g.1, g.2.1) vwCl (wC g (sA (sA (sF (sF (sF (sF (sA σ 20 f) 17 n) 18 0) 19 rk) 18 sn2_88) 19 lt2_88) 20 lf2_88) ++ tl) H := hP
                have hD : va_D A (wC g (sA (sA (sF (sF (sF (sF (sA σ 20 f) 17 n) 18 0) 19 rk) 18 sn2_88) 19 lt2_88) 20 lf2_88) ++ tl) := hD
                exact hq _ _ _ _ ((nI b_88)) (_, lt2_88, lf2_88, sn2_88) dX9_findArrangement_91 (by rcases h_88.1 with z | z <;> rw [z.1] <;> decide) ⟨rfl, by rcases h_88.1 with z | z; { refine Or.inl ⟨z.1, by have := z.2.1.2; rw [eA] at this; omega, isArr_cong _ _ _ _ _ _ _ _ _ h5 (fun i _ => by rw [Nat.zero_add]) z.2.2⟩ }; { refine Or.inr ⟨z.1, by have := z.2.1; rw [eA] at this; omega, by have := z.2.2.1; rw [eA] at this; omega⟩ }⟩ hP hD hS
              · refine lv_aload_n hx hb dX9_findArrangement_39 rfl (lv_at hl 2 rfl) ?_
                refine lv_iload hx hb dX9_findArrangement_40 (lv_at hl 5 rfl) ?_
                refine jn_iald (f := σ.2.1 14) hx hb hK.1 hP 20 0 (gC20 g (sA σ 20 f) tl) rfl (by omega) (Nat.le_of_ble_eq_true rfl) dX9_findArrangement_42 ?_
                refine vp_callSi (va_Run.run (va_runSN (As := [.int (nI ((σ.2.1 14) i))]) (rest := []) ⟨hx, hb, hml, hown, hts⟩ (c_X10_isLetter l ((σ.2.1 14) i) (by have := hw i (by omega); omega)) ⟨(va_cnB 1 hts gX9_findArrangement_X10_isLetter_n62 rfl rfl rfl (hK.2 _ (List.mem_of_getElem? (i := 12) rfl)) (hts (.initialized RX10) (by decide +kernel)) (by decide +kernel) ⟨Nat.le_of_ble_eq_true rfl, Nat.le_of_ble_eq_true rfl⟩), hts (.static yX10_isLetter) (by decide +kernel), trivial⟩ okTS rfl rfl hl.1 rfl (lv_room (Nat.le_of_ble_eq_true rfl)) dX9_findArrangement_43 ⟨Nat.le_of_ble_eq_true rfl, Nat.le_of_ble_eq_true rfl⟩)) (fun r_43 h_43 => ?_)
                subst h_43
                refine jn_beq hx hb (tgt := 62) dX9_findArrangement_46 (by decide) (fun c_46 => absurd c_46 (fun q => q (hw i (by omega)))) (fun c_46 => ?_)
                refine lv_aload_n hx hb dX9_findArrangement_49 rfl (lv_at hl 0 rfl) ?_
                refine va_get (D := (g.1, g.2.1)) (ci := 11) (v := .ref (g.2.2.2 32)) (C := RX9) (T := TX9) (N := 7) hx hb hts iX9 hown hK.1 hP 30 (gC30 g (sA σ 20 f) tl) rfl 1 (by decide) k15 (fun _ h9 => h9) rfl dX9_findArrangement_50 ?_
                refine lv_aload_n hx hb dX9_findArrangement_53 rfl (lv_at hl 2 rfl) ?_
                refine lv_iload hx hb dX9_findArrangement_54 (lv_at hl 5 rfl) ?_
                refine jn_iald (f := σ.2.1 14) hx hb hK.1 hP 20 0 (gC20 g (sA σ 20 f) tl) rfl (by omega) (Nat.le_of_ble_eq_true rfl) dX9_findArrangement_56 ?_
                refine lv_dup2_11 hx hb dX9_findArrangement_57 rfl rfl ?_
                refine jn_iald (f := f) hx hb hK.1 hP 32 0 (gC32 g (sA σ 20 f) tl) rfl (hw i (by omega)) (Nat.le_of_ble_eq_true rfl) dX9_findArrangement_58 ?_
                refine lv_iconst (v := nI 1) hx hb dX9_findArrangement_59 (by decide) ?_
                refine jn_iadd hx hb dX9_findArrangement_60 ?_
                refine jn_iast (f := f) hx hb hK.1 hP hD hS 32 0 (gC32 g (sA σ 20 f) tl) rfl (hw i (by omega)) (Nat.le_of_ble_eq_true rfl) (uC_A20 g (sA σ 20 f) tl _) dX9_findArrangement_61 (fun H locs hP hD hS => ?_)
                refine lv_iinc (v := nI (i + 1)) (lv' := [(5, .int (nI (i + 1))), (0, .ref (g.2.2.2 30)), (1, .ref (g.2.2.2 1)), (2, .ref (g.2.2.2 20)), (3, .int (nI n)), (4, .int (nI rk))]) hx hb dX9_findArrangement_62 hl (k := 5) rfl (jn_ii _ 1) (by decide) rfl (fun ls hl => ?_)
                refine lv_goto (tgt := 26) hx hb dX9_findArrangement_65 (by decide) ?_
                exact ih26 (i + 1) (va_up f ((σ.2.1 14) i) ((f ((σ.2.1 14) i)) + 1)) (by omega) (cntW_put h4 (hw i (by omega))) (by omega) _ _ hP hD hS _ (lv_sub hl [1, 2, 3, 4, 5, 0] rfl)
        exact lp26 _ 0 f (by omega) (fun x hx => h2 x (by omega)) (Nat.lt_succ_self _) _ _ hP hD hS _ (lv_sub hl [1, 2, 3, 4, 5, 0] rfl)
      · refine lv_aload_n hx hb dX9_findArrangement_9 rfl (lv_at hl 0 rfl) ?_
        refine va_get (D := (g.1, g.2.1)) (ci := 11) (v := .ref (g.2.2.2 32)) (C := RX9) (T := TX9) (N := 7) hx hb hts iX9 hown hK.1 hP 30 (gC30 g (sA σ 20 f) tl) rfl 1 (by decide) k15 (fun _ h9 => h9) rfl dX9_findArrangement_10 ?_
        refine lv_iload hx hb dX9_findArrangement_13 (lv_at hl 5 rfl) ?_
        refine lv_iconst (v := nI 0) hx hb dX9_findArrangement_15 (by decide) ?_
        refine jn_iast (f := f) hx hb hK.1 hP hD hS 32 0 (gC32 g (sA σ 20 f) tl) rfl (by omega) (Nat.le_of_ble_eq_true rfl) (uC_A20 g (sA σ 20 f) tl _) dX9_findArrangement_16 (fun H locs hP hD hS => ?_)
        refine lv_iinc (v := nI (i + 1)) (lv' := [(5, .int (nI (i + 1))), (0, .ref (g.2.2.2 30)), (1, .ref (g.2.2.2 1)), (2, .ref (g.2.2.2 20)), (3, .int (nI n)), (4, .int (nI rk))]) hx hb dX9_findArrangement_17 hl (k := 5) rfl (jn_ii _ 1) (by decide) rfl (fun ls hl => ?_)
        refine lv_goto (tgt := 3) hx hb dX9_findArrangement_20 (by decide) ?_
        exact ih3 (i + 1) (va_up f i 0) (by omega) (fun k hk => by unfold va_up; split <;> first | rfl | exact h2 k (by omega)) (by omega) _ _ hP hD hS _ (lv_sub hl [1, 2, 3, 4, 5, 0] rfl)
  exact lp3 _ 0 (σ.2.1 20) (by decide) (fun k hk => absurd hk (by omega)) (Nat.lt_succ_self _) _ _ hP hD hS _ (lv_sub hl [1, 2, 3, 4, 5, 0] rfl)

abbrev r_c_X9_countArrangements : Room := { frames := 11, cells := 0, slots := 0, locals := 271 }
set_option maxHeartbeats 4000000 in
set_option maxRecDepth 100000 in
theorem c_X9_countArrangements (l : Launch) (g : GC) (tl : va_W) (sz : Nat) (σ : SS) (n : Nat) (hA : OkA σ) (hn : n ≤ 8) (hw : ∀ i, i < n → (σ.2.1 14) i < 3) : Met l yX9_countArrangements wsX9_countArrangements r_c_X9_countArrangements (va_Pc [.ref (g.2.2.2 30), .ref (g.2.2.2 1), .ref (g.2.2.2 20), .int (nI n)] (PW g (wC g σ ++ tl) sz)) (va_Ql (fun (r : Int64) (z : Nat × (Nat → Nat) × (Nat → Nat) × Nat) => match z with | (b, lt2, lf2, sn2) => r = lN (arrN (σ.2.1 0) (σ.1 0) n (cntW (σ.2.1 14) n) 1)) (fun (z : Nat × (Nat → Nat) × (Nat → Nat) × Nat) t => BW g (va_A (wC g σ ++ tl) sz) ((fun z : Nat × (Nat → Nat) × (Nat → Nat) × Nat => match z with | (b, lt2, lf2, sn2) => wC g (sA (sA (sF (sF (sF σ 17 n) 18 sn2) 19 4294967295) 19 lt2) 20 lf2) ++ tl) z) t) (va_A (wC g σ ++ tl) sz)) 0 0 (va_A (wC g σ ++ tl) sz) := by
  refine jn_sl (wf := fun z : Nat × (Nat → Nat) × (Nat → Nat) × Nat => match z with | (b, lt2, lf2, sn2) => wC g (sA (sA (sF (sF (sF σ 17 n) 18 sn2) 19 4294967295) 19 lt2) 20 lf2) ++ tl) (cc := cX9_countArrangements) (maxL := 4) (own := RX9) (by decide) rfl rfl (Nat.le_of_ble_eq_true rfl) ?_
  intro p e s m below meth c Q A hx hb hml hown hts hK hP hD hS hAA hq ls hl
  obtain ⟨H, eH⟩ : ∃ z, z = s.heap := ⟨_, rfl⟩
  obtain ⟨locs, el⟩ : ∃ z : List Loc, z = [] := ⟨_, rfl⟩
  rw [← eH] at hP
  have hS : va_S A s.heap H locs := by rw [eH, el]; exact hS
  have goal0 : W p l e r_c_X9_countArrangements s m ([.ref (g.2.2.2 30), .ref (g.2.2.2 1), .ref (g.2.2.2 20), .int (nI n)] : List Value).toArray below meth c H locs 0 0 Q (F0 m 0 ls []) → W p l e r_c_X9_countArrangements s m ([.ref (g.2.2.2 30), .ref (g.2.2.2 1), .ref (g.2.2.2 20), .int (nI n)] : List Value).toArray below meth c s.heap [] 0 0 Q (F0 m 0 ls []) := fun h => by rw [eH, el] at h; exact h
  refine goal0 ?_
  have hl : lv_has ls 4 [(0, .ref (g.2.2.2 30)), (1, .ref (g.2.2.2 1)), (2, .ref (g.2.2.2 20)), (3, .int (nI n))] := hl
  have iX9 : ∀ w ∈ wsX90, w ∈ wsX9_countArrangements := by decide +kernel
  have k22 := hts (.fieldLink RX9 22 "JumpingAutomata$WordSearch" "seen" "I") (by decide +kernel)
  refine lv_aload_n hx hb dX9_countArrangements_0 rfl (lv_at hl 0 rfl) ?_
  refine lv_aload_n hx hb dX9_countArrangements_1 rfl (lv_at hl 1 rfl) ?_
  refine lv_aload_n hx hb dX9_countArrangements_2 rfl (lv_at hl 2 rfl) ?_
  refine lv_iload_n hx hb dX9_countArrangements_3 rfl (lv_at hl 3 rfl) ?_
  refine lv_iconst (v := nI 4294967295) hx hb dX9_countArrangements_4 (by decide) ?_
  refine jn_calli (va_runV (As := [.ref (g.2.2.2 1), .ref (g.2.2.2 20), .int (nI n), .int (nI 4294967295)]) (rest := []) ⟨hx, hb, hml, hown, hts⟩ (c_X9_findArrangement l g tl H.size σ n 4294967295 hA (by omega) hw (by omega)) (cwV 4 hts gX9_countArrangements_X9_findArrangement rfl rfl rfl (by decide +kernel) ⟨Nat.le_of_ble_eq_true rfl, Nat.le_of_ble_eq_true rfl⟩) (okWV hK hP hD rfl (gC30 g σ tl)) rfl rfl hl.1 rfl (lv_room (Nat.le_of_ble_eq_true rfl)) dX9_countArrangements_5 ⟨Nat.le_of_ble_eq_true rfl, Nat.le_of_ble_eq_true rfl⟩) hD hS hAA (fun r_5 u H locs hw_ hP hD hS => ?_)
  obtain ⟨b_5, lt2_5, lf2_5, sn2_5⟩ := u
  obtain ⟨rfl, h_5⟩ := hw_
  have h_5 : (b_5 = 1 ∧ 4294967295 < arrN (σ.2.1 0) (σ.1 0) n (cntW (σ.2.1 14) n) 1 ∧ isArr (σ.2.1 0) (σ.1 0) n (cntW (σ.2.1 14) n) 1 4294967295 lt2_5) ∨ (b_5 = 0 ∧ ¬ 4294967295 < arrN (σ.2.1 0) (σ.1 0) n (cntW (σ.2.1 14) n) 1 ∧ sn2_5 = arrN (σ.2.1 0) (σ.1 0) n (cntW (σ.2.1 14) n) 1) := h_5
  have hP : va_P (g.1, g.2.1) vwCl (wC g (sA (sA (sF (sF (sF σ 17 n) 18 sn2_5) 19 4294967295) 19 lt2_5) 20 lf2_5) ++ tl) H := hP
  have hD : va_D A (wC g (sA (sA (sF (sF (sF σ 17 n) 18 sn2_5) 19 4294967295) 19 lt2_5) 20 lf2_5) ++ tl) := hD
  have hle : arrN (σ.2.1 0) (σ.1 0) n (cntW (σ.2.1 14) n) 1 ≤ 3 ^ 8 := Nat.le_trans (arrN_le _ _ _ _ _) (Nat.pow_le_pow_right (by decide) hn)
  have esn : sn2_5 = arrN (σ.2.1 0) (σ.1 0) n (cntW (σ.2.1 14) n) 1 := by rcases h_5 with z | z; { have := z.2.1; omega }; { exact z.2.2 }
  refine lv_pop hx hb dX9_countArrangements_8 rfl ?_
  refine lv_aload_n hx hb dX9_countArrangements_9 rfl (lv_at hl 0 rfl) ?_
  refine va_get (D := (g.1, g.2.1)) (ci := 11) (v := .int (nI sn2_5)) (C := RX9) (T := TX9) (N := 7) hx hb hts iX9 hown hK.1 hP 30 (gC30 g (sA (sA (sF (sF (sF σ 17 n) 18 sn2_5) 19 4294967295) 19 lt2_5) 20 lf2_5) tl) rfl 3 (by decide) k22 (fun _ h9 => h9) rfl dX9_countArrangements_10 ?_
  refine jn_i2l hx hb (by omega) dX9_countArrangements_13 ?_
  exact hq _ _ _ _ ((lN sn2_5)) (b_5, lt2_5, lf2_5, sn2_5) dX9_countArrangements_14 (by rw [esn]) hP hD hS

abbrev r_c_X9_open_d7 : Room := { frames := 1, cells := 0, slots := 0, locals := 21 }
set_option maxHeartbeats 4000000 in
set_option maxRecDepth 100000 in
theorem c_X9_open_d7 (l : Launch) (g : GC) (tl : va_W) (sz : Nat) (σ : SS) (mk cd : Nat) (hA : OkA σ) (h1 : (σ.1 17) ≤ 7) (h2 : 7 ≤ (σ.1 17)) (hm : mk < 32) (hc : cd < 1000) (hd : dsum cd = 7) : Met l yX9_open wsX9_open r_c_X9_open_d7 (va_Pc [.ref (g.2.2.2 30), .ref (g.2.2.2 1), .ref (g.2.2.2 21), .int (nI 7), .int (nI mk), .int (nI cd)] (PW g (wC g σ ++ tl) sz)) (va_Qi (fun (r : Int32) (z : Nat × (Nat → Nat)) => match z with | (b, lt2) => (r = nI (b)) ∧ ((b = 1 ∧ opP (σ.2.1 0) (σ.2.1 15) (σ.1 0) ((σ.1 17) - 7) mk cd ∧ isOp (σ.2.1 0) (σ.2.1 15) (σ.1 0) ((σ.1 17) - 7) mk cd (fun i => lt2 (7 + i))) ∨ (b = 0 ∧ ¬ opP (σ.2.1 0) (σ.2.1 15) (σ.1 0) ((σ.1 17) - 7) mk cd)) ∧ (∀ i, i < 7 → lt2 i = (σ.2.1 19) i)) (fun (z : Nat × (Nat → Nat)) t => BW g (va_A (wC g σ ++ tl) sz) ((fun z : Nat × (Nat → Nat) => match z with | (b, lt2) => wC g (sA σ 19 lt2) ++ tl) z) t) (va_A (wC g σ ++ tl) sz)) 0 0 (va_A (wC g σ ++ tl) sz) := by
  refine jn_sz (wf := fun z : Nat × (Nat → Nat) => match z with | (b, lt2) => wC g (sA σ 19 lt2) ++ tl) (cc := cX9_open) (maxL := 8) (own := RX9) (by decide) rfl rfl (Nat.le_of_ble_eq_true rfl) ?_
  intro p e s m below meth c Q A hx hb hml hown hts hK hP hD hS hAA hq ls hl
  obtain ⟨H, eH⟩ : ∃ z, z = s.heap := ⟨_, rfl⟩
  obtain ⟨locs, el⟩ : ∃ z : List Loc, z = [] := ⟨_, rfl⟩
  rw [← eH] at hP
  have hS : va_S A s.heap H locs := by rw [eH, el]; exact hS
  have goal0 : W p l e r_c_X9_open_d7 s m ([.ref (g.2.2.2 30), .ref (g.2.2.2 1), .ref (g.2.2.2 21), .int (nI 7), .int (nI mk), .int (nI cd)] : List Value).toArray below meth c H locs 0 0 Q (F0 m 0 ls []) → W p l e r_c_X9_open_d7 s m ([.ref (g.2.2.2 30), .ref (g.2.2.2 1), .ref (g.2.2.2 21), .int (nI 7), .int (nI mk), .int (nI cd)] : List Value).toArray below meth c s.heap [] 0 0 Q (F0 m 0 ls []) := fun h => by rw [eH, el] at h; exact h
  refine goal0 ?_
  have hl : lv_has ls 8 [(0, .ref (g.2.2.2 30)), (1, .ref (g.2.2.2 1)), (2, .ref (g.2.2.2 21)), (3, .int (nI 7)), (4, .int (nI mk)), (5, .int (nI cd))] := hl
  have iX9 : ∀ w ∈ wsX90, w ∈ wsX9_open := by decide +kernel
  have k18 := hts (.fieldLink RX9 18 "JumpingAutomata$WordSearch" "length" "I") (by decide +kernel)
  refine lv_iload_n hx hb dX9_open_0 rfl (lv_at hl 3 rfl) ?_
  refine lv_aload_n hx hb dX9_open_1 rfl (lv_at hl 0 rfl) ?_
  refine va_get (D := (g.1, g.2.1)) (ci := 11) (v := .int (nI (σ.1 17))) (C := RX9) (T := TX9) (N := 7) hx hb hts iX9 hown hK.1 hP 30 (gC30 g σ tl) rfl 2 (by decide) k18 (fun _ h9 => h9) rfl dX9_open_2 ?_
  refine jn_cge hx hb (by decide) (by omega) (tgt := 14) dX9_open_5 (by decide) (fun c_5 => ?_) (fun c_5 => absurd c_5 (by omega))
  refine lv_aload_n hx hb dX9_open_14 rfl (lv_at hl 1 rfl) ?_
  refine lv_aload_n hx hb dX9_open_15 rfl (lv_at hl 2 rfl) ?_
  refine lv_iload hx hb dX9_open_16 (lv_at hl 5 rfl) ?_
  have e0 : ((σ.1 17) - 7) = 0 := by omega
  refine vp_callSi (va_Run.run (va_runV (As := [.int (nI cd)]) (rest := [.ref (g.2.2.2 1)]) ⟨hx, hb, hml, hown, hts⟩ (c_X5_at_21 l g tl σ cd (by omega)) (cwV 1 hts gX9_open_X5_at rfl rfl rfl (by decide +kernel) ⟨Nat.le_of_ble_eq_true rfl, Nat.le_of_ble_eq_true rfl⟩) (okPV hK hP rfl (gC21 g σ tl)) rfl rfl hl.1 rfl (lv_room (Nat.le_of_ble_eq_true rfl)) dX9_open_18 ⟨Nat.le_of_ble_eq_true rfl, Nat.le_of_ble_eq_true rfl⟩)) (fun r_18 h_18 => ?_)
  subst h_18
  refine vp_callSi (va_Run.run (va_runV (As := [.int (nI ((σ.2.1 15) cd))]) (rest := []) ⟨hx, hb, hml, hown, hts⟩ (c_X0_accepting l g tl σ ((σ.2.1 15) cd) hA) (cwV 1 hts gX9_open_X0_accepting rfl rfl rfl (by decide +kernel) ⟨Nat.le_of_ble_eq_true rfl, Nat.le_of_ble_eq_true rfl⟩) (okPV hK hP rfl (gC1 g σ tl)) rfl rfl hl.1 rfl (lv_room (Nat.le_of_ble_eq_true rfl)) dX9_open_21 ⟨Nat.le_of_ble_eq_true rfl, Nat.le_of_ble_eq_true rfl⟩)) (fun r_21 h_21 => ?_)
  subst h_21
  refine jn_beq hx hb (tgt := 40) dX9_open_24 (by decide) (fun c_24 => ?_) (fun c_24 => ?_)
  · refine lv_iconst (v := nI 0) hx hb dX9_open_40 (by decide) ?_
    exact hq _ _ _ _ ((nI 0)) (0, (σ.2.1 19)) dX9_open_41 jn_n0 ⟨rfl, by first | exact Or.inl ⟨rfl, by rw [e0]; exact ⟨c_24, c_33⟩, by rw [e0]; trivial⟩ | exact Or.inr ⟨rfl, by rw [e0]; exact fun z => c_24 z.1⟩ | exact Or.inr ⟨rfl, by rw [e0]; exact fun z => z.2 c_33⟩, fun _ _ => rfl⟩ hP hD hS
  · refine lv_aload_n hx hb dX9_open_27 rfl (lv_at hl 1 rfl) ?_
    refine lv_iload hx hb dX9_open_28 (lv_at hl 4 rfl) ?_
    refine vp_callSi (va_Run.run (va_runV (As := [.int (nI mk)]) (rest := []) ⟨hx, hb, hml, hown, hts⟩ (c_X0_accepting l g tl σ mk hA) (cwV 1 hts gX9_open_X0_accepting rfl rfl rfl (by decide +kernel) ⟨Nat.le_of_ble_eq_true rfl, Nat.le_of_ble_eq_true rfl⟩) (okPV hK hP rfl (gC1 g σ tl)) rfl rfl hl.1 rfl (lv_room (Nat.le_of_ble_eq_true rfl)) dX9_open_30 ⟨Nat.le_of_ble_eq_true rfl, Nat.le_of_ble_eq_true rfl⟩)) (fun r_30 h_30 => ?_)
    subst h_30
    refine jn_bne hx hb (tgt := 40) dX9_open_33 (by decide) (fun c_33 => ?_) (fun c_33 => ?_)
    · refine lv_iconst (v := nI 0) hx hb dX9_open_40 (by decide) ?_
      exact hq _ _ _ _ ((nI 0)) (0, (σ.2.1 19)) dX9_open_41 jn_n0 ⟨rfl, by first | exact Or.inl ⟨rfl, by rw [e0]; exact ⟨c_24, c_33⟩, by rw [e0]; trivial⟩ | exact Or.inr ⟨rfl, by rw [e0]; exact fun z => c_24 z.1⟩ | exact Or.inr ⟨rfl, by rw [e0]; exact fun z => z.2 c_33⟩, fun _ _ => rfl⟩ hP hD hS
    · refine lv_iconst (v := nI 1) hx hb dX9_open_36 (by decide) ?_
      refine lv_goto (tgt := 41) hx hb dX9_open_37 (by decide) ?_
      exact hq _ _ _ _ ((nI 1)) (1, (σ.2.1 19)) dX9_open_41 jn_n1 ⟨rfl, by first | exact Or.inl ⟨rfl, by rw [e0]; exact ⟨c_24, c_33⟩, by rw [e0]; trivial⟩ | exact Or.inr ⟨rfl, by rw [e0]; exact fun z => c_24 z.1⟩ | exact Or.inr ⟨rfl, by rw [e0]; exact fun z => z.2 c_33⟩, fun _ _ => rfl⟩ hP hD hS

abbrev r_c_X9_open_d6 : Room := { frames := 2, cells := 0, slots := 0, locals := 48 }
set_option maxHeartbeats 4000000 in
set_option maxRecDepth 100000 in
theorem c_X9_open_d6 (l : Launch) (g : GC) (tl : va_W) (sz : Nat) (σ : SS) (mk cd : Nat) (hA : OkA σ) (h1 : (σ.1 17) ≤ 7) (h2 : 6 ≤ (σ.1 17)) (hm : mk < 32) (hc : cd < 1000) (hd : dsum cd = 6) : Met l yX9_open wsX9_open r_c_X9_open_d6 (va_Pc [.ref (g.2.2.2 30), .ref (g.2.2.2 1), .ref (g.2.2.2 21), .int (nI 6), .int (nI mk), .int (nI cd)] (PW g (wC g σ ++ tl) sz)) (va_Qi (fun (r : Int32) (z : Nat × (Nat → Nat)) => match z with | (b, lt2) => (r = nI (b)) ∧ ((b = 1 ∧ opP (σ.2.1 0) (σ.2.1 15) (σ.1 0) ((σ.1 17) - 6) mk cd ∧ isOp (σ.2.1 0) (σ.2.1 15) (σ.1 0) ((σ.1 17) - 6) mk cd (fun i => lt2 (6 + i))) ∨ (b = 0 ∧ ¬ opP (σ.2.1 0) (σ.2.1 15) (σ.1 0) ((σ.1 17) - 6) mk cd)) ∧ (∀ i, i < 6 → lt2 i = (σ.2.1 19) i)) (fun (z : Nat × (Nat → Nat)) t => BW g (va_A (wC g σ ++ tl) sz) ((fun z : Nat × (Nat → Nat) => match z with | (b, lt2) => wC g (sA σ 19 lt2) ++ tl) z) t) (va_A (wC g σ ++ tl) sz)) 0 0 (va_A (wC g σ ++ tl) sz) := by
  refine jn_sz (wf := fun z : Nat × (Nat → Nat) => match z with | (b, lt2) => wC g (sA σ 19 lt2) ++ tl) (cc := cX9_open) (maxL := 8) (own := RX9) (by decide) rfl rfl (Nat.le_of_ble_eq_true rfl) ?_
  intro p e s m below meth c Q A hx hb hml hown hts hK hP hD hS hAA hq ls hl
  obtain ⟨H, eH⟩ : ∃ z, z = s.heap := ⟨_, rfl⟩
  obtain ⟨locs, el⟩ : ∃ z : List Loc, z = [] := ⟨_, rfl⟩
  rw [← eH] at hP
  have hS : va_S A s.heap H locs := by rw [eH, el]; exact hS
  have goal0 : W p l e r_c_X9_open_d6 s m ([.ref (g.2.2.2 30), .ref (g.2.2.2 1), .ref (g.2.2.2 21), .int (nI 6), .int (nI mk), .int (nI cd)] : List Value).toArray below meth c H locs 0 0 Q (F0 m 0 ls []) → W p l e r_c_X9_open_d6 s m ([.ref (g.2.2.2 30), .ref (g.2.2.2 1), .ref (g.2.2.2 21), .int (nI 6), .int (nI mk), .int (nI cd)] : List Value).toArray below meth c s.heap [] 0 0 Q (F0 m 0 ls []) := fun h => by rw [eH, el] at h; exact h
  refine goal0 ?_
  have hl : lv_has ls 8 [(0, .ref (g.2.2.2 30)), (1, .ref (g.2.2.2 1)), (2, .ref (g.2.2.2 21)), (3, .int (nI 6)), (4, .int (nI mk)), (5, .int (nI cd))] := hl
  have iX9 : ∀ w ∈ wsX90, w ∈ wsX9_open := by decide +kernel
  have k18 := hts (.fieldLink RX9 18 "JumpingAutomata$WordSearch" "length" "I") (by decide +kernel)
  have k9 := hts (.fieldLink RX9 9 "JumpingAutomata$WordSearch" "letters" "[I") (by decide +kernel)
  refine lv_iload_n hx hb dX9_open_0 rfl (lv_at hl 3 rfl) ?_
  refine lv_aload_n hx hb dX9_open_1 rfl (lv_at hl 0 rfl) ?_
  refine va_get (D := (g.1, g.2.1)) (ci := 11) (v := .int (nI (σ.1 17))) (C := RX9) (T := TX9) (N := 7) hx hb hts iX9 hown hK.1 hP 30 (gC30 g σ tl) rfl 2 (by decide) k18 (fun _ h9 => h9) rfl dX9_open_2 ?_
  refine jn_cge hx hb (by decide) (by omega) (tgt := 14) dX9_open_5 (by decide) (fun c_5 => ?_) (fun c_5 => ?_)
  · refine lv_aload_n hx hb dX9_open_14 rfl (lv_at hl 1 rfl) ?_
    refine lv_aload_n hx hb dX9_open_15 rfl (lv_at hl 2 rfl) ?_
    refine lv_iload hx hb dX9_open_16 (lv_at hl 5 rfl) ?_
    have e0 : ((σ.1 17) - 6) = 0 := by omega
    refine vp_callSi (va_Run.run (va_runV (As := [.int (nI cd)]) (rest := [.ref (g.2.2.2 1)]) ⟨hx, hb, hml, hown, hts⟩ (c_X5_at_21 l g tl σ cd (by omega)) (cwV 1 hts gX9_open_X5_at rfl rfl rfl (by decide +kernel) ⟨Nat.le_of_ble_eq_true rfl, Nat.le_of_ble_eq_true rfl⟩) (okPV hK hP rfl (gC21 g σ tl)) rfl rfl hl.1 rfl (lv_room (Nat.le_of_ble_eq_true rfl)) dX9_open_18 ⟨Nat.le_of_ble_eq_true rfl, Nat.le_of_ble_eq_true rfl⟩)) (fun r_18 h_18 => ?_)
    subst h_18
    refine vp_callSi (va_Run.run (va_runV (As := [.int (nI ((σ.2.1 15) cd))]) (rest := []) ⟨hx, hb, hml, hown, hts⟩ (c_X0_accepting l g tl σ ((σ.2.1 15) cd) hA) (cwV 1 hts gX9_open_X0_accepting rfl rfl rfl (by decide +kernel) ⟨Nat.le_of_ble_eq_true rfl, Nat.le_of_ble_eq_true rfl⟩) (okPV hK hP rfl (gC1 g σ tl)) rfl rfl hl.1 rfl (lv_room (Nat.le_of_ble_eq_true rfl)) dX9_open_21 ⟨Nat.le_of_ble_eq_true rfl, Nat.le_of_ble_eq_true rfl⟩)) (fun r_21 h_21 => ?_)
    subst h_21
    refine jn_beq hx hb (tgt := 40) dX9_open_24 (by decide) (fun c_24 => ?_) (fun c_24 => ?_)
    · refine lv_iconst (v := nI 0) hx hb dX9_open_40 (by decide) ?_
      exact hq _ _ _ _ ((nI 0)) (0, (σ.2.1 19)) dX9_open_41 jn_n0 ⟨rfl, by first | exact Or.inl ⟨rfl, by rw [e0]; exact ⟨c_24, c_33⟩, by rw [e0]; trivial⟩ | exact Or.inr ⟨rfl, by rw [e0]; exact fun z => c_24 z.1⟩ | exact Or.inr ⟨rfl, by rw [e0]; exact fun z => z.2 c_33⟩, fun _ _ => rfl⟩ hP hD hS
    · refine lv_aload_n hx hb dX9_open_27 rfl (lv_at hl 1 rfl) ?_
      refine lv_iload hx hb dX9_open_28 (lv_at hl 4 rfl) ?_
      refine vp_callSi (va_Run.run (va_runV (As := [.int (nI mk)]) (rest := []) ⟨hx, hb, hml, hown, hts⟩ (c_X0_accepting l g tl σ mk hA) (cwV 1 hts gX9_open_X0_accepting rfl rfl rfl (by decide +kernel) ⟨Nat.le_of_ble_eq_true rfl, Nat.le_of_ble_eq_true rfl⟩) (okPV hK hP rfl (gC1 g σ tl)) rfl rfl hl.1 rfl (lv_room (Nat.le_of_ble_eq_true rfl)) dX9_open_30 ⟨Nat.le_of_ble_eq_true rfl, Nat.le_of_ble_eq_true rfl⟩)) (fun r_30 h_30 => ?_)
      subst h_30
      refine jn_bne hx hb (tgt := 40) dX9_open_33 (by decide) (fun c_33 => ?_) (fun c_33 => ?_)
      · refine lv_iconst (v := nI 0) hx hb dX9_open_40 (by decide) ?_
        exact hq _ _ _ _ ((nI 0)) (0, (σ.2.1 19)) dX9_open_41 jn_n0 ⟨rfl, by first | exact Or.inl ⟨rfl, by rw [e0]; exact ⟨c_24, c_33⟩, by rw [e0]; trivial⟩ | exact Or.inr ⟨rfl, by rw [e0]; exact fun z => c_24 z.1⟩ | exact Or.inr ⟨rfl, by rw [e0]; exact fun z => z.2 c_33⟩, fun _ _ => rfl⟩ hP hD hS
      · refine lv_iconst (v := nI 1) hx hb dX9_open_36 (by decide) ?_
        refine lv_goto (tgt := 41) hx hb dX9_open_37 (by decide) ?_
        exact hq _ _ _ _ ((nI 1)) (1, (σ.2.1 19)) dX9_open_41 jn_n1 ⟨rfl, by first | exact Or.inl ⟨rfl, by rw [e0]; exact ⟨c_24, c_33⟩, by rw [e0]; trivial⟩ | exact Or.inr ⟨rfl, by rw [e0]; exact fun z => c_24 z.1⟩ | exact Or.inr ⟨rfl, by rw [e0]; exact fun z => z.2 c_33⟩, fun _ _ => rfl⟩ hP hD hS
  · refine lv_iload_n hx hb dX9_open_8 rfl (lv_at hl 3 rfl) ?_
    refine lv_bipush (v := nI 8) hx hb dX9_open_9 (by decide) ?_
    refine jn_clt hx hb (by decide) (by decide) (tgt := 42) dX9_open_11 (by decide) (fun c_11 => ?_) (fun c_11 => absurd c_11 (by decide))
    refine lv_iconst (v := nI 0) hx hb dX9_open_42 (by decide) ?_
    refine lv_istore (lv' := [(6, .int (nI 0)), (0, .ref (g.2.2.2 30)), (1, .ref (g.2.2.2 1)), (2, .ref (g.2.2.2 21)), (3, .int (nI 6)), (4, .int (nI mk)), (5, .int (nI cd))]) hx hb dX9_open_43 hl (by decide) rfl (fun ls hl => ?_)
    have lp45 : ∀ (fu : Nat), ∀ (x0 : Nat) (lt1 : Nat → Nat), (x0 ≤ 3) → (∀ y, y < x0 → ¬ opP (σ.2.1 0) (σ.2.1 15) (σ.1 0) ((σ.1 17) - 7) (stp (σ.2.1 0) y mk) (cd + wt y)) → (∀ i, i < 6 → lt1 i = (σ.2.1 19) i) → 3 - x0 < fu → ∀ (H : Heap) (locs : List Loc), va_P (g.1, g.2.1) vwCl (wC g (sA σ 19 lt1) ++ tl) H → va_D A (wC g (sA σ 19 lt1) ++ tl) → va_S A s.heap H locs → ∀ ls : Array Slot, lv_has ls 8 [(0, .ref (g.2.2.2 30)), (1, .ref (g.2.2.2 1)), (2, .ref (g.2.2.2 21)), (3, .int (nI 6)), (4, .int (nI mk)), (5, .int (nI cd)), (6, .int (nI x0))] → W p l e r_c_X9_open_d6 s m ([.ref (g.2.2.2 30), .ref (g.2.2.2 1), .ref (g.2.2.2 21), .int (nI 6), .int (nI mk), .int (nI cd)] : List Value).toArray below meth c H locs 0 0 Q (F0 m 45 ls []) := by
      intro fu
      induction fu with
      | zero => intro x0 lt1 i1 i2 i4 hf; exact absurd hf (Nat.not_lt_zero _)
      | succ fu ih45 =>
        intro x0 lt1 i1 i2 i4 hf H locs hP hD hS ls hl
        have eK : ((σ.1 17) - 6) = ((σ.1 17) - 7) + 1 := by omega
        refine lv_iload hx hb dX9_open_45 (lv_at hl 6 rfl) ?_
        refine lv_iconst (v := nI 3) hx hb dX9_open_47 (by decide) ?_
        refine jn_cge hx hb (by omega) (by decide) (tgt := 99) dX9_open_48 (by decide) (fun c_48 => ?_) (fun c_48 => ?_)
        · refine lv_iconst (v := nI 0) hx hb dX9_open_99 (by decide) ?_
          exact hq _ _ _ _ ((nI 0)) (0, lt1) dX9_open_100 jn_n0 ⟨rfl, Or.inr ⟨rfl, by rw [eK]; exact op_cases i1 i2 (by omega)⟩, i4⟩ hP hD hS
        · refine lv_aload_n hx hb dX9_open_51 rfl (lv_at hl 0 rfl) ?_
          refine va_get (D := (g.1, g.2.1)) (ci := 11) (v := .ref (g.2.2.2 31)) (C := RX9) (T := TX9) (N := 7) hx hb hts iX9 hown hK.1 hP 30 (gC30 g (sA σ 19 lt1) tl) rfl 0 (by decide) k9 (fun _ h9 => h9) rfl dX9_open_52 ?_
          refine lv_iload_n hx hb dX9_open_55 rfl (lv_at hl 3 rfl) ?_
          refine lv_iload hx hb dX9_open_56 (lv_at hl 6 rfl) ?_
          refine jn_iast (f := lt1) hx hb hK.1 hP hD hS 31 0 (gC31 g (sA σ 19 lt1) tl) rfl (by decide) (Nat.le_of_ble_eq_true rfl) (uC_A19 g (sA σ 19 lt1) tl _) dX9_open_58 (fun H locs hP hD hS => ?_)
          refine lv_aload_n hx hb dX9_open_59 rfl (lv_at hl 1 rfl) ?_
          refine lv_iload hx hb dX9_open_60 (lv_at hl 6 rfl) ?_
          refine lv_iload hx hb dX9_open_62 (lv_at hl 4 rfl) ?_
          refine vp_callSi (va_Run.run (va_runV (As := [.int (nI x0), .int (nI mk)]) (rest := []) ⟨hx, hb, hml, hown, hts⟩ (c_X0_step l g tl (sA (sA σ 19 lt1) 19 (va_up lt1 6 x0)) x0 mk hA (by omega) hm) (cwV 2 hts gX9_open_X0_step rfl rfl rfl (by decide +kernel) ⟨Nat.le_of_ble_eq_true rfl, Nat.le_of_ble_eq_true rfl⟩) (okPV hK hP rfl (gC1 g (sA (sA σ 19 lt1) 19 (va_up lt1 6 x0)) tl)) rfl rfl hl.1 rfl (lv_room (Nat.le_of_ble_eq_true rfl)) dX9_open_64 ⟨Nat.le_of_ble_eq_true rfl, Nat.le_of_ble_eq_true rfl⟩)) (fun r_64 h_64 => ?_)
          have h_64 : r_64 = (nI (stp (σ.2.1 0) x0 mk)) := h_64
          subst h_64
          have st32 : stp (σ.2.1 0) x0 mk < 32 := stp_lt hA.1 (by omega)
          have hdd := dsum_all cd hc (by omega) x0 (by omega)
          refine lv_istore (lv' := [(7, .int (nI (stp (σ.2.1 0) x0 mk))), (0, .ref (g.2.2.2 30)), (1, .ref (g.2.2.2 1)), (2, .ref (g.2.2.2 21)), (3, .int (nI 6)), (4, .int (nI mk)), (5, .int (nI cd)), (6, .int (nI x0))]) hx hb dX9_open_67 hl (by decide) rfl (fun ls hl => ?_)
          refine lv_aload_n hx hb dX9_open_69 rfl (lv_at hl 1 rfl) ?_
          refine lv_aload_n hx hb dX9_open_70 rfl (lv_at hl 2 rfl) ?_
          refine lv_aload_n hx hb dX9_open_71 rfl (lv_at hl 3 rfl) ?_
          refine lv_iload_n hx hb dX9_open_72 rfl (lv_at hl 4 rfl) ?_
          refine lv_iconst (v := nI 1) hx hb dX9_open_73 (by decide) ?_
          refine jn_iadd hx hb dX9_open_74 ?_
          refine lv_iload hx hb dX9_open_75 (lv_at hl 0 rfl) ?_
          refine lv_iload hx hb dX9_open_77 (lv_at hl 6 rfl) ?_
          refine lv_iload hx hb dX9_open_79 (lv_at hl 7 rfl) ?_
          refine vp_callSi (va_Run.run (va_runSN (As := [.int (nI x0)]) (rest := [.int (nI cd), .int (nI (stp (σ.2.1 0) x0 mk)), .int (nI (6 + 1)), .ref (g.2.2.2 21), .ref (g.2.2.2 1), .ref (g.2.2.2 30)]) ⟨hx, hb, hml, hown, hts⟩ (c_X10_weightOf l x0 (by omega)) ⟨(va_cnB 1 hts gX9_open_X10_weightOf_n79 rfl rfl rfl (hK.2 _ (List.mem_of_getElem? (i := 28) rfl)) (hts (.initialized RX10) (by decide +kernel)) (by decide +kernel) ⟨Nat.le_of_ble_eq_true rfl, Nat.le_of_ble_eq_true rfl⟩), hts (.static yX10_weightOf) (by decide +kernel), trivial⟩ okTS rfl rfl hl.1 rfl (lv_room (Nat.le_of_ble_eq_true rfl)) dX9_open_81 ⟨Nat.le_of_ble_eq_true rfl, Nat.le_of_ble_eq_true rfl⟩)) (fun r_81 h_81 => ?_)
          subst h_81
          refine jn_iadd hx hb dX9_open_84 ?_
          refine jn_calli (va_runV (As := [.ref (g.2.2.2 1), .ref (g.2.2.2 21), .int (nI (6 + 1)), .int (nI (stp (σ.2.1 0) x0 mk)), .int (nI (cd + (wt x0)))]) (rest := []) ⟨hx, hb, hml, hown, hts⟩ (c_X9_open_d7 l g tl H.size (sA (sA σ 19 lt1) 19 (va_up lt1 6 x0)) (stp (σ.2.1 0) x0 mk) (cd + (wt x0)) hA h1 (show 7 ≤ (σ.1 17) by omega) st32 hdd.1 (by rw [hdd.2, hd])) (cwV 5 hts gX9_open_X9_open rfl rfl rfl (by decide +kernel) ⟨Nat.le_of_ble_eq_true rfl, Nat.le_of_ble_eq_true rfl⟩) (okWV hK hP hD rfl (gC30 g (sA (sA σ 19 lt1) 19 (va_up lt1 6 x0)) tl)) rfl rfl hl.1 rfl (lv_room (Nat.le_of_ble_eq_true rfl)) dX9_open_85 ⟨Nat.le_of_ble_eq_true rfl, Nat.le_of_ble_eq_true rfl⟩) hD hS hAA (fun r_85 u H locs hw_ hP hD hS => ?_)
          obtain ⟨b_85, lt2_85⟩ := u
          obtain ⟨rfl, h_85⟩ := hw_
          have h_85 : ((b_85 = 1 ∧ opP (σ.2.1 0) (σ.2.1 15) (σ.1 0) ((σ.1 17) - 7) (stp (σ.2.1 0) x0 mk) (cd + (wt x0)) ∧ isOp (σ.2.1 0) (σ.2.1 15) (σ.1 0) ((σ.1 17) - 7) (stp (σ.2.1 0) x0 mk) (cd + (wt x0)) (fun i => lt2_85 (7 + i))) ∨ (b_85 = 0 ∧ ¬ opP (σ.2.1 0) (σ.2.1 15) (σ.1 0) ((σ.1 17) - 7) (stp (σ.2.1 0) x0 mk) (cd + (wt x0)))) ∧ (∀ i, i < 7 → lt2_85 i = ((va_up lt1 6 x0)) i) := h_85
          have hP : va_P (g.1, g.2.1) vwCl (wC g (sA (sA (sA σ 19 lt1) 19 (va_up lt1 6 x0)) 19 lt2_85) ++ tl) H := hP
          have hD : va_D A (wC g (sA (sA (sA σ 19 lt1) 19 (va_up lt1 6 x0)) 19 lt2_85) ++ tl) := hD
          have hb12 : b_85 = 1 ∨ b_85 = 0 := h_85.1.imp (fun z => z.1) (fun z => z.1)
          refine jn_zeq hx hb (by omega) (tgt := 93) dX9_open_88 (by decide) (fun c_88 => ?_) (fun c_88 => ?_)
          · have hr := h_85.1.resolve_left (fun z => by have := z.1; omega)
            refine lv_iinc (v := nI (x0 + 1)) (lv' := [(6, .int (nI (x0 + 1))), (7, .int (nI (stp (σ.2.1 0) x0 mk))), (0, .ref (g.2.2.2 30)), (1, .ref (g.2.2.2 1)), (2, .ref (g.2.2.2 21)), (3, .int (nI 6)), (4, .int (nI mk)), (5, .int (nI cd))]) hx hb dX9_open_93 hl (k := 7) rfl (jn_ii _ 1) (by decide) rfl (fun ls hl => ?_)
            refine lv_goto (tgt := 45) hx hb dX9_open_96 (by decide) ?_
            exact ih45 (x0 + 1) lt2_85 (by omega) (fun y hy => by rcases Nat.lt_or_ge y x0 with q | q; { exact i2 y q }; { rw [show y = x0 by omega]; exact hr.2 }) (fun i hi => by rw [h_85.2 i (by omega), va_up, if_neg (by omega)]; exact i4 i hi) (by omega) _ _ hP hD hS _ (lv_sub hl [2, 3, 4, 5, 6, 7, 0] rfl)
          · have hr := h_85.1.resolve_right (fun z => by have := z.1; omega)
            refine lv_iconst (v := nI 1) hx hb dX9_open_91 (by decide) ?_
            exact hq _ _ _ _ ((nI 1)) (1, lt2_85) dX9_open_92 jn_n1 ⟨rfl, Or.inl ⟨rfl, by rw [eK]; exact ⟨x0, by omega, hr.2.1⟩, by rw [eK]; exact ⟨x0, by omega, i2, hr.2.1, by show lt2_85 6 = x0; rw [h_85.2 6 (by omega), va_up, if_pos rfl], isOp_cong _ _ _ _ _ _ _ _ (fun i _ => by show lt2_85 (7 + i) = lt2_85 (6 + (i + 1)); rw [show 7 + i = 6 + (i + 1) by omega]) hr.2.2⟩⟩, fun i hi => by rw [h_85.2 i (by omega), va_up, if_neg (by omega)]; exact i4 i hi⟩ hP hD hS
    exact lp45 _ 0 (σ.2.1 19) (by decide) (fun y hy => absurd hy (by omega)) (fun _ _ => rfl) (Nat.lt_succ_self _) _ _ hP hD hS _ (lv_sub hl [1, 2, 3, 4, 5, 6, 0] rfl)

abbrev r_c_X9_open_d5 : Room := { frames := 3, cells := 0, slots := 0, locals := 75 }
set_option maxHeartbeats 4000000 in
set_option maxRecDepth 100000 in
theorem c_X9_open_d5 (l : Launch) (g : GC) (tl : va_W) (sz : Nat) (σ : SS) (mk cd : Nat) (hA : OkA σ) (h1 : (σ.1 17) ≤ 7) (h2 : 5 ≤ (σ.1 17)) (hm : mk < 32) (hc : cd < 1000) (hd : dsum cd = 5) : Met l yX9_open wsX9_open r_c_X9_open_d5 (va_Pc [.ref (g.2.2.2 30), .ref (g.2.2.2 1), .ref (g.2.2.2 21), .int (nI 5), .int (nI mk), .int (nI cd)] (PW g (wC g σ ++ tl) sz)) (va_Qi (fun (r : Int32) (z : Nat × (Nat → Nat)) => match z with | (b, lt2) => (r = nI (b)) ∧ ((b = 1 ∧ opP (σ.2.1 0) (σ.2.1 15) (σ.1 0) ((σ.1 17) - 5) mk cd ∧ isOp (σ.2.1 0) (σ.2.1 15) (σ.1 0) ((σ.1 17) - 5) mk cd (fun i => lt2 (5 + i))) ∨ (b = 0 ∧ ¬ opP (σ.2.1 0) (σ.2.1 15) (σ.1 0) ((σ.1 17) - 5) mk cd)) ∧ (∀ i, i < 5 → lt2 i = (σ.2.1 19) i)) (fun (z : Nat × (Nat → Nat)) t => BW g (va_A (wC g σ ++ tl) sz) ((fun z : Nat × (Nat → Nat) => match z with | (b, lt2) => wC g (sA σ 19 lt2) ++ tl) z) t) (va_A (wC g σ ++ tl) sz)) 0 0 (va_A (wC g σ ++ tl) sz) := by
  refine jn_sz (wf := fun z : Nat × (Nat → Nat) => match z with | (b, lt2) => wC g (sA σ 19 lt2) ++ tl) (cc := cX9_open) (maxL := 8) (own := RX9) (by decide) rfl rfl (Nat.le_of_ble_eq_true rfl) ?_
  intro p e s m below meth c Q A hx hb hml hown hts hK hP hD hS hAA hq ls hl
  obtain ⟨H, eH⟩ : ∃ z, z = s.heap := ⟨_, rfl⟩
  obtain ⟨locs, el⟩ : ∃ z : List Loc, z = [] := ⟨_, rfl⟩
  rw [← eH] at hP
  have hS : va_S A s.heap H locs := by rw [eH, el]; exact hS
  have goal0 : W p l e r_c_X9_open_d5 s m ([.ref (g.2.2.2 30), .ref (g.2.2.2 1), .ref (g.2.2.2 21), .int (nI 5), .int (nI mk), .int (nI cd)] : List Value).toArray below meth c H locs 0 0 Q (F0 m 0 ls []) → W p l e r_c_X9_open_d5 s m ([.ref (g.2.2.2 30), .ref (g.2.2.2 1), .ref (g.2.2.2 21), .int (nI 5), .int (nI mk), .int (nI cd)] : List Value).toArray below meth c s.heap [] 0 0 Q (F0 m 0 ls []) := fun h => by rw [eH, el] at h; exact h
  refine goal0 ?_
  have hl : lv_has ls 8 [(0, .ref (g.2.2.2 30)), (1, .ref (g.2.2.2 1)), (2, .ref (g.2.2.2 21)), (3, .int (nI 5)), (4, .int (nI mk)), (5, .int (nI cd))] := hl
  have iX9 : ∀ w ∈ wsX90, w ∈ wsX9_open := by decide +kernel
  have k18 := hts (.fieldLink RX9 18 "JumpingAutomata$WordSearch" "length" "I") (by decide +kernel)
  have k9 := hts (.fieldLink RX9 9 "JumpingAutomata$WordSearch" "letters" "[I") (by decide +kernel)
  refine lv_iload_n hx hb dX9_open_0 rfl (lv_at hl 3 rfl) ?_
  refine lv_aload_n hx hb dX9_open_1 rfl (lv_at hl 0 rfl) ?_
  refine va_get (D := (g.1, g.2.1)) (ci := 11) (v := .int (nI (σ.1 17))) (C := RX9) (T := TX9) (N := 7) hx hb hts iX9 hown hK.1 hP 30 (gC30 g σ tl) rfl 2 (by decide) k18 (fun _ h9 => h9) rfl dX9_open_2 ?_
  refine jn_cge hx hb (by decide) (by omega) (tgt := 14) dX9_open_5 (by decide) (fun c_5 => ?_) (fun c_5 => ?_)
  · refine lv_aload_n hx hb dX9_open_14 rfl (lv_at hl 1 rfl) ?_
    refine lv_aload_n hx hb dX9_open_15 rfl (lv_at hl 2 rfl) ?_
    refine lv_iload hx hb dX9_open_16 (lv_at hl 5 rfl) ?_
    have e0 : ((σ.1 17) - 5) = 0 := by omega
    refine vp_callSi (va_Run.run (va_runV (As := [.int (nI cd)]) (rest := [.ref (g.2.2.2 1)]) ⟨hx, hb, hml, hown, hts⟩ (c_X5_at_21 l g tl σ cd (by omega)) (cwV 1 hts gX9_open_X5_at rfl rfl rfl (by decide +kernel) ⟨Nat.le_of_ble_eq_true rfl, Nat.le_of_ble_eq_true rfl⟩) (okPV hK hP rfl (gC21 g σ tl)) rfl rfl hl.1 rfl (lv_room (Nat.le_of_ble_eq_true rfl)) dX9_open_18 ⟨Nat.le_of_ble_eq_true rfl, Nat.le_of_ble_eq_true rfl⟩)) (fun r_18 h_18 => ?_)
    subst h_18
    refine vp_callSi (va_Run.run (va_runV (As := [.int (nI ((σ.2.1 15) cd))]) (rest := []) ⟨hx, hb, hml, hown, hts⟩ (c_X0_accepting l g tl σ ((σ.2.1 15) cd) hA) (cwV 1 hts gX9_open_X0_accepting rfl rfl rfl (by decide +kernel) ⟨Nat.le_of_ble_eq_true rfl, Nat.le_of_ble_eq_true rfl⟩) (okPV hK hP rfl (gC1 g σ tl)) rfl rfl hl.1 rfl (lv_room (Nat.le_of_ble_eq_true rfl)) dX9_open_21 ⟨Nat.le_of_ble_eq_true rfl, Nat.le_of_ble_eq_true rfl⟩)) (fun r_21 h_21 => ?_)
    subst h_21
    refine jn_beq hx hb (tgt := 40) dX9_open_24 (by decide) (fun c_24 => ?_) (fun c_24 => ?_)
    · refine lv_iconst (v := nI 0) hx hb dX9_open_40 (by decide) ?_
      exact hq _ _ _ _ ((nI 0)) (0, (σ.2.1 19)) dX9_open_41 jn_n0 ⟨rfl, by first | exact Or.inl ⟨rfl, by rw [e0]; exact ⟨c_24, c_33⟩, by rw [e0]; trivial⟩ | exact Or.inr ⟨rfl, by rw [e0]; exact fun z => c_24 z.1⟩ | exact Or.inr ⟨rfl, by rw [e0]; exact fun z => z.2 c_33⟩, fun _ _ => rfl⟩ hP hD hS
    · refine lv_aload_n hx hb dX9_open_27 rfl (lv_at hl 1 rfl) ?_
      refine lv_iload hx hb dX9_open_28 (lv_at hl 4 rfl) ?_
      refine vp_callSi (va_Run.run (va_runV (As := [.int (nI mk)]) (rest := []) ⟨hx, hb, hml, hown, hts⟩ (c_X0_accepting l g tl σ mk hA) (cwV 1 hts gX9_open_X0_accepting rfl rfl rfl (by decide +kernel) ⟨Nat.le_of_ble_eq_true rfl, Nat.le_of_ble_eq_true rfl⟩) (okPV hK hP rfl (gC1 g σ tl)) rfl rfl hl.1 rfl (lv_room (Nat.le_of_ble_eq_true rfl)) dX9_open_30 ⟨Nat.le_of_ble_eq_true rfl, Nat.le_of_ble_eq_true rfl⟩)) (fun r_30 h_30 => ?_)
      subst h_30
      refine jn_bne hx hb (tgt := 40) dX9_open_33 (by decide) (fun c_33 => ?_) (fun c_33 => ?_)
      · refine lv_iconst (v := nI 0) hx hb dX9_open_40 (by decide) ?_
        exact hq _ _ _ _ ((nI 0)) (0, (σ.2.1 19)) dX9_open_41 jn_n0 ⟨rfl, by first | exact Or.inl ⟨rfl, by rw [e0]; exact ⟨c_24, c_33⟩, by rw [e0]; trivial⟩ | exact Or.inr ⟨rfl, by rw [e0]; exact fun z => c_24 z.1⟩ | exact Or.inr ⟨rfl, by rw [e0]; exact fun z => z.2 c_33⟩, fun _ _ => rfl⟩ hP hD hS
      · refine lv_iconst (v := nI 1) hx hb dX9_open_36 (by decide) ?_
        refine lv_goto (tgt := 41) hx hb dX9_open_37 (by decide) ?_
        exact hq _ _ _ _ ((nI 1)) (1, (σ.2.1 19)) dX9_open_41 jn_n1 ⟨rfl, by first | exact Or.inl ⟨rfl, by rw [e0]; exact ⟨c_24, c_33⟩, by rw [e0]; trivial⟩ | exact Or.inr ⟨rfl, by rw [e0]; exact fun z => c_24 z.1⟩ | exact Or.inr ⟨rfl, by rw [e0]; exact fun z => z.2 c_33⟩, fun _ _ => rfl⟩ hP hD hS
  · refine lv_iload_n hx hb dX9_open_8 rfl (lv_at hl 3 rfl) ?_
    refine lv_bipush (v := nI 8) hx hb dX9_open_9 (by decide) ?_
    refine jn_clt hx hb (by decide) (by decide) (tgt := 42) dX9_open_11 (by decide) (fun c_11 => ?_) (fun c_11 => absurd c_11 (by decide))
    refine lv_iconst (v := nI 0) hx hb dX9_open_42 (by decide) ?_
    refine lv_istore (lv' := [(6, .int (nI 0)), (0, .ref (g.2.2.2 30)), (1, .ref (g.2.2.2 1)), (2, .ref (g.2.2.2 21)), (3, .int (nI 5)), (4, .int (nI mk)), (5, .int (nI cd))]) hx hb dX9_open_43 hl (by decide) rfl (fun ls hl => ?_)
    have lp45 : ∀ (fu : Nat), ∀ (x0 : Nat) (lt1 : Nat → Nat), (x0 ≤ 3) → (∀ y, y < x0 → ¬ opP (σ.2.1 0) (σ.2.1 15) (σ.1 0) ((σ.1 17) - 6) (stp (σ.2.1 0) y mk) (cd + wt y)) → (∀ i, i < 5 → lt1 i = (σ.2.1 19) i) → 3 - x0 < fu → ∀ (H : Heap) (locs : List Loc), va_P (g.1, g.2.1) vwCl (wC g (sA σ 19 lt1) ++ tl) H → va_D A (wC g (sA σ 19 lt1) ++ tl) → va_S A s.heap H locs → ∀ ls : Array Slot, lv_has ls 8 [(0, .ref (g.2.2.2 30)), (1, .ref (g.2.2.2 1)), (2, .ref (g.2.2.2 21)), (3, .int (nI 5)), (4, .int (nI mk)), (5, .int (nI cd)), (6, .int (nI x0))] → W p l e r_c_X9_open_d5 s m ([.ref (g.2.2.2 30), .ref (g.2.2.2 1), .ref (g.2.2.2 21), .int (nI 5), .int (nI mk), .int (nI cd)] : List Value).toArray below meth c H locs 0 0 Q (F0 m 45 ls []) := by
      intro fu
      induction fu with
      | zero => intro x0 lt1 i1 i2 i4 hf; exact absurd hf (Nat.not_lt_zero _)
      | succ fu ih45 =>
        intro x0 lt1 i1 i2 i4 hf H locs hP hD hS ls hl
        have eK : ((σ.1 17) - 5) = ((σ.1 17) - 6) + 1 := by omega
        refine lv_iload hx hb dX9_open_45 (lv_at hl 6 rfl) ?_
        refine lv_iconst (v := nI 3) hx hb dX9_open_47 (by decide) ?_
        refine jn_cge hx hb (by omega) (by decide) (tgt := 99) dX9_open_48 (by decide) (fun c_48 => ?_) (fun c_48 => ?_)
        · refine lv_iconst (v := nI 0) hx hb dX9_open_99 (by decide) ?_
          exact hq _ _ _ _ ((nI 0)) (0, lt1) dX9_open_100 jn_n0 ⟨rfl, Or.inr ⟨rfl, by rw [eK]; exact op_cases i1 i2 (by omega)⟩, i4⟩ hP hD hS
        · refine lv_aload_n hx hb dX9_open_51 rfl (lv_at hl 0 rfl) ?_
          refine va_get (D := (g.1, g.2.1)) (ci := 11) (v := .ref (g.2.2.2 31)) (C := RX9) (T := TX9) (N := 7) hx hb hts iX9 hown hK.1 hP 30 (gC30 g (sA σ 19 lt1) tl) rfl 0 (by decide) k9 (fun _ h9 => h9) rfl dX9_open_52 ?_
          refine lv_iload_n hx hb dX9_open_55 rfl (lv_at hl 3 rfl) ?_
          refine lv_iload hx hb dX9_open_56 (lv_at hl 6 rfl) ?_
          refine jn_iast (f := lt1) hx hb hK.1 hP hD hS 31 0 (gC31 g (sA σ 19 lt1) tl) rfl (by decide) (Nat.le_of_ble_eq_true rfl) (uC_A19 g (sA σ 19 lt1) tl _) dX9_open_58 (fun H locs hP hD hS => ?_)
          refine lv_aload_n hx hb dX9_open_59 rfl (lv_at hl 1 rfl) ?_
          refine lv_iload hx hb dX9_open_60 (lv_at hl 6 rfl) ?_
          refine lv_iload hx hb dX9_open_62 (lv_at hl 4 rfl) ?_
          refine vp_callSi (va_Run.run (va_runV (As := [.int (nI x0), .int (nI mk)]) (rest := []) ⟨hx, hb, hml, hown, hts⟩ (c_X0_step l g tl (sA (sA σ 19 lt1) 19 (va_up lt1 5 x0)) x0 mk hA (by omega) hm) (cwV 2 hts gX9_open_X0_step rfl rfl rfl (by decide +kernel) ⟨Nat.le_of_ble_eq_true rfl, Nat.le_of_ble_eq_true rfl⟩) (okPV hK hP rfl (gC1 g (sA (sA σ 19 lt1) 19 (va_up lt1 5 x0)) tl)) rfl rfl hl.1 rfl (lv_room (Nat.le_of_ble_eq_true rfl)) dX9_open_64 ⟨Nat.le_of_ble_eq_true rfl, Nat.le_of_ble_eq_true rfl⟩)) (fun r_64 h_64 => ?_)
          have h_64 : r_64 = (nI (stp (σ.2.1 0) x0 mk)) := h_64
          subst h_64
          have st32 : stp (σ.2.1 0) x0 mk < 32 := stp_lt hA.1 (by omega)
          have hdd := dsum_all cd hc (by omega) x0 (by omega)
          refine lv_istore (lv' := [(7, .int (nI (stp (σ.2.1 0) x0 mk))), (0, .ref (g.2.2.2 30)), (1, .ref (g.2.2.2 1)), (2, .ref (g.2.2.2 21)), (3, .int (nI 5)), (4, .int (nI mk)), (5, .int (nI cd)), (6, .int (nI x0))]) hx hb dX9_open_67 hl (by decide) rfl (fun ls hl => ?_)
          refine lv_aload_n hx hb dX9_open_69 rfl (lv_at hl 1 rfl) ?_
          refine lv_aload_n hx hb dX9_open_70 rfl (lv_at hl 2 rfl) ?_
          refine lv_aload_n hx hb dX9_open_71 rfl (lv_at hl 3 rfl) ?_
          refine lv_iload_n hx hb dX9_open_72 rfl (lv_at hl 4 rfl) ?_
          refine lv_iconst (v := nI 1) hx hb dX9_open_73 (by decide) ?_
          refine jn_iadd hx hb dX9_open_74 ?_
          refine lv_iload hx hb dX9_open_75 (lv_at hl 0 rfl) ?_
          refine lv_iload hx hb dX9_open_77 (lv_at hl 6 rfl) ?_
          refine lv_iload hx hb dX9_open_79 (lv_at hl 7 rfl) ?_
          refine vp_callSi (va_Run.run (va_runSN (As := [.int (nI x0)]) (rest := [.int (nI cd), .int (nI (stp (σ.2.1 0) x0 mk)), .int (nI (5 + 1)), .ref (g.2.2.2 21), .ref (g.2.2.2 1), .ref (g.2.2.2 30)]) ⟨hx, hb, hml, hown, hts⟩ (c_X10_weightOf l x0 (by omega)) ⟨(va_cnB 1 hts gX9_open_X10_weightOf_n79 rfl rfl rfl (hK.2 _ (List.mem_of_getElem? (i := 28) rfl)) (hts (.initialized RX10) (by decide +kernel)) (by decide +kernel) ⟨Nat.le_of_ble_eq_true rfl, Nat.le_of_ble_eq_true rfl⟩), hts (.static yX10_weightOf) (by decide +kernel), trivial⟩ okTS rfl rfl hl.1 rfl (lv_room (Nat.le_of_ble_eq_true rfl)) dX9_open_81 ⟨Nat.le_of_ble_eq_true rfl, Nat.le_of_ble_eq_true rfl⟩)) (fun r_81 h_81 => ?_)
          subst h_81
          refine jn_iadd hx hb dX9_open_84 ?_
          refine jn_calli (va_runV (As := [.ref (g.2.2.2 1), .ref (g.2.2.2 21), .int (nI (5 + 1)), .int (nI (stp (σ.2.1 0) x0 mk)), .int (nI (cd + (wt x0)))]) (rest := []) ⟨hx, hb, hml, hown, hts⟩ (c_X9_open_d6 l g tl H.size (sA (sA σ 19 lt1) 19 (va_up lt1 5 x0)) (stp (σ.2.1 0) x0 mk) (cd + (wt x0)) hA h1 (show 6 ≤ (σ.1 17) by omega) st32 hdd.1 (by rw [hdd.2, hd])) (cwV 5 hts gX9_open_X9_open rfl rfl rfl (by decide +kernel) ⟨Nat.le_of_ble_eq_true rfl, Nat.le_of_ble_eq_true rfl⟩) (okWV hK hP hD rfl (gC30 g (sA (sA σ 19 lt1) 19 (va_up lt1 5 x0)) tl)) rfl rfl hl.1 rfl (lv_room (Nat.le_of_ble_eq_true rfl)) dX9_open_85 ⟨Nat.le_of_ble_eq_true rfl, Nat.le_of_ble_eq_true rfl⟩) hD hS hAA (fun r_85 u H locs hw_ hP hD hS => ?_)
          obtain ⟨b_85, lt2_85⟩ := u
          obtain ⟨rfl, h_85⟩ := hw_
          have h_85 : ((b_85 = 1 ∧ opP (σ.2.1 0) (σ.2.1 15) (σ.1 0) ((σ.1 17) - 6) (stp (σ.2.1 0) x0 mk) (cd + (wt x0)) ∧ isOp (σ.2.1 0) (σ.2.1 15) (σ.1 0) ((σ.1 17) - 6) (stp (σ.2.1 0) x0 mk) (cd + (wt x0)) (fun i => lt2_85 (6 + i))) ∨ (b_85 = 0 ∧ ¬ opP (σ.2.1 0) (σ.2.1 15) (σ.1 0) ((σ.1 17) - 6) (stp (σ.2.1 0) x0 mk) (cd + (wt x0)))) ∧ (∀ i, i < 6 → lt2_85 i = ((va_up lt1 5 x0)) i) := h_85
          have hP : va_P (g.1, g.2.1) vwCl (wC g (sA (sA (sA σ 19 lt1) 19 (va_up lt1 5 x0)) 19 lt2_85) ++ tl) H := hP
          have hD : va_D A (wC g (sA (sA (sA σ 19 lt1) 19 (va_up lt1 5 x0)) 19 lt2_85) ++ tl) := hD
          have hb12 : b_85 = 1 ∨ b_85 = 0 := h_85.1.imp (fun z => z.1) (fun z => z.1)
          refine jn_zeq hx hb (by omega) (tgt := 93) dX9_open_88 (by decide) (fun c_88 => ?_) (fun c_88 => ?_)
          · have hr := h_85.1.resolve_left (fun z => by have := z.1; omega)
            refine lv_iinc (v := nI (x0 + 1)) (lv' := [(6, .int (nI (x0 + 1))), (7, .int (nI (stp (σ.2.1 0) x0 mk))), (0, .ref (g.2.2.2 30)), (1, .ref (g.2.2.2 1)), (2, .ref (g.2.2.2 21)), (3, .int (nI 5)), (4, .int (nI mk)), (5, .int (nI cd))]) hx hb dX9_open_93 hl (k := 7) rfl (jn_ii _ 1) (by decide) rfl (fun ls hl => ?_)
            refine lv_goto (tgt := 45) hx hb dX9_open_96 (by decide) ?_
            exact ih45 (x0 + 1) lt2_85 (by omega) (fun y hy => by rcases Nat.lt_or_ge y x0 with q | q; { exact i2 y q }; { rw [show y = x0 by omega]; exact hr.2 }) (fun i hi => by rw [h_85.2 i (by omega), va_up, if_neg (by omega)]; exact i4 i hi) (by omega) _ _ hP hD hS _ (lv_sub hl [2, 3, 4, 5, 6, 7, 0] rfl)
          · have hr := h_85.1.resolve_right (fun z => by have := z.1; omega)
            refine lv_iconst (v := nI 1) hx hb dX9_open_91 (by decide) ?_
            exact hq _ _ _ _ ((nI 1)) (1, lt2_85) dX9_open_92 jn_n1 ⟨rfl, Or.inl ⟨rfl, by rw [eK]; exact ⟨x0, by omega, hr.2.1⟩, by rw [eK]; exact ⟨x0, by omega, i2, hr.2.1, by show lt2_85 5 = x0; rw [h_85.2 5 (by omega), va_up, if_pos rfl], isOp_cong _ _ _ _ _ _ _ _ (fun i _ => by show lt2_85 (6 + i) = lt2_85 (5 + (i + 1)); rw [show 6 + i = 5 + (i + 1) by omega]) hr.2.2⟩⟩, fun i hi => by rw [h_85.2 i (by omega), va_up, if_neg (by omega)]; exact i4 i hi⟩ hP hD hS
    exact lp45 _ 0 (σ.2.1 19) (by decide) (fun y hy => absurd hy (by omega)) (fun _ _ => rfl) (Nat.lt_succ_self _) _ _ hP hD hS _ (lv_sub hl [1, 2, 3, 4, 5, 6, 0] rfl)

abbrev r_c_X9_open_d4 : Room := { frames := 4, cells := 0, slots := 0, locals := 102 }
set_option maxHeartbeats 4000000 in
set_option maxRecDepth 100000 in
theorem c_X9_open_d4 (l : Launch) (g : GC) (tl : va_W) (sz : Nat) (σ : SS) (mk cd : Nat) (hA : OkA σ) (h1 : (σ.1 17) ≤ 7) (h2 : 4 ≤ (σ.1 17)) (hm : mk < 32) (hc : cd < 1000) (hd : dsum cd = 4) : Met l yX9_open wsX9_open r_c_X9_open_d4 (va_Pc [.ref (g.2.2.2 30), .ref (g.2.2.2 1), .ref (g.2.2.2 21), .int (nI 4), .int (nI mk), .int (nI cd)] (PW g (wC g σ ++ tl) sz)) (va_Qi (fun (r : Int32) (z : Nat × (Nat → Nat)) => match z with | (b, lt2) => (r = nI (b)) ∧ ((b = 1 ∧ opP (σ.2.1 0) (σ.2.1 15) (σ.1 0) ((σ.1 17) - 4) mk cd ∧ isOp (σ.2.1 0) (σ.2.1 15) (σ.1 0) ((σ.1 17) - 4) mk cd (fun i => lt2 (4 + i))) ∨ (b = 0 ∧ ¬ opP (σ.2.1 0) (σ.2.1 15) (σ.1 0) ((σ.1 17) - 4) mk cd)) ∧ (∀ i, i < 4 → lt2 i = (σ.2.1 19) i)) (fun (z : Nat × (Nat → Nat)) t => BW g (va_A (wC g σ ++ tl) sz) ((fun z : Nat × (Nat → Nat) => match z with | (b, lt2) => wC g (sA σ 19 lt2) ++ tl) z) t) (va_A (wC g σ ++ tl) sz)) 0 0 (va_A (wC g σ ++ tl) sz) := by
  refine jn_sz (wf := fun z : Nat × (Nat → Nat) => match z with | (b, lt2) => wC g (sA σ 19 lt2) ++ tl) (cc := cX9_open) (maxL := 8) (own := RX9) (by decide) rfl rfl (Nat.le_of_ble_eq_true rfl) ?_
  intro p e s m below meth c Q A hx hb hml hown hts hK hP hD hS hAA hq ls hl
  obtain ⟨H, eH⟩ : ∃ z, z = s.heap := ⟨_, rfl⟩
  obtain ⟨locs, el⟩ : ∃ z : List Loc, z = [] := ⟨_, rfl⟩
  rw [← eH] at hP
  have hS : va_S A s.heap H locs := by rw [eH, el]; exact hS
  have goal0 : W p l e r_c_X9_open_d4 s m ([.ref (g.2.2.2 30), .ref (g.2.2.2 1), .ref (g.2.2.2 21), .int (nI 4), .int (nI mk), .int (nI cd)] : List Value).toArray below meth c H locs 0 0 Q (F0 m 0 ls []) → W p l e r_c_X9_open_d4 s m ([.ref (g.2.2.2 30), .ref (g.2.2.2 1), .ref (g.2.2.2 21), .int (nI 4), .int (nI mk), .int (nI cd)] : List Value).toArray below meth c s.heap [] 0 0 Q (F0 m 0 ls []) := fun h => by rw [eH, el] at h; exact h
  refine goal0 ?_
  have hl : lv_has ls 8 [(0, .ref (g.2.2.2 30)), (1, .ref (g.2.2.2 1)), (2, .ref (g.2.2.2 21)), (3, .int (nI 4)), (4, .int (nI mk)), (5, .int (nI cd))] := hl
  have iX9 : ∀ w ∈ wsX90, w ∈ wsX9_open := by decide +kernel
  have k18 := hts (.fieldLink RX9 18 "JumpingAutomata$WordSearch" "length" "I") (by decide +kernel)
  have k9 := hts (.fieldLink RX9 9 "JumpingAutomata$WordSearch" "letters" "[I") (by decide +kernel)
  refine lv_iload_n hx hb dX9_open_0 rfl (lv_at hl 3 rfl) ?_
  refine lv_aload_n hx hb dX9_open_1 rfl (lv_at hl 0 rfl) ?_
  refine va_get (D := (g.1, g.2.1)) (ci := 11) (v := .int (nI (σ.1 17))) (C := RX9) (T := TX9) (N := 7) hx hb hts iX9 hown hK.1 hP 30 (gC30 g σ tl) rfl 2 (by decide) k18 (fun _ h9 => h9) rfl dX9_open_2 ?_
  refine jn_cge hx hb (by decide) (by omega) (tgt := 14) dX9_open_5 (by decide) (fun c_5 => ?_) (fun c_5 => ?_)
  · refine lv_aload_n hx hb dX9_open_14 rfl (lv_at hl 1 rfl) ?_
    refine lv_aload_n hx hb dX9_open_15 rfl (lv_at hl 2 rfl) ?_
    refine lv_iload hx hb dX9_open_16 (lv_at hl 5 rfl) ?_
    have e0 : ((σ.1 17) - 4) = 0 := by omega
    refine vp_callSi (va_Run.run (va_runV (As := [.int (nI cd)]) (rest := [.ref (g.2.2.2 1)]) ⟨hx, hb, hml, hown, hts⟩ (c_X5_at_21 l g tl σ cd (by omega)) (cwV 1 hts gX9_open_X5_at rfl rfl rfl (by decide +kernel) ⟨Nat.le_of_ble_eq_true rfl, Nat.le_of_ble_eq_true rfl⟩) (okPV hK hP rfl (gC21 g σ tl)) rfl rfl hl.1 rfl (lv_room (Nat.le_of_ble_eq_true rfl)) dX9_open_18 ⟨Nat.le_of_ble_eq_true rfl, Nat.le_of_ble_eq_true rfl⟩)) (fun r_18 h_18 => ?_)
    subst h_18
    refine vp_callSi (va_Run.run (va_runV (As := [.int (nI ((σ.2.1 15) cd))]) (rest := []) ⟨hx, hb, hml, hown, hts⟩ (c_X0_accepting l g tl σ ((σ.2.1 15) cd) hA) (cwV 1 hts gX9_open_X0_accepting rfl rfl rfl (by decide +kernel) ⟨Nat.le_of_ble_eq_true rfl, Nat.le_of_ble_eq_true rfl⟩) (okPV hK hP rfl (gC1 g σ tl)) rfl rfl hl.1 rfl (lv_room (Nat.le_of_ble_eq_true rfl)) dX9_open_21 ⟨Nat.le_of_ble_eq_true rfl, Nat.le_of_ble_eq_true rfl⟩)) (fun r_21 h_21 => ?_)
    subst h_21
    refine jn_beq hx hb (tgt := 40) dX9_open_24 (by decide) (fun c_24 => ?_) (fun c_24 => ?_)
    · refine lv_iconst (v := nI 0) hx hb dX9_open_40 (by decide) ?_
      exact hq _ _ _ _ ((nI 0)) (0, (σ.2.1 19)) dX9_open_41 jn_n0 ⟨rfl, by first | exact Or.inl ⟨rfl, by rw [e0]; exact ⟨c_24, c_33⟩, by rw [e0]; trivial⟩ | exact Or.inr ⟨rfl, by rw [e0]; exact fun z => c_24 z.1⟩ | exact Or.inr ⟨rfl, by rw [e0]; exact fun z => z.2 c_33⟩, fun _ _ => rfl⟩ hP hD hS
    · refine lv_aload_n hx hb dX9_open_27 rfl (lv_at hl 1 rfl) ?_
      refine lv_iload hx hb dX9_open_28 (lv_at hl 4 rfl) ?_
      refine vp_callSi (va_Run.run (va_runV (As := [.int (nI mk)]) (rest := []) ⟨hx, hb, hml, hown, hts⟩ (c_X0_accepting l g tl σ mk hA) (cwV 1 hts gX9_open_X0_accepting rfl rfl rfl (by decide +kernel) ⟨Nat.le_of_ble_eq_true rfl, Nat.le_of_ble_eq_true rfl⟩) (okPV hK hP rfl (gC1 g σ tl)) rfl rfl hl.1 rfl (lv_room (Nat.le_of_ble_eq_true rfl)) dX9_open_30 ⟨Nat.le_of_ble_eq_true rfl, Nat.le_of_ble_eq_true rfl⟩)) (fun r_30 h_30 => ?_)
      subst h_30
      refine jn_bne hx hb (tgt := 40) dX9_open_33 (by decide) (fun c_33 => ?_) (fun c_33 => ?_)
      · refine lv_iconst (v := nI 0) hx hb dX9_open_40 (by decide) ?_
        exact hq _ _ _ _ ((nI 0)) (0, (σ.2.1 19)) dX9_open_41 jn_n0 ⟨rfl, by first | exact Or.inl ⟨rfl, by rw [e0]; exact ⟨c_24, c_33⟩, by rw [e0]; trivial⟩ | exact Or.inr ⟨rfl, by rw [e0]; exact fun z => c_24 z.1⟩ | exact Or.inr ⟨rfl, by rw [e0]; exact fun z => z.2 c_33⟩, fun _ _ => rfl⟩ hP hD hS
      · refine lv_iconst (v := nI 1) hx hb dX9_open_36 (by decide) ?_
        refine lv_goto (tgt := 41) hx hb dX9_open_37 (by decide) ?_
        exact hq _ _ _ _ ((nI 1)) (1, (σ.2.1 19)) dX9_open_41 jn_n1 ⟨rfl, by first | exact Or.inl ⟨rfl, by rw [e0]; exact ⟨c_24, c_33⟩, by rw [e0]; trivial⟩ | exact Or.inr ⟨rfl, by rw [e0]; exact fun z => c_24 z.1⟩ | exact Or.inr ⟨rfl, by rw [e0]; exact fun z => z.2 c_33⟩, fun _ _ => rfl⟩ hP hD hS
  · refine lv_iload_n hx hb dX9_open_8 rfl (lv_at hl 3 rfl) ?_
    refine lv_bipush (v := nI 8) hx hb dX9_open_9 (by decide) ?_
    refine jn_clt hx hb (by decide) (by decide) (tgt := 42) dX9_open_11 (by decide) (fun c_11 => ?_) (fun c_11 => absurd c_11 (by decide))
    refine lv_iconst (v := nI 0) hx hb dX9_open_42 (by decide) ?_
    refine lv_istore (lv' := [(6, .int (nI 0)), (0, .ref (g.2.2.2 30)), (1, .ref (g.2.2.2 1)), (2, .ref (g.2.2.2 21)), (3, .int (nI 4)), (4, .int (nI mk)), (5, .int (nI cd))]) hx hb dX9_open_43 hl (by decide) rfl (fun ls hl => ?_)
    have lp45 : ∀ (fu : Nat), ∀ (x0 : Nat) (lt1 : Nat → Nat), (x0 ≤ 3) → (∀ y, y < x0 → ¬ opP (σ.2.1 0) (σ.2.1 15) (σ.1 0) ((σ.1 17) - 5) (stp (σ.2.1 0) y mk) (cd + wt y)) → (∀ i, i < 4 → lt1 i = (σ.2.1 19) i) → 3 - x0 < fu → ∀ (H : Heap) (locs : List Loc), va_P (g.1, g.2.1) vwCl (wC g (sA σ 19 lt1) ++ tl) H → va_D A (wC g (sA σ 19 lt1) ++ tl) → va_S A s.heap H locs → ∀ ls : Array Slot, lv_has ls 8 [(0, .ref (g.2.2.2 30)), (1, .ref (g.2.2.2 1)), (2, .ref (g.2.2.2 21)), (3, .int (nI 4)), (4, .int (nI mk)), (5, .int (nI cd)), (6, .int (nI x0))] → W p l e r_c_X9_open_d4 s m ([.ref (g.2.2.2 30), .ref (g.2.2.2 1), .ref (g.2.2.2 21), .int (nI 4), .int (nI mk), .int (nI cd)] : List Value).toArray below meth c H locs 0 0 Q (F0 m 45 ls []) := by
      intro fu
      induction fu with
      | zero => intro x0 lt1 i1 i2 i4 hf; exact absurd hf (Nat.not_lt_zero _)
      | succ fu ih45 =>
        intro x0 lt1 i1 i2 i4 hf H locs hP hD hS ls hl
        have eK : ((σ.1 17) - 4) = ((σ.1 17) - 5) + 1 := by omega
        refine lv_iload hx hb dX9_open_45 (lv_at hl 6 rfl) ?_
        refine lv_iconst (v := nI 3) hx hb dX9_open_47 (by decide) ?_
        refine jn_cge hx hb (by omega) (by decide) (tgt := 99) dX9_open_48 (by decide) (fun c_48 => ?_) (fun c_48 => ?_)
        · refine lv_iconst (v := nI 0) hx hb dX9_open_99 (by decide) ?_
          exact hq _ _ _ _ ((nI 0)) (0, lt1) dX9_open_100 jn_n0 ⟨rfl, Or.inr ⟨rfl, by rw [eK]; exact op_cases i1 i2 (by omega)⟩, i4⟩ hP hD hS
        · refine lv_aload_n hx hb dX9_open_51 rfl (lv_at hl 0 rfl) ?_
          refine va_get (D := (g.1, g.2.1)) (ci := 11) (v := .ref (g.2.2.2 31)) (C := RX9) (T := TX9) (N := 7) hx hb hts iX9 hown hK.1 hP 30 (gC30 g (sA σ 19 lt1) tl) rfl 0 (by decide) k9 (fun _ h9 => h9) rfl dX9_open_52 ?_
          refine lv_iload_n hx hb dX9_open_55 rfl (lv_at hl 3 rfl) ?_
          refine lv_iload hx hb dX9_open_56 (lv_at hl 6 rfl) ?_
          refine jn_iast (f := lt1) hx hb hK.1 hP hD hS 31 0 (gC31 g (sA σ 19 lt1) tl) rfl (by decide) (Nat.le_of_ble_eq_true rfl) (uC_A19 g (sA σ 19 lt1) tl _) dX9_open_58 (fun H locs hP hD hS => ?_)
          refine lv_aload_n hx hb dX9_open_59 rfl (lv_at hl 1 rfl) ?_
          refine lv_iload hx hb dX9_open_60 (lv_at hl 6 rfl) ?_
          refine lv_iload hx hb dX9_open_62 (lv_at hl 4 rfl) ?_
          refine vp_callSi (va_Run.run (va_runV (As := [.int (nI x0), .int (nI mk)]) (rest := []) ⟨hx, hb, hml, hown, hts⟩ (c_X0_step l g tl (sA (sA σ 19 lt1) 19 (va_up lt1 4 x0)) x0 mk hA (by omega) hm) (cwV 2 hts gX9_open_X0_step rfl rfl rfl (by decide +kernel) ⟨Nat.le_of_ble_eq_true rfl, Nat.le_of_ble_eq_true rfl⟩) (okPV hK hP rfl (gC1 g (sA (sA σ 19 lt1) 19 (va_up lt1 4 x0)) tl)) rfl rfl hl.1 rfl (lv_room (Nat.le_of_ble_eq_true rfl)) dX9_open_64 ⟨Nat.le_of_ble_eq_true rfl, Nat.le_of_ble_eq_true rfl⟩)) (fun r_64 h_64 => ?_)
          have h_64 : r_64 = (nI (stp (σ.2.1 0) x0 mk)) := h_64
          subst h_64
          have st32 : stp (σ.2.1 0) x0 mk < 32 := stp_lt hA.1 (by omega)
          have hdd := dsum_all cd hc (by omega) x0 (by omega)
          refine lv_istore (lv' := [(7, .int (nI (stp (σ.2.1 0) x0 mk))), (0, .ref (g.2.2.2 30)), (1, .ref (g.2.2.2 1)), (2, .ref (g.2.2.2 21)), (3, .int (nI 4)), (4, .int (nI mk)), (5, .int (nI cd)), (6, .int (nI x0))]) hx hb dX9_open_67 hl (by decide) rfl (fun ls hl => ?_)
          refine lv_aload_n hx hb dX9_open_69 rfl (lv_at hl 1 rfl) ?_
          refine lv_aload_n hx hb dX9_open_70 rfl (lv_at hl 2 rfl) ?_
          refine lv_aload_n hx hb dX9_open_71 rfl (lv_at hl 3 rfl) ?_
          refine lv_iload_n hx hb dX9_open_72 rfl (lv_at hl 4 rfl) ?_
          refine lv_iconst (v := nI 1) hx hb dX9_open_73 (by decide) ?_
          refine jn_iadd hx hb dX9_open_74 ?_
          refine lv_iload hx hb dX9_open_75 (lv_at hl 0 rfl) ?_
          refine lv_iload hx hb dX9_open_77 (lv_at hl 6 rfl) ?_
          refine lv_iload hx hb dX9_open_79 (lv_at hl 7 rfl) ?_
          refine vp_callSi (va_Run.run (va_runSN (As := [.int (nI x0)]) (rest := [.int (nI cd), .int (nI (stp (σ.2.1 0) x0 mk)), .int (nI (4 + 1)), .ref (g.2.2.2 21), .ref (g.2.2.2 1), .ref (g.2.2.2 30)]) ⟨hx, hb, hml, hown, hts⟩ (c_X10_weightOf l x0 (by omega)) ⟨(va_cnB 1 hts gX9_open_X10_weightOf_n79 rfl rfl rfl (hK.2 _ (List.mem_of_getElem? (i := 28) rfl)) (hts (.initialized RX10) (by decide +kernel)) (by decide +kernel) ⟨Nat.le_of_ble_eq_true rfl, Nat.le_of_ble_eq_true rfl⟩), hts (.static yX10_weightOf) (by decide +kernel), trivial⟩ okTS rfl rfl hl.1 rfl (lv_room (Nat.le_of_ble_eq_true rfl)) dX9_open_81 ⟨Nat.le_of_ble_eq_true rfl, Nat.le_of_ble_eq_true rfl⟩)) (fun r_81 h_81 => ?_)
          subst h_81
          refine jn_iadd hx hb dX9_open_84 ?_
          refine jn_calli (va_runV (As := [.ref (g.2.2.2 1), .ref (g.2.2.2 21), .int (nI (4 + 1)), .int (nI (stp (σ.2.1 0) x0 mk)), .int (nI (cd + (wt x0)))]) (rest := []) ⟨hx, hb, hml, hown, hts⟩ (c_X9_open_d5 l g tl H.size (sA (sA σ 19 lt1) 19 (va_up lt1 4 x0)) (stp (σ.2.1 0) x0 mk) (cd + (wt x0)) hA h1 (show 5 ≤ (σ.1 17) by omega) st32 hdd.1 (by rw [hdd.2, hd])) (cwV 5 hts gX9_open_X9_open rfl rfl rfl (by decide +kernel) ⟨Nat.le_of_ble_eq_true rfl, Nat.le_of_ble_eq_true rfl⟩) (okWV hK hP hD rfl (gC30 g (sA (sA σ 19 lt1) 19 (va_up lt1 4 x0)) tl)) rfl rfl hl.1 rfl (lv_room (Nat.le_of_ble_eq_true rfl)) dX9_open_85 ⟨Nat.le_of_ble_eq_true rfl, Nat.le_of_ble_eq_true rfl⟩) hD hS hAA (fun r_85 u H locs hw_ hP hD hS => ?_)
          obtain ⟨b_85, lt2_85⟩ := u
          obtain ⟨rfl, h_85⟩ := hw_
          have h_85 : ((b_85 = 1 ∧ opP (σ.2.1 0) (σ.2.1 15) (σ.1 0) ((σ.1 17) - 5) (stp (σ.2.1 0) x0 mk) (cd + (wt x0)) ∧ isOp (σ.2.1 0) (σ.2.1 15) (σ.1 0) ((σ.1 17) - 5) (stp (σ.2.1 0) x0 mk) (cd + (wt x0)) (fun i => lt2_85 (5 + i))) ∨ (b_85 = 0 ∧ ¬ opP (σ.2.1 0) (σ.2.1 15) (σ.1 0) ((σ.1 17) - 5) (stp (σ.2.1 0) x0 mk) (cd + (wt x0)))) ∧ (∀ i, i < 5 → lt2_85 i = ((va_up lt1 4 x0)) i) := h_85
          have hP : va_P (g.1, g.2.1) vwCl (wC g (sA (sA (sA σ 19 lt1) 19 (va_up lt1 4 x0)) 19 lt2_85) ++ tl) H := hP
          have hD : va_D A (wC g (sA (sA (sA σ 19 lt1) 19 (va_up lt1 4 x0)) 19 lt2_85) ++ tl) := hD
          have hb12 : b_85 = 1 ∨ b_85 = 0 := h_85.1.imp (fun z => z.1) (fun z => z.1)
          refine jn_zeq hx hb (by omega) (tgt := 93) dX9_open_88 (by decide) (fun c_88 => ?_) (fun c_88 => ?_)
          · have hr := h_85.1.resolve_left (fun z => by have := z.1; omega)
            refine lv_iinc (v := nI (x0 + 1)) (lv' := [(6, .int (nI (x0 + 1))), (7, .int (nI (stp (σ.2.1 0) x0 mk))), (0, .ref (g.2.2.2 30)), (1, .ref (g.2.2.2 1)), (2, .ref (g.2.2.2 21)), (3, .int (nI 4)), (4, .int (nI mk)), (5, .int (nI cd))]) hx hb dX9_open_93 hl (k := 7) rfl (jn_ii _ 1) (by decide) rfl (fun ls hl => ?_)
            refine lv_goto (tgt := 45) hx hb dX9_open_96 (by decide) ?_
            exact ih45 (x0 + 1) lt2_85 (by omega) (fun y hy => by rcases Nat.lt_or_ge y x0 with q | q; { exact i2 y q }; { rw [show y = x0 by omega]; exact hr.2 }) (fun i hi => by rw [h_85.2 i (by omega), va_up, if_neg (by omega)]; exact i4 i hi) (by omega) _ _ hP hD hS _ (lv_sub hl [2, 3, 4, 5, 6, 7, 0] rfl)
          · have hr := h_85.1.resolve_right (fun z => by have := z.1; omega)
            refine lv_iconst (v := nI 1) hx hb dX9_open_91 (by decide) ?_
            exact hq _ _ _ _ ((nI 1)) (1, lt2_85) dX9_open_92 jn_n1 ⟨rfl, Or.inl ⟨rfl, by rw [eK]; exact ⟨x0, by omega, hr.2.1⟩, by rw [eK]; exact ⟨x0, by omega, i2, hr.2.1, by show lt2_85 4 = x0; rw [h_85.2 4 (by omega), va_up, if_pos rfl], isOp_cong _ _ _ _ _ _ _ _ (fun i _ => by show lt2_85 (5 + i) = lt2_85 (4 + (i + 1)); rw [show 5 + i = 4 + (i + 1) by omega]) hr.2.2⟩⟩, fun i hi => by rw [h_85.2 i (by omega), va_up, if_neg (by omega)]; exact i4 i hi⟩ hP hD hS
    exact lp45 _ 0 (σ.2.1 19) (by decide) (fun y hy => absurd hy (by omega)) (fun _ _ => rfl) (Nat.lt_succ_self _) _ _ hP hD hS _ (lv_sub hl [1, 2, 3, 4, 5, 6, 0] rfl)

abbrev r_c_X9_open_d3 : Room := { frames := 5, cells := 0, slots := 0, locals := 129 }
set_option maxHeartbeats 4000000 in
set_option maxRecDepth 100000 in
theorem c_X9_open_d3 (l : Launch) (g : GC) (tl : va_W) (sz : Nat) (σ : SS) (mk cd : Nat) (hA : OkA σ) (h1 : (σ.1 17) ≤ 7) (h2 : 3 ≤ (σ.1 17)) (hm : mk < 32) (hc : cd < 1000) (hd : dsum cd = 3) : Met l yX9_open wsX9_open r_c_X9_open_d3 (va_Pc [.ref (g.2.2.2 30), .ref (g.2.2.2 1), .ref (g.2.2.2 21), .int (nI 3), .int (nI mk), .int (nI cd)] (PW g (wC g σ ++ tl) sz)) (va_Qi (fun (r : Int32) (z : Nat × (Nat → Nat)) => match z with | (b, lt2) => (r = nI (b)) ∧ ((b = 1 ∧ opP (σ.2.1 0) (σ.2.1 15) (σ.1 0) ((σ.1 17) - 3) mk cd ∧ isOp (σ.2.1 0) (σ.2.1 15) (σ.1 0) ((σ.1 17) - 3) mk cd (fun i => lt2 (3 + i))) ∨ (b = 0 ∧ ¬ opP (σ.2.1 0) (σ.2.1 15) (σ.1 0) ((σ.1 17) - 3) mk cd)) ∧ (∀ i, i < 3 → lt2 i = (σ.2.1 19) i)) (fun (z : Nat × (Nat → Nat)) t => BW g (va_A (wC g σ ++ tl) sz) ((fun z : Nat × (Nat → Nat) => match z with | (b, lt2) => wC g (sA σ 19 lt2) ++ tl) z) t) (va_A (wC g σ ++ tl) sz)) 0 0 (va_A (wC g σ ++ tl) sz) := by
  refine jn_sz (wf := fun z : Nat × (Nat → Nat) => match z with | (b, lt2) => wC g (sA σ 19 lt2) ++ tl) (cc := cX9_open) (maxL := 8) (own := RX9) (by decide) rfl rfl (Nat.le_of_ble_eq_true rfl) ?_
  intro p e s m below meth c Q A hx hb hml hown hts hK hP hD hS hAA hq ls hl
  obtain ⟨H, eH⟩ : ∃ z, z = s.heap := ⟨_, rfl⟩
  obtain ⟨locs, el⟩ : ∃ z : List Loc, z = [] := ⟨_, rfl⟩
  rw [← eH] at hP
  have hS : va_S A s.heap H locs := by rw [eH, el]; exact hS
  have goal0 : W p l e r_c_X9_open_d3 s m ([.ref (g.2.2.2 30), .ref (g.2.2.2 1), .ref (g.2.2.2 21), .int (nI 3), .int (nI mk), .int (nI cd)] : List Value).toArray below meth c H locs 0 0 Q (F0 m 0 ls []) → W p l e r_c_X9_open_d3 s m ([.ref (g.2.2.2 30), .ref (g.2.2.2 1), .ref (g.2.2.2 21), .int (nI 3), .int (nI mk), .int (nI cd)] : List Value).toArray below meth c s.heap [] 0 0 Q (F0 m 0 ls []) := fun h => by rw [eH, el] at h; exact h
  refine goal0 ?_
  have hl : lv_has ls 8 [(0, .ref (g.2.2.2 30)), (1, .ref (g.2.2.2 1)), (2, .ref (g.2.2.2 21)), (3, .int (nI 3)), (4, .int (nI mk)), (5, .int (nI cd))] := hl
  have iX9 : ∀ w ∈ wsX90, w ∈ wsX9_open := by decide +kernel
  have k18 := hts (.fieldLink RX9 18 "JumpingAutomata$WordSearch" "length" "I") (by decide +kernel)
  have k9 := hts (.fieldLink RX9 9 "JumpingAutomata$WordSearch" "letters" "[I") (by decide +kernel)
  refine lv_iload_n hx hb dX9_open_0 rfl (lv_at hl 3 rfl) ?_
  refine lv_aload_n hx hb dX9_open_1 rfl (lv_at hl 0 rfl) ?_
  refine va_get (D := (g.1, g.2.1)) (ci := 11) (v := .int (nI (σ.1 17))) (C := RX9) (T := TX9) (N := 7) hx hb hts iX9 hown hK.1 hP 30 (gC30 g σ tl) rfl 2 (by decide) k18 (fun _ h9 => h9) rfl dX9_open_2 ?_
  refine jn_cge hx hb (by decide) (by omega) (tgt := 14) dX9_open_5 (by decide) (fun c_5 => ?_) (fun c_5 => ?_)
  · refine lv_aload_n hx hb dX9_open_14 rfl (lv_at hl 1 rfl) ?_
    refine lv_aload_n hx hb dX9_open_15 rfl (lv_at hl 2 rfl) ?_
    refine lv_iload hx hb dX9_open_16 (lv_at hl 5 rfl) ?_
    have e0 : ((σ.1 17) - 3) = 0 := by omega
    refine vp_callSi (va_Run.run (va_runV (As := [.int (nI cd)]) (rest := [.ref (g.2.2.2 1)]) ⟨hx, hb, hml, hown, hts⟩ (c_X5_at_21 l g tl σ cd (by omega)) (cwV 1 hts gX9_open_X5_at rfl rfl rfl (by decide +kernel) ⟨Nat.le_of_ble_eq_true rfl, Nat.le_of_ble_eq_true rfl⟩) (okPV hK hP rfl (gC21 g σ tl)) rfl rfl hl.1 rfl (lv_room (Nat.le_of_ble_eq_true rfl)) dX9_open_18 ⟨Nat.le_of_ble_eq_true rfl, Nat.le_of_ble_eq_true rfl⟩)) (fun r_18 h_18 => ?_)
    subst h_18
    refine vp_callSi (va_Run.run (va_runV (As := [.int (nI ((σ.2.1 15) cd))]) (rest := []) ⟨hx, hb, hml, hown, hts⟩ (c_X0_accepting l g tl σ ((σ.2.1 15) cd) hA) (cwV 1 hts gX9_open_X0_accepting rfl rfl rfl (by decide +kernel) ⟨Nat.le_of_ble_eq_true rfl, Nat.le_of_ble_eq_true rfl⟩) (okPV hK hP rfl (gC1 g σ tl)) rfl rfl hl.1 rfl (lv_room (Nat.le_of_ble_eq_true rfl)) dX9_open_21 ⟨Nat.le_of_ble_eq_true rfl, Nat.le_of_ble_eq_true rfl⟩)) (fun r_21 h_21 => ?_)
    subst h_21
    refine jn_beq hx hb (tgt := 40) dX9_open_24 (by decide) (fun c_24 => ?_) (fun c_24 => ?_)
    · refine lv_iconst (v := nI 0) hx hb dX9_open_40 (by decide) ?_
      exact hq _ _ _ _ ((nI 0)) (0, (σ.2.1 19)) dX9_open_41 jn_n0 ⟨rfl, by first | exact Or.inl ⟨rfl, by rw [e0]; exact ⟨c_24, c_33⟩, by rw [e0]; trivial⟩ | exact Or.inr ⟨rfl, by rw [e0]; exact fun z => c_24 z.1⟩ | exact Or.inr ⟨rfl, by rw [e0]; exact fun z => z.2 c_33⟩, fun _ _ => rfl⟩ hP hD hS
    · refine lv_aload_n hx hb dX9_open_27 rfl (lv_at hl 1 rfl) ?_
      refine lv_iload hx hb dX9_open_28 (lv_at hl 4 rfl) ?_
      refine vp_callSi (va_Run.run (va_runV (As := [.int (nI mk)]) (rest := []) ⟨hx, hb, hml, hown, hts⟩ (c_X0_accepting l g tl σ mk hA) (cwV 1 hts gX9_open_X0_accepting rfl rfl rfl (by decide +kernel) ⟨Nat.le_of_ble_eq_true rfl, Nat.le_of_ble_eq_true rfl⟩) (okPV hK hP rfl (gC1 g σ tl)) rfl rfl hl.1 rfl (lv_room (Nat.le_of_ble_eq_true rfl)) dX9_open_30 ⟨Nat.le_of_ble_eq_true rfl, Nat.le_of_ble_eq_true rfl⟩)) (fun r_30 h_30 => ?_)
      subst h_30
      refine jn_bne hx hb (tgt := 40) dX9_open_33 (by decide) (fun c_33 => ?_) (fun c_33 => ?_)
      · refine lv_iconst (v := nI 0) hx hb dX9_open_40 (by decide) ?_
        exact hq _ _ _ _ ((nI 0)) (0, (σ.2.1 19)) dX9_open_41 jn_n0 ⟨rfl, by first | exact Or.inl ⟨rfl, by rw [e0]; exact ⟨c_24, c_33⟩, by rw [e0]; trivial⟩ | exact Or.inr ⟨rfl, by rw [e0]; exact fun z => c_24 z.1⟩ | exact Or.inr ⟨rfl, by rw [e0]; exact fun z => z.2 c_33⟩, fun _ _ => rfl⟩ hP hD hS
      · refine lv_iconst (v := nI 1) hx hb dX9_open_36 (by decide) ?_
        refine lv_goto (tgt := 41) hx hb dX9_open_37 (by decide) ?_
        exact hq _ _ _ _ ((nI 1)) (1, (σ.2.1 19)) dX9_open_41 jn_n1 ⟨rfl, by first | exact Or.inl ⟨rfl, by rw [e0]; exact ⟨c_24, c_33⟩, by rw [e0]; trivial⟩ | exact Or.inr ⟨rfl, by rw [e0]; exact fun z => c_24 z.1⟩ | exact Or.inr ⟨rfl, by rw [e0]; exact fun z => z.2 c_33⟩, fun _ _ => rfl⟩ hP hD hS
  · refine lv_iload_n hx hb dX9_open_8 rfl (lv_at hl 3 rfl) ?_
    refine lv_bipush (v := nI 8) hx hb dX9_open_9 (by decide) ?_
    refine jn_clt hx hb (by decide) (by decide) (tgt := 42) dX9_open_11 (by decide) (fun c_11 => ?_) (fun c_11 => absurd c_11 (by decide))
    refine lv_iconst (v := nI 0) hx hb dX9_open_42 (by decide) ?_
    refine lv_istore (lv' := [(6, .int (nI 0)), (0, .ref (g.2.2.2 30)), (1, .ref (g.2.2.2 1)), (2, .ref (g.2.2.2 21)), (3, .int (nI 3)), (4, .int (nI mk)), (5, .int (nI cd))]) hx hb dX9_open_43 hl (by decide) rfl (fun ls hl => ?_)
    have lp45 : ∀ (fu : Nat), ∀ (x0 : Nat) (lt1 : Nat → Nat), (x0 ≤ 3) → (∀ y, y < x0 → ¬ opP (σ.2.1 0) (σ.2.1 15) (σ.1 0) ((σ.1 17) - 4) (stp (σ.2.1 0) y mk) (cd + wt y)) → (∀ i, i < 3 → lt1 i = (σ.2.1 19) i) → 3 - x0 < fu → ∀ (H : Heap) (locs : List Loc), va_P (g.1, g.2.1) vwCl (wC g (sA σ 19 lt1) ++ tl) H → va_D A (wC g (sA σ 19 lt1) ++ tl) → va_S A s.heap H locs → ∀ ls : Array Slot, lv_has ls 8 [(0, .ref (g.2.2.2 30)), (1, .ref (g.2.2.2 1)), (2, .ref (g.2.2.2 21)), (3, .int (nI 3)), (4, .int (nI mk)), (5, .int (nI cd)), (6, .int (nI x0))] → W p l e r_c_X9_open_d3 s m ([.ref (g.2.2.2 30), .ref (g.2.2.2 1), .ref (g.2.2.2 21), .int (nI 3), .int (nI mk), .int (nI cd)] : List Value).toArray below meth c H locs 0 0 Q (F0 m 45 ls []) := by
      intro fu
      induction fu with
      | zero => intro x0 lt1 i1 i2 i4 hf; exact absurd hf (Nat.not_lt_zero _)
      | succ fu ih45 =>
        intro x0 lt1 i1 i2 i4 hf H locs hP hD hS ls hl
        have eK : ((σ.1 17) - 3) = ((σ.1 17) - 4) + 1 := by omega
        refine lv_iload hx hb dX9_open_45 (lv_at hl 6 rfl) ?_
        refine lv_iconst (v := nI 3) hx hb dX9_open_47 (by decide) ?_
        refine jn_cge hx hb (by omega) (by decide) (tgt := 99) dX9_open_48 (by decide) (fun c_48 => ?_) (fun c_48 => ?_)
        · refine lv_iconst (v := nI 0) hx hb dX9_open_99 (by decide) ?_
          exact hq _ _ _ _ ((nI 0)) (0, lt1) dX9_open_100 jn_n0 ⟨rfl, Or.inr ⟨rfl, by rw [eK]; exact op_cases i1 i2 (by omega)⟩, i4⟩ hP hD hS
        · refine lv_aload_n hx hb dX9_open_51 rfl (lv_at hl 0 rfl) ?_
          refine va_get (D := (g.1, g.2.1)) (ci := 11) (v := .ref (g.2.2.2 31)) (C := RX9) (T := TX9) (N := 7) hx hb hts iX9 hown hK.1 hP 30 (gC30 g (sA σ 19 lt1) tl) rfl 0 (by decide) k9 (fun _ h9 => h9) rfl dX9_open_52 ?_
          refine lv_iload_n hx hb dX9_open_55 rfl (lv_at hl 3 rfl) ?_
          refine lv_iload hx hb dX9_open_56 (lv_at hl 6 rfl) ?_
          refine jn_iast (f := lt1) hx hb hK.1 hP hD hS 31 0 (gC31 g (sA σ 19 lt1) tl) rfl (by decide) (Nat.le_of_ble_eq_true rfl) (uC_A19 g (sA σ 19 lt1) tl _) dX9_open_58 (fun H locs hP hD hS => ?_)
          refine lv_aload_n hx hb dX9_open_59 rfl (lv_at hl 1 rfl) ?_
          refine lv_iload hx hb dX9_open_60 (lv_at hl 6 rfl) ?_
          refine lv_iload hx hb dX9_open_62 (lv_at hl 4 rfl) ?_
          refine vp_callSi (va_Run.run (va_runV (As := [.int (nI x0), .int (nI mk)]) (rest := []) ⟨hx, hb, hml, hown, hts⟩ (c_X0_step l g tl (sA (sA σ 19 lt1) 19 (va_up lt1 3 x0)) x0 mk hA (by omega) hm) (cwV 2 hts gX9_open_X0_step rfl rfl rfl (by decide +kernel) ⟨Nat.le_of_ble_eq_true rfl, Nat.le_of_ble_eq_true rfl⟩) (okPV hK hP rfl (gC1 g (sA (sA σ 19 lt1) 19 (va_up lt1 3 x0)) tl)) rfl rfl hl.1 rfl (lv_room (Nat.le_of_ble_eq_true rfl)) dX9_open_64 ⟨Nat.le_of_ble_eq_true rfl, Nat.le_of_ble_eq_true rfl⟩)) (fun r_64 h_64 => ?_)
          have h_64 : r_64 = (nI (stp (σ.2.1 0) x0 mk)) := h_64
          subst h_64
          have st32 : stp (σ.2.1 0) x0 mk < 32 := stp_lt hA.1 (by omega)
          have hdd := dsum_all cd hc (by omega) x0 (by omega)
          refine lv_istore (lv' := [(7, .int (nI (stp (σ.2.1 0) x0 mk))), (0, .ref (g.2.2.2 30)), (1, .ref (g.2.2.2 1)), (2, .ref (g.2.2.2 21)), (3, .int (nI 3)), (4, .int (nI mk)), (5, .int (nI cd)), (6, .int (nI x0))]) hx hb dX9_open_67 hl (by decide) rfl (fun ls hl => ?_)
          refine lv_aload_n hx hb dX9_open_69 rfl (lv_at hl 1 rfl) ?_
          refine lv_aload_n hx hb dX9_open_70 rfl (lv_at hl 2 rfl) ?_
          refine lv_aload_n hx hb dX9_open_71 rfl (lv_at hl 3 rfl) ?_
          refine lv_iload_n hx hb dX9_open_72 rfl (lv_at hl 4 rfl) ?_
          refine lv_iconst (v := nI 1) hx hb dX9_open_73 (by decide) ?_
          refine jn_iadd hx hb dX9_open_74 ?_
          refine lv_iload hx hb dX9_open_75 (lv_at hl 0 rfl) ?_
          refine lv_iload hx hb dX9_open_77 (lv_at hl 6 rfl) ?_
          refine lv_iload hx hb dX9_open_79 (lv_at hl 7 rfl) ?_
          refine vp_callSi (va_Run.run (va_runSN (As := [.int (nI x0)]) (rest := [.int (nI cd), .int (nI (stp (σ.2.1 0) x0 mk)), .int (nI (3 + 1)), .ref (g.2.2.2 21), .ref (g.2.2.2 1), .ref (g.2.2.2 30)]) ⟨hx, hb, hml, hown, hts⟩ (c_X10_weightOf l x0 (by omega)) ⟨(va_cnB 1 hts gX9_open_X10_weightOf_n79 rfl rfl rfl (hK.2 _ (List.mem_of_getElem? (i := 28) rfl)) (hts (.initialized RX10) (by decide +kernel)) (by decide +kernel) ⟨Nat.le_of_ble_eq_true rfl, Nat.le_of_ble_eq_true rfl⟩), hts (.static yX10_weightOf) (by decide +kernel), trivial⟩ okTS rfl rfl hl.1 rfl (lv_room (Nat.le_of_ble_eq_true rfl)) dX9_open_81 ⟨Nat.le_of_ble_eq_true rfl, Nat.le_of_ble_eq_true rfl⟩)) (fun r_81 h_81 => ?_)
          subst h_81
          refine jn_iadd hx hb dX9_open_84 ?_
          refine jn_calli (va_runV (As := [.ref (g.2.2.2 1), .ref (g.2.2.2 21), .int (nI (3 + 1)), .int (nI (stp (σ.2.1 0) x0 mk)), .int (nI (cd + (wt x0)))]) (rest := []) ⟨hx, hb, hml, hown, hts⟩ (c_X9_open_d4 l g tl H.size (sA (sA σ 19 lt1) 19 (va_up lt1 3 x0)) (stp (σ.2.1 0) x0 mk) (cd + (wt x0)) hA h1 (show 4 ≤ (σ.1 17) by omega) st32 hdd.1 (by rw [hdd.2, hd])) (cwV 5 hts gX9_open_X9_open rfl rfl rfl (by decide +kernel) ⟨Nat.le_of_ble_eq_true rfl, Nat.le_of_ble_eq_true rfl⟩) (okWV hK hP hD rfl (gC30 g (sA (sA σ 19 lt1) 19 (va_up lt1 3 x0)) tl)) rfl rfl hl.1 rfl (lv_room (Nat.le_of_ble_eq_true rfl)) dX9_open_85 ⟨Nat.le_of_ble_eq_true rfl, Nat.le_of_ble_eq_true rfl⟩) hD hS hAA (fun r_85 u H locs hw_ hP hD hS => ?_)
          obtain ⟨b_85, lt2_85⟩ := u
          obtain ⟨rfl, h_85⟩ := hw_
          have h_85 : ((b_85 = 1 ∧ opP (σ.2.1 0) (σ.2.1 15) (σ.1 0) ((σ.1 17) - 4) (stp (σ.2.1 0) x0 mk) (cd + (wt x0)) ∧ isOp (σ.2.1 0) (σ.2.1 15) (σ.1 0) ((σ.1 17) - 4) (stp (σ.2.1 0) x0 mk) (cd + (wt x0)) (fun i => lt2_85 (4 + i))) ∨ (b_85 = 0 ∧ ¬ opP (σ.2.1 0) (σ.2.1 15) (σ.1 0) ((σ.1 17) - 4) (stp (σ.2.1 0) x0 mk) (cd + (wt x0)))) ∧ (∀ i, i < 4 → lt2_85 i = ((va_up lt1 3 x0)) i) := h_85
          have hP : va_P (g.1, g.2.1) vwCl (wC g (sA (sA (sA σ 19 lt1) 19 (va_up lt1 3 x0)) 19 lt2_85) ++ tl) H := hP
          have hD : va_D A (wC g (sA (sA (sA σ 19 lt1) 19 (va_up lt1 3 x0)) 19 lt2_85) ++ tl) := hD
          have hb12 : b_85 = 1 ∨ b_85 = 0 := h_85.1.imp (fun z => z.1) (fun z => z.1)
          refine jn_zeq hx hb (by omega) (tgt := 93) dX9_open_88 (by decide) (fun c_88 => ?_) (fun c_88 => ?_)
          · have hr := h_85.1.resolve_left (fun z => by have := z.1; omega)
            refine lv_iinc (v := nI (x0 + 1)) (lv' := [(6, .int (nI (x0 + 1))), (7, .int (nI (stp (σ.2.1 0) x0 mk))), (0, .ref (g.2.2.2 30)), (1, .ref (g.2.2.2 1)), (2, .ref (g.2.2.2 21)), (3, .int (nI 3)), (4, .int (nI mk)), (5, .int (nI cd))]) hx hb dX9_open_93 hl (k := 7) rfl (jn_ii _ 1) (by decide) rfl (fun ls hl => ?_)
            refine lv_goto (tgt := 45) hx hb dX9_open_96 (by decide) ?_
            exact ih45 (x0 + 1) lt2_85 (by omega) (fun y hy => by rcases Nat.lt_or_ge y x0 with q | q; { exact i2 y q }; { rw [show y = x0 by omega]; exact hr.2 }) (fun i hi => by rw [h_85.2 i (by omega), va_up, if_neg (by omega)]; exact i4 i hi) (by omega) _ _ hP hD hS _ (lv_sub hl [2, 3, 4, 5, 6, 7, 0] rfl)
          · have hr := h_85.1.resolve_right (fun z => by have := z.1; omega)
            refine lv_iconst (v := nI 1) hx hb dX9_open_91 (by decide) ?_
            exact hq _ _ _ _ ((nI 1)) (1, lt2_85) dX9_open_92 jn_n1 ⟨rfl, Or.inl ⟨rfl, by rw [eK]; exact ⟨x0, by omega, hr.2.1⟩, by rw [eK]; exact ⟨x0, by omega, i2, hr.2.1, by show lt2_85 3 = x0; rw [h_85.2 3 (by omega), va_up, if_pos rfl], isOp_cong _ _ _ _ _ _ _ _ (fun i _ => by show lt2_85 (4 + i) = lt2_85 (3 + (i + 1)); rw [show 4 + i = 3 + (i + 1) by omega]) hr.2.2⟩⟩, fun i hi => by rw [h_85.2 i (by omega), va_up, if_neg (by omega)]; exact i4 i hi⟩ hP hD hS
    exact lp45 _ 0 (σ.2.1 19) (by decide) (fun y hy => absurd hy (by omega)) (fun _ _ => rfl) (Nat.lt_succ_self _) _ _ hP hD hS _ (lv_sub hl [1, 2, 3, 4, 5, 6, 0] rfl)

abbrev r_c_X9_open_d2 : Room := { frames := 6, cells := 0, slots := 0, locals := 156 }
set_option maxHeartbeats 4000000 in
set_option maxRecDepth 100000 in
theorem c_X9_open_d2 (l : Launch) (g : GC) (tl : va_W) (sz : Nat) (σ : SS) (mk cd : Nat) (hA : OkA σ) (h1 : (σ.1 17) ≤ 7) (h2 : 2 ≤ (σ.1 17)) (hm : mk < 32) (hc : cd < 1000) (hd : dsum cd = 2) : Met l yX9_open wsX9_open r_c_X9_open_d2 (va_Pc [.ref (g.2.2.2 30), .ref (g.2.2.2 1), .ref (g.2.2.2 21), .int (nI 2), .int (nI mk), .int (nI cd)] (PW g (wC g σ ++ tl) sz)) (va_Qi (fun (r : Int32) (z : Nat × (Nat → Nat)) => match z with | (b, lt2) => (r = nI (b)) ∧ ((b = 1 ∧ opP (σ.2.1 0) (σ.2.1 15) (σ.1 0) ((σ.1 17) - 2) mk cd ∧ isOp (σ.2.1 0) (σ.2.1 15) (σ.1 0) ((σ.1 17) - 2) mk cd (fun i => lt2 (2 + i))) ∨ (b = 0 ∧ ¬ opP (σ.2.1 0) (σ.2.1 15) (σ.1 0) ((σ.1 17) - 2) mk cd)) ∧ (∀ i, i < 2 → lt2 i = (σ.2.1 19) i)) (fun (z : Nat × (Nat → Nat)) t => BW g (va_A (wC g σ ++ tl) sz) ((fun z : Nat × (Nat → Nat) => match z with | (b, lt2) => wC g (sA σ 19 lt2) ++ tl) z) t) (va_A (wC g σ ++ tl) sz)) 0 0 (va_A (wC g σ ++ tl) sz) := by
  refine jn_sz (wf := fun z : Nat × (Nat → Nat) => match z with | (b, lt2) => wC g (sA σ 19 lt2) ++ tl) (cc := cX9_open) (maxL := 8) (own := RX9) (by decide) rfl rfl (Nat.le_of_ble_eq_true rfl) ?_
  intro p e s m below meth c Q A hx hb hml hown hts hK hP hD hS hAA hq ls hl
  obtain ⟨H, eH⟩ : ∃ z, z = s.heap := ⟨_, rfl⟩
  obtain ⟨locs, el⟩ : ∃ z : List Loc, z = [] := ⟨_, rfl⟩
  rw [← eH] at hP
  have hS : va_S A s.heap H locs := by rw [eH, el]; exact hS
  have goal0 : W p l e r_c_X9_open_d2 s m ([.ref (g.2.2.2 30), .ref (g.2.2.2 1), .ref (g.2.2.2 21), .int (nI 2), .int (nI mk), .int (nI cd)] : List Value).toArray below meth c H locs 0 0 Q (F0 m 0 ls []) → W p l e r_c_X9_open_d2 s m ([.ref (g.2.2.2 30), .ref (g.2.2.2 1), .ref (g.2.2.2 21), .int (nI 2), .int (nI mk), .int (nI cd)] : List Value).toArray below meth c s.heap [] 0 0 Q (F0 m 0 ls []) := fun h => by rw [eH, el] at h; exact h
  refine goal0 ?_
  have hl : lv_has ls 8 [(0, .ref (g.2.2.2 30)), (1, .ref (g.2.2.2 1)), (2, .ref (g.2.2.2 21)), (3, .int (nI 2)), (4, .int (nI mk)), (5, .int (nI cd))] := hl
  have iX9 : ∀ w ∈ wsX90, w ∈ wsX9_open := by decide +kernel
  have k18 := hts (.fieldLink RX9 18 "JumpingAutomata$WordSearch" "length" "I") (by decide +kernel)
  have k9 := hts (.fieldLink RX9 9 "JumpingAutomata$WordSearch" "letters" "[I") (by decide +kernel)
  refine lv_iload_n hx hb dX9_open_0 rfl (lv_at hl 3 rfl) ?_
  refine lv_aload_n hx hb dX9_open_1 rfl (lv_at hl 0 rfl) ?_
  refine va_get (D := (g.1, g.2.1)) (ci := 11) (v := .int (nI (σ.1 17))) (C := RX9) (T := TX9) (N := 7) hx hb hts iX9 hown hK.1 hP 30 (gC30 g σ tl) rfl 2 (by decide) k18 (fun _ h9 => h9) rfl dX9_open_2 ?_
  refine jn_cge hx hb (by decide) (by omega) (tgt := 14) dX9_open_5 (by decide) (fun c_5 => ?_) (fun c_5 => ?_)
  · refine lv_aload_n hx hb dX9_open_14 rfl (lv_at hl 1 rfl) ?_
    refine lv_aload_n hx hb dX9_open_15 rfl (lv_at hl 2 rfl) ?_
    refine lv_iload hx hb dX9_open_16 (lv_at hl 5 rfl) ?_
    have e0 : ((σ.1 17) - 2) = 0 := by omega
    refine vp_callSi (va_Run.run (va_runV (As := [.int (nI cd)]) (rest := [.ref (g.2.2.2 1)]) ⟨hx, hb, hml, hown, hts⟩ (c_X5_at_21 l g tl σ cd (by omega)) (cwV 1 hts gX9_open_X5_at rfl rfl rfl (by decide +kernel) ⟨Nat.le_of_ble_eq_true rfl, Nat.le_of_ble_eq_true rfl⟩) (okPV hK hP rfl (gC21 g σ tl)) rfl rfl hl.1 rfl (lv_room (Nat.le_of_ble_eq_true rfl)) dX9_open_18 ⟨Nat.le_of_ble_eq_true rfl, Nat.le_of_ble_eq_true rfl⟩)) (fun r_18 h_18 => ?_)
    subst h_18
    refine vp_callSi (va_Run.run (va_runV (As := [.int (nI ((σ.2.1 15) cd))]) (rest := []) ⟨hx, hb, hml, hown, hts⟩ (c_X0_accepting l g tl σ ((σ.2.1 15) cd) hA) (cwV 1 hts gX9_open_X0_accepting rfl rfl rfl (by decide +kernel) ⟨Nat.le_of_ble_eq_true rfl, Nat.le_of_ble_eq_true rfl⟩) (okPV hK hP rfl (gC1 g σ tl)) rfl rfl hl.1 rfl (lv_room (Nat.le_of_ble_eq_true rfl)) dX9_open_21 ⟨Nat.le_of_ble_eq_true rfl, Nat.le_of_ble_eq_true rfl⟩)) (fun r_21 h_21 => ?_)
    subst h_21
    refine jn_beq hx hb (tgt := 40) dX9_open_24 (by decide) (fun c_24 => ?_) (fun c_24 => ?_)
    · refine lv_iconst (v := nI 0) hx hb dX9_open_40 (by decide) ?_
      exact hq _ _ _ _ ((nI 0)) (0, (σ.2.1 19)) dX9_open_41 jn_n0 ⟨rfl, by first | exact Or.inl ⟨rfl, by rw [e0]; exact ⟨c_24, c_33⟩, by rw [e0]; trivial⟩ | exact Or.inr ⟨rfl, by rw [e0]; exact fun z => c_24 z.1⟩ | exact Or.inr ⟨rfl, by rw [e0]; exact fun z => z.2 c_33⟩, fun _ _ => rfl⟩ hP hD hS
    · refine lv_aload_n hx hb dX9_open_27 rfl (lv_at hl 1 rfl) ?_
      refine lv_iload hx hb dX9_open_28 (lv_at hl 4 rfl) ?_
      refine vp_callSi (va_Run.run (va_runV (As := [.int (nI mk)]) (rest := []) ⟨hx, hb, hml, hown, hts⟩ (c_X0_accepting l g tl σ mk hA) (cwV 1 hts gX9_open_X0_accepting rfl rfl rfl (by decide +kernel) ⟨Nat.le_of_ble_eq_true rfl, Nat.le_of_ble_eq_true rfl⟩) (okPV hK hP rfl (gC1 g σ tl)) rfl rfl hl.1 rfl (lv_room (Nat.le_of_ble_eq_true rfl)) dX9_open_30 ⟨Nat.le_of_ble_eq_true rfl, Nat.le_of_ble_eq_true rfl⟩)) (fun r_30 h_30 => ?_)
      subst h_30
      refine jn_bne hx hb (tgt := 40) dX9_open_33 (by decide) (fun c_33 => ?_) (fun c_33 => ?_)
      · refine lv_iconst (v := nI 0) hx hb dX9_open_40 (by decide) ?_
        exact hq _ _ _ _ ((nI 0)) (0, (σ.2.1 19)) dX9_open_41 jn_n0 ⟨rfl, by first | exact Or.inl ⟨rfl, by rw [e0]; exact ⟨c_24, c_33⟩, by rw [e0]; trivial⟩ | exact Or.inr ⟨rfl, by rw [e0]; exact fun z => c_24 z.1⟩ | exact Or.inr ⟨rfl, by rw [e0]; exact fun z => z.2 c_33⟩, fun _ _ => rfl⟩ hP hD hS
      · refine lv_iconst (v := nI 1) hx hb dX9_open_36 (by decide) ?_
        refine lv_goto (tgt := 41) hx hb dX9_open_37 (by decide) ?_
        exact hq _ _ _ _ ((nI 1)) (1, (σ.2.1 19)) dX9_open_41 jn_n1 ⟨rfl, by first | exact Or.inl ⟨rfl, by rw [e0]; exact ⟨c_24, c_33⟩, by rw [e0]; trivial⟩ | exact Or.inr ⟨rfl, by rw [e0]; exact fun z => c_24 z.1⟩ | exact Or.inr ⟨rfl, by rw [e0]; exact fun z => z.2 c_33⟩, fun _ _ => rfl⟩ hP hD hS
  · refine lv_iload_n hx hb dX9_open_8 rfl (lv_at hl 3 rfl) ?_
    refine lv_bipush (v := nI 8) hx hb dX9_open_9 (by decide) ?_
    refine jn_clt hx hb (by decide) (by decide) (tgt := 42) dX9_open_11 (by decide) (fun c_11 => ?_) (fun c_11 => absurd c_11 (by decide))
    refine lv_iconst (v := nI 0) hx hb dX9_open_42 (by decide) ?_
    refine lv_istore (lv' := [(6, .int (nI 0)), (0, .ref (g.2.2.2 30)), (1, .ref (g.2.2.2 1)), (2, .ref (g.2.2.2 21)), (3, .int (nI 2)), (4, .int (nI mk)), (5, .int (nI cd))]) hx hb dX9_open_43 hl (by decide) rfl (fun ls hl => ?_)
    have lp45 : ∀ (fu : Nat), ∀ (x0 : Nat) (lt1 : Nat → Nat), (x0 ≤ 3) → (∀ y, y < x0 → ¬ opP (σ.2.1 0) (σ.2.1 15) (σ.1 0) ((σ.1 17) - 3) (stp (σ.2.1 0) y mk) (cd + wt y)) → (∀ i, i < 2 → lt1 i = (σ.2.1 19) i) → 3 - x0 < fu → ∀ (H : Heap) (locs : List Loc), va_P (g.1, g.2.1) vwCl (wC g (sA σ 19 lt1) ++ tl) H → va_D A (wC g (sA σ 19 lt1) ++ tl) → va_S A s.heap H locs → ∀ ls : Array Slot, lv_has ls 8 [(0, .ref (g.2.2.2 30)), (1, .ref (g.2.2.2 1)), (2, .ref (g.2.2.2 21)), (3, .int (nI 2)), (4, .int (nI mk)), (5, .int (nI cd)), (6, .int (nI x0))] → W p l e r_c_X9_open_d2 s m ([.ref (g.2.2.2 30), .ref (g.2.2.2 1), .ref (g.2.2.2 21), .int (nI 2), .int (nI mk), .int (nI cd)] : List Value).toArray below meth c H locs 0 0 Q (F0 m 45 ls []) := by
      intro fu
      induction fu with
      | zero => intro x0 lt1 i1 i2 i4 hf; exact absurd hf (Nat.not_lt_zero _)
      | succ fu ih45 =>
        intro x0 lt1 i1 i2 i4 hf H locs hP hD hS ls hl
        have eK : ((σ.1 17) - 2) = ((σ.1 17) - 3) + 1 := by omega
        refine lv_iload hx hb dX9_open_45 (lv_at hl 6 rfl) ?_
        refine lv_iconst (v := nI 3) hx hb dX9_open_47 (by decide) ?_
        refine jn_cge hx hb (by omega) (by decide) (tgt := 99) dX9_open_48 (by decide) (fun c_48 => ?_) (fun c_48 => ?_)
        · refine lv_iconst (v := nI 0) hx hb dX9_open_99 (by decide) ?_
          exact hq _ _ _ _ ((nI 0)) (0, lt1) dX9_open_100 jn_n0 ⟨rfl, Or.inr ⟨rfl, by rw [eK]; exact op_cases i1 i2 (by omega)⟩, i4⟩ hP hD hS
        · refine lv_aload_n hx hb dX9_open_51 rfl (lv_at hl 0 rfl) ?_
          refine va_get (D := (g.1, g.2.1)) (ci := 11) (v := .ref (g.2.2.2 31)) (C := RX9) (T := TX9) (N := 7) hx hb hts iX9 hown hK.1 hP 30 (gC30 g (sA σ 19 lt1) tl) rfl 0 (by decide) k9 (fun _ h9 => h9) rfl dX9_open_52 ?_
          refine lv_iload_n hx hb dX9_open_55 rfl (lv_at hl 3 rfl) ?_
          refine lv_iload hx hb dX9_open_56 (lv_at hl 6 rfl) ?_
          refine jn_iast (f := lt1) hx hb hK.1 hP hD hS 31 0 (gC31 g (sA σ 19 lt1) tl) rfl (by decide) (Nat.le_of_ble_eq_true rfl) (uC_A19 g (sA σ 19 lt1) tl _) dX9_open_58 (fun H locs hP hD hS => ?_)
          refine lv_aload_n hx hb dX9_open_59 rfl (lv_at hl 1 rfl) ?_
          refine lv_iload hx hb dX9_open_60 (lv_at hl 6 rfl) ?_
          refine lv_iload hx hb dX9_open_62 (lv_at hl 4 rfl) ?_
          refine vp_callSi (va_Run.run (va_runV (As := [.int (nI x0), .int (nI mk)]) (rest := []) ⟨hx, hb, hml, hown, hts⟩ (c_X0_step l g tl (sA (sA σ 19 lt1) 19 (va_up lt1 2 x0)) x0 mk hA (by omega) hm) (cwV 2 hts gX9_open_X0_step rfl rfl rfl (by decide +kernel) ⟨Nat.le_of_ble_eq_true rfl, Nat.le_of_ble_eq_true rfl⟩) (okPV hK hP rfl (gC1 g (sA (sA σ 19 lt1) 19 (va_up lt1 2 x0)) tl)) rfl rfl hl.1 rfl (lv_room (Nat.le_of_ble_eq_true rfl)) dX9_open_64 ⟨Nat.le_of_ble_eq_true rfl, Nat.le_of_ble_eq_true rfl⟩)) (fun r_64 h_64 => ?_)
          have h_64 : r_64 = (nI (stp (σ.2.1 0) x0 mk)) := h_64
          subst h_64
          have st32 : stp (σ.2.1 0) x0 mk < 32 := stp_lt hA.1 (by omega)
          have hdd := dsum_all cd hc (by omega) x0 (by omega)
          refine lv_istore (lv' := [(7, .int (nI (stp (σ.2.1 0) x0 mk))), (0, .ref (g.2.2.2 30)), (1, .ref (g.2.2.2 1)), (2, .ref (g.2.2.2 21)), (3, .int (nI 2)), (4, .int (nI mk)), (5, .int (nI cd)), (6, .int (nI x0))]) hx hb dX9_open_67 hl (by decide) rfl (fun ls hl => ?_)
          refine lv_aload_n hx hb dX9_open_69 rfl (lv_at hl 1 rfl) ?_
          refine lv_aload_n hx hb dX9_open_70 rfl (lv_at hl 2 rfl) ?_
          refine lv_aload_n hx hb dX9_open_71 rfl (lv_at hl 3 rfl) ?_
          refine lv_iload_n hx hb dX9_open_72 rfl (lv_at hl 4 rfl) ?_
          refine lv_iconst (v := nI 1) hx hb dX9_open_73 (by decide) ?_
          refine jn_iadd hx hb dX9_open_74 ?_
          refine lv_iload hx hb dX9_open_75 (lv_at hl 0 rfl) ?_
          refine lv_iload hx hb dX9_open_77 (lv_at hl 6 rfl) ?_
          refine lv_iload hx hb dX9_open_79 (lv_at hl 7 rfl) ?_
          refine vp_callSi (va_Run.run (va_runSN (As := [.int (nI x0)]) (rest := [.int (nI cd), .int (nI (stp (σ.2.1 0) x0 mk)), .int (nI (2 + 1)), .ref (g.2.2.2 21), .ref (g.2.2.2 1), .ref (g.2.2.2 30)]) ⟨hx, hb, hml, hown, hts⟩ (c_X10_weightOf l x0 (by omega)) ⟨(va_cnB 1 hts gX9_open_X10_weightOf_n79 rfl rfl rfl (hK.2 _ (List.mem_of_getElem? (i := 28) rfl)) (hts (.initialized RX10) (by decide +kernel)) (by decide +kernel) ⟨Nat.le_of_ble_eq_true rfl, Nat.le_of_ble_eq_true rfl⟩), hts (.static yX10_weightOf) (by decide +kernel), trivial⟩ okTS rfl rfl hl.1 rfl (lv_room (Nat.le_of_ble_eq_true rfl)) dX9_open_81 ⟨Nat.le_of_ble_eq_true rfl, Nat.le_of_ble_eq_true rfl⟩)) (fun r_81 h_81 => ?_)
          subst h_81
          refine jn_iadd hx hb dX9_open_84 ?_
          refine jn_calli (va_runV (As := [.ref (g.2.2.2 1), .ref (g.2.2.2 21), .int (nI (2 + 1)), .int (nI (stp (σ.2.1 0) x0 mk)), .int (nI (cd + (wt x0)))]) (rest := []) ⟨hx, hb, hml, hown, hts⟩ (c_X9_open_d3 l g tl H.size (sA (sA σ 19 lt1) 19 (va_up lt1 2 x0)) (stp (σ.2.1 0) x0 mk) (cd + (wt x0)) hA h1 (show 3 ≤ (σ.1 17) by omega) st32 hdd.1 (by rw [hdd.2, hd])) (cwV 5 hts gX9_open_X9_open rfl rfl rfl (by decide +kernel) ⟨Nat.le_of_ble_eq_true rfl, Nat.le_of_ble_eq_true rfl⟩) (okWV hK hP hD rfl (gC30 g (sA (sA σ 19 lt1) 19 (va_up lt1 2 x0)) tl)) rfl rfl hl.1 rfl (lv_room (Nat.le_of_ble_eq_true rfl)) dX9_open_85 ⟨Nat.le_of_ble_eq_true rfl, Nat.le_of_ble_eq_true rfl⟩) hD hS hAA (fun r_85 u H locs hw_ hP hD hS => ?_)
          obtain ⟨b_85, lt2_85⟩ := u
          obtain ⟨rfl, h_85⟩ := hw_
          have h_85 : ((b_85 = 1 ∧ opP (σ.2.1 0) (σ.2.1 15) (σ.1 0) ((σ.1 17) - 3) (stp (σ.2.1 0) x0 mk) (cd + (wt x0)) ∧ isOp (σ.2.1 0) (σ.2.1 15) (σ.1 0) ((σ.1 17) - 3) (stp (σ.2.1 0) x0 mk) (cd + (wt x0)) (fun i => lt2_85 (3 + i))) ∨ (b_85 = 0 ∧ ¬ opP (σ.2.1 0) (σ.2.1 15) (σ.1 0) ((σ.1 17) - 3) (stp (σ.2.1 0) x0 mk) (cd + (wt x0)))) ∧ (∀ i, i < 3 → lt2_85 i = ((va_up lt1 2 x0)) i) := h_85
          have hP : va_P (g.1, g.2.1) vwCl (wC g (sA (sA (sA σ 19 lt1) 19 (va_up lt1 2 x0)) 19 lt2_85) ++ tl) H := hP
          have hD : va_D A (wC g (sA (sA (sA σ 19 lt1) 19 (va_up lt1 2 x0)) 19 lt2_85) ++ tl) := hD
          have hb12 : b_85 = 1 ∨ b_85 = 0 := h_85.1.imp (fun z => z.1) (fun z => z.1)
          refine jn_zeq hx hb (by omega) (tgt := 93) dX9_open_88 (by decide) (fun c_88 => ?_) (fun c_88 => ?_)
          · have hr := h_85.1.resolve_left (fun z => by have := z.1; omega)
            refine lv_iinc (v := nI (x0 + 1)) (lv' := [(6, .int (nI (x0 + 1))), (7, .int (nI (stp (σ.2.1 0) x0 mk))), (0, .ref (g.2.2.2 30)), (1, .ref (g.2.2.2 1)), (2, .ref (g.2.2.2 21)), (3, .int (nI 2)), (4, .int (nI mk)), (5, .int (nI cd))]) hx hb dX9_open_93 hl (k := 7) rfl (jn_ii _ 1) (by decide) rfl (fun ls hl => ?_)
            refine lv_goto (tgt := 45) hx hb dX9_open_96 (by decide) ?_
            exact ih45 (x0 + 1) lt2_85 (by omega) (fun y hy => by rcases Nat.lt_or_ge y x0 with q | q; { exact i2 y q }; { rw [show y = x0 by omega]; exact hr.2 }) (fun i hi => by rw [h_85.2 i (by omega), va_up, if_neg (by omega)]; exact i4 i hi) (by omega) _ _ hP hD hS _ (lv_sub hl [2, 3, 4, 5, 6, 7, 0] rfl)
          · have hr := h_85.1.resolve_right (fun z => by have := z.1; omega)
            refine lv_iconst (v := nI 1) hx hb dX9_open_91 (by decide) ?_
            exact hq _ _ _ _ ((nI 1)) (1, lt2_85) dX9_open_92 jn_n1 ⟨rfl, Or.inl ⟨rfl, by rw [eK]; exact ⟨x0, by omega, hr.2.1⟩, by rw [eK]; exact ⟨x0, by omega, i2, hr.2.1, by show lt2_85 2 = x0; rw [h_85.2 2 (by omega), va_up, if_pos rfl], isOp_cong _ _ _ _ _ _ _ _ (fun i _ => by show lt2_85 (3 + i) = lt2_85 (2 + (i + 1)); rw [show 3 + i = 2 + (i + 1) by omega]) hr.2.2⟩⟩, fun i hi => by rw [h_85.2 i (by omega), va_up, if_neg (by omega)]; exact i4 i hi⟩ hP hD hS
    exact lp45 _ 0 (σ.2.1 19) (by decide) (fun y hy => absurd hy (by omega)) (fun _ _ => rfl) (Nat.lt_succ_self _) _ _ hP hD hS _ (lv_sub hl [1, 2, 3, 4, 5, 6, 0] rfl)

abbrev r_c_X9_open_d1 : Room := { frames := 7, cells := 0, slots := 0, locals := 183 }
set_option maxHeartbeats 4000000 in
set_option maxRecDepth 100000 in
theorem c_X9_open_d1 (l : Launch) (g : GC) (tl : va_W) (sz : Nat) (σ : SS) (mk cd : Nat) (hA : OkA σ) (h1 : (σ.1 17) ≤ 7) (h2 : 1 ≤ (σ.1 17)) (hm : mk < 32) (hc : cd < 1000) (hd : dsum cd = 1) : Met l yX9_open wsX9_open r_c_X9_open_d1 (va_Pc [.ref (g.2.2.2 30), .ref (g.2.2.2 1), .ref (g.2.2.2 21), .int (nI 1), .int (nI mk), .int (nI cd)] (PW g (wC g σ ++ tl) sz)) (va_Qi (fun (r : Int32) (z : Nat × (Nat → Nat)) => match z with | (b, lt2) => (r = nI (b)) ∧ ((b = 1 ∧ opP (σ.2.1 0) (σ.2.1 15) (σ.1 0) ((σ.1 17) - 1) mk cd ∧ isOp (σ.2.1 0) (σ.2.1 15) (σ.1 0) ((σ.1 17) - 1) mk cd (fun i => lt2 (1 + i))) ∨ (b = 0 ∧ ¬ opP (σ.2.1 0) (σ.2.1 15) (σ.1 0) ((σ.1 17) - 1) mk cd)) ∧ (∀ i, i < 1 → lt2 i = (σ.2.1 19) i)) (fun (z : Nat × (Nat → Nat)) t => BW g (va_A (wC g σ ++ tl) sz) ((fun z : Nat × (Nat → Nat) => match z with | (b, lt2) => wC g (sA σ 19 lt2) ++ tl) z) t) (va_A (wC g σ ++ tl) sz)) 0 0 (va_A (wC g σ ++ tl) sz) := by
  refine jn_sz (wf := fun z : Nat × (Nat → Nat) => match z with | (b, lt2) => wC g (sA σ 19 lt2) ++ tl) (cc := cX9_open) (maxL := 8) (own := RX9) (by decide) rfl rfl (Nat.le_of_ble_eq_true rfl) ?_
  intro p e s m below meth c Q A hx hb hml hown hts hK hP hD hS hAA hq ls hl
  obtain ⟨H, eH⟩ : ∃ z, z = s.heap := ⟨_, rfl⟩
  obtain ⟨locs, el⟩ : ∃ z : List Loc, z = [] := ⟨_, rfl⟩
  rw [← eH] at hP
  have hS : va_S A s.heap H locs := by rw [eH, el]; exact hS
  have goal0 : W p l e r_c_X9_open_d1 s m ([.ref (g.2.2.2 30), .ref (g.2.2.2 1), .ref (g.2.2.2 21), .int (nI 1), .int (nI mk), .int (nI cd)] : List Value).toArray below meth c H locs 0 0 Q (F0 m 0 ls []) → W p l e r_c_X9_open_d1 s m ([.ref (g.2.2.2 30), .ref (g.2.2.2 1), .ref (g.2.2.2 21), .int (nI 1), .int (nI mk), .int (nI cd)] : List Value).toArray below meth c s.heap [] 0 0 Q (F0 m 0 ls []) := fun h => by rw [eH, el] at h; exact h
  refine goal0 ?_
  have hl : lv_has ls 8 [(0, .ref (g.2.2.2 30)), (1, .ref (g.2.2.2 1)), (2, .ref (g.2.2.2 21)), (3, .int (nI 1)), (4, .int (nI mk)), (5, .int (nI cd))] := hl
  have iX9 : ∀ w ∈ wsX90, w ∈ wsX9_open := by decide +kernel
  have k18 := hts (.fieldLink RX9 18 "JumpingAutomata$WordSearch" "length" "I") (by decide +kernel)
  have k9 := hts (.fieldLink RX9 9 "JumpingAutomata$WordSearch" "letters" "[I") (by decide +kernel)
  refine lv_iload_n hx hb dX9_open_0 rfl (lv_at hl 3 rfl) ?_
  refine lv_aload_n hx hb dX9_open_1 rfl (lv_at hl 0 rfl) ?_
  refine va_get (D := (g.1, g.2.1)) (ci := 11) (v := .int (nI (σ.1 17))) (C := RX9) (T := TX9) (N := 7) hx hb hts iX9 hown hK.1 hP 30 (gC30 g σ tl) rfl 2 (by decide) k18 (fun _ h9 => h9) rfl dX9_open_2 ?_
  refine jn_cge hx hb (by decide) (by omega) (tgt := 14) dX9_open_5 (by decide) (fun c_5 => ?_) (fun c_5 => ?_)
  · refine lv_aload_n hx hb dX9_open_14 rfl (lv_at hl 1 rfl) ?_
    refine lv_aload_n hx hb dX9_open_15 rfl (lv_at hl 2 rfl) ?_
    refine lv_iload hx hb dX9_open_16 (lv_at hl 5 rfl) ?_
    have e0 : ((σ.1 17) - 1) = 0 := by omega
    refine vp_callSi (va_Run.run (va_runV (As := [.int (nI cd)]) (rest := [.ref (g.2.2.2 1)]) ⟨hx, hb, hml, hown, hts⟩ (c_X5_at_21 l g tl σ cd (by omega)) (cwV 1 hts gX9_open_X5_at rfl rfl rfl (by decide +kernel) ⟨Nat.le_of_ble_eq_true rfl, Nat.le_of_ble_eq_true rfl⟩) (okPV hK hP rfl (gC21 g σ tl)) rfl rfl hl.1 rfl (lv_room (Nat.le_of_ble_eq_true rfl)) dX9_open_18 ⟨Nat.le_of_ble_eq_true rfl, Nat.le_of_ble_eq_true rfl⟩)) (fun r_18 h_18 => ?_)
    subst h_18
    refine vp_callSi (va_Run.run (va_runV (As := [.int (nI ((σ.2.1 15) cd))]) (rest := []) ⟨hx, hb, hml, hown, hts⟩ (c_X0_accepting l g tl σ ((σ.2.1 15) cd) hA) (cwV 1 hts gX9_open_X0_accepting rfl rfl rfl (by decide +kernel) ⟨Nat.le_of_ble_eq_true rfl, Nat.le_of_ble_eq_true rfl⟩) (okPV hK hP rfl (gC1 g σ tl)) rfl rfl hl.1 rfl (lv_room (Nat.le_of_ble_eq_true rfl)) dX9_open_21 ⟨Nat.le_of_ble_eq_true rfl, Nat.le_of_ble_eq_true rfl⟩)) (fun r_21 h_21 => ?_)
    subst h_21
    refine jn_beq hx hb (tgt := 40) dX9_open_24 (by decide) (fun c_24 => ?_) (fun c_24 => ?_)
    · refine lv_iconst (v := nI 0) hx hb dX9_open_40 (by decide) ?_
      exact hq _ _ _ _ ((nI 0)) (0, (σ.2.1 19)) dX9_open_41 jn_n0 ⟨rfl, by first | exact Or.inl ⟨rfl, by rw [e0]; exact ⟨c_24, c_33⟩, by rw [e0]; trivial⟩ | exact Or.inr ⟨rfl, by rw [e0]; exact fun z => c_24 z.1⟩ | exact Or.inr ⟨rfl, by rw [e0]; exact fun z => z.2 c_33⟩, fun _ _ => rfl⟩ hP hD hS
    · refine lv_aload_n hx hb dX9_open_27 rfl (lv_at hl 1 rfl) ?_
      refine lv_iload hx hb dX9_open_28 (lv_at hl 4 rfl) ?_
      refine vp_callSi (va_Run.run (va_runV (As := [.int (nI mk)]) (rest := []) ⟨hx, hb, hml, hown, hts⟩ (c_X0_accepting l g tl σ mk hA) (cwV 1 hts gX9_open_X0_accepting rfl rfl rfl (by decide +kernel) ⟨Nat.le_of_ble_eq_true rfl, Nat.le_of_ble_eq_true rfl⟩) (okPV hK hP rfl (gC1 g σ tl)) rfl rfl hl.1 rfl (lv_room (Nat.le_of_ble_eq_true rfl)) dX9_open_30 ⟨Nat.le_of_ble_eq_true rfl, Nat.le_of_ble_eq_true rfl⟩)) (fun r_30 h_30 => ?_)
      subst h_30
      refine jn_bne hx hb (tgt := 40) dX9_open_33 (by decide) (fun c_33 => ?_) (fun c_33 => ?_)
      · refine lv_iconst (v := nI 0) hx hb dX9_open_40 (by decide) ?_
        exact hq _ _ _ _ ((nI 0)) (0, (σ.2.1 19)) dX9_open_41 jn_n0 ⟨rfl, by first | exact Or.inl ⟨rfl, by rw [e0]; exact ⟨c_24, c_33⟩, by rw [e0]; trivial⟩ | exact Or.inr ⟨rfl, by rw [e0]; exact fun z => c_24 z.1⟩ | exact Or.inr ⟨rfl, by rw [e0]; exact fun z => z.2 c_33⟩, fun _ _ => rfl⟩ hP hD hS
      · refine lv_iconst (v := nI 1) hx hb dX9_open_36 (by decide) ?_
        refine lv_goto (tgt := 41) hx hb dX9_open_37 (by decide) ?_
        exact hq _ _ _ _ ((nI 1)) (1, (σ.2.1 19)) dX9_open_41 jn_n1 ⟨rfl, by first | exact Or.inl ⟨rfl, by rw [e0]; exact ⟨c_24, c_33⟩, by rw [e0]; trivial⟩ | exact Or.inr ⟨rfl, by rw [e0]; exact fun z => c_24 z.1⟩ | exact Or.inr ⟨rfl, by rw [e0]; exact fun z => z.2 c_33⟩, fun _ _ => rfl⟩ hP hD hS
  · refine lv_iload_n hx hb dX9_open_8 rfl (lv_at hl 3 rfl) ?_
    refine lv_bipush (v := nI 8) hx hb dX9_open_9 (by decide) ?_
    refine jn_clt hx hb (by decide) (by decide) (tgt := 42) dX9_open_11 (by decide) (fun c_11 => ?_) (fun c_11 => absurd c_11 (by decide))
    refine lv_iconst (v := nI 0) hx hb dX9_open_42 (by decide) ?_
    refine lv_istore (lv' := [(6, .int (nI 0)), (0, .ref (g.2.2.2 30)), (1, .ref (g.2.2.2 1)), (2, .ref (g.2.2.2 21)), (3, .int (nI 1)), (4, .int (nI mk)), (5, .int (nI cd))]) hx hb dX9_open_43 hl (by decide) rfl (fun ls hl => ?_)
    have lp45 : ∀ (fu : Nat), ∀ (x0 : Nat) (lt1 : Nat → Nat), (x0 ≤ 3) → (∀ y, y < x0 → ¬ opP (σ.2.1 0) (σ.2.1 15) (σ.1 0) ((σ.1 17) - 2) (stp (σ.2.1 0) y mk) (cd + wt y)) → (∀ i, i < 1 → lt1 i = (σ.2.1 19) i) → 3 - x0 < fu → ∀ (H : Heap) (locs : List Loc), va_P (g.1, g.2.1) vwCl (wC g (sA σ 19 lt1) ++ tl) H → va_D A (wC g (sA σ 19 lt1) ++ tl) → va_S A s.heap H locs → ∀ ls : Array Slot, lv_has ls 8 [(0, .ref (g.2.2.2 30)), (1, .ref (g.2.2.2 1)), (2, .ref (g.2.2.2 21)), (3, .int (nI 1)), (4, .int (nI mk)), (5, .int (nI cd)), (6, .int (nI x0))] → W p l e r_c_X9_open_d1 s m ([.ref (g.2.2.2 30), .ref (g.2.2.2 1), .ref (g.2.2.2 21), .int (nI 1), .int (nI mk), .int (nI cd)] : List Value).toArray below meth c H locs 0 0 Q (F0 m 45 ls []) := by
      intro fu
      induction fu with
      | zero => intro x0 lt1 i1 i2 i4 hf; exact absurd hf (Nat.not_lt_zero _)
      | succ fu ih45 =>
        intro x0 lt1 i1 i2 i4 hf H locs hP hD hS ls hl
        have eK : ((σ.1 17) - 1) = ((σ.1 17) - 2) + 1 := by omega
        refine lv_iload hx hb dX9_open_45 (lv_at hl 6 rfl) ?_
        refine lv_iconst (v := nI 3) hx hb dX9_open_47 (by decide) ?_
        refine jn_cge hx hb (by omega) (by decide) (tgt := 99) dX9_open_48 (by decide) (fun c_48 => ?_) (fun c_48 => ?_)
        · refine lv_iconst (v := nI 0) hx hb dX9_open_99 (by decide) ?_
          exact hq _ _ _ _ ((nI 0)) (0, lt1) dX9_open_100 jn_n0 ⟨rfl, Or.inr ⟨rfl, by rw [eK]; exact op_cases i1 i2 (by omega)⟩, i4⟩ hP hD hS
        · refine lv_aload_n hx hb dX9_open_51 rfl (lv_at hl 0 rfl) ?_
          refine va_get (D := (g.1, g.2.1)) (ci := 11) (v := .ref (g.2.2.2 31)) (C := RX9) (T := TX9) (N := 7) hx hb hts iX9 hown hK.1 hP 30 (gC30 g (sA σ 19 lt1) tl) rfl 0 (by decide) k9 (fun _ h9 => h9) rfl dX9_open_52 ?_
          refine lv_iload_n hx hb dX9_open_55 rfl (lv_at hl 3 rfl) ?_
          refine lv_iload hx hb dX9_open_56 (lv_at hl 6 rfl) ?_
          refine jn_iast (f := lt1) hx hb hK.1 hP hD hS 31 0 (gC31 g (sA σ 19 lt1) tl) rfl (by decide) (Nat.le_of_ble_eq_true rfl) (uC_A19 g (sA σ 19 lt1) tl _) dX9_open_58 (fun H locs hP hD hS => ?_)
          refine lv_aload_n hx hb dX9_open_59 rfl (lv_at hl 1 rfl) ?_
          refine lv_iload hx hb dX9_open_60 (lv_at hl 6 rfl) ?_
          refine lv_iload hx hb dX9_open_62 (lv_at hl 4 rfl) ?_
          refine vp_callSi (va_Run.run (va_runV (As := [.int (nI x0), .int (nI mk)]) (rest := []) ⟨hx, hb, hml, hown, hts⟩ (c_X0_step l g tl (sA (sA σ 19 lt1) 19 (va_up lt1 1 x0)) x0 mk hA (by omega) hm) (cwV 2 hts gX9_open_X0_step rfl rfl rfl (by decide +kernel) ⟨Nat.le_of_ble_eq_true rfl, Nat.le_of_ble_eq_true rfl⟩) (okPV hK hP rfl (gC1 g (sA (sA σ 19 lt1) 19 (va_up lt1 1 x0)) tl)) rfl rfl hl.1 rfl (lv_room (Nat.le_of_ble_eq_true rfl)) dX9_open_64 ⟨Nat.le_of_ble_eq_true rfl, Nat.le_of_ble_eq_true rfl⟩)) (fun r_64 h_64 => ?_)
          have h_64 : r_64 = (nI (stp (σ.2.1 0) x0 mk)) := h_64
          subst h_64
          have st32 : stp (σ.2.1 0) x0 mk < 32 := stp_lt hA.1 (by omega)
          have hdd := dsum_all cd hc (by omega) x0 (by omega)
          refine lv_istore (lv' := [(7, .int (nI (stp (σ.2.1 0) x0 mk))), (0, .ref (g.2.2.2 30)), (1, .ref (g.2.2.2 1)), (2, .ref (g.2.2.2 21)), (3, .int (nI 1)), (4, .int (nI mk)), (5, .int (nI cd)), (6, .int (nI x0))]) hx hb dX9_open_67 hl (by decide) rfl (fun ls hl => ?_)
          refine lv_aload_n hx hb dX9_open_69 rfl (lv_at hl 1 rfl) ?_
          refine lv_aload_n hx hb dX9_open_70 rfl (lv_at hl 2 rfl) ?_
          refine lv_aload_n hx hb dX9_open_71 rfl (lv_at hl 3 rfl) ?_
          refine lv_iload_n hx hb dX9_open_72 rfl (lv_at hl 4 rfl) ?_
          refine lv_iconst (v := nI 1) hx hb dX9_open_73 (by decide) ?_
          refine jn_iadd hx hb dX9_open_74 ?_
          refine lv_iload hx hb dX9_open_75 (lv_at hl 0 rfl) ?_
          refine lv_iload hx hb dX9_open_77 (lv_at hl 6 rfl) ?_
          refine lv_iload hx hb dX9_open_79 (lv_at hl 7 rfl) ?_
          refine vp_callSi (va_Run.run (va_runSN (As := [.int (nI x0)]) (rest := [.int (nI cd), .int (nI (stp (σ.2.1 0) x0 mk)), .int (nI (1 + 1)), .ref (g.2.2.2 21), .ref (g.2.2.2 1), .ref (g.2.2.2 30)]) ⟨hx, hb, hml, hown, hts⟩ (c_X10_weightOf l x0 (by omega)) ⟨(va_cnB 1 hts gX9_open_X10_weightOf_n79 rfl rfl rfl (hK.2 _ (List.mem_of_getElem? (i := 28) rfl)) (hts (.initialized RX10) (by decide +kernel)) (by decide +kernel) ⟨Nat.le_of_ble_eq_true rfl, Nat.le_of_ble_eq_true rfl⟩), hts (.static yX10_weightOf) (by decide +kernel), trivial⟩ okTS rfl rfl hl.1 rfl (lv_room (Nat.le_of_ble_eq_true rfl)) dX9_open_81 ⟨Nat.le_of_ble_eq_true rfl, Nat.le_of_ble_eq_true rfl⟩)) (fun r_81 h_81 => ?_)
          subst h_81
          refine jn_iadd hx hb dX9_open_84 ?_
          refine jn_calli (va_runV (As := [.ref (g.2.2.2 1), .ref (g.2.2.2 21), .int (nI (1 + 1)), .int (nI (stp (σ.2.1 0) x0 mk)), .int (nI (cd + (wt x0)))]) (rest := []) ⟨hx, hb, hml, hown, hts⟩ (c_X9_open_d2 l g tl H.size (sA (sA σ 19 lt1) 19 (va_up lt1 1 x0)) (stp (σ.2.1 0) x0 mk) (cd + (wt x0)) hA h1 (show 2 ≤ (σ.1 17) by omega) st32 hdd.1 (by rw [hdd.2, hd])) (cwV 5 hts gX9_open_X9_open rfl rfl rfl (by decide +kernel) ⟨Nat.le_of_ble_eq_true rfl, Nat.le_of_ble_eq_true rfl⟩) (okWV hK hP hD rfl (gC30 g (sA (sA σ 19 lt1) 19 (va_up lt1 1 x0)) tl)) rfl rfl hl.1 rfl (lv_room (Nat.le_of_ble_eq_true rfl)) dX9_open_85 ⟨Nat.le_of_ble_eq_true rfl, Nat.le_of_ble_eq_true rfl⟩) hD hS hAA (fun r_85 u H locs hw_ hP hD hS => ?_)
          obtain ⟨b_85, lt2_85⟩ := u
          obtain ⟨rfl, h_85⟩ := hw_
          have h_85 : ((b_85 = 1 ∧ opP (σ.2.1 0) (σ.2.1 15) (σ.1 0) ((σ.1 17) - 2) (stp (σ.2.1 0) x0 mk) (cd + (wt x0)) ∧ isOp (σ.2.1 0) (σ.2.1 15) (σ.1 0) ((σ.1 17) - 2) (stp (σ.2.1 0) x0 mk) (cd + (wt x0)) (fun i => lt2_85 (2 + i))) ∨ (b_85 = 0 ∧ ¬ opP (σ.2.1 0) (σ.2.1 15) (σ.1 0) ((σ.1 17) - 2) (stp (σ.2.1 0) x0 mk) (cd + (wt x0)))) ∧ (∀ i, i < 2 → lt2_85 i = ((va_up lt1 1 x0)) i) := h_85
          have hP : va_P (g.1, g.2.1) vwCl (wC g (sA (sA (sA σ 19 lt1) 19 (va_up lt1 1 x0)) 19 lt2_85) ++ tl) H := hP
          have hD : va_D A (wC g (sA (sA (sA σ 19 lt1) 19 (va_up lt1 1 x0)) 19 lt2_85) ++ tl) := hD
          have hb12 : b_85 = 1 ∨ b_85 = 0 := h_85.1.imp (fun z => z.1) (fun z => z.1)
          refine jn_zeq hx hb (by omega) (tgt := 93) dX9_open_88 (by decide) (fun c_88 => ?_) (fun c_88 => ?_)
          · have hr := h_85.1.resolve_left (fun z => by have := z.1; omega)
            refine lv_iinc (v := nI (x0 + 1)) (lv' := [(6, .int (nI (x0 + 1))), (7, .int (nI (stp (σ.2.1 0) x0 mk))), (0, .ref (g.2.2.2 30)), (1, .ref (g.2.2.2 1)), (2, .ref (g.2.2.2 21)), (3, .int (nI 1)), (4, .int (nI mk)), (5, .int (nI cd))]) hx hb dX9_open_93 hl (k := 7) rfl (jn_ii _ 1) (by decide) rfl (fun ls hl => ?_)
            refine lv_goto (tgt := 45) hx hb dX9_open_96 (by decide) ?_
            exact ih45 (x0 + 1) lt2_85 (by omega) (fun y hy => by rcases Nat.lt_or_ge y x0 with q | q; { exact i2 y q }; { rw [show y = x0 by omega]; exact hr.2 }) (fun i hi => by rw [h_85.2 i (by omega), va_up, if_neg (by omega)]; exact i4 i hi) (by omega) _ _ hP hD hS _ (lv_sub hl [2, 3, 4, 5, 6, 7, 0] rfl)
          · have hr := h_85.1.resolve_right (fun z => by have := z.1; omega)
            refine lv_iconst (v := nI 1) hx hb dX9_open_91 (by decide) ?_
            exact hq _ _ _ _ ((nI 1)) (1, lt2_85) dX9_open_92 jn_n1 ⟨rfl, Or.inl ⟨rfl, by rw [eK]; exact ⟨x0, by omega, hr.2.1⟩, by rw [eK]; exact ⟨x0, by omega, i2, hr.2.1, by show lt2_85 1 = x0; rw [h_85.2 1 (by omega), va_up, if_pos rfl], isOp_cong _ _ _ _ _ _ _ _ (fun i _ => by show lt2_85 (2 + i) = lt2_85 (1 + (i + 1)); rw [show 2 + i = 1 + (i + 1) by omega]) hr.2.2⟩⟩, fun i hi => by rw [h_85.2 i (by omega), va_up, if_neg (by omega)]; exact i4 i hi⟩ hP hD hS
    exact lp45 _ 0 (σ.2.1 19) (by decide) (fun y hy => absurd hy (by omega)) (fun _ _ => rfl) (Nat.lt_succ_self _) _ _ hP hD hS _ (lv_sub hl [1, 2, 3, 4, 5, 6, 0] rfl)

abbrev r_c_X9_open_d0 : Room := { frames := 8, cells := 0, slots := 0, locals := 210 }
set_option maxHeartbeats 4000000 in
set_option maxRecDepth 100000 in
theorem c_X9_open_d0 (l : Launch) (g : GC) (tl : va_W) (sz : Nat) (σ : SS) (mk cd : Nat) (hA : OkA σ) (h1 : (σ.1 17) ≤ 7) (h2 : 0 ≤ (σ.1 17)) (hm : mk < 32) (hc : cd < 1000) (hd : dsum cd = 0) : Met l yX9_open wsX9_open r_c_X9_open_d0 (va_Pc [.ref (g.2.2.2 30), .ref (g.2.2.2 1), .ref (g.2.2.2 21), .int (nI 0), .int (nI mk), .int (nI cd)] (PW g (wC g σ ++ tl) sz)) (va_Qi (fun (r : Int32) (z : Nat × (Nat → Nat)) => match z with | (b, lt2) => (r = nI (b)) ∧ ((b = 1 ∧ opP (σ.2.1 0) (σ.2.1 15) (σ.1 0) ((σ.1 17) - 0) mk cd ∧ isOp (σ.2.1 0) (σ.2.1 15) (σ.1 0) ((σ.1 17) - 0) mk cd (fun i => lt2 (0 + i))) ∨ (b = 0 ∧ ¬ opP (σ.2.1 0) (σ.2.1 15) (σ.1 0) ((σ.1 17) - 0) mk cd)) ∧ (∀ i, i < 0 → lt2 i = (σ.2.1 19) i)) (fun (z : Nat × (Nat → Nat)) t => BW g (va_A (wC g σ ++ tl) sz) ((fun z : Nat × (Nat → Nat) => match z with | (b, lt2) => wC g (sA σ 19 lt2) ++ tl) z) t) (va_A (wC g σ ++ tl) sz)) 0 0 (va_A (wC g σ ++ tl) sz) := by
  refine jn_sz (wf := fun z : Nat × (Nat → Nat) => match z with | (b, lt2) => wC g (sA σ 19 lt2) ++ tl) (cc := cX9_open) (maxL := 8) (own := RX9) (by decide) rfl rfl (Nat.le_of_ble_eq_true rfl) ?_
  intro p e s m below meth c Q A hx hb hml hown hts hK hP hD hS hAA hq ls hl
  obtain ⟨H, eH⟩ : ∃ z, z = s.heap := ⟨_, rfl⟩
  obtain ⟨locs, el⟩ : ∃ z : List Loc, z = [] := ⟨_, rfl⟩
  rw [← eH] at hP
  have hS : va_S A s.heap H locs := by rw [eH, el]; exact hS
  have goal0 : W p l e r_c_X9_open_d0 s m ([.ref (g.2.2.2 30), .ref (g.2.2.2 1), .ref (g.2.2.2 21), .int (nI 0), .int (nI mk), .int (nI cd)] : List Value).toArray below meth c H locs 0 0 Q (F0 m 0 ls []) → W p l e r_c_X9_open_d0 s m ([.ref (g.2.2.2 30), .ref (g.2.2.2 1), .ref (g.2.2.2 21), .int (nI 0), .int (nI mk), .int (nI cd)] : List Value).toArray below meth c s.heap [] 0 0 Q (F0 m 0 ls []) := fun h => by rw [eH, el] at h; exact h
  refine goal0 ?_
  have hl : lv_has ls 8 [(0, .ref (g.2.2.2 30)), (1, .ref (g.2.2.2 1)), (2, .ref (g.2.2.2 21)), (3, .int (nI 0)), (4, .int (nI mk)), (5, .int (nI cd))] := hl
  have iX9 : ∀ w ∈ wsX90, w ∈ wsX9_open := by decide +kernel
  have k18 := hts (.fieldLink RX9 18 "JumpingAutomata$WordSearch" "length" "I") (by decide +kernel)
  have k9 := hts (.fieldLink RX9 9 "JumpingAutomata$WordSearch" "letters" "[I") (by decide +kernel)
  refine lv_iload_n hx hb dX9_open_0 rfl (lv_at hl 3 rfl) ?_
  refine lv_aload_n hx hb dX9_open_1 rfl (lv_at hl 0 rfl) ?_
  refine va_get (D := (g.1, g.2.1)) (ci := 11) (v := .int (nI (σ.1 17))) (C := RX9) (T := TX9) (N := 7) hx hb hts iX9 hown hK.1 hP 30 (gC30 g σ tl) rfl 2 (by decide) k18 (fun _ h9 => h9) rfl dX9_open_2 ?_
  refine jn_cge hx hb (by decide) (by omega) (tgt := 14) dX9_open_5 (by decide) (fun c_5 => ?_) (fun c_5 => ?_)
  · refine lv_aload_n hx hb dX9_open_14 rfl (lv_at hl 1 rfl) ?_
    refine lv_aload_n hx hb dX9_open_15 rfl (lv_at hl 2 rfl) ?_
    refine lv_iload hx hb dX9_open_16 (lv_at hl 5 rfl) ?_
    have e0 : ((σ.1 17) - 0) = 0 := by omega
    refine vp_callSi (va_Run.run (va_runV (As := [.int (nI cd)]) (rest := [.ref (g.2.2.2 1)]) ⟨hx, hb, hml, hown, hts⟩ (c_X5_at_21 l g tl σ cd (by omega)) (cwV 1 hts gX9_open_X5_at rfl rfl rfl (by decide +kernel) ⟨Nat.le_of_ble_eq_true rfl, Nat.le_of_ble_eq_true rfl⟩) (okPV hK hP rfl (gC21 g σ tl)) rfl rfl hl.1 rfl (lv_room (Nat.le_of_ble_eq_true rfl)) dX9_open_18 ⟨Nat.le_of_ble_eq_true rfl, Nat.le_of_ble_eq_true rfl⟩)) (fun r_18 h_18 => ?_)
    subst h_18
    refine vp_callSi (va_Run.run (va_runV (As := [.int (nI ((σ.2.1 15) cd))]) (rest := []) ⟨hx, hb, hml, hown, hts⟩ (c_X0_accepting l g tl σ ((σ.2.1 15) cd) hA) (cwV 1 hts gX9_open_X0_accepting rfl rfl rfl (by decide +kernel) ⟨Nat.le_of_ble_eq_true rfl, Nat.le_of_ble_eq_true rfl⟩) (okPV hK hP rfl (gC1 g σ tl)) rfl rfl hl.1 rfl (lv_room (Nat.le_of_ble_eq_true rfl)) dX9_open_21 ⟨Nat.le_of_ble_eq_true rfl, Nat.le_of_ble_eq_true rfl⟩)) (fun r_21 h_21 => ?_)
    subst h_21
    refine jn_beq hx hb (tgt := 40) dX9_open_24 (by decide) (fun c_24 => ?_) (fun c_24 => ?_)
    · refine lv_iconst (v := nI 0) hx hb dX9_open_40 (by decide) ?_
      exact hq _ _ _ _ ((nI 0)) (0, (σ.2.1 19)) dX9_open_41 jn_n0 ⟨rfl, by first | exact Or.inl ⟨rfl, by rw [e0]; exact ⟨c_24, c_33⟩, by rw [e0]; trivial⟩ | exact Or.inr ⟨rfl, by rw [e0]; exact fun z => c_24 z.1⟩ | exact Or.inr ⟨rfl, by rw [e0]; exact fun z => z.2 c_33⟩, fun _ _ => rfl⟩ hP hD hS
    · refine lv_aload_n hx hb dX9_open_27 rfl (lv_at hl 1 rfl) ?_
      refine lv_iload hx hb dX9_open_28 (lv_at hl 4 rfl) ?_
      refine vp_callSi (va_Run.run (va_runV (As := [.int (nI mk)]) (rest := []) ⟨hx, hb, hml, hown, hts⟩ (c_X0_accepting l g tl σ mk hA) (cwV 1 hts gX9_open_X0_accepting rfl rfl rfl (by decide +kernel) ⟨Nat.le_of_ble_eq_true rfl, Nat.le_of_ble_eq_true rfl⟩) (okPV hK hP rfl (gC1 g σ tl)) rfl rfl hl.1 rfl (lv_room (Nat.le_of_ble_eq_true rfl)) dX9_open_30 ⟨Nat.le_of_ble_eq_true rfl, Nat.le_of_ble_eq_true rfl⟩)) (fun r_30 h_30 => ?_)
      subst h_30
      refine jn_bne hx hb (tgt := 40) dX9_open_33 (by decide) (fun c_33 => ?_) (fun c_33 => ?_)
      · refine lv_iconst (v := nI 0) hx hb dX9_open_40 (by decide) ?_
        exact hq _ _ _ _ ((nI 0)) (0, (σ.2.1 19)) dX9_open_41 jn_n0 ⟨rfl, by first | exact Or.inl ⟨rfl, by rw [e0]; exact ⟨c_24, c_33⟩, by rw [e0]; trivial⟩ | exact Or.inr ⟨rfl, by rw [e0]; exact fun z => c_24 z.1⟩ | exact Or.inr ⟨rfl, by rw [e0]; exact fun z => z.2 c_33⟩, fun _ _ => rfl⟩ hP hD hS
      · refine lv_iconst (v := nI 1) hx hb dX9_open_36 (by decide) ?_
        refine lv_goto (tgt := 41) hx hb dX9_open_37 (by decide) ?_
        exact hq _ _ _ _ ((nI 1)) (1, (σ.2.1 19)) dX9_open_41 jn_n1 ⟨rfl, by first | exact Or.inl ⟨rfl, by rw [e0]; exact ⟨c_24, c_33⟩, by rw [e0]; trivial⟩ | exact Or.inr ⟨rfl, by rw [e0]; exact fun z => c_24 z.1⟩ | exact Or.inr ⟨rfl, by rw [e0]; exact fun z => z.2 c_33⟩, fun _ _ => rfl⟩ hP hD hS
  · refine lv_iload_n hx hb dX9_open_8 rfl (lv_at hl 3 rfl) ?_
    refine lv_bipush (v := nI 8) hx hb dX9_open_9 (by decide) ?_
    refine jn_clt hx hb (by decide) (by decide) (tgt := 42) dX9_open_11 (by decide) (fun c_11 => ?_) (fun c_11 => absurd c_11 (by decide))
    refine lv_iconst (v := nI 0) hx hb dX9_open_42 (by decide) ?_
    refine lv_istore (lv' := [(6, .int (nI 0)), (0, .ref (g.2.2.2 30)), (1, .ref (g.2.2.2 1)), (2, .ref (g.2.2.2 21)), (3, .int (nI 0)), (4, .int (nI mk)), (5, .int (nI cd))]) hx hb dX9_open_43 hl (by decide) rfl (fun ls hl => ?_)
    have lp45 : ∀ (fu : Nat), ∀ (x0 : Nat) (lt1 : Nat → Nat), (x0 ≤ 3) → (∀ y, y < x0 → ¬ opP (σ.2.1 0) (σ.2.1 15) (σ.1 0) ((σ.1 17) - 1) (stp (σ.2.1 0) y mk) (cd + wt y)) → (∀ i, i < 0 → lt1 i = (σ.2.1 19) i) → 3 - x0 < fu → ∀ (H : Heap) (locs : List Loc), va_P (g.1, g.2.1) vwCl (wC g (sA σ 19 lt1) ++ tl) H → va_D A (wC g (sA σ 19 lt1) ++ tl) → va_S A s.heap H locs → ∀ ls : Array Slot, lv_has ls 8 [(0, .ref (g.2.2.2 30)), (1, .ref (g.2.2.2 1)), (2, .ref (g.2.2.2 21)), (3, .int (nI 0)), (4, .int (nI mk)), (5, .int (nI cd)), (6, .int (nI x0))] → W p l e r_c_X9_open_d0 s m ([.ref (g.2.2.2 30), .ref (g.2.2.2 1), .ref (g.2.2.2 21), .int (nI 0), .int (nI mk), .int (nI cd)] : List Value).toArray below meth c H locs 0 0 Q (F0 m 45 ls []) := by
      intro fu
      induction fu with
      | zero => intro x0 lt1 i1 i2 i4 hf; exact absurd hf (Nat.not_lt_zero _)
      | succ fu ih45 =>
        intro x0 lt1 i1 i2 i4 hf H locs hP hD hS ls hl
        have eK : ((σ.1 17) - 0) = ((σ.1 17) - 1) + 1 := by omega
        refine lv_iload hx hb dX9_open_45 (lv_at hl 6 rfl) ?_
        refine lv_iconst (v := nI 3) hx hb dX9_open_47 (by decide) ?_
        refine jn_cge hx hb (by omega) (by decide) (tgt := 99) dX9_open_48 (by decide) (fun c_48 => ?_) (fun c_48 => ?_)
        · refine lv_iconst (v := nI 0) hx hb dX9_open_99 (by decide) ?_
          exact hq _ _ _ _ ((nI 0)) (0, lt1) dX9_open_100 jn_n0 ⟨rfl, Or.inr ⟨rfl, by rw [eK]; exact op_cases i1 i2 (by omega)⟩, i4⟩ hP hD hS
        · refine lv_aload_n hx hb dX9_open_51 rfl (lv_at hl 0 rfl) ?_
          refine va_get (D := (g.1, g.2.1)) (ci := 11) (v := .ref (g.2.2.2 31)) (C := RX9) (T := TX9) (N := 7) hx hb hts iX9 hown hK.1 hP 30 (gC30 g (sA σ 19 lt1) tl) rfl 0 (by decide) k9 (fun _ h9 => h9) rfl dX9_open_52 ?_
          refine lv_iload_n hx hb dX9_open_55 rfl (lv_at hl 3 rfl) ?_
          refine lv_iload hx hb dX9_open_56 (lv_at hl 6 rfl) ?_
          refine jn_iast (f := lt1) hx hb hK.1 hP hD hS 31 0 (gC31 g (sA σ 19 lt1) tl) rfl (by decide) (Nat.le_of_ble_eq_true rfl) (uC_A19 g (sA σ 19 lt1) tl _) dX9_open_58 (fun H locs hP hD hS => ?_)
          refine lv_aload_n hx hb dX9_open_59 rfl (lv_at hl 1 rfl) ?_
          refine lv_iload hx hb dX9_open_60 (lv_at hl 6 rfl) ?_
          refine lv_iload hx hb dX9_open_62 (lv_at hl 4 rfl) ?_
          refine vp_callSi (va_Run.run (va_runV (As := [.int (nI x0), .int (nI mk)]) (rest := []) ⟨hx, hb, hml, hown, hts⟩ (c_X0_step l g tl (sA (sA σ 19 lt1) 19 (va_up lt1 0 x0)) x0 mk hA (by omega) hm) (cwV 2 hts gX9_open_X0_step rfl rfl rfl (by decide +kernel) ⟨Nat.le_of_ble_eq_true rfl, Nat.le_of_ble_eq_true rfl⟩) (okPV hK hP rfl (gC1 g (sA (sA σ 19 lt1) 19 (va_up lt1 0 x0)) tl)) rfl rfl hl.1 rfl (lv_room (Nat.le_of_ble_eq_true rfl)) dX9_open_64 ⟨Nat.le_of_ble_eq_true rfl, Nat.le_of_ble_eq_true rfl⟩)) (fun r_64 h_64 => ?_)
          have h_64 : r_64 = (nI (stp (σ.2.1 0) x0 mk)) := h_64
          subst h_64
          have st32 : stp (σ.2.1 0) x0 mk < 32 := stp_lt hA.1 (by omega)
          have hdd := dsum_all cd hc (by omega) x0 (by omega)
          refine lv_istore (lv' := [(7, .int (nI (stp (σ.2.1 0) x0 mk))), (0, .ref (g.2.2.2 30)), (1, .ref (g.2.2.2 1)), (2, .ref (g.2.2.2 21)), (3, .int (nI 0)), (4, .int (nI mk)), (5, .int (nI cd)), (6, .int (nI x0))]) hx hb dX9_open_67 hl (by decide) rfl (fun ls hl => ?_)
          refine lv_aload_n hx hb dX9_open_69 rfl (lv_at hl 1 rfl) ?_
          refine lv_aload_n hx hb dX9_open_70 rfl (lv_at hl 2 rfl) ?_
          refine lv_aload_n hx hb dX9_open_71 rfl (lv_at hl 3 rfl) ?_
          refine lv_iload_n hx hb dX9_open_72 rfl (lv_at hl 4 rfl) ?_
          refine lv_iconst (v := nI 1) hx hb dX9_open_73 (by decide) ?_
          refine jn_iadd hx hb dX9_open_74 ?_
          refine lv_iload hx hb dX9_open_75 (lv_at hl 0 rfl) ?_
          refine lv_iload hx hb dX9_open_77 (lv_at hl 6 rfl) ?_
          refine lv_iload hx hb dX9_open_79 (lv_at hl 7 rfl) ?_
          refine vp_callSi (va_Run.run (va_runSN (As := [.int (nI x0)]) (rest := [.int (nI cd), .int (nI (stp (σ.2.1 0) x0 mk)), .int (nI (0 + 1)), .ref (g.2.2.2 21), .ref (g.2.2.2 1), .ref (g.2.2.2 30)]) ⟨hx, hb, hml, hown, hts⟩ (c_X10_weightOf l x0 (by omega)) ⟨(va_cnB 1 hts gX9_open_X10_weightOf_n79 rfl rfl rfl (hK.2 _ (List.mem_of_getElem? (i := 28) rfl)) (hts (.initialized RX10) (by decide +kernel)) (by decide +kernel) ⟨Nat.le_of_ble_eq_true rfl, Nat.le_of_ble_eq_true rfl⟩), hts (.static yX10_weightOf) (by decide +kernel), trivial⟩ okTS rfl rfl hl.1 rfl (lv_room (Nat.le_of_ble_eq_true rfl)) dX9_open_81 ⟨Nat.le_of_ble_eq_true rfl, Nat.le_of_ble_eq_true rfl⟩)) (fun r_81 h_81 => ?_)
          subst h_81
          refine jn_iadd hx hb dX9_open_84 ?_
          refine jn_calli (va_runV (As := [.ref (g.2.2.2 1), .ref (g.2.2.2 21), .int (nI (0 + 1)), .int (nI (stp (σ.2.1 0) x0 mk)), .int (nI (cd + (wt x0)))]) (rest := []) ⟨hx, hb, hml, hown, hts⟩ (c_X9_open_d1 l g tl H.size (sA (sA σ 19 lt1) 19 (va_up lt1 0 x0)) (stp (σ.2.1 0) x0 mk) (cd + (wt x0)) hA h1 (show 1 ≤ (σ.1 17) by omega) st32 hdd.1 (by rw [hdd.2, hd])) (cwV 5 hts gX9_open_X9_open rfl rfl rfl (by decide +kernel) ⟨Nat.le_of_ble_eq_true rfl, Nat.le_of_ble_eq_true rfl⟩) (okWV hK hP hD rfl (gC30 g (sA (sA σ 19 lt1) 19 (va_up lt1 0 x0)) tl)) rfl rfl hl.1 rfl (lv_room (Nat.le_of_ble_eq_true rfl)) dX9_open_85 ⟨Nat.le_of_ble_eq_true rfl, Nat.le_of_ble_eq_true rfl⟩) hD hS hAA (fun r_85 u H locs hw_ hP hD hS => ?_)
          obtain ⟨b_85, lt2_85⟩ := u
          obtain ⟨rfl, h_85⟩ := hw_
          have h_85 : ((b_85 = 1 ∧ opP (σ.2.1 0) (σ.2.1 15) (σ.1 0) ((σ.1 17) - 1) (stp (σ.2.1 0) x0 mk) (cd + (wt x0)) ∧ isOp (σ.2.1 0) (σ.2.1 15) (σ.1 0) ((σ.1 17) - 1) (stp (σ.2.1 0) x0 mk) (cd + (wt x0)) (fun i => lt2_85 (1 + i))) ∨ (b_85 = 0 ∧ ¬ opP (σ.2.1 0) (σ.2.1 15) (σ.1 0) ((σ.1 17) - 1) (stp (σ.2.1 0) x0 mk) (cd + (wt x0)))) ∧ (∀ i, i < 1 → lt2_85 i = ((va_up lt1 0 x0)) i) := h_85
          have hP : va_P (g.1, g.2.1) vwCl (wC g (sA (sA (sA σ 19 lt1) 19 (va_up lt1 0 x0)) 19 lt2_85) ++ tl) H := hP
          have hD : va_D A (wC g (sA (sA (sA σ 19 lt1) 19 (va_up lt1 0 x0)) 19 lt2_85) ++ tl) := hD
          have hb12 : b_85 = 1 ∨ b_85 = 0 := h_85.1.imp (fun z => z.1) (fun z => z.1)
          refine jn_zeq hx hb (by omega) (tgt := 93) dX9_open_88 (by decide) (fun c_88 => ?_) (fun c_88 => ?_)
          · have hr := h_85.1.resolve_left (fun z => by have := z.1; omega)
            refine lv_iinc (v := nI (x0 + 1)) (lv' := [(6, .int (nI (x0 + 1))), (7, .int (nI (stp (σ.2.1 0) x0 mk))), (0, .ref (g.2.2.2 30)), (1, .ref (g.2.2.2 1)), (2, .ref (g.2.2.2 21)), (3, .int (nI 0)), (4, .int (nI mk)), (5, .int (nI cd))]) hx hb dX9_open_93 hl (k := 7) rfl (jn_ii _ 1) (by decide) rfl (fun ls hl => ?_)
            refine lv_goto (tgt := 45) hx hb dX9_open_96 (by decide) ?_
            exact ih45 (x0 + 1) lt2_85 (by omega) (fun y hy => by rcases Nat.lt_or_ge y x0 with q | q; { exact i2 y q }; { rw [show y = x0 by omega]; exact hr.2 }) (fun i hi => by rw [h_85.2 i (by omega), va_up, if_neg (by omega)]; exact i4 i hi) (by omega) _ _ hP hD hS _ (lv_sub hl [2, 3, 4, 5, 6, 7, 0] rfl)
          · have hr := h_85.1.resolve_right (fun z => by have := z.1; omega)
            refine lv_iconst (v := nI 1) hx hb dX9_open_91 (by decide) ?_
            exact hq _ _ _ _ ((nI 1)) (1, lt2_85) dX9_open_92 jn_n1 ⟨rfl, Or.inl ⟨rfl, by rw [eK]; exact ⟨x0, by omega, hr.2.1⟩, by rw [eK]; exact ⟨x0, by omega, i2, hr.2.1, by show lt2_85 0 = x0; rw [h_85.2 0 (by omega), va_up, if_pos rfl], isOp_cong _ _ _ _ _ _ _ _ (fun i _ => by show lt2_85 (1 + i) = lt2_85 (0 + (i + 1)); rw [show 1 + i = 0 + (i + 1) by omega]) hr.2.2⟩⟩, fun i hi => by rw [h_85.2 i (by omega), va_up, if_neg (by omega)]; exact i4 i hi⟩ hP hD hS
    exact lp45 _ 0 (σ.2.1 19) (by decide) (fun y hy => absurd hy (by omega)) (fun _ _ => rfl) (Nat.lt_succ_self _) _ _ hP hD hS _ (lv_sub hl [1, 2, 3, 4, 5, 6, 0] rfl)

abbrev r_c_X9_findOpenWord : Room := { frames := 9, cells := 0, slots := 0, locals := 237 }
set_option maxHeartbeats 4000000 in
set_option maxRecDepth 100000 in
theorem c_X9_findOpenWord (l : Launch) (g : GC) (tl : va_W) (sz : Nat) (σ : SS) (n : Nat) (hA : OkA σ) (hn : n ≤ 7) : Met l yX9_findOpenWord wsX9_findOpenWord r_c_X9_findOpenWord (va_Pc [.ref (g.2.2.2 30), .ref (g.2.2.2 1), .ref (g.2.2.2 21), .int (nI n)] (PW g (wC g σ ++ tl) sz)) (va_Qi (fun (r : Int32) (z : Nat × (Nat → Nat)) => match z with | (b, lt2) => (r = nI (b)) ∧ ((b = 1 ∧ opP (σ.2.1 0) (σ.2.1 15) (σ.1 0) n 1 0 ∧ isOp (σ.2.1 0) (σ.2.1 15) (σ.1 0) n 1 0 lt2) ∨ (b = 0 ∧ ¬ opP (σ.2.1 0) (σ.2.1 15) (σ.1 0) n 1 0))) (fun (z : Nat × (Nat → Nat)) t => BW g (va_A (wC g σ ++ tl) sz) ((fun z : Nat × (Nat → Nat) => match z with | (b, lt2) => wC g (sA (sF σ 17 n) 19 lt2) ++ tl) z) t) (va_A (wC g σ ++ tl) sz)) 0 0 (va_A (wC g σ ++ tl) sz) := by
  refine jn_sz (wf := fun z : Nat × (Nat → Nat) => match z with | (b, lt2) => wC g (sA (sF σ 17 n) 19 lt2) ++ tl) (cc := cX9_findOpenWord) (maxL := 4) (own := RX9) (by decide) rfl rfl (Nat.le_of_ble_eq_true rfl) ?_
  intro p e s m below meth c Q A hx hb hml hown hts hK hP hD hS hAA hq ls hl
  obtain ⟨H, eH⟩ : ∃ z, z = s.heap := ⟨_, rfl⟩
  obtain ⟨locs, el⟩ : ∃ z : List Loc, z = [] := ⟨_, rfl⟩
  rw [← eH] at hP
  have hS : va_S A s.heap H locs := by rw [eH, el]; exact hS
  have goal0 : W p l e r_c_X9_findOpenWord s m ([.ref (g.2.2.2 30), .ref (g.2.2.2 1), .ref (g.2.2.2 21), .int (nI n)] : List Value).toArray below meth c H locs 0 0 Q (F0 m 0 ls []) → W p l e r_c_X9_findOpenWord s m ([.ref (g.2.2.2 30), .ref (g.2.2.2 1), .ref (g.2.2.2 21), .int (nI n)] : List Value).toArray below meth c s.heap [] 0 0 Q (F0 m 0 ls []) := fun h => by rw [eH, el] at h; exact h
  refine goal0 ?_
  have hl : lv_has ls 4 [(0, .ref (g.2.2.2 30)), (1, .ref (g.2.2.2 1)), (2, .ref (g.2.2.2 21)), (3, .int (nI n))] := hl
  have iX9 : ∀ w ∈ wsX90, w ∈ wsX9_findOpenWord := by decide +kernel
  have k18 := hts (.fieldLink RX9 18 "JumpingAutomata$WordSearch" "length" "I") (by decide +kernel)
  refine lv_aload_n hx hb dX9_findOpenWord_0 rfl (lv_at hl 0 rfl) ?_
  refine lv_iload_n hx hb dX9_findOpenWord_1 rfl (lv_at hl 3 rfl) ?_
  refine jn_put (D := (g.1, g.2.1)) (ci := 11) (v := .int (nI n)) (ty := .int) (C := RX9) (T := TX9) (N := 7) hx hb hts iX9 tyX9 tyX9_ok nmX9 hown hK.1 hP hD hS 30 (gC30 g σ tl) rfl 2 (by decide) k18 (fun _ h9 => h9) rfl (by decide +kernel) rfl rfl (Nat.le_of_ble_eq_true rfl) (uC_F17 g σ tl n) dX9_findOpenWord_2 (fun H locs hP hD hS => ?_)
  refine lv_aload_n hx hb dX9_findOpenWord_5 rfl (lv_at hl 0 rfl) ?_
  refine lv_aload_n hx hb dX9_findOpenWord_6 rfl (lv_at hl 1 rfl) ?_
  refine lv_aload_n hx hb dX9_findOpenWord_7 rfl (lv_at hl 2 rfl) ?_
  refine lv_iconst (v := nI 0) hx hb dX9_findOpenWord_8 (by decide) ?_
  refine lv_iconst (v := nI 1) hx hb dX9_findOpenWord_9 (by decide) ?_
  refine lv_iconst (v := nI 0) hx hb dX9_findOpenWord_10 (by decide) ?_
  refine jn_calli (va_runV (As := [.ref (g.2.2.2 1), .ref (g.2.2.2 21), .int (nI 0), .int (nI 1), .int (nI 0)]) (rest := []) ⟨hx, hb, hml, hown, hts⟩ (c_X9_open_d0 l g tl H.size (sF σ 17 n) 1 0 hA hn (Nat.zero_le _) (by decide) (by decide) rfl) (cwV 5 hts gX9_findOpenWord_X9_open rfl rfl rfl (by decide +kernel) ⟨Nat.le_of_ble_eq_true rfl, Nat.le_of_ble_eq_true rfl⟩) (okWV hK hP hD rfl (gC30 g (sF σ 17 n) tl)) rfl rfl hl.1 rfl (lv_room (Nat.le_of_ble_eq_true rfl)) dX9_findOpenWord_11 ⟨Nat.le_of_ble_eq_true rfl, Nat.le_of_ble_eq_true rfl⟩) hD hS hAA (fun r_11 u H locs hw_ hP hD hS => ?_)
  obtain ⟨b_11, lt2_11⟩ := u
  obtain ⟨rfl, h_11⟩ := hw_
  have h_11 : ((b_11 = 1 ∧ opP (σ.2.1 0) (σ.2.1 15) (σ.1 0) ((n) - 0) 1 0 ∧ isOp (σ.2.1 0) (σ.2.1 15) (σ.1 0) ((n) - 0) 1 0 (fun i => lt2_11 (0 + i))) ∨ (b_11 = 0 ∧ ¬ opP (σ.2.1 0) (σ.2.1 15) (σ.1 0) ((n) - 0) 1 0)) ∧ (∀ i, i < 0 → lt2_11 i = (σ.2.1 19) i) := h_11
  have hP : va_P (g.1, g.2.1) vwCl (wC g (sA (sF σ 17 n) 19 lt2_11) ++ tl) H := hP
  have hD : va_D A (wC g (sA (sF σ 17 n) 19 lt2_11) ++ tl) := hD
  exact hq _ _ _ _ ((nI b_11)) (_, lt2_11) dX9_findOpenWord_14 (by rcases h_11.1 with z | z <;> rw [z.1] <;> decide) ⟨rfl, h_11.1.imp (fun z => ⟨z.1, z.2.1, isOp_cong _ _ _ _ _ _ _ _ (fun i _ => by rw [Nat.zero_add]) z.2.2⟩) id⟩ hP hD hS
