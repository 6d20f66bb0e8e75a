abbrev r_c_X10_gatherMinimals : Room := { frames := 3, cells := 0, slots := 0, locals := 71 }
set_option maxHeartbeats 4000000 in
set_option maxRecDepth 100000 in
theorem c_X10_gatherMinimals (l : Launch) (g : GC) (tl : va_W) (sz : Nat) (σ : SS) (hA : OkA σ) : Met l yX10_gatherMinimals wsX10_gatherMinimals r_c_X10_gatherMinimals (va_Pc [.ref (g.2.2.2 0)] (PW g (wC g σ ++ tl) sz)) (va_Qv (fun (z : Nat × (Nat → Nat) × (Nat → Nat)) => match z with | (n6, f15, f17) => (LOk f17 n6) ∧ (∀ z, inL f17 n6 z ↔ mnC (σ.2.1 0) (σ.1 0) z)) (fun (z : Nat × (Nat → Nat) × (Nat → Nat)) t => BW g (va_A (wC g σ ++ tl) sz) ((fun z : Nat × (Nat → Nat) × (Nat → Nat) => match z with | (n6, f15, f17) => wC g (sA (sA (sF σ 6 n6) 15 f15) 17 f17) ++ tl) z) t) (va_A (wC g σ ++ tl) sz)) 0 0 (va_A (wC g σ ++ tl) sz) := by
  refine jn_sv (wf := fun z : Nat × (Nat → Nat) × (Nat → Nat) => match z with | (n6, f15, f17) => wC g (sA (sA (sF σ 6 n6) 15 f15) 17 f17) ++ tl) (cc := cX10_gatherMinimals) (maxL := 6) (own := RX10) (by decide) rfl rfl (Nat.le_of_ble_eq_true rfl) ?_
  intro p e s m below meth c Q A hx hb hml hown hts hK hP hD hS hAA hq ls hl
  obtain ⟨H, eH⟩ : ∃ z, z = s.heap := ⟨_, rfl⟩
  obtain ⟨locs, el⟩ : ∃ z : List Loc, z = [] := ⟨_, rfl⟩
  rw [← eH] at hP
  have hS : va_S A s.heap H locs := by rw [eH, el]; exact hS
  have goal0 : W p l e r_c_X10_gatherMinimals s m ([.ref (g.2.2.2 0)] : List Value).toArray below meth c H locs 0 0 Q (F0 m 0 ls []) → W p l e r_c_X10_gatherMinimals s m ([.ref (g.2.2.2 0)] : List Value).toArray below meth c s.heap [] 0 0 Q (F0 m 0 ls []) := fun h => by rw [eH, el] at h; exact h
  refine goal0 ?_
  have hl : lv_has ls 6 [(0, .ref (g.2.2.2 0))] := hl
  have iX10 : ∀ w ∈ wsX100, w ∈ wsX10_gatherMinimals := by decide +kernel
  have k48 := hts (.fieldLink RX10 48 "JumpingAutomata" "reached" "LJumpingAutomata$CountsTable;") (by decide +kernel)
  have k12 := hts (.fieldLink RX10 12 "JumpingAutomata" "automaton" "LJumpingAutomata$Automaton;") (by decide +kernel)
  have k58 := hts (.fieldLink RX10 58 "JumpingAutomata" "minimals" "LJumpingAutomata$CountsList;") (by decide +kernel)
  refine lv_iconst (v := nI 4) hx hb dX10_gatherMinimals_0 (by decide) ?_
  refine lv_istore_n (lv' := [(1, .int (nI 4)), (0, .ref (g.2.2.2 0))]) hx hb dX10_gatherMinimals_1 rfl hl (by decide) rfl (fun ls hl => ?_)
  refine lv_aload_n hx hb dX10_gatherMinimals_2 rfl (lv_at hl 1 rfl) ?_
  refine va_get (D := (g.1, g.2.1)) (ci := 12) (v := .ref (g.2.2.2 21)) (C := RX10) (T := TX10) (N := 15) hx hb hts iX10 hown hK.1 hP 0 (gC0 g σ tl) rfl 6 (by decide) k48 (fun _ h9 => h9) rfl dX10_gatherMinimals_3 ?_
  refine lv_aload_n hx hb dX10_gatherMinimals_6 rfl (lv_at hl 1 rfl) ?_
  refine va_get (D := (g.1, g.2.1)) (ci := 12) (v := .ref (g.2.2.2 1)) (C := RX10) (T := TX10) (N := 15) hx hb hts iX10 hown hK.1 hP 0 (gC0 g σ tl) rfl 0 (by decide) k12 (fun _ h9 => h9) rfl dX10_gatherMinimals_7 ?_
  refine lv_iload_n hx hb dX10_gatherMinimals_10 rfl (lv_at hl 0 rfl) ?_
  refine lv_iload_n hx hb dX10_gatherMinimals_11 rfl (lv_at hl 0 rfl) ?_
  refine lv_iload_n hx hb dX10_gatherMinimals_12 rfl (lv_at hl 0 rfl) ?_
  refine jn_callv (va_runV (As := [.ref (g.2.2.2 1), .int (nI 4), .int (nI 4), .int (nI 4)]) (rest := []) ⟨hx, hb, hml, hown, hts⟩ (c_X5_fillReached_21 l g tl H.size σ 4 4 4 hA (by decide) (by decide) (by decide)) (cwV 4 hts gX10_gatherMinimals_X5_fillReached rfl rfl rfl (by decide +kernel) ⟨Nat.le_of_ble_eq_true rfl, Nat.le_of_ble_eq_true rfl⟩) (okWV hK hP hD rfl (gC21 g σ tl)) rfl rfl hl.1 rfl (lv_room (Nat.le_of_ble_eq_true rfl)) dX10_gatherMinimals_13 ⟨Nat.le_of_ble_eq_true rfl, Nat.le_of_ble_eq_true rfl⟩) hD hS hAA (fun u H locs hw_ hP hD hS => ?_)
  obtain ⟨f_13, rfl⟩ : ∃ z, z = u := ⟨_, rfl⟩
  have h_13 := hw_
  have h_13 : ∀ a b c, a ≤ 4 → b ≤ 4 → c ≤ 4 → f_13 (100 * a + 10 * b + c) = rch (σ.2.1 0) a b c := h_13
  have hP : va_P (g.1, g.2.1) vwCl (wC g (sA σ 15 f_13) ++ tl) H := hP
  have hD : va_D A (wC g (sA σ 15 f_13) ++ tl) := hD
  refine lv_aload_n hx hb dX10_gatherMinimals_16 rfl (lv_at hl 1 rfl) ?_
  refine va_get (D := (g.1, g.2.1)) (ci := 12) (v := .ref (g.2.2.2 25)) (C := RX10) (T := TX10) (N := 15) hx hb hts iX10 hown hK.1 hP 0 (gC0 g (sA σ 15 f_13) tl) rfl 8 (by decide) k58 (fun _ h9 => h9) rfl dX10_gatherMinimals_17 ?_
  refine jn_callv (va_runV (As := []) (rest := []) ⟨hx, hb, hml, hown, hts⟩ (c_X4_clear_25 l g tl H.size (sA σ 15 f_13)) (cwV 0 hts gX10_gatherMinimals_X4_clear rfl rfl rfl (by decide +kernel) ⟨Nat.le_of_ble_eq_true rfl, Nat.le_of_ble_eq_true rfl⟩) (okWV hK hP hD rfl (gC25 g (sA σ 15 f_13) tl)) rfl rfl hl.1 rfl (lv_room (Nat.le_of_ble_eq_true rfl)) dX10_gatherMinimals_20 ⟨Nat.le_of_ble_eq_true rfl, Nat.le_of_ble_eq_true rfl⟩) hD hS hAA (fun u H locs hw_ hP hD hS => ?_)
  have hP : va_P (g.1, g.2.1) vwCl (wC g (sF (sA σ 15 f_13) 6 0) ++ tl) H := hP
  have hD : va_D A (wC g (sF (sA σ 15 f_13) 6 0) ++ tl) := hD
  refine lv_iconst (v := nI 0) hx hb dX10_gatherMinimals_23 (by decide) ?_
  refine lv_istore_n (lv' := [(2, .int (nI 0)), (1, .int (nI 4)), (0, .ref (g.2.2.2 0))]) hx hb dX10_gatherMinimals_24 rfl hl (by decide) rfl (fun ls hl => ?_)
  have lp25 : ∀ (fu : Nat), ∀ (a : Nat) (n3 : Nat) (f3 : Nat → Nat), (a ≤ 5) → (MnL (σ.2.1 0) (σ.1 0) f3 n3 (100 * a)) → 5 - a < fu → ∀ (H : Heap) (locs : List Loc), va_P (g.1, g.2.1) vwCl (wC g (sA (sA (sF σ 6 n3) 15 f_13) 17 f3) ++ tl) H → va_D A (wC g (sA (sA (sF σ 6 n3) 15 f_13) 17 f3) ++ tl) → va_S A s.heap H locs → ∀ ls : Array Slot, lv_has ls 6 [(0, .ref (g.2.2.2 0)), (1, .int (nI 4)), (2, .int (nI a))] → W p l e r_c_X10_gatherMinimals s m ([.ref (g.2.2.2 0)] : List Value).toArray below meth c H locs 0 0 Q (F0 m 25 ls []) := by
    intro fu
    induction fu with
    | zero => intro a n3 f3 h1 h2 hf; exact absurd hf (Nat.not_lt_zero _)
    | succ fu ih25 =>
      intro a n3 f3 h1 h2 hf H locs hP hD hS ls hl
      refine lv_iload_n hx hb dX10_gatherMinimals_25 rfl (lv_at hl 2 rfl) ?_
      refine lv_iload_n hx hb dX10_gatherMinimals_26 rfl (lv_at hl 1 rfl) ?_
      refine jn_cgt hx hb (by omega) (by decide) (tgt := 119) dX10_gatherMinimals_27 (by decide) (fun c_27 => ?_) (fun c_27 => ?_)
      · exact hq _ _ _ _ (n3, f_13, f3) dX10_gatherMinimals_119 (mn_all (by rw [← show 100 * a = 500 by omega]; exact h2)) hP hD hS
      · refine lv_iconst (v := nI 0) hx hb dX10_gatherMinimals_30 (by decide) ?_
        refine lv_istore_n (lv' := [(3, .int (nI 0)), (0, .ref (g.2.2.2 0)), (1, .int (nI 4)), (2, .int (nI a))]) hx hb dX10_gatherMinimals_31 rfl hl (by decide) rfl (fun ls hl => ?_)
        have lp32 : ∀ (fu : Nat), ∀ (b : Nat) (n3 : Nat) (f3 : Nat → Nat), (b ≤ 5 - a) → (MnL (σ.2.1 0) (σ.1 0) f3 n3 (100 * a + 10 * b)) → 5 - b < fu → ∀ (H : Heap) (locs : List Loc), va_P (g.1, g.2.1) vwCl (wC g (sA (sA (sF σ 6 n3) 15 f_13) 17 f3) ++ tl) H → va_D A (wC g (sA (sA (sF σ 6 n3) 15 f_13) 17 f3) ++ tl) → va_S A s.heap H locs → ∀ ls : Array Slot, lv_has ls 6 [(0, .ref (g.2.2.2 0)), (1, .int (nI 4)), (2, .int (nI a)), (3, .int (nI b))] → W p l e r_c_X10_gatherMinimals s m ([.ref (g.2.2.2 0)] : List Value).toArray below meth c H locs 0 0 Q (F0 m 32 ls []) := by
          intro fu
          induction fu with
          | zero => intro b n3 f3 h3 h4 hf; exact absurd hf (Nat.not_lt_zero _)
          | succ fu ih32 =>
            intro b n3 f3 h3 h4 hf H locs hP hD hS ls hl
            refine lv_iload_n hx hb dX10_gatherMinimals_32 rfl (lv_at hl 2 rfl) ?_
            refine lv_iload_n hx hb dX10_gatherMinimals_33 rfl (lv_at hl 3 rfl) ?_
            refine jn_iadd hx hb dX10_gatherMinimals_34 ?_
            refine lv_iload_n hx hb dX10_gatherMinimals_35 rfl (lv_at hl 1 rfl) ?_
            refine jn_cgt hx hb (by omega) (by decide) (tgt := 113) dX10_gatherMinimals_36 (by decide) (fun c_36 => ?_) (fun c_36 => ?_)
            · refine lv_iinc (v := nI (a + 1)) (lv' := [(2, .int (nI (a + 1))), (0, .ref (g.2.2.2 0)), (1, .int (nI 4)), (3, .int (nI b))]) hx hb dX10_gatherMinimals_113 hl (k := 2) rfl (jn_ii _ 1) (by decide) rfl (fun ls hl => ?_)
              refine lv_goto (tgt := 25) hx hb dX10_gatherMinimals_116 (by decide) ?_
              exact ih25 (a + 1) n3 f3 (by omega) (mn_skip (by omega) h4 (fun z q1 q2 => ds_big (x := 0) (by omega) q1 q2 (by omega))) (by omega) _ _ hP hD hS _ (lv_sub hl [1, 2, 0] rfl)
            · refine lv_iconst (v := nI 0) hx hb dX10_gatherMinimals_39 (by decide) ?_
              refine lv_istore (lv' := [(4, .int (nI 0)), (0, .ref (g.2.2.2 0)), (1, .int (nI 4)), (2, .int (nI a)), (3, .int (nI b))]) hx hb dX10_gatherMinimals_40 hl (by decide) rfl (fun ls hl => ?_)
              have lp42 : ∀ (fu : Nat), ∀ (c0 : Nat) (n3 : Nat) (f3 : Nat → Nat), (c0 ≤ 5 - a - b) → (MnL (σ.2.1 0) (σ.1 0) f3 n3 (100 * a + 10 * b + c0)) → 5 - c0 < fu → ∀ (H : Heap) (locs : List Loc), va_P (g.1, g.2.1) vwCl (wC g (sA (sA (sF σ 6 n3) 15 f_13) 17 f3) ++ tl) H → va_D A (wC g (sA (sA (sF σ 6 n3) 15 f_13) 17 f3) ++ tl) → va_S A s.heap H locs → ∀ ls : Array Slot, lv_has ls 6 [(0, .ref (g.2.2.2 0)), (1, .int (nI 4)), (2, .int (nI a)), (3, .int (nI b)), (4, .int (nI c0))] → W p l e r_c_X10_gatherMinimals s m ([.ref (g.2.2.2 0)] : List Value).toArray below meth c H locs 0 0 Q (F0 m 42 ls []) := by
                intro fu
                induction fu with
                | zero => intro c0 n3 f3 h5 h6 hf; exact absurd hf (Nat.not_lt_zero _)
                | succ fu ih42 =>
                  intro c0 n3 f3 h5 h6 hf H locs hP hD hS ls hl
                  refine lv_iload_n hx hb dX10_gatherMinimals_42 rfl (lv_at hl 2 rfl) ?_
                  refine lv_iload_n hx hb dX10_gatherMinimals_43 rfl (lv_at hl 3 rfl) ?_
                  refine jn_iadd hx hb dX10_gatherMinimals_44 ?_
                  refine lv_iload hx hb dX10_gatherMinimals_45 (lv_at hl 4 rfl) ?_
                  refine jn_iadd hx hb dX10_gatherMinimals_47 ?_
                  refine lv_iload_n hx hb dX10_gatherMinimals_48 rfl (lv_at hl 1 rfl) ?_
                  refine jn_cgt hx hb (by omega) (by decide) (tgt := 107) dX10_gatherMinimals_49 (by decide) (fun c_49 => ?_) (fun c_49 => ?_)
                  · refine lv_iinc (v := nI (b + 1)) (lv' := [(3, .int (nI (b + 1))), (0, .ref (g.2.2.2 0)), (1, .int (nI 4)), (2, .int (nI a)), (4, .int (nI c0))]) hx hb dX10_gatherMinimals_107 hl (k := 3) rfl (jn_ii _ 1) (by decide) rfl (fun ls hl => ?_)
                    refine lv_goto (tgt := 32) hx hb dX10_gatherMinimals_110 (by decide) ?_
                    exact ih32 (b + 1) n3 f3 (by omega) (mn_skip (by omega) h6 (fun z q1 q2 => ds_big2 (by omega) q1 q2 (by omega))) (by omega) _ _ hP hD hS _ (lv_sub hl [1, 2, 3, 0] rfl)
                  · refine lv_iload_n hx hb dX10_gatherMinimals_52 rfl (lv_at hl 2 rfl) ?_
                    refine lv_iload_n hx hb dX10_gatherMinimals_53 rfl (lv_at hl 3 rfl) ?_
                    refine lv_iload hx hb dX10_gatherMinimals_54 (lv_at hl 4 rfl) ?_
                    refine vp_callSi (va_Run.run (va_runS (As := [.int (nI a), .int (nI b), .int (nI c0)]) (rest := []) ⟨hx, hb, hml, hown, hts⟩ (c_X10_codeOf l a b c0) (va_cwS 3 hts gX10_gatherMinimals_X10_codeOf rfl rfl rfl (by decide +kernel) ⟨Nat.le_of_ble_eq_true rfl, Nat.le_of_ble_eq_true rfl⟩) okTS rfl rfl hl.1 rfl (lv_room (Nat.le_of_ble_eq_true rfl)) dX10_gatherMinimals_56 ⟨Nat.le_of_ble_eq_true rfl, Nat.le_of_ble_eq_true rfl⟩)) (fun r_56 h_56 => ?_)
                    subst h_56
                    refine lv_istore (lv' := [(5, .int (nI (100 * a + 10 * b + c0))), (0, .ref (g.2.2.2 0)), (1, .int (nI 4)), (2, .int (nI a)), (3, .int (nI b)), (4, .int (nI c0))]) hx hb dX10_gatherMinimals_59 hl (by decide) rfl (fun ls hl => ?_)
                    refine lv_aload_n hx hb dX10_gatherMinimals_61 rfl (lv_at hl 1 rfl) ?_
                    refine va_get (D := (g.1, g.2.1)) (ci := 12) (v := .ref (g.2.2.2 1)) (C := RX10) (T := TX10) (N := 15) hx hb hts iX10 hown hK.1 hP 0 (gC0 g (sA (sA (sF σ 6 n3) 15 f_13) 17 f3) tl) rfl 0 (by decide) k12 (fun _ h9 => h9) rfl dX10_gatherMinimals_62 ?_
                    refine lv_aload_n hx hb dX10_gatherMinimals_65 rfl (lv_at hl 1 rfl) ?_
                    refine va_get (D := (g.1, g.2.1)) (ci := 12) (v := .ref (g.2.2.2 21)) (C := RX10) (T := TX10) (N := 15) hx hb hts iX10 hown hK.1 hP 0 (gC0 g (sA (sA (sF σ 6 n3) 15 f_13) 17 f3) tl) rfl 6 (by decide) k48 (fun _ h9 => h9) rfl dX10_gatherMinimals_66 ?_
                    refine lv_iload hx hb dX10_gatherMinimals_69 (lv_at hl 0 rfl) ?_
                    refine vp_callSi (va_Run.run (va_runV (As := [.int (nI (100 * a + 10 * b + c0))]) (rest := [.ref (g.2.2.2 1)]) ⟨hx, hb, hml, hown, hts⟩ (c_X5_at_21 l g tl (sA (sA (sF σ 6 n3) 15 f_13) 17 f3) (100 * a + 10 * b + c0) (by omega)) (cwV 1 hts gX10_gatherMinimals_X5_at rfl rfl rfl (by decide +kernel) ⟨Nat.le_of_ble_eq_true rfl, Nat.le_of_ble_eq_true rfl⟩) (okPV hK hP rfl (gC21 g (sA (sA (sF σ 6 n3) 15 f_13) 17 f3) tl)) rfl rfl hl.1 rfl (lv_room (Nat.le_of_ble_eq_true rfl)) dX10_gatherMinimals_71 ⟨Nat.le_of_ble_eq_true rfl, Nat.le_of_ble_eq_true rfl⟩)) (fun r_71 h_71 => ?_)
                    have h_71 : r_71 = (nI ((f_13) (100 * a + 10 * b + c0))) := h_71
                    subst h_71
                    have ev : f_13 (100 * a + 10 * b + c0) = rch (σ.2.1 0) a b c0 := h_13 a b c0 (by omega) (by omega) (by omega)
                    refine vp_callSi (va_Run.run (va_runV (As := [.int (nI ((f_13) (100 * a + 10 * b + c0)))]) (rest := []) ⟨hx, hb, hml, hown, hts⟩ (c_X0_accepting l g tl (sA (sA (sF σ 6 n3) 15 f_13) 17 f3) ((f_13) (100 * a + 10 * b + c0)) hA) (cwV 1 hts gX10_gatherMinimals_X0_accepting rfl rfl rfl (by decide +kernel) ⟨Nat.le_of_ble_eq_true rfl, Nat.le_of_ble_eq_true rfl⟩) (okPV hK hP rfl (gC1 g (sA (sA (sF σ 6 n3) 15 f_13) 17 f3) tl)) rfl rfl hl.1 rfl (lv_room (Nat.le_of_ble_eq_true rfl)) dX10_gatherMinimals_74 ⟨Nat.le_of_ble_eq_true rfl, Nat.le_of_ble_eq_true rfl⟩)) (fun r_74 h_74 => ?_)
                    have h_74 : r_74 = (nI (if ((f_13) (100 * a + 10 * b + c0)) &&& σ.1 0 ≠ 0 then 1 else 0)) := h_74
                    subst h_74
                    refine jn_beq hx hb (tgt := 101) dX10_gatherMinimals_77 (by decide) (fun c_77 => ?_) (fun c_77 => ?_)
                    · refine lv_iinc (v := nI (c0 + 1)) (lv' := [(4, .int (nI (c0 + 1))), (5, .int (nI (100 * a + 10 * b + c0))), (0, .ref (g.2.2.2 0)), (1, .int (nI 4)), (2, .int (nI a)), (3, .int (nI b))]) hx hb dX10_gatherMinimals_101 hl (k := 5) rfl (jn_ii _ 1) (by decide) rfl (fun ls hl => ?_)
                      refine lv_goto (tgt := 42) hx hb dX10_gatherMinimals_104 (by decide) ?_
                      exact ih42 (c0 + 1) n3 f3 (by omega) (by first | exact hnew | exact mn_no h6 (mn_isnt h6 c_89) | exact mn_no h6 (fun q => c_77 (by rw [ev]; exact (rR_at (by omega) (by omega)).mp q.2.2.1))) (by omega) _ _ hP hD hS _ (lv_sub hl [2, 3, 4, 5, 0] rfl)
                    · refine lv_aload_n hx hb dX10_gatherMinimals_80 rfl (lv_at hl 1 rfl) ?_
                      refine va_get (D := (g.1, g.2.1)) (ci := 12) (v := .ref (g.2.2.2 25)) (C := RX10) (T := TX10) (N := 15) hx hb hts iX10 hown hK.1 hP 0 (gC0 g (sA (sA (sF σ 6 n3) 15 f_13) 17 f3) tl) rfl 8 (by decide) k58 (fun _ h9 => h9) rfl dX10_gatherMinimals_81 ?_
                      refine lv_iload hx hb dX10_gatherMinimals_84 (lv_at hl 0 rfl) ?_
                      refine vp_callSi (va_Run.run (va_runV (As := [.int (nI (100 * a + 10 * b + c0))]) (rest := []) ⟨hx, hb, hml, hown, hts⟩ (c_X4_hasBelow_25 l g tl (sA (sA (sF σ 6 n3) 15 f_13) 17 f3) (100 * a + 10 * b + c0) h6.1 (by omega)) (cwV 1 hts gX10_gatherMinimals_X4_hasBelow rfl rfl rfl (by decide +kernel) ⟨Nat.le_of_ble_eq_true rfl, Nat.le_of_ble_eq_true rfl⟩) (okPV hK hP rfl (gC25 g (sA (sA (sF σ 6 n3) 15 f_13) 17 f3) tl)) rfl rfl hl.1 rfl (lv_room (Nat.le_of_ble_eq_true rfl)) dX10_gatherMinimals_86 ⟨Nat.le_of_ble_eq_true rfl, Nat.le_of_ble_eq_true rfl⟩)) (fun r_86 h_86 => ?_)
                      have h_86 : r_86 = (nI (if ∃ j, j < (n3) ∧ blw ((f3) j) (100 * a + 10 * b + c0) then 1 else 0)) := h_86
                      subst h_86
                      refine jn_bne hx hb (tgt := 101) dX10_gatherMinimals_89 (by decide) (fun c_89 => ?_) (fun c_89 => ?_)
                      · refine lv_iinc (v := nI (c0 + 1)) (lv' := [(4, .int (nI (c0 + 1))), (5, .int (nI (100 * a + 10 * b + c0))), (0, .ref (g.2.2.2 0)), (1, .int (nI 4)), (2, .int (nI a)), (3, .int (nI b))]) hx hb dX10_gatherMinimals_101 hl (k := 5) rfl (jn_ii _ 1) (by decide) rfl (fun ls hl => ?_)
                        refine lv_goto (tgt := 42) hx hb dX10_gatherMinimals_104 (by decide) ?_
                        exact ih42 (c0 + 1) n3 f3 (by omega) (by first | exact hnew | exact mn_no h6 (mn_isnt h6 c_89) | exact mn_no h6 (fun q => c_77 (by rw [ev]; exact (rR_at (by omega) (by omega)).mp q.2.2.1))) (by omega) _ _ hP hD hS _ (lv_sub hl [2, 3, 4, 5, 0] rfl)
                      · refine lv_aload_n hx hb dX10_gatherMinimals_92 rfl (lv_at hl 1 rfl) ?_
                        refine va_get (D := (g.1, g.2.1)) (ci := 12) (v := .ref (g.2.2.2 25)) (C := RX10) (T := TX10) (N := 15) hx hb hts iX10 hown hK.1 hP 0 (gC0 g (sA (sA (sF σ 6 n3) 15 f_13) 17 f3) tl) rfl 8 (by decide) k58 (fun _ h9 => h9) rfl dX10_gatherMinimals_93 ?_
                        refine lv_iload hx hb dX10_gatherMinimals_96 (lv_at hl 0 rfl) ?_
                        refine jn_callv (va_runV (As := [.int (nI (100 * a + 10 * b + c0))]) (rest := []) ⟨hx, hb, hml, hown, hts⟩ (c_X4_insert_25 l g tl H.size (sA (sA (sF σ 6 n3) 15 f_13) 17 f3) (100 * a + 10 * b + c0) h6.1 ⟨by omega, by rw [dsum_at (by omega) (by omega)]; omega⟩) (cwV 1 hts gX10_gatherMinimals_X4_insert rfl rfl rfl (by decide +kernel) ⟨Nat.le_of_ble_eq_true rfl, Nat.le_of_ble_eq_true rfl⟩) (okWV hK hP hD rfl (gC25 g (sA (sA (sF σ 6 n3) 15 f_13) 17 f3) tl)) rfl rfl hl.1 rfl (lv_room (Nat.le_of_ble_eq_true rfl)) dX10_gatherMinimals_98 ⟨Nat.le_of_ble_eq_true rfl, Nat.le_of_ble_eq_true rfl⟩) hD hS hAA (fun u H locs hw_ hP hD hS => ?_)
                        obtain ⟨f2_98, n2_98⟩ := u
                        have h_98 := hw_
                        have h_98 : (LOk f2_98 n2_98) ∧ (∀ x, inL f2_98 n2_98 x ↔ inL (f3) (n3) x ∨ x = (100 * a + 10 * b + c0)) := h_98
                        have hP : va_P (g.1, g.2.1) vwCl (wC g (sA (sF (sA (sA (sF σ 6 n3) 15 f_13) 17 f3) 6 n2_98) 17 f2_98) ++ tl) H := hP
                        have hD : va_D A (wC g (sA (sF (sA (sA (sF σ 6 n3) 15 f_13) 17 f3) 6 n2_98) 17 f2_98) ++ tl) := hD
                        have hmn : mnC (σ.2.1 0) (σ.1 0) (100 * a + 10 * b + c0) := mn_is h6 (by omega) (by rw [dsum_at (by omega) (by omega)]; omega) ((rR_at (by omega) (by omega)).mpr (by rw [← ev]; exact c_77)) c_89
                        have hnew := mn_yes h6 hmn h_98.1 h_98.2
                        refine lv_iinc (v := nI (c0 + 1)) (lv' := [(4, .int (nI (c0 + 1))), (5, .int (nI (100 * a + 10 * b + c0))), (0, .ref (g.2.2.2 0)), (1, .int (nI 4)), (2, .int (nI a)), (3, .int (nI b))]) hx hb dX10_gatherMinimals_101 hl (k := 5) rfl (jn_ii _ 1) (by decide) rfl (fun ls hl => ?_)
                        refine lv_goto (tgt := 42) hx hb dX10_gatherMinimals_104 (by decide) ?_
                        exact ih42 (c0 + 1) n2_98 f2_98 (by omega) (by first | exact hnew | exact mn_no h6 (mn_isnt h6 c_89) | exact mn_no h6 (fun q => c_77 (by rw [ev]; exact (rR_at (by omega) (by omega)).mp q.2.2.1))) (by omega) _ _ hP hD hS _ (lv_sub hl [2, 3, 4, 5, 0] rfl)
              exact lp42 _ 0 n3 f3 (by omega) h4 (Nat.lt_succ_self _) _ _ hP hD hS _ (lv_sub hl [1, 2, 3, 4, 0] rfl)
        exact lp32 _ 0 n3 f3 (by omega) h2 (Nat.lt_succ_self _) _ _ hP hD hS _ (lv_sub hl [1, 2, 3, 0] rfl)
  exact lp25 _ 0 0 (σ.2.1 17) (by decide) ⟨⟨by decide, fun i j _ h => absurd h (by omega), fun i h => absurd h (by omega)⟩, fun z => ⟨fun ⟨i, h, _⟩ => absurd h (by omega), fun ⟨h, _⟩ => absurd h (by omega)⟩⟩ (Nat.lt_succ_self _) _ _ hP hD hS _ (lv_sub hl [2, 1, 0] rfl)

abbrev r_c_X10_minimalCount : Room := { frames := 4, cells := 0, slots := 0, locals := 96 }
set_option maxHeartbeats 4000000 in
set_option maxRecDepth 100000 in
theorem c_X10_minimalCount (l : Launch) (g : GC) (tl : va_W) (sz : Nat) (σ : SS) (hA : OkA σ) : Met l yX10_minimalCount wsX10_minimalCount r_c_X10_minimalCount (va_Pc [.ref (g.2.2.2 0)] (PW g (wC g σ ++ tl) sz)) (va_Qi (fun (r : Int32) (z : Nat × (Nat → Nat) × (Nat → Nat)) => match z with | (n6, f15, f17) => (r = nI (n6)) ∧ (LOk f17 n6) ∧ (∀ z, inL f17 n6 z ↔ mnC (σ.2.1 0) (σ.1 0) z)) (fun (z : Nat × (Nat → Nat) × (Nat → Nat)) t => BW g (va_A (wC g σ ++ tl) sz) ((fun z : Nat × (Nat → Nat) × (Nat → Nat) => match z with | (n6, f15, f17) => wC g (sA (sA (sF σ 6 n6) 15 f15) 17 f17) ++ tl) z) t) (va_A (wC g σ ++ tl) sz)) 0 0 (va_A (wC g σ ++ tl) sz) := by
  refine jn_si (wf := fun z : Nat × (Nat → Nat) × (Nat → Nat) => match z with | (n6, f15, f17) => wC g (sA (sA (sF σ 6 n6) 15 f15) 17 f17) ++ tl) (cc := cX10_minimalCount) (maxL := 1) (own := RX10) (by decide) rfl rfl (Nat.le_of_ble_eq_true rfl) ?_
  intro p e s m below meth c Q A hx hb hml hown hts hK hP hD hS hAA hq ls hl
  obtain ⟨H, eH⟩ : ∃ z, z = s.heap := ⟨_, rfl⟩
  obtain ⟨locs, el⟩ : ∃ z : List Loc, z = [] := ⟨_, rfl⟩
  rw [← eH] at hP
  have hS : va_S A s.heap H locs := by rw [eH, el]; exact hS
  have goal0 : W p l e r_c_X10_minimalCount s m ([.ref (g.2.2.2 0)] : List Value).toArray below meth c H locs 0 0 Q (F0 m 0 ls []) → W p l e r_c_X10_minimalCount s m ([.ref (g.2.2.2 0)] : List Value).toArray below meth c s.heap [] 0 0 Q (F0 m 0 ls []) := fun h => by rw [eH, el] at h; exact h
  refine goal0 ?_
  have hl : lv_has ls 1 [(0, .ref (g.2.2.2 0))] := hl
  have iX10 : ∀ w ∈ wsX100, w ∈ wsX10_minimalCount := by decide +kernel
  have iX4 : ∀ w ∈ wsX40, w ∈ wsX10_minimalCount := by decide +kernel
  have k58 := hts (.fieldLink RX10 58 "JumpingAutomata" "minimals" "LJumpingAutomata$CountsList;") (by decide +kernel)
  have k292 := hts (.fieldLink RX10 292 "JumpingAutomata$CountsList" "size" "I") (by decide +kernel)
  refine lv_aload_n hx hb dX10_minimalCount_0 rfl (lv_at hl 0 rfl) ?_
  refine jn_callv (va_runV (As := []) (rest := []) ⟨hx, hb, hml, hown, hts⟩ (c_X10_gatherMinimals l g tl H.size σ hA) (cwV 0 hts gX10_minimalCount_X10_gatherMinimals rfl rfl rfl (by decide +kernel) ⟨Nat.le_of_ble_eq_true rfl, Nat.le_of_ble_eq_true rfl⟩) (okWV hK hP hD rfl (gC0 g σ tl)) rfl rfl hl.1 rfl (lv_room (Nat.le_of_ble_eq_true rfl)) dX10_minimalCount_1 ⟨Nat.le_of_ble_eq_true rfl, Nat.le_of_ble_eq_true rfl⟩) hD hS hAA (fun u H locs hw_ hP hD hS => ?_)
  obtain ⟨n6_1, f15_1, f17_1⟩ := u
  have h_1 := hw_
  have h_1 : (LOk f17_1 n6_1) ∧ (∀ z, inL f17_1 n6_1 z ↔ mnC (σ.2.1 0) (σ.1 0) z) := h_1
  have hP : va_P (g.1, g.2.1) vwCl (wC g (sA (sA (sF σ 6 n6_1) 15 f15_1) 17 f17_1) ++ tl) H := hP
  have hD : va_D A (wC g (sA (sA (sF σ 6 n6_1) 15 f15_1) 17 f17_1) ++ tl) := hD
  refine lv_aload_n hx hb dX10_minimalCount_4 rfl (lv_at hl 0 rfl) ?_
  refine va_get (D := (g.1, g.2.1)) (ci := 12) (v := .ref (g.2.2.2 25)) (C := RX10) (T := TX10) (N := 15) hx hb hts iX10 hown hK.1 hP 0 (gC0 g (sA (sA (sF σ 6 n6_1) 15 f15_1) 17 f17_1) tl) rfl 8 (by decide) k58 (fun _ h9 => h9) rfl dX10_minimalCount_5 ?_
  refine va_get (D := (g.1, g.2.1)) (ci := 6) (v := .int (nI n6_1)) (C := RX4) (T := TX4) (N := 2) hx hb hts iX4 hown hK.1 hP 25 (gC25 g (sA (sA (sF σ 6 n6_1) 15 f15_1) 17 f17_1) tl) rfl 1 (by decide) k292 (fun _ h9 => h9) rfl dX10_minimalCount_8 ?_
  exact hq _ _ _ _ ((nI n6_1)) (n6_1, f15_1, f17_1) dX10_minimalCount_11 ⟨rfl, h_1⟩ hP hD hS

abbrev r_c_X10_cycleCount : Room := { frames := 8, cells := 0, slots := 0, locals := 219 }
set_option maxHeartbeats 4000000 in
set_option maxRecDepth 100000 in
theorem c_X10_cycleCount (l : Launch) (g : GC) (tl : va_W) (sz : Nat) (σ : SS) (hA : OkA σ) (hs8 : σ.1 8 < 5) : Met l yX10_cycleCount wsX10_cycleCount r_c_X10_cycleCount (va_Pc [.ref (g.2.2.2 0)] (PW g (wC g σ ++ tl) sz)) (va_Qi (fun (r : Int32) (z : Nat × Nat × (Nat → Nat)) => match z with | (n7, s8, f18) => (r = nI (n7)) ∧ (LOk f18 n7) ∧ (∀ x, inL f18 n7 x ↔ cyA (σ.2.1 0) (usf σ) 5 x) ∧ (s8 < 5)) (fun (z : Nat × Nat × (Nat → Nat)) t => BW g (va_A (wC g σ ++ tl) sz) ((fun z : Nat × Nat × (Nat → Nat) => match z with | (n7, s8, f18) => wC g (sA (sF (sF σ 7 n7) 8 s8) 18 f18) ++ tl) z) t) (va_A (wC g σ ++ tl) sz)) 0 0 (va_A (wC g σ ++ tl) sz) := by
  refine jn_si (wf := fun z : Nat × Nat × (Nat → Nat) => match z with | (n7, s8, f18) => wC g (sA (sF (sF σ 7 n7) 8 s8) 18 f18) ++ tl) (cc := cX10_cycleCount) (maxL := 1) (own := RX10) (by decide) rfl rfl (Nat.le_of_ble_eq_true rfl) ?_
  intro p e s m below meth c Q A hx hb hml hown hts hK hP hD hS hAA hq ls hl
  obtain ⟨H, eH⟩ : ∃ z, z = s.heap := ⟨_, rfl⟩
  obtain ⟨locs, el⟩ : ∃ z : List Loc, z = [] := ⟨_, rfl⟩
  rw [← eH] at hP
  have hS : va_S A s.heap H locs := by rw [eH, el]; exact hS
  have goal0 : W p l e r_c_X10_cycleCount s m ([.ref (g.2.2.2 0)] : List Value).toArray below meth c H locs 0 0 Q (F0 m 0 ls []) → W p l e r_c_X10_cycleCount s m ([.ref (g.2.2.2 0)] : List Value).toArray below meth c s.heap [] 0 0 Q (F0 m 0 ls []) := fun h => by rw [eH, el] at h; exact h
  refine goal0 ?_
  have hl : lv_has ls 1 [(0, .ref (g.2.2.2 0))] := hl
  have iX10 : ∀ w ∈ wsX100, w ∈ wsX10_cycleCount := by decide +kernel
  have iX4 : ∀ w ∈ wsX40, w ∈ wsX10_cycleCount := by decide +kernel
  have k68 := hts (.fieldLink RX10 68 "JumpingAutomata" "cycleFinder" "LJumpingAutomata$CycleFinder;") (by decide +kernel)
  have k12 := hts (.fieldLink RX10 12 "JumpingAutomata" "automaton" "LJumpingAutomata$Automaton;") (by decide +kernel)
  have k62 := hts (.fieldLink RX10 62 "JumpingAutomata" "cycles" "LJumpingAutomata$CountsList;") (by decide +kernel)
  have k292 := hts (.fieldLink RX10 292 "JumpingAutomata$CountsList" "size" "I") (by decide +kernel)
  refine lv_aload_n hx hb dX10_cycleCount_0 rfl (lv_at hl 0 rfl) ?_
  refine va_get (D := (g.1, g.2.1)) (ci := 12) (v := .ref (g.2.2.2 29)) (C := RX10) (T := TX10) (N := 15) hx hb hts iX10 hown hK.1 hP 0 (gC0 g σ tl) rfl 10 (by decide) k68 (fun _ h9 => h9) rfl dX10_cycleCount_1 ?_
  refine lv_aload_n hx hb dX10_cycleCount_4 rfl (lv_at hl 0 rfl) ?_
  refine va_get (D := (g.1, g.2.1)) (ci := 12) (v := .ref (g.2.2.2 1)) (C := RX10) (T := TX10) (N := 15) hx hb hts iX10 hown hK.1 hP 0 (gC0 g σ tl) rfl 0 (by decide) k12 (fun _ h9 => h9) rfl dX10_cycleCount_5 ?_
  refine lv_aload_n hx hb dX10_cycleCount_8 rfl (lv_at hl 0 rfl) ?_
  refine va_get (D := (g.1, g.2.1)) (ci := 12) (v := .ref (g.2.2.2 27)) (C := RX10) (T := TX10) (N := 15) hx hb hts iX10 hown hK.1 hP 0 (gC0 g σ tl) rfl 9 (by decide) k62 (fun _ h9 => h9) rfl dX10_cycleCount_9 ?_
  refine jn_callv (va_runV (As := [.ref (g.2.2.2 1), .ref (g.2.2.2 27)]) (rest := []) ⟨hx, hb, hml, hown, hts⟩ (c_X6_gather l g tl H.size σ hA hs8) (cwV 2 hts gX10_cycleCount_X6_gather rfl rfl rfl (by decide +kernel) ⟨Nat.le_of_ble_eq_true rfl, Nat.le_of_ble_eq_true rfl⟩) (okWV hK hP hD rfl (gC29 g σ tl)) rfl rfl hl.1 rfl (lv_room (Nat.le_of_ble_eq_true rfl)) dX10_cycleCount_12 ⟨Nat.le_of_ble_eq_true rfl, Nat.le_of_ble_eq_true rfl⟩) hD hS hAA (fun u H locs hw_ hP hD hS => ?_)
  obtain ⟨f2_12, n2_12, s8_12⟩ := u
  have h_12 := hw_
  have h_12 : (LOk f2_12 n2_12) ∧ (∀ x, inL f2_12 n2_12 x ↔ cyA (σ.2.1 0) (usf σ) 5 x) ∧ (s8_12 < 5) := h_12
  have hP : va_P (g.1, g.2.1) vwCl (wC g (sA (sF (sF σ 7 n2_12) 8 s8_12) 18 f2_12) ++ tl) H := hP
  have hD : va_D A (wC g (sA (sF (sF σ 7 n2_12) 8 s8_12) 18 f2_12) ++ tl) := hD
  refine lv_aload_n hx hb dX10_cycleCount_15 rfl (lv_at hl 0 rfl) ?_
  refine va_get (D := (g.1, g.2.1)) (ci := 12) (v := .ref (g.2.2.2 27)) (C := RX10) (T := TX10) (N := 15) hx hb hts iX10 hown hK.1 hP 0 (gC0 g (sA (sF (sF σ 7 n2_12) 8 s8_12) 18 f2_12) tl) rfl 9 (by decide) k62 (fun _ h9 => h9) rfl dX10_cycleCount_16 ?_
  refine va_get (D := (g.1, g.2.1)) (ci := 6) (v := .int (nI n2_12)) (C := RX4) (T := TX4) (N := 2) hx hb hts iX4 hown hK.1 hP 27 (gC27 g (sA (sF (sF σ 7 n2_12) 8 s8_12) 18 f2_12) tl) rfl 1 (by decide) k292 (fun _ h9 => h9) rfl dX10_cycleCount_19 ?_
  exact hq _ _ _ _ ((nI n2_12)) (n2_12, s8_12, f2_12) dX10_cycleCount_22 ⟨rfl, h_12⟩ hP hD hS

abbrev r_c_X10_clearAutomaton : Room := { frames := 5, cells := 0, slots := 0, locals := 150 }
set_option maxHeartbeats 4000000 in
set_option maxRecDepth 100000 in
theorem c_X10_clearAutomaton (l : Launch) (g : GC) (tl : va_W) (sz : Nat) (σ : SS) (hM : OkM σ) : Met l yX10_clearAutomaton wsX10_clearAutomaton r_c_X10_clearAutomaton (va_Pc [.ref (g.2.2.2 0)] (PW g (wC g σ ++ tl) sz)) (va_Qv (fun (z : (Nat → Nat) × (Nat → Nat)) => match z with | (f0, f1) => (∀ k, k < 15 → f0 k = 0) ∧ (∀ x, x < 3 → ∀ m, m < 32 → f1 (x * 32 + m) = stp f0 x m)) (fun (z : (Nat → Nat) × (Nat → Nat)) t => BW g (va_A (wC g σ ++ tl) sz) ((fun z : (Nat → Nat) × (Nat → Nat) => match z with | (f0, f1) => wC g (sF (sA (sF (sA (sF (sF (sL σ (2 + σ.1 9) (snp σ (σ.2.2 (2 + σ.1 9)))) 9 ((σ.1 9 + 1) % 8)) 10 (min (σ.1 10 + 1) 8)) 0 f0) 0 0) 1 f1) 21 0) ++ tl) z) t) (va_A (wC g σ ++ tl) sz)) 0 0 (va_A (wC g σ ++ tl) sz) := by
  refine jn_sv (wf := fun z : (Nat → Nat) × (Nat → Nat) => match z with | (f0, f1) => wC g (sF (sA (sF (sA (sF (sF (sL σ (2 + σ.1 9) (snp σ (σ.2.2 (2 + σ.1 9)))) 9 ((σ.1 9 + 1) % 8)) 10 (min (σ.1 10 + 1) 8)) 0 f0) 0 0) 1 f1) 21 0) ++ tl) (cc := cX10_clearAutomaton) (maxL := 1) (own := RX10) (by decide) rfl rfl (Nat.le_of_ble_eq_true rfl) ?_
  intro p e s m below meth c Q A hx hb hml hown hts hK hP hD hS hAA hq ls hl
  obtain ⟨H, eH⟩ : ∃ z, z = s.heap := ⟨_, rfl⟩
  obtain ⟨locs, el⟩ : ∃ z : List Loc, z = [] := ⟨_, rfl⟩
  rw [← eH] at hP
  have hS : va_S A s.heap H locs := by rw [eH, el]; exact hS
  have goal0 : W p l e r_c_X10_clearAutomaton s m ([.ref (g.2.2.2 0)] : List Value).toArray below meth c H locs 0 0 Q (F0 m 0 ls []) → W p l e r_c_X10_clearAutomaton s m ([.ref (g.2.2.2 0)] : List Value).toArray below meth c s.heap [] 0 0 Q (F0 m 0 ls []) := fun h => by rw [eH, el] at h; exact h
  refine goal0 ?_
  have hl : lv_has ls 1 [(0, .ref (g.2.2.2 0))] := hl
  have iX10 : ∀ w ∈ wsX100, w ∈ wsX10_clearAutomaton := by decide +kernel
  have k12 := hts (.fieldLink RX10 12 "JumpingAutomata" "automaton" "LJumpingAutomata$Automaton;") (by decide +kernel)
  refine lv_aload_n hx hb dX10_clearAutomaton_0 rfl (lv_at hl 0 rfl) ?_
  refine jn_callv (va_runV (As := []) (rest := []) ⟨hx, hb, hml, hown, hts⟩ (c_X10_beginChange l g tl H.size σ hM) (cwV 0 hts gX10_clearAutomaton_X10_beginChange rfl rfl rfl (by decide +kernel) ⟨Nat.le_of_ble_eq_true rfl, Nat.le_of_ble_eq_true rfl⟩) (okWV hK hP hD rfl (gC0 g σ tl)) rfl rfl hl.1 rfl (lv_room (Nat.le_of_ble_eq_true rfl)) dX10_clearAutomaton_1 ⟨Nat.le_of_ble_eq_true rfl, Nat.le_of_ble_eq_true rfl⟩) hD hS hAA (fun u H locs hw_ hP hD hS => ?_)
  have hP : va_P (g.1, g.2.1) vwCl (wC g (sF (sF (sL σ (2 + σ.1 9) (snp σ (σ.2.2 (2 + σ.1 9)))) 9 ((σ.1 9 + 1) % 8)) 10 (min (σ.1 10 + 1) 8)) ++ tl) H := hP
  have hD : va_D A (wC g (sF (sF (sL σ (2 + σ.1 9) (snp σ (σ.2.2 (2 + σ.1 9)))) 9 ((σ.1 9 + 1) % 8)) 10 (min (σ.1 10 + 1) 8)) ++ tl) := hD
  refine lv_aload_n hx hb dX10_clearAutomaton_4 rfl (lv_at hl 0 rfl) ?_
  refine va_get (D := (g.1, g.2.1)) (ci := 12) (v := .ref (g.2.2.2 1)) (C := RX10) (T := TX10) (N := 15) hx hb hts iX10 hown hK.1 hP 0 (gC0 g (sF (sF (sL σ (2 + σ.1 9) (snp σ (σ.2.2 (2 + σ.1 9)))) 9 ((σ.1 9 + 1) % 8)) 10 (min (σ.1 10 + 1) 8)) tl) rfl 0 (by decide) k12 (fun _ h9 => h9) rfl dX10_clearAutomaton_5 ?_
  refine jn_callv (va_runV (As := []) (rest := []) ⟨hx, hb, hml, hown, hts⟩ (c_X0_wipe l g tl H.size (sF (sF (sL σ (2 + σ.1 9) (snp σ (σ.2.2 (2 + σ.1 9)))) 9 ((σ.1 9 + 1) % 8)) 10 (min (σ.1 10 + 1) 8))) (cwV 0 hts gX10_clearAutomaton_X0_wipe rfl rfl rfl (by decide +kernel) ⟨Nat.le_of_ble_eq_true rfl, Nat.le_of_ble_eq_true rfl⟩) (okWV hK hP hD rfl (gC1 g (sF (sF (sL σ (2 + σ.1 9) (snp σ (σ.2.2 (2 + σ.1 9)))) 9 ((σ.1 9 + 1) % 8)) 10 (min (σ.1 10 + 1) 8)) tl)) rfl rfl hl.1 rfl (lv_room (Nat.le_of_ble_eq_true rfl)) dX10_clearAutomaton_8 ⟨Nat.le_of_ble_eq_true rfl, Nat.le_of_ble_eq_true rfl⟩) hD hS hAA (fun u H locs hw_ hP hD hS => ?_)
  obtain ⟨f_8, rfl⟩ : ∃ z, z = u := ⟨_, rfl⟩
  have h_8 := hw_
  have h_8 : ∀ k, k < 15 → f_8 k = 0 := h_8
  have hP : va_P (g.1, g.2.1) vwCl (wC g (sF (sA (sF (sF (sL σ (2 + σ.1 9) (snp σ (σ.2.2 (2 + σ.1 9)))) 9 ((σ.1 9 + 1) % 8)) 10 (min (σ.1 10 + 1) 8)) 0 f_8) 0 0) ++ tl) H := hP
  have hD : va_D A (wC g (sF (sA (sF (sF (sL σ (2 + σ.1 9) (snp σ (σ.2.2 (2 + σ.1 9)))) 9 ((σ.1 9 + 1) % 8)) 10 (min (σ.1 10 + 1) 8)) 0 f_8) 0 0) ++ tl) := hD
  refine lv_aload_n hx hb dX10_clearAutomaton_11 rfl (lv_at hl 0 rfl) ?_
  refine jn_callv (va_runV (As := []) (rest := []) ⟨hx, hb, hml, hown, hts⟩ (c_X10_endAutomatonChange l g tl H.size (sF (sA (sF (sF (sL σ (2 + σ.1 9) (snp σ (σ.2.2 (2 + σ.1 9)))) 9 ((σ.1 9 + 1) % 8)) 10 (min (σ.1 10 + 1) 8)) 0 f_8) 0 0) (fun k hk => by show f_8 k < 32; rw [h_8 k hk]; decide)) (cwV 0 hts gX10_clearAutomaton_X10_endAutomatonChange rfl rfl rfl (by decide +kernel) ⟨Nat.le_of_ble_eq_true rfl, Nat.le_of_ble_eq_true rfl⟩) (okWV hK hP hD rfl (gC0 g (sF (sA (sF (sF (sL σ (2 + σ.1 9) (snp σ (σ.2.2 (2 + σ.1 9)))) 9 ((σ.1 9 + 1) % 8)) 10 (min (σ.1 10 + 1) 8)) 0 f_8) 0 0) tl)) rfl rfl hl.1 rfl (lv_room (Nat.le_of_ble_eq_true rfl)) dX10_clearAutomaton_12 ⟨Nat.le_of_ble_eq_true rfl, Nat.le_of_ble_eq_true rfl⟩) hD hS hAA (fun u H locs hw_ hP hD hS => ?_)
  obtain ⟨f1_12, rfl⟩ : ∃ z, z = u := ⟨_, rfl⟩
  have h_12 := hw_
  have h_12 : ∀ x, x < 3 → ∀ m, m < 32 → f1_12 (x * 32 + m) = stp (f_8) x m := h_12
  have hP : va_P (g.1, g.2.1) vwCl (wC g (sF (sA (sF (sA (sF (sF (sL σ (2 + σ.1 9) (snp σ (σ.2.2 (2 + σ.1 9)))) 9 ((σ.1 9 + 1) % 8)) 10 (min (σ.1 10 + 1) 8)) 0 f_8) 0 0) 1 f1_12) 21 0) ++ tl) H := hP
  have hD : va_D A (wC g (sF (sA (sF (sA (sF (sF (sL σ (2 + σ.1 9) (snp σ (σ.2.2 (2 + σ.1 9)))) 9 ((σ.1 9 + 1) % 8)) 10 (min (σ.1 10 + 1) 8)) 0 f_8) 0 0) 1 f1_12) 21 0) ++ tl) := hD
  exact hq _ _ _ _ (f_8, f1_12) dX10_clearAutomaton_15 ⟨h_8, h_12⟩ hP hD hS

abbrev r_c_X10_isDifference : Room := { frames := 1, cells := 0, slots := 0, locals := 21 }
set_option maxHeartbeats 4000000 in
set_option maxRecDepth 100000 in
theorem c_X10_isDifference (l : Launch) (g : GC) (tl : va_W) (σ : SS) (k b : Nat) (hA : OkA σ) (hk : k < 1000) (hb2 : b < 2) (h16 : (σ.2.1 16) k < 16) : Met l yX10_isDifference wsX10_isDifference r_c_X10_isDifference (va_Pc [.ref (g.2.2.2 0), .int (nI k), .int (nI b)] (PP g (wC g σ ++ tl))) (vp_Si (fun r => r = nI (if dfP (σ.2.1 15) (σ.2.1 16) (σ.1 0) b k then 1 else 0))) 0 0 (fun _ => False) := by
  refine jn_pz (cc := cX10_isDifference) (maxL := 5) (own := RX10) (by decide) rfl rfl (Nat.le_of_ble_eq_true rfl) ?_
  intro p e s m below meth c Q hx hb hml hown hts ⟨hP, hK⟩ hq ls hl
  have hl : lv_has ls 5 [(0, .ref (g.2.2.2 0)), (1, .int (nI k)), (2, .int (nI b))] := hl
  have iX10 : ∀ w ∈ wsX100, w ∈ wsX10_isDifference := by decide +kernel
  have k12 := hts (.fieldLink RX10 12 "JumpingAutomata" "automaton" "LJumpingAutomata$Automaton;") (by decide +kernel)
  have k48 := hts (.fieldLink RX10 48 "JumpingAutomata" "reached" "LJumpingAutomata$CountsTable;") (by decide +kernel)
  have k52 := hts (.fieldLink RX10 52 "JumpingAutomata" "members" "LJumpingAutomata$CountsTable;") (by decide +kernel)
  refine lv_aload_n hx hb dX10_isDifference_0 rfl (lv_at hl 0 rfl) ?_
  refine va_get (D := (g.1, g.2.1)) (ci := 12) (v := .ref (g.2.2.2 1)) (C := RX10) (T := TX10) (N := 15) hx hb hts iX10 hown hK.1 hP 0 (gC0 g σ tl) rfl 0 (by decide) k12 (fun _ h9 => h9) rfl dX10_isDifference_1 ?_
  refine lv_aload_n hx hb dX10_isDifference_4 rfl (lv_at hl 0 rfl) ?_
  refine va_get (D := (g.1, g.2.1)) (ci := 12) (v := .ref (g.2.2.2 21)) (C := RX10) (T := TX10) (N := 15) hx hb hts iX10 hown hK.1 hP 0 (gC0 g σ tl) rfl 6 (by decide) k48 (fun _ h9 => h9) rfl dX10_isDifference_5 ?_
  refine lv_iload_n hx hb dX10_isDifference_8 rfl (lv_at hl 1 rfl) ?_
  refine vp_callSi (va_Run.run (va_runV (As := [.int (nI k)]) (rest := [.ref (g.2.2.2 1)]) ⟨hx, hb, hml, hown, hts⟩ (c_X5_at_21 l g tl σ k hk) (cwV 1 hts gX10_isDifference_X5_at rfl rfl rfl (by decide +kernel) ⟨Nat.le_of_ble_eq_true rfl, Nat.le_of_ble_eq_true rfl⟩) (okPV hK hP rfl (gC21 g σ tl)) rfl rfl hl.1 rfl (lv_room (Nat.le_of_ble_eq_true rfl)) dX10_isDifference_9 ⟨Nat.le_of_ble_eq_true rfl, Nat.le_of_ble_eq_true rfl⟩)) (fun r_9 h_9 => ?_)
  subst h_9
  refine vp_callSi (va_Run.run (va_runV (As := [.int (nI ((σ.2.1 15) k))]) (rest := []) ⟨hx, hb, hml, hown, hts⟩ (c_X0_accepting l g tl σ ((σ.2.1 15) k) hA) (cwV 1 hts gX10_isDifference_X0_accepting rfl rfl rfl (by decide +kernel) ⟨Nat.le_of_ble_eq_true rfl, Nat.le_of_ble_eq_true rfl⟩) (okPV hK hP rfl (gC1 g σ tl)) rfl rfl hl.1 rfl (lv_room (Nat.le_of_ble_eq_true rfl)) dX10_isDifference_12 ⟨Nat.le_of_ble_eq_true rfl, Nat.le_of_ble_eq_true rfl⟩)) (fun r_12 h_12 => ?_)
  subst h_12
  refine lv_istore_n (lv' := [(3, .int (nI (if ((σ.2.1 15) k) &&& σ.1 0 ≠ 0 then 1 else 0))), (0, .ref (g.2.2.2 0)), (1, .int (nI k)), (2, .int (nI b))]) hx hb dX10_isDifference_15 rfl hl (by decide) rfl (fun ls hl => ?_)
  refine lv_aload_n hx hb dX10_isDifference_16 rfl (lv_at hl 1 rfl) ?_
  refine va_get (D := (g.1, g.2.1)) (ci := 12) (v := .ref (g.2.2.2 23)) (C := RX10) (T := TX10) (N := 15) hx hb hts iX10 hown hK.1 hP 0 (gC0 g σ tl) rfl 7 (by decide) k52 (fun _ h9 => h9) rfl dX10_isDifference_17 ?_
  refine lv_iload_n hx hb dX10_isDifference_20 rfl (lv_at hl 2 rfl) ?_
  refine vp_callSi (va_Run.run (va_runV (As := [.int (nI k)]) (rest := []) ⟨hx, hb, hml, hown, hts⟩ (c_X5_at_23 l g tl σ k hk) (cwV 1 hts gX10_isDifference_X5_at rfl rfl rfl (by decide +kernel) ⟨Nat.le_of_ble_eq_true rfl, Nat.le_of_ble_eq_true rfl⟩) (okPV hK hP rfl (gC23 g σ tl)) rfl rfl hl.1 rfl (lv_room (Nat.le_of_ble_eq_true rfl)) dX10_isDifference_21 ⟨Nat.le_of_ble_eq_true rfl, Nat.le_of_ble_eq_true rfl⟩)) (fun r_21 h_21 => ?_)
  subst h_21
  have jp32 : ∀ v32 : Nat, v32 = (if (σ.2.1 16) k ≠ 0 then 1 else 0) → W p l e r_c_X10_isDifference s m ([.ref (g.2.2.2 0), .int (nI k), .int (nI b)] : List Value).toArray below meth c s.heap [] 0 0 Q (F0 m 32 ls [.int (nI v32)]) := by
    intro v32 ev32
    have v2 : v32 < 2 := by rw [ev32]; split <;> decide
    refine lv_istore (lv' := [(4, .int (nI v32)), (3, .int (nI (if ((σ.2.1 15) k) &&& σ.1 0 ≠ 0 then 1 else 0))), (0, .ref (g.2.2.2 0)), (1, .int (nI k)), (2, .int (nI b))]) hx hb dX10_isDifference_32 hl (by decide) rfl (fun ls hl => ?_)
    refine lv_iload_n hx hb dX10_isDifference_34 rfl (lv_at hl 1 rfl) ?_
    refine lv_iload_n hx hb dX10_isDifference_35 rfl (lv_at hl 4 rfl) ?_
    refine jn_cne hx hb (by split <;> decide) (by omega) (tgt := 49) dX10_isDifference_36 (by decide) (fun c_36 => ?_) (fun c_36 => ?_)
    · refine lv_iconst (v := nI 0) hx hb dX10_isDifference_49 (by decide) ?_
      exact hq _ _ ((nI 0)) dX10_isDifference_50 jn_n0 (by first | rw [if_pos (df_1 hb2 c_36 ev32 c_42)] | rw [if_neg (df_a hb2 c_36)] | rw [if_neg (df_b hb2 ev32 c_42)])
    · refine lv_iload hx hb dX10_isDifference_39 (lv_at hl 0 rfl) ?_
      refine lv_iload_n hx hb dX10_isDifference_41 rfl (lv_at hl 4 rfl) ?_
      refine jn_ceq hx hb (by omega) (by omega) (tgt := 49) dX10_isDifference_42 (by decide) (fun c_42 => ?_) (fun c_42 => ?_)
      · refine lv_iconst (v := nI 0) hx hb dX10_isDifference_49 (by decide) ?_
        exact hq _ _ ((nI 0)) dX10_isDifference_50 jn_n0 (by first | rw [if_pos (df_1 hb2 c_36 ev32 c_42)] | rw [if_neg (df_a hb2 c_36)] | rw [if_neg (df_b hb2 ev32 c_42)])
      · refine lv_iconst (v := nI 1) hx hb dX10_isDifference_45 (by decide) ?_
        refine lv_goto (tgt := 50) hx hb dX10_isDifference_46 (by decide) ?_
        exact hq _ _ ((nI 1)) dX10_isDifference_50 jn_n1 (by first | rw [if_pos (df_1 hb2 c_36 ev32 c_42)] | rw [if_neg (df_a hb2 c_36)] | rw [if_neg (df_b hb2 ev32 c_42)])
  refine jn_zeq hx hb (by omega) (tgt := 31) dX10_isDifference_24 (by decide) (fun c_24 => ?_) (fun c_24 => ?_)
  · refine lv_iconst (v := nI 0) hx hb dX10_isDifference_31 (by decide) ?_
    exact jp32 0 (by rw [if_neg (by omega)])
  · refine lv_iconst (v := nI 1) hx hb dX10_isDifference_27 (by decide) ?_
    refine lv_goto (tgt := 32) hx hb dX10_isDifference_28 (by decide) ?_
    exact jp32 1 (by rw [if_pos c_24])

abbrev r_c_X10_countJumping : Room := { frames := 1, cells := 0, slots := 0, locals := 24 }
set_option maxHeartbeats 4000000 in
set_option maxRecDepth 100000 in
theorem c_X10_countJumping (l : Launch) (g : GC) (tl : va_W) (σ : SS) (n : Nat) (hA : OkA σ) (hn : n ≤ 7) : Met l yX10_countJumping wsX10_countJumping r_c_X10_countJumping (va_Pc [.ref (g.2.2.2 0), .int (nI n)] (PP g (wC g σ ++ tl))) (vp_Sl (fun r => r = lN (cjT (σ.2.1 15) (σ.1 0) n))) 0 0 (fun _ => False) := by
  refine jn_pl (cc := cX10_countJumping) (maxL := 7) (own := RX10) (by decide) rfl rfl (Nat.le_of_ble_eq_true rfl) ?_
  intro p e s m below meth c Q hx hb hml hown hts ⟨hP, hK⟩ hq ls hl
  have hl : lv_has ls 7 [(0, .ref (g.2.2.2 0)), (1, .int (nI n))] := hl
  have iX10 : ∀ w ∈ wsX100, w ∈ wsX10_countJumping := by decide +kernel
  have k12 := hts (.fieldLink RX10 12 "JumpingAutomata" "automaton" "LJumpingAutomata$Automaton;") (by decide +kernel)
  have k48 := hts (.fieldLink RX10 48 "JumpingAutomata" "reached" "LJumpingAutomata$CountsTable;") (by decide +kernel)
  refine lv_lconst (v := lN 0) hx hb dX10_countJumping_0 (by decide) ?_
  refine lv_lstore_n (lv' := [(2, .long (lN 0)), (0, .ref (g.2.2.2 0)), (1, .int (nI n))]) hx hb dX10_countJumping_1 rfl hl (by decide) rfl (fun ls hl => ?_)
  refine lv_iconst (v := nI 0) hx hb dX10_countJumping_2 (by decide) ?_
  refine lv_istore (lv' := [(4, .int (nI 0)), (2, .long (lN 0)), (0, .ref (g.2.2.2 0)), (1, .int (nI n))]) hx hb dX10_countJumping_3 hl (by decide) rfl (fun ls hl => ?_)
  have lp5 : ∀ (fu : Nat), ∀ (a : Nat) (z : Nat), (a ≤ n + 1) → (z = fb_sm (fun a => fb_sm (fun b => if (σ.2.1 15) (100 * a + 10 * b + (n - a - b)) &&& (σ.1 0) ≠ 0 then chF n a a * chF (b + (n - a - b)) b b else 0) (n - a + 1)) a) → n + 1 - a < fu → ∀ ls : Array Slot, lv_has ls 7 [(0, .ref (g.2.2.2 0)), (1, .int (nI n)), (2, .long (lN z)), (4, .int (nI a))] → W p l e r_c_X10_countJumping s m ([.ref (g.2.2.2 0), .int (nI n)] : List Value).toArray below meth c s.heap [] 0 0 Q (F0 m 5 ls []) := by
    intro fu
    induction fu with
    | zero => intro a z h1 h2 hf; exact absurd hf (Nat.not_lt_zero _)
    | succ fu ih5 =>
      intro a z h1 h2 hf ls hl
      refine lv_iload hx hb dX10_countJumping_5 (lv_at hl 3 rfl) ?_
      refine lv_iload_n hx hb dX10_countJumping_7 rfl (lv_at hl 1 rfl) ?_
      refine jn_cgt hx hb (by omega) (by omega) (tgt := 90) dX10_countJumping_8 (by decide) (fun c_8 => ?_) (fun c_8 => ?_)
      · refine lv_lload_n hx hb dX10_countJumping_90 rfl (lv_at hl 2 rfl) ?_
        exact hq _ _ ((lN z)) dX10_countJumping_91 (by rw [h2, show a = n + 1 by omega]; rfl)
      · refine lv_iconst (v := nI 0) hx hb dX10_countJumping_11 (by decide) ?_
        refine lv_istore (lv' := [(5, .int (nI 0)), (0, .ref (g.2.2.2 0)), (1, .int (nI n)), (2, .long (lN z)), (4, .int (nI a))]) hx hb dX10_countJumping_12 hl (by decide) rfl (fun ls hl => ?_)
        have lp14 : ∀ (fu : Nat), ∀ (b : Nat) (z : Nat), (b ≤ n - a + 1) → (z = fb_sm (fun a => fb_sm (fun b => if (σ.2.1 15) (100 * a + 10 * b + (n - a - b)) &&& (σ.1 0) ≠ 0 then chF n a a * chF (b + (n - a - b)) b b else 0) (n - a + 1)) a + fb_sm (fun b => if (σ.2.1 15) (100 * a + 10 * b + (n - a - b)) &&& (σ.1 0) ≠ 0 then chF n a a * chF (b + (n - a - b)) b b else 0) b) → n + 1 - b < fu → ∀ ls : Array Slot, lv_has ls 7 [(0, .ref (g.2.2.2 0)), (1, .int (nI n)), (2, .long (lN z)), (4, .int (nI a)), (5, .int (nI b))] → W p l e r_c_X10_countJumping s m ([.ref (g.2.2.2 0), .int (nI n)] : List Value).toArray below meth c s.heap [] 0 0 Q (F0 m 14 ls []) := by
          intro fu
          induction fu with
          | zero => intro b z h3 h4 hf; exact absurd hf (Nat.not_lt_zero _)
          | succ fu ih14 =>
            intro b z h3 h4 hf ls hl
            refine lv_iload hx hb dX10_countJumping_14 (lv_at hl 3 rfl) ?_
            refine lv_iload hx hb dX10_countJumping_16 (lv_at hl 4 rfl) ?_
            refine jn_iadd hx hb dX10_countJumping_18 ?_
            refine lv_iload_n hx hb dX10_countJumping_19 rfl (lv_at hl 1 rfl) ?_
            refine jn_cgt hx hb (by omega) (by omega) (tgt := 84) dX10_countJumping_20 (by decide) (fun c_20 => ?_) (fun c_20 => ?_)
            · refine lv_iinc (v := nI (a + 1)) (lv' := [(4, .int (nI (a + 1))), (0, .ref (g.2.2.2 0)), (1, .int (nI n)), (2, .long (lN z)), (5, .int (nI b))]) hx hb dX10_countJumping_84 hl (k := 3) rfl (jn_ii _ 1) (by decide) rfl (fun ls hl => ?_)
              refine lv_goto (tgt := 5) hx hb dX10_countJumping_87 (by decide) ?_
              exact ih5 (a + 1) z (by omega) (by rw [h4, show b = n - a + 1 by omega]; rfl) (by omega) _ (lv_sub hl [1, 2, 3, 0] rfl)
            · refine lv_iload_n hx hb dX10_countJumping_23 rfl (lv_at hl 1 rfl) ?_
              refine lv_iload hx hb dX10_countJumping_24 (lv_at hl 3 rfl) ?_
              refine jn_isub hx hb (by omega) dX10_countJumping_26 ?_
              refine lv_iload hx hb dX10_countJumping_27 (lv_at hl 4 rfl) ?_
              refine jn_isub hx hb (by omega) dX10_countJumping_29 ?_
              refine lv_istore (lv' := [(6, .int (nI ((n - a) - b))), (0, .ref (g.2.2.2 0)), (1, .int (nI n)), (2, .long (lN z)), (4, .int (nI a)), (5, .int (nI b))]) hx hb dX10_countJumping_30 hl (by decide) rfl (fun ls hl => ?_)
              refine lv_aload_n hx hb dX10_countJumping_32 rfl (lv_at hl 1 rfl) ?_
              refine va_get (D := (g.1, g.2.1)) (ci := 12) (v := .ref (g.2.2.2 1)) (C := RX10) (T := TX10) (N := 15) hx hb hts iX10 hown hK.1 hP 0 (gC0 g σ tl) rfl 0 (by decide) k12 (fun _ h9 => h9) rfl dX10_countJumping_33 ?_
              refine lv_aload_n hx hb dX10_countJumping_36 rfl (lv_at hl 1 rfl) ?_
              refine va_get (D := (g.1, g.2.1)) (ci := 12) (v := .ref (g.2.2.2 21)) (C := RX10) (T := TX10) (N := 15) hx hb hts iX10 hown hK.1 hP 0 (gC0 g σ tl) rfl 6 (by decide) k48 (fun _ h9 => h9) rfl dX10_countJumping_37 ?_
              refine lv_iload hx hb dX10_countJumping_40 (lv_at hl 4 rfl) ?_
              refine lv_iload hx hb dX10_countJumping_42 (lv_at hl 5 rfl) ?_
              refine lv_iload hx hb dX10_countJumping_44 (lv_at hl 0 rfl) ?_
              refine vp_callSi (va_Run.run (va_runS (As := [.int (nI a), .int (nI b), .int (nI ((n - a) - b))]) (rest := [.ref (g.2.2.2 21), .ref (g.2.2.2 1)]) ⟨hx, hb, hml, hown, hts⟩ (c_X10_codeOf l a b ((n - a) - b)) (va_cwS 3 hts gX10_countJumping_X10_codeOf rfl rfl rfl (by decide +kernel) ⟨Nat.le_of_ble_eq_true rfl, Nat.le_of_ble_eq_true rfl⟩) okTS rfl rfl hl.1 rfl (lv_room (Nat.le_of_ble_eq_true rfl)) dX10_countJumping_46 ⟨Nat.le_of_ble_eq_true rfl, Nat.le_of_ble_eq_true rfl⟩)) (fun r_46 h_46 => ?_)
              subst h_46
              refine vp_callSi (va_Run.run (va_runV (As := [.int (nI (100 * a + 10 * b + ((n - a) - b)))]) (rest := [.ref (g.2.2.2 1)]) ⟨hx, hb, hml, hown, hts⟩ (c_X5_at_21 l g tl σ (100 * a + 10 * b + ((n - a) - b)) (by omega)) (cwV 1 hts gX10_countJumping_X5_at rfl rfl rfl (by decide +kernel) ⟨Nat.le_of_ble_eq_true rfl, Nat.le_of_ble_eq_true rfl⟩) (okPV hK hP rfl (gC21 g σ tl)) rfl rfl hl.1 rfl (lv_room (Nat.le_of_ble_eq_true rfl)) dX10_countJumping_49 ⟨Nat.le_of_ble_eq_true rfl, Nat.le_of_ble_eq_true rfl⟩)) (fun r_49 h_49 => ?_)
              subst h_49
              refine vp_callSi (va_Run.run (va_runV (As := [.int (nI ((σ.2.1 15) (100 * a + 10 * b + ((n - a) - b))))]) (rest := []) ⟨hx, hb, hml, hown, hts⟩ (c_X0_accepting l g tl σ ((σ.2.1 15) (100 * a + 10 * b + ((n - a) - b))) hA) (cwV 1 hts gX10_countJumping_X0_accepting rfl rfl rfl (by decide +kernel) ⟨Nat.le_of_ble_eq_true rfl, Nat.le_of_ble_eq_true rfl⟩) (okPV hK hP rfl (gC1 g σ tl)) rfl rfl hl.1 rfl (lv_room (Nat.le_of_ble_eq_true rfl)) dX10_countJumping_52 ⟨Nat.le_of_ble_eq_true rfl, Nat.le_of_ble_eq_true rfl⟩)) (fun r_52 h_52 => ?_)
              subst h_52
              refine jn_beq hx hb (tgt := 78) dX10_countJumping_55 (by decide) (fun c_55 => ?_) (fun c_55 => ?_)
              · refine lv_iinc (v := nI (b + 1)) (lv' := [(5, .int (nI (b + 1))), (6, .int (nI ((n - a) - b))), (0, .ref (g.2.2.2 0)), (1, .int (nI n)), (2, .long (lN z)), (4, .int (nI a))]) hx hb dX10_countJumping_78 hl (k := 5) rfl (jn_ii _ 1) (by decide) rfl (fun ls hl => ?_)
                refine lv_goto (tgt := 14) hx hb dX10_countJumping_81 (by decide) ?_
                exact ih14 (b + 1) z (by omega) (by rw [h4]; first | exact sm_y (f := (fun b => if (σ.2.1 15) (100 * a + 10 * b + (n - a - b)) &&& (σ.1 0) ≠ 0 then chF n a a * chF (b + (n - a - b)) b b else 0)) (if_pos c_55) | exact sm_n (f := (fun b => if (σ.2.1 15) (100 * a + 10 * b + (n - a - b)) &&& (σ.1 0) ≠ 0 then chF n a a * chF (b + (n - a - b)) b b else 0)) (if_neg c_55)) (by omega) _ (lv_sub hl [2, 3, 4, 5, 0] rfl)
              · refine lv_lload_n hx hb dX10_countJumping_58 rfl (lv_at hl 3 rfl) ?_
                refine lv_iload_n hx hb dX10_countJumping_59 rfl (lv_at hl 2 rfl) ?_
                refine lv_iload hx hb dX10_countJumping_60 (lv_at hl 4 rfl) ?_
                refine vp_callSl (va_Run.run (va_runS (As := [.int (nI n), .int (nI a)]) (rest := [.long (lN z)]) ⟨hx, hb, hml, hown, hts⟩ (c_X10_choose l n a (by omega) (by omega)) (va_cwS 2 hts gX10_countJumping_X10_choose rfl rfl rfl (by decide +kernel) ⟨Nat.le_of_ble_eq_true rfl, Nat.le_of_ble_eq_true rfl⟩) okTS rfl rfl hl.1 rfl (lv_room (Nat.le_of_ble_eq_true rfl)) dX10_countJumping_62 ⟨Nat.le_of_ble_eq_true rfl, Nat.le_of_ble_eq_true rfl⟩)) (fun r_62 h_62 => ?_)
                subst h_62
                refine lv_iload hx hb dX10_countJumping_65 (lv_at hl 5 rfl) ?_
                refine lv_iload hx hb dX10_countJumping_67 (lv_at hl 0 rfl) ?_
                refine jn_iadd hx hb dX10_countJumping_69 ?_
                refine lv_iload hx hb dX10_countJumping_70 (lv_at hl 5 rfl) ?_
                refine vp_callSl (va_Run.run (va_runS (As := [.int (nI (b + ((n - a) - b))), .int (nI b)]) (rest := [.long (lN (chF n a a)), .long (lN z)]) ⟨hx, hb, hml, hown, hts⟩ (c_X10_choose l (b + ((n - a) - b)) b (by omega) (by omega)) (va_cwS 2 hts gX10_countJumping_X10_choose rfl rfl rfl (by decide +kernel) ⟨Nat.le_of_ble_eq_true rfl, Nat.le_of_ble_eq_true rfl⟩) okTS rfl rfl hl.1 rfl (lv_room (Nat.le_of_ble_eq_true rfl)) dX10_countJumping_72 ⟨Nat.le_of_ble_eq_true rfl, Nat.le_of_ble_eq_true rfl⟩)) (fun r_72 h_72 => ?_)
                subst h_72
                refine jn_lmul hx hb dX10_countJumping_75 ?_
                refine jn_ladd hx hb dX10_countJumping_76 ?_
                refine lv_lstore_n (lv' := [(2, .long (lN (z + ((chF n a a) * (chF (b + ((n - a) - b)) b b))))), (6, .int (nI ((n - a) - b))), (0, .ref (g.2.2.2 0)), (1, .int (nI n)), (4, .int (nI a)), (5, .int (nI b))]) hx hb dX10_countJumping_77 rfl hl (by decide) rfl (fun ls hl => ?_)
                refine lv_iinc (v := nI (b + 1)) (lv' := [(5, .int (nI (b + 1))), (2, .long (lN (z + ((chF n a a) * (chF (b + ((n - a) - b)) b b))))), (6, .int (nI ((n - a) - b))), (0, .ref (g.2.2.2 0)), (1, .int (nI n)), (4, .int (nI a))]) hx hb dX10_countJumping_78 hl (k := 5) rfl (jn_ii _ 1) (by decide) rfl (fun ls hl => ?_)
                refine lv_goto (tgt := 14) hx hb dX10_countJumping_81 (by decide) ?_
                exact ih14 (b + 1) (z + ((chF n a a) * (chF (b + ((n - a) - b)) b b))) (by omega) (by rw [h4]; first | exact sm_y (f := (fun b => if (σ.2.1 15) (100 * a + 10 * b + (n - a - b)) &&& (σ.1 0) ≠ 0 then chF n a a * chF (b + (n - a - b)) b b else 0)) (if_pos c_55) | exact sm_n (f := (fun b => if (σ.2.1 15) (100 * a + 10 * b + (n - a - b)) &&& (σ.1 0) ≠ 0 then chF n a a * chF (b + (n - a - b)) b b else 0)) (if_neg c_55)) (by omega) _ (lv_sub hl [3, 4, 1, 5, 0] rfl)
        exact lp14 _ 0 z (by omega) (by rw [h2]; rfl) (Nat.lt_succ_self _) _ (lv_sub hl [1, 2, 3, 4, 0] rfl)
  exact lp5 _ 0 0 (by omega) rfl (Nat.lt_succ_self _) _ (lv_sub hl [2, 3, 1, 0] rfl)

abbrev r_c_X10_countWords : Room := { frames := 13, cells := 0, slots := 0, locals := 345 }
set_option maxHeartbeats 4000000 in
set_option maxRecDepth 100000 in
theorem c_X10_countWords (l : Launch) (g : GC) (tl : va_W) (sz : Nat) (σ : SS) (md n : Nat) (hA : OkA σ) (hmd : md < 3) (hn : n ≤ 7) : Met l yX10_countWords wsX10_countWords r_c_X10_countWords (va_Pc [.ref (g.2.2.2 0), .int (nI md), .int (nI n)] (PW g (wC g σ ++ tl) sz)) (va_Ql (fun (r : Int64) (z : (Nat → Nat) × (Nat → Nat) × (Nat → Nat) × Nat × Nat × Nat × Nat × Nat) => match z with | (f15, l0, l1, m2, r2, k2, j2, p2) => r = lN (cwN (σ.2.1 0) (σ.1 0) md n)) (fun (z : (Nat → Nat) × (Nat → Nat) × (Nat → Nat) × Nat × Nat × Nat × Nat × Nat) t => BW g (va_A (wC g σ ++ tl) sz) ((fun z : (Nat → Nat) × (Nat → Nat) × (Nat → Nat) × Nat × Nat × Nat × Nat × Nat => match z with | (f15, l0, l1, m2, r2, k2, j2, p2) => wC g (sF (sF (sF (sF (sF (sL (sL (sA σ 15 f15) 0 l0) 1 l1) 12 m2) 13 r2) 14 k2) 15 j2) 16 p2) ++ tl) z) t) (va_A (wC g σ ++ tl) sz)) 0 0 (va_A (wC g σ ++ tl) sz) := by
  refine jn_sl (wf := fun z : (Nat → Nat) × (Nat → Nat) × (Nat → Nat) × Nat × Nat × Nat × Nat × Nat => match z with | (f15, l0, l1, m2, r2, k2, j2, p2) => wC g (sF (sF (sF (sF (sF (sL (sL (sA σ 15 f15) 0 l0) 1 l1) 12 m2) 13 r2) 14 k2) 15 j2) 16 p2) ++ tl) (cc := cX10_countWords) (maxL := 3) (own := RX10) (by decide) rfl rfl (Nat.le_of_ble_eq_true rfl) ?_
  intro p e s m below meth c Q A hx hb hml hown hts hK hP hD hS hAA hq ls hl
  obtain ⟨H, eH⟩ : ∃ z, z = s.heap := ⟨_, rfl⟩
  obtain ⟨locs, el⟩ : ∃ z : List Loc, z = [] := ⟨_, rfl⟩
  rw [← eH] at hP
  have hS : va_S A s.heap H locs := by rw [eH, el]; exact hS
  have goal0 : W p l e r_c_X10_countWords s m ([.ref (g.2.2.2 0), .int (nI md), .int (nI n)] : List Value).toArray below meth c H locs 0 0 Q (F0 m 0 ls []) → W p l e r_c_X10_countWords s m ([.ref (g.2.2.2 0), .int (nI md), .int (nI n)] : List Value).toArray below meth c s.heap [] 0 0 Q (F0 m 0 ls []) := fun h => by rw [eH, el] at h; exact h
  refine goal0 ?_
  have hl : lv_has ls 3 [(0, .ref (g.2.2.2 0)), (1, .int (nI md)), (2, .int (nI n))] := hl
  have iX10 : ∀ w ∈ wsX100, w ∈ wsX10_countWords := by decide +kernel
  have k82 := hts (.fieldLink RX10 82 "JumpingAutomata" "oneWay" "LJumpingAutomata$OneWayReader;") (by decide +kernel)
  have k12 := hts (.fieldLink RX10 12 "JumpingAutomata" "automaton" "LJumpingAutomata$Automaton;") (by decide +kernel)
  have k48 := hts (.fieldLink RX10 48 "JumpingAutomata" "reached" "LJumpingAutomata$CountsTable;") (by decide +kernel)
  have k75 := hts (.fieldLink RX10 75 "JumpingAutomata" "search" "LJumpingAutomata$WordSearch;") (by decide +kernel)
  refine lv_iload_n hx hb dX10_countWords_0 rfl (lv_at hl 1 rfl) ?_
  refine jn_zne hx hb (by omega) (tgt := 17) dX10_countWords_1 (by decide) (fun c_1 => ?_) (fun c_1 => ?_)
  · refine lv_iload_n hx hb dX10_countWords_17 rfl (lv_at hl 1 rfl) ?_
    refine lv_iconst (v := nI 1) hx hb dX10_countWords_18 (by decide) ?_
    refine jn_cne hx hb (by omega) (by decide) (tgt := 42) dX10_countWords_19 (by decide) (fun c_19 => ?_) (fun c_19 => ?_)
    · refine lv_aload_n hx hb dX10_countWords_42 rfl (lv_at hl 0 rfl) ?_
      refine va_get (D := (g.1, g.2.1)) (ci := 12) (v := .ref (g.2.2.2 35)) (C := RX10) (T := TX10) (N := 15) hx hb hts iX10 hown hK.1 hP 0 (gC0 g σ tl) rfl 12 (by decide) k82 (fun _ h9 => h9) rfl dX10_countWords_43 ?_
      refine lv_aload_n hx hb dX10_countWords_46 rfl (lv_at hl 0 rfl) ?_
      refine va_get (D := (g.1, g.2.1)) (ci := 12) (v := .ref (g.2.2.2 1)) (C := RX10) (T := TX10) (N := 15) hx hb hts iX10 hown hK.1 hP 0 (gC0 g σ tl) rfl 0 (by decide) k12 (fun _ h9 => h9) rfl dX10_countWords_47 ?_
      refine lv_iload_n hx hb dX10_countWords_50 rfl (lv_at hl 2 rfl) ?_
      refine jn_calll (va_runV (As := [.ref (g.2.2.2 1), .int (nI n)]) (rest := []) ⟨hx, hb, hml, hown, hts⟩ (c_X8_countAccepted l g tl H.size σ n hA hn) (cwV 2 hts gX10_countWords_X8_countAccepted rfl rfl rfl (by decide +kernel) ⟨Nat.le_of_ble_eq_true rfl, Nat.le_of_ble_eq_true rfl⟩) (okWV hK hP hD rfl (gC35 g σ tl)) rfl rfl hl.1 rfl (lv_room (Nat.le_of_ble_eq_true rfl)) dX10_countWords_51 ⟨Nat.le_of_ble_eq_true rfl, Nat.le_of_ble_eq_true rfl⟩) hD hS hAA (fun r_51 u H locs hw_ hP hD hS => ?_)
      obtain ⟨m2_51, r2_51, k2_51, j2_51, p2_51⟩ := u
      obtain rfl := hw_
      have hP : va_P (g.1, g.2.1) vwCl (wC g (sF (sF (sF (sF (sF σ 12 m2_51) 13 r2_51) 14 k2_51) 15 j2_51) 16 p2_51) ++ tl) H := hP
      have hD : va_D A (wC g (sF (sF (sF (sF (sF σ 12 m2_51) 13 r2_51) 14 k2_51) 15 j2_51) 16 p2_51) ++ tl) := hD
      exact hq _ _ _ _ ((lN (cO (σ.2.1 0) (σ.1 0) n n (1, [])))) ((σ.2.1 15), (σ.2.2 0), (σ.2.2 1), m2_51, r2_51, k2_51, j2_51, p2_51) dX10_countWords_54 (by unfold cwN; rw [if_neg (by omega), if_neg (by omega)]) hP hD hS
    · refine lv_aload_n hx hb dX10_countWords_22 rfl (lv_at hl 0 rfl) ?_
      refine va_get (D := (g.1, g.2.1)) (ci := 12) (v := .ref (g.2.2.2 21)) (C := RX10) (T := TX10) (N := 15) hx hb hts iX10 hown hK.1 hP 0 (gC0 g σ tl) rfl 6 (by decide) k48 (fun _ h9 => h9) rfl dX10_countWords_23 ?_
      refine lv_aload_n hx hb dX10_countWords_26 rfl (lv_at hl 0 rfl) ?_
      refine va_get (D := (g.1, g.2.1)) (ci := 12) (v := .ref (g.2.2.2 1)) (C := RX10) (T := TX10) (N := 15) hx hb hts iX10 hown hK.1 hP 0 (gC0 g σ tl) rfl 0 (by decide) k12 (fun _ h9 => h9) rfl dX10_countWords_27 ?_
      refine lv_iload_n hx hb dX10_countWords_30 rfl (lv_at hl 2 rfl) ?_
      refine lv_iload_n hx hb dX10_countWords_31 rfl (lv_at hl 2 rfl) ?_
      refine lv_iload_n hx hb dX10_countWords_32 rfl (lv_at hl 2 rfl) ?_
      refine jn_callv (va_runV (As := [.ref (g.2.2.2 1), .int (nI n), .int (nI n), .int (nI n)]) (rest := []) ⟨hx, hb, hml, hown, hts⟩ (c_X5_fillReached_21 l g tl H.size σ n n n hA (by omega) (by omega) (by omega)) (cwV 4 hts gX10_countWords_X5_fillReached rfl rfl rfl (by decide +kernel) ⟨Nat.le_of_ble_eq_true rfl, Nat.le_of_ble_eq_true rfl⟩) (okWV hK hP hD rfl (gC21 g σ tl)) rfl rfl hl.1 rfl (lv_room (Nat.le_of_ble_eq_true rfl)) dX10_countWords_33 ⟨Nat.le_of_ble_eq_true rfl, Nat.le_of_ble_eq_true rfl⟩) hD hS hAA (fun u H locs hw_ hP hD hS => ?_)
      obtain ⟨f_33, rfl⟩ : ∃ z, z = u := ⟨_, rfl⟩
      have h_33 := hw_
      have h_33 : ∀ a b c, a ≤ n → b ≤ n → c ≤ n → f_33 (100 * a + 10 * b + c) = rch (σ.2.1 0) a b c := h_33
      have hP : va_P (g.1, g.2.1) vwCl (wC g (sA σ 15 f_33) ++ tl) H := hP
      have hD : va_D A (wC g (sA σ 15 f_33) ++ tl) := hD
      refine lv_aload_n hx hb dX10_countWords_36 rfl (lv_at hl 0 rfl) ?_
      refine lv_iload_n hx hb dX10_countWords_37 rfl (lv_at hl 2 rfl) ?_
      refine vp_callSl (va_Run.run (va_runV (As := [.int (nI n)]) (rest := []) ⟨hx, hb, hml, hown, hts⟩ (c_X10_countJumping l g tl (sA σ 15 f_33) n hA hn) (cwV 1 hts gX10_countWords_X10_countJumping rfl rfl rfl (by decide +kernel) ⟨Nat.le_of_ble_eq_true rfl, Nat.le_of_ble_eq_true rfl⟩) (okPV hK hP rfl (gC0 g (sA σ 15 f_33) tl)) rfl rfl hl.1 rfl (lv_room (Nat.le_of_ble_eq_true rfl)) dX10_countWords_38 ⟨Nat.le_of_ble_eq_true rfl, Nat.le_of_ble_eq_true rfl⟩)) (fun r_38 h_38 => ?_)
      have h_38 : r_38 = (lN (cjT (f_33) (σ.1 0) n)) := h_38
      subst h_38
      exact hq _ _ _ _ ((lN (cjT (f_33) (σ.1 0) n))) (f_33, (σ.2.2 0), (σ.2.2 1), (σ.1 12), (σ.1 13), (σ.1 14), (σ.1 15), (σ.1 16)) dX10_countWords_41 (by unfold cwN; rw [if_neg (by omega), if_pos (by omega), cjT_R (by omega) (Nat.le_refl n) h_33]) hP hD hS
  · refine lv_aload_n hx hb dX10_countWords_4 rfl (lv_at hl 0 rfl) ?_
    refine va_get (D := (g.1, g.2.1)) (ci := 12) (v := .ref (g.2.2.2 30)) (C := RX10) (T := TX10) (N := 15) hx hb hts iX10 hown hK.1 hP 0 (gC0 g σ tl) rfl 11 (by decide) k75 (fun _ h9 => h9) rfl dX10_countWords_5 ?_
    refine lv_aload_n hx hb dX10_countWords_8 rfl (lv_at hl 0 rfl) ?_
    refine va_get (D := (g.1, g.2.1)) (ci := 12) (v := .ref (g.2.2.2 1)) (C := RX10) (T := TX10) (N := 15) hx hb hts iX10 hown hK.1 hP 0 (gC0 g σ tl) rfl 0 (by decide) k12 (fun _ h9 => h9) rfl dX10_countWords_9 ?_
    refine lv_iload_n hx hb dX10_countWords_12 rfl (lv_at hl 2 rfl) ?_
    refine jn_calll (va_runV (As := [.ref (g.2.2.2 1), .int (nI n)]) (rest := []) ⟨hx, hb, hml, hown, hts⟩ (c_X9_countInOrder l g tl H.size σ n hA (by omega)) (cwV 2 hts gX10_countWords_X9_countInOrder rfl rfl rfl (by decide +kernel) ⟨Nat.le_of_ble_eq_true rfl, Nat.le_of_ble_eq_true rfl⟩) (okWV hK hP hD rfl (gC30 g σ tl)) rfl rfl hl.1 rfl (lv_room (Nat.le_of_ble_eq_true rfl)) dX10_countWords_13 ⟨Nat.le_of_ble_eq_true rfl, Nat.le_of_ble_eq_true rfl⟩) hD hS hAA (fun r_13 u H locs hw_ hP hD hS => ?_)
    obtain ⟨f_13, g1_13⟩ := u
    obtain rfl := hw_
    have hP : va_P (g.1, g.2.1) vwCl (wC g (sL (sL σ 0 f_13) 1 g1_13) ++ tl) H := hP
    have hD : va_D A (wC g (sL (sL σ 0 f_13) 1 g1_13) ++ tl) := hD
    exact hq _ _ _ _ ((lN (fb_sm (fun m => if m &&& (σ.1 0) ≠ 0 then dpI (σ.2.1 0) n m else 0) 32))) ((σ.2.1 15), f_13, g1_13, (σ.1 12), (σ.1 13), (σ.1 14), (σ.1 15), (σ.1 16)) dX10_countWords_16 (by unfold cwN; rw [if_pos (by omega)]; rfl) hP hD hS

abbrev r_c_X10_shortestOpenLength : Room := { frames := 3, cells := 0, slots := 0, locals := 89 }
set_option maxHeartbeats 4000000 in
set_option maxRecDepth 100000 in
theorem c_X10_shortestOpenLength (l : Launch) (g : GC) (tl : va_W) (sz : Nat) (σ : SS) (n : Nat) (hA : OkA σ) (hn : n ≤ 7) : Met l yX10_shortestOpenLength wsX10_shortestOpenLength r_c_X10_shortestOpenLength (va_Pc [.ref (g.2.2.2 0), .int (nI n)] (PW g (wC g σ ++ tl) sz)) (va_Qi (fun (r : Int32) (z : (Nat → Nat) × (Nat → Nat) × (Nat → Nat)) => match z with | (f15, l0, l1) => (r = nI (solR (σ.2.1 0) (σ.1 0) n)) ∧ (∀ a b c, a ≤ n → b ≤ n → c ≤ n → f15 (100 * a + 10 * b + c) = rch (σ.2.1 0) a b c)) (fun (z : (Nat → Nat) × (Nat → Nat) × (Nat → Nat)) t => BW g (va_A (wC g σ ++ tl) sz) ((fun z : (Nat → Nat) × (Nat → Nat) × (Nat → Nat) => match z with | (f15, l0, l1) => wC g (sL (sL (sA σ 15 f15) 0 l0) 1 l1) ++ tl) z) t) (va_A (wC g σ ++ tl) sz)) 0 0 (va_A (wC g σ ++ tl) sz) := by
  refine jn_si (wf := fun z : (Nat → Nat) × (Nat → Nat) × (Nat → Nat) => match z with | (f15, l0, l1) => wC g (sL (sL (sA σ 15 f15) 0 l0) 1 l1) ++ tl) (cc := cX10_shortestOpenLength) (maxL := 3) (own := RX10) (by decide) rfl rfl (Nat.le_of_ble_eq_true rfl) ?_
  intro p e s m below meth c Q A hx hb hml hown hts hK hP hD hS hAA hq ls hl
  obtain ⟨H, eH⟩ : ∃ z, z = s.heap := ⟨_, rfl⟩
  obtain ⟨locs, el⟩ : ∃ z : List Loc, z = [] := ⟨_, rfl⟩
  rw [← eH] at hP
  have hS : va_S A s.heap H locs := by rw [eH, el]; exact hS
  have goal0 : W p l e r_c_X10_shortestOpenLength s m ([.ref (g.2.2.2 0), .int (nI n)] : List Value).toArray below meth c H locs 0 0 Q (F0 m 0 ls []) → W p l e r_c_X10_shortestOpenLength s m ([.ref (g.2.2.2 0), .int (nI n)] : List Value).toArray below meth c s.heap [] 0 0 Q (F0 m 0 ls []) := fun h => by rw [eH, el] at h; exact h
  refine goal0 ?_
  have hl : lv_has ls 3 [(0, .ref (g.2.2.2 0)), (1, .int (nI n))] := hl
  have iX10 : ∀ w ∈ wsX100, w ∈ wsX10_shortestOpenLength := by decide +kernel
  have k48 := hts (.fieldLink RX10 48 "JumpingAutomata" "reached" "LJumpingAutomata$CountsTable;") (by decide +kernel)
  have k12 := hts (.fieldLink RX10 12 "JumpingAutomata" "automaton" "LJumpingAutomata$Automaton;") (by decide +kernel)
  have k75 := hts (.fieldLink RX10 75 "JumpingAutomata" "search" "LJumpingAutomata$WordSearch;") (by decide +kernel)
  refine lv_aload_n hx hb dX10_shortestOpenLength_0 rfl (lv_at hl 0 rfl) ?_
  refine va_get (D := (g.1, g.2.1)) (ci := 12) (v := .ref (g.2.2.2 21)) (C := RX10) (T := TX10) (N := 15) hx hb hts iX10 hown hK.1 hP 0 (gC0 g σ tl) rfl 6 (by decide) k48 (fun _ h9 => h9) rfl dX10_shortestOpenLength_1 ?_
  refine lv_aload_n hx hb dX10_shortestOpenLength_4 rfl (lv_at hl 0 rfl) ?_
  refine va_get (D := (g.1, g.2.1)) (ci := 12) (v := .ref (g.2.2.2 1)) (C := RX10) (T := TX10) (N := 15) hx hb hts iX10 hown hK.1 hP 0 (gC0 g σ tl) rfl 0 (by decide) k12 (fun _ h9 => h9) rfl dX10_shortestOpenLength_5 ?_
  refine lv_iload_n hx hb dX10_shortestOpenLength_8 rfl (lv_at hl 1 rfl) ?_
  refine lv_iload_n hx hb dX10_shortestOpenLength_9 rfl (lv_at hl 1 rfl) ?_
  refine lv_iload_n hx hb dX10_shortestOpenLength_10 rfl (lv_at hl 1 rfl) ?_
  refine jn_callv (va_runV (As := [.ref (g.2.2.2 1), .int (nI n), .int (nI n), .int (nI n)]) (rest := []) ⟨hx, hb, hml, hown, hts⟩ (c_X5_fillReached_21 l g tl H.size σ n n n hA (by omega) (by omega) (by omega)) (cwV 4 hts gX10_shortestOpenLength_X5_fillReached rfl rfl rfl (by decide +kernel) ⟨Nat.le_of_ble_eq_true rfl, Nat.le_of_ble_eq_true rfl⟩) (okWV hK hP hD rfl (gC21 g σ tl)) rfl rfl hl.1 rfl (lv_room (Nat.le_of_ble_eq_true rfl)) dX10_shortestOpenLength_11 ⟨Nat.le_of_ble_eq_true rfl, Nat.le_of_ble_eq_true rfl⟩) hD hS hAA (fun u H locs hw_ hP hD hS => ?_)
  obtain ⟨f_11, rfl⟩ : ∃ z, z = u := ⟨_, rfl⟩
  have h_11 := hw_
  have h_11 : ∀ a b c, a ≤ n → b ≤ n → c ≤ n → f_11 (100 * a + 10 * b + c) = rch (σ.2.1 0) a b c := h_11
  have hP : va_P (g.1, g.2.1) vwCl (wC g (sA σ 15 f_11) ++ tl) H := hP
  have hD : va_D A (wC g (sA σ 15 f_11) ++ tl) := hD
  refine lv_iconst (v := nI 0) hx hb dX10_shortestOpenLength_14 (by decide) ?_
  refine lv_istore_n (lv' := [(2, .int (nI 0)), (0, .ref (g.2.2.2 0)), (1, .int (nI n))]) hx hb dX10_shortestOpenLength_15 rfl hl (by decide) rfl (fun ls hl => ?_)
  have lp16 : ∀ (fu : Nat), ∀ (k : Nat) (l0 : Nat → Nat) (l1 : Nat → Nat), (k ≤ n + 1) → (∀ z, z < k → cjR (σ.2.1 0) (σ.1 0) z = ciO (σ.2.1 0) (σ.1 0) z) → n + 1 - k < fu → ∀ (H : Heap) (locs : List Loc), va_P (g.1, g.2.1) vwCl (wC g (sL (sL (sA σ 15 f_11) 0 l0) 1 l1) ++ tl) H → va_D A (wC g (sL (sL (sA σ 15 f_11) 0 l0) 1 l1) ++ tl) → va_S A s.heap H locs → ∀ ls : Array Slot, lv_has ls 3 [(0, .ref (g.2.2.2 0)), (1, .int (nI n)), (2, .int (nI k))] → W p l e r_c_X10_shortestOpenLength s m ([.ref (g.2.2.2 0), .int (nI n)] : List Value).toArray below meth c H locs 0 0 Q (F0 m 16 ls []) := by
    intro fu
    induction fu with
    | zero => intro k l0 l1 h1 h2 hf; exact absurd hf (Nat.not_lt_zero _)
    | succ fu ih16 =>
      intro k l0 l1 h1 h2 hf H locs hP hD hS ls hl
      refine lv_iload_n hx hb dX10_shortestOpenLength_16 rfl (lv_at hl 2 rfl) ?_
      refine lv_iload_n hx hb dX10_shortestOpenLength_17 rfl (lv_at hl 1 rfl) ?_
      refine jn_cgt hx hb (by omega) (by omega) (tgt := 50) dX10_shortestOpenLength_18 (by decide) (fun c_18 => ?_) (fun c_18 => ?_)
      · refine lv_iconst (v := nI 4294967295) hx hb dX10_shortestOpenLength_50 (by decide) ?_
        exact hq _ _ _ _ ((nI 4294967295)) (f_11, l0, l1) dX10_shortestOpenLength_51 ⟨by rw [← sol_no (fun z hz => h2 z (by omega))], h_11⟩ hP hD hS
      · refine lv_aload_n hx hb dX10_shortestOpenLength_21 rfl (lv_at hl 0 rfl) ?_
        refine lv_iload_n hx hb dX10_shortestOpenLength_22 rfl (lv_at hl 2 rfl) ?_
        refine vp_callSl (va_Run.run (va_runV (As := [.int (nI k)]) (rest := []) ⟨hx, hb, hml, hown, hts⟩ (c_X10_countJumping l g tl (sL (sL (sA σ 15 f_11) 0 l0) 1 l1) k hA (by omega)) (cwV 1 hts gX10_shortestOpenLength_X10_countJumping rfl rfl rfl (by decide +kernel) ⟨Nat.le_of_ble_eq_true rfl, Nat.le_of_ble_eq_true rfl⟩) (okPV hK hP rfl (gC0 g (sL (sL (sA σ 15 f_11) 0 l0) 1 l1) tl)) rfl rfl hl.1 rfl (lv_room (Nat.le_of_ble_eq_true rfl)) dX10_shortestOpenLength_23 ⟨Nat.le_of_ble_eq_true rfl, Nat.le_of_ble_eq_true rfl⟩)) (fun r_23 h_23 => ?_)
        have h_23 : r_23 = (lN (cjT (f_11) (σ.1 0) k)) := h_23
        subst h_23
        refine lv_aload_n hx hb dX10_shortestOpenLength_26 rfl (lv_at hl 0 rfl) ?_
        refine va_get (D := (g.1, g.2.1)) (ci := 12) (v := .ref (g.2.2.2 30)) (C := RX10) (T := TX10) (N := 15) hx hb hts iX10 hown hK.1 hP 0 (gC0 g (sL (sL (sA σ 15 f_11) 0 l0) 1 l1) tl) rfl 11 (by decide) k75 (fun _ h9 => h9) rfl dX10_shortestOpenLength_27 ?_
        refine lv_aload_n hx hb dX10_shortestOpenLength_30 rfl (lv_at hl 0 rfl) ?_
        refine va_get (D := (g.1, g.2.1)) (ci := 12) (v := .ref (g.2.2.2 1)) (C := RX10) (T := TX10) (N := 15) hx hb hts iX10 hown hK.1 hP 0 (gC0 g (sL (sL (sA σ 15 f_11) 0 l0) 1 l1) tl) rfl 0 (by decide) k12 (fun _ h9 => h9) rfl dX10_shortestOpenLength_31 ?_
        refine lv_iload_n hx hb dX10_shortestOpenLength_34 rfl (lv_at hl 2 rfl) ?_
        refine jn_calll (va_runV (As := [.ref (g.2.2.2 1), .int (nI k)]) (rest := [.long (lN (cjT (f_11) (σ.1 0) k))]) ⟨hx, hb, hml, hown, hts⟩ (c_X9_countInOrder l g tl H.size (sL (sL (sA σ 15 f_11) 0 l0) 1 l1) k hA (by omega)) (cwV 2 hts gX10_shortestOpenLength_X9_countInOrder rfl rfl rfl (by decide +kernel) ⟨Nat.le_of_ble_eq_true rfl, Nat.le_of_ble_eq_true rfl⟩) (okWV hK hP hD rfl (gC30 g (sL (sL (sA σ 15 f_11) 0 l0) 1 l1) tl)) rfl rfl hl.1 rfl (lv_room (Nat.le_of_ble_eq_true rfl)) dX10_shortestOpenLength_35 ⟨Nat.le_of_ble_eq_true rfl, Nat.le_of_ble_eq_true rfl⟩) hD hS hAA (fun r_35 u H locs hw_ hP hD hS => ?_)
        obtain ⟨f_35, g1_35⟩ := u
        obtain rfl := hw_
        have hP : va_P (g.1, g.2.1) vwCl (wC g (sL (sL (sL (sL (sA σ 15 f_11) 0 l0) 1 l1) 0 f_35) 1 g1_35) ++ tl) H := hP
        have hD : va_D A (wC g (sL (sL (sL (sL (sA σ 15 f_11) 0 l0) 1 l1) 0 f_35) 1 g1_35) ++ tl) := hD
        refine jn_lcmp hx hb dX10_shortestOpenLength_38 ?_
        refine jn_leq hx hb (cjT_lt _ _ (by omega)) (ciO_lt _ _ (show k ≤ 8 by omega)) (tgt := 44) dX10_shortestOpenLength_39 (by decide) (fun c_39 => ?_) (fun c_39 => ?_)
        · refine lv_iinc (v := nI (k + 1)) (lv' := [(2, .int (nI (k + 1))), (0, .ref (g.2.2.2 0)), (1, .int (nI n))]) hx hb dX10_shortestOpenLength_44 hl (k := 2) rfl (jn_ii _ 1) (by decide) rfl (fun ls hl => ?_)
          refine lv_goto (tgt := 16) hx hb dX10_shortestOpenLength_47 (by decide) ?_
          exact ih16 (k + 1) f_35 g1_35 (by omega) (fun z hz => by rcases Nat.lt_or_ge z k with q | q; { exact h2 z q }; { rw [show z = k by omega, ← cjT_R (m := n) (by omega) (by omega) h_11]; exact c_39 }) (by omega) _ _ hP hD hS _ (lv_sub hl [1, 2, 0] rfl)
        · refine lv_iload_n hx hb dX10_shortestOpenLength_42 rfl (lv_at hl 2 rfl) ?_
          exact hq _ _ _ _ ((nI k)) (f_11, f_35, g1_35) dX10_shortestOpenLength_43 ⟨by rw [← sol_hit (T := σ.2.1 0) (fin := σ.1 0) (n := n) (k := k) (by omega) (by rw [← cjT_R (m := n) (by omega) (by omega) h_11]; exact c_39) h2], h_11⟩ hP hD hS
  exact lp16 _ 0 (σ.2.2 0) (σ.2.2 1) (by omega) (fun z hz => absurd hz (by omega)) (Nat.lt_succ_self _) _ _ hP hD hS _ (lv_sub hl [1, 2, 0] rfl)
