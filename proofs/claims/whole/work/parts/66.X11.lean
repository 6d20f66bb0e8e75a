abbrev r_c_X11_goesOneWay_6 : Room := { frames := 1, cells := 0, slots := 0, locals := 22 }
set_option maxHeartbeats 4000000 in
set_option maxRecDepth 100000 in
theorem c_X11_goesOneWay_6 (l : Launch) (g : GC) (tl : va_W) (sz : Nat) (σ : SS) (n : Nat) (hT : OkT (σ.2.1 0)) (hdt : detT (σ.2.1 0)) (hn : n ≤ 8) (hw : ∀ i, i < n → (σ.2.1 5) i < 3) : Met l yX11_goesOneWay wsX11_goesOneWay r_c_X11_goesOneWay_6 (va_Pc [.ref (g.2.2.2 0), .ref (g.2.2.2 6), .int (nI n)] (PW g (wM g σ ++ tl) sz)) (va_Qv (fun (z : Nat × Nat × Nat × (Nat → Nat)) => match z with | (j2, r2, e2, f2) => ((2 ^ e2, r2, j2) = owV (σ.2.1 0) 1 (wl (σ.2.1 5) n) 0 0) ∧ (e2 < 5) ∧ (r2 ≤ 8 ∧ j2 ≤ 8)) (fun (z : Nat × Nat × Nat × (Nat → Nat)) t => BW g (va_A (wM g σ ++ tl) sz) ((fun z : Nat × Nat × Nat × (Nat → Nat) => match z with | (j2, r2, e2, f2) => wM g (sA (sF (sF (sF σ 7 j2) 8 r2) 9 e2) 9 f2) ++ tl) z) t) (va_A (wM g σ ++ tl) sz)) 0 0 (va_A (wM g σ ++ tl) sz) := by
  refine jn_sv (wf := fun z : Nat × Nat × Nat × (Nat → Nat) => match z with | (j2, r2, e2, f2) => wM g (sA (sF (sF (sF σ 7 j2) 8 r2) 9 e2) 9 f2) ++ tl) (cc := cX11_goesOneWay) (maxL := 6) (own := RX11) (by decide) rfl rfl (Nat.le_of_ble_eq_true rfl) ?_
  intro p e s m below meth c Q A hx hb hml hown hts hK hP hD hS hAA hq ls hl
  obtain ⟨H, eH⟩ : ∃ z, z = s.heap := ⟨_, rfl⟩
  obtain ⟨locs, el⟩ : ∃ z : List Loc, z = [] := ⟨_, rfl⟩
  rw [← eH] at hP
  have hS : va_S A s.heap H locs := by rw [eH, el]; exact hS
  have goal0 : W p l e r_c_X11_goesOneWay_6 s m ([.ref (g.2.2.2 0), .ref (g.2.2.2 6), .int (nI n)] : List Value).toArray below meth c H locs 0 0 Q (F0 m 0 ls []) → W p l e r_c_X11_goesOneWay_6 s m ([.ref (g.2.2.2 0), .ref (g.2.2.2 6), .int (nI n)] : List Value).toArray below meth c s.heap [] 0 0 Q (F0 m 0 ls []) := fun h => by rw [eH, el] at h; exact h
  refine goal0 ?_
  have hl : lv_has ls 6 [(0, .ref (g.2.2.2 0)), (1, .ref (g.2.2.2 6)), (2, .int (nI n))] := hl
  have iX11 : ∀ w ∈ wsX110, w ∈ wsX11_goesOneWay := by decide +kernel
  have k66 := hts (.fieldLink RX11 66 "JumpingAutomataModel" "rest" "I") (by decide +kernel)
  have k63 := hts (.fieldLink RX11 63 "JumpingAutomataModel" "jumps" "I") (by decide +kernel)
  have k69 := hts (.fieldLink RX11 69 "JumpingAutomataModel" "endState" "I") (by decide +kernel)
  have k60 := hts (.fieldLink RX11 60 "JumpingAutomataModel" "circle" "[I") (by decide +kernel)
  refine lv_aload_n hx hb dX11_goesOneWay_0 rfl (lv_at hl 0 rfl) ?_
  refine lv_iload_n hx hb dX11_goesOneWay_1 rfl (lv_at hl 2 rfl) ?_
  refine jn_put (D := (g.1, g.2.1)) (ci := 13) (v := .int (nI n)) (ty := .int) (C := RX11) (T := TX11) (N := 30) hx hb hts iX11 tyX11 tyX11_ok nmX11 hown hK.1 hP hD hS 0 (gM0 g σ tl) rfl 18 (by decide) k66 (fun _ h9 => h9) rfl (by decide +kernel) rfl rfl (Nat.le_of_ble_eq_true rfl) (uM_F8 g σ tl n) dX11_goesOneWay_2 (fun H locs hP hD hS => ?_)
  refine lv_aload_n hx hb dX11_goesOneWay_5 rfl (lv_at hl 0 rfl) ?_
  refine lv_iconst (v := nI 0) hx hb dX11_goesOneWay_6 (by decide) ?_
  refine jn_put (D := (g.1, g.2.1)) (ci := 13) (v := .int (nI 0)) (ty := .int) (C := RX11) (T := TX11) (N := 30) hx hb hts iX11 tyX11 tyX11_ok nmX11 hown hK.1 hP hD hS 0 (gM0 g (sF σ 8 n) tl) rfl 17 (by decide) k63 (fun _ h9 => h9) rfl (by decide +kernel) rfl rfl (Nat.le_of_ble_eq_true rfl) (uM_F7 g (sF σ 8 n) tl 0) dX11_goesOneWay_7 (fun H locs hP hD hS => ?_)
  refine lv_aload_n hx hb dX11_goesOneWay_10 rfl (lv_at hl 0 rfl) ?_
  refine lv_iconst (v := nI 0) hx hb dX11_goesOneWay_11 (by decide) ?_
  refine jn_put (D := (g.1, g.2.1)) (ci := 13) (v := .int (nI 0)) (ty := .int) (C := RX11) (T := TX11) (N := 30) hx hb hts iX11 tyX11 tyX11_ok nmX11 hown hK.1 hP hD hS 0 (gM0 g (sF (sF σ 8 n) 7 0) tl) rfl 19 (by decide) k69 (fun _ h9 => h9) rfl (by decide +kernel) rfl rfl (Nat.le_of_ble_eq_true rfl) (uM_F9 g (sF (sF σ 8 n) 7 0) tl 0) dX11_goesOneWay_12 (fun H locs hP hD hS => ?_)
  refine lv_iconst (v := nI 0) hx hb dX11_goesOneWay_15 (by decide) ?_
  refine lv_istore_n (lv' := [(3, .int (nI 0)), (0, .ref (g.2.2.2 0)), (1, .ref (g.2.2.2 6)), (2, .int (nI n))]) hx hb dX11_goesOneWay_16 rfl hl (by decide) rfl (fun ls hl => ?_)
  have lp17 : ∀ (fu : Nat), ∀ (i : Nat) (f : Nat → Nat), (i ≤ n) → (∀ k, k < i → f k = (σ.2.1 5) k) → n - i < fu → ∀ (H : Heap) (locs : List Loc), va_P (g.1, g.2.1) vwCl (wM g (sA (sF (sF (sF σ 7 0) 8 n) 9 0) 9 f) ++ tl) H → va_D A (wM g (sA (sF (sF (sF σ 7 0) 8 n) 9 0) 9 f) ++ tl) → va_S A s.heap H locs → ∀ ls : Array Slot, lv_has ls 6 [(0, .ref (g.2.2.2 0)), (1, .ref (g.2.2.2 6)), (2, .int (nI n)), (3, .int (nI i))] → W p l e r_c_X11_goesOneWay_6 s m ([.ref (g.2.2.2 0), .ref (g.2.2.2 6), .int (nI n)] : List Value).toArray below meth c H locs 0 0 Q (F0 m 17 ls []) := by
    intro fu
    induction fu with
    | zero => intro i f h1 h2 hf; exact absurd hf (Nat.not_lt_zero _)
    | succ fu ih17 =>
      intro i f h1 h2 hf H locs hP hD hS ls hl
      refine lv_iload_n hx hb dX11_goesOneWay_17 rfl (lv_at hl 3 rfl) ?_
      refine lv_iload_n hx hb dX11_goesOneWay_18 rfl (lv_at hl 2 rfl) ?_
      refine jn_cge hx hb (by omega) (by omega) (tgt := 37) dX11_goesOneWay_19 (by decide) (fun c_19 => ?_) (fun c_19 => ?_)
      · refine lv_iconst (v := nI 0) hx hb dX11_goesOneWay_37 (by decide) ?_
        refine lv_istore_n (lv' := [(3, .int (nI 0)), (0, .ref (g.2.2.2 0)), (1, .ref (g.2.2.2 6)), (2, .int (nI n))]) hx hb dX11_goesOneWay_38 rfl hl (by decide) rfl (fun ls hl => ?_)
        have lp39 : ∀ (fu : Nat), ∀ (h : Nat) (j : Nat) (r : Nat) (e0 : Nat) (f : Nat → Nat), (OwI (σ.2.1 0) (σ.2.1 5) n h r e0 j f) → r < fu → ∀ (H : Heap) (locs : List Loc), va_P (g.1, g.2.1) vwCl (wM g (sA (sF (sF (sF σ 7 j) 8 r) 9 e0) 9 f) ++ tl) H → va_D A (wM g (sA (sF (sF (sF σ 7 j) 8 r) 9 e0) 9 f) ++ tl) → va_S A s.heap H locs → ∀ ls : Array Slot, lv_has ls 6 [(0, .ref (g.2.2.2 0)), (1, .ref (g.2.2.2 6)), (2, .int (nI n)), (3, .int (nI h))] → W p l e r_c_X11_goesOneWay_6 s m ([.ref (g.2.2.2 0), .ref (g.2.2.2 6), .int (nI n)] : List Value).toArray below meth c H locs 0 0 Q (F0 m 39 ls []) := by
          intro fu
          induction fu with
          | zero => intro h j r e0 f h3 hf; exact absurd hf (Nat.not_lt_zero _)
          | succ fu ih39 =>
            intro h j r e0 f h3 hf H locs hP hD hS ls hl
            obtain ⟨g1, g2, g3, g4, g5, g6⟩ := id h3
            refine lv_aload_n hx hb dX11_goesOneWay_39 rfl (lv_at hl 0 rfl) ?_
            refine va_get (D := (g.1, g.2.1)) (ci := 13) (v := .int (nI r)) (C := RX11) (T := TX11) (N := 30) hx hb hts iX11 hown hK.1 hP 0 (gM0 g (sA (sF (sF (sF σ 7 j) 8 r) 9 e0) 9 f) tl) rfl 18 (by decide) k66 (fun _ h9 => h9) rfl dX11_goesOneWay_40 ?_
            refine jn_zle hx hb (by omega) (tgt := 216) dX11_goesOneWay_43 (by decide) (fun c_43 => ?_) (fun c_43 => ?_)
            · exact hq _ _ _ _ (j, r, e0, f) dX11_goesOneWay_216 ⟨by have e : r = 0 := (by omega); subst e; rw [← g6, ow_nil], g3, by omega, by omega⟩ hP hD hS
            · refine lv_iconst (v := nI 0) hx hb dX11_goesOneWay_46 (by decide) ?_
              refine lv_istore (lv' := [(4, .int (nI 0)), (0, .ref (g.2.2.2 0)), (1, .ref (g.2.2.2 6)), (2, .int (nI n)), (3, .int (nI h))]) hx hb dX11_goesOneWay_47 hl (by decide) rfl (fun ls hl => ?_)
              have lp49 : ∀ (fu : Nat), ∀ (pp : Nat), (pp ≤ r) → (∀ i, i < pp → (σ.2.1 0) (e0 * 3 + f ((h + i) % r)) = 0) → r - pp < fu → ∀ (H : Heap) (locs : List Loc), va_P (g.1, g.2.1) vwCl (wM g (sA (sF (sF (sF σ 7 j) 8 r) 9 e0) 9 f) ++ tl) H → va_D A (wM g (sA (sF (sF (sF σ 7 j) 8 r) 9 e0) 9 f) ++ tl) → va_S A s.heap H locs → ∀ ls : Array Slot, lv_has ls 6 [(0, .ref (g.2.2.2 0)), (1, .ref (g.2.2.2 6)), (2, .int (nI n)), (3, .int (nI h)), (4, .int (nI pp))] → W p l e r_c_X11_goesOneWay_6 s m ([.ref (g.2.2.2 0), .ref (g.2.2.2 6), .int (nI n)] : List Value).toArray below meth c H locs 0 0 Q (F0 m 49 ls []) := by
                intro fu
                induction fu with
                | zero => intro pp h4 h5 hf; exact absurd hf (Nat.not_lt_zero _)
                | succ fu ih49 =>
                  intro pp h4 h5 hf H locs hP hD hS ls hl
                  have hmod : (h + pp) % r < r := Nat.mod_lt _ (by omega)
                  refine lv_iload hx hb dX11_goesOneWay_49 (lv_at hl 4 rfl) ?_
                  refine lv_aload_n hx hb dX11_goesOneWay_51 rfl (lv_at hl 0 rfl) ?_
                  refine va_get (D := (g.1, g.2.1)) (ci := 13) (v := .int (nI r)) (C := RX11) (T := TX11) (N := 30) hx hb hts iX11 hown hK.1 hP 0 (gM0 g (sA (sF (sF (sF σ 7 j) 8 r) 9 e0) 9 f) tl) rfl 18 (by decide) k66 (fun _ h9 => h9) rfl dX11_goesOneWay_52 ?_
                  refine jn_cge hx hb (by omega) (by omega) (tgt := 89) dX11_goesOneWay_55 (by decide) (fun c_55 => ?_) (fun c_55 => ?_)
                  · refine lv_iload hx hb dX11_goesOneWay_89 (lv_at hl 4 rfl) ?_
                    refine lv_aload_n hx hb dX11_goesOneWay_91 rfl (lv_at hl 0 rfl) ?_
                    refine va_get (D := (g.1, g.2.1)) (ci := 13) (v := .int (nI r)) (C := RX11) (T := TX11) (N := 30) hx hb hts iX11 hown hK.1 hP 0 (gM0 g (sA (sF (sF (sF σ 7 j) 8 r) 9 e0) 9 f) tl) rfl 18 (by decide) k66 (fun _ h9 => h9) rfl dX11_goesOneWay_92 ?_
                    refine jn_cne hx hb (by omega) (by omega) (tgt := 99) dX11_goesOneWay_95 (by decide) (fun c_95 => ?_) (fun c_95 => ?_)
                    · have hpr : pp < r := by omega
                      have hnl : (σ.2.1 0) (e0 * 3 + f ((h + pp) % r)) < 32 := by first | exact hnl | (exfalso; omega)
                      have hy : (σ.2.1 0) (e0 * 3 + f ((h + pp) % r)) ≠ 0 := by first | exact hy | (exfalso; omega)
                      have ehd : (h + pp) % r = (h + pp) % r := rfl
                      refine lv_aload_n hx hb dX11_goesOneWay_99 rfl (lv_at hl 0 rfl) ?_
                      refine lv_dup hx hb dX11_goesOneWay_100 rfl ?_
                      refine va_get (D := (g.1, g.2.1)) (ci := 13) (v := .int (nI j)) (C := RX11) (T := TX11) (N := 30) hx hb hts iX11 hown hK.1 hP 0 (gM0 g (sA (sF (sF (sF σ 7 j) 8 r) 9 e0) 9 f) tl) rfl 17 (by decide) k63 (fun _ h9 => h9) rfl dX11_goesOneWay_101 ?_
                      refine lv_iload hx hb dX11_goesOneWay_104 (lv_at hl 4 rfl) ?_
                      have jp114 : ∀ v114 : Nat, v114 = (if 0 < pp then 1 else 0) → W p l e r_c_X11_goesOneWay_6 s m ([.ref (g.2.2.2 0), .ref (g.2.2.2 6), .int (nI n)] : List Value).toArray below meth c H locs 0 0 Q (F0 m 114 ls [.int (nI v114), .int (nI j), .ref (g.2.2.2 0)]) := by
                        intro v114 ev114
                        refine jn_iadd hx hb dX11_goesOneWay_114 ?_
                        refine jn_put (D := (g.1, g.2.1)) (ci := 13) (v := .int (nI (j + v114))) (ty := .int) (C := RX11) (T := TX11) (N := 30) hx hb hts iX11 tyX11 tyX11_ok nmX11 hown hK.1 hP hD hS 0 (gM0 g (sA (sF (sF (sF σ 7 j) 8 r) 9 e0) 9 f) tl) rfl 17 (by decide) k63 (fun _ h9 => h9) rfl (by decide +kernel) rfl rfl (Nat.le_of_ble_eq_true rfl) (uM_F7 g (sA (sF (sF (sF σ 7 j) 8 r) 9 e0) 9 f) tl (j + v114)) dX11_goesOneWay_115 (fun H locs hP hD hS => ?_)
                        refine lv_iload_n hx hb dX11_goesOneWay_118 rfl (lv_at hl 3 rfl) ?_
                        refine lv_iload hx hb dX11_goesOneWay_119 (lv_at hl 4 rfl) ?_
                        refine jn_iadd hx hb dX11_goesOneWay_121 ?_
                        refine lv_aload_n hx hb dX11_goesOneWay_122 rfl (lv_at hl 0 rfl) ?_
                        refine va_get (D := (g.1, g.2.1)) (ci := 13) (v := .int (nI r)) (C := RX11) (T := TX11) (N := 30) hx hb hts iX11 hown hK.1 hP 0 (gM0 g (sF (sA (sF (sF (sF σ 7 j) 8 r) 9 e0) 9 f) 7 (j + v114)) tl) rfl 18 (by decide) k66 (fun _ h9 => h9) rfl dX11_goesOneWay_123 ?_
                        refine jn_irem hx hb (by omega) (by omega) (by omega) dX11_goesOneWay_126 ?_
                        refine lv_istore_n (lv' := [(3, .int (nI ((h + pp) % r))), (0, .ref (g.2.2.2 0)), (1, .ref (g.2.2.2 6)), (2, .int (nI n)), (4, .int (nI pp))]) hx hb dX11_goesOneWay_127 rfl hl (by decide) rfl (fun ls hl => ?_)
                        refine lv_aload_n hx hb dX11_goesOneWay_128 rfl (lv_at hl 1 rfl) ?_
                        refine lv_aload_n hx hb dX11_goesOneWay_129 rfl (lv_at hl 1 rfl) ?_
                        refine lv_aload_n hx hb dX11_goesOneWay_130 rfl (lv_at hl 1 rfl) ?_
                        refine va_get (D := (g.1, g.2.1)) (ci := 13) (v := .int (nI e0)) (C := RX11) (T := TX11) (N := 30) hx hb hts iX11 hown hK.1 hP 0 (gM0 g (sF (sA (sF (sF (sF σ 7 j) 8 r) 9 e0) 9 f) 7 (j + v114)) tl) rfl 19 (by decide) k69 (fun _ h9 => h9) rfl dX11_goesOneWay_131 ?_
                        refine lv_aload_n hx hb dX11_goesOneWay_134 rfl (lv_at hl 1 rfl) ?_
                        refine va_get (D := (g.1, g.2.1)) (ci := 13) (v := .ref (g.2.2.2 10)) (C := RX11) (T := TX11) (N := 30) hx hb hts iX11 hown hK.1 hP 0 (gM0 g (sF (sA (sF (sF (sF σ 7 j) 8 r) 9 e0) 9 f) 7 (j + v114)) tl) rfl 16 (by decide) k60 (fun _ h9 => h9) rfl dX11_goesOneWay_135 ?_
                        refine lv_iload_n hx hb dX11_goesOneWay_138 rfl (lv_at hl 0 rfl) ?_
                        refine jn_iald (f := f) hx hb hK.1 hP 10 0 (gM10 g (sF (sA (sF (sF (sF σ 7 j) 8 r) 9 e0) 9 f) 7 (j + v114)) tl) rfl (Nat.lt_of_lt_of_le hmod (by omega)) (Nat.le_of_ble_eq_true rfl) dX11_goesOneWay_139 ?_
                        refine vp_callSi (va_Run.run (va_runV (As := [.int (nI e0), .int (nI (f ((h + pp) % r)))]) (rest := [.ref (g.2.2.2 0)]) ⟨hx, hb, hml, hown, hts⟩ (c_X11_next l g tl (sF (sA (sF (sF (sF σ 7 j) 8 r) 9 e0) 9 f) 7 (j + v114)) e0 (f ((h + pp) % r)) g3 (g5 _ hmod)) (cwV 2 hts gX11_goesOneWay_X11_next rfl rfl rfl (by decide +kernel) ⟨Nat.le_of_ble_eq_true rfl, Nat.le_of_ble_eq_true rfl⟩) (okPV hK hP rfl (gM0 g (sF (sA (sF (sF (sF σ 7 j) 8 r) 9 e0) 9 f) 7 (j + v114)) tl)) rfl rfl hl.1 rfl (lv_room (Nat.le_of_ble_eq_true rfl)) dX11_goesOneWay_140 ⟨Nat.le_of_ble_eq_true rfl, Nat.le_of_ble_eq_true rfl⟩)) (fun r_140 h_140 => ?_)
                        have h_140 : r_140 = (nI ((σ.2.1 0) (e0 * 3 + (f ((h + pp) % r))))) := h_140
                        subst h_140
                        refine vp_callSi (va_Run.run (va_runS (As := [.int (nI ((σ.2.1 0) (e0 * 3 + (f ((h + pp) % r)))))]) (rest := [.ref (g.2.2.2 0)]) ⟨hx, hb, hml, hown, hts⟩ (c_X11_single l ((σ.2.1 0) (e0 * 3 + (f ((h + pp) % r)))) hnl) (va_cwS 1 hts gX11_goesOneWay_X11_single rfl rfl rfl (by decide +kernel) ⟨Nat.le_of_ble_eq_true rfl, Nat.le_of_ble_eq_true rfl⟩) okTS rfl rfl hl.1 rfl (lv_room (Nat.le_of_ble_eq_true rfl)) dX11_goesOneWay_143 ⟨Nat.le_of_ble_eq_true rfl, Nat.le_of_ble_eq_true rfl⟩)) (fun r_143 h_143 => ?_)
                        subst h_143
                        refine jn_put (D := (g.1, g.2.1)) (ci := 13) (v := .int (nI (sgl ((σ.2.1 0) (e0 * 3 + (f ((h + pp) % r))))))) (ty := .int) (C := RX11) (T := TX11) (N := 30) hx hb hts iX11 tyX11 tyX11_ok nmX11 hown hK.1 hP hD hS 0 (gM0 g (sF (sA (sF (sF (sF σ 7 j) 8 r) 9 e0) 9 f) 7 (j + v114)) tl) rfl 19 (by decide) k69 (fun _ h9 => h9) rfl (by decide +kernel) rfl rfl (Nat.le_of_ble_eq_true rfl) (uM_F9 g (sF (sA (sF (sF (sF σ 7 j) 8 r) 9 e0) 9 f) 7 (j + v114)) tl (sgl ((σ.2.1 0) (e0 * 3 + (f ((h + pp) % r)))))) dX11_goesOneWay_146 (fun H locs hP hD hS => ?_)
                        refine lv_iload_n hx hb dX11_goesOneWay_149 rfl (lv_at hl 0 rfl) ?_
                        refine lv_istore (lv' := [(5, .int (nI ((h + pp) % r))), (3, .int (nI ((h + pp) % r))), (0, .ref (g.2.2.2 0)), (1, .ref (g.2.2.2 6)), (2, .int (nI n)), (4, .int (nI pp))]) hx hb dX11_goesOneWay_150 hl (by decide) rfl (fun ls hl => ?_)
                        have lp152 : ∀ (fu : Nat), ∀ (k : Nat) (f1 : Nat → Nat), ((h + pp) % r ≤ k) → (k < r) → (∀ z, z < (h + pp) % r → f1 z = f z) → (∀ z, (h + pp) % r ≤ z → z < k → f1 z = f (z + 1)) → (∀ z, k ≤ z → f1 z = f z) → r - k < fu → ∀ (H : Heap) (locs : List Loc), va_P (g.1, g.2.1) vwCl (wM g (sA (sF (sF (sF σ 7 (j + v114)) 8 r) 9 (sgl ((σ.2.1 0) (e0 * 3 + (f ((h + pp) % r)))))) 9 f1) ++ tl) H → va_D A (wM g (sA (sF (sF (sF σ 7 (j + v114)) 8 r) 9 (sgl ((σ.2.1 0) (e0 * 3 + (f ((h + pp) % r)))))) 9 f1) ++ tl) → va_S A s.heap H locs → ∀ ls : Array Slot, lv_has ls 6 [(0, .ref (g.2.2.2 0)), (1, .ref (g.2.2.2 6)), (2, .int (nI n)), (3, .int (nI ((h + pp) % r))), (5, .int (nI k))] → W p l e r_c_X11_goesOneWay_6 s m ([.ref (g.2.2.2 0), .ref (g.2.2.2 6), .int (nI n)] : List Value).toArray below meth c H locs 0 0 Q (F0 m 152 ls []) := by
                          intro fu
                          induction fu with
                          | zero => intro k f1 h7 h8 h9 h10 h11 hf; exact absurd hf (Nat.not_lt_zero _)
                          | succ fu ih152 =>
                            intro k f1 h7 h8 h9 h10 h11 hf H locs hP hD hS ls hl
                            refine lv_iload hx hb dX11_goesOneWay_152 (lv_at hl 4 rfl) ?_
                            refine lv_iconst (v := nI 1) hx hb dX11_goesOneWay_154 (by decide) ?_
                            refine jn_iadd hx hb dX11_goesOneWay_155 ?_
                            refine lv_aload_n hx hb dX11_goesOneWay_156 rfl (lv_at hl 0 rfl) ?_
                            refine va_get (D := (g.1, g.2.1)) (ci := 13) (v := .int (nI r)) (C := RX11) (T := TX11) (N := 30) hx hb hts iX11 hown hK.1 hP 0 (gM0 g (sA (sF (sF (sF σ 7 (j + v114)) 8 r) 9 (sgl ((σ.2.1 0) (e0 * 3 + (f ((h + pp) % r)))))) 9 f1) tl) rfl 18 (by decide) k66 (fun _ h9 => h9) rfl dX11_goesOneWay_157 ?_
                            refine jn_cge hx hb (by omega) (by omega) (tgt := 185) dX11_goesOneWay_160 (by decide) (fun c_160 => ?_) (fun c_160 => ?_)
                            · refine lv_aload_n hx hb dX11_goesOneWay_185 rfl (lv_at hl 0 rfl) ?_
                              refine lv_dup hx hb dX11_goesOneWay_186 rfl ?_
                              refine va_get (D := (g.1, g.2.1)) (ci := 13) (v := .int (nI r)) (C := RX11) (T := TX11) (N := 30) hx hb hts iX11 hown hK.1 hP 0 (gM0 g (sA (sF (sF (sF σ 7 (j + v114)) 8 r) 9 (sgl ((σ.2.1 0) (e0 * 3 + (f ((h + pp) % r)))))) 9 f1) tl) rfl 18 (by decide) k66 (fun _ h9 => h9) rfl dX11_goesOneWay_187 ?_
                              refine lv_iconst (v := nI 1) hx hb dX11_goesOneWay_190 (by decide) ?_
                              refine jn_isub hx hb (by omega) dX11_goesOneWay_191 ?_
                              refine jn_put (D := (g.1, g.2.1)) (ci := 13) (v := .int (nI (r - 1))) (ty := .int) (C := RX11) (T := TX11) (N := 30) hx hb hts iX11 tyX11 tyX11_ok nmX11 hown hK.1 hP hD hS 0 (gM0 g (sA (sF (sF (sF σ 7 (j + v114)) 8 r) 9 (sgl ((σ.2.1 0) (e0 * 3 + (f ((h + pp) % r)))))) 9 f1) tl) rfl 18 (by decide) k66 (fun _ h9 => h9) rfl (by decide +kernel) rfl rfl (Nat.le_of_ble_eq_true rfl) (uM_F8 g (sA (sF (sF (sF σ 7 (j + v114)) 8 r) 9 (sgl ((σ.2.1 0) (e0 * 3 + (f ((h + pp) % r)))))) 9 f1) tl (r - 1)) dX11_goesOneWay_192 (fun H locs hP hD hS => ?_)
                              refine lv_aload_n hx hb dX11_goesOneWay_195 rfl (lv_at hl 0 rfl) ?_
                              refine va_get (D := (g.1, g.2.1)) (ci := 13) (v := .int (nI (r - 1))) (C := RX11) (T := TX11) (N := 30) hx hb hts iX11 hown hK.1 hP 0 (gM0 g (sF (sA (sF (sF (sF σ 7 (j + v114)) 8 r) 9 (sgl ((σ.2.1 0) (e0 * 3 + (f ((h + pp) % r)))))) 9 f1) 8 (r - 1)) tl) rfl 18 (by decide) k66 (fun _ h9 => h9) rfl dX11_goesOneWay_196 ?_
                              have jp212 : ∀ v212 : Nat, v212 = (if 0 < r - 1 then ((h + pp) % r) % (r - 1) else 0) → W p l e r_c_X11_goesOneWay_6 s m ([.ref (g.2.2.2 0), .ref (g.2.2.2 6), .int (nI n)] : List Value).toArray below meth c H locs 0 0 Q (F0 m 212 ls [.int (nI v212)]) := by
                                intro v212 ev212
                                refine lv_istore_n (lv' := [(3, .int (nI v212)), (0, .ref (g.2.2.2 0)), (1, .ref (g.2.2.2 6)), (2, .int (nI n)), (5, .int (nI k))]) hx hb dX11_goesOneWay_212 rfl hl (by decide) rfl (fun ls hl => ?_)
                                refine lv_goto (tgt := 39) hx hb dX11_goesOneWay_213 (by decide) ?_
                                exact ih39 v212 (j + v114) (r - 1) (sgl ((σ.2.1 0) (e0 * 3 + (f ((h + pp) % r))))) f1 (by rw [ev114, ev212]; exact owi_s hn hT hdt h3 hpr ehd h9 (fun k hk hk2 => h10 k hk (by omega)) h5 hy) (by omega) _ _ hP hD hS _ (lv_sub hl [1, 2, 3, 0] rfl)
                              refine jn_zle hx hb (by omega) (tgt := 211) dX11_goesOneWay_199 (by decide) (fun c_199 => ?_) (fun c_199 => ?_)
                              · refine lv_iconst (v := nI 0) hx hb dX11_goesOneWay_211 (by decide) ?_
                                exact jp212 0 (by rw [if_neg (by omega)])
                              · refine lv_iload_n hx hb dX11_goesOneWay_202 rfl (lv_at hl 3 rfl) ?_
                                refine lv_aload_n hx hb dX11_goesOneWay_203 rfl (lv_at hl 0 rfl) ?_
                                refine va_get (D := (g.1, g.2.1)) (ci := 13) (v := .int (nI (r - 1))) (C := RX11) (T := TX11) (N := 30) hx hb hts iX11 hown hK.1 hP 0 (gM0 g (sF (sA (sF (sF (sF σ 7 (j + v114)) 8 r) 9 (sgl ((σ.2.1 0) (e0 * 3 + (f ((h + pp) % r)))))) 9 f1) 8 (r - 1)) tl) rfl 18 (by decide) k66 (fun _ h9 => h9) rfl dX11_goesOneWay_204 ?_
                                refine jn_irem hx hb (by omega) (by omega) (by omega) dX11_goesOneWay_207 ?_
                                refine lv_goto (tgt := 212) hx hb dX11_goesOneWay_208 (by decide) ?_
                                exact jp212 (((h + pp) % r) % (r - 1)) (by rw [if_pos (by omega)])
                            · refine lv_aload_n hx hb dX11_goesOneWay_163 rfl (lv_at hl 0 rfl) ?_
                              refine va_get (D := (g.1, g.2.1)) (ci := 13) (v := .ref (g.2.2.2 10)) (C := RX11) (T := TX11) (N := 30) hx hb hts iX11 hown hK.1 hP 0 (gM0 g (sA (sF (sF (sF σ 7 (j + v114)) 8 r) 9 (sgl ((σ.2.1 0) (e0 * 3 + (f ((h + pp) % r)))))) 9 f1) tl) rfl 16 (by decide) k60 (fun _ h9 => h9) rfl dX11_goesOneWay_164 ?_
                              refine lv_iload hx hb dX11_goesOneWay_167 (lv_at hl 4 rfl) ?_
                              refine lv_aload_n hx hb dX11_goesOneWay_169 rfl (lv_at hl 0 rfl) ?_
                              refine va_get (D := (g.1, g.2.1)) (ci := 13) (v := .ref (g.2.2.2 10)) (C := RX11) (T := TX11) (N := 30) hx hb hts iX11 hown hK.1 hP 0 (gM0 g (sA (sF (sF (sF σ 7 (j + v114)) 8 r) 9 (sgl ((σ.2.1 0) (e0 * 3 + (f ((h + pp) % r)))))) 9 f1) tl) rfl 16 (by decide) k60 (fun _ h9 => h9) rfl dX11_goesOneWay_170 ?_
                              refine lv_iload hx hb dX11_goesOneWay_173 (lv_at hl 4 rfl) ?_
                              refine lv_iconst (v := nI 1) hx hb dX11_goesOneWay_175 (by decide) ?_
                              refine jn_iadd hx hb dX11_goesOneWay_176 ?_
                              refine jn_iald (f := f1) hx hb hK.1 hP 10 0 (gM10 g (sA (sF (sF (sF σ 7 (j + v114)) 8 r) 9 (sgl ((σ.2.1 0) (e0 * 3 + (f ((h + pp) % r)))))) 9 f1) tl) rfl (by omega) (Nat.le_of_ble_eq_true rfl) dX11_goesOneWay_177 ?_
                              refine jn_iast (f := f1) hx hb hK.1 hP hD hS 10 0 (gM10 g (sA (sF (sF (sF σ 7 (j + v114)) 8 r) 9 (sgl ((σ.2.1 0) (e0 * 3 + (f ((h + pp) % r)))))) 9 f1) tl) rfl (by omega) (Nat.le_of_ble_eq_true rfl) (uM_A9 g (sA (sF (sF (sF σ 7 (j + v114)) 8 r) 9 (sgl ((σ.2.1 0) (e0 * 3 + (f ((h + pp) % r)))))) 9 f1) tl _) dX11_goesOneWay_178 (fun H locs hP hD hS => ?_)
                              refine lv_iinc (v := nI (k + 1)) (lv' := [(5, .int (nI (k + 1))), (0, .ref (g.2.2.2 0)), (1, .ref (g.2.2.2 6)), (2, .int (nI n)), (3, .int (nI ((h + pp) % r)))]) hx hb dX11_goesOneWay_179 hl (k := 4) rfl (jn_ii _ 1) (by decide) rfl (fun ls hl => ?_)
                              refine lv_goto (tgt := 152) hx hb dX11_goesOneWay_182 (by decide) ?_
                              exact ih152 (k + 1) (va_up f1 k (f1 (k + 1))) (by omega) (by omega) (fun z hz => by rw [va_up, if_neg (by omega)]; exact h9 z hz) (fun z hz hz2 => by unfold va_up; split; { rename_i q; rw [q]; exact h11 _ (by omega) }; { exact h10 z hz (by omega) }) (fun z hz => by rw [va_up, if_neg (by omega)]; exact h11 z (by omega)) (by omega) _ _ hP hD hS _ (lv_sub hl [1, 2, 3, 4, 0] rfl)
                        exact lp152 _ ((h + pp) % r) f (Nat.le_refl _) hmod (fun _ _ => rfl) (fun z h1 h2 => absurd h1 (by omega)) (fun _ _ => rfl) (Nat.lt_succ_self _) _ _ hP hD hS _ (lv_sub hl [2, 3, 4, 1, 0] rfl)
                      refine jn_zle hx hb (by omega) (tgt := 113) dX11_goesOneWay_106 (by decide) (fun c_106 => ?_) (fun c_106 => ?_)
                      · refine lv_iconst (v := nI 0) hx hb dX11_goesOneWay_113 (by decide) ?_
                        exact jp114 0 (by rw [if_neg (by omega)])
                      · refine lv_iconst (v := nI 1) hx hb dX11_goesOneWay_109 (by decide) ?_
                        refine lv_goto (tgt := 114) hx hb dX11_goesOneWay_110 (by decide) ?_
                        exact jp114 1 (by rw [if_pos (by omega)])
                    · exact hq _ _ _ _ (j, r, e0, f) dX11_goesOneWay_98 ⟨by rw [← g6, ow_stop g3 (fun i hi => h5 i (by omega))], g3, by omega, by omega⟩ hP hD hS
                  · refine lv_aload_n hx hb dX11_goesOneWay_58 rfl (lv_at hl 0 rfl) ?_
                    refine lv_aload_n hx hb dX11_goesOneWay_59 rfl (lv_at hl 0 rfl) ?_
                    refine va_get (D := (g.1, g.2.1)) (ci := 13) (v := .int (nI e0)) (C := RX11) (T := TX11) (N := 30) hx hb hts iX11 hown hK.1 hP 0 (gM0 g (sA (sF (sF (sF σ 7 j) 8 r) 9 e0) 9 f) tl) rfl 19 (by decide) k69 (fun _ h9 => h9) rfl dX11_goesOneWay_60 ?_
                    refine lv_aload_n hx hb dX11_goesOneWay_63 rfl (lv_at hl 0 rfl) ?_
                    refine va_get (D := (g.1, g.2.1)) (ci := 13) (v := .ref (g.2.2.2 10)) (C := RX11) (T := TX11) (N := 30) hx hb hts iX11 hown hK.1 hP 0 (gM0 g (sA (sF (sF (sF σ 7 j) 8 r) 9 e0) 9 f) tl) rfl 16 (by decide) k60 (fun _ h9 => h9) rfl dX11_goesOneWay_64 ?_
                    refine lv_iload_n hx hb dX11_goesOneWay_67 rfl (lv_at hl 3 rfl) ?_
                    refine lv_iload hx hb dX11_goesOneWay_68 (lv_at hl 4 rfl) ?_
                    refine jn_iadd hx hb dX11_goesOneWay_70 ?_
                    refine lv_aload_n hx hb dX11_goesOneWay_71 rfl (lv_at hl 0 rfl) ?_
                    refine va_get (D := (g.1, g.2.1)) (ci := 13) (v := .int (nI r)) (C := RX11) (T := TX11) (N := 30) hx hb hts iX11 hown hK.1 hP 0 (gM0 g (sA (sF (sF (sF σ 7 j) 8 r) 9 e0) 9 f) tl) rfl 18 (by decide) k66 (fun _ h9 => h9) rfl dX11_goesOneWay_72 ?_
                    refine jn_irem hx hb (by omega) (by omega) (by omega) dX11_goesOneWay_75 ?_
                    refine jn_iald (f := f) hx hb hK.1 hP 10 0 (gM10 g (sA (sF (sF (sF σ 7 j) 8 r) 9 e0) 9 f) tl) rfl (Nat.lt_of_lt_of_le hmod (by omega)) (Nat.le_of_ble_eq_true rfl) dX11_goesOneWay_76 ?_
                    refine vp_callSi (va_Run.run (va_runV (As := [.int (nI e0), .int (nI (f ((h + pp) % r)))]) (rest := []) ⟨hx, hb, hml, hown, hts⟩ (c_X11_next l g tl (sA (sF (sF (sF σ 7 j) 8 r) 9 e0) 9 f) e0 (f ((h + pp) % r)) g3 (g5 _ hmod)) (cwV 2 hts gX11_goesOneWay_X11_next rfl rfl rfl (by decide +kernel) ⟨Nat.le_of_ble_eq_true rfl, Nat.le_of_ble_eq_true rfl⟩) (okPV hK hP rfl (gM0 g (sA (sF (sF (sF σ 7 j) 8 r) 9 e0) 9 f) tl)) rfl rfl hl.1 rfl (lv_room (Nat.le_of_ble_eq_true rfl)) dX11_goesOneWay_77 ⟨Nat.le_of_ble_eq_true rfl, Nat.le_of_ble_eq_true rfl⟩)) (fun r_77 h_77 => ?_)
                    have h_77 : r_77 = (nI ((σ.2.1 0) (e0 * 3 + (f ((h + pp) % r))))) := h_77
                    subst h_77
                    have hnl : (σ.2.1 0) (e0 * 3 + f ((h + pp) % r)) < 32 := hT _ (by have := g5 _ hmod; omega)
                    refine jn_zne hx hb (by omega) (tgt := 89) dX11_goesOneWay_80 (by decide) (fun c_80 => ?_) (fun c_80 => ?_)
                    · have hy : (σ.2.1 0) (e0 * 3 + f ((h + pp) % r)) ≠ 0 := c_80
                      refine lv_iload hx hb dX11_goesOneWay_89 (lv_at hl 4 rfl) ?_
                      refine lv_aload_n hx hb dX11_goesOneWay_91 rfl (lv_at hl 0 rfl) ?_
                      refine va_get (D := (g.1, g.2.1)) (ci := 13) (v := .int (nI r)) (C := RX11) (T := TX11) (N := 30) hx hb hts iX11 hown hK.1 hP 0 (gM0 g (sA (sF (sF (sF σ 7 j) 8 r) 9 e0) 9 f) tl) rfl 18 (by decide) k66 (fun _ h9 => h9) rfl dX11_goesOneWay_92 ?_
                      refine jn_cne hx hb (by omega) (by omega) (tgt := 99) dX11_goesOneWay_95 (by decide) (fun c_95 => ?_) (fun c_95 => ?_)
                      · have hpr : pp < r := by omega
                        have hnl : (σ.2.1 0) (e0 * 3 + f ((h + pp) % r)) < 32 := by first | exact hnl | (exfalso; omega)
                        have hy : (σ.2.1 0) (e0 * 3 + f ((h + pp) % r)) ≠ 0 := by first | exact hy | (exfalso; omega)
                        have ehd : (h + pp) % r = (h + pp) % r := rfl
                        refine lv_aload_n hx hb dX11_goesOneWay_99 rfl (lv_at hl 0 rfl) ?_
                        refine lv_dup hx hb dX11_goesOneWay_100 rfl ?_
                        refine va_get (D := (g.1, g.2.1)) (ci := 13) (v := .int (nI j)) (C := RX11) (T := TX11) (N := 30) hx hb hts iX11 hown hK.1 hP 0 (gM0 g (sA (sF (sF (sF σ 7 j) 8 r) 9 e0) 9 f) tl) rfl 17 (by decide) k63 (fun _ h9 => h9) rfl dX11_goesOneWay_101 ?_
                        refine lv_iload hx hb dX11_goesOneWay_104 (lv_at hl 4 rfl) ?_
                        have jp114 : ∀ v114 : Nat, v114 = (if 0 < pp then 1 else 0) → W p l e r_c_X11_goesOneWay_6 s m ([.ref (g.2.2.2 0), .ref (g.2.2.2 6), .int (nI n)] : List Value).toArray below meth c H locs 0 0 Q (F0 m 114 ls [.int (nI v114), .int (nI j), .ref (g.2.2.2 0)]) := by
                          intro v114 ev114
                          refine jn_iadd hx hb dX11_goesOneWay_114 ?_
                          refine jn_put (D := (g.1, g.2.1)) (ci := 13) (v := .int (nI (j + v114))) (ty := .int) (C := RX11) (T := TX11) (N := 30) hx hb hts iX11 tyX11 tyX11_ok nmX11 hown hK.1 hP hD hS 0 (gM0 g (sA (sF (sF (sF σ 7 j) 8 r) 9 e0) 9 f) tl) rfl 17 (by decide) k63 (fun _ h9 => h9) rfl (by decide +kernel) rfl rfl (Nat.le_of_ble_eq_true rfl) (uM_F7 g (sA (sF (sF (sF σ 7 j) 8 r) 9 e0) 9 f) tl (j + v114)) dX11_goesOneWay_115 (fun H locs hP hD hS => ?_)
                          refine lv_iload_n hx hb dX11_goesOneWay_118 rfl (lv_at hl 3 rfl) ?_
                          refine lv_iload hx hb dX11_goesOneWay_119 (lv_at hl 4 rfl) ?_
                          refine jn_iadd hx hb dX11_goesOneWay_121 ?_
                          refine lv_aload_n hx hb dX11_goesOneWay_122 rfl (lv_at hl 0 rfl) ?_
                          refine va_get (D := (g.1, g.2.1)) (ci := 13) (v := .int (nI r)) (C := RX11) (T := TX11) (N := 30) hx hb hts iX11 hown hK.1 hP 0 (gM0 g (sF (sA (sF (sF (sF σ 7 j) 8 r) 9 e0) 9 f) 7 (j + v114)) tl) rfl 18 (by decide) k66 (fun _ h9 => h9) rfl dX11_goesOneWay_123 ?_
                          refine jn_irem hx hb (by omega) (by omega) (by omega) dX11_goesOneWay_126 ?_
                          refine lv_istore_n (lv' := [(3, .int (nI ((h + pp) % r))), (0, .ref (g.2.2.2 0)), (1, .ref (g.2.2.2 6)), (2, .int (nI n)), (4, .int (nI pp))]) hx hb dX11_goesOneWay_127 rfl hl (by decide) rfl (fun ls hl => ?_)
                          refine lv_aload_n hx hb dX11_goesOneWay_128 rfl (lv_at hl 1 rfl) ?_
                          refine lv_aload_n hx hb dX11_goesOneWay_129 rfl (lv_at hl 1 rfl) ?_
                          refine lv_aload_n hx hb dX11_goesOneWay_130 rfl (lv_at hl 1 rfl) ?_
                          refine va_get (D := (g.1, g.2.1)) (ci := 13) (v := .int (nI e0)) (C := RX11) (T := TX11) (N := 30) hx hb hts iX11 hown hK.1 hP 0 (gM0 g (sF (sA (sF (sF (sF σ 7 j) 8 r) 9 e0) 9 f) 7 (j + v114)) tl) rfl 19 (by decide) k69 (fun _ h9 => h9) rfl dX11_goesOneWay_131 ?_
                          refine lv_aload_n hx hb dX11_goesOneWay_134 rfl (lv_at hl 1 rfl) ?_
                          refine va_get (D := (g.1, g.2.1)) (ci := 13) (v := .ref (g.2.2.2 10)) (C := RX11) (T := TX11) (N := 30) hx hb hts iX11 hown hK.1 hP 0 (gM0 g (sF (sA (sF (sF (sF σ 7 j) 8 r) 9 e0) 9 f) 7 (j + v114)) tl) rfl 16 (by decide) k60 (fun _ h9 => h9) rfl dX11_goesOneWay_135 ?_
                          refine lv_iload_n hx hb dX11_goesOneWay_138 rfl (lv_at hl 0 rfl) ?_
                          refine jn_iald (f := f) hx hb hK.1 hP 10 0 (gM10 g (sF (sA (sF (sF (sF σ 7 j) 8 r) 9 e0) 9 f) 7 (j + v114)) tl) rfl (Nat.lt_of_lt_of_le hmod (by omega)) (Nat.le_of_ble_eq_true rfl) dX11_goesOneWay_139 ?_
                          refine vp_callSi (va_Run.run (va_runV (As := [.int (nI e0), .int (nI (f ((h + pp) % r)))]) (rest := [.ref (g.2.2.2 0)]) ⟨hx, hb, hml, hown, hts⟩ (c_X11_next l g tl (sF (sA (sF (sF (sF σ 7 j) 8 r) 9 e0) 9 f) 7 (j + v114)) e0 (f ((h + pp) % r)) g3 (g5 _ hmod)) (cwV 2 hts gX11_goesOneWay_X11_next rfl rfl rfl (by decide +kernel) ⟨Nat.le_of_ble_eq_true rfl, Nat.le_of_ble_eq_true rfl⟩) (okPV hK hP rfl (gM0 g (sF (sA (sF (sF (sF σ 7 j) 8 r) 9 e0) 9 f) 7 (j + v114)) tl)) rfl rfl hl.1 rfl (lv_room (Nat.le_of_ble_eq_true rfl)) dX11_goesOneWay_140 ⟨Nat.le_of_ble_eq_true rfl, Nat.le_of_ble_eq_true rfl⟩)) (fun r_140 h_140 => ?_)
                          have h_140 : r_140 = (nI ((σ.2.1 0) (e0 * 3 + (f ((h + pp) % r))))) := h_140
                          subst h_140
                          refine vp_callSi (va_Run.run (va_runS (As := [.int (nI ((σ.2.1 0) (e0 * 3 + (f ((h + pp) % r)))))]) (rest := [.ref (g.2.2.2 0)]) ⟨hx, hb, hml, hown, hts⟩ (c_X11_single l ((σ.2.1 0) (e0 * 3 + (f ((h + pp) % r)))) hnl) (va_cwS 1 hts gX11_goesOneWay_X11_single rfl rfl rfl (by decide +kernel) ⟨Nat.le_of_ble_eq_true rfl, Nat.le_of_ble_eq_true rfl⟩) okTS rfl rfl hl.1 rfl (lv_room (Nat.le_of_ble_eq_true rfl)) dX11_goesOneWay_143 ⟨Nat.le_of_ble_eq_true rfl, Nat.le_of_ble_eq_true rfl⟩)) (fun r_143 h_143 => ?_)
                          subst h_143
                          refine jn_put (D := (g.1, g.2.1)) (ci := 13) (v := .int (nI (sgl ((σ.2.1 0) (e0 * 3 + (f ((h + pp) % r))))))) (ty := .int) (C := RX11) (T := TX11) (N := 30) hx hb hts iX11 tyX11 tyX11_ok nmX11 hown hK.1 hP hD hS 0 (gM0 g (sF (sA (sF (sF (sF σ 7 j) 8 r) 9 e0) 9 f) 7 (j + v114)) tl) rfl 19 (by decide) k69 (fun _ h9 => h9) rfl (by decide +kernel) rfl rfl (Nat.le_of_ble_eq_true rfl) (uM_F9 g (sF (sA (sF (sF (sF σ 7 j) 8 r) 9 e0) 9 f) 7 (j + v114)) tl (sgl ((σ.2.1 0) (e0 * 3 + (f ((h + pp) % r)))))) dX11_goesOneWay_146 (fun H locs hP hD hS => ?_)
                          refine lv_iload_n hx hb dX11_goesOneWay_149 rfl (lv_at hl 0 rfl) ?_
                          refine lv_istore (lv' := [(5, .int (nI ((h + pp) % r))), (3, .int (nI ((h + pp) % r))), (0, .ref (g.2.2.2 0)), (1, .ref (g.2.2.2 6)), (2, .int (nI n)), (4, .int (nI pp))]) hx hb dX11_goesOneWay_150 hl (by decide) rfl (fun ls hl => ?_)
                          have lp152 : ∀ (fu : Nat), ∀ (k : Nat) (f1 : Nat → Nat), ((h + pp) % r ≤ k) → (k < r) → (∀ z, z < (h + pp) % r → f1 z = f z) → (∀ z, (h + pp) % r ≤ z → z < k → f1 z = f (z + 1)) → (∀ z, k ≤ z → f1 z = f z) → r - k < fu → ∀ (H : Heap) (locs : List Loc), va_P (g.1, g.2.1) vwCl (wM g (sA (sF (sF (sF σ 7 (j + v114)) 8 r) 9 (sgl ((σ.2.1 0) (e0 * 3 + (f ((h + pp) % r)))))) 9 f1) ++ tl) H → va_D A (wM g (sA (sF (sF (sF σ 7 (j + v114)) 8 r) 9 (sgl ((σ.2.1 0) (e0 * 3 + (f ((h + pp) % r)))))) 9 f1) ++ tl) → va_S A s.heap H locs → ∀ ls : Array Slot, lv_has ls 6 [(0, .ref (g.2.2.2 0)), (1, .ref (g.2.2.2 6)), (2, .int (nI n)), (3, .int (nI ((h + pp) % r))), (5, .int (nI k))] → W p l e r_c_X11_goesOneWay_6 s m ([.ref (g.2.2.2 0), .ref (g.2.2.2 6), .int (nI n)] : List Value).toArray below meth c H locs 0 0 Q (F0 m 152 ls []) := by
                            intro fu
                            induction fu with
                            | zero => intro k f1 h7 h8 h9 h10 h11 hf; exact absurd hf (Nat.not_lt_zero _)
                            | succ fu ih152 =>
                              intro k f1 h7 h8 h9 h10 h11 hf H locs hP hD hS ls hl
                              refine lv_iload hx hb dX11_goesOneWay_152 (lv_at hl 4 rfl) ?_
                              refine lv_iconst (v := nI 1) hx hb dX11_goesOneWay_154 (by decide) ?_
                              refine jn_iadd hx hb dX11_goesOneWay_155 ?_
                              refine lv_aload_n hx hb dX11_goesOneWay_156 rfl (lv_at hl 0 rfl) ?_
                              refine va_get (D := (g.1, g.2.1)) (ci := 13) (v := .int (nI r)) (C := RX11) (T := TX11) (N := 30) hx hb hts iX11 hown hK.1 hP 0 (gM0 g (sA (sF (sF (sF σ 7 (j + v114)) 8 r) 9 (sgl ((σ.2.1 0) (e0 * 3 + (f ((h + pp) % r)))))) 9 f1) tl) rfl 18 (by decide) k66 (fun _ h9 => h9) rfl dX11_goesOneWay_157 ?_
                              refine jn_cge hx hb (by omega) (by omega) (tgt := 185) dX11_goesOneWay_160 (by decide) (fun c_160 => ?_) (fun c_160 => ?_)
                              · refine lv_aload_n hx hb dX11_goesOneWay_185 rfl (lv_at hl 0 rfl) ?_
                                refine lv_dup hx hb dX11_goesOneWay_186 rfl ?_
                                refine va_get (D := (g.1, g.2.1)) (ci := 13) (v := .int (nI r)) (C := RX11) (T := TX11) (N := 30) hx hb hts iX11 hown hK.1 hP 0 (gM0 g (sA (sF (sF (sF σ 7 (j + v114)) 8 r) 9 (sgl ((σ.2.1 0) (e0 * 3 + (f ((h + pp) % r)))))) 9 f1) tl) rfl 18 (by decide) k66 (fun _ h9 => h9) rfl dX11_goesOneWay_187 ?_
                                refine lv_iconst (v := nI 1) hx hb dX11_goesOneWay_190 (by decide) ?_
                                refine jn_isub hx hb (by omega) dX11_goesOneWay_191 ?_
                                refine jn_put (D := (g.1, g.2.1)) (ci := 13) (v := .int (nI (r - 1))) (ty := .int) (C := RX11) (T := TX11) (N := 30) hx hb hts iX11 tyX11 tyX11_ok nmX11 hown hK.1 hP hD hS 0 (gM0 g (sA (sF (sF (sF σ 7 (j + v114)) 8 r) 9 (sgl ((σ.2.1 0) (e0 * 3 + (f ((h + pp) % r)))))) 9 f1) tl) rfl 18 (by decide) k66 (fun _ h9 => h9) rfl (by decide +kernel) rfl rfl (Nat.le_of_ble_eq_true rfl) (uM_F8 g (sA (sF (sF (sF σ 7 (j + v114)) 8 r) 9 (sgl ((σ.2.1 0) (e0 * 3 + (f ((h + pp) % r)))))) 9 f1) tl (r - 1)) dX11_goesOneWay_192 (fun H locs hP hD hS => ?_)
                                refine lv_aload_n hx hb dX11_goesOneWay_195 rfl (lv_at hl 0 rfl) ?_
                                refine va_get (D := (g.1, g.2.1)) (ci := 13) (v := .int (nI (r - 1))) (C := RX11) (T := TX11) (N := 30) hx hb hts iX11 hown hK.1 hP 0 (gM0 g (sF (sA (sF (sF (sF σ 7 (j + v114)) 8 r) 9 (sgl ((σ.2.1 0) (e0 * 3 + (f ((h + pp) % r)))))) 9 f1) 8 (r - 1)) tl) rfl 18 (by decide) k66 (fun _ h9 => h9) rfl dX11_goesOneWay_196 ?_
                                have jp212 : ∀ v212 : Nat, v212 = (if 0 < r - 1 then ((h + pp) % r) % (r - 1) else 0) → W p l e r_c_X11_goesOneWay_6 s m ([.ref (g.2.2.2 0), .ref (g.2.2.2 6), .int (nI n)] : List Value).toArray below meth c H locs 0 0 Q (F0 m 212 ls [.int (nI v212)]) := by
                                  intro v212 ev212
                                  refine lv_istore_n (lv' := [(3, .int (nI v212)), (0, .ref (g.2.2.2 0)), (1, .ref (g.2.2.2 6)), (2, .int (nI n)), (5, .int (nI k))]) hx hb dX11_goesOneWay_212 rfl hl (by decide) rfl (fun ls hl => ?_)
                                  refine lv_goto (tgt := 39) hx hb dX11_goesOneWay_213 (by decide) ?_
                                  exact ih39 v212 (j + v114) (r - 1) (sgl ((σ.2.1 0) (e0 * 3 + (f ((h + pp) % r))))) f1 (by rw [ev114, ev212]; exact owi_s hn hT hdt h3 hpr ehd h9 (fun k hk hk2 => h10 k hk (by omega)) h5 hy) (by omega) _ _ hP hD hS _ (lv_sub hl [1, 2, 3, 0] rfl)
                                refine jn_zle hx hb (by omega) (tgt := 211) dX11_goesOneWay_199 (by decide) (fun c_199 => ?_) (fun c_199 => ?_)
                                · refine lv_iconst (v := nI 0) hx hb dX11_goesOneWay_211 (by decide) ?_
                                  exact jp212 0 (by rw [if_neg (by omega)])
                                · refine lv_iload_n hx hb dX11_goesOneWay_202 rfl (lv_at hl 3 rfl) ?_
                                  refine lv_aload_n hx hb dX11_goesOneWay_203 rfl (lv_at hl 0 rfl) ?_
                                  refine va_get (D := (g.1, g.2.1)) (ci := 13) (v := .int (nI (r - 1))) (C := RX11) (T := TX11) (N := 30) hx hb hts iX11 hown hK.1 hP 0 (gM0 g (sF (sA (sF (sF (sF σ 7 (j + v114)) 8 r) 9 (sgl ((σ.2.1 0) (e0 * 3 + (f ((h + pp) % r)))))) 9 f1) 8 (r - 1)) tl) rfl 18 (by decide) k66 (fun _ h9 => h9) rfl dX11_goesOneWay_204 ?_
                                  refine jn_irem hx hb (by omega) (by omega) (by omega) dX11_goesOneWay_207 ?_
                                  refine lv_goto (tgt := 212) hx hb dX11_goesOneWay_208 (by decide) ?_
                                  exact jp212 (((h + pp) % r) % (r - 1)) (by rw [if_pos (by omega)])
                              · refine lv_aload_n hx hb dX11_goesOneWay_163 rfl (lv_at hl 0 rfl) ?_
                                refine va_get (D := (g.1, g.2.1)) (ci := 13) (v := .ref (g.2.2.2 10)) (C := RX11) (T := TX11) (N := 30) hx hb hts iX11 hown hK.1 hP 0 (gM0 g (sA (sF (sF (sF σ 7 (j + v114)) 8 r) 9 (sgl ((σ.2.1 0) (e0 * 3 + (f ((h + pp) % r)))))) 9 f1) tl) rfl 16 (by decide) k60 (fun _ h9 => h9) rfl dX11_goesOneWay_164 ?_
                                refine lv_iload hx hb dX11_goesOneWay_167 (lv_at hl 4 rfl) ?_
                                refine lv_aload_n hx hb dX11_goesOneWay_169 rfl (lv_at hl 0 rfl) ?_
                                refine va_get (D := (g.1, g.2.1)) (ci := 13) (v := .ref (g.2.2.2 10)) (C := RX11) (T := TX11) (N := 30) hx hb hts iX11 hown hK.1 hP 0 (gM0 g (sA (sF (sF (sF σ 7 (j + v114)) 8 r) 9 (sgl ((σ.2.1 0) (e0 * 3 + (f ((h + pp) % r)))))) 9 f1) tl) rfl 16 (by decide) k60 (fun _ h9 => h9) rfl dX11_goesOneWay_170 ?_
                                refine lv_iload hx hb dX11_goesOneWay_173 (lv_at hl 4 rfl) ?_
                                refine lv_iconst (v := nI 1) hx hb dX11_goesOneWay_175 (by decide) ?_
                                refine jn_iadd hx hb dX11_goesOneWay_176 ?_
                                refine jn_iald (f := f1) hx hb hK.1 hP 10 0 (gM10 g (sA (sF (sF (sF σ 7 (j + v114)) 8 r) 9 (sgl ((σ.2.1 0) (e0 * 3 + (f ((h + pp) % r)))))) 9 f1) tl) rfl (by omega) (Nat.le_of_ble_eq_true rfl) dX11_goesOneWay_177 ?_
                                refine jn_iast (f := f1) hx hb hK.1 hP hD hS 10 0 (gM10 g (sA (sF (sF (sF σ 7 (j + v114)) 8 r) 9 (sgl ((σ.2.1 0) (e0 * 3 + (f ((h + pp) % r)))))) 9 f1) tl) rfl (by omega) (Nat.le_of_ble_eq_true rfl) (uM_A9 g (sA (sF (sF (sF σ 7 (j + v114)) 8 r) 9 (sgl ((σ.2.1 0) (e0 * 3 + (f ((h + pp) % r)))))) 9 f1) tl _) dX11_goesOneWay_178 (fun H locs hP hD hS => ?_)
                                refine lv_iinc (v := nI (k + 1)) (lv' := [(5, .int (nI (k + 1))), (0, .ref (g.2.2.2 0)), (1, .ref (g.2.2.2 6)), (2, .int (nI n)), (3, .int (nI ((h + pp) % r)))]) hx hb dX11_goesOneWay_179 hl (k := 4) rfl (jn_ii _ 1) (by decide) rfl (fun ls hl => ?_)
                                refine lv_goto (tgt := 152) hx hb dX11_goesOneWay_182 (by decide) ?_
                                exact ih152 (k + 1) (va_up f1 k (f1 (k + 1))) (by omega) (by omega) (fun z hz => by rw [va_up, if_neg (by omega)]; exact h9 z hz) (fun z hz hz2 => by unfold va_up; split; { rename_i q; rw [q]; exact h11 _ (by omega) }; { exact h10 z hz (by omega) }) (fun z hz => by rw [va_up, if_neg (by omega)]; exact h11 z (by omega)) (by omega) _ _ hP hD hS _ (lv_sub hl [1, 2, 3, 4, 0] rfl)
                          exact lp152 _ ((h + pp) % r) f (Nat.le_refl _) hmod (fun _ _ => rfl) (fun z h1 h2 => absurd h1 (by omega)) (fun _ _ => rfl) (Nat.lt_succ_self _) _ _ hP hD hS _ (lv_sub hl [2, 3, 4, 1, 0] rfl)
                        refine jn_zle hx hb (by omega) (tgt := 113) dX11_goesOneWay_106 (by decide) (fun c_106 => ?_) (fun c_106 => ?_)
                        · refine lv_iconst (v := nI 0) hx hb dX11_goesOneWay_113 (by decide) ?_
                          exact jp114 0 (by rw [if_neg (by omega)])
                        · refine lv_iconst (v := nI 1) hx hb dX11_goesOneWay_109 (by decide) ?_
                          refine lv_goto (tgt := 114) hx hb dX11_goesOneWay_110 (by decide) ?_
                          exact jp114 1 (by rw [if_pos (by omega)])
                      · exact hq _ _ _ _ (j, r, e0, f) dX11_goesOneWay_98 ⟨by rw [← g6, ow_stop g3 (fun i hi => h5 i (by omega))], g3, by omega, by omega⟩ hP hD hS
                    · refine lv_iinc (v := nI (pp + 1)) (lv' := [(4, .int (nI (pp + 1))), (0, .ref (g.2.2.2 0)), (1, .ref (g.2.2.2 6)), (2, .int (nI n)), (3, .int (nI h))]) hx hb dX11_goesOneWay_83 hl (k := 4) rfl (jn_ii _ 1) (by decide) rfl (fun ls hl => ?_)
                      refine lv_goto (tgt := 49) hx hb dX11_goesOneWay_86 (by decide) ?_
                      exact ih49 (pp + 1) (by omega) (fun k hk => by rcases Nat.lt_or_ge k pp with q | q; { exact h5 k q }; { rw [show k = pp by omega]; exact c_80 }) (by omega) _ _ hP hD hS _ (lv_sub hl [1, 2, 3, 4, 0] rfl)
              exact lp49 _ 0 (by omega) (fun k hk => absurd hk (by omega)) (Nat.lt_succ_self _) _ _ hP hD hS _ (lv_sub hl [1, 2, 3, 4, 0] rfl)
        exact lp39 _ 0 0 n 0 f (owi_0 (fun k hk => h2 k (by omega)) hw) (Nat.lt_succ_self _) _ _ hP hD hS _ (lv_sub hl [1, 2, 3, 0] rfl)
      · refine lv_aload_n hx hb dX11_goesOneWay_22 rfl (lv_at hl 0 rfl) ?_
        refine va_get (D := (g.1, g.2.1)) (ci := 13) (v := .ref (g.2.2.2 10)) (C := RX11) (T := TX11) (N := 30) hx hb hts iX11 hown hK.1 hP 0 (gM0 g (sA (sF (sF (sF σ 7 0) 8 n) 9 0) 9 f) tl) rfl 16 (by decide) k60 (fun _ h9 => h9) rfl dX11_goesOneWay_23 ?_
        refine lv_iload_n hx hb dX11_goesOneWay_26 rfl (lv_at hl 3 rfl) ?_
        refine lv_aload_n hx hb dX11_goesOneWay_27 rfl (lv_at hl 1 rfl) ?_
        refine lv_iload_n hx hb dX11_goesOneWay_28 rfl (lv_at hl 3 rfl) ?_
        refine jn_iald (f := σ.2.1 5) hx hb hK.1 hP 6 0 (gM6 g (sA (sF (sF (sF σ 7 0) 8 n) 9 0) 9 f) tl) rfl (by omega) (Nat.le_of_ble_eq_true rfl) dX11_goesOneWay_29 ?_
        refine jn_iast (f := f) hx hb hK.1 hP hD hS 10 0 (gM10 g (sA (sF (sF (sF σ 7 0) 8 n) 9 0) 9 f) tl) rfl (by omega) (Nat.le_of_ble_eq_true rfl) (uM_A9 g (sA (sF (sF (sF σ 7 0) 8 n) 9 0) 9 f) tl _) dX11_goesOneWay_30 (fun H locs hP hD hS => ?_)
        refine lv_iinc (v := nI (i + 1)) (lv' := [(3, .int (nI (i + 1))), (0, .ref (g.2.2.2 0)), (1, .ref (g.2.2.2 6)), (2, .int (nI n))]) hx hb dX11_goesOneWay_31 hl (k := 3) rfl (jn_ii _ 1) (by decide) rfl (fun ls hl => ?_)
        refine lv_goto (tgt := 17) hx hb dX11_goesOneWay_34 (by decide) ?_
        exact ih17 (i + 1) (va_up f i ((σ.2.1 5) i)) (by omega) (fun k hk => by unfold va_up; split; { rename_i q; rw [q] }; { exact h2 k (by omega) }) (by omega) _ _ hP hD hS _ (lv_sub hl [1, 2, 3, 0] rfl)
  exact lp17 _ 0 (σ.2.1 9) (by omega) (fun k hk => absurd hk (by omega)) (Nat.lt_succ_self _) _ _ hP hD hS _ (lv_sub hl [1, 2, 3, 0] rfl)

abbrev r_c_X11_goesOneWay_7 : Room := { frames := 1, cells := 0, slots := 0, locals := 22 }
set_option maxHeartbeats 4000000 in
set_option maxRecDepth 100000 in
theorem c_X11_goesOneWay_7 (l : Launch) (g : GC) (tl : va_W) (sz : Nat) (σ : SS) (n : Nat) (hT : OkT (σ.2.1 0)) (hdt : detT (σ.2.1 0)) (hn : n ≤ 8) (hw : ∀ i, i < n → (σ.2.1 6) i < 3) : Met l yX11_goesOneWay wsX11_goesOneWay r_c_X11_goesOneWay_7 (va_Pc [.ref (g.2.2.2 0), .ref (g.2.2.2 7), .int (nI n)] (PW g (wM g σ ++ tl) sz)) (va_Qv (fun (z : Nat × Nat × Nat × (Nat → Nat)) => match z with | (j2, r2, e2, f2) => ((2 ^ e2, r2, j2) = owV (σ.2.1 0) 1 (wl (σ.2.1 6) n) 0 0) ∧ (e2 < 5) ∧ (r2 ≤ 8 ∧ j2 ≤ 8)) (fun (z : Nat × Nat × Nat × (Nat → Nat)) t => BW g (va_A (wM g σ ++ tl) sz) ((fun z : Nat × Nat × Nat × (Nat → Nat) => match z with | (j2, r2, e2, f2) => wM g (sA (sF (sF (sF σ 7 j2) 8 r2) 9 e2) 9 f2) ++ tl) z) t) (va_A (wM g σ ++ tl) sz)) 0 0 (va_A (wM g σ ++ tl) sz) := by
  refine jn_sv (wf := fun z : Nat × Nat × Nat × (Nat → Nat) => match z with | (j2, r2, e2, f2) => wM g (sA (sF (sF (sF σ 7 j2) 8 r2) 9 e2) 9 f2) ++ tl) (cc := cX11_goesOneWay) (maxL := 6) (own := RX11) (by decide) rfl rfl (Nat.le_of_ble_eq_true rfl) ?_
  intro p e s m below meth c Q A hx hb hml hown hts hK hP hD hS hAA hq ls hl
  obtain ⟨H, eH⟩ : ∃ z, z = s.heap := ⟨_, rfl⟩
  obtain ⟨locs, el⟩ : ∃ z : List Loc, z = [] := ⟨_, rfl⟩
  rw [← eH] at hP
  have hS : va_S A s.heap H locs := by rw [eH, el]; exact hS
  have goal0 : W p l e r_c_X11_goesOneWay_7 s m ([.ref (g.2.2.2 0), .ref (g.2.2.2 7), .int (nI n)] : List Value).toArray below meth c H locs 0 0 Q (F0 m 0 ls []) → W p l e r_c_X11_goesOneWay_7 s m ([.ref (g.2.2.2 0), .ref (g.2.2.2 7), .int (nI n)] : List Value).toArray below meth c s.heap [] 0 0 Q (F0 m 0 ls []) := fun h => by rw [eH, el] at h; exact h
  refine goal0 ?_
  have hl : lv_has ls 6 [(0, .ref (g.2.2.2 0)), (1, .ref (g.2.2.2 7)), (2, .int (nI n))] := hl
  have iX11 : ∀ w ∈ wsX110, w ∈ wsX11_goesOneWay := by decide +kernel
  have k66 := hts (.fieldLink RX11 66 "JumpingAutomataModel" "rest" "I") (by decide +kernel)
  have k63 := hts (.fieldLink RX11 63 "JumpingAutomataModel" "jumps" "I") (by decide +kernel)
  have k69 := hts (.fieldLink RX11 69 "JumpingAutomataModel" "endState" "I") (by decide +kernel)
  have k60 := hts (.fieldLink RX11 60 "JumpingAutomataModel" "circle" "[I") (by decide +kernel)
  refine lv_aload_n hx hb dX11_goesOneWay_0 rfl (lv_at hl 0 rfl) ?_
  refine lv_iload_n hx hb dX11_goesOneWay_1 rfl (lv_at hl 2 rfl) ?_
  refine jn_put (D := (g.1, g.2.1)) (ci := 13) (v := .int (nI n)) (ty := .int) (C := RX11) (T := TX11) (N := 30) hx hb hts iX11 tyX11 tyX11_ok nmX11 hown hK.1 hP hD hS 0 (gM0 g σ tl) rfl 18 (by decide) k66 (fun _ h9 => h9) rfl (by decide +kernel) rfl rfl (Nat.le_of_ble_eq_true rfl) (uM_F8 g σ tl n) dX11_goesOneWay_2 (fun H locs hP hD hS => ?_)
  refine lv_aload_n hx hb dX11_goesOneWay_5 rfl (lv_at hl 0 rfl) ?_
  refine lv_iconst (v := nI 0) hx hb dX11_goesOneWay_6 (by decide) ?_
  refine jn_put (D := (g.1, g.2.1)) (ci := 13) (v := .int (nI 0)) (ty := .int) (C := RX11) (T := TX11) (N := 30) hx hb hts iX11 tyX11 tyX11_ok nmX11 hown hK.1 hP hD hS 0 (gM0 g (sF σ 8 n) tl) rfl 17 (by decide) k63 (fun _ h9 => h9) rfl (by decide +kernel) rfl rfl (Nat.le_of_ble_eq_true rfl) (uM_F7 g (sF σ 8 n) tl 0) dX11_goesOneWay_7 (fun H locs hP hD hS => ?_)
  refine lv_aload_n hx hb dX11_goesOneWay_10 rfl (lv_at hl 0 rfl) ?_
  refine lv_iconst (v := nI 0) hx hb dX11_goesOneWay_11 (by decide) ?_
  refine jn_put (D := (g.1, g.2.1)) (ci := 13) (v := .int (nI 0)) (ty := .int) (C := RX11) (T := TX11) (N := 30) hx hb hts iX11 tyX11 tyX11_ok nmX11 hown hK.1 hP hD hS 0 (gM0 g (sF (sF σ 8 n) 7 0) tl) rfl 19 (by decide) k69 (fun _ h9 => h9) rfl (by decide +kernel) rfl rfl (Nat.le_of_ble_eq_true rfl) (uM_F9 g (sF (sF σ 8 n) 7 0) tl 0) dX11_goesOneWay_12 (fun H locs hP hD hS => ?_)
  refine lv_iconst (v := nI 0) hx hb dX11_goesOneWay_15 (by decide) ?_
  refine lv_istore_n (lv' := [(3, .int (nI 0)), (0, .ref (g.2.2.2 0)), (1, .ref (g.2.2.2 7)), (2, .int (nI n))]) hx hb dX11_goesOneWay_16 rfl hl (by decide) rfl (fun ls hl => ?_)
  have lp17 : ∀ (fu : Nat), ∀ (i : Nat) (f : Nat → Nat), (i ≤ n) → (∀ k, k < i → f k = (σ.2.1 6) k) → n - i < fu → ∀ (H : Heap) (locs : List Loc), va_P (g.1, g.2.1) vwCl (wM g (sA (sF (sF (sF σ 7 0) 8 n) 9 0) 9 f) ++ tl) H → va_D A (wM g (sA (sF (sF (sF σ 7 0) 8 n) 9 0) 9 f) ++ tl) → va_S A s.heap H locs → ∀ ls : Array Slot, lv_has ls 6 [(0, .ref (g.2.2.2 0)), (1, .ref (g.2.2.2 7)), (2, .int (nI n)), (3, .int (nI i))] → W p l e r_c_X11_goesOneWay_7 s m ([.ref (g.2.2.2 0), .ref (g.2.2.2 7), .int (nI n)] : List Value).toArray below meth c H locs 0 0 Q (F0 m 17 ls []) := by
    intro fu
    induction fu with
    | zero => intro i f h1 h2 hf; exact absurd hf (Nat.not_lt_zero _)
    | succ fu ih17 =>
      intro i f h1 h2 hf H locs hP hD hS ls hl
      refine lv_iload_n hx hb dX11_goesOneWay_17 rfl (lv_at hl 3 rfl) ?_
      refine lv_iload_n hx hb dX11_goesOneWay_18 rfl (lv_at hl 2 rfl) ?_
      refine jn_cge hx hb (by omega) (by omega) (tgt := 37) dX11_goesOneWay_19 (by decide) (fun c_19 => ?_) (fun c_19 => ?_)
      · refine lv_iconst (v := nI 0) hx hb dX11_goesOneWay_37 (by decide) ?_
        refine lv_istore_n (lv' := [(3, .int (nI 0)), (0, .ref (g.2.2.2 0)), (1, .ref (g.2.2.2 7)), (2, .int (nI n))]) hx hb dX11_goesOneWay_38 rfl hl (by decide) rfl (fun ls hl => ?_)
        have lp39 : ∀ (fu : Nat), ∀ (h : Nat) (j : Nat) (r : Nat) (e0 : Nat) (f : Nat → Nat), (OwI (σ.2.1 0) (σ.2.1 6) n h r e0 j f) → r < fu → ∀ (H : Heap) (locs : List Loc), va_P (g.1, g.2.1) vwCl (wM g (sA (sF (sF (sF σ 7 j) 8 r) 9 e0) 9 f) ++ tl) H → va_D A (wM g (sA (sF (sF (sF σ 7 j) 8 r) 9 e0) 9 f) ++ tl) → va_S A s.heap H locs → ∀ ls : Array Slot, lv_has ls 6 [(0, .ref (g.2.2.2 0)), (1, .ref (g.2.2.2 7)), (2, .int (nI n)), (3, .int (nI h))] → W p l e r_c_X11_goesOneWay_7 s m ([.ref (g.2.2.2 0), .ref (g.2.2.2 7), .int (nI n)] : List Value).toArray below meth c H locs 0 0 Q (F0 m 39 ls []) := by
          intro fu
          induction fu with
          | zero => intro h j r e0 f h3 hf; exact absurd hf (Nat.not_lt_zero _)
          | succ fu ih39 =>
            intro h j r e0 f h3 hf H locs hP hD hS ls hl
            obtain ⟨g1, g2, g3, g4, g5, g6⟩ := id h3
            refine lv_aload_n hx hb dX11_goesOneWay_39 rfl (lv_at hl 0 rfl) ?_
            refine va_get (D := (g.1, g.2.1)) (ci := 13) (v := .int (nI r)) (C := RX11) (T := TX11) (N := 30) hx hb hts iX11 hown hK.1 hP 0 (gM0 g (sA (sF (sF (sF σ 7 j) 8 r) 9 e0) 9 f) tl) rfl 18 (by decide) k66 (fun _ h9 => h9) rfl dX11_goesOneWay_40 ?_
            refine jn_zle hx hb (by omega) (tgt := 216) dX11_goesOneWay_43 (by decide) (fun c_43 => ?_) (fun c_43 => ?_)
            · exact hq _ _ _ _ (j, r, e0, f) dX11_goesOneWay_216 ⟨by have e : r = 0 := (by omega); subst e; rw [← g6, ow_nil], g3, by omega, by omega⟩ hP hD hS
            · refine lv_iconst (v := nI 0) hx hb dX11_goesOneWay_46 (by decide) ?_
              refine lv_istore (lv' := [(4, .int (nI 0)), (0, .ref (g.2.2.2 0)), (1, .ref (g.2.2.2 7)), (2, .int (nI n)), (3, .int (nI h))]) hx hb dX11_goesOneWay_47 hl (by decide) rfl (fun ls hl => ?_)
              have lp49 : ∀ (fu : Nat), ∀ (pp : Nat), (pp ≤ r) → (∀ i, i < pp → (σ.2.1 0) (e0 * 3 + f ((h + i) % r)) = 0) → r - pp < fu → ∀ (H : Heap) (locs : List Loc), va_P (g.1, g.2.1) vwCl (wM g (sA (sF (sF (sF σ 7 j) 8 r) 9 e0) 9 f) ++ tl) H → va_D A (wM g (sA (sF (sF (sF σ 7 j) 8 r) 9 e0) 9 f) ++ tl) → va_S A s.heap H locs → ∀ ls : Array Slot, lv_has ls 6 [(0, .ref (g.2.2.2 0)), (1, .ref (g.2.2.2 7)), (2, .int (nI n)), (3, .int (nI h)), (4, .int (nI pp))] → W p l e r_c_X11_goesOneWay_7 s m ([.ref (g.2.2.2 0), .ref (g.2.2.2 7), .int (nI n)] : List Value).toArray below meth c H locs 0 0 Q (F0 m 49 ls []) := by
                intro fu
                induction fu with
                | zero => intro pp h4 h5 hf; exact absurd hf (Nat.not_lt_zero _)
                | succ fu ih49 =>
                  intro pp h4 h5 hf H locs hP hD hS ls hl
                  have hmod : (h + pp) % r < r := Nat.mod_lt _ (by omega)
                  refine lv_iload hx hb dX11_goesOneWay_49 (lv_at hl 4 rfl) ?_
                  refine lv_aload_n hx hb dX11_goesOneWay_51 rfl (lv_at hl 0 rfl) ?_
                  refine va_get (D := (g.1, g.2.1)) (ci := 13) (v := .int (nI r)) (C := RX11) (T := TX11) (N := 30) hx hb hts iX11 hown hK.1 hP 0 (gM0 g (sA (sF (sF (sF σ 7 j) 8 r) 9 e0) 9 f) tl) rfl 18 (by decide) k66 (fun _ h9 => h9) rfl dX11_goesOneWay_52 ?_
                  refine jn_cge hx hb (by omega) (by omega) (tgt := 89) dX11_goesOneWay_55 (by decide) (fun c_55 => ?_) (fun c_55 => ?_)
                  · refine lv_iload hx hb dX11_goesOneWay_89 (lv_at hl 4 rfl) ?_
                    refine lv_aload_n hx hb dX11_goesOneWay_91 rfl (lv_at hl 0 rfl) ?_
                    refine va_get (D := (g.1, g.2.1)) (ci := 13) (v := .int (nI r)) (C := RX11) (T := TX11) (N := 30) hx hb hts iX11 hown hK.1 hP 0 (gM0 g (sA (sF (sF (sF σ 7 j) 8 r) 9 e0) 9 f) tl) rfl 18 (by decide) k66 (fun _ h9 => h9) rfl dX11_goesOneWay_92 ?_
                    refine jn_cne hx hb (by omega) (by omega) (tgt := 99) dX11_goesOneWay_95 (by decide) (fun c_95 => ?_) (fun c_95 => ?_)
                    · have hpr : pp < r := by omega
                      have hnl : (σ.2.1 0) (e0 * 3 + f ((h + pp) % r)) < 32 := by first | exact hnl | (exfalso; omega)
                      have hy : (σ.2.1 0) (e0 * 3 + f ((h + pp) % r)) ≠ 0 := by first | exact hy | (exfalso; omega)
                      have ehd : (h + pp) % r = (h + pp) % r := rfl
                      refine lv_aload_n hx hb dX11_goesOneWay_99 rfl (lv_at hl 0 rfl) ?_
                      refine lv_dup hx hb dX11_goesOneWay_100 rfl ?_
                      refine va_get (D := (g.1, g.2.1)) (ci := 13) (v := .int (nI j)) (C := RX11) (T := TX11) (N := 30) hx hb hts iX11 hown hK.1 hP 0 (gM0 g (sA (sF (sF (sF σ 7 j) 8 r) 9 e0) 9 f) tl) rfl 17 (by decide) k63 (fun _ h9 => h9) rfl dX11_goesOneWay_101 ?_
                      refine lv_iload hx hb dX11_goesOneWay_104 (lv_at hl 4 rfl) ?_
                      have jp114 : ∀ v114 : Nat, v114 = (if 0 < pp then 1 else 0) → W p l e r_c_X11_goesOneWay_7 s m ([.ref (g.2.2.2 0), .ref (g.2.2.2 7), .int (nI n)] : List Value).toArray below meth c H locs 0 0 Q (F0 m 114 ls [.int (nI v114), .int (nI j), .ref (g.2.2.2 0)]) := by
                        intro v114 ev114
                        refine jn_iadd hx hb dX11_goesOneWay_114 ?_
                        refine jn_put (D := (g.1, g.2.1)) (ci := 13) (v := .int (nI (j + v114))) (ty := .int) (C := RX11) (T := TX11) (N := 30) hx hb hts iX11 tyX11 tyX11_ok nmX11 hown hK.1 hP hD hS 0 (gM0 g (sA (sF (sF (sF σ 7 j) 8 r) 9 e0) 9 f) tl) rfl 17 (by decide) k63 (fun _ h9 => h9) rfl (by decide +kernel) rfl rfl (Nat.le_of_ble_eq_true rfl) (uM_F7 g (sA (sF (sF (sF σ 7 j) 8 r) 9 e0) 9 f) tl (j + v114)) dX11_goesOneWay_115 (fun H locs hP hD hS => ?_)
                        refine lv_iload_n hx hb dX11_goesOneWay_118 rfl (lv_at hl 3 rfl) ?_
                        refine lv_iload hx hb dX11_goesOneWay_119 (lv_at hl 4 rfl) ?_
                        refine jn_iadd hx hb dX11_goesOneWay_121 ?_
                        refine lv_aload_n hx hb dX11_goesOneWay_122 rfl (lv_at hl 0 rfl) ?_
                        refine va_get (D := (g.1, g.2.1)) (ci := 13) (v := .int (nI r)) (C := RX11) (T := TX11) (N := 30) hx hb hts iX11 hown hK.1 hP 0 (gM0 g (sF (sA (sF (sF (sF σ 7 j) 8 r) 9 e0) 9 f) 7 (j + v114)) tl) rfl 18 (by decide) k66 (fun _ h9 => h9) rfl dX11_goesOneWay_123 ?_
                        refine jn_irem hx hb (by omega) (by omega) (by omega) dX11_goesOneWay_126 ?_
                        refine lv_istore_n (lv' := [(3, .int (nI ((h + pp) % r))), (0, .ref (g.2.2.2 0)), (1, .ref (g.2.2.2 7)), (2, .int (nI n)), (4, .int (nI pp))]) hx hb dX11_goesOneWay_127 rfl hl (by decide) rfl (fun ls hl => ?_)
                        refine lv_aload_n hx hb dX11_goesOneWay_128 rfl (lv_at hl 1 rfl) ?_
                        refine lv_aload_n hx hb dX11_goesOneWay_129 rfl (lv_at hl 1 rfl) ?_
                        refine lv_aload_n hx hb dX11_goesOneWay_130 rfl (lv_at hl 1 rfl) ?_
                        refine va_get (D := (g.1, g.2.1)) (ci := 13) (v := .int (nI e0)) (C := RX11) (T := TX11) (N := 30) hx hb hts iX11 hown hK.1 hP 0 (gM0 g (sF (sA (sF (sF (sF σ 7 j) 8 r) 9 e0) 9 f) 7 (j + v114)) tl) rfl 19 (by decide) k69 (fun _ h9 => h9) rfl dX11_goesOneWay_131 ?_
                        refine lv_aload_n hx hb dX11_goesOneWay_134 rfl (lv_at hl 1 rfl) ?_
                        refine va_get (D := (g.1, g.2.1)) (ci := 13) (v := .ref (g.2.2.2 10)) (C := RX11) (T := TX11) (N := 30) hx hb hts iX11 hown hK.1 hP 0 (gM0 g (sF (sA (sF (sF (sF σ 7 j) 8 r) 9 e0) 9 f) 7 (j + v114)) tl) rfl 16 (by decide) k60 (fun _ h9 => h9) rfl dX11_goesOneWay_135 ?_
                        refine lv_iload_n hx hb dX11_goesOneWay_138 rfl (lv_at hl 0 rfl) ?_
                        refine jn_iald (f := f) hx hb hK.1 hP 10 0 (gM10 g (sF (sA (sF (sF (sF σ 7 j) 8 r) 9 e0) 9 f) 7 (j + v114)) tl) rfl (Nat.lt_of_lt_of_le hmod (by omega)) (Nat.le_of_ble_eq_true rfl) dX11_goesOneWay_139 ?_
                        refine vp_callSi (va_Run.run (va_runV (As := [.int (nI e0), .int (nI (f ((h + pp) % r)))]) (rest := [.ref (g.2.2.2 0)]) ⟨hx, hb, hml, hown, hts⟩ (c_X11_next l g tl (sF (sA (sF (sF (sF σ 7 j) 8 r) 9 e0) 9 f) 7 (j + v114)) e0 (f ((h + pp) % r)) g3 (g5 _ hmod)) (cwV 2 hts gX11_goesOneWay_X11_next rfl rfl rfl (by decide +kernel) ⟨Nat.le_of_ble_eq_true rfl, Nat.le_of_ble_eq_true rfl⟩) (okPV hK hP rfl (gM0 g (sF (sA (sF (sF (sF σ 7 j) 8 r) 9 e0) 9 f) 7 (j + v114)) tl)) rfl rfl hl.1 rfl (lv_room (Nat.le_of_ble_eq_true rfl)) dX11_goesOneWay_140 ⟨Nat.le_of_ble_eq_true rfl, Nat.le_of_ble_eq_true rfl⟩)) (fun r_140 h_140 => ?_)
                        have h_140 : r_140 = (nI ((σ.2.1 0) (e0 * 3 + (f ((h + pp) % r))))) := h_140
                        subst h_140
                        refine vp_callSi (va_Run.run (va_runS (As := [.int (nI ((σ.2.1 0) (e0 * 3 + (f ((h + pp) % r)))))]) (rest := [.ref (g.2.2.2 0)]) ⟨hx, hb, hml, hown, hts⟩ (c_X11_single l ((σ.2.1 0) (e0 * 3 + (f ((h + pp) % r)))) hnl) (va_cwS 1 hts gX11_goesOneWay_X11_single rfl rfl rfl (by decide +kernel) ⟨Nat.le_of_ble_eq_true rfl, Nat.le_of_ble_eq_true rfl⟩) okTS rfl rfl hl.1 rfl (lv_room (Nat.le_of_ble_eq_true rfl)) dX11_goesOneWay_143 ⟨Nat.le_of_ble_eq_true rfl, Nat.le_of_ble_eq_true rfl⟩)) (fun r_143 h_143 => ?_)
                        subst h_143
                        refine jn_put (D := (g.1, g.2.1)) (ci := 13) (v := .int (nI (sgl ((σ.2.1 0) (e0 * 3 + (f ((h + pp) % r))))))) (ty := .int) (C := RX11) (T := TX11) (N := 30) hx hb hts iX11 tyX11 tyX11_ok nmX11 hown hK.1 hP hD hS 0 (gM0 g (sF (sA (sF (sF (sF σ 7 j) 8 r) 9 e0) 9 f) 7 (j + v114)) tl) rfl 19 (by decide) k69 (fun _ h9 => h9) rfl (by decide +kernel) rfl rfl (Nat.le_of_ble_eq_true rfl) (uM_F9 g (sF (sA (sF (sF (sF σ 7 j) 8 r) 9 e0) 9 f) 7 (j + v114)) tl (sgl ((σ.2.1 0) (e0 * 3 + (f ((h + pp) % r)))))) dX11_goesOneWay_146 (fun H locs hP hD hS => ?_)
                        refine lv_iload_n hx hb dX11_goesOneWay_149 rfl (lv_at hl 0 rfl) ?_
                        refine lv_istore (lv' := [(5, .int (nI ((h + pp) % r))), (3, .int (nI ((h + pp) % r))), (0, .ref (g.2.2.2 0)), (1, .ref (g.2.2.2 7)), (2, .int (nI n)), (4, .int (nI pp))]) hx hb dX11_goesOneWay_150 hl (by decide) rfl (fun ls hl => ?_)
                        have lp152 : ∀ (fu : Nat), ∀ (k : Nat) (f1 : Nat → Nat), ((h + pp) % r ≤ k) → (k < r) → (∀ z, z < (h + pp) % r → f1 z = f z) → (∀ z, (h + pp) % r ≤ z → z < k → f1 z = f (z + 1)) → (∀ z, k ≤ z → f1 z = f z) → r - k < fu → ∀ (H : Heap) (locs : List Loc), va_P (g.1, g.2.1) vwCl (wM g (sA (sF (sF (sF σ 7 (j + v114)) 8 r) 9 (sgl ((σ.2.1 0) (e0 * 3 + (f ((h + pp) % r)))))) 9 f1) ++ tl) H → va_D A (wM g (sA (sF (sF (sF σ 7 (j + v114)) 8 r) 9 (sgl ((σ.2.1 0) (e0 * 3 + (f ((h + pp) % r)))))) 9 f1) ++ tl) → va_S A s.heap H locs → ∀ ls : Array Slot, lv_has ls 6 [(0, .ref (g.2.2.2 0)), (1, .ref (g.2.2.2 7)), (2, .int (nI n)), (3, .int (nI ((h + pp) % r))), (5, .int (nI k))] → W p l e r_c_X11_goesOneWay_7 s m ([.ref (g.2.2.2 0), .ref (g.2.2.2 7), .int (nI n)] : List Value).toArray below meth c H locs 0 0 Q (F0 m 152 ls []) := by
                          intro fu
                          induction fu with
                          | zero => intro k f1 h7 h8 h9 h10 h11 hf; exact absurd hf (Nat.not_lt_zero _)
                          | succ fu ih152 =>
                            intro k f1 h7 h8 h9 h10 h11 hf H locs hP hD hS ls hl
                            refine lv_iload hx hb dX11_goesOneWay_152 (lv_at hl 4 rfl) ?_
                            refine lv_iconst (v := nI 1) hx hb dX11_goesOneWay_154 (by decide) ?_
                            refine jn_iadd hx hb dX11_goesOneWay_155 ?_
                            refine lv_aload_n hx hb dX11_goesOneWay_156 rfl (lv_at hl 0 rfl) ?_
                            refine va_get (D := (g.1, g.2.1)) (ci := 13) (v := .int (nI r)) (C := RX11) (T := TX11) (N := 30) hx hb hts iX11 hown hK.1 hP 0 (gM0 g (sA (sF (sF (sF σ 7 (j + v114)) 8 r) 9 (sgl ((σ.2.1 0) (e0 * 3 + (f ((h + pp) % r)))))) 9 f1) tl) rfl 18 (by decide) k66 (fun _ h9 => h9) rfl dX11_goesOneWay_157 ?_
                            refine jn_cge hx hb (by omega) (by omega) (tgt := 185) dX11_goesOneWay_160 (by decide) (fun c_160 => ?_) (fun c_160 => ?_)
                            · refine lv_aload_n hx hb dX11_goesOneWay_185 rfl (lv_at hl 0 rfl) ?_
                              refine lv_dup hx hb dX11_goesOneWay_186 rfl ?_
                              refine va_get (D := (g.1, g.2.1)) (ci := 13) (v := .int (nI r)) (C := RX11) (T := TX11) (N := 30) hx hb hts iX11 hown hK.1 hP 0 (gM0 g (sA (sF (sF (sF σ 7 (j + v114)) 8 r) 9 (sgl ((σ.2.1 0) (e0 * 3 + (f ((h + pp) % r)))))) 9 f1) tl) rfl 18 (by decide) k66 (fun _ h9 => h9) rfl dX11_goesOneWay_187 ?_
                              refine lv_iconst (v := nI 1) hx hb dX11_goesOneWay_190 (by decide) ?_
                              refine jn_isub hx hb (by omega) dX11_goesOneWay_191 ?_
                              refine jn_put (D := (g.1, g.2.1)) (ci := 13) (v := .int (nI (r - 1))) (ty := .int) (C := RX11) (T := TX11) (N := 30) hx hb hts iX11 tyX11 tyX11_ok nmX11 hown hK.1 hP hD hS 0 (gM0 g (sA (sF (sF (sF σ 7 (j + v114)) 8 r) 9 (sgl ((σ.2.1 0) (e0 * 3 + (f ((h + pp) % r)))))) 9 f1) tl) rfl 18 (by decide) k66 (fun _ h9 => h9) rfl (by decide +kernel) rfl rfl (Nat.le_of_ble_eq_true rfl) (uM_F8 g (sA (sF (sF (sF σ 7 (j + v114)) 8 r) 9 (sgl ((σ.2.1 0) (e0 * 3 + (f ((h + pp) % r)))))) 9 f1) tl (r - 1)) dX11_goesOneWay_192 (fun H locs hP hD hS => ?_)
                              refine lv_aload_n hx hb dX11_goesOneWay_195 rfl (lv_at hl 0 rfl) ?_
                              refine va_get (D := (g.1, g.2.1)) (ci := 13) (v := .int (nI (r - 1))) (C := RX11) (T := TX11) (N := 30) hx hb hts iX11 hown hK.1 hP 0 (gM0 g (sF (sA (sF (sF (sF σ 7 (j + v114)) 8 r) 9 (sgl ((σ.2.1 0) (e0 * 3 + (f ((h + pp) % r)))))) 9 f1) 8 (r - 1)) tl) rfl 18 (by decide) k66 (fun _ h9 => h9) rfl dX11_goesOneWay_196 ?_
                              have jp212 : ∀ v212 : Nat, v212 = (if 0 < r - 1 then ((h + pp) % r) % (r - 1) else 0) → W p l e r_c_X11_goesOneWay_7 s m ([.ref (g.2.2.2 0), .ref (g.2.2.2 7), .int (nI n)] : List Value).toArray below meth c H locs 0 0 Q (F0 m 212 ls [.int (nI v212)]) := by
                                intro v212 ev212
                                refine lv_istore_n (lv' := [(3, .int (nI v212)), (0, .ref (g.2.2.2 0)), (1, .ref (g.2.2.2 7)), (2, .int (nI n)), (5, .int (nI k))]) hx hb dX11_goesOneWay_212 rfl hl (by decide) rfl (fun ls hl => ?_)
                                refine lv_goto (tgt := 39) hx hb dX11_goesOneWay_213 (by decide) ?_
                                exact ih39 v212 (j + v114) (r - 1) (sgl ((σ.2.1 0) (e0 * 3 + (f ((h + pp) % r))))) f1 (by rw [ev114, ev212]; exact owi_s hn hT hdt h3 hpr ehd h9 (fun k hk hk2 => h10 k hk (by omega)) h5 hy) (by omega) _ _ hP hD hS _ (lv_sub hl [1, 2, 3, 0] rfl)
                              refine jn_zle hx hb (by omega) (tgt := 211) dX11_goesOneWay_199 (by decide) (fun c_199 => ?_) (fun c_199 => ?_)
                              · refine lv_iconst (v := nI 0) hx hb dX11_goesOneWay_211 (by decide) ?_
                                exact jp212 0 (by rw [if_neg (by omega)])
                              · refine lv_iload_n hx hb dX11_goesOneWay_202 rfl (lv_at hl 3 rfl) ?_
                                refine lv_aload_n hx hb dX11_goesOneWay_203 rfl (lv_at hl 0 rfl) ?_
                                refine va_get (D := (g.1, g.2.1)) (ci := 13) (v := .int (nI (r - 1))) (C := RX11) (T := TX11) (N := 30) hx hb hts iX11 hown hK.1 hP 0 (gM0 g (sF (sA (sF (sF (sF σ 7 (j + v114)) 8 r) 9 (sgl ((σ.2.1 0) (e0 * 3 + (f ((h + pp) % r)))))) 9 f1) 8 (r - 1)) tl) rfl 18 (by decide) k66 (fun _ h9 => h9) rfl dX11_goesOneWay_204 ?_
                                refine jn_irem hx hb (by omega) (by omega) (by omega) dX11_goesOneWay_207 ?_
                                refine lv_goto (tgt := 212) hx hb dX11_goesOneWay_208 (by decide) ?_
                                exact jp212 (((h + pp) % r) % (r - 1)) (by rw [if_pos (by omega)])
                            · refine lv_aload_n hx hb dX11_goesOneWay_163 rfl (lv_at hl 0 rfl) ?_
                              refine va_get (D := (g.1, g.2.1)) (ci := 13) (v := .ref (g.2.2.2 10)) (C := RX11) (T := TX11) (N := 30) hx hb hts iX11 hown hK.1 hP 0 (gM0 g (sA (sF (sF (sF σ 7 (j + v114)) 8 r) 9 (sgl ((σ.2.1 0) (e0 * 3 + (f ((h + pp) % r)))))) 9 f1) tl) rfl 16 (by decide) k60 (fun _ h9 => h9) rfl dX11_goesOneWay_164 ?_
                              refine lv_iload hx hb dX11_goesOneWay_167 (lv_at hl 4 rfl) ?_
                              refine lv_aload_n hx hb dX11_goesOneWay_169 rfl (lv_at hl 0 rfl) ?_
                              refine va_get (D := (g.1, g.2.1)) (ci := 13) (v := .ref (g.2.2.2 10)) (C := RX11) (T := TX11) (N := 30) hx hb hts iX11 hown hK.1 hP 0 (gM0 g (sA (sF (sF (sF σ 7 (j + v114)) 8 r) 9 (sgl ((σ.2.1 0) (e0 * 3 + (f ((h + pp) % r)))))) 9 f1) tl) rfl 16 (by decide) k60 (fun _ h9 => h9) rfl dX11_goesOneWay_170 ?_
                              refine lv_iload hx hb dX11_goesOneWay_173 (lv_at hl 4 rfl) ?_
                              refine lv_iconst (v := nI 1) hx hb dX11_goesOneWay_175 (by decide) ?_
                              refine jn_iadd hx hb dX11_goesOneWay_176 ?_
                              refine jn_iald (f := f1) hx hb hK.1 hP 10 0 (gM10 g (sA (sF (sF (sF σ 7 (j + v114)) 8 r) 9 (sgl ((σ.2.1 0) (e0 * 3 + (f ((h + pp) % r)))))) 9 f1) tl) rfl (by omega) (Nat.le_of_ble_eq_true rfl) dX11_goesOneWay_177 ?_
                              refine jn_iast (f := f1) hx hb hK.1 hP hD hS 10 0 (gM10 g (sA (sF (sF (sF σ 7 (j + v114)) 8 r) 9 (sgl ((σ.2.1 0) (e0 * 3 + (f ((h + pp) % r)))))) 9 f1) tl) rfl (by omega) (Nat.le_of_ble_eq_true rfl) (uM_A9 g (sA (sF (sF (sF σ 7 (j + v114)) 8 r) 9 (sgl ((σ.2.1 0) (e0 * 3 + (f ((h + pp) % r)))))) 9 f1) tl _) dX11_goesOneWay_178 (fun H locs hP hD hS => ?_)
                              refine lv_iinc (v := nI (k + 1)) (lv' := [(5, .int (nI (k + 1))), (0, .ref (g.2.2.2 0)), (1, .ref (g.2.2.2 7)), (2, .int (nI n)), (3, .int (nI ((h + pp) % r)))]) hx hb dX11_goesOneWay_179 hl (k := 4) rfl (jn_ii _ 1) (by decide) rfl (fun ls hl => ?_)
                              refine lv_goto (tgt := 152) hx hb dX11_goesOneWay_182 (by decide) ?_
                              exact ih152 (k + 1) (va_up f1 k (f1 (k + 1))) (by omega) (by omega) (fun z hz => by rw [va_up, if_neg (by omega)]; exact h9 z hz) (fun z hz hz2 => by unfold va_up; split; { rename_i q; rw [q]; exact h11 _ (by omega) }; { exact h10 z hz (by omega) }) (fun z hz => by rw [va_up, if_neg (by omega)]; exact h11 z (by omega)) (by omega) _ _ hP hD hS _ (lv_sub hl [1, 2, 3, 4, 0] rfl)
                        exact lp152 _ ((h + pp) % r) f (Nat.le_refl _) hmod (fun _ _ => rfl) (fun z h1 h2 => absurd h1 (by omega)) (fun _ _ => rfl) (Nat.lt_succ_self _) _ _ hP hD hS _ (lv_sub hl [2, 3, 4, 1, 0] rfl)
                      refine jn_zle hx hb (by omega) (tgt := 113) dX11_goesOneWay_106 (by decide) (fun c_106 => ?_) (fun c_106 => ?_)
                      · refine lv_iconst (v := nI 0) hx hb dX11_goesOneWay_113 (by decide) ?_
                        exact jp114 0 (by rw [if_neg (by omega)])
                      · refine lv_iconst (v := nI 1) hx hb dX11_goesOneWay_109 (by decide) ?_
                        refine lv_goto (tgt := 114) hx hb dX11_goesOneWay_110 (by decide) ?_
                        exact jp114 1 (by rw [if_pos (by omega)])
                    · exact hq _ _ _ _ (j, r, e0, f) dX11_goesOneWay_98 ⟨by rw [← g6, ow_stop g3 (fun i hi => h5 i (by omega))], g3, by omega, by omega⟩ hP hD hS
                  · refine lv_aload_n hx hb dX11_goesOneWay_58 rfl (lv_at hl 0 rfl) ?_
                    refine lv_aload_n hx hb dX11_goesOneWay_59 rfl (lv_at hl 0 rfl) ?_
                    refine va_get (D := (g.1, g.2.1)) (ci := 13) (v := .int (nI e0)) (C := RX11) (T := TX11) (N := 30) hx hb hts iX11 hown hK.1 hP 0 (gM0 g (sA (sF (sF (sF σ 7 j) 8 r) 9 e0) 9 f) tl) rfl 19 (by decide) k69 (fun _ h9 => h9) rfl dX11_goesOneWay_60 ?_
                    refine lv_aload_n hx hb dX11_goesOneWay_63 rfl (lv_at hl 0 rfl) ?_
                    refine va_get (D := (g.1, g.2.1)) (ci := 13) (v := .ref (g.2.2.2 10)) (C := RX11) (T := TX11) (N := 30) hx hb hts iX11 hown hK.1 hP 0 (gM0 g (sA (sF (sF (sF σ 7 j) 8 r) 9 e0) 9 f) tl) rfl 16 (by decide) k60 (fun _ h9 => h9) rfl dX11_goesOneWay_64 ?_
                    refine lv_iload_n hx hb dX11_goesOneWay_67 rfl (lv_at hl 3 rfl) ?_
                    refine lv_iload hx hb dX11_goesOneWay_68 (lv_at hl 4 rfl) ?_
                    refine jn_iadd hx hb dX11_goesOneWay_70 ?_
                    refine lv_aload_n hx hb dX11_goesOneWay_71 rfl (lv_at hl 0 rfl) ?_
                    refine va_get (D := (g.1, g.2.1)) (ci := 13) (v := .int (nI r)) (C := RX11) (T := TX11) (N := 30) hx hb hts iX11 hown hK.1 hP 0 (gM0 g (sA (sF (sF (sF σ 7 j) 8 r) 9 e0) 9 f) tl) rfl 18 (by decide) k66 (fun _ h9 => h9) rfl dX11_goesOneWay_72 ?_
                    refine jn_irem hx hb (by omega) (by omega) (by omega) dX11_goesOneWay_75 ?_
                    refine jn_iald (f := f) hx hb hK.1 hP 10 0 (gM10 g (sA (sF (sF (sF σ 7 j) 8 r) 9 e0) 9 f) tl) rfl (Nat.lt_of_lt_of_le hmod (by omega)) (Nat.le_of_ble_eq_true rfl) dX11_goesOneWay_76 ?_
                    refine vp_callSi (va_Run.run (va_runV (As := [.int (nI e0), .int (nI (f ((h + pp) % r)))]) (rest := []) ⟨hx, hb, hml, hown, hts⟩ (c_X11_next l g tl (sA (sF (sF (sF σ 7 j) 8 r) 9 e0) 9 f) e0 (f ((h + pp) % r)) g3 (g5 _ hmod)) (cwV 2 hts gX11_goesOneWay_X11_next rfl rfl rfl (by decide +kernel) ⟨Nat.le_of_ble_eq_true rfl, Nat.le_of_ble_eq_true rfl⟩) (okPV hK hP rfl (gM0 g (sA (sF (sF (sF σ 7 j) 8 r) 9 e0) 9 f) tl)) rfl rfl hl.1 rfl (lv_room (Nat.le_of_ble_eq_true rfl)) dX11_goesOneWay_77 ⟨Nat.le_of_ble_eq_true rfl, Nat.le_of_ble_eq_true rfl⟩)) (fun r_77 h_77 => ?_)
                    have h_77 : r_77 = (nI ((σ.2.1 0) (e0 * 3 + (f ((h + pp) % r))))) := h_77
                    subst h_77
                    have hnl : (σ.2.1 0) (e0 * 3 + f ((h + pp) % r)) < 32 := hT _ (by have := g5 _ hmod; omega)
                    refine jn_zne hx hb (by omega) (tgt := 89) dX11_goesOneWay_80 (by decide) (fun c_80 => ?_) (fun c_80 => ?_)
                    · have hy : (σ.2.1 0) (e0 * 3 + f ((h + pp) % r)) ≠ 0 := c_80
                      refine lv_iload hx hb dX11_goesOneWay_89 (lv_at hl 4 rfl) ?_
                      refine lv_aload_n hx hb dX11_goesOneWay_91 rfl (lv_at hl 0 rfl) ?_
                      refine va_get (D := (g.1, g.2.1)) (ci := 13) (v := .int (nI r)) (C := RX11) (T := TX11) (N := 30) hx hb hts iX11 hown hK.1 hP 0 (gM0 g (sA (sF (sF (sF σ 7 j) 8 r) 9 e0) 9 f) tl) rfl 18 (by decide) k66 (fun _ h9 => h9) rfl dX11_goesOneWay_92 ?_
                      refine jn_cne hx hb (by omega) (by omega) (tgt := 99) dX11_goesOneWay_95 (by decide) (fun c_95 => ?_) (fun c_95 => ?_)
                      · have hpr : pp < r := by omega
                        have hnl : (σ.2.1 0) (e0 * 3 + f ((h + pp) % r)) < 32 := by first | exact hnl | (exfalso; omega)
                        have hy : (σ.2.1 0) (e0 * 3 + f ((h + pp) % r)) ≠ 0 := by first | exact hy | (exfalso; omega)
                        have ehd : (h + pp) % r = (h + pp) % r := rfl
                        refine lv_aload_n hx hb dX11_goesOneWay_99 rfl (lv_at hl 0 rfl) ?_
                        refine lv_dup hx hb dX11_goesOneWay_100 rfl ?_
                        refine va_get (D := (g.1, g.2.1)) (ci := 13) (v := .int (nI j)) (C := RX11) (T := TX11) (N := 30) hx hb hts iX11 hown hK.1 hP 0 (gM0 g (sA (sF (sF (sF σ 7 j) 8 r) 9 e0) 9 f) tl) rfl 17 (by decide) k63 (fun _ h9 => h9) rfl dX11_goesOneWay_101 ?_
                        refine lv_iload hx hb dX11_goesOneWay_104 (lv_at hl 4 rfl) ?_
                        have jp114 : ∀ v114 : Nat, v114 = (if 0 < pp then 1 else 0) → W p l e r_c_X11_goesOneWay_7 s m ([.ref (g.2.2.2 0), .ref (g.2.2.2 7), .int (nI n)] : List Value).toArray below meth c H locs 0 0 Q (F0 m 114 ls [.int (nI v114), .int (nI j), .ref (g.2.2.2 0)]) := by
                          intro v114 ev114
                          refine jn_iadd hx hb dX11_goesOneWay_114 ?_
                          refine jn_put (D := (g.1, g.2.1)) (ci := 13) (v := .int (nI (j + v114))) (ty := .int) (C := RX11) (T := TX11) (N := 30) hx hb hts iX11 tyX11 tyX11_ok nmX11 hown hK.1 hP hD hS 0 (gM0 g (sA (sF (sF (sF σ 7 j) 8 r) 9 e0) 9 f) tl) rfl 17 (by decide) k63 (fun _ h9 => h9) rfl (by decide +kernel) rfl rfl (Nat.le_of_ble_eq_true rfl) (uM_F7 g (sA (sF (sF (sF σ 7 j) 8 r) 9 e0) 9 f) tl (j + v114)) dX11_goesOneWay_115 (fun H locs hP hD hS => ?_)
                          refine lv_iload_n hx hb dX11_goesOneWay_118 rfl (lv_at hl 3 rfl) ?_
                          refine lv_iload hx hb dX11_goesOneWay_119 (lv_at hl 4 rfl) ?_
                          refine jn_iadd hx hb dX11_goesOneWay_121 ?_
                          refine lv_aload_n hx hb dX11_goesOneWay_122 rfl (lv_at hl 0 rfl) ?_
                          refine va_get (D := (g.1, g.2.1)) (ci := 13) (v := .int (nI r)) (C := RX11) (T := TX11) (N := 30) hx hb hts iX11 hown hK.1 hP 0 (gM0 g (sF (sA (sF (sF (sF σ 7 j) 8 r) 9 e0) 9 f) 7 (j + v114)) tl) rfl 18 (by decide) k66 (fun _ h9 => h9) rfl dX11_goesOneWay_123 ?_
                          refine jn_irem hx hb (by omega) (by omega) (by omega) dX11_goesOneWay_126 ?_
                          refine lv_istore_n (lv' := [(3, .int (nI ((h + pp) % r))), (0, .ref (g.2.2.2 0)), (1, .ref (g.2.2.2 7)), (2, .int (nI n)), (4, .int (nI pp))]) hx hb dX11_goesOneWay_127 rfl hl (by decide) rfl (fun ls hl => ?_)
                          refine lv_aload_n hx hb dX11_goesOneWay_128 rfl (lv_at hl 1 rfl) ?_
                          refine lv_aload_n hx hb dX11_goesOneWay_129 rfl (lv_at hl 1 rfl) ?_
                          refine lv_aload_n hx hb dX11_goesOneWay_130 rfl (lv_at hl 1 rfl) ?_
                          refine va_get (D := (g.1, g.2.1)) (ci := 13) (v := .int (nI e0)) (C := RX11) (T := TX11) (N := 30) hx hb hts iX11 hown hK.1 hP 0 (gM0 g (sF (sA (sF (sF (sF σ 7 j) 8 r) 9 e0) 9 f) 7 (j + v114)) tl) rfl 19 (by decide) k69 (fun _ h9 => h9) rfl dX11_goesOneWay_131 ?_
                          refine lv_aload_n hx hb dX11_goesOneWay_134 rfl (lv_at hl 1 rfl) ?_
                          refine va_get (D := (g.1, g.2.1)) (ci := 13) (v := .ref (g.2.2.2 10)) (C := RX11) (T := TX11) (N := 30) hx hb hts iX11 hown hK.1 hP 0 (gM0 g (sF (sA (sF (sF (sF σ 7 j) 8 r) 9 e0) 9 f) 7 (j + v114)) tl) rfl 16 (by decide) k60 (fun _ h9 => h9) rfl dX11_goesOneWay_135 ?_
                          refine lv_iload_n hx hb dX11_goesOneWay_138 rfl (lv_at hl 0 rfl) ?_
                          refine jn_iald (f := f) hx hb hK.1 hP 10 0 (gM10 g (sF (sA (sF (sF (sF σ 7 j) 8 r) 9 e0) 9 f) 7 (j + v114)) tl) rfl (Nat.lt_of_lt_of_le hmod (by omega)) (Nat.le_of_ble_eq_true rfl) dX11_goesOneWay_139 ?_
                          refine vp_callSi (va_Run.run (va_runV (As := [.int (nI e0), .int (nI (f ((h + pp) % r)))]) (rest := [.ref (g.2.2.2 0)]) ⟨hx, hb, hml, hown, hts⟩ (c_X11_next l g tl (sF (sA (sF (sF (sF σ 7 j) 8 r) 9 e0) 9 f) 7 (j + v114)) e0 (f ((h + pp) % r)) g3 (g5 _ hmod)) (cwV 2 hts gX11_goesOneWay_X11_next rfl rfl rfl (by decide +kernel) ⟨Nat.le_of_ble_eq_true rfl, Nat.le_of_ble_eq_true rfl⟩) (okPV hK hP rfl (gM0 g (sF (sA (sF (sF (sF σ 7 j) 8 r) 9 e0) 9 f) 7 (j + v114)) tl)) rfl rfl hl.1 rfl (lv_room (Nat.le_of_ble_eq_true rfl)) dX11_goesOneWay_140 ⟨Nat.le_of_ble_eq_true rfl, Nat.le_of_ble_eq_true rfl⟩)) (fun r_140 h_140 => ?_)
                          have h_140 : r_140 = (nI ((σ.2.1 0) (e0 * 3 + (f ((h + pp) % r))))) := h_140
                          subst h_140
                          refine vp_callSi (va_Run.run (va_runS (As := [.int (nI ((σ.2.1 0) (e0 * 3 + (f ((h + pp) % r)))))]) (rest := [.ref (g.2.2.2 0)]) ⟨hx, hb, hml, hown, hts⟩ (c_X11_single l ((σ.2.1 0) (e0 * 3 + (f ((h + pp) % r)))) hnl) (va_cwS 1 hts gX11_goesOneWay_X11_single rfl rfl rfl (by decide +kernel) ⟨Nat.le_of_ble_eq_true rfl, Nat.le_of_ble_eq_true rfl⟩) okTS rfl rfl hl.1 rfl (lv_room (Nat.le_of_ble_eq_true rfl)) dX11_goesOneWay_143 ⟨Nat.le_of_ble_eq_true rfl, Nat.le_of_ble_eq_true rfl⟩)) (fun r_143 h_143 => ?_)
                          subst h_143
                          refine jn_put (D := (g.1, g.2.1)) (ci := 13) (v := .int (nI (sgl ((σ.2.1 0) (e0 * 3 + (f ((h + pp) % r))))))) (ty := .int) (C := RX11) (T := TX11) (N := 30) hx hb hts iX11 tyX11 tyX11_ok nmX11 hown hK.1 hP hD hS 0 (gM0 g (sF (sA (sF (sF (sF σ 7 j) 8 r) 9 e0) 9 f) 7 (j + v114)) tl) rfl 19 (by decide) k69 (fun _ h9 => h9) rfl (by decide +kernel) rfl rfl (Nat.le_of_ble_eq_true rfl) (uM_F9 g (sF (sA (sF (sF (sF σ 7 j) 8 r) 9 e0) 9 f) 7 (j + v114)) tl (sgl ((σ.2.1 0) (e0 * 3 + (f ((h + pp) % r)))))) dX11_goesOneWay_146 (fun H locs hP hD hS => ?_)
                          refine lv_iload_n hx hb dX11_goesOneWay_149 rfl (lv_at hl 0 rfl) ?_
                          refine lv_istore (lv' := [(5, .int (nI ((h + pp) % r))), (3, .int (nI ((h + pp) % r))), (0, .ref (g.2.2.2 0)), (1, .ref (g.2.2.2 7)), (2, .int (nI n)), (4, .int (nI pp))]) hx hb dX11_goesOneWay_150 hl (by decide) rfl (fun ls hl => ?_)
                          have lp152 : ∀ (fu : Nat), ∀ (k : Nat) (f1 : Nat → Nat), ((h + pp) % r ≤ k) → (k < r) → (∀ z, z < (h + pp) % r → f1 z = f z) → (∀ z, (h + pp) % r ≤ z → z < k → f1 z = f (z + 1)) → (∀ z, k ≤ z → f1 z = f z) → r - k < fu → ∀ (H : Heap) (locs : List Loc), va_P (g.1, g.2.1) vwCl (wM g (sA (sF (sF (sF σ 7 (j + v114)) 8 r) 9 (sgl ((σ.2.1 0) (e0 * 3 + (f ((h + pp) % r)))))) 9 f1) ++ tl) H → va_D A (wM g (sA (sF (sF (sF σ 7 (j + v114)) 8 r) 9 (sgl ((σ.2.1 0) (e0 * 3 + (f ((h + pp) % r)))))) 9 f1) ++ tl) → va_S A s.heap H locs → ∀ ls : Array Slot, lv_has ls 6 [(0, .ref (g.2.2.2 0)), (1, .ref (g.2.2.2 7)), (2, .int (nI n)), (3, .int (nI ((h + pp) % r))), (5, .int (nI k))] → W p l e r_c_X11_goesOneWay_7 s m ([.ref (g.2.2.2 0), .ref (g.2.2.2 7), .int (nI n)] : List Value).toArray below meth c H locs 0 0 Q (F0 m 152 ls []) := by
                            intro fu
                            induction fu with
                            | zero => intro k f1 h7 h8 h9 h10 h11 hf; exact absurd hf (Nat.not_lt_zero _)
                            | succ fu ih152 =>
                              intro k f1 h7 h8 h9 h10 h11 hf H locs hP hD hS ls hl
                              refine lv_iload hx hb dX11_goesOneWay_152 (lv_at hl 4 rfl) ?_
                              refine lv_iconst (v := nI 1) hx hb dX11_goesOneWay_154 (by decide) ?_
                              refine jn_iadd hx hb dX11_goesOneWay_155 ?_
                              refine lv_aload_n hx hb dX11_goesOneWay_156 rfl (lv_at hl 0 rfl) ?_
                              refine va_get (D := (g.1, g.2.1)) (ci := 13) (v := .int (nI r)) (C := RX11) (T := TX11) (N := 30) hx hb hts iX11 hown hK.1 hP 0 (gM0 g (sA (sF (sF (sF σ 7 (j + v114)) 8 r) 9 (sgl ((σ.2.1 0) (e0 * 3 + (f ((h + pp) % r)))))) 9 f1) tl) rfl 18 (by decide) k66 (fun _ h9 => h9) rfl dX11_goesOneWay_157 ?_
                              refine jn_cge hx hb (by omega) (by omega) (tgt := 185) dX11_goesOneWay_160 (by decide) (fun c_160 => ?_) (fun c_160 => ?_)
                              · refine lv_aload_n hx hb dX11_goesOneWay_185 rfl (lv_at hl 0 rfl) ?_
                                refine lv_dup hx hb dX11_goesOneWay_186 rfl ?_
                                refine va_get (D := (g.1, g.2.1)) (ci := 13) (v := .int (nI r)) (C := RX11) (T := TX11) (N := 30) hx hb hts iX11 hown hK.1 hP 0 (gM0 g (sA (sF (sF (sF σ 7 (j + v114)) 8 r) 9 (sgl ((σ.2.1 0) (e0 * 3 + (f ((h + pp) % r)))))) 9 f1) tl) rfl 18 (by decide) k66 (fun _ h9 => h9) rfl dX11_goesOneWay_187 ?_
                                refine lv_iconst (v := nI 1) hx hb dX11_goesOneWay_190 (by decide) ?_
                                refine jn_isub hx hb (by omega) dX11_goesOneWay_191 ?_
                                refine jn_put (D := (g.1, g.2.1)) (ci := 13) (v := .int (nI (r - 1))) (ty := .int) (C := RX11) (T := TX11) (N := 30) hx hb hts iX11 tyX11 tyX11_ok nmX11 hown hK.1 hP hD hS 0 (gM0 g (sA (sF (sF (sF σ 7 (j + v114)) 8 r) 9 (sgl ((σ.2.1 0) (e0 * 3 + (f ((h + pp) % r)))))) 9 f1) tl) rfl 18 (by decide) k66 (fun _ h9 => h9) rfl (by decide +kernel) rfl rfl (Nat.le_of_ble_eq_true rfl) (uM_F8 g (sA (sF (sF (sF σ 7 (j + v114)) 8 r) 9 (sgl ((σ.2.1 0) (e0 * 3 + (f ((h + pp) % r)))))) 9 f1) tl (r - 1)) dX11_goesOneWay_192 (fun H locs hP hD hS => ?_)
                                refine lv_aload_n hx hb dX11_goesOneWay_195 rfl (lv_at hl 0 rfl) ?_
                                refine va_get (D := (g.1, g.2.1)) (ci := 13) (v := .int (nI (r - 1))) (C := RX11) (T := TX11) (N := 30) hx hb hts iX11 hown hK.1 hP 0 (gM0 g (sF (sA (sF (sF (sF σ 7 (j + v114)) 8 r) 9 (sgl ((σ.2.1 0) (e0 * 3 + (f ((h + pp) % r)))))) 9 f1) 8 (r - 1)) tl) rfl 18 (by decide) k66 (fun _ h9 => h9) rfl dX11_goesOneWay_196 ?_
                                have jp212 : ∀ v212 : Nat, v212 = (if 0 < r - 1 then ((h + pp) % r) % (r - 1) else 0) → W p l e r_c_X11_goesOneWay_7 s m ([.ref (g.2.2.2 0), .ref (g.2.2.2 7), .int (nI n)] : List Value).toArray below meth c H locs 0 0 Q (F0 m 212 ls [.int (nI v212)]) := by
                                  intro v212 ev212
                                  refine lv_istore_n (lv' := [(3, .int (nI v212)), (0, .ref (g.2.2.2 0)), (1, .ref (g.2.2.2 7)), (2, .int (nI n)), (5, .int (nI k))]) hx hb dX11_goesOneWay_212 rfl hl (by decide) rfl (fun ls hl => ?_)
                                  refine lv_goto (tgt := 39) hx hb dX11_goesOneWay_213 (by decide) ?_
                                  exact ih39 v212 (j + v114) (r - 1) (sgl ((σ.2.1 0) (e0 * 3 + (f ((h + pp) % r))))) f1 (by rw [ev114, ev212]; exact owi_s hn hT hdt h3 hpr ehd h9 (fun k hk hk2 => h10 k hk (by omega)) h5 hy) (by omega) _ _ hP hD hS _ (lv_sub hl [1, 2, 3, 0] rfl)
                                refine jn_zle hx hb (by omega) (tgt := 211) dX11_goesOneWay_199 (by decide) (fun c_199 => ?_) (fun c_199 => ?_)
                                · refine lv_iconst (v := nI 0) hx hb dX11_goesOneWay_211 (by decide) ?_
                                  exact jp212 0 (by rw [if_neg (by omega)])
                                · refine lv_iload_n hx hb dX11_goesOneWay_202 rfl (lv_at hl 3 rfl) ?_
                                  refine lv_aload_n hx hb dX11_goesOneWay_203 rfl (lv_at hl 0 rfl) ?_
                                  refine va_get (D := (g.1, g.2.1)) (ci := 13) (v := .int (nI (r - 1))) (C := RX11) (T := TX11) (N := 30) hx hb hts iX11 hown hK.1 hP 0 (gM0 g (sF (sA (sF (sF (sF σ 7 (j + v114)) 8 r) 9 (sgl ((σ.2.1 0) (e0 * 3 + (f ((h + pp) % r)))))) 9 f1) 8 (r - 1)) tl) rfl 18 (by decide) k66 (fun _ h9 => h9) rfl dX11_goesOneWay_204 ?_
                                  refine jn_irem hx hb (by omega) (by omega) (by omega) dX11_goesOneWay_207 ?_
                                  refine lv_goto (tgt := 212) hx hb dX11_goesOneWay_208 (by decide) ?_
                                  exact jp212 (((h + pp) % r) % (r - 1)) (by rw [if_pos (by omega)])
                              · refine lv_aload_n hx hb dX11_goesOneWay_163 rfl (lv_at hl 0 rfl) ?_
                                refine va_get (D := (g.1, g.2.1)) (ci := 13) (v := .ref (g.2.2.2 10)) (C := RX11) (T := TX11) (N := 30) hx hb hts iX11 hown hK.1 hP 0 (gM0 g (sA (sF (sF (sF σ 7 (j + v114)) 8 r) 9 (sgl ((σ.2.1 0) (e0 * 3 + (f ((h + pp) % r)))))) 9 f1) tl) rfl 16 (by decide) k60 (fun _ h9 => h9) rfl dX11_goesOneWay_164 ?_
                                refine lv_iload hx hb dX11_goesOneWay_167 (lv_at hl 4 rfl) ?_
                                refine lv_aload_n hx hb dX11_goesOneWay_169 rfl (lv_at hl 0 rfl) ?_
                                refine va_get (D := (g.1, g.2.1)) (ci := 13) (v := .ref (g.2.2.2 10)) (C := RX11) (T := TX11) (N := 30) hx hb hts iX11 hown hK.1 hP 0 (gM0 g (sA (sF (sF (sF σ 7 (j + v114)) 8 r) 9 (sgl ((σ.2.1 0) (e0 * 3 + (f ((h + pp) % r)))))) 9 f1) tl) rfl 16 (by decide) k60 (fun _ h9 => h9) rfl dX11_goesOneWay_170 ?_
                                refine lv_iload hx hb dX11_goesOneWay_173 (lv_at hl 4 rfl) ?_
                                refine lv_iconst (v := nI 1) hx hb dX11_goesOneWay_175 (by decide) ?_
                                refine jn_iadd hx hb dX11_goesOneWay_176 ?_
                                refine jn_iald (f := f1) hx hb hK.1 hP 10 0 (gM10 g (sA (sF (sF (sF σ 7 (j + v114)) 8 r) 9 (sgl ((σ.2.1 0) (e0 * 3 + (f ((h + pp) % r)))))) 9 f1) tl) rfl (by omega) (Nat.le_of_ble_eq_true rfl) dX11_goesOneWay_177 ?_
                                refine jn_iast (f := f1) hx hb hK.1 hP hD hS 10 0 (gM10 g (sA (sF (sF (sF σ 7 (j + v114)) 8 r) 9 (sgl ((σ.2.1 0) (e0 * 3 + (f ((h + pp) % r)))))) 9 f1) tl) rfl (by omega) (Nat.le_of_ble_eq_true rfl) (uM_A9 g (sA (sF (sF (sF σ 7 (j + v114)) 8 r) 9 (sgl ((σ.2.1 0) (e0 * 3 + (f ((h + pp) % r)))))) 9 f1) tl _) dX11_goesOneWay_178 (fun H locs hP hD hS => ?_)
                                refine lv_iinc (v := nI (k + 1)) (lv' := [(5, .int (nI (k + 1))), (0, .ref (g.2.2.2 0)), (1, .ref (g.2.2.2 7)), (2, .int (nI n)), (3, .int (nI ((h + pp) % r)))]) hx hb dX11_goesOneWay_179 hl (k := 4) rfl (jn_ii _ 1) (by decide) rfl (fun ls hl => ?_)
                                refine lv_goto (tgt := 152) hx hb dX11_goesOneWay_182 (by decide) ?_
                                exact ih152 (k + 1) (va_up f1 k (f1 (k + 1))) (by omega) (by omega) (fun z hz => by rw [va_up, if_neg (by omega)]; exact h9 z hz) (fun z hz hz2 => by unfold va_up; split; { rename_i q; rw [q]; exact h11 _ (by omega) }; { exact h10 z hz (by omega) }) (fun z hz => by rw [va_up, if_neg (by omega)]; exact h11 z (by omega)) (by omega) _ _ hP hD hS _ (lv_sub hl [1, 2, 3, 4, 0] rfl)
                          exact lp152 _ ((h + pp) % r) f (Nat.le_refl _) hmod (fun _ _ => rfl) (fun z h1 h2 => absurd h1 (by omega)) (fun _ _ => rfl) (Nat.lt_succ_self _) _ _ hP hD hS _ (lv_sub hl [2, 3, 4, 1, 0] rfl)
                        refine jn_zle hx hb (by omega) (tgt := 113) dX11_goesOneWay_106 (by decide) (fun c_106 => ?_) (fun c_106 => ?_)
                        · refine lv_iconst (v := nI 0) hx hb dX11_goesOneWay_113 (by decide) ?_
                          exact jp114 0 (by rw [if_neg (by omega)])
                        · refine lv_iconst (v := nI 1) hx hb dX11_goesOneWay_109 (by decide) ?_
                          refine lv_goto (tgt := 114) hx hb dX11_goesOneWay_110 (by decide) ?_
                          exact jp114 1 (by rw [if_pos (by omega)])
                      · exact hq _ _ _ _ (j, r, e0, f) dX11_goesOneWay_98 ⟨by rw [← g6, ow_stop g3 (fun i hi => h5 i (by omega))], g3, by omega, by omega⟩ hP hD hS
                    · refine lv_iinc (v := nI (pp + 1)) (lv' := [(4, .int (nI (pp + 1))), (0, .ref (g.2.2.2 0)), (1, .ref (g.2.2.2 7)), (2, .int (nI n)), (3, .int (nI h))]) hx hb dX11_goesOneWay_83 hl (k := 4) rfl (jn_ii _ 1) (by decide) rfl (fun ls hl => ?_)
                      refine lv_goto (tgt := 49) hx hb dX11_goesOneWay_86 (by decide) ?_
                      exact ih49 (pp + 1) (by omega) (fun k hk => by rcases Nat.lt_or_ge k pp with q | q; { exact h5 k q }; { rw [show k = pp by omega]; exact c_80 }) (by omega) _ _ hP hD hS _ (lv_sub hl [1, 2, 3, 4, 0] rfl)
              exact lp49 _ 0 (by omega) (fun k hk => absurd hk (by omega)) (Nat.lt_succ_self _) _ _ hP hD hS _ (lv_sub hl [1, 2, 3, 4, 0] rfl)
        exact lp39 _ 0 0 n 0 f (owi_0 (fun k hk => h2 k (by omega)) hw) (Nat.lt_succ_self _) _ _ hP hD hS _ (lv_sub hl [1, 2, 3, 0] rfl)
      · refine lv_aload_n hx hb dX11_goesOneWay_22 rfl (lv_at hl 0 rfl) ?_
        refine va_get (D := (g.1, g.2.1)) (ci := 13) (v := .ref (g.2.2.2 10)) (C := RX11) (T := TX11) (N := 30) hx hb hts iX11 hown hK.1 hP 0 (gM0 g (sA (sF (sF (sF σ 7 0) 8 n) 9 0) 9 f) tl) rfl 16 (by decide) k60 (fun _ h9 => h9) rfl dX11_goesOneWay_23 ?_
        refine lv_iload_n hx hb dX11_goesOneWay_26 rfl (lv_at hl 3 rfl) ?_
        refine lv_aload_n hx hb dX11_goesOneWay_27 rfl (lv_at hl 1 rfl) ?_
        refine lv_iload_n hx hb dX11_goesOneWay_28 rfl (lv_at hl 3 rfl) ?_
        refine jn_iald (f := σ.2.1 6) hx hb hK.1 hP 7 0 (gM7 g (sA (sF (sF (sF σ 7 0) 8 n) 9 0) 9 f) tl) rfl (by omega) (Nat.le_of_ble_eq_true rfl) dX11_goesOneWay_29 ?_
        refine jn_iast (f := f) hx hb hK.1 hP hD hS 10 0 (gM10 g (sA (sF (sF (sF σ 7 0) 8 n) 9 0) 9 f) tl) rfl (by omega) (Nat.le_of_ble_eq_true rfl) (uM_A9 g (sA (sF (sF (sF σ 7 0) 8 n) 9 0) 9 f) tl _) dX11_goesOneWay_30 (fun H locs hP hD hS => ?_)
        refine lv_iinc (v := nI (i + 1)) (lv' := [(3, .int (nI (i + 1))), (0, .ref (g.2.2.2 0)), (1, .ref (g.2.2.2 7)), (2, .int (nI n))]) hx hb dX11_goesOneWay_31 hl (k := 3) rfl (jn_ii _ 1) (by decide) rfl (fun ls hl => ?_)
        refine lv_goto (tgt := 17) hx hb dX11_goesOneWay_34 (by decide) ?_
        exact ih17 (i + 1) (va_up f i ((σ.2.1 6) i)) (by omega) (fun k hk => by unfold va_up; split; { rename_i q; rw [q] }; { exact h2 k (by omega) }) (by omega) _ _ hP hD hS _ (lv_sub hl [1, 2, 3, 0] rfl)
  exact lp17 _ 0 (σ.2.1 9) (by omega) (fun k hk => absurd hk (by omega)) (Nat.lt_succ_self _) _ _ hP hD hS _ (lv_sub hl [1, 2, 3, 0] rfl)

abbrev r_c_X11_isAccepted_6 : Room := { frames := 3, cells := 0, slots := 0, locals := 70 }
set_option maxHeartbeats 4000000 in
set_option maxRecDepth 100000 in
theorem c_X11_isAccepted_6 (l : Launch) (g : GC) (tl : va_W) (sz : Nat) (σ : SS) (md n : Nat) (hT : OkT (σ.2.1 0)) (hF : ((σ.2.1 0) 15) < 32) (hmd : md < 3) (hdt : md = 2 → detT (σ.2.1 0)) (hn : n ≤ 8) (hw : ∀ i, i < n → (σ.2.1 5) i < 3) (hB : ∀ a b c, a < 10 → b < 10 → c < 10 → (σ.2.1 7) (100 * a + 10 * b + c) = rch (σ.2.1 0) a b c) : Met l yX11_isAccepted wsX11_isAccepted r_c_X11_isAccepted_6 (va_Pc [.ref (g.2.2.2 0), .int (nI md), .ref (g.2.2.2 6), .int (nI n)] (PW g (wM g σ ++ tl) sz)) (va_Qi (fun (r : Int32) (z : Nat × Nat × Nat × Nat × (Nat → Nat) × (Nat → Nat)) => match z with | (r0, j2, r2, e2, f2, f8) => (r = nI (r0)) ∧ ((r0 = 1 ∧ acR (σ.2.1 0) (σ.2.1 5) ((σ.2.1 0) 15) n md) ∨ (r0 = 0 ∧ ¬ acR (σ.2.1 0) (σ.2.1 5) ((σ.2.1 0) 15) n md))) (fun (z : Nat × Nat × Nat × Nat × (Nat → Nat) × (Nat → Nat)) t => BW g (va_A (wM g σ ++ tl) sz) ((fun z : Nat × Nat × Nat × Nat × (Nat → Nat) × (Nat → Nat) => match z with | (r0, j2, r2, e2, f2, f8) => wM g (sA (sA (sF (sF (sF σ 7 j2) 8 r2) 9 e2) 9 f2) 8 f8) ++ tl) z) t) (va_A (wM g σ ++ tl) sz)) 0 0 (va_A (wM g σ ++ tl) sz) := by
  refine jn_sz (wf := fun z : Nat × Nat × Nat × Nat × (Nat → Nat) × (Nat → Nat) => match z with | (r0, j2, r2, e2, f2, f8) => wM g (sA (sA (sF (sF (sF σ 7 j2) 8 r2) 9 e2) 9 f2) 8 f8) ++ tl) (cc := cX11_isAccepted) (maxL := 4) (own := RX11) (by decide) rfl rfl (Nat.le_of_ble_eq_true rfl) ?_
  intro p e s m below meth c Q A hx hb hml hown hts hK hP hD hS hAA hq ls hl
  obtain ⟨H, eH⟩ : ∃ z, z = s.heap := ⟨_, rfl⟩
  obtain ⟨locs, el⟩ : ∃ z : List Loc, z = [] := ⟨_, rfl⟩
  rw [← eH] at hP
  have hS : va_S A s.heap H locs := by rw [eH, el]; exact hS
  have goal0 : W p l e r_c_X11_isAccepted_6 s m ([.ref (g.2.2.2 0), .int (nI md), .ref (g.2.2.2 6), .int (nI n)] : List Value).toArray below meth c H locs 0 0 Q (F0 m 0 ls []) → W p l e r_c_X11_isAccepted_6 s m ([.ref (g.2.2.2 0), .int (nI md), .ref (g.2.2.2 6), .int (nI n)] : List Value).toArray below meth c s.heap [] 0 0 Q (F0 m 0 ls []) := fun h => by rw [eH, el] at h; exact h
  refine goal0 ?_
  have hl : lv_has ls 4 [(0, .ref (g.2.2.2 0)), (1, .int (nI md)), (2, .ref (g.2.2.2 6)), (3, .int (nI n))] := hl
  have iX11 : ∀ w ∈ wsX110, w ∈ wsX11_isAccepted := by decide +kernel
  have k66 := hts (.fieldLink RX11 66 "JumpingAutomataModel" "rest" "I") (by decide +kernel)
  have k13 := hts (.fieldLink RX11 13 "JumpingAutomataModel" "now" "[I") (by decide +kernel)
  have k69 := hts (.fieldLink RX11 69 "JumpingAutomataModel" "endState" "I") (by decide +kernel)
  refine lv_iload_n hx hb dX11_isAccepted_0 rfl (lv_at hl 1 rfl) ?_
  refine jn_zne hx hb (by omega) (tgt := 11) dX11_isAccepted_1 (by decide) (fun c_1 => ?_) (fun c_1 => ?_)
  · refine lv_iload_n hx hb dX11_isAccepted_11 rfl (lv_at hl 1 rfl) ?_
    refine lv_iconst (v := nI 1) hx hb dX11_isAccepted_12 (by decide) ?_
    refine jn_cne hx hb (by omega) (by decide) (tgt := 23) dX11_isAccepted_13 (by decide) (fun c_13 => ?_) (fun c_13 => ?_)
    · refine lv_aload_n hx hb dX11_isAccepted_23 rfl (lv_at hl 0 rfl) ?_
      refine lv_aload_n hx hb dX11_isAccepted_24 rfl (lv_at hl 2 rfl) ?_
      refine lv_iload_n hx hb dX11_isAccepted_25 rfl (lv_at hl 3 rfl) ?_
      refine jn_callv (va_runV (As := [.ref (g.2.2.2 6), .int (nI n)]) (rest := []) ⟨hx, hb, hml, hown, hts⟩ (c_X11_goesOneWay_6 l g tl H.size σ n hT (hdt (by omega)) hn hw) (cwV 2 hts gX11_isAccepted_X11_goesOneWay rfl rfl rfl (by decide +kernel) ⟨Nat.le_of_ble_eq_true rfl, Nat.le_of_ble_eq_true rfl⟩) (okWV hK hP hD rfl (gM0 g σ tl)) rfl rfl hl.1 rfl (lv_room (Nat.le_of_ble_eq_true rfl)) dX11_isAccepted_26 ⟨Nat.le_of_ble_eq_true rfl, Nat.le_of_ble_eq_true rfl⟩) hD hS hAA (fun u H locs hw_ hP hD hS => ?_)
      obtain ⟨j2_26, r2_26, e2_26, f2_26⟩ := u
      have h_26 := hw_
      have h_26 : ((2 ^ e2_26, r2_26, j2_26) = owV (σ.2.1 0) 1 (wl (σ.2.1 5) n) 0 0) ∧ (e2_26 < 5) ∧ (r2_26 ≤ 8 ∧ j2_26 ≤ 8) := h_26
      have hP : va_P (g.1, g.2.1) vwCl (wM g (sA (sF (sF (sF σ 7 j2_26) 8 r2_26) 9 e2_26) 9 f2_26) ++ tl) H := hP
      have hD : va_D A (wM g (sA (sF (sF (sF σ 7 j2_26) 8 r2_26) 9 e2_26) 9 f2_26) ++ tl) := hD
      refine lv_aload_n hx hb dX11_isAccepted_29 rfl (lv_at hl 0 rfl) ?_
      refine va_get (D := (g.1, g.2.1)) (ci := 13) (v := .int (nI r2_26)) (C := RX11) (T := TX11) (N := 30) hx hb hts iX11 hown hK.1 hP 0 (gM0 g (sA (sF (sF (sF σ 7 j2_26) 8 r2_26) 9 e2_26) 9 f2_26) tl) rfl 18 (by decide) k66 (fun _ h9 => h9) rfl dX11_isAccepted_30 ?_
      refine jn_zne hx hb (by omega) (tgt := 57) dX11_isAccepted_33 (by decide) (fun c_33 => ?_) (fun c_33 => ?_)
      · refine lv_iconst (v := nI 0) hx hb dX11_isAccepted_57 (by decide) ?_
        exact hq _ _ _ _ ((nI 0)) (0, j2_26, r2_26, e2_26, f2_26, (σ.2.1 8)) dX11_isAccepted_58 jn_n0 (by first | exact ⟨rfl, Or.inl ⟨rfl, (ac_2 (by omega) hF h_26.2.1 h_26.1).mpr ⟨by omega, c_50⟩⟩⟩ | exact ⟨rfl, Or.inr ⟨rfl, fun z => c_33 ((ac_2 (by omega) hF h_26.2.1 h_26.1).mp z).1⟩⟩ | exact ⟨rfl, Or.inr ⟨rfl, fun z => c_50 ((ac_2 (by omega) hF h_26.2.1 h_26.1).mp z).2⟩⟩) hP hD hS
      · refine lv_aload_n hx hb dX11_isAccepted_36 rfl (lv_at hl 0 rfl) ?_
        refine va_get (D := (g.1, g.2.1)) (ci := 13) (v := .ref (g.2.2.2 1)) (C := RX11) (T := TX11) (N := 30) hx hb hts iX11 hown hK.1 hP 0 (gM0 g (sA (sF (sF (sF σ 7 j2_26) 8 r2_26) 9 e2_26) 9 f2_26) tl) rfl 1 (by decide) k13 (fun _ h9 => h9) rfl dX11_isAccepted_37 ?_
        refine lv_bipush (v := nI 15) hx hb dX11_isAccepted_40 (by decide) ?_
        refine jn_iald (f := σ.2.1 0) hx hb hK.1 hP 1 0 (gM1 g (sA (sF (sF (sF σ 7 j2_26) 8 r2_26) 9 e2_26) 9 f2_26) tl) rfl (by decide) (Nat.le_of_ble_eq_true rfl) dX11_isAccepted_42 ?_
        refine lv_aload_n hx hb dX11_isAccepted_43 rfl (lv_at hl 0 rfl) ?_
        refine va_get (D := (g.1, g.2.1)) (ci := 13) (v := .int (nI e2_26)) (C := RX11) (T := TX11) (N := 30) hx hb hts iX11 hown hK.1 hP 0 (gM0 g (sA (sF (sF (sF σ 7 j2_26) 8 r2_26) 9 e2_26) 9 f2_26) tl) rfl 19 (by decide) k69 (fun _ h9 => h9) rfl dX11_isAccepted_44 ?_
        refine vp_callSi (va_Run.run (va_runS (As := [.int (nI ((σ.2.1 0) 15)), .int (nI e2_26)]) (rest := []) ⟨hx, hb, hml, hown, hts⟩ (c_X11_has l ((σ.2.1 0) 15) e2_26 (by omega) (by omega)) (va_cwS 2 hts gX11_isAccepted_X11_has rfl rfl rfl (by decide +kernel) ⟨Nat.le_of_ble_eq_true rfl, Nat.le_of_ble_eq_true rfl⟩) okTS rfl rfl hl.1 rfl (lv_room (Nat.le_of_ble_eq_true rfl)) dX11_isAccepted_47 ⟨Nat.le_of_ble_eq_true rfl, Nat.le_of_ble_eq_true rfl⟩)) (fun r_47 h_47 => ?_)
        subst h_47
        refine jn_beq hx hb (tgt := 57) dX11_isAccepted_50 (by decide) (fun c_50 => ?_) (fun c_50 => ?_)
        · refine lv_iconst (v := nI 0) hx hb dX11_isAccepted_57 (by decide) ?_
          exact hq _ _ _ _ ((nI 0)) (0, j2_26, r2_26, e2_26, f2_26, (σ.2.1 8)) dX11_isAccepted_58 jn_n0 (by first | exact ⟨rfl, Or.inl ⟨rfl, (ac_2 (by omega) hF h_26.2.1 h_26.1).mpr ⟨by omega, c_50⟩⟩⟩ | exact ⟨rfl, Or.inr ⟨rfl, fun z => c_33 ((ac_2 (by omega) hF h_26.2.1 h_26.1).mp z).1⟩⟩ | exact ⟨rfl, Or.inr ⟨rfl, fun z => c_50 ((ac_2 (by omega) hF h_26.2.1 h_26.1).mp z).2⟩⟩) hP hD hS
        · refine lv_iconst (v := nI 1) hx hb dX11_isAccepted_53 (by decide) ?_
          refine lv_goto (tgt := 58) hx hb dX11_isAccepted_54 (by decide) ?_
          exact hq _ _ _ _ ((nI 1)) (1, j2_26, r2_26, e2_26, f2_26, (σ.2.1 8)) dX11_isAccepted_58 jn_n1 (by first | exact ⟨rfl, Or.inl ⟨rfl, (ac_2 (by omega) hF h_26.2.1 h_26.1).mpr ⟨by omega, c_50⟩⟩⟩ | exact ⟨rfl, Or.inr ⟨rfl, fun z => c_33 ((ac_2 (by omega) hF h_26.2.1 h_26.1).mp z).1⟩⟩ | exact ⟨rfl, Or.inr ⟨rfl, fun z => c_50 ((ac_2 (by omega) hF h_26.2.1 h_26.1).mp z).2⟩⟩) hP hD hS
    · refine lv_aload_n hx hb dX11_isAccepted_16 rfl (lv_at hl 0 rfl) ?_
      refine lv_aload_n hx hb dX11_isAccepted_17 rfl (lv_at hl 2 rfl) ?_
      refine lv_iload_n hx hb dX11_isAccepted_18 rfl (lv_at hl 3 rfl) ?_
      refine jn_calli (va_runV (As := [.ref (g.2.2.2 6), .int (nI n)]) (rest := []) ⟨hx, hb, hml, hown, hts⟩ (c_X11_isJumping_6 l g tl H.size σ n hF hn hw hB) (cwV 2 hts gX11_isAccepted_X11_isJumping rfl rfl rfl (by decide +kernel) ⟨Nat.le_of_ble_eq_true rfl, Nat.le_of_ble_eq_true rfl⟩) (okWV hK hP hD rfl (gM0 g σ tl)) rfl rfl hl.1 rfl (lv_room (Nat.le_of_ble_eq_true rfl)) dX11_isAccepted_19 ⟨Nat.le_of_ble_eq_true rfl, Nat.le_of_ble_eq_true rfl⟩) hD hS hAA (fun r_19 u H locs hw_ hP hD hS => ?_)
      obtain ⟨f8_19, rfl⟩ : ∃ z, z = u := ⟨_, rfl⟩
      obtain rfl := hw_
      have hP : va_P (g.1, g.2.1) vwCl (wM g (sA σ 8 f8_19) ++ tl) H := hP
      have hD : va_D A (wM g (sA σ 8 f8_19) ++ tl) := hD
      exact hq _ _ _ _ ((nI (if wrc (σ.2.1 0) (σ.2.1 5) ((σ.2.1 0) 15) n then 1 else 0))) (_, (σ.1 7), (σ.1 8), (σ.1 9), (σ.2.1 9), f8_19) dX11_isAccepted_22 (jn_nb _) ⟨rfl, acr_if (ac_1 (by omega))⟩ hP hD hS
  · refine lv_aload_n hx hb dX11_isAccepted_4 rfl (lv_at hl 0 rfl) ?_
    refine lv_aload_n hx hb dX11_isAccepted_5 rfl (lv_at hl 2 rfl) ?_
    refine lv_iload_n hx hb dX11_isAccepted_6 rfl (lv_at hl 3 rfl) ?_
    refine vp_callSi (va_Run.run (va_runV (As := [.ref (g.2.2.2 6), .int (nI n)]) (rest := []) ⟨hx, hb, hml, hown, hts⟩ (c_X11_isInOrder_6 l g tl σ n hT hF hn hw) (cwV 2 hts gX11_isAccepted_X11_isInOrder rfl rfl rfl (by decide +kernel) ⟨Nat.le_of_ble_eq_true rfl, Nat.le_of_ble_eq_true rfl⟩) (okPV hK hP rfl (gM0 g σ tl)) rfl rfl hl.1 rfl (lv_room (Nat.le_of_ble_eq_true rfl)) dX11_isAccepted_7 ⟨Nat.le_of_ble_eq_true rfl, Nat.le_of_ble_eq_true rfl⟩)) (fun r_7 h_7 => ?_)
    subst h_7
    exact hq _ _ _ _ ((nI (if wrun (σ.2.1 0) (σ.2.1 5) n &&& ((σ.2.1 0) 15) ≠ 0 then 1 else 0))) (_, (σ.1 7), (σ.1 8), (σ.1 9), (σ.2.1 9), (σ.2.1 8)) dX11_isAccepted_10 (jn_nb _) ⟨rfl, acr_if (ac_0 (by omega))⟩ hP hD hS

abbrev r_c_X11_isAccepted_7 : Room := { frames := 3, cells := 0, slots := 0, locals := 70 }
set_option maxHeartbeats 4000000 in
set_option maxRecDepth 100000 in
theorem c_X11_isAccepted_7 (l : Launch) (g : GC) (tl : va_W) (sz : Nat) (σ : SS) (md n : Nat) (hT : OkT (σ.2.1 0)) (hF : ((σ.2.1 0) 15) < 32) (hmd : md < 3) (hdt : md = 2 → detT (σ.2.1 0)) (hn : n ≤ 8) (hw : ∀ i, i < n → (σ.2.1 6) i < 3) (hB : ∀ a b c, a < 10 → b < 10 → c < 10 → (σ.2.1 7) (100 * a + 10 * b + c) = rch (σ.2.1 0) a b c) : Met l yX11_isAccepted wsX11_isAccepted r_c_X11_isAccepted_7 (va_Pc [.ref (g.2.2.2 0), .int (nI md), .ref (g.2.2.2 7), .int (nI n)] (PW g (wM g σ ++ tl) sz)) (va_Qi (fun (r : Int32) (z : Nat × Nat × Nat × Nat × (Nat → Nat) × (Nat → Nat)) => match z with | (r0, j2, r2, e2, f2, f8) => (r = nI (r0)) ∧ ((r0 = 1 ∧ acR (σ.2.1 0) (σ.2.1 6) ((σ.2.1 0) 15) n md) ∨ (r0 = 0 ∧ ¬ acR (σ.2.1 0) (σ.2.1 6) ((σ.2.1 0) 15) n md))) (fun (z : Nat × Nat × Nat × Nat × (Nat → Nat) × (Nat → Nat)) t => BW g (va_A (wM g σ ++ tl) sz) ((fun z : Nat × Nat × Nat × Nat × (Nat → Nat) × (Nat → Nat) => match z with | (r0, j2, r2, e2, f2, f8) => wM g (sA (sA (sF (sF (sF σ 7 j2) 8 r2) 9 e2) 9 f2) 8 f8) ++ tl) z) t) (va_A (wM g σ ++ tl) sz)) 0 0 (va_A (wM g σ ++ tl) sz) := by
  refine jn_sz (wf := fun z : Nat × Nat × Nat × Nat × (Nat → Nat) × (Nat → Nat) => match z with | (r0, j2, r2, e2, f2, f8) => wM g (sA (sA (sF (sF (sF σ 7 j2) 8 r2) 9 e2) 9 f2) 8 f8) ++ tl) (cc := cX11_isAccepted) (maxL := 4) (own := RX11) (by decide) rfl rfl (Nat.le_of_ble_eq_true rfl) ?_
  intro p e s m below meth c Q A hx hb hml hown hts hK hP hD hS hAA hq ls hl
  obtain ⟨H, eH⟩ : ∃ z, z = s.heap := ⟨_, rfl⟩
  obtain ⟨locs, el⟩ : ∃ z : List Loc, z = [] := ⟨_, rfl⟩
  rw [← eH] at hP
  have hS : va_S A s.heap H locs := by rw [eH, el]; exact hS
  have goal0 : W p l e r_c_X11_isAccepted_7 s m ([.ref (g.2.2.2 0), .int (nI md), .ref (g.2.2.2 7), .int (nI n)] : List Value).toArray below meth c H locs 0 0 Q (F0 m 0 ls []) → W p l e r_c_X11_isAccepted_7 s m ([.ref (g.2.2.2 0), .int (nI md), .ref (g.2.2.2 7), .int (nI n)] : List Value).toArray below meth c s.heap [] 0 0 Q (F0 m 0 ls []) := fun h => by rw [eH, el] at h; exact h
  refine goal0 ?_
  have hl : lv_has ls 4 [(0, .ref (g.2.2.2 0)), (1, .int (nI md)), (2, .ref (g.2.2.2 7)), (3, .int (nI n))] := hl
  have iX11 : ∀ w ∈ wsX110, w ∈ wsX11_isAccepted := by decide +kernel
  have k66 := hts (.fieldLink RX11 66 "JumpingAutomataModel" "rest" "I") (by decide +kernel)
  have k13 := hts (.fieldLink RX11 13 "JumpingAutomataModel" "now" "[I") (by decide +kernel)
  have k69 := hts (.fieldLink RX11 69 "JumpingAutomataModel" "endState" "I") (by decide +kernel)
  refine lv_iload_n hx hb dX11_isAccepted_0 rfl (lv_at hl 1 rfl) ?_
  refine jn_zne hx hb (by omega) (tgt := 11) dX11_isAccepted_1 (by decide) (fun c_1 => ?_) (fun c_1 => ?_)
  · refine lv_iload_n hx hb dX11_isAccepted_11 rfl (lv_at hl 1 rfl) ?_
    refine lv_iconst (v := nI 1) hx hb dX11_isAccepted_12 (by decide) ?_
    refine jn_cne hx hb (by omega) (by decide) (tgt := 23) dX11_isAccepted_13 (by decide) (fun c_13 => ?_) (fun c_13 => ?_)
    · refine lv_aload_n hx hb dX11_isAccepted_23 rfl (lv_at hl 0 rfl) ?_
      refine lv_aload_n hx hb dX11_isAccepted_24 rfl (lv_at hl 2 rfl) ?_
      refine lv_iload_n hx hb dX11_isAccepted_25 rfl (lv_at hl 3 rfl) ?_
      refine jn_callv (va_runV (As := [.ref (g.2.2.2 7), .int (nI n)]) (rest := []) ⟨hx, hb, hml, hown, hts⟩ (c_X11_goesOneWay_7 l g tl H.size σ n hT (hdt (by omega)) hn hw) (cwV 2 hts gX11_isAccepted_X11_goesOneWay rfl rfl rfl (by decide +kernel) ⟨Nat.le_of_ble_eq_true rfl, Nat.le_of_ble_eq_true rfl⟩) (okWV hK hP hD rfl (gM0 g σ tl)) rfl rfl hl.1 rfl (lv_room (Nat.le_of_ble_eq_true rfl)) dX11_isAccepted_26 ⟨Nat.le_of_ble_eq_true rfl, Nat.le_of_ble_eq_true rfl⟩) hD hS hAA (fun u H locs hw_ hP hD hS => ?_)
      obtain ⟨j2_26, r2_26, e2_26, f2_26⟩ := u
      have h_26 := hw_
      have h_26 : ((2 ^ e2_26, r2_26, j2_26) = owV (σ.2.1 0) 1 (wl (σ.2.1 6) n) 0 0) ∧ (e2_26 < 5) ∧ (r2_26 ≤ 8 ∧ j2_26 ≤ 8) := h_26
      have hP : va_P (g.1, g.2.1) vwCl (wM g (sA (sF (sF (sF σ 7 j2_26) 8 r2_26) 9 e2_26) 9 f2_26) ++ tl) H := hP
      have hD : va_D A (wM g (sA (sF (sF (sF σ 7 j2_26) 8 r2_26) 9 e2_26) 9 f2_26) ++ tl) := hD
      refine lv_aload_n hx hb dX11_isAccepted_29 rfl (lv_at hl 0 rfl) ?_
      refine va_get (D := (g.1, g.2.1)) (ci := 13) (v := .int (nI r2_26)) (C := RX11) (T := TX11) (N := 30) hx hb hts iX11 hown hK.1 hP 0 (gM0 g (sA (sF (sF (sF σ 7 j2_26) 8 r2_26) 9 e2_26) 9 f2_26) tl) rfl 18 (by decide) k66 (fun _ h9 => h9) rfl dX11_isAccepted_30 ?_
      refine jn_zne hx hb (by omega) (tgt := 57) dX11_isAccepted_33 (by decide) (fun c_33 => ?_) (fun c_33 => ?_)
      · refine lv_iconst (v := nI 0) hx hb dX11_isAccepted_57 (by decide) ?_
        exact hq _ _ _ _ ((nI 0)) (0, j2_26, r2_26, e2_26, f2_26, (σ.2.1 8)) dX11_isAccepted_58 jn_n0 (by first | exact ⟨rfl, Or.inl ⟨rfl, (ac_2 (by omega) hF h_26.2.1 h_26.1).mpr ⟨by omega, c_50⟩⟩⟩ | exact ⟨rfl, Or.inr ⟨rfl, fun z => c_33 ((ac_2 (by omega) hF h_26.2.1 h_26.1).mp z).1⟩⟩ | exact ⟨rfl, Or.inr ⟨rfl, fun z => c_50 ((ac_2 (by omega) hF h_26.2.1 h_26.1).mp z).2⟩⟩) hP hD hS
      · refine lv_aload_n hx hb dX11_isAccepted_36 rfl (lv_at hl 0 rfl) ?_
        refine va_get (D := (g.1, g.2.1)) (ci := 13) (v := .ref (g.2.2.2 1)) (C := RX11) (T := TX11) (N := 30) hx hb hts iX11 hown hK.1 hP 0 (gM0 g (sA (sF (sF (sF σ 7 j2_26) 8 r2_26) 9 e2_26) 9 f2_26) tl) rfl 1 (by decide) k13 (fun _ h9 => h9) rfl dX11_isAccepted_37 ?_
        refine lv_bipush (v := nI 15) hx hb dX11_isAccepted_40 (by decide) ?_
        refine jn_iald (f := σ.2.1 0) hx hb hK.1 hP 1 0 (gM1 g (sA (sF (sF (sF σ 7 j2_26) 8 r2_26) 9 e2_26) 9 f2_26) tl) rfl (by decide) (Nat.le_of_ble_eq_true rfl) dX11_isAccepted_42 ?_
        refine lv_aload_n hx hb dX11_isAccepted_43 rfl (lv_at hl 0 rfl) ?_
        refine va_get (D := (g.1, g.2.1)) (ci := 13) (v := .int (nI e2_26)) (C := RX11) (T := TX11) (N := 30) hx hb hts iX11 hown hK.1 hP 0 (gM0 g (sA (sF (sF (sF σ 7 j2_26) 8 r2_26) 9 e2_26) 9 f2_26) tl) rfl 19 (by decide) k69 (fun _ h9 => h9) rfl dX11_isAccepted_44 ?_
        refine vp_callSi (va_Run.run (va_runS (As := [.int (nI ((σ.2.1 0) 15)), .int (nI e2_26)]) (rest := []) ⟨hx, hb, hml, hown, hts⟩ (c_X11_has l ((σ.2.1 0) 15) e2_26 (by omega) (by omega)) (va_cwS 2 hts gX11_isAccepted_X11_has rfl rfl rfl (by decide +kernel) ⟨Nat.le_of_ble_eq_true rfl, Nat.le_of_ble_eq_true rfl⟩) okTS rfl rfl hl.1 rfl (lv_room (Nat.le_of_ble_eq_true rfl)) dX11_isAccepted_47 ⟨Nat.le_of_ble_eq_true rfl, Nat.le_of_ble_eq_true rfl⟩)) (fun r_47 h_47 => ?_)
        subst h_47
        refine jn_beq hx hb (tgt := 57) dX11_isAccepted_50 (by decide) (fun c_50 => ?_) (fun c_50 => ?_)
        · refine lv_iconst (v := nI 0) hx hb dX11_isAccepted_57 (by decide) ?_
          exact hq _ _ _ _ ((nI 0)) (0, j2_26, r2_26, e2_26, f2_26, (σ.2.1 8)) dX11_isAccepted_58 jn_n0 (by first | exact ⟨rfl, Or.inl ⟨rfl, (ac_2 (by omega) hF h_26.2.1 h_26.1).mpr ⟨by omega, c_50⟩⟩⟩ | exact ⟨rfl, Or.inr ⟨rfl, fun z => c_33 ((ac_2 (by omega) hF h_26.2.1 h_26.1).mp z).1⟩⟩ | exact ⟨rfl, Or.inr ⟨rfl, fun z => c_50 ((ac_2 (by omega) hF h_26.2.1 h_26.1).mp z).2⟩⟩) hP hD hS
        · refine lv_iconst (v := nI 1) hx hb dX11_isAccepted_53 (by decide) ?_
          refine lv_goto (tgt := 58) hx hb dX11_isAccepted_54 (by decide) ?_
          exact hq _ _ _ _ ((nI 1)) (1, j2_26, r2_26, e2_26, f2_26, (σ.2.1 8)) dX11_isAccepted_58 jn_n1 (by first | exact ⟨rfl, Or.inl ⟨rfl, (ac_2 (by omega) hF h_26.2.1 h_26.1).mpr ⟨by omega, c_50⟩⟩⟩ | exact ⟨rfl, Or.inr ⟨rfl, fun z => c_33 ((ac_2 (by omega) hF h_26.2.1 h_26.1).mp z).1⟩⟩ | exact ⟨rfl, Or.inr ⟨rfl, fun z => c_50 ((ac_2 (by omega) hF h_26.2.1 h_26.1).mp z).2⟩⟩) hP hD hS
    · refine lv_aload_n hx hb dX11_isAccepted_16 rfl (lv_at hl 0 rfl) ?_
      refine lv_aload_n hx hb dX11_isAccepted_17 rfl (lv_at hl 2 rfl) ?_
      refine lv_iload_n hx hb dX11_isAccepted_18 rfl (lv_at hl 3 rfl) ?_
      refine jn_calli (va_runV (As := [.ref (g.2.2.2 7), .int (nI n)]) (rest := []) ⟨hx, hb, hml, hown, hts⟩ (c_X11_isJumping_7 l g tl H.size σ n hF hn hw hB) (cwV 2 hts gX11_isAccepted_X11_isJumping rfl rfl rfl (by decide +kernel) ⟨Nat.le_of_ble_eq_true rfl, Nat.le_of_ble_eq_true rfl⟩) (okWV hK hP hD rfl (gM0 g σ tl)) rfl rfl hl.1 rfl (lv_room (Nat.le_of_ble_eq_true rfl)) dX11_isAccepted_19 ⟨Nat.le_of_ble_eq_true rfl, Nat.le_of_ble_eq_true rfl⟩) hD hS hAA (fun r_19 u H locs hw_ hP hD hS => ?_)
      obtain ⟨f8_19, rfl⟩ : ∃ z, z = u := ⟨_, rfl⟩
      obtain rfl := hw_
      have hP : va_P (g.1, g.2.1) vwCl (wM g (sA σ 8 f8_19) ++ tl) H := hP
      have hD : va_D A (wM g (sA σ 8 f8_19) ++ tl) := hD
      exact hq _ _ _ _ ((nI (if wrc (σ.2.1 0) (σ.2.1 6) ((σ.2.1 0) 15) n then 1 else 0))) (_, (σ.1 7), (σ.1 8), (σ.1 9), (σ.2.1 9), f8_19) dX11_isAccepted_22 (jn_nb _) ⟨rfl, acr_if (ac_1 (by omega))⟩ hP hD hS
  · refine lv_aload_n hx hb dX11_isAccepted_4 rfl (lv_at hl 0 rfl) ?_
    refine lv_aload_n hx hb dX11_isAccepted_5 rfl (lv_at hl 2 rfl) ?_
    refine lv_iload_n hx hb dX11_isAccepted_6 rfl (lv_at hl 3 rfl) ?_
    refine vp_callSi (va_Run.run (va_runV (As := [.ref (g.2.2.2 7), .int (nI n)]) (rest := []) ⟨hx, hb, hml, hown, hts⟩ (c_X11_isInOrder_7 l g tl σ n hT hF hn hw) (cwV 2 hts gX11_isAccepted_X11_isInOrder rfl rfl rfl (by decide +kernel) ⟨Nat.le_of_ble_eq_true rfl, Nat.le_of_ble_eq_true rfl⟩) (okPV hK hP rfl (gM0 g σ tl)) rfl rfl hl.1 rfl (lv_room (Nat.le_of_ble_eq_true rfl)) dX11_isAccepted_7 ⟨Nat.le_of_ble_eq_true rfl, Nat.le_of_ble_eq_true rfl⟩)) (fun r_7 h_7 => ?_)
    subst h_7
    exact hq _ _ _ _ ((nI (if wrun (σ.2.1 0) (σ.2.1 6) n &&& ((σ.2.1 0) 15) ≠ 0 then 1 else 0))) (_, (σ.1 7), (σ.1 8), (σ.1 9), (σ.2.1 9), (σ.2.1 8)) dX11_isAccepted_10 (jn_nb _) ⟨rfl, acr_if (ac_0 (by omega))⟩ hP hD hS

abbrev r_c_X11_accepts : Room := { frames := 4, cells := 0, slots := 0, locals := 93 }
set_option maxHeartbeats 4000000 in
set_option maxRecDepth 100000 in
theorem c_X11_accepts (l : Launch) (g : GC) (tl : va_W) (sz : Nat) (σ : SS) (md : Nat) (hT : OkT (σ.2.1 0)) (hF : ((σ.2.1 0) 15) < 32) (hn : (σ.1 6) ≤ 8) (hw : ∀ i, i < (σ.1 6) → (σ.2.1 5) i < 3) (hmd : md < 4294967296) : Met l yX11_accepts wsX11_accepts r_c_X11_accepts (va_Pc [.ref (g.2.2.2 0), .int (nI md)] (PW g (wM g σ ++ tl) sz)) (va_Qi (fun (r : Int32) (z : Nat × Nat × Nat × Nat × Nat × (Nat → Nat) × (Nat → Nat) × (Nat → Nat)) => match z with | (r0, th, j2, r2, e2, f2, f7, f8) => (r = nI (r0)) ∧ ((¬ md < 3 ∧ th = 1) ∨ ((md < 3 ∧ md = 2 ∧ ¬ detT (σ.2.1 0)) ∧ th = 2) ∨ ((md < 3 ∧ (md = 2 → detT (σ.2.1 0))) ∧ th = 0 ∧ r0 = 1 ∧ acR (σ.2.1 0) (σ.2.1 5) ((σ.2.1 0) 15) (σ.1 6) md) ∨ ((md < 3 ∧ (md = 2 → detT (σ.2.1 0))) ∧ th = 0 ∧ r0 = 0 ∧ ¬ acR (σ.2.1 0) (σ.2.1 5) ((σ.2.1 0) 15) (σ.1 6) md))) (fun (z : Nat × Nat × Nat × Nat × Nat × (Nat → Nat) × (Nat → Nat) × (Nat → Nat)) t => BW g (va_A (wM g σ ++ tl) sz) ((fun z : Nat × Nat × Nat × Nat × Nat × (Nat → Nat) × (Nat → Nat) × (Nat → Nat) => match z with | (r0, th, j2, r2, e2, f2, f7, f8) => wM g (sA (sA (sA (sF (sF (sF (sF σ 0 th) 7 j2) 8 r2) 9 e2) 9 f2) 7 f7) 8 f8) ++ tl) z) t) (va_A (wM g σ ++ tl) sz)) 0 0 (va_A (wM g σ ++ tl) sz) := by
  refine jn_sz (wf := fun z : Nat × Nat × Nat × Nat × Nat × (Nat → Nat) × (Nat → Nat) × (Nat → Nat) => match z with | (r0, th, j2, r2, e2, f2, f7, f8) => wM g (sA (sA (sA (sF (sF (sF (sF σ 0 th) 7 j2) 8 r2) 9 e2) 9 f2) 7 f7) 8 f8) ++ tl) (cc := cX11_accepts) (maxL := 2) (own := RX11) (by decide) rfl rfl (Nat.le_of_ble_eq_true rfl) ?_
  intro p e s m below meth c Q A hx hb hml hown hts hK hP hD hS hAA hq ls hl
  obtain ⟨H, eH⟩ : ∃ z, z = s.heap := ⟨_, rfl⟩
  obtain ⟨locs, el⟩ : ∃ z : List Loc, z = [] := ⟨_, rfl⟩
  rw [← eH] at hP
  have hS : va_S A s.heap H locs := by rw [eH, el]; exact hS
  have goal0 : W p l e r_c_X11_accepts s m ([.ref (g.2.2.2 0), .int (nI md)] : List Value).toArray below meth c H locs 0 0 Q (F0 m 0 ls []) → W p l e r_c_X11_accepts s m ([.ref (g.2.2.2 0), .int (nI md)] : List Value).toArray below meth c s.heap [] 0 0 Q (F0 m 0 ls []) := fun h => by rw [eH, el] at h; exact h
  refine goal0 ?_
  have hl : lv_has ls 2 [(0, .ref (g.2.2.2 0)), (1, .int (nI md))] := hl
  have iX11 : ∀ w ∈ wsX110, w ∈ wsX11_accepts := by decide +kernel
  have k1 := hts (.fieldLink RX11 1 "JumpingAutomataModel" "thrown" "I") (by decide +kernel)
  have k45 := hts (.fieldLink RX11 45 "JumpingAutomataModel" "word" "[I") (by decide +kernel)
  have k51 := hts (.fieldLink RX11 51 "JumpingAutomataModel" "length" "I") (by decide +kernel)
  refine lv_aload_n hx hb dX11_accepts_0 rfl (lv_at hl 0 rfl) ?_
  refine lv_iconst (v := nI 0) hx hb dX11_accepts_1 (by decide) ?_
  refine jn_put (D := (g.1, g.2.1)) (ci := 13) (v := .int (nI 0)) (ty := .int) (C := RX11) (T := TX11) (N := 30) hx hb hts iX11 tyX11 tyX11_ok nmX11 hown hK.1 hP hD hS 0 (gM0 g σ tl) rfl 0 (by decide) k1 (fun _ h9 => h9) rfl (by decide +kernel) rfl rfl (Nat.le_of_ble_eq_true rfl) (uM_F0 g σ tl 0) dX11_accepts_2 (fun H locs hP hD hS => ?_)
  refine lv_iload_n hx hb dX11_accepts_5 rfl (lv_at hl 1 rfl) ?_
  refine lv_iconst (v := nI 0) hx hb dX11_accepts_6 (by decide) ?_
  refine lv_iconst (v := nI 2) hx hb dX11_accepts_7 (by decide) ?_
  refine vp_callSi (va_Run.run (va_runS (As := [.int (nI md), .int (nI 0), .int (nI 2)]) (rest := []) ⟨hx, hb, hml, hown, hts⟩ (c_X11_in l md 0 2 (by omega) (by decide) (by decide)) (va_cwS 3 hts gX11_accepts_X11_in rfl rfl rfl (by decide +kernel) ⟨Nat.le_of_ble_eq_true rfl, Nat.le_of_ble_eq_true rfl⟩) okTS rfl rfl hl.1 rfl (lv_room (Nat.le_of_ble_eq_true rfl)) dX11_accepts_8 ⟨Nat.le_of_ble_eq_true rfl, Nat.le_of_ble_eq_true rfl⟩)) (fun r_8 h_8 => ?_)
  subst h_8
  refine jn_bne hx hb (tgt := 28) dX11_accepts_11 (by decide) (fun c_11 => ?_) (fun c_11 => ?_)
  · refine lv_aload_n hx hb dX11_accepts_28 rfl (lv_at hl 0 rfl) ?_
    refine lv_iload_n hx hb dX11_accepts_29 rfl (lv_at hl 1 rfl) ?_
    refine vp_callSi (va_Run.run (va_runV (As := [.int (nI md)]) (rest := []) ⟨hx, hb, hml, hown, hts⟩ (c_X11_lacksMode l g tl (sF σ 0 0) md hT (by omega)) (cwV 1 hts gX11_accepts_X11_lacksMode rfl rfl rfl (by decide +kernel) ⟨Nat.le_of_ble_eq_true rfl, Nat.le_of_ble_eq_true rfl⟩) (okPV hK hP rfl (gM0 g (sF σ 0 0) tl)) rfl rfl hl.1 rfl (lv_room (Nat.le_of_ble_eq_true rfl)) dX11_accepts_30 ⟨Nat.le_of_ble_eq_true rfl, Nat.le_of_ble_eq_true rfl⟩)) (fun r_30 h_30 => ?_)
    have h_30 : r_30 = (nI (if md = 2 ∧ ¬ detT (σ.2.1 0) then 1 else 0)) := h_30
    subst h_30
    refine jn_beq hx hb (tgt := 50) dX11_accepts_33 (by decide) (fun c_33 => ?_) (fun c_33 => ?_)
    · refine lv_aload_n hx hb dX11_accepts_50 rfl (lv_at hl 0 rfl) ?_
      refine jn_callv (va_runV (As := []) (rest := []) ⟨hx, hb, hml, hown, hts⟩ (c_X11_layReached l g tl H.size (sF σ 0 0) hT) (cwV 0 hts gX11_accepts_X11_layReached rfl rfl rfl (by decide +kernel) ⟨Nat.le_of_ble_eq_true rfl, Nat.le_of_ble_eq_true rfl⟩) (okWV hK hP hD rfl (gM0 g (sF σ 0 0) tl)) rfl rfl hl.1 rfl (lv_room (Nat.le_of_ble_eq_true rfl)) dX11_accepts_51 ⟨Nat.le_of_ble_eq_true rfl, Nat.le_of_ble_eq_true rfl⟩) hD hS hAA (fun u H locs hw_ hP hD hS => ?_)
      obtain ⟨f_51, rfl⟩ : ∃ z, z = u := ⟨_, rfl⟩
      have h_51 := hw_
      have h_51 : ∀ a b c, a < 10 → b < 10 → c < 10 → f_51 (100 * a + 10 * b + c) = rch (σ.2.1 0) a b c := h_51
      have hP : va_P (g.1, g.2.1) vwCl (wM g (sA (sF σ 0 0) 7 f_51) ++ tl) H := hP
      have hD : va_D A (wM g (sA (sF σ 0 0) 7 f_51) ++ tl) := hD
      refine lv_aload_n hx hb dX11_accepts_54 rfl (lv_at hl 0 rfl) ?_
      refine lv_iload_n hx hb dX11_accepts_55 rfl (lv_at hl 1 rfl) ?_
      refine lv_aload_n hx hb dX11_accepts_56 rfl (lv_at hl 0 rfl) ?_
      refine va_get (D := (g.1, g.2.1)) (ci := 13) (v := .ref (g.2.2.2 6)) (C := RX11) (T := TX11) (N := 30) hx hb hts iX11 hown hK.1 hP 0 (gM0 g (sA (sF σ 0 0) 7 f_51) tl) rfl 11 (by decide) k45 (fun _ h9 => h9) rfl dX11_accepts_57 ?_
      refine lv_aload_n hx hb dX11_accepts_60 rfl (lv_at hl 0 rfl) ?_
      refine va_get (D := (g.1, g.2.1)) (ci := 13) (v := .int (nI (σ.1 6))) (C := RX11) (T := TX11) (N := 30) hx hb hts iX11 hown hK.1 hP 0 (gM0 g (sA (sF σ 0 0) 7 f_51) tl) rfl 13 (by decide) k51 (fun _ h9 => h9) rfl dX11_accepts_61 ?_
      refine jn_calli (va_runV (As := [.int (nI md), .ref (g.2.2.2 6), .int (nI (σ.1 6))]) (rest := []) ⟨hx, hb, hml, hown, hts⟩ (c_X11_isAccepted_6 l g tl H.size (sA (sF σ 0 0) 7 f_51) md (σ.1 6) hT hF (by omega) (fun q => Classical.not_not.mp (fun z => c_33 ⟨q, z⟩)) hn hw h_51) (cwV 3 hts gX11_accepts_X11_isAccepted rfl rfl rfl (by decide +kernel) ⟨Nat.le_of_ble_eq_true rfl, Nat.le_of_ble_eq_true rfl⟩) (okWV hK hP hD rfl (gM0 g (sA (sF σ 0 0) 7 f_51) tl)) rfl rfl hl.1 rfl (lv_room (Nat.le_of_ble_eq_true rfl)) dX11_accepts_64 ⟨Nat.le_of_ble_eq_true rfl, Nat.le_of_ble_eq_true rfl⟩) hD hS hAA (fun r_64 u H locs hw_ hP hD hS => ?_)
      obtain ⟨r0_64, j2_64, r2_64, e2_64, f2_64, f8_64⟩ := u
      obtain ⟨rfl, h_64⟩ := hw_
      have h_64 : (r0_64 = 1 ∧ acR (σ.2.1 0) (σ.2.1 5) ((σ.2.1 0) 15) (σ.1 6) md) ∨ (r0_64 = 0 ∧ ¬ acR (σ.2.1 0) (σ.2.1 5) ((σ.2.1 0) 15) (σ.1 6) md) := h_64
      have hP : va_P (g.1, g.2.1) vwCl (wM g (sA (sA (sF (sF (sF (sA (sF σ 0 0) 7 f_51) 7 j2_64) 8 r2_64) 9 e2_64) 9 f2_64) 8 f8_64) ++ tl) H := hP
      have hD : va_D A (wM g (sA (sA (sF (sF (sF (sA (sF σ 0 0) 7 f_51) 7 j2_64) 8 r2_64) 9 e2_64) 9 f2_64) 8 f8_64) ++ tl) := hD
      exact hq _ _ _ _ ((nI r0_64)) (r0_64, 0, j2_64, r2_64, e2_64, f2_64, f_51, f8_64) dX11_accepts_67 (by rcases h_64 with z | z <;> rw [z.1] <;> decide) ⟨rfl, by rcases h_64 with z | z; { exact Or.inr (Or.inr (Or.inl ⟨⟨by omega, fun q => Classical.not_not.mp (fun z => c_33 ⟨q, z⟩)⟩, rfl, z.1, z.2⟩)) }; { exact Or.inr (Or.inr (Or.inr ⟨⟨by omega, fun q => Classical.not_not.mp (fun z => c_33 ⟨q, z⟩)⟩, rfl, z.1, z.2⟩)) }⟩ hP hD hS
    · refine lv_aload_n hx hb dX11_accepts_36 rfl (lv_at hl 0 rfl) ?_
      refine lv_iconst (v := nI 2) hx hb dX11_accepts_37 (by decide) ?_
      refine jn_calli (va_runV (As := [.int (nI 2)]) (rest := []) ⟨hx, hb, hml, hown, hts⟩ (c_X11_fails l g tl H.size (sF σ 0 0) 2) (cwV 1 hts gX11_accepts_X11_fails rfl rfl rfl (by decide +kernel) ⟨Nat.le_of_ble_eq_true rfl, Nat.le_of_ble_eq_true rfl⟩) (okWV hK hP hD rfl (gM0 g (sF σ 0 0) tl)) rfl rfl hl.1 rfl (lv_room (Nat.le_of_ble_eq_true rfl)) dX11_accepts_38 ⟨Nat.le_of_ble_eq_true rfl, Nat.le_of_ble_eq_true rfl⟩) hD hS hAA (fun r_38 u H locs hw_ hP hD hS => ?_)
      obtain rfl := hw_
      have hP : va_P (g.1, g.2.1) vwCl (wM g (sF (sF σ 0 0) 0 2) ++ tl) H := hP
      have hD : va_D A (wM g (sF (sF σ 0 0) 0 2) ++ tl) := hD
      refine jn_zle hx hb (by decide) (tgt := 48) dX11_accepts_41 (by decide) (fun c_41 => ?_) (fun c_41 => absurd c_41 (by omega))
      refine lv_iconst (v := nI 0) hx hb dX11_accepts_48 (by decide) ?_
      exact hq _ _ _ _ ((nI 0)) (0, 2, (σ.1 7), (σ.1 8), (σ.1 9), (σ.2.1 9), (σ.2.1 7), (σ.2.1 8)) dX11_accepts_49 jn_n0 ⟨rfl, (Or.inr (Or.inl ⟨⟨by omega, c_33.1, c_33.2⟩, rfl⟩))⟩ hP hD hS
  · refine lv_aload_n hx hb dX11_accepts_14 rfl (lv_at hl 0 rfl) ?_
    refine lv_iconst (v := nI 1) hx hb dX11_accepts_15 (by decide) ?_
    refine jn_calli (va_runV (As := [.int (nI 1)]) (rest := []) ⟨hx, hb, hml, hown, hts⟩ (c_X11_fails l g tl H.size (sF σ 0 0) 1) (cwV 1 hts gX11_accepts_X11_fails rfl rfl rfl (by decide +kernel) ⟨Nat.le_of_ble_eq_true rfl, Nat.le_of_ble_eq_true rfl⟩) (okWV hK hP hD rfl (gM0 g (sF σ 0 0) tl)) rfl rfl hl.1 rfl (lv_room (Nat.le_of_ble_eq_true rfl)) dX11_accepts_16 ⟨Nat.le_of_ble_eq_true rfl, Nat.le_of_ble_eq_true rfl⟩) hD hS hAA (fun r_16 u H locs hw_ hP hD hS => ?_)
    obtain rfl := hw_
    have hP : va_P (g.1, g.2.1) vwCl (wM g (sF (sF σ 0 0) 0 1) ++ tl) H := hP
    have hD : va_D A (wM g (sF (sF σ 0 0) 0 1) ++ tl) := hD
    refine jn_zle hx hb (by decide) (tgt := 26) dX11_accepts_19 (by decide) (fun c_19 => ?_) (fun c_19 => absurd c_19 (by omega))
    refine lv_iconst (v := nI 0) hx hb dX11_accepts_26 (by decide) ?_
    exact hq _ _ _ _ ((nI 0)) (0, 1, (σ.1 7), (σ.1 8), (σ.1 9), (σ.2.1 9), (σ.2.1 7), (σ.2.1 8)) dX11_accepts_27 jn_n0 ⟨rfl, (Or.inl ⟨by omega, rfl⟩)⟩ hP hD hS

abbrev r_c_X11_oneWayJumps : Room := { frames := 2, cells := 0, slots := 0, locals := 47 }
set_option maxHeartbeats 4000000 in
set_option maxRecDepth 100000 in
theorem c_X11_oneWayJumps (l : Launch) (g : GC) (tl : va_W) (sz : Nat) (σ : SS) (hT : OkT (σ.2.1 0)) (hn : (σ.1 6) ≤ 8) (hw : ∀ i, i < (σ.1 6) → (σ.2.1 5) i < 3) : Met l yX11_oneWayJumps wsX11_oneWayJumps r_c_X11_oneWayJumps (va_Pc [.ref (g.2.2.2 0)] (PW g (wM g σ ++ tl) sz)) (va_Qi (fun (r : Int32) (z : Nat × Nat × Nat × Nat × Nat × (Nat → Nat)) => match z with | (r0, th, j2, r2, e2, f2) => (r = nI (r0)) ∧ ((¬ detT (σ.2.1 0) ∧ th = 1) ∨ (detT (σ.2.1 0) ∧ th = 0 ∧ r0 = (owV (σ.2.1 0) 1 (wl (σ.2.1 5) (σ.1 6)) 0 0).2.2))) (fun (z : Nat × Nat × Nat × Nat × Nat × (Nat → Nat)) t => BW g (va_A (wM g σ ++ tl) sz) ((fun z : Nat × Nat × Nat × Nat × Nat × (Nat → Nat) => match z with | (r0, th, j2, r2, e2, f2) => wM g (sA (sF (sF (sF (sF σ 0 th) 7 j2) 8 r2) 9 e2) 9 f2) ++ tl) z) t) (va_A (wM g σ ++ tl) sz)) 0 0 (va_A (wM g σ ++ tl) sz) := by
  refine jn_si (wf := fun z : Nat × Nat × Nat × Nat × Nat × (Nat → Nat) => match z with | (r0, th, j2, r2, e2, f2) => wM g (sA (sF (sF (sF (sF σ 0 th) 7 j2) 8 r2) 9 e2) 9 f2) ++ tl) (cc := cX11_oneWayJumps) (maxL := 1) (own := RX11) (by decide) rfl rfl (Nat.le_of_ble_eq_true rfl) ?_
  intro p e s m below meth c Q A hx hb hml hown hts hK hP hD hS hAA hq ls hl
  obtain ⟨H, eH⟩ : ∃ z, z = s.heap := ⟨_, rfl⟩
  obtain ⟨locs, el⟩ : ∃ z : List Loc, z = [] := ⟨_, rfl⟩
  rw [← eH] at hP
  have hS : va_S A s.heap H locs := by rw [eH, el]; exact hS
  have goal0 : W p l e r_c_X11_oneWayJumps s m ([.ref (g.2.2.2 0)] : List Value).toArray below meth c H locs 0 0 Q (F0 m 0 ls []) → W p l e r_c_X11_oneWayJumps s m ([.ref (g.2.2.2 0)] : List Value).toArray below meth c s.heap [] 0 0 Q (F0 m 0 ls []) := fun h => by rw [eH, el] at h; exact h
  refine goal0 ?_
  have hl : lv_has ls 1 [(0, .ref (g.2.2.2 0))] := hl
  have iX11 : ∀ w ∈ wsX110, w ∈ wsX11_oneWayJumps := by decide +kernel
  have k1 := hts (.fieldLink RX11 1 "JumpingAutomataModel" "thrown" "I") (by decide +kernel)
  have k45 := hts (.fieldLink RX11 45 "JumpingAutomataModel" "word" "[I") (by decide +kernel)
  have k51 := hts (.fieldLink RX11 51 "JumpingAutomataModel" "length" "I") (by decide +kernel)
  have k63 := hts (.fieldLink RX11 63 "JumpingAutomataModel" "jumps" "I") (by decide +kernel)
  refine lv_aload_n hx hb dX11_oneWayJumps_0 rfl (lv_at hl 0 rfl) ?_
  refine lv_iconst (v := nI 0) hx hb dX11_oneWayJumps_1 (by decide) ?_
  refine jn_put (D := (g.1, g.2.1)) (ci := 13) (v := .int (nI 0)) (ty := .int) (C := RX11) (T := TX11) (N := 30) hx hb hts iX11 tyX11 tyX11_ok nmX11 hown hK.1 hP hD hS 0 (gM0 g σ tl) rfl 0 (by decide) k1 (fun _ h9 => h9) rfl (by decide +kernel) rfl rfl (Nat.le_of_ble_eq_true rfl) (uM_F0 g σ tl 0) dX11_oneWayJumps_2 (fun H locs hP hD hS => ?_)
  refine lv_aload_n hx hb dX11_oneWayJumps_5 rfl (lv_at hl 0 rfl) ?_
  refine vp_callSi (va_Run.run (va_runV (As := []) (rest := []) ⟨hx, hb, hml, hown, hts⟩ (c_X11_isDeterministic l g tl (sF σ 0 0) hT) (cwV 0 hts gX11_oneWayJumps_X11_isDeterministic rfl rfl rfl (by decide +kernel) ⟨Nat.le_of_ble_eq_true rfl, Nat.le_of_ble_eq_true rfl⟩) (okPV hK hP rfl (gM0 g (sF σ 0 0) tl)) rfl rfl hl.1 rfl (lv_room (Nat.le_of_ble_eq_true rfl)) dX11_oneWayJumps_6 ⟨Nat.le_of_ble_eq_true rfl, Nat.le_of_ble_eq_true rfl⟩)) (fun r_6 h_6 => ?_)
  have h_6 : r_6 = (nI (if detT (σ.2.1 0) then 1 else 0)) := h_6
  subst h_6
  refine jn_bne hx hb (tgt := 18) dX11_oneWayJumps_9 (by decide) (fun c_9 => ?_) (fun c_9 => ?_)
  · refine lv_aload_n hx hb dX11_oneWayJumps_18 rfl (lv_at hl 0 rfl) ?_
    refine lv_aload_n hx hb dX11_oneWayJumps_19 rfl (lv_at hl 0 rfl) ?_
    refine va_get (D := (g.1, g.2.1)) (ci := 13) (v := .ref (g.2.2.2 6)) (C := RX11) (T := TX11) (N := 30) hx hb hts iX11 hown hK.1 hP 0 (gM0 g (sF σ 0 0) tl) rfl 11 (by decide) k45 (fun _ h9 => h9) rfl dX11_oneWayJumps_20 ?_
    refine lv_aload_n hx hb dX11_oneWayJumps_23 rfl (lv_at hl 0 rfl) ?_
    refine va_get (D := (g.1, g.2.1)) (ci := 13) (v := .int (nI (σ.1 6))) (C := RX11) (T := TX11) (N := 30) hx hb hts iX11 hown hK.1 hP 0 (gM0 g (sF σ 0 0) tl) rfl 13 (by decide) k51 (fun _ h9 => h9) rfl dX11_oneWayJumps_24 ?_
    refine jn_callv (va_runV (As := [.ref (g.2.2.2 6), .int (nI (σ.1 6))]) (rest := []) ⟨hx, hb, hml, hown, hts⟩ (c_X11_goesOneWay_6 l g tl H.size (sF σ 0 0) (σ.1 6) hT c_9 hn hw) (cwV 2 hts gX11_oneWayJumps_X11_goesOneWay rfl rfl rfl (by decide +kernel) ⟨Nat.le_of_ble_eq_true rfl, Nat.le_of_ble_eq_true rfl⟩) (okWV hK hP hD rfl (gM0 g (sF σ 0 0) tl)) rfl rfl hl.1 rfl (lv_room (Nat.le_of_ble_eq_true rfl)) dX11_oneWayJumps_27 ⟨Nat.le_of_ble_eq_true rfl, Nat.le_of_ble_eq_true rfl⟩) hD hS hAA (fun u H locs hw_ hP hD hS => ?_)
    obtain ⟨j2_27, r2_27, e2_27, f2_27⟩ := u
    have h_27 := hw_
    have h_27 : ((2 ^ e2_27, r2_27, j2_27) = owV (σ.2.1 0) 1 (wl (σ.2.1 5) (σ.1 6)) 0 0) ∧ (e2_27 < 5) ∧ (r2_27 ≤ 8 ∧ j2_27 ≤ 8) := h_27
    have hP : va_P (g.1, g.2.1) vwCl (wM g (sA (sF (sF (sF (sF σ 0 0) 7 j2_27) 8 r2_27) 9 e2_27) 9 f2_27) ++ tl) H := hP
    have hD : va_D A (wM g (sA (sF (sF (sF (sF σ 0 0) 7 j2_27) 8 r2_27) 9 e2_27) 9 f2_27) ++ tl) := hD
    refine lv_aload_n hx hb dX11_oneWayJumps_30 rfl (lv_at hl 0 rfl) ?_
    refine va_get (D := (g.1, g.2.1)) (ci := 13) (v := .int (nI j2_27)) (C := RX11) (T := TX11) (N := 30) hx hb hts iX11 hown hK.1 hP 0 (gM0 g (sA (sF (sF (sF (sF σ 0 0) 7 j2_27) 8 r2_27) 9 e2_27) 9 f2_27) tl) rfl 17 (by decide) k63 (fun _ h9 => h9) rfl dX11_oneWayJumps_31 ?_
    exact hq _ _ _ _ ((nI j2_27)) (_, 0, j2_27, r2_27, e2_27, f2_27) dX11_oneWayJumps_34 ⟨rfl, (Or.inr ⟨c_9, rfl, by rw [← h_27.1]⟩)⟩ hP hD hS
  · refine lv_aload_n hx hb dX11_oneWayJumps_12 rfl (lv_at hl 0 rfl) ?_
    refine lv_iconst (v := nI 1) hx hb dX11_oneWayJumps_13 (by decide) ?_
    refine jn_calli (va_runV (As := [.int (nI 1)]) (rest := []) ⟨hx, hb, hml, hown, hts⟩ (c_X11_fails l g tl H.size (sF σ 0 0) 1) (cwV 1 hts gX11_oneWayJumps_X11_fails rfl rfl rfl (by decide +kernel) ⟨Nat.le_of_ble_eq_true rfl, Nat.le_of_ble_eq_true rfl⟩) (okWV hK hP hD rfl (gM0 g (sF σ 0 0) tl)) rfl rfl hl.1 rfl (lv_room (Nat.le_of_ble_eq_true rfl)) dX11_oneWayJumps_14 ⟨Nat.le_of_ble_eq_true rfl, Nat.le_of_ble_eq_true rfl⟩) hD hS hAA (fun r_14 u H locs hw_ hP hD hS => ?_)
    obtain rfl := hw_
    have hP : va_P (g.1, g.2.1) vwCl (wM g (sF (sF σ 0 0) 0 1) ++ tl) H := hP
    have hD : va_D A (wM g (sF (sF σ 0 0) 0 1) ++ tl) := hD
    exact hq _ _ _ _ ((nI 0)) (0, 1, (σ.1 7), (σ.1 8), (σ.1 9), (σ.2.1 9)) dX11_oneWayJumps_17 ⟨rfl, (Or.inl ⟨c_9, rfl⟩)⟩ hP hD hS

abbrev r_c_X11_oneWayRest : Room := { frames := 2, cells := 0, slots := 0, locals := 47 }
set_option maxHeartbeats 4000000 in
set_option maxRecDepth 100000 in
theorem c_X11_oneWayRest (l : Launch) (g : GC) (tl : va_W) (sz : Nat) (σ : SS) (hT : OkT (σ.2.1 0)) (hn : (σ.1 6) ≤ 8) (hw : ∀ i, i < (σ.1 6) → (σ.2.1 5) i < 3) : Met l yX11_oneWayRest wsX11_oneWayRest r_c_X11_oneWayRest (va_Pc [.ref (g.2.2.2 0)] (PW g (wM g σ ++ tl) sz)) (va_Qi (fun (r : Int32) (z : Nat × Nat × Nat × Nat × Nat × (Nat → Nat)) => match z with | (r0, th, j2, r2, e2, f2) => (r = nI (r0)) ∧ ((¬ detT (σ.2.1 0) ∧ th = 1) ∨ (detT (σ.2.1 0) ∧ th = 0 ∧ r0 = (owV (σ.2.1 0) 1 (wl (σ.2.1 5) (σ.1 6)) 0 0).2.1))) (fun (z : Nat × Nat × Nat × Nat × Nat × (Nat → Nat)) t => BW g (va_A (wM g σ ++ tl) sz) ((fun z : Nat × Nat × Nat × Nat × Nat × (Nat → Nat) => match z with | (r0, th, j2, r2, e2, f2) => wM g (sA (sF (sF (sF (sF σ 0 th) 7 j2) 8 r2) 9 e2) 9 f2) ++ tl) z) t) (va_A (wM g σ ++ tl) sz)) 0 0 (va_A (wM g σ ++ tl) sz) := by
  refine jn_si (wf := fun z : Nat × Nat × Nat × Nat × Nat × (Nat → Nat) => match z with | (r0, th, j2, r2, e2, f2) => wM g (sA (sF (sF (sF (sF σ 0 th) 7 j2) 8 r2) 9 e2) 9 f2) ++ tl) (cc := cX11_oneWayRest) (maxL := 1) (own := RX11) (by decide) rfl rfl (Nat.le_of_ble_eq_true rfl) ?_
  intro p e s m below meth c Q A hx hb hml hown hts hK hP hD hS hAA hq ls hl
  obtain ⟨H, eH⟩ : ∃ z, z = s.heap := ⟨_, rfl⟩
  obtain ⟨locs, el⟩ : ∃ z : List Loc, z = [] := ⟨_, rfl⟩
  rw [← eH] at hP
  have hS : va_S A s.heap H locs := by rw [eH, el]; exact hS
  have goal0 : W p l e r_c_X11_oneWayRest s m ([.ref (g.2.2.2 0)] : List Value).toArray below meth c H locs 0 0 Q (F0 m 0 ls []) → W p l e r_c_X11_oneWayRest s m ([.ref (g.2.2.2 0)] : List Value).toArray below meth c s.heap [] 0 0 Q (F0 m 0 ls []) := fun h => by rw [eH, el] at h; exact h
  refine goal0 ?_
  have hl : lv_has ls 1 [(0, .ref (g.2.2.2 0))] := hl
  have iX11 : ∀ w ∈ wsX110, w ∈ wsX11_oneWayRest := by decide +kernel
  have k1 := hts (.fieldLink RX11 1 "JumpingAutomataModel" "thrown" "I") (by decide +kernel)
  have k45 := hts (.fieldLink RX11 45 "JumpingAutomataModel" "word" "[I") (by decide +kernel)
  have k51 := hts (.fieldLink RX11 51 "JumpingAutomataModel" "length" "I") (by decide +kernel)
  have k66 := hts (.fieldLink RX11 66 "JumpingAutomataModel" "rest" "I") (by decide +kernel)
  refine lv_aload_n hx hb dX11_oneWayRest_0 rfl (lv_at hl 0 rfl) ?_
  refine lv_iconst (v := nI 0) hx hb dX11_oneWayRest_1 (by decide) ?_
  refine jn_put (D := (g.1, g.2.1)) (ci := 13) (v := .int (nI 0)) (ty := .int) (C := RX11) (T := TX11) (N := 30) hx hb hts iX11 tyX11 tyX11_ok nmX11 hown hK.1 hP hD hS 0 (gM0 g σ tl) rfl 0 (by decide) k1 (fun _ h9 => h9) rfl (by decide +kernel) rfl rfl (Nat.le_of_ble_eq_true rfl) (uM_F0 g σ tl 0) dX11_oneWayRest_2 (fun H locs hP hD hS => ?_)
  refine lv_aload_n hx hb dX11_oneWayRest_5 rfl (lv_at hl 0 rfl) ?_
  refine vp_callSi (va_Run.run (va_runV (As := []) (rest := []) ⟨hx, hb, hml, hown, hts⟩ (c_X11_isDeterministic l g tl (sF σ 0 0) hT) (cwV 0 hts gX11_oneWayRest_X11_isDeterministic rfl rfl rfl (by decide +kernel) ⟨Nat.le_of_ble_eq_true rfl, Nat.le_of_ble_eq_true rfl⟩) (okPV hK hP rfl (gM0 g (sF σ 0 0) tl)) rfl rfl hl.1 rfl (lv_room (Nat.le_of_ble_eq_true rfl)) dX11_oneWayRest_6 ⟨Nat.le_of_ble_eq_true rfl, Nat.le_of_ble_eq_true rfl⟩)) (fun r_6 h_6 => ?_)
  have h_6 : r_6 = (nI (if detT (σ.2.1 0) then 1 else 0)) := h_6
  subst h_6
  refine jn_bne hx hb (tgt := 18) dX11_oneWayRest_9 (by decide) (fun c_9 => ?_) (fun c_9 => ?_)
  · refine lv_aload_n hx hb dX11_oneWayRest_18 rfl (lv_at hl 0 rfl) ?_
    refine lv_aload_n hx hb dX11_oneWayRest_19 rfl (lv_at hl 0 rfl) ?_
    refine va_get (D := (g.1, g.2.1)) (ci := 13) (v := .ref (g.2.2.2 6)) (C := RX11) (T := TX11) (N := 30) hx hb hts iX11 hown hK.1 hP 0 (gM0 g (sF σ 0 0) tl) rfl 11 (by decide) k45 (fun _ h9 => h9) rfl dX11_oneWayRest_20 ?_
    refine lv_aload_n hx hb dX11_oneWayRest_23 rfl (lv_at hl 0 rfl) ?_
    refine va_get (D := (g.1, g.2.1)) (ci := 13) (v := .int (nI (σ.1 6))) (C := RX11) (T := TX11) (N := 30) hx hb hts iX11 hown hK.1 hP 0 (gM0 g (sF σ 0 0) tl) rfl 13 (by decide) k51 (fun _ h9 => h9) rfl dX11_oneWayRest_24 ?_
    refine jn_callv (va_runV (As := [.ref (g.2.2.2 6), .int (nI (σ.1 6))]) (rest := []) ⟨hx, hb, hml, hown, hts⟩ (c_X11_goesOneWay_6 l g tl H.size (sF σ 0 0) (σ.1 6) hT c_9 hn hw) (cwV 2 hts gX11_oneWayRest_X11_goesOneWay rfl rfl rfl (by decide +kernel) ⟨Nat.le_of_ble_eq_true rfl, Nat.le_of_ble_eq_true rfl⟩) (okWV hK hP hD rfl (gM0 g (sF σ 0 0) tl)) rfl rfl hl.1 rfl (lv_room (Nat.le_of_ble_eq_true rfl)) dX11_oneWayRest_27 ⟨Nat.le_of_ble_eq_true rfl, Nat.le_of_ble_eq_true rfl⟩) hD hS hAA (fun u H locs hw_ hP hD hS => ?_)
    obtain ⟨j2_27, r2_27, e2_27, f2_27⟩ := u
    have h_27 := hw_
    have h_27 : ((2 ^ e2_27, r2_27, j2_27) = owV (σ.2.1 0) 1 (wl (σ.2.1 5) (σ.1 6)) 0 0) ∧ (e2_27 < 5) ∧ (r2_27 ≤ 8 ∧ j2_27 ≤ 8) := h_27
    have hP : va_P (g.1, g.2.1) vwCl (wM g (sA (sF (sF (sF (sF σ 0 0) 7 j2_27) 8 r2_27) 9 e2_27) 9 f2_27) ++ tl) H := hP
    have hD : va_D A (wM g (sA (sF (sF (sF (sF σ 0 0) 7 j2_27) 8 r2_27) 9 e2_27) 9 f2_27) ++ tl) := hD
    refine lv_aload_n hx hb dX11_oneWayRest_30 rfl (lv_at hl 0 rfl) ?_
    refine va_get (D := (g.1, g.2.1)) (ci := 13) (v := .int (nI r2_27)) (C := RX11) (T := TX11) (N := 30) hx hb hts iX11 hown hK.1 hP 0 (gM0 g (sA (sF (sF (sF (sF σ 0 0) 7 j2_27) 8 r2_27) 9 e2_27) 9 f2_27) tl) rfl 18 (by decide) k66 (fun _ h9 => h9) rfl dX11_oneWayRest_31 ?_
    exact hq _ _ _ _ ((nI r2_27)) (_, 0, j2_27, r2_27, e2_27, f2_27) dX11_oneWayRest_34 ⟨rfl, (Or.inr ⟨c_9, rfl, by rw [← h_27.1]⟩)⟩ hP hD hS
  · refine lv_aload_n hx hb dX11_oneWayRest_12 rfl (lv_at hl 0 rfl) ?_
    refine lv_iconst (v := nI 1) hx hb dX11_oneWayRest_13 (by decide) ?_
    refine jn_calli (va_runV (As := [.int (nI 1)]) (rest := []) ⟨hx, hb, hml, hown, hts⟩ (c_X11_fails l g tl H.size (sF σ 0 0) 1) (cwV 1 hts gX11_oneWayRest_X11_fails rfl rfl rfl (by decide +kernel) ⟨Nat.le_of_ble_eq_true rfl, Nat.le_of_ble_eq_true rfl⟩) (okWV hK hP hD rfl (gM0 g (sF σ 0 0) tl)) rfl rfl hl.1 rfl (lv_room (Nat.le_of_ble_eq_true rfl)) dX11_oneWayRest_14 ⟨Nat.le_of_ble_eq_true rfl, Nat.le_of_ble_eq_true rfl⟩) hD hS hAA (fun r_14 u H locs hw_ hP hD hS => ?_)
    obtain rfl := hw_
    have hP : va_P (g.1, g.2.1) vwCl (wM g (sF (sF σ 0 0) 0 1) ++ tl) H := hP
    have hD : va_D A (wM g (sF (sF σ 0 0) 0 1) ++ tl) := hD
    exact hq _ _ _ _ ((nI 0)) (0, 1, (σ.1 7), (σ.1 8), (σ.1 9), (σ.2.1 9)) dX11_oneWayRest_17 ⟨rfl, (Or.inl ⟨c_9, rfl⟩)⟩ hP hD hS
