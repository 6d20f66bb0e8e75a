abbrev r_c_X9_clearRow_33 : Room := { frames := 0, cells := 0, slots := 0, locals := 0 }
set_option maxHeartbeats 4000000 in
set_option maxRecDepth 100000 in
theorem c_X9_clearRow_33 (l : Launch) (g : GC) (tl : va_W) (sz : Nat) (σ : SS) : Met l yX9_clearRow wsX9_clearRow r_c_X9_clearRow_33 (va_Pc [.ref (g.2.2.2 33)] (PW g (wC g σ ++ tl) sz)) (va_Qv (fun (f : (Nat → Nat)) => ∀ k, k < 32 → f k = 0) (fun (f : (Nat → Nat)) t => BW g (va_A (wC g σ ++ tl) sz) (wC g (sL σ 0 f) ++ tl) t) (va_A (wC g σ ++ tl) sz)) 0 0 (va_A (wC g σ ++ tl) sz) := by
  refine jn_sv (wf := fun f : (Nat → Nat) => wC g (sL σ 0 f) ++ tl) (cc := cX9_clearRow) (maxL := 2) (own := RX9) (by decide) rfl rfl (Nat.le_of_ble_eq_true rfl) ?_
  intro p e s m below meth c Q A hx hb hml hown hts hK hP hD hS hAA hq ls hl
  obtain ⟨H, eH⟩ : ∃ z, z = s.heap := ⟨_, rfl⟩
  obtain ⟨locs, el⟩ : ∃ z : List Loc, z = [] := ⟨_, rfl⟩
  rw [← eH] at hP
  have hS : va_S A s.heap H locs := by rw [eH, el]; exact hS
  have goal0 : W p l e r_c_X9_clearRow_33 s m ([.ref (g.2.2.2 33)] : List Value).toArray below meth c H locs 0 0 Q (F0 m 0 ls []) → W p l e r_c_X9_clearRow_33 s m ([.ref (g.2.2.2 33)] : List Value).toArray below meth c s.heap [] 0 0 Q (F0 m 0 ls []) := fun h => by rw [eH, el] at h; exact h
  refine goal0 ?_
  have hl : lv_has ls 2 [(0, .ref (g.2.2.2 33))] := hl
  refine lv_iconst (v := nI 0) hx hb dX9_clearRow_0 (by decide) ?_
  refine lv_istore_n (lv' := [(1, .int (nI 0)), (0, .ref (g.2.2.2 33))]) hx hb dX9_clearRow_1 rfl hl (by decide) rfl (fun ls hl => ?_)
  have lp2 : ∀ (fu : Nat), ∀ (i : Nat) (f : Nat → Nat), (i ≤ 32) → (∀ k, k < i → f k = 0) → 32 - i < fu → ∀ (H : Heap) (locs : List Loc), va_P (g.1, g.2.1) vwCl (wC g (sL σ 0 f) ++ tl) H → va_D A (wC g (sL σ 0 f) ++ tl) → va_S A s.heap H locs → ∀ ls : Array Slot, lv_has ls 2 [(0, .ref (g.2.2.2 33)), (1, .int (nI i))] → W p l e r_c_X9_clearRow_33 s m ([.ref (g.2.2.2 33)] : List Value).toArray below meth c H locs 0 0 Q (F0 m 2 ls []) := by
    intro fu
    induction fu with
    | zero => intro i f h1 h2 hf; exact absurd hf (Nat.not_lt_zero _)
    | succ fu ih2 =>
      intro i f h1 h2 hf H locs hP hD hS ls hl
      refine lv_iload_n hx hb dX9_clearRow_2 rfl (lv_at hl 1 rfl) ?_
      refine lv_aload_n hx hb dX9_clearRow_3 rfl (lv_at hl 0 rfl) ?_
      refine va_alen hx hb hK.1 hP 33 1 (gC33 g (sL σ 0 f) tl) rfl (v := nI 32) rfl dX9_clearRow_4 ?_
      refine jn_cge hx hb (by omega) (by decide) (tgt := 18) dX9_clearRow_5 (by decide) (fun c_5 => ?_) (fun c_5 => ?_)
      · exact hq _ _ _ _ (f) dX9_clearRow_18 (fun k hk => h2 k (by omega)) hP hD hS
      · refine lv_aload_n hx hb dX9_clearRow_8 rfl (lv_at hl 0 rfl) ?_
        refine lv_iload_n hx hb dX9_clearRow_9 rfl (lv_at hl 1 rfl) ?_
        refine lv_lconst (v := lN 0) hx hb dX9_clearRow_10 (by decide) ?_
        refine jn_last (f := f) hx hb hK.1 hP hD hS 33 1 (gC33 g (sL σ 0 f) tl) rfl (by omega) (Nat.le_of_ble_eq_true rfl) (uC_L0 g (sL σ 0 f) tl _) dX9_clearRow_11 (fun H locs hP hD hS => ?_)
        refine lv_iinc (v := nI (i + 1)) (lv' := [(1, .int (nI (i + 1))), (0, .ref (g.2.2.2 33))]) hx hb dX9_clearRow_12 hl (k := 1) rfl (jn_ii _ 1) (by decide) rfl (fun ls hl => ?_)
        refine lv_goto (tgt := 2) hx hb dX9_clearRow_15 (by decide) ?_
        exact ih2 (i + 1) (va_up f i 0) (by omega) (fun k hk => by unfold va_up; split <;> first | rfl | exact h2 k (by omega)) (by omega) _ _ hP hD hS _ (lv_sub hl [1, 0] rfl)
  exact lp2 _ 0 (σ.2.2 0) (by decide) (fun k hk => absurd hk (by omega)) (Nat.lt_succ_self _) _ _ hP hD hS _ (lv_sub hl [1, 0] rfl)

abbrev r_c_X9_clearRow_34 : Room := { frames := 0, cells := 0, slots := 0, locals := 0 }
set_option maxHeartbeats 4000000 in
set_option maxRecDepth 100000 in
theorem c_X9_clearRow_34 (l : Launch) (g : GC) (tl : va_W) (sz : Nat) (σ : SS) : Met l yX9_clearRow wsX9_clearRow r_c_X9_clearRow_34 (va_Pc [.ref (g.2.2.2 34)] (PW g (wC g σ ++ tl) sz)) (va_Qv (fun (f : (Nat → Nat)) => ∀ k, k < 32 → f k = 0) (fun (f : (Nat → Nat)) t => BW g (va_A (wC g σ ++ tl) sz) (wC g (sL σ 1 f) ++ tl) t) (va_A (wC g σ ++ tl) sz)) 0 0 (va_A (wC g σ ++ tl) sz) := by
  refine jn_sv (wf := fun f : (Nat → Nat) => wC g (sL σ 1 f) ++ tl) (cc := cX9_clearRow) (maxL := 2) (own := RX9) (by decide) rfl rfl (Nat.le_of_ble_eq_true rfl) ?_
  intro p e s m below meth c Q A hx hb hml hown hts hK hP hD hS hAA hq ls hl
  obtain ⟨H, eH⟩ : ∃ z, z = s.heap := ⟨_, rfl⟩
  obtain ⟨locs, el⟩ : ∃ z : List Loc, z = [] := ⟨_, rfl⟩
  rw [← eH] at hP
  have hS : va_S A s.heap H locs := by rw [eH, el]; exact hS
  have goal0 : W p l e r_c_X9_clearRow_34 s m ([.ref (g.2.2.2 34)] : List Value).toArray below meth c H locs 0 0 Q (F0 m 0 ls []) → W p l e r_c_X9_clearRow_34 s m ([.ref (g.2.2.2 34)] : List Value).toArray below meth c s.heap [] 0 0 Q (F0 m 0 ls []) := fun h => by rw [eH, el] at h; exact h
  refine goal0 ?_
  have hl : lv_has ls 2 [(0, .ref (g.2.2.2 34))] := hl
  refine lv_iconst (v := nI 0) hx hb dX9_clearRow_0 (by decide) ?_
  refine lv_istore_n (lv' := [(1, .int (nI 0)), (0, .ref (g.2.2.2 34))]) hx hb dX9_clearRow_1 rfl hl (by decide) rfl (fun ls hl => ?_)
  have lp2 : ∀ (fu : Nat), ∀ (i : Nat) (f : Nat → Nat), (i ≤ 32) → (∀ k, k < i → f k = 0) → 32 - i < fu → ∀ (H : Heap) (locs : List Loc), va_P (g.1, g.2.1) vwCl (wC g (sL σ 1 f) ++ tl) H → va_D A (wC g (sL σ 1 f) ++ tl) → va_S A s.heap H locs → ∀ ls : Array Slot, lv_has ls 2 [(0, .ref (g.2.2.2 34)), (1, .int (nI i))] → W p l e r_c_X9_clearRow_34 s m ([.ref (g.2.2.2 34)] : List Value).toArray below meth c H locs 0 0 Q (F0 m 2 ls []) := by
    intro fu
    induction fu with
    | zero => intro i f h1 h2 hf; exact absurd hf (Nat.not_lt_zero _)
    | succ fu ih2 =>
      intro i f h1 h2 hf H locs hP hD hS ls hl
      refine lv_iload_n hx hb dX9_clearRow_2 rfl (lv_at hl 1 rfl) ?_
      refine lv_aload_n hx hb dX9_clearRow_3 rfl (lv_at hl 0 rfl) ?_
      refine va_alen hx hb hK.1 hP 34 1 (gC34 g (sL σ 1 f) tl) rfl (v := nI 32) rfl dX9_clearRow_4 ?_
      refine jn_cge hx hb (by omega) (by decide) (tgt := 18) dX9_clearRow_5 (by decide) (fun c_5 => ?_) (fun c_5 => ?_)
      · exact hq _ _ _ _ (f) dX9_clearRow_18 (fun k hk => h2 k (by omega)) hP hD hS
      · refine lv_aload_n hx hb dX9_clearRow_8 rfl (lv_at hl 0 rfl) ?_
        refine lv_iload_n hx hb dX9_clearRow_9 rfl (lv_at hl 1 rfl) ?_
        refine lv_lconst (v := lN 0) hx hb dX9_clearRow_10 (by decide) ?_
        refine jn_last (f := f) hx hb hK.1 hP hD hS 34 1 (gC34 g (sL σ 1 f) tl) rfl (by omega) (Nat.le_of_ble_eq_true rfl) (uC_L1 g (sL σ 1 f) tl _) dX9_clearRow_11 (fun H locs hP hD hS => ?_)
        refine lv_iinc (v := nI (i + 1)) (lv' := [(1, .int (nI (i + 1))), (0, .ref (g.2.2.2 34))]) hx hb dX9_clearRow_12 hl (k := 1) rfl (jn_ii _ 1) (by decide) rfl (fun ls hl => ?_)
        refine lv_goto (tgt := 2) hx hb dX9_clearRow_15 (by decide) ?_
        exact ih2 (i + 1) (va_up f i 0) (by omega) (fun k hk => by unfold va_up; split <;> first | rfl | exact h2 k (by omega)) (by omega) _ _ hP hD hS _ (lv_sub hl [1, 0] rfl)
  exact lp2 _ 0 (σ.2.2 1) (by decide) (fun k hk => absurd hk (by omega)) (Nat.lt_succ_self _) _ _ hP hD hS _ (lv_sub hl [1, 0] rfl)

abbrev r_c_X9_countRuns : Room := { frames := 2, cells := 0, slots := 0, locals := 64 }
set_option maxHeartbeats 4000000 in
set_option maxRecDepth 100000 in
theorem c_X9_countRuns (l : Launch) (g : GC) (tl : va_W) (sz : Nat) (σ : SS) (n : Nat) (hA : OkA σ) (hn : n ≤ 8) (hw : ∀ i, i < n → (σ.2.1 14) i < 3) : Met l yX9_countRuns wsX9_countRuns r_c_X9_countRuns (va_Pc [.ref (g.2.2.2 30), .ref (g.2.2.2 1), .ref (g.2.2.2 20), .int (nI n)] (PW g (wC g σ ++ tl) sz)) (va_Ql (fun (r : Int64) (z : (Nat → Nat) × (Nat → Nat)) => match z with | (f, g1) => r = lN (fb_sm (fun q => if 2 ^ q &&& (σ.1 0) ≠ 0 then rn (σ.2.1 0) (σ.2.1 14) n q else 0) 5)) (fun (z : (Nat → Nat) × (Nat → Nat)) t => BW g (va_A (wC g σ ++ tl) sz) ((fun z : (Nat → Nat) × (Nat → Nat) => match z with | (f, g1) => wC g (sL (sL σ 0 f) 1 g1) ++ tl) z) t) (va_A (wC g σ ++ tl) sz)) 0 0 (va_A (wC g σ ++ tl) sz) := by
  refine jn_sl (wf := fun z : (Nat → Nat) × (Nat → Nat) => match z with | (f, g1) => wC g (sL (sL σ 0 f) 1 g1) ++ tl) (cc := cX9_countRuns) (maxL := 8) (own := RX9) (by decide) rfl rfl (Nat.le_of_ble_eq_true rfl) ?_
  intro p e s m below meth c Q A hx hb hml hown hts hK hP hD hS hAA hq ls hl
  obtain ⟨H, eH⟩ : ∃ z, z = s.heap := ⟨_, rfl⟩
  obtain ⟨locs, el⟩ : ∃ z : List Loc, z = [] := ⟨_, rfl⟩
  rw [← eH] at hP
  have hS : va_S A s.heap H locs := by rw [eH, el]; exact hS
  have goal0 : W p l e r_c_X9_countRuns s m ([.ref (g.2.2.2 30), .ref (g.2.2.2 1), .ref (g.2.2.2 20), .int (nI n)] : List Value).toArray below meth c H locs 0 0 Q (F0 m 0 ls []) → W p l e r_c_X9_countRuns s m ([.ref (g.2.2.2 30), .ref (g.2.2.2 1), .ref (g.2.2.2 20), .int (nI n)] : List Value).toArray below meth c s.heap [] 0 0 Q (F0 m 0 ls []) := fun h => by rw [eH, el] at h; exact h
  refine goal0 ?_
  have hl : lv_has ls 8 [(0, .ref (g.2.2.2 30)), (1, .ref (g.2.2.2 1)), (2, .ref (g.2.2.2 20)), (3, .int (nI n))] := hl
  have iX9 : ∀ w ∈ wsX90, w ∈ wsX9_countRuns := by decide +kernel
  have k28 := hts (.fieldLink RX9 28 "JumpingAutomata$WordSearch" "row" "[J") (by decide +kernel)
  have k32 := hts (.fieldLink RX9 32 "JumpingAutomata$WordSearch" "nextRow" "[J") (by decide +kernel)
  refine lv_aload_n hx hb dX9_countRuns_0 rfl (lv_at hl 0 rfl) ?_
  refine va_get (D := (g.1, g.2.1)) (ci := 11) (v := .ref (g.2.2.2 33)) (C := RX9) (T := TX9) (N := 7) hx hb hts iX9 hown hK.1 hP 30 (gC30 g σ tl) rfl 5 (by decide) k28 (fun _ h9 => h9) rfl dX9_countRuns_1 ?_
  refine jn_callv (va_runS (As := [.ref (g.2.2.2 33)]) (rest := []) ⟨hx, hb, hml, hown, hts⟩ (c_X9_clearRow_33 l g tl H.size σ) (va_cwS 1 hts gX9_countRuns_X9_clearRow rfl rfl rfl (by decide +kernel) ⟨Nat.le_of_ble_eq_true rfl, Nat.le_of_ble_eq_true rfl⟩) (okWS hK hP hD) rfl rfl hl.1 rfl (lv_room (Nat.le_of_ble_eq_true rfl)) dX9_countRuns_4 ⟨Nat.le_of_ble_eq_true rfl, Nat.le_of_ble_eq_true rfl⟩) hD hS hAA (fun u H locs hw_ hP hD hS => ?_)
  obtain ⟨f_4, rfl⟩ : ∃ z, z = u := ⟨_, rfl⟩
  have h_4 := hw_
  have h_4 : ∀ k, k < 32 → f_4 k = 0 := h_4
  have hP : va_P (g.1, g.2.1) vwCl (wC g (sL σ 0 f_4) ++ tl) H := hP
  have hD : va_D A (wC g (sL σ 0 f_4) ++ tl) := hD
  refine lv_aload_n hx hb dX9_countRuns_7 rfl (lv_at hl 0 rfl) ?_
  refine va_get (D := (g.1, g.2.1)) (ci := 11) (v := .ref (g.2.2.2 33)) (C := RX9) (T := TX9) (N := 7) hx hb hts iX9 hown hK.1 hP 30 (gC30 g (sL σ 0 f_4) tl) rfl 5 (by decide) k28 (fun _ h9 => h9) rfl dX9_countRuns_8 ?_
  refine lv_iconst (v := nI 0) hx hb dX9_countRuns_11 (by decide) ?_
  refine lv_lconst (v := lN 1) hx hb dX9_countRuns_12 (by decide) ?_
  refine jn_last (f := f_4) hx hb hK.1 hP hD hS 33 1 (gC33 g (sL σ 0 f_4) tl) rfl (by decide) (Nat.le_of_ble_eq_true rfl) (uC_L0 g (sL σ 0 f_4) tl _) dX9_countRuns_13 (fun H locs hP hD hS => ?_)
  refine lv_iconst (v := nI 0) hx hb dX9_countRuns_14 (by decide) ?_
  refine lv_istore (lv' := [(4, .int (nI 0)), (0, .ref (g.2.2.2 30)), (1, .ref (g.2.2.2 1)), (2, .ref (g.2.2.2 20)), (3, .int (nI n))]) hx hb dX9_countRuns_15 hl (by decide) rfl (fun ls hl => ?_)
  have lp17 : ∀ (fu : Nat), ∀ (i : Nat) (f : Nat → Nat) (g1 : Nat → Nat), (i ≤ n) → (∀ q, q < 5 → f q = rn (σ.2.1 0) (σ.2.1 14) i q) → n - i < fu → ∀ (H : Heap) (locs : List Loc), va_P (g.1, g.2.1) vwCl (wC g (sL (sL σ 0 f) 1 g1) ++ tl) H → va_D A (wC g (sL (sL σ 0 f) 1 g1) ++ tl) → va_S A s.heap H locs → ∀ ls : Array Slot, lv_has ls 8 [(0, .ref (g.2.2.2 30)), (1, .ref (g.2.2.2 1)), (2, .ref (g.2.2.2 20)), (3, .int (nI n)), (4, .int (nI i))] → W p l e r_c_X9_countRuns s m ([.ref (g.2.2.2 30), .ref (g.2.2.2 1), .ref (g.2.2.2 20), .int (nI n)] : List Value).toArray below meth c H locs 0 0 Q (F0 m 17 ls []) := by
    intro fu
    induction fu with
    | zero => intro i f g1 h1 h2 hf; exact absurd hf (Nat.not_lt_zero _)
    | succ fu ih17 =>
      intro i f g1 h1 h2 hf H locs hP hD hS ls hl
      refine lv_iload hx hb dX9_countRuns_17 (lv_at hl 4 rfl) ?_
      refine lv_iload_n hx hb dX9_countRuns_19 rfl (lv_at hl 3 rfl) ?_
      refine jn_cge hx hb (by omega) (by omega) (tgt := 131) dX9_countRuns_20 (by decide) (fun c_20 => ?_) (fun c_20 => ?_)
      · refine lv_lconst (v := lN 0) hx hb dX9_countRuns_131 (by decide) ?_
        refine lv_lstore (lv' := [(4, .long (lN 0)), (0, .ref (g.2.2.2 30)), (1, .ref (g.2.2.2 1)), (2, .ref (g.2.2.2 20)), (3, .int (nI n))]) hx hb dX9_countRuns_132 hl (by decide) rfl (fun ls hl => ?_)
        refine lv_iconst (v := nI 0) hx hb dX9_countRuns_134 (by decide) ?_
        refine lv_istore (lv' := [(6, .int (nI 0)), (4, .long (lN 0)), (0, .ref (g.2.2.2 30)), (1, .ref (g.2.2.2 1)), (2, .ref (g.2.2.2 20)), (3, .int (nI n))]) hx hb dX9_countRuns_135 hl (by decide) rfl (fun ls hl => ?_)
        have lp137 : ∀ (fu : Nat), ∀ (q0 : Nat) (z : Nat), (q0 ≤ 5) → (z = fb_sm (fun q => if 2 ^ q &&& (σ.1 0) ≠ 0 then rn (σ.2.1 0) (σ.2.1 14) n q else 0) q0) → 5 - q0 < fu → ∀ (H : Heap) (locs : List Loc), va_P (g.1, g.2.1) vwCl (wC g (sL (sL σ 0 f) 1 g1) ++ tl) H → va_D A (wC g (sL (sL σ 0 f) 1 g1) ++ tl) → va_S A s.heap H locs → ∀ ls : Array Slot, lv_has ls 8 [(0, .ref (g.2.2.2 30)), (1, .ref (g.2.2.2 1)), (2, .ref (g.2.2.2 20)), (3, .int (nI n)), (4, .long (lN z)), (6, .int (nI q0))] → W p l e r_c_X9_countRuns s m ([.ref (g.2.2.2 30), .ref (g.2.2.2 1), .ref (g.2.2.2 20), .int (nI n)] : List Value).toArray below meth c H locs 0 0 Q (F0 m 137 ls []) := by
          intro fu
          induction fu with
          | zero => intro q0 z h5 h6 hf; exact absurd hf (Nat.not_lt_zero _)
          | succ fu ih137 =>
            intro q0 z h5 h6 hf H locs hP hD hS ls hl
            refine lv_iload hx hb dX9_countRuns_137 (lv_at hl 5 rfl) ?_
            refine lv_iconst (v := nI 5) hx hb dX9_countRuns_139 (by decide) ?_
            refine jn_cge hx hb (by omega) (by decide) (tgt := 176) dX9_countRuns_140 (by decide) (fun c_140 => ?_) (fun c_140 => ?_)
            · refine lv_lload hx hb dX9_countRuns_176 (lv_at hl 4 rfl) ?_
              exact hq _ _ _ _ ((lN z)) (f, g1) dX9_countRuns_178 (by rw [h6, show q0 = 5 by omega]) hP hD hS
            · refine lv_lload hx hb dX9_countRuns_143 (lv_at hl 4 rfl) ?_
              refine lv_aload_n hx hb dX9_countRuns_145 rfl (lv_at hl 1 rfl) ?_
              refine lv_iconst (v := nI 1) hx hb dX9_countRuns_146 (by decide) ?_
              refine lv_iload hx hb dX9_countRuns_147 (lv_at hl 5 rfl) ?_
              refine jn_shl1 hx hb (by omega) dX9_countRuns_149 ?_
              refine vp_callSi (va_Run.run (va_runV (As := [.int (nI (2 ^ q0))]) (rest := [.long (lN z)]) ⟨hx, hb, hml, hown, hts⟩ (c_X0_accepting l g tl (sL (sL σ 0 f) 1 g1) (2 ^ q0) hA) (cwV 1 hts gX9_countRuns_X0_accepting rfl rfl rfl (by decide +kernel) ⟨Nat.le_of_ble_eq_true rfl, Nat.le_of_ble_eq_true rfl⟩) (okPV hK hP rfl (gC1 g (sL (sL σ 0 f) 1 g1) tl)) rfl rfl hl.1 rfl (lv_room (Nat.le_of_ble_eq_true rfl)) dX9_countRuns_150 ⟨Nat.le_of_ble_eq_true rfl, Nat.le_of_ble_eq_true rfl⟩)) (fun r_150 h_150 => ?_)
              have h_150 : r_150 = (nI (if (2 ^ q0) &&& σ.1 0 ≠ 0 then 1 else 0)) := h_150
              subst h_150
              have jp167 : ∀ v167 : Nat, v167 = (if 2 ^ q0 &&& (σ.1 0) ≠ 0 then f q0 else 0) → W p l e r_c_X9_countRuns s m ([.ref (g.2.2.2 30), .ref (g.2.2.2 1), .ref (g.2.2.2 20), .int (nI n)] : List Value).toArray below meth c H locs 0 0 Q (F0 m 167 ls [.long (lN v167), .long (lN z)]) := by
                intro v167 ev167
                refine jn_ladd hx hb dX9_countRuns_167 ?_
                refine lv_lstore (lv' := [(4, .long (lN (z + v167))), (0, .ref (g.2.2.2 30)), (1, .ref (g.2.2.2 1)), (2, .ref (g.2.2.2 20)), (3, .int (nI n)), (6, .int (nI q0))]) hx hb dX9_countRuns_168 hl (by decide) rfl (fun ls hl => ?_)
                refine lv_iinc (v := nI (q0 + 1)) (lv' := [(6, .int (nI (q0 + 1))), (4, .long (lN (z + v167))), (0, .ref (g.2.2.2 30)), (1, .ref (g.2.2.2 1)), (2, .ref (g.2.2.2 20)), (3, .int (nI n))]) hx hb dX9_countRuns_170 hl (k := 5) rfl (jn_ii _ 1) (by decide) rfl (fun ls hl => ?_)
                refine lv_goto (tgt := 137) hx hb dX9_countRuns_173 (by decide) ?_
                exact ih137 (q0 + 1) (z + v167) (by omega) (by rw [h6, ev167, h2 q0 (by omega), show i = n by omega]; rfl) (by omega) _ _ hP hD hS _ (lv_sub hl [2, 3, 4, 5, 1, 0] rfl)
              refine jn_beq hx hb (tgt := 166) dX9_countRuns_153 (by decide) (fun c_153 => ?_) (fun c_153 => ?_)
              · refine lv_lconst (v := lN 0) hx hb dX9_countRuns_166 (by decide) ?_
                exact jp167 0 (by rw [if_neg c_153])
              · refine lv_aload_n hx hb dX9_countRuns_156 rfl (lv_at hl 0 rfl) ?_
                refine va_get (D := (g.1, g.2.1)) (ci := 11) (v := .ref (g.2.2.2 33)) (C := RX9) (T := TX9) (N := 7) hx hb hts iX9 hown hK.1 hP 30 (gC30 g (sL (sL σ 0 f) 1 g1) tl) rfl 5 (by decide) k28 (fun _ h9 => h9) rfl dX9_countRuns_157 ?_
                refine lv_iload hx hb dX9_countRuns_160 (lv_at hl 5 rfl) ?_
                refine jn_lald (f := f) hx hb hK.1 hP 33 1 (gC33 g (sL (sL σ 0 f) 1 g1) tl) rfl (by omega) (Nat.le_of_ble_eq_true rfl) dX9_countRuns_162 ?_
                refine lv_goto (tgt := 167) hx hb dX9_countRuns_163 (by decide) ?_
                exact jp167 (f q0) (by rw [if_pos c_153])
        exact lp137 _ 0 0 (by decide) rfl (Nat.lt_succ_self _) _ _ hP hD hS _ (lv_sub hl [2, 3, 4, 5, 1, 0] rfl)
      · refine lv_iload hx hb dX9_countRuns_23 (lv_at hl 4 rfl) ?_
        refine lv_aload_n hx hb dX9_countRuns_25 rfl (lv_at hl 2 rfl) ?_
        refine va_alen hx hb hK.1 hP 20 0 (gC20 g (sL (sL σ 0 f) 1 g1) tl) rfl (v := nI 8) rfl dX9_countRuns_26 ?_
        refine jn_cge hx hb (by omega) (by decide) (tgt := 131) dX9_countRuns_27 (by decide) (fun c_27 => ?_) (fun c_27 => ?_)
        · refine lv_lconst (v := lN 0) hx hb dX9_countRuns_131 (by decide) ?_
          refine lv_lstore (lv' := [(4, .long (lN 0)), (0, .ref (g.2.2.2 30)), (1, .ref (g.2.2.2 1)), (2, .ref (g.2.2.2 20)), (3, .int (nI n))]) hx hb dX9_countRuns_132 hl (by decide) rfl (fun ls hl => ?_)
          refine lv_iconst (v := nI 0) hx hb dX9_countRuns_134 (by decide) ?_
          refine lv_istore (lv' := [(6, .int (nI 0)), (4, .long (lN 0)), (0, .ref (g.2.2.2 30)), (1, .ref (g.2.2.2 1)), (2, .ref (g.2.2.2 20)), (3, .int (nI n))]) hx hb dX9_countRuns_135 hl (by decide) rfl (fun ls hl => ?_)
          have lp137 : ∀ (fu : Nat), ∀ (q0 : Nat) (z : Nat), (q0 ≤ 5) → (z = fb_sm (fun q => if 2 ^ q &&& (σ.1 0) ≠ 0 then rn (σ.2.1 0) (σ.2.1 14) n q else 0) q0) → 5 - q0 < fu → ∀ (H : Heap) (locs : List Loc), va_P (g.1, g.2.1) vwCl (wC g (sL (sL σ 0 f) 1 g1) ++ tl) H → va_D A (wC g (sL (sL σ 0 f) 1 g1) ++ tl) → va_S A s.heap H locs → ∀ ls : Array Slot, lv_has ls 8 [(0, .ref (g.2.2.2 30)), (1, .ref (g.2.2.2 1)), (2, .ref (g.2.2.2 20)), (3, .int (nI n)), (4, .long (lN z)), (6, .int (nI q0))] → W p l e r_c_X9_countRuns s m ([.ref (g.2.2.2 30), .ref (g.2.2.2 1), .ref (g.2.2.2 20), .int (nI n)] : List Value).toArray below meth c H locs 0 0 Q (F0 m 137 ls []) := by
            intro fu
            induction fu with
            | zero => intro q0 z h5 h6 hf; exact absurd hf (Nat.not_lt_zero _)
            | succ fu ih137 =>
              intro q0 z h5 h6 hf H locs hP hD hS ls hl
              refine lv_iload hx hb dX9_countRuns_137 (lv_at hl 5 rfl) ?_
              refine lv_iconst (v := nI 5) hx hb dX9_countRuns_139 (by decide) ?_
              refine jn_cge hx hb (by omega) (by decide) (tgt := 176) dX9_countRuns_140 (by decide) (fun c_140 => ?_) (fun c_140 => ?_)
              · refine lv_lload hx hb dX9_countRuns_176 (lv_at hl 4 rfl) ?_
                exact hq _ _ _ _ ((lN z)) (f, g1) dX9_countRuns_178 (by rw [h6, show q0 = 5 by omega]) hP hD hS
              · refine lv_lload hx hb dX9_countRuns_143 (lv_at hl 4 rfl) ?_
                refine lv_aload_n hx hb dX9_countRuns_145 rfl (lv_at hl 1 rfl) ?_
                refine lv_iconst (v := nI 1) hx hb dX9_countRuns_146 (by decide) ?_
                refine lv_iload hx hb dX9_countRuns_147 (lv_at hl 5 rfl) ?_
                refine jn_shl1 hx hb (by omega) dX9_countRuns_149 ?_
                refine vp_callSi (va_Run.run (va_runV (As := [.int (nI (2 ^ q0))]) (rest := [.long (lN z)]) ⟨hx, hb, hml, hown, hts⟩ (c_X0_accepting l g tl (sL (sL σ 0 f) 1 g1) (2 ^ q0) hA) (cwV 1 hts gX9_countRuns_X0_accepting rfl rfl rfl (by decide +kernel) ⟨Nat.le_of_ble_eq_true rfl, Nat.le_of_ble_eq_true rfl⟩) (okPV hK hP rfl (gC1 g (sL (sL σ 0 f) 1 g1) tl)) rfl rfl hl.1 rfl (lv_room (Nat.le_of_ble_eq_true rfl)) dX9_countRuns_150 ⟨Nat.le_of_ble_eq_true rfl, Nat.le_of_ble_eq_true rfl⟩)) (fun r_150 h_150 => ?_)
                have h_150 : r_150 = (nI (if (2 ^ q0) &&& σ.1 0 ≠ 0 then 1 else 0)) := h_150
                subst h_150
                have jp167 : ∀ v167 : Nat, v167 = (if 2 ^ q0 &&& (σ.1 0) ≠ 0 then f q0 else 0) → W p l e r_c_X9_countRuns s m ([.ref (g.2.2.2 30), .ref (g.2.2.2 1), .ref (g.2.2.2 20), .int (nI n)] : List Value).toArray below meth c H locs 0 0 Q (F0 m 167 ls [.long (lN v167), .long (lN z)]) := by
                  intro v167 ev167
                  refine jn_ladd hx hb dX9_countRuns_167 ?_
                  refine lv_lstore (lv' := [(4, .long (lN (z + v167))), (0, .ref (g.2.2.2 30)), (1, .ref (g.2.2.2 1)), (2, .ref (g.2.2.2 20)), (3, .int (nI n)), (6, .int (nI q0))]) hx hb dX9_countRuns_168 hl (by decide) rfl (fun ls hl => ?_)
                  refine lv_iinc (v := nI (q0 + 1)) (lv' := [(6, .int (nI (q0 + 1))), (4, .long (lN (z + v167))), (0, .ref (g.2.2.2 30)), (1, .ref (g.2.2.2 1)), (2, .ref (g.2.2.2 20)), (3, .int (nI n))]) hx hb dX9_countRuns_170 hl (k := 5) rfl (jn_ii _ 1) (by decide) rfl (fun ls hl => ?_)
                  refine lv_goto (tgt := 137) hx hb dX9_countRuns_173 (by decide) ?_
                  exact ih137 (q0 + 1) (z + v167) (by omega) (by rw [h6, ev167, h2 q0 (by omega), show i = n by omega]; rfl) (by omega) _ _ hP hD hS _ (lv_sub hl [2, 3, 4, 5, 1, 0] rfl)
                refine jn_beq hx hb (tgt := 166) dX9_countRuns_153 (by decide) (fun c_153 => ?_) (fun c_153 => ?_)
                · refine lv_lconst (v := lN 0) hx hb dX9_countRuns_166 (by decide) ?_
                  exact jp167 0 (by rw [if_neg c_153])
                · refine lv_aload_n hx hb dX9_countRuns_156 rfl (lv_at hl 0 rfl) ?_
                  refine va_get (D := (g.1, g.2.1)) (ci := 11) (v := .ref (g.2.2.2 33)) (C := RX9) (T := TX9) (N := 7) hx hb hts iX9 hown hK.1 hP 30 (gC30 g (sL (sL σ 0 f) 1 g1) tl) rfl 5 (by decide) k28 (fun _ h9 => h9) rfl dX9_countRuns_157 ?_
                  refine lv_iload hx hb dX9_countRuns_160 (lv_at hl 5 rfl) ?_
                  refine jn_lald (f := f) hx hb hK.1 hP 33 1 (gC33 g (sL (sL σ 0 f) 1 g1) tl) rfl (by omega) (Nat.le_of_ble_eq_true rfl) dX9_countRuns_162 ?_
                  refine lv_goto (tgt := 167) hx hb dX9_countRuns_163 (by decide) ?_
                  exact jp167 (f q0) (by rw [if_pos c_153])
          exact lp137 _ 0 0 (by decide) rfl (Nat.lt_succ_self _) _ _ hP hD hS _ (lv_sub hl [2, 3, 4, 5, 1, 0] rfl)
        · refine lv_aload_n hx hb dX9_countRuns_30 rfl (lv_at hl 0 rfl) ?_
          refine va_get (D := (g.1, g.2.1)) (ci := 11) (v := .ref (g.2.2.2 34)) (C := RX9) (T := TX9) (N := 7) hx hb hts iX9 hown hK.1 hP 30 (gC30 g (sL (sL σ 0 f) 1 g1) tl) rfl 6 (by decide) k32 (fun _ h9 => h9) rfl dX9_countRuns_31 ?_
          refine jn_callv (va_runS (As := [.ref (g.2.2.2 34)]) (rest := []) ⟨hx, hb, hml, hown, hts⟩ (c_X9_clearRow_34 l g tl H.size (sL (sL σ 0 f) 1 g1)) (va_cwS 1 hts gX9_countRuns_X9_clearRow rfl rfl rfl (by decide +kernel) ⟨Nat.le_of_ble_eq_true rfl, Nat.le_of_ble_eq_true rfl⟩) (okWS hK hP hD) rfl rfl hl.1 rfl (lv_room (Nat.le_of_ble_eq_true rfl)) dX9_countRuns_34 ⟨Nat.le_of_ble_eq_true rfl, Nat.le_of_ble_eq_true rfl⟩) hD hS hAA (fun u H locs hw_ hP hD hS => ?_)
          obtain ⟨f_34, rfl⟩ : ∃ z, z = u := ⟨_, rfl⟩
          have h_34 := hw_
          have h_34 : ∀ k, k < 32 → f_34 k = 0 := h_34
          have hP : va_P (g.1, g.2.1) vwCl (wC g (sL (sL (sL σ 0 f) 1 g1) 1 f_34) ++ tl) H := hP
          have hD : va_D A (wC g (sL (sL (sL σ 0 f) 1 g1) 1 f_34) ++ tl) := hD
          refine lv_iconst (v := nI 0) hx hb dX9_countRuns_37 (by decide) ?_
          refine lv_istore (lv' := [(5, .int (nI 0)), (0, .ref (g.2.2.2 30)), (1, .ref (g.2.2.2 1)), (2, .ref (g.2.2.2 20)), (3, .int (nI n)), (4, .int (nI i))]) hx hb dX9_countRuns_38 hl (by decide) rfl (fun ls hl => ?_)
          have lp40 : ∀ (fu : Nat), ∀ (p0 : Nat) (g1 : Nat → Nat), (p0 ≤ 5) → (∀ q, q < 5 → g1 q = fb_sm (fun p => if (σ.2.1 0 (p * 3 + σ.2.1 14 i)).testBit q = true then f p else 0) p0) → 5 - p0 < fu → ∀ (H : Heap) (locs : List Loc), va_P (g.1, g.2.1) vwCl (wC g (sL (sL σ 0 f) 1 g1) ++ tl) H → va_D A (wC g (sL (sL σ 0 f) 1 g1) ++ tl) → va_S A s.heap H locs → ∀ ls : Array Slot, lv_has ls 8 [(0, .ref (g.2.2.2 30)), (1, .ref (g.2.2.2 1)), (2, .ref (g.2.2.2 20)), (3, .int (nI n)), (4, .int (nI i)), (5, .int (nI p0))] → W p l e r_c_X9_countRuns s m ([.ref (g.2.2.2 30), .ref (g.2.2.2 1), .ref (g.2.2.2 20), .int (nI n)] : List Value).toArray below meth c H locs 0 0 Q (F0 m 40 ls []) := by
            intro fu
            induction fu with
            | zero => intro p0 g1 h3 h4 hf; exact absurd hf (Nat.not_lt_zero _)
            | succ fu ih40 =>
              intro p0 g1 h3 h4 hf H locs hP hD hS ls hl
              refine lv_iload hx hb dX9_countRuns_40 (lv_at hl 5 rfl) ?_
              refine lv_iconst (v := nI 5) hx hb dX9_countRuns_42 (by decide) ?_
              refine jn_cge hx hb (by omega) (by decide) (tgt := 110) dX9_countRuns_43 (by decide) (fun c_43 => ?_) (fun c_43 => ?_)
              · refine lv_aload_n hx hb dX9_countRuns_110 rfl (lv_at hl 0 rfl) ?_
                refine va_get (D := (g.1, g.2.1)) (ci := 11) (v := .ref (g.2.2.2 34)) (C := RX9) (T := TX9) (N := 7) hx hb hts iX9 hown hK.1 hP 30 (gC30 g (sL (sL σ 0 f) 1 g1) tl) rfl 6 (by decide) k32 (fun _ h9 => h9) rfl dX9_countRuns_111 ?_
                refine lv_iconst (v := nI 0) hx hb dX9_countRuns_114 (by decide) ?_
                refine lv_aload_n hx hb dX9_countRuns_115 rfl (lv_at hl 0 rfl) ?_
                refine va_get (D := (g.1, g.2.1)) (ci := 11) (v := .ref (g.2.2.2 33)) (C := RX9) (T := TX9) (N := 7) hx hb hts iX9 hown hK.1 hP 30 (gC30 g (sL (sL σ 0 f) 1 g1) tl) rfl 5 (by decide) k28 (fun _ h9 => h9) rfl dX9_countRuns_116 ?_
                refine lv_iconst (v := nI 0) hx hb dX9_countRuns_119 (by decide) ?_
                refine lv_bipush (v := nI 32) hx hb dX9_countRuns_120 (by decide) ?_
                refine jn_copyl (f := g1) (f2 := f) hx hb (hml.trans hl.1.symm) hown (hts (.methodLink RX9 45 arraycopyName) (by decide +kernel)) (hts (.native arraycopyName) (by decide +kernel)) (hts (.static arraycopyName) (by decide +kernel)) (hts (.initialized "java/lang/System") (by decide +kernel)) hK.1 hP hD hS 34 33 1 1 (gC34 g (sL (sL σ 0 f) 1 g1) tl) (gC33 g (sL (sL σ 0 f) 1 g1) tl) rfl rfl (by decide) (by decide) (by decide) (by decide) (by decide) (Nat.le_of_ble_eq_true rfl) (Nat.le_of_ble_eq_true rfl) (uC_L0 g (sL (sL σ 0 f) 1 g1) tl _) dX9_countRuns_122 (fun H locs hP hD hS => ?_)
                refine lv_iinc (v := nI (i + 1)) (lv' := [(4, .int (nI (i + 1))), (0, .ref (g.2.2.2 30)), (1, .ref (g.2.2.2 1)), (2, .ref (g.2.2.2 20)), (3, .int (nI n)), (5, .int (nI p0))]) hx hb dX9_countRuns_125 hl (k := 4) rfl (jn_ii _ 1) (by decide) rfl (fun ls hl => ?_)
                refine lv_goto (tgt := 17) hx hb dX9_countRuns_128 (by decide) ?_
                exact ih17 (i + 1) (va_cpy g1 f 0 0 32) g1 (by omega) (fun q hq => by rw [pk_cpy_in (by omega) (by omega), show 0 + (q - 0) = q by omega, h4 q hq, rn, show p0 = 5 by omega]; exact fb_sm_cong fun p hp => by rw [h2 p hp]) (by omega) _ _ hP hD hS _ (lv_sub hl [1, 2, 3, 4, 0] rfl)
              · refine lv_aload_n hx hb dX9_countRuns_46 rfl (lv_at hl 1 rfl) ?_
                refine lv_iload hx hb dX9_countRuns_47 (lv_at hl 5 rfl) ?_
                refine lv_aload_n hx hb dX9_countRuns_49 rfl (lv_at hl 2 rfl) ?_
                refine lv_iload hx hb dX9_countRuns_50 (lv_at hl 4 rfl) ?_
                refine jn_iald (f := σ.2.1 14) hx hb hK.1 hP 20 0 (gC20 g (sL (sL σ 0 f) 1 g1) tl) rfl (by omega) (Nat.le_of_ble_eq_true rfl) dX9_countRuns_52 ?_
                refine vp_callSi (va_Run.run (va_runV (As := [.int (nI p0), .int (nI ((σ.2.1 14) i))]) (rest := []) ⟨hx, hb, hml, hown, hts⟩ (c_X0_targetsOf l g tl (sL (sL σ 0 f) 1 g1) p0 ((σ.2.1 14) i) hA (by omega) (hw i (by omega))) (cwV 2 hts gX9_countRuns_X0_targetsOf rfl rfl rfl (by decide +kernel) ⟨Nat.le_of_ble_eq_true rfl, Nat.le_of_ble_eq_true rfl⟩) (okPV hK hP rfl (gC1 g (sL (sL σ 0 f) 1 g1) tl)) rfl rfl hl.1 rfl (lv_room (Nat.le_of_ble_eq_true rfl)) dX9_countRuns_53 ⟨Nat.le_of_ble_eq_true rfl, Nat.le_of_ble_eq_true rfl⟩)) (fun r_53 h_53 => ?_)
                have h_53 : r_53 = (nI (σ.2.1 0 (p0 * 3 + ((σ.2.1 14) i)))) := h_53
                subst h_53
                have t32 := hA.1 (p0 * 3 + σ.2.1 14 i) (by have := hw i (by omega); omega)
                refine lv_istore (lv' := [(6, .int (nI (σ.2.1 0 (p0 * 3 + ((σ.2.1 14) i))))), (0, .ref (g.2.2.2 30)), (1, .ref (g.2.2.2 1)), (2, .ref (g.2.2.2 20)), (3, .int (nI n)), (4, .int (nI i)), (5, .int (nI p0))]) hx hb dX9_countRuns_56 hl (by decide) rfl (fun ls hl => ?_)
                refine lv_iconst (v := nI 0) hx hb dX9_countRuns_58 (by decide) ?_
                refine lv_istore (lv' := [(7, .int (nI 0)), (6, .int (nI (σ.2.1 0 (p0 * 3 + ((σ.2.1 14) i))))), (0, .ref (g.2.2.2 30)), (1, .ref (g.2.2.2 1)), (2, .ref (g.2.2.2 20)), (3, .int (nI n)), (4, .int (nI i)), (5, .int (nI p0))]) hx hb dX9_countRuns_59 hl (by decide) rfl (fun ls hl => ?_)
                have lp61 : ∀ (fu : Nat), ∀ (q0 : Nat) (g1 : Nat → Nat), (q0 ≤ 5) → (∀ q, q < 5 → g1 q = fb_sm (fun p => if (σ.2.1 0 (p * 3 + σ.2.1 14 i)).testBit q = true then f p else 0) (if q < q0 then p0 + 1 else p0)) → 5 - q0 < fu → ∀ (H : Heap) (locs : List Loc), va_P (g.1, g.2.1) vwCl (wC g (sL (sL σ 0 f) 1 g1) ++ tl) H → va_D A (wC g (sL (sL σ 0 f) 1 g1) ++ tl) → va_S A s.heap H locs → ∀ ls : Array Slot, lv_has ls 8 [(0, .ref (g.2.2.2 30)), (1, .ref (g.2.2.2 1)), (2, .ref (g.2.2.2 20)), (3, .int (nI n)), (4, .int (nI i)), (5, .int (nI p0)), (6, .int (nI (σ.2.1 0 (p0 * 3 + ((σ.2.1 14) i))))), (7, .int (nI q0))] → W p l e r_c_X9_countRuns s m ([.ref (g.2.2.2 30), .ref (g.2.2.2 1), .ref (g.2.2.2 20), .int (nI n)] : List Value).toArray below meth c H locs 0 0 Q (F0 m 61 ls []) := by
                  intro fu
                  induction fu with
                  | zero => intro q0 g1 h6 h5 hf; exact absurd hf (Nat.not_lt_zero _)
                  | succ fu ih61 =>
                    intro q0 g1 h6 h5 hf H locs hP hD hS ls hl
                    refine lv_iload hx hb dX9_countRuns_61 (lv_at hl 7 rfl) ?_
                    refine lv_iconst (v := nI 5) hx hb dX9_countRuns_63 (by decide) ?_
                    refine jn_cge hx hb (by omega) (by decide) (tgt := 104) dX9_countRuns_64 (by decide) (fun c_64 => ?_) (fun c_64 => ?_)
                    · refine lv_iinc (v := nI (p0 + 1)) (lv' := [(5, .int (nI (p0 + 1))), (0, .ref (g.2.2.2 30)), (1, .ref (g.2.2.2 1)), (2, .ref (g.2.2.2 20)), (3, .int (nI n)), (4, .int (nI i)), (6, .int (nI (σ.2.1 0 (p0 * 3 + ((σ.2.1 14) i))))), (7, .int (nI q0))]) hx hb dX9_countRuns_104 hl (k := 5) rfl (jn_ii _ 1) (by decide) rfl (fun ls hl => ?_)
                      refine lv_goto (tgt := 40) hx hb dX9_countRuns_107 (by decide) ?_
                      exact ih40 (p0 + 1) g1 (by omega) (fun q hq => by rw [h5 q hq, if_pos (by omega)]) (by omega) _ _ hP hD hS _ (lv_sub hl [1, 2, 3, 4, 5, 0] rfl)
                    · refine lv_aload_n hx hb dX9_countRuns_67 rfl (lv_at hl 0 rfl) ?_
                      refine va_get (D := (g.1, g.2.1)) (ci := 11) (v := .ref (g.2.2.2 34)) (C := RX9) (T := TX9) (N := 7) hx hb hts iX9 hown hK.1 hP 30 (gC30 g (sL (sL σ 0 f) 1 g1) tl) rfl 6 (by decide) k32 (fun _ h9 => h9) rfl dX9_countRuns_68 ?_
                      refine lv_iload hx hb dX9_countRuns_71 (lv_at hl 7 rfl) ?_
                      refine lv_dup2_11 hx hb dX9_countRuns_73 rfl rfl ?_
                      refine jn_lald (f := g1) hx hb hK.1 hP 34 1 (gC34 g (sL (sL σ 0 f) 1 g1) tl) rfl (by omega) (Nat.le_of_ble_eq_true rfl) dX9_countRuns_74 ?_
                      refine lv_iload hx hb dX9_countRuns_75 (lv_at hl 6 rfl) ?_
                      refine lv_iload hx hb dX9_countRuns_77 (lv_at hl 7 rfl) ?_
                      refine jn_ishr hx hb (by omega) (by omega) dX9_countRuns_79 ?_
                      refine lv_iconst (v := nI 1) hx hb dX9_countRuns_80 (by decide) ?_
                      refine jn_and1 hx hb dX9_countRuns_81 ?_
                      have jp96 : ∀ v96 : Nat, v96 = (if (σ.2.1 0 (p0 * 3 + σ.2.1 14 i)).testBit q0 = true then f p0 else 0) → W p l e r_c_X9_countRuns s m ([.ref (g.2.2.2 30), .ref (g.2.2.2 1), .ref (g.2.2.2 20), .int (nI n)] : List Value).toArray below meth c H locs 0 0 Q (F0 m 96 ls [.long (lN v96), .long (lN (g1 q0)), .int (nI q0), .ref (g.2.2.2 34)]) := by
                        intro v96 ev96
                        refine jn_ladd hx hb dX9_countRuns_96 ?_
                        refine jn_last (f := g1) hx hb hK.1 hP hD hS 34 1 (gC34 g (sL (sL σ 0 f) 1 g1) tl) rfl (by omega) (Nat.le_of_ble_eq_true rfl) (uC_L1 g (sL (sL σ 0 f) 1 g1) tl _) dX9_countRuns_97 (fun H locs hP hD hS => ?_)
                        refine lv_iinc (v := nI (q0 + 1)) (lv' := [(7, .int (nI (q0 + 1))), (0, .ref (g.2.2.2 30)), (1, .ref (g.2.2.2 1)), (2, .ref (g.2.2.2 20)), (3, .int (nI n)), (4, .int (nI i)), (5, .int (nI p0)), (6, .int (nI (σ.2.1 0 (p0 * 3 + ((σ.2.1 14) i)))))]) hx hb dX9_countRuns_98 hl (k := 7) rfl (jn_ii _ 1) (by decide) rfl (fun ls hl => ?_)
                        refine lv_goto (tgt := 61) hx hb dX9_countRuns_101 (by decide) ?_
                        exact ih61 (q0 + 1) (va_up g1 q0 ((g1 q0) + v96)) (by omega) (fun q hq => by unfold va_up; split; { rename_i e; subst e; rw [if_pos (by omega), ev96, h5 q hq, if_neg (by omega)]; rfl }; { rename_i e; rw [h5 q hq]; by_cases z : q < q0; { rw [if_pos z, if_pos (by omega)] }; { rw [if_neg z, if_neg (by omega)] } }) (by omega) _ _ hP hD hS _ (lv_sub hl [1, 2, 3, 4, 5, 6, 7, 0] rfl)
                      refine jn_beq hx hb (tgt := 95) dX9_countRuns_82 (by decide) (fun c_82 => ?_) (fun c_82 => ?_)
                      · refine lv_lconst (v := lN 0) hx hb dX9_countRuns_95 (by decide) ?_
                        exact jp96 0 (by rw [if_neg c_82])
                      · refine lv_aload_n hx hb dX9_countRuns_85 rfl (lv_at hl 0 rfl) ?_
                        refine va_get (D := (g.1, g.2.1)) (ci := 11) (v := .ref (g.2.2.2 33)) (C := RX9) (T := TX9) (N := 7) hx hb hts iX9 hown hK.1 hP 30 (gC30 g (sL (sL σ 0 f) 1 g1) tl) rfl 5 (by decide) k28 (fun _ h9 => h9) rfl dX9_countRuns_86 ?_
                        refine lv_iload hx hb dX9_countRuns_89 (lv_at hl 5 rfl) ?_
                        refine jn_lald (f := f) hx hb hK.1 hP 33 1 (gC33 g (sL (sL σ 0 f) 1 g1) tl) rfl (by omega) (Nat.le_of_ble_eq_true rfl) dX9_countRuns_91 ?_
                        refine lv_goto (tgt := 96) hx hb dX9_countRuns_92 (by decide) ?_
                        exact jp96 (f p0) (by rw [if_pos c_82])
                exact lp61 _ 0 g1 (by decide) (fun q hq => by rw [if_neg (by omega)]; exact h4 q hq) (Nat.lt_succ_self _) _ _ hP hD hS _ (lv_sub hl [2, 3, 4, 5, 6, 7, 1, 0] rfl)
          exact lp40 _ 0 f_34 (by decide) (fun q hq => h_34 q (by omega)) (Nat.lt_succ_self _) _ _ hP hD hS _ (lv_sub hl [1, 2, 3, 4, 5, 0] rfl)
  exact lp17 _ 0 (va_up f_4 0 1) (σ.2.2 1) (by omega) (fun q hq => by unfold va_up; rw [rn]; split <;> first | rfl | exact h_4 q (by omega)) (Nat.lt_succ_self _) _ _ hP hD hS _ (lv_sub hl [1, 2, 3, 4, 0] rfl)

abbrev r_c_X9_countInOrder : Room := { frames := 2, cells := 0, slots := 0, locals := 64 }
set_option maxHeartbeats 4000000 in
set_option maxRecDepth 100000 in
theorem c_X9_countInOrder (l : Launch) (g : GC) (tl : va_W) (sz : Nat) (σ : SS) (n : Nat) (hA : OkA σ) (hn : n ≤ 8) : Met l yX9_countInOrder wsX9_countInOrder r_c_X9_countInOrder (va_Pc [.ref (g.2.2.2 30), .ref (g.2.2.2 1), .int (nI n)] (PW g (wC g σ ++ tl) sz)) (va_Ql (fun (r : Int64) (z : (Nat → Nat) × (Nat → Nat)) => match z with | (f, g1) => r = lN (fb_sm (fun m => if m &&& (σ.1 0) ≠ 0 then dpI (σ.2.1 0) n m else 0) 32)) (fun (z : (Nat → Nat) × (Nat → Nat)) t => BW g (va_A (wC g σ ++ tl) sz) ((fun z : (Nat → Nat) × (Nat → Nat) => match z with | (f, g1) => wC g (sL (sL σ 0 f) 1 g1) ++ tl) z) t) (va_A (wC g σ ++ tl) sz)) 0 0 (va_A (wC g σ ++ tl) sz) := by
  refine jn_sl (wf := fun z : (Nat → Nat) × (Nat → Nat) => match z with | (f, g1) => wC g (sL (sL σ 0 f) 1 g1) ++ tl) (cc := cX9_countInOrder) (maxL := 6) (own := RX9) (by decide) rfl rfl (Nat.le_of_ble_eq_true rfl) ?_
  intro p e s m below meth c Q A hx hb hml hown hts hK hP hD hS hAA hq ls hl
  obtain ⟨H, eH⟩ : ∃ z, z = s.heap := ⟨_, rfl⟩
  obtain ⟨locs, el⟩ : ∃ z : List Loc, z = [] := ⟨_, rfl⟩
  rw [← eH] at hP
  have hS : va_S A s.heap H locs := by rw [eH, el]; exact hS
  have goal0 : W p l e r_c_X9_countInOrder s m ([.ref (g.2.2.2 30), .ref (g.2.2.2 1), .int (nI n)] : List Value).toArray below meth c H locs 0 0 Q (F0 m 0 ls []) → W p l e r_c_X9_countInOrder s m ([.ref (g.2.2.2 30), .ref (g.2.2.2 1), .int (nI n)] : List Value).toArray below meth c s.heap [] 0 0 Q (F0 m 0 ls []) := fun h => by rw [eH, el] at h; exact h
  refine goal0 ?_
  have hl : lv_has ls 6 [(0, .ref (g.2.2.2 30)), (1, .ref (g.2.2.2 1)), (2, .int (nI n))] := hl
  have iX9 : ∀ w ∈ wsX90, w ∈ wsX9_countInOrder := by decide +kernel
  have k28 := hts (.fieldLink RX9 28 "JumpingAutomata$WordSearch" "row" "[J") (by decide +kernel)
  have k32 := hts (.fieldLink RX9 32 "JumpingAutomata$WordSearch" "nextRow" "[J") (by decide +kernel)
  refine lv_aload_n hx hb dX9_countInOrder_0 rfl (lv_at hl 0 rfl) ?_
  refine va_get (D := (g.1, g.2.1)) (ci := 11) (v := .ref (g.2.2.2 33)) (C := RX9) (T := TX9) (N := 7) hx hb hts iX9 hown hK.1 hP 30 (gC30 g σ tl) rfl 5 (by decide) k28 (fun _ h9 => h9) rfl dX9_countInOrder_1 ?_
  refine jn_callv (va_runS (As := [.ref (g.2.2.2 33)]) (rest := []) ⟨hx, hb, hml, hown, hts⟩ (c_X9_clearRow_33 l g tl H.size σ) (va_cwS 1 hts gX9_countInOrder_X9_clearRow rfl rfl rfl (by decide +kernel) ⟨Nat.le_of_ble_eq_true rfl, Nat.le_of_ble_eq_true rfl⟩) (okWS hK hP hD) rfl rfl hl.1 rfl (lv_room (Nat.le_of_ble_eq_true rfl)) dX9_countInOrder_4 ⟨Nat.le_of_ble_eq_true rfl, Nat.le_of_ble_eq_true rfl⟩) hD hS hAA (fun u H locs hw_ hP hD hS => ?_)
  obtain ⟨f_4, rfl⟩ : ∃ z, z = u := ⟨_, rfl⟩
  have h_4 := hw_
  have h_4 : ∀ k, k < 32 → f_4 k = 0 := h_4
  have hP : va_P (g.1, g.2.1) vwCl (wC g (sL σ 0 f_4) ++ tl) H := hP
  have hD : va_D A (wC g (sL σ 0 f_4) ++ tl) := hD
  refine lv_aload_n hx hb dX9_countInOrder_7 rfl (lv_at hl 0 rfl) ?_
  refine va_get (D := (g.1, g.2.1)) (ci := 11) (v := .ref (g.2.2.2 33)) (C := RX9) (T := TX9) (N := 7) hx hb hts iX9 hown hK.1 hP 30 (gC30 g (sL σ 0 f_4) tl) rfl 5 (by decide) k28 (fun _ h9 => h9) rfl dX9_countInOrder_8 ?_
  refine lv_iconst (v := nI 1) hx hb dX9_countInOrder_11 (by decide) ?_
  refine lv_lconst (v := lN 1) hx hb dX9_countInOrder_12 (by decide) ?_
  refine jn_last (f := f_4) hx hb hK.1 hP hD hS 33 1 (gC33 g (sL σ 0 f_4) tl) rfl (by decide) (Nat.le_of_ble_eq_true rfl) (uC_L0 g (sL σ 0 f_4) tl _) dX9_countInOrder_13 (fun H locs hP hD hS => ?_)
  refine lv_iconst (v := nI 0) hx hb dX9_countInOrder_14 (by decide) ?_
  refine lv_istore_n (lv' := [(3, .int (nI 0)), (0, .ref (g.2.2.2 30)), (1, .ref (g.2.2.2 1)), (2, .int (nI n))]) hx hb dX9_countInOrder_15 rfl hl (by decide) rfl (fun ls hl => ?_)
  have lp16 : ∀ (fu : Nat), ∀ (i : Nat) (f : Nat → Nat) (g1 : Nat → Nat), (i ≤ n) → (∀ z, z < 32 → f z = dpI (σ.2.1 0) i z) → n - i < fu → ∀ (H : Heap) (locs : List Loc), va_P (g.1, g.2.1) vwCl (wC g (sL (sL σ 0 f) 1 g1) ++ tl) H → va_D A (wC g (sL (sL σ 0 f) 1 g1) ++ tl) → va_S A s.heap H locs → ∀ ls : Array Slot, lv_has ls 6 [(0, .ref (g.2.2.2 30)), (1, .ref (g.2.2.2 1)), (2, .int (nI n)), (3, .int (nI i))] → W p l e r_c_X9_countInOrder s m ([.ref (g.2.2.2 30), .ref (g.2.2.2 1), .int (nI n)] : List Value).toArray below meth c H locs 0 0 Q (F0 m 16 ls []) := by
    intro fu
    induction fu with
    | zero => intro i f g1 h1 h2 hf; exact absurd hf (Nat.not_lt_zero _)
    | succ fu ih16 =>
      intro i f g1 h1 h2 hf H locs hP hD hS ls hl
      refine lv_iload_n hx hb dX9_countInOrder_16 rfl (lv_at hl 3 rfl) ?_
      refine lv_iload_n hx hb dX9_countInOrder_17 rfl (lv_at hl 2 rfl) ?_
      refine jn_cge hx hb (by omega) (by omega) (tgt := 106) dX9_countInOrder_18 (by decide) (fun c_18 => ?_) (fun c_18 => ?_)
      · refine lv_lconst (v := lN 0) hx hb dX9_countInOrder_106 (by decide) ?_
        refine lv_lstore_n (lv' := [(3, .long (lN 0)), (0, .ref (g.2.2.2 30)), (1, .ref (g.2.2.2 1)), (2, .int (nI n))]) hx hb dX9_countInOrder_107 rfl hl (by decide) rfl (fun ls hl => ?_)
        refine lv_iconst (v := nI 0) hx hb dX9_countInOrder_108 (by decide) ?_
        refine lv_istore (lv' := [(5, .int (nI 0)), (3, .long (lN 0)), (0, .ref (g.2.2.2 30)), (1, .ref (g.2.2.2 1)), (2, .int (nI n))]) hx hb dX9_countInOrder_109 hl (by decide) rfl (fun ls hl => ?_)
        have lp111 : ∀ (fu : Nat), ∀ (mk : Nat) (z : Nat), (mk ≤ 32) → (z = fb_sm (fun m => if m &&& (σ.1 0) ≠ 0 then dpI (σ.2.1 0) n m else 0) mk) → 32 - mk < fu → ∀ (H : Heap) (locs : List Loc), va_P (g.1, g.2.1) vwCl (wC g (sL (sL σ 0 f) 1 g1) ++ tl) H → va_D A (wC g (sL (sL σ 0 f) 1 g1) ++ tl) → va_S A s.heap H locs → ∀ ls : Array Slot, lv_has ls 6 [(0, .ref (g.2.2.2 30)), (1, .ref (g.2.2.2 1)), (2, .int (nI n)), (3, .long (lN z)), (5, .int (nI mk))] → W p l e r_c_X9_countInOrder s m ([.ref (g.2.2.2 30), .ref (g.2.2.2 1), .int (nI n)] : List Value).toArray below meth c H locs 0 0 Q (F0 m 111 ls []) := by
          intro fu
          induction fu with
          | zero => intro mk z h5 h6 hf; exact absurd hf (Nat.not_lt_zero _)
          | succ fu ih111 =>
            intro mk z h5 h6 hf H locs hP hD hS ls hl
            refine lv_iload hx hb dX9_countInOrder_111 (lv_at hl 4 rfl) ?_
            refine lv_bipush (v := nI 32) hx hb dX9_countInOrder_113 (by decide) ?_
            refine jn_cge hx hb (by omega) (by decide) (tgt := 147) dX9_countInOrder_115 (by decide) (fun c_115 => ?_) (fun c_115 => ?_)
            · refine lv_lload_n hx hb dX9_countInOrder_147 rfl (lv_at hl 3 rfl) ?_
              exact hq _ _ _ _ ((lN z)) (f, g1) dX9_countInOrder_148 (by rw [h6, show mk = 32 by omega]) hP hD hS
            · refine lv_lload_n hx hb dX9_countInOrder_118 rfl (lv_at hl 3 rfl) ?_
              refine lv_aload_n hx hb dX9_countInOrder_119 rfl (lv_at hl 1 rfl) ?_
              refine lv_iload hx hb dX9_countInOrder_120 (lv_at hl 4 rfl) ?_
              refine vp_callSi (va_Run.run (va_runV (As := [.int (nI mk)]) (rest := [.long (lN z)]) ⟨hx, hb, hml, hown, hts⟩ (c_X0_accepting l g tl (sL (sL σ 0 f) 1 g1) mk hA) (cwV 1 hts gX9_countInOrder_X0_accepting rfl rfl rfl (by decide +kernel) ⟨Nat.le_of_ble_eq_true rfl, Nat.le_of_ble_eq_true rfl⟩) (okPV hK hP rfl (gC1 g (sL (sL σ 0 f) 1 g1) tl)) rfl rfl hl.1 rfl (lv_room (Nat.le_of_ble_eq_true rfl)) dX9_countInOrder_122 ⟨Nat.le_of_ble_eq_true rfl, Nat.le_of_ble_eq_true rfl⟩)) (fun r_122 h_122 => ?_)
              have h_122 : r_122 = (nI (if mk &&& σ.1 0 ≠ 0 then 1 else 0)) := h_122
              subst h_122
              have jp139 : ∀ v139 : Nat, v139 = (if mk &&& (σ.1 0) ≠ 0 then f mk else 0) → W p l e r_c_X9_countInOrder s m ([.ref (g.2.2.2 30), .ref (g.2.2.2 1), .int (nI n)] : List Value).toArray below meth c H locs 0 0 Q (F0 m 139 ls [.long (lN v139), .long (lN z)]) := by
                intro v139 ev139
                refine jn_ladd hx hb dX9_countInOrder_139 ?_
                refine lv_lstore_n (lv' := [(3, .long (lN (z + v139))), (0, .ref (g.2.2.2 30)), (1, .ref (g.2.2.2 1)), (2, .int (nI n)), (5, .int (nI mk))]) hx hb dX9_countInOrder_140 rfl hl (by decide) rfl (fun ls hl => ?_)
                refine lv_iinc (v := nI (mk + 1)) (lv' := [(5, .int (nI (mk + 1))), (3, .long (lN (z + v139))), (0, .ref (g.2.2.2 30)), (1, .ref (g.2.2.2 1)), (2, .int (nI n))]) hx hb dX9_countInOrder_141 hl (k := 4) rfl (jn_ii _ 1) (by decide) rfl (fun ls hl => ?_)
                refine lv_goto (tgt := 111) hx hb dX9_countInOrder_144 (by decide) ?_
                exact ih111 (mk + 1) (z + v139) (by omega) (by rw [h6, ev139, h2 mk (by omega), show i = n by omega]; rfl) (by omega) _ _ hP hD hS _ (lv_sub hl [2, 3, 4, 1, 0] rfl)
              refine jn_beq hx hb (tgt := 138) dX9_countInOrder_125 (by decide) (fun c_125 => ?_) (fun c_125 => ?_)
              · refine lv_lconst (v := lN 0) hx hb dX9_countInOrder_138 (by decide) ?_
                exact jp139 0 (by rw [if_neg c_125])
              · refine lv_aload_n hx hb dX9_countInOrder_128 rfl (lv_at hl 0 rfl) ?_
                refine va_get (D := (g.1, g.2.1)) (ci := 11) (v := .ref (g.2.2.2 33)) (C := RX9) (T := TX9) (N := 7) hx hb hts iX9 hown hK.1 hP 30 (gC30 g (sL (sL σ 0 f) 1 g1) tl) rfl 5 (by decide) k28 (fun _ h9 => h9) rfl dX9_countInOrder_129 ?_
                refine lv_iload hx hb dX9_countInOrder_132 (lv_at hl 4 rfl) ?_
                refine jn_lald (f := f) hx hb hK.1 hP 33 1 (gC33 g (sL (sL σ 0 f) 1 g1) tl) rfl (by omega) (Nat.le_of_ble_eq_true rfl) dX9_countInOrder_134 ?_
                refine lv_goto (tgt := 139) hx hb dX9_countInOrder_135 (by decide) ?_
                exact jp139 (f mk) (by rw [if_pos c_125])
        exact lp111 _ 0 0 (by decide) rfl (Nat.lt_succ_self _) _ _ hP hD hS _ (lv_sub hl [2, 3, 4, 1, 0] rfl)
      · refine lv_aload_n hx hb dX9_countInOrder_21 rfl (lv_at hl 0 rfl) ?_
        refine va_get (D := (g.1, g.2.1)) (ci := 11) (v := .ref (g.2.2.2 34)) (C := RX9) (T := TX9) (N := 7) hx hb hts iX9 hown hK.1 hP 30 (gC30 g (sL (sL σ 0 f) 1 g1) tl) rfl 6 (by decide) k32 (fun _ h9 => h9) rfl dX9_countInOrder_22 ?_
        refine jn_callv (va_runS (As := [.ref (g.2.2.2 34)]) (rest := []) ⟨hx, hb, hml, hown, hts⟩ (c_X9_clearRow_34 l g tl H.size (sL (sL σ 0 f) 1 g1)) (va_cwS 1 hts gX9_countInOrder_X9_clearRow rfl rfl rfl (by decide +kernel) ⟨Nat.le_of_ble_eq_true rfl, Nat.le_of_ble_eq_true rfl⟩) (okWS hK hP hD) rfl rfl hl.1 rfl (lv_room (Nat.le_of_ble_eq_true rfl)) dX9_countInOrder_25 ⟨Nat.le_of_ble_eq_true rfl, Nat.le_of_ble_eq_true rfl⟩) hD hS hAA (fun u H locs hw_ hP hD hS => ?_)
        obtain ⟨f_25, rfl⟩ : ∃ z, z = u := ⟨_, rfl⟩
        have h_25 := hw_
        have h_25 : ∀ k, k < 32 → f_25 k = 0 := h_25
        have hP : va_P (g.1, g.2.1) vwCl (wC g (sL (sL (sL σ 0 f) 1 g1) 1 f_25) ++ tl) H := hP
        have hD : va_D A (wC g (sL (sL (sL σ 0 f) 1 g1) 1 f_25) ++ tl) := hD
        refine lv_iconst (v := nI 0) hx hb dX9_countInOrder_28 (by decide) ?_
        refine lv_istore (lv' := [(4, .int (nI 0)), (0, .ref (g.2.2.2 30)), (1, .ref (g.2.2.2 1)), (2, .int (nI n)), (3, .int (nI i))]) hx hb dX9_countInOrder_29 hl (by decide) rfl (fun ls hl => ?_)
        have lp31 : ∀ (fu : Nat), ∀ (mk : Nat) (g1 : Nat → Nat), (mk ≤ 32) → (∀ z, z < 32 → g1 z = fb_sm (fun m => fb_sm (fun l => if stp (σ.2.1 0) l m = z then f m else 0) 3) mk) → 32 - mk < fu → ∀ (H : Heap) (locs : List Loc), va_P (g.1, g.2.1) vwCl (wC g (sL (sL σ 0 f) 1 g1) ++ tl) H → va_D A (wC g (sL (sL σ 0 f) 1 g1) ++ tl) → va_S A s.heap H locs → ∀ ls : Array Slot, lv_has ls 6 [(0, .ref (g.2.2.2 30)), (1, .ref (g.2.2.2 1)), (2, .int (nI n)), (3, .int (nI i)), (4, .int (nI mk))] → W p l e r_c_X9_countInOrder s m ([.ref (g.2.2.2 30), .ref (g.2.2.2 1), .int (nI n)] : List Value).toArray below meth c H locs 0 0 Q (F0 m 31 ls []) := by
          intro fu
          induction fu with
          | zero => intro mk g1 h3 h4 hf; exact absurd hf (Nat.not_lt_zero _)
          | succ fu ih31 =>
            intro mk g1 h3 h4 hf H locs hP hD hS ls hl
            refine lv_iload hx hb dX9_countInOrder_31 (lv_at hl 4 rfl) ?_
            refine lv_bipush (v := nI 32) hx hb dX9_countInOrder_33 (by decide) ?_
            refine jn_cge hx hb (by omega) (by decide) (tgt := 85) dX9_countInOrder_35 (by decide) (fun c_35 => ?_) (fun c_35 => ?_)
            · refine lv_aload_n hx hb dX9_countInOrder_85 rfl (lv_at hl 0 rfl) ?_
              refine va_get (D := (g.1, g.2.1)) (ci := 11) (v := .ref (g.2.2.2 34)) (C := RX9) (T := TX9) (N := 7) hx hb hts iX9 hown hK.1 hP 30 (gC30 g (sL (sL σ 0 f) 1 g1) tl) rfl 6 (by decide) k32 (fun _ h9 => h9) rfl dX9_countInOrder_86 ?_
              refine lv_iconst (v := nI 0) hx hb dX9_countInOrder_89 (by decide) ?_
              refine lv_aload_n hx hb dX9_countInOrder_90 rfl (lv_at hl 0 rfl) ?_
              refine va_get (D := (g.1, g.2.1)) (ci := 11) (v := .ref (g.2.2.2 33)) (C := RX9) (T := TX9) (N := 7) hx hb hts iX9 hown hK.1 hP 30 (gC30 g (sL (sL σ 0 f) 1 g1) tl) rfl 5 (by decide) k28 (fun _ h9 => h9) rfl dX9_countInOrder_91 ?_
              refine lv_iconst (v := nI 0) hx hb dX9_countInOrder_94 (by decide) ?_
              refine lv_bipush (v := nI 32) hx hb dX9_countInOrder_95 (by decide) ?_
              refine jn_copyl (f := g1) (f2 := f) hx hb (hml.trans hl.1.symm) hown (hts (.methodLink RX9 45 arraycopyName) (by decide +kernel)) (hts (.native arraycopyName) (by decide +kernel)) (hts (.static arraycopyName) (by decide +kernel)) (hts (.initialized "java/lang/System") (by decide +kernel)) hK.1 hP hD hS 34 33 1 1 (gC34 g (sL (sL σ 0 f) 1 g1) tl) (gC33 g (sL (sL σ 0 f) 1 g1) tl) rfl rfl (by decide) (by decide) (by decide) (by decide) (by decide) (Nat.le_of_ble_eq_true rfl) (Nat.le_of_ble_eq_true rfl) (uC_L0 g (sL (sL σ 0 f) 1 g1) tl _) dX9_countInOrder_97 (fun H locs hP hD hS => ?_)
              refine lv_iinc (v := nI (i + 1)) (lv' := [(3, .int (nI (i + 1))), (0, .ref (g.2.2.2 30)), (1, .ref (g.2.2.2 1)), (2, .int (nI n)), (4, .int (nI mk))]) hx hb dX9_countInOrder_100 hl (k := 3) rfl (jn_ii _ 1) (by decide) rfl (fun ls hl => ?_)
              refine lv_goto (tgt := 16) hx hb dX9_countInOrder_103 (by decide) ?_
              exact ih16 (i + 1) (va_cpy g1 f 0 0 32) g1 (by omega) (fun z hz => by rw [pk_cpy_in (by omega) (by omega), show 0 + (z - 0) = z by omega, h4 z hz, dpI, show mk = 32 by omega]; exact fb_sm_cong fun m hm => by rw [h2 m hm]) (by omega) _ _ hP hD hS _ (lv_sub hl [1, 2, 3, 0] rfl)
            · refine lv_iconst (v := nI 0) hx hb dX9_countInOrder_38 (by decide) ?_
              refine lv_istore (lv' := [(5, .int (nI 0)), (0, .ref (g.2.2.2 30)), (1, .ref (g.2.2.2 1)), (2, .int (nI n)), (3, .int (nI i)), (4, .int (nI mk))]) hx hb dX9_countInOrder_39 hl (by decide) rfl (fun ls hl => ?_)
              have lp41 : ∀ (fu : Nat), ∀ (lt : Nat) (g1 : Nat → Nat), (lt ≤ 3) → (∀ z, z < 32 → g1 z = fb_sm (fun m => fb_sm (fun l => if stp (σ.2.1 0) l m = z then f m else 0) 3) mk + fb_sm (fun l => if stp (σ.2.1 0) l mk = z then f mk else 0) lt) → 3 - lt < fu → ∀ (H : Heap) (locs : List Loc), va_P (g.1, g.2.1) vwCl (wC g (sL (sL σ 0 f) 1 g1) ++ tl) H → va_D A (wC g (sL (sL σ 0 f) 1 g1) ++ tl) → va_S A s.heap H locs → ∀ ls : Array Slot, lv_has ls 6 [(0, .ref (g.2.2.2 30)), (1, .ref (g.2.2.2 1)), (2, .int (nI n)), (3, .int (nI i)), (4, .int (nI mk)), (5, .int (nI lt))] → W p l e r_c_X9_countInOrder s m ([.ref (g.2.2.2 30), .ref (g.2.2.2 1), .int (nI n)] : List Value).toArray below meth c H locs 0 0 Q (F0 m 41 ls []) := by
                intro fu
                induction fu with
                | zero => intro lt g1 h6 h5 hf; exact absurd hf (Nat.not_lt_zero _)
                | succ fu ih41 =>
                  intro lt g1 h6 h5 hf H locs hP hD hS ls hl
                  refine lv_iload hx hb dX9_countInOrder_41 (lv_at hl 5 rfl) ?_
                  refine lv_iconst (v := nI 3) hx hb dX9_countInOrder_43 (by decide) ?_
                  refine jn_cge hx hb (by omega) (by decide) (tgt := 79) dX9_countInOrder_44 (by decide) (fun c_44 => ?_) (fun c_44 => ?_)
                  · refine lv_iinc (v := nI (mk + 1)) (lv' := [(4, .int (nI (mk + 1))), (0, .ref (g.2.2.2 30)), (1, .ref (g.2.2.2 1)), (2, .int (nI n)), (3, .int (nI i)), (5, .int (nI lt))]) hx hb dX9_countInOrder_79 hl (k := 4) rfl (jn_ii _ 1) (by decide) rfl (fun ls hl => ?_)
                    refine lv_goto (tgt := 31) hx hb dX9_countInOrder_82 (by decide) ?_
                    exact ih31 (mk + 1) g1 (by omega) (fun z hz => by rw [h5 z hz, show lt = 3 by omega]; rfl) (by omega) _ _ hP hD hS _ (lv_sub hl [1, 2, 3, 4, 0] rfl)
                  · refine lv_aload_n hx hb dX9_countInOrder_47 rfl (lv_at hl 0 rfl) ?_
                    refine va_get (D := (g.1, g.2.1)) (ci := 11) (v := .ref (g.2.2.2 34)) (C := RX9) (T := TX9) (N := 7) hx hb hts iX9 hown hK.1 hP 30 (gC30 g (sL (sL σ 0 f) 1 g1) tl) rfl 6 (by decide) k32 (fun _ h9 => h9) rfl dX9_countInOrder_48 ?_
                    refine lv_aload_n hx hb dX9_countInOrder_51 rfl (lv_at hl 1 rfl) ?_
                    refine lv_iload hx hb dX9_countInOrder_52 (lv_at hl 5 rfl) ?_
                    refine lv_iload hx hb dX9_countInOrder_54 (lv_at hl 4 rfl) ?_
                    refine vp_callSi (va_Run.run (va_runV (As := [.int (nI lt), .int (nI mk)]) (rest := [.ref (g.2.2.2 34)]) ⟨hx, hb, hml, hown, hts⟩ (c_X0_step l g tl (sL (sL σ 0 f) 1 g1) lt mk hA (by omega) (by omega)) (cwV 2 hts gX9_countInOrder_X0_step rfl rfl rfl (by decide +kernel) ⟨Nat.le_of_ble_eq_true rfl, Nat.le_of_ble_eq_true rfl⟩) (okPV hK hP rfl (gC1 g (sL (sL σ 0 f) 1 g1) tl)) rfl rfl hl.1 rfl (lv_room (Nat.le_of_ble_eq_true rfl)) dX9_countInOrder_56 ⟨Nat.le_of_ble_eq_true rfl, Nat.le_of_ble_eq_true rfl⟩)) (fun r_56 h_56 => ?_)
                    have h_56 : r_56 = (nI (stp (σ.2.1 0) lt mk)) := h_56
                    subst h_56
                    have st32 : stp (σ.2.1 0) lt mk < 32 := stp_lt hA.1 (by omega)
                    refine lv_bipush (v := nI 31) hx hb dX9_countInOrder_59 (by decide) ?_
                    refine jn_iand hx hb dX9_countInOrder_61 ?_
                    refine lv_dup2_11 hx hb dX9_countInOrder_62 rfl rfl ?_
                    refine jn_lald (f := g1) hx hb hK.1 hP 34 1 (gC34 g (sL (sL σ 0 f) 1 g1) tl) rfl (and_lt (by decide)) (Nat.le_of_ble_eq_true rfl) dX9_countInOrder_63 ?_
                    refine lv_aload_n hx hb dX9_countInOrder_64 rfl (lv_at hl 0 rfl) ?_
                    refine va_get (D := (g.1, g.2.1)) (ci := 11) (v := .ref (g.2.2.2 33)) (C := RX9) (T := TX9) (N := 7) hx hb hts iX9 hown hK.1 hP 30 (gC30 g (sL (sL σ 0 f) 1 g1) tl) rfl 5 (by decide) k28 (fun _ h9 => h9) rfl dX9_countInOrder_65 ?_
                    refine lv_iload hx hb dX9_countInOrder_68 (lv_at hl 4 rfl) ?_
                    refine jn_lald (f := f) hx hb hK.1 hP 33 1 (gC33 g (sL (sL σ 0 f) 1 g1) tl) rfl (by omega) (Nat.le_of_ble_eq_true rfl) dX9_countInOrder_70 ?_
                    refine jn_ladd hx hb dX9_countInOrder_71 ?_
                    refine jn_last (f := g1) hx hb hK.1 hP hD hS 34 1 (gC34 g (sL (sL σ 0 f) 1 g1) tl) rfl (and_lt (by decide)) (Nat.le_of_ble_eq_true rfl) (uC_L1 g (sL (sL σ 0 f) 1 g1) tl _) dX9_countInOrder_72 (fun H locs hP hD hS => ?_)
                    refine lv_iinc (v := nI (lt + 1)) (lv' := [(5, .int (nI (lt + 1))), (0, .ref (g.2.2.2 30)), (1, .ref (g.2.2.2 1)), (2, .int (nI n)), (3, .int (nI i)), (4, .int (nI mk))]) hx hb dX9_countInOrder_73 hl (k := 5) rfl (jn_ii _ 1) (by decide) rfl (fun ls hl => ?_)
                    refine lv_goto (tgt := 41) hx hb dX9_countInOrder_76 (by decide) ?_
                    exact ih41 (lt + 1) (va_up g1 ((stp (σ.2.1 0) lt mk) &&& 31) ((g1 ((stp (σ.2.1 0) lt mk) &&& 31)) + (f mk))) (by omega) (fun z hz => by unfold va_up; rw [and31 st32, fb_sm_succ, ← Nat.add_assoc]; split; { rename_i e; rw [if_pos e.symm, h5 _ st32, e] }; { rename_i e; rw [if_neg (fun q => e q.symm), h5 z hz]; rfl }) (by omega) _ _ hP hD hS _ (lv_sub hl [1, 2, 3, 4, 5, 0] rfl)
              exact lp41 _ 0 g1 (by decide) h4 (Nat.lt_succ_self _) _ _ hP hD hS _ (lv_sub hl [1, 2, 3, 4, 5, 0] rfl)
        exact lp31 _ 0 f_25 (by decide) (fun q hq => h_25 q hq) (Nat.lt_succ_self _) _ _ hP hD hS _ (lv_sub hl [1, 2, 3, 4, 0] rfl)
  exact lp16 _ 0 (va_up f_4 1 1) (σ.2.2 1) (by omega) (fun q hq => by unfold va_up; rw [dpI]; split <;> first | rfl | exact h_4 q hq) (Nat.lt_succ_self _) _ _ hP hD hS _ (lv_sub hl [1, 2, 3, 0] rfl)
