def RH_appendCharacter (σ : SS) (x : Nat) (ov : Nat → Int64) (dv : Nat → UInt64) (r : Int32) (z : HZ) : Prop :=
  (r = nI 0 ∧ (33 ≤ x ∧ x < 127) ∧ ((σ.1 1) < 40) ∧ z = ((sF (sA σ 12 (va_up (σ.2.1 12) (σ.1 1) x)) 1 ((σ.1 1) + 1)), vp_updL ov 0 ((nI ((σ.1 1) + 1)).toInt64), dv)) ∨ (r = nI 1 ∧ (¬ (33 ≤ x ∧ x < 127)) ∧ z = (σ, ov, dv)) ∨ (r = nI 2 ∧ ((33 ≤ x ∧ x < 127) ∧ 40 ≤ (σ.1 1)) ∧ z = (σ, ov, dv))
abbrev r_h_appendCharacter : Room := { frames := 7, cells := 1, slots := 6, locals := 103 }
set_option maxHeartbeats 4000000 in
set_option maxRecDepth 100000 in
theorem h_appendCharacter (l : Launch) (hflg : l.stackTraces = false) (g : GC) (tl : va_W) (sz : Nat) (σ : SS) (ao ad : Nat) (ov : Nat → Int64) (dv : Nat → UInt64) (x : Nat) (y_hX : OkX σ) (y_hx : x < 4294967296) : Met l yL_appendCharacter wsL_appendCharacter r_h_appendCharacter (va_Pc [.ref (g.2.2.2 0), .int (nI x), .ref ao] (PH g (wH g ao ad tl (σ, ov, dv)) sz)) (va_Qi (fun r z => RH_appendCharacter σ x ov dv r z) (fun z t => BW g (va_A (wH g ao ad tl (σ, ov, dv)) sz) (wH g ao ad tl z) t) (va_A (wH g ao ad tl (σ, ov, dv)) sz)) 1 6 (va_A (wH g ao ad tl (σ, ov, dv)) sz) := by
  refine jh_i (wf := wH g ao ad tl) (cc := cL_appendCharacter) (maxL := 4) (by decide) rfl rfl (Nat.le_of_ble_eq_true rfl) ?_
  intro p e s m below meth c Q A hx hb hml hown hts hKL hP hD hS hAA hZ htab hq ls hl
  have hKX := hKL.1
  have hK := hKX.1
  obtain ⟨H, eH⟩ : ∃ z, z = s.heap := ⟨_, rfl⟩
  obtain ⟨locs, el⟩ : ∃ z : List Loc, z = [] := ⟨_, rfl⟩
  rw [← eH] at hP
  have hS : va_S A s.heap H locs := by rw [eH, el]; exact hS
  have goal0 : W p l e r_h_appendCharacter s m ([.ref (g.2.2.2 0), .int (nI x), .ref ao] : List Value).toArray below meth c H locs 0 0 Q (F0 m 0 ls []) → W p l e r_h_appendCharacter s m ([.ref (g.2.2.2 0), .int (nI x), .ref ao] : List Value).toArray below meth c s.heap [] 0 0 Q (F0 m 0 ls []) := fun h => by rw [eH, el] at h; exact h
  refine goal0 ?_
  have hl : lv_has ls 4 [(0, .ref (g.2.2.2 0)), (1, .int (nI x)), (2, .ref ao)] := hl
  have hP : va_P (g.1, g.2.1) vwCl (wC g σ ++ wT g ao ad ov dv tl) H := hP
  have hD : va_D A (wC g σ ++ wT g ao ad ov dv tl) := hD
  refine lv_aload_n hx hb dL_appendCharacter_0 rfl (lv_at hl 2 rfl) ?_
  refine lv_iconst (v := nI 0) hx hb dL_appendCharacter_1 (by decide) ?_
  refine lv_aload_n hx hb dL_appendCharacter_2 rfl (lv_at hl 0 rfl) ?_
  refine lv_iload_n hx hb dL_appendCharacter_3 rfl (lv_at hl 1 rfl) ?_
  refine jx_calli (vx_runV (As := [.int (nI x)]) (rest := [.int (nI 0), .ref ao]) ⟨hx, hb, hml, hown, hts⟩ (c_X10_appendCharacter l hflg g (wT g ao ad ov dv tl) H.size σ x y_hX y_hx) (cwV 1 hts gL_appendCharacter_X10_appendCharacter rfl rfl rfl (by decide +kernel) ⟨Nat.le_of_ble_eq_true rfl, Nat.le_of_ble_eq_true rfl⟩) (okXV hKX hP hD hZ hS hAA rfl (gC0 g σ (wT g ao ad ov dv tl))) rfl rfl hl.1 rfl (lv_room (Nat.le_of_ble_eq_true rfl)) dL_appendCharacter_4 ⟨Nat.le_of_ble_eq_true rfl, Nat.le_of_ble_eq_true rfl⟩) hD hS hAA (fun E ce q9 u H locs hxp hP hD hS h7 h8 h9 => ?_) (fun r u H locs hw_ hP hD hS => ?_)
  · have e0 : True := trivial
    have hxp : (E = "java/lang/IllegalArgumentException" ∧ (¬ (33 ≤ x ∧ x < 127))) ∨ (E = "java/lang/IllegalStateException" ∧ ((33 ≤ x ∧ x < 127) ∧ 40 ≤ (σ.1 1))) := hxp
    rcases hxp with ⟨rfl, hc⟩ | ⟨rfl, hc⟩
    · refine vx_catch (name := "java/lang/IllegalArgumentException") hown [] ⟨0, 9, 12, 13⟩ [⟨0, 9, 15, 15⟩] (by rw [htab]; rfl) (fun _ h => absurd h List.not_mem_nil) (by decide) (by decide) (va_Nw.use rfl (hKL.2.2 _ (List.mem_of_getElem? (i := 0) rfl))) (va_Nw.use rfl (hKX.2.1 _ (List.mem_of_getElem? (i := 0) rfl))) h7 h8 h9 ?_
      refine lv_astore_n (lv' := [(3, .ref q9), (0, .ref (g.2.2.2 0)), (1, .int (nI x)), (2, .ref ao)]) hx hb dL_appendCharacter_12 rfl hl (by decide) rfl (fun ls hl => ?_)
      refine lv_iconst (v := nI 1) hx hb dL_appendCharacter_13 (by decide) ?_
      exact hq _ _ _ _ _ _ (nI 1) (_, ov, dv) (Nat.le_of_ble_eq_true rfl) (Nat.le_of_ble_eq_true rfl) dL_appendCharacter_14 (Or.inr (Or.inl ⟨rfl, hc, rfl⟩)) hP hD hS
    · refine vx_catch (name := "java/lang/IllegalStateException") hown [⟨0, 9, 12, 13⟩] ⟨0, 9, 15, 15⟩ [] (by rw [htab]; rfl) (List.forall_mem_cons.mpr ⟨Or.inr ⟨by decide, "java/lang/IllegalArgumentException", va_Nw.use rfl (hKL.2.2 _ (List.mem_of_getElem? (i := 0) rfl)), hKL.2.1 _ (List.mem_of_getElem? (i := 0) rfl)⟩, fun _ h => absurd h List.not_mem_nil⟩) (by decide) (by decide) (va_Nw.use rfl (hKL.2.2 _ (List.mem_of_getElem? (i := 1) rfl))) (va_Nw.use rfl (hKX.2.1 _ (List.mem_of_getElem? (i := 1) rfl))) h7 h8 h9 ?_
      refine lv_astore_n (lv' := [(3, .ref q9), (0, .ref (g.2.2.2 0)), (1, .int (nI x)), (2, .ref ao)]) hx hb dL_appendCharacter_15 rfl hl (by decide) rfl (fun ls hl => ?_)
      refine lv_iconst (v := nI 2) hx hb dL_appendCharacter_16 (by decide) ?_
      exact hq _ _ _ _ _ _ (nI 2) (_, ov, dv) (Nat.le_of_ble_eq_true rfl) (Nat.le_of_ble_eq_true rfl) dL_appendCharacter_17 (Or.inr (Or.inr ⟨rfl, hc, rfl⟩)) hP hD hS
  · have e0 : True := trivial
    obtain ⟨rfl, h_⟩ := hw_
    have h_ : (33 ≤ x ∧ x < 127) ∧ ((σ.1 1) < 40) := h_
    have hP : va_P (g.1, g.2.1) vwCl (wC g (sF (sA σ 12 (va_up (σ.2.1 12) (σ.1 1) x)) 1 ((σ.1 1) + 1)) ++ wT g ao ad ov dv tl) H := hP
    have hD : va_D A (wC g (sF (sA σ 12 (va_up (σ.2.1 12) (σ.1 1) x)) 1 ((σ.1 1) + 1)) ++ wT g ao ad ov dv tl) := hD
    refine lv_i2l hx hb dL_appendCharacter_7 rfl ?_
    refine va_last (x := (nI ((σ.1 1) + 1)).toInt64) hx hb hK.1 hP hD hS 42 1 (gT42 g (sF (sA σ 12 (va_up (σ.2.1 12) (σ.1 1) x)) 1 ((σ.1 1) + 1)) ao ad ov dv tl) rfl (vp_in_nI (by decide) (by decide)) dL_appendCharacter_8 (fun H locs hP hD hS => ?_)
    have hP : va_P (g.1, g.2.1) vwCl (wH g ao ad tl ((sF (sA σ 12 (va_up (σ.2.1 12) (σ.1 1) x)) 1 ((σ.1 1) + 1)), vp_updL ov 0 ((nI ((σ.1 1) + 1)).toInt64), dv)) H := hP
    have hD : va_D A (wH g ao ad tl ((sF (sA σ 12 (va_up (σ.2.1 12) (σ.1 1) x)) 1 ((σ.1 1) + 1)), vp_updL ov 0 ((nI ((σ.1 1) + 1)).toInt64), dv)) := hD
    refine lv_goto (tgt := 18) hx hb dL_appendCharacter_9 (by decide) ?_
    refine lv_iconst (v := nI 0) hx hb dL_appendCharacter_18 (by decide) ?_
    exact hq _ _ _ _ _ _ (nI 0) _ (Nat.le_of_ble_eq_true rfl) (Nat.le_of_ble_eq_true rfl) dL_appendCharacter_19 (Or.inl ⟨rfl, h_.1, h_.2, rfl⟩) hP hD hS

def RH_addText (σ : SS) (ov : Nat → Int64) (dv : Nat → UInt64) (r : Int32) (z : HZ) : Prop :=
  (∃ (v3 : Nat) (f13 : Nat → Nat) (f0 : Nat → Nat) (f1 : Nat → Nat), r = nI 0 ∧ (fltC (σ.2.1 12) (σ.1 1) = 4294967295) ∧ ((∀ k, k < 15 → f13 k = (gi (σ.2.1 12) (σ.1 1)).1 k) ∧ v3 = (gi (σ.2.1 12) (σ.1 1)).2) ∧ (fb_sm (fun k => pop ((σ.2.1 0) k ||| f13 k)) 15 ≤ 15) ∧ (∀ k, k < 15 → f0 k = (σ.2.1 0) k ||| f13 k) ∧ (∀ x, x < 3 → ∀ m, m < 32 → f1 (x * 32 + m) = stp f0 x m) ∧ z = ((sF (sA (sF (sA (sF (sF (sL (sA (sF (sF (sF σ 1 0) 2 (fltC (σ.2.1 12) (σ.1 1))) 3 v3) 13 f13) (2 + σ.1 9) (snp σ (σ.2.2 (2 + σ.1 9)))) 9 ((σ.1 9 + 1) % 8)) 10 (min (σ.1 10 + 1) 8)) 0 f0) 0 ((σ.1 0) ||| v3)) 1 f1) 21 0), vp_updL ov 0 ((nI (cntT f0)).toInt64), dv)) ∨ (∃ (v3 : Nat) (f13 : Nat → Nat), r = nI 1 ∧ (fltC (σ.2.1 12) (σ.1 1) ≠ 4294967295) ∧ z = ((sA (sF (sF (sF σ 1 0) 2 (fltC (σ.2.1 12) (σ.1 1))) 3 v3) 13 f13), ov, dv)) ∨ (∃ (v3 : Nat) (f13 : Nat → Nat), r = nI 2 ∧ (fltC (σ.2.1 12) (σ.1 1) = 4294967295 ∧ ((∀ k, k < 15 → f13 k = (gi (σ.2.1 12) (σ.1 1)).1 k) ∧ v3 = (gi (σ.2.1 12) (σ.1 1)).2) ∧ 15 < fb_sm (fun k => pop ((σ.2.1 0) k ||| f13 k)) 15) ∧ z = ((sA (sF (sF (sF σ 1 0) 2 (fltC (σ.2.1 12) (σ.1 1))) 3 v3) 13 f13), ov, dv))
abbrev r_h_addText : Room := { frames := 7, cells := 1, slots := 6, locals := 170 }
set_option maxHeartbeats 4000000 in
set_option maxRecDepth 100000 in
theorem h_addText (l : Launch) (hflg : l.stackTraces = false) (g : GC) (tl : va_W) (sz : Nat) (σ : SS) (ao ad : Nat) (ov : Nat → Int64) (dv : Nat → UInt64) (y_hX : OkX σ) (y_hA : OkA σ) (y_hM : OkM σ) : Met l yL_addText wsL_addText r_h_addText (va_Pc [.ref (g.2.2.2 0), .ref ao] (PH g (wH g ao ad tl (σ, ov, dv)) sz)) (va_Qi (fun r z => RH_addText σ  ov dv r z) (fun z t => BW g (va_A (wH g ao ad tl (σ, ov, dv)) sz) (wH g ao ad tl z) t) (va_A (wH g ao ad tl (σ, ov, dv)) sz)) 1 6 (va_A (wH g ao ad tl (σ, ov, dv)) sz) := by
  refine jh_i (wf := wH g ao ad tl) (cc := cL_addText) (maxL := 3) (by decide) rfl rfl (Nat.le_of_ble_eq_true rfl) ?_
  intro p e s m below meth c Q A hx hb hml hown hts hKL hP hD hS hAA hZ htab hq ls hl
  have hKX := hKL.1
  have hK := hKX.1
  obtain ⟨H, eH⟩ : ∃ z, z = s.heap := ⟨_, rfl⟩
  obtain ⟨locs, el⟩ : ∃ z : List Loc, z = [] := ⟨_, rfl⟩
  rw [← eH] at hP
  have hS : va_S A s.heap H locs := by rw [eH, el]; exact hS
  have goal0 : W p l e r_h_addText s m ([.ref (g.2.2.2 0), .ref ao] : List Value).toArray below meth c H locs 0 0 Q (F0 m 0 ls []) → W p l e r_h_addText s m ([.ref (g.2.2.2 0), .ref ao] : List Value).toArray below meth c s.heap [] 0 0 Q (F0 m 0 ls []) := fun h => by rw [eH, el] at h; exact h
  refine goal0 ?_
  have hl : lv_has ls 3 [(0, .ref (g.2.2.2 0)), (1, .ref ao)] := hl
  have hP : va_P (g.1, g.2.1) vwCl (wC g σ ++ wT g ao ad ov dv tl) H := hP
  have hD : va_D A (wC g σ ++ wT g ao ad ov dv tl) := hD
  refine lv_aload_n hx hb dL_addText_0 rfl (lv_at hl 1 rfl) ?_
  refine lv_iconst (v := nI 0) hx hb dL_addText_1 (by decide) ?_
  refine lv_aload_n hx hb dL_addText_2 rfl (lv_at hl 0 rfl) ?_
  refine jx_calli (vx_runV (As := []) (rest := [.int (nI 0), .ref ao]) ⟨hx, hb, hml, hown, hts⟩ (c_X10_addText l hflg g (wT g ao ad ov dv tl) H.size σ y_hX y_hA y_hM) (cwV 0 hts gL_addText_X10_addText rfl rfl rfl (by decide +kernel) ⟨Nat.le_of_ble_eq_true rfl, Nat.le_of_ble_eq_true rfl⟩) (okXV hKX hP hD hZ hS hAA rfl (gC0 g σ (wT g ao ad ov dv tl))) rfl rfl hl.1 rfl (lv_room (Nat.le_of_ble_eq_true rfl)) dL_addText_3 ⟨Nat.le_of_ble_eq_true rfl, Nat.le_of_ble_eq_true rfl⟩) hD hS hAA (fun E ce q9 u H locs hxp hP hD hS h7 h8 h9 => ?_) (fun r u H locs hw_ hP hD hS => ?_)
  · have e0 : True := trivial
    obtain ⟨v3, f13⟩ := u
    have hxp : (E = "java/lang/IllegalArgumentException" ∧ (fltC (σ.2.1 12) (σ.1 1) ≠ 4294967295)) ∨ (E = "java/lang/IllegalStateException" ∧ (fltC (σ.2.1 12) (σ.1 1) = 4294967295 ∧ ((∀ k, k < 15 → f13 k = (gi (σ.2.1 12) (σ.1 1)).1 k) ∧ v3 = (gi (σ.2.1 12) (σ.1 1)).2) ∧ 15 < fb_sm (fun k => pop ((σ.2.1 0) k ||| f13 k)) 15)) := hxp
    rcases hxp with ⟨rfl, hc⟩ | ⟨rfl, hc⟩
    · refine vx_catch (name := "java/lang/IllegalArgumentException") hown [] ⟨0, 8, 11, 13⟩ [⟨0, 8, 14, 15⟩] (by rw [htab]; rfl) (fun _ h => absurd h List.not_mem_nil) (by decide) (by decide) (va_Nw.use rfl (hKL.2.2 _ (List.mem_of_getElem? (i := 0) rfl))) (va_Nw.use rfl (hKX.2.1 _ (List.mem_of_getElem? (i := 0) rfl))) h7 h8 h9 ?_
      refine lv_astore_n (lv' := [(2, .ref q9), (0, .ref (g.2.2.2 0)), (1, .ref ao)]) hx hb dL_addText_11 rfl hl (by decide) rfl (fun ls hl => ?_)
      refine lv_iconst (v := nI 1) hx hb dL_addText_12 (by decide) ?_
      exact hq _ _ _ _ _ _ (nI 1) (_, ov, dv) (Nat.le_of_ble_eq_true rfl) (Nat.le_of_ble_eq_true rfl) dL_addText_13 (Or.inr (Or.inl ⟨v3, f13, rfl, hc, rfl⟩)) hP hD hS
    · refine vx_catch (name := "java/lang/IllegalStateException") hown [⟨0, 8, 11, 13⟩] ⟨0, 8, 14, 15⟩ [] (by rw [htab]; rfl) (List.forall_mem_cons.mpr ⟨Or.inr ⟨by decide, "java/lang/IllegalArgumentException", va_Nw.use rfl (hKL.2.2 _ (List.mem_of_getElem? (i := 0) rfl)), hKL.2.1 _ (List.mem_of_getElem? (i := 0) rfl)⟩, fun _ h => absurd h List.not_mem_nil⟩) (by decide) (by decide) (va_Nw.use rfl (hKL.2.2 _ (List.mem_of_getElem? (i := 1) rfl))) (va_Nw.use rfl (hKX.2.1 _ (List.mem_of_getElem? (i := 1) rfl))) h7 h8 h9 ?_
      refine lv_astore_n (lv' := [(2, .ref q9), (0, .ref (g.2.2.2 0)), (1, .ref ao)]) hx hb dL_addText_14 rfl hl (by decide) rfl (fun ls hl => ?_)
      refine lv_iconst (v := nI 2) hx hb dL_addText_15 (by decide) ?_
      exact hq _ _ _ _ _ _ (nI 2) (_, ov, dv) (Nat.le_of_ble_eq_true rfl) (Nat.le_of_ble_eq_true rfl) dL_addText_16 (Or.inr (Or.inr ⟨v3, f13, rfl, hc, rfl⟩)) hP hD hS
  · have e0 : True := trivial
    obtain ⟨v3, f13, f0, f1⟩ := u
    obtain ⟨rfl, h_⟩ := hw_
    have h_ : (fltC (σ.2.1 12) (σ.1 1) = 4294967295) ∧ ((∀ k, k < 15 → f13 k = (gi (σ.2.1 12) (σ.1 1)).1 k) ∧ v3 = (gi (σ.2.1 12) (σ.1 1)).2) ∧ (fb_sm (fun k => pop ((σ.2.1 0) k ||| f13 k)) 15 ≤ 15) ∧ (∀ k, k < 15 → f0 k = (σ.2.1 0) k ||| f13 k) ∧ (∀ x, x < 3 → ∀ m, m < 32 → f1 (x * 32 + m) = stp f0 x m) := h_
    have hP : va_P (g.1, g.2.1) vwCl (wC g (sF (sA (sF (sA (sF (sF (sL (sA (sF (sF (sF σ 1 0) 2 (fltC (σ.2.1 12) (σ.1 1))) 3 v3) 13 f13) (2 + σ.1 9) (snp σ (σ.2.2 (2 + σ.1 9)))) 9 ((σ.1 9 + 1) % 8)) 10 (min (σ.1 10 + 1) 8)) 0 f0) 0 ((σ.1 0) ||| v3)) 1 f1) 21 0) ++ wT g ao ad ov dv tl) H := hP
    have hD : va_D A (wC g (sF (sA (sF (sA (sF (sF (sL (sA (sF (sF (sF σ 1 0) 2 (fltC (σ.2.1 12) (σ.1 1))) 3 v3) 13 f13) (2 + σ.1 9) (snp σ (σ.2.2 (2 + σ.1 9)))) 9 ((σ.1 9 + 1) % 8)) 10 (min (σ.1 10 + 1) 8)) 0 f0) 0 ((σ.1 0) ||| v3)) 1 f1) 21 0) ++ wT g ao ad ov dv tl) := hD
    refine lv_i2l hx hb dL_addText_6 rfl ?_
    refine va_last (x := (nI (cntT f0)).toInt64) hx hb hK.1 hP hD hS 42 1 (gT42 g (sF (sA (sF (sA (sF (sF (sL (sA (sF (sF (sF σ 1 0) 2 (fltC (σ.2.1 12) (σ.1 1))) 3 v3) 13 f13) (2 + σ.1 9) (snp σ (σ.2.2 (2 + σ.1 9)))) 9 ((σ.1 9 + 1) % 8)) 10 (min (σ.1 10 + 1) 8)) 0 f0) 0 ((σ.1 0) ||| v3)) 1 f1) 21 0) ao ad ov dv tl) rfl (vp_in_nI (by decide) (by decide)) dL_addText_7 (fun H locs hP hD hS => ?_)
    have hP : va_P (g.1, g.2.1) vwCl (wH g ao ad tl ((sF (sA (sF (sA (sF (sF (sL (sA (sF (sF (sF σ 1 0) 2 (fltC (σ.2.1 12) (σ.1 1))) 3 v3) 13 f13) (2 + σ.1 9) (snp σ (σ.2.2 (2 + σ.1 9)))) 9 ((σ.1 9 + 1) % 8)) 10 (min (σ.1 10 + 1) 8)) 0 f0) 0 ((σ.1 0) ||| v3)) 1 f1) 21 0), vp_updL ov 0 ((nI (cntT f0)).toInt64), dv)) H := hP
    have hD : va_D A (wH g ao ad tl ((sF (sA (sF (sA (sF (sF (sL (sA (sF (sF (sF σ 1 0) 2 (fltC (σ.2.1 12) (σ.1 1))) 3 v3) 13 f13) (2 + σ.1 9) (snp σ (σ.2.2 (2 + σ.1 9)))) 9 ((σ.1 9 + 1) % 8)) 10 (min (σ.1 10 + 1) 8)) 0 f0) 0 ((σ.1 0) ||| v3)) 1 f1) 21 0), vp_updL ov 0 ((nI (cntT f0)).toInt64), dv)) := hD
    refine lv_goto (tgt := 17) hx hb dL_addText_8 (by decide) ?_
    refine lv_iconst (v := nI 0) hx hb dL_addText_17 (by decide) ?_
    exact hq _ _ _ _ _ _ (nI 0) _ (Nat.le_of_ble_eq_true rfl) (Nat.le_of_ble_eq_true rfl) dL_addText_18 (Or.inl ⟨v3, f13, f0, f1, rfl, h_.1, h_.2.1, h_.2.2.1, h_.2.2.2.1, h_.2.2.2.2, rfl⟩) hP hD hS

def RH_addTransition (σ : SS) (a : Nat) (b : Nat) (c2 : Nat) (ov : Nat → Int64) (dv : Nat → UInt64) (r : Int32) (z : HZ) : Prop :=
  (∃ (f1 : Nat → Nat), r = nI 0 ∧ (a < 5 ∧ b < 3 ∧ c2 < 5) ∧ (Nat.testBit ((σ.2.1 0) (a * 3 + b)) c2 = true ∨ cntT (σ.2.1 0) < 15) ∧ (∀ x, x < 3 → ∀ m, m < 32 → f1 (x * 32 + m) = stp (va_up (σ.2.1 0) (a * 3 + b) ((σ.2.1 0) (a * 3 + b) ||| 2 ^ c2)) x m) ∧ z = ((sF (sA (sA (sF (sF (sL σ (2 + σ.1 9) (snp σ (σ.2.2 (2 + σ.1 9)))) 9 ((σ.1 9 + 1) % 8)) 10 (min (σ.1 10 + 1) 8)) 0 (va_up (σ.2.1 0) (a * 3 + b) ((σ.2.1 0) (a * 3 + b) ||| 2 ^ c2))) 1 f1) 21 0), vp_updL ov 0 (if ¬ Nat.testBit ((σ.2.1 0) (a * 3 + b)) c2 = true then 1 else 0), dv)) ∨ (r = nI 1 ∧ (¬ (a < 5 ∧ b < 3 ∧ c2 < 5)) ∧ z = (σ, ov, dv)) ∨ (r = nI 2 ∧ ((a < 5 ∧ b < 3 ∧ c2 < 5) ∧ ¬ Nat.testBit ((σ.2.1 0) (a * 3 + b)) c2 = true ∧ 15 ≤ cntT (σ.2.1 0)) ∧ z = (σ, ov, dv))
abbrev r_h_addTransition : Room := { frames := 8, cells := 2, slots := 12, locals := 174 }
set_option maxHeartbeats 4000000 in
set_option maxRecDepth 100000 in
theorem h_addTransition (l : Launch) (hflg : l.stackTraces = false) (g : GC) (tl : va_W) (sz : Nat) (σ : SS) (ao ad : Nat) (ov : Nat → Int64) (dv : Nat → UInt64) (a : Nat) (b : Nat) (c2 : Nat) (y_hA : OkA σ) (y_hM : OkM σ) (y_ha : a < 4294967296) (y_hb2 : b < 4294967296) (y_hc : c2 < 4294967296) : Met l yL_addTransition wsL_addTransition r_h_addTransition (va_Pc [.ref (g.2.2.2 0), .int (nI a), .int (nI b), .int (nI c2), .ref ao] (PH g (wH g ao ad tl (σ, ov, dv)) sz)) (va_Qi (fun r z => RH_addTransition σ a b c2 ov dv r z) (fun z t => BW g (va_A (wH g ao ad tl (σ, ov, dv)) sz) (wH g ao ad tl z) t) (va_A (wH g ao ad tl (σ, ov, dv)) sz)) 2 12 (va_A (wH g ao ad tl (σ, ov, dv)) sz) := by
  refine jh_i (wf := wH g ao ad tl) (cc := cL_addTransition) (maxL := 6) (by decide) rfl rfl (Nat.le_of_ble_eq_true rfl) ?_
  intro p e s m below meth c Q A hx hb hml hown hts hKL hP hD hS hAA hZ htab hq ls hl
  have hKX := hKL.1
  have hK := hKX.1
  obtain ⟨H, eH⟩ : ∃ z, z = s.heap := ⟨_, rfl⟩
  obtain ⟨locs, el⟩ : ∃ z : List Loc, z = [] := ⟨_, rfl⟩
  rw [← eH] at hP
  have hS : va_S A s.heap H locs := by rw [eH, el]; exact hS
  have goal0 : W p l e r_h_addTransition s m ([.ref (g.2.2.2 0), .int (nI a), .int (nI b), .int (nI c2), .ref ao] : List Value).toArray below meth c H locs 0 0 Q (F0 m 0 ls []) → W p l e r_h_addTransition s m ([.ref (g.2.2.2 0), .int (nI a), .int (nI b), .int (nI c2), .ref ao] : List Value).toArray below meth c s.heap [] 0 0 Q (F0 m 0 ls []) := fun h => by rw [eH, el] at h; exact h
  refine goal0 ?_
  have hl : lv_has ls 6 [(0, .ref (g.2.2.2 0)), (1, .int (nI a)), (2, .int (nI b)), (3, .int (nI c2)), (4, .ref ao)] := hl
  have hP : va_P (g.1, g.2.1) vwCl (wC g σ ++ wT g ao ad ov dv tl) H := hP
  have hD : va_D A (wC g σ ++ wT g ao ad ov dv tl) := hD
  refine lv_aload hx hb dL_addTransition_0 (lv_at hl 4 rfl) ?_
  refine lv_iconst (v := nI 0) hx hb dL_addTransition_2 (by decide) ?_
  refine lv_aload_n hx hb dL_addTransition_3 rfl (lv_at hl 0 rfl) ?_
  refine lv_iload_n hx hb dL_addTransition_4 rfl (lv_at hl 1 rfl) ?_
  refine lv_iload_n hx hb dL_addTransition_5 rfl (lv_at hl 2 rfl) ?_
  refine lv_iload_n hx hb dL_addTransition_6 rfl (lv_at hl 3 rfl) ?_
  refine jx_calli (vx_runV (As := [.int (nI a), .int (nI b), .int (nI c2)]) (rest := [.int (nI 0), .ref ao]) ⟨hx, hb, hml, hown, hts⟩ (c_X10_addTransition l hflg g (wT g ao ad ov dv tl) H.size σ a b c2 y_hA y_hM y_ha y_hb2 y_hc) (cwV 3 hts gL_addTransition_X10_addTransition rfl rfl rfl (by decide +kernel) ⟨Nat.le_of_ble_eq_true rfl, Nat.le_of_ble_eq_true rfl⟩) (okXV hKX hP hD hZ hS hAA rfl (gC0 g σ (wT g ao ad ov dv tl))) rfl rfl hl.1 rfl (lv_room (Nat.le_of_ble_eq_true rfl)) dL_addTransition_7 ⟨Nat.le_of_ble_eq_true rfl, Nat.le_of_ble_eq_true rfl⟩) hD hS hAA (fun E ce q9 u H locs hxp hP hD hS h7 h8 h9 => ?_) (fun r u H locs hw_ hP hD hS => ?_)
  · have e0 : True := trivial
    have hxp : (E = "java/lang/IndexOutOfBoundsException" ∧ (¬ (a < 5 ∧ b < 3 ∧ c2 < 5))) ∨ (E = "java/lang/IllegalStateException" ∧ ((a < 5 ∧ b < 3 ∧ c2 < 5) ∧ ¬ Nat.testBit ((σ.2.1 0) (a * 3 + b)) c2 = true ∧ 15 ≤ cntT (σ.2.1 0))) := hxp
    rcases hxp with ⟨rfl, hc⟩ | ⟨rfl, hc⟩
    · refine vx_catch (name := "java/lang/IndexOutOfBoundsException") hown [] ⟨0, 19, 22, 25⟩ [⟨0, 19, 26, 15⟩] (by rw [htab]; rfl) (fun _ h => absurd h List.not_mem_nil) (by decide) (by decide) (va_Nw.use rfl (hKL.2.2 _ (List.mem_of_getElem? (i := 2) rfl))) (va_Nw.use rfl (hKX.2.1 _ (List.mem_of_getElem? (i := 2) rfl))) h7 h8 h9 ?_
      refine lv_astore (lv' := [(5, .ref q9), (0, .ref (g.2.2.2 0)), (1, .int (nI a)), (2, .int (nI b)), (3, .int (nI c2)), (4, .ref ao)]) hx hb dL_addTransition_22 hl (by decide) rfl (fun ls hl => ?_)
      refine lv_iconst (v := nI 1) hx hb dL_addTransition_24 (by decide) ?_
      exact hq _ _ _ _ _ _ (nI 1) (_, ov, dv) (Nat.le_of_ble_eq_true rfl) (Nat.le_of_ble_eq_true rfl) dL_addTransition_25 (Or.inr (Or.inl ⟨rfl, hc, rfl⟩)) hP hD hS
    · refine vx_catch (name := "java/lang/IllegalStateException") hown [⟨0, 19, 22, 25⟩] ⟨0, 19, 26, 15⟩ [] (by rw [htab]; rfl) (List.forall_mem_cons.mpr ⟨Or.inr ⟨by decide, "java/lang/IndexOutOfBoundsException", va_Nw.use rfl (hKL.2.2 _ (List.mem_of_getElem? (i := 2) rfl)), hKL.2.1 _ (List.mem_of_getElem? (i := 3) rfl)⟩, fun _ h => absurd h List.not_mem_nil⟩) (by decide) (by decide) (va_Nw.use rfl (hKL.2.2 _ (List.mem_of_getElem? (i := 1) rfl))) (va_Nw.use rfl (hKX.2.1 _ (List.mem_of_getElem? (i := 1) rfl))) h7 h8 h9 ?_
      refine lv_astore (lv' := [(5, .ref q9), (0, .ref (g.2.2.2 0)), (1, .int (nI a)), (2, .int (nI b)), (3, .int (nI c2)), (4, .ref ao)]) hx hb dL_addTransition_26 hl (by decide) rfl (fun ls hl => ?_)
      refine lv_iconst (v := nI 2) hx hb dL_addTransition_28 (by decide) ?_
      exact hq _ _ _ _ _ _ (nI 2) (_, ov, dv) (Nat.le_of_ble_eq_true rfl) (Nat.le_of_ble_eq_true rfl) dL_addTransition_29 (Or.inr (Or.inr ⟨rfl, hc, rfl⟩)) hP hD hS
  · have e0 : True := trivial
    obtain ⟨f1, rfl⟩ : ∃ z, z = u := ⟨_, rfl⟩
    obtain ⟨rfl, h_⟩ := hw_
    have h_ : (a < 5 ∧ b < 3 ∧ c2 < 5) ∧ (Nat.testBit ((σ.2.1 0) (a * 3 + b)) c2 = true ∨ cntT (σ.2.1 0) < 15) ∧ (∀ x, x < 3 → ∀ m, m < 32 → f1 (x * 32 + m) = stp (va_up (σ.2.1 0) (a * 3 + b) ((σ.2.1 0) (a * 3 + b) ||| 2 ^ c2)) x m) := h_
    have hP : va_P (g.1, g.2.1) vwCl (wC g (sF (sA (sA (sF (sF (sL σ (2 + σ.1 9) (snp σ (σ.2.2 (2 + σ.1 9)))) 9 ((σ.1 9 + 1) % 8)) 10 (min (σ.1 10 + 1) 8)) 0 (va_up (σ.2.1 0) (a * 3 + b) ((σ.2.1 0) (a * 3 + b) ||| 2 ^ c2))) 1 f1) 21 0) ++ wT g ao ad ov dv tl) H := hP
    have hD : va_D A (wC g (sF (sA (sA (sF (sF (sL σ (2 + σ.1 9) (snp σ (σ.2.2 (2 + σ.1 9)))) 9 ((σ.1 9 + 1) % 8)) 10 (min (σ.1 10 + 1) 8)) 0 (va_up (σ.2.1 0) (a * 3 + b) ((σ.2.1 0) (a * 3 + b) ||| 2 ^ c2))) 1 f1) 21 0) ++ wT g ao ad ov dv tl) := hD
    refine jn_beq hx hb (tgt := 17) dL_addTransition_10 (by decide) (fun c_ => ?_) (fun c_ => ?_)
    · refine lv_lconst (v := 0) hx hb dL_addTransition_17 rfl ?_
      refine va_last (x := 0) hx hb hK.1 hP hD hS 42 1 (gT42 g (sF (sA (sA (sF (sF (sL σ (2 + σ.1 9) (snp σ (σ.2.2 (2 + σ.1 9)))) 9 ((σ.1 9 + 1) % 8)) 10 (min (σ.1 10 + 1) 8)) 0 (va_up (σ.2.1 0) (a * 3 + b) ((σ.2.1 0) (a * 3 + b) ||| 2 ^ c2))) 1 f1) 21 0) ao ad ov dv tl) rfl (vp_in_nI (by decide) (by decide)) dL_addTransition_18 (fun H locs hP hD hS => ?_)
      have hP : va_P (g.1, g.2.1) vwCl (wH g ao ad tl ((sF (sA (sA (sF (sF (sL σ (2 + σ.1 9) (snp σ (σ.2.2 (2 + σ.1 9)))) 9 ((σ.1 9 + 1) % 8)) 10 (min (σ.1 10 + 1) 8)) 0 (va_up (σ.2.1 0) (a * 3 + b) ((σ.2.1 0) (a * 3 + b) ||| 2 ^ c2))) 1 f1) 21 0), vp_updL ov 0 (0), dv)) H := hP
      have hD : va_D A (wH g ao ad tl ((sF (sA (sA (sF (sF (sL σ (2 + σ.1 9) (snp σ (σ.2.2 (2 + σ.1 9)))) 9 ((σ.1 9 + 1) % 8)) 10 (min (σ.1 10 + 1) 8)) 0 (va_up (σ.2.1 0) (a * 3 + b) ((σ.2.1 0) (a * 3 + b) ||| 2 ^ c2))) 1 f1) 21 0), vp_updL ov 0 (0), dv)) := hD
      refine lv_goto (tgt := 30) hx hb dL_addTransition_19 (by decide) ?_
      refine lv_iconst (v := nI 0) hx hb dL_addTransition_30 (by decide) ?_
      exact hq _ _ _ _ _ _ (nI 0) _ (Nat.le_of_ble_eq_true rfl) (Nat.le_of_ble_eq_true rfl) dL_addTransition_31 (Or.inl ⟨f1, rfl, h_.1, h_.2.1, h_.2.2, by rw [show (if ¬ Nat.testBit ((σ.2.1 0) (a * 3 + b)) c2 = true then 1 else 0) = (0 : Int64) from if_neg c_]⟩) hP hD hS
    · refine lv_lconst (v := 1) hx hb dL_addTransition_13 rfl ?_
      refine lv_goto (tgt := 18) hx hb dL_addTransition_14 (by decide) ?_
      refine va_last (x := 1) hx hb hK.1 hP hD hS 42 1 (gT42 g (sF (sA (sA (sF (sF (sL σ (2 + σ.1 9) (snp σ (σ.2.2 (2 + σ.1 9)))) 9 ((σ.1 9 + 1) % 8)) 10 (min (σ.1 10 + 1) 8)) 0 (va_up (σ.2.1 0) (a * 3 + b) ((σ.2.1 0) (a * 3 + b) ||| 2 ^ c2))) 1 f1) 21 0) ao ad ov dv tl) rfl (vp_in_nI (by decide) (by decide)) dL_addTransition_18 (fun H locs hP hD hS => ?_)
      have hP : va_P (g.1, g.2.1) vwCl (wH g ao ad tl ((sF (sA (sA (sF (sF (sL σ (2 + σ.1 9) (snp σ (σ.2.2 (2 + σ.1 9)))) 9 ((σ.1 9 + 1) % 8)) 10 (min (σ.1 10 + 1) 8)) 0 (va_up (σ.2.1 0) (a * 3 + b) ((σ.2.1 0) (a * 3 + b) ||| 2 ^ c2))) 1 f1) 21 0), vp_updL ov 0 (1), dv)) H := hP
      have hD : va_D A (wH g ao ad tl ((sF (sA (sA (sF (sF (sL σ (2 + σ.1 9) (snp σ (σ.2.2 (2 + σ.1 9)))) 9 ((σ.1 9 + 1) % 8)) 10 (min (σ.1 10 + 1) 8)) 0 (va_up (σ.2.1 0) (a * 3 + b) ((σ.2.1 0) (a * 3 + b) ||| 2 ^ c2))) 1 f1) 21 0), vp_updL ov 0 (1), dv)) := hD
      refine lv_goto (tgt := 30) hx hb dL_addTransition_19 (by decide) ?_
      refine lv_iconst (v := nI 0) hx hb dL_addTransition_30 (by decide) ?_
      exact hq _ _ _ _ _ _ (nI 0) _ (Nat.le_of_ble_eq_true rfl) (Nat.le_of_ble_eq_true rfl) dL_addTransition_31 (Or.inl ⟨f1, rfl, h_.1, h_.2.1, h_.2.2, by rw [show (if ¬ Nat.testBit ((σ.2.1 0) (a * 3 + b)) c2 = true then 1 else 0) = (1 : Int64) from if_pos c_]⟩) hP hD hS

def RH_removeTransition (σ : SS) (a : Nat) (b : Nat) (c2 : Nat) (ov : Nat → Int64) (dv : Nat → UInt64) (r : Int32) (z : HZ) : Prop :=
  (∃ (f1 : Nat → Nat), r = nI 0 ∧ (a < 5 ∧ b < 3 ∧ c2 < 5) ∧ (Nat.testBit ((σ.2.1 0) (a * 3 + b)) c2 = true) ∧ (∀ x, x < 3 → ∀ m, m < 32 → f1 (x * 32 + m) = stp (va_up (σ.2.1 0) (a * 3 + b) ((σ.2.1 0) (a * 3 + b) &&& (2 ^ c2 ^^^ 4294967295))) x m) ∧ z = ((sF (sA (sA (sF (sF (sL σ (2 + σ.1 9) (snp σ (σ.2.2 (2 + σ.1 9)))) 9 ((σ.1 9 + 1) % 8)) 10 (min (σ.1 10 + 1) 8)) 0 (va_up (σ.2.1 0) (a * 3 + b) ((σ.2.1 0) (a * 3 + b) &&& (2 ^ c2 ^^^ 4294967295)))) 1 f1) 21 0), ov, dv)) ∨ (r = nI 1 ∧ (¬ (a < 5 ∧ b < 3 ∧ c2 < 5)) ∧ z = (σ, ov, dv)) ∨ (r = nI 2 ∧ ((a < 5 ∧ b < 3 ∧ c2 < 5) ∧ ¬ Nat.testBit ((σ.2.1 0) (a * 3 + b)) c2 = true) ∧ z = (σ, ov, dv))
abbrev r_h_removeTransition : Room := { frames := 8, cells := 2, slots := 12, locals := 173 }
set_option maxHeartbeats 4000000 in
set_option maxRecDepth 100000 in
theorem h_removeTransition (l : Launch) (hflg : l.stackTraces = false) (g : GC) (tl : va_W) (sz : Nat) (σ : SS) (ao ad : Nat) (ov : Nat → Int64) (dv : Nat → UInt64) (a : Nat) (b : Nat) (c2 : Nat) (y_hA : OkA σ) (y_hM : OkM σ) (y_ha : a < 4294967296) (y_hb2 : b < 4294967296) (y_hc : c2 < 4294967296) : Met l yL_removeTransition wsL_removeTransition r_h_removeTransition (va_Pc [.ref (g.2.2.2 0), .int (nI a), .int (nI b), .int (nI c2)] (PH g (wH g ao ad tl (σ, ov, dv)) sz)) (va_Qi (fun r z => RH_removeTransition σ a b c2 ov dv r z) (fun z t => BW g (va_A (wH g ao ad tl (σ, ov, dv)) sz) (wH g ao ad tl z) t) (va_A (wH g ao ad tl (σ, ov, dv)) sz)) 2 12 (va_A (wH g ao ad tl (σ, ov, dv)) sz) := by
  refine jh_i (wf := wH g ao ad tl) (cc := cL_removeTransition) (maxL := 5) (by decide) rfl rfl (Nat.le_of_ble_eq_true rfl) ?_
  intro p e s m below meth c Q A hx hb hml hown hts hKL hP hD hS hAA hZ htab hq ls hl
  have hKX := hKL.1
  have hK := hKX.1
  obtain ⟨H, eH⟩ : ∃ z, z = s.heap := ⟨_, rfl⟩
  obtain ⟨locs, el⟩ : ∃ z : List Loc, z = [] := ⟨_, rfl⟩
  rw [← eH] at hP
  have hS : va_S A s.heap H locs := by rw [eH, el]; exact hS
  have goal0 : W p l e r_h_removeTransition s m ([.ref (g.2.2.2 0), .int (nI a), .int (nI b), .int (nI c2)] : List Value).toArray below meth c H locs 0 0 Q (F0 m 0 ls []) → W p l e r_h_removeTransition s m ([.ref (g.2.2.2 0), .int (nI a), .int (nI b), .int (nI c2)] : List Value).toArray below meth c s.heap [] 0 0 Q (F0 m 0 ls []) := fun h => by rw [eH, el] at h; exact h
  refine goal0 ?_
  have hl : lv_has ls 5 [(0, .ref (g.2.2.2 0)), (1, .int (nI a)), (2, .int (nI b)), (3, .int (nI c2))] := hl
  have hP : va_P (g.1, g.2.1) vwCl (wC g σ ++ wT g ao ad ov dv tl) H := hP
  have hD : va_D A (wC g σ ++ wT g ao ad ov dv tl) := hD
  refine lv_aload_n hx hb dL_removeTransition_0 rfl (lv_at hl 0 rfl) ?_
  refine lv_iload_n hx hb dL_removeTransition_1 rfl (lv_at hl 1 rfl) ?_
  refine lv_iload_n hx hb dL_removeTransition_2 rfl (lv_at hl 2 rfl) ?_
  refine lv_iload_n hx hb dL_removeTransition_3 rfl (lv_at hl 3 rfl) ?_
  refine jx_callv (vx_runV (As := [.int (nI a), .int (nI b), .int (nI c2)]) (rest := []) ⟨hx, hb, hml, hown, hts⟩ (c_X10_removeTransition l hflg g (wT g ao ad ov dv tl) H.size σ a b c2 y_hA y_hM y_ha y_hb2 y_hc) (cwV 3 hts gL_removeTransition_X10_removeTransition rfl rfl rfl (by decide +kernel) ⟨Nat.le_of_ble_eq_true rfl, Nat.le_of_ble_eq_true rfl⟩) (okXV hKX hP hD hZ hS hAA rfl (gC0 g σ (wT g ao ad ov dv tl))) rfl rfl hl.1 rfl (lv_room (Nat.le_of_ble_eq_true rfl)) dL_removeTransition_4 ⟨Nat.le_of_ble_eq_true rfl, Nat.le_of_ble_eq_true rfl⟩) hD hS hAA (fun E ce q9 u H locs hxp hP hD hS h7 h8 h9 => ?_) (fun u H locs hw_ hP hD hS => ?_)
  · have e0 : True := trivial
    have hxp : (E = "java/lang/IndexOutOfBoundsException" ∧ (¬ (a < 5 ∧ b < 3 ∧ c2 < 5))) ∨ (E = "java/util/NoSuchElementException" ∧ ((a < 5 ∧ b < 3 ∧ c2 < 5) ∧ ¬ Nat.testBit ((σ.2.1 0) (a * 3 + b)) c2 = true)) := hxp
    rcases hxp with ⟨rfl, hc⟩ | ⟨rfl, hc⟩
    · refine vx_catch (name := "java/lang/IndexOutOfBoundsException") hown [] ⟨0, 7, 10, 25⟩ [⟨0, 7, 14, 31⟩] (by rw [htab]; rfl) (fun _ h => absurd h List.not_mem_nil) (by decide) (by decide) (va_Nw.use rfl (hKL.2.2 _ (List.mem_of_getElem? (i := 2) rfl))) (va_Nw.use rfl (hKX.2.1 _ (List.mem_of_getElem? (i := 2) rfl))) h7 h8 h9 ?_
      refine lv_astore (lv' := [(4, .ref q9), (0, .ref (g.2.2.2 0)), (1, .int (nI a)), (2, .int (nI b)), (3, .int (nI c2))]) hx hb dL_removeTransition_10 hl (by decide) rfl (fun ls hl => ?_)
      refine lv_iconst (v := nI 1) hx hb dL_removeTransition_12 (by decide) ?_
      exact hq _ _ _ _ _ _ (nI 1) (_, ov, dv) (Nat.le_of_ble_eq_true rfl) (Nat.le_of_ble_eq_true rfl) dL_removeTransition_13 (Or.inr (Or.inl ⟨rfl, hc, rfl⟩)) hP hD hS
    · refine vx_catch (name := "java/util/NoSuchElementException") hown [⟨0, 7, 10, 25⟩] ⟨0, 7, 14, 31⟩ [] (by rw [htab]; rfl) (List.forall_mem_cons.mpr ⟨Or.inr ⟨by decide, "java/lang/IndexOutOfBoundsException", va_Nw.use rfl (hKL.2.2 _ (List.mem_of_getElem? (i := 2) rfl)), hKL.2.1 _ (List.mem_of_getElem? (i := 4) rfl)⟩, fun _ h => absurd h List.not_mem_nil⟩) (by decide) (by decide) (va_Nw.use rfl (hKL.2.2 _ (List.mem_of_getElem? (i := 3) rfl))) (va_Nw.use rfl (hKX.2.1 _ (List.mem_of_getElem? (i := 3) rfl))) h7 h8 h9 ?_
      refine lv_astore (lv' := [(4, .ref q9), (0, .ref (g.2.2.2 0)), (1, .int (nI a)), (2, .int (nI b)), (3, .int (nI c2))]) hx hb dL_removeTransition_14 hl (by decide) rfl (fun ls hl => ?_)
      refine lv_iconst (v := nI 2) hx hb dL_removeTransition_16 (by decide) ?_
      exact hq _ _ _ _ _ _ (nI 2) (_, ov, dv) (Nat.le_of_ble_eq_true rfl) (Nat.le_of_ble_eq_true rfl) dL_removeTransition_17 (Or.inr (Or.inr ⟨rfl, hc, rfl⟩)) hP hD hS
  · have e0 : True := trivial
    obtain ⟨f1, rfl⟩ : ∃ z, z = u := ⟨_, rfl⟩
    have h_ := hw_
    have h_ : (a < 5 ∧ b < 3 ∧ c2 < 5) ∧ (Nat.testBit ((σ.2.1 0) (a * 3 + b)) c2 = true) ∧ (∀ x, x < 3 → ∀ m, m < 32 → f1 (x * 32 + m) = stp (va_up (σ.2.1 0) (a * 3 + b) ((σ.2.1 0) (a * 3 + b) &&& (2 ^ c2 ^^^ 4294967295))) x m) := h_
    have hP : va_P (g.1, g.2.1) vwCl (wC g (sF (sA (sA (sF (sF (sL σ (2 + σ.1 9) (snp σ (σ.2.2 (2 + σ.1 9)))) 9 ((σ.1 9 + 1) % 8)) 10 (min (σ.1 10 + 1) 8)) 0 (va_up (σ.2.1 0) (a * 3 + b) ((σ.2.1 0) (a * 3 + b) &&& (2 ^ c2 ^^^ 4294967295)))) 1 f1) 21 0) ++ wT g ao ad ov dv tl) H := hP
    have hD : va_D A (wC g (sF (sA (sA (sF (sF (sL σ (2 + σ.1 9) (snp σ (σ.2.2 (2 + σ.1 9)))) 9 ((σ.1 9 + 1) % 8)) 10 (min (σ.1 10 + 1) 8)) 0 (va_up (σ.2.1 0) (a * 3 + b) ((σ.2.1 0) (a * 3 + b) &&& (2 ^ c2 ^^^ 4294967295)))) 1 f1) 21 0) ++ wT g ao ad ov dv tl) := hD
    have hP : va_P (g.1, g.2.1) vwCl (wH g ao ad tl ((sF (sA (sA (sF (sF (sL σ (2 + σ.1 9) (snp σ (σ.2.2 (2 + σ.1 9)))) 9 ((σ.1 9 + 1) % 8)) 10 (min (σ.1 10 + 1) 8)) 0 (va_up (σ.2.1 0) (a * 3 + b) ((σ.2.1 0) (a * 3 + b) &&& (2 ^ c2 ^^^ 4294967295)))) 1 f1) 21 0), ov, dv)) H := hP
    have hD : va_D A (wH g ao ad tl ((sF (sA (sA (sF (sF (sL σ (2 + σ.1 9) (snp σ (σ.2.2 (2 + σ.1 9)))) 9 ((σ.1 9 + 1) % 8)) 10 (min (σ.1 10 + 1) 8)) 0 (va_up (σ.2.1 0) (a * 3 + b) ((σ.2.1 0) (a * 3 + b) &&& (2 ^ c2 ^^^ 4294967295)))) 1 f1) 21 0), ov, dv)) := hD
    refine lv_goto (tgt := 18) hx hb dL_removeTransition_7 (by decide) ?_
    refine lv_iconst (v := nI 0) hx hb dL_removeTransition_18 (by decide) ?_
    exact hq _ _ _ _ _ _ (nI 0) _ (Nat.le_of_ble_eq_true rfl) (Nat.le_of_ble_eq_true rfl) dL_removeTransition_19 (Or.inl ⟨f1, rfl, h_.1, h_.2.1, h_.2.2, rfl⟩) hP hD hS

def RH_setFinal (σ : SS) (x : Nat) (b : Nat) (ov : Nat → Int64) (dv : Nat → UInt64) (r : Int32) (z : HZ) : Prop :=
  (∃ (f1 : Nat → Nat), r = nI 0 ∧ (x < 5) ∧ (∀ x, x < 3 → ∀ m, m < 32 → f1 (x * 32 + m) = stp (σ.2.1 0) x m) ∧ z = ((sF (sA (sF (sF (sF (sL σ (2 + σ.1 9) (snp σ (σ.2.2 (2 + σ.1 9)))) 9 ((σ.1 9 + 1) % 8)) 10 (min (σ.1 10 + 1) 8)) 0 (if b = 0 then (σ.1 0) &&& (2 ^ x ^^^ 4294967295) else (σ.1 0) ||| 2 ^ x)) 1 f1) 21 0), vp_updL ov 0 (if 2 ^ x &&& (σ.1 0) ≠ 0 then 1 else 0), dv)) ∨ (r = nI 1 ∧ (¬ x < 5) ∧ z = (σ, ov, dv))
abbrev r_h_setFinal : Room := { frames := 7, cells := 1, slots := 6, locals := 173 }
set_option maxHeartbeats 4000000 in
set_option maxRecDepth 100000 in
theorem h_setFinal (l : Launch) (hflg : l.stackTraces = false) (g : GC) (tl : va_W) (sz : Nat) (σ : SS) (ao ad : Nat) (ov : Nat → Int64) (dv : Nat → UInt64) (x : Nat) (b : Nat) (y_hA : OkA σ) (y_hM : OkM σ) (y_hx : x < 4294967296) (y_hb2 : b < 2) : Met l yL_setFinal wsL_setFinal r_h_setFinal (va_Pc [.ref (g.2.2.2 0), .int (nI x), .int (nI b), .ref ao] (PH g (wH g ao ad tl (σ, ov, dv)) sz)) (va_Qi (fun r z => RH_setFinal σ x b ov dv r z) (fun z t => BW g (va_A (wH g ao ad tl (σ, ov, dv)) sz) (wH g ao ad tl z) t) (va_A (wH g ao ad tl (σ, ov, dv)) sz)) 1 6 (va_A (wH g ao ad tl (σ, ov, dv)) sz) := by
  refine jh_i (wf := wH g ao ad tl) (cc := cL_setFinal) (maxL := 5) (by decide) rfl rfl (Nat.le_of_ble_eq_true rfl) ?_
  intro p e s m below meth c Q A hx hb hml hown hts hKL hP hD hS hAA hZ htab hq ls hl
  have hKX := hKL.1
  have hK := hKX.1
  obtain ⟨H, eH⟩ : ∃ z, z = s.heap := ⟨_, rfl⟩
  obtain ⟨locs, el⟩ : ∃ z : List Loc, z = [] := ⟨_, rfl⟩
  rw [← eH] at hP
  have hS : va_S A s.heap H locs := by rw [eH, el]; exact hS
  have goal0 : W p l e r_h_setFinal s m ([.ref (g.2.2.2 0), .int (nI x), .int (nI b), .ref ao] : List Value).toArray below meth c H locs 0 0 Q (F0 m 0 ls []) → W p l e r_h_setFinal s m ([.ref (g.2.2.2 0), .int (nI x), .int (nI b), .ref ao] : List Value).toArray below meth c s.heap [] 0 0 Q (F0 m 0 ls []) := fun h => by rw [eH, el] at h; exact h
  refine goal0 ?_
  have hl : lv_has ls 5 [(0, .ref (g.2.2.2 0)), (1, .int (nI x)), (2, .int (nI b)), (3, .ref ao)] := hl
  have hP : va_P (g.1, g.2.1) vwCl (wC g σ ++ wT g ao ad ov dv tl) H := hP
  have hD : va_D A (wC g σ ++ wT g ao ad ov dv tl) := hD
  refine lv_aload_n hx hb dL_setFinal_0 rfl (lv_at hl 3 rfl) ?_
  refine lv_iconst (v := nI 0) hx hb dL_setFinal_1 (by decide) ?_
  refine lv_aload_n hx hb dL_setFinal_2 rfl (lv_at hl 0 rfl) ?_
  refine lv_iload_n hx hb dL_setFinal_3 rfl (lv_at hl 1 rfl) ?_
  refine lv_iload_n hx hb dL_setFinal_4 rfl (lv_at hl 2 rfl) ?_
  refine jx_calli (vx_runV (As := [.int (nI x), .int (nI b)]) (rest := [.int (nI 0), .ref ao]) ⟨hx, hb, hml, hown, hts⟩ (c_X10_setFinal l hflg g (wT g ao ad ov dv tl) H.size σ x b y_hA y_hM y_hx y_hb2) (cwV 2 hts gL_setFinal_X10_setFinal rfl rfl rfl (by decide +kernel) ⟨Nat.le_of_ble_eq_true rfl, Nat.le_of_ble_eq_true rfl⟩) (okXV hKX hP hD hZ hS hAA rfl (gC0 g σ (wT g ao ad ov dv tl))) rfl rfl hl.1 rfl (lv_room (Nat.le_of_ble_eq_true rfl)) dL_setFinal_5 ⟨Nat.le_of_ble_eq_true rfl, Nat.le_of_ble_eq_true rfl⟩) hD hS hAA (fun E ce q9 u H locs hxp hP hD hS h7 h8 h9 => ?_) (fun r u H locs hw_ hP hD hS => ?_)
  · have e0 : True := trivial
    have hxp : (E = "java/lang/IndexOutOfBoundsException" ∧ (¬ x < 5)) := hxp
    rcases hxp with ⟨rfl, hc⟩
    · refine vx_catch (name := "java/lang/IndexOutOfBoundsException") hown [] ⟨0, 17, 20, 25⟩ [] (by rw [htab]; rfl) (fun _ h => absurd h List.not_mem_nil) (by decide) (by decide) (va_Nw.use rfl (hKL.2.2 _ (List.mem_of_getElem? (i := 2) rfl))) (va_Nw.use rfl (hKX.2.1 _ (List.mem_of_getElem? (i := 2) rfl))) h7 h8 h9 ?_
      refine lv_astore (lv' := [(4, .ref q9), (0, .ref (g.2.2.2 0)), (1, .int (nI x)), (2, .int (nI b)), (3, .ref ao)]) hx hb dL_setFinal_20 hl (by decide) rfl (fun ls hl => ?_)
      refine lv_iconst (v := nI 1) hx hb dL_setFinal_22 (by decide) ?_
      exact hq _ _ _ _ _ _ (nI 1) (_, ov, dv) (Nat.le_of_ble_eq_true rfl) (Nat.le_of_ble_eq_true rfl) dL_setFinal_23 (Or.inr ⟨rfl, hc, rfl⟩) hP hD hS
  · have e0 : True := trivial
    obtain ⟨f1, rfl⟩ : ∃ z, z = u := ⟨_, rfl⟩
    obtain ⟨rfl, h_⟩ := hw_
    have h_ : (x < 5) ∧ (∀ x, x < 3 → ∀ m, m < 32 → f1 (x * 32 + m) = stp (σ.2.1 0) x m) := h_
    have hP : va_P (g.1, g.2.1) vwCl (wC g (sF (sA (sF (sF (sF (sL σ (2 + σ.1 9) (snp σ (σ.2.2 (2 + σ.1 9)))) 9 ((σ.1 9 + 1) % 8)) 10 (min (σ.1 10 + 1) 8)) 0 (if b = 0 then (σ.1 0) &&& (2 ^ x ^^^ 4294967295) else (σ.1 0) ||| 2 ^ x)) 1 f1) 21 0) ++ wT g ao ad ov dv tl) H := hP
    have hD : va_D A (wC g (sF (sA (sF (sF (sF (sL σ (2 + σ.1 9) (snp σ (σ.2.2 (2 + σ.1 9)))) 9 ((σ.1 9 + 1) % 8)) 10 (min (σ.1 10 + 1) 8)) 0 (if b = 0 then (σ.1 0) &&& (2 ^ x ^^^ 4294967295) else (σ.1 0) ||| 2 ^ x)) 1 f1) 21 0) ++ wT g ao ad ov dv tl) := hD
    refine jn_beq hx hb (tgt := 15) dL_setFinal_8 (by decide) (fun c_ => ?_) (fun c_ => ?_)
    · refine lv_lconst (v := 0) hx hb dL_setFinal_15 rfl ?_
      refine va_last (x := 0) hx hb hK.1 hP hD hS 42 1 (gT42 g (sF (sA (sF (sF (sF (sL σ (2 + σ.1 9) (snp σ (σ.2.2 (2 + σ.1 9)))) 9 ((σ.1 9 + 1) % 8)) 10 (min (σ.1 10 + 1) 8)) 0 (if b = 0 then (σ.1 0) &&& (2 ^ x ^^^ 4294967295) else (σ.1 0) ||| 2 ^ x)) 1 f1) 21 0) ao ad ov dv tl) rfl (vp_in_nI (by decide) (by decide)) dL_setFinal_16 (fun H locs hP hD hS => ?_)
      have hP : va_P (g.1, g.2.1) vwCl (wH g ao ad tl ((sF (sA (sF (sF (sF (sL σ (2 + σ.1 9) (snp σ (σ.2.2 (2 + σ.1 9)))) 9 ((σ.1 9 + 1) % 8)) 10 (min (σ.1 10 + 1) 8)) 0 (if b = 0 then (σ.1 0) &&& (2 ^ x ^^^ 4294967295) else (σ.1 0) ||| 2 ^ x)) 1 f1) 21 0), vp_updL ov 0 (0), dv)) H := hP
      have hD : va_D A (wH g ao ad tl ((sF (sA (sF (sF (sF (sL σ (2 + σ.1 9) (snp σ (σ.2.2 (2 + σ.1 9)))) 9 ((σ.1 9 + 1) % 8)) 10 (min (σ.1 10 + 1) 8)) 0 (if b = 0 then (σ.1 0) &&& (2 ^ x ^^^ 4294967295) else (σ.1 0) ||| 2 ^ x)) 1 f1) 21 0), vp_updL ov 0 (0), dv)) := hD
      refine lv_goto (tgt := 24) hx hb dL_setFinal_17 (by decide) ?_
      refine lv_iconst (v := nI 0) hx hb dL_setFinal_24 (by decide) ?_
      exact hq _ _ _ _ _ _ (nI 0) _ (Nat.le_of_ble_eq_true rfl) (Nat.le_of_ble_eq_true rfl) dL_setFinal_25 (Or.inl ⟨f1, rfl, h_.1, h_.2, by rw [show (if 2 ^ x &&& (σ.1 0) ≠ 0 then 1 else 0) = (0 : Int64) from if_neg c_]⟩) hP hD hS
    · refine lv_lconst (v := 1) hx hb dL_setFinal_11 rfl ?_
      refine lv_goto (tgt := 16) hx hb dL_setFinal_12 (by decide) ?_
      refine va_last (x := 1) hx hb hK.1 hP hD hS 42 1 (gT42 g (sF (sA (sF (sF (sF (sL σ (2 + σ.1 9) (snp σ (σ.2.2 (2 + σ.1 9)))) 9 ((σ.1 9 + 1) % 8)) 10 (min (σ.1 10 + 1) 8)) 0 (if b = 0 then (σ.1 0) &&& (2 ^ x ^^^ 4294967295) else (σ.1 0) ||| 2 ^ x)) 1 f1) 21 0) ao ad ov dv tl) rfl (vp_in_nI (by decide) (by decide)) dL_setFinal_16 (fun H locs hP hD hS => ?_)
      have hP : va_P (g.1, g.2.1) vwCl (wH g ao ad tl ((sF (sA (sF (sF (sF (sL σ (2 + σ.1 9) (snp σ (σ.2.2 (2 + σ.1 9)))) 9 ((σ.1 9 + 1) % 8)) 10 (min (σ.1 10 + 1) 8)) 0 (if b = 0 then (σ.1 0) &&& (2 ^ x ^^^ 4294967295) else (σ.1 0) ||| 2 ^ x)) 1 f1) 21 0), vp_updL ov 0 (1), dv)) H := hP
      have hD : va_D A (wH g ao ad tl ((sF (sA (sF (sF (sF (sL σ (2 + σ.1 9) (snp σ (σ.2.2 (2 + σ.1 9)))) 9 ((σ.1 9 + 1) % 8)) 10 (min (σ.1 10 + 1) 8)) 0 (if b = 0 then (σ.1 0) &&& (2 ^ x ^^^ 4294967295) else (σ.1 0) ||| 2 ^ x)) 1 f1) 21 0), vp_updL ov 0 (1), dv)) := hD
      refine lv_goto (tgt := 24) hx hb dL_setFinal_17 (by decide) ?_
      refine lv_iconst (v := nI 0) hx hb dL_setFinal_24 (by decide) ?_
      exact hq _ _ _ _ _ _ (nI 0) _ (Nat.le_of_ble_eq_true rfl) (Nat.le_of_ble_eq_true rfl) dL_setFinal_25 (Or.inl ⟨f1, rfl, h_.1, h_.2, by rw [show (if 2 ^ x &&& (σ.1 0) ≠ 0 then 1 else 0) = (1 : Int64) from if_pos c_]⟩) hP hD hS

def RH_transition (σ : SS) (idx : Nat) (ov : Nat → Int64) (dv : Nat → UInt64) (r : Int32) (z : HZ) : Prop :=
  (r = nI 0 ∧ (idx < cntT (σ.2.1 0)) ∧ z = (σ, vp_updL ov 0 ((nI (cdT (kth (pT (σ.2.1 0)) idx 75))).toInt64), dv)) ∨ (r = nI 1 ∧ (¬ idx < cntT (σ.2.1 0)) ∧ z = (σ, ov, dv))
abbrev r_h_transition : Room := { frames := 7, cells := 1, slots := 6, locals := 111 }
set_option maxHeartbeats 4000000 in
set_option maxRecDepth 100000 in
theorem h_transition (l : Launch) (hflg : l.stackTraces = false) (g : GC) (tl : va_W) (sz : Nat) (σ : SS) (ao ad : Nat) (ov : Nat → Int64) (dv : Nat → UInt64) (idx : Nat) (y_hA : OkA σ) (y_hidx : idx < 4294967296) : Met l yL_transition wsL_transition r_h_transition (va_Pc [.ref (g.2.2.2 0), .int (nI idx), .ref ao] (PH g (wH g ao ad tl (σ, ov, dv)) sz)) (va_Qi (fun r z => RH_transition σ idx ov dv r z) (fun z t => BW g (va_A (wH g ao ad tl (σ, ov, dv)) sz) (wH g ao ad tl z) t) (va_A (wH g ao ad tl (σ, ov, dv)) sz)) 1 6 (va_A (wH g ao ad tl (σ, ov, dv)) sz) := by
  refine jh_i (wf := wH g ao ad tl) (cc := cL_transition) (maxL := 4) (by decide) rfl rfl (Nat.le_of_ble_eq_true rfl) ?_
  intro p e s m below meth c Q A hx hb hml hown hts hKL hP hD hS hAA hZ htab hq ls hl
  have hKX := hKL.1
  have hK := hKX.1
  obtain ⟨H, eH⟩ : ∃ z, z = s.heap := ⟨_, rfl⟩
  obtain ⟨locs, el⟩ : ∃ z : List Loc, z = [] := ⟨_, rfl⟩
  rw [← eH] at hP
  have hS : va_S A s.heap H locs := by rw [eH, el]; exact hS
  have goal0 : W p l e r_h_transition s m ([.ref (g.2.2.2 0), .int (nI idx), .ref ao] : List Value).toArray below meth c H locs 0 0 Q (F0 m 0 ls []) → W p l e r_h_transition s m ([.ref (g.2.2.2 0), .int (nI idx), .ref ao] : List Value).toArray below meth c s.heap [] 0 0 Q (F0 m 0 ls []) := fun h => by rw [eH, el] at h; exact h
  refine goal0 ?_
  have hl : lv_has ls 4 [(0, .ref (g.2.2.2 0)), (1, .int (nI idx)), (2, .ref ao)] := hl
  have hP : va_P (g.1, g.2.1) vwCl (wC g σ ++ wT g ao ad ov dv tl) H := hP
  have hD : va_D A (wC g σ ++ wT g ao ad ov dv tl) := hD
  refine lv_aload_n hx hb dL_transition_0 rfl (lv_at hl 2 rfl) ?_
  refine lv_iconst (v := nI 0) hx hb dL_transition_1 (by decide) ?_
  refine lv_aload_n hx hb dL_transition_2 rfl (lv_at hl 0 rfl) ?_
  refine lv_iload_n hx hb dL_transition_3 rfl (lv_at hl 1 rfl) ?_
  refine jx_calli (vx_runV (As := [.int (nI idx)]) (rest := [.int (nI 0), .ref ao]) ⟨hx, hb, hml, hown, hts⟩ (c_X10_transition l hflg g (wT g ao ad ov dv tl) H.size σ idx y_hA y_hidx) (cwV 1 hts gL_transition_X10_transition rfl rfl rfl (by decide +kernel) ⟨Nat.le_of_ble_eq_true rfl, Nat.le_of_ble_eq_true rfl⟩) (okXV hKX hP hD hZ hS hAA rfl (gC0 g σ (wT g ao ad ov dv tl))) rfl rfl hl.1 rfl (lv_room (Nat.le_of_ble_eq_true rfl)) dL_transition_4 ⟨Nat.le_of_ble_eq_true rfl, Nat.le_of_ble_eq_true rfl⟩) hD hS hAA (fun E ce q9 u H locs hxp hP hD hS h7 h8 h9 => ?_) (fun r u H locs hw_ hP hD hS => ?_)
  · have e0 : True := trivial
    have hxp : (E = "java/lang/IndexOutOfBoundsException" ∧ (¬ idx < cntT (σ.2.1 0))) := hxp
    rcases hxp with ⟨rfl, hc⟩
    · refine vx_catch (name := "java/lang/IndexOutOfBoundsException") hown [] ⟨0, 9, 12, 25⟩ [] (by rw [htab]; rfl) (fun _ h => absurd h List.not_mem_nil) (by decide) (by decide) (va_Nw.use rfl (hKL.2.2 _ (List.mem_of_getElem? (i := 2) rfl))) (va_Nw.use rfl (hKX.2.1 _ (List.mem_of_getElem? (i := 2) rfl))) h7 h8 h9 ?_
      refine lv_astore_n (lv' := [(3, .ref q9), (0, .ref (g.2.2.2 0)), (1, .int (nI idx)), (2, .ref ao)]) hx hb dL_transition_12 rfl hl (by decide) rfl (fun ls hl => ?_)
      refine lv_iconst (v := nI 1) hx hb dL_transition_13 (by decide) ?_
      exact hq _ _ _ _ _ _ (nI 1) (_, ov, dv) (Nat.le_of_ble_eq_true rfl) (Nat.le_of_ble_eq_true rfl) dL_transition_14 (Or.inr ⟨rfl, hc, rfl⟩) hP hD hS
  · have e0 : True := trivial
    obtain ⟨rfl, h_⟩ := hw_
    have h_ : idx < cntT (σ.2.1 0) := h_
    have hP : va_P (g.1, g.2.1) vwCl (wC g σ ++ wT g ao ad ov dv tl) H := hP
    have hD : va_D A (wC g σ ++ wT g ao ad ov dv tl) := hD
    refine lv_i2l hx hb dL_transition_7 rfl ?_
    refine va_last (x := (nI (cdT (kth (pT (σ.2.1 0)) idx 75))).toInt64) hx hb hK.1 hP hD hS 42 1 (gT42 g σ ao ad ov dv tl) rfl (vp_in_nI (by decide) (by decide)) dL_transition_8 (fun H locs hP hD hS => ?_)
    have hP : va_P (g.1, g.2.1) vwCl (wH g ao ad tl (σ, vp_updL ov 0 ((nI (cdT (kth (pT (σ.2.1 0)) idx 75))).toInt64), dv)) H := hP
    have hD : va_D A (wH g ao ad tl (σ, vp_updL ov 0 ((nI (cdT (kth (pT (σ.2.1 0)) idx 75))).toInt64), dv)) := hD
    refine lv_goto (tgt := 15) hx hb dL_transition_9 (by decide) ?_
    refine lv_iconst (v := nI 0) hx hb dL_transition_15 (by decide) ?_
    exact hq _ _ _ _ _ _ (nI 0) _ (Nat.le_of_ble_eq_true rfl) (Nat.le_of_ble_eq_true rfl) dL_transition_16 (Or.inl ⟨rfl, h_, rfl⟩) hP hD hS

def RH_appendLetter (σ : SS) (x : Nat) (ov : Nat → Int64) (dv : Nat → UInt64) (r : Int32) (z : HZ) : Prop :=
  (r = nI 0 ∧ (x < 3) ∧ ((σ.1 20) < 8) ∧ z = ((sF (sF (sA σ 14 (va_up (σ.2.1 14) (σ.1 20) x)) 20 ((σ.1 20) + 1)) 21 0), vp_updL ov 0 ((nI ((σ.1 20) + 1)).toInt64), dv)) ∨ (r = nI 1 ∧ (¬ x < 3) ∧ z = (σ, ov, dv)) ∨ (r = nI 2 ∧ (x < 3 ∧ 8 ≤ (σ.1 20)) ∧ z = (σ, ov, dv))
abbrev r_h_appendLetter : Room := { frames := 7, cells := 1, slots := 6, locals := 103 }
set_option maxHeartbeats 4000000 in
set_option maxRecDepth 100000 in
theorem h_appendLetter (l : Launch) (hflg : l.stackTraces = false) (g : GC) (tl : va_W) (sz : Nat) (σ : SS) (ao ad : Nat) (ov : Nat → Int64) (dv : Nat → UInt64) (x : Nat) (y_hw8 : (σ.1 20) ≤ 8) (y_hx : x < 4294967296) : Met l yL_appendLetter wsL_appendLetter r_h_appendLetter (va_Pc [.ref (g.2.2.2 0), .int (nI x), .ref ao] (PH g (wH g ao ad tl (σ, ov, dv)) sz)) (va_Qi (fun r z => RH_appendLetter σ x ov dv r z) (fun z t => BW g (va_A (wH g ao ad tl (σ, ov, dv)) sz) (wH g ao ad tl z) t) (va_A (wH g ao ad tl (σ, ov, dv)) sz)) 1 6 (va_A (wH g ao ad tl (σ, ov, dv)) sz) := by
  refine jh_i (wf := wH g ao ad tl) (cc := cL_appendLetter) (maxL := 4) (by decide) rfl rfl (Nat.le_of_ble_eq_true rfl) ?_
  intro p e s m below meth c Q A hx hb hml hown hts hKL hP hD hS hAA hZ htab hq ls hl
  have hKX := hKL.1
  have hK := hKX.1
  obtain ⟨H, eH⟩ : ∃ z, z = s.heap := ⟨_, rfl⟩
  obtain ⟨locs, el⟩ : ∃ z : List Loc, z = [] := ⟨_, rfl⟩
  rw [← eH] at hP
  have hS : va_S A s.heap H locs := by rw [eH, el]; exact hS
  have goal0 : W p l e r_h_appendLetter s m ([.ref (g.2.2.2 0), .int (nI x), .ref ao] : List Value).toArray below meth c H locs 0 0 Q (F0 m 0 ls []) → W p l e r_h_appendLetter s m ([.ref (g.2.2.2 0), .int (nI x), .ref ao] : List Value).toArray below meth c s.heap [] 0 0 Q (F0 m 0 ls []) := fun h => by rw [eH, el] at h; exact h
  refine goal0 ?_
  have hl : lv_has ls 4 [(0, .ref (g.2.2.2 0)), (1, .int (nI x)), (2, .ref ao)] := hl
  have hP : va_P (g.1, g.2.1) vwCl (wC g σ ++ wT g ao ad ov dv tl) H := hP
  have hD : va_D A (wC g σ ++ wT g ao ad ov dv tl) := hD
  refine lv_aload_n hx hb dL_appendLetter_0 rfl (lv_at hl 2 rfl) ?_
  refine lv_iconst (v := nI 0) hx hb dL_appendLetter_1 (by decide) ?_
  refine lv_aload_n hx hb dL_appendLetter_2 rfl (lv_at hl 0 rfl) ?_
  refine lv_iload_n hx hb dL_appendLetter_3 rfl (lv_at hl 1 rfl) ?_
  refine jx_calli (vx_runV (As := [.int (nI x)]) (rest := [.int (nI 0), .ref ao]) ⟨hx, hb, hml, hown, hts⟩ (c_X10_appendLetter l hflg g (wT g ao ad ov dv tl) H.size σ x y_hw8 y_hx) (cwV 1 hts gL_appendLetter_X10_appendLetter rfl rfl rfl (by decide +kernel) ⟨Nat.le_of_ble_eq_true rfl, Nat.le_of_ble_eq_true rfl⟩) (okXV hKX hP hD hZ hS hAA rfl (gC0 g σ (wT g ao ad ov dv tl))) rfl rfl hl.1 rfl (lv_room (Nat.le_of_ble_eq_true rfl)) dL_appendLetter_4 ⟨Nat.le_of_ble_eq_true rfl, Nat.le_of_ble_eq_true rfl⟩) hD hS hAA (fun E ce q9 u H locs hxp hP hD hS h7 h8 h9 => ?_) (fun r u H locs hw_ hP hD hS => ?_)
  · have e0 : True := trivial
    have hxp : (E = "java/lang/IllegalArgumentException" ∧ (¬ x < 3)) ∨ (E = "java/lang/IllegalStateException" ∧ (x < 3 ∧ 8 ≤ (σ.1 20))) := hxp
    rcases hxp with ⟨rfl, hc⟩ | ⟨rfl, hc⟩
    · refine vx_catch (name := "java/lang/IllegalArgumentException") hown [] ⟨0, 9, 12, 13⟩ [⟨0, 9, 15, 15⟩] (by rw [htab]; rfl) (fun _ h => absurd h List.not_mem_nil) (by decide) (by decide) (va_Nw.use rfl (hKL.2.2 _ (List.mem_of_getElem? (i := 0) rfl))) (va_Nw.use rfl (hKX.2.1 _ (List.mem_of_getElem? (i := 0) rfl))) h7 h8 h9 ?_
      refine lv_astore_n (lv' := [(3, .ref q9), (0, .ref (g.2.2.2 0)), (1, .int (nI x)), (2, .ref ao)]) hx hb dL_appendLetter_12 rfl hl (by decide) rfl (fun ls hl => ?_)
      refine lv_iconst (v := nI 1) hx hb dL_appendLetter_13 (by decide) ?_
      exact hq _ _ _ _ _ _ (nI 1) (_, ov, dv) (Nat.le_of_ble_eq_true rfl) (Nat.le_of_ble_eq_true rfl) dL_appendLetter_14 (Or.inr (Or.inl ⟨rfl, hc, rfl⟩)) hP hD hS
    · refine vx_catch (name := "java/lang/IllegalStateException") hown [⟨0, 9, 12, 13⟩] ⟨0, 9, 15, 15⟩ [] (by rw [htab]; rfl) (List.forall_mem_cons.mpr ⟨Or.inr ⟨by decide, "java/lang/IllegalArgumentException", va_Nw.use rfl (hKL.2.2 _ (List.mem_of_getElem? (i := 0) rfl)), hKL.2.1 _ (List.mem_of_getElem? (i := 0) rfl)⟩, fun _ h => absurd h List.not_mem_nil⟩) (by decide) (by decide) (va_Nw.use rfl (hKL.2.2 _ (List.mem_of_getElem? (i := 1) rfl))) (va_Nw.use rfl (hKX.2.1 _ (List.mem_of_getElem? (i := 1) rfl))) h7 h8 h9 ?_
      refine lv_astore_n (lv' := [(3, .ref q9), (0, .ref (g.2.2.2 0)), (1, .int (nI x)), (2, .ref ao)]) hx hb dL_appendLetter_15 rfl hl (by decide) rfl (fun ls hl => ?_)
      refine lv_iconst (v := nI 2) hx hb dL_appendLetter_16 (by decide) ?_
      exact hq _ _ _ _ _ _ (nI 2) (_, ov, dv) (Nat.le_of_ble_eq_true rfl) (Nat.le_of_ble_eq_true rfl) dL_appendLetter_17 (Or.inr (Or.inr ⟨rfl, hc, rfl⟩)) hP hD hS
  · have e0 : True := trivial
    obtain ⟨rfl, h_⟩ := hw_
    have h_ : (x < 3) ∧ ((σ.1 20) < 8) := h_
    have hP : va_P (g.1, g.2.1) vwCl (wC g (sF (sF (sA σ 14 (va_up (σ.2.1 14) (σ.1 20) x)) 20 ((σ.1 20) + 1)) 21 0) ++ wT g ao ad ov dv tl) H := hP
    have hD : va_D A (wC g (sF (sF (sA σ 14 (va_up (σ.2.1 14) (σ.1 20) x)) 20 ((σ.1 20) + 1)) 21 0) ++ wT g ao ad ov dv tl) := hD
    refine lv_i2l hx hb dL_appendLetter_7 rfl ?_
    refine va_last (x := (nI ((σ.1 20) + 1)).toInt64) hx hb hK.1 hP hD hS 42 1 (gT42 g (sF (sF (sA σ 14 (va_up (σ.2.1 14) (σ.1 20) x)) 20 ((σ.1 20) + 1)) 21 0) ao ad ov dv tl) rfl (vp_in_nI (by decide) (by decide)) dL_appendLetter_8 (fun H locs hP hD hS => ?_)
    have hP : va_P (g.1, g.2.1) vwCl (wH g ao ad tl ((sF (sF (sA σ 14 (va_up (σ.2.1 14) (σ.1 20) x)) 20 ((σ.1 20) + 1)) 21 0), vp_updL ov 0 ((nI ((σ.1 20) + 1)).toInt64), dv)) H := hP
    have hD : va_D A (wH g ao ad tl ((sF (sF (sA σ 14 (va_up (σ.2.1 14) (σ.1 20) x)) 20 ((σ.1 20) + 1)) 21 0), vp_updL ov 0 ((nI ((σ.1 20) + 1)).toInt64), dv)) := hD
    refine lv_goto (tgt := 18) hx hb dL_appendLetter_9 (by decide) ?_
    refine lv_iconst (v := nI 0) hx hb dL_appendLetter_18 (by decide) ?_
    exact hq _ _ _ _ _ _ (nI 0) _ (Nat.le_of_ble_eq_true rfl) (Nat.le_of_ble_eq_true rfl) dL_appendLetter_19 (Or.inl ⟨rfl, h_.1, h_.2, rfl⟩) hP hD hS

def RH_letterAt (σ : SS) (x : Nat) (ov : Nat → Int64) (dv : Nat → UInt64) (r : Int32) (z : HZ) : Prop :=
  (r = nI 0 ∧ (x < (σ.1 20)) ∧ z = (σ, vp_updL ov 0 ((nI ((σ.2.1 14) x)).toInt64), dv)) ∨ (r = nI 1 ∧ (¬ x < (σ.1 20)) ∧ z = (σ, ov, dv))
abbrev r_h_letterAt : Room := { frames := 7, cells := 1, slots := 6, locals := 103 }
set_option maxHeartbeats 4000000 in
set_option maxRecDepth 100000 in
theorem h_letterAt (l : Launch) (hflg : l.stackTraces = false) (g : GC) (tl : va_W) (sz : Nat) (σ : SS) (ao ad : Nat) (ov : Nat → Int64) (dv : Nat → UInt64) (x : Nat) (y_hw8 : (σ.1 20) ≤ 8) (y_hx : x < 4294967296) : Met l yL_letterAt wsL_letterAt r_h_letterAt (va_Pc [.ref (g.2.2.2 0), .int (nI x), .ref ao] (PH g (wH g ao ad tl (σ, ov, dv)) sz)) (va_Qi (fun r z => RH_letterAt σ x ov dv r z) (fun z t => BW g (va_A (wH g ao ad tl (σ, ov, dv)) sz) (wH g ao ad tl z) t) (va_A (wH g ao ad tl (σ, ov, dv)) sz)) 1 6 (va_A (wH g ao ad tl (σ, ov, dv)) sz) := by
  refine jh_i (wf := wH g ao ad tl) (cc := cL_letterAt) (maxL := 4) (by decide) rfl rfl (Nat.le_of_ble_eq_true rfl) ?_
  intro p e s m below meth c Q A hx hb hml hown hts hKL hP hD hS hAA hZ htab hq ls hl
  have hKX := hKL.1
  have hK := hKX.1
  obtain ⟨H, eH⟩ : ∃ z, z = s.heap := ⟨_, rfl⟩
  obtain ⟨locs, el⟩ : ∃ z : List Loc, z = [] := ⟨_, rfl⟩
  rw [← eH] at hP
  have hS : va_S A s.heap H locs := by rw [eH, el]; exact hS
  have goal0 : W p l e r_h_letterAt s m ([.ref (g.2.2.2 0), .int (nI x), .ref ao] : List Value).toArray below meth c H locs 0 0 Q (F0 m 0 ls []) → W p l e r_h_letterAt s m ([.ref (g.2.2.2 0), .int (nI x), .ref ao] : List Value).toArray below meth c s.heap [] 0 0 Q (F0 m 0 ls []) := fun h => by rw [eH, el] at h; exact h
  refine goal0 ?_
  have hl : lv_has ls 4 [(0, .ref (g.2.2.2 0)), (1, .int (nI x)), (2, .ref ao)] := hl
  have hP : va_P (g.1, g.2.1) vwCl (wC g σ ++ wT g ao ad ov dv tl) H := hP
  have hD : va_D A (wC g σ ++ wT g ao ad ov dv tl) := hD
  refine lv_aload_n hx hb dL_letterAt_0 rfl (lv_at hl 2 rfl) ?_
  refine lv_iconst (v := nI 0) hx hb dL_letterAt_1 (by decide) ?_
  refine lv_aload_n hx hb dL_letterAt_2 rfl (lv_at hl 0 rfl) ?_
  refine lv_iload_n hx hb dL_letterAt_3 rfl (lv_at hl 1 rfl) ?_
  refine jx_calli (vx_runV (As := [.int (nI x)]) (rest := [.int (nI 0), .ref ao]) ⟨hx, hb, hml, hown, hts⟩ (c_X10_letterAt l hflg g (wT g ao ad ov dv tl) H.size σ x y_hw8 y_hx) (cwV 1 hts gL_letterAt_X10_letterAt rfl rfl rfl (by decide +kernel) ⟨Nat.le_of_ble_eq_true rfl, Nat.le_of_ble_eq_true rfl⟩) (okXV hKX hP hD hZ hS hAA rfl (gC0 g σ (wT g ao ad ov dv tl))) rfl rfl hl.1 rfl (lv_room (Nat.le_of_ble_eq_true rfl)) dL_letterAt_4 ⟨Nat.le_of_ble_eq_true rfl, Nat.le_of_ble_eq_true rfl⟩) hD hS hAA (fun E ce q9 u H locs hxp hP hD hS h7 h8 h9 => ?_) (fun r u H locs hw_ hP hD hS => ?_)
  · have e0 : True := trivial
    have hxp : (E = "java/lang/IndexOutOfBoundsException" ∧ (¬ x < (σ.1 20))) := hxp
    rcases hxp with ⟨rfl, hc⟩
    · refine vx_catch (name := "java/lang/IndexOutOfBoundsException") hown [] ⟨0, 9, 12, 25⟩ [] (by rw [htab]; rfl) (fun _ h => absurd h List.not_mem_nil) (by decide) (by decide) (va_Nw.use rfl (hKL.2.2 _ (List.mem_of_getElem? (i := 2) rfl))) (va_Nw.use rfl (hKX.2.1 _ (List.mem_of_getElem? (i := 2) rfl))) h7 h8 h9 ?_
      refine lv_astore_n (lv' := [(3, .ref q9), (0, .ref (g.2.2.2 0)), (1, .int (nI x)), (2, .ref ao)]) hx hb dL_letterAt_12 rfl hl (by decide) rfl (fun ls hl => ?_)
      refine lv_iconst (v := nI 1) hx hb dL_letterAt_13 (by decide) ?_
      exact hq _ _ _ _ _ _ (nI 1) (_, ov, dv) (Nat.le_of_ble_eq_true rfl) (Nat.le_of_ble_eq_true rfl) dL_letterAt_14 (Or.inr ⟨rfl, hc, rfl⟩) hP hD hS
  · have e0 : True := trivial
    obtain ⟨rfl, h_⟩ := hw_
    have h_ : x < (σ.1 20) := h_
    have hP : va_P (g.1, g.2.1) vwCl (wC g σ ++ wT g ao ad ov dv tl) H := hP
    have hD : va_D A (wC g σ ++ wT g ao ad ov dv tl) := hD
    refine lv_i2l hx hb dL_letterAt_7 rfl ?_
    refine va_last (x := (nI ((σ.2.1 14) x)).toInt64) hx hb hK.1 hP hD hS 42 1 (gT42 g σ ao ad ov dv tl) rfl (vp_in_nI (by decide) (by decide)) dL_letterAt_8 (fun H locs hP hD hS => ?_)
    have hP : va_P (g.1, g.2.1) vwCl (wH g ao ad tl (σ, vp_updL ov 0 ((nI ((σ.2.1 14) x)).toInt64), dv)) H := hP
    have hD : va_D A (wH g ao ad tl (σ, vp_updL ov 0 ((nI ((σ.2.1 14) x)).toInt64), dv)) := hD
    refine lv_goto (tgt := 15) hx hb dL_letterAt_9 (by decide) ?_
    refine lv_iconst (v := nI 0) hx hb dL_letterAt_15 (by decide) ?_
    exact hq _ _ _ _ _ _ (nI 0) _ (Nat.le_of_ble_eq_true rfl) (Nat.le_of_ble_eq_true rfl) dL_letterAt_16 (Or.inl ⟨rfl, h_, rfl⟩) hP hD hS

def RH_accepts (σ : SS) (md : Nat) (ov : Nat → Int64) (dv : Nat → UInt64) (r : Int32) (z : HZ) : Prop :=
  (∃ (f15 : Nat → Nat) (m2 : Nat) (r2 : Nat) (k2 : Nat) (j2 : Nat) (p2 : Nat), r = nI 0 ∧ (md < 3) ∧ (md = 2 → detT (σ.2.1 0)) ∧ z = ((sF (sF (sF (sF (sF (sA σ 15 f15) 12 m2) 13 r2) 14 k2) 15 j2) 16 p2), vp_updL ov 0 (if acP (σ.2.1 0) (σ.2.1 14) (σ.1 0) (σ.1 20) md then 1 else 0), dv)) ∨ (r = nI 1 ∧ (¬ md < 3) ∧ z = (σ, ov, dv)) ∨ (r = nI 2 ∧ (md = 2 ∧ ¬ detT (σ.2.1 0)) ∧ z = (σ, ov, dv))
abbrev r_h_accepts : Room := { frames := 9, cells := 2, slots := 12, locals := 144 }
set_option maxHeartbeats 4000000 in
set_option maxRecDepth 100000 in
theorem h_accepts (l : Launch) (hflg : l.stackTraces = false) (g : GC) (tl : va_W) (sz : Nat) (σ : SS) (ao ad : Nat) (ov : Nat → Int64) (dv : Nat → UInt64) (md : Nat) (y_hA : OkA σ) (y_hw8 : (σ.1 20) ≤ 8) (y_hw : ∀ i, i < (σ.1 20) → (σ.2.1 14) i < 3) (y_hmd : md < 4294967296) : Met l yL_accepts wsL_accepts r_h_accepts (va_Pc [.ref (g.2.2.2 0), .int (nI md), .ref ao] (PH g (wH g ao ad tl (σ, ov, dv)) sz)) (va_Qi (fun r z => RH_accepts σ md ov dv r z) (fun z t => BW g (va_A (wH g ao ad tl (σ, ov, dv)) sz) (wH g ao ad tl z) t) (va_A (wH g ao ad tl (σ, ov, dv)) sz)) 2 12 (va_A (wH g ao ad tl (σ, ov, dv)) sz) := by
  refine jh_i (wf := wH g ao ad tl) (cc := cL_accepts) (maxL := 4) (by decide) rfl rfl (Nat.le_of_ble_eq_true rfl) ?_
  intro p e s m below meth c Q A hx hb hml hown hts hKL hP hD hS hAA hZ htab hq ls hl
  have hKX := hKL.1
  have hK := hKX.1
  obtain ⟨H, eH⟩ : ∃ z, z = s.heap := ⟨_, rfl⟩
  obtain ⟨locs, el⟩ : ∃ z : List Loc, z = [] := ⟨_, rfl⟩
  rw [← eH] at hP
  have hS : va_S A s.heap H locs := by rw [eH, el]; exact hS
  have goal0 : W p l e r_h_accepts s m ([.ref (g.2.2.2 0), .int (nI md), .ref ao] : List Value).toArray below meth c H locs 0 0 Q (F0 m 0 ls []) → W p l e r_h_accepts s m ([.ref (g.2.2.2 0), .int (nI md), .ref ao] : List Value).toArray below meth c s.heap [] 0 0 Q (F0 m 0 ls []) := fun h => by rw [eH, el] at h; exact h
  refine goal0 ?_
  have hl : lv_has ls 4 [(0, .ref (g.2.2.2 0)), (1, .int (nI md)), (2, .ref ao)] := hl
  have hP : va_P (g.1, g.2.1) vwCl (wC g σ ++ wT g ao ad ov dv tl) H := hP
  have hD : va_D A (wC g σ ++ wT g ao ad ov dv tl) := hD
  refine lv_aload_n hx hb dL_accepts_0 rfl (lv_at hl 2 rfl) ?_
  refine lv_iconst (v := nI 0) hx hb dL_accepts_1 (by decide) ?_
  refine lv_aload_n hx hb dL_accepts_2 rfl (lv_at hl 0 rfl) ?_
  refine lv_iload_n hx hb dL_accepts_3 rfl (lv_at hl 1 rfl) ?_
  refine jx_calli (vx_runV (As := [.int (nI md)]) (rest := [.int (nI 0), .ref ao]) ⟨hx, hb, hml, hown, hts⟩ (c_X10_accepts l hflg g (wT g ao ad ov dv tl) H.size σ md y_hA y_hw8 y_hw y_hmd) (cwV 1 hts gL_accepts_X10_accepts rfl rfl rfl (by decide +kernel) ⟨Nat.le_of_ble_eq_true rfl, Nat.le_of_ble_eq_true rfl⟩) (okXV hKX hP hD hZ hS hAA rfl (gC0 g σ (wT g ao ad ov dv tl))) rfl rfl hl.1 rfl (lv_room (Nat.le_of_ble_eq_true rfl)) dL_accepts_4 ⟨Nat.le_of_ble_eq_true rfl, Nat.le_of_ble_eq_true rfl⟩) hD hS hAA (fun E ce q9 u H locs hxp hP hD hS h7 h8 h9 => ?_) (fun r u H locs hw_ hP hD hS => ?_)
  · have e0 : True := trivial
    have hxp : (E = "java/lang/IllegalArgumentException" ∧ (¬ md < 3)) ∨ (E = "java/lang/UnsupportedOperationException" ∧ (md = 2 ∧ ¬ detT (σ.2.1 0))) := hxp
    rcases hxp with ⟨rfl, hc⟩ | ⟨rfl, hc⟩
    · refine vx_catch (name := "java/lang/IllegalArgumentException") hown [] ⟨0, 16, 19, 13⟩ [⟨0, 16, 22, 50⟩] (by rw [htab]; rfl) (fun _ h => absurd h List.not_mem_nil) (by decide) (by decide) (va_Nw.use rfl (hKL.2.2 _ (List.mem_of_getElem? (i := 0) rfl))) (va_Nw.use rfl (hKX.2.1 _ (List.mem_of_getElem? (i := 0) rfl))) h7 h8 h9 ?_
      refine lv_astore_n (lv' := [(3, .ref q9), (0, .ref (g.2.2.2 0)), (1, .int (nI md)), (2, .ref ao)]) hx hb dL_accepts_19 rfl hl (by decide) rfl (fun ls hl => ?_)
      refine lv_iconst (v := nI 1) hx hb dL_accepts_20 (by decide) ?_
      exact hq _ _ _ _ _ _ (nI 1) (_, ov, dv) (Nat.le_of_ble_eq_true rfl) (Nat.le_of_ble_eq_true rfl) dL_accepts_21 (Or.inr (Or.inl ⟨rfl, hc, rfl⟩)) hP hD hS
    · refine vx_catch (name := "java/lang/UnsupportedOperationException") hown [⟨0, 16, 19, 13⟩] ⟨0, 16, 22, 50⟩ [] (by rw [htab]; rfl) (List.forall_mem_cons.mpr ⟨Or.inr ⟨by decide, "java/lang/IllegalArgumentException", va_Nw.use rfl (hKL.2.2 _ (List.mem_of_getElem? (i := 0) rfl)), hKL.2.1 _ (List.mem_of_getElem? (i := 1) rfl)⟩, fun _ h => absurd h List.not_mem_nil⟩) (by decide) (by decide) (va_Nw.use rfl (hKL.2.2 _ (List.mem_of_getElem? (i := 4) rfl))) (va_Nw.use rfl (hKX.2.1 _ (List.mem_of_getElem? (i := 4) rfl))) h7 h8 h9 ?_
      refine lv_astore_n (lv' := [(3, .ref q9), (0, .ref (g.2.2.2 0)), (1, .int (nI md)), (2, .ref ao)]) hx hb dL_accepts_22 rfl hl (by decide) rfl (fun ls hl => ?_)
      refine lv_iconst (v := nI 2) hx hb dL_accepts_23 (by decide) ?_
      exact hq _ _ _ _ _ _ (nI 2) (_, ov, dv) (Nat.le_of_ble_eq_true rfl) (Nat.le_of_ble_eq_true rfl) dL_accepts_24 (Or.inr (Or.inr ⟨rfl, hc, rfl⟩)) hP hD hS
  · have e0 : True := trivial
    obtain ⟨f15, m2, r2, k2, j2, p2⟩ := u
    obtain ⟨rfl, h_⟩ := hw_
    have h_ : (md < 3) ∧ (md = 2 → detT (σ.2.1 0)) := h_
    have hP : va_P (g.1, g.2.1) vwCl (wC g (sF (sF (sF (sF (sF (sA σ 15 f15) 12 m2) 13 r2) 14 k2) 15 j2) 16 p2) ++ wT g ao ad ov dv tl) H := hP
    have hD : va_D A (wC g (sF (sF (sF (sF (sF (sA σ 15 f15) 12 m2) 13 r2) 14 k2) 15 j2) 16 p2) ++ wT g ao ad ov dv tl) := hD
    refine jn_beq hx hb (tgt := 14) dL_accepts_7 (by decide) (fun c_ => ?_) (fun c_ => ?_)
    · refine lv_lconst (v := 0) hx hb dL_accepts_14 rfl ?_
      refine va_last (x := 0) hx hb hK.1 hP hD hS 42 1 (gT42 g (sF (sF (sF (sF (sF (sA σ 15 f15) 12 m2) 13 r2) 14 k2) 15 j2) 16 p2) ao ad ov dv tl) rfl (vp_in_nI (by decide) (by decide)) dL_accepts_15 (fun H locs hP hD hS => ?_)
      have hP : va_P (g.1, g.2.1) vwCl (wH g ao ad tl ((sF (sF (sF (sF (sF (sA σ 15 f15) 12 m2) 13 r2) 14 k2) 15 j2) 16 p2), vp_updL ov 0 (0), dv)) H := hP
      have hD : va_D A (wH g ao ad tl ((sF (sF (sF (sF (sF (sA σ 15 f15) 12 m2) 13 r2) 14 k2) 15 j2) 16 p2), vp_updL ov 0 (0), dv)) := hD
      refine lv_goto (tgt := 25) hx hb dL_accepts_16 (by decide) ?_
      refine lv_iconst (v := nI 0) hx hb dL_accepts_25 (by decide) ?_
      exact hq _ _ _ _ _ _ (nI 0) _ (Nat.le_of_ble_eq_true rfl) (Nat.le_of_ble_eq_true rfl) dL_accepts_26 (Or.inl ⟨f15, m2, r2, k2, j2, p2, rfl, h_.1, h_.2, by rw [show (if acP (σ.2.1 0) (σ.2.1 14) (σ.1 0) (σ.1 20) md then 1 else 0) = (0 : Int64) from if_neg c_]⟩) hP hD hS
    · refine lv_lconst (v := 1) hx hb dL_accepts_10 rfl ?_
      refine lv_goto (tgt := 15) hx hb dL_accepts_11 (by decide) ?_
      refine va_last (x := 1) hx hb hK.1 hP hD hS 42 1 (gT42 g (sF (sF (sF (sF (sF (sA σ 15 f15) 12 m2) 13 r2) 14 k2) 15 j2) 16 p2) ao ad ov dv tl) rfl (vp_in_nI (by decide) (by decide)) dL_accepts_15 (fun H locs hP hD hS => ?_)
      have hP : va_P (g.1, g.2.1) vwCl (wH g ao ad tl ((sF (sF (sF (sF (sF (sA σ 15 f15) 12 m2) 13 r2) 14 k2) 15 j2) 16 p2), vp_updL ov 0 (1), dv)) H := hP
      have hD : va_D A (wH g ao ad tl ((sF (sF (sF (sF (sF (sA σ 15 f15) 12 m2) 13 r2) 14 k2) 15 j2) 16 p2), vp_updL ov 0 (1), dv)) := hD
      refine lv_goto (tgt := 25) hx hb dL_accepts_16 (by decide) ?_
      refine lv_iconst (v := nI 0) hx hb dL_accepts_25 (by decide) ?_
      exact hq _ _ _ _ _ _ (nI 0) _ (Nat.le_of_ble_eq_true rfl) (Nat.le_of_ble_eq_true rfl) dL_accepts_26 (Or.inl ⟨f15, m2, r2, k2, j2, p2, rfl, h_.1, h_.2, by rw [show (if acP (σ.2.1 0) (σ.2.1 14) (σ.1 0) (σ.1 20) md then 1 else 0) = (1 : Int64) from if_pos c_]⟩) hP hD hS

def RH_takeArrangement (σ : SS) (rk : Nat) (ov : Nat → Int64) (dv : Nat → UInt64) (r : Int32) (z : HZ) : Prop :=
  (∃ (sn2 : Nat) (lt2 : Nat → Nat) (lf2 : Nat → Nat), r = nI 0 ∧ (rk < 2147483648) ∧ (rk < arrN (σ.2.1 0) (σ.1 0) (σ.1 20) (cntW (σ.2.1 14) (σ.1 20)) 1) ∧ (isArr (σ.2.1 0) (σ.1 0) (σ.1 20) (cntW (σ.2.1 14) (σ.1 20)) 1 rk lt2) ∧ z = ((sF (sF (sA (sA (sA (sF (sF (sF σ 17 ((σ.1 20))) 18 sn2) 19 rk) 19 lt2) 20 lf2) 14 (va_cpy lt2 (σ.2.1 14) 0 0 (σ.1 20))) 20 ((σ.1 20))) 21 0), vp_updL ov 0 ((nI ((σ.1 20))).toInt64), dv)) ∨ (∃ (n17 : Nat) (sn2 : Nat) (n19 : Nat) (lt2 : Nat → Nat) (lf2 : Nat → Nat), r = nI 1 ∧ (2147483648 ≤ rk) ∧ z = ((sA (sA (sF (sF (sF σ 17 n17) 18 sn2) 19 n19) 19 lt2) 20 lf2), ov, dv)) ∨ (∃ (n17 : Nat) (sn2 : Nat) (n19 : Nat) (lt2 : Nat → Nat) (lf2 : Nat → Nat), r = nI 2 ∧ (rk < 2147483648 ∧ ¬ rk < arrN (σ.2.1 0) (σ.1 0) (σ.1 20) (cntW (σ.2.1 14) (σ.1 20)) 1) ∧ z = ((sA (sA (sF (sF (sF σ 17 n17) 18 sn2) 19 n19) 19 lt2) 20 lf2), ov, dv))
abbrev r_h_takeArrangement : Room := { frames := 12, cells := 1, slots := 6, locals := 292 }
set_option maxHeartbeats 4000000 in
set_option maxRecDepth 100000 in
theorem h_takeArrangement (l : Launch) (hflg : l.stackTraces = false) (g : GC) (tl : va_W) (sz : Nat) (σ : SS) (ao ad : Nat) (ov : Nat → Int64) (dv : Nat → UInt64) (rk : Nat) (y_hA : OkA σ) (y_hw8 : (σ.1 20) ≤ 8) (y_hw : ∀ i, i < (σ.1 20) → (σ.2.1 14) i < 3) (y_hrk : rk < 4294967296) : Met l yL_takeArrangement wsL_takeArrangement r_h_takeArrangement (va_Pc [.ref (g.2.2.2 0), .int (nI rk), .ref ao] (PH g (wH g ao ad tl (σ, ov, dv)) sz)) (va_Qi (fun r z => RH_takeArrangement σ rk ov dv r z) (fun z t => BW g (va_A (wH g ao ad tl (σ, ov, dv)) sz) (wH g ao ad tl z) t) (va_A (wH g ao ad tl (σ, ov, dv)) sz)) 1 6 (va_A (wH g ao ad tl (σ, ov, dv)) sz) := by
  refine jh_i (wf := wH g ao ad tl) (cc := cL_takeArrangement) (maxL := 4) (by decide) rfl rfl (Nat.le_of_ble_eq_true rfl) ?_
  intro p e s m below meth c Q A hx hb hml hown hts hKL hP hD hS hAA hZ htab hq ls hl
  have hKX := hKL.1
  have hK := hKX.1
  obtain ⟨H, eH⟩ : ∃ z, z = s.heap := ⟨_, rfl⟩
  obtain ⟨locs, el⟩ : ∃ z : List Loc, z = [] := ⟨_, rfl⟩
  rw [← eH] at hP
  have hS : va_S A s.heap H locs := by rw [eH, el]; exact hS
  have goal0 : W p l e r_h_takeArrangement s m ([.ref (g.2.2.2 0), .int (nI rk), .ref ao] : List Value).toArray below meth c H locs 0 0 Q (F0 m 0 ls []) → W p l e r_h_takeArrangement s m ([.ref (g.2.2.2 0), .int (nI rk), .ref ao] : List Value).toArray below meth c s.heap [] 0 0 Q (F0 m 0 ls []) := fun h => by rw [eH, el] at h; exact h
  refine goal0 ?_
  have hl : lv_has ls 4 [(0, .ref (g.2.2.2 0)), (1, .int (nI rk)), (2, .ref ao)] := hl
  have hP : va_P (g.1, g.2.1) vwCl (wC g σ ++ wT g ao ad ov dv tl) H := hP
  have hD : va_D A (wC g σ ++ wT g ao ad ov dv tl) := hD
  refine lv_aload_n hx hb dL_takeArrangement_0 rfl (lv_at hl 2 rfl) ?_
  refine lv_iconst (v := nI 0) hx hb dL_takeArrangement_1 (by decide) ?_
  refine lv_aload_n hx hb dL_takeArrangement_2 rfl (lv_at hl 0 rfl) ?_
  refine lv_iload_n hx hb dL_takeArrangement_3 rfl (lv_at hl 1 rfl) ?_
  refine jx_calli (vx_runV (As := [.int (nI rk)]) (rest := [.int (nI 0), .ref ao]) ⟨hx, hb, hml, hown, hts⟩ (c_X10_takeArrangement l hflg g (wT g ao ad ov dv tl) H.size σ rk y_hA y_hw8 y_hw y_hrk) (cwV 1 hts gL_takeArrangement_X10_takeArrangement rfl rfl rfl (by decide +kernel) ⟨Nat.le_of_ble_eq_true rfl, Nat.le_of_ble_eq_true rfl⟩) (okXV hKX hP hD hZ hS hAA rfl (gC0 g σ (wT g ao ad ov dv tl))) rfl rfl hl.1 rfl (lv_room (Nat.le_of_ble_eq_true rfl)) dL_takeArrangement_4 ⟨Nat.le_of_ble_eq_true rfl, Nat.le_of_ble_eq_true rfl⟩) hD hS hAA (fun E ce q9 u H locs hxp hP hD hS h7 h8 h9 => ?_) (fun r u H locs hw_ hP hD hS => ?_)
  · have e0 : True := trivial
    obtain ⟨n17, sn2, n19, lt2, lf2⟩ := u
    have hxp : (E = "java/lang/IllegalArgumentException" ∧ (2147483648 ≤ rk)) ∨ (E = "java/util/NoSuchElementException" ∧ (rk < 2147483648 ∧ ¬ rk < arrN (σ.2.1 0) (σ.1 0) (σ.1 20) (cntW (σ.2.1 14) (σ.1 20)) 1)) := hxp
    rcases hxp with ⟨rfl, hc⟩ | ⟨rfl, hc⟩
    · refine vx_catch (name := "java/lang/IllegalArgumentException") hown [] ⟨0, 9, 12, 13⟩ [⟨0, 9, 15, 31⟩] (by rw [htab]; rfl) (fun _ h => absurd h List.not_mem_nil) (by decide) (by decide) (va_Nw.use rfl (hKL.2.2 _ (List.mem_of_getElem? (i := 0) rfl))) (va_Nw.use rfl (hKX.2.1 _ (List.mem_of_getElem? (i := 0) rfl))) h7 h8 h9 ?_
      refine lv_astore_n (lv' := [(3, .ref q9), (0, .ref (g.2.2.2 0)), (1, .int (nI rk)), (2, .ref ao)]) hx hb dL_takeArrangement_12 rfl hl (by decide) rfl (fun ls hl => ?_)
      refine lv_iconst (v := nI 1) hx hb dL_takeArrangement_13 (by decide) ?_
      exact hq _ _ _ _ _ _ (nI 1) (_, ov, dv) (Nat.le_of_ble_eq_true rfl) (Nat.le_of_ble_eq_true rfl) dL_takeArrangement_14 (Or.inr (Or.inl ⟨n17, sn2, n19, lt2, lf2, rfl, hc, rfl⟩)) hP hD hS
    · refine vx_catch (name := "java/util/NoSuchElementException") hown [⟨0, 9, 12, 13⟩] ⟨0, 9, 15, 31⟩ [] (by rw [htab]; rfl) (List.forall_mem_cons.mpr ⟨Or.inr ⟨by decide, "java/lang/IllegalArgumentException", va_Nw.use rfl (hKL.2.2 _ (List.mem_of_getElem? (i := 0) rfl)), hKL.2.1 _ (List.mem_of_getElem? (i := 5) rfl)⟩, fun _ h => absurd h List.not_mem_nil⟩) (by decide) (by decide) (va_Nw.use rfl (hKL.2.2 _ (List.mem_of_getElem? (i := 3) rfl))) (va_Nw.use rfl (hKX.2.1 _ (List.mem_of_getElem? (i := 3) rfl))) h7 h8 h9 ?_
      refine lv_astore_n (lv' := [(3, .ref q9), (0, .ref (g.2.2.2 0)), (1, .int (nI rk)), (2, .ref ao)]) hx hb dL_takeArrangement_15 rfl hl (by decide) rfl (fun ls hl => ?_)
      refine lv_iconst (v := nI 2) hx hb dL_takeArrangement_16 (by decide) ?_
      exact hq _ _ _ _ _ _ (nI 2) (_, ov, dv) (Nat.le_of_ble_eq_true rfl) (Nat.le_of_ble_eq_true rfl) dL_takeArrangement_17 (Or.inr (Or.inr ⟨n17, sn2, n19, lt2, lf2, rfl, hc, rfl⟩)) hP hD hS
  · have e0 : True := trivial
    obtain ⟨sn2, lt2, lf2⟩ := u
    obtain ⟨rfl, h_⟩ := hw_
    have h_ : (rk < 2147483648) ∧ (rk < arrN (σ.2.1 0) (σ.1 0) (σ.1 20) (cntW (σ.2.1 14) (σ.1 20)) 1) ∧ (isArr (σ.2.1 0) (σ.1 0) (σ.1 20) (cntW (σ.2.1 14) (σ.1 20)) 1 rk lt2) := h_
    have hP : va_P (g.1, g.2.1) vwCl (wC g (sF (sF (sA (sA (sA (sF (sF (sF σ 17 ((σ.1 20))) 18 sn2) 19 rk) 19 lt2) 20 lf2) 14 (va_cpy lt2 (σ.2.1 14) 0 0 (σ.1 20))) 20 ((σ.1 20))) 21 0) ++ wT g ao ad ov dv tl) H := hP
    have hD : va_D A (wC g (sF (sF (sA (sA (sA (sF (sF (sF σ 17 ((σ.1 20))) 18 sn2) 19 rk) 19 lt2) 20 lf2) 14 (va_cpy lt2 (σ.2.1 14) 0 0 (σ.1 20))) 20 ((σ.1 20))) 21 0) ++ wT g ao ad ov dv tl) := hD
    refine lv_i2l hx hb dL_takeArrangement_7 rfl ?_
    refine va_last (x := (nI ((σ.1 20))).toInt64) hx hb hK.1 hP hD hS 42 1 (gT42 g (sF (sF (sA (sA (sA (sF (sF (sF σ 17 ((σ.1 20))) 18 sn2) 19 rk) 19 lt2) 20 lf2) 14 (va_cpy lt2 (σ.2.1 14) 0 0 (σ.1 20))) 20 ((σ.1 20))) 21 0) ao ad ov dv tl) rfl (vp_in_nI (by decide) (by decide)) dL_takeArrangement_8 (fun H locs hP hD hS => ?_)
    have hP : va_P (g.1, g.2.1) vwCl (wH g ao ad tl ((sF (sF (sA (sA (sA (sF (sF (sF σ 17 ((σ.1 20))) 18 sn2) 19 rk) 19 lt2) 20 lf2) 14 (va_cpy lt2 (σ.2.1 14) 0 0 (σ.1 20))) 20 ((σ.1 20))) 21 0), vp_updL ov 0 ((nI ((σ.1 20))).toInt64), dv)) H := hP
    have hD : va_D A (wH g ao ad tl ((sF (sF (sA (sA (sA (sF (sF (sF σ 17 ((σ.1 20))) 18 sn2) 19 rk) 19 lt2) 20 lf2) 14 (va_cpy lt2 (σ.2.1 14) 0 0 (σ.1 20))) 20 ((σ.1 20))) 21 0), vp_updL ov 0 ((nI ((σ.1 20))).toInt64), dv)) := hD
    refine lv_goto (tgt := 18) hx hb dL_takeArrangement_9 (by decide) ?_
    refine lv_iconst (v := nI 0) hx hb dL_takeArrangement_18 (by decide) ?_
    exact hq _ _ _ _ _ _ (nI 0) _ (Nat.le_of_ble_eq_true rfl) (Nat.le_of_ble_eq_true rfl) dL_takeArrangement_19 (Or.inl ⟨sn2, lt2, lf2, rfl, h_.1, h_.2.1, h_.2.2, rfl⟩) hP hD hS

def RH_oneWayJumps (σ : SS) (ov : Nat → Int64) (dv : Nat → UInt64) (r : Int32) (z : HZ) : Prop :=
  (∃ (m2 : Nat) (r2 : Nat) (k2 : Nat) (j2 : Nat) (p2 : Nat), r = nI 0 ∧ (detT (σ.2.1 0)) ∧ z = ((sF (sF (sF (sF (sF σ 12 m2) 13 r2) 14 k2) 15 j2) 16 p2), vp_updL ov 0 ((nI ((readO (σ.2.1 0) (σ.2.1 14) (σ.1 20)).2.2.1)).toInt64), dv)) ∨ (r = nI 1 ∧ (¬ detT (σ.2.1 0)) ∧ z = (σ, ov, dv))
abbrev r_h_oneWayJumps : Room := { frames := 8, cells := 1, slots := 6, locals := 135 }
set_option maxHeartbeats 4000000 in
set_option maxRecDepth 100000 in
theorem h_oneWayJumps (l : Launch) (hflg : l.stackTraces = false) (g : GC) (tl : va_W) (sz : Nat) (σ : SS) (ao ad : Nat) (ov : Nat → Int64) (dv : Nat → UInt64) (y_hA : OkA σ) (y_hw8 : (σ.1 20) ≤ 8) (y_hw : ∀ i, i < (σ.1 20) → (σ.2.1 14) i < 3) : Met l yL_oneWayJumps wsL_oneWayJumps r_h_oneWayJumps (va_Pc [.ref (g.2.2.2 0), .ref ao] (PH g (wH g ao ad tl (σ, ov, dv)) sz)) (va_Qi (fun r z => RH_oneWayJumps σ  ov dv r z) (fun z t => BW g (va_A (wH g ao ad tl (σ, ov, dv)) sz) (wH g ao ad tl z) t) (va_A (wH g ao ad tl (σ, ov, dv)) sz)) 1 6 (va_A (wH g ao ad tl (σ, ov, dv)) sz) := by
  refine jh_i (wf := wH g ao ad tl) (cc := cL_oneWayJumps) (maxL := 3) (by decide) rfl rfl (Nat.le_of_ble_eq_true rfl) ?_
  intro p e s m below meth c Q A hx hb hml hown hts hKL hP hD hS hAA hZ htab hq ls hl
  have hKX := hKL.1
  have hK := hKX.1
  obtain ⟨H, eH⟩ : ∃ z, z = s.heap := ⟨_, rfl⟩
  obtain ⟨locs, el⟩ : ∃ z : List Loc, z = [] := ⟨_, rfl⟩
  rw [← eH] at hP
  have hS : va_S A s.heap H locs := by rw [eH, el]; exact hS
  have goal0 : W p l e r_h_oneWayJumps s m ([.ref (g.2.2.2 0), .ref ao] : List Value).toArray below meth c H locs 0 0 Q (F0 m 0 ls []) → W p l e r_h_oneWayJumps s m ([.ref (g.2.2.2 0), .ref ao] : List Value).toArray below meth c s.heap [] 0 0 Q (F0 m 0 ls []) := fun h => by rw [eH, el] at h; exact h
  refine goal0 ?_
  have hl : lv_has ls 3 [(0, .ref (g.2.2.2 0)), (1, .ref ao)] := hl
  have hP : va_P (g.1, g.2.1) vwCl (wC g σ ++ wT g ao ad ov dv tl) H := hP
  have hD : va_D A (wC g σ ++ wT g ao ad ov dv tl) := hD
  refine lv_aload_n hx hb dL_oneWayJumps_0 rfl (lv_at hl 1 rfl) ?_
  refine lv_iconst (v := nI 0) hx hb dL_oneWayJumps_1 (by decide) ?_
  refine lv_aload_n hx hb dL_oneWayJumps_2 rfl (lv_at hl 0 rfl) ?_
  refine jx_calli (vx_runV (As := []) (rest := [.int (nI 0), .ref ao]) ⟨hx, hb, hml, hown, hts⟩ (c_X10_oneWayJumps l hflg g (wT g ao ad ov dv tl) H.size σ y_hA y_hw8 y_hw) (cwV 0 hts gL_oneWayJumps_X10_oneWayJumps rfl rfl rfl (by decide +kernel) ⟨Nat.le_of_ble_eq_true rfl, Nat.le_of_ble_eq_true rfl⟩) (okXV hKX hP hD hZ hS hAA rfl (gC0 g σ (wT g ao ad ov dv tl))) rfl rfl hl.1 rfl (lv_room (Nat.le_of_ble_eq_true rfl)) dL_oneWayJumps_3 ⟨Nat.le_of_ble_eq_true rfl, Nat.le_of_ble_eq_true rfl⟩) hD hS hAA (fun E ce q9 u H locs hxp hP hD hS h7 h8 h9 => ?_) (fun r u H locs hw_ hP hD hS => ?_)
  · have e0 : True := trivial
    have hxp : (E = "java/lang/UnsupportedOperationException" ∧ (¬ detT (σ.2.1 0))) := hxp
    rcases hxp with ⟨rfl, hc⟩
    · refine vx_catch (name := "java/lang/UnsupportedOperationException") hown [] ⟨0, 8, 11, 50⟩ [] (by rw [htab]; rfl) (fun _ h => absurd h List.not_mem_nil) (by decide) (by decide) (va_Nw.use rfl (hKL.2.2 _ (List.mem_of_getElem? (i := 4) rfl))) (va_Nw.use rfl (hKX.2.1 _ (List.mem_of_getElem? (i := 4) rfl))) h7 h8 h9 ?_
      refine lv_astore_n (lv' := [(2, .ref q9), (0, .ref (g.2.2.2 0)), (1, .ref ao)]) hx hb dL_oneWayJumps_11 rfl hl (by decide) rfl (fun ls hl => ?_)
      refine lv_iconst (v := nI 1) hx hb dL_oneWayJumps_12 (by decide) ?_
      exact hq _ _ _ _ _ _ (nI 1) (_, ov, dv) (Nat.le_of_ble_eq_true rfl) (Nat.le_of_ble_eq_true rfl) dL_oneWayJumps_13 (Or.inr ⟨rfl, hc, rfl⟩) hP hD hS
  · have e0 : True := trivial
    obtain ⟨m2, r2, k2, j2, p2⟩ := u
    obtain ⟨rfl, h_⟩ := hw_
    have h_ : detT (σ.2.1 0) := h_
    have hP : va_P (g.1, g.2.1) vwCl (wC g (sF (sF (sF (sF (sF σ 12 m2) 13 r2) 14 k2) 15 j2) 16 p2) ++ wT g ao ad ov dv tl) H := hP
    have hD : va_D A (wC g (sF (sF (sF (sF (sF σ 12 m2) 13 r2) 14 k2) 15 j2) 16 p2) ++ wT g ao ad ov dv tl) := hD
    refine lv_i2l hx hb dL_oneWayJumps_6 rfl ?_
    refine va_last (x := (nI ((readO (σ.2.1 0) (σ.2.1 14) (σ.1 20)).2.2.1)).toInt64) hx hb hK.1 hP hD hS 42 1 (gT42 g (sF (sF (sF (sF (sF σ 12 m2) 13 r2) 14 k2) 15 j2) 16 p2) ao ad ov dv tl) rfl (vp_in_nI (by decide) (by decide)) dL_oneWayJumps_7 (fun H locs hP hD hS => ?_)
    have hP : va_P (g.1, g.2.1) vwCl (wH g ao ad tl ((sF (sF (sF (sF (sF σ 12 m2) 13 r2) 14 k2) 15 j2) 16 p2), vp_updL ov 0 ((nI ((readO (σ.2.1 0) (σ.2.1 14) (σ.1 20)).2.2.1)).toInt64), dv)) H := hP
    have hD : va_D A (wH g ao ad tl ((sF (sF (sF (sF (sF σ 12 m2) 13 r2) 14 k2) 15 j2) 16 p2), vp_updL ov 0 ((nI ((readO (σ.2.1 0) (σ.2.1 14) (σ.1 20)).2.2.1)).toInt64), dv)) := hD
    refine lv_goto (tgt := 14) hx hb dL_oneWayJumps_8 (by decide) ?_
    refine lv_iconst (v := nI 0) hx hb dL_oneWayJumps_14 (by decide) ?_
    exact hq _ _ _ _ _ _ (nI 0) _ (Nat.le_of_ble_eq_true rfl) (Nat.le_of_ble_eq_true rfl) dL_oneWayJumps_15 (Or.inl ⟨m2, r2, k2, j2, p2, rfl, h_, rfl⟩) hP hD hS

def RH_oneWayRest (σ : SS) (ov : Nat → Int64) (dv : Nat → UInt64) (r : Int32) (z : HZ) : Prop :=
  (∃ (m2 : Nat) (r2 : Nat) (k2 : Nat) (j2 : Nat) (p2 : Nat), r = nI 0 ∧ (detT (σ.2.1 0)) ∧ z = ((sF (sF (sF (sF (sF σ 12 m2) 13 r2) 14 k2) 15 j2) 16 p2), vp_updL ov 0 ((nI ((readO (σ.2.1 0) (σ.2.1 14) (σ.1 20)).2.1.length)).toInt64), dv)) ∨ (r = nI 1 ∧ (¬ detT (σ.2.1 0)) ∧ z = (σ, ov, dv))
abbrev r_h_oneWayRest : Room := { frames := 8, cells := 1, slots := 6, locals := 135 }
set_option maxHeartbeats 4000000 in
set_option maxRecDepth 100000 in
theorem h_oneWayRest (l : Launch) (hflg : l.stackTraces = false) (g : GC) (tl : va_W) (sz : Nat) (σ : SS) (ao ad : Nat) (ov : Nat → Int64) (dv : Nat → UInt64) (y_hA : OkA σ) (y_hw8 : (σ.1 20) ≤ 8) (y_hw : ∀ i, i < (σ.1 20) → (σ.2.1 14) i < 3) : Met l yL_oneWayRest wsL_oneWayRest r_h_oneWayRest (va_Pc [.ref (g.2.2.2 0), .ref ao] (PH g (wH g ao ad tl (σ, ov, dv)) sz)) (va_Qi (fun r z => RH_oneWayRest σ  ov dv r z) (fun z t => BW g (va_A (wH g ao ad tl (σ, ov, dv)) sz) (wH g ao ad tl z) t) (va_A (wH g ao ad tl (σ, ov, dv)) sz)) 1 6 (va_A (wH g ao ad tl (σ, ov, dv)) sz) := by
  refine jh_i (wf := wH g ao ad tl) (cc := cL_oneWayRest) (maxL := 3) (by decide) rfl rfl (Nat.le_of_ble_eq_true rfl) ?_
  intro p e s m below meth c Q A hx hb hml hown hts hKL hP hD hS hAA hZ htab hq ls hl
  have hKX := hKL.1
  have hK := hKX.1
  obtain ⟨H, eH⟩ : ∃ z, z = s.heap := ⟨_, rfl⟩
  obtain ⟨locs, el⟩ : ∃ z : List Loc, z = [] := ⟨_, rfl⟩
  rw [← eH] at hP
  have hS : va_S A s.heap H locs := by rw [eH, el]; exact hS
  have goal0 : W p l e r_h_oneWayRest s m ([.ref (g.2.2.2 0), .ref ao] : List Value).toArray below meth c H locs 0 0 Q (F0 m 0 ls []) → W p l e r_h_oneWayRest s m ([.ref (g.2.2.2 0), .ref ao] : List Value).toArray below meth c s.heap [] 0 0 Q (F0 m 0 ls []) := fun h => by rw [eH, el] at h; exact h
  refine goal0 ?_
  have hl : lv_has ls 3 [(0, .ref (g.2.2.2 0)), (1, .ref ao)] := hl
  have hP : va_P (g.1, g.2.1) vwCl (wC g σ ++ wT g ao ad ov dv tl) H := hP
  have hD : va_D A (wC g σ ++ wT g ao ad ov dv tl) := hD
  refine lv_aload_n hx hb dL_oneWayRest_0 rfl (lv_at hl 1 rfl) ?_
  refine lv_iconst (v := nI 0) hx hb dL_oneWayRest_1 (by decide) ?_
  refine lv_aload_n hx hb dL_oneWayRest_2 rfl (lv_at hl 0 rfl) ?_
  refine jx_calli (vx_runV (As := []) (rest := [.int (nI 0), .ref ao]) ⟨hx, hb, hml, hown, hts⟩ (c_X10_oneWayRest l hflg g (wT g ao ad ov dv tl) H.size σ y_hA y_hw8 y_hw) (cwV 0 hts gL_oneWayRest_X10_oneWayRest rfl rfl rfl (by decide +kernel) ⟨Nat.le_of_ble_eq_true rfl, Nat.le_of_ble_eq_true rfl⟩) (okXV hKX hP hD hZ hS hAA rfl (gC0 g σ (wT g ao ad ov dv tl))) rfl rfl hl.1 rfl (lv_room (Nat.le_of_ble_eq_true rfl)) dL_oneWayRest_3 ⟨Nat.le_of_ble_eq_true rfl, Nat.le_of_ble_eq_true rfl⟩) hD hS hAA (fun E ce q9 u H locs hxp hP hD hS h7 h8 h9 => ?_) (fun r u H locs hw_ hP hD hS => ?_)
  · have e0 : True := trivial
    have hxp : (E = "java/lang/UnsupportedOperationException" ∧ (¬ detT (σ.2.1 0))) := hxp
    rcases hxp with ⟨rfl, hc⟩
    · refine vx_catch (name := "java/lang/UnsupportedOperationException") hown [] ⟨0, 8, 11, 50⟩ [] (by rw [htab]; rfl) (fun _ h => absurd h List.not_mem_nil) (by decide) (by decide) (va_Nw.use rfl (hKL.2.2 _ (List.mem_of_getElem? (i := 4) rfl))) (va_Nw.use rfl (hKX.2.1 _ (List.mem_of_getElem? (i := 4) rfl))) h7 h8 h9 ?_
      refine lv_astore_n (lv' := [(2, .ref q9), (0, .ref (g.2.2.2 0)), (1, .ref ao)]) hx hb dL_oneWayRest_11 rfl hl (by decide) rfl (fun ls hl => ?_)
      refine lv_iconst (v := nI 1) hx hb dL_oneWayRest_12 (by decide) ?_
      exact hq _ _ _ _ _ _ (nI 1) (_, ov, dv) (Nat.le_of_ble_eq_true rfl) (Nat.le_of_ble_eq_true rfl) dL_oneWayRest_13 (Or.inr ⟨rfl, hc, rfl⟩) hP hD hS
  · have e0 : True := trivial
    obtain ⟨m2, r2, k2, j2, p2⟩ := u
    obtain ⟨rfl, h_⟩ := hw_
    have h_ : detT (σ.2.1 0) := h_
    have hP : va_P (g.1, g.2.1) vwCl (wC g (sF (sF (sF (sF (sF σ 12 m2) 13 r2) 14 k2) 15 j2) 16 p2) ++ wT g ao ad ov dv tl) H := hP
    have hD : va_D A (wC g (sF (sF (sF (sF (sF σ 12 m2) 13 r2) 14 k2) 15 j2) 16 p2) ++ wT g ao ad ov dv tl) := hD
    refine lv_i2l hx hb dL_oneWayRest_6 rfl ?_
    refine va_last (x := (nI ((readO (σ.2.1 0) (σ.2.1 14) (σ.1 20)).2.1.length)).toInt64) hx hb hK.1 hP hD hS 42 1 (gT42 g (sF (sF (sF (sF (sF σ 12 m2) 13 r2) 14 k2) 15 j2) 16 p2) ao ad ov dv tl) rfl (vp_in_nI (by decide) (by decide)) dL_oneWayRest_7 (fun H locs hP hD hS => ?_)
    have hP : va_P (g.1, g.2.1) vwCl (wH g ao ad tl ((sF (sF (sF (sF (sF σ 12 m2) 13 r2) 14 k2) 15 j2) 16 p2), vp_updL ov 0 ((nI ((readO (σ.2.1 0) (σ.2.1 14) (σ.1 20)).2.1.length)).toInt64), dv)) H := hP
    have hD : va_D A (wH g ao ad tl ((sF (sF (sF (sF (sF σ 12 m2) 13 r2) 14 k2) 15 j2) 16 p2), vp_updL ov 0 ((nI ((readO (σ.2.1 0) (σ.2.1 14) (σ.1 20)).2.1.length)).toInt64), dv)) := hD
    refine lv_goto (tgt := 14) hx hb dL_oneWayRest_8 (by decide) ?_
    refine lv_iconst (v := nI 0) hx hb dL_oneWayRest_14 (by decide) ?_
    exact hq _ _ _ _ _ _ (nI 0) _ (Nat.le_of_ble_eq_true rfl) (Nat.le_of_ble_eq_true rfl) dL_oneWayRest_15 (Or.inl ⟨m2, r2, k2, j2, p2, rfl, h_, rfl⟩) hP hD hS
