def RH_reachedCounts (σ : SS) (bd : Nat) (ov : Nat → Int64) (dv : Nat → UInt64) (r : Int32) (z : HZ) : Prop :=
  (∃ (f15 : Nat → Nat), r = nI 0 ∧ (bd < 7) ∧ z = ((sA σ 15 f15), vp_updL ov 0 ((nI (cnt3 (fun a b c => decide (rch (σ.2.1 0) a b c &&& (σ.1 0) ≠ 0)) (bd + 1))).toInt64), dv)) ∨ (r = nI 1 ∧ (¬ bd < 7) ∧ z = (σ, ov, dv))
abbrev r_h_reachedCounts : Room := { frames := 8, cells := 1, slots := 6, locals := 123 }
set_option maxHeartbeats 4000000 in
set_option maxRecDepth 100000 in
theorem h_reachedCounts (l : Launch) (hflg : l.stackTraces = false) (g : GC) (tl : va_W) (sz : Nat) (σ : SS) (ao ad : Nat) (ov : Nat → Int64) (dv : Nat → UInt64) (bd : Nat) (y_hA : OkA σ) (y_hbd : bd < 4294967296) : Met l yL_reachedCounts wsL_reachedCounts r_h_reachedCounts (va_Pc [.ref (g.2.2.2 0), .int (nI bd), .ref ao] (PH g (wH g ao ad tl (σ, ov, dv)) sz)) (va_Qi (fun r z => RH_reachedCounts σ bd ov dv r z) (fun z t => BW g (va_A (wH g ao ad tl (σ, ov, dv)) sz) (wH g ao ad tl z) t) (va_A (wH g ao ad tl (σ, ov, dv)) sz)) 1 6 (va_A (wH g ao ad tl (σ, ov, dv)) sz) := by
  refine jh_i (wf := wH g ao ad tl) (cc := cL_reachedCounts) (maxL := 4) (by decide) rfl rfl (Nat.le_of_ble_eq_true rfl) ?_
  intro p e s m below meth c Q A hx hb hml hown hts hKL hP hD hS hAA hZ htab hq ls hl
  have hKX := hKL.1
  have hK := hKX.1
  obtain ⟨H, eH⟩ : ∃ z, z = s.heap := ⟨_, rfl⟩
  obtain ⟨locs, el⟩ : ∃ z : List Loc, z = [] := ⟨_, rfl⟩
  rw [← eH] at hP
  have hS : va_S A s.heap H locs := by rw [eH, el]; exact hS
  have goal0 : W p l e r_h_reachedCounts s m ([.ref (g.2.2.2 0), .int (nI bd), .ref ao] : List Value).toArray below meth c H locs 0 0 Q (F0 m 0 ls []) → W p l e r_h_reachedCounts s m ([.ref (g.2.2.2 0), .int (nI bd), .ref ao] : List Value).toArray below meth c s.heap [] 0 0 Q (F0 m 0 ls []) := fun h => by rw [eH, el] at h; exact h
  refine goal0 ?_
  have hl : lv_has ls 4 [(0, .ref (g.2.2.2 0)), (1, .int (nI bd)), (2, .ref ao)] := hl
  have hP : va_P (g.1, g.2.1) vwCl (wC g σ ++ wT g ao ad ov dv tl) H := hP
  have hD : va_D A (wC g σ ++ wT g ao ad ov dv tl) := hD
  refine lv_aload_n hx hb dL_reachedCounts_0 rfl (lv_at hl 2 rfl) ?_
  refine lv_iconst (v := nI 0) hx hb dL_reachedCounts_1 (by decide) ?_
  refine lv_aload_n hx hb dL_reachedCounts_2 rfl (lv_at hl 0 rfl) ?_
  refine lv_iload_n hx hb dL_reachedCounts_3 rfl (lv_at hl 1 rfl) ?_
  refine jx_calli (vx_runV (As := [.int (nI bd)]) (rest := [.int (nI 0), .ref ao]) ⟨hx, hb, hml, hown, hts⟩ (c_X10_reachedCounts l hflg g (wT g ao ad ov dv tl) H.size σ bd y_hA y_hbd) (cwV 1 hts gL_reachedCounts_X10_reachedCounts rfl rfl rfl (by decide +kernel) ⟨Nat.le_of_ble_eq_true rfl, Nat.le_of_ble_eq_true rfl⟩) (okXV hKX hP hD hZ hS hAA rfl (gC0 g σ (wT g ao ad ov dv tl))) rfl rfl hl.1 rfl (lv_room (Nat.le_of_ble_eq_true rfl)) dL_reachedCounts_4 ⟨Nat.le_of_ble_eq_true rfl, Nat.le_of_ble_eq_true rfl⟩) hD hS hAA (fun E ce q9 u H locs hxp hP hD hS h7 h8 h9 => ?_) (fun r u H locs hw_ hP hD hS => ?_)
  · have e0 : True := trivial
    have hxp : (E = "java/lang/IllegalArgumentException" ∧ (¬ bd < 7)) := hxp
    rcases hxp with ⟨rfl, hc⟩
    · refine vx_catch (name := "java/lang/IllegalArgumentException") hown [] ⟨0, 9, 12, 13⟩ [] (by rw [htab]; rfl) (fun _ h => absurd h List.not_mem_nil) (by decide) (by decide) (va_Nw.use rfl (hKL.2.2 _ (List.mem_of_getElem? (i := 0) rfl))) (va_Nw.use rfl (hKX.2.1 _ (List.mem_of_getElem? (i := 0) rfl))) h7 h8 h9 ?_
      refine lv_astore_n (lv' := [(3, .ref q9), (0, .ref (g.2.2.2 0)), (1, .int (nI bd)), (2, .ref ao)]) hx hb dL_reachedCounts_12 rfl hl (by decide) rfl (fun ls hl => ?_)
      refine lv_iconst (v := nI 1) hx hb dL_reachedCounts_13 (by decide) ?_
      exact hq _ _ _ _ _ _ (nI 1) (_, ov, dv) (Nat.le_of_ble_eq_true rfl) (Nat.le_of_ble_eq_true rfl) dL_reachedCounts_14 (Or.inr ⟨rfl, hc, rfl⟩) hP hD hS
  · have e0 : True := trivial
    obtain ⟨f15, rfl⟩ : ∃ z, z = u := ⟨_, rfl⟩
    obtain ⟨rfl, h_⟩ := hw_
    have h_ : bd < 7 := h_
    have hP : va_P (g.1, g.2.1) vwCl (wC g (sA σ 15 f15) ++ wT g ao ad ov dv tl) H := hP
    have hD : va_D A (wC g (sA σ 15 f15) ++ wT g ao ad ov dv tl) := hD
    refine lv_i2l hx hb dL_reachedCounts_7 rfl ?_
    refine va_last (x := (nI (cnt3 (fun a b c => decide (rch (σ.2.1 0) a b c &&& (σ.1 0) ≠ 0)) (bd + 1))).toInt64) hx hb hK.1 hP hD hS 42 1 (gT42 g (sA σ 15 f15) ao ad ov dv tl) rfl (vp_in_nI (by decide) (by decide)) dL_reachedCounts_8 (fun H locs hP hD hS => ?_)
    have hP : va_P (g.1, g.2.1) vwCl (wH g ao ad tl ((sA σ 15 f15), vp_updL ov 0 ((nI (cnt3 (fun a b c => decide (rch (σ.2.1 0) a b c &&& (σ.1 0) ≠ 0)) (bd + 1))).toInt64), dv)) H := hP
    have hD : va_D A (wH g ao ad tl ((sA σ 15 f15), vp_updL ov 0 ((nI (cnt3 (fun a b c => decide (rch (σ.2.1 0) a b c &&& (σ.1 0) ≠ 0)) (bd + 1))).toInt64), dv)) := hD
    refine lv_goto (tgt := 15) hx hb dL_reachedCounts_9 (by decide) ?_
    refine lv_iconst (v := nI 0) hx hb dL_reachedCounts_15 (by decide) ?_
    exact hq _ _ _ _ _ _ (nI 0) _ (Nat.le_of_ble_eq_true rfl) (Nat.le_of_ble_eq_true rfl) dL_reachedCounts_16 (Or.inl ⟨f15, rfl, h_, rfl⟩) hP hD hS

def RH_firstMissing (σ : SS) (s2 : Nat) (bd : Nat) (ov : Nat → Int64) (dv : Nat → UInt64) (r : Int32) (z : HZ) : Prop :=
  (∃ (r0 : Nat) (f15 : Nat → Nat) (f16 : Nat → Nat), r = nI 0 ∧ (s2 < 2) ∧ (bd < 7) ∧ (isDf (dfS (σ.2.1 0) (σ.1 0) (σ.2.1 2) s2 1) bd r0) ∧ z = ((sA (sA σ 15 f15) 16 f16), vp_updL ov 0 ((nI (r0)).toInt64), dv)) ∨ (∃ (f15 : Nat → Nat) (f16 : Nat → Nat), r = nI 1 ∧ (¬ s2 < 2) ∧ z = ((sA (sA σ 15 f15) 16 f16), ov, dv)) ∨ (∃ (f15 : Nat → Nat) (f16 : Nat → Nat), r = nI 2 ∧ (s2 < 2 ∧ ¬ bd < 7) ∧ z = ((sA (sA σ 15 f15) 16 f16), ov, dv)) ∨ (∃ (f15 : Nat → Nat) (f16 : Nat → Nat), r = nI 3 ∧ (s2 < 2 ∧ bd < 7 ∧ ∀ x y z, x ≤ bd → y ≤ bd → z ≤ bd → ¬ (dfS (σ.2.1 0) (σ.1 0) (σ.2.1 2) s2 1) x y z) ∧ z = ((sA (sA σ 15 f15) 16 f16), ov, dv))
abbrev r_h_firstMissing : Room := { frames := 8, cells := 3, slots := 18, locals := 167 }
set_option maxHeartbeats 4000000 in
set_option maxRecDepth 100000 in
theorem h_firstMissing (l : Launch) (hflg : l.stackTraces = false) (g : GC) (tl : va_W) (sz : Nat) (σ : SS) (ao ad : Nat) (ov : Nat → Int64) (dv : Nat → UInt64) (s2 : Nat) (bd : Nat) (y_hA : OkA σ) (y_hC : OkC (σ.2.1 2)) (y_hs2 : s2 < 4294967296) (y_hbd : bd < 4294967296) : Met l yL_firstMissing wsL_firstMissing r_h_firstMissing (va_Pc [.ref (g.2.2.2 0), .int (nI s2), .int (nI bd), .ref ao] (PH g (wH g ao ad tl (σ, ov, dv)) sz)) (va_Qi (fun r z => RH_firstMissing σ s2 bd ov dv r z) (fun z t => BW g (va_A (wH g ao ad tl (σ, ov, dv)) sz) (wH g ao ad tl z) t) (va_A (wH g ao ad tl (σ, ov, dv)) sz)) 3 18 (va_A (wH g ao ad tl (σ, ov, dv)) sz) := by
  refine jh_i (wf := wH g ao ad tl) (cc := cL_firstMissing) (maxL := 5) (by decide) rfl rfl (Nat.le_of_ble_eq_true rfl) ?_
  intro p e s m below meth c Q A hx hb hml hown hts hKL hP hD hS hAA hZ htab hq ls hl
  have hKX := hKL.1
  have hK := hKX.1
  obtain ⟨H, eH⟩ : ∃ z, z = s.heap := ⟨_, rfl⟩
  obtain ⟨locs, el⟩ : ∃ z : List Loc, z = [] := ⟨_, rfl⟩
  rw [← eH] at hP
  have hS : va_S A s.heap H locs := by rw [eH, el]; exact hS
  have goal0 : W p l e r_h_firstMissing s m ([.ref (g.2.2.2 0), .int (nI s2), .int (nI bd), .ref ao] : List Value).toArray below meth c H locs 0 0 Q (F0 m 0 ls []) → W p l e r_h_firstMissing s m ([.ref (g.2.2.2 0), .int (nI s2), .int (nI bd), .ref ao] : List Value).toArray below meth c s.heap [] 0 0 Q (F0 m 0 ls []) := fun h => by rw [eH, el] at h; exact h
  refine goal0 ?_
  have hl : lv_has ls 5 [(0, .ref (g.2.2.2 0)), (1, .int (nI s2)), (2, .int (nI bd)), (3, .ref ao)] := hl
  have hP : va_P (g.1, g.2.1) vwCl (wC g σ ++ wT g ao ad ov dv tl) H := hP
  have hD : va_D A (wC g σ ++ wT g ao ad ov dv tl) := hD
  refine lv_aload_n hx hb dL_firstMissing_0 rfl (lv_at hl 3 rfl) ?_
  refine lv_iconst (v := nI 0) hx hb dL_firstMissing_1 (by decide) ?_
  refine lv_aload_n hx hb dL_firstMissing_2 rfl (lv_at hl 0 rfl) ?_
  refine lv_iload_n hx hb dL_firstMissing_3 rfl (lv_at hl 1 rfl) ?_
  refine lv_iload_n hx hb dL_firstMissing_4 rfl (lv_at hl 2 rfl) ?_
  refine jx_calli (vx_runV (As := [.int (nI s2), .int (nI bd)]) (rest := [.int (nI 0), .ref ao]) ⟨hx, hb, hml, hown, hts⟩ (c_X10_firstMissing l hflg g (wT g ao ad ov dv tl) H.size σ s2 bd y_hA y_hC y_hs2 y_hbd) (cwV 2 hts gL_firstMissing_X10_firstMissing rfl rfl rfl (by decide +kernel) ⟨Nat.le_of_ble_eq_true rfl, Nat.le_of_ble_eq_true rfl⟩) (okXV hKX hP hD hZ hS hAA rfl (gC0 g σ (wT g ao ad ov dv tl))) rfl rfl hl.1 rfl (lv_room (Nat.le_of_ble_eq_true rfl)) dL_firstMissing_5 ⟨Nat.le_of_ble_eq_true rfl, Nat.le_of_ble_eq_true rfl⟩) hD hS hAA (fun E ce q9 u H locs hxp hP hD hS h7 h8 h9 => ?_) (fun r u H locs hw_ hP hD hS => ?_)
  · have e0 : True := trivial
    obtain ⟨f15, f16⟩ := u
    have hxp : (E = "java/lang/IndexOutOfBoundsException" ∧ (¬ s2 < 2)) ∨ (E = "java/lang/IllegalArgumentException" ∧ (s2 < 2 ∧ ¬ bd < 7)) ∨ (E = "java/util/NoSuchElementException" ∧ (s2 < 2 ∧ bd < 7 ∧ ∀ x y z, x ≤ bd → y ≤ bd → z ≤ bd → ¬ (dfS (σ.2.1 0) (σ.1 0) (σ.2.1 2) s2 1) x y z)) := hxp
    rcases hxp with ⟨rfl, hc⟩ | ⟨rfl, hc⟩ | ⟨rfl, hc⟩
    · refine vx_catch (name := "java/lang/IndexOutOfBoundsException") hown [] ⟨0, 10, 13, 25⟩ [⟨0, 10, 17, 13⟩, ⟨0, 10, 21, 31⟩] (by rw [htab]; rfl) (fun _ h => absurd h List.not_mem_nil) (by decide) (by decide) (va_Nw.use rfl (hKL.2.2 _ (List.mem_of_getElem? (i := 2) rfl))) (va_Nw.use rfl (hKX.2.1 _ (List.mem_of_getElem? (i := 2) rfl))) h7 h8 h9 ?_
      refine lv_astore (lv' := [(4, .ref q9), (0, .ref (g.2.2.2 0)), (1, .int (nI s2)), (2, .int (nI bd)), (3, .ref ao)]) hx hb dL_firstMissing_13 hl (by decide) rfl (fun ls hl => ?_)
      refine lv_iconst (v := nI 1) hx hb dL_firstMissing_15 (by decide) ?_
      exact hq _ _ _ _ _ _ (nI 1) (_, ov, dv) (Nat.le_of_ble_eq_true rfl) (Nat.le_of_ble_eq_true rfl) dL_firstMissing_16 (Or.inr (Or.inl ⟨f15, f16, rfl, hc, rfl⟩)) hP hD hS
    · refine vx_catch (name := "java/lang/IllegalArgumentException") hown [⟨0, 10, 13, 25⟩] ⟨0, 10, 17, 13⟩ [⟨0, 10, 21, 31⟩] (by rw [htab]; rfl) (List.forall_mem_cons.mpr ⟨Or.inr ⟨by decide, "java/lang/IndexOutOfBoundsException", va_Nw.use rfl (hKL.2.2 _ (List.mem_of_getElem? (i := 2) rfl)), hKL.2.1 _ (List.mem_of_getElem? (i := 2) rfl)⟩, fun _ h => absurd h List.not_mem_nil⟩) (by decide) (by decide) (va_Nw.use rfl (hKL.2.2 _ (List.mem_of_getElem? (i := 0) rfl))) (va_Nw.use rfl (hKX.2.1 _ (List.mem_of_getElem? (i := 0) rfl))) h7 h8 h9 ?_
      refine lv_astore (lv' := [(4, .ref q9), (0, .ref (g.2.2.2 0)), (1, .int (nI s2)), (2, .int (nI bd)), (3, .ref ao)]) hx hb dL_firstMissing_17 hl (by decide) rfl (fun ls hl => ?_)
      refine lv_iconst (v := nI 2) hx hb dL_firstMissing_19 (by decide) ?_
      exact hq _ _ _ _ _ _ (nI 2) (_, ov, dv) (Nat.le_of_ble_eq_true rfl) (Nat.le_of_ble_eq_true rfl) dL_firstMissing_20 (Or.inr (Or.inr (Or.inl ⟨f15, f16, rfl, hc, rfl⟩))) hP hD hS
    · refine vx_catch (name := "java/util/NoSuchElementException") hown [⟨0, 10, 13, 25⟩, ⟨0, 10, 17, 13⟩] ⟨0, 10, 21, 31⟩ [] (by rw [htab]; rfl) (List.forall_mem_cons.mpr ⟨Or.inr ⟨by decide, "java/lang/IndexOutOfBoundsException", va_Nw.use rfl (hKL.2.2 _ (List.mem_of_getElem? (i := 2) rfl)), hKL.2.1 _ (List.mem_of_getElem? (i := 4) rfl)⟩, List.forall_mem_cons.mpr ⟨Or.inr ⟨by decide, "java/lang/IllegalArgumentException", va_Nw.use rfl (hKL.2.2 _ (List.mem_of_getElem? (i := 0) rfl)), hKL.2.1 _ (List.mem_of_getElem? (i := 5) rfl)⟩, fun _ h => absurd h List.not_mem_nil⟩⟩) (by decide) (by decide) (va_Nw.use rfl (hKL.2.2 _ (List.mem_of_getElem? (i := 3) rfl))) (va_Nw.use rfl (hKX.2.1 _ (List.mem_of_getElem? (i := 3) rfl))) h7 h8 h9 ?_
      refine lv_astore (lv' := [(4, .ref q9), (0, .ref (g.2.2.2 0)), (1, .int (nI s2)), (2, .int (nI bd)), (3, .ref ao)]) hx hb dL_firstMissing_21 hl (by decide) rfl (fun ls hl => ?_)
      refine lv_iconst (v := nI 3) hx hb dL_firstMissing_23 (by decide) ?_
      exact hq _ _ _ _ _ _ (nI 3) (_, ov, dv) (Nat.le_of_ble_eq_true rfl) (Nat.le_of_ble_eq_true rfl) dL_firstMissing_24 (Or.inr (Or.inr (Or.inr ⟨f15, f16, rfl, hc, rfl⟩))) hP hD hS
  · have e0 : True := trivial
    obtain ⟨r0, f15, f16⟩ := u
    obtain ⟨rfl, h_⟩ := hw_
    have h_ : (s2 < 2) ∧ (bd < 7) ∧ (isDf (dfS (σ.2.1 0) (σ.1 0) (σ.2.1 2) s2 1) bd r0) := h_
    have hP : va_P (g.1, g.2.1) vwCl (wC g (sA (sA σ 15 f15) 16 f16) ++ wT g ao ad ov dv tl) H := hP
    have hD : va_D A (wC g (sA (sA σ 15 f15) 16 f16) ++ wT g ao ad ov dv tl) := hD
    refine lv_i2l hx hb dL_firstMissing_8 rfl ?_
    refine va_last (x := (nI (r0)).toInt64) hx hb hK.1 hP hD hS 42 1 (gT42 g (sA (sA σ 15 f15) 16 f16) ao ad ov dv tl) rfl (vp_in_nI (by decide) (by decide)) dL_firstMissing_9 (fun H locs hP hD hS => ?_)
    have hP : va_P (g.1, g.2.1) vwCl (wH g ao ad tl ((sA (sA σ 15 f15) 16 f16), vp_updL ov 0 ((nI (r0)).toInt64), dv)) H := hP
    have hD : va_D A (wH g ao ad tl ((sA (sA σ 15 f15) 16 f16), vp_updL ov 0 ((nI (r0)).toInt64), dv)) := hD
    refine lv_goto (tgt := 25) hx hb dL_firstMissing_10 (by decide) ?_
    refine lv_iconst (v := nI 0) hx hb dL_firstMissing_25 (by decide) ?_
    exact hq _ _ _ _ _ _ (nI 0) _ (Nat.le_of_ble_eq_true rfl) (Nat.le_of_ble_eq_true rfl) dL_firstMissing_26 (Or.inl ⟨r0, f15, f16, rfl, h_.1, h_.2.1, h_.2.2, rfl⟩) hP hD hS

def RH_firstExtra (σ : SS) (s2 : Nat) (bd : Nat) (ov : Nat → Int64) (dv : Nat → UInt64) (r : Int32) (z : HZ) : Prop :=
  (∃ (r0 : Nat) (f15 : Nat → Nat) (f16 : Nat → Nat), r = nI 0 ∧ (s2 < 2) ∧ (bd < 7) ∧ (isDf (dfS (σ.2.1 0) (σ.1 0) (σ.2.1 2) s2 0) bd r0) ∧ z = ((sA (sA σ 15 f15) 16 f16), vp_updL ov 0 ((nI (r0)).toInt64), dv)) ∨ (∃ (f15 : Nat → Nat) (f16 : Nat → Nat), r = nI 1 ∧ (¬ s2 < 2) ∧ z = ((sA (sA σ 15 f15) 16 f16), ov, dv)) ∨ (∃ (f15 : Nat → Nat) (f16 : Nat → Nat), r = nI 2 ∧ (s2 < 2 ∧ ¬ bd < 7) ∧ z = ((sA (sA σ 15 f15) 16 f16), ov, dv)) ∨ (∃ (f15 : Nat → Nat) (f16 : Nat → Nat), r = nI 3 ∧ (s2 < 2 ∧ bd < 7 ∧ ∀ x y z, x ≤ bd → y ≤ bd → z ≤ bd → ¬ (dfS (σ.2.1 0) (σ.1 0) (σ.2.1 2) s2 0) x y z) ∧ z = ((sA (sA σ 15 f15) 16 f16), ov, dv))
abbrev r_h_firstExtra : Room := { frames := 8, cells := 3, slots := 18, locals := 167 }
set_option maxHeartbeats 4000000 in
set_option maxRecDepth 100000 in
theorem h_firstExtra (l : Launch) (hflg : l.stackTraces = false) (g : GC) (tl : va_W) (sz : Nat) (σ : SS) (ao ad : Nat) (ov : Nat → Int64) (dv : Nat → UInt64) (s2 : Nat) (bd : Nat) (y_hA : OkA σ) (y_hC : OkC (σ.2.1 2)) (y_hs2 : s2 < 4294967296) (y_hbd : bd < 4294967296) : Met l yL_firstExtra wsL_firstExtra r_h_firstExtra (va_Pc [.ref (g.2.2.2 0), .int (nI s2), .int (nI bd), .ref ao] (PH g (wH g ao ad tl (σ, ov, dv)) sz)) (va_Qi (fun r z => RH_firstExtra σ s2 bd ov dv r z) (fun z t => BW g (va_A (wH g ao ad tl (σ, ov, dv)) sz) (wH g ao ad tl z) t) (va_A (wH g ao ad tl (σ, ov, dv)) sz)) 3 18 (va_A (wH g ao ad tl (σ, ov, dv)) sz) := by
  refine jh_i (wf := wH g ao ad tl) (cc := cL_firstExtra) (maxL := 5) (by decide) rfl rfl (Nat.le_of_ble_eq_true rfl) ?_
  intro p e s m below meth c Q A hx hb hml hown hts hKL hP hD hS hAA hZ htab hq ls hl
  have hKX := hKL.1
  have hK := hKX.1
  obtain ⟨H, eH⟩ : ∃ z, z = s.heap := ⟨_, rfl⟩
  obtain ⟨locs, el⟩ : ∃ z : List Loc, z = [] := ⟨_, rfl⟩
  rw [← eH] at hP
  have hS : va_S A s.heap H locs := by rw [eH, el]; exact hS
  have goal0 : W p l e r_h_firstExtra s m ([.ref (g.2.2.2 0), .int (nI s2), .int (nI bd), .ref ao] : List Value).toArray below meth c H locs 0 0 Q (F0 m 0 ls []) → W p l e r_h_firstExtra s m ([.ref (g.2.2.2 0), .int (nI s2), .int (nI bd), .ref ao] : List Value).toArray below meth c s.heap [] 0 0 Q (F0 m 0 ls []) := fun h => by rw [eH, el] at h; exact h
  refine goal0 ?_
  have hl : lv_has ls 5 [(0, .ref (g.2.2.2 0)), (1, .int (nI s2)), (2, .int (nI bd)), (3, .ref ao)] := hl
  have hP : va_P (g.1, g.2.1) vwCl (wC g σ ++ wT g ao ad ov dv tl) H := hP
  have hD : va_D A (wC g σ ++ wT g ao ad ov dv tl) := hD
  refine lv_aload_n hx hb dL_firstExtra_0 rfl (lv_at hl 3 rfl) ?_
  refine lv_iconst (v := nI 0) hx hb dL_firstExtra_1 (by decide) ?_
  refine lv_aload_n hx hb dL_firstExtra_2 rfl (lv_at hl 0 rfl) ?_
  refine lv_iload_n hx hb dL_firstExtra_3 rfl (lv_at hl 1 rfl) ?_
  refine lv_iload_n hx hb dL_firstExtra_4 rfl (lv_at hl 2 rfl) ?_
  refine jx_calli (vx_runV (As := [.int (nI s2), .int (nI bd)]) (rest := [.int (nI 0), .ref ao]) ⟨hx, hb, hml, hown, hts⟩ (c_X10_firstExtra l hflg g (wT g ao ad ov dv tl) H.size σ s2 bd y_hA y_hC y_hs2 y_hbd) (cwV 2 hts gL_firstExtra_X10_firstExtra rfl rfl rfl (by decide +kernel) ⟨Nat.le_of_ble_eq_true rfl, Nat.le_of_ble_eq_true rfl⟩) (okXV hKX hP hD hZ hS hAA rfl (gC0 g σ (wT g ao ad ov dv tl))) rfl rfl hl.1 rfl (lv_room (Nat.le_of_ble_eq_true rfl)) dL_firstExtra_5 ⟨Nat.le_of_ble_eq_true rfl, Nat.le_of_ble_eq_true rfl⟩) hD hS hAA (fun E ce q9 u H locs hxp hP hD hS h7 h8 h9 => ?_) (fun r u H locs hw_ hP hD hS => ?_)
  · have e0 : True := trivial
    obtain ⟨f15, f16⟩ := u
    have hxp : (E = "java/lang/IndexOutOfBoundsException" ∧ (¬ s2 < 2)) ∨ (E = "java/lang/IllegalArgumentException" ∧ (s2 < 2 ∧ ¬ bd < 7)) ∨ (E = "java/util/NoSuchElementException" ∧ (s2 < 2 ∧ bd < 7 ∧ ∀ x y z, x ≤ bd → y ≤ bd → z ≤ bd → ¬ (dfS (σ.2.1 0) (σ.1 0) (σ.2.1 2) s2 0) x y z)) := hxp
    rcases hxp with ⟨rfl, hc⟩ | ⟨rfl, hc⟩ | ⟨rfl, hc⟩
    · refine vx_catch (name := "java/lang/IndexOutOfBoundsException") hown [] ⟨0, 10, 13, 25⟩ [⟨0, 10, 17, 13⟩, ⟨0, 10, 21, 31⟩] (by rw [htab]; rfl) (fun _ h => absurd h List.not_mem_nil) (by decide) (by decide) (va_Nw.use rfl (hKL.2.2 _ (List.mem_of_getElem? (i := 2) rfl))) (va_Nw.use rfl (hKX.2.1 _ (List.mem_of_getElem? (i := 2) rfl))) h7 h8 h9 ?_
      refine lv_astore (lv' := [(4, .ref q9), (0, .ref (g.2.2.2 0)), (1, .int (nI s2)), (2, .int (nI bd)), (3, .ref ao)]) hx hb dL_firstExtra_13 hl (by decide) rfl (fun ls hl => ?_)
      refine lv_iconst (v := nI 1) hx hb dL_firstExtra_15 (by decide) ?_
      exact hq _ _ _ _ _ _ (nI 1) (_, ov, dv) (Nat.le_of_ble_eq_true rfl) (Nat.le_of_ble_eq_true rfl) dL_firstExtra_16 (Or.inr (Or.inl ⟨f15, f16, rfl, hc, rfl⟩)) hP hD hS
    · refine vx_catch (name := "java/lang/IllegalArgumentException") hown [⟨0, 10, 13, 25⟩] ⟨0, 10, 17, 13⟩ [⟨0, 10, 21, 31⟩] (by rw [htab]; rfl) (List.forall_mem_cons.mpr ⟨Or.inr ⟨by decide, "java/lang/IndexOutOfBoundsException", va_Nw.use rfl (hKL.2.2 _ (List.mem_of_getElem? (i := 2) rfl)), hKL.2.1 _ (List.mem_of_getElem? (i := 2) rfl)⟩, fun _ h => absurd h List.not_mem_nil⟩) (by decide) (by decide) (va_Nw.use rfl (hKL.2.2 _ (List.mem_of_getElem? (i := 0) rfl))) (va_Nw.use rfl (hKX.2.1 _ (List.mem_of_getElem? (i := 0) rfl))) h7 h8 h9 ?_
      refine lv_astore (lv' := [(4, .ref q9), (0, .ref (g.2.2.2 0)), (1, .int (nI s2)), (2, .int (nI bd)), (3, .ref ao)]) hx hb dL_firstExtra_17 hl (by decide) rfl (fun ls hl => ?_)
      refine lv_iconst (v := nI 2) hx hb dL_firstExtra_19 (by decide) ?_
      exact hq _ _ _ _ _ _ (nI 2) (_, ov, dv) (Nat.le_of_ble_eq_true rfl) (Nat.le_of_ble_eq_true rfl) dL_firstExtra_20 (Or.inr (Or.inr (Or.inl ⟨f15, f16, rfl, hc, rfl⟩))) hP hD hS
    · refine vx_catch (name := "java/util/NoSuchElementException") hown [⟨0, 10, 13, 25⟩, ⟨0, 10, 17, 13⟩] ⟨0, 10, 21, 31⟩ [] (by rw [htab]; rfl) (List.forall_mem_cons.mpr ⟨Or.inr ⟨by decide, "java/lang/IndexOutOfBoundsException", va_Nw.use rfl (hKL.2.2 _ (List.mem_of_getElem? (i := 2) rfl)), hKL.2.1 _ (List.mem_of_getElem? (i := 4) rfl)⟩, List.forall_mem_cons.mpr ⟨Or.inr ⟨by decide, "java/lang/IllegalArgumentException", va_Nw.use rfl (hKL.2.2 _ (List.mem_of_getElem? (i := 0) rfl)), hKL.2.1 _ (List.mem_of_getElem? (i := 5) rfl)⟩, fun _ h => absurd h List.not_mem_nil⟩⟩) (by decide) (by decide) (va_Nw.use rfl (hKL.2.2 _ (List.mem_of_getElem? (i := 3) rfl))) (va_Nw.use rfl (hKX.2.1 _ (List.mem_of_getElem? (i := 3) rfl))) h7 h8 h9 ?_
      refine lv_astore (lv' := [(4, .ref q9), (0, .ref (g.2.2.2 0)), (1, .int (nI s2)), (2, .int (nI bd)), (3, .ref ao)]) hx hb dL_firstExtra_21 hl (by decide) rfl (fun ls hl => ?_)
      refine lv_iconst (v := nI 3) hx hb dL_firstExtra_23 (by decide) ?_
      exact hq _ _ _ _ _ _ (nI 3) (_, ov, dv) (Nat.le_of_ble_eq_true rfl) (Nat.le_of_ble_eq_true rfl) dL_firstExtra_24 (Or.inr (Or.inr (Or.inr ⟨f15, f16, rfl, hc, rfl⟩))) hP hD hS
  · have e0 : True := trivial
    obtain ⟨r0, f15, f16⟩ := u
    obtain ⟨rfl, h_⟩ := hw_
    have h_ : (s2 < 2) ∧ (bd < 7) ∧ (isDf (dfS (σ.2.1 0) (σ.1 0) (σ.2.1 2) s2 0) bd r0) := h_
    have hP : va_P (g.1, g.2.1) vwCl (wC g (sA (sA σ 15 f15) 16 f16) ++ wT g ao ad ov dv tl) H := hP
    have hD : va_D A (wC g (sA (sA σ 15 f15) 16 f16) ++ wT g ao ad ov dv tl) := hD
    refine lv_i2l hx hb dL_firstExtra_8 rfl ?_
    refine va_last (x := (nI (r0)).toInt64) hx hb hK.1 hP hD hS 42 1 (gT42 g (sA (sA σ 15 f15) 16 f16) ao ad ov dv tl) rfl (vp_in_nI (by decide) (by decide)) dL_firstExtra_9 (fun H locs hP hD hS => ?_)
    have hP : va_P (g.1, g.2.1) vwCl (wH g ao ad tl ((sA (sA σ 15 f15) 16 f16), vp_updL ov 0 ((nI (r0)).toInt64), dv)) H := hP
    have hD : va_D A (wH g ao ad tl ((sA (sA σ 15 f15) 16 f16), vp_updL ov 0 ((nI (r0)).toInt64), dv)) := hD
    refine lv_goto (tgt := 25) hx hb dL_firstExtra_10 (by decide) ?_
    refine lv_iconst (v := nI 0) hx hb dL_firstExtra_25 (by decide) ?_
    exact hq _ _ _ _ _ _ (nI 0) _ (Nat.le_of_ble_eq_true rfl) (Nat.le_of_ble_eq_true rfl) dL_firstExtra_26 (Or.inl ⟨r0, f15, f16, rfl, h_.1, h_.2.1, h_.2.2, rfl⟩) hP hD hS

def RH_hasCyclePeriods (σ : SS) (s2 : Nat) (ln : Nat) (ov : Nat → Int64) (dv : Nat → UInt64) (r : Int32) (z : HZ) : Prop :=
  (∃ (b : Nat) (n7 : Nat) (s8 : Nat) (f18 : Nat → Nat), r = nI 0 ∧ (s2 < 2 ∧ ln < (σ.2.1 2) (s2 * 21)) ∧ ((b = 1 ∧ ∀ j, j < (σ.2.1 2) (s2 * 21 + 1 + ln * 5 + 1) → cyA (σ.2.1 0) (usf σ) 5 ((σ.2.1 2) (s2 * 21 + 1 + ln * 5 + 2 + j))) ∨ (b = 0 ∧ ∃ j, j < (σ.2.1 2) (s2 * 21 + 1 + ln * 5 + 1) ∧ ¬ cyA (σ.2.1 0) (usf σ) 5 ((σ.2.1 2) (s2 * 21 + 1 + ln * 5 + 2 + j)))) ∧ (s8 < 5) ∧ z = ((sA (sF (sF σ 7 n7) 8 s8) 18 f18), vp_updL ov 0 (if b ≠ 0 then 1 else 0), dv)) ∨ (r = nI 1 ∧ (¬ (s2 < 2 ∧ ln < (σ.2.1 2) (s2 * 21))) ∧ z = (σ, ov, dv))
abbrev r_h_hasCyclePeriods : Room := { frames := 9, cells := 1, slots := 6, locals := 243 }
set_option maxHeartbeats 4000000 in
set_option maxRecDepth 100000 in
theorem h_hasCyclePeriods (l : Launch) (hflg : l.stackTraces = false) (g : GC) (tl : va_W) (sz : Nat) (σ : SS) (ao ad : Nat) (ov : Nat → Int64) (dv : Nat → UInt64) (s2 : Nat) (ln : Nat) (y_hA : OkA σ) (y_hC : OkC (σ.2.1 2)) (y_hs8 : σ.1 8 < 5) (y_hs2 : s2 < 4294967296) (y_hln : ln < 4294967296) : Met l yL_hasCyclePeriods wsL_hasCyclePeriods r_h_hasCyclePeriods (va_Pc [.ref (g.2.2.2 0), .int (nI s2), .int (nI ln), .ref ao] (PH g (wH g ao ad tl (σ, ov, dv)) sz)) (va_Qi (fun r z => RH_hasCyclePeriods σ s2 ln ov dv r z) (fun z t => BW g (va_A (wH g ao ad tl (σ, ov, dv)) sz) (wH g ao ad tl z) t) (va_A (wH g ao ad tl (σ, ov, dv)) sz)) 1 6 (va_A (wH g ao ad tl (σ, ov, dv)) sz) := by
  refine jh_i (wf := wH g ao ad tl) (cc := cL_hasCyclePeriods) (maxL := 5) (by decide) rfl rfl (Nat.le_of_ble_eq_true rfl) ?_
  intro p e s m below meth c Q A hx hb hml hown hts hKL hP hD hS hAA hZ htab hq ls hl
  have hKX := hKL.1
  have hK := hKX.1
  obtain ⟨H, eH⟩ : ∃ z, z = s.heap := ⟨_, rfl⟩
  obtain ⟨locs, el⟩ : ∃ z : List Loc, z = [] := ⟨_, rfl⟩
  rw [← eH] at hP
  have hS : va_S A s.heap H locs := by rw [eH, el]; exact hS
  have goal0 : W p l e r_h_hasCyclePeriods s m ([.ref (g.2.2.2 0), .int (nI s2), .int (nI ln), .ref ao] : List Value).toArray below meth c H locs 0 0 Q (F0 m 0 ls []) → W p l e r_h_hasCyclePeriods s m ([.ref (g.2.2.2 0), .int (nI s2), .int (nI ln), .ref ao] : List Value).toArray below meth c s.heap [] 0 0 Q (F0 m 0 ls []) := fun h => by rw [eH, el] at h; exact h
  refine goal0 ?_
  have hl : lv_has ls 5 [(0, .ref (g.2.2.2 0)), (1, .int (nI s2)), (2, .int (nI ln)), (3, .ref ao)] := hl
  have hP : va_P (g.1, g.2.1) vwCl (wC g σ ++ wT g ao ad ov dv tl) H := hP
  have hD : va_D A (wC g σ ++ wT g ao ad ov dv tl) := hD
  refine lv_aload_n hx hb dL_hasCyclePeriods_0 rfl (lv_at hl 3 rfl) ?_
  refine lv_iconst (v := nI 0) hx hb dL_hasCyclePeriods_1 (by decide) ?_
  refine lv_aload_n hx hb dL_hasCyclePeriods_2 rfl (lv_at hl 0 rfl) ?_
  refine lv_iload_n hx hb dL_hasCyclePeriods_3 rfl (lv_at hl 1 rfl) ?_
  refine lv_iload_n hx hb dL_hasCyclePeriods_4 rfl (lv_at hl 2 rfl) ?_
  refine jx_calli (vx_runV (As := [.int (nI s2), .int (nI ln)]) (rest := [.int (nI 0), .ref ao]) ⟨hx, hb, hml, hown, hts⟩ (c_X10_hasCyclePeriods l hflg g (wT g ao ad ov dv tl) H.size σ s2 ln y_hA y_hC y_hs8 y_hs2 y_hln) (cwV 2 hts gL_hasCyclePeriods_X10_hasCyclePeriods rfl rfl rfl (by decide +kernel) ⟨Nat.le_of_ble_eq_true rfl, Nat.le_of_ble_eq_true rfl⟩) (okXV hKX hP hD hZ hS hAA rfl (gC0 g σ (wT g ao ad ov dv tl))) rfl rfl hl.1 rfl (lv_room (Nat.le_of_ble_eq_true rfl)) dL_hasCyclePeriods_5 ⟨Nat.le_of_ble_eq_true rfl, Nat.le_of_ble_eq_true rfl⟩) hD hS hAA (fun E ce q9 u H locs hxp hP hD hS h7 h8 h9 => ?_) (fun r u H locs hw_ hP hD hS => ?_)
  · have e0 : True := trivial
    have hxp : (E = "java/lang/IndexOutOfBoundsException" ∧ (¬ (s2 < 2 ∧ ln < (σ.2.1 2) (s2 * 21)))) := hxp
    rcases hxp with ⟨rfl, hc⟩
    · refine vx_catch (name := "java/lang/IndexOutOfBoundsException") hown [] ⟨0, 17, 20, 25⟩ [] (by rw [htab]; rfl) (fun _ h => absurd h List.not_mem_nil) (by decide) (by decide) (va_Nw.use rfl (hKL.2.2 _ (List.mem_of_getElem? (i := 2) rfl))) (va_Nw.use rfl (hKX.2.1 _ (List.mem_of_getElem? (i := 2) rfl))) h7 h8 h9 ?_
      refine lv_astore (lv' := [(4, .ref q9), (0, .ref (g.2.2.2 0)), (1, .int (nI s2)), (2, .int (nI ln)), (3, .ref ao)]) hx hb dL_hasCyclePeriods_20 hl (by decide) rfl (fun ls hl => ?_)
      refine lv_iconst (v := nI 1) hx hb dL_hasCyclePeriods_22 (by decide) ?_
      exact hq _ _ _ _ _ _ (nI 1) (_, ov, dv) (Nat.le_of_ble_eq_true rfl) (Nat.le_of_ble_eq_true rfl) dL_hasCyclePeriods_23 (Or.inr ⟨rfl, hc, rfl⟩) hP hD hS
  · have e0 : True := trivial
    obtain ⟨b, n7, s8, f18⟩ := u
    obtain ⟨rfl, h_⟩ := hw_
    have h_ : (s2 < 2 ∧ ln < (σ.2.1 2) (s2 * 21)) ∧ ((b = 1 ∧ ∀ j, j < (σ.2.1 2) (s2 * 21 + 1 + ln * 5 + 1) → cyA (σ.2.1 0) (usf σ) 5 ((σ.2.1 2) (s2 * 21 + 1 + ln * 5 + 2 + j))) ∨ (b = 0 ∧ ∃ j, j < (σ.2.1 2) (s2 * 21 + 1 + ln * 5 + 1) ∧ ¬ cyA (σ.2.1 0) (usf σ) 5 ((σ.2.1 2) (s2 * 21 + 1 + ln * 5 + 2 + j)))) ∧ (s8 < 5) := h_
    have hP : va_P (g.1, g.2.1) vwCl (wC g (sA (sF (sF σ 7 n7) 8 s8) 18 f18) ++ wT g ao ad ov dv tl) H := hP
    have hD : va_D A (wC g (sA (sF (sF σ 7 n7) 8 s8) 18 f18) ++ wT g ao ad ov dv tl) := hD
    refine jn_zeq hx hb (by rcases h_.2.1 with z | z <;> have := z.1 <;> omega) (tgt := 15) dL_hasCyclePeriods_8 (by decide) (fun c_ => ?_) (fun c_ => ?_)
    · refine lv_lconst (v := 0) hx hb dL_hasCyclePeriods_15 rfl ?_
      refine va_last (x := 0) hx hb hK.1 hP hD hS 42 1 (gT42 g (sA (sF (sF σ 7 n7) 8 s8) 18 f18) ao ad ov dv tl) rfl (vp_in_nI (by decide) (by decide)) dL_hasCyclePeriods_16 (fun H locs hP hD hS => ?_)
      have hP : va_P (g.1, g.2.1) vwCl (wH g ao ad tl ((sA (sF (sF σ 7 n7) 8 s8) 18 f18), vp_updL ov 0 (0), dv)) H := hP
      have hD : va_D A (wH g ao ad tl ((sA (sF (sF σ 7 n7) 8 s8) 18 f18), vp_updL ov 0 (0), dv)) := hD
      refine lv_goto (tgt := 24) hx hb dL_hasCyclePeriods_17 (by decide) ?_
      refine lv_iconst (v := nI 0) hx hb dL_hasCyclePeriods_24 (by decide) ?_
      exact hq _ _ _ _ _ _ (nI 0) _ (Nat.le_of_ble_eq_true rfl) (Nat.le_of_ble_eq_true rfl) dL_hasCyclePeriods_25 (Or.inl ⟨b, n7, s8, f18, rfl, h_.1, h_.2.1, h_.2.2, by rw [show (if b ≠ 0 then 1 else 0) = (0 : Int64) from if_neg (fun q => q c_)]⟩) hP hD hS
    · refine lv_lconst (v := 1) hx hb dL_hasCyclePeriods_11 rfl ?_
      refine lv_goto (tgt := 16) hx hb dL_hasCyclePeriods_12 (by decide) ?_
      refine va_last (x := 1) hx hb hK.1 hP hD hS 42 1 (gT42 g (sA (sF (sF σ 7 n7) 8 s8) 18 f18) ao ad ov dv tl) rfl (vp_in_nI (by decide) (by decide)) dL_hasCyclePeriods_16 (fun H locs hP hD hS => ?_)
      have hP : va_P (g.1, g.2.1) vwCl (wH g ao ad tl ((sA (sF (sF σ 7 n7) 8 s8) 18 f18), vp_updL ov 0 (1), dv)) H := hP
      have hD : va_D A (wH g ao ad tl ((sA (sF (sF σ 7 n7) 8 s8) 18 f18), vp_updL ov 0 (1), dv)) := hD
      refine lv_goto (tgt := 24) hx hb dL_hasCyclePeriods_17 (by decide) ?_
      refine lv_iconst (v := nI 0) hx hb dL_hasCyclePeriods_24 (by decide) ?_
      exact hq _ _ _ _ _ _ (nI 0) _ (Nat.le_of_ble_eq_true rfl) (Nat.le_of_ble_eq_true rfl) dL_hasCyclePeriods_25 (Or.inl ⟨b, n7, s8, f18, rfl, h_.1, h_.2.1, h_.2.2, by rw [show (if b ≠ 0 then 1 else 0) = (1 : Int64) from if_pos c_]⟩) hP hD hS

def RH_acceptedWords (σ : SS) (md : Nat) (n : Nat) (ov : Nat → Int64) (dv : Nat → UInt64) (r : Int32) (z : HZ) : Prop :=
  (∃ (f15 : Nat → Nat) (l0 : Nat → Nat) (l1 : Nat → Nat) (m2 : Nat) (r2 : Nat) (k2 : Nat) (j2 : Nat) (p2 : Nat), r = nI 0 ∧ (md < 3) ∧ (n < 8) ∧ (md = 2 → detT (σ.2.1 0)) ∧ z = ((sF (sF (sF (sF (sF (sL (sL (sA σ 15 f15) 0 l0) 1 l1) 12 m2) 13 r2) 14 k2) 15 j2) 16 p2), vp_updL ov 0 (lN (cwN (σ.2.1 0) (σ.1 0) md n)), dv)) ∨ (r = nI 1 ∧ (¬ (md < 3 ∧ n < 8)) ∧ z = (σ, ov, dv)) ∨ (r = nI 2 ∧ ((md < 3 ∧ n < 8) ∧ md = 2 ∧ ¬ detT (σ.2.1 0)) ∧ z = (σ, ov, dv))
abbrev r_h_acceptedWords : Room := { frames := 15, cells := 3, slots := 18, locals := 389 }
set_option maxHeartbeats 4000000 in
set_option maxRecDepth 100000 in
theorem h_acceptedWords (l : Launch) (hflg : l.stackTraces = false) (g : GC) (tl : va_W) (sz : Nat) (σ : SS) (ao ad : Nat) (ov : Nat → Int64) (dv : Nat → UInt64) (md : Nat) (n : Nat) (y_hA : OkA σ) (y_hmd : md < 4294967296) (y_hn : n < 4294967296) : Met l yL_acceptedWords wsL_acceptedWords r_h_acceptedWords (va_Pc [.ref (g.2.2.2 0), .int (nI md), .int (nI n), .ref ao] (PH g (wH g ao ad tl (σ, ov, dv)) sz)) (va_Qi (fun r z => RH_acceptedWords σ md n ov dv r z) (fun z t => BW g (va_A (wH g ao ad tl (σ, ov, dv)) sz) (wH g ao ad tl z) t) (va_A (wH g ao ad tl (σ, ov, dv)) sz)) 3 18 (va_A (wH g ao ad tl (σ, ov, dv)) sz) := by
  refine jh_i (wf := wH g ao ad tl) (cc := cL_acceptedWords) (maxL := 5) (by decide) rfl rfl (Nat.le_of_ble_eq_true rfl) ?_
  intro p e s m below meth c Q A hx hb hml hown hts hKL hP hD hS hAA hZ htab hq ls hl
  have hKX := hKL.1
  have hK := hKX.1
  obtain ⟨H, eH⟩ : ∃ z, z = s.heap := ⟨_, rfl⟩
  obtain ⟨locs, el⟩ : ∃ z : List Loc, z = [] := ⟨_, rfl⟩
  rw [← eH] at hP
  have hS : va_S A s.heap H locs := by rw [eH, el]; exact hS
  have goal0 : W p l e r_h_acceptedWords s m ([.ref (g.2.2.2 0), .int (nI md), .int (nI n), .ref ao] : List Value).toArray below meth c H locs 0 0 Q (F0 m 0 ls []) → W p l e r_h_acceptedWords s m ([.ref (g.2.2.2 0), .int (nI md), .int (nI n), .ref ao] : List Value).toArray below meth c s.heap [] 0 0 Q (F0 m 0 ls []) := fun h => by rw [eH, el] at h; exact h
  refine goal0 ?_
  have hl : lv_has ls 5 [(0, .ref (g.2.2.2 0)), (1, .int (nI md)), (2, .int (nI n)), (3, .ref ao)] := hl
  have hP : va_P (g.1, g.2.1) vwCl (wC g σ ++ wT g ao ad ov dv tl) H := hP
  have hD : va_D A (wC g σ ++ wT g ao ad ov dv tl) := hD
  refine lv_aload_n hx hb dL_acceptedWords_0 rfl (lv_at hl 3 rfl) ?_
  refine lv_iconst (v := nI 0) hx hb dL_acceptedWords_1 (by decide) ?_
  refine lv_aload_n hx hb dL_acceptedWords_2 rfl (lv_at hl 0 rfl) ?_
  refine lv_iload_n hx hb dL_acceptedWords_3 rfl (lv_at hl 1 rfl) ?_
  refine lv_iload_n hx hb dL_acceptedWords_4 rfl (lv_at hl 2 rfl) ?_
  refine jx_calll (vx_runV (As := [.int (nI md), .int (nI n)]) (rest := [.int (nI 0), .ref ao]) ⟨hx, hb, hml, hown, hts⟩ (c_X10_acceptedWords l hflg g (wT g ao ad ov dv tl) H.size σ md n y_hA y_hmd y_hn) (cwV 2 hts gL_acceptedWords_X10_acceptedWords rfl rfl rfl (by decide +kernel) ⟨Nat.le_of_ble_eq_true rfl, Nat.le_of_ble_eq_true rfl⟩) (okXV hKX hP hD hZ hS hAA rfl (gC0 g σ (wT g ao ad ov dv tl))) rfl rfl hl.1 rfl (lv_room (Nat.le_of_ble_eq_true rfl)) dL_acceptedWords_5 ⟨Nat.le_of_ble_eq_true rfl, Nat.le_of_ble_eq_true rfl⟩) hD hS hAA (fun E ce q9 u H locs hxp hP hD hS h7 h8 h9 => ?_) (fun r u H locs hw_ hP hD hS => ?_)
  · have e0 : True := trivial
    have hxp : (E = "java/lang/IllegalArgumentException" ∧ (¬ (md < 3 ∧ n < 8))) ∨ (E = "java/lang/UnsupportedOperationException" ∧ ((md < 3 ∧ n < 8) ∧ md = 2 ∧ ¬ detT (σ.2.1 0))) := hxp
    rcases hxp with ⟨rfl, hc⟩ | ⟨rfl, hc⟩
    · refine vx_catch (name := "java/lang/IllegalArgumentException") hown [] ⟨0, 9, 12, 13⟩ [⟨0, 9, 16, 50⟩] (by rw [htab]; rfl) (fun _ h => absurd h List.not_mem_nil) (by decide) (by decide) (va_Nw.use rfl (hKL.2.2 _ (List.mem_of_getElem? (i := 0) rfl))) (va_Nw.use rfl (hKX.2.1 _ (List.mem_of_getElem? (i := 0) rfl))) h7 h8 h9 ?_
      refine lv_astore (lv' := [(4, .ref q9), (0, .ref (g.2.2.2 0)), (1, .int (nI md)), (2, .int (nI n)), (3, .ref ao)]) hx hb dL_acceptedWords_12 hl (by decide) rfl (fun ls hl => ?_)
      refine lv_iconst (v := nI 1) hx hb dL_acceptedWords_14 (by decide) ?_
      exact hq _ _ _ _ _ _ (nI 1) (_, ov, dv) (Nat.le_of_ble_eq_true rfl) (Nat.le_of_ble_eq_true rfl) dL_acceptedWords_15 (Or.inr (Or.inl ⟨rfl, hc, rfl⟩)) hP hD hS
    · refine vx_catch (name := "java/lang/UnsupportedOperationException") hown [⟨0, 9, 12, 13⟩] ⟨0, 9, 16, 50⟩ [] (by rw [htab]; rfl) (List.forall_mem_cons.mpr ⟨Or.inr ⟨by decide, "java/lang/IllegalArgumentException", va_Nw.use rfl (hKL.2.2 _ (List.mem_of_getElem? (i := 0) rfl)), hKL.2.1 _ (List.mem_of_getElem? (i := 1) rfl)⟩, fun _ h => absurd h List.not_mem_nil⟩) (by decide) (by decide) (va_Nw.use rfl (hKL.2.2 _ (List.mem_of_getElem? (i := 4) rfl))) (va_Nw.use rfl (hKX.2.1 _ (List.mem_of_getElem? (i := 4) rfl))) h7 h8 h9 ?_
      refine lv_astore (lv' := [(4, .ref q9), (0, .ref (g.2.2.2 0)), (1, .int (nI md)), (2, .int (nI n)), (3, .ref ao)]) hx hb dL_acceptedWords_16 hl (by decide) rfl (fun ls hl => ?_)
      refine lv_iconst (v := nI 2) hx hb dL_acceptedWords_18 (by decide) ?_
      exact hq _ _ _ _ _ _ (nI 2) (_, ov, dv) (Nat.le_of_ble_eq_true rfl) (Nat.le_of_ble_eq_true rfl) dL_acceptedWords_19 (Or.inr (Or.inr ⟨rfl, hc, rfl⟩)) hP hD hS
  · have e0 : True := trivial
    obtain ⟨f15, l0, l1, m2, r2, k2, j2, p2⟩ := u
    obtain ⟨rfl, h_⟩ := hw_
    have h_ : (md < 3) ∧ (n < 8) ∧ (md = 2 → detT (σ.2.1 0)) := h_
    have hP : va_P (g.1, g.2.1) vwCl (wC g (sF (sF (sF (sF (sF (sL (sL (sA σ 15 f15) 0 l0) 1 l1) 12 m2) 13 r2) 14 k2) 15 j2) 16 p2) ++ wT g ao ad ov dv tl) H := hP
    have hD : va_D A (wC g (sF (sF (sF (sF (sF (sL (sL (sA σ 15 f15) 0 l0) 1 l1) 12 m2) 13 r2) 14 k2) 15 j2) 16 p2) ++ wT g ao ad ov dv tl) := hD
    refine va_last (x := lN (cwN (σ.2.1 0) (σ.1 0) md n)) hx hb hK.1 hP hD hS 42 1 (gT42 g (sF (sF (sF (sF (sF (sL (sL (sA σ 15 f15) 0 l0) 1 l1) 12 m2) 13 r2) 14 k2) 15 j2) 16 p2) ao ad ov dv tl) rfl (vp_in_nI (by decide) (by decide)) dL_acceptedWords_8 (fun H locs hP hD hS => ?_)
    have hP : va_P (g.1, g.2.1) vwCl (wH g ao ad tl ((sF (sF (sF (sF (sF (sL (sL (sA σ 15 f15) 0 l0) 1 l1) 12 m2) 13 r2) 14 k2) 15 j2) 16 p2), vp_updL ov 0 (lN (cwN (σ.2.1 0) (σ.1 0) md n)), dv)) H := hP
    have hD : va_D A (wH g ao ad tl ((sF (sF (sF (sF (sF (sL (sL (sA σ 15 f15) 0 l0) 1 l1) 12 m2) 13 r2) 14 k2) 15 j2) 16 p2), vp_updL ov 0 (lN (cwN (σ.2.1 0) (σ.1 0) md n)), dv)) := hD
    refine lv_goto (tgt := 20) hx hb dL_acceptedWords_9 (by decide) ?_
    refine lv_iconst (v := nI 0) hx hb dL_acceptedWords_20 (by decide) ?_
    exact hq _ _ _ _ _ _ (nI 0) _ (Nat.le_of_ble_eq_true rfl) (Nat.le_of_ble_eq_true rfl) dL_acceptedWords_21 (Or.inl ⟨f15, l0, l1, m2, r2, k2, j2, p2, rfl, h_.1, h_.2.1, h_.2.2, rfl⟩) hP hD hS

def RH_isClosed (σ : SS) (n : Nat) (ov : Nat → Int64) (dv : Nat → UInt64) (r : Int32) (z : HZ) : Prop :=
  (∃ (f15 : Nat → Nat) (l0 : Nat → Nat) (l1 : Nat → Nat), r = nI 0 ∧ (n < 8) ∧ z = ((sL (sL (sA σ 15 f15) 0 l0) 1 l1), vp_updL ov 0 (if ¬ solF (σ.2.1 0) (σ.1 0) n ≤ n then 1 else 0), dv)) ∨ (r = nI 1 ∧ (¬ n < 8) ∧ z = (σ, ov, dv))
abbrev r_h_isClosed : Room := { frames := 8, cells := 1, slots := 6, locals := 132 }
set_option maxHeartbeats 4000000 in
set_option maxRecDepth 100000 in
theorem h_isClosed (l : Launch) (hflg : l.stackTraces = false) (g : GC) (tl : va_W) (sz : Nat) (σ : SS) (ao ad : Nat) (ov : Nat → Int64) (dv : Nat → UInt64) (n : Nat) (y_hA : OkA σ) (y_hn : n < 4294967296) : Met l yL_isClosed wsL_isClosed r_h_isClosed (va_Pc [.ref (g.2.2.2 0), .int (nI n), .ref ao] (PH g (wH g ao ad tl (σ, ov, dv)) sz)) (va_Qi (fun r z => RH_isClosed σ n ov dv r z) (fun z t => BW g (va_A (wH g ao ad tl (σ, ov, dv)) sz) (wH g ao ad tl z) t) (va_A (wH g ao ad tl (σ, ov, dv)) sz)) 1 6 (va_A (wH g ao ad tl (σ, ov, dv)) sz) := by
  refine jh_i (wf := wH g ao ad tl) (cc := cL_isClosed) (maxL := 4) (by decide) rfl rfl (Nat.le_of_ble_eq_true rfl) ?_
  intro p e s m below meth c Q A hx hb hml hown hts hKL hP hD hS hAA hZ htab hq ls hl
  have hKX := hKL.1
  have hK := hKX.1
  obtain ⟨H, eH⟩ : ∃ z, z = s.heap := ⟨_, rfl⟩
  obtain ⟨locs, el⟩ : ∃ z : List Loc, z = [] := ⟨_, rfl⟩
  rw [← eH] at hP
  have hS : va_S A s.heap H locs := by rw [eH, el]; exact hS
  have goal0 : W p l e r_h_isClosed s m ([.ref (g.2.2.2 0), .int (nI n), .ref ao] : List Value).toArray below meth c H locs 0 0 Q (F0 m 0 ls []) → W p l e r_h_isClosed s m ([.ref (g.2.2.2 0), .int (nI n), .ref ao] : List Value).toArray below meth c s.heap [] 0 0 Q (F0 m 0 ls []) := fun h => by rw [eH, el] at h; exact h
  refine goal0 ?_
  have hl : lv_has ls 4 [(0, .ref (g.2.2.2 0)), (1, .int (nI n)), (2, .ref ao)] := hl
  have hP : va_P (g.1, g.2.1) vwCl (wC g σ ++ wT g ao ad ov dv tl) H := hP
  have hD : va_D A (wC g σ ++ wT g ao ad ov dv tl) := hD
  refine lv_aload_n hx hb dL_isClosed_0 rfl (lv_at hl 2 rfl) ?_
  refine lv_iconst (v := nI 0) hx hb dL_isClosed_1 (by decide) ?_
  refine lv_aload_n hx hb dL_isClosed_2 rfl (lv_at hl 0 rfl) ?_
  refine lv_iload_n hx hb dL_isClosed_3 rfl (lv_at hl 1 rfl) ?_
  refine jx_calli (vx_runV (As := [.int (nI n)]) (rest := [.int (nI 0), .ref ao]) ⟨hx, hb, hml, hown, hts⟩ (c_X10_isClosed l hflg g (wT g ao ad ov dv tl) H.size σ n y_hA y_hn) (cwV 1 hts gL_isClosed_X10_isClosed rfl rfl rfl (by decide +kernel) ⟨Nat.le_of_ble_eq_true rfl, Nat.le_of_ble_eq_true rfl⟩) (okXV hKX hP hD hZ hS hAA rfl (gC0 g σ (wT g ao ad ov dv tl))) rfl rfl hl.1 rfl (lv_room (Nat.le_of_ble_eq_true rfl)) dL_isClosed_4 ⟨Nat.le_of_ble_eq_true rfl, Nat.le_of_ble_eq_true rfl⟩) hD hS hAA (fun E ce q9 u H locs hxp hP hD hS h7 h8 h9 => ?_) (fun r u H locs hw_ hP hD hS => ?_)
  · have e0 : True := trivial
    have hxp : (E = "java/lang/IllegalArgumentException" ∧ (¬ n < 8)) := hxp
    rcases hxp with ⟨rfl, hc⟩
    · refine vx_catch (name := "java/lang/IllegalArgumentException") hown [] ⟨0, 16, 19, 13⟩ [] (by rw [htab]; rfl) (fun _ h => absurd h List.not_mem_nil) (by decide) (by decide) (va_Nw.use rfl (hKL.2.2 _ (List.mem_of_getElem? (i := 0) rfl))) (va_Nw.use rfl (hKX.2.1 _ (List.mem_of_getElem? (i := 0) rfl))) h7 h8 h9 ?_
      refine lv_astore_n (lv' := [(3, .ref q9), (0, .ref (g.2.2.2 0)), (1, .int (nI n)), (2, .ref ao)]) hx hb dL_isClosed_19 rfl hl (by decide) rfl (fun ls hl => ?_)
      refine lv_iconst (v := nI 1) hx hb dL_isClosed_20 (by decide) ?_
      exact hq _ _ _ _ _ _ (nI 1) (_, ov, dv) (Nat.le_of_ble_eq_true rfl) (Nat.le_of_ble_eq_true rfl) dL_isClosed_21 (Or.inr ⟨rfl, hc, rfl⟩) hP hD hS
  · have e0 : True := trivial
    obtain ⟨f15, l0, l1⟩ := u
    obtain ⟨rfl, h_⟩ := hw_
    have h_ : n < 8 := h_
    have hP : va_P (g.1, g.2.1) vwCl (wC g (sL (sL (sA σ 15 f15) 0 l0) 1 l1) ++ wT g ao ad ov dv tl) H := hP
    have hD : va_D A (wC g (sL (sL (sA σ 15 f15) 0 l0) 1 l1) ++ wT g ao ad ov dv tl) := hD
    refine jn_beq hx hb (tgt := 14) dL_isClosed_7 (by decide) (fun c_ => ?_) (fun c_ => ?_)
    · refine lv_lconst (v := 0) hx hb dL_isClosed_14 rfl ?_
      refine va_last (x := 0) hx hb hK.1 hP hD hS 42 1 (gT42 g (sL (sL (sA σ 15 f15) 0 l0) 1 l1) ao ad ov dv tl) rfl (vp_in_nI (by decide) (by decide)) dL_isClosed_15 (fun H locs hP hD hS => ?_)
      have hP : va_P (g.1, g.2.1) vwCl (wH g ao ad tl ((sL (sL (sA σ 15 f15) 0 l0) 1 l1), vp_updL ov 0 (0), dv)) H := hP
      have hD : va_D A (wH g ao ad tl ((sL (sL (sA σ 15 f15) 0 l0) 1 l1), vp_updL ov 0 (0), dv)) := hD
      refine lv_goto (tgt := 22) hx hb dL_isClosed_16 (by decide) ?_
      refine lv_iconst (v := nI 0) hx hb dL_isClosed_22 (by decide) ?_
      exact hq _ _ _ _ _ _ (nI 0) _ (Nat.le_of_ble_eq_true rfl) (Nat.le_of_ble_eq_true rfl) dL_isClosed_23 (Or.inl ⟨f15, l0, l1, rfl, h_, by rw [show (if ¬ solF (σ.2.1 0) (σ.1 0) n ≤ n then 1 else 0) = (0 : Int64) from if_neg c_]⟩) hP hD hS
    · refine lv_lconst (v := 1) hx hb dL_isClosed_10 rfl ?_
      refine lv_goto (tgt := 15) hx hb dL_isClosed_11 (by decide) ?_
      refine va_last (x := 1) hx hb hK.1 hP hD hS 42 1 (gT42 g (sL (sL (sA σ 15 f15) 0 l0) 1 l1) ao ad ov dv tl) rfl (vp_in_nI (by decide) (by decide)) dL_isClosed_15 (fun H locs hP hD hS => ?_)
      have hP : va_P (g.1, g.2.1) vwCl (wH g ao ad tl ((sL (sL (sA σ 15 f15) 0 l0) 1 l1), vp_updL ov 0 (1), dv)) H := hP
      have hD : va_D A (wH g ao ad tl ((sL (sL (sA σ 15 f15) 0 l0) 1 l1), vp_updL ov 0 (1), dv)) := hD
      refine lv_goto (tgt := 22) hx hb dL_isClosed_16 (by decide) ?_
      refine lv_iconst (v := nI 0) hx hb dL_isClosed_22 (by decide) ?_
      exact hq _ _ _ _ _ _ (nI 0) _ (Nat.le_of_ble_eq_true rfl) (Nat.le_of_ble_eq_true rfl) dL_isClosed_23 (Or.inl ⟨f15, l0, l1, rfl, h_, by rw [show (if ¬ solF (σ.2.1 0) (σ.1 0) n ≤ n then 1 else 0) = (1 : Int64) from if_pos c_]⟩) hP hD hS

def RH_takeOpenWord (σ : SS) (n : Nat) (ov : Nat → Int64) (dv : Nat → UInt64) (r : Int32) (z : HZ) : Prop :=
  (∃ (f15 : Nat → Nat) (l0 : Nat → Nat) (l1 : Nat → Nat) (n17 : Nat) (lt2 : Nat → Nat), r = nI 0 ∧ (n < 8) ∧ ((solF (σ.2.1 0) (σ.1 0) n) ≤ n) ∧ (∀ a b c, a ≤ n → b ≤ n → c ≤ n → f15 (100 * a + 10 * b + c) = rch (σ.2.1 0) a b c) ∧ (opP (σ.2.1 0) f15 (σ.1 0) (solF (σ.2.1 0) (σ.1 0) n) 1 0) ∧ (isOp (σ.2.1 0) f15 (σ.1 0) (solF (σ.2.1 0) (σ.1 0) n) 1 0 lt2) ∧ z = ((sF (sF (sA (sA (sF (sL (sL (sA σ 15 f15) 0 l0) 1 l1) 17 n17) 19 lt2) 14 (va_cpy lt2 (σ.2.1 14) 0 0 (solF (σ.2.1 0) (σ.1 0) n))) 20 ((solF (σ.2.1 0) (σ.1 0) n))) 21 0), vp_updL ov 0 ((nI ((solF (σ.2.1 0) (σ.1 0) n))).toInt64), dv)) ∨ (∃ (f15 : Nat → Nat) (l0 : Nat → Nat) (l1 : Nat → Nat) (n17 : Nat) (lt2 : Nat → Nat), r = nI 1 ∧ (¬ n < 8) ∧ z = ((sA (sF (sL (sL (sA σ 15 f15) 0 l0) 1 l1) 17 n17) 19 lt2), ov, dv)) ∨ (∃ (f15 : Nat → Nat) (l0 : Nat → Nat) (l1 : Nat → Nat) (n17 : Nat) (lt2 : Nat → Nat), r = nI 2 ∧ (n < 8 ∧ (∀ a b c, a ≤ n → b ≤ n → c ≤ n → f15 (100 * a + 10 * b + c) = rch (σ.2.1 0) a b c) ∧ (¬ (solF (σ.2.1 0) (σ.1 0) n) ≤ n ∨ ¬ opP (σ.2.1 0) f15 (σ.1 0) (solF (σ.2.1 0) (σ.1 0) n) 1 0)) ∧ z = ((sA (sF (sL (sL (sA σ 15 f15) 0 l0) 1 l1) 17 n17) 19 lt2), ov, dv))
abbrev r_h_takeOpenWord : Room := { frames := 11, cells := 2, slots := 12, locals := 282 }
set_option maxHeartbeats 4000000 in
set_option maxRecDepth 100000 in
theorem h_takeOpenWord (l : Launch) (hflg : l.stackTraces = false) (g : GC) (tl : va_W) (sz : Nat) (σ : SS) (ao ad : Nat) (ov : Nat → Int64) (dv : Nat → UInt64) (n : Nat) (y_hA : OkA σ) (y_hn : n < 4294967296) : Met l yL_takeOpenWord wsL_takeOpenWord r_h_takeOpenWord (va_Pc [.ref (g.2.2.2 0), .int (nI n), .ref ao] (PH g (wH g ao ad tl (σ, ov, dv)) sz)) (va_Qi (fun r z => RH_takeOpenWord σ n ov dv r z) (fun z t => BW g (va_A (wH g ao ad tl (σ, ov, dv)) sz) (wH g ao ad tl z) t) (va_A (wH g ao ad tl (σ, ov, dv)) sz)) 2 12 (va_A (wH g ao ad tl (σ, ov, dv)) sz) := by
  refine jh_i (wf := wH g ao ad tl) (cc := cL_takeOpenWord) (maxL := 4) (by decide) rfl rfl (Nat.le_of_ble_eq_true rfl) ?_
  intro p e s m below meth c Q A hx hb hml hown hts hKL hP hD hS hAA hZ htab hq ls hl
  have hKX := hKL.1
  have hK := hKX.1
  obtain ⟨H, eH⟩ : ∃ z, z = s.heap := ⟨_, rfl⟩
  obtain ⟨locs, el⟩ : ∃ z : List Loc, z = [] := ⟨_, rfl⟩
  rw [← eH] at hP
  have hS : va_S A s.heap H locs := by rw [eH, el]; exact hS
  have goal0 : W p l e r_h_takeOpenWord s m ([.ref (g.2.2.2 0), .int (nI n), .ref ao] : List Value).toArray below meth c H locs 0 0 Q (F0 m 0 ls []) → W p l e r_h_takeOpenWord s m ([.ref (g.2.2.2 0), .int (nI n), .ref ao] : List Value).toArray below meth c s.heap [] 0 0 Q (F0 m 0 ls []) := fun h => by rw [eH, el] at h; exact h
  refine goal0 ?_
  have hl : lv_has ls 4 [(0, .ref (g.2.2.2 0)), (1, .int (nI n)), (2, .ref ao)] := hl
  have hP : va_P (g.1, g.2.1) vwCl (wC g σ ++ wT g ao ad ov dv tl) H := hP
  have hD : va_D A (wC g σ ++ wT g ao ad ov dv tl) := hD
  refine lv_aload_n hx hb dL_takeOpenWord_0 rfl (lv_at hl 2 rfl) ?_
  refine lv_iconst (v := nI 0) hx hb dL_takeOpenWord_1 (by decide) ?_
  refine lv_aload_n hx hb dL_takeOpenWord_2 rfl (lv_at hl 0 rfl) ?_
  refine lv_iload_n hx hb dL_takeOpenWord_3 rfl (lv_at hl 1 rfl) ?_
  refine jx_calli (vx_runV (As := [.int (nI n)]) (rest := [.int (nI 0), .ref ao]) ⟨hx, hb, hml, hown, hts⟩ (c_X10_takeOpenWord l hflg g (wT g ao ad ov dv tl) H.size σ n y_hA y_hn) (cwV 1 hts gL_takeOpenWord_X10_takeOpenWord rfl rfl rfl (by decide +kernel) ⟨Nat.le_of_ble_eq_true rfl, Nat.le_of_ble_eq_true rfl⟩) (okXV hKX hP hD hZ hS hAA rfl (gC0 g σ (wT g ao ad ov dv tl))) rfl rfl hl.1 rfl (lv_room (Nat.le_of_ble_eq_true rfl)) dL_takeOpenWord_4 ⟨Nat.le_of_ble_eq_true rfl, Nat.le_of_ble_eq_true rfl⟩) hD hS hAA (fun E ce q9 u H locs hxp hP hD hS h7 h8 h9 => ?_) (fun r u H locs hw_ hP hD hS => ?_)
  · have e0 : True := trivial
    obtain ⟨f15, l0, l1, n17, lt2⟩ := u
    have hxp : (E = "java/lang/IllegalArgumentException" ∧ (¬ n < 8)) ∨ (E = "java/util/NoSuchElementException" ∧ (n < 8 ∧ (∀ a b c, a ≤ n → b ≤ n → c ≤ n → f15 (100 * a + 10 * b + c) = rch (σ.2.1 0) a b c) ∧ (¬ (solF (σ.2.1 0) (σ.1 0) n) ≤ n ∨ ¬ opP (σ.2.1 0) f15 (σ.1 0) (solF (σ.2.1 0) (σ.1 0) n) 1 0))) := hxp
    rcases hxp with ⟨rfl, hc⟩ | ⟨rfl, hc⟩
    · refine vx_catch (name := "java/lang/IllegalArgumentException") hown [] ⟨0, 9, 12, 13⟩ [⟨0, 9, 15, 31⟩] (by rw [htab]; rfl) (fun _ h => absurd h List.not_mem_nil) (by decide) (by decide) (va_Nw.use rfl (hKL.2.2 _ (List.mem_of_getElem? (i := 0) rfl))) (va_Nw.use rfl (hKX.2.1 _ (List.mem_of_getElem? (i := 0) rfl))) h7 h8 h9 ?_
      refine lv_astore_n (lv' := [(3, .ref q9), (0, .ref (g.2.2.2 0)), (1, .int (nI n)), (2, .ref ao)]) hx hb dL_takeOpenWord_12 rfl hl (by decide) rfl (fun ls hl => ?_)
      refine lv_iconst (v := nI 1) hx hb dL_takeOpenWord_13 (by decide) ?_
      exact hq _ _ _ _ _ _ (nI 1) (_, ov, dv) (Nat.le_of_ble_eq_true rfl) (Nat.le_of_ble_eq_true rfl) dL_takeOpenWord_14 (Or.inr (Or.inl ⟨f15, l0, l1, n17, lt2, rfl, hc, rfl⟩)) hP hD hS
    · refine vx_catch (name := "java/util/NoSuchElementException") hown [⟨0, 9, 12, 13⟩] ⟨0, 9, 15, 31⟩ [] (by rw [htab]; rfl) (List.forall_mem_cons.mpr ⟨Or.inr ⟨by decide, "java/lang/IllegalArgumentException", va_Nw.use rfl (hKL.2.2 _ (List.mem_of_getElem? (i := 0) rfl)), hKL.2.1 _ (List.mem_of_getElem? (i := 5) rfl)⟩, fun _ h => absurd h List.not_mem_nil⟩) (by decide) (by decide) (va_Nw.use rfl (hKL.2.2 _ (List.mem_of_getElem? (i := 3) rfl))) (va_Nw.use rfl (hKX.2.1 _ (List.mem_of_getElem? (i := 3) rfl))) h7 h8 h9 ?_
      refine lv_astore_n (lv' := [(3, .ref q9), (0, .ref (g.2.2.2 0)), (1, .int (nI n)), (2, .ref ao)]) hx hb dL_takeOpenWord_15 rfl hl (by decide) rfl (fun ls hl => ?_)
      refine lv_iconst (v := nI 2) hx hb dL_takeOpenWord_16 (by decide) ?_
      exact hq _ _ _ _ _ _ (nI 2) (_, ov, dv) (Nat.le_of_ble_eq_true rfl) (Nat.le_of_ble_eq_true rfl) dL_takeOpenWord_17 (Or.inr (Or.inr ⟨f15, l0, l1, n17, lt2, rfl, hc, rfl⟩)) hP hD hS
  · have e0 : True := trivial
    obtain ⟨f15, l0, l1, n17, lt2⟩ := u
    obtain ⟨rfl, h_⟩ := hw_
    have h_ : (n < 8) ∧ ((solF (σ.2.1 0) (σ.1 0) n) ≤ n) ∧ (∀ a b c, a ≤ n → b ≤ n → c ≤ n → f15 (100 * a + 10 * b + c) = rch (σ.2.1 0) a b c) ∧ (opP (σ.2.1 0) f15 (σ.1 0) (solF (σ.2.1 0) (σ.1 0) n) 1 0) ∧ (isOp (σ.2.1 0) f15 (σ.1 0) (solF (σ.2.1 0) (σ.1 0) n) 1 0 lt2) := h_
    have hP : va_P (g.1, g.2.1) vwCl (wC g (sF (sF (sA (sA (sF (sL (sL (sA σ 15 f15) 0 l0) 1 l1) 17 n17) 19 lt2) 14 (va_cpy lt2 (σ.2.1 14) 0 0 (solF (σ.2.1 0) (σ.1 0) n))) 20 ((solF (σ.2.1 0) (σ.1 0) n))) 21 0) ++ wT g ao ad ov dv tl) H := hP
    have hD : va_D A (wC g (sF (sF (sA (sA (sF (sL (sL (sA σ 15 f15) 0 l0) 1 l1) 17 n17) 19 lt2) 14 (va_cpy lt2 (σ.2.1 14) 0 0 (solF (σ.2.1 0) (σ.1 0) n))) 20 ((solF (σ.2.1 0) (σ.1 0) n))) 21 0) ++ wT g ao ad ov dv tl) := hD
    refine lv_i2l hx hb dL_takeOpenWord_7 rfl ?_
    refine va_last (x := (nI ((solF (σ.2.1 0) (σ.1 0) n))).toInt64) hx hb hK.1 hP hD hS 42 1 (gT42 g (sF (sF (sA (sA (sF (sL (sL (sA σ 15 f15) 0 l0) 1 l1) 17 n17) 19 lt2) 14 (va_cpy lt2 (σ.2.1 14) 0 0 (solF (σ.2.1 0) (σ.1 0) n))) 20 ((solF (σ.2.1 0) (σ.1 0) n))) 21 0) ao ad ov dv tl) rfl (vp_in_nI (by decide) (by decide)) dL_takeOpenWord_8 (fun H locs hP hD hS => ?_)
    have hP : va_P (g.1, g.2.1) vwCl (wH g ao ad tl ((sF (sF (sA (sA (sF (sL (sL (sA σ 15 f15) 0 l0) 1 l1) 17 n17) 19 lt2) 14 (va_cpy lt2 (σ.2.1 14) 0 0 (solF (σ.2.1 0) (σ.1 0) n))) 20 ((solF (σ.2.1 0) (σ.1 0) n))) 21 0), vp_updL ov 0 ((nI ((solF (σ.2.1 0) (σ.1 0) n))).toInt64), dv)) H := hP
    have hD : va_D A (wH g ao ad tl ((sF (sF (sA (sA (sF (sL (sL (sA σ 15 f15) 0 l0) 1 l1) 17 n17) 19 lt2) 14 (va_cpy lt2 (σ.2.1 14) 0 0 (solF (σ.2.1 0) (σ.1 0) n))) 20 ((solF (σ.2.1 0) (σ.1 0) n))) 21 0), vp_updL ov 0 ((nI ((solF (σ.2.1 0) (σ.1 0) n))).toInt64), dv)) := hD
    refine lv_goto (tgt := 18) hx hb dL_takeOpenWord_9 (by decide) ?_
    refine lv_iconst (v := nI 0) hx hb dL_takeOpenWord_18 (by decide) ?_
    exact hq _ _ _ _ _ _ (nI 0) _ (Nat.le_of_ble_eq_true rfl) (Nat.le_of_ble_eq_true rfl) dL_takeOpenWord_19 (Or.inl ⟨f15, l0, l1, n17, lt2, rfl, h_.1, h_.2.1, h_.2.2.1, h_.2.2.2.1, h_.2.2.2.2, rfl⟩) hP hD hS

def RH_density (σ : SS) (md : Nat) (n : Nat) (ov : Nat → Int64) (dv : Nat → UInt64) (r : Int32) (z : HZ) : Prop :=
  (∃ (f15 : Nat → Nat) (l0 : Nat → Nat) (l1 : Nat → Nat) (m2 : Nat) (r2 : Nat) (k2 : Nat) (j2 : Nat) (p2 : Nat), r = nI 0 ∧ (md < 3) ∧ (n < 8) ∧ (md = 2 → detT (σ.2.1 0)) ∧ z = ((sF (sF (sF (sF (sF (sL (sL (sA σ 15 f15) 0 l0) 1 l1) 12 m2) 13 r2) 14 k2) 15 j2) 16 p2), ov, vf_upd dv 0 (ddQ n (cwN (σ.2.1 0) (σ.1 0) md n)))) ∨ (r = nI 1 ∧ (¬ (md < 3 ∧ n < 8)) ∧ z = (σ, ov, dv)) ∨ (r = nI 2 ∧ ((md < 3 ∧ n < 8) ∧ md = 2 ∧ ¬ detT (σ.2.1 0)) ∧ z = (σ, ov, dv))
abbrev r_h_density : Room := { frames := 15, cells := 3, slots := 18, locals := 392 }
set_option maxHeartbeats 4000000 in
set_option maxRecDepth 100000 in
theorem h_density (l : Launch) (hflg : l.stackTraces = false) (g : GC) (tl : va_W) (sz : Nat) (σ : SS) (ao ad : Nat) (ov : Nat → Int64) (dv : Nat → UInt64) (md : Nat) (n : Nat) (y_hA : OkA σ) (y_hmd : md < 4294967296) (y_hn : n < 4294967296) (y_hcw : md < 3 → n < 8 → (md = 2 → detT (σ.2.1 0)) → cwN (σ.2.1 0) (σ.1 0) md n ≤ 3 ^ n) : Met l yL_density wsL_density r_h_density (va_Pc [.ref (g.2.2.2 0), .int (nI md), .int (nI n), .ref ad] (PH g (wH g ao ad tl (σ, ov, dv)) sz)) (va_Qi (fun r z => RH_density σ md n ov dv r z) (fun z t => BW g (va_A (wH g ao ad tl (σ, ov, dv)) sz) (wH g ao ad tl z) t) (va_A (wH g ao ad tl (σ, ov, dv)) sz)) 3 18 (va_A (wH g ao ad tl (σ, ov, dv)) sz) := by
  refine jh_i (wf := wH g ao ad tl) (cc := cL_density) (maxL := 5) (by decide) rfl rfl (Nat.le_of_ble_eq_true rfl) ?_
  intro p e s m below meth c Q A hx hb hml hown hts hKL hP hD hS hAA hZ htab hq ls hl
  have hKX := hKL.1
  have hK := hKX.1
  obtain ⟨H, eH⟩ : ∃ z, z = s.heap := ⟨_, rfl⟩
  obtain ⟨locs, el⟩ : ∃ z : List Loc, z = [] := ⟨_, rfl⟩
  rw [← eH] at hP
  have hS : va_S A s.heap H locs := by rw [eH, el]; exact hS
  have goal0 : W p l e r_h_density s m ([.ref (g.2.2.2 0), .int (nI md), .int (nI n), .ref ad] : List Value).toArray below meth c H locs 0 0 Q (F0 m 0 ls []) → W p l e r_h_density s m ([.ref (g.2.2.2 0), .int (nI md), .int (nI n), .ref ad] : List Value).toArray below meth c s.heap [] 0 0 Q (F0 m 0 ls []) := fun h => by rw [eH, el] at h; exact h
  refine goal0 ?_
  have hl : lv_has ls 5 [(0, .ref (g.2.2.2 0)), (1, .int (nI md)), (2, .int (nI n)), (3, .ref ad)] := hl
  have hP : va_P (g.1, g.2.1) vwCl (wC g σ ++ wT g ao ad ov dv tl) H := hP
  have hD : va_D A (wC g σ ++ wT g ao ad ov dv tl) := hD
  refine lv_aload_n hx hb dL_density_0 rfl (lv_at hl 3 rfl) ?_
  refine lv_iconst (v := nI 0) hx hb dL_density_1 (by decide) ?_
  refine lv_aload_n hx hb dL_density_2 rfl (lv_at hl 0 rfl) ?_
  refine lv_iload_n hx hb dL_density_3 rfl (lv_at hl 1 rfl) ?_
  refine lv_iload_n hx hb dL_density_4 rfl (lv_at hl 2 rfl) ?_
  refine jx_calld (vx_runV (As := [.int (nI md), .int (nI n)]) (rest := [.int (nI 0), .ref ad]) ⟨hx, hb, hml, hown, hts⟩ (c_X10_density l hflg g (wT g ao ad ov dv tl) H.size σ md n y_hA y_hmd y_hn y_hcw) (cwV 2 hts gL_density_X10_density rfl rfl rfl (by decide +kernel) ⟨Nat.le_of_ble_eq_true rfl, Nat.le_of_ble_eq_true rfl⟩) (okXV hKX hP hD hZ hS hAA rfl (gC0 g σ (wT g ao ad ov dv tl))) rfl rfl hl.1 rfl (lv_room (Nat.le_of_ble_eq_true rfl)) dL_density_5 ⟨Nat.le_of_ble_eq_true rfl, Nat.le_of_ble_eq_true rfl⟩) hD hS hAA (fun E ce q9 u H locs hxp hP hD hS h7 h8 h9 => ?_) (fun r u H locs hw_ hP hD hS => ?_)
  · have e0 : True := trivial
    have hxp : (E = "java/lang/IllegalArgumentException" ∧ (¬ (md < 3 ∧ n < 8))) ∨ (E = "java/lang/UnsupportedOperationException" ∧ ((md < 3 ∧ n < 8) ∧ md = 2 ∧ ¬ detT (σ.2.1 0))) := hxp
    rcases hxp with ⟨rfl, hc⟩ | ⟨rfl, hc⟩
    · refine vx_catch (name := "java/lang/IllegalArgumentException") hown [] ⟨0, 9, 12, 13⟩ [⟨0, 9, 16, 50⟩] (by rw [htab]; rfl) (fun _ h => absurd h List.not_mem_nil) (by decide) (by decide) (va_Nw.use rfl (hKL.2.2 _ (List.mem_of_getElem? (i := 0) rfl))) (va_Nw.use rfl (hKX.2.1 _ (List.mem_of_getElem? (i := 0) rfl))) h7 h8 h9 ?_
      refine lv_astore (lv' := [(4, .ref q9), (0, .ref (g.2.2.2 0)), (1, .int (nI md)), (2, .int (nI n)), (3, .ref ad)]) hx hb dL_density_12 hl (by decide) rfl (fun ls hl => ?_)
      refine lv_iconst (v := nI 1) hx hb dL_density_14 (by decide) ?_
      exact hq _ _ _ _ _ _ (nI 1) (_, ov, dv) (Nat.le_of_ble_eq_true rfl) (Nat.le_of_ble_eq_true rfl) dL_density_15 (Or.inr (Or.inl ⟨rfl, hc, rfl⟩)) hP hD hS
    · refine vx_catch (name := "java/lang/UnsupportedOperationException") hown [⟨0, 9, 12, 13⟩] ⟨0, 9, 16, 50⟩ [] (by rw [htab]; rfl) (List.forall_mem_cons.mpr ⟨Or.inr ⟨by decide, "java/lang/IllegalArgumentException", va_Nw.use rfl (hKL.2.2 _ (List.mem_of_getElem? (i := 0) rfl)), hKL.2.1 _ (List.mem_of_getElem? (i := 1) rfl)⟩, fun _ h => absurd h List.not_mem_nil⟩) (by decide) (by decide) (va_Nw.use rfl (hKL.2.2 _ (List.mem_of_getElem? (i := 4) rfl))) (va_Nw.use rfl (hKX.2.1 _ (List.mem_of_getElem? (i := 4) rfl))) h7 h8 h9 ?_
      refine lv_astore (lv' := [(4, .ref q9), (0, .ref (g.2.2.2 0)), (1, .int (nI md)), (2, .int (nI n)), (3, .ref ad)]) hx hb dL_density_16 hl (by decide) rfl (fun ls hl => ?_)
      refine lv_iconst (v := nI 2) hx hb dL_density_18 (by decide) ?_
      exact hq _ _ _ _ _ _ (nI 2) (_, ov, dv) (Nat.le_of_ble_eq_true rfl) (Nat.le_of_ble_eq_true rfl) dL_density_19 (Or.inr (Or.inr ⟨rfl, hc, rfl⟩)) hP hD hS
  · have e0 : True := trivial
    obtain ⟨f15, l0, l1, m2, r2, k2, j2, p2⟩ := u
    obtain ⟨rfl, h_⟩ := hw_
    have h_ : (md < 3) ∧ (n < 8) ∧ (md = 2 → detT (σ.2.1 0)) := h_
    have hP : va_P (g.1, g.2.1) vwCl (wC g (sF (sF (sF (sF (sF (sL (sL (sA σ 15 f15) 0 l0) 1 l1) 12 m2) 13 r2) 14 k2) 15 j2) 16 p2) ++ wT g ao ad ov dv tl) H := hP
    have hD : va_D A (wC g (sF (sF (sF (sF (sF (sL (sL (sA σ 15 f15) 0 l0) 1 l1) 12 m2) 13 r2) 14 k2) 15 j2) 16 p2) ++ wT g ao ad ov dv tl) := hD
    refine va_dast (x := ddQ n (cwN (σ.2.1 0) (σ.1 0) md n)) hx hb hK.1 hP hD hS 43 4 (gT43 g (sF (sF (sF (sF (sF (sL (sL (sA σ 15 f15) 0 l0) 1 l1) 12 m2) 13 r2) 14 k2) 15 j2) 16 p2) ao ad ov dv tl) rfl (vp_in_nI (by decide) (by decide)) dL_density_8 (fun H locs hP hD hS => ?_)
    have hP : va_P (g.1, g.2.1) vwCl (wH g ao ad tl ((sF (sF (sF (sF (sF (sL (sL (sA σ 15 f15) 0 l0) 1 l1) 12 m2) 13 r2) 14 k2) 15 j2) 16 p2), ov, vf_upd dv 0 (ddQ n (cwN (σ.2.1 0) (σ.1 0) md n)))) H := hP
    have hD : va_D A (wH g ao ad tl ((sF (sF (sF (sF (sF (sL (sL (sA σ 15 f15) 0 l0) 1 l1) 12 m2) 13 r2) 14 k2) 15 j2) 16 p2), ov, vf_upd dv 0 (ddQ n (cwN (σ.2.1 0) (σ.1 0) md n)))) := hD
    refine lv_goto (tgt := 20) hx hb dL_density_9 (by decide) ?_
    refine lv_iconst (v := nI 0) hx hb dL_density_20 (by decide) ?_
    exact hq _ _ _ _ _ _ (nI 0) _ (Nat.le_of_ble_eq_true rfl) (Nat.le_of_ble_eq_true rfl) dL_density_21 (Or.inl ⟨f15, l0, l1, m2, r2, k2, j2, p2, rfl, h_.1, h_.2.1, h_.2.2, rfl⟩) hP hD hS

def RH_averageMinimum (σ : SS) (ov : Nat → Int64) (dv : Nat → UInt64) (r : Int32) (z : HZ) : Prop :=
  (∃ (n6 : Nat) (f15 : Nat → Nat) (f17 : Nat → Nat), r = nI 0 ∧ (LOk f17 n6) ∧ (∀ z, inL f17 n6 z ↔ mnC (σ.2.1 0) (σ.1 0) z) ∧ (0 < n6) ∧ z = ((sA (sA (sF σ 6 n6) 15 f15) 17 f17), ov, vf_upd dv 0 (FP.f2d (ffQ n6 (fb_sm (fun i => dsum (f17 i)) n6))))) ∨ (∃ (n6 : Nat) (f15 : Nat → Nat) (f17 : Nat → Nat), r = nI 1 ∧ ((LOk f17 n6) ∧ (∀ z, inL f17 n6 z ↔ mnC (σ.2.1 0) (σ.1 0) z) ∧ n6 = 0) ∧ z = ((sA (sA (sF σ 6 n6) 15 f15) 17 f17), ov, dv))
abbrev r_h_averageMinimum : Room := { frames := 7, cells := 1, slots := 6, locals := 116 }
set_option maxHeartbeats 4000000 in
set_option maxRecDepth 100000 in
theorem h_averageMinimum (l : Launch) (hflg : l.stackTraces = false) (g : GC) (tl : va_W) (sz : Nat) (σ : SS) (ao ad : Nat) (ov : Nat → Int64) (dv : Nat → UInt64) (y_hA : OkA σ) : Met l yL_averageMinimum wsL_averageMinimum r_h_averageMinimum (va_Pc [.ref (g.2.2.2 0), .ref ad] (PH g (wH g ao ad tl (σ, ov, dv)) sz)) (va_Qi (fun r z => RH_averageMinimum σ  ov dv r z) (fun z t => BW g (va_A (wH g ao ad tl (σ, ov, dv)) sz) (wH g ao ad tl z) t) (va_A (wH g ao ad tl (σ, ov, dv)) sz)) 1 6 (va_A (wH g ao ad tl (σ, ov, dv)) sz) := by
  refine jh_i (wf := wH g ao ad tl) (cc := cL_averageMinimum) (maxL := 3) (by decide) rfl rfl (Nat.le_of_ble_eq_true rfl) ?_
  intro p e s m below meth c Q A hx hb hml hown hts hKL hP hD hS hAA hZ htab hq ls hl
  have hKX := hKL.1
  have hK := hKX.1
  obtain ⟨H, eH⟩ : ∃ z, z = s.heap := ⟨_, rfl⟩
  obtain ⟨locs, el⟩ : ∃ z : List Loc, z = [] := ⟨_, rfl⟩
  rw [← eH] at hP
  have hS : va_S A s.heap H locs := by rw [eH, el]; exact hS
  have goal0 : W p l e r_h_averageMinimum s m ([.ref (g.2.2.2 0), .ref ad] : List Value).toArray below meth c H locs 0 0 Q (F0 m 0 ls []) → W p l e r_h_averageMinimum s m ([.ref (g.2.2.2 0), .ref ad] : List Value).toArray below meth c s.heap [] 0 0 Q (F0 m 0 ls []) := fun h => by rw [eH, el] at h; exact h
  refine goal0 ?_
  have hl : lv_has ls 3 [(0, .ref (g.2.2.2 0)), (1, .ref ad)] := hl
  have hP : va_P (g.1, g.2.1) vwCl (wC g σ ++ wT g ao ad ov dv tl) H := hP
  have hD : va_D A (wC g σ ++ wT g ao ad ov dv tl) := hD
  refine lv_aload_n hx hb dL_averageMinimum_0 rfl (lv_at hl 1 rfl) ?_
  refine lv_iconst (v := nI 0) hx hb dL_averageMinimum_1 (by decide) ?_
  refine lv_aload_n hx hb dL_averageMinimum_2 rfl (lv_at hl 0 rfl) ?_
  refine jx_callf (vx_runV (As := []) (rest := [.int (nI 0), .ref ad]) ⟨hx, hb, hml, hown, hts⟩ (c_X10_averageMinimum l hflg g (wT g ao ad ov dv tl) H.size σ y_hA) (cwV 0 hts gL_averageMinimum_X10_averageMinimum rfl rfl rfl (by decide +kernel) ⟨Nat.le_of_ble_eq_true rfl, Nat.le_of_ble_eq_true rfl⟩) (okXV hKX hP hD hZ hS hAA rfl (gC0 g σ (wT g ao ad ov dv tl))) rfl rfl hl.1 rfl (lv_room (Nat.le_of_ble_eq_true rfl)) dL_averageMinimum_3 ⟨Nat.le_of_ble_eq_true rfl, Nat.le_of_ble_eq_true rfl⟩) hD hS hAA (fun E ce q9 u H locs hxp hP hD hS h7 h8 h9 => ?_) (fun r u H locs hw_ hP hD hS => ?_)
  · have e0 : True := trivial
    obtain ⟨n6, f15, f17⟩ := u
    have hxp : (E = "java/lang/ArithmeticException" ∧ ((LOk f17 n6) ∧ (∀ z, inL f17 n6 z ↔ mnC (σ.2.1 0) (σ.1 0) z) ∧ n6 = 0)) := hxp
    rcases hxp with ⟨rfl, hc⟩
    · refine vx_catch (name := "java/lang/ArithmeticException") hown [] ⟨0, 8, 11, 126⟩ [] (by rw [htab]; rfl) (fun _ h => absurd h List.not_mem_nil) (by decide) (by decide) (va_Nw.use rfl (hKL.2.2 _ (List.mem_of_getElem? (i := 5) rfl))) (va_Nw.use rfl (hKX.2.1 _ (List.mem_of_getElem? (i := 5) rfl))) h7 h8 h9 ?_
      refine lv_astore_n (lv' := [(2, .ref q9), (0, .ref (g.2.2.2 0)), (1, .ref ad)]) hx hb dL_averageMinimum_11 rfl hl (by decide) rfl (fun ls hl => ?_)
      refine lv_iconst (v := nI 1) hx hb dL_averageMinimum_12 (by decide) ?_
      exact hq _ _ _ _ _ _ (nI 1) (_, ov, dv) (Nat.le_of_ble_eq_true rfl) (Nat.le_of_ble_eq_true rfl) dL_averageMinimum_13 (Or.inr ⟨n6, f15, f17, rfl, hc, rfl⟩) hP hD hS
  · have e0 : True := trivial
    obtain ⟨n6, f15, f17⟩ := u
    obtain ⟨rfl, h_⟩ := hw_
    have h_ : (LOk f17 n6) ∧ (∀ z, inL f17 n6 z ↔ mnC (σ.2.1 0) (σ.1 0) z) ∧ (0 < n6) := h_
    have hP : va_P (g.1, g.2.1) vwCl (wC g (sA (sA (sF σ 6 n6) 15 f15) 17 f17) ++ wT g ao ad ov dv tl) H := hP
    have hD : va_D A (wC g (sA (sA (sF σ 6 n6) 15 f15) 17 f17) ++ wT g ao ad ov dv tl) := hD
    refine lv_f2d hx hb dL_averageMinimum_6 (ff_n (by omega) h_.1.1 (mn_sum h_.1 h_.2.1)).2.1 ?_
    refine va_dast (x := FP.f2d (ffQ n6 (fb_sm (fun i => dsum (f17 i)) n6))) hx hb hK.1 hP hD hS 43 4 (gT43 g (sA (sA (sF σ 6 n6) 15 f15) 17 f17) ao ad ov dv tl) rfl (vp_in_nI (by decide) (by decide)) dL_averageMinimum_7 (fun H locs hP hD hS => ?_)
    have hP : va_P (g.1, g.2.1) vwCl (wH g ao ad tl ((sA (sA (sF σ 6 n6) 15 f15) 17 f17), ov, vf_upd dv 0 (FP.f2d (ffQ n6 (fb_sm (fun i => dsum (f17 i)) n6))))) H := hP
    have hD : va_D A (wH g ao ad tl ((sA (sA (sF σ 6 n6) 15 f15) 17 f17), ov, vf_upd dv 0 (FP.f2d (ffQ n6 (fb_sm (fun i => dsum (f17 i)) n6))))) := hD
    refine lv_goto (tgt := 14) hx hb dL_averageMinimum_8 (by decide) ?_
    refine lv_iconst (v := nI 0) hx hb dL_averageMinimum_14 (by decide) ?_
    exact hq _ _ _ _ _ _ (nI 0) _ (Nat.le_of_ble_eq_true rfl) (Nat.le_of_ble_eq_true rfl) dL_averageMinimum_15 (Or.inl ⟨n6, f15, f17, rfl, h_.1, h_.2.1, h_.2.2, rfl⟩) hP hD hS

def RH_undo (σ : SS) (ov : Nat → Int64) (dv : Nat → UInt64) (r : Int32) (z : HZ) : Prop :=
  (∃ (f1 : Nat → Nat), r = nI 0 ∧ (0 < σ.1 10) ∧ (∀ x, x < 3 → ∀ m, m < 32 → f1 (x * 32 + m) = stp (va_cpy (σ.2.2 (2 + (σ.1 9 + 7) % 8)) (σ.2.1 0) 0 0 15) x m) ∧ z = ((sF (sA (sF (sF (sF (sA (sA σ 0 (va_cpy (σ.2.2 (2 + (σ.1 9 + 7) % 8)) (σ.2.1 0) 0 0 15)) 2 (va_cpy (σ.2.2 (2 + (σ.1 9 + 7) % 8)) (σ.2.1 2) 16 0 42)) 0 ((σ.2.2 (2 + (σ.1 9 + 7) % 8)) 15)) 9 ((σ.1 9 + 7) % 8)) 10 (σ.1 10 - 1)) 1 f1) 21 0), vp_updL ov 0 ((nI (σ.1 10 - 1)).toInt64), dv)) ∨ (r = nI 1 ∧ (¬ 0 < σ.1 10) ∧ z = (σ, ov, dv))
abbrev r_h_undo : Room := { frames := 7, cells := 1, slots := 6, locals := 150 }
set_option maxHeartbeats 4000000 in
set_option maxRecDepth 100000 in
theorem h_undo (l : Launch) (hflg : l.stackTraces = false) (g : GC) (tl : va_W) (sz : Nat) (σ : SS) (ao ad : Nat) (ov : Nat → Int64) (dv : Nat → UInt64) (y_hM : OkM σ) (y_hr : 0 < σ.1 10 → ∀ k, k < 15 → (σ.2.2 (2 + (σ.1 9 + 7) % 8)) k < 32) : Met l yL_undo wsL_undo r_h_undo (va_Pc [.ref (g.2.2.2 0), .ref ao] (PH g (wH g ao ad tl (σ, ov, dv)) sz)) (va_Qi (fun r z => RH_undo σ  ov dv r z) (fun z t => BW g (va_A (wH g ao ad tl (σ, ov, dv)) sz) (wH g ao ad tl z) t) (va_A (wH g ao ad tl (σ, ov, dv)) sz)) 1 6 (va_A (wH g ao ad tl (σ, ov, dv)) sz) := by
  refine jh_i (wf := wH g ao ad tl) (cc := cL_undo) (maxL := 3) (by decide) rfl rfl (Nat.le_of_ble_eq_true rfl) ?_
  intro p e s m below meth c Q A hx hb hml hown hts hKL hP hD hS hAA hZ htab hq ls hl
  have hKX := hKL.1
  have hK := hKX.1
  obtain ⟨H, eH⟩ : ∃ z, z = s.heap := ⟨_, rfl⟩
  obtain ⟨locs, el⟩ : ∃ z : List Loc, z = [] := ⟨_, rfl⟩
  rw [← eH] at hP
  have hS : va_S A s.heap H locs := by rw [eH, el]; exact hS
  have goal0 : W p l e r_h_undo s m ([.ref (g.2.2.2 0), .ref ao] : List Value).toArray below meth c H locs 0 0 Q (F0 m 0 ls []) → W p l e r_h_undo s m ([.ref (g.2.2.2 0), .ref ao] : List Value).toArray below meth c s.heap [] 0 0 Q (F0 m 0 ls []) := fun h => by rw [eH, el] at h; exact h
  refine goal0 ?_
  have hl : lv_has ls 3 [(0, .ref (g.2.2.2 0)), (1, .ref ao)] := hl
  have hP : va_P (g.1, g.2.1) vwCl (wC g σ ++ wT g ao ad ov dv tl) H := hP
  have hD : va_D A (wC g σ ++ wT g ao ad ov dv tl) := hD
  refine lv_aload_n hx hb dL_undo_0 rfl (lv_at hl 1 rfl) ?_
  refine lv_iconst (v := nI 0) hx hb dL_undo_1 (by decide) ?_
  refine lv_aload_n hx hb dL_undo_2 rfl (lv_at hl 0 rfl) ?_
  refine jx_calli (vx_runV (As := []) (rest := [.int (nI 0), .ref ao]) ⟨hx, hb, hml, hown, hts⟩ (c_X10_undo l hflg g (wT g ao ad ov dv tl) H.size σ y_hM y_hr) (cwV 0 hts gL_undo_X10_undo rfl rfl rfl (by decide +kernel) ⟨Nat.le_of_ble_eq_true rfl, Nat.le_of_ble_eq_true rfl⟩) (okXV hKX hP hD hZ hS hAA rfl (gC0 g σ (wT g ao ad ov dv tl))) rfl rfl hl.1 rfl (lv_room (Nat.le_of_ble_eq_true rfl)) dL_undo_3 ⟨Nat.le_of_ble_eq_true rfl, Nat.le_of_ble_eq_true rfl⟩) hD hS hAA (fun E ce q9 u H locs hxp hP hD hS h7 h8 h9 => ?_) (fun r u H locs hw_ hP hD hS => ?_)
  · have e0 : True := trivial
    have hxp : (E = "java/lang/IllegalStateException" ∧ (¬ 0 < σ.1 10)) := hxp
    rcases hxp with ⟨rfl, hc⟩
    · refine vx_catch (name := "java/lang/IllegalStateException") hown [] ⟨0, 8, 11, 15⟩ [] (by rw [htab]; rfl) (fun _ h => absurd h List.not_mem_nil) (by decide) (by decide) (va_Nw.use rfl (hKL.2.2 _ (List.mem_of_getElem? (i := 1) rfl))) (va_Nw.use rfl (hKX.2.1 _ (List.mem_of_getElem? (i := 1) rfl))) h7 h8 h9 ?_
      refine lv_astore_n (lv' := [(2, .ref q9), (0, .ref (g.2.2.2 0)), (1, .ref ao)]) hx hb dL_undo_11 rfl hl (by decide) rfl (fun ls hl => ?_)
      refine lv_iconst (v := nI 1) hx hb dL_undo_12 (by decide) ?_
      exact hq _ _ _ _ _ _ (nI 1) (_, ov, dv) (Nat.le_of_ble_eq_true rfl) (Nat.le_of_ble_eq_true rfl) dL_undo_13 (Or.inr ⟨rfl, hc, rfl⟩) hP hD hS
  · have e0 : True := trivial
    obtain ⟨f1, rfl⟩ : ∃ z, z = u := ⟨_, rfl⟩
    obtain ⟨rfl, h_⟩ := hw_
    have h_ : (0 < σ.1 10) ∧ (∀ x, x < 3 → ∀ m, m < 32 → f1 (x * 32 + m) = stp (va_cpy (σ.2.2 (2 + (σ.1 9 + 7) % 8)) (σ.2.1 0) 0 0 15) x m) := h_
    have hP : va_P (g.1, g.2.1) vwCl (wC g (sF (sA (sF (sF (sF (sA (sA σ 0 (va_cpy (σ.2.2 (2 + (σ.1 9 + 7) % 8)) (σ.2.1 0) 0 0 15)) 2 (va_cpy (σ.2.2 (2 + (σ.1 9 + 7) % 8)) (σ.2.1 2) 16 0 42)) 0 ((σ.2.2 (2 + (σ.1 9 + 7) % 8)) 15)) 9 ((σ.1 9 + 7) % 8)) 10 (σ.1 10 - 1)) 1 f1) 21 0) ++ wT g ao ad ov dv tl) H := hP
    have hD : va_D A (wC g (sF (sA (sF (sF (sF (sA (sA σ 0 (va_cpy (σ.2.2 (2 + (σ.1 9 + 7) % 8)) (σ.2.1 0) 0 0 15)) 2 (va_cpy (σ.2.2 (2 + (σ.1 9 + 7) % 8)) (σ.2.1 2) 16 0 42)) 0 ((σ.2.2 (2 + (σ.1 9 + 7) % 8)) 15)) 9 ((σ.1 9 + 7) % 8)) 10 (σ.1 10 - 1)) 1 f1) 21 0) ++ wT g ao ad ov dv tl) := hD
    refine lv_i2l hx hb dL_undo_6 rfl ?_
    refine va_last (x := (nI (σ.1 10 - 1)).toInt64) hx hb hK.1 hP hD hS 42 1 (gT42 g (sF (sA (sF (sF (sF (sA (sA σ 0 (va_cpy (σ.2.2 (2 + (σ.1 9 + 7) % 8)) (σ.2.1 0) 0 0 15)) 2 (va_cpy (σ.2.2 (2 + (σ.1 9 + 7) % 8)) (σ.2.1 2) 16 0 42)) 0 ((σ.2.2 (2 + (σ.1 9 + 7) % 8)) 15)) 9 ((σ.1 9 + 7) % 8)) 10 (σ.1 10 - 1)) 1 f1) 21 0) ao ad ov dv tl) rfl (vp_in_nI (by decide) (by decide)) dL_undo_7 (fun H locs hP hD hS => ?_)
    have hP : va_P (g.1, g.2.1) vwCl (wH g ao ad tl ((sF (sA (sF (sF (sF (sA (sA σ 0 (va_cpy (σ.2.2 (2 + (σ.1 9 + 7) % 8)) (σ.2.1 0) 0 0 15)) 2 (va_cpy (σ.2.2 (2 + (σ.1 9 + 7) % 8)) (σ.2.1 2) 16 0 42)) 0 ((σ.2.2 (2 + (σ.1 9 + 7) % 8)) 15)) 9 ((σ.1 9 + 7) % 8)) 10 (σ.1 10 - 1)) 1 f1) 21 0), vp_updL ov 0 ((nI (σ.1 10 - 1)).toInt64), dv)) H := hP
    have hD : va_D A (wH g ao ad tl ((sF (sA (sF (sF (sF (sA (sA σ 0 (va_cpy (σ.2.2 (2 + (σ.1 9 + 7) % 8)) (σ.2.1 0) 0 0 15)) 2 (va_cpy (σ.2.2 (2 + (σ.1 9 + 7) % 8)) (σ.2.1 2) 16 0 42)) 0 ((σ.2.2 (2 + (σ.1 9 + 7) % 8)) 15)) 9 ((σ.1 9 + 7) % 8)) 10 (σ.1 10 - 1)) 1 f1) 21 0), vp_updL ov 0 ((nI (σ.1 10 - 1)).toInt64), dv)) := hD
    refine lv_goto (tgt := 14) hx hb dL_undo_8 (by decide) ?_
    refine lv_iconst (v := nI 0) hx hb dL_undo_14 (by decide) ?_
    exact hq _ _ _ _ _ _ (nI 0) _ (Nat.le_of_ble_eq_true rfl) (Nat.le_of_ble_eq_true rfl) dL_undo_15 (Or.inl ⟨f1, rfl, h_.1, h_.2, rfl⟩) hP hD hS

def RH_restore (σ : SS) (ov : Nat → Int64) (dv : Nat → UInt64) (r : Int32) (z : HZ) : Prop :=
  (∃ (f1 : Nat → Nat), r = nI 0 ∧ (σ.1 11 ≠ 0) ∧ (∀ x, x < 3 → ∀ m, m < 32 → f1 (x * 32 + m) = stp (va_cpy (σ.2.2 10) (σ.2.1 0) 0 0 15) x m) ∧ z = ((sF (sA (sF (sA (sA (sF (sF (sL σ (2 + σ.1 9) (snp σ (σ.2.2 (2 + σ.1 9)))) 9 ((σ.1 9 + 1) % 8)) 10 (min (σ.1 10 + 1) 8)) 0 (va_cpy (σ.2.2 10) (σ.2.1 0) 0 0 15)) 2 (va_cpy (σ.2.2 10) (σ.2.1 2) 16 0 42)) 0 ((σ.2.2 10) 15)) 1 f1) 21 0), ov, dv)) ∨ (r = nI 1 ∧ (σ.1 11 = 0) ∧ z = (σ, ov, dv))
abbrev r_h_restore : Room := { frames := 7, cells := 1, slots := 6, locals := 170 }
set_option maxHeartbeats 4000000 in
set_option maxRecDepth 100000 in
theorem h_restore (l : Launch) (hflg : l.stackTraces = false) (g : GC) (tl : va_W) (sz : Nat) (σ : SS) (ao ad : Nat) (ov : Nat → Int64) (dv : Nat → UInt64) (y_hM : OkM σ) (y_hr : σ.1 11 ≠ 0 → ∀ k, k < 15 → (σ.2.2 10) k < 32) : Met l yL_restore wsL_restore r_h_restore (va_Pc [.ref (g.2.2.2 0)] (PH g (wH g ao ad tl (σ, ov, dv)) sz)) (va_Qi (fun r z => RH_restore σ  ov dv r z) (fun z t => BW g (va_A (wH g ao ad tl (σ, ov, dv)) sz) (wH g ao ad tl z) t) (va_A (wH g ao ad tl (σ, ov, dv)) sz)) 1 6 (va_A (wH g ao ad tl (σ, ov, dv)) sz) := by
  refine jh_i (wf := wH g ao ad tl) (cc := cL_restore) (maxL := 2) (by decide) rfl rfl (Nat.le_of_ble_eq_true rfl) ?_
  intro p e s m below meth c Q A hx hb hml hown hts hKL hP hD hS hAA hZ htab hq ls hl
  have hKX := hKL.1
  have hK := hKX.1
  obtain ⟨H, eH⟩ : ∃ z, z = s.heap := ⟨_, rfl⟩
  obtain ⟨locs, el⟩ : ∃ z : List Loc, z = [] := ⟨_, rfl⟩
  rw [← eH] at hP
  have hS : va_S A s.heap H locs := by rw [eH, el]; exact hS
  have goal0 : W p l e r_h_restore s m ([.ref (g.2.2.2 0)] : List Value).toArray below meth c H locs 0 0 Q (F0 m 0 ls []) → W p l e r_h_restore s m ([.ref (g.2.2.2 0)] : List Value).toArray below meth c s.heap [] 0 0 Q (F0 m 0 ls []) := fun h => by rw [eH, el] at h; exact h
  refine goal0 ?_
  have hl : lv_has ls 2 [(0, .ref (g.2.2.2 0))] := hl
  have hP : va_P (g.1, g.2.1) vwCl (wC g σ ++ wT g ao ad ov dv tl) H := hP
  have hD : va_D A (wC g σ ++ wT g ao ad ov dv tl) := hD
  refine lv_aload_n hx hb dL_restore_0 rfl (lv_at hl 0 rfl) ?_
  refine jx_callv (vx_runV (As := []) (rest := []) ⟨hx, hb, hml, hown, hts⟩ (c_X10_restore l hflg g (wT g ao ad ov dv tl) H.size σ y_hM y_hr) (cwV 0 hts gL_restore_X10_restore rfl rfl rfl (by decide +kernel) ⟨Nat.le_of_ble_eq_true rfl, Nat.le_of_ble_eq_true rfl⟩) (okXV hKX hP hD hZ hS hAA rfl (gC0 g σ (wT g ao ad ov dv tl))) rfl rfl hl.1 rfl (lv_room (Nat.le_of_ble_eq_true rfl)) dL_restore_1 ⟨Nat.le_of_ble_eq_true rfl, Nat.le_of_ble_eq_true rfl⟩) hD hS hAA (fun E ce q9 u H locs hxp hP hD hS h7 h8 h9 => ?_) (fun u H locs hw_ hP hD hS => ?_)
  · have e0 : True := trivial
    have hxp : (E = "java/lang/IllegalStateException" ∧ (σ.1 11 = 0)) := hxp
    rcases hxp with ⟨rfl, hc⟩
    · refine vx_catch (name := "java/lang/IllegalStateException") hown [] ⟨0, 4, 7, 15⟩ [] (by rw [htab]; rfl) (fun _ h => absurd h List.not_mem_nil) (by decide) (by decide) (va_Nw.use rfl (hKL.2.2 _ (List.mem_of_getElem? (i := 1) rfl))) (va_Nw.use rfl (hKX.2.1 _ (List.mem_of_getElem? (i := 1) rfl))) h7 h8 h9 ?_
      refine lv_astore_n (lv' := [(1, .ref q9), (0, .ref (g.2.2.2 0))]) hx hb dL_restore_7 rfl hl (by decide) rfl (fun ls hl => ?_)
      refine lv_iconst (v := nI 1) hx hb dL_restore_8 (by decide) ?_
      exact hq _ _ _ _ _ _ (nI 1) (_, ov, dv) (Nat.le_of_ble_eq_true rfl) (Nat.le_of_ble_eq_true rfl) dL_restore_9 (Or.inr ⟨rfl, hc, rfl⟩) hP hD hS
  · have e0 : True := trivial
    obtain ⟨f1, rfl⟩ : ∃ z, z = u := ⟨_, rfl⟩
    have h_ := hw_
    have h_ : (σ.1 11 ≠ 0) ∧ (∀ x, x < 3 → ∀ m, m < 32 → f1 (x * 32 + m) = stp (va_cpy (σ.2.2 10) (σ.2.1 0) 0 0 15) x m) := h_
    have hP : va_P (g.1, g.2.1) vwCl (wC g (sF (sA (sF (sA (sA (sF (sF (sL σ (2 + σ.1 9) (snp σ (σ.2.2 (2 + σ.1 9)))) 9 ((σ.1 9 + 1) % 8)) 10 (min (σ.1 10 + 1) 8)) 0 (va_cpy (σ.2.2 10) (σ.2.1 0) 0 0 15)) 2 (va_cpy (σ.2.2 10) (σ.2.1 2) 16 0 42)) 0 ((σ.2.2 10) 15)) 1 f1) 21 0) ++ wT g ao ad ov dv tl) H := hP
    have hD : va_D A (wC g (sF (sA (sF (sA (sA (sF (sF (sL σ (2 + σ.1 9) (snp σ (σ.2.2 (2 + σ.1 9)))) 9 ((σ.1 9 + 1) % 8)) 10 (min (σ.1 10 + 1) 8)) 0 (va_cpy (σ.2.2 10) (σ.2.1 0) 0 0 15)) 2 (va_cpy (σ.2.2 10) (σ.2.1 2) 16 0 42)) 0 ((σ.2.2 10) 15)) 1 f1) 21 0) ++ wT g ao ad ov dv tl) := hD
    have hP : va_P (g.1, g.2.1) vwCl (wH g ao ad tl ((sF (sA (sF (sA (sA (sF (sF (sL σ (2 + σ.1 9) (snp σ (σ.2.2 (2 + σ.1 9)))) 9 ((σ.1 9 + 1) % 8)) 10 (min (σ.1 10 + 1) 8)) 0 (va_cpy (σ.2.2 10) (σ.2.1 0) 0 0 15)) 2 (va_cpy (σ.2.2 10) (σ.2.1 2) 16 0 42)) 0 ((σ.2.2 10) 15)) 1 f1) 21 0), ov, dv)) H := hP
    have hD : va_D A (wH g ao ad tl ((sF (sA (sF (sA (sA (sF (sF (sL σ (2 + σ.1 9) (snp σ (σ.2.2 (2 + σ.1 9)))) 9 ((σ.1 9 + 1) % 8)) 10 (min (σ.1 10 + 1) 8)) 0 (va_cpy (σ.2.2 10) (σ.2.1 0) 0 0 15)) 2 (va_cpy (σ.2.2 10) (σ.2.1 2) 16 0 42)) 0 ((σ.2.2 10) 15)) 1 f1) 21 0), ov, dv)) := hD
    refine lv_goto (tgt := 10) hx hb dL_restore_4 (by decide) ?_
    refine lv_iconst (v := nI 0) hx hb dL_restore_10 (by decide) ?_
    exact hq _ _ _ _ _ _ (nI 0) _ (Nat.le_of_ble_eq_true rfl) (Nat.le_of_ble_eq_true rfl) dL_restore_11 (Or.inl ⟨f1, rfl, h_.1, h_.2, rfl⟩) hP hD hS
