def RH_orderCost (σ : SS) (ov : Nat → Int64) (dv : Nat → UInt64) (r : Int32) (z : HZ) : Prop :=
  (∃ (n4 : Nat) (co : Nat) (kn : Nat) (pc2 : Nat → Nat) (S : Nat → Nat) (bf2 : Nat → Nat) (w2 : Nat → Nat) (od : Nat → Nat), r = nI 0 ∧ (ordK (σ.2.1 0) (σ.2.1 14) (σ.1 0) (σ.1 20) co od) ∧ (kn = 1) ∧ (co < 63) ∧ z = ((sA (sA (sA (sA (sA (sF (sF (sF σ 4 n4) 5 co) 21 kn) 21 pc2) 22 S) 23 bf2) 24 w2) 25 od), vp_updL ov 0 ((nI (co)).toInt64), dv)) ∨ (∃ (n4 : Nat) (co : Nat) (kn : Nat) (pc2 : Nat → Nat) (S : Nat → Nat) (bf2 : Nat → Nat) (w2 : Nat → Nat) (od : Nat → Nat), r = nI 1 ∧ ((ordK (σ.2.1 0) (σ.2.1 14) (σ.1 0) (σ.1 20) co od) ∧ kn = 1 ∧ ¬ co < 63) ∧ z = ((sA (sA (sA (sA (sA (sF (sF (sF σ 4 n4) 5 co) 21 kn) 21 pc2) 22 S) 23 bf2) 24 w2) 25 od), ov, dv))
abbrev r_h_orderCost : Room := { frames := 7, cells := 1, slots := 6, locals := 166 }
set_option maxHeartbeats 4000000 in
set_option maxRecDepth 100000 in
theorem h_orderCost (l : Launch) (hflg : l.stackTraces = false) (g : GC) (tl : va_W) (sz : Nat) (σ : SS) (ao ad : Nat) (ov : Nat → Int64) (dv : Nat → UInt64) (y_hA : OkA σ) (y_hw8 : (σ.1 20) ≤ 8) (y_hw : ∀ i, i < (σ.1 20) → (σ.2.1 14) i < 3) (y_hk2 : σ.1 21 < 2) (y_hko : σ.1 21 = 1 → ordK (σ.2.1 0) (σ.2.1 14) (σ.1 0) (σ.1 20) (σ.1 5) (σ.2.1 25)) : Met l yL_orderCost wsL_orderCost r_h_orderCost (va_Pc [.ref (g.2.2.2 0), .ref ao] (PH g (wH g ao ad tl (σ, ov, dv)) sz)) (va_Qi (fun r z => RH_orderCost σ  ov dv r z) (fun z t => BW g (va_A (wH g ao ad tl (σ, ov, dv)) sz) (wH g ao ad tl z) t) (va_A (wH g ao ad tl (σ, ov, dv)) sz)) 1 6 (va_A (wH g ao ad tl (σ, ov, dv)) sz) := by
  refine jh_i (wf := wH g ao ad tl) (cc := cL_orderCost) (maxL := 3) (by decide) rfl rfl (Nat.le_of_ble_eq_true rfl) ?_
  intro p e s m below meth c Q A hx hb hml hown hts hKL hP hD hS hAA hZ htab hq ls hl
  have hKX := hKL.1
  have hK := hKX.1
  obtain ⟨H, eH⟩ : ∃ z, z = s.heap := ⟨_, rfl⟩
  obtain ⟨locs, el⟩ : ∃ z : List Loc, z = [] := ⟨_, rfl⟩
  rw [← eH] at hP
  have hS : va_S A s.heap H locs := by rw [eH, el]; exact hS
  have goal0 : W p l e r_h_orderCost s m ([.ref (g.2.2.2 0), .ref ao] : List Value).toArray below meth c H locs 0 0 Q (F0 m 0 ls []) → W p l e r_h_orderCost s m ([.ref (g.2.2.2 0), .ref ao] : List Value).toArray below meth c s.heap [] 0 0 Q (F0 m 0 ls []) := fun h => by rw [eH, el] at h; exact h
  refine goal0 ?_
  have hl : lv_has ls 3 [(0, .ref (g.2.2.2 0)), (1, .ref ao)] := hl
  have hP : va_P (g.1, g.2.1) vwCl (wC g σ ++ wT g ao ad ov dv tl) H := hP
  have hD : va_D A (wC g σ ++ wT g ao ad ov dv tl) := hD
  refine lv_aload_n hx hb dL_orderCost_0 rfl (lv_at hl 1 rfl) ?_
  refine lv_iconst (v := nI 0) hx hb dL_orderCost_1 (by decide) ?_
  refine lv_aload_n hx hb dL_orderCost_2 rfl (lv_at hl 0 rfl) ?_
  refine jx_calli (vx_runV (As := []) (rest := [.int (nI 0), .ref ao]) ⟨hx, hb, hml, hown, hts⟩ (c_X10_orderCost l hflg g (wT g ao ad ov dv tl) H.size σ y_hA y_hw8 y_hw y_hk2 y_hko) (cwV 0 hts gL_orderCost_X10_orderCost rfl rfl rfl (by decide +kernel) ⟨Nat.le_of_ble_eq_true rfl, Nat.le_of_ble_eq_true rfl⟩) (okXV hKX hP hD hZ hS hAA rfl (gC0 g σ (wT g ao ad ov dv tl))) rfl rfl hl.1 rfl (lv_room (Nat.le_of_ble_eq_true rfl)) dL_orderCost_3 ⟨Nat.le_of_ble_eq_true rfl, Nat.le_of_ble_eq_true rfl⟩) hD hS hAA (fun E ce q9 u H locs hxp hP hD hS h7 h8 h9 => ?_) (fun r u H locs hw_ hP hD hS => ?_)
  · have e0 : True := trivial
    obtain ⟨n4, co, kn, pc2, S, bf2, w2, od⟩ := u
    have hxp : (E = "java/util/NoSuchElementException" ∧ ((ordK (σ.2.1 0) (σ.2.1 14) (σ.1 0) (σ.1 20) co od) ∧ kn = 1 ∧ ¬ co < 63)) := hxp
    rcases hxp with ⟨rfl, hc⟩
    · refine vx_catch (name := "java/util/NoSuchElementException") hown [] ⟨0, 8, 11, 31⟩ [] (by rw [htab]; rfl) (fun _ h => absurd h List.not_mem_nil) (by decide) (by decide) (va_Nw.use rfl (hKL.2.2 _ (List.mem_of_getElem? (i := 3) rfl))) (va_Nw.use rfl (hKX.2.1 _ (List.mem_of_getElem? (i := 3) rfl))) h7 h8 h9 ?_
      refine lv_astore_n (lv' := [(2, .ref q9), (0, .ref (g.2.2.2 0)), (1, .ref ao)]) hx hb dL_orderCost_11 rfl hl (by decide) rfl (fun ls hl => ?_)
      refine lv_iconst (v := nI 1) hx hb dL_orderCost_12 (by decide) ?_
      exact hq _ _ _ _ _ _ (nI 1) (_, ov, dv) (Nat.le_of_ble_eq_true rfl) (Nat.le_of_ble_eq_true rfl) dL_orderCost_13 (Or.inr ⟨n4, co, kn, pc2, S, bf2, w2, od, rfl, hc, rfl⟩) hP hD hS
  · have e0 : True := trivial
    obtain ⟨n4, co, kn, pc2, S, bf2, w2, od⟩ := u
    obtain ⟨rfl, h_⟩ := hw_
    have h_ : (ordK (σ.2.1 0) (σ.2.1 14) (σ.1 0) (σ.1 20) co od) ∧ (kn = 1) ∧ (co < 63) := h_
    have hP : va_P (g.1, g.2.1) vwCl (wC g (sA (sA (sA (sA (sA (sF (sF (sF σ 4 n4) 5 co) 21 kn) 21 pc2) 22 S) 23 bf2) 24 w2) 25 od) ++ wT g ao ad ov dv tl) H := hP
    have hD : va_D A (wC g (sA (sA (sA (sA (sA (sF (sF (sF σ 4 n4) 5 co) 21 kn) 21 pc2) 22 S) 23 bf2) 24 w2) 25 od) ++ wT g ao ad ov dv tl) := hD
    refine lv_i2l hx hb dL_orderCost_6 rfl ?_
    refine va_last (x := (nI (co)).toInt64) hx hb hK.1 hP hD hS 42 1 (gT42 g (sA (sA (sA (sA (sA (sF (sF (sF σ 4 n4) 5 co) 21 kn) 21 pc2) 22 S) 23 bf2) 24 w2) 25 od) ao ad ov dv tl) rfl (vp_in_nI (by decide) (by decide)) dL_orderCost_7 (fun H locs hP hD hS => ?_)
    have hP : va_P (g.1, g.2.1) vwCl (wH g ao ad tl ((sA (sA (sA (sA (sA (sF (sF (sF σ 4 n4) 5 co) 21 kn) 21 pc2) 22 S) 23 bf2) 24 w2) 25 od), vp_updL ov 0 ((nI (co)).toInt64), dv)) H := hP
    have hD : va_D A (wH g ao ad tl ((sA (sA (sA (sA (sA (sF (sF (sF σ 4 n4) 5 co) 21 kn) 21 pc2) 22 S) 23 bf2) 24 w2) 25 od), vp_updL ov 0 ((nI (co)).toInt64), dv)) := hD
    refine lv_goto (tgt := 14) hx hb dL_orderCost_8 (by decide) ?_
    refine lv_iconst (v := nI 0) hx hb dL_orderCost_14 (by decide) ?_
    exact hq _ _ _ _ _ _ (nI 0) _ (Nat.le_of_ble_eq_true rfl) (Nat.le_of_ble_eq_true rfl) dL_orderCost_15 (Or.inl ⟨n4, co, kn, pc2, S, bf2, w2, od, rfl, h_.1, h_.2.1, h_.2.2, rfl⟩) hP hD hS

def RH_orderPosition (σ : SS) (x : Nat) (ov : Nat → Int64) (dv : Nat → UInt64) (r : Int32) (z : HZ) : Prop :=
  (∃ (n4 : Nat) (co : Nat) (kn : Nat) (pc2 : Nat → Nat) (S : Nat → Nat) (bf2 : Nat → Nat) (w2 : Nat → Nat) (od : Nat → Nat), r = nI 0 ∧ (x < (σ.1 20)) ∧ (ordK (σ.2.1 0) (σ.2.1 14) (σ.1 0) (σ.1 20) co od) ∧ (kn = 1) ∧ (co < 63) ∧ z = ((sA (sA (sA (sA (sA (sF (sF (sF σ 4 n4) 5 co) 21 kn) 21 pc2) 22 S) 23 bf2) 24 w2) 25 od), vp_updL ov 0 ((nI (od x)).toInt64), dv)) ∨ (∃ (n4 : Nat) (co : Nat) (kn : Nat) (pc2 : Nat → Nat) (S : Nat → Nat) (bf2 : Nat → Nat) (w2 : Nat → Nat) (od : Nat → Nat), r = nI 1 ∧ (¬ x < (σ.1 20) ∧ n4 = σ.1 4 ∧ co = σ.1 5 ∧ kn = σ.1 21 ∧ od = σ.2.1 25) ∧ z = ((sA (sA (sA (sA (sA (sF (sF (sF σ 4 n4) 5 co) 21 kn) 21 pc2) 22 S) 23 bf2) 24 w2) 25 od), ov, dv)) ∨ (∃ (n4 : Nat) (co : Nat) (kn : Nat) (pc2 : Nat → Nat) (S : Nat → Nat) (bf2 : Nat → Nat) (w2 : Nat → Nat) (od : Nat → Nat), r = nI 2 ∧ (x < (σ.1 20) ∧ (ordK (σ.2.1 0) (σ.2.1 14) (σ.1 0) (σ.1 20) co od) ∧ kn = 1 ∧ ¬ co < 63) ∧ z = ((sA (sA (sA (sA (sA (sF (sF (sF σ 4 n4) 5 co) 21 kn) 21 pc2) 22 S) 23 bf2) 24 w2) 25 od), ov, dv))
abbrev r_h_orderPosition : Room := { frames := 7, cells := 1, slots := 6, locals := 167 }
set_option maxHeartbeats 4000000 in
set_option maxRecDepth 100000 in
theorem h_orderPosition (l : Launch) (hflg : l.stackTraces = false) (g : GC) (tl : va_W) (sz : Nat) (σ : SS) (ao ad : Nat) (ov : Nat → Int64) (dv : Nat → UInt64) (x : Nat) (y_hA : OkA σ) (y_hw8 : (σ.1 20) ≤ 8) (y_hw : ∀ i, i < (σ.1 20) → (σ.2.1 14) i < 3) (y_hk2 : σ.1 21 < 2) (y_hko : σ.1 21 = 1 → ordK (σ.2.1 0) (σ.2.1 14) (σ.1 0) (σ.1 20) (σ.1 5) (σ.2.1 25)) (y_hx : x < 4294967296) : Met l yL_orderPosition wsL_orderPosition r_h_orderPosition (va_Pc [.ref (g.2.2.2 0), .int (nI x), .ref ao] (PH g (wH g ao ad tl (σ, ov, dv)) sz)) (va_Qi (fun r z => RH_orderPosition σ x ov dv r z) (fun z t => BW g (va_A (wH g ao ad tl (σ, ov, dv)) sz) (wH g ao ad tl z) t) (va_A (wH g ao ad tl (σ, ov, dv)) sz)) 1 6 (va_A (wH g ao ad tl (σ, ov, dv)) sz) := by
  refine jh_i (wf := wH g ao ad tl) (cc := cL_orderPosition) (maxL := 4) (by decide) rfl rfl (Nat.le_of_ble_eq_true rfl) ?_
  intro p e s m below meth c Q A hx hb hml hown hts hKL hP hD hS hAA hZ htab hq ls hl
  have hKX := hKL.1
  have hK := hKX.1
  obtain ⟨H, eH⟩ : ∃ z, z = s.heap := ⟨_, rfl⟩
  obtain ⟨locs, el⟩ : ∃ z : List Loc, z = [] := ⟨_, rfl⟩
  rw [← eH] at hP
  have hS : va_S A s.heap H locs := by rw [eH, el]; exact hS
  have goal0 : W p l e r_h_orderPosition s m ([.ref (g.2.2.2 0), .int (nI x), .ref ao] : List Value).toArray below meth c H locs 0 0 Q (F0 m 0 ls []) → W p l e r_h_orderPosition s m ([.ref (g.2.2.2 0), .int (nI x), .ref ao] : List Value).toArray below meth c s.heap [] 0 0 Q (F0 m 0 ls []) := fun h => by rw [eH, el] at h; exact h
  refine goal0 ?_
  have hl : lv_has ls 4 [(0, .ref (g.2.2.2 0)), (1, .int (nI x)), (2, .ref ao)] := hl
  have hP : va_P (g.1, g.2.1) vwCl (wC g σ ++ wT g ao ad ov dv tl) H := hP
  have hD : va_D A (wC g σ ++ wT g ao ad ov dv tl) := hD
  refine lv_aload_n hx hb dL_orderPosition_0 rfl (lv_at hl 2 rfl) ?_
  refine lv_iconst (v := nI 0) hx hb dL_orderPosition_1 (by decide) ?_
  refine lv_aload_n hx hb dL_orderPosition_2 rfl (lv_at hl 0 rfl) ?_
  refine lv_iload_n hx hb dL_orderPosition_3 rfl (lv_at hl 1 rfl) ?_
  refine jx_calli (vx_runV (As := [.int (nI x)]) (rest := [.int (nI 0), .ref ao]) ⟨hx, hb, hml, hown, hts⟩ (c_X10_orderPosition l hflg g (wT g ao ad ov dv tl) H.size σ x y_hA y_hw8 y_hw y_hk2 y_hko y_hx) (cwV 1 hts gL_orderPosition_X10_orderPosition rfl rfl rfl (by decide +kernel) ⟨Nat.le_of_ble_eq_true rfl, Nat.le_of_ble_eq_true rfl⟩) (okXV hKX hP hD hZ hS hAA rfl (gC0 g σ (wT g ao ad ov dv tl))) rfl rfl hl.1 rfl (lv_room (Nat.le_of_ble_eq_true rfl)) dL_orderPosition_4 ⟨Nat.le_of_ble_eq_true rfl, Nat.le_of_ble_eq_true rfl⟩) hD hS hAA (fun E ce q9 u H locs hxp hP hD hS h7 h8 h9 => ?_) (fun r u H locs hw_ hP hD hS => ?_)
  · have e0 : True := trivial
    obtain ⟨n4, co, kn, pc2, S, bf2, w2, od⟩ := u
    have hxp : (E = "java/lang/IndexOutOfBoundsException" ∧ (¬ x < (σ.1 20) ∧ n4 = σ.1 4 ∧ co = σ.1 5 ∧ kn = σ.1 21 ∧ od = σ.2.1 25)) ∨ (E = "java/util/NoSuchElementException" ∧ (x < (σ.1 20) ∧ (ordK (σ.2.1 0) (σ.2.1 14) (σ.1 0) (σ.1 20) co od) ∧ kn = 1 ∧ ¬ co < 63)) := hxp
    rcases hxp with ⟨rfl, hc⟩ | ⟨rfl, hc⟩
    · refine vx_catch (name := "java/lang/IndexOutOfBoundsException") hown [] ⟨0, 9, 12, 25⟩ [⟨0, 9, 15, 31⟩] (by rw [htab]; rfl) (fun _ h => absurd h List.not_mem_nil) (by decide) (by decide) (va_Nw.use rfl (hKL.2.2 _ (List.mem_of_getElem? (i := 2) rfl))) (va_Nw.use rfl (hKX.2.1 _ (List.mem_of_getElem? (i := 2) rfl))) h7 h8 h9 ?_
      refine lv_astore_n (lv' := [(3, .ref q9), (0, .ref (g.2.2.2 0)), (1, .int (nI x)), (2, .ref ao)]) hx hb dL_orderPosition_12 rfl hl (by decide) rfl (fun ls hl => ?_)
      refine lv_iconst (v := nI 1) hx hb dL_orderPosition_13 (by decide) ?_
      exact hq _ _ _ _ _ _ (nI 1) (_, ov, dv) (Nat.le_of_ble_eq_true rfl) (Nat.le_of_ble_eq_true rfl) dL_orderPosition_14 (Or.inr (Or.inl ⟨n4, co, kn, pc2, S, bf2, w2, od, rfl, hc, rfl⟩)) hP hD hS
    · refine vx_catch (name := "java/util/NoSuchElementException") hown [⟨0, 9, 12, 25⟩] ⟨0, 9, 15, 31⟩ [] (by rw [htab]; rfl) (List.forall_mem_cons.mpr ⟨Or.inr ⟨by decide, "java/lang/IndexOutOfBoundsException", va_Nw.use rfl (hKL.2.2 _ (List.mem_of_getElem? (i := 2) rfl)), hKL.2.1 _ (List.mem_of_getElem? (i := 4) rfl)⟩, fun _ h => absurd h List.not_mem_nil⟩) (by decide) (by decide) (va_Nw.use rfl (hKL.2.2 _ (List.mem_of_getElem? (i := 3) rfl))) (va_Nw.use rfl (hKX.2.1 _ (List.mem_of_getElem? (i := 3) rfl))) h7 h8 h9 ?_
      refine lv_astore_n (lv' := [(3, .ref q9), (0, .ref (g.2.2.2 0)), (1, .int (nI x)), (2, .ref ao)]) hx hb dL_orderPosition_15 rfl hl (by decide) rfl (fun ls hl => ?_)
      refine lv_iconst (v := nI 2) hx hb dL_orderPosition_16 (by decide) ?_
      exact hq _ _ _ _ _ _ (nI 2) (_, ov, dv) (Nat.le_of_ble_eq_true rfl) (Nat.le_of_ble_eq_true rfl) dL_orderPosition_17 (Or.inr (Or.inr ⟨n4, co, kn, pc2, S, bf2, w2, od, rfl, hc, rfl⟩)) hP hD hS
  · have e0 : True := trivial
    obtain ⟨n4, co, kn, pc2, S, bf2, w2, od⟩ := u
    obtain ⟨rfl, h_⟩ := hw_
    have h_ : (x < (σ.1 20)) ∧ (ordK (σ.2.1 0) (σ.2.1 14) (σ.1 0) (σ.1 20) co od) ∧ (kn = 1) ∧ (co < 63) := h_
    have hP : va_P (g.1, g.2.1) vwCl (wC g (sA (sA (sA (sA (sA (sF (sF (sF σ 4 n4) 5 co) 21 kn) 21 pc2) 22 S) 23 bf2) 24 w2) 25 od) ++ wT g ao ad ov dv tl) H := hP
    have hD : va_D A (wC g (sA (sA (sA (sA (sA (sF (sF (sF σ 4 n4) 5 co) 21 kn) 21 pc2) 22 S) 23 bf2) 24 w2) 25 od) ++ wT g ao ad ov dv tl) := hD
    refine lv_i2l hx hb dL_orderPosition_7 rfl ?_
    refine va_last (x := (nI (od x)).toInt64) hx hb hK.1 hP hD hS 42 1 (gT42 g (sA (sA (sA (sA (sA (sF (sF (sF σ 4 n4) 5 co) 21 kn) 21 pc2) 22 S) 23 bf2) 24 w2) 25 od) ao ad ov dv tl) rfl (vp_in_nI (by decide) (by decide)) dL_orderPosition_8 (fun H locs hP hD hS => ?_)
    have hP : va_P (g.1, g.2.1) vwCl (wH g ao ad tl ((sA (sA (sA (sA (sA (sF (sF (sF σ 4 n4) 5 co) 21 kn) 21 pc2) 22 S) 23 bf2) 24 w2) 25 od), vp_updL ov 0 ((nI (od x)).toInt64), dv)) H := hP
    have hD : va_D A (wH g ao ad tl ((sA (sA (sA (sA (sA (sF (sF (sF σ 4 n4) 5 co) 21 kn) 21 pc2) 22 S) 23 bf2) 24 w2) 25 od), vp_updL ov 0 ((nI (od x)).toInt64), dv)) := hD
    refine lv_goto (tgt := 18) hx hb dL_orderPosition_9 (by decide) ?_
    refine lv_iconst (v := nI 0) hx hb dL_orderPosition_18 (by decide) ?_
    exact hq _ _ _ _ _ _ (nI 0) _ (Nat.le_of_ble_eq_true rfl) (Nat.le_of_ble_eq_true rfl) dL_orderPosition_19 (Or.inl ⟨n4, co, kn, pc2, S, bf2, w2, od, rfl, h_.1, h_.2.1, h_.2.2.1, h_.2.2.2, rfl⟩) hP hD hS

def RH_reaches (σ : SS) (x1 : Nat) (x2 : Nat) (x3 : Nat) (ov : Nat → Int64) (dv : Nat → UInt64) (r : Int32) (z : HZ) : Prop :=
  (∃ (f15 : Nat → Nat), r = nI 0 ∧ (x1 < 10 ∧ x2 < 10 ∧ x3 < 10) ∧ z = ((sA σ 15 f15), vp_updL ov 0 (if rch (σ.2.1 0) x1 x2 x3 &&& (σ.1 0) ≠ 0 then 1 else 0), dv)) ∨ (r = nI 1 ∧ (¬ (x1 < 10 ∧ x2 < 10 ∧ x3 < 10)) ∧ z = (σ, ov, dv))
abbrev r_h_reaches : Room := { frames := 8, cells := 1, slots := 6, locals := 127 }
set_option maxHeartbeats 4000000 in
set_option maxRecDepth 100000 in
theorem h_reaches (l : Launch) (hflg : l.stackTraces = false) (g : GC) (tl : va_W) (sz : Nat) (σ : SS) (ao ad : Nat) (ov : Nat → Int64) (dv : Nat → UInt64) (x1 : Nat) (x2 : Nat) (x3 : Nat) (y_hA : OkA σ) (y_hx1 : x1 < 4294967296) (y_hx2 : x2 < 4294967296) (y_hx3 : x3 < 4294967296) : Met l yL_reaches wsL_reaches r_h_reaches (va_Pc [.ref (g.2.2.2 0), .int (nI x1), .int (nI x2), .int (nI x3), .ref ao] (PH g (wH g ao ad tl (σ, ov, dv)) sz)) (va_Qi (fun r z => RH_reaches σ x1 x2 x3 ov dv r z) (fun z t => BW g (va_A (wH g ao ad tl (σ, ov, dv)) sz) (wH g ao ad tl z) t) (va_A (wH g ao ad tl (σ, ov, dv)) sz)) 1 6 (va_A (wH g ao ad tl (σ, ov, dv)) sz) := by
  refine jh_i (wf := wH g ao ad tl) (cc := cL_reaches) (maxL := 6) (by decide) rfl rfl (Nat.le_of_ble_eq_true rfl) ?_
  intro p e s m below meth c Q A hx hb hml hown hts hKL hP hD hS hAA hZ htab hq ls hl
  have hKX := hKL.1
  have hK := hKX.1
  obtain ⟨H, eH⟩ : ∃ z, z = s.heap := ⟨_, rfl⟩
  obtain ⟨locs, el⟩ : ∃ z : List Loc, z = [] := ⟨_, rfl⟩
  rw [← eH] at hP
  have hS : va_S A s.heap H locs := by rw [eH, el]; exact hS
  have goal0 : W p l e r_h_reaches s m ([.ref (g.2.2.2 0), .int (nI x1), .int (nI x2), .int (nI x3), .ref ao] : List Value).toArray below meth c H locs 0 0 Q (F0 m 0 ls []) → W p l e r_h_reaches s m ([.ref (g.2.2.2 0), .int (nI x1), .int (nI x2), .int (nI x3), .ref ao] : List Value).toArray below meth c s.heap [] 0 0 Q (F0 m 0 ls []) := fun h => by rw [eH, el] at h; exact h
  refine goal0 ?_
  have hl : lv_has ls 6 [(0, .ref (g.2.2.2 0)), (1, .int (nI x1)), (2, .int (nI x2)), (3, .int (nI x3)), (4, .ref ao)] := hl
  have hP : va_P (g.1, g.2.1) vwCl (wC g σ ++ wT g ao ad ov dv tl) H := hP
  have hD : va_D A (wC g σ ++ wT g ao ad ov dv tl) := hD
  refine lv_aload hx hb dL_reaches_0 (lv_at hl 4 rfl) ?_
  refine lv_iconst (v := nI 0) hx hb dL_reaches_2 (by decide) ?_
  refine lv_aload_n hx hb dL_reaches_3 rfl (lv_at hl 0 rfl) ?_
  refine lv_iload_n hx hb dL_reaches_4 rfl (lv_at hl 1 rfl) ?_
  refine lv_iload_n hx hb dL_reaches_5 rfl (lv_at hl 2 rfl) ?_
  refine lv_iload_n hx hb dL_reaches_6 rfl (lv_at hl 3 rfl) ?_
  refine jx_calli (vx_runV (As := [.int (nI x1), .int (nI x2), .int (nI x3)]) (rest := [.int (nI 0), .ref ao]) ⟨hx, hb, hml, hown, hts⟩ (c_X10_reaches l hflg g (wT g ao ad ov dv tl) H.size σ x1 x2 x3 y_hA y_hx1 y_hx2 y_hx3) (cwV 3 hts gL_reaches_X10_reaches rfl rfl rfl (by decide +kernel) ⟨Nat.le_of_ble_eq_true rfl, Nat.le_of_ble_eq_true rfl⟩) (okXV hKX hP hD hZ hS hAA rfl (gC0 g σ (wT g ao ad ov dv tl))) rfl rfl hl.1 rfl (lv_room (Nat.le_of_ble_eq_true rfl)) dL_reaches_7 ⟨Nat.le_of_ble_eq_true rfl, Nat.le_of_ble_eq_true rfl⟩) hD hS hAA (fun E ce q9 u H locs hxp hP hD hS h7 h8 h9 => ?_) (fun r u H locs hw_ hP hD hS => ?_)
  · have e0 : True := trivial
    have hxp : (E = "java/lang/IllegalArgumentException" ∧ (¬ (x1 < 10 ∧ x2 < 10 ∧ x3 < 10))) := hxp
    rcases hxp with ⟨rfl, hc⟩
    · refine vx_catch (name := "java/lang/IllegalArgumentException") hown [] ⟨0, 19, 22, 13⟩ [] (by rw [htab]; rfl) (fun _ h => absurd h List.not_mem_nil) (by decide) (by decide) (va_Nw.use rfl (hKL.2.2 _ (List.mem_of_getElem? (i := 0) rfl))) (va_Nw.use rfl (hKX.2.1 _ (List.mem_of_getElem? (i := 0) rfl))) h7 h8 h9 ?_
      refine lv_astore (lv' := [(5, .ref q9), (0, .ref (g.2.2.2 0)), (1, .int (nI x1)), (2, .int (nI x2)), (3, .int (nI x3)), (4, .ref ao)]) hx hb dL_reaches_22 hl (by decide) rfl (fun ls hl => ?_)
      refine lv_iconst (v := nI 1) hx hb dL_reaches_24 (by decide) ?_
      exact hq _ _ _ _ _ _ (nI 1) (_, ov, dv) (Nat.le_of_ble_eq_true rfl) (Nat.le_of_ble_eq_true rfl) dL_reaches_25 (Or.inr ⟨rfl, hc, rfl⟩) hP hD hS
  · have e0 : True := trivial
    obtain ⟨f15, rfl⟩ : ∃ z, z = u := ⟨_, rfl⟩
    obtain ⟨rfl, h_⟩ := hw_
    have h_ : x1 < 10 ∧ x2 < 10 ∧ x3 < 10 := h_
    have hP : va_P (g.1, g.2.1) vwCl (wC g (sA σ 15 f15) ++ wT g ao ad ov dv tl) H := hP
    have hD : va_D A (wC g (sA σ 15 f15) ++ wT g ao ad ov dv tl) := hD
    refine jn_beq hx hb (tgt := 17) dL_reaches_10 (by decide) (fun c_ => ?_) (fun c_ => ?_)
    · refine lv_lconst (v := 0) hx hb dL_reaches_17 rfl ?_
      refine va_last (x := 0) hx hb hK.1 hP hD hS 42 1 (gT42 g (sA σ 15 f15) ao ad ov dv tl) rfl (vp_in_nI (by decide) (by decide)) dL_reaches_18 (fun H locs hP hD hS => ?_)
      have hP : va_P (g.1, g.2.1) vwCl (wH g ao ad tl ((sA σ 15 f15), vp_updL ov 0 (0), dv)) H := hP
      have hD : va_D A (wH g ao ad tl ((sA σ 15 f15), vp_updL ov 0 (0), dv)) := hD
      refine lv_goto (tgt := 26) hx hb dL_reaches_19 (by decide) ?_
      refine lv_iconst (v := nI 0) hx hb dL_reaches_26 (by decide) ?_
      exact hq _ _ _ _ _ _ (nI 0) _ (Nat.le_of_ble_eq_true rfl) (Nat.le_of_ble_eq_true rfl) dL_reaches_27 (Or.inl ⟨f15, rfl, h_, by rw [show (if rch (σ.2.1 0) x1 x2 x3 &&& (σ.1 0) ≠ 0 then 1 else 0) = (0 : Int64) from if_neg c_]⟩) hP hD hS
    · refine lv_lconst (v := 1) hx hb dL_reaches_13 rfl ?_
      refine lv_goto (tgt := 18) hx hb dL_reaches_14 (by decide) ?_
      refine va_last (x := 1) hx hb hK.1 hP hD hS 42 1 (gT42 g (sA σ 15 f15) ao ad ov dv tl) rfl (vp_in_nI (by decide) (by decide)) dL_reaches_18 (fun H locs hP hD hS => ?_)
      have hP : va_P (g.1, g.2.1) vwCl (wH g ao ad tl ((sA σ 15 f15), vp_updL ov 0 (1), dv)) H := hP
      have hD : va_D A (wH g ao ad tl ((sA σ 15 f15), vp_updL ov 0 (1), dv)) := hD
      refine lv_goto (tgt := 26) hx hb dL_reaches_19 (by decide) ?_
      refine lv_iconst (v := nI 0) hx hb dL_reaches_26 (by decide) ?_
      exact hq _ _ _ _ _ _ (nI 0) _ (Nat.le_of_ble_eq_true rfl) (Nat.le_of_ble_eq_true rfl) dL_reaches_27 (Or.inl ⟨f15, rfl, h_, by rw [show (if rch (σ.2.1 0) x1 x2 x3 &&& (σ.1 0) ≠ 0 then 1 else 0) = (1 : Int64) from if_pos c_]⟩) hP hD hS

def RH_minimal (σ : SS) (x : Nat) (ov : Nat → Int64) (dv : Nat → UInt64) (r : Int32) (z : HZ) : Prop :=
  (∃ (n6 : Nat) (f15 : Nat → Nat) (f17 : Nat → Nat), r = nI 0 ∧ (LOk f17 n6) ∧ (∀ z, inL f17 n6 z ↔ mnC (σ.2.1 0) (σ.1 0) z) ∧ (x < n6) ∧ z = ((sA (sA (sF σ 6 n6) 15 f15) 17 f17), vp_updL ov 0 ((nI (f17 x)).toInt64), dv)) ∨ (∃ (n6 : Nat) (f15 : Nat → Nat) (f17 : Nat → Nat), r = nI 1 ∧ ((LOk f17 n6) ∧ (∀ z, inL f17 n6 z ↔ mnC (σ.2.1 0) (σ.1 0) z) ∧ ¬ x < n6) ∧ z = ((sA (sA (sF σ 6 n6) 15 f15) 17 f17), ov, dv))
abbrev r_h_minimal : Room := { frames := 7, cells := 1, slots := 6, locals := 117 }
set_option maxHeartbeats 4000000 in
set_option maxRecDepth 100000 in
theorem h_minimal (l : Launch) (hflg : l.stackTraces = false) (g : GC) (tl : va_W) (sz : Nat) (σ : SS) (ao ad : Nat) (ov : Nat → Int64) (dv : Nat → UInt64) (x : Nat) (y_hA : OkA σ) (y_hx : x < 4294967296) : Met l yL_minimal wsL_minimal r_h_minimal (va_Pc [.ref (g.2.2.2 0), .int (nI x), .ref ao] (PH g (wH g ao ad tl (σ, ov, dv)) sz)) (va_Qi (fun r z => RH_minimal σ x ov dv r z) (fun z t => BW g (va_A (wH g ao ad tl (σ, ov, dv)) sz) (wH g ao ad tl z) t) (va_A (wH g ao ad tl (σ, ov, dv)) sz)) 1 6 (va_A (wH g ao ad tl (σ, ov, dv)) sz) := by
  refine jh_i (wf := wH g ao ad tl) (cc := cL_minimal) (maxL := 4) (by decide) rfl rfl (Nat.le_of_ble_eq_true rfl) ?_
  intro p e s m below meth c Q A hx hb hml hown hts hKL hP hD hS hAA hZ htab hq ls hl
  have hKX := hKL.1
  have hK := hKX.1
  obtain ⟨H, eH⟩ : ∃ z, z = s.heap := ⟨_, rfl⟩
  obtain ⟨locs, el⟩ : ∃ z : List Loc, z = [] := ⟨_, rfl⟩
  rw [← eH] at hP
  have hS : va_S A s.heap H locs := by rw [eH, el]; exact hS
  have goal0 : W p l e r_h_minimal s m ([.ref (g.2.2.2 0), .int (nI x), .ref ao] : List Value).toArray below meth c H locs 0 0 Q (F0 m 0 ls []) → W p l e r_h_minimal s m ([.ref (g.2.2.2 0), .int (nI x), .ref ao] : List Value).toArray below meth c s.heap [] 0 0 Q (F0 m 0 ls []) := fun h => by rw [eH, el] at h; exact h
  refine goal0 ?_
  have hl : lv_has ls 4 [(0, .ref (g.2.2.2 0)), (1, .int (nI x)), (2, .ref ao)] := hl
  have hP : va_P (g.1, g.2.1) vwCl (wC g σ ++ wT g ao ad ov dv tl) H := hP
  have hD : va_D A (wC g σ ++ wT g ao ad ov dv tl) := hD
  refine lv_aload_n hx hb dL_minimal_0 rfl (lv_at hl 2 rfl) ?_
  refine lv_iconst (v := nI 0) hx hb dL_minimal_1 (by decide) ?_
  refine lv_aload_n hx hb dL_minimal_2 rfl (lv_at hl 0 rfl) ?_
  refine lv_iload_n hx hb dL_minimal_3 rfl (lv_at hl 1 rfl) ?_
  refine jx_calli (vx_runV (As := [.int (nI x)]) (rest := [.int (nI 0), .ref ao]) ⟨hx, hb, hml, hown, hts⟩ (c_X10_minimal l hflg g (wT g ao ad ov dv tl) H.size σ x y_hA y_hx) (cwV 1 hts gL_minimal_X10_minimal rfl rfl rfl (by decide +kernel) ⟨Nat.le_of_ble_eq_true rfl, Nat.le_of_ble_eq_true rfl⟩) (okXV hKX hP hD hZ hS hAA rfl (gC0 g σ (wT g ao ad ov dv tl))) rfl rfl hl.1 rfl (lv_room (Nat.le_of_ble_eq_true rfl)) dL_minimal_4 ⟨Nat.le_of_ble_eq_true rfl, Nat.le_of_ble_eq_true rfl⟩) hD hS hAA (fun E ce q9 u H locs hxp hP hD hS h7 h8 h9 => ?_) (fun r u H locs hw_ hP hD hS => ?_)
  · have e0 : True := trivial
    obtain ⟨n6, f15, f17⟩ := u
    have hxp : (E = "java/lang/IndexOutOfBoundsException" ∧ ((LOk f17 n6) ∧ (∀ z, inL f17 n6 z ↔ mnC (σ.2.1 0) (σ.1 0) z) ∧ ¬ x < n6)) := hxp
    rcases hxp with ⟨rfl, hc⟩
    · refine vx_catch (name := "java/lang/IndexOutOfBoundsException") hown [] ⟨0, 9, 12, 25⟩ [] (by rw [htab]; rfl) (fun _ h => absurd h List.not_mem_nil) (by decide) (by decide) (va_Nw.use rfl (hKL.2.2 _ (List.mem_of_getElem? (i := 2) rfl))) (va_Nw.use rfl (hKX.2.1 _ (List.mem_of_getElem? (i := 2) rfl))) h7 h8 h9 ?_
      refine lv_astore_n (lv' := [(3, .ref q9), (0, .ref (g.2.2.2 0)), (1, .int (nI x)), (2, .ref ao)]) hx hb dL_minimal_12 rfl hl (by decide) rfl (fun ls hl => ?_)
      refine lv_iconst (v := nI 1) hx hb dL_minimal_13 (by decide) ?_
      exact hq _ _ _ _ _ _ (nI 1) (_, ov, dv) (Nat.le_of_ble_eq_true rfl) (Nat.le_of_ble_eq_true rfl) dL_minimal_14 (Or.inr ⟨n6, f15, f17, rfl, hc, rfl⟩) hP hD hS
  · have e0 : True := trivial
    obtain ⟨n6, f15, f17⟩ := u
    obtain ⟨rfl, h_⟩ := hw_
    have h_ : (LOk f17 n6) ∧ (∀ z, inL f17 n6 z ↔ mnC (σ.2.1 0) (σ.1 0) z) ∧ (x < n6) := h_
    have hP : va_P (g.1, g.2.1) vwCl (wC g (sA (sA (sF σ 6 n6) 15 f15) 17 f17) ++ wT g ao ad ov dv tl) H := hP
    have hD : va_D A (wC g (sA (sA (sF σ 6 n6) 15 f15) 17 f17) ++ wT g ao ad ov dv tl) := hD
    refine lv_i2l hx hb dL_minimal_7 rfl ?_
    refine va_last (x := (nI (f17 x)).toInt64) hx hb hK.1 hP hD hS 42 1 (gT42 g (sA (sA (sF σ 6 n6) 15 f15) 17 f17) ao ad ov dv tl) rfl (vp_in_nI (by decide) (by decide)) dL_minimal_8 (fun H locs hP hD hS => ?_)
    have hP : va_P (g.1, g.2.1) vwCl (wH g ao ad tl ((sA (sA (sF σ 6 n6) 15 f15) 17 f17), vp_updL ov 0 ((nI (f17 x)).toInt64), dv)) H := hP
    have hD : va_D A (wH g ao ad tl ((sA (sA (sF σ 6 n6) 15 f15) 17 f17), vp_updL ov 0 ((nI (f17 x)).toInt64), dv)) := hD
    refine lv_goto (tgt := 15) hx hb dL_minimal_9 (by decide) ?_
    refine lv_iconst (v := nI 0) hx hb dL_minimal_15 (by decide) ?_
    exact hq _ _ _ _ _ _ (nI 0) _ (Nat.le_of_ble_eq_true rfl) (Nat.le_of_ble_eq_true rfl) dL_minimal_16 (Or.inl ⟨n6, f15, f17, rfl, h_.1, h_.2.1, h_.2.2, rfl⟩) hP hD hS

def RH_cycle (σ : SS) (x : Nat) (ov : Nat → Int64) (dv : Nat → UInt64) (r : Int32) (z : HZ) : Prop :=
  (∃ (n7 : Nat) (s8 : Nat) (f18 : Nat → Nat), r = nI 0 ∧ (LOk f18 n7) ∧ (∀ x, inL f18 n7 x ↔ cyA (σ.2.1 0) (usf σ) 5 x) ∧ (s8 < 5) ∧ (x < n7) ∧ z = ((sA (sF (sF σ 7 n7) 8 s8) 18 f18), vp_updL ov 0 ((nI (f18 x)).toInt64), dv)) ∨ (∃ (n7 : Nat) (s8 : Nat) (f18 : Nat → Nat), r = nI 1 ∧ ((LOk f18 n7) ∧ (∀ x, inL f18 n7 x ↔ cyA (σ.2.1 0) (usf σ) 5 x) ∧ s8 < 5 ∧ ¬ x < n7) ∧ z = ((sA (sF (sF σ 7 n7) 8 s8) 18 f18), ov, dv))
abbrev r_h_cycle : Room := { frames := 9, cells := 1, slots := 6, locals := 240 }
set_option maxHeartbeats 4000000 in
set_option maxRecDepth 100000 in
theorem h_cycle (l : Launch) (hflg : l.stackTraces = false) (g : GC) (tl : va_W) (sz : Nat) (σ : SS) (ao ad : Nat) (ov : Nat → Int64) (dv : Nat → UInt64) (x : Nat) (y_hA : OkA σ) (y_hs8 : σ.1 8 < 5) (y_hx : x < 4294967296) : Met l yL_cycle wsL_cycle r_h_cycle (va_Pc [.ref (g.2.2.2 0), .int (nI x), .ref ao] (PH g (wH g ao ad tl (σ, ov, dv)) sz)) (va_Qi (fun r z => RH_cycle σ x ov dv r z) (fun z t => BW g (va_A (wH g ao ad tl (σ, ov, dv)) sz) (wH g ao ad tl z) t) (va_A (wH g ao ad tl (σ, ov, dv)) sz)) 1 6 (va_A (wH g ao ad tl (σ, ov, dv)) sz) := by
  refine jh_i (wf := wH g ao ad tl) (cc := cL_cycle) (maxL := 4) (by decide) rfl rfl (Nat.le_of_ble_eq_true rfl) ?_
  intro p e s m below meth c Q A hx hb hml hown hts hKL hP hD hS hAA hZ htab hq ls hl
  have hKX := hKL.1
  have hK := hKX.1
  obtain ⟨H, eH⟩ : ∃ z, z = s.heap := ⟨_, rfl⟩
  obtain ⟨locs, el⟩ : ∃ z : List Loc, z = [] := ⟨_, rfl⟩
  rw [← eH] at hP
  have hS : va_S A s.heap H locs := by rw [eH, el]; exact hS
  have goal0 : W p l e r_h_cycle s m ([.ref (g.2.2.2 0), .int (nI x), .ref ao] : List Value).toArray below meth c H locs 0 0 Q (F0 m 0 ls []) → W p l e r_h_cycle s m ([.ref (g.2.2.2 0), .int (nI x), .ref ao] : List Value).toArray below meth c s.heap [] 0 0 Q (F0 m 0 ls []) := fun h => by rw [eH, el] at h; exact h
  refine goal0 ?_
  have hl : lv_has ls 4 [(0, .ref (g.2.2.2 0)), (1, .int (nI x)), (2, .ref ao)] := hl
  have hP : va_P (g.1, g.2.1) vwCl (wC g σ ++ wT g ao ad ov dv tl) H := hP
  have hD : va_D A (wC g σ ++ wT g ao ad ov dv tl) := hD
  refine lv_aload_n hx hb dL_cycle_0 rfl (lv_at hl 2 rfl) ?_
  refine lv_iconst (v := nI 0) hx hb dL_cycle_1 (by decide) ?_
  refine lv_aload_n hx hb dL_cycle_2 rfl (lv_at hl 0 rfl) ?_
  refine lv_iload_n hx hb dL_cycle_3 rfl (lv_at hl 1 rfl) ?_
  refine jx_calli (vx_runV (As := [.int (nI x)]) (rest := [.int (nI 0), .ref ao]) ⟨hx, hb, hml, hown, hts⟩ (c_X10_cycle l hflg g (wT g ao ad ov dv tl) H.size σ x y_hA y_hs8 y_hx) (cwV 1 hts gL_cycle_X10_cycle rfl rfl rfl (by decide +kernel) ⟨Nat.le_of_ble_eq_true rfl, Nat.le_of_ble_eq_true rfl⟩) (okXV hKX hP hD hZ hS hAA rfl (gC0 g σ (wT g ao ad ov dv tl))) rfl rfl hl.1 rfl (lv_room (Nat.le_of_ble_eq_true rfl)) dL_cycle_4 ⟨Nat.le_of_ble_eq_true rfl, Nat.le_of_ble_eq_true rfl⟩) hD hS hAA (fun E ce q9 u H locs hxp hP hD hS h7 h8 h9 => ?_) (fun r u H locs hw_ hP hD hS => ?_)
  · have e0 : True := trivial
    obtain ⟨n7, s8, f18⟩ := u
    have hxp : (E = "java/lang/IndexOutOfBoundsException" ∧ ((LOk f18 n7) ∧ (∀ x, inL f18 n7 x ↔ cyA (σ.2.1 0) (usf σ) 5 x) ∧ s8 < 5 ∧ ¬ x < n7)) := hxp
    rcases hxp with ⟨rfl, hc⟩
    · refine vx_catch (name := "java/lang/IndexOutOfBoundsException") hown [] ⟨0, 9, 12, 25⟩ [] (by rw [htab]; rfl) (fun _ h => absurd h List.not_mem_nil) (by decide) (by decide) (va_Nw.use rfl (hKL.2.2 _ (List.mem_of_getElem? (i := 2) rfl))) (va_Nw.use rfl (hKX.2.1 _ (List.mem_of_getElem? (i := 2) rfl))) h7 h8 h9 ?_
      refine lv_astore_n (lv' := [(3, .ref q9), (0, .ref (g.2.2.2 0)), (1, .int (nI x)), (2, .ref ao)]) hx hb dL_cycle_12 rfl hl (by decide) rfl (fun ls hl => ?_)
      refine lv_iconst (v := nI 1) hx hb dL_cycle_13 (by decide) ?_
      exact hq _ _ _ _ _ _ (nI 1) (_, ov, dv) (Nat.le_of_ble_eq_true rfl) (Nat.le_of_ble_eq_true rfl) dL_cycle_14 (Or.inr ⟨n7, s8, f18, rfl, hc, rfl⟩) hP hD hS
  · have e0 : True := trivial
    obtain ⟨n7, s8, f18⟩ := u
    obtain ⟨rfl, h_⟩ := hw_
    have h_ : (LOk f18 n7) ∧ (∀ x, inL f18 n7 x ↔ cyA (σ.2.1 0) (usf σ) 5 x) ∧ (s8 < 5) ∧ (x < n7) := h_
    have hP : va_P (g.1, g.2.1) vwCl (wC g (sA (sF (sF σ 7 n7) 8 s8) 18 f18) ++ wT g ao ad ov dv tl) H := hP
    have hD : va_D A (wC g (sA (sF (sF σ 7 n7) 8 s8) 18 f18) ++ wT g ao ad ov dv tl) := hD
    refine lv_i2l hx hb dL_cycle_7 rfl ?_
    refine va_last (x := (nI (f18 x)).toInt64) hx hb hK.1 hP hD hS 42 1 (gT42 g (sA (sF (sF σ 7 n7) 8 s8) 18 f18) ao ad ov dv tl) rfl (vp_in_nI (by decide) (by decide)) dL_cycle_8 (fun H locs hP hD hS => ?_)
    have hP : va_P (g.1, g.2.1) vwCl (wH g ao ad tl ((sA (sF (sF σ 7 n7) 8 s8) 18 f18), vp_updL ov 0 ((nI (f18 x)).toInt64), dv)) H := hP
    have hD : va_D A (wH g ao ad tl ((sA (sF (sF σ 7 n7) 8 s8) 18 f18), vp_updL ov 0 ((nI (f18 x)).toInt64), dv)) := hD
    refine lv_goto (tgt := 15) hx hb dL_cycle_9 (by decide) ?_
    refine lv_iconst (v := nI 0) hx hb dL_cycle_15 (by decide) ?_
    exact hq _ _ _ _ _ _ (nI 0) _ (Nat.le_of_ble_eq_true rfl) (Nat.le_of_ble_eq_true rfl) dL_cycle_16 (Or.inl ⟨n7, s8, f18, rfl, h_.1, h_.2.1, h_.2.2.1, h_.2.2.2, rfl⟩) hP hD hS

def RH_addLinearSet (σ : SS) (s2 : Nat) (x1 : Nat) (x2 : Nat) (x3 : Nat) (ov : Nat → Int64) (dv : Nat → UInt64) (r : Int32) (z : HZ) : Prop :=
  (r = nI 0 ∧ (s2 < 2) ∧ (x1 < 10 ∧ x2 < 10 ∧ x3 < 10) ∧ ((σ.2.1 2) (s2 * 21) < 4) ∧ z = ((sA (sF (sF (sL σ (2 + σ.1 9) (snp σ (σ.2.2 (2 + σ.1 9)))) 9 ((σ.1 9 + 1) % 8)) 10 (min (σ.1 10 + 1) 8)) 2 (va_up (va_up (va_up (σ.2.1 2) (s2 * 21) ((σ.2.1 2) (s2 * 21) + 1)) (s2 * 21 + 1 + (σ.2.1 2) (s2 * 21) * 5) (100 * x1 + 10 * x2 + x3)) (s2 * 21 + 1 + (σ.2.1 2) (s2 * 21) * 5 + 1) 0)), vp_updL ov 0 ((nI ((σ.2.1 2) (s2 * 21))).toInt64), dv)) ∨ (r = nI 1 ∧ (¬ s2 < 2) ∧ z = (σ, ov, dv)) ∨ (r = nI 2 ∧ (s2 < 2 ∧ ¬ (x1 < 10 ∧ x2 < 10 ∧ x3 < 10)) ∧ z = (σ, ov, dv)) ∨ (r = nI 3 ∧ (s2 < 2 ∧ (x1 < 10 ∧ x2 < 10 ∧ x3 < 10) ∧ 4 ≤ (σ.2.1 2) (s2 * 21)) ∧ z = (σ, ov, dv))
abbrev r_h_addLinearSet : Room := { frames := 8, cells := 3, slots := 18, locals := 174 }
set_option maxHeartbeats 4000000 in
set_option maxRecDepth 100000 in
theorem h_addLinearSet (l : Launch) (hflg : l.stackTraces = false) (g : GC) (tl : va_W) (sz : Nat) (σ : SS) (ao ad : Nat) (ov : Nat → Int64) (dv : Nat → UInt64) (s2 : Nat) (x1 : Nat) (x2 : Nat) (x3 : Nat) (y_hC : OkC (σ.2.1 2)) (y_hM : OkM σ) (y_hs2 : s2 < 4294967296) (y_hx1 : x1 < 4294967296) (y_hx2 : x2 < 4294967296) (y_hx3 : x3 < 4294967296) : Met l yL_addLinearSet wsL_addLinearSet r_h_addLinearSet (va_Pc [.ref (g.2.2.2 0), .int (nI s2), .int (nI x1), .int (nI x2), .int (nI x3), .ref ao] (PH g (wH g ao ad tl (σ, ov, dv)) sz)) (va_Qi (fun r z => RH_addLinearSet σ s2 x1 x2 x3 ov dv r z) (fun z t => BW g (va_A (wH g ao ad tl (σ, ov, dv)) sz) (wH g ao ad tl z) t) (va_A (wH g ao ad tl (σ, ov, dv)) sz)) 3 18 (va_A (wH g ao ad tl (σ, ov, dv)) sz) := by
  refine jh_i (wf := wH g ao ad tl) (cc := cL_addLinearSet) (maxL := 7) (by decide) rfl rfl (Nat.le_of_ble_eq_true rfl) ?_
  intro p e s m below meth c Q A hx hb hml hown hts hKL hP hD hS hAA hZ htab hq ls hl
  have hKX := hKL.1
  have hK := hKX.1
  obtain ⟨H, eH⟩ : ∃ z, z = s.heap := ⟨_, rfl⟩
  obtain ⟨locs, el⟩ : ∃ z : List Loc, z = [] := ⟨_, rfl⟩
  rw [← eH] at hP
  have hS : va_S A s.heap H locs := by rw [eH, el]; exact hS
  have goal0 : W p l e r_h_addLinearSet s m ([.ref (g.2.2.2 0), .int (nI s2), .int (nI x1), .int (nI x2), .int (nI x3), .ref ao] : List Value).toArray below meth c H locs 0 0 Q (F0 m 0 ls []) → W p l e r_h_addLinearSet s m ([.ref (g.2.2.2 0), .int (nI s2), .int (nI x1), .int (nI x2), .int (nI x3), .ref ao] : List Value).toArray below meth c s.heap [] 0 0 Q (F0 m 0 ls []) := fun h => by rw [eH, el] at h; exact h
  refine goal0 ?_
  have hl : lv_has ls 7 [(0, .ref (g.2.2.2 0)), (1, .int (nI s2)), (2, .int (nI x1)), (3, .int (nI x2)), (4, .int (nI x3)), (5, .ref ao)] := hl
  have hP : va_P (g.1, g.2.1) vwCl (wC g σ ++ wT g ao ad ov dv tl) H := hP
  have hD : va_D A (wC g σ ++ wT g ao ad ov dv tl) := hD
  refine lv_aload hx hb dL_addLinearSet_0 (lv_at hl 5 rfl) ?_
  refine lv_iconst (v := nI 0) hx hb dL_addLinearSet_2 (by decide) ?_
  refine lv_aload_n hx hb dL_addLinearSet_3 rfl (lv_at hl 0 rfl) ?_
  refine lv_iload_n hx hb dL_addLinearSet_4 rfl (lv_at hl 1 rfl) ?_
  refine lv_iload_n hx hb dL_addLinearSet_5 rfl (lv_at hl 2 rfl) ?_
  refine lv_iload_n hx hb dL_addLinearSet_6 rfl (lv_at hl 3 rfl) ?_
  refine lv_iload hx hb dL_addLinearSet_7 (lv_at hl 4 rfl) ?_
  refine jx_calli (vx_runV (As := [.int (nI s2), .int (nI x1), .int (nI x2), .int (nI x3)]) (rest := [.int (nI 0), .ref ao]) ⟨hx, hb, hml, hown, hts⟩ (c_X10_addLinearSet l hflg g (wT g ao ad ov dv tl) H.size σ s2 x1 x2 x3 y_hC y_hM y_hs2 y_hx1 y_hx2 y_hx3) (cwV 4 hts gL_addLinearSet_X10_addLinearSet rfl rfl rfl (by decide +kernel) ⟨Nat.le_of_ble_eq_true rfl, Nat.le_of_ble_eq_true rfl⟩) (okXV hKX hP hD hZ hS hAA rfl (gC0 g σ (wT g ao ad ov dv tl))) rfl rfl hl.1 rfl (lv_room (Nat.le_of_ble_eq_true rfl)) dL_addLinearSet_9 ⟨Nat.le_of_ble_eq_true rfl, Nat.le_of_ble_eq_true rfl⟩) hD hS hAA (fun E ce q9 u H locs hxp hP hD hS h7 h8 h9 => ?_) (fun r u H locs hw_ hP hD hS => ?_)
  · have e0 : True := trivial
    have hxp : (E = "java/lang/IndexOutOfBoundsException" ∧ (¬ s2 < 2)) ∨ (E = "java/lang/IllegalArgumentException" ∧ (s2 < 2 ∧ ¬ (x1 < 10 ∧ x2 < 10 ∧ x3 < 10))) ∨ (E = "java/lang/IllegalStateException" ∧ (s2 < 2 ∧ (x1 < 10 ∧ x2 < 10 ∧ x3 < 10) ∧ 4 ≤ (σ.2.1 2) (s2 * 21))) := hxp
    rcases hxp with ⟨rfl, hc⟩ | ⟨rfl, hc⟩ | ⟨rfl, hc⟩
    · refine vx_catch (name := "java/lang/IndexOutOfBoundsException") hown [] ⟨0, 14, 17, 25⟩ [⟨0, 14, 21, 13⟩, ⟨0, 14, 25, 15⟩] (by rw [htab]; rfl) (fun _ h => absurd h List.not_mem_nil) (by decide) (by decide) (va_Nw.use rfl (hKL.2.2 _ (List.mem_of_getElem? (i := 2) rfl))) (va_Nw.use rfl (hKX.2.1 _ (List.mem_of_getElem? (i := 2) rfl))) h7 h8 h9 ?_
      refine lv_astore (lv' := [(6, .ref q9), (0, .ref (g.2.2.2 0)), (1, .int (nI s2)), (2, .int (nI x1)), (3, .int (nI x2)), (4, .int (nI x3)), (5, .ref ao)]) hx hb dL_addLinearSet_17 hl (by decide) rfl (fun ls hl => ?_)
      refine lv_iconst (v := nI 1) hx hb dL_addLinearSet_19 (by decide) ?_
      exact hq _ _ _ _ _ _ (nI 1) (_, ov, dv) (Nat.le_of_ble_eq_true rfl) (Nat.le_of_ble_eq_true rfl) dL_addLinearSet_20 (Or.inr (Or.inl ⟨rfl, hc, rfl⟩)) hP hD hS
    · refine vx_catch (name := "java/lang/IllegalArgumentException") hown [⟨0, 14, 17, 25⟩] ⟨0, 14, 21, 13⟩ [⟨0, 14, 25, 15⟩] (by rw [htab]; rfl) (List.forall_mem_cons.mpr ⟨Or.inr ⟨by decide, "java/lang/IndexOutOfBoundsException", va_Nw.use rfl (hKL.2.2 _ (List.mem_of_getElem? (i := 2) rfl)), hKL.2.1 _ (List.mem_of_getElem? (i := 2) rfl)⟩, fun _ h => absurd h List.not_mem_nil⟩) (by decide) (by decide) (va_Nw.use rfl (hKL.2.2 _ (List.mem_of_getElem? (i := 0) rfl))) (va_Nw.use rfl (hKX.2.1 _ (List.mem_of_getElem? (i := 0) rfl))) h7 h8 h9 ?_
      refine lv_astore (lv' := [(6, .ref q9), (0, .ref (g.2.2.2 0)), (1, .int (nI s2)), (2, .int (nI x1)), (3, .int (nI x2)), (4, .int (nI x3)), (5, .ref ao)]) hx hb dL_addLinearSet_21 hl (by decide) rfl (fun ls hl => ?_)
      refine lv_iconst (v := nI 2) hx hb dL_addLinearSet_23 (by decide) ?_
      exact hq _ _ _ _ _ _ (nI 2) (_, ov, dv) (Nat.le_of_ble_eq_true rfl) (Nat.le_of_ble_eq_true rfl) dL_addLinearSet_24 (Or.inr (Or.inr (Or.inl ⟨rfl, hc, rfl⟩))) hP hD hS
    · refine vx_catch (name := "java/lang/IllegalStateException") hown [⟨0, 14, 17, 25⟩, ⟨0, 14, 21, 13⟩] ⟨0, 14, 25, 15⟩ [] (by rw [htab]; rfl) (List.forall_mem_cons.mpr ⟨Or.inr ⟨by decide, "java/lang/IndexOutOfBoundsException", va_Nw.use rfl (hKL.2.2 _ (List.mem_of_getElem? (i := 2) rfl)), hKL.2.1 _ (List.mem_of_getElem? (i := 3) rfl)⟩, List.forall_mem_cons.mpr ⟨Or.inr ⟨by decide, "java/lang/IllegalArgumentException", va_Nw.use rfl (hKL.2.2 _ (List.mem_of_getElem? (i := 0) rfl)), hKL.2.1 _ (List.mem_of_getElem? (i := 0) rfl)⟩, fun _ h => absurd h List.not_mem_nil⟩⟩) (by decide) (by decide) (va_Nw.use rfl (hKL.2.2 _ (List.mem_of_getElem? (i := 1) rfl))) (va_Nw.use rfl (hKX.2.1 _ (List.mem_of_getElem? (i := 1) rfl))) h7 h8 h9 ?_
      refine lv_astore (lv' := [(6, .ref q9), (0, .ref (g.2.2.2 0)), (1, .int (nI s2)), (2, .int (nI x1)), (3, .int (nI x2)), (4, .int (nI x3)), (5, .ref ao)]) hx hb dL_addLinearSet_25 hl (by decide) rfl (fun ls hl => ?_)
      refine lv_iconst (v := nI 3) hx hb dL_addLinearSet_27 (by decide) ?_
      exact hq _ _ _ _ _ _ (nI 3) (_, ov, dv) (Nat.le_of_ble_eq_true rfl) (Nat.le_of_ble_eq_true rfl) dL_addLinearSet_28 (Or.inr (Or.inr (Or.inr ⟨rfl, hc, rfl⟩))) hP hD hS
  · have e0 : True := trivial
    obtain ⟨rfl, h_⟩ := hw_
    have h_ : (s2 < 2) ∧ (x1 < 10 ∧ x2 < 10 ∧ x3 < 10) ∧ ((σ.2.1 2) (s2 * 21) < 4) := h_
    have hP : va_P (g.1, g.2.1) vwCl (wC g (sA (sF (sF (sL σ (2 + σ.1 9) (snp σ (σ.2.2 (2 + σ.1 9)))) 9 ((σ.1 9 + 1) % 8)) 10 (min (σ.1 10 + 1) 8)) 2 (va_up (va_up (va_up (σ.2.1 2) (s2 * 21) ((σ.2.1 2) (s2 * 21) + 1)) (s2 * 21 + 1 + (σ.2.1 2) (s2 * 21) * 5) (100 * x1 + 10 * x2 + x3)) (s2 * 21 + 1 + (σ.2.1 2) (s2 * 21) * 5 + 1) 0)) ++ wT g ao ad ov dv tl) H := hP
    have hD : va_D A (wC g (sA (sF (sF (sL σ (2 + σ.1 9) (snp σ (σ.2.2 (2 + σ.1 9)))) 9 ((σ.1 9 + 1) % 8)) 10 (min (σ.1 10 + 1) 8)) 2 (va_up (va_up (va_up (σ.2.1 2) (s2 * 21) ((σ.2.1 2) (s2 * 21) + 1)) (s2 * 21 + 1 + (σ.2.1 2) (s2 * 21) * 5) (100 * x1 + 10 * x2 + x3)) (s2 * 21 + 1 + (σ.2.1 2) (s2 * 21) * 5 + 1) 0)) ++ wT g ao ad ov dv tl) := hD
    refine lv_i2l hx hb dL_addLinearSet_12 rfl ?_
    refine va_last (x := (nI ((σ.2.1 2) (s2 * 21))).toInt64) hx hb hK.1 hP hD hS 42 1 (gT42 g (sA (sF (sF (sL σ (2 + σ.1 9) (snp σ (σ.2.2 (2 + σ.1 9)))) 9 ((σ.1 9 + 1) % 8)) 10 (min (σ.1 10 + 1) 8)) 2 (va_up (va_up (va_up (σ.2.1 2) (s2 * 21) ((σ.2.1 2) (s2 * 21) + 1)) (s2 * 21 + 1 + (σ.2.1 2) (s2 * 21) * 5) (100 * x1 + 10 * x2 + x3)) (s2 * 21 + 1 + (σ.2.1 2) (s2 * 21) * 5 + 1) 0)) ao ad ov dv tl) rfl (vp_in_nI (by decide) (by decide)) dL_addLinearSet_13 (fun H locs hP hD hS => ?_)
    have hP : va_P (g.1, g.2.1) vwCl (wH g ao ad tl ((sA (sF (sF (sL σ (2 + σ.1 9) (snp σ (σ.2.2 (2 + σ.1 9)))) 9 ((σ.1 9 + 1) % 8)) 10 (min (σ.1 10 + 1) 8)) 2 (va_up (va_up (va_up (σ.2.1 2) (s2 * 21) ((σ.2.1 2) (s2 * 21) + 1)) (s2 * 21 + 1 + (σ.2.1 2) (s2 * 21) * 5) (100 * x1 + 10 * x2 + x3)) (s2 * 21 + 1 + (σ.2.1 2) (s2 * 21) * 5 + 1) 0)), vp_updL ov 0 ((nI ((σ.2.1 2) (s2 * 21))).toInt64), dv)) H := hP
    have hD : va_D A (wH g ao ad tl ((sA (sF (sF (sL σ (2 + σ.1 9) (snp σ (σ.2.2 (2 + σ.1 9)))) 9 ((σ.1 9 + 1) % 8)) 10 (min (σ.1 10 + 1) 8)) 2 (va_up (va_up (va_up (σ.2.1 2) (s2 * 21) ((σ.2.1 2) (s2 * 21) + 1)) (s2 * 21 + 1 + (σ.2.1 2) (s2 * 21) * 5) (100 * x1 + 10 * x2 + x3)) (s2 * 21 + 1 + (σ.2.1 2) (s2 * 21) * 5 + 1) 0)), vp_updL ov 0 ((nI ((σ.2.1 2) (s2 * 21))).toInt64), dv)) := hD
    refine lv_goto (tgt := 29) hx hb dL_addLinearSet_14 (by decide) ?_
    refine lv_iconst (v := nI 0) hx hb dL_addLinearSet_29 (by decide) ?_
    exact hq _ _ _ _ _ _ (nI 0) _ (Nat.le_of_ble_eq_true rfl) (Nat.le_of_ble_eq_true rfl) dL_addLinearSet_30 (Or.inl ⟨rfl, h_.1, h_.2.1, h_.2.2, rfl⟩) hP hD hS

def RH_addPeriod (σ : SS) (s2 : Nat) (ln : Nat) (x1 : Nat) (x2 : Nat) (x3 : Nat) (ov : Nat → Int64) (dv : Nat → UInt64) (r : Int32) (z : HZ) : Prop :=
  (r = nI 0 ∧ (s2 < 2 ∧ ln < (σ.2.1 2) (s2 * 21)) ∧ (x1 < 10 ∧ x2 < 10 ∧ x3 < 10) ∧ (100 * x1 + 10 * x2 + x3 ≠ 0) ∧ ((σ.2.1 2) (s2 * 21 + 1 + ln * 5 + 1) < 3) ∧ z = ((sA (sF (sF (sL σ (2 + σ.1 9) (snp σ (σ.2.2 (2 + σ.1 9)))) 9 ((σ.1 9 + 1) % 8)) 10 (min (σ.1 10 + 1) 8)) 2 (va_up (va_up (σ.2.1 2) (s2 * 21 + 1 + ln * 5 + 2 + (σ.2.1 2) (s2 * 21 + 1 + ln * 5 + 1)) (100 * x1 + 10 * x2 + x3)) (s2 * 21 + 1 + ln * 5 + 1) ((σ.2.1 2) (s2 * 21 + 1 + ln * 5 + 1) + 1))), vp_updL ov 0 ((nI ((σ.2.1 2) (s2 * 21 + 1 + ln * 5 + 1) + 1)).toInt64), dv)) ∨ (r = nI 1 ∧ (¬ (s2 < 2 ∧ ln < (σ.2.1 2) (s2 * 21))) ∧ z = (σ, ov, dv)) ∨ (r = nI 2 ∧ ((s2 < 2 ∧ ln < (σ.2.1 2) (s2 * 21)) ∧ (¬ (x1 < 10 ∧ x2 < 10 ∧ x3 < 10) ∨ 100 * x1 + 10 * x2 + x3 = 0)) ∧ z = (σ, ov, dv)) ∨ (r = nI 3 ∧ ((s2 < 2 ∧ ln < (σ.2.1 2) (s2 * 21)) ∧ (x1 < 10 ∧ x2 < 10 ∧ x3 < 10) ∧ 100 * x1 + 10 * x2 + x3 ≠ 0 ∧ 3 ≤ (σ.2.1 2) (s2 * 21 + 1 + ln * 5 + 1)) ∧ z = (σ, ov, dv))
abbrev r_h_addPeriod : Room := { frames := 8, cells := 2, slots := 12, locals := 175 }
set_option maxHeartbeats 4000000 in
set_option maxRecDepth 100000 in
theorem h_addPeriod (l : Launch) (hflg : l.stackTraces = false) (g : GC) (tl : va_W) (sz : Nat) (σ : SS) (ao ad : Nat) (ov : Nat → Int64) (dv : Nat → UInt64) (s2 : Nat) (ln : Nat) (x1 : Nat) (x2 : Nat) (x3 : Nat) (y_hC : OkC (σ.2.1 2)) (y_hM : OkM σ) (y_hs2 : s2 < 4294967296) (y_hln : ln < 4294967296) (y_hx1 : x1 < 4294967296) (y_hx2 : x2 < 4294967296) (y_hx3 : x3 < 4294967296) : Met l yL_addPeriod wsL_addPeriod r_h_addPeriod (va_Pc [.ref (g.2.2.2 0), .int (nI s2), .int (nI ln), .int (nI x1), .int (nI x2), .int (nI x3), .ref ao] (PH g (wH g ao ad tl (σ, ov, dv)) sz)) (va_Qi (fun r z => RH_addPeriod σ s2 ln x1 x2 x3 ov dv r z) (fun z t => BW g (va_A (wH g ao ad tl (σ, ov, dv)) sz) (wH g ao ad tl z) t) (va_A (wH g ao ad tl (σ, ov, dv)) sz)) 2 12 (va_A (wH g ao ad tl (σ, ov, dv)) sz) := by
  refine jh_i (wf := wH g ao ad tl) (cc := cL_addPeriod) (maxL := 8) (by decide) rfl rfl (Nat.le_of_ble_eq_true rfl) ?_
  intro p e s m below meth c Q A hx hb hml hown hts hKL hP hD hS hAA hZ htab hq ls hl
  have hKX := hKL.1
  have hK := hKX.1
  obtain ⟨H, eH⟩ : ∃ z, z = s.heap := ⟨_, rfl⟩
  obtain ⟨locs, el⟩ : ∃ z : List Loc, z = [] := ⟨_, rfl⟩
  rw [← eH] at hP
  have hS : va_S A s.heap H locs := by rw [eH, el]; exact hS
  have goal0 : W p l e r_h_addPeriod s m ([.ref (g.2.2.2 0), .int (nI s2), .int (nI ln), .int (nI x1), .int (nI x2), .int (nI x3), .ref ao] : List Value).toArray below meth c H locs 0 0 Q (F0 m 0 ls []) → W p l e r_h_addPeriod s m ([.ref (g.2.2.2 0), .int (nI s2), .int (nI ln), .int (nI x1), .int (nI x2), .int (nI x3), .ref ao] : List Value).toArray below meth c s.heap [] 0 0 Q (F0 m 0 ls []) := fun h => by rw [eH, el] at h; exact h
  refine goal0 ?_
  have hl : lv_has ls 8 [(0, .ref (g.2.2.2 0)), (1, .int (nI s2)), (2, .int (nI ln)), (3, .int (nI x1)), (4, .int (nI x2)), (5, .int (nI x3)), (6, .ref ao)] := hl
  have hP : va_P (g.1, g.2.1) vwCl (wC g σ ++ wT g ao ad ov dv tl) H := hP
  have hD : va_D A (wC g σ ++ wT g ao ad ov dv tl) := hD
  refine lv_aload hx hb dL_addPeriod_0 (lv_at hl 6 rfl) ?_
  refine lv_iconst (v := nI 0) hx hb dL_addPeriod_2 (by decide) ?_
  refine lv_aload_n hx hb dL_addPeriod_3 rfl (lv_at hl 0 rfl) ?_
  refine lv_iload_n hx hb dL_addPeriod_4 rfl (lv_at hl 1 rfl) ?_
  refine lv_iload_n hx hb dL_addPeriod_5 rfl (lv_at hl 2 rfl) ?_
  refine lv_iload_n hx hb dL_addPeriod_6 rfl (lv_at hl 3 rfl) ?_
  refine lv_iload hx hb dL_addPeriod_7 (lv_at hl 4 rfl) ?_
  refine lv_iload hx hb dL_addPeriod_9 (lv_at hl 5 rfl) ?_
  refine jx_calli (vx_runV (As := [.int (nI s2), .int (nI ln), .int (nI x1), .int (nI x2), .int (nI x3)]) (rest := [.int (nI 0), .ref ao]) ⟨hx, hb, hml, hown, hts⟩ (c_X10_addPeriod l hflg g (wT g ao ad ov dv tl) H.size σ s2 ln x1 x2 x3 y_hC y_hM y_hs2 y_hln y_hx1 y_hx2 y_hx3) (cwV 5 hts gL_addPeriod_X10_addPeriod rfl rfl rfl (by decide +kernel) ⟨Nat.le_of_ble_eq_true rfl, Nat.le_of_ble_eq_true rfl⟩) (okXV hKX hP hD hZ hS hAA rfl (gC0 g σ (wT g ao ad ov dv tl))) rfl rfl hl.1 rfl (lv_room (Nat.le_of_ble_eq_true rfl)) dL_addPeriod_11 ⟨Nat.le_of_ble_eq_true rfl, Nat.le_of_ble_eq_true rfl⟩) hD hS hAA (fun E ce q9 u H locs hxp hP hD hS h7 h8 h9 => ?_) (fun r u H locs hw_ hP hD hS => ?_)
  · have e0 : True := trivial
    have hxp : (E = "java/lang/IndexOutOfBoundsException" ∧ (¬ (s2 < 2 ∧ ln < (σ.2.1 2) (s2 * 21)))) ∨ (E = "java/lang/IllegalArgumentException" ∧ ((s2 < 2 ∧ ln < (σ.2.1 2) (s2 * 21)) ∧ (¬ (x1 < 10 ∧ x2 < 10 ∧ x3 < 10) ∨ 100 * x1 + 10 * x2 + x3 = 0))) ∨ (E = "java/lang/IllegalStateException" ∧ ((s2 < 2 ∧ ln < (σ.2.1 2) (s2 * 21)) ∧ (x1 < 10 ∧ x2 < 10 ∧ x3 < 10) ∧ 100 * x1 + 10 * x2 + x3 ≠ 0 ∧ 3 ≤ (σ.2.1 2) (s2 * 21 + 1 + ln * 5 + 1))) := hxp
    rcases hxp with ⟨rfl, hc⟩ | ⟨rfl, hc⟩ | ⟨rfl, hc⟩
    · refine vx_catch (name := "java/lang/IndexOutOfBoundsException") hown [] ⟨0, 16, 19, 25⟩ [⟨0, 16, 23, 13⟩, ⟨0, 16, 27, 15⟩] (by rw [htab]; rfl) (fun _ h => absurd h List.not_mem_nil) (by decide) (by decide) (va_Nw.use rfl (hKL.2.2 _ (List.mem_of_getElem? (i := 2) rfl))) (va_Nw.use rfl (hKX.2.1 _ (List.mem_of_getElem? (i := 2) rfl))) h7 h8 h9 ?_
      refine lv_astore (lv' := [(7, .ref q9), (0, .ref (g.2.2.2 0)), (1, .int (nI s2)), (2, .int (nI ln)), (3, .int (nI x1)), (4, .int (nI x2)), (5, .int (nI x3)), (6, .ref ao)]) hx hb dL_addPeriod_19 hl (by decide) rfl (fun ls hl => ?_)
      refine lv_iconst (v := nI 1) hx hb dL_addPeriod_21 (by decide) ?_
      exact hq _ _ _ _ _ _ (nI 1) (_, ov, dv) (Nat.le_of_ble_eq_true rfl) (Nat.le_of_ble_eq_true rfl) dL_addPeriod_22 (Or.inr (Or.inl ⟨rfl, hc, rfl⟩)) hP hD hS
    · refine vx_catch (name := "java/lang/IllegalArgumentException") hown [⟨0, 16, 19, 25⟩] ⟨0, 16, 23, 13⟩ [⟨0, 16, 27, 15⟩] (by rw [htab]; rfl) (List.forall_mem_cons.mpr ⟨Or.inr ⟨by decide, "java/lang/IndexOutOfBoundsException", va_Nw.use rfl (hKL.2.2 _ (List.mem_of_getElem? (i := 2) rfl)), hKL.2.1 _ (List.mem_of_getElem? (i := 2) rfl)⟩, fun _ h => absurd h List.not_mem_nil⟩) (by decide) (by decide) (va_Nw.use rfl (hKL.2.2 _ (List.mem_of_getElem? (i := 0) rfl))) (va_Nw.use rfl (hKX.2.1 _ (List.mem_of_getElem? (i := 0) rfl))) h7 h8 h9 ?_
      refine lv_astore (lv' := [(7, .ref q9), (0, .ref (g.2.2.2 0)), (1, .int (nI s2)), (2, .int (nI ln)), (3, .int (nI x1)), (4, .int (nI x2)), (5, .int (nI x3)), (6, .ref ao)]) hx hb dL_addPeriod_23 hl (by decide) rfl (fun ls hl => ?_)
      refine lv_iconst (v := nI 2) hx hb dL_addPeriod_25 (by decide) ?_
      exact hq _ _ _ _ _ _ (nI 2) (_, ov, dv) (Nat.le_of_ble_eq_true rfl) (Nat.le_of_ble_eq_true rfl) dL_addPeriod_26 (Or.inr (Or.inr (Or.inl ⟨rfl, hc, rfl⟩))) hP hD hS
    · refine vx_catch (name := "java/lang/IllegalStateException") hown [⟨0, 16, 19, 25⟩, ⟨0, 16, 23, 13⟩] ⟨0, 16, 27, 15⟩ [] (by rw [htab]; rfl) (List.forall_mem_cons.mpr ⟨Or.inr ⟨by decide, "java/lang/IndexOutOfBoundsException", va_Nw.use rfl (hKL.2.2 _ (List.mem_of_getElem? (i := 2) rfl)), hKL.2.1 _ (List.mem_of_getElem? (i := 3) rfl)⟩, List.forall_mem_cons.mpr ⟨Or.inr ⟨by decide, "java/lang/IllegalArgumentException", va_Nw.use rfl (hKL.2.2 _ (List.mem_of_getElem? (i := 0) rfl)), hKL.2.1 _ (List.mem_of_getElem? (i := 0) rfl)⟩, fun _ h => absurd h List.not_mem_nil⟩⟩) (by decide) (by decide) (va_Nw.use rfl (hKL.2.2 _ (List.mem_of_getElem? (i := 1) rfl))) (va_Nw.use rfl (hKX.2.1 _ (List.mem_of_getElem? (i := 1) rfl))) h7 h8 h9 ?_
      refine lv_astore (lv' := [(7, .ref q9), (0, .ref (g.2.2.2 0)), (1, .int (nI s2)), (2, .int (nI ln)), (3, .int (nI x1)), (4, .int (nI x2)), (5, .int (nI x3)), (6, .ref ao)]) hx hb dL_addPeriod_27 hl (by decide) rfl (fun ls hl => ?_)
      refine lv_iconst (v := nI 3) hx hb dL_addPeriod_29 (by decide) ?_
      exact hq _ _ _ _ _ _ (nI 3) (_, ov, dv) (Nat.le_of_ble_eq_true rfl) (Nat.le_of_ble_eq_true rfl) dL_addPeriod_30 (Or.inr (Or.inr (Or.inr ⟨rfl, hc, rfl⟩))) hP hD hS
  · have e0 : True := trivial
    obtain ⟨rfl, h_⟩ := hw_
    have h_ : (s2 < 2 ∧ ln < (σ.2.1 2) (s2 * 21)) ∧ (x1 < 10 ∧ x2 < 10 ∧ x3 < 10) ∧ (100 * x1 + 10 * x2 + x3 ≠ 0) ∧ ((σ.2.1 2) (s2 * 21 + 1 + ln * 5 + 1) < 3) := h_
    have hP : va_P (g.1, g.2.1) vwCl (wC g (sA (sF (sF (sL σ (2 + σ.1 9) (snp σ (σ.2.2 (2 + σ.1 9)))) 9 ((σ.1 9 + 1) % 8)) 10 (min (σ.1 10 + 1) 8)) 2 (va_up (va_up (σ.2.1 2) (s2 * 21 + 1 + ln * 5 + 2 + (σ.2.1 2) (s2 * 21 + 1 + ln * 5 + 1)) (100 * x1 + 10 * x2 + x3)) (s2 * 21 + 1 + ln * 5 + 1) ((σ.2.1 2) (s2 * 21 + 1 + ln * 5 + 1) + 1))) ++ wT g ao ad ov dv tl) H := hP
    have hD : va_D A (wC g (sA (sF (sF (sL σ (2 + σ.1 9) (snp σ (σ.2.2 (2 + σ.1 9)))) 9 ((σ.1 9 + 1) % 8)) 10 (min (σ.1 10 + 1) 8)) 2 (va_up (va_up (σ.2.1 2) (s2 * 21 + 1 + ln * 5 + 2 + (σ.2.1 2) (s2 * 21 + 1 + ln * 5 + 1)) (100 * x1 + 10 * x2 + x3)) (s2 * 21 + 1 + ln * 5 + 1) ((σ.2.1 2) (s2 * 21 + 1 + ln * 5 + 1) + 1))) ++ wT g ao ad ov dv tl) := hD
    refine lv_i2l hx hb dL_addPeriod_14 rfl ?_
    refine va_last (x := (nI ((σ.2.1 2) (s2 * 21 + 1 + ln * 5 + 1) + 1)).toInt64) hx hb hK.1 hP hD hS 42 1 (gT42 g (sA (sF (sF (sL σ (2 + σ.1 9) (snp σ (σ.2.2 (2 + σ.1 9)))) 9 ((σ.1 9 + 1) % 8)) 10 (min (σ.1 10 + 1) 8)) 2 (va_up (va_up (σ.2.1 2) (s2 * 21 + 1 + ln * 5 + 2 + (σ.2.1 2) (s2 * 21 + 1 + ln * 5 + 1)) (100 * x1 + 10 * x2 + x3)) (s2 * 21 + 1 + ln * 5 + 1) ((σ.2.1 2) (s2 * 21 + 1 + ln * 5 + 1) + 1))) ao ad ov dv tl) rfl (vp_in_nI (by decide) (by decide)) dL_addPeriod_15 (fun H locs hP hD hS => ?_)
    have hP : va_P (g.1, g.2.1) vwCl (wH g ao ad tl ((sA (sF (sF (sL σ (2 + σ.1 9) (snp σ (σ.2.2 (2 + σ.1 9)))) 9 ((σ.1 9 + 1) % 8)) 10 (min (σ.1 10 + 1) 8)) 2 (va_up (va_up (σ.2.1 2) (s2 * 21 + 1 + ln * 5 + 2 + (σ.2.1 2) (s2 * 21 + 1 + ln * 5 + 1)) (100 * x1 + 10 * x2 + x3)) (s2 * 21 + 1 + ln * 5 + 1) ((σ.2.1 2) (s2 * 21 + 1 + ln * 5 + 1) + 1))), vp_updL ov 0 ((nI ((σ.2.1 2) (s2 * 21 + 1 + ln * 5 + 1) + 1)).toInt64), dv)) H := hP
    have hD : va_D A (wH g ao ad tl ((sA (sF (sF (sL σ (2 + σ.1 9) (snp σ (σ.2.2 (2 + σ.1 9)))) 9 ((σ.1 9 + 1) % 8)) 10 (min (σ.1 10 + 1) 8)) 2 (va_up (va_up (σ.2.1 2) (s2 * 21 + 1 + ln * 5 + 2 + (σ.2.1 2) (s2 * 21 + 1 + ln * 5 + 1)) (100 * x1 + 10 * x2 + x3)) (s2 * 21 + 1 + ln * 5 + 1) ((σ.2.1 2) (s2 * 21 + 1 + ln * 5 + 1) + 1))), vp_updL ov 0 ((nI ((σ.2.1 2) (s2 * 21 + 1 + ln * 5 + 1) + 1)).toInt64), dv)) := hD
    refine lv_goto (tgt := 31) hx hb dL_addPeriod_16 (by decide) ?_
    refine lv_iconst (v := nI 0) hx hb dL_addPeriod_31 (by decide) ?_
    exact hq _ _ _ _ _ _ (nI 0) _ (Nat.le_of_ble_eq_true rfl) (Nat.le_of_ble_eq_true rfl) dL_addPeriod_32 (Or.inl ⟨rfl, h_.1, h_.2.1, h_.2.2.1, h_.2.2.2, rfl⟩) hP hD hS

def RH_clearSet (σ : SS) (s2 : Nat) (ov : Nat → Int64) (dv : Nat → UInt64) (r : Int32) (z : HZ) : Prop :=
  (r = nI 0 ∧ (s2 < 2) ∧ z = ((sA (sF (sF (sL σ (2 + σ.1 9) (snp σ (σ.2.2 (2 + σ.1 9)))) 9 ((σ.1 9 + 1) % 8)) 10 (min (σ.1 10 + 1) 8)) 2 (va_up (σ.2.1 2) (s2 * 21) 0)), vp_updL ov 0 ((nI ((σ.2.1 2) (s2 * 21))).toInt64), dv)) ∨ (r = nI 1 ∧ (¬ s2 < 2) ∧ z = (σ, ov, dv))
abbrev r_h_clearSet : Room := { frames := 8, cells := 1, slots := 6, locals := 171 }
set_option maxHeartbeats 4000000 in
set_option maxRecDepth 100000 in
theorem h_clearSet (l : Launch) (hflg : l.stackTraces = false) (g : GC) (tl : va_W) (sz : Nat) (σ : SS) (ao ad : Nat) (ov : Nat → Int64) (dv : Nat → UInt64) (s2 : Nat) (y_hC : OkC (σ.2.1 2)) (y_hM : OkM σ) (y_hs2 : s2 < 4294967296) : Met l yL_clearSet wsL_clearSet r_h_clearSet (va_Pc [.ref (g.2.2.2 0), .int (nI s2), .ref ao] (PH g (wH g ao ad tl (σ, ov, dv)) sz)) (va_Qi (fun r z => RH_clearSet σ s2 ov dv r z) (fun z t => BW g (va_A (wH g ao ad tl (σ, ov, dv)) sz) (wH g ao ad tl z) t) (va_A (wH g ao ad tl (σ, ov, dv)) sz)) 1 6 (va_A (wH g ao ad tl (σ, ov, dv)) sz) := by
  refine jh_i (wf := wH g ao ad tl) (cc := cL_clearSet) (maxL := 4) (by decide) rfl rfl (Nat.le_of_ble_eq_true rfl) ?_
  intro p e s m below meth c Q A hx hb hml hown hts hKL hP hD hS hAA hZ htab hq ls hl
  have hKX := hKL.1
  have hK := hKX.1
  obtain ⟨H, eH⟩ : ∃ z, z = s.heap := ⟨_, rfl⟩
  obtain ⟨locs, el⟩ : ∃ z : List Loc, z = [] := ⟨_, rfl⟩
  rw [← eH] at hP
  have hS : va_S A s.heap H locs := by rw [eH, el]; exact hS
  have goal0 : W p l e r_h_clearSet s m ([.ref (g.2.2.2 0), .int (nI s2), .ref ao] : List Value).toArray below meth c H locs 0 0 Q (F0 m 0 ls []) → W p l e r_h_clearSet s m ([.ref (g.2.2.2 0), .int (nI s2), .ref ao] : List Value).toArray below meth c s.heap [] 0 0 Q (F0 m 0 ls []) := fun h => by rw [eH, el] at h; exact h
  refine goal0 ?_
  have hl : lv_has ls 4 [(0, .ref (g.2.2.2 0)), (1, .int (nI s2)), (2, .ref ao)] := hl
  have hP : va_P (g.1, g.2.1) vwCl (wC g σ ++ wT g ao ad ov dv tl) H := hP
  have hD : va_D A (wC g σ ++ wT g ao ad ov dv tl) := hD
  refine lv_aload_n hx hb dL_clearSet_0 rfl (lv_at hl 2 rfl) ?_
  refine lv_iconst (v := nI 0) hx hb dL_clearSet_1 (by decide) ?_
  refine lv_aload_n hx hb dL_clearSet_2 rfl (lv_at hl 0 rfl) ?_
  refine lv_iload_n hx hb dL_clearSet_3 rfl (lv_at hl 1 rfl) ?_
  refine jx_calli (vx_runV (As := [.int (nI s2)]) (rest := [.int (nI 0), .ref ao]) ⟨hx, hb, hml, hown, hts⟩ (c_X10_clearSet l hflg g (wT g ao ad ov dv tl) H.size σ s2 y_hC y_hM y_hs2) (cwV 1 hts gL_clearSet_X10_clearSet rfl rfl rfl (by decide +kernel) ⟨Nat.le_of_ble_eq_true rfl, Nat.le_of_ble_eq_true rfl⟩) (okXV hKX hP hD hZ hS hAA rfl (gC0 g σ (wT g ao ad ov dv tl))) rfl rfl hl.1 rfl (lv_room (Nat.le_of_ble_eq_true rfl)) dL_clearSet_4 ⟨Nat.le_of_ble_eq_true rfl, Nat.le_of_ble_eq_true rfl⟩) hD hS hAA (fun E ce q9 u H locs hxp hP hD hS h7 h8 h9 => ?_) (fun r u H locs hw_ hP hD hS => ?_)
  · have e0 : True := trivial
    have hxp : (E = "java/lang/IndexOutOfBoundsException" ∧ (¬ s2 < 2)) := hxp
    rcases hxp with ⟨rfl, hc⟩
    · refine vx_catch (name := "java/lang/IndexOutOfBoundsException") hown [] ⟨0, 9, 12, 25⟩ [] (by rw [htab]; rfl) (fun _ h => absurd h List.not_mem_nil) (by decide) (by decide) (va_Nw.use rfl (hKL.2.2 _ (List.mem_of_getElem? (i := 2) rfl))) (va_Nw.use rfl (hKX.2.1 _ (List.mem_of_getElem? (i := 2) rfl))) h7 h8 h9 ?_
      refine lv_astore_n (lv' := [(3, .ref q9), (0, .ref (g.2.2.2 0)), (1, .int (nI s2)), (2, .ref ao)]) hx hb dL_clearSet_12 rfl hl (by decide) rfl (fun ls hl => ?_)
      refine lv_iconst (v := nI 1) hx hb dL_clearSet_13 (by decide) ?_
      exact hq _ _ _ _ _ _ (nI 1) (_, ov, dv) (Nat.le_of_ble_eq_true rfl) (Nat.le_of_ble_eq_true rfl) dL_clearSet_14 (Or.inr ⟨rfl, hc, rfl⟩) hP hD hS
  · have e0 : True := trivial
    obtain ⟨rfl, h_⟩ := hw_
    have h_ : s2 < 2 := h_
    have hP : va_P (g.1, g.2.1) vwCl (wC g (sA (sF (sF (sL σ (2 + σ.1 9) (snp σ (σ.2.2 (2 + σ.1 9)))) 9 ((σ.1 9 + 1) % 8)) 10 (min (σ.1 10 + 1) 8)) 2 (va_up (σ.2.1 2) (s2 * 21) 0)) ++ wT g ao ad ov dv tl) H := hP
    have hD : va_D A (wC g (sA (sF (sF (sL σ (2 + σ.1 9) (snp σ (σ.2.2 (2 + σ.1 9)))) 9 ((σ.1 9 + 1) % 8)) 10 (min (σ.1 10 + 1) 8)) 2 (va_up (σ.2.1 2) (s2 * 21) 0)) ++ wT g ao ad ov dv tl) := hD
    refine lv_i2l hx hb dL_clearSet_7 rfl ?_
    refine va_last (x := (nI ((σ.2.1 2) (s2 * 21))).toInt64) hx hb hK.1 hP hD hS 42 1 (gT42 g (sA (sF (sF (sL σ (2 + σ.1 9) (snp σ (σ.2.2 (2 + σ.1 9)))) 9 ((σ.1 9 + 1) % 8)) 10 (min (σ.1 10 + 1) 8)) 2 (va_up (σ.2.1 2) (s2 * 21) 0)) ao ad ov dv tl) rfl (vp_in_nI (by decide) (by decide)) dL_clearSet_8 (fun H locs hP hD hS => ?_)
    have hP : va_P (g.1, g.2.1) vwCl (wH g ao ad tl ((sA (sF (sF (sL σ (2 + σ.1 9) (snp σ (σ.2.2 (2 + σ.1 9)))) 9 ((σ.1 9 + 1) % 8)) 10 (min (σ.1 10 + 1) 8)) 2 (va_up (σ.2.1 2) (s2 * 21) 0)), vp_updL ov 0 ((nI ((σ.2.1 2) (s2 * 21))).toInt64), dv)) H := hP
    have hD : va_D A (wH g ao ad tl ((sA (sF (sF (sL σ (2 + σ.1 9) (snp σ (σ.2.2 (2 + σ.1 9)))) 9 ((σ.1 9 + 1) % 8)) 10 (min (σ.1 10 + 1) 8)) 2 (va_up (σ.2.1 2) (s2 * 21) 0)), vp_updL ov 0 ((nI ((σ.2.1 2) (s2 * 21))).toInt64), dv)) := hD
    refine lv_goto (tgt := 15) hx hb dL_clearSet_9 (by decide) ?_
    refine lv_iconst (v := nI 0) hx hb dL_clearSet_15 (by decide) ?_
    exact hq _ _ _ _ _ _ (nI 0) _ (Nat.le_of_ble_eq_true rfl) (Nat.le_of_ble_eq_true rfl) dL_clearSet_16 (Or.inl ⟨rfl, h_, rfl⟩) hP hD hS

def RH_contains (σ : SS) (s2 : Nat) (x1 : Nat) (x2 : Nat) (x3 : Nat) (ov : Nat → Int64) (dv : Nat → UInt64) (r : Int32) (z : HZ) : Prop :=
  (∃ (b : Nat) (f16 : Nat → Nat), r = nI 0 ∧ (s2 < 2) ∧ (x1 < 10 ∧ x2 < 10 ∧ x3 < 10) ∧ ((b = 1 ∧ mbS (σ.2.1 2) s2 x1 x2 x3) ∨ (b = 0 ∧ ¬ mbS (σ.2.1 2) s2 x1 x2 x3)) ∧ z = ((sA σ 16 f16), vp_updL ov 0 (if b ≠ 0 then 1 else 0), dv)) ∨ (r = nI 1 ∧ (¬ s2 < 2) ∧ z = (σ, ov, dv)) ∨ (r = nI 2 ∧ (s2 < 2 ∧ ¬ (x1 < 10 ∧ x2 < 10 ∧ x3 < 10)) ∧ z = (σ, ov, dv))
abbrev r_h_contains : Room := { frames := 8, cells := 2, slots := 12, locals := 142 }
set_option maxHeartbeats 4000000 in
set_option maxRecDepth 100000 in
theorem h_contains (l : Launch) (hflg : l.stackTraces = false) (g : GC) (tl : va_W) (sz : Nat) (σ : SS) (ao ad : Nat) (ov : Nat → Int64) (dv : Nat → UInt64) (s2 : Nat) (x1 : Nat) (x2 : Nat) (x3 : Nat) (y_hC : OkC (σ.2.1 2)) (y_hs2 : s2 < 4294967296) (y_hx1 : x1 < 4294967296) (y_hx2 : x2 < 4294967296) (y_hx3 : x3 < 4294967296) : Met l yL_contains wsL_contains r_h_contains (va_Pc [.ref (g.2.2.2 0), .int (nI s2), .int (nI x1), .int (nI x2), .int (nI x3), .ref ao] (PH g (wH g ao ad tl (σ, ov, dv)) sz)) (va_Qi (fun r z => RH_contains σ s2 x1 x2 x3 ov dv r z) (fun z t => BW g (va_A (wH g ao ad tl (σ, ov, dv)) sz) (wH g ao ad tl z) t) (va_A (wH g ao ad tl (σ, ov, dv)) sz)) 2 12 (va_A (wH g ao ad tl (σ, ov, dv)) sz) := by
  refine jh_i (wf := wH g ao ad tl) (cc := cL_contains) (maxL := 7) (by decide) rfl rfl (Nat.le_of_ble_eq_true rfl) ?_
  intro p e s m below meth c Q A hx hb hml hown hts hKL hP hD hS hAA hZ htab hq ls hl
  have hKX := hKL.1
  have hK := hKX.1
  obtain ⟨H, eH⟩ : ∃ z, z = s.heap := ⟨_, rfl⟩
  obtain ⟨locs, el⟩ : ∃ z : List Loc, z = [] := ⟨_, rfl⟩
  rw [← eH] at hP
  have hS : va_S A s.heap H locs := by rw [eH, el]; exact hS
  have goal0 : W p l e r_h_contains s m ([.ref (g.2.2.2 0), .int (nI s2), .int (nI x1), .int (nI x2), .int (nI x3), .ref ao] : List Value).toArray below meth c H locs 0 0 Q (F0 m 0 ls []) → W p l e r_h_contains s m ([.ref (g.2.2.2 0), .int (nI s2), .int (nI x1), .int (nI x2), .int (nI x3), .ref ao] : List Value).toArray below meth c s.heap [] 0 0 Q (F0 m 0 ls []) := fun h => by rw [eH, el] at h; exact h
  refine goal0 ?_
  have hl : lv_has ls 7 [(0, .ref (g.2.2.2 0)), (1, .int (nI s2)), (2, .int (nI x1)), (3, .int (nI x2)), (4, .int (nI x3)), (5, .ref ao)] := hl
  have hP : va_P (g.1, g.2.1) vwCl (wC g σ ++ wT g ao ad ov dv tl) H := hP
  have hD : va_D A (wC g σ ++ wT g ao ad ov dv tl) := hD
  refine lv_aload hx hb dL_contains_0 (lv_at hl 5 rfl) ?_
  refine lv_iconst (v := nI 0) hx hb dL_contains_2 (by decide) ?_
  refine lv_aload_n hx hb dL_contains_3 rfl (lv_at hl 0 rfl) ?_
  refine lv_iload_n hx hb dL_contains_4 rfl (lv_at hl 1 rfl) ?_
  refine lv_iload_n hx hb dL_contains_5 rfl (lv_at hl 2 rfl) ?_
  refine lv_iload_n hx hb dL_contains_6 rfl (lv_at hl 3 rfl) ?_
  refine lv_iload hx hb dL_contains_7 (lv_at hl 4 rfl) ?_
  refine jx_calli (vx_runV (As := [.int (nI s2), .int (nI x1), .int (nI x2), .int (nI x3)]) (rest := [.int (nI 0), .ref ao]) ⟨hx, hb, hml, hown, hts⟩ (c_X10_contains l hflg g (wT g ao ad ov dv tl) H.size σ s2 x1 x2 x3 y_hC y_hs2 y_hx1 y_hx2 y_hx3) (cwV 4 hts gL_contains_X10_contains rfl rfl rfl (by decide +kernel) ⟨Nat.le_of_ble_eq_true rfl, Nat.le_of_ble_eq_true rfl⟩) (okXV hKX hP hD hZ hS hAA rfl (gC0 g σ (wT g ao ad ov dv tl))) rfl rfl hl.1 rfl (lv_room (Nat.le_of_ble_eq_true rfl)) dL_contains_9 ⟨Nat.le_of_ble_eq_true rfl, Nat.le_of_ble_eq_true rfl⟩) hD hS hAA (fun E ce q9 u H locs hxp hP hD hS h7 h8 h9 => ?_) (fun r u H locs hw_ hP hD hS => ?_)
  · have e0 : True := trivial
    have hxp : (E = "java/lang/IndexOutOfBoundsException" ∧ (¬ s2 < 2)) ∨ (E = "java/lang/IllegalArgumentException" ∧ (s2 < 2 ∧ ¬ (x1 < 10 ∧ x2 < 10 ∧ x3 < 10))) := hxp
    rcases hxp with ⟨rfl, hc⟩ | ⟨rfl, hc⟩
    · refine vx_catch (name := "java/lang/IndexOutOfBoundsException") hown [] ⟨0, 21, 24, 25⟩ [⟨0, 21, 28, 13⟩] (by rw [htab]; rfl) (fun _ h => absurd h List.not_mem_nil) (by decide) (by decide) (va_Nw.use rfl (hKL.2.2 _ (List.mem_of_getElem? (i := 2) rfl))) (va_Nw.use rfl (hKX.2.1 _ (List.mem_of_getElem? (i := 2) rfl))) h7 h8 h9 ?_
      refine lv_astore (lv' := [(6, .ref q9), (0, .ref (g.2.2.2 0)), (1, .int (nI s2)), (2, .int (nI x1)), (3, .int (nI x2)), (4, .int (nI x3)), (5, .ref ao)]) hx hb dL_contains_24 hl (by decide) rfl (fun ls hl => ?_)
      refine lv_iconst (v := nI 1) hx hb dL_contains_26 (by decide) ?_
      exact hq _ _ _ _ _ _ (nI 1) (_, ov, dv) (Nat.le_of_ble_eq_true rfl) (Nat.le_of_ble_eq_true rfl) dL_contains_27 (Or.inr (Or.inl ⟨rfl, hc, rfl⟩)) hP hD hS
    · refine vx_catch (name := "java/lang/IllegalArgumentException") hown [⟨0, 21, 24, 25⟩] ⟨0, 21, 28, 13⟩ [] (by rw [htab]; rfl) (List.forall_mem_cons.mpr ⟨Or.inr ⟨by decide, "java/lang/IndexOutOfBoundsException", va_Nw.use rfl (hKL.2.2 _ (List.mem_of_getElem? (i := 2) rfl)), hKL.2.1 _ (List.mem_of_getElem? (i := 2) rfl)⟩, fun _ h => absurd h List.not_mem_nil⟩) (by decide) (by decide) (va_Nw.use rfl (hKL.2.2 _ (List.mem_of_getElem? (i := 0) rfl))) (va_Nw.use rfl (hKX.2.1 _ (List.mem_of_getElem? (i := 0) rfl))) h7 h8 h9 ?_
      refine lv_astore (lv' := [(6, .ref q9), (0, .ref (g.2.2.2 0)), (1, .int (nI s2)), (2, .int (nI x1)), (3, .int (nI x2)), (4, .int (nI x3)), (5, .ref ao)]) hx hb dL_contains_28 hl (by decide) rfl (fun ls hl => ?_)
      refine lv_iconst (v := nI 2) hx hb dL_contains_30 (by decide) ?_
      exact hq _ _ _ _ _ _ (nI 2) (_, ov, dv) (Nat.le_of_ble_eq_true rfl) (Nat.le_of_ble_eq_true rfl) dL_contains_31 (Or.inr (Or.inr ⟨rfl, hc, rfl⟩)) hP hD hS
  · have e0 : True := trivial
    obtain ⟨b, f16⟩ := u
    obtain ⟨rfl, h_⟩ := hw_
    have h_ : (s2 < 2) ∧ (x1 < 10 ∧ x2 < 10 ∧ x3 < 10) ∧ ((b = 1 ∧ mbS (σ.2.1 2) s2 x1 x2 x3) ∨ (b = 0 ∧ ¬ mbS (σ.2.1 2) s2 x1 x2 x3)) := h_
    have hP : va_P (g.1, g.2.1) vwCl (wC g (sA σ 16 f16) ++ wT g ao ad ov dv tl) H := hP
    have hD : va_D A (wC g (sA σ 16 f16) ++ wT g ao ad ov dv tl) := hD
    refine jn_zeq hx hb (by rcases h_.2.2 with z | z <;> have := z.1 <;> omega) (tgt := 19) dL_contains_12 (by decide) (fun c_ => ?_) (fun c_ => ?_)
    · refine lv_lconst (v := 0) hx hb dL_contains_19 rfl ?_
      refine va_last (x := 0) hx hb hK.1 hP hD hS 42 1 (gT42 g (sA σ 16 f16) ao ad ov dv tl) rfl (vp_in_nI (by decide) (by decide)) dL_contains_20 (fun H locs hP hD hS => ?_)
      have hP : va_P (g.1, g.2.1) vwCl (wH g ao ad tl ((sA σ 16 f16), vp_updL ov 0 (0), dv)) H := hP
      have hD : va_D A (wH g ao ad tl ((sA σ 16 f16), vp_updL ov 0 (0), dv)) := hD
      refine lv_goto (tgt := 32) hx hb dL_contains_21 (by decide) ?_
      refine lv_iconst (v := nI 0) hx hb dL_contains_32 (by decide) ?_
      exact hq _ _ _ _ _ _ (nI 0) _ (Nat.le_of_ble_eq_true rfl) (Nat.le_of_ble_eq_true rfl) dL_contains_33 (Or.inl ⟨b, f16, rfl, h_.1, h_.2.1, h_.2.2, by rw [show (if b ≠ 0 then 1 else 0) = (0 : Int64) from if_neg (fun q => q c_)]⟩) hP hD hS
    · refine lv_lconst (v := 1) hx hb dL_contains_15 rfl ?_
      refine lv_goto (tgt := 20) hx hb dL_contains_16 (by decide) ?_
      refine va_last (x := 1) hx hb hK.1 hP hD hS 42 1 (gT42 g (sA σ 16 f16) ao ad ov dv tl) rfl (vp_in_nI (by decide) (by decide)) dL_contains_20 (fun H locs hP hD hS => ?_)
      have hP : va_P (g.1, g.2.1) vwCl (wH g ao ad tl ((sA σ 16 f16), vp_updL ov 0 (1), dv)) H := hP
      have hD : va_D A (wH g ao ad tl ((sA σ 16 f16), vp_updL ov 0 (1), dv)) := hD
      refine lv_goto (tgt := 32) hx hb dL_contains_21 (by decide) ?_
      refine lv_iconst (v := nI 0) hx hb dL_contains_32 (by decide) ?_
      exact hq _ _ _ _ _ _ (nI 0) _ (Nat.le_of_ble_eq_true rfl) (Nat.le_of_ble_eq_true rfl) dL_contains_33 (Or.inl ⟨b, f16, rfl, h_.1, h_.2.1, h_.2.2, by rw [show (if b ≠ 0 then 1 else 0) = (1 : Int64) from if_pos c_]⟩) hP hD hS

def RH_elements (σ : SS) (s2 : Nat) (bd : Nat) (ov : Nat → Int64) (dv : Nat → UInt64) (r : Int32) (z : HZ) : Prop :=
  (∃ (f16 : Nat → Nat), r = nI 0 ∧ (s2 < 2) ∧ (bd < 7) ∧ (Mbr (σ.2.1 2) f16 s2 bd bd bd ((σ.2.1 2) (s2 * 21))) ∧ z = ((sA σ 16 f16), vp_updL ov 0 ((nI (cnt3 (fun a b c => decide (f16 (100 * a + 10 * b + c) &&& 15 ≠ 0)) (bd + 1))).toInt64), dv)) ∨ (r = nI 1 ∧ (¬ s2 < 2) ∧ z = (σ, ov, dv)) ∨ (r = nI 2 ∧ (s2 < 2 ∧ ¬ bd < 7) ∧ z = (σ, ov, dv))
abbrev r_h_elements : Room := { frames := 8, cells := 2, slots := 12, locals := 140 }
set_option maxHeartbeats 4000000 in
set_option maxRecDepth 100000 in
theorem h_elements (l : Launch) (hflg : l.stackTraces = false) (g : GC) (tl : va_W) (sz : Nat) (σ : SS) (ao ad : Nat) (ov : Nat → Int64) (dv : Nat → UInt64) (s2 : Nat) (bd : Nat) (y_hC : OkC (σ.2.1 2)) (y_hs2 : s2 < 4294967296) (y_hbd : bd < 4294967296) : Met l yL_elements wsL_elements r_h_elements (va_Pc [.ref (g.2.2.2 0), .int (nI s2), .int (nI bd), .ref ao] (PH g (wH g ao ad tl (σ, ov, dv)) sz)) (va_Qi (fun r z => RH_elements σ s2 bd ov dv r z) (fun z t => BW g (va_A (wH g ao ad tl (σ, ov, dv)) sz) (wH g ao ad tl z) t) (va_A (wH g ao ad tl (σ, ov, dv)) sz)) 2 12 (va_A (wH g ao ad tl (σ, ov, dv)) sz) := by
  refine jh_i (wf := wH g ao ad tl) (cc := cL_elements) (maxL := 5) (by decide) rfl rfl (Nat.le_of_ble_eq_true rfl) ?_
  intro p e s m below meth c Q A hx hb hml hown hts hKL hP hD hS hAA hZ htab hq ls hl
  have hKX := hKL.1
  have hK := hKX.1
  obtain ⟨H, eH⟩ : ∃ z, z = s.heap := ⟨_, rfl⟩
  obtain ⟨locs, el⟩ : ∃ z : List Loc, z = [] := ⟨_, rfl⟩
  rw [← eH] at hP
  have hS : va_S A s.heap H locs := by rw [eH, el]; exact hS
  have goal0 : W p l e r_h_elements s m ([.ref (g.2.2.2 0), .int (nI s2), .int (nI bd), .ref ao] : List Value).toArray below meth c H locs 0 0 Q (F0 m 0 ls []) → W p l e r_h_elements s m ([.ref (g.2.2.2 0), .int (nI s2), .int (nI bd), .ref ao] : List Value).toArray below meth c s.heap [] 0 0 Q (F0 m 0 ls []) := fun h => by rw [eH, el] at h; exact h
  refine goal0 ?_
  have hl : lv_has ls 5 [(0, .ref (g.2.2.2 0)), (1, .int (nI s2)), (2, .int (nI bd)), (3, .ref ao)] := hl
  have hP : va_P (g.1, g.2.1) vwCl (wC g σ ++ wT g ao ad ov dv tl) H := hP
  have hD : va_D A (wC g σ ++ wT g ao ad ov dv tl) := hD
  refine lv_aload_n hx hb dL_elements_0 rfl (lv_at hl 3 rfl) ?_
  refine lv_iconst (v := nI 0) hx hb dL_elements_1 (by decide) ?_
  refine lv_aload_n hx hb dL_elements_2 rfl (lv_at hl 0 rfl) ?_
  refine lv_iload_n hx hb dL_elements_3 rfl (lv_at hl 1 rfl) ?_
  refine lv_iload_n hx hb dL_elements_4 rfl (lv_at hl 2 rfl) ?_
  refine jx_calli (vx_runV (As := [.int (nI s2), .int (nI bd)]) (rest := [.int (nI 0), .ref ao]) ⟨hx, hb, hml, hown, hts⟩ (c_X10_elements l hflg g (wT g ao ad ov dv tl) H.size σ s2 bd y_hC y_hs2 y_hbd) (cwV 2 hts gL_elements_X10_elements rfl rfl rfl (by decide +kernel) ⟨Nat.le_of_ble_eq_true rfl, Nat.le_of_ble_eq_true rfl⟩) (okXV hKX hP hD hZ hS hAA rfl (gC0 g σ (wT g ao ad ov dv tl))) rfl rfl hl.1 rfl (lv_room (Nat.le_of_ble_eq_true rfl)) dL_elements_5 ⟨Nat.le_of_ble_eq_true rfl, Nat.le_of_ble_eq_true rfl⟩) hD hS hAA (fun E ce q9 u H locs hxp hP hD hS h7 h8 h9 => ?_) (fun r u H locs hw_ hP hD hS => ?_)
  · have e0 : True := trivial
    have hxp : (E = "java/lang/IndexOutOfBoundsException" ∧ (¬ s2 < 2)) ∨ (E = "java/lang/IllegalArgumentException" ∧ (s2 < 2 ∧ ¬ bd < 7)) := hxp
    rcases hxp with ⟨rfl, hc⟩ | ⟨rfl, hc⟩
    · refine vx_catch (name := "java/lang/IndexOutOfBoundsException") hown [] ⟨0, 10, 13, 25⟩ [⟨0, 10, 17, 13⟩] (by rw [htab]; rfl) (fun _ h => absurd h List.not_mem_nil) (by decide) (by decide) (va_Nw.use rfl (hKL.2.2 _ (List.mem_of_getElem? (i := 2) rfl))) (va_Nw.use rfl (hKX.2.1 _ (List.mem_of_getElem? (i := 2) rfl))) h7 h8 h9 ?_
      refine lv_astore (lv' := [(4, .ref q9), (0, .ref (g.2.2.2 0)), (1, .int (nI s2)), (2, .int (nI bd)), (3, .ref ao)]) hx hb dL_elements_13 hl (by decide) rfl (fun ls hl => ?_)
      refine lv_iconst (v := nI 1) hx hb dL_elements_15 (by decide) ?_
      exact hq _ _ _ _ _ _ (nI 1) (_, ov, dv) (Nat.le_of_ble_eq_true rfl) (Nat.le_of_ble_eq_true rfl) dL_elements_16 (Or.inr (Or.inl ⟨rfl, hc, rfl⟩)) hP hD hS
    · refine vx_catch (name := "java/lang/IllegalArgumentException") hown [⟨0, 10, 13, 25⟩] ⟨0, 10, 17, 13⟩ [] (by rw [htab]; rfl) (List.forall_mem_cons.mpr ⟨Or.inr ⟨by decide, "java/lang/IndexOutOfBoundsException", va_Nw.use rfl (hKL.2.2 _ (List.mem_of_getElem? (i := 2) rfl)), hKL.2.1 _ (List.mem_of_getElem? (i := 2) rfl)⟩, fun _ h => absurd h List.not_mem_nil⟩) (by decide) (by decide) (va_Nw.use rfl (hKL.2.2 _ (List.mem_of_getElem? (i := 0) rfl))) (va_Nw.use rfl (hKX.2.1 _ (List.mem_of_getElem? (i := 0) rfl))) h7 h8 h9 ?_
      refine lv_astore (lv' := [(4, .ref q9), (0, .ref (g.2.2.2 0)), (1, .int (nI s2)), (2, .int (nI bd)), (3, .ref ao)]) hx hb dL_elements_17 hl (by decide) rfl (fun ls hl => ?_)
      refine lv_iconst (v := nI 2) hx hb dL_elements_19 (by decide) ?_
      exact hq _ _ _ _ _ _ (nI 2) (_, ov, dv) (Nat.le_of_ble_eq_true rfl) (Nat.le_of_ble_eq_true rfl) dL_elements_20 (Or.inr (Or.inr ⟨rfl, hc, rfl⟩)) hP hD hS
  · have e0 : True := trivial
    obtain ⟨f16, rfl⟩ : ∃ z, z = u := ⟨_, rfl⟩
    obtain ⟨rfl, h_⟩ := hw_
    have h_ : (s2 < 2) ∧ (bd < 7) ∧ (Mbr (σ.2.1 2) f16 s2 bd bd bd ((σ.2.1 2) (s2 * 21))) := h_
    have hP : va_P (g.1, g.2.1) vwCl (wC g (sA σ 16 f16) ++ wT g ao ad ov dv tl) H := hP
    have hD : va_D A (wC g (sA σ 16 f16) ++ wT g ao ad ov dv tl) := hD
    refine lv_i2l hx hb dL_elements_8 rfl ?_
    refine va_last (x := (nI (cnt3 (fun a b c => decide (f16 (100 * a + 10 * b + c) &&& 15 ≠ 0)) (bd + 1))).toInt64) hx hb hK.1 hP hD hS 42 1 (gT42 g (sA σ 16 f16) ao ad ov dv tl) rfl (vp_in_nI (by decide) (by decide)) dL_elements_9 (fun H locs hP hD hS => ?_)
    have hP : va_P (g.1, g.2.1) vwCl (wH g ao ad tl ((sA σ 16 f16), vp_updL ov 0 ((nI (cnt3 (fun a b c => decide (f16 (100 * a + 10 * b + c) &&& 15 ≠ 0)) (bd + 1))).toInt64), dv)) H := hP
    have hD : va_D A (wH g ao ad tl ((sA σ 16 f16), vp_updL ov 0 ((nI (cnt3 (fun a b c => decide (f16 (100 * a + 10 * b + c) &&& 15 ≠ 0)) (bd + 1))).toInt64), dv)) := hD
    refine lv_goto (tgt := 21) hx hb dL_elements_10 (by decide) ?_
    refine lv_iconst (v := nI 0) hx hb dL_elements_21 (by decide) ?_
    exact hq _ _ _ _ _ _ (nI 0) _ (Nat.le_of_ble_eq_true rfl) (Nat.le_of_ble_eq_true rfl) dL_elements_22 (Or.inl ⟨f16, rfl, h_.1, h_.2.1, h_.2.2, rfl⟩) hP hD hS
