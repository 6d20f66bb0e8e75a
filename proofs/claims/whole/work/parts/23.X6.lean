abbrev r_c_X6_walk_d5 : Room := { frames := 0, cells := 0, slots := 0, locals := 0 }
set_option maxHeartbeats 4000000 in
set_option maxRecDepth 100000 in
theorem c_X6_walk_d5 (l : Launch) (g : GC) (tl : va_W) (sz : Nat) (σ : SS) (q fr cd : Nat) (hA : OkA σ) (hL : LOk (σ.2.1 18) (σ.1 7)) (hs : (σ.1 8) < 5) (hq : q < 5) (hf2 : fr < 4294967296) (hc : cd < 1000) (hd : dsum cd = 5) : Met l yX6_walk wsX6_walk r_c_X6_walk_d5 (va_Pc [.ref (g.2.2.2 29), .ref (g.2.2.2 1), .ref (g.2.2.2 27), .int (nI q), .int (nI fr), .int (nI cd), .int (nI 5)] (PW g (wC g σ ++ tl) sz)) (va_Qv (fun (z : (Nat → Nat) × Nat) => match z with | (f2, n2) => (LOk f2 n2) ∧ (∀ x, inL f2 n2 x ↔ inL (σ.2.1 18) (σ.1 7) x ∨ cyW (σ.2.1 0) (σ.1 8) 0 q fr cd x)) (fun (z : (Nat → Nat) × Nat) t => BW g (va_A (wC g σ ++ tl) sz) ((fun z : (Nat → Nat) × Nat => match z with | (f2, n2) => wC g (sA (sF σ 7 n2) 18 f2) ++ tl) z) t) (va_A (wC g σ ++ tl) sz)) 0 0 (va_A (wC g σ ++ tl) sz) := by
  refine jn_sv (wf := fun z : (Nat → Nat) × Nat => match z with | (f2, n2) => wC g (sA (sF σ 7 n2) 18 f2) ++ tl) (cc := cX6_walk) (maxL := 11) (own := RX6) (by decide) rfl rfl (Nat.le_of_ble_eq_true rfl) ?_
  intro p e s m below meth c Q A hx hb hml hown hts hK hP hD hS hAA hq ls hl
  obtain ⟨H, eH⟩ : ∃ z, z = s.heap := ⟨_, rfl⟩
  obtain ⟨locs, el⟩ : ∃ z : List Loc, z = [] := ⟨_, rfl⟩
  rw [← eH] at hP
  have hS : va_S A s.heap H locs := by rw [eH, el]; exact hS
  have goal0 : W p l e r_c_X6_walk_d5 s m ([.ref (g.2.2.2 29), .ref (g.2.2.2 1), .ref (g.2.2.2 27), .int (nI q), .int (nI fr), .int (nI cd), .int (nI 5)] : List Value).toArray below meth c H locs 0 0 Q (F0 m 0 ls []) → W p l e r_c_X6_walk_d5 s m ([.ref (g.2.2.2 29), .ref (g.2.2.2 1), .ref (g.2.2.2 27), .int (nI q), .int (nI fr), .int (nI cd), .int (nI 5)] : List Value).toArray below meth c s.heap [] 0 0 Q (F0 m 0 ls []) := fun h => by rw [eH, el] at h; exact h
  refine goal0 ?_
  have hl : lv_has ls 11 [(0, .ref (g.2.2.2 29)), (1, .ref (g.2.2.2 1)), (2, .ref (g.2.2.2 27)), (3, .int (nI q)), (4, .int (nI fr)), (5, .int (nI cd)), (6, .int (nI 5))] := hl
  refine lv_iload hx hb dX6_walk_0 (lv_at hl 6 rfl) ?_
  refine lv_iconst (v := nI 5) hx hb dX6_walk_2 (by decide) ?_
  refine jn_clt hx hb (by decide) (by decide) (tgt := 7) dX6_walk_3 (by decide) (fun c_3 => absurd c_3 (by decide)) (fun c_3 => ?_)
  exact hq _ _ _ _ ((σ.2.1 18), (σ.1 7)) dX6_walk_6 ⟨hL, fun x => ⟨Or.inl, fun z => z.elim id False.elim⟩⟩ hP hD hS

abbrev r_c_X6_walk_d4 : Room := { frames := 2, cells := 0, slots := 0, locals := 44 }
set_option maxHeartbeats 4000000 in
set_option maxRecDepth 100000 in
theorem c_X6_walk_d4 (l : Launch) (g : GC) (tl : va_W) (sz : Nat) (σ : SS) (q fr cd : Nat) (hA : OkA σ) (hL : LOk (σ.2.1 18) (σ.1 7)) (hs : (σ.1 8) < 5) (hq : q < 5) (hf2 : fr < 4294967296) (hc : cd < 1000) (hd : dsum cd = 4) : Met l yX6_walk wsX6_walk r_c_X6_walk_d4 (va_Pc [.ref (g.2.2.2 29), .ref (g.2.2.2 1), .ref (g.2.2.2 27), .int (nI q), .int (nI fr), .int (nI cd), .int (nI 4)] (PW g (wC g σ ++ tl) sz)) (va_Qv (fun (z : (Nat → Nat) × Nat) => match z with | (f2, n2) => (LOk f2 n2) ∧ (∀ x, inL f2 n2 x ↔ inL (σ.2.1 18) (σ.1 7) x ∨ cyW (σ.2.1 0) (σ.1 8) 1 q fr cd x)) (fun (z : (Nat → Nat) × Nat) t => BW g (va_A (wC g σ ++ tl) sz) ((fun z : (Nat → Nat) × Nat => match z with | (f2, n2) => wC g (sA (sF σ 7 n2) 18 f2) ++ tl) z) t) (va_A (wC g σ ++ tl) sz)) 0 0 (va_A (wC g σ ++ tl) sz) := by
  refine jn_sv (wf := fun z : (Nat → Nat) × Nat => match z with | (f2, n2) => wC g (sA (sF σ 7 n2) 18 f2) ++ tl) (cc := cX6_walk) (maxL := 11) (own := RX6) (by decide) rfl rfl (Nat.le_of_ble_eq_true rfl) ?_
  intro p e s m below meth c Q A hx hb hml hown hts hK hP hD hS hAA hq ls hl
  obtain ⟨H, eH⟩ : ∃ z, z = s.heap := ⟨_, rfl⟩
  obtain ⟨locs, el⟩ : ∃ z : List Loc, z = [] := ⟨_, rfl⟩
  rw [← eH] at hP
  have hS : va_S A s.heap H locs := by rw [eH, el]; exact hS
  have goal0 : W p l e r_c_X6_walk_d4 s m ([.ref (g.2.2.2 29), .ref (g.2.2.2 1), .ref (g.2.2.2 27), .int (nI q), .int (nI fr), .int (nI cd), .int (nI 4)] : List Value).toArray below meth c H locs 0 0 Q (F0 m 0 ls []) → W p l e r_c_X6_walk_d4 s m ([.ref (g.2.2.2 29), .ref (g.2.2.2 1), .ref (g.2.2.2 27), .int (nI q), .int (nI fr), .int (nI cd), .int (nI 4)] : List Value).toArray below meth c s.heap [] 0 0 Q (F0 m 0 ls []) := fun h => by rw [eH, el] at h; exact h
  refine goal0 ?_
  have hl : lv_has ls 11 [(0, .ref (g.2.2.2 29)), (1, .ref (g.2.2.2 1)), (2, .ref (g.2.2.2 27)), (3, .int (nI q)), (4, .int (nI fr)), (5, .int (nI cd)), (6, .int (nI 4))] := hl
  have iX6 : ∀ w ∈ wsX60, w ∈ wsX6_walk := by decide +kernel
  have k9 := hts (.fieldLink RX6 9 "JumpingAutomata$CycleFinder" "start" "I") (by decide +kernel)
  refine lv_iload hx hb dX6_walk_0 (lv_at hl 6 rfl) ?_
  refine lv_iconst (v := nI 5) hx hb dX6_walk_2 (by decide) ?_
  refine jn_clt hx hb (by decide) (by decide) (tgt := 7) dX6_walk_3 (by decide) (fun c_3 => ?_) (fun c_3 => absurd c_3 (by decide))
  refine lv_iconst (v := nI 0) hx hb dX6_walk_7 (by decide) ?_
  refine lv_istore (lv' := [(7, .int (nI 0)), (0, .ref (g.2.2.2 29)), (1, .ref (g.2.2.2 1)), (2, .ref (g.2.2.2 27)), (3, .int (nI q)), (4, .int (nI fr)), (5, .int (nI cd)), (6, .int (nI 4))]) hx hb dX6_walk_8 hl (by decide) rfl (fun ls hl => ?_)
  have lp10 : ∀ (fu : Nat), ∀ (lt : Nat) (n3 : Nat) (f3 : Nat → Nat), (lt ≤ 3) → (LOk f3 n3) → (∀ x, inL f3 n3 x ↔ inL (σ.2.1 18) (σ.1 7) x ∨ cyL (σ.2.1 0) (σ.1 8) 0 q fr cd lt x) → 3 - lt < fu → ∀ (H : Heap) (locs : List Loc), va_P (g.1, g.2.1) vwCl (wC g (sA (sF σ 7 n3) 18 f3) ++ tl) H → va_D A (wC g (sA (sF σ 7 n3) 18 f3) ++ tl) → va_S A s.heap H locs → ∀ ls : Array Slot, lv_has ls 11 [(0, .ref (g.2.2.2 29)), (1, .ref (g.2.2.2 1)), (2, .ref (g.2.2.2 27)), (3, .int (nI q)), (4, .int (nI fr)), (5, .int (nI cd)), (6, .int (nI 4)), (7, .int (nI lt))] → W p l e r_c_X6_walk_d4 s m ([.ref (g.2.2.2 29), .ref (g.2.2.2 1), .ref (g.2.2.2 27), .int (nI q), .int (nI fr), .int (nI cd), .int (nI 4)] : List Value).toArray below meth c H locs 0 0 Q (F0 m 10 ls []) := by
    intro fu
    induction fu with
    | zero => intro lt n3 f3 h1 h2 h3 hf; exact absurd hf (Nat.not_lt_zero _)
    | succ fu ih10 =>
      intro lt n3 f3 h1 h2 h3 hf H locs hP hD hS ls hl
      refine lv_iload hx hb dX6_walk_10 (lv_at hl 7 rfl) ?_
      refine lv_iconst (v := nI 3) hx hb dX6_walk_12 (by decide) ?_
      refine jn_cge hx hb (by omega) (by decide) (tgt := 115) dX6_walk_13 (by decide) (fun c_13 => ?_) (fun c_13 => ?_)
      · exact hq _ _ _ _ (f3, n3) dX6_walk_115 ⟨h2, fun x => by rw [h3 x, show lt = 3 by omega]; exact or_congr Iff.rfl cy_end⟩ hP hD hS
      · refine lv_aload_n hx hb dX6_walk_16 rfl (lv_at hl 1 rfl) ?_
        refine lv_iload_n hx hb dX6_walk_17 rfl (lv_at hl 3 rfl) ?_
        refine lv_iload hx hb dX6_walk_18 (lv_at hl 7 rfl) ?_
        refine vp_callSi (va_Run.run (va_runV (As := [.int (nI q), .int (nI lt)]) (rest := []) ⟨hx, hb, hml, hown, hts⟩ (c_X0_targetsOf l g tl (sA (sF σ 7 n3) 18 f3) q lt hA (by omega) (by omega)) (cwV 2 hts gX6_walk_X0_targetsOf rfl rfl rfl (by decide +kernel) ⟨Nat.le_of_ble_eq_true rfl, Nat.le_of_ble_eq_true rfl⟩) (okPV hK hP rfl (gC1 g (sA (sF σ 7 n3) 18 f3) tl)) rfl rfl hl.1 rfl (lv_room (Nat.le_of_ble_eq_true rfl)) dX6_walk_20 ⟨Nat.le_of_ble_eq_true rfl, Nat.le_of_ble_eq_true rfl⟩)) (fun r_20 h_20 => ?_)
        have h_20 : r_20 = (nI (σ.2.1 0 (q * 3 + lt))) := h_20
        subst h_20
        have t32 := hA.1 (q * 3 + lt) (by omega)
        have hcs := cs5_wt hc hd (by decide) (show lt < 3 by omega)
        refine lv_istore (lv' := [(8, .int (nI (σ.2.1 0 (q * 3 + lt)))), (0, .ref (g.2.2.2 29)), (1, .ref (g.2.2.2 1)), (2, .ref (g.2.2.2 27)), (3, .int (nI q)), (4, .int (nI fr)), (5, .int (nI cd)), (6, .int (nI 4)), (7, .int (nI lt))]) hx hb dX6_walk_23 hl (by decide) rfl (fun ls hl => ?_)
        refine lv_iload hx hb dX6_walk_25 (lv_at hl 6 rfl) ?_
        refine lv_iload hx hb dX6_walk_27 (lv_at hl 8 rfl) ?_
        refine vp_callSi (va_Run.run (va_runSN (As := [.int (nI lt)]) (rest := [.int (nI cd)]) ⟨hx, hb, hml, hown, hts⟩ (c_X10_weightOf l lt (by omega)) ⟨(va_cnB 1 hts gX6_walk_X10_weightOf_n34 rfl rfl rfl (hK.2 _ (List.mem_of_getElem? (i := 18) rfl)) (hts (.initialized RX10) (by decide +kernel)) (by decide +kernel) ⟨Nat.le_of_ble_eq_true rfl, Nat.le_of_ble_eq_true rfl⟩), hts (.static yX10_weightOf) (by decide +kernel), trivial⟩ okTS rfl rfl hl.1 rfl (lv_room (Nat.le_of_ble_eq_true rfl)) dX6_walk_29 ⟨Nat.le_of_ble_eq_true rfl, Nat.le_of_ble_eq_true rfl⟩)) (fun r_29 h_29 => ?_)
        subst h_29
        refine jn_iadd hx hb dX6_walk_32 ?_
        refine lv_istore (lv' := [(9, .int (nI (cd + (wt lt)))), (8, .int (nI (σ.2.1 0 (q * 3 + lt)))), (0, .ref (g.2.2.2 29)), (1, .ref (g.2.2.2 1)), (2, .ref (g.2.2.2 27)), (3, .int (nI q)), (4, .int (nI fr)), (5, .int (nI cd)), (6, .int (nI 4)), (7, .int (nI lt))]) hx hb dX6_walk_33 hl (by decide) rfl (fun ls hl => ?_)
        refine lv_iload hx hb dX6_walk_35 (lv_at hl 1 rfl) ?_
        refine lv_aload_n hx hb dX6_walk_37 rfl (lv_at hl 2 rfl) ?_
        refine va_get (D := (g.1, g.2.1)) (ci := 8) (v := .int (nI (σ.1 8))) (C := RX6) (T := TX6) (N := 1) hx hb hts iX6 hown hK.1 hP 29 (gC29 g (sA (sF σ 7 n3) 18 f3) tl) rfl 0 (by decide) k9 (fun _ h9 => h9) rfl dX6_walk_38 ?_
        refine jn_ishr hx hb (by omega) (by omega) dX6_walk_41 ?_
        refine lv_iconst (v := nI 1) hx hb dX6_walk_42 (by decide) ?_
        refine jn_and1 hx hb dX6_walk_43 ?_
        refine jn_beq hx hb (tgt := 53) dX6_walk_44 (by decide) (fun c_44 => ?_) (fun c_44 => ?_)
        · refine lv_aload_n hx hb dX6_walk_53 rfl (lv_at hl 2 rfl) ?_
          refine va_get (D := (g.1, g.2.1)) (ci := 8) (v := .int (nI (σ.1 8))) (C := RX6) (T := TX6) (N := 1) hx hb hts iX6 hown hK.1 hP 29 (gC29 g (sA (sF σ 7 n3) 18 f3) tl) rfl 0 (by decide) k9 (fun _ h9 => h9) rfl dX6_walk_54 ?_
          refine lv_iconst (v := nI 1) hx hb dX6_walk_57 (by decide) ?_
          refine jn_iadd hx hb dX6_walk_58 ?_
          refine lv_istore (lv' := [(10, .int (nI ((σ.1 8) + 1))), (9, .int (nI (cd + (wt lt)))), (8, .int (nI (σ.2.1 0 (q * 3 + lt)))), (0, .ref (g.2.2.2 29)), (1, .ref (g.2.2.2 1)), (2, .ref (g.2.2.2 27)), (3, .int (nI q)), (4, .int (nI fr)), (5, .int (nI cd)), (6, .int (nI 4)), (7, .int (nI lt))]) hx hb dX6_walk_59 hl (by decide) rfl (fun ls hl => ?_)
          have lp61 : ∀ (fu : Nat), ∀ (tt : Nat) (n3 : Nat) (f3 : Nat → Nat), ((σ.1 8) + 1 ≤ tt ∧ tt ≤ 5) → (LOk f3 n3) → (∀ x, inL f3 n3 x ↔ inL (σ.2.1 18) (σ.1 7) x ∨ cyL (σ.2.1 0) (σ.1 8) 0 q fr cd lt x ∨ cyT (σ.2.1 0) (σ.1 8) 0 q fr cd lt tt x) → 5 - tt < fu → ∀ (H : Heap) (locs : List Loc), va_P (g.1, g.2.1) vwCl (wC g (sA (sF σ 7 n3) 18 f3) ++ tl) H → va_D A (wC g (sA (sF σ 7 n3) 18 f3) ++ tl) → va_S A s.heap H locs → ∀ ls : Array Slot, lv_has ls 11 [(0, .ref (g.2.2.2 29)), (1, .ref (g.2.2.2 1)), (2, .ref (g.2.2.2 27)), (3, .int (nI q)), (4, .int (nI fr)), (5, .int (nI cd)), (6, .int (nI 4)), (7, .int (nI lt)), (8, .int (nI (σ.2.1 0 (q * 3 + lt)))), (9, .int (nI (cd + (wt lt)))), (10, .int (nI tt))] → W p l e r_c_X6_walk_d4 s m ([.ref (g.2.2.2 29), .ref (g.2.2.2 1), .ref (g.2.2.2 27), .int (nI q), .int (nI fr), .int (nI cd), .int (nI 4)] : List Value).toArray below meth c H locs 0 0 Q (F0 m 61 ls []) := by
            intro fu
            induction fu with
            | zero => intro tt n3 f3 h4 h5 h6 hf; exact absurd hf (Nat.not_lt_zero _)
            | succ fu ih61 =>
              intro tt n3 f3 h4 h5 h6 hf H locs hP hD hS ls hl
              refine lv_iload hx hb dX6_walk_61 (lv_at hl 10 rfl) ?_
              refine lv_iconst (v := nI 5) hx hb dX6_walk_63 (by decide) ?_
              refine jn_cge hx hb (by omega) (by decide) (tgt := 109) dX6_walk_64 (by decide) (fun c_64 => ?_) (fun c_64 => ?_)
              · refine lv_iinc (v := nI (lt + 1)) (lv' := [(7, .int (nI (lt + 1))), (0, .ref (g.2.2.2 29)), (1, .ref (g.2.2.2 1)), (2, .ref (g.2.2.2 27)), (3, .int (nI q)), (4, .int (nI fr)), (5, .int (nI cd)), (6, .int (nI 4)), (8, .int (nI (σ.2.1 0 (q * 3 + lt)))), (9, .int (nI (cd + (wt lt)))), (10, .int (nI tt))]) hx hb dX6_walk_109 hl (k := 7) rfl (jn_ii _ 1) (by decide) rfl (fun ls hl => ?_)
                refine lv_goto (tgt := 10) hx hb dX6_walk_112 (by decide) ?_
                exact ih10 (lt + 1) n3 f3 (by omega) h5 (fun x => by rw [h6 x, cy_l, show tt = 5 by omega]) (by omega) _ _ hP hD hS _ (lv_sub hl [1, 2, 3, 4, 5, 6, 7, 0] rfl)
              · refine lv_iload hx hb dX6_walk_67 (lv_at hl 8 rfl) ?_
                refine lv_iload hx hb dX6_walk_69 (lv_at hl 4 rfl) ?_
                refine jn_iand hx hb dX6_walk_71 ?_
                refine lv_iconst (v := nI 1) hx hb dX6_walk_72 (by decide) ?_
                refine lv_iload hx hb dX6_walk_73 (lv_at hl 10 rfl) ?_
                refine jn_shl1 hx hb (by omega) dX6_walk_75 ?_
                refine jn_iand hx hb dX6_walk_76 ?_
                refine jn_zeq hx hb (and_ltl (and_ltl (by omega))) (tgt := 103) dX6_walk_77 (by decide) (fun c_77 => ?_) (fun c_77 => ?_)
                · have hc77 := bit3.mp c_77
                  refine lv_iinc (v := nI (tt + 1)) (lv' := [(10, .int (nI (tt + 1))), (0, .ref (g.2.2.2 29)), (1, .ref (g.2.2.2 1)), (2, .ref (g.2.2.2 27)), (3, .int (nI q)), (4, .int (nI fr)), (5, .int (nI cd)), (6, .int (nI 4)), (7, .int (nI lt)), (8, .int (nI (σ.2.1 0 (q * 3 + lt)))), (9, .int (nI (cd + (wt lt))))]) hx hb dX6_walk_103 hl (k := 10) rfl (jn_ii _ 1) (by decide) rfl (fun ls hl => ?_)
                  refine lv_goto (tgt := 61) hx hb dX6_walk_106 (by decide) ?_
                  exact ih61 (tt + 1) n3 f3 (by omega) (by first | exact h_100.1 | exact h5) (fun x => by first | (rw [h_100.2 x, h6 x, cy_t1 (by omega) hc77, or_assoc, or_assoc]) | (rw [h6 x, cy_t0 (by omega) hc77])) (by omega) _ _ hP hD hS _ (lv_sub hl [1, 2, 3, 4, 5, 6, 7, 8, 9, 10, 0] rfl)
                · have hc77 := Classical.not_not.mp (fun z => c_77 (bit3.mpr z))
                  refine lv_aload_n hx hb dX6_walk_80 rfl (lv_at hl 0 rfl) ?_
                  refine lv_aload_n hx hb dX6_walk_81 rfl (lv_at hl 1 rfl) ?_
                  refine lv_aload_n hx hb dX6_walk_82 rfl (lv_at hl 2 rfl) ?_
                  refine lv_iload hx hb dX6_walk_83 (lv_at hl 10 rfl) ?_
                  refine lv_iload hx hb dX6_walk_85 (lv_at hl 4 rfl) ?_
                  refine lv_iconst (v := nI 1) hx hb dX6_walk_87 (by decide) ?_
                  refine lv_iload hx hb dX6_walk_88 (lv_at hl 10 rfl) ?_
                  refine jn_shl1 hx hb (by omega) dX6_walk_90 ?_
                  refine lv_iconst (v := nI 4294967295) hx hb dX6_walk_91 (by decide) ?_
                  refine jn_ixor hx hb dX6_walk_92 ?_
                  refine jn_iand hx hb dX6_walk_93 ?_
                  refine lv_iload hx hb dX6_walk_94 (lv_at hl 9 rfl) ?_
                  refine lv_iload hx hb dX6_walk_96 (lv_at hl 6 rfl) ?_
                  refine lv_iconst (v := nI 1) hx hb dX6_walk_98 (by decide) ?_
                  refine jn_iadd hx hb dX6_walk_99 ?_
                  refine jn_callv (va_runV (As := [.ref (g.2.2.2 1), .ref (g.2.2.2 27), .int (nI tt), .int (nI (fr &&& ((2 ^ tt) ^^^ 4294967295))), .int (nI (cd + (wt lt))), .int (nI (4 + 1))]) (rest := []) ⟨hx, hb, hml, hown, hts⟩ (c_X6_walk_d5 l g tl H.size (sA (sF σ 7 n3) 18 f3) tt (fr &&& ((2 ^ tt) ^^^ 4294967295)) (cd + (wt lt)) hA h5 hs (by omega) (and_ltl hf2) hcs.1.1 hcs.2) (cwV 6 hts gX6_walk_X6_walk rfl rfl rfl (by decide +kernel) ⟨Nat.le_of_ble_eq_true rfl, Nat.le_of_ble_eq_true rfl⟩) (okWV hK hP hD rfl (gC29 g (sA (sF σ 7 n3) 18 f3) tl)) rfl rfl hl.1 rfl (lv_room (Nat.le_of_ble_eq_true rfl)) dX6_walk_100 ⟨Nat.le_of_ble_eq_true rfl, Nat.le_of_ble_eq_true rfl⟩) hD hS hAA (fun u H locs hw_ hP hD hS => ?_)
                  obtain ⟨f2_100, n2_100⟩ := u
                  have h_100 := hw_
                  have h_100 : (LOk f2_100 n2_100) ∧ (∀ x, inL f2_100 n2_100 x ↔ inL (f3) (n3) x ∨ cyW (σ.2.1 0) (σ.1 8) 0 tt (fr &&& ((2 ^ tt) ^^^ 4294967295)) (cd + (wt lt)) x) := h_100
                  have hP : va_P (g.1, g.2.1) vwCl (wC g (sA (sF (sA (sF σ 7 n3) 18 f3) 7 n2_100) 18 f2_100) ++ tl) H := hP
                  have hD : va_D A (wC g (sA (sF (sA (sF σ 7 n3) 18 f3) 7 n2_100) 18 f2_100) ++ tl) := hD
                  refine lv_iinc (v := nI (tt + 1)) (lv' := [(10, .int (nI (tt + 1))), (0, .ref (g.2.2.2 29)), (1, .ref (g.2.2.2 1)), (2, .ref (g.2.2.2 27)), (3, .int (nI q)), (4, .int (nI fr)), (5, .int (nI cd)), (6, .int (nI 4)), (7, .int (nI lt)), (8, .int (nI (σ.2.1 0 (q * 3 + lt)))), (9, .int (nI (cd + (wt lt))))]) hx hb dX6_walk_103 hl (k := 10) rfl (jn_ii _ 1) (by decide) rfl (fun ls hl => ?_)
                  refine lv_goto (tgt := 61) hx hb dX6_walk_106 (by decide) ?_
                  exact ih61 (tt + 1) n2_100 f2_100 (by omega) (by first | exact h_100.1 | exact h5) (fun x => by first | (rw [h_100.2 x, h6 x, cy_t1 (by omega) hc77, or_assoc, or_assoc]) | (rw [h6 x, cy_t0 (by omega) hc77])) (by omega) _ _ hP hD hS _ (lv_sub hl [1, 2, 3, 4, 5, 6, 7, 8, 9, 10, 0] rfl)
          exact lp61 _ ((σ.1 8) + 1) n3 f3 (by omega) (by first | exact h_50.1 | exact h2) (fun x => by first | (rw [h_50.2 x, h3 x, or_assoc]; exact or_congr Iff.rfl (cy_1 c_44)) | (rw [h3 x]; exact or_congr Iff.rfl (cy_0 c_44))) (Nat.lt_succ_self _) _ _ hP hD hS _ (lv_sub hl [3, 4, 5, 6, 7, 8, 9, 10, 2, 1, 0] rfl)
        · refine lv_aload_n hx hb dX6_walk_47 rfl (lv_at hl 4 rfl) ?_
          refine lv_iload hx hb dX6_walk_48 (lv_at hl 0 rfl) ?_
          refine jn_callv (va_runV (As := [.int (nI (cd + (wt lt)))]) (rest := []) ⟨hx, hb, hml, hown, hts⟩ (c_X4_insert_27 l g tl H.size (sA (sF σ 7 n3) 18 f3) (cd + (wt lt)) h2 hcs.1) (cwV 1 hts gX6_walk_X4_insert rfl rfl rfl (by decide +kernel) ⟨Nat.le_of_ble_eq_true rfl, Nat.le_of_ble_eq_true rfl⟩) (okWV hK hP hD rfl (gC27 g (sA (sF σ 7 n3) 18 f3) tl)) rfl rfl hl.1 rfl (lv_room (Nat.le_of_ble_eq_true rfl)) dX6_walk_50 ⟨Nat.le_of_ble_eq_true rfl, Nat.le_of_ble_eq_true rfl⟩) hD hS hAA (fun u H locs hw_ hP hD hS => ?_)
          obtain ⟨f2_50, n2_50⟩ := u
          have h_50 := hw_
          have h_50 : (LOk f2_50 n2_50) ∧ (∀ x, inL f2_50 n2_50 x ↔ inL (f3) (n3) x ∨ x = (cd + (wt lt))) := h_50
          have hP : va_P (g.1, g.2.1) vwCl (wC g (sA (sF (sA (sF σ 7 n3) 18 f3) 7 n2_50) 18 f2_50) ++ tl) H := hP
          have hD : va_D A (wC g (sA (sF (sA (sF σ 7 n3) 18 f3) 7 n2_50) 18 f2_50) ++ tl) := hD
          refine lv_aload_n hx hb dX6_walk_53 rfl (lv_at hl 2 rfl) ?_
          refine va_get (D := (g.1, g.2.1)) (ci := 8) (v := .int (nI (σ.1 8))) (C := RX6) (T := TX6) (N := 1) hx hb hts iX6 hown hK.1 hP 29 (gC29 g (sA (sF (sA (sF σ 7 n3) 18 f3) 7 n2_50) 18 f2_50) tl) rfl 0 (by decide) k9 (fun _ h9 => h9) rfl dX6_walk_54 ?_
          refine lv_iconst (v := nI 1) hx hb dX6_walk_57 (by decide) ?_
          refine jn_iadd hx hb dX6_walk_58 ?_
          refine lv_istore (lv' := [(10, .int (nI ((σ.1 8) + 1))), (9, .int (nI (cd + (wt lt)))), (8, .int (nI (σ.2.1 0 (q * 3 + lt)))), (0, .ref (g.2.2.2 29)), (1, .ref (g.2.2.2 1)), (2, .ref (g.2.2.2 27)), (3, .int (nI q)), (4, .int (nI fr)), (5, .int (nI cd)), (6, .int (nI 4)), (7, .int (nI lt))]) hx hb dX6_walk_59 hl (by decide) rfl (fun ls hl => ?_)
          have lp61 : ∀ (fu : Nat), ∀ (tt : Nat) (n3 : Nat) (f3 : Nat → Nat), ((σ.1 8) + 1 ≤ tt ∧ tt ≤ 5) → (LOk f3 n3) → (∀ x, inL f3 n3 x ↔ inL (σ.2.1 18) (σ.1 7) x ∨ cyL (σ.2.1 0) (σ.1 8) 0 q fr cd lt x ∨ cyT (σ.2.1 0) (σ.1 8) 0 q fr cd lt tt x) → 5 - tt < fu → ∀ (H : Heap) (locs : List Loc), va_P (g.1, g.2.1) vwCl (wC g (sA (sF σ 7 n3) 18 f3) ++ tl) H → va_D A (wC g (sA (sF σ 7 n3) 18 f3) ++ tl) → va_S A s.heap H locs → ∀ ls : Array Slot, lv_has ls 11 [(0, .ref (g.2.2.2 29)), (1, .ref (g.2.2.2 1)), (2, .ref (g.2.2.2 27)), (3, .int (nI q)), (4, .int (nI fr)), (5, .int (nI cd)), (6, .int (nI 4)), (7, .int (nI lt)), (8, .int (nI (σ.2.1 0 (q * 3 + lt)))), (9, .int (nI (cd + (wt lt)))), (10, .int (nI tt))] → W p l e r_c_X6_walk_d4 s m ([.ref (g.2.2.2 29), .ref (g.2.2.2 1), .ref (g.2.2.2 27), .int (nI q), .int (nI fr), .int (nI cd), .int (nI 4)] : List Value).toArray below meth c H locs 0 0 Q (F0 m 61 ls []) := by
            intro fu
            induction fu with
            | zero => intro tt n3 f3 h4 h5 h6 hf; exact absurd hf (Nat.not_lt_zero _)
            | succ fu ih61 =>
              intro tt n3 f3 h4 h5 h6 hf H locs hP hD hS ls hl
              refine lv_iload hx hb dX6_walk_61 (lv_at hl 10 rfl) ?_
              refine lv_iconst (v := nI 5) hx hb dX6_walk_63 (by decide) ?_
              refine jn_cge hx hb (by omega) (by decide) (tgt := 109) dX6_walk_64 (by decide) (fun c_64 => ?_) (fun c_64 => ?_)
              · refine lv_iinc (v := nI (lt + 1)) (lv' := [(7, .int (nI (lt + 1))), (0, .ref (g.2.2.2 29)), (1, .ref (g.2.2.2 1)), (2, .ref (g.2.2.2 27)), (3, .int (nI q)), (4, .int (nI fr)), (5, .int (nI cd)), (6, .int (nI 4)), (8, .int (nI (σ.2.1 0 (q * 3 + lt)))), (9, .int (nI (cd + (wt lt)))), (10, .int (nI tt))]) hx hb dX6_walk_109 hl (k := 7) rfl (jn_ii _ 1) (by decide) rfl (fun ls hl => ?_)
                refine lv_goto (tgt := 10) hx hb dX6_walk_112 (by decide) ?_
                exact ih10 (lt + 1) n3 f3 (by omega) h5 (fun x => by rw [h6 x, cy_l, show tt = 5 by omega]) (by omega) _ _ hP hD hS _ (lv_sub hl [1, 2, 3, 4, 5, 6, 7, 0] rfl)
              · refine lv_iload hx hb dX6_walk_67 (lv_at hl 8 rfl) ?_
                refine lv_iload hx hb dX6_walk_69 (lv_at hl 4 rfl) ?_
                refine jn_iand hx hb dX6_walk_71 ?_
                refine lv_iconst (v := nI 1) hx hb dX6_walk_72 (by decide) ?_
                refine lv_iload hx hb dX6_walk_73 (lv_at hl 10 rfl) ?_
                refine jn_shl1 hx hb (by omega) dX6_walk_75 ?_
                refine jn_iand hx hb dX6_walk_76 ?_
                refine jn_zeq hx hb (and_ltl (and_ltl (by omega))) (tgt := 103) dX6_walk_77 (by decide) (fun c_77 => ?_) (fun c_77 => ?_)
                · have hc77 := bit3.mp c_77
                  refine lv_iinc (v := nI (tt + 1)) (lv' := [(10, .int (nI (tt + 1))), (0, .ref (g.2.2.2 29)), (1, .ref (g.2.2.2 1)), (2, .ref (g.2.2.2 27)), (3, .int (nI q)), (4, .int (nI fr)), (5, .int (nI cd)), (6, .int (nI 4)), (7, .int (nI lt)), (8, .int (nI (σ.2.1 0 (q * 3 + lt)))), (9, .int (nI (cd + (wt lt))))]) hx hb dX6_walk_103 hl (k := 10) rfl (jn_ii _ 1) (by decide) rfl (fun ls hl => ?_)
                  refine lv_goto (tgt := 61) hx hb dX6_walk_106 (by decide) ?_
                  exact ih61 (tt + 1) n3 f3 (by omega) (by first | exact h_100.1 | exact h5) (fun x => by first | (rw [h_100.2 x, h6 x, cy_t1 (by omega) hc77, or_assoc, or_assoc]) | (rw [h6 x, cy_t0 (by omega) hc77])) (by omega) _ _ hP hD hS _ (lv_sub hl [1, 2, 3, 4, 5, 6, 7, 8, 9, 10, 0] rfl)
                · have hc77 := Classical.not_not.mp (fun z => c_77 (bit3.mpr z))
                  refine lv_aload_n hx hb dX6_walk_80 rfl (lv_at hl 0 rfl) ?_
                  refine lv_aload_n hx hb dX6_walk_81 rfl (lv_at hl 1 rfl) ?_
                  refine lv_aload_n hx hb dX6_walk_82 rfl (lv_at hl 2 rfl) ?_
                  refine lv_iload hx hb dX6_walk_83 (lv_at hl 10 rfl) ?_
                  refine lv_iload hx hb dX6_walk_85 (lv_at hl 4 rfl) ?_
                  refine lv_iconst (v := nI 1) hx hb dX6_walk_87 (by decide) ?_
                  refine lv_iload hx hb dX6_walk_88 (lv_at hl 10 rfl) ?_
                  refine jn_shl1 hx hb (by omega) dX6_walk_90 ?_
                  refine lv_iconst (v := nI 4294967295) hx hb dX6_walk_91 (by decide) ?_
                  refine jn_ixor hx hb dX6_walk_92 ?_
                  refine jn_iand hx hb dX6_walk_93 ?_
                  refine lv_iload hx hb dX6_walk_94 (lv_at hl 9 rfl) ?_
                  refine lv_iload hx hb dX6_walk_96 (lv_at hl 6 rfl) ?_
                  refine lv_iconst (v := nI 1) hx hb dX6_walk_98 (by decide) ?_
                  refine jn_iadd hx hb dX6_walk_99 ?_
                  refine jn_callv (va_runV (As := [.ref (g.2.2.2 1), .ref (g.2.2.2 27), .int (nI tt), .int (nI (fr &&& ((2 ^ tt) ^^^ 4294967295))), .int (nI (cd + (wt lt))), .int (nI (4 + 1))]) (rest := []) ⟨hx, hb, hml, hown, hts⟩ (c_X6_walk_d5 l g tl H.size (sA (sF σ 7 n3) 18 f3) tt (fr &&& ((2 ^ tt) ^^^ 4294967295)) (cd + (wt lt)) hA h5 hs (by omega) (and_ltl hf2) hcs.1.1 hcs.2) (cwV 6 hts gX6_walk_X6_walk rfl rfl rfl (by decide +kernel) ⟨Nat.le_of_ble_eq_true rfl, Nat.le_of_ble_eq_true rfl⟩) (okWV hK hP hD rfl (gC29 g (sA (sF σ 7 n3) 18 f3) tl)) rfl rfl hl.1 rfl (lv_room (Nat.le_of_ble_eq_true rfl)) dX6_walk_100 ⟨Nat.le_of_ble_eq_true rfl, Nat.le_of_ble_eq_true rfl⟩) hD hS hAA (fun u H locs hw_ hP hD hS => ?_)
                  obtain ⟨f2_100, n2_100⟩ := u
                  have h_100 := hw_
                  have h_100 : (LOk f2_100 n2_100) ∧ (∀ x, inL f2_100 n2_100 x ↔ inL (f3) (n3) x ∨ cyW (σ.2.1 0) (σ.1 8) 0 tt (fr &&& ((2 ^ tt) ^^^ 4294967295)) (cd + (wt lt)) x) := h_100
                  have hP : va_P (g.1, g.2.1) vwCl (wC g (sA (sF (sA (sF σ 7 n3) 18 f3) 7 n2_100) 18 f2_100) ++ tl) H := hP
                  have hD : va_D A (wC g (sA (sF (sA (sF σ 7 n3) 18 f3) 7 n2_100) 18 f2_100) ++ tl) := hD
                  refine lv_iinc (v := nI (tt + 1)) (lv' := [(10, .int (nI (tt + 1))), (0, .ref (g.2.2.2 29)), (1, .ref (g.2.2.2 1)), (2, .ref (g.2.2.2 27)), (3, .int (nI q)), (4, .int (nI fr)), (5, .int (nI cd)), (6, .int (nI 4)), (7, .int (nI lt)), (8, .int (nI (σ.2.1 0 (q * 3 + lt)))), (9, .int (nI (cd + (wt lt))))]) hx hb dX6_walk_103 hl (k := 10) rfl (jn_ii _ 1) (by decide) rfl (fun ls hl => ?_)
                  refine lv_goto (tgt := 61) hx hb dX6_walk_106 (by decide) ?_
                  exact ih61 (tt + 1) n2_100 f2_100 (by omega) (by first | exact h_100.1 | exact h5) (fun x => by first | (rw [h_100.2 x, h6 x, cy_t1 (by omega) hc77, or_assoc, or_assoc]) | (rw [h6 x, cy_t0 (by omega) hc77])) (by omega) _ _ hP hD hS _ (lv_sub hl [1, 2, 3, 4, 5, 6, 7, 8, 9, 10, 0] rfl)
          exact lp61 _ ((σ.1 8) + 1) n2_50 f2_50 (by omega) (by first | exact h_50.1 | exact h2) (fun x => by first | (rw [h_50.2 x, h3 x, or_assoc]; exact or_congr Iff.rfl (cy_1 c_44)) | (rw [h3 x]; exact or_congr Iff.rfl (cy_0 c_44))) (Nat.lt_succ_self _) _ _ hP hD hS _ (lv_sub hl [3, 4, 5, 6, 7, 8, 9, 10, 2, 1, 0] rfl)
  exact lp10 _ 0 (σ.1 7) (σ.2.1 18) (by decide) hL (fun x => ⟨Or.inl, fun z => z.elim id (fun w => absurd w cy_no)⟩) (Nat.lt_succ_self _) _ _ hP hD hS _ (lv_sub hl [1, 2, 3, 4, 5, 6, 7, 0] rfl)

abbrev r_c_X6_walk_d3 : Room := { frames := 3, cells := 0, slots := 0, locals := 74 }
set_option maxHeartbeats 4000000 in
set_option maxRecDepth 100000 in
theorem c_X6_walk_d3 (l : Launch) (g : GC) (tl : va_W) (sz : Nat) (σ : SS) (q fr cd : Nat) (hA : OkA σ) (hL : LOk (σ.2.1 18) (σ.1 7)) (hs : (σ.1 8) < 5) (hq : q < 5) (hf2 : fr < 4294967296) (hc : cd < 1000) (hd : dsum cd = 3) : Met l yX6_walk wsX6_walk r_c_X6_walk_d3 (va_Pc [.ref (g.2.2.2 29), .ref (g.2.2.2 1), .ref (g.2.2.2 27), .int (nI q), .int (nI fr), .int (nI cd), .int (nI 3)] (PW g (wC g σ ++ tl) sz)) (va_Qv (fun (z : (Nat → Nat) × Nat) => match z with | (f2, n2) => (LOk f2 n2) ∧ (∀ x, inL f2 n2 x ↔ inL (σ.2.1 18) (σ.1 7) x ∨ cyW (σ.2.1 0) (σ.1 8) 2 q fr cd x)) (fun (z : (Nat → Nat) × Nat) t => BW g (va_A (wC g σ ++ tl) sz) ((fun z : (Nat → Nat) × Nat => match z with | (f2, n2) => wC g (sA (sF σ 7 n2) 18 f2) ++ tl) z) t) (va_A (wC g σ ++ tl) sz)) 0 0 (va_A (wC g σ ++ tl) sz) := by
  refine jn_sv (wf := fun z : (Nat → Nat) × Nat => match z with | (f2, n2) => wC g (sA (sF σ 7 n2) 18 f2) ++ tl) (cc := cX6_walk) (maxL := 11) (own := RX6) (by decide) rfl rfl (Nat.le_of_ble_eq_true rfl) ?_
  intro p e s m below meth c Q A hx hb hml hown hts hK hP hD hS hAA hq ls hl
  obtain ⟨H, eH⟩ : ∃ z, z = s.heap := ⟨_, rfl⟩
  obtain ⟨locs, el⟩ : ∃ z : List Loc, z = [] := ⟨_, rfl⟩
  rw [← eH] at hP
  have hS : va_S A s.heap H locs := by rw [eH, el]; exact hS
  have goal0 : W p l e r_c_X6_walk_d3 s m ([.ref (g.2.2.2 29), .ref (g.2.2.2 1), .ref (g.2.2.2 27), .int (nI q), .int (nI fr), .int (nI cd), .int (nI 3)] : List Value).toArray below meth c H locs 0 0 Q (F0 m 0 ls []) → W p l e r_c_X6_walk_d3 s m ([.ref (g.2.2.2 29), .ref (g.2.2.2 1), .ref (g.2.2.2 27), .int (nI q), .int (nI fr), .int (nI cd), .int (nI 3)] : List Value).toArray below meth c s.heap [] 0 0 Q (F0 m 0 ls []) := fun h => by rw [eH, el] at h; exact h
  refine goal0 ?_
  have hl : lv_has ls 11 [(0, .ref (g.2.2.2 29)), (1, .ref (g.2.2.2 1)), (2, .ref (g.2.2.2 27)), (3, .int (nI q)), (4, .int (nI fr)), (5, .int (nI cd)), (6, .int (nI 3))] := hl
  have iX6 : ∀ w ∈ wsX60, w ∈ wsX6_walk := by decide +kernel
  have k9 := hts (.fieldLink RX6 9 "JumpingAutomata$CycleFinder" "start" "I") (by decide +kernel)
  refine lv_iload hx hb dX6_walk_0 (lv_at hl 6 rfl) ?_
  refine lv_iconst (v := nI 5) hx hb dX6_walk_2 (by decide) ?_
  refine jn_clt hx hb (by decide) (by decide) (tgt := 7) dX6_walk_3 (by decide) (fun c_3 => ?_) (fun c_3 => absurd c_3 (by decide))
  refine lv_iconst (v := nI 0) hx hb dX6_walk_7 (by decide) ?_
  refine lv_istore (lv' := [(7, .int (nI 0)), (0, .ref (g.2.2.2 29)), (1, .ref (g.2.2.2 1)), (2, .ref (g.2.2.2 27)), (3, .int (nI q)), (4, .int (nI fr)), (5, .int (nI cd)), (6, .int (nI 3))]) hx hb dX6_walk_8 hl (by decide) rfl (fun ls hl => ?_)
  have lp10 : ∀ (fu : Nat), ∀ (lt : Nat) (n3 : Nat) (f3 : Nat → Nat), (lt ≤ 3) → (LOk f3 n3) → (∀ x, inL f3 n3 x ↔ inL (σ.2.1 18) (σ.1 7) x ∨ cyL (σ.2.1 0) (σ.1 8) 1 q fr cd lt x) → 3 - lt < fu → ∀ (H : Heap) (locs : List Loc), va_P (g.1, g.2.1) vwCl (wC g (sA (sF σ 7 n3) 18 f3) ++ tl) H → va_D A (wC g (sA (sF σ 7 n3) 18 f3) ++ tl) → va_S A s.heap H locs → ∀ ls : Array Slot, lv_has ls 11 [(0, .ref (g.2.2.2 29)), (1, .ref (g.2.2.2 1)), (2, .ref (g.2.2.2 27)), (3, .int (nI q)), (4, .int (nI fr)), (5, .int (nI cd)), (6, .int (nI 3)), (7, .int (nI lt))] → W p l e r_c_X6_walk_d3 s m ([.ref (g.2.2.2 29), .ref (g.2.2.2 1), .ref (g.2.2.2 27), .int (nI q), .int (nI fr), .int (nI cd), .int (nI 3)] : List Value).toArray below meth c H locs 0 0 Q (F0 m 10 ls []) := by
    intro fu
    induction fu with
    | zero => intro lt n3 f3 h1 h2 h3 hf; exact absurd hf (Nat.not_lt_zero _)
    | succ fu ih10 =>
      intro lt n3 f3 h1 h2 h3 hf H locs hP hD hS ls hl
      refine lv_iload hx hb dX6_walk_10 (lv_at hl 7 rfl) ?_
      refine lv_iconst (v := nI 3) hx hb dX6_walk_12 (by decide) ?_
      refine jn_cge hx hb (by omega) (by decide) (tgt := 115) dX6_walk_13 (by decide) (fun c_13 => ?_) (fun c_13 => ?_)
      · exact hq _ _ _ _ (f3, n3) dX6_walk_115 ⟨h2, fun x => by rw [h3 x, show lt = 3 by omega]; exact or_congr Iff.rfl cy_end⟩ hP hD hS
      · refine lv_aload_n hx hb dX6_walk_16 rfl (lv_at hl 1 rfl) ?_
        refine lv_iload_n hx hb dX6_walk_17 rfl (lv_at hl 3 rfl) ?_
        refine lv_iload hx hb dX6_walk_18 (lv_at hl 7 rfl) ?_
        refine vp_callSi (va_Run.run (va_runV (As := [.int (nI q), .int (nI lt)]) (rest := []) ⟨hx, hb, hml, hown, hts⟩ (c_X0_targetsOf l g tl (sA (sF σ 7 n3) 18 f3) q lt hA (by omega) (by omega)) (cwV 2 hts gX6_walk_X0_targetsOf rfl rfl rfl (by decide +kernel) ⟨Nat.le_of_ble_eq_true rfl, Nat.le_of_ble_eq_true rfl⟩) (okPV hK hP rfl (gC1 g (sA (sF σ 7 n3) 18 f3) tl)) rfl rfl hl.1 rfl (lv_room (Nat.le_of_ble_eq_true rfl)) dX6_walk_20 ⟨Nat.le_of_ble_eq_true rfl, Nat.le_of_ble_eq_true rfl⟩)) (fun r_20 h_20 => ?_)
        have h_20 : r_20 = (nI (σ.2.1 0 (q * 3 + lt))) := h_20
        subst h_20
        have t32 := hA.1 (q * 3 + lt) (by omega)
        have hcs := cs5_wt hc hd (by decide) (show lt < 3 by omega)
        refine lv_istore (lv' := [(8, .int (nI (σ.2.1 0 (q * 3 + lt)))), (0, .ref (g.2.2.2 29)), (1, .ref (g.2.2.2 1)), (2, .ref (g.2.2.2 27)), (3, .int (nI q)), (4, .int (nI fr)), (5, .int (nI cd)), (6, .int (nI 3)), (7, .int (nI lt))]) hx hb dX6_walk_23 hl (by decide) rfl (fun ls hl => ?_)
        refine lv_iload hx hb dX6_walk_25 (lv_at hl 6 rfl) ?_
        refine lv_iload hx hb dX6_walk_27 (lv_at hl 8 rfl) ?_
        refine vp_callSi (va_Run.run (va_runSN (As := [.int (nI lt)]) (rest := [.int (nI cd)]) ⟨hx, hb, hml, hown, hts⟩ (c_X10_weightOf l lt (by omega)) ⟨(va_cnB 1 hts gX6_walk_X10_weightOf_n34 rfl rfl rfl (hK.2 _ (List.mem_of_getElem? (i := 18) rfl)) (hts (.initialized RX10) (by decide +kernel)) (by decide +kernel) ⟨Nat.le_of_ble_eq_true rfl, Nat.le_of_ble_eq_true rfl⟩), hts (.static yX10_weightOf) (by decide +kernel), trivial⟩ okTS rfl rfl hl.1 rfl (lv_room (Nat.le_of_ble_eq_true rfl)) dX6_walk_29 ⟨Nat.le_of_ble_eq_true rfl, Nat.le_of_ble_eq_true rfl⟩)) (fun r_29 h_29 => ?_)
        subst h_29
        refine jn_iadd hx hb dX6_walk_32 ?_
        refine lv_istore (lv' := [(9, .int (nI (cd + (wt lt)))), (8, .int (nI (σ.2.1 0 (q * 3 + lt)))), (0, .ref (g.2.2.2 29)), (1, .ref (g.2.2.2 1)), (2, .ref (g.2.2.2 27)), (3, .int (nI q)), (4, .int (nI fr)), (5, .int (nI cd)), (6, .int (nI 3)), (7, .int (nI lt))]) hx hb dX6_walk_33 hl (by decide) rfl (fun ls hl => ?_)
        refine lv_iload hx hb dX6_walk_35 (lv_at hl 1 rfl) ?_
        refine lv_aload_n hx hb dX6_walk_37 rfl (lv_at hl 2 rfl) ?_
        refine va_get (D := (g.1, g.2.1)) (ci := 8) (v := .int (nI (σ.1 8))) (C := RX6) (T := TX6) (N := 1) hx hb hts iX6 hown hK.1 hP 29 (gC29 g (sA (sF σ 7 n3) 18 f3) tl) rfl 0 (by decide) k9 (fun _ h9 => h9) rfl dX6_walk_38 ?_
        refine jn_ishr hx hb (by omega) (by omega) dX6_walk_41 ?_
        refine lv_iconst (v := nI 1) hx hb dX6_walk_42 (by decide) ?_
        refine jn_and1 hx hb dX6_walk_43 ?_
        refine jn_beq hx hb (tgt := 53) dX6_walk_44 (by decide) (fun c_44 => ?_) (fun c_44 => ?_)
        · refine lv_aload_n hx hb dX6_walk_53 rfl (lv_at hl 2 rfl) ?_
          refine va_get (D := (g.1, g.2.1)) (ci := 8) (v := .int (nI (σ.1 8))) (C := RX6) (T := TX6) (N := 1) hx hb hts iX6 hown hK.1 hP 29 (gC29 g (sA (sF σ 7 n3) 18 f3) tl) rfl 0 (by decide) k9 (fun _ h9 => h9) rfl dX6_walk_54 ?_
          refine lv_iconst (v := nI 1) hx hb dX6_walk_57 (by decide) ?_
          refine jn_iadd hx hb dX6_walk_58 ?_
          refine lv_istore (lv' := [(10, .int (nI ((σ.1 8) + 1))), (9, .int (nI (cd + (wt lt)))), (8, .int (nI (σ.2.1 0 (q * 3 + lt)))), (0, .ref (g.2.2.2 29)), (1, .ref (g.2.2.2 1)), (2, .ref (g.2.2.2 27)), (3, .int (nI q)), (4, .int (nI fr)), (5, .int (nI cd)), (6, .int (nI 3)), (7, .int (nI lt))]) hx hb dX6_walk_59 hl (by decide) rfl (fun ls hl => ?_)
          have lp61 : ∀ (fu : Nat), ∀ (tt : Nat) (n3 : Nat) (f3 : Nat → Nat), ((σ.1 8) + 1 ≤ tt ∧ tt ≤ 5) → (LOk f3 n3) → (∀ x, inL f3 n3 x ↔ inL (σ.2.1 18) (σ.1 7) x ∨ cyL (σ.2.1 0) (σ.1 8) 1 q fr cd lt x ∨ cyT (σ.2.1 0) (σ.1 8) 1 q fr cd lt tt x) → 5 - tt < fu → ∀ (H : Heap) (locs : List Loc), va_P (g.1, g.2.1) vwCl (wC g (sA (sF σ 7 n3) 18 f3) ++ tl) H → va_D A (wC g (sA (sF σ 7 n3) 18 f3) ++ tl) → va_S A s.heap H locs → ∀ ls : Array Slot, lv_has ls 11 [(0, .ref (g.2.2.2 29)), (1, .ref (g.2.2.2 1)), (2, .ref (g.2.2.2 27)), (3, .int (nI q)), (4, .int (nI fr)), (5, .int (nI cd)), (6, .int (nI 3)), (7, .int (nI lt)), (8, .int (nI (σ.2.1 0 (q * 3 + lt)))), (9, .int (nI (cd + (wt lt)))), (10, .int (nI tt))] → W p l e r_c_X6_walk_d3 s m ([.ref (g.2.2.2 29), .ref (g.2.2.2 1), .ref (g.2.2.2 27), .int (nI q), .int (nI fr), .int (nI cd), .int (nI 3)] : List Value).toArray below meth c H locs 0 0 Q (F0 m 61 ls []) := by
            intro fu
            induction fu with
            | zero => intro tt n3 f3 h4 h5 h6 hf; exact absurd hf (Nat.not_lt_zero _)
            | succ fu ih61 =>
              intro tt n3 f3 h4 h5 h6 hf H locs hP hD hS ls hl
              refine lv_iload hx hb dX6_walk_61 (lv_at hl 10 rfl) ?_
              refine lv_iconst (v := nI 5) hx hb dX6_walk_63 (by decide) ?_
              refine jn_cge hx hb (by omega) (by decide) (tgt := 109) dX6_walk_64 (by decide) (fun c_64 => ?_) (fun c_64 => ?_)
              · refine lv_iinc (v := nI (lt + 1)) (lv' := [(7, .int (nI (lt + 1))), (0, .ref (g.2.2.2 29)), (1, .ref (g.2.2.2 1)), (2, .ref (g.2.2.2 27)), (3, .int (nI q)), (4, .int (nI fr)), (5, .int (nI cd)), (6, .int (nI 3)), (8, .int (nI (σ.2.1 0 (q * 3 + lt)))), (9, .int (nI (cd + (wt lt)))), (10, .int (nI tt))]) hx hb dX6_walk_109 hl (k := 7) rfl (jn_ii _ 1) (by decide) rfl (fun ls hl => ?_)
                refine lv_goto (tgt := 10) hx hb dX6_walk_112 (by decide) ?_
                exact ih10 (lt + 1) n3 f3 (by omega) h5 (fun x => by rw [h6 x, cy_l, show tt = 5 by omega]) (by omega) _ _ hP hD hS _ (lv_sub hl [1, 2, 3, 4, 5, 6, 7, 0] rfl)
              · refine lv_iload hx hb dX6_walk_67 (lv_at hl 8 rfl) ?_
                refine lv_iload hx hb dX6_walk_69 (lv_at hl 4 rfl) ?_
                refine jn_iand hx hb dX6_walk_71 ?_
                refine lv_iconst (v := nI 1) hx hb dX6_walk_72 (by decide) ?_
                refine lv_iload hx hb dX6_walk_73 (lv_at hl 10 rfl) ?_
                refine jn_shl1 hx hb (by omega) dX6_walk_75 ?_
                refine jn_iand hx hb dX6_walk_76 ?_
                refine jn_zeq hx hb (and_ltl (and_ltl (by omega))) (tgt := 103) dX6_walk_77 (by decide) (fun c_77 => ?_) (fun c_77 => ?_)
                · have hc77 := bit3.mp c_77
                  refine lv_iinc (v := nI (tt + 1)) (lv' := [(10, .int (nI (tt + 1))), (0, .ref (g.2.2.2 29)), (1, .ref (g.2.2.2 1)), (2, .ref (g.2.2.2 27)), (3, .int (nI q)), (4, .int (nI fr)), (5, .int (nI cd)), (6, .int (nI 3)), (7, .int (nI lt)), (8, .int (nI (σ.2.1 0 (q * 3 + lt)))), (9, .int (nI (cd + (wt lt))))]) hx hb dX6_walk_103 hl (k := 10) rfl (jn_ii _ 1) (by decide) rfl (fun ls hl => ?_)
                  refine lv_goto (tgt := 61) hx hb dX6_walk_106 (by decide) ?_
                  exact ih61 (tt + 1) n3 f3 (by omega) (by first | exact h_100.1 | exact h5) (fun x => by first | (rw [h_100.2 x, h6 x, cy_t1 (by omega) hc77, or_assoc, or_assoc]) | (rw [h6 x, cy_t0 (by omega) hc77])) (by omega) _ _ hP hD hS _ (lv_sub hl [1, 2, 3, 4, 5, 6, 7, 8, 9, 10, 0] rfl)
                · have hc77 := Classical.not_not.mp (fun z => c_77 (bit3.mpr z))
                  refine lv_aload_n hx hb dX6_walk_80 rfl (lv_at hl 0 rfl) ?_
                  refine lv_aload_n hx hb dX6_walk_81 rfl (lv_at hl 1 rfl) ?_
                  refine lv_aload_n hx hb dX6_walk_82 rfl (lv_at hl 2 rfl) ?_
                  refine lv_iload hx hb dX6_walk_83 (lv_at hl 10 rfl) ?_
                  refine lv_iload hx hb dX6_walk_85 (lv_at hl 4 rfl) ?_
                  refine lv_iconst (v := nI 1) hx hb dX6_walk_87 (by decide) ?_
                  refine lv_iload hx hb dX6_walk_88 (lv_at hl 10 rfl) ?_
                  refine jn_shl1 hx hb (by omega) dX6_walk_90 ?_
                  refine lv_iconst (v := nI 4294967295) hx hb dX6_walk_91 (by decide) ?_
                  refine jn_ixor hx hb dX6_walk_92 ?_
                  refine jn_iand hx hb dX6_walk_93 ?_
                  refine lv_iload hx hb dX6_walk_94 (lv_at hl 9 rfl) ?_
                  refine lv_iload hx hb dX6_walk_96 (lv_at hl 6 rfl) ?_
                  refine lv_iconst (v := nI 1) hx hb dX6_walk_98 (by decide) ?_
                  refine jn_iadd hx hb dX6_walk_99 ?_
                  refine jn_callv (va_runV (As := [.ref (g.2.2.2 1), .ref (g.2.2.2 27), .int (nI tt), .int (nI (fr &&& ((2 ^ tt) ^^^ 4294967295))), .int (nI (cd + (wt lt))), .int (nI (3 + 1))]) (rest := []) ⟨hx, hb, hml, hown, hts⟩ (c_X6_walk_d4 l g tl H.size (sA (sF σ 7 n3) 18 f3) tt (fr &&& ((2 ^ tt) ^^^ 4294967295)) (cd + (wt lt)) hA h5 hs (by omega) (and_ltl hf2) hcs.1.1 hcs.2) (cwV 6 hts gX6_walk_X6_walk rfl rfl rfl (by decide +kernel) ⟨Nat.le_of_ble_eq_true rfl, Nat.le_of_ble_eq_true rfl⟩) (okWV hK hP hD rfl (gC29 g (sA (sF σ 7 n3) 18 f3) tl)) rfl rfl hl.1 rfl (lv_room (Nat.le_of_ble_eq_true rfl)) dX6_walk_100 ⟨Nat.le_of_ble_eq_true rfl, Nat.le_of_ble_eq_true rfl⟩) hD hS hAA (fun u H locs hw_ hP hD hS => ?_)
                  obtain ⟨f2_100, n2_100⟩ := u
                  have h_100 := hw_
                  have h_100 : (LOk f2_100 n2_100) ∧ (∀ x, inL f2_100 n2_100 x ↔ inL (f3) (n3) x ∨ cyW (σ.2.1 0) (σ.1 8) 1 tt (fr &&& ((2 ^ tt) ^^^ 4294967295)) (cd + (wt lt)) x) := h_100
                  have hP : va_P (g.1, g.2.1) vwCl (wC g (sA (sF (sA (sF σ 7 n3) 18 f3) 7 n2_100) 18 f2_100) ++ tl) H := hP
                  have hD : va_D A (wC g (sA (sF (sA (sF σ 7 n3) 18 f3) 7 n2_100) 18 f2_100) ++ tl) := hD
                  refine lv_iinc (v := nI (tt + 1)) (lv' := [(10, .int (nI (tt + 1))), (0, .ref (g.2.2.2 29)), (1, .ref (g.2.2.2 1)), (2, .ref (g.2.2.2 27)), (3, .int (nI q)), (4, .int (nI fr)), (5, .int (nI cd)), (6, .int (nI 3)), (7, .int (nI lt)), (8, .int (nI (σ.2.1 0 (q * 3 + lt)))), (9, .int (nI (cd + (wt lt))))]) hx hb dX6_walk_103 hl (k := 10) rfl (jn_ii _ 1) (by decide) rfl (fun ls hl => ?_)
                  refine lv_goto (tgt := 61) hx hb dX6_walk_106 (by decide) ?_
                  exact ih61 (tt + 1) n2_100 f2_100 (by omega) (by first | exact h_100.1 | exact h5) (fun x => by first | (rw [h_100.2 x, h6 x, cy_t1 (by omega) hc77, or_assoc, or_assoc]) | (rw [h6 x, cy_t0 (by omega) hc77])) (by omega) _ _ hP hD hS _ (lv_sub hl [1, 2, 3, 4, 5, 6, 7, 8, 9, 10, 0] rfl)
          exact lp61 _ ((σ.1 8) + 1) n3 f3 (by omega) (by first | exact h_50.1 | exact h2) (fun x => by first | (rw [h_50.2 x, h3 x, or_assoc]; exact or_congr Iff.rfl (cy_1 c_44)) | (rw [h3 x]; exact or_congr Iff.rfl (cy_0 c_44))) (Nat.lt_succ_self _) _ _ hP hD hS _ (lv_sub hl [3, 4, 5, 6, 7, 8, 9, 10, 2, 1, 0] rfl)
        · refine lv_aload_n hx hb dX6_walk_47 rfl (lv_at hl 4 rfl) ?_
          refine lv_iload hx hb dX6_walk_48 (lv_at hl 0 rfl) ?_
          refine jn_callv (va_runV (As := [.int (nI (cd + (wt lt)))]) (rest := []) ⟨hx, hb, hml, hown, hts⟩ (c_X4_insert_27 l g tl H.size (sA (sF σ 7 n3) 18 f3) (cd + (wt lt)) h2 hcs.1) (cwV 1 hts gX6_walk_X4_insert rfl rfl rfl (by decide +kernel) ⟨Nat.le_of_ble_eq_true rfl, Nat.le_of_ble_eq_true rfl⟩) (okWV hK hP hD rfl (gC27 g (sA (sF σ 7 n3) 18 f3) tl)) rfl rfl hl.1 rfl (lv_room (Nat.le_of_ble_eq_true rfl)) dX6_walk_50 ⟨Nat.le_of_ble_eq_true rfl, Nat.le_of_ble_eq_true rfl⟩) hD hS hAA (fun u H locs hw_ hP hD hS => ?_)
          obtain ⟨f2_50, n2_50⟩ := u
          have h_50 := hw_
          have h_50 : (LOk f2_50 n2_50) ∧ (∀ x, inL f2_50 n2_50 x ↔ inL (f3) (n3) x ∨ x = (cd + (wt lt))) := h_50
          have hP : va_P (g.1, g.2.1) vwCl (wC g (sA (sF (sA (sF σ 7 n3) 18 f3) 7 n2_50) 18 f2_50) ++ tl) H := hP
          have hD : va_D A (wC g (sA (sF (sA (sF σ 7 n3) 18 f3) 7 n2_50) 18 f2_50) ++ tl) := hD
          refine lv_aload_n hx hb dX6_walk_53 rfl (lv_at hl 2 rfl) ?_
          refine va_get (D := (g.1, g.2.1)) (ci := 8) (v := .int (nI (σ.1 8))) (C := RX6) (T := TX6) (N := 1) hx hb hts iX6 hown hK.1 hP 29 (gC29 g (sA (sF (sA (sF σ 7 n3) 18 f3) 7 n2_50) 18 f2_50) tl) rfl 0 (by decide) k9 (fun _ h9 => h9) rfl dX6_walk_54 ?_
          refine lv_iconst (v := nI 1) hx hb dX6_walk_57 (by decide) ?_
          refine jn_iadd hx hb dX6_walk_58 ?_
          refine lv_istore (lv' := [(10, .int (nI ((σ.1 8) + 1))), (9, .int (nI (cd + (wt lt)))), (8, .int (nI (σ.2.1 0 (q * 3 + lt)))), (0, .ref (g.2.2.2 29)), (1, .ref (g.2.2.2 1)), (2, .ref (g.2.2.2 27)), (3, .int (nI q)), (4, .int (nI fr)), (5, .int (nI cd)), (6, .int (nI 3)), (7, .int (nI lt))]) hx hb dX6_walk_59 hl (by decide) rfl (fun ls hl => ?_)
          have lp61 : ∀ (fu : Nat), ∀ (tt : Nat) (n3 : Nat) (f3 : Nat → Nat), ((σ.1 8) + 1 ≤ tt ∧ tt ≤ 5) → (LOk f3 n3) → (∀ x, inL f3 n3 x ↔ inL (σ.2.1 18) (σ.1 7) x ∨ cyL (σ.2.1 0) (σ.1 8) 1 q fr cd lt x ∨ cyT (σ.2.1 0) (σ.1 8) 1 q fr cd lt tt x) → 5 - tt < fu → ∀ (H : Heap) (locs : List Loc), va_P (g.1, g.2.1) vwCl (wC g (sA (sF σ 7 n3) 18 f3) ++ tl) H → va_D A (wC g (sA (sF σ 7 n3) 18 f3) ++ tl) → va_S A s.heap H locs → ∀ ls : Array Slot, lv_has ls 11 [(0, .ref (g.2.2.2 29)), (1, .ref (g.2.2.2 1)), (2, .ref (g.2.2.2 27)), (3, .int (nI q)), (4, .int (nI fr)), (5, .int (nI cd)), (6, .int (nI 3)), (7, .int (nI lt)), (8, .int (nI (σ.2.1 0 (q * 3 + lt)))), (9, .int (nI (cd + (wt lt)))), (10, .int (nI tt))] → W p l e r_c_X6_walk_d3 s m ([.ref (g.2.2.2 29), .ref (g.2.2.2 1), .ref (g.2.2.2 27), .int (nI q), .int (nI fr), .int (nI cd), .int (nI 3)] : List Value).toArray below meth c H locs 0 0 Q (F0 m 61 ls []) := by
            intro fu
            induction fu with
            | zero => intro tt n3 f3 h4 h5 h6 hf; exact absurd hf (Nat.not_lt_zero _)
            | succ fu ih61 =>
              intro tt n3 f3 h4 h5 h6 hf H locs hP hD hS ls hl
              refine lv_iload hx hb dX6_walk_61 (lv_at hl 10 rfl) ?_
              refine lv_iconst (v := nI 5) hx hb dX6_walk_63 (by decide) ?_
              refine jn_cge hx hb (by omega) (by decide) (tgt := 109) dX6_walk_64 (by decide) (fun c_64 => ?_) (fun c_64 => ?_)
              · refine lv_iinc (v := nI (lt + 1)) (lv' := [(7, .int (nI (lt + 1))), (0, .ref (g.2.2.2 29)), (1, .ref (g.2.2.2 1)), (2, .ref (g.2.2.2 27)), (3, .int (nI q)), (4, .int (nI fr)), (5, .int (nI cd)), (6, .int (nI 3)), (8, .int (nI (σ.2.1 0 (q * 3 + lt)))), (9, .int (nI (cd + (wt lt)))), (10, .int (nI tt))]) hx hb dX6_walk_109 hl (k := 7) rfl (jn_ii _ 1) (by decide) rfl (fun ls hl => ?_)
                refine lv_goto (tgt := 10) hx hb dX6_walk_112 (by decide) ?_
                exact ih10 (lt + 1) n3 f3 (by omega) h5 (fun x => by rw [h6 x, cy_l, show tt = 5 by omega]) (by omega) _ _ hP hD hS _ (lv_sub hl [1, 2, 3, 4, 5, 6, 7, 0] rfl)
              · refine lv_iload hx hb dX6_walk_67 (lv_at hl 8 rfl) ?_
                refine lv_iload hx hb dX6_walk_69 (lv_at hl 4 rfl) ?_
                refine jn_iand hx hb dX6_walk_71 ?_
                refine lv_iconst (v := nI 1) hx hb dX6_walk_72 (by decide) ?_
                refine lv_iload hx hb dX6_walk_73 (lv_at hl 10 rfl) ?_
                refine jn_shl1 hx hb (by omega) dX6_walk_75 ?_
                refine jn_iand hx hb dX6_walk_76 ?_
                refine jn_zeq hx hb (and_ltl (and_ltl (by omega))) (tgt := 103) dX6_walk_77 (by decide) (fun c_77 => ?_) (fun c_77 => ?_)
                · have hc77 := bit3.mp c_77
                  refine lv_iinc (v := nI (tt + 1)) (lv' := [(10, .int (nI (tt + 1))), (0, .ref (g.2.2.2 29)), (1, .ref (g.2.2.2 1)), (2, .ref (g.2.2.2 27)), (3, .int (nI q)), (4, .int (nI fr)), (5, .int (nI cd)), (6, .int (nI 3)), (7, .int (nI lt)), (8, .int (nI (σ.2.1 0 (q * 3 + lt)))), (9, .int (nI (cd + (wt lt))))]) hx hb dX6_walk_103 hl (k := 10) rfl (jn_ii _ 1) (by decide) rfl (fun ls hl => ?_)
                  refine lv_goto (tgt := 61) hx hb dX6_walk_106 (by decide) ?_
                  exact ih61 (tt + 1) n3 f3 (by omega) (by first | exact h_100.1 | exact h5) (fun x => by first | (rw [h_100.2 x, h6 x, cy_t1 (by omega) hc77, or_assoc, or_assoc]) | (rw [h6 x, cy_t0 (by omega) hc77])) (by omega) _ _ hP hD hS _ (lv_sub hl [1, 2, 3, 4, 5, 6, 7, 8, 9, 10, 0] rfl)
                · have hc77 := Classical.not_not.mp (fun z => c_77 (bit3.mpr z))
                  refine lv_aload_n hx hb dX6_walk_80 rfl (lv_at hl 0 rfl) ?_
                  refine lv_aload_n hx hb dX6_walk_81 rfl (lv_at hl 1 rfl) ?_
                  refine lv_aload_n hx hb dX6_walk_82 rfl (lv_at hl 2 rfl) ?_
                  refine lv_iload hx hb dX6_walk_83 (lv_at hl 10 rfl) ?_
                  refine lv_iload hx hb dX6_walk_85 (lv_at hl 4 rfl) ?_
                  refine lv_iconst (v := nI 1) hx hb dX6_walk_87 (by decide) ?_
                  refine lv_iload hx hb dX6_walk_88 (lv_at hl 10 rfl) ?_
                  refine jn_shl1 hx hb (by omega) dX6_walk_90 ?_
                  refine lv_iconst (v := nI 4294967295) hx hb dX6_walk_91 (by decide) ?_
                  refine jn_ixor hx hb dX6_walk_92 ?_
                  refine jn_iand hx hb dX6_walk_93 ?_
                  refine lv_iload hx hb dX6_walk_94 (lv_at hl 9 rfl) ?_
                  refine lv_iload hx hb dX6_walk_96 (lv_at hl 6 rfl) ?_
                  refine lv_iconst (v := nI 1) hx hb dX6_walk_98 (by decide) ?_
                  refine jn_iadd hx hb dX6_walk_99 ?_
                  refine jn_callv (va_runV (As := [.ref (g.2.2.2 1), .ref (g.2.2.2 27), .int (nI tt), .int (nI (fr &&& ((2 ^ tt) ^^^ 4294967295))), .int (nI (cd + (wt lt))), .int (nI (3 + 1))]) (rest := []) ⟨hx, hb, hml, hown, hts⟩ (c_X6_walk_d4 l g tl H.size (sA (sF σ 7 n3) 18 f3) tt (fr &&& ((2 ^ tt) ^^^ 4294967295)) (cd + (wt lt)) hA h5 hs (by omega) (and_ltl hf2) hcs.1.1 hcs.2) (cwV 6 hts gX6_walk_X6_walk rfl rfl rfl (by decide +kernel) ⟨Nat.le_of_ble_eq_true rfl, Nat.le_of_ble_eq_true rfl⟩) (okWV hK hP hD rfl (gC29 g (sA (sF σ 7 n3) 18 f3) tl)) rfl rfl hl.1 rfl (lv_room (Nat.le_of_ble_eq_true rfl)) dX6_walk_100 ⟨Nat.le_of_ble_eq_true rfl, Nat.le_of_ble_eq_true rfl⟩) hD hS hAA (fun u H locs hw_ hP hD hS => ?_)
                  obtain ⟨f2_100, n2_100⟩ := u
                  have h_100 := hw_
                  have h_100 : (LOk f2_100 n2_100) ∧ (∀ x, inL f2_100 n2_100 x ↔ inL (f3) (n3) x ∨ cyW (σ.2.1 0) (σ.1 8) 1 tt (fr &&& ((2 ^ tt) ^^^ 4294967295)) (cd + (wt lt)) x) := h_100
                  have hP : va_P (g.1, g.2.1) vwCl (wC g (sA (sF (sA (sF σ 7 n3) 18 f3) 7 n2_100) 18 f2_100) ++ tl) H := hP
                  have hD : va_D A (wC g (sA (sF (sA (sF σ 7 n3) 18 f3) 7 n2_100) 18 f2_100) ++ tl) := hD
                  refine lv_iinc (v := nI (tt + 1)) (lv' := [(10, .int (nI (tt + 1))), (0, .ref (g.2.2.2 29)), (1, .ref (g.2.2.2 1)), (2, .ref (g.2.2.2 27)), (3, .int (nI q)), (4, .int (nI fr)), (5, .int (nI cd)), (6, .int (nI 3)), (7, .int (nI lt)), (8, .int (nI (σ.2.1 0 (q * 3 + lt)))), (9, .int (nI (cd + (wt lt))))]) hx hb dX6_walk_103 hl (k := 10) rfl (jn_ii _ 1) (by decide) rfl (fun ls hl => ?_)
                  refine lv_goto (tgt := 61) hx hb dX6_walk_106 (by decide) ?_
                  exact ih61 (tt + 1) n2_100 f2_100 (by omega) (by first | exact h_100.1 | exact h5) (fun x => by first | (rw [h_100.2 x, h6 x, cy_t1 (by omega) hc77, or_assoc, or_assoc]) | (rw [h6 x, cy_t0 (by omega) hc77])) (by omega) _ _ hP hD hS _ (lv_sub hl [1, 2, 3, 4, 5, 6, 7, 8, 9, 10, 0] rfl)
          exact lp61 _ ((σ.1 8) + 1) n2_50 f2_50 (by omega) (by first | exact h_50.1 | exact h2) (fun x => by first | (rw [h_50.2 x, h3 x, or_assoc]; exact or_congr Iff.rfl (cy_1 c_44)) | (rw [h3 x]; exact or_congr Iff.rfl (cy_0 c_44))) (Nat.lt_succ_self _) _ _ hP hD hS _ (lv_sub hl [3, 4, 5, 6, 7, 8, 9, 10, 2, 1, 0] rfl)
  exact lp10 _ 0 (σ.1 7) (σ.2.1 18) (by decide) hL (fun x => ⟨Or.inl, fun z => z.elim id (fun w => absurd w cy_no)⟩) (Nat.lt_succ_self _) _ _ hP hD hS _ (lv_sub hl [1, 2, 3, 4, 5, 6, 7, 0] rfl)

abbrev r_c_X6_walk_d2 : Room := { frames := 4, cells := 0, slots := 0, locals := 104 }
set_option maxHeartbeats 4000000 in
set_option maxRecDepth 100000 in
theorem c_X6_walk_d2 (l : Launch) (g : GC) (tl : va_W) (sz : Nat) (σ : SS) (q fr cd : Nat) (hA : OkA σ) (hL : LOk (σ.2.1 18) (σ.1 7)) (hs : (σ.1 8) < 5) (hq : q < 5) (hf2 : fr < 4294967296) (hc : cd < 1000) (hd : dsum cd = 2) : Met l yX6_walk wsX6_walk r_c_X6_walk_d2 (va_Pc [.ref (g.2.2.2 29), .ref (g.2.2.2 1), .ref (g.2.2.2 27), .int (nI q), .int (nI fr), .int (nI cd), .int (nI 2)] (PW g (wC g σ ++ tl) sz)) (va_Qv (fun (z : (Nat → Nat) × Nat) => match z with | (f2, n2) => (LOk f2 n2) ∧ (∀ x, inL f2 n2 x ↔ inL (σ.2.1 18) (σ.1 7) x ∨ cyW (σ.2.1 0) (σ.1 8) 3 q fr cd x)) (fun (z : (Nat → Nat) × Nat) t => BW g (va_A (wC g σ ++ tl) sz) ((fun z : (Nat → Nat) × Nat => match z with | (f2, n2) => wC g (sA (sF σ 7 n2) 18 f2) ++ tl) z) t) (va_A (wC g σ ++ tl) sz)) 0 0 (va_A (wC g σ ++ tl) sz) := by
  refine jn_sv (wf := fun z : (Nat → Nat) × Nat => match z with | (f2, n2) => wC g (sA (sF σ 7 n2) 18 f2) ++ tl) (cc := cX6_walk) (maxL := 11) (own := RX6) (by decide) rfl rfl (Nat.le_of_ble_eq_true rfl) ?_
  intro p e s m below meth c Q A hx hb hml hown hts hK hP hD hS hAA hq ls hl
  obtain ⟨H, eH⟩ : ∃ z, z = s.heap := ⟨_, rfl⟩
  obtain ⟨locs, el⟩ : ∃ z : List Loc, z = [] := ⟨_, rfl⟩
  rw [← eH] at hP
  have hS : va_S A s.heap H locs := by rw [eH, el]; exact hS
  have goal0 : W p l e r_c_X6_walk_d2 s m ([.ref (g.2.2.2 29), .ref (g.2.2.2 1), .ref (g.2.2.2 27), .int (nI q), .int (nI fr), .int (nI cd), .int (nI 2)] : List Value).toArray below meth c H locs 0 0 Q (F0 m 0 ls []) → W p l e r_c_X6_walk_d2 s m ([.ref (g.2.2.2 29), .ref (g.2.2.2 1), .ref (g.2.2.2 27), .int (nI q), .int (nI fr), .int (nI cd), .int (nI 2)] : List Value).toArray below meth c s.heap [] 0 0 Q (F0 m 0 ls []) := fun h => by rw [eH, el] at h; exact h
  refine goal0 ?_
  have hl : lv_has ls 11 [(0, .ref (g.2.2.2 29)), (1, .ref (g.2.2.2 1)), (2, .ref (g.2.2.2 27)), (3, .int (nI q)), (4, .int (nI fr)), (5, .int (nI cd)), (6, .int (nI 2))] := hl
  have iX6 : ∀ w ∈ wsX60, w ∈ wsX6_walk := by decide +kernel
  have k9 := hts (.fieldLink RX6 9 "JumpingAutomata$CycleFinder" "start" "I") (by decide +kernel)
  refine lv_iload hx hb dX6_walk_0 (lv_at hl 6 rfl) ?_
  refine lv_iconst (v := nI 5) hx hb dX6_walk_2 (by decide) ?_
  refine jn_clt hx hb (by decide) (by decide) (tgt := 7) dX6_walk_3 (by decide) (fun c_3 => ?_) (fun c_3 => absurd c_3 (by decide))
  refine lv_iconst (v := nI 0) hx hb dX6_walk_7 (by decide) ?_
  refine lv_istore (lv' := [(7, .int (nI 0)), (0, .ref (g.2.2.2 29)), (1, .ref (g.2.2.2 1)), (2, .ref (g.2.2.2 27)), (3, .int (nI q)), (4, .int (nI fr)), (5, .int (nI cd)), (6, .int (nI 2))]) hx hb dX6_walk_8 hl (by decide) rfl (fun ls hl => ?_)
  have lp10 : ∀ (fu : Nat), ∀ (lt : Nat) (n3 : Nat) (f3 : Nat → Nat), (lt ≤ 3) → (LOk f3 n3) → (∀ x, inL f3 n3 x ↔ inL (σ.2.1 18) (σ.1 7) x ∨ cyL (σ.2.1 0) (σ.1 8) 2 q fr cd lt x) → 3 - lt < fu → ∀ (H : Heap) (locs : List Loc), va_P (g.1, g.2.1) vwCl (wC g (sA (sF σ 7 n3) 18 f3) ++ tl) H → va_D A (wC g (sA (sF σ 7 n3) 18 f3) ++ tl) → va_S A s.heap H locs → ∀ ls : Array Slot, lv_has ls 11 [(0, .ref (g.2.2.2 29)), (1, .ref (g.2.2.2 1)), (2, .ref (g.2.2.2 27)), (3, .int (nI q)), (4, .int (nI fr)), (5, .int (nI cd)), (6, .int (nI 2)), (7, .int (nI lt))] → W p l e r_c_X6_walk_d2 s m ([.ref (g.2.2.2 29), .ref (g.2.2.2 1), .ref (g.2.2.2 27), .int (nI q), .int (nI fr), .int (nI cd), .int (nI 2)] : List Value).toArray below meth c H locs 0 0 Q (F0 m 10 ls []) := by
    intro fu
    induction fu with
    | zero => intro lt n3 f3 h1 h2 h3 hf; exact absurd hf (Nat.not_lt_zero _)
    | succ fu ih10 =>
      intro lt n3 f3 h1 h2 h3 hf H locs hP hD hS ls hl
      refine lv_iload hx hb dX6_walk_10 (lv_at hl 7 rfl) ?_
      refine lv_iconst (v := nI 3) hx hb dX6_walk_12 (by decide) ?_
      refine jn_cge hx hb (by omega) (by decide) (tgt := 115) dX6_walk_13 (by decide) (fun c_13 => ?_) (fun c_13 => ?_)
      · exact hq _ _ _ _ (f3, n3) dX6_walk_115 ⟨h2, fun x => by rw [h3 x, show lt = 3 by omega]; exact or_congr Iff.rfl cy_end⟩ hP hD hS
      · refine lv_aload_n hx hb dX6_walk_16 rfl (lv_at hl 1 rfl) ?_
        refine lv_iload_n hx hb dX6_walk_17 rfl (lv_at hl 3 rfl) ?_
        refine lv_iload hx hb dX6_walk_18 (lv_at hl 7 rfl) ?_
        refine vp_callSi (va_Run.run (va_runV (As := [.int (nI q), .int (nI lt)]) (rest := []) ⟨hx, hb, hml, hown, hts⟩ (c_X0_targetsOf l g tl (sA (sF σ 7 n3) 18 f3) q lt hA (by omega) (by omega)) (cwV 2 hts gX6_walk_X0_targetsOf rfl rfl rfl (by decide +kernel) ⟨Nat.le_of_ble_eq_true rfl, Nat.le_of_ble_eq_true rfl⟩) (okPV hK hP rfl (gC1 g (sA (sF σ 7 n3) 18 f3) tl)) rfl rfl hl.1 rfl (lv_room (Nat.le_of_ble_eq_true rfl)) dX6_walk_20 ⟨Nat.le_of_ble_eq_true rfl, Nat.le_of_ble_eq_true rfl⟩)) (fun r_20 h_20 => ?_)
        have h_20 : r_20 = (nI (σ.2.1 0 (q * 3 + lt))) := h_20
        subst h_20
        have t32 := hA.1 (q * 3 + lt) (by omega)
        have hcs := cs5_wt hc hd (by decide) (show lt < 3 by omega)
        refine lv_istore (lv' := [(8, .int (nI (σ.2.1 0 (q * 3 + lt)))), (0, .ref (g.2.2.2 29)), (1, .ref (g.2.2.2 1)), (2, .ref (g.2.2.2 27)), (3, .int (nI q)), (4, .int (nI fr)), (5, .int (nI cd)), (6, .int (nI 2)), (7, .int (nI lt))]) hx hb dX6_walk_23 hl (by decide) rfl (fun ls hl => ?_)
        refine lv_iload hx hb dX6_walk_25 (lv_at hl 6 rfl) ?_
        refine lv_iload hx hb dX6_walk_27 (lv_at hl 8 rfl) ?_
        refine vp_callSi (va_Run.run (va_runSN (As := [.int (nI lt)]) (rest := [.int (nI cd)]) ⟨hx, hb, hml, hown, hts⟩ (c_X10_weightOf l lt (by omega)) ⟨(va_cnB 1 hts gX6_walk_X10_weightOf_n34 rfl rfl rfl (hK.2 _ (List.mem_of_getElem? (i := 18) rfl)) (hts (.initialized RX10) (by decide +kernel)) (by decide +kernel) ⟨Nat.le_of_ble_eq_true rfl, Nat.le_of_ble_eq_true rfl⟩), hts (.static yX10_weightOf) (by decide +kernel), trivial⟩ okTS rfl rfl hl.1 rfl (lv_room (Nat.le_of_ble_eq_true rfl)) dX6_walk_29 ⟨Nat.le_of_ble_eq_true rfl, Nat.le_of_ble_eq_true rfl⟩)) (fun r_29 h_29 => ?_)
        subst h_29
        refine jn_iadd hx hb dX6_walk_32 ?_
        refine lv_istore (lv' := [(9, .int (nI (cd + (wt lt)))), (8, .int (nI (σ.2.1 0 (q * 3 + lt)))), (0, .ref (g.2.2.2 29)), (1, .ref (g.2.2.2 1)), (2, .ref (g.2.2.2 27)), (3, .int (nI q)), (4, .int (nI fr)), (5, .int (nI cd)), (6, .int (nI 2)), (7, .int (nI lt))]) hx hb dX6_walk_33 hl (by decide) rfl (fun ls hl => ?_)
        refine lv_iload hx hb dX6_walk_35 (lv_at hl 1 rfl) ?_
        refine lv_aload_n hx hb dX6_walk_37 rfl (lv_at hl 2 rfl) ?_
        refine va_get (D := (g.1, g.2.1)) (ci := 8) (v := .int (nI (σ.1 8))) (C := RX6) (T := TX6) (N := 1) hx hb hts iX6 hown hK.1 hP 29 (gC29 g (sA (sF σ 7 n3) 18 f3) tl) rfl 0 (by decide) k9 (fun _ h9 => h9) rfl dX6_walk_38 ?_
        refine jn_ishr hx hb (by omega) (by omega) dX6_walk_41 ?_
        refine lv_iconst (v := nI 1) hx hb dX6_walk_42 (by decide) ?_
        refine jn_and1 hx hb dX6_walk_43 ?_
        refine jn_beq hx hb (tgt := 53) dX6_walk_44 (by decide) (fun c_44 => ?_) (fun c_44 => ?_)
        · refine lv_aload_n hx hb dX6_walk_53 rfl (lv_at hl 2 rfl) ?_
          refine va_get (D := (g.1, g.2.1)) (ci := 8) (v := .int (nI (σ.1 8))) (C := RX6) (T := TX6) (N := 1) hx hb hts iX6 hown hK.1 hP 29 (gC29 g (sA (sF σ 7 n3) 18 f3) tl) rfl 0 (by decide) k9 (fun _ h9 => h9) rfl dX6_walk_54 ?_
          refine lv_iconst (v := nI 1) hx hb dX6_walk_57 (by decide) ?_
          refine jn_iadd hx hb dX6_walk_58 ?_
          refine lv_istore (lv' := [(10, .int (nI ((σ.1 8) + 1))), (9, .int (nI (cd + (wt lt)))), (8, .int (nI (σ.2.1 0 (q * 3 + lt)))), (0, .ref (g.2.2.2 29)), (1, .ref (g.2.2.2 1)), (2, .ref (g.2.2.2 27)), (3, .int (nI q)), (4, .int (nI fr)), (5, .int (nI cd)), (6, .int (nI 2)), (7, .int (nI lt))]) hx hb dX6_walk_59 hl (by decide) rfl (fun ls hl => ?_)
          have lp61 : ∀ (fu : Nat), ∀ (tt : Nat) (n3 : Nat) (f3 : Nat → Nat), ((σ.1 8) + 1 ≤ tt ∧ tt ≤ 5) → (LOk f3 n3) → (∀ x, inL f3 n3 x ↔ inL (σ.2.1 18) (σ.1 7) x ∨ cyL (σ.2.1 0) (σ.1 8) 2 q fr cd lt x ∨ cyT (σ.2.1 0) (σ.1 8) 2 q fr cd lt tt x) → 5 - tt < fu → ∀ (H : Heap) (locs : List Loc), va_P (g.1, g.2.1) vwCl (wC g (sA (sF σ 7 n3) 18 f3) ++ tl) H → va_D A (wC g (sA (sF σ 7 n3) 18 f3) ++ tl) → va_S A s.heap H locs → ∀ ls : Array Slot, lv_has ls 11 [(0, .ref (g.2.2.2 29)), (1, .ref (g.2.2.2 1)), (2, .ref (g.2.2.2 27)), (3, .int (nI q)), (4, .int (nI fr)), (5, .int (nI cd)), (6, .int (nI 2)), (7, .int (nI lt)), (8, .int (nI (σ.2.1 0 (q * 3 + lt)))), (9, .int (nI (cd + (wt lt)))), (10, .int (nI tt))] → W p l e r_c_X6_walk_d2 s m ([.ref (g.2.2.2 29), .ref (g.2.2.2 1), .ref (g.2.2.2 27), .int (nI q), .int (nI fr), .int (nI cd), .int (nI 2)] : List Value).toArray below meth c H locs 0 0 Q (F0 m 61 ls []) := by
            intro fu
            induction fu with
            | zero => intro tt n3 f3 h4 h5 h6 hf; exact absurd hf (Nat.not_lt_zero _)
            | succ fu ih61 =>
              intro tt n3 f3 h4 h5 h6 hf H locs hP hD hS ls hl
              refine lv_iload hx hb dX6_walk_61 (lv_at hl 10 rfl) ?_
              refine lv_iconst (v := nI 5) hx hb dX6_walk_63 (by decide) ?_
              refine jn_cge hx hb (by omega) (by decide) (tgt := 109) dX6_walk_64 (by decide) (fun c_64 => ?_) (fun c_64 => ?_)
              · refine lv_iinc (v := nI (lt + 1)) (lv' := [(7, .int (nI (lt + 1))), (0, .ref (g.2.2.2 29)), (1, .ref (g.2.2.2 1)), (2, .ref (g.2.2.2 27)), (3, .int (nI q)), (4, .int (nI fr)), (5, .int (nI cd)), (6, .int (nI 2)), (8, .int (nI (σ.2.1 0 (q * 3 + lt)))), (9, .int (nI (cd + (wt lt)))), (10, .int (nI tt))]) hx hb dX6_walk_109 hl (k := 7) rfl (jn_ii _ 1) (by decide) rfl (fun ls hl => ?_)
                refine lv_goto (tgt := 10) hx hb dX6_walk_112 (by decide) ?_
                exact ih10 (lt + 1) n3 f3 (by omega) h5 (fun x => by rw [h6 x, cy_l, show tt = 5 by omega]) (by omega) _ _ hP hD hS _ (lv_sub hl [1, 2, 3, 4, 5, 6, 7, 0] rfl)
              · refine lv_iload hx hb dX6_walk_67 (lv_at hl 8 rfl) ?_
                refine lv_iload hx hb dX6_walk_69 (lv_at hl 4 rfl) ?_
                refine jn_iand hx hb dX6_walk_71 ?_
                refine lv_iconst (v := nI 1) hx hb dX6_walk_72 (by decide) ?_
                refine lv_iload hx hb dX6_walk_73 (lv_at hl 10 rfl) ?_
                refine jn_shl1 hx hb (by omega) dX6_walk_75 ?_
                refine jn_iand hx hb dX6_walk_76 ?_
                refine jn_zeq hx hb (and_ltl (and_ltl (by omega))) (tgt := 103) dX6_walk_77 (by decide) (fun c_77 => ?_) (fun c_77 => ?_)
                · have hc77 := bit3.mp c_77
                  refine lv_iinc (v := nI (tt + 1)) (lv' := [(10, .int (nI (tt + 1))), (0, .ref (g.2.2.2 29)), (1, .ref (g.2.2.2 1)), (2, .ref (g.2.2.2 27)), (3, .int (nI q)), (4, .int (nI fr)), (5, .int (nI cd)), (6, .int (nI 2)), (7, .int (nI lt)), (8, .int (nI (σ.2.1 0 (q * 3 + lt)))), (9, .int (nI (cd + (wt lt))))]) hx hb dX6_walk_103 hl (k := 10) rfl (jn_ii _ 1) (by decide) rfl (fun ls hl => ?_)
                  refine lv_goto (tgt := 61) hx hb dX6_walk_106 (by decide) ?_
                  exact ih61 (tt + 1) n3 f3 (by omega) (by first | exact h_100.1 | exact h5) (fun x => by first | (rw [h_100.2 x, h6 x, cy_t1 (by omega) hc77, or_assoc, or_assoc]) | (rw [h6 x, cy_t0 (by omega) hc77])) (by omega) _ _ hP hD hS _ (lv_sub hl [1, 2, 3, 4, 5, 6, 7, 8, 9, 10, 0] rfl)
                · have hc77 := Classical.not_not.mp (fun z => c_77 (bit3.mpr z))
                  refine lv_aload_n hx hb dX6_walk_80 rfl (lv_at hl 0 rfl) ?_
                  refine lv_aload_n hx hb dX6_walk_81 rfl (lv_at hl 1 rfl) ?_
                  refine lv_aload_n hx hb dX6_walk_82 rfl (lv_at hl 2 rfl) ?_
                  refine lv_iload hx hb dX6_walk_83 (lv_at hl 10 rfl) ?_
                  refine lv_iload hx hb dX6_walk_85 (lv_at hl 4 rfl) ?_
                  refine lv_iconst (v := nI 1) hx hb dX6_walk_87 (by decide) ?_
                  refine lv_iload hx hb dX6_walk_88 (lv_at hl 10 rfl) ?_
                  refine jn_shl1 hx hb (by omega) dX6_walk_90 ?_
                  refine lv_iconst (v := nI 4294967295) hx hb dX6_walk_91 (by decide) ?_
                  refine jn_ixor hx hb dX6_walk_92 ?_
                  refine jn_iand hx hb dX6_walk_93 ?_
                  refine lv_iload hx hb dX6_walk_94 (lv_at hl 9 rfl) ?_
                  refine lv_iload hx hb dX6_walk_96 (lv_at hl 6 rfl) ?_
                  refine lv_iconst (v := nI 1) hx hb dX6_walk_98 (by decide) ?_
                  refine jn_iadd hx hb dX6_walk_99 ?_
                  refine jn_callv (va_runV (As := [.ref (g.2.2.2 1), .ref (g.2.2.2 27), .int (nI tt), .int (nI (fr &&& ((2 ^ tt) ^^^ 4294967295))), .int (nI (cd + (wt lt))), .int (nI (2 + 1))]) (rest := []) ⟨hx, hb, hml, hown, hts⟩ (c_X6_walk_d3 l g tl H.size (sA (sF σ 7 n3) 18 f3) tt (fr &&& ((2 ^ tt) ^^^ 4294967295)) (cd + (wt lt)) hA h5 hs (by omega) (and_ltl hf2) hcs.1.1 hcs.2) (cwV 6 hts gX6_walk_X6_walk rfl rfl rfl (by decide +kernel) ⟨Nat.le_of_ble_eq_true rfl, Nat.le_of_ble_eq_true rfl⟩) (okWV hK hP hD rfl (gC29 g (sA (sF σ 7 n3) 18 f3) tl)) rfl rfl hl.1 rfl (lv_room (Nat.le_of_ble_eq_true rfl)) dX6_walk_100 ⟨Nat.le_of_ble_eq_true rfl, Nat.le_of_ble_eq_true rfl⟩) hD hS hAA (fun u H locs hw_ hP hD hS => ?_)
                  obtain ⟨f2_100, n2_100⟩ := u
                  have h_100 := hw_
                  have h_100 : (LOk f2_100 n2_100) ∧ (∀ x, inL f2_100 n2_100 x ↔ inL (f3) (n3) x ∨ cyW (σ.2.1 0) (σ.1 8) 2 tt (fr &&& ((2 ^ tt) ^^^ 4294967295)) (cd + (wt lt)) x) := h_100
                  have hP : va_P (g.1, g.2.1) vwCl (wC g (sA (sF (sA (sF σ 7 n3) 18 f3) 7 n2_100) 18 f2_100) ++ tl) H := hP
                  have hD : va_D A (wC g (sA (sF (sA (sF σ 7 n3) 18 f3) 7 n2_100) 18 f2_100) ++ tl) := hD
                  refine lv_iinc (v := nI (tt + 1)) (lv' := [(10, .int (nI (tt + 1))), (0, .ref (g.2.2.2 29)), (1, .ref (g.2.2.2 1)), (2, .ref (g.2.2.2 27)), (3, .int (nI q)), (4, .int (nI fr)), (5, .int (nI cd)), (6, .int (nI 2)), (7, .int (nI lt)), (8, .int (nI (σ.2.1 0 (q * 3 + lt)))), (9, .int (nI (cd + (wt lt))))]) hx hb dX6_walk_103 hl (k := 10) rfl (jn_ii _ 1) (by decide) rfl (fun ls hl => ?_)
                  refine lv_goto (tgt := 61) hx hb dX6_walk_106 (by decide) ?_
                  exact ih61 (tt + 1) n2_100 f2_100 (by omega) (by first | exact h_100.1 | exact h5) (fun x => by first | (rw [h_100.2 x, h6 x, cy_t1 (by omega) hc77, or_assoc, or_assoc]) | (rw [h6 x, cy_t0 (by omega) hc77])) (by omega) _ _ hP hD hS _ (lv_sub hl [1, 2, 3, 4, 5, 6, 7, 8, 9, 10, 0] rfl)
          exact lp61 _ ((σ.1 8) + 1) n3 f3 (by omega) (by first | exact h_50.1 | exact h2) (fun x => by first | (rw [h_50.2 x, h3 x, or_assoc]; exact or_congr Iff.rfl (cy_1 c_44)) | (rw [h3 x]; exact or_congr Iff.rfl (cy_0 c_44))) (Nat.lt_succ_self _) _ _ hP hD hS _ (lv_sub hl [3, 4, 5, 6, 7, 8, 9, 10, 2, 1, 0] rfl)
        · refine lv_aload_n hx hb dX6_walk_47 rfl (lv_at hl 4 rfl) ?_
          refine lv_iload hx hb dX6_walk_48 (lv_at hl 0 rfl) ?_
          refine jn_callv (va_runV (As := [.int (nI (cd + (wt lt)))]) (rest := []) ⟨hx, hb, hml, hown, hts⟩ (c_X4_insert_27 l g tl H.size (sA (sF σ 7 n3) 18 f3) (cd + (wt lt)) h2 hcs.1) (cwV 1 hts gX6_walk_X4_insert rfl rfl rfl (by decide +kernel) ⟨Nat.le_of_ble_eq_true rfl, Nat.le_of_ble_eq_true rfl⟩) (okWV hK hP hD rfl (gC27 g (sA (sF σ 7 n3) 18 f3) tl)) rfl rfl hl.1 rfl (lv_room (Nat.le_of_ble_eq_true rfl)) dX6_walk_50 ⟨Nat.le_of_ble_eq_true rfl, Nat.le_of_ble_eq_true rfl⟩) hD hS hAA (fun u H locs hw_ hP hD hS => ?_)
          obtain ⟨f2_50, n2_50⟩ := u
          have h_50 := hw_
          have h_50 : (LOk f2_50 n2_50) ∧ (∀ x, inL f2_50 n2_50 x ↔ inL (f3) (n3) x ∨ x = (cd + (wt lt))) := h_50
          have hP : va_P (g.1, g.2.1) vwCl (wC g (sA (sF (sA (sF σ 7 n3) 18 f3) 7 n2_50) 18 f2_50) ++ tl) H := hP
          have hD : va_D A (wC g (sA (sF (sA (sF σ 7 n3) 18 f3) 7 n2_50) 18 f2_50) ++ tl) := hD
          refine lv_aload_n hx hb dX6_walk_53 rfl (lv_at hl 2 rfl) ?_
          refine va_get (D := (g.1, g.2.1)) (ci := 8) (v := .int (nI (σ.1 8))) (C := RX6) (T := TX6) (N := 1) hx hb hts iX6 hown hK.1 hP 29 (gC29 g (sA (sF (sA (sF σ 7 n3) 18 f3) 7 n2_50) 18 f2_50) tl) rfl 0 (by decide) k9 (fun _ h9 => h9) rfl dX6_walk_54 ?_
          refine lv_iconst (v := nI 1) hx hb dX6_walk_57 (by decide) ?_
          refine jn_iadd hx hb dX6_walk_58 ?_
          refine lv_istore (lv' := [(10, .int (nI ((σ.1 8) + 1))), (9, .int (nI (cd + (wt lt)))), (8, .int (nI (σ.2.1 0 (q * 3 + lt)))), (0, .ref (g.2.2.2 29)), (1, .ref (g.2.2.2 1)), (2, .ref (g.2.2.2 27)), (3, .int (nI q)), (4, .int (nI fr)), (5, .int (nI cd)), (6, .int (nI 2)), (7, .int (nI lt))]) hx hb dX6_walk_59 hl (by decide) rfl (fun ls hl => ?_)
          have lp61 : ∀ (fu : Nat), ∀ (tt : Nat) (n3 : Nat) (f3 : Nat → Nat), ((σ.1 8) + 1 ≤ tt ∧ tt ≤ 5) → (LOk f3 n3) → (∀ x, inL f3 n3 x ↔ inL (σ.2.1 18) (σ.1 7) x ∨ cyL (σ.2.1 0) (σ.1 8) 2 q fr cd lt x ∨ cyT (σ.2.1 0) (σ.1 8) 2 q fr cd lt tt x) → 5 - tt < fu → ∀ (H : Heap) (locs : List Loc), va_P (g.1, g.2.1) vwCl (wC g (sA (sF σ 7 n3) 18 f3) ++ tl) H → va_D A (wC g (sA (sF σ 7 n3) 18 f3) ++ tl) → va_S A s.heap H locs → ∀ ls : Array Slot, lv_has ls 11 [(0, .ref (g.2.2.2 29)), (1, .ref (g.2.2.2 1)), (2, .ref (g.2.2.2 27)), (3, .int (nI q)), (4, .int (nI fr)), (5, .int (nI cd)), (6, .int (nI 2)), (7, .int (nI lt)), (8, .int (nI (σ.2.1 0 (q * 3 + lt)))), (9, .int (nI (cd + (wt lt)))), (10, .int (nI tt))] → W p l e r_c_X6_walk_d2 s m ([.ref (g.2.2.2 29), .ref (g.2.2.2 1), .ref (g.2.2.2 27), .int (nI q), .int (nI fr), .int (nI cd), .int (nI 2)] : List Value).toArray below meth c H locs 0 0 Q (F0 m 61 ls []) := by
            intro fu
            induction fu with
            | zero => intro tt n3 f3 h4 h5 h6 hf; exact absurd hf (Nat.not_lt_zero _)
            | succ fu ih61 =>
              intro tt n3 f3 h4 h5 h6 hf H locs hP hD hS ls hl
              refine lv_iload hx hb dX6_walk_61 (lv_at hl 10 rfl) ?_
              refine lv_iconst (v := nI 5) hx hb dX6_walk_63 (by decide) ?_
              refine jn_cge hx hb (by omega) (by decide) (tgt := 109) dX6_walk_64 (by decide) (fun c_64 => ?_) (fun c_64 => ?_)
              · refine lv_iinc (v := nI (lt + 1)) (lv' := [(7, .int (nI (lt + 1))), (0, .ref (g.2.2.2 29)), (1, .ref (g.2.2.2 1)), (2, .ref (g.2.2.2 27)), (3, .int (nI q)), (4, .int (nI fr)), (5, .int (nI cd)), (6, .int (nI 2)), (8, .int (nI (σ.2.1 0 (q * 3 + lt)))), (9, .int (nI (cd + (wt lt)))), (10, .int (nI tt))]) hx hb dX6_walk_109 hl (k := 7) rfl (jn_ii _ 1) (by decide) rfl (fun ls hl => ?_)
                refine lv_goto (tgt := 10) hx hb dX6_walk_112 (by decide) ?_
                exact ih10 (lt + 1) n3 f3 (by omega) h5 (fun x => by rw [h6 x, cy_l, show tt = 5 by omega]) (by omega) _ _ hP hD hS _ (lv_sub hl [1, 2, 3, 4, 5, 6, 7, 0] rfl)
              · refine lv_iload hx hb dX6_walk_67 (lv_at hl 8 rfl) ?_
                refine lv_iload hx hb dX6_walk_69 (lv_at hl 4 rfl) ?_
                refine jn_iand hx hb dX6_walk_71 ?_
                refine lv_iconst (v := nI 1) hx hb dX6_walk_72 (by decide) ?_
                refine lv_iload hx hb dX6_walk_73 (lv_at hl 10 rfl) ?_
                refine jn_shl1 hx hb (by omega) dX6_walk_75 ?_
                refine jn_iand hx hb dX6_walk_76 ?_
                refine jn_zeq hx hb (and_ltl (and_ltl (by omega))) (tgt := 103) dX6_walk_77 (by decide) (fun c_77 => ?_) (fun c_77 => ?_)
                · have hc77 := bit3.mp c_77
                  refine lv_iinc (v := nI (tt + 1)) (lv' := [(10, .int (nI (tt + 1))), (0, .ref (g.2.2.2 29)), (1, .ref (g.2.2.2 1)), (2, .ref (g.2.2.2 27)), (3, .int (nI q)), (4, .int (nI fr)), (5, .int (nI cd)), (6, .int (nI 2)), (7, .int (nI lt)), (8, .int (nI (σ.2.1 0 (q * 3 + lt)))), (9, .int (nI (cd + (wt lt))))]) hx hb dX6_walk_103 hl (k := 10) rfl (jn_ii _ 1) (by decide) rfl (fun ls hl => ?_)
                  refine lv_goto (tgt := 61) hx hb dX6_walk_106 (by decide) ?_
                  exact ih61 (tt + 1) n3 f3 (by omega) (by first | exact h_100.1 | exact h5) (fun x => by first | (rw [h_100.2 x, h6 x, cy_t1 (by omega) hc77, or_assoc, or_assoc]) | (rw [h6 x, cy_t0 (by omega) hc77])) (by omega) _ _ hP hD hS _ (lv_sub hl [1, 2, 3, 4, 5, 6, 7, 8, 9, 10, 0] rfl)
                · have hc77 := Classical.not_not.mp (fun z => c_77 (bit3.mpr z))
                  refine lv_aload_n hx hb dX6_walk_80 rfl (lv_at hl 0 rfl) ?_
                  refine lv_aload_n hx hb dX6_walk_81 rfl (lv_at hl 1 rfl) ?_
                  refine lv_aload_n hx hb dX6_walk_82 rfl (lv_at hl 2 rfl) ?_
                  refine lv_iload hx hb dX6_walk_83 (lv_at hl 10 rfl) ?_
                  refine lv_iload hx hb dX6_walk_85 (lv_at hl 4 rfl) ?_
                  refine lv_iconst (v := nI 1) hx hb dX6_walk_87 (by decide) ?_
                  refine lv_iload hx hb dX6_walk_88 (lv_at hl 10 rfl) ?_
                  refine jn_shl1 hx hb (by omega) dX6_walk_90 ?_
                  refine lv_iconst (v := nI 4294967295) hx hb dX6_walk_91 (by decide) ?_
                  refine jn_ixor hx hb dX6_walk_92 ?_
                  refine jn_iand hx hb dX6_walk_93 ?_
                  refine lv_iload hx hb dX6_walk_94 (lv_at hl 9 rfl) ?_
                  refine lv_iload hx hb dX6_walk_96 (lv_at hl 6 rfl) ?_
                  refine lv_iconst (v := nI 1) hx hb dX6_walk_98 (by decide) ?_
                  refine jn_iadd hx hb dX6_walk_99 ?_
                  refine jn_callv (va_runV (As := [.ref (g.2.2.2 1), .ref (g.2.2.2 27), .int (nI tt), .int (nI (fr &&& ((2 ^ tt) ^^^ 4294967295))), .int (nI (cd + (wt lt))), .int (nI (2 + 1))]) (rest := []) ⟨hx, hb, hml, hown, hts⟩ (c_X6_walk_d3 l g tl H.size (sA (sF σ 7 n3) 18 f3) tt (fr &&& ((2 ^ tt) ^^^ 4294967295)) (cd + (wt lt)) hA h5 hs (by omega) (and_ltl hf2) hcs.1.1 hcs.2) (cwV 6 hts gX6_walk_X6_walk rfl rfl rfl (by decide +kernel) ⟨Nat.le_of_ble_eq_true rfl, Nat.le_of_ble_eq_true rfl⟩) (okWV hK hP hD rfl (gC29 g (sA (sF σ 7 n3) 18 f3) tl)) rfl rfl hl.1 rfl (lv_room (Nat.le_of_ble_eq_true rfl)) dX6_walk_100 ⟨Nat.le_of_ble_eq_true rfl, Nat.le_of_ble_eq_true rfl⟩) hD hS hAA (fun u H locs hw_ hP hD hS => ?_)
                  obtain ⟨f2_100, n2_100⟩ := u
                  have h_100 := hw_
                  have h_100 : (LOk f2_100 n2_100) ∧ (∀ x, inL f2_100 n2_100 x ↔ inL (f3) (n3) x ∨ cyW (σ.2.1 0) (σ.1 8) 2 tt (fr &&& ((2 ^ tt) ^^^ 4294967295)) (cd + (wt lt)) x) := h_100
                  have hP : va_P (g.1, g.2.1) vwCl (wC g (sA (sF (sA (sF σ 7 n3) 18 f3) 7 n2_100) 18 f2_100) ++ tl) H := hP
                  have hD : va_D A (wC g (sA (sF (sA (sF σ 7 n3) 18 f3) 7 n2_100) 18 f2_100) ++ tl) := hD
                  refine lv_iinc (v := nI (tt + 1)) (lv' := [(10, .int (nI (tt + 1))), (0, .ref (g.2.2.2 29)), (1, .ref (g.2.2.2 1)), (2, .ref (g.2.2.2 27)), (3, .int (nI q)), (4, .int (nI fr)), (5, .int (nI cd)), (6, .int (nI 2)), (7, .int (nI lt)), (8, .int (nI (σ.2.1 0 (q * 3 + lt)))), (9, .int (nI (cd + (wt lt))))]) hx hb dX6_walk_103 hl (k := 10) rfl (jn_ii _ 1) (by decide) rfl (fun ls hl => ?_)
                  refine lv_goto (tgt := 61) hx hb dX6_walk_106 (by decide) ?_
                  exact ih61 (tt + 1) n2_100 f2_100 (by omega) (by first | exact h_100.1 | exact h5) (fun x => by first | (rw [h_100.2 x, h6 x, cy_t1 (by omega) hc77, or_assoc, or_assoc]) | (rw [h6 x, cy_t0 (by omega) hc77])) (by omega) _ _ hP hD hS _ (lv_sub hl [1, 2, 3, 4, 5, 6, 7, 8, 9, 10, 0] rfl)
          exact lp61 _ ((σ.1 8) + 1) n2_50 f2_50 (by omega) (by first | exact h_50.1 | exact h2) (fun x => by first | (rw [h_50.2 x, h3 x, or_assoc]; exact or_congr Iff.rfl (cy_1 c_44)) | (rw [h3 x]; exact or_congr Iff.rfl (cy_0 c_44))) (Nat.lt_succ_self _) _ _ hP hD hS _ (lv_sub hl [3, 4, 5, 6, 7, 8, 9, 10, 2, 1, 0] rfl)
  exact lp10 _ 0 (σ.1 7) (σ.2.1 18) (by decide) hL (fun x => ⟨Or.inl, fun z => z.elim id (fun w => absurd w cy_no)⟩) (Nat.lt_succ_self _) _ _ hP hD hS _ (lv_sub hl [1, 2, 3, 4, 5, 6, 7, 0] rfl)

abbrev r_c_X6_walk_d1 : Room := { frames := 5, cells := 0, slots := 0, locals := 134 }
set_option maxHeartbeats 4000000 in
set_option maxRecDepth 100000 in
theorem c_X6_walk_d1 (l : Launch) (g : GC) (tl : va_W) (sz : Nat) (σ : SS) (q fr cd : Nat) (hA : OkA σ) (hL : LOk (σ.2.1 18) (σ.1 7)) (hs : (σ.1 8) < 5) (hq : q < 5) (hf2 : fr < 4294967296) (hc : cd < 1000) (hd : dsum cd = 1) : Met l yX6_walk wsX6_walk r_c_X6_walk_d1 (va_Pc [.ref (g.2.2.2 29), .ref (g.2.2.2 1), .ref (g.2.2.2 27), .int (nI q), .int (nI fr), .int (nI cd), .int (nI 1)] (PW g (wC g σ ++ tl) sz)) (va_Qv (fun (z : (Nat → Nat) × Nat) => match z with | (f2, n2) => (LOk f2 n2) ∧ (∀ x, inL f2 n2 x ↔ inL (σ.2.1 18) (σ.1 7) x ∨ cyW (σ.2.1 0) (σ.1 8) 4 q fr cd x)) (fun (z : (Nat → Nat) × Nat) t => BW g (va_A (wC g σ ++ tl) sz) ((fun z : (Nat → Nat) × Nat => match z with | (f2, n2) => wC g (sA (sF σ 7 n2) 18 f2) ++ tl) z) t) (va_A (wC g σ ++ tl) sz)) 0 0 (va_A (wC g σ ++ tl) sz) := by
  refine jn_sv (wf := fun z : (Nat → Nat) × Nat => match z with | (f2, n2) => wC g (sA (sF σ 7 n2) 18 f2) ++ tl) (cc := cX6_walk) (maxL := 11) (own := RX6) (by decide) rfl rfl (Nat.le_of_ble_eq_true rfl) ?_
  intro p e s m below meth c Q A hx hb hml hown hts hK hP hD hS hAA hq ls hl
  obtain ⟨H, eH⟩ : ∃ z, z = s.heap := ⟨_, rfl⟩
  obtain ⟨locs, el⟩ : ∃ z : List Loc, z = [] := ⟨_, rfl⟩
  rw [← eH] at hP
  have hS : va_S A s.heap H locs := by rw [eH, el]; exact hS
  have goal0 : W p l e r_c_X6_walk_d1 s m ([.ref (g.2.2.2 29), .ref (g.2.2.2 1), .ref (g.2.2.2 27), .int (nI q), .int (nI fr), .int (nI cd), .int (nI 1)] : List Value).toArray below meth c H locs 0 0 Q (F0 m 0 ls []) → W p l e r_c_X6_walk_d1 s m ([.ref (g.2.2.2 29), .ref (g.2.2.2 1), .ref (g.2.2.2 27), .int (nI q), .int (nI fr), .int (nI cd), .int (nI 1)] : List Value).toArray below meth c s.heap [] 0 0 Q (F0 m 0 ls []) := fun h => by rw [eH, el] at h; exact h
  refine goal0 ?_
  have hl : lv_has ls 11 [(0, .ref (g.2.2.2 29)), (1, .ref (g.2.2.2 1)), (2, .ref (g.2.2.2 27)), (3, .int (nI q)), (4, .int (nI fr)), (5, .int (nI cd)), (6, .int (nI 1))] := hl
  have iX6 : ∀ w ∈ wsX60, w ∈ wsX6_walk := by decide +kernel
  have k9 := hts (.fieldLink RX6 9 "JumpingAutomata$CycleFinder" "start" "I") (by decide +kernel)
  refine lv_iload hx hb dX6_walk_0 (lv_at hl 6 rfl) ?_
  refine lv_iconst (v := nI 5) hx hb dX6_walk_2 (by decide) ?_
  refine jn_clt hx hb (by decide) (by decide) (tgt := 7) dX6_walk_3 (by decide) (fun c_3 => ?_) (fun c_3 => absurd c_3 (by decide))
  refine lv_iconst (v := nI 0) hx hb dX6_walk_7 (by decide) ?_
  refine lv_istore (lv' := [(7, .int (nI 0)), (0, .ref (g.2.2.2 29)), (1, .ref (g.2.2.2 1)), (2, .ref (g.2.2.2 27)), (3, .int (nI q)), (4, .int (nI fr)), (5, .int (nI cd)), (6, .int (nI 1))]) hx hb dX6_walk_8 hl (by decide) rfl (fun ls hl => ?_)
  have lp10 : ∀ (fu : Nat), ∀ (lt : Nat) (n3 : Nat) (f3 : Nat → Nat), (lt ≤ 3) → (LOk f3 n3) → (∀ x, inL f3 n3 x ↔ inL (σ.2.1 18) (σ.1 7) x ∨ cyL (σ.2.1 0) (σ.1 8) 3 q fr cd lt x) → 3 - lt < fu → ∀ (H : Heap) (locs : List Loc), va_P (g.1, g.2.1) vwCl (wC g (sA (sF σ 7 n3) 18 f3) ++ tl) H → va_D A (wC g (sA (sF σ 7 n3) 18 f3) ++ tl) → va_S A s.heap H locs → ∀ ls : Array Slot, lv_has ls 11 [(0, .ref (g.2.2.2 29)), (1, .ref (g.2.2.2 1)), (2, .ref (g.2.2.2 27)), (3, .int (nI q)), (4, .int (nI fr)), (5, .int (nI cd)), (6, .int (nI 1)), (7, .int (nI lt))] → W p l e r_c_X6_walk_d1 s m ([.ref (g.2.2.2 29), .ref (g.2.2.2 1), .ref (g.2.2.2 27), .int (nI q), .int (nI fr), .int (nI cd), .int (nI 1)] : List Value).toArray below meth c H locs 0 0 Q (F0 m 10 ls []) := by
    intro fu
    induction fu with
    | zero => intro lt n3 f3 h1 h2 h3 hf; exact absurd hf (Nat.not_lt_zero _)
    | succ fu ih10 =>
      intro lt n3 f3 h1 h2 h3 hf H locs hP hD hS ls hl
      refine lv_iload hx hb dX6_walk_10 (lv_at hl 7 rfl) ?_
      refine lv_iconst (v := nI 3) hx hb dX6_walk_12 (by decide) ?_
      refine jn_cge hx hb (by omega) (by decide) (tgt := 115) dX6_walk_13 (by decide) (fun c_13 => ?_) (fun c_13 => ?_)
      · exact hq _ _ _ _ (f3, n3) dX6_walk_115 ⟨h2, fun x => by rw [h3 x, show lt = 3 by omega]; exact or_congr Iff.rfl cy_end⟩ hP hD hS
      · refine lv_aload_n hx hb dX6_walk_16 rfl (lv_at hl 1 rfl) ?_
        refine lv_iload_n hx hb dX6_walk_17 rfl (lv_at hl 3 rfl) ?_
        refine lv_iload hx hb dX6_walk_18 (lv_at hl 7 rfl) ?_
        refine vp_callSi (va_Run.run (va_runV (As := [.int (nI q), .int (nI lt)]) (rest := []) ⟨hx, hb, hml, hown, hts⟩ (c_X0_targetsOf l g tl (sA (sF σ 7 n3) 18 f3) q lt hA (by omega) (by omega)) (cwV 2 hts gX6_walk_X0_targetsOf rfl rfl rfl (by decide +kernel) ⟨Nat.le_of_ble_eq_true rfl, Nat.le_of_ble_eq_true rfl⟩) (okPV hK hP rfl (gC1 g (sA (sF σ 7 n3) 18 f3) tl)) rfl rfl hl.1 rfl (lv_room (Nat.le_of_ble_eq_true rfl)) dX6_walk_20 ⟨Nat.le_of_ble_eq_true rfl, Nat.le_of_ble_eq_true rfl⟩)) (fun r_20 h_20 => ?_)
        have h_20 : r_20 = (nI (σ.2.1 0 (q * 3 + lt))) := h_20
        subst h_20
        have t32 := hA.1 (q * 3 + lt) (by omega)
        have hcs := cs5_wt hc hd (by decide) (show lt < 3 by omega)
        refine lv_istore (lv' := [(8, .int (nI (σ.2.1 0 (q * 3 + lt)))), (0, .ref (g.2.2.2 29)), (1, .ref (g.2.2.2 1)), (2, .ref (g.2.2.2 27)), (3, .int (nI q)), (4, .int (nI fr)), (5, .int (nI cd)), (6, .int (nI 1)), (7, .int (nI lt))]) hx hb dX6_walk_23 hl (by decide) rfl (fun ls hl => ?_)
        refine lv_iload hx hb dX6_walk_25 (lv_at hl 6 rfl) ?_
        refine lv_iload hx hb dX6_walk_27 (lv_at hl 8 rfl) ?_
        refine vp_callSi (va_Run.run (va_runSN (As := [.int (nI lt)]) (rest := [.int (nI cd)]) ⟨hx, hb, hml, hown, hts⟩ (c_X10_weightOf l lt (by omega)) ⟨(va_cnB 1 hts gX6_walk_X10_weightOf_n34 rfl rfl rfl (hK.2 _ (List.mem_of_getElem? (i := 18) rfl)) (hts (.initialized RX10) (by decide +kernel)) (by decide +kernel) ⟨Nat.le_of_ble_eq_true rfl, Nat.le_of_ble_eq_true rfl⟩), hts (.static yX10_weightOf) (by decide +kernel), trivial⟩ okTS rfl rfl hl.1 rfl (lv_room (Nat.le_of_ble_eq_true rfl)) dX6_walk_29 ⟨Nat.le_of_ble_eq_true rfl, Nat.le_of_ble_eq_true rfl⟩)) (fun r_29 h_29 => ?_)
        subst h_29
        refine jn_iadd hx hb dX6_walk_32 ?_
        refine lv_istore (lv' := [(9, .int (nI (cd + (wt lt)))), (8, .int (nI (σ.2.1 0 (q * 3 + lt)))), (0, .ref (g.2.2.2 29)), (1, .ref (g.2.2.2 1)), (2, .ref (g.2.2.2 27)), (3, .int (nI q)), (4, .int (nI fr)), (5, .int (nI cd)), (6, .int (nI 1)), (7, .int (nI lt))]) hx hb dX6_walk_33 hl (by decide) rfl (fun ls hl => ?_)
        refine lv_iload hx hb dX6_walk_35 (lv_at hl 1 rfl) ?_
        refine lv_aload_n hx hb dX6_walk_37 rfl (lv_at hl 2 rfl) ?_
        refine va_get (D := (g.1, g.2.1)) (ci := 8) (v := .int (nI (σ.1 8))) (C := RX6) (T := TX6) (N := 1) hx hb hts iX6 hown hK.1 hP 29 (gC29 g (sA (sF σ 7 n3) 18 f3) tl) rfl 0 (by decide) k9 (fun _ h9 => h9) rfl dX6_walk_38 ?_
        refine jn_ishr hx hb (by omega) (by omega) dX6_walk_41 ?_
        refine lv_iconst (v := nI 1) hx hb dX6_walk_42 (by decide) ?_
        refine jn_and1 hx hb dX6_walk_43 ?_
        refine jn_beq hx hb (tgt := 53) dX6_walk_44 (by decide) (fun c_44 => ?_) (fun c_44 => ?_)
        · refine lv_aload_n hx hb dX6_walk_53 rfl (lv_at hl 2 rfl) ?_
          refine va_get (D := (g.1, g.2.1)) (ci := 8) (v := .int (nI (σ.1 8))) (C := RX6) (T := TX6) (N := 1) hx hb hts iX6 hown hK.1 hP 29 (gC29 g (sA (sF σ 7 n3) 18 f3) tl) rfl 0 (by decide) k9 (fun _ h9 => h9) rfl dX6_walk_54 ?_
          refine lv_iconst (v := nI 1) hx hb dX6_walk_57 (by decide) ?_
          refine jn_iadd hx hb dX6_walk_58 ?_
          refine lv_istore (lv' := [(10, .int (nI ((σ.1 8) + 1))), (9, .int (nI (cd + (wt lt)))), (8, .int (nI (σ.2.1 0 (q * 3 + lt)))), (0, .ref (g.2.2.2 29)), (1, .ref (g.2.2.2 1)), (2, .ref (g.2.2.2 27)), (3, .int (nI q)), (4, .int (nI fr)), (5, .int (nI cd)), (6, .int (nI 1)), (7, .int (nI lt))]) hx hb dX6_walk_59 hl (by decide) rfl (fun ls hl => ?_)
          have lp61 : ∀ (fu : Nat), ∀ (tt : Nat) (n3 : Nat) (f3 : Nat → Nat), ((σ.1 8) + 1 ≤ tt ∧ tt ≤ 5) → (LOk f3 n3) → (∀ x, inL f3 n3 x ↔ inL (σ.2.1 18) (σ.1 7) x ∨ cyL (σ.2.1 0) (σ.1 8) 3 q fr cd lt x ∨ cyT (σ.2.1 0) (σ.1 8) 3 q fr cd lt tt x) → 5 - tt < fu → ∀ (H : Heap) (locs : List Loc), va_P (g.1, g.2.1) vwCl (wC g (sA (sF σ 7 n3) 18 f3) ++ tl) H → va_D A (wC g (sA (sF σ 7 n3) 18 f3) ++ tl) → va_S A s.heap H locs → ∀ ls : Array Slot, lv_has ls 11 [(0, .ref (g.2.2.2 29)), (1, .ref (g.2.2.2 1)), (2, .ref (g.2.2.2 27)), (3, .int (nI q)), (4, .int (nI fr)), (5, .int (nI cd)), (6, .int (nI 1)), (7, .int (nI lt)), (8, .int (nI (σ.2.1 0 (q * 3 + lt)))), (9, .int (nI (cd + (wt lt)))), (10, .int (nI tt))] → W p l e r_c_X6_walk_d1 s m ([.ref (g.2.2.2 29), .ref (g.2.2.2 1), .ref (g.2.2.2 27), .int (nI q), .int (nI fr), .int (nI cd), .int (nI 1)] : List Value).toArray below meth c H locs 0 0 Q (F0 m 61 ls []) := by
            intro fu
            induction fu with
            | zero => intro tt n3 f3 h4 h5 h6 hf; exact absurd hf (Nat.not_lt_zero _)
            | succ fu ih61 =>
              intro tt n3 f3 h4 h5 h6 hf H locs hP hD hS ls hl
              refine lv_iload hx hb dX6_walk_61 (lv_at hl 10 rfl) ?_
              refine lv_iconst (v := nI 5) hx hb dX6_walk_63 (by decide) ?_
              refine jn_cge hx hb (by omega) (by decide) (tgt := 109) dX6_walk_64 (by decide) (fun c_64 => ?_) (fun c_64 => ?_)
              · refine lv_iinc (v := nI (lt + 1)) (lv' := [(7, .int (nI (lt + 1))), (0, .ref (g.2.2.2 29)), (1, .ref (g.2.2.2 1)), (2, .ref (g.2.2.2 27)), (3, .int (nI q)), (4, .int (nI fr)), (5, .int (nI cd)), (6, .int (nI 1)), (8, .int (nI (σ.2.1 0 (q * 3 + lt)))), (9, .int (nI (cd + (wt lt)))), (10, .int (nI tt))]) hx hb dX6_walk_109 hl (k := 7) rfl (jn_ii _ 1) (by decide) rfl (fun ls hl => ?_)
                refine lv_goto (tgt := 10) hx hb dX6_walk_112 (by decide) ?_
                exact ih10 (lt + 1) n3 f3 (by omega) h5 (fun x => by rw [h6 x, cy_l, show tt = 5 by omega]) (by omega) _ _ hP hD hS _ (lv_sub hl [1, 2, 3, 4, 5, 6, 7, 0] rfl)
              · refine lv_iload hx hb dX6_walk_67 (lv_at hl 8 rfl) ?_
                refine lv_iload hx hb dX6_walk_69 (lv_at hl 4 rfl) ?_
                refine jn_iand hx hb dX6_walk_71 ?_
                refine lv_iconst (v := nI 1) hx hb dX6_walk_72 (by decide) ?_
                refine lv_iload hx hb dX6_walk_73 (lv_at hl 10 rfl) ?_
                refine jn_shl1 hx hb (by omega) dX6_walk_75 ?_
                refine jn_iand hx hb dX6_walk_76 ?_
                refine jn_zeq hx hb (and_ltl (and_ltl (by omega))) (tgt := 103) dX6_walk_77 (by decide) (fun c_77 => ?_) (fun c_77 => ?_)
                · have hc77 := bit3.mp c_77
                  refine lv_iinc (v := nI (tt + 1)) (lv' := [(10, .int (nI (tt + 1))), (0, .ref (g.2.2.2 29)), (1, .ref (g.2.2.2 1)), (2, .ref (g.2.2.2 27)), (3, .int (nI q)), (4, .int (nI fr)), (5, .int (nI cd)), (6, .int (nI 1)), (7, .int (nI lt)), (8, .int (nI (σ.2.1 0 (q * 3 + lt)))), (9, .int (nI (cd + (wt lt))))]) hx hb dX6_walk_103 hl (k := 10) rfl (jn_ii _ 1) (by decide) rfl (fun ls hl => ?_)
                  refine lv_goto (tgt := 61) hx hb dX6_walk_106 (by decide) ?_
                  exact ih61 (tt + 1) n3 f3 (by omega) (by first | exact h_100.1 | exact h5) (fun x => by first | (rw [h_100.2 x, h6 x, cy_t1 (by omega) hc77, or_assoc, or_assoc]) | (rw [h6 x, cy_t0 (by omega) hc77])) (by omega) _ _ hP hD hS _ (lv_sub hl [1, 2, 3, 4, 5, 6, 7, 8, 9, 10, 0] rfl)
                · have hc77 := Classical.not_not.mp (fun z => c_77 (bit3.mpr z))
                  refine lv_aload_n hx hb dX6_walk_80 rfl (lv_at hl 0 rfl) ?_
                  refine lv_aload_n hx hb dX6_walk_81 rfl (lv_at hl 1 rfl) ?_
                  refine lv_aload_n hx hb dX6_walk_82 rfl (lv_at hl 2 rfl) ?_
                  refine lv_iload hx hb dX6_walk_83 (lv_at hl 10 rfl) ?_
                  refine lv_iload hx hb dX6_walk_85 (lv_at hl 4 rfl) ?_
                  refine lv_iconst (v := nI 1) hx hb dX6_walk_87 (by decide) ?_
                  refine lv_iload hx hb dX6_walk_88 (lv_at hl 10 rfl) ?_
                  refine jn_shl1 hx hb (by omega) dX6_walk_90 ?_
                  refine lv_iconst (v := nI 4294967295) hx hb dX6_walk_91 (by decide) ?_
                  refine jn_ixor hx hb dX6_walk_92 ?_
                  refine jn_iand hx hb dX6_walk_93 ?_
                  refine lv_iload hx hb dX6_walk_94 (lv_at hl 9 rfl) ?_
                  refine lv_iload hx hb dX6_walk_96 (lv_at hl 6 rfl) ?_
                  refine lv_iconst (v := nI 1) hx hb dX6_walk_98 (by decide) ?_
                  refine jn_iadd hx hb dX6_walk_99 ?_
                  refine jn_callv (va_runV (As := [.ref (g.2.2.2 1), .ref (g.2.2.2 27), .int (nI tt), .int (nI (fr &&& ((2 ^ tt) ^^^ 4294967295))), .int (nI (cd + (wt lt))), .int (nI (1 + 1))]) (rest := []) ⟨hx, hb, hml, hown, hts⟩ (c_X6_walk_d2 l g tl H.size (sA (sF σ 7 n3) 18 f3) tt (fr &&& ((2 ^ tt) ^^^ 4294967295)) (cd + (wt lt)) hA h5 hs (by omega) (and_ltl hf2) hcs.1.1 hcs.2) (cwV 6 hts gX6_walk_X6_walk rfl rfl rfl (by decide +kernel) ⟨Nat.le_of_ble_eq_true rfl, Nat.le_of_ble_eq_true rfl⟩) (okWV hK hP hD rfl (gC29 g (sA (sF σ 7 n3) 18 f3) tl)) rfl rfl hl.1 rfl (lv_room (Nat.le_of_ble_eq_true rfl)) dX6_walk_100 ⟨Nat.le_of_ble_eq_true rfl, Nat.le_of_ble_eq_true rfl⟩) hD hS hAA (fun u H locs hw_ hP hD hS => ?_)
                  obtain ⟨f2_100, n2_100⟩ := u
                  have h_100 := hw_
                  have h_100 : (LOk f2_100 n2_100) ∧ (∀ x, inL f2_100 n2_100 x ↔ inL (f3) (n3) x ∨ cyW (σ.2.1 0) (σ.1 8) 3 tt (fr &&& ((2 ^ tt) ^^^ 4294967295)) (cd + (wt lt)) x) := h_100
                  have hP : va_P (g.1, g.2.1) vwCl (wC g (sA (sF (sA (sF σ 7 n3) 18 f3) 7 n2_100) 18 f2_100) ++ tl) H := hP
                  have hD : va_D A (wC g (sA (sF (sA (sF σ 7 n3) 18 f3) 7 n2_100) 18 f2_100) ++ tl) := hD
                  refine lv_iinc (v := nI (tt + 1)) (lv' := [(10, .int (nI (tt + 1))), (0, .ref (g.2.2.2 29)), (1, .ref (g.2.2.2 1)), (2, .ref (g.2.2.2 27)), (3, .int (nI q)), (4, .int (nI fr)), (5, .int (nI cd)), (6, .int (nI 1)), (7, .int (nI lt)), (8, .int (nI (σ.2.1 0 (q * 3 + lt)))), (9, .int (nI (cd + (wt lt))))]) hx hb dX6_walk_103 hl (k := 10) rfl (jn_ii _ 1) (by decide) rfl (fun ls hl => ?_)
                  refine lv_goto (tgt := 61) hx hb dX6_walk_106 (by decide) ?_
                  exact ih61 (tt + 1) n2_100 f2_100 (by omega) (by first | exact h_100.1 | exact h5) (fun x => by first | (rw [h_100.2 x, h6 x, cy_t1 (by omega) hc77, or_assoc, or_assoc]) | (rw [h6 x, cy_t0 (by omega) hc77])) (by omega) _ _ hP hD hS _ (lv_sub hl [1, 2, 3, 4, 5, 6, 7, 8, 9, 10, 0] rfl)
          exact lp61 _ ((σ.1 8) + 1) n3 f3 (by omega) (by first | exact h_50.1 | exact h2) (fun x => by first | (rw [h_50.2 x, h3 x, or_assoc]; exact or_congr Iff.rfl (cy_1 c_44)) | (rw [h3 x]; exact or_congr Iff.rfl (cy_0 c_44))) (Nat.lt_succ_self _) _ _ hP hD hS _ (lv_sub hl [3, 4, 5, 6, 7, 8, 9, 10, 2, 1, 0] rfl)
        · refine lv_aload_n hx hb dX6_walk_47 rfl (lv_at hl 4 rfl) ?_
          refine lv_iload hx hb dX6_walk_48 (lv_at hl 0 rfl) ?_
          refine jn_callv (va_runV (As := [.int (nI (cd + (wt lt)))]) (rest := []) ⟨hx, hb, hml, hown, hts⟩ (c_X4_insert_27 l g tl H.size (sA (sF σ 7 n3) 18 f3) (cd + (wt lt)) h2 hcs.1) (cwV 1 hts gX6_walk_X4_insert rfl rfl rfl (by decide +kernel) ⟨Nat.le_of_ble_eq_true rfl, Nat.le_of_ble_eq_true rfl⟩) (okWV hK hP hD rfl (gC27 g (sA (sF σ 7 n3) 18 f3) tl)) rfl rfl hl.1 rfl (lv_room (Nat.le_of_ble_eq_true rfl)) dX6_walk_50 ⟨Nat.le_of_ble_eq_true rfl, Nat.le_of_ble_eq_true rfl⟩) hD hS hAA (fun u H locs hw_ hP hD hS => ?_)
          obtain ⟨f2_50, n2_50⟩ := u
          have h_50 := hw_
          have h_50 : (LOk f2_50 n2_50) ∧ (∀ x, inL f2_50 n2_50 x ↔ inL (f3) (n3) x ∨ x = (cd + (wt lt))) := h_50
          have hP : va_P (g.1, g.2.1) vwCl (wC g (sA (sF (sA (sF σ 7 n3) 18 f3) 7 n2_50) 18 f2_50) ++ tl) H := hP
          have hD : va_D A (wC g (sA (sF (sA (sF σ 7 n3) 18 f3) 7 n2_50) 18 f2_50) ++ tl) := hD
          refine lv_aload_n hx hb dX6_walk_53 rfl (lv_at hl 2 rfl) ?_
          refine va_get (D := (g.1, g.2.1)) (ci := 8) (v := .int (nI (σ.1 8))) (C := RX6) (T := TX6) (N := 1) hx hb hts iX6 hown hK.1 hP 29 (gC29 g (sA (sF (sA (sF σ 7 n3) 18 f3) 7 n2_50) 18 f2_50) tl) rfl 0 (by decide) k9 (fun _ h9 => h9) rfl dX6_walk_54 ?_
          refine lv_iconst (v := nI 1) hx hb dX6_walk_57 (by decide) ?_
          refine jn_iadd hx hb dX6_walk_58 ?_
          refine lv_istore (lv' := [(10, .int (nI ((σ.1 8) + 1))), (9, .int (nI (cd + (wt lt)))), (8, .int (nI (σ.2.1 0 (q * 3 + lt)))), (0, .ref (g.2.2.2 29)), (1, .ref (g.2.2.2 1)), (2, .ref (g.2.2.2 27)), (3, .int (nI q)), (4, .int (nI fr)), (5, .int (nI cd)), (6, .int (nI 1)), (7, .int (nI lt))]) hx hb dX6_walk_59 hl (by decide) rfl (fun ls hl => ?_)
          have lp61 : ∀ (fu : Nat), ∀ (tt : Nat) (n3 : Nat) (f3 : Nat → Nat), ((σ.1 8) + 1 ≤ tt ∧ tt ≤ 5) → (LOk f3 n3) → (∀ x, inL f3 n3 x ↔ inL (σ.2.1 18) (σ.1 7) x ∨ cyL (σ.2.1 0) (σ.1 8) 3 q fr cd lt x ∨ cyT (σ.2.1 0) (σ.1 8) 3 q fr cd lt tt x) → 5 - tt < fu → ∀ (H : Heap) (locs : List Loc), va_P (g.1, g.2.1) vwCl (wC g (sA (sF σ 7 n3) 18 f3) ++ tl) H → va_D A (wC g (sA (sF σ 7 n3) 18 f3) ++ tl) → va_S A s.heap H locs → ∀ ls : Array Slot, lv_has ls 11 [(0, .ref (g.2.2.2 29)), (1, .ref (g.2.2.2 1)), (2, .ref (g.2.2.2 27)), (3, .int (nI q)), (4, .int (nI fr)), (5, .int (nI cd)), (6, .int (nI 1)), (7, .int (nI lt)), (8, .int (nI (σ.2.1 0 (q * 3 + lt)))), (9, .int (nI (cd + (wt lt)))), (10, .int (nI tt))] → W p l e r_c_X6_walk_d1 s m ([.ref (g.2.2.2 29), .ref (g.2.2.2 1), .ref (g.2.2.2 27), .int (nI q), .int (nI fr), .int (nI cd), .int (nI 1)] : List Value).toArray below meth c H locs 0 0 Q (F0 m 61 ls []) := by
            intro fu
            induction fu with
            | zero => intro tt n3 f3 h4 h5 h6 hf; exact absurd hf (Nat.not_lt_zero _)
            | succ fu ih61 =>
              intro tt n3 f3 h4 h5 h6 hf H locs hP hD hS ls hl
              refine lv_iload hx hb dX6_walk_61 (lv_at hl 10 rfl) ?_
              refine lv_iconst (v := nI 5) hx hb dX6_walk_63 (by decide) ?_
              refine jn_cge hx hb (by omega) (by decide) (tgt := 109) dX6_walk_64 (by decide) (fun c_64 => ?_) (fun c_64 => ?_)
              · refine lv_iinc (v := nI (lt + 1)) (lv' := [(7, .int (nI (lt + 1))), (0, .ref (g.2.2.2 29)), (1, .ref (g.2.2.2 1)), (2, .ref (g.2.2.2 27)), (3, .int (nI q)), (4, .int (nI fr)), (5, .int (nI cd)), (6, .int (nI 1)), (8, .int (nI (σ.2.1 0 (q * 3 + lt)))), (9, .int (nI (cd + (wt lt)))), (10, .int (nI tt))]) hx hb dX6_walk_109 hl (k := 7) rfl (jn_ii _ 1) (by decide) rfl (fun ls hl => ?_)
                refine lv_goto (tgt := 10) hx hb dX6_walk_112 (by decide) ?_
                exact ih10 (lt + 1) n3 f3 (by omega) h5 (fun x => by rw [h6 x, cy_l, show tt = 5 by omega]) (by omega) _ _ hP hD hS _ (lv_sub hl [1, 2, 3, 4, 5, 6, 7, 0] rfl)
              · refine lv_iload hx hb dX6_walk_67 (lv_at hl 8 rfl) ?_
                refine lv_iload hx hb dX6_walk_69 (lv_at hl 4 rfl) ?_
                refine jn_iand hx hb dX6_walk_71 ?_
                refine lv_iconst (v := nI 1) hx hb dX6_walk_72 (by decide) ?_
                refine lv_iload hx hb dX6_walk_73 (lv_at hl 10 rfl) ?_
                refine jn_shl1 hx hb (by omega) dX6_walk_75 ?_
                refine jn_iand hx hb dX6_walk_76 ?_
                refine jn_zeq hx hb (and_ltl (and_ltl (by omega))) (tgt := 103) dX6_walk_77 (by decide) (fun c_77 => ?_) (fun c_77 => ?_)
                · have hc77 := bit3.mp c_77
                  refine lv_iinc (v := nI (tt + 1)) (lv' := [(10, .int (nI (tt + 1))), (0, .ref (g.2.2.2 29)), (1, .ref (g.2.2.2 1)), (2, .ref (g.2.2.2 27)), (3, .int (nI q)), (4, .int (nI fr)), (5, .int (nI cd)), (6, .int (nI 1)), (7, .int (nI lt)), (8, .int (nI (σ.2.1 0 (q * 3 + lt)))), (9, .int (nI (cd + (wt lt))))]) hx hb dX6_walk_103 hl (k := 10) rfl (jn_ii _ 1) (by decide) rfl (fun ls hl => ?_)
                  refine lv_goto (tgt := 61) hx hb dX6_walk_106 (by decide) ?_
                  exact ih61 (tt + 1) n3 f3 (by omega) (by first | exact h_100.1 | exact h5) (fun x => by first | (rw [h_100.2 x, h6 x, cy_t1 (by omega) hc77, or_assoc, or_assoc]) | (rw [h6 x, cy_t0 (by omega) hc77])) (by omega) _ _ hP hD hS _ (lv_sub hl [1, 2, 3, 4, 5, 6, 7, 8, 9, 10, 0] rfl)
                · have hc77 := Classical.not_not.mp (fun z => c_77 (bit3.mpr z))
                  refine lv_aload_n hx hb dX6_walk_80 rfl (lv_at hl 0 rfl) ?_
                  refine lv_aload_n hx hb dX6_walk_81 rfl (lv_at hl 1 rfl) ?_
                  refine lv_aload_n hx hb dX6_walk_82 rfl (lv_at hl 2 rfl) ?_
                  refine lv_iload hx hb dX6_walk_83 (lv_at hl 10 rfl) ?_
                  refine lv_iload hx hb dX6_walk_85 (lv_at hl 4 rfl) ?_
                  refine lv_iconst (v := nI 1) hx hb dX6_walk_87 (by decide) ?_
                  refine lv_iload hx hb dX6_walk_88 (lv_at hl 10 rfl) ?_
                  refine jn_shl1 hx hb (by omega) dX6_walk_90 ?_
                  refine lv_iconst (v := nI 4294967295) hx hb dX6_walk_91 (by decide) ?_
                  refine jn_ixor hx hb dX6_walk_92 ?_
                  refine jn_iand hx hb dX6_walk_93 ?_
                  refine lv_iload hx hb dX6_walk_94 (lv_at hl 9 rfl) ?_
                  refine lv_iload hx hb dX6_walk_96 (lv_at hl 6 rfl) ?_
                  refine lv_iconst (v := nI 1) hx hb dX6_walk_98 (by decide) ?_
                  refine jn_iadd hx hb dX6_walk_99 ?_
                  refine jn_callv (va_runV (As := [.ref (g.2.2.2 1), .ref (g.2.2.2 27), .int (nI tt), .int (nI (fr &&& ((2 ^ tt) ^^^ 4294967295))), .int (nI (cd + (wt lt))), .int (nI (1 + 1))]) (rest := []) ⟨hx, hb, hml, hown, hts⟩ (c_X6_walk_d2 l g tl H.size (sA (sF σ 7 n3) 18 f3) tt (fr &&& ((2 ^ tt) ^^^ 4294967295)) (cd + (wt lt)) hA h5 hs (by omega) (and_ltl hf2) hcs.1.1 hcs.2) (cwV 6 hts gX6_walk_X6_walk rfl rfl rfl (by decide +kernel) ⟨Nat.le_of_ble_eq_true rfl, Nat.le_of_ble_eq_true rfl⟩) (okWV hK hP hD rfl (gC29 g (sA (sF σ 7 n3) 18 f3) tl)) rfl rfl hl.1 rfl (lv_room (Nat.le_of_ble_eq_true rfl)) dX6_walk_100 ⟨Nat.le_of_ble_eq_true rfl, Nat.le_of_ble_eq_true rfl⟩) hD hS hAA (fun u H locs hw_ hP hD hS => ?_)
                  obtain ⟨f2_100, n2_100⟩ := u
                  have h_100 := hw_
                  have h_100 : (LOk f2_100 n2_100) ∧ (∀ x, inL f2_100 n2_100 x ↔ inL (f3) (n3) x ∨ cyW (σ.2.1 0) (σ.1 8) 3 tt (fr &&& ((2 ^ tt) ^^^ 4294967295)) (cd + (wt lt)) x) := h_100
                  have hP : va_P (g.1, g.2.1) vwCl (wC g (sA (sF (sA (sF σ 7 n3) 18 f3) 7 n2_100) 18 f2_100) ++ tl) H := hP
                  have hD : va_D A (wC g (sA (sF (sA (sF σ 7 n3) 18 f3) 7 n2_100) 18 f2_100) ++ tl) := hD
                  refine lv_iinc (v := nI (tt + 1)) (lv' := [(10, .int (nI (tt + 1))), (0, .ref (g.2.2.2 29)), (1, .ref (g.2.2.2 1)), (2, .ref (g.2.2.2 27)), (3, .int (nI q)), (4, .int (nI fr)), (5, .int (nI cd)), (6, .int (nI 1)), (7, .int (nI lt)), (8, .int (nI (σ.2.1 0 (q * 3 + lt)))), (9, .int (nI (cd + (wt lt))))]) hx hb dX6_walk_103 hl (k := 10) rfl (jn_ii _ 1) (by decide) rfl (fun ls hl => ?_)
                  refine lv_goto (tgt := 61) hx hb dX6_walk_106 (by decide) ?_
                  exact ih61 (tt + 1) n2_100 f2_100 (by omega) (by first | exact h_100.1 | exact h5) (fun x => by first | (rw [h_100.2 x, h6 x, cy_t1 (by omega) hc77, or_assoc, or_assoc]) | (rw [h6 x, cy_t0 (by omega) hc77])) (by omega) _ _ hP hD hS _ (lv_sub hl [1, 2, 3, 4, 5, 6, 7, 8, 9, 10, 0] rfl)
          exact lp61 _ ((σ.1 8) + 1) n2_50 f2_50 (by omega) (by first | exact h_50.1 | exact h2) (fun x => by first | (rw [h_50.2 x, h3 x, or_assoc]; exact or_congr Iff.rfl (cy_1 c_44)) | (rw [h3 x]; exact or_congr Iff.rfl (cy_0 c_44))) (Nat.lt_succ_self _) _ _ hP hD hS _ (lv_sub hl [3, 4, 5, 6, 7, 8, 9, 10, 2, 1, 0] rfl)
  exact lp10 _ 0 (σ.1 7) (σ.2.1 18) (by decide) hL (fun x => ⟨Or.inl, fun z => z.elim id (fun w => absurd w cy_no)⟩) (Nat.lt_succ_self _) _ _ hP hD hS _ (lv_sub hl [1, 2, 3, 4, 5, 6, 7, 0] rfl)

abbrev r_c_X6_walk_d0 : Room := { frames := 6, cells := 0, slots := 0, locals := 164 }
set_option maxHeartbeats 4000000 in
set_option maxRecDepth 100000 in
theorem c_X6_walk_d0 (l : Launch) (g : GC) (tl : va_W) (sz : Nat) (σ : SS) (q fr cd : Nat) (hA : OkA σ) (hL : LOk (σ.2.1 18) (σ.1 7)) (hs : (σ.1 8) < 5) (hq : q < 5) (hf2 : fr < 4294967296) (hc : cd < 1000) (hd : dsum cd = 0) : Met l yX6_walk wsX6_walk r_c_X6_walk_d0 (va_Pc [.ref (g.2.2.2 29), .ref (g.2.2.2 1), .ref (g.2.2.2 27), .int (nI q), .int (nI fr), .int (nI cd), .int (nI 0)] (PW g (wC g σ ++ tl) sz)) (va_Qv (fun (z : (Nat → Nat) × Nat) => match z with | (f2, n2) => (LOk f2 n2) ∧ (∀ x, inL f2 n2 x ↔ inL (σ.2.1 18) (σ.1 7) x ∨ cyW (σ.2.1 0) (σ.1 8) 5 q fr cd x)) (fun (z : (Nat → Nat) × Nat) t => BW g (va_A (wC g σ ++ tl) sz) ((fun z : (Nat → Nat) × Nat => match z with | (f2, n2) => wC g (sA (sF σ 7 n2) 18 f2) ++ tl) z) t) (va_A (wC g σ ++ tl) sz)) 0 0 (va_A (wC g σ ++ tl) sz) := by
  refine jn_sv (wf := fun z : (Nat → Nat) × Nat => match z with | (f2, n2) => wC g (sA (sF σ 7 n2) 18 f2) ++ tl) (cc := cX6_walk) (maxL := 11) (own := RX6) (by decide) rfl rfl (Nat.le_of_ble_eq_true rfl) ?_
  intro p e s m below meth c Q A hx hb hml hown hts hK hP hD hS hAA hq ls hl
  obtain ⟨H, eH⟩ : ∃ z, z = s.heap := ⟨_, rfl⟩
  obtain ⟨locs, el⟩ : ∃ z : List Loc, z = [] := ⟨_, rfl⟩
  rw [← eH] at hP
  have hS : va_S A s.heap H locs := by rw [eH, el]; exact hS
  have goal0 : W p l e r_c_X6_walk_d0 s m ([.ref (g.2.2.2 29), .ref (g.2.2.2 1), .ref (g.2.2.2 27), .int (nI q), .int (nI fr), .int (nI cd), .int (nI 0)] : List Value).toArray below meth c H locs 0 0 Q (F0 m 0 ls []) → W p l e r_c_X6_walk_d0 s m ([.ref (g.2.2.2 29), .ref (g.2.2.2 1), .ref (g.2.2.2 27), .int (nI q), .int (nI fr), .int (nI cd), .int (nI 0)] : List Value).toArray below meth c s.heap [] 0 0 Q (F0 m 0 ls []) := fun h => by rw [eH, el] at h; exact h
  refine goal0 ?_
  have hl : lv_has ls 11 [(0, .ref (g.2.2.2 29)), (1, .ref (g.2.2.2 1)), (2, .ref (g.2.2.2 27)), (3, .int (nI q)), (4, .int (nI fr)), (5, .int (nI cd)), (6, .int (nI 0))] := hl
  have iX6 : ∀ w ∈ wsX60, w ∈ wsX6_walk := by decide +kernel
  have k9 := hts (.fieldLink RX6 9 "JumpingAutomata$CycleFinder" "start" "I") (by decide +kernel)
  refine lv_iload hx hb dX6_walk_0 (lv_at hl 6 rfl) ?_
  refine lv_iconst (v := nI 5) hx hb dX6_walk_2 (by decide) ?_
  refine jn_clt hx hb (by decide) (by decide) (tgt := 7) dX6_walk_3 (by decide) (fun c_3 => ?_) (fun c_3 => absurd c_3 (by decide))
  refine lv_iconst (v := nI 0) hx hb dX6_walk_7 (by decide) ?_
  refine lv_istore (lv' := [(7, .int (nI 0)), (0, .ref (g.2.2.2 29)), (1, .ref (g.2.2.2 1)), (2, .ref (g.2.2.2 27)), (3, .int (nI q)), (4, .int (nI fr)), (5, .int (nI cd)), (6, .int (nI 0))]) hx hb dX6_walk_8 hl (by decide) rfl (fun ls hl => ?_)
  have lp10 : ∀ (fu : Nat), ∀ (lt : Nat) (n3 : Nat) (f3 : Nat → Nat), (lt ≤ 3) → (LOk f3 n3) → (∀ x, inL f3 n3 x ↔ inL (σ.2.1 18) (σ.1 7) x ∨ cyL (σ.2.1 0) (σ.1 8) 4 q fr cd lt x) → 3 - lt < fu → ∀ (H : Heap) (locs : List Loc), va_P (g.1, g.2.1) vwCl (wC g (sA (sF σ 7 n3) 18 f3) ++ tl) H → va_D A (wC g (sA (sF σ 7 n3) 18 f3) ++ tl) → va_S A s.heap H locs → ∀ ls : Array Slot, lv_has ls 11 [(0, .ref (g.2.2.2 29)), (1, .ref (g.2.2.2 1)), (2, .ref (g.2.2.2 27)), (3, .int (nI q)), (4, .int (nI fr)), (5, .int (nI cd)), (6, .int (nI 0)), (7, .int (nI lt))] → W p l e r_c_X6_walk_d0 s m ([.ref (g.2.2.2 29), .ref (g.2.2.2 1), .ref (g.2.2.2 27), .int (nI q), .int (nI fr), .int (nI cd), .int (nI 0)] : List Value).toArray below meth c H locs 0 0 Q (F0 m 10 ls []) := by
    intro fu
    induction fu with
    | zero => intro lt n3 f3 h1 h2 h3 hf; exact absurd hf (Nat.not_lt_zero _)
    | succ fu ih10 =>
      intro lt n3 f3 h1 h2 h3 hf H locs hP hD hS ls hl
      refine lv_iload hx hb dX6_walk_10 (lv_at hl 7 rfl) ?_
      refine lv_iconst (v := nI 3) hx hb dX6_walk_12 (by decide) ?_
      refine jn_cge hx hb (by omega) (by decide) (tgt := 115) dX6_walk_13 (by decide) (fun c_13 => ?_) (fun c_13 => ?_)
      · exact hq _ _ _ _ (f3, n3) dX6_walk_115 ⟨h2, fun x => by rw [h3 x, show lt = 3 by omega]; exact or_congr Iff.rfl cy_end⟩ hP hD hS
      · refine lv_aload_n hx hb dX6_walk_16 rfl (lv_at hl 1 rfl) ?_
        refine lv_iload_n hx hb dX6_walk_17 rfl (lv_at hl 3 rfl) ?_
        refine lv_iload hx hb dX6_walk_18 (lv_at hl 7 rfl) ?_
        refine vp_callSi (va_Run.run (va_runV (As := [.int (nI q), .int (nI lt)]) (rest := []) ⟨hx, hb, hml, hown, hts⟩ (c_X0_targetsOf l g tl (sA (sF σ 7 n3) 18 f3) q lt hA (by omega) (by omega)) (cwV 2 hts gX6_walk_X0_targetsOf rfl rfl rfl (by decide +kernel) ⟨Nat.le_of_ble_eq_true rfl, Nat.le_of_ble_eq_true rfl⟩) (okPV hK hP rfl (gC1 g (sA (sF σ 7 n3) 18 f3) tl)) rfl rfl hl.1 rfl (lv_room (Nat.le_of_ble_eq_true rfl)) dX6_walk_20 ⟨Nat.le_of_ble_eq_true rfl, Nat.le_of_ble_eq_true rfl⟩)) (fun r_20 h_20 => ?_)
        have h_20 : r_20 = (nI (σ.2.1 0 (q * 3 + lt))) := h_20
        subst h_20
        have t32 := hA.1 (q * 3 + lt) (by omega)
        have hcs := cs5_wt hc hd (by decide) (show lt < 3 by omega)
        refine lv_istore (lv' := [(8, .int (nI (σ.2.1 0 (q * 3 + lt)))), (0, .ref (g.2.2.2 29)), (1, .ref (g.2.2.2 1)), (2, .ref (g.2.2.2 27)), (3, .int (nI q)), (4, .int (nI fr)), (5, .int (nI cd)), (6, .int (nI 0)), (7, .int (nI lt))]) hx hb dX6_walk_23 hl (by decide) rfl (fun ls hl => ?_)
        refine lv_iload hx hb dX6_walk_25 (lv_at hl 6 rfl) ?_
        refine lv_iload hx hb dX6_walk_27 (lv_at hl 8 rfl) ?_
        refine vp_callSi (va_Run.run (va_runSN (As := [.int (nI lt)]) (rest := [.int (nI cd)]) ⟨hx, hb, hml, hown, hts⟩ (c_X10_weightOf l lt (by omega)) ⟨(va_cnB 1 hts gX6_walk_X10_weightOf_n34 rfl rfl rfl (hK.2 _ (List.mem_of_getElem? (i := 18) rfl)) (hts (.initialized RX10) (by decide +kernel)) (by decide +kernel) ⟨Nat.le_of_ble_eq_true rfl, Nat.le_of_ble_eq_true rfl⟩), hts (.static yX10_weightOf) (by decide +kernel), trivial⟩ okTS rfl rfl hl.1 rfl (lv_room (Nat.le_of_ble_eq_true rfl)) dX6_walk_29 ⟨Nat.le_of_ble_eq_true rfl, Nat.le_of_ble_eq_true rfl⟩)) (fun r_29 h_29 => ?_)
        subst h_29
        refine jn_iadd hx hb dX6_walk_32 ?_
        refine lv_istore (lv' := [(9, .int (nI (cd + (wt lt)))), (8, .int (nI (σ.2.1 0 (q * 3 + lt)))), (0, .ref (g.2.2.2 29)), (1, .ref (g.2.2.2 1)), (2, .ref (g.2.2.2 27)), (3, .int (nI q)), (4, .int (nI fr)), (5, .int (nI cd)), (6, .int (nI 0)), (7, .int (nI lt))]) hx hb dX6_walk_33 hl (by decide) rfl (fun ls hl => ?_)
        refine lv_iload hx hb dX6_walk_35 (lv_at hl 1 rfl) ?_
        refine lv_aload_n hx hb dX6_walk_37 rfl (lv_at hl 2 rfl) ?_
        refine va_get (D := (g.1, g.2.1)) (ci := 8) (v := .int (nI (σ.1 8))) (C := RX6) (T := TX6) (N := 1) hx hb hts iX6 hown hK.1 hP 29 (gC29 g (sA (sF σ 7 n3) 18 f3) tl) rfl 0 (by decide) k9 (fun _ h9 => h9) rfl dX6_walk_38 ?_
        refine jn_ishr hx hb (by omega) (by omega) dX6_walk_41 ?_
        refine lv_iconst (v := nI 1) hx hb dX6_walk_42 (by decide) ?_
        refine jn_and1 hx hb dX6_walk_43 ?_
        refine jn_beq hx hb (tgt := 53) dX6_walk_44 (by decide) (fun c_44 => ?_) (fun c_44 => ?_)
        · refine lv_aload_n hx hb dX6_walk_53 rfl (lv_at hl 2 rfl) ?_
          refine va_get (D := (g.1, g.2.1)) (ci := 8) (v := .int (nI (σ.1 8))) (C := RX6) (T := TX6) (N := 1) hx hb hts iX6 hown hK.1 hP 29 (gC29 g (sA (sF σ 7 n3) 18 f3) tl) rfl 0 (by decide) k9 (fun _ h9 => h9) rfl dX6_walk_54 ?_
          refine lv_iconst (v := nI 1) hx hb dX6_walk_57 (by decide) ?_
          refine jn_iadd hx hb dX6_walk_58 ?_
          refine lv_istore (lv' := [(10, .int (nI ((σ.1 8) + 1))), (9, .int (nI (cd + (wt lt)))), (8, .int (nI (σ.2.1 0 (q * 3 + lt)))), (0, .ref (g.2.2.2 29)), (1, .ref (g.2.2.2 1)), (2, .ref (g.2.2.2 27)), (3, .int (nI q)), (4, .int (nI fr)), (5, .int (nI cd)), (6, .int (nI 0)), (7, .int (nI lt))]) hx hb dX6_walk_59 hl (by decide) rfl (fun ls hl => ?_)
          have lp61 : ∀ (fu : Nat), ∀ (tt : Nat) (n3 : Nat) (f3 : Nat → Nat), ((σ.1 8) + 1 ≤ tt ∧ tt ≤ 5) → (LOk f3 n3) → (∀ x, inL f3 n3 x ↔ inL (σ.2.1 18) (σ.1 7) x ∨ cyL (σ.2.1 0) (σ.1 8) 4 q fr cd lt x ∨ cyT (σ.2.1 0) (σ.1 8) 4 q fr cd lt tt x) → 5 - tt < fu → ∀ (H : Heap) (locs : List Loc), va_P (g.1, g.2.1) vwCl (wC g (sA (sF σ 7 n3) 18 f3) ++ tl) H → va_D A (wC g (sA (sF σ 7 n3) 18 f3) ++ tl) → va_S A s.heap H locs → ∀ ls : Array Slot, lv_has ls 11 [(0, .ref (g.2.2.2 29)), (1, .ref (g.2.2.2 1)), (2, .ref (g.2.2.2 27)), (3, .int (nI q)), (4, .int (nI fr)), (5, .int (nI cd)), (6, .int (nI 0)), (7, .int (nI lt)), (8, .int (nI (σ.2.1 0 (q * 3 + lt)))), (9, .int (nI (cd + (wt lt)))), (10, .int (nI tt))] → W p l e r_c_X6_walk_d0 s m ([.ref (g.2.2.2 29), .ref (g.2.2.2 1), .ref (g.2.2.2 27), .int (nI q), .int (nI fr), .int (nI cd), .int (nI 0)] : List Value).toArray below meth c H locs 0 0 Q (F0 m 61 ls []) := by
            intro fu
            induction fu with
            | zero => intro tt n3 f3 h4 h5 h6 hf; exact absurd hf (Nat.not_lt_zero _)
            | succ fu ih61 =>
              intro tt n3 f3 h4 h5 h6 hf H locs hP hD hS ls hl
              refine lv_iload hx hb dX6_walk_61 (lv_at hl 10 rfl) ?_
              refine lv_iconst (v := nI 5) hx hb dX6_walk_63 (by decide) ?_
              refine jn_cge hx hb (by omega) (by decide) (tgt := 109) dX6_walk_64 (by decide) (fun c_64 => ?_) (fun c_64 => ?_)
              · refine lv_iinc (v := nI (lt + 1)) (lv' := [(7, .int (nI (lt + 1))), (0, .ref (g.2.2.2 29)), (1, .ref (g.2.2.2 1)), (2, .ref (g.2.2.2 27)), (3, .int (nI q)), (4, .int (nI fr)), (5, .int (nI cd)), (6, .int (nI 0)), (8, .int (nI (σ.2.1 0 (q * 3 + lt)))), (9, .int (nI (cd + (wt lt)))), (10, .int (nI tt))]) hx hb dX6_walk_109 hl (k := 7) rfl (jn_ii _ 1) (by decide) rfl (fun ls hl => ?_)
                refine lv_goto (tgt := 10) hx hb dX6_walk_112 (by decide) ?_
                exact ih10 (lt + 1) n3 f3 (by omega) h5 (fun x => by rw [h6 x, cy_l, show tt = 5 by omega]) (by omega) _ _ hP hD hS _ (lv_sub hl [1, 2, 3, 4, 5, 6, 7, 0] rfl)
              · refine lv_iload hx hb dX6_walk_67 (lv_at hl 8 rfl) ?_
                refine lv_iload hx hb dX6_walk_69 (lv_at hl 4 rfl) ?_
                refine jn_iand hx hb dX6_walk_71 ?_
                refine lv_iconst (v := nI 1) hx hb dX6_walk_72 (by decide) ?_
                refine lv_iload hx hb dX6_walk_73 (lv_at hl 10 rfl) ?_
                refine jn_shl1 hx hb (by omega) dX6_walk_75 ?_
                refine jn_iand hx hb dX6_walk_76 ?_
                refine jn_zeq hx hb (and_ltl (and_ltl (by omega))) (tgt := 103) dX6_walk_77 (by decide) (fun c_77 => ?_) (fun c_77 => ?_)
                · have hc77 := bit3.mp c_77
                  refine lv_iinc (v := nI (tt + 1)) (lv' := [(10, .int (nI (tt + 1))), (0, .ref (g.2.2.2 29)), (1, .ref (g.2.2.2 1)), (2, .ref (g.2.2.2 27)), (3, .int (nI q)), (4, .int (nI fr)), (5, .int (nI cd)), (6, .int (nI 0)), (7, .int (nI lt)), (8, .int (nI (σ.2.1 0 (q * 3 + lt)))), (9, .int (nI (cd + (wt lt))))]) hx hb dX6_walk_103 hl (k := 10) rfl (jn_ii _ 1) (by decide) rfl (fun ls hl => ?_)
                  refine lv_goto (tgt := 61) hx hb dX6_walk_106 (by decide) ?_
                  exact ih61 (tt + 1) n3 f3 (by omega) (by first | exact h_100.1 | exact h5) (fun x => by first | (rw [h_100.2 x, h6 x, cy_t1 (by omega) hc77, or_assoc, or_assoc]) | (rw [h6 x, cy_t0 (by omega) hc77])) (by omega) _ _ hP hD hS _ (lv_sub hl [1, 2, 3, 4, 5, 6, 7, 8, 9, 10, 0] rfl)
                · have hc77 := Classical.not_not.mp (fun z => c_77 (bit3.mpr z))
                  refine lv_aload_n hx hb dX6_walk_80 rfl (lv_at hl 0 rfl) ?_
                  refine lv_aload_n hx hb dX6_walk_81 rfl (lv_at hl 1 rfl) ?_
                  refine lv_aload_n hx hb dX6_walk_82 rfl (lv_at hl 2 rfl) ?_
                  refine lv_iload hx hb dX6_walk_83 (lv_at hl 10 rfl) ?_
                  refine lv_iload hx hb dX6_walk_85 (lv_at hl 4 rfl) ?_
                  refine lv_iconst (v := nI 1) hx hb dX6_walk_87 (by decide) ?_
                  refine lv_iload hx hb dX6_walk_88 (lv_at hl 10 rfl) ?_
                  refine jn_shl1 hx hb (by omega) dX6_walk_90 ?_
                  refine lv_iconst (v := nI 4294967295) hx hb dX6_walk_91 (by decide) ?_
                  refine jn_ixor hx hb dX6_walk_92 ?_
                  refine jn_iand hx hb dX6_walk_93 ?_
                  refine lv_iload hx hb dX6_walk_94 (lv_at hl 9 rfl) ?_
                  refine lv_iload hx hb dX6_walk_96 (lv_at hl 6 rfl) ?_
                  refine lv_iconst (v := nI 1) hx hb dX6_walk_98 (by decide) ?_
                  refine jn_iadd hx hb dX6_walk_99 ?_
                  refine jn_callv (va_runV (As := [.ref (g.2.2.2 1), .ref (g.2.2.2 27), .int (nI tt), .int (nI (fr &&& ((2 ^ tt) ^^^ 4294967295))), .int (nI (cd + (wt lt))), .int (nI (0 + 1))]) (rest := []) ⟨hx, hb, hml, hown, hts⟩ (c_X6_walk_d1 l g tl H.size (sA (sF σ 7 n3) 18 f3) tt (fr &&& ((2 ^ tt) ^^^ 4294967295)) (cd + (wt lt)) hA h5 hs (by omega) (and_ltl hf2) hcs.1.1 hcs.2) (cwV 6 hts gX6_walk_X6_walk rfl rfl rfl (by decide +kernel) ⟨Nat.le_of_ble_eq_true rfl, Nat.le_of_ble_eq_true rfl⟩) (okWV hK hP hD rfl (gC29 g (sA (sF σ 7 n3) 18 f3) tl)) rfl rfl hl.1 rfl (lv_room (Nat.le_of_ble_eq_true rfl)) dX6_walk_100 ⟨Nat.le_of_ble_eq_true rfl, Nat.le_of_ble_eq_true rfl⟩) hD hS hAA (fun u H locs hw_ hP hD hS => ?_)
                  obtain ⟨f2_100, n2_100⟩ := u
                  have h_100 := hw_
                  have h_100 : (LOk f2_100 n2_100) ∧ (∀ x, inL f2_100 n2_100 x ↔ inL (f3) (n3) x ∨ cyW (σ.2.1 0) (σ.1 8) 4 tt (fr &&& ((2 ^ tt) ^^^ 4294967295)) (cd + (wt lt)) x) := h_100
                  have hP : va_P (g.1, g.2.1) vwCl (wC g (sA (sF (sA (sF σ 7 n3) 18 f3) 7 n2_100) 18 f2_100) ++ tl) H := hP
                  have hD : va_D A (wC g (sA (sF (sA (sF σ 7 n3) 18 f3) 7 n2_100) 18 f2_100) ++ tl) := hD
                  refine lv_iinc (v := nI (tt + 1)) (lv' := [(10, .int (nI (tt + 1))), (0, .ref (g.2.2.2 29)), (1, .ref (g.2.2.2 1)), (2, .ref (g.2.2.2 27)), (3, .int (nI q)), (4, .int (nI fr)), (5, .int (nI cd)), (6, .int (nI 0)), (7, .int (nI lt)), (8, .int (nI (σ.2.1 0 (q * 3 + lt)))), (9, .int (nI (cd + (wt lt))))]) hx hb dX6_walk_103 hl (k := 10) rfl (jn_ii _ 1) (by decide) rfl (fun ls hl => ?_)
                  refine lv_goto (tgt := 61) hx hb dX6_walk_106 (by decide) ?_
                  exact ih61 (tt + 1) n2_100 f2_100 (by omega) (by first | exact h_100.1 | exact h5) (fun x => by first | (rw [h_100.2 x, h6 x, cy_t1 (by omega) hc77, or_assoc, or_assoc]) | (rw [h6 x, cy_t0 (by omega) hc77])) (by omega) _ _ hP hD hS _ (lv_sub hl [1, 2, 3, 4, 5, 6, 7, 8, 9, 10, 0] rfl)
          exact lp61 _ ((σ.1 8) + 1) n3 f3 (by omega) (by first | exact h_50.1 | exact h2) (fun x => by first | (rw [h_50.2 x, h3 x, or_assoc]; exact or_congr Iff.rfl (cy_1 c_44)) | (rw [h3 x]; exact or_congr Iff.rfl (cy_0 c_44))) (Nat.lt_succ_self _) _ _ hP hD hS _ (lv_sub hl [3, 4, 5, 6, 7, 8, 9, 10, 2, 1, 0] rfl)
        · refine lv_aload_n hx hb dX6_walk_47 rfl (lv_at hl 4 rfl) ?_
          refine lv_iload hx hb dX6_walk_48 (lv_at hl 0 rfl) ?_
          refine jn_callv (va_runV (As := [.int (nI (cd + (wt lt)))]) (rest := []) ⟨hx, hb, hml, hown, hts⟩ (c_X4_insert_27 l g tl H.size (sA (sF σ 7 n3) 18 f3) (cd + (wt lt)) h2 hcs.1) (cwV 1 hts gX6_walk_X4_insert rfl rfl rfl (by decide +kernel) ⟨Nat.le_of_ble_eq_true rfl, Nat.le_of_ble_eq_true rfl⟩) (okWV hK hP hD rfl (gC27 g (sA (sF σ 7 n3) 18 f3) tl)) rfl rfl hl.1 rfl (lv_room (Nat.le_of_ble_eq_true rfl)) dX6_walk_50 ⟨Nat.le_of_ble_eq_true rfl, Nat.le_of_ble_eq_true rfl⟩) hD hS hAA (fun u H locs hw_ hP hD hS => ?_)
          obtain ⟨f2_50, n2_50⟩ := u
          have h_50 := hw_
          have h_50 : (LOk f2_50 n2_50) ∧ (∀ x, inL f2_50 n2_50 x ↔ inL (f3) (n3) x ∨ x = (cd + (wt lt))) := h_50
          have hP : va_P (g.1, g.2.1) vwCl (wC g (sA (sF (sA (sF σ 7 n3) 18 f3) 7 n2_50) 18 f2_50) ++ tl) H := hP
          have hD : va_D A (wC g (sA (sF (sA (sF σ 7 n3) 18 f3) 7 n2_50) 18 f2_50) ++ tl) := hD
          refine lv_aload_n hx hb dX6_walk_53 rfl (lv_at hl 2 rfl) ?_
          refine va_get (D := (g.1, g.2.1)) (ci := 8) (v := .int (nI (σ.1 8))) (C := RX6) (T := TX6) (N := 1) hx hb hts iX6 hown hK.1 hP 29 (gC29 g (sA (sF (sA (sF σ 7 n3) 18 f3) 7 n2_50) 18 f2_50) tl) rfl 0 (by decide) k9 (fun _ h9 => h9) rfl dX6_walk_54 ?_
          refine lv_iconst (v := nI 1) hx hb dX6_walk_57 (by decide) ?_
          refine jn_iadd hx hb dX6_walk_58 ?_
          refine lv_istore (lv' := [(10, .int (nI ((σ.1 8) + 1))), (9, .int (nI (cd + (wt lt)))), (8, .int (nI (σ.2.1 0 (q * 3 + lt)))), (0, .ref (g.2.2.2 29)), (1, .ref (g.2.2.2 1)), (2, .ref (g.2.2.2 27)), (3, .int (nI q)), (4, .int (nI fr)), (5, .int (nI cd)), (6, .int (nI 0)), (7, .int (nI lt))]) hx hb dX6_walk_59 hl (by decide) rfl (fun ls hl => ?_)
          have lp61 : ∀ (fu : Nat), ∀ (tt : Nat) (n3 : Nat) (f3 : Nat → Nat), ((σ.1 8) + 1 ≤ tt ∧ tt ≤ 5) → (LOk f3 n3) → (∀ x, inL f3 n3 x ↔ inL (σ.2.1 18) (σ.1 7) x ∨ cyL (σ.2.1 0) (σ.1 8) 4 q fr cd lt x ∨ cyT (σ.2.1 0) (σ.1 8) 4 q fr cd lt tt x) → 5 - tt < fu → ∀ (H : Heap) (locs : List Loc), va_P (g.1, g.2.1) vwCl (wC g (sA (sF σ 7 n3) 18 f3) ++ tl) H → va_D A (wC g (sA (sF σ 7 n3) 18 f3) ++ tl) → va_S A s.heap H locs → ∀ ls : Array Slot, lv_has ls 11 [(0, .ref (g.2.2.2 29)), (1, .ref (g.2.2.2 1)), (2, .ref (g.2.2.2 27)), (3, .int (nI q)), (4, .int (nI fr)), (5, .int (nI cd)), (6, .int (nI 0)), (7, .int (nI lt)), (8, .int (nI (σ.2.1 0 (q * 3 + lt)))), (9, .int (nI (cd + (wt lt)))), (10, .int (nI tt))] → W p l e r_c_X6_walk_d0 s m ([.ref (g.2.2.2 29), .ref (g.2.2.2 1), .ref (g.2.2.2 27), .int (nI q), .int (nI fr), .int (nI cd), .int (nI 0)] : List Value).toArray below meth c H locs 0 0 Q (F0 m 61 ls []) := by
            intro fu
            induction fu with
            | zero => intro tt n3 f3 h4 h5 h6 hf; exact absurd hf (Nat.not_lt_zero _)
            | succ fu ih61 =>
              intro tt n3 f3 h4 h5 h6 hf H locs hP hD hS ls hl
              refine lv_iload hx hb dX6_walk_61 (lv_at hl 10 rfl) ?_
              refine lv_iconst (v := nI 5) hx hb dX6_walk_63 (by decide) ?_
              refine jn_cge hx hb (by omega) (by decide) (tgt := 109) dX6_walk_64 (by decide) (fun c_64 => ?_) (fun c_64 => ?_)
              · refine lv_iinc (v := nI (lt + 1)) (lv' := [(7, .int (nI (lt + 1))), (0, .ref (g.2.2.2 29)), (1, .ref (g.2.2.2 1)), (2, .ref (g.2.2.2 27)), (3, .int (nI q)), (4, .int (nI fr)), (5, .int (nI cd)), (6, .int (nI 0)), (8, .int (nI (σ.2.1 0 (q * 3 + lt)))), (9, .int (nI (cd + (wt lt)))), (10, .int (nI tt))]) hx hb dX6_walk_109 hl (k := 7) rfl (jn_ii _ 1) (by decide) rfl (fun ls hl => ?_)
                refine lv_goto (tgt := 10) hx hb dX6_walk_112 (by decide) ?_
                exact ih10 (lt + 1) n3 f3 (by omega) h5 (fun x => by rw [h6 x, cy_l, show tt = 5 by omega]) (by omega) _ _ hP hD hS _ (lv_sub hl [1, 2, 3, 4, 5, 6, 7, 0] rfl)
              · refine lv_iload hx hb dX6_walk_67 (lv_at hl 8 rfl) ?_
                refine lv_iload hx hb dX6_walk_69 (lv_at hl 4 rfl) ?_
                refine jn_iand hx hb dX6_walk_71 ?_
                refine lv_iconst (v := nI 1) hx hb dX6_walk_72 (by decide) ?_
                refine lv_iload hx hb dX6_walk_73 (lv_at hl 10 rfl) ?_
                refine jn_shl1 hx hb (by omega) dX6_walk_75 ?_
                refine jn_iand hx hb dX6_walk_76 ?_
                refine jn_zeq hx hb (and_ltl (and_ltl (by omega))) (tgt := 103) dX6_walk_77 (by decide) (fun c_77 => ?_) (fun c_77 => ?_)
                · have hc77 := bit3.mp c_77
                  refine lv_iinc (v := nI (tt + 1)) (lv' := [(10, .int (nI (tt + 1))), (0, .ref (g.2.2.2 29)), (1, .ref (g.2.2.2 1)), (2, .ref (g.2.2.2 27)), (3, .int (nI q)), (4, .int (nI fr)), (5, .int (nI cd)), (6, .int (nI 0)), (7, .int (nI lt)), (8, .int (nI (σ.2.1 0 (q * 3 + lt)))), (9, .int (nI (cd + (wt lt))))]) hx hb dX6_walk_103 hl (k := 10) rfl (jn_ii _ 1) (by decide) rfl (fun ls hl => ?_)
                  refine lv_goto (tgt := 61) hx hb dX6_walk_106 (by decide) ?_
                  exact ih61 (tt + 1) n3 f3 (by omega) (by first | exact h_100.1 | exact h5) (fun x => by first | (rw [h_100.2 x, h6 x, cy_t1 (by omega) hc77, or_assoc, or_assoc]) | (rw [h6 x, cy_t0 (by omega) hc77])) (by omega) _ _ hP hD hS _ (lv_sub hl [1, 2, 3, 4, 5, 6, 7, 8, 9, 10, 0] rfl)
                · have hc77 := Classical.not_not.mp (fun z => c_77 (bit3.mpr z))
                  refine lv_aload_n hx hb dX6_walk_80 rfl (lv_at hl 0 rfl) ?_
                  refine lv_aload_n hx hb dX6_walk_81 rfl (lv_at hl 1 rfl) ?_
                  refine lv_aload_n hx hb dX6_walk_82 rfl (lv_at hl 2 rfl) ?_
                  refine lv_iload hx hb dX6_walk_83 (lv_at hl 10 rfl) ?_
                  refine lv_iload hx hb dX6_walk_85 (lv_at hl 4 rfl) ?_
                  refine lv_iconst (v := nI 1) hx hb dX6_walk_87 (by decide) ?_
                  refine lv_iload hx hb dX6_walk_88 (lv_at hl 10 rfl) ?_
                  refine jn_shl1 hx hb (by omega) dX6_walk_90 ?_
                  refine lv_iconst (v := nI 4294967295) hx hb dX6_walk_91 (by decide) ?_
                  refine jn_ixor hx hb dX6_walk_92 ?_
                  refine jn_iand hx hb dX6_walk_93 ?_
                  refine lv_iload hx hb dX6_walk_94 (lv_at hl 9 rfl) ?_
                  refine lv_iload hx hb dX6_walk_96 (lv_at hl 6 rfl) ?_
                  refine lv_iconst (v := nI 1) hx hb dX6_walk_98 (by decide) ?_
                  refine jn_iadd hx hb dX6_walk_99 ?_
                  refine jn_callv (va_runV (As := [.ref (g.2.2.2 1), .ref (g.2.2.2 27), .int (nI tt), .int (nI (fr &&& ((2 ^ tt) ^^^ 4294967295))), .int (nI (cd + (wt lt))), .int (nI (0 + 1))]) (rest := []) ⟨hx, hb, hml, hown, hts⟩ (c_X6_walk_d1 l g tl H.size (sA (sF σ 7 n3) 18 f3) tt (fr &&& ((2 ^ tt) ^^^ 4294967295)) (cd + (wt lt)) hA h5 hs (by omega) (and_ltl hf2) hcs.1.1 hcs.2) (cwV 6 hts gX6_walk_X6_walk rfl rfl rfl (by decide +kernel) ⟨Nat.le_of_ble_eq_true rfl, Nat.le_of_ble_eq_true rfl⟩) (okWV hK hP hD rfl (gC29 g (sA (sF σ 7 n3) 18 f3) tl)) rfl rfl hl.1 rfl (lv_room (Nat.le_of_ble_eq_true rfl)) dX6_walk_100 ⟨Nat.le_of_ble_eq_true rfl, Nat.le_of_ble_eq_true rfl⟩) hD hS hAA (fun u H locs hw_ hP hD hS => ?_)
                  obtain ⟨f2_100, n2_100⟩ := u
                  have h_100 := hw_
                  have h_100 : (LOk f2_100 n2_100) ∧ (∀ x, inL f2_100 n2_100 x ↔ inL (f3) (n3) x ∨ cyW (σ.2.1 0) (σ.1 8) 4 tt (fr &&& ((2 ^ tt) ^^^ 4294967295)) (cd + (wt lt)) x) := h_100
                  have hP : va_P (g.1, g.2.1) vwCl (wC g (sA (sF (sA (sF σ 7 n3) 18 f3) 7 n2_100) 18 f2_100) ++ tl) H := hP
                  have hD : va_D A (wC g (sA (sF (sA (sF σ 7 n3) 18 f3) 7 n2_100) 18 f2_100) ++ tl) := hD
                  refine lv_iinc (v := nI (tt + 1)) (lv' := [(10, .int (nI (tt + 1))), (0, .ref (g.2.2.2 29)), (1, .ref (g.2.2.2 1)), (2, .ref (g.2.2.2 27)), (3, .int (nI q)), (4, .int (nI fr)), (5, .int (nI cd)), (6, .int (nI 0)), (7, .int (nI lt)), (8, .int (nI (σ.2.1 0 (q * 3 + lt)))), (9, .int (nI (cd + (wt lt))))]) hx hb dX6_walk_103 hl (k := 10) rfl (jn_ii _ 1) (by decide) rfl (fun ls hl => ?_)
                  refine lv_goto (tgt := 61) hx hb dX6_walk_106 (by decide) ?_
                  exact ih61 (tt + 1) n2_100 f2_100 (by omega) (by first | exact h_100.1 | exact h5) (fun x => by first | (rw [h_100.2 x, h6 x, cy_t1 (by omega) hc77, or_assoc, or_assoc]) | (rw [h6 x, cy_t0 (by omega) hc77])) (by omega) _ _ hP hD hS _ (lv_sub hl [1, 2, 3, 4, 5, 6, 7, 8, 9, 10, 0] rfl)
          exact lp61 _ ((σ.1 8) + 1) n2_50 f2_50 (by omega) (by first | exact h_50.1 | exact h2) (fun x => by first | (rw [h_50.2 x, h3 x, or_assoc]; exact or_congr Iff.rfl (cy_1 c_44)) | (rw [h3 x]; exact or_congr Iff.rfl (cy_0 c_44))) (Nat.lt_succ_self _) _ _ hP hD hS _ (lv_sub hl [3, 4, 5, 6, 7, 8, 9, 10, 2, 1, 0] rfl)
  exact lp10 _ 0 (σ.1 7) (σ.2.1 18) (by decide) hL (fun x => ⟨Or.inl, fun z => z.elim id (fun w => absurd w cy_no)⟩) (Nat.lt_succ_self _) _ _ hP hD hS _ (lv_sub hl [1, 2, 3, 4, 5, 6, 7, 0] rfl)

abbrev r_c_X6_gather : Room := { frames := 7, cells := 0, slots := 0, locals := 194 }
set_option maxHeartbeats 4000000 in
set_option maxRecDepth 100000 in
theorem c_X6_gather (l : Launch) (g : GC) (tl : va_W) (sz : Nat) (σ : SS) (hA : OkA σ) (hs : (σ.1 8) < 5) : Met l yX6_gather wsX6_gather r_c_X6_gather (va_Pc [.ref (g.2.2.2 29), .ref (g.2.2.2 1), .ref (g.2.2.2 27)] (PW g (wC g σ ++ tl) sz)) (va_Qv (fun (z : (Nat → Nat) × Nat × Nat) => match z with | (f2, n2, s8) => (LOk f2 n2) ∧ (∀ x, inL f2 n2 x ↔ cyA (σ.2.1 0) (usf σ) 5 x) ∧ (s8 < 5)) (fun (z : (Nat → Nat) × Nat × Nat) t => BW g (va_A (wC g σ ++ tl) sz) ((fun z : (Nat → Nat) × Nat × Nat => match z with | (f2, n2, s8) => wC g (sA (sF (sF σ 7 n2) 8 s8) 18 f2) ++ tl) z) t) (va_A (wC g σ ++ tl) sz)) 0 0 (va_A (wC g σ ++ tl) sz) := by
  refine jn_sv (wf := fun z : (Nat → Nat) × Nat × Nat => match z with | (f2, n2, s8) => wC g (sA (sF (sF σ 7 n2) 8 s8) 18 f2) ++ tl) (cc := cX6_gather) (maxL := 6) (own := RX6) (by decide) rfl rfl (Nat.le_of_ble_eq_true rfl) ?_
  intro p e s m below meth c Q A hx hb hml hown hts hK hP hD hS hAA hq ls hl
  obtain ⟨H, eH⟩ : ∃ z, z = s.heap := ⟨_, rfl⟩
  obtain ⟨locs, el⟩ : ∃ z : List Loc, z = [] := ⟨_, rfl⟩
  rw [← eH] at hP
  have hS : va_S A s.heap H locs := by rw [eH, el]; exact hS
  have goal0 : W p l e r_c_X6_gather s m ([.ref (g.2.2.2 29), .ref (g.2.2.2 1), .ref (g.2.2.2 27)] : List Value).toArray below meth c H locs 0 0 Q (F0 m 0 ls []) → W p l e r_c_X6_gather s m ([.ref (g.2.2.2 29), .ref (g.2.2.2 1), .ref (g.2.2.2 27)] : List Value).toArray below meth c s.heap [] 0 0 Q (F0 m 0 ls []) := fun h => by rw [eH, el] at h; exact h
  refine goal0 ?_
  have hl : lv_has ls 6 [(0, .ref (g.2.2.2 29)), (1, .ref (g.2.2.2 1)), (2, .ref (g.2.2.2 27))] := hl
  have iX6 : ∀ w ∈ wsX60, w ∈ wsX6_gather := by decide +kernel
  have k9 := hts (.fieldLink RX6 9 "JumpingAutomata$CycleFinder" "start" "I") (by decide +kernel)
  have hU : usf σ < 32 := and_ltl (frm_lt hA.1 _)
  refine lv_aload_n hx hb dX6_gather_0 rfl (lv_at hl 2 rfl) ?_
  refine jn_callv (va_runV (As := []) (rest := []) ⟨hx, hb, hml, hown, hts⟩ (c_X4_clear_27 l g tl H.size σ) (cwV 0 hts gX6_gather_X4_clear rfl rfl rfl (by decide +kernel) ⟨Nat.le_of_ble_eq_true rfl, Nat.le_of_ble_eq_true rfl⟩) (okWV hK hP hD rfl (gC27 g σ tl)) rfl rfl hl.1 rfl (lv_room (Nat.le_of_ble_eq_true rfl)) dX6_gather_1 ⟨Nat.le_of_ble_eq_true rfl, Nat.le_of_ble_eq_true rfl⟩) hD hS hAA (fun u H locs hw_ hP hD hS => ?_)
  have hP : va_P (g.1, g.2.1) vwCl (wC g (sF σ 7 0) ++ tl) H := hP
  have hD : va_D A (wC g (sF σ 7 0) ++ tl) := hD
  refine lv_aload_n hx hb dX6_gather_4 rfl (lv_at hl 1 rfl) ?_
  refine vp_callSi (va_Run.run (va_runV (As := []) (rest := []) ⟨hx, hb, hml, hown, hts⟩ (c_X0_useful l g tl (sF σ 7 0) hA) (cwV 0 hts gX6_gather_X0_useful rfl rfl rfl (by decide +kernel) ⟨Nat.le_of_ble_eq_true rfl, Nat.le_of_ble_eq_true rfl⟩) (okPV hK hP rfl (gC1 g (sF σ 7 0) tl)) rfl rfl hl.1 rfl (lv_room (Nat.le_of_ble_eq_true rfl)) dX6_gather_5 ⟨Nat.le_of_ble_eq_true rfl, Nat.le_of_ble_eq_true rfl⟩)) (fun r_5 h_5 => ?_)
  have h_5 : r_5 = (nI (frm (σ.2.1 0) 4 &&& twd (σ.2.1 0) (σ.1 0) 4)) := h_5
  subst h_5
  change W p l e _ s m _ below meth c H locs 0 0 Q (F0 m _ ls [.int (nI (usf σ))])
  refine lv_istore_n (lv' := [(3, .int (nI (usf σ))), (0, .ref (g.2.2.2 29)), (1, .ref (g.2.2.2 1)), (2, .ref (g.2.2.2 27))]) hx hb dX6_gather_8 rfl hl (by decide) rfl (fun ls hl => ?_)
  refine lv_iconst (v := nI 0) hx hb dX6_gather_9 (by decide) ?_
  refine lv_istore (lv' := [(4, .int (nI 0)), (3, .int (nI (usf σ))), (0, .ref (g.2.2.2 29)), (1, .ref (g.2.2.2 1)), (2, .ref (g.2.2.2 27))]) hx hb dX6_gather_10 hl (by decide) rfl (fun ls hl => ?_)
  have lp12 : ∀ (fu : Nat), ∀ (i : Nat) (n3 : Nat) (s3 : Nat) (f3 : Nat → Nat), (i ≤ 5) → (LOk f3 n3) → (∀ x, inL f3 n3 x ↔ cyA (σ.2.1 0) (usf σ) i x) → (s3 < 5) → 5 - i < fu → ∀ (H : Heap) (locs : List Loc), va_P (g.1, g.2.1) vwCl (wC g (sA (sF (sF σ 7 n3) 8 s3) 18 f3) ++ tl) H → va_D A (wC g (sA (sF (sF σ 7 n3) 8 s3) 18 f3) ++ tl) → va_S A s.heap H locs → ∀ ls : Array Slot, lv_has ls 6 [(0, .ref (g.2.2.2 29)), (1, .ref (g.2.2.2 1)), (2, .ref (g.2.2.2 27)), (3, .int (nI (usf σ))), (4, .int (nI i))] → W p l e r_c_X6_gather s m ([.ref (g.2.2.2 29), .ref (g.2.2.2 1), .ref (g.2.2.2 27)] : List Value).toArray below meth c H locs 0 0 Q (F0 m 12 ls []) := by
    intro fu
    induction fu with
    | zero => intro i n3 s3 f3 h1 h2 h3 h4 hf; exact absurd hf (Nat.not_lt_zero _)
    | succ fu ih12 =>
      intro i n3 s3 f3 h1 h2 h3 h4 hf H locs hP hD hS ls hl
      refine lv_iload hx hb dX6_gather_12 (lv_at hl 4 rfl) ?_
      refine lv_iconst (v := nI 5) hx hb dX6_gather_14 (by decide) ?_
      refine jn_cge hx hb (by omega) (by decide) (tgt := 60) dX6_gather_15 (by decide) (fun c_15 => ?_) (fun c_15 => ?_)
      · exact hq _ _ _ _ (f3, n3, s3) dX6_gather_60 ⟨h2, by rw [← show i = 5 by omega]; exact h3, h4⟩ hP hD hS
      · refine lv_iload_n hx hb dX6_gather_18 rfl (lv_at hl 3 rfl) ?_
        refine lv_iload hx hb dX6_gather_19 (lv_at hl 4 rfl) ?_
        refine jn_ishr hx hb (by have := hU; omega) (by omega) dX6_gather_21 ?_
        refine lv_iconst (v := nI 1) hx hb dX6_gather_22 (by decide) ?_
        refine jn_and1 hx hb dX6_gather_23 ?_
        refine jn_beq hx hb (tgt := 54) dX6_gather_24 (by decide) (fun c_24 => ?_) (fun c_24 => ?_)
        · refine lv_iinc (v := nI (i + 1)) (lv' := [(4, .int (nI (i + 1))), (0, .ref (g.2.2.2 29)), (1, .ref (g.2.2.2 1)), (2, .ref (g.2.2.2 27)), (3, .int (nI (usf σ)))]) hx hb dX6_gather_54 hl (k := 4) rfl (jn_ii _ 1) (by decide) rfl (fun ls hl => ?_)
          refine lv_goto (tgt := 12) hx hb dX6_gather_57 (by decide) ?_
          exact ih12 (i + 1) n3 s3 f3 (by omega) (by first | exact h_51.1 | exact h2) (fun x => by first | (rw [h_51.2 x, cyA_1 c_24, h3 x]) | (rw [cyA_0 c_24, h3 x])) (by first | omega | exact h4) (by omega) _ _ hP hD hS _ (lv_sub hl [1, 2, 3, 4, 0] rfl)
        · refine lv_aload_n hx hb dX6_gather_27 rfl (lv_at hl 0 rfl) ?_
          refine lv_iload hx hb dX6_gather_28 (lv_at hl 4 rfl) ?_
          refine jn_put (D := (g.1, g.2.1)) (ci := 8) (v := .int (nI i)) (ty := .int) (C := RX6) (T := TX6) (N := 1) hx hb hts iX6 tyX6 tyX6_ok nmX6 hown hK.1 hP hD hS 29 (gC29 g (sA (sF (sF σ 7 n3) 8 s3) 18 f3) tl) rfl 0 (by decide) k9 (fun _ h9 => h9) rfl (by decide +kernel) rfl rfl (Nat.le_of_ble_eq_true rfl) (uC_F8 g (sA (sF (sF σ 7 n3) 8 s3) 18 f3) tl i) dX6_gather_30 (fun H locs hP hD hS => ?_)
          refine lv_iload_n hx hb dX6_gather_33 rfl (lv_at hl 3 rfl) ?_
          refine lv_bipush (v := nI 4294967294) hx hb dX6_gather_34 (by decide) ?_
          refine lv_iload hx hb dX6_gather_36 (lv_at hl 4 rfl) ?_
          refine jn_shlm2 hx hb (by omega) dX6_gather_38 ?_
          refine jn_iand hx hb dX6_gather_39 ?_
          refine lv_istore (lv' := [(5, .int (nI ((usf σ) &&& (4294967296 - 2 ^ (i + 1))))), (0, .ref (g.2.2.2 29)), (1, .ref (g.2.2.2 1)), (2, .ref (g.2.2.2 27)), (3, .int (nI (usf σ))), (4, .int (nI i))]) hx hb dX6_gather_40 hl (by decide) rfl (fun ls hl => ?_)
          refine lv_aload_n hx hb dX6_gather_42 rfl (lv_at hl 1 rfl) ?_
          refine lv_aload_n hx hb dX6_gather_43 rfl (lv_at hl 2 rfl) ?_
          refine lv_aload_n hx hb dX6_gather_44 rfl (lv_at hl 3 rfl) ?_
          refine lv_iload hx hb dX6_gather_45 (lv_at hl 5 rfl) ?_
          refine lv_iload hx hb dX6_gather_47 (lv_at hl 0 rfl) ?_
          refine lv_iconst (v := nI 0) hx hb dX6_gather_49 (by decide) ?_
          refine lv_iconst (v := nI 0) hx hb dX6_gather_50 (by decide) ?_
          refine jn_callv (va_runV (As := [.ref (g.2.2.2 1), .ref (g.2.2.2 27), .int (nI i), .int (nI ((usf σ) &&& (4294967296 - 2 ^ (i + 1)))), .int (nI 0), .int (nI 0)]) (rest := []) ⟨hx, hb, hml, hown, hts⟩ (c_X6_walk_d0 l g tl H.size (sF (sA (sF (sF σ 7 n3) 8 s3) 18 f3) 8 i) i ((usf σ) &&& (4294967296 - 2 ^ (i + 1))) 0 hA h2 (show i < 5 by omega) (by omega) (and_ltl (by omega)) (by decide) rfl) (cwV 6 hts gX6_gather_X6_walk rfl rfl rfl (by decide +kernel) ⟨Nat.le_of_ble_eq_true rfl, Nat.le_of_ble_eq_true rfl⟩) (okWV hK hP hD rfl (gC29 g (sF (sA (sF (sF σ 7 n3) 8 s3) 18 f3) 8 i) tl)) rfl rfl hl.1 rfl (lv_room (Nat.le_of_ble_eq_true rfl)) dX6_gather_51 ⟨Nat.le_of_ble_eq_true rfl, Nat.le_of_ble_eq_true rfl⟩) hD hS hAA (fun u H locs hw_ hP hD hS => ?_)
          obtain ⟨f2_51, n2_51⟩ := u
          have h_51 := hw_
          have h_51 : (LOk f2_51 n2_51) ∧ (∀ x, inL f2_51 n2_51 x ↔ inL (f3) (n3) x ∨ cyW (σ.2.1 0) (i) 5 i ((usf σ) &&& (4294967296 - 2 ^ (i + 1))) 0 x) := h_51
          have hP : va_P (g.1, g.2.1) vwCl (wC g (sA (sF (sF (sA (sF (sF σ 7 n3) 8 s3) 18 f3) 8 i) 7 n2_51) 18 f2_51) ++ tl) H := hP
          have hD : va_D A (wC g (sA (sF (sF (sA (sF (sF σ 7 n3) 8 s3) 18 f3) 8 i) 7 n2_51) 18 f2_51) ++ tl) := hD
          refine lv_iinc (v := nI (i + 1)) (lv' := [(4, .int (nI (i + 1))), (5, .int (nI ((usf σ) &&& (4294967296 - 2 ^ (i + 1))))), (0, .ref (g.2.2.2 29)), (1, .ref (g.2.2.2 1)), (2, .ref (g.2.2.2 27)), (3, .int (nI (usf σ)))]) hx hb dX6_gather_54 hl (k := 5) rfl (jn_ii _ 1) (by decide) rfl (fun ls hl => ?_)
          refine lv_goto (tgt := 12) hx hb dX6_gather_57 (by decide) ?_
          exact ih12 (i + 1) n2_51 i f2_51 (by omega) (by first | exact h_51.1 | exact h2) (fun x => by first | (rw [h_51.2 x, cyA_1 c_24, h3 x]) | (rw [cyA_0 c_24, h3 x])) (by first | omega | exact h4) (by omega) _ _ hP hD hS _ (lv_sub hl [2, 3, 4, 5, 0] rfl)
  exact lp12 _ 0 0 (σ.1 8) (σ.2.1 18) (by decide) ⟨by decide, fun i j _ h => absurd h (by omega), fun i h => absurd h (by omega)⟩ (fun x => ⟨fun ⟨i, h, _⟩ => absurd h (by omega), fun ⟨i, h, _⟩ => absurd h (by omega)⟩) hs (Nat.lt_succ_self _) _ _ hP hD hS _ (lv_sub hl [2, 3, 4, 1, 0] rfl)
