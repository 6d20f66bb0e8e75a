abbrev r_c_X4_clear_25 : Room := { frames := 0, cells := 0, slots := 0, locals := 0 }
set_option maxHeartbeats 4000000 in
set_option maxRecDepth 100000 in
theorem c_X4_clear_25 (l : Launch) (g : GC) (tl : va_W) (sz : Nat) (σ : SS) : Met l yX4_clear wsX4_clear r_c_X4_clear_25 (va_Pc [.ref (g.2.2.2 25)] (PW g (wC g σ ++ tl) sz)) (va_Qv (fun (_ : Unit) => True) (fun (_ : Unit) t => BW g (va_A (wC g σ ++ tl) sz) (wC g (sF σ 6 0) ++ tl) t) (va_A (wC g σ ++ tl) sz)) 0 0 (va_A (wC g σ ++ tl) sz) := by
  refine jn_sv (wf := fun _ : Unit => wC g (sF σ 6 0) ++ tl) (cc := cX4_clear) (maxL := 1) (own := RX4) (by decide) rfl rfl (Nat.le_of_ble_eq_true rfl) ?_
  intro p e s m below meth c Q A hx hb hml hown hts hK hP hD hS hAA hq ls hl
  obtain ⟨H, eH⟩ : ∃ z, z = s.heap := ⟨_, rfl⟩
  obtain ⟨locs, el⟩ : ∃ z : List Loc, z = [] := ⟨_, rfl⟩
  rw [← eH] at hP
  have hS : va_S A s.heap H locs := by rw [eH, el]; exact hS
  have goal0 : W p l e r_c_X4_clear_25 s m ([.ref (g.2.2.2 25)] : List Value).toArray below meth c H locs 0 0 Q (F0 m 0 ls []) → W p l e r_c_X4_clear_25 s m ([.ref (g.2.2.2 25)] : List Value).toArray below meth c s.heap [] 0 0 Q (F0 m 0 ls []) := fun h => by rw [eH, el] at h; exact h
  refine goal0 ?_
  have hl : lv_has ls 1 [(0, .ref (g.2.2.2 25))] := hl
  have iX4 : ∀ w ∈ wsX40, w ∈ wsX4_clear := by decide +kernel
  have k13 := hts (.fieldLink RX4 13 "JumpingAutomata$CountsList" "size" "I") (by decide +kernel)
  refine lv_aload_n hx hb dX4_clear_0 rfl (lv_at hl 0 rfl) ?_
  refine lv_iconst (v := nI 0) hx hb dX4_clear_1 (by decide) ?_
  refine jn_put (D := (g.1, g.2.1)) (ci := 6) (v := .int (nI 0)) (ty := .int) (C := RX4) (T := TX4) (N := 2) hx hb hts iX4 tyX4 tyX4_ok nmX4 hown hK.1 hP hD hS 25 (gC25 g σ tl) rfl 1 (by decide) k13 (fun _ h9 => h9) rfl (by decide +kernel) rfl rfl (Nat.le_of_ble_eq_true rfl) (uC_F6 g σ tl 0) dX4_clear_2 (fun H locs hP hD hS => ?_)
  exact hq _ _ _ _ () dX4_clear_5 trivial hP hD hS

abbrev r_c_X4_at_25 : Room := { frames := 0, cells := 0, slots := 0, locals := 0 }
set_option maxHeartbeats 4000000 in
set_option maxRecDepth 100000 in
theorem c_X4_at_25 (l : Launch) (g : GC) (tl : va_W) (σ : SS) (k : Nat) (hL : LOk (σ.2.1 17) (σ.1 6)) (hk : k < (σ.1 6)) : Met l yX4_at wsX4_at r_c_X4_at_25 (va_Pc [.ref (g.2.2.2 25), .int (nI k)] (PP g (wC g σ ++ tl))) (vp_Si (fun r => r = nI ((σ.2.1 17) k))) 0 0 (fun _ => False) := by
  refine jn_pi (cc := cX4_at) (maxL := 2) (own := RX4) (by decide) rfl rfl (Nat.le_of_ble_eq_true rfl) ?_
  intro p e s m below meth c Q hx hb hml hown hts ⟨hP, hK⟩ hq ls hl
  have hl : lv_has ls 2 [(0, .ref (g.2.2.2 25)), (1, .int (nI k))] := hl
  have iX4 : ∀ w ∈ wsX40, w ∈ wsX4_at := by decide +kernel
  have k13 := hts (.fieldLink RX4 13 "JumpingAutomata$CountsList" "size" "I") (by decide +kernel)
  have k9 := hts (.fieldLink RX4 9 "JumpingAutomata$CountsList" "codes" "[I") (by decide +kernel)
  have hL1 := hL.1
  refine lv_iload_n hx hb dX4_at_0 rfl (lv_at hl 1 rfl) ?_
  refine jn_zlt hx hb (by omega) (tgt := 27) dX4_at_1 (by decide) (fun c_1 => absurd c_1 (by omega)) (fun c_1 => ?_)
  refine lv_iload_n hx hb dX4_at_4 rfl (lv_at hl 1 rfl) ?_
  refine lv_aload_n hx hb dX4_at_5 rfl (lv_at hl 0 rfl) ?_
  refine va_get (D := (g.1, g.2.1)) (ci := 6) (v := .int (nI (σ.1 6))) (C := RX4) (T := TX4) (N := 2) hx hb hts iX4 hown hK.1 hP 25 (gC25 g σ tl) rfl 1 (by decide) k13 (fun _ h9 => h9) rfl dX4_at_6 ?_
  refine jn_cge hx hb (by omega) (by omega) (tgt := 27) dX4_at_9 (by decide) (fun c_9 => absurd c_9 (by omega)) (fun c_9 => ?_)
  refine lv_iload_n hx hb dX4_at_12 rfl (lv_at hl 1 rfl) ?_
  refine lv_bipush (v := nI 56) hx hb dX4_at_13 (by decide) ?_
  refine jn_cge hx hb (by omega) (by decide) (tgt := 27) dX4_at_15 (by decide) (fun c_15 => absurd c_15 (by omega)) (fun c_15 => ?_)
  refine lv_aload_n hx hb dX4_at_18 rfl (lv_at hl 0 rfl) ?_
  refine va_get (D := (g.1, g.2.1)) (ci := 6) (v := .ref (g.2.2.2 26)) (C := RX4) (T := TX4) (N := 2) hx hb hts iX4 hown hK.1 hP 25 (gC25 g σ tl) rfl 0 (by decide) k9 (fun _ h9 => h9) rfl dX4_at_19 ?_
  refine lv_iload_n hx hb dX4_at_22 rfl (lv_at hl 1 rfl) ?_
  refine jn_iald (f := σ.2.1 17) hx hb hK.1 hP 26 0 (gC26 g σ tl) rfl (by omega) (Nat.le_of_ble_eq_true rfl) dX4_at_23 ?_
  refine lv_goto (tgt := 28) hx hb dX4_at_24 (by decide) ?_
  exact hq _ _ ((nI ((σ.2.1 17) k))) dX4_at_28 rfl

abbrev r_c_X4_holds_25 : Room := { frames := 0, cells := 0, slots := 0, locals := 0 }
set_option maxHeartbeats 4000000 in
set_option maxRecDepth 100000 in
theorem c_X4_holds_25 (l : Launch) (g : GC) (tl : va_W) (σ : SS) (k : Nat) (hL : LOk (σ.2.1 17) (σ.1 6)) (hk : k < 1000) : Met l yX4_holds wsX4_holds r_c_X4_holds_25 (va_Pc [.ref (g.2.2.2 25), .int (nI k)] (PP g (wC g σ ++ tl))) (vp_Si (fun r => r = nI (if inL (σ.2.1 17) (σ.1 6) k then 1 else 0))) 0 0 (fun _ => False) := by
  refine jn_pz (cc := cX4_holds) (maxL := 3) (own := RX4) (by decide) rfl rfl (Nat.le_of_ble_eq_true rfl) ?_
  intro p e s m below meth c Q hx hb hml hown hts ⟨hP, hK⟩ hq ls hl
  have hl : lv_has ls 3 [(0, .ref (g.2.2.2 25)), (1, .int (nI k))] := hl
  have iX4 : ∀ w ∈ wsX40, w ∈ wsX4_holds := by decide +kernel
  have k13 := hts (.fieldLink RX4 13 "JumpingAutomata$CountsList" "size" "I") (by decide +kernel)
  have k9 := hts (.fieldLink RX4 9 "JumpingAutomata$CountsList" "codes" "[I") (by decide +kernel)
  have hL1 := hL.1
  refine lv_iconst (v := nI 0) hx hb dX4_holds_0 (by decide) ?_
  refine lv_istore_n (lv' := [(2, .int (nI 0)), (0, .ref (g.2.2.2 25)), (1, .int (nI k))]) hx hb dX4_holds_1 rfl hl (by decide) rfl (fun ls hl => ?_)
  have lp2 : ∀ (fu : Nat), ∀ (i : Nat), (i ≤ (σ.1 6)) → (∀ j, j < i → (σ.2.1 17) j ≠ k) → (σ.1 6) - i < fu → ∀ ls : Array Slot, lv_has ls 3 [(0, .ref (g.2.2.2 25)), (1, .int (nI k)), (2, .int (nI i))] → W p l e r_c_X4_holds_25 s m ([.ref (g.2.2.2 25), .int (nI k)] : List Value).toArray below meth c s.heap [] 0 0 Q (F0 m 2 ls []) := by
    intro fu
    induction fu with
    | zero => intro i h1 h2 hf; exact absurd hf (Nat.not_lt_zero _)
    | succ fu ih2 =>
      intro i h1 h2 hf ls hl
      refine lv_iload_n hx hb dX4_holds_2 rfl (lv_at hl 2 rfl) ?_
      refine lv_aload_n hx hb dX4_holds_3 rfl (lv_at hl 0 rfl) ?_
      refine va_get (D := (g.1, g.2.1)) (ci := 6) (v := .int (nI (σ.1 6))) (C := RX4) (T := TX4) (N := 2) hx hb hts iX4 hown hK.1 hP 25 (gC25 g σ tl) rfl 1 (by decide) k13 (fun _ h9 => h9) rfl dX4_holds_4 ?_
      refine jn_cge hx hb (by omega) (by omega) (tgt := 34) dX4_holds_7 (by decide) (fun c_7 => ?_) (fun c_7 => ?_)
      · refine lv_iconst (v := nI 0) hx hb dX4_holds_34 (by decide) ?_
        exact hq _ _ ((nI 0)) dX4_holds_35 jn_n0 (by rw [if_neg (by rintro ⟨j, hj, e⟩; exact h2 j (by omega) e)])
      · refine lv_iload_n hx hb dX4_holds_10 rfl (lv_at hl 2 rfl) ?_
        refine lv_bipush (v := nI 56) hx hb dX4_holds_11 (by decide) ?_
        refine jn_cge hx hb (by omega) (by decide) (tgt := 34) dX4_holds_13 (by decide) (fun c_13 => ?_) (fun c_13 => ?_)
        · refine lv_iconst (v := nI 0) hx hb dX4_holds_34 (by decide) ?_
          exact hq _ _ ((nI 0)) dX4_holds_35 jn_n0 (by rw [if_neg (by rintro ⟨j, hj, e⟩; exact h2 j (by omega) e)])
        · refine lv_aload_n hx hb dX4_holds_16 rfl (lv_at hl 0 rfl) ?_
          refine va_get (D := (g.1, g.2.1)) (ci := 6) (v := .ref (g.2.2.2 26)) (C := RX4) (T := TX4) (N := 2) hx hb hts iX4 hown hK.1 hP 25 (gC25 g σ tl) rfl 0 (by decide) k9 (fun _ h9 => h9) rfl dX4_holds_17 ?_
          refine lv_iload_n hx hb dX4_holds_20 rfl (lv_at hl 2 rfl) ?_
          refine jn_iald (f := σ.2.1 17) hx hb hK.1 hP 26 0 (gC26 g σ tl) rfl (by omega) (Nat.le_of_ble_eq_true rfl) dX4_holds_21 ?_
          refine lv_iload_n hx hb dX4_holds_22 rfl (lv_at hl 1 rfl) ?_
          refine jn_cne hx hb (by have := (hL.2.2 i (by omega)).1; omega) (by omega) (tgt := 28) dX4_holds_23 (by decide) (fun c_23 => ?_) (fun c_23 => ?_)
          · refine lv_iinc (v := nI (i + 1)) (lv' := [(2, .int (nI (i + 1))), (0, .ref (g.2.2.2 25)), (1, .int (nI k))]) hx hb dX4_holds_28 hl (k := 2) rfl (jn_ii _ 1) (by decide) rfl (fun ls hl => ?_)
            refine lv_goto (tgt := 2) hx hb dX4_holds_31 (by decide) ?_
            exact ih2 (i + 1) (by omega) (fun j hj => by rcases Nat.lt_or_ge j i with q | q; { exact h2 j q }; { rw [show j = i by omega]; exact c_23 }) (by omega) _ (lv_sub hl [1, 2, 0] rfl)
          · refine lv_iconst (v := nI 1) hx hb dX4_holds_26 (by decide) ?_
            exact hq _ _ ((nI 1)) dX4_holds_27 jn_n1 (by rw [if_pos ⟨i, by omega, c_23⟩])
  exact lp2 _ 0 (by omega) (fun j hj => absurd hj (by omega)) (Nat.lt_succ_self _) _ (lv_sub hl [1, 2, 0] rfl)

abbrev r_c_X4_insert_25 : Room := { frames := 1, cells := 0, slots := 0, locals := 22 }
set_option maxHeartbeats 4000000 in
set_option maxRecDepth 100000 in
theorem c_X4_insert_25 (l : Launch) (g : GC) (tl : va_W) (sz : Nat) (σ : SS) (k : Nat) (hL : LOk (σ.2.1 17) (σ.1 6)) (hk : cs5 k) : Met l yX4_insert wsX4_insert r_c_X4_insert_25 (va_Pc [.ref (g.2.2.2 25), .int (nI k)] (PW g (wC g σ ++ tl) sz)) (va_Qv (fun (z : (Nat → Nat) × Nat) => match z with | (f2, n2) => (LOk f2 n2) ∧ (∀ x, inL f2 n2 x ↔ inL (σ.2.1 17) (σ.1 6) x ∨ x = k)) (fun (z : (Nat → Nat) × Nat) t => BW g (va_A (wC g σ ++ tl) sz) ((fun z : (Nat → Nat) × Nat => match z with | (f2, n2) => wC g (sA (sF σ 6 n2) 17 f2) ++ tl) z) t) (va_A (wC g σ ++ tl) sz)) 0 0 (va_A (wC g σ ++ tl) sz) := by
  refine jn_sv (wf := fun z : (Nat → Nat) × Nat => match z with | (f2, n2) => wC g (sA (sF σ 6 n2) 17 f2) ++ tl) (cc := cX4_insert) (maxL := 3) (own := RX4) (by decide) rfl rfl (Nat.le_of_ble_eq_true rfl) ?_
  intro p e s m below meth c Q A hx hb hml hown hts hK hP hD hS hAA hq ls hl
  obtain ⟨H, eH⟩ : ∃ z, z = s.heap := ⟨_, rfl⟩
  obtain ⟨locs, el⟩ : ∃ z : List Loc, z = [] := ⟨_, rfl⟩
  rw [← eH] at hP
  have hS : va_S A s.heap H locs := by rw [eH, el]; exact hS
  have goal0 : W p l e r_c_X4_insert_25 s m ([.ref (g.2.2.2 25), .int (nI k)] : List Value).toArray below meth c H locs 0 0 Q (F0 m 0 ls []) → W p l e r_c_X4_insert_25 s m ([.ref (g.2.2.2 25), .int (nI k)] : List Value).toArray below meth c s.heap [] 0 0 Q (F0 m 0 ls []) := fun h => by rw [eH, el] at h; exact h
  refine goal0 ?_
  have hl : lv_has ls 3 [(0, .ref (g.2.2.2 25)), (1, .int (nI k))] := hl
  have iX4 : ∀ w ∈ wsX40, w ∈ wsX4_insert := by decide +kernel
  have k13 := hts (.fieldLink RX4 13 "JumpingAutomata$CountsList" "size" "I") (by decide +kernel)
  have k9 := hts (.fieldLink RX4 9 "JumpingAutomata$CountsList" "codes" "[I") (by decide +kernel)
  have hL1 := hL.1
  have hk1 := hk.1
  refine lv_aload_n hx hb dX4_insert_0 rfl (lv_at hl 0 rfl) ?_
  refine lv_iload_n hx hb dX4_insert_1 rfl (lv_at hl 1 rfl) ?_
  refine vp_callSi (va_Run.run (va_runV (As := [.int (nI k)]) (rest := []) ⟨hx, hb, hml, hown, hts⟩ (c_X4_holds_25 l g tl σ k hL hk1) (cwV 1 hts gX4_insert_X4_holds rfl rfl rfl (by decide +kernel) ⟨Nat.le_of_ble_eq_true rfl, Nat.le_of_ble_eq_true rfl⟩) (okPV hK hP rfl (gC25 g σ tl)) rfl rfl hl.1 rfl (lv_room (Nat.le_of_ble_eq_true rfl)) dX4_insert_2 ⟨Nat.le_of_ble_eq_true rfl, Nat.le_of_ble_eq_true rfl⟩)) (fun r_2 h_2 => ?_)
  subst h_2
  refine jn_bne hx hb (tgt := 24) dX4_insert_5 (by decide) (fun c_5 => ?_) (fun c_5 => ?_)
  · exact hq _ _ _ _ ((σ.2.1 17), (σ.1 6)) dX4_insert_24 (⟨hL, fun x => ⟨Or.inl, fun q => q.elim id (fun e => by rw [e]; exact c_5)⟩⟩) hP hD hS
  · have hrm := list_room hL hk c_5
    refine lv_aload_n hx hb dX4_insert_8 rfl (lv_at hl 0 rfl) ?_
    refine va_get (D := (g.1, g.2.1)) (ci := 6) (v := .int (nI (σ.1 6))) (C := RX4) (T := TX4) (N := 2) hx hb hts iX4 hown hK.1 hP 25 (gC25 g σ tl) rfl 1 (by decide) k13 (fun _ h9 => h9) rfl dX4_insert_9 ?_
    refine jn_zlt hx hb (by omega) (tgt := 24) dX4_insert_12 (by decide) (fun c_12 => absurd c_12 (by omega)) (fun c_12 => ?_)
    refine lv_aload_n hx hb dX4_insert_15 rfl (lv_at hl 0 rfl) ?_
    refine va_get (D := (g.1, g.2.1)) (ci := 6) (v := .int (nI (σ.1 6))) (C := RX4) (T := TX4) (N := 2) hx hb hts iX4 hown hK.1 hP 25 (gC25 g σ tl) rfl 1 (by decide) k13 (fun _ h9 => h9) rfl dX4_insert_16 ?_
    refine lv_bipush (v := nI 56) hx hb dX4_insert_19 (by decide) ?_
    refine jn_clt hx hb (by omega) (by decide) (tgt := 25) dX4_insert_21 (by decide) (fun c_21 => ?_) (fun c_21 => absurd c_21 (by omega))
    refine lv_aload_n hx hb dX4_insert_25 rfl (lv_at hl 0 rfl) ?_
    refine va_get (D := (g.1, g.2.1)) (ci := 6) (v := .int (nI (σ.1 6))) (C := RX4) (T := TX4) (N := 2) hx hb hts iX4 hown hK.1 hP 25 (gC25 g σ tl) rfl 1 (by decide) k13 (fun _ h9 => h9) rfl dX4_insert_26 ?_
    refine lv_istore_n (lv' := [(2, .int (nI (σ.1 6))), (0, .ref (g.2.2.2 25)), (1, .int (nI k))]) hx hb dX4_insert_29 rfl hl (by decide) rfl (fun ls hl => ?_)
    have lp30 : ∀ (fu : Nat), ∀ (q : Nat) (f3 : Nat → Nat), (q ≤ (σ.1 6)) → (Shf (σ.2.1 17) f3 (σ.1 6) q k) → q < fu → ∀ (H : Heap) (locs : List Loc), va_P (g.1, g.2.1) vwCl (wC g (sA σ 17 f3) ++ tl) H → va_D A (wC g (sA σ 17 f3) ++ tl) → va_S A s.heap H locs → ∀ ls : Array Slot, lv_has ls 3 [(0, .ref (g.2.2.2 25)), (1, .int (nI k)), (2, .int (nI q))] → W p l e r_c_X4_insert_25 s m ([.ref (g.2.2.2 25), .int (nI k)] : List Value).toArray below meth c H locs 0 0 Q (F0 m 30 ls []) := by
      intro fu
      induction fu with
      | zero => intro q f3 h1 h2 hf; exact absurd hf (Nat.not_lt_zero _)
      | succ fu ih30 =>
        intro q f3 h1 h2 hf H locs hP hD hS ls hl
        refine lv_iload_n hx hb dX4_insert_30 rfl (lv_at hl 2 rfl) ?_
        refine jn_zle hx hb (by omega) (tgt := 66) dX4_insert_31 (by decide) (fun c_31 => ?_) (fun c_31 => ?_)
        · refine lv_aload_n hx hb dX4_insert_66 rfl (lv_at hl 0 rfl) ?_
          refine va_get (D := (g.1, g.2.1)) (ci := 6) (v := .ref (g.2.2.2 26)) (C := RX4) (T := TX4) (N := 2) hx hb hts iX4 hown hK.1 hP 25 (gC25 g (sA σ 17 f3) tl) rfl 0 (by decide) k9 (fun _ h9 => h9) rfl dX4_insert_67 ?_
          refine lv_iload_n hx hb dX4_insert_70 rfl (lv_at hl 2 rfl) ?_
          refine lv_iload_n hx hb dX4_insert_71 rfl (lv_at hl 1 rfl) ?_
          have hbb : ∀ i, i < q → (σ.2.1 17) i ≤ k := by first | exact fun i hi => absurd hi (by omega) | exact shf_b1 hL h2 (by omega) h1 c_43
          refine jn_iast (f := f3) hx hb hK.1 hP hD hS 26 0 (gC26 g (sA σ 17 f3) tl) rfl (by omega) (Nat.le_of_ble_eq_true rfl) (uC_A17 g (sA σ 17 f3) tl _) dX4_insert_72 (fun H locs hP hD hS => ?_)
          refine lv_aload_n hx hb dX4_insert_73 rfl (lv_at hl 0 rfl) ?_
          refine lv_dup hx hb dX4_insert_74 rfl ?_
          refine va_get (D := (g.1, g.2.1)) (ci := 6) (v := .int (nI (σ.1 6))) (C := RX4) (T := TX4) (N := 2) hx hb hts iX4 hown hK.1 hP 25 (gC25 g (sA (sA σ 17 f3) 17 (va_up f3 q k)) tl) rfl 1 (by decide) k13 (fun _ h9 => h9) rfl dX4_insert_75 ?_
          refine lv_iconst (v := nI 1) hx hb dX4_insert_78 (by decide) ?_
          refine jn_iadd hx hb dX4_insert_79 ?_
          refine jn_put (D := (g.1, g.2.1)) (ci := 6) (v := .int (nI ((σ.1 6) + 1))) (ty := .int) (C := RX4) (T := TX4) (N := 2) hx hb hts iX4 tyX4 tyX4_ok nmX4 hown hK.1 hP hD hS 25 (gC25 g (sA (sA σ 17 f3) 17 (va_up f3 q k)) tl) rfl 1 (by decide) k13 (fun _ h9 => h9) rfl (by decide +kernel) rfl rfl (Nat.le_of_ble_eq_true rfl) (uC_F6 g (sA (sA σ 17 f3) 17 (va_up f3 q k)) tl ((σ.1 6) + 1)) dX4_insert_80 (fun H locs hP hD hS => ?_)
          exact hq _ _ _ _ ((va_up f3 q k), ((σ.1 6) + 1)) dX4_insert_83 (shf_ok hL hk c_5 h1 h2 hbb) hP hD hS
        · refine lv_aload_n hx hb dX4_insert_34 rfl (lv_at hl 0 rfl) ?_
          refine va_get (D := (g.1, g.2.1)) (ci := 6) (v := .ref (g.2.2.2 26)) (C := RX4) (T := TX4) (N := 2) hx hb hts iX4 hown hK.1 hP 25 (gC25 g (sA σ 17 f3) tl) rfl 0 (by decide) k9 (fun _ h9 => h9) rfl dX4_insert_35 ?_
          refine lv_iload_n hx hb dX4_insert_38 rfl (lv_at hl 2 rfl) ?_
          refine lv_iconst (v := nI 1) hx hb dX4_insert_39 (by decide) ?_
          refine jn_isub hx hb (by omega) dX4_insert_40 ?_
          refine jn_iald (f := f3) hx hb hK.1 hP 26 0 (gC26 g (sA σ 17 f3) tl) rfl (by omega) (Nat.le_of_ble_eq_true rfl) dX4_insert_41 ?_
          refine lv_iload_n hx hb dX4_insert_42 rfl (lv_at hl 1 rfl) ?_
          have hfq : f3 (q - 1) < 1000 := by rw [h2.1 (q - 1) (by omega)]; exact (hL.2.2 (q - 1) (by omega)).1
          refine jn_cle hx hb (by omega) (by omega) (tgt := 66) dX4_insert_43 (by decide) (fun c_43 => ?_) (fun c_43 => ?_)
          · refine lv_aload_n hx hb dX4_insert_66 rfl (lv_at hl 0 rfl) ?_
            refine va_get (D := (g.1, g.2.1)) (ci := 6) (v := .ref (g.2.2.2 26)) (C := RX4) (T := TX4) (N := 2) hx hb hts iX4 hown hK.1 hP 25 (gC25 g (sA σ 17 f3) tl) rfl 0 (by decide) k9 (fun _ h9 => h9) rfl dX4_insert_67 ?_
            refine lv_iload_n hx hb dX4_insert_70 rfl (lv_at hl 2 rfl) ?_
            refine lv_iload_n hx hb dX4_insert_71 rfl (lv_at hl 1 rfl) ?_
            have hbb : ∀ i, i < q → (σ.2.1 17) i ≤ k := by first | exact fun i hi => absurd hi (by omega) | exact shf_b1 hL h2 (by omega) h1 c_43
            refine jn_iast (f := f3) hx hb hK.1 hP hD hS 26 0 (gC26 g (sA σ 17 f3) tl) rfl (by omega) (Nat.le_of_ble_eq_true rfl) (uC_A17 g (sA σ 17 f3) tl _) dX4_insert_72 (fun H locs hP hD hS => ?_)
            refine lv_aload_n hx hb dX4_insert_73 rfl (lv_at hl 0 rfl) ?_
            refine lv_dup hx hb dX4_insert_74 rfl ?_
            refine va_get (D := (g.1, g.2.1)) (ci := 6) (v := .int (nI (σ.1 6))) (C := RX4) (T := TX4) (N := 2) hx hb hts iX4 hown hK.1 hP 25 (gC25 g (sA (sA σ 17 f3) 17 (va_up f3 q k)) tl) rfl 1 (by decide) k13 (fun _ h9 => h9) rfl dX4_insert_75 ?_
            refine lv_iconst (v := nI 1) hx hb dX4_insert_78 (by decide) ?_
            refine jn_iadd hx hb dX4_insert_79 ?_
            refine jn_put (D := (g.1, g.2.1)) (ci := 6) (v := .int (nI ((σ.1 6) + 1))) (ty := .int) (C := RX4) (T := TX4) (N := 2) hx hb hts iX4 tyX4 tyX4_ok nmX4 hown hK.1 hP hD hS 25 (gC25 g (sA (sA σ 17 f3) 17 (va_up f3 q k)) tl) rfl 1 (by decide) k13 (fun _ h9 => h9) rfl (by decide +kernel) rfl rfl (Nat.le_of_ble_eq_true rfl) (uC_F6 g (sA (sA σ 17 f3) 17 (va_up f3 q k)) tl ((σ.1 6) + 1)) dX4_insert_80 (fun H locs hP hD hS => ?_)
            exact hq _ _ _ _ ((va_up f3 q k), ((σ.1 6) + 1)) dX4_insert_83 (shf_ok hL hk c_5 h1 h2 hbb) hP hD hS
          · refine lv_aload_n hx hb dX4_insert_46 rfl (lv_at hl 0 rfl) ?_
            refine va_get (D := (g.1, g.2.1)) (ci := 6) (v := .ref (g.2.2.2 26)) (C := RX4) (T := TX4) (N := 2) hx hb hts iX4 hown hK.1 hP 25 (gC25 g (sA σ 17 f3) tl) rfl 0 (by decide) k9 (fun _ h9 => h9) rfl dX4_insert_47 ?_
            refine lv_iload_n hx hb dX4_insert_50 rfl (lv_at hl 2 rfl) ?_
            refine lv_aload_n hx hb dX4_insert_51 rfl (lv_at hl 0 rfl) ?_
            refine va_get (D := (g.1, g.2.1)) (ci := 6) (v := .ref (g.2.2.2 26)) (C := RX4) (T := TX4) (N := 2) hx hb hts iX4 hown hK.1 hP 25 (gC25 g (sA σ 17 f3) tl) rfl 0 (by decide) k9 (fun _ h9 => h9) rfl dX4_insert_52 ?_
            refine lv_iload_n hx hb dX4_insert_55 rfl (lv_at hl 2 rfl) ?_
            refine lv_iconst (v := nI 1) hx hb dX4_insert_56 (by decide) ?_
            refine jn_isub hx hb (by omega) dX4_insert_57 ?_
            refine jn_iald (f := f3) hx hb hK.1 hP 26 0 (gC26 g (sA σ 17 f3) tl) rfl (by omega) (Nat.le_of_ble_eq_true rfl) dX4_insert_58 ?_
            refine jn_iast (f := f3) hx hb hK.1 hP hD hS 26 0 (gC26 g (sA σ 17 f3) tl) rfl (by omega) (Nat.le_of_ble_eq_true rfl) (uC_A17 g (sA σ 17 f3) tl _) dX4_insert_59 (fun H locs hP hD hS => ?_)
            refine lv_iinc (v := nI (q - 1)) (lv' := [(2, .int (nI (q - 1))), (0, .ref (g.2.2.2 25)), (1, .int (nI k))]) hx hb dX4_insert_60 hl (k := 2) rfl (jn_im (by omega)) (by decide) rfl (fun ls hl => ?_)
            refine lv_goto (tgt := 30) hx hb dX4_insert_63 (by decide) ?_
            exact ih30 (q - 1) (va_up f3 q (f3 (q - 1))) (by omega) (shf_step (by omega) h1 h2 c_43) (by omega) _ _ hP hD hS _ (lv_sub hl [1, 2, 0] rfl)
    exact lp30 _ (σ.1 6) (σ.2.1 17) (Nat.le_refl _) shf_0 (Nat.lt_succ_self _) _ _ hP hD hS _ (lv_sub hl [1, 2, 0] rfl)

abbrev r_c_X4_hasBelow_25 : Room := { frames := 1, cells := 0, slots := 0, locals := 20 }
set_option maxHeartbeats 4000000 in
set_option maxRecDepth 100000 in
theorem c_X4_hasBelow_25 (l : Launch) (g : GC) (tl : va_W) (σ : SS) (k : Nat) (hL : LOk (σ.2.1 17) (σ.1 6)) (hk : k < 1000) : Met l yX4_hasBelow wsX4_hasBelow r_c_X4_hasBelow_25 (va_Pc [.ref (g.2.2.2 25), .int (nI k)] (PP g (wC g σ ++ tl))) (vp_Si (fun r => r = nI (if ∃ j, j < (σ.1 6) ∧ blw ((σ.2.1 17) j) k then 1 else 0))) 0 0 (fun _ => False) := by
  refine jn_pz (cc := cX4_hasBelow) (maxL := 3) (own := RX4) (by decide) rfl rfl (Nat.le_of_ble_eq_true rfl) ?_
  intro p e s m below meth c Q hx hb hml hown hts ⟨hP, hK⟩ hq ls hl
  have hl : lv_has ls 3 [(0, .ref (g.2.2.2 25)), (1, .int (nI k))] := hl
  have iX4 : ∀ w ∈ wsX40, w ∈ wsX4_hasBelow := by decide +kernel
  have k13 := hts (.fieldLink RX4 13 "JumpingAutomata$CountsList" "size" "I") (by decide +kernel)
  have k9 := hts (.fieldLink RX4 9 "JumpingAutomata$CountsList" "codes" "[I") (by decide +kernel)
  have hL1 := hL.1
  refine lv_iconst (v := nI 0) hx hb dX4_hasBelow_0 (by decide) ?_
  refine lv_istore_n (lv' := [(2, .int (nI 0)), (0, .ref (g.2.2.2 25)), (1, .int (nI k))]) hx hb dX4_hasBelow_1 rfl hl (by decide) rfl (fun ls hl => ?_)
  have lp2 : ∀ (fu : Nat), ∀ (i : Nat), (i ≤ (σ.1 6)) → (∀ j, j < i → ¬ blw ((σ.2.1 17) j) k) → (σ.1 6) - i < fu → ∀ ls : Array Slot, lv_has ls 3 [(0, .ref (g.2.2.2 25)), (1, .int (nI k)), (2, .int (nI i))] → W p l e r_c_X4_hasBelow_25 s m ([.ref (g.2.2.2 25), .int (nI k)] : List Value).toArray below meth c s.heap [] 0 0 Q (F0 m 2 ls []) := by
    intro fu
    induction fu with
    | zero => intro i h1 h2 hf; exact absurd hf (Nat.not_lt_zero _)
    | succ fu ih2 =>
      intro i h1 h2 hf ls hl
      refine lv_iload_n hx hb dX4_hasBelow_2 rfl (lv_at hl 2 rfl) ?_
      refine lv_aload_n hx hb dX4_hasBelow_3 rfl (lv_at hl 0 rfl) ?_
      refine va_get (D := (g.1, g.2.1)) (ci := 6) (v := .int (nI (σ.1 6))) (C := RX4) (T := TX4) (N := 2) hx hb hts iX4 hown hK.1 hP 25 (gC25 g σ tl) rfl 1 (by decide) k13 (fun _ h9 => h9) rfl dX4_hasBelow_4 ?_
      refine jn_cge hx hb (by omega) (by omega) (tgt := 72) dX4_hasBelow_7 (by decide) (fun c_7 => ?_) (fun c_7 => ?_)
      · refine lv_iconst (v := nI 0) hx hb dX4_hasBelow_72 (by decide) ?_
        exact hq _ _ ((nI 0)) dX4_hasBelow_73 jn_n0 (by rw [if_neg (by rintro ⟨j, hj, e⟩; exact h2 j (by omega) e)])
      · refine lv_iload_n hx hb dX4_hasBelow_10 rfl (lv_at hl 2 rfl) ?_
        refine lv_bipush (v := nI 56) hx hb dX4_hasBelow_11 (by decide) ?_
        refine jn_cge hx hb (by omega) (by decide) (tgt := 72) dX4_hasBelow_13 (by decide) (fun c_13 => ?_) (fun c_13 => ?_)
        · refine lv_iconst (v := nI 0) hx hb dX4_hasBelow_72 (by decide) ?_
          exact hq _ _ ((nI 0)) dX4_hasBelow_73 jn_n0 (by rw [if_neg (by rintro ⟨j, hj, e⟩; exact h2 j (by omega) e)])
        · refine lv_aload_n hx hb dX4_hasBelow_16 rfl (lv_at hl 0 rfl) ?_
          refine va_get (D := (g.1, g.2.1)) (ci := 6) (v := .ref (g.2.2.2 26)) (C := RX4) (T := TX4) (N := 2) hx hb hts iX4 hown hK.1 hP 25 (gC25 g σ tl) rfl 0 (by decide) k9 (fun _ h9 => h9) rfl dX4_hasBelow_17 ?_
          refine lv_iload_n hx hb dX4_hasBelow_20 rfl (lv_at hl 2 rfl) ?_
          refine jn_iald (f := σ.2.1 17) hx hb hK.1 hP 26 0 (gC26 g σ tl) rfl (by omega) (Nat.le_of_ble_eq_true rfl) dX4_hasBelow_21 ?_
          refine vp_callSi (va_Run.run (va_runSN (As := [.int (nI ((σ.2.1 17) i))]) (rest := []) ⟨hx, hb, hml, hown, hts⟩ (c_X10_firstOf l ((σ.2.1 17) i) (by have := (hL.2.2 i (by omega)).1; omega)) ⟨(va_cnB 1 hts gX4_hasBelow_X10_firstOf_n21 rfl rfl rfl (hK.2 _ (List.mem_of_getElem? (i := 15) rfl)) (hts (.initialized RX10) (by decide +kernel)) (by decide +kernel) ⟨Nat.le_of_ble_eq_true rfl, Nat.le_of_ble_eq_true rfl⟩), hts (.static yX10_firstOf) (by decide +kernel), trivial⟩ okTS rfl rfl hl.1 rfl (lv_room (Nat.le_of_ble_eq_true rfl)) dX4_hasBelow_22 ⟨Nat.le_of_ble_eq_true rfl, Nat.le_of_ble_eq_true rfl⟩)) (fun r_22 h_22 => ?_)
          subst h_22
          refine lv_iload_n hx hb dX4_hasBelow_25 rfl (lv_at hl 1 rfl) ?_
          refine vp_callSi (va_Run.run (va_runSN (As := [.int (nI k)]) (rest := [.int (nI (((σ.2.1 17) i) / 100))]) ⟨hx, hb, hml, hown, hts⟩ (c_X10_firstOf l k (by omega)) ⟨(va_cnB 1 hts gX4_hasBelow_X10_firstOf_n21 rfl rfl rfl (hK.2 _ (List.mem_of_getElem? (i := 15) rfl)) (hts (.initialized RX10) (by decide +kernel)) (by decide +kernel) ⟨Nat.le_of_ble_eq_true rfl, Nat.le_of_ble_eq_true rfl⟩), hts (.static yX10_firstOf) (by decide +kernel), trivial⟩ okTS rfl rfl hl.1 rfl (lv_room (Nat.le_of_ble_eq_true rfl)) dX4_hasBelow_26 ⟨Nat.le_of_ble_eq_true rfl, Nat.le_of_ble_eq_true rfl⟩)) (fun r_26 h_26 => ?_)
          subst h_26
          refine jn_cgt hx hb (by have := (hL.2.2 i (by omega)).1; omega) (by omega) (tgt := 66) dX4_hasBelow_29 (by decide) (fun c_29 => ?_) (fun c_29 => ?_)
          · refine lv_iinc (v := nI (i + 1)) (lv' := [(2, .int (nI (i + 1))), (0, .ref (g.2.2.2 25)), (1, .int (nI k))]) hx hb dX4_hasBelow_66 hl (k := 2) rfl (jn_ii _ 1) (by decide) rfl (fun ls hl => ?_)
            refine lv_goto (tgt := 2) hx hb dX4_hasBelow_69 (by decide) ?_
            exact ih2 (i + 1) (by omega) (fun j hj => by rcases Nat.lt_or_ge j i with q | q; { exact h2 j q }; { rw [show j = i by omega]; omega }) (by omega) _ (lv_sub hl [1, 2, 0] rfl)
          · refine lv_aload_n hx hb dX4_hasBelow_32 rfl (lv_at hl 0 rfl) ?_
            refine va_get (D := (g.1, g.2.1)) (ci := 6) (v := .ref (g.2.2.2 26)) (C := RX4) (T := TX4) (N := 2) hx hb hts iX4 hown hK.1 hP 25 (gC25 g σ tl) rfl 0 (by decide) k9 (fun _ h9 => h9) rfl dX4_hasBelow_33 ?_
            refine lv_iload_n hx hb dX4_hasBelow_36 rfl (lv_at hl 2 rfl) ?_
            refine jn_iald (f := σ.2.1 17) hx hb hK.1 hP 26 0 (gC26 g σ tl) rfl (by omega) (Nat.le_of_ble_eq_true rfl) dX4_hasBelow_37 ?_
            refine vp_callSi (va_Run.run (va_runSN (As := [.int (nI ((σ.2.1 17) i))]) (rest := []) ⟨hx, hb, hml, hown, hts⟩ (c_X10_secondOf l ((σ.2.1 17) i) (by have := (hL.2.2 i (by omega)).1; omega)) ⟨(va_cnB 1 hts gX4_hasBelow_X10_secondOf_n27 rfl rfl rfl (hK.2 _ (List.mem_of_getElem? (i := 16) rfl)) (hts (.initialized RX10) (by decide +kernel)) (by decide +kernel) ⟨Nat.le_of_ble_eq_true rfl, Nat.le_of_ble_eq_true rfl⟩), hts (.static yX10_secondOf) (by decide +kernel), trivial⟩ okTS rfl rfl hl.1 rfl (lv_room (Nat.le_of_ble_eq_true rfl)) dX4_hasBelow_38 ⟨Nat.le_of_ble_eq_true rfl, Nat.le_of_ble_eq_true rfl⟩)) (fun r_38 h_38 => ?_)
            subst h_38
            refine lv_iload_n hx hb dX4_hasBelow_41 rfl (lv_at hl 1 rfl) ?_
            refine vp_callSi (va_Run.run (va_runSN (As := [.int (nI k)]) (rest := [.int (nI (((σ.2.1 17) i) / 10 % 10))]) ⟨hx, hb, hml, hown, hts⟩ (c_X10_secondOf l k (by omega)) ⟨(va_cnB 1 hts gX4_hasBelow_X10_secondOf_n27 rfl rfl rfl (hK.2 _ (List.mem_of_getElem? (i := 16) rfl)) (hts (.initialized RX10) (by decide +kernel)) (by decide +kernel) ⟨Nat.le_of_ble_eq_true rfl, Nat.le_of_ble_eq_true rfl⟩), hts (.static yX10_secondOf) (by decide +kernel), trivial⟩ okTS rfl rfl hl.1 rfl (lv_room (Nat.le_of_ble_eq_true rfl)) dX4_hasBelow_42 ⟨Nat.le_of_ble_eq_true rfl, Nat.le_of_ble_eq_true rfl⟩)) (fun r_42 h_42 => ?_)
            subst h_42
            refine jn_cgt hx hb (by omega) (by omega) (tgt := 66) dX4_hasBelow_45 (by decide) (fun c_45 => ?_) (fun c_45 => ?_)
            · refine lv_iinc (v := nI (i + 1)) (lv' := [(2, .int (nI (i + 1))), (0, .ref (g.2.2.2 25)), (1, .int (nI k))]) hx hb dX4_hasBelow_66 hl (k := 2) rfl (jn_ii _ 1) (by decide) rfl (fun ls hl => ?_)
              refine lv_goto (tgt := 2) hx hb dX4_hasBelow_69 (by decide) ?_
              exact ih2 (i + 1) (by omega) (fun j hj => by rcases Nat.lt_or_ge j i with q | q; { exact h2 j q }; { rw [show j = i by omega]; omega }) (by omega) _ (lv_sub hl [1, 2, 0] rfl)
            · refine lv_aload_n hx hb dX4_hasBelow_48 rfl (lv_at hl 0 rfl) ?_
              refine va_get (D := (g.1, g.2.1)) (ci := 6) (v := .ref (g.2.2.2 26)) (C := RX4) (T := TX4) (N := 2) hx hb hts iX4 hown hK.1 hP 25 (gC25 g σ tl) rfl 0 (by decide) k9 (fun _ h9 => h9) rfl dX4_hasBelow_49 ?_
              refine lv_iload_n hx hb dX4_hasBelow_52 rfl (lv_at hl 2 rfl) ?_
              refine jn_iald (f := σ.2.1 17) hx hb hK.1 hP 26 0 (gC26 g σ tl) rfl (by omega) (Nat.le_of_ble_eq_true rfl) dX4_hasBelow_53 ?_
              refine vp_callSi (va_Run.run (va_runSN (As := [.int (nI ((σ.2.1 17) i))]) (rest := []) ⟨hx, hb, hml, hown, hts⟩ (c_X10_thirdOf l ((σ.2.1 17) i) (by have := (hL.2.2 i (by omega)).1; omega)) ⟨(va_cnB 1 hts gX4_hasBelow_X10_thirdOf_n30 rfl rfl rfl (hK.2 _ (List.mem_of_getElem? (i := 17) rfl)) (hts (.initialized RX10) (by decide +kernel)) (by decide +kernel) ⟨Nat.le_of_ble_eq_true rfl, Nat.le_of_ble_eq_true rfl⟩), hts (.static yX10_thirdOf) (by decide +kernel), trivial⟩ okTS rfl rfl hl.1 rfl (lv_room (Nat.le_of_ble_eq_true rfl)) dX4_hasBelow_54 ⟨Nat.le_of_ble_eq_true rfl, Nat.le_of_ble_eq_true rfl⟩)) (fun r_54 h_54 => ?_)
              subst h_54
              refine lv_iload_n hx hb dX4_hasBelow_57 rfl (lv_at hl 1 rfl) ?_
              refine vp_callSi (va_Run.run (va_runSN (As := [.int (nI k)]) (rest := [.int (nI (((σ.2.1 17) i) % 10))]) ⟨hx, hb, hml, hown, hts⟩ (c_X10_thirdOf l k (by omega)) ⟨(va_cnB 1 hts gX4_hasBelow_X10_thirdOf_n30 rfl rfl rfl (hK.2 _ (List.mem_of_getElem? (i := 17) rfl)) (hts (.initialized RX10) (by decide +kernel)) (by decide +kernel) ⟨Nat.le_of_ble_eq_true rfl, Nat.le_of_ble_eq_true rfl⟩), hts (.static yX10_thirdOf) (by decide +kernel), trivial⟩ okTS rfl rfl hl.1 rfl (lv_room (Nat.le_of_ble_eq_true rfl)) dX4_hasBelow_58 ⟨Nat.le_of_ble_eq_true rfl, Nat.le_of_ble_eq_true rfl⟩)) (fun r_58 h_58 => ?_)
              subst h_58
              refine jn_cgt hx hb (by omega) (by omega) (tgt := 66) dX4_hasBelow_61 (by decide) (fun c_61 => ?_) (fun c_61 => ?_)
              · refine lv_iinc (v := nI (i + 1)) (lv' := [(2, .int (nI (i + 1))), (0, .ref (g.2.2.2 25)), (1, .int (nI k))]) hx hb dX4_hasBelow_66 hl (k := 2) rfl (jn_ii _ 1) (by decide) rfl (fun ls hl => ?_)
                refine lv_goto (tgt := 2) hx hb dX4_hasBelow_69 (by decide) ?_
                exact ih2 (i + 1) (by omega) (fun j hj => by rcases Nat.lt_or_ge j i with q | q; { exact h2 j q }; { rw [show j = i by omega]; omega }) (by omega) _ (lv_sub hl [1, 2, 0] rfl)
              · refine lv_iconst (v := nI 1) hx hb dX4_hasBelow_64 (by decide) ?_
                exact hq _ _ ((nI 1)) dX4_hasBelow_65 jn_n1 (by rw [if_pos ⟨i, by omega, c_29, c_45, c_61⟩])
  exact lp2 _ 0 (by omega) (fun j hj => absurd hj (by omega)) (Nat.lt_succ_self _) _ (lv_sub hl [1, 2, 0] rfl)

abbrev r_c_X4_sumOfNumbers_25 : Room := { frames := 1, cells := 0, slots := 0, locals := 20 }
set_option maxHeartbeats 4000000 in
set_option maxRecDepth 100000 in
theorem c_X4_sumOfNumbers_25 (l : Launch) (g : GC) (tl : va_W) (σ : SS) (hL : LOk (σ.2.1 17) (σ.1 6)) : Met l yX4_sumOfNumbers wsX4_sumOfNumbers r_c_X4_sumOfNumbers_25 (va_Pc [.ref (g.2.2.2 25)] (PP g (wC g σ ++ tl))) (vp_Si (fun r => r = nI (fb_sm (fun i => dsum ((σ.2.1 17) i)) (σ.1 6)))) 0 0 (fun _ => False) := by
  refine jn_pi (cc := cX4_sumOfNumbers) (maxL := 3) (own := RX4) (by decide) rfl rfl (Nat.le_of_ble_eq_true rfl) ?_
  intro p e s m below meth c Q hx hb hml hown hts ⟨hP, hK⟩ hq ls hl
  have hl : lv_has ls 3 [(0, .ref (g.2.2.2 25))] := hl
  have iX4 : ∀ w ∈ wsX40, w ∈ wsX4_sumOfNumbers := by decide +kernel
  have k13 := hts (.fieldLink RX4 13 "JumpingAutomata$CountsList" "size" "I") (by decide +kernel)
  have k9 := hts (.fieldLink RX4 9 "JumpingAutomata$CountsList" "codes" "[I") (by decide +kernel)
  have hL1 := hL.1
  refine lv_iconst (v := nI 0) hx hb dX4_sumOfNumbers_0 (by decide) ?_
  refine lv_istore_n (lv' := [(1, .int (nI 0)), (0, .ref (g.2.2.2 25))]) hx hb dX4_sumOfNumbers_1 rfl hl (by decide) rfl (fun ls hl => ?_)
  refine lv_iconst (v := nI 0) hx hb dX4_sumOfNumbers_2 (by decide) ?_
  refine lv_istore_n (lv' := [(2, .int (nI 0)), (1, .int (nI 0)), (0, .ref (g.2.2.2 25))]) hx hb dX4_sumOfNumbers_3 rfl hl (by decide) rfl (fun ls hl => ?_)
  have lp4 : ∀ (fu : Nat), ∀ (i : Nat) (z : Nat), (i ≤ (σ.1 6)) → (z = fb_sm (fun i => dsum ((σ.2.1 17) i)) i) → (σ.1 6) - i < fu → ∀ ls : Array Slot, lv_has ls 3 [(0, .ref (g.2.2.2 25)), (1, .int (nI z)), (2, .int (nI i))] → W p l e r_c_X4_sumOfNumbers_25 s m ([.ref (g.2.2.2 25)] : List Value).toArray below meth c s.heap [] 0 0 Q (F0 m 4 ls []) := by
    intro fu
    induction fu with
    | zero => intro i z h1 h2 hf; exact absurd hf (Nat.not_lt_zero _)
    | succ fu ih4 =>
      intro i z h1 h2 hf ls hl
      refine lv_iload_n hx hb dX4_sumOfNumbers_4 rfl (lv_at hl 2 rfl) ?_
      refine lv_aload_n hx hb dX4_sumOfNumbers_5 rfl (lv_at hl 0 rfl) ?_
      refine va_get (D := (g.1, g.2.1)) (ci := 6) (v := .int (nI (σ.1 6))) (C := RX4) (T := TX4) (N := 2) hx hb hts iX4 hown hK.1 hP 25 (gC25 g σ tl) rfl 1 (by decide) k13 (fun _ h9 => h9) rfl dX4_sumOfNumbers_6 ?_
      refine jn_cge hx hb (by omega) (by omega) (tgt := 56) dX4_sumOfNumbers_9 (by decide) (fun c_9 => ?_) (fun c_9 => ?_)
      · refine lv_iload_n hx hb dX4_sumOfNumbers_56 rfl (lv_at hl 1 rfl) ?_
        exact hq _ _ ((nI z)) dX4_sumOfNumbers_57 (by rw [h2, show i = (σ.1 6) by omega])
      · refine lv_iload_n hx hb dX4_sumOfNumbers_12 rfl (lv_at hl 2 rfl) ?_
        refine lv_bipush (v := nI 56) hx hb dX4_sumOfNumbers_13 (by decide) ?_
        refine jn_cge hx hb (by omega) (by decide) (tgt := 56) dX4_sumOfNumbers_15 (by decide) (fun c_15 => ?_) (fun c_15 => ?_)
        · refine lv_iload_n hx hb dX4_sumOfNumbers_56 rfl (lv_at hl 1 rfl) ?_
          exact hq _ _ ((nI z)) dX4_sumOfNumbers_57 (by rw [h2, show i = (σ.1 6) by omega])
        · refine lv_iload_n hx hb dX4_sumOfNumbers_18 rfl (lv_at hl 1 rfl) ?_
          refine lv_aload_n hx hb dX4_sumOfNumbers_19 rfl (lv_at hl 0 rfl) ?_
          refine va_get (D := (g.1, g.2.1)) (ci := 6) (v := .ref (g.2.2.2 26)) (C := RX4) (T := TX4) (N := 2) hx hb hts iX4 hown hK.1 hP 25 (gC25 g σ tl) rfl 0 (by decide) k9 (fun _ h9 => h9) rfl dX4_sumOfNumbers_20 ?_
          refine lv_iload_n hx hb dX4_sumOfNumbers_23 rfl (lv_at hl 2 rfl) ?_
          refine jn_iald (f := σ.2.1 17) hx hb hK.1 hP 26 0 (gC26 g σ tl) rfl (by omega) (Nat.le_of_ble_eq_true rfl) dX4_sumOfNumbers_24 ?_
          refine vp_callSi (va_Run.run (va_runSN (As := [.int (nI ((σ.2.1 17) i))]) (rest := [.int (nI z)]) ⟨hx, hb, hml, hown, hts⟩ (c_X10_firstOf l ((σ.2.1 17) i) (by have := (hL.2.2 i (by omega)).1; omega)) ⟨(va_cnB 1 hts gX4_sumOfNumbers_X10_firstOf_n21 rfl rfl rfl (hK.2 _ (List.mem_of_getElem? (i := 15) rfl)) (hts (.initialized RX10) (by decide +kernel)) (by decide +kernel) ⟨Nat.le_of_ble_eq_true rfl, Nat.le_of_ble_eq_true rfl⟩), hts (.static yX10_firstOf) (by decide +kernel), trivial⟩ okTS rfl rfl hl.1 rfl (lv_room (Nat.le_of_ble_eq_true rfl)) dX4_sumOfNumbers_25 ⟨Nat.le_of_ble_eq_true rfl, Nat.le_of_ble_eq_true rfl⟩)) (fun r_25 h_25 => ?_)
          subst h_25
          refine lv_aload_n hx hb dX4_sumOfNumbers_28 rfl (lv_at hl 0 rfl) ?_
          refine va_get (D := (g.1, g.2.1)) (ci := 6) (v := .ref (g.2.2.2 26)) (C := RX4) (T := TX4) (N := 2) hx hb hts iX4 hown hK.1 hP 25 (gC25 g σ tl) rfl 0 (by decide) k9 (fun _ h9 => h9) rfl dX4_sumOfNumbers_29 ?_
          refine lv_iload_n hx hb dX4_sumOfNumbers_32 rfl (lv_at hl 2 rfl) ?_
          refine jn_iald (f := σ.2.1 17) hx hb hK.1 hP 26 0 (gC26 g σ tl) rfl (by omega) (Nat.le_of_ble_eq_true rfl) dX4_sumOfNumbers_33 ?_
          refine vp_callSi (va_Run.run (va_runSN (As := [.int (nI ((σ.2.1 17) i))]) (rest := [.int (nI (((σ.2.1 17) i) / 100)), .int (nI z)]) ⟨hx, hb, hml, hown, hts⟩ (c_X10_secondOf l ((σ.2.1 17) i) (by have := (hL.2.2 i (by omega)).1; omega)) ⟨(va_cnB 1 hts gX4_sumOfNumbers_X10_secondOf_n27 rfl rfl rfl (hK.2 _ (List.mem_of_getElem? (i := 16) rfl)) (hts (.initialized RX10) (by decide +kernel)) (by decide +kernel) ⟨Nat.le_of_ble_eq_true rfl, Nat.le_of_ble_eq_true rfl⟩), hts (.static yX10_secondOf) (by decide +kernel), trivial⟩ okTS rfl rfl hl.1 rfl (lv_room (Nat.le_of_ble_eq_true rfl)) dX4_sumOfNumbers_34 ⟨Nat.le_of_ble_eq_true rfl, Nat.le_of_ble_eq_true rfl⟩)) (fun r_34 h_34 => ?_)
          subst h_34
          refine jn_iadd hx hb dX4_sumOfNumbers_37 ?_
          refine lv_aload_n hx hb dX4_sumOfNumbers_38 rfl (lv_at hl 0 rfl) ?_
          refine va_get (D := (g.1, g.2.1)) (ci := 6) (v := .ref (g.2.2.2 26)) (C := RX4) (T := TX4) (N := 2) hx hb hts iX4 hown hK.1 hP 25 (gC25 g σ tl) rfl 0 (by decide) k9 (fun _ h9 => h9) rfl dX4_sumOfNumbers_39 ?_
          refine lv_iload_n hx hb dX4_sumOfNumbers_42 rfl (lv_at hl 2 rfl) ?_
          refine jn_iald (f := σ.2.1 17) hx hb hK.1 hP 26 0 (gC26 g σ tl) rfl (by omega) (Nat.le_of_ble_eq_true rfl) dX4_sumOfNumbers_43 ?_
          refine vp_callSi (va_Run.run (va_runSN (As := [.int (nI ((σ.2.1 17) i))]) (rest := [.int (nI ((((σ.2.1 17) i) / 100) + (((σ.2.1 17) i) / 10 % 10))), .int (nI z)]) ⟨hx, hb, hml, hown, hts⟩ (c_X10_thirdOf l ((σ.2.1 17) i) (by have := (hL.2.2 i (by omega)).1; omega)) ⟨(va_cnB 1 hts gX4_sumOfNumbers_X10_thirdOf_n30 rfl rfl rfl (hK.2 _ (List.mem_of_getElem? (i := 17) rfl)) (hts (.initialized RX10) (by decide +kernel)) (by decide +kernel) ⟨Nat.le_of_ble_eq_true rfl, Nat.le_of_ble_eq_true rfl⟩), hts (.static yX10_thirdOf) (by decide +kernel), trivial⟩ okTS rfl rfl hl.1 rfl (lv_room (Nat.le_of_ble_eq_true rfl)) dX4_sumOfNumbers_44 ⟨Nat.le_of_ble_eq_true rfl, Nat.le_of_ble_eq_true rfl⟩)) (fun r_44 h_44 => ?_)
          subst h_44
          refine jn_iadd hx hb dX4_sumOfNumbers_47 ?_
          refine jn_iadd hx hb dX4_sumOfNumbers_48 ?_
          refine lv_istore_n (lv' := [(1, .int (nI (z + (((((σ.2.1 17) i) / 100) + (((σ.2.1 17) i) / 10 % 10)) + (((σ.2.1 17) i) % 10))))), (0, .ref (g.2.2.2 25)), (2, .int (nI i))]) hx hb dX4_sumOfNumbers_49 rfl hl (by decide) rfl (fun ls hl => ?_)
          refine lv_iinc (v := nI (i + 1)) (lv' := [(2, .int (nI (i + 1))), (1, .int (nI (z + (((((σ.2.1 17) i) / 100) + (((σ.2.1 17) i) / 10 % 10)) + (((σ.2.1 17) i) % 10))))), (0, .ref (g.2.2.2 25))]) hx hb dX4_sumOfNumbers_50 hl (k := 2) rfl (jn_ii _ 1) (by decide) rfl (fun ls hl => ?_)
          refine lv_goto (tgt := 4) hx hb dX4_sumOfNumbers_53 (by decide) ?_
          exact ih4 (i + 1) (z + (((((σ.2.1 17) i) / 100) + (((σ.2.1 17) i) / 10 % 10)) + (((σ.2.1 17) i) % 10))) (by omega) (by rw [h2]; rfl) (by omega) _ (lv_sub hl [2, 1, 0] rfl)
  exact lp4 _ 0 0 (by omega) rfl (Nat.lt_succ_self _) _ (lv_sub hl [2, 1, 0] rfl)

abbrev r_c_X4_clear_27 : Room := { frames := 0, cells := 0, slots := 0, locals := 0 }
set_option maxHeartbeats 4000000 in
set_option maxRecDepth 100000 in
theorem c_X4_clear_27 (l : Launch) (g : GC) (tl : va_W) (sz : Nat) (σ : SS) : Met l yX4_clear wsX4_clear r_c_X4_clear_27 (va_Pc [.ref (g.2.2.2 27)] (PW g (wC g σ ++ tl) sz)) (va_Qv (fun (_ : Unit) => True) (fun (_ : Unit) t => BW g (va_A (wC g σ ++ tl) sz) (wC g (sF σ 7 0) ++ tl) t) (va_A (wC g σ ++ tl) sz)) 0 0 (va_A (wC g σ ++ tl) sz) := by
  refine jn_sv (wf := fun _ : Unit => wC g (sF σ 7 0) ++ tl) (cc := cX4_clear) (maxL := 1) (own := RX4) (by decide) rfl rfl (Nat.le_of_ble_eq_true rfl) ?_
  intro p e s m below meth c Q A hx hb hml hown hts hK hP hD hS hAA hq ls hl
  obtain ⟨H, eH⟩ : ∃ z, z = s.heap := ⟨_, rfl⟩
  obtain ⟨locs, el⟩ : ∃ z : List Loc, z = [] := ⟨_, rfl⟩
  rw [← eH] at hP
  have hS : va_S A s.heap H locs := by rw [eH, el]; exact hS
  have goal0 : W p l e r_c_X4_clear_27 s m ([.ref (g.2.2.2 27)] : List Value).toArray below meth c H locs 0 0 Q (F0 m 0 ls []) → W p l e r_c_X4_clear_27 s m ([.ref (g.2.2.2 27)] : List Value).toArray below meth c s.heap [] 0 0 Q (F0 m 0 ls []) := fun h => by rw [eH, el] at h; exact h
  refine goal0 ?_
  have hl : lv_has ls 1 [(0, .ref (g.2.2.2 27))] := hl
  have iX4 : ∀ w ∈ wsX40, w ∈ wsX4_clear := by decide +kernel
  have k13 := hts (.fieldLink RX4 13 "JumpingAutomata$CountsList" "size" "I") (by decide +kernel)
  refine lv_aload_n hx hb dX4_clear_0 rfl (lv_at hl 0 rfl) ?_
  refine lv_iconst (v := nI 0) hx hb dX4_clear_1 (by decide) ?_
  refine jn_put (D := (g.1, g.2.1)) (ci := 6) (v := .int (nI 0)) (ty := .int) (C := RX4) (T := TX4) (N := 2) hx hb hts iX4 tyX4 tyX4_ok nmX4 hown hK.1 hP hD hS 27 (gC27 g σ tl) rfl 1 (by decide) k13 (fun _ h9 => h9) rfl (by decide +kernel) rfl rfl (Nat.le_of_ble_eq_true rfl) (uC_F7 g σ tl 0) dX4_clear_2 (fun H locs hP hD hS => ?_)
  exact hq _ _ _ _ () dX4_clear_5 trivial hP hD hS

abbrev r_c_X4_at_27 : Room := { frames := 0, cells := 0, slots := 0, locals := 0 }
set_option maxHeartbeats 4000000 in
set_option maxRecDepth 100000 in
theorem c_X4_at_27 (l : Launch) (g : GC) (tl : va_W) (σ : SS) (k : Nat) (hL : LOk (σ.2.1 18) (σ.1 7)) (hk : k < (σ.1 7)) : Met l yX4_at wsX4_at r_c_X4_at_27 (va_Pc [.ref (g.2.2.2 27), .int (nI k)] (PP g (wC g σ ++ tl))) (vp_Si (fun r => r = nI ((σ.2.1 18) k))) 0 0 (fun _ => False) := by
  refine jn_pi (cc := cX4_at) (maxL := 2) (own := RX4) (by decide) rfl rfl (Nat.le_of_ble_eq_true rfl) ?_
  intro p e s m below meth c Q hx hb hml hown hts ⟨hP, hK⟩ hq ls hl
  have hl : lv_has ls 2 [(0, .ref (g.2.2.2 27)), (1, .int (nI k))] := hl
  have iX4 : ∀ w ∈ wsX40, w ∈ wsX4_at := by decide +kernel
  have k13 := hts (.fieldLink RX4 13 "JumpingAutomata$CountsList" "size" "I") (by decide +kernel)
  have k9 := hts (.fieldLink RX4 9 "JumpingAutomata$CountsList" "codes" "[I") (by decide +kernel)
  have hL1 := hL.1
  refine lv_iload_n hx hb dX4_at_0 rfl (lv_at hl 1 rfl) ?_
  refine jn_zlt hx hb (by omega) (tgt := 27) dX4_at_1 (by decide) (fun c_1 => absurd c_1 (by omega)) (fun c_1 => ?_)
  refine lv_iload_n hx hb dX4_at_4 rfl (lv_at hl 1 rfl) ?_
  refine lv_aload_n hx hb dX4_at_5 rfl (lv_at hl 0 rfl) ?_
  refine va_get (D := (g.1, g.2.1)) (ci := 6) (v := .int (nI (σ.1 7))) (C := RX4) (T := TX4) (N := 2) hx hb hts iX4 hown hK.1 hP 27 (gC27 g σ tl) rfl 1 (by decide) k13 (fun _ h9 => h9) rfl dX4_at_6 ?_
  refine jn_cge hx hb (by omega) (by omega) (tgt := 27) dX4_at_9 (by decide) (fun c_9 => absurd c_9 (by omega)) (fun c_9 => ?_)
  refine lv_iload_n hx hb dX4_at_12 rfl (lv_at hl 1 rfl) ?_
  refine lv_bipush (v := nI 56) hx hb dX4_at_13 (by decide) ?_
  refine jn_cge hx hb (by omega) (by decide) (tgt := 27) dX4_at_15 (by decide) (fun c_15 => absurd c_15 (by omega)) (fun c_15 => ?_)
  refine lv_aload_n hx hb dX4_at_18 rfl (lv_at hl 0 rfl) ?_
  refine va_get (D := (g.1, g.2.1)) (ci := 6) (v := .ref (g.2.2.2 28)) (C := RX4) (T := TX4) (N := 2) hx hb hts iX4 hown hK.1 hP 27 (gC27 g σ tl) rfl 0 (by decide) k9 (fun _ h9 => h9) rfl dX4_at_19 ?_
  refine lv_iload_n hx hb dX4_at_22 rfl (lv_at hl 1 rfl) ?_
  refine jn_iald (f := σ.2.1 18) hx hb hK.1 hP 28 0 (gC28 g σ tl) rfl (by omega) (Nat.le_of_ble_eq_true rfl) dX4_at_23 ?_
  refine lv_goto (tgt := 28) hx hb dX4_at_24 (by decide) ?_
  exact hq _ _ ((nI ((σ.2.1 18) k))) dX4_at_28 rfl

abbrev r_c_X4_holds_27 : Room := { frames := 0, cells := 0, slots := 0, locals := 0 }
set_option maxHeartbeats 4000000 in
set_option maxRecDepth 100000 in
theorem c_X4_holds_27 (l : Launch) (g : GC) (tl : va_W) (σ : SS) (k : Nat) (hL : LOk (σ.2.1 18) (σ.1 7)) (hk : k < 1000) : Met l yX4_holds wsX4_holds r_c_X4_holds_27 (va_Pc [.ref (g.2.2.2 27), .int (nI k)] (PP g (wC g σ ++ tl))) (vp_Si (fun r => r = nI (if inL (σ.2.1 18) (σ.1 7) k then 1 else 0))) 0 0 (fun _ => False) := by
  refine jn_pz (cc := cX4_holds) (maxL := 3) (own := RX4) (by decide) rfl rfl (Nat.le_of_ble_eq_true rfl) ?_
  intro p e s m below meth c Q hx hb hml hown hts ⟨hP, hK⟩ hq ls hl
  have hl : lv_has ls 3 [(0, .ref (g.2.2.2 27)), (1, .int (nI k))] := hl
  have iX4 : ∀ w ∈ wsX40, w ∈ wsX4_holds := by decide +kernel
  have k13 := hts (.fieldLink RX4 13 "JumpingAutomata$CountsList" "size" "I") (by decide +kernel)
  have k9 := hts (.fieldLink RX4 9 "JumpingAutomata$CountsList" "codes" "[I") (by decide +kernel)
  have hL1 := hL.1
  refine lv_iconst (v := nI 0) hx hb dX4_holds_0 (by decide) ?_
  refine lv_istore_n (lv' := [(2, .int (nI 0)), (0, .ref (g.2.2.2 27)), (1, .int (nI k))]) hx hb dX4_holds_1 rfl hl (by decide) rfl (fun ls hl => ?_)
  have lp2 : ∀ (fu : Nat), ∀ (i : Nat), (i ≤ (σ.1 7)) → (∀ j, j < i → (σ.2.1 18) j ≠ k) → (σ.1 7) - i < fu → ∀ ls : Array Slot, lv_has ls 3 [(0, .ref (g.2.2.2 27)), (1, .int (nI k)), (2, .int (nI i))] → W p l e r_c_X4_holds_27 s m ([.ref (g.2.2.2 27), .int (nI k)] : List Value).toArray below meth c s.heap [] 0 0 Q (F0 m 2 ls []) := by
    intro fu
    induction fu with
    | zero => intro i h1 h2 hf; exact absurd hf (Nat.not_lt_zero _)
    | succ fu ih2 =>
      intro i h1 h2 hf ls hl
      refine lv_iload_n hx hb dX4_holds_2 rfl (lv_at hl 2 rfl) ?_
      refine lv_aload_n hx hb dX4_holds_3 rfl (lv_at hl 0 rfl) ?_
      refine va_get (D := (g.1, g.2.1)) (ci := 6) (v := .int (nI (σ.1 7))) (C := RX4) (T := TX4) (N := 2) hx hb hts iX4 hown hK.1 hP 27 (gC27 g σ tl) rfl 1 (by decide) k13 (fun _ h9 => h9) rfl dX4_holds_4 ?_
      refine jn_cge hx hb (by omega) (by omega) (tgt := 34) dX4_holds_7 (by decide) (fun c_7 => ?_) (fun c_7 => ?_)
      · refine lv_iconst (v := nI 0) hx hb dX4_holds_34 (by decide) ?_
        exact hq _ _ ((nI 0)) dX4_holds_35 jn_n0 (by rw [if_neg (by rintro ⟨j, hj, e⟩; exact h2 j (by omega) e)])
      · refine lv_iload_n hx hb dX4_holds_10 rfl (lv_at hl 2 rfl) ?_
        refine lv_bipush (v := nI 56) hx hb dX4_holds_11 (by decide) ?_
        refine jn_cge hx hb (by omega) (by decide) (tgt := 34) dX4_holds_13 (by decide) (fun c_13 => ?_) (fun c_13 => ?_)
        · refine lv_iconst (v := nI 0) hx hb dX4_holds_34 (by decide) ?_
          exact hq _ _ ((nI 0)) dX4_holds_35 jn_n0 (by rw [if_neg (by rintro ⟨j, hj, e⟩; exact h2 j (by omega) e)])
        · refine lv_aload_n hx hb dX4_holds_16 rfl (lv_at hl 0 rfl) ?_
          refine va_get (D := (g.1, g.2.1)) (ci := 6) (v := .ref (g.2.2.2 28)) (C := RX4) (T := TX4) (N := 2) hx hb hts iX4 hown hK.1 hP 27 (gC27 g σ tl) rfl 0 (by decide) k9 (fun _ h9 => h9) rfl dX4_holds_17 ?_
          refine lv_iload_n hx hb dX4_holds_20 rfl (lv_at hl 2 rfl) ?_
          refine jn_iald (f := σ.2.1 18) hx hb hK.1 hP 28 0 (gC28 g σ tl) rfl (by omega) (Nat.le_of_ble_eq_true rfl) dX4_holds_21 ?_
          refine lv_iload_n hx hb dX4_holds_22 rfl (lv_at hl 1 rfl) ?_
          refine jn_cne hx hb (by have := (hL.2.2 i (by omega)).1; omega) (by omega) (tgt := 28) dX4_holds_23 (by decide) (fun c_23 => ?_) (fun c_23 => ?_)
          · refine lv_iinc (v := nI (i + 1)) (lv' := [(2, .int (nI (i + 1))), (0, .ref (g.2.2.2 27)), (1, .int (nI k))]) hx hb dX4_holds_28 hl (k := 2) rfl (jn_ii _ 1) (by decide) rfl (fun ls hl => ?_)
            refine lv_goto (tgt := 2) hx hb dX4_holds_31 (by decide) ?_
            exact ih2 (i + 1) (by omega) (fun j hj => by rcases Nat.lt_or_ge j i with q | q; { exact h2 j q }; { rw [show j = i by omega]; exact c_23 }) (by omega) _ (lv_sub hl [1, 2, 0] rfl)
          · refine lv_iconst (v := nI 1) hx hb dX4_holds_26 (by decide) ?_
            exact hq _ _ ((nI 1)) dX4_holds_27 jn_n1 (by rw [if_pos ⟨i, by omega, c_23⟩])
  exact lp2 _ 0 (by omega) (fun j hj => absurd hj (by omega)) (Nat.lt_succ_self _) _ (lv_sub hl [1, 2, 0] rfl)

abbrev r_c_X4_insert_27 : Room := { frames := 1, cells := 0, slots := 0, locals := 22 }
set_option maxHeartbeats 4000000 in
set_option maxRecDepth 100000 in
theorem c_X4_insert_27 (l : Launch) (g : GC) (tl : va_W) (sz : Nat) (σ : SS) (k : Nat) (hL : LOk (σ.2.1 18) (σ.1 7)) (hk : cs5 k) : Met l yX4_insert wsX4_insert r_c_X4_insert_27 (va_Pc [.ref (g.2.2.2 27), .int (nI k)] (PW g (wC g σ ++ tl) sz)) (va_Qv (fun (z : (Nat → Nat) × Nat) => match z with | (f2, n2) => (LOk f2 n2) ∧ (∀ x, inL f2 n2 x ↔ inL (σ.2.1 18) (σ.1 7) x ∨ x = k)) (fun (z : (Nat → Nat) × Nat) t => BW g (va_A (wC g σ ++ tl) sz) ((fun z : (Nat → Nat) × Nat => match z with | (f2, n2) => wC g (sA (sF σ 7 n2) 18 f2) ++ tl) z) t) (va_A (wC g σ ++ tl) sz)) 0 0 (va_A (wC g σ ++ tl) sz) := by
  refine jn_sv (wf := fun z : (Nat → Nat) × Nat => match z with | (f2, n2) => wC g (sA (sF σ 7 n2) 18 f2) ++ tl) (cc := cX4_insert) (maxL := 3) (own := RX4) (by decide) rfl rfl (Nat.le_of_ble_eq_true rfl) ?_
  intro p e s m below meth c Q A hx hb hml hown hts hK hP hD hS hAA hq ls hl
  obtain ⟨H, eH⟩ : ∃ z, z = s.heap := ⟨_, rfl⟩
  obtain ⟨locs, el⟩ : ∃ z : List Loc, z = [] := ⟨_, rfl⟩
  rw [← eH] at hP
  have hS : va_S A s.heap H locs := by rw [eH, el]; exact hS
  have goal0 : W p l e r_c_X4_insert_27 s m ([.ref (g.2.2.2 27), .int (nI k)] : List Value).toArray below meth c H locs 0 0 Q (F0 m 0 ls []) → W p l e r_c_X4_insert_27 s m ([.ref (g.2.2.2 27), .int (nI k)] : List Value).toArray below meth c s.heap [] 0 0 Q (F0 m 0 ls []) := fun h => by rw [eH, el] at h; exact h
  refine goal0 ?_
  have hl : lv_has ls 3 [(0, .ref (g.2.2.2 27)), (1, .int (nI k))] := hl
  have iX4 : ∀ w ∈ wsX40, w ∈ wsX4_insert := by decide +kernel
  have k13 := hts (.fieldLink RX4 13 "JumpingAutomata$CountsList" "size" "I") (by decide +kernel)
  have k9 := hts (.fieldLink RX4 9 "JumpingAutomata$CountsList" "codes" "[I") (by decide +kernel)
  have hL1 := hL.1
  have hk1 := hk.1
  refine lv_aload_n hx hb dX4_insert_0 rfl (lv_at hl 0 rfl) ?_
  refine lv_iload_n hx hb dX4_insert_1 rfl (lv_at hl 1 rfl) ?_
  refine vp_callSi (va_Run.run (va_runV (As := [.int (nI k)]) (rest := []) ⟨hx, hb, hml, hown, hts⟩ (c_X4_holds_27 l g tl σ k hL hk1) (cwV 1 hts gX4_insert_X4_holds rfl rfl rfl (by decide +kernel) ⟨Nat.le_of_ble_eq_true rfl, Nat.le_of_ble_eq_true rfl⟩) (okPV hK hP rfl (gC27 g σ tl)) rfl rfl hl.1 rfl (lv_room (Nat.le_of_ble_eq_true rfl)) dX4_insert_2 ⟨Nat.le_of_ble_eq_true rfl, Nat.le_of_ble_eq_true rfl⟩)) (fun r_2 h_2 => ?_)
  subst h_2
  refine jn_bne hx hb (tgt := 24) dX4_insert_5 (by decide) (fun c_5 => ?_) (fun c_5 => ?_)
  · exact hq _ _ _ _ ((σ.2.1 18), (σ.1 7)) dX4_insert_24 (⟨hL, fun x => ⟨Or.inl, fun q => q.elim id (fun e => by rw [e]; exact c_5)⟩⟩) hP hD hS
  · have hrm := list_room hL hk c_5
    refine lv_aload_n hx hb dX4_insert_8 rfl (lv_at hl 0 rfl) ?_
    refine va_get (D := (g.1, g.2.1)) (ci := 6) (v := .int (nI (σ.1 7))) (C := RX4) (T := TX4) (N := 2) hx hb hts iX4 hown hK.1 hP 27 (gC27 g σ tl) rfl 1 (by decide) k13 (fun _ h9 => h9) rfl dX4_insert_9 ?_
    refine jn_zlt hx hb (by omega) (tgt := 24) dX4_insert_12 (by decide) (fun c_12 => absurd c_12 (by omega)) (fun c_12 => ?_)
    refine lv_aload_n hx hb dX4_insert_15 rfl (lv_at hl 0 rfl) ?_
    refine va_get (D := (g.1, g.2.1)) (ci := 6) (v := .int (nI (σ.1 7))) (C := RX4) (T := TX4) (N := 2) hx hb hts iX4 hown hK.1 hP 27 (gC27 g σ tl) rfl 1 (by decide) k13 (fun _ h9 => h9) rfl dX4_insert_16 ?_
    refine lv_bipush (v := nI 56) hx hb dX4_insert_19 (by decide) ?_
    refine jn_clt hx hb (by omega) (by decide) (tgt := 25) dX4_insert_21 (by decide) (fun c_21 => ?_) (fun c_21 => absurd c_21 (by omega))
    refine lv_aload_n hx hb dX4_insert_25 rfl (lv_at hl 0 rfl) ?_
    refine va_get (D := (g.1, g.2.1)) (ci := 6) (v := .int (nI (σ.1 7))) (C := RX4) (T := TX4) (N := 2) hx hb hts iX4 hown hK.1 hP 27 (gC27 g σ tl) rfl 1 (by decide) k13 (fun _ h9 => h9) rfl dX4_insert_26 ?_
    refine lv_istore_n (lv' := [(2, .int (nI (σ.1 7))), (0, .ref (g.2.2.2 27)), (1, .int (nI k))]) hx hb dX4_insert_29 rfl hl (by decide) rfl (fun ls hl => ?_)
    have lp30 : ∀ (fu : Nat), ∀ (q : Nat) (f3 : Nat → Nat), (q ≤ (σ.1 7)) → (Shf (σ.2.1 18) f3 (σ.1 7) q k) → q < fu → ∀ (H : Heap) (locs : List Loc), va_P (g.1, g.2.1) vwCl (wC g (sA σ 18 f3) ++ tl) H → va_D A (wC g (sA σ 18 f3) ++ tl) → va_S A s.heap H locs → ∀ ls : Array Slot, lv_has ls 3 [(0, .ref (g.2.2.2 27)), (1, .int (nI k)), (2, .int (nI q))] → W p l e r_c_X4_insert_27 s m ([.ref (g.2.2.2 27), .int (nI k)] : List Value).toArray below meth c H locs 0 0 Q (F0 m 30 ls []) := by
      intro fu
      induction fu with
      | zero => intro q f3 h1 h2 hf; exact absurd hf (Nat.not_lt_zero _)
      | succ fu ih30 =>
        intro q f3 h1 h2 hf H locs hP hD hS ls hl
        refine lv_iload_n hx hb dX4_insert_30 rfl (lv_at hl 2 rfl) ?_
        refine jn_zle hx hb (by omega) (tgt := 66) dX4_insert_31 (by decide) (fun c_31 => ?_) (fun c_31 => ?_)
        · refine lv_aload_n hx hb dX4_insert_66 rfl (lv_at hl 0 rfl) ?_
          refine va_get (D := (g.1, g.2.1)) (ci := 6) (v := .ref (g.2.2.2 28)) (C := RX4) (T := TX4) (N := 2) hx hb hts iX4 hown hK.1 hP 27 (gC27 g (sA σ 18 f3) tl) rfl 0 (by decide) k9 (fun _ h9 => h9) rfl dX4_insert_67 ?_
          refine lv_iload_n hx hb dX4_insert_70 rfl (lv_at hl 2 rfl) ?_
          refine lv_iload_n hx hb dX4_insert_71 rfl (lv_at hl 1 rfl) ?_
          have hbb : ∀ i, i < q → (σ.2.1 18) i ≤ k := by first | exact fun i hi => absurd hi (by omega) | exact shf_b1 hL h2 (by omega) h1 c_43
          refine jn_iast (f := f3) hx hb hK.1 hP hD hS 28 0 (gC28 g (sA σ 18 f3) tl) rfl (by omega) (Nat.le_of_ble_eq_true rfl) (uC_A18 g (sA σ 18 f3) tl _) dX4_insert_72 (fun H locs hP hD hS => ?_)
          refine lv_aload_n hx hb dX4_insert_73 rfl (lv_at hl 0 rfl) ?_
          refine lv_dup hx hb dX4_insert_74 rfl ?_
          refine va_get (D := (g.1, g.2.1)) (ci := 6) (v := .int (nI (σ.1 7))) (C := RX4) (T := TX4) (N := 2) hx hb hts iX4 hown hK.1 hP 27 (gC27 g (sA (sA σ 18 f3) 18 (va_up f3 q k)) tl) rfl 1 (by decide) k13 (fun _ h9 => h9) rfl dX4_insert_75 ?_
          refine lv_iconst (v := nI 1) hx hb dX4_insert_78 (by decide) ?_
          refine jn_iadd hx hb dX4_insert_79 ?_
          refine jn_put (D := (g.1, g.2.1)) (ci := 6) (v := .int (nI ((σ.1 7) + 1))) (ty := .int) (C := RX4) (T := TX4) (N := 2) hx hb hts iX4 tyX4 tyX4_ok nmX4 hown hK.1 hP hD hS 27 (gC27 g (sA (sA σ 18 f3) 18 (va_up f3 q k)) tl) rfl 1 (by decide) k13 (fun _ h9 => h9) rfl (by decide +kernel) rfl rfl (Nat.le_of_ble_eq_true rfl) (uC_F7 g (sA (sA σ 18 f3) 18 (va_up f3 q k)) tl ((σ.1 7) + 1)) dX4_insert_80 (fun H locs hP hD hS => ?_)
          exact hq _ _ _ _ ((va_up f3 q k), ((σ.1 7) + 1)) dX4_insert_83 (shf_ok hL hk c_5 h1 h2 hbb) hP hD hS
        · refine lv_aload_n hx hb dX4_insert_34 rfl (lv_at hl 0 rfl) ?_
          refine va_get (D := (g.1, g.2.1)) (ci := 6) (v := .ref (g.2.2.2 28)) (C := RX4) (T := TX4) (N := 2) hx hb hts iX4 hown hK.1 hP 27 (gC27 g (sA σ 18 f3) tl) rfl 0 (by decide) k9 (fun _ h9 => h9) rfl dX4_insert_35 ?_
          refine lv_iload_n hx hb dX4_insert_38 rfl (lv_at hl 2 rfl) ?_
          refine lv_iconst (v := nI 1) hx hb dX4_insert_39 (by decide) ?_
          refine jn_isub hx hb (by omega) dX4_insert_40 ?_
          refine jn_iald (f := f3) hx hb hK.1 hP 28 0 (gC28 g (sA σ 18 f3) tl) rfl (by omega) (Nat.le_of_ble_eq_true rfl) dX4_insert_41 ?_
          refine lv_iload_n hx hb dX4_insert_42 rfl (lv_at hl 1 rfl) ?_
          have hfq : f3 (q - 1) < 1000 := by rw [h2.1 (q - 1) (by omega)]; exact (hL.2.2 (q - 1) (by omega)).1
          refine jn_cle hx hb (by omega) (by omega) (tgt := 66) dX4_insert_43 (by decide) (fun c_43 => ?_) (fun c_43 => ?_)
          · refine lv_aload_n hx hb dX4_insert_66 rfl (lv_at hl 0 rfl) ?_
            refine va_get (D := (g.1, g.2.1)) (ci := 6) (v := .ref (g.2.2.2 28)) (C := RX4) (T := TX4) (N := 2) hx hb hts iX4 hown hK.1 hP 27 (gC27 g (sA σ 18 f3) tl) rfl 0 (by decide) k9 (fun _ h9 => h9) rfl dX4_insert_67 ?_
            refine lv_iload_n hx hb dX4_insert_70 rfl (lv_at hl 2 rfl) ?_
            refine lv_iload_n hx hb dX4_insert_71 rfl (lv_at hl 1 rfl) ?_
            have hbb : ∀ i, i < q → (σ.2.1 18) i ≤ k := by first | exact fun i hi => absurd hi (by omega) | exact shf_b1 hL h2 (by omega) h1 c_43
            refine jn_iast (f := f3) hx hb hK.1 hP hD hS 28 0 (gC28 g (sA σ 18 f3) tl) rfl (by omega) (Nat.le_of_ble_eq_true rfl) (uC_A18 g (sA σ 18 f3) tl _) dX4_insert_72 (fun H locs hP hD hS => ?_)
            refine lv_aload_n hx hb dX4_insert_73 rfl (lv_at hl 0 rfl) ?_
            refine lv_dup hx hb dX4_insert_74 rfl ?_
            refine va_get (D := (g.1, g.2.1)) (ci := 6) (v := .int (nI (σ.1 7))) (C := RX4) (T := TX4) (N := 2) hx hb hts iX4 hown hK.1 hP 27 (gC27 g (sA (sA σ 18 f3) 18 (va_up f3 q k)) tl) rfl 1 (by decide) k13 (fun _ h9 => h9) rfl dX4_insert_75 ?_
            refine lv_iconst (v := nI 1) hx hb dX4_insert_78 (by decide) ?_
            refine jn_iadd hx hb dX4_insert_79 ?_
            refine jn_put (D := (g.1, g.2.1)) (ci := 6) (v := .int (nI ((σ.1 7) + 1))) (ty := .int) (C := RX4) (T := TX4) (N := 2) hx hb hts iX4 tyX4 tyX4_ok nmX4 hown hK.1 hP hD hS 27 (gC27 g (sA (sA σ 18 f3) 18 (va_up f3 q k)) tl) rfl 1 (by decide) k13 (fun _ h9 => h9) rfl (by decide +kernel) rfl rfl (Nat.le_of_ble_eq_true rfl) (uC_F7 g (sA (sA σ 18 f3) 18 (va_up f3 q k)) tl ((σ.1 7) + 1)) dX4_insert_80 (fun H locs hP hD hS => ?_)
            exact hq _ _ _ _ ((va_up f3 q k), ((σ.1 7) + 1)) dX4_insert_83 (shf_ok hL hk c_5 h1 h2 hbb) hP hD hS
          · refine lv_aload_n hx hb dX4_insert_46 rfl (lv_at hl 0 rfl) ?_
            refine va_get (D := (g.1, g.2.1)) (ci := 6) (v := .ref (g.2.2.2 28)) (C := RX4) (T := TX4) (N := 2) hx hb hts iX4 hown hK.1 hP 27 (gC27 g (sA σ 18 f3) tl) rfl 0 (by decide) k9 (fun _ h9 => h9) rfl dX4_insert_47 ?_
            refine lv_iload_n hx hb dX4_insert_50 rfl (lv_at hl 2 rfl) ?_
            refine lv_aload_n hx hb dX4_insert_51 rfl (lv_at hl 0 rfl) ?_
            refine va_get (D := (g.1, g.2.1)) (ci := 6) (v := .ref (g.2.2.2 28)) (C := RX4) (T := TX4) (N := 2) hx hb hts iX4 hown hK.1 hP 27 (gC27 g (sA σ 18 f3) tl) rfl 0 (by decide) k9 (fun _ h9 => h9) rfl dX4_insert_52 ?_
            refine lv_iload_n hx hb dX4_insert_55 rfl (lv_at hl 2 rfl) ?_
            refine lv_iconst (v := nI 1) hx hb dX4_insert_56 (by decide) ?_
            refine jn_isub hx hb (by omega) dX4_insert_57 ?_
            refine jn_iald (f := f3) hx hb hK.1 hP 28 0 (gC28 g (sA σ 18 f3) tl) rfl (by omega) (Nat.le_of_ble_eq_true rfl) dX4_insert_58 ?_
            refine jn_iast (f := f3) hx hb hK.1 hP hD hS 28 0 (gC28 g (sA σ 18 f3) tl) rfl (by omega) (Nat.le_of_ble_eq_true rfl) (uC_A18 g (sA σ 18 f3) tl _) dX4_insert_59 (fun H locs hP hD hS => ?_)
            refine lv_iinc (v := nI (q - 1)) (lv' := [(2, .int (nI (q - 1))), (0, .ref (g.2.2.2 27)), (1, .int (nI k))]) hx hb dX4_insert_60 hl (k := 2) rfl (jn_im (by omega)) (by decide) rfl (fun ls hl => ?_)
            refine lv_goto (tgt := 30) hx hb dX4_insert_63 (by decide) ?_
            exact ih30 (q - 1) (va_up f3 q (f3 (q - 1))) (by omega) (shf_step (by omega) h1 h2 c_43) (by omega) _ _ hP hD hS _ (lv_sub hl [1, 2, 0] rfl)
    exact lp30 _ (σ.1 7) (σ.2.1 18) (Nat.le_refl _) shf_0 (Nat.lt_succ_self _) _ _ hP hD hS _ (lv_sub hl [1, 2, 0] rfl)
