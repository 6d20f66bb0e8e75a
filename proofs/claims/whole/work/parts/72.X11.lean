abbrev r_c_X11_layOther : Room := { frames := 0, cells := 0, slots := 0, locals := 0 }
set_option maxHeartbeats 4000000 in
set_option maxRecDepth 100000 in
theorem c_X11_layOther (l : Launch) (g : GC) (tl : va_W) (sz : Nat) (σ : SS) (cd n : Nat) (hcd : cd < 2187) (hn : n ≤ 7) : Met l yX11_layOther wsX11_layOther r_c_X11_layOther (va_Pc [.ref (g.2.2.2 0), .int (nI cd), .int (nI n)] (PW g (wM g σ ++ tl) sz)) (va_Qv (fun (f6 : (Nat → Nat)) => ∀ k, k < n → f6 k = dgt cd n k) (fun (f6 : (Nat → Nat)) t => BW g (va_A (wM g σ ++ tl) sz) (wM g (sA σ 6 f6) ++ tl) t) (va_A (wM g σ ++ tl) sz)) 0 0 (va_A (wM g σ ++ tl) sz) := by
  refine jn_sv (wf := fun f6 : (Nat → Nat) => wM g (sA σ 6 f6) ++ tl) (cc := cX11_layOther) (maxL := 5) (own := RX11) (by decide) rfl rfl (Nat.le_of_ble_eq_true rfl) ?_
  intro p e s m below meth c Q A hx hb hml hown hts hK hP hD hS hAA hq ls hl
  obtain ⟨H, eH⟩ : ∃ z, z = s.heap := ⟨_, rfl⟩
  obtain ⟨locs, el⟩ : ∃ z : List Loc, z = [] := ⟨_, rfl⟩
  rw [← eH] at hP
  have hS : va_S A s.heap H locs := by rw [eH, el]; exact hS
  have goal0 : W p l e r_c_X11_layOther s m ([.ref (g.2.2.2 0), .int (nI cd), .int (nI n)] : List Value).toArray below meth c H locs 0 0 Q (F0 m 0 ls []) → W p l e r_c_X11_layOther s m ([.ref (g.2.2.2 0), .int (nI cd), .int (nI n)] : List Value).toArray below meth c s.heap [] 0 0 Q (F0 m 0 ls []) := fun h => by rw [eH, el] at h; exact h
  refine goal0 ?_
  have hl : lv_has ls 5 [(0, .ref (g.2.2.2 0)), (1, .int (nI cd)), (2, .int (nI n))] := hl
  have iX11 : ∀ w ∈ wsX110, w ∈ wsX11_layOther := by decide +kernel
  have k48 := hts (.fieldLink RX11 48 "JumpingAutomataModel" "other" "[I") (by decide +kernel)
  refine lv_iload_n hx hb dX11_layOther_0 rfl (lv_at hl 1 rfl) ?_
  refine lv_istore_n (lv' := [(3, .int (nI cd)), (0, .ref (g.2.2.2 0)), (1, .int (nI cd)), (2, .int (nI n))]) hx hb dX11_layOther_1 rfl hl (by decide) rfl (fun ls hl => ?_)
  refine lv_iload_n hx hb dX11_layOther_2 rfl (lv_at hl 3 rfl) ?_
  refine lv_iconst (v := nI 1) hx hb dX11_layOther_3 (by decide) ?_
  refine jn_isubB hx hb (by decide) dX11_layOther_4 ?_
  refine lv_istore (lv' := [(4, .int (nI (sb n 1))), (3, .int (nI cd)), (0, .ref (g.2.2.2 0)), (1, .int (nI cd)), (2, .int (nI n))]) hx hb dX11_layOther_5 hl (by decide) rfl (fun ls hl => ?_)
  have lp7 : ∀ (fu : Nat), ∀ (k : Nat) (lf : Nat) (f : Nat → Nat) (j : Nat), (k = sb j 1) → (j ≤ n) → (lf = cd / 3 ^ (n - j)) → (∀ i, j ≤ i → i < n → f i = dgt cd n i) → j < fu → ∀ (H : Heap) (locs : List Loc), va_P (g.1, g.2.1) vwCl (wM g (sA σ 6 f) ++ tl) H → va_D A (wM g (sA σ 6 f) ++ tl) → va_S A s.heap H locs → ∀ ls : Array Slot, lv_has ls 5 [(0, .ref (g.2.2.2 0)), (1, .int (nI cd)), (2, .int (nI n)), (3, .int (nI lf)), (4, .int (nI k))] → W p l e r_c_X11_layOther s m ([.ref (g.2.2.2 0), .int (nI cd), .int (nI n)] : List Value).toArray below meth c H locs 0 0 Q (F0 m 7 ls []) := by
    intro fu
    induction fu with
    | zero => intro k lf f j h0 h1 h2 h3 hf; exact absurd hf (Nat.not_lt_zero _)
    | succ fu ih7 =>
      intro k lf f j h0 h1 h2 h3 hf H locs hP hD hS ls hl
      obtain ⟨g1, g2, g3⟩ := sb_neg h0 (by omega)
      have hlf : lf ≤ cd := by rw [h2]; exact Nat.div_le_self _ _
      refine lv_iload hx hb dX11_layOther_7 (lv_at hl 4 rfl) ?_
      refine jn_zlt hx hb g2 (tgt := 32) dX11_layOther_9 (by decide) (fun c_9 => ?_) (fun c_9 => ?_)
      · have ej := g1.mp c_9
        exact hq _ _ _ _ (f) dX11_layOther_32 (fun i hi => h3 i (by omega) hi) hP hD hS
      · have ej : 0 < j := by omega
        have ek := g3 ej
        refine lv_aload_n hx hb dX11_layOther_12 rfl (lv_at hl 0 rfl) ?_
        refine va_get (D := (g.1, g.2.1)) (ci := 13) (v := .ref (g.2.2.2 7)) (C := RX11) (T := TX11) (N := 30) hx hb hts iX11 hown hK.1 hP 0 (gM0 g (sA σ 6 f) tl) rfl 12 (by decide) k48 (fun _ h9 => h9) rfl dX11_layOther_13 ?_
        refine lv_iload hx hb dX11_layOther_16 (lv_at hl 4 rfl) ?_
        refine lv_iload_n hx hb dX11_layOther_18 rfl (lv_at hl 3 rfl) ?_
        refine lv_iconst (v := nI 3) hx hb dX11_layOther_19 (by decide) ?_
        refine jn_irem hx hb (by omega) (by decide) (by decide) dX11_layOther_20 ?_
        refine jn_iast (f := f) hx hb hK.1 hP hD hS 7 0 (gM7 g (sA σ 6 f) tl) rfl (by omega) (Nat.le_of_ble_eq_true rfl) (uM_A6 g (sA σ 6 f) tl _) dX11_layOther_21 (fun H locs hP hD hS => ?_)
        refine lv_iload_n hx hb dX11_layOther_22 rfl (lv_at hl 3 rfl) ?_
        refine lv_iconst (v := nI 3) hx hb dX11_layOther_23 (by decide) ?_
        refine jn_idiv hx hb (by omega) (by decide) (by decide) dX11_layOther_24 ?_
        refine lv_istore_n (lv' := [(3, .int (nI (lf / 3))), (0, .ref (g.2.2.2 0)), (1, .int (nI cd)), (2, .int (nI n)), (4, .int (nI k))]) hx hb dX11_layOther_25 rfl hl (by decide) rfl (fun ls hl => ?_)
        refine lv_iinc (v := nI (sb k 1)) (lv' := [(4, .int (nI (sb k 1))), (3, .int (nI (lf / 3))), (0, .ref (g.2.2.2 0)), (1, .int (nI cd)), (2, .int (nI n))]) hx hb dX11_layOther_26 hl (k := 4) rfl (jn_imB _) (by decide) rfl (fun ls hl => ?_)
        refine lv_goto (tgt := 7) hx hb dX11_layOther_29 (by decide) ?_
        exact ih7 (sb k 1) (lf / 3) (va_up f k (lf % 3)) ((j - 1)) (by rw [g3 (by omega)]) (by omega) (dg_lf (by omega) h1 h2) (dg_put (g3 (by omega)) (by omega) h1 h2 h3) (by omega) _ _ hP hD hS _ (lv_sub hl [2, 3, 4, 1, 0] rfl)
  exact lp7 _ (sb n 1) cd (σ.2.1 6) n rfl (Nat.le_refl _) (by rw [Nat.sub_self]; exact (Nat.div_one _).symm) (fun i h1 h2 => absurd h1 (by omega)) (Nat.lt_succ_self _) _ _ hP hD hS _ (lv_sub hl [2, 3, 4, 1, 0] rfl)

abbrev r_c_X11_acceptedAll : Room := { frames := 4, cells := 0, slots := 0, locals := 93 }
set_option maxHeartbeats 4000000 in
set_option maxRecDepth 100000 in
theorem c_X11_acceptedAll (l : Launch) (g : GC) (tl : va_W) (sz : Nat) (σ : SS) (md n : Nat) (hT : OkT (σ.2.1 0)) (hF : ((σ.2.1 0) 15) < 32) (hmd : md < 3) (hdt : md = 2 → detT (σ.2.1 0)) (hn : n ≤ 7) : Met l yX11_acceptedAll wsX11_acceptedAll r_c_X11_acceptedAll (va_Pc [.ref (g.2.2.2 0), .int (nI md), .int (nI n)] (PW g (wM g σ ++ tl) sz)) (va_Ql (fun (r : Int64) (z : Nat × Nat × Nat × (Nat → Nat) × (Nat → Nat) × (Nat → Nat) × (Nat → Nat)) => match z with | (j2, r2, e2, f6, f7, f8, f9) => r = lN (fb_ct (fun cd => cB (acR (σ.2.1 0) (dgt cd n) ((σ.2.1 0) 15) n md)) (3 ^ n))) (fun (z : Nat × Nat × Nat × (Nat → Nat) × (Nat → Nat) × (Nat → Nat) × (Nat → Nat)) t => BW g (va_A (wM g σ ++ tl) sz) ((fun z : Nat × Nat × Nat × (Nat → Nat) × (Nat → Nat) × (Nat → Nat) × (Nat → Nat) => match z with | (j2, r2, e2, f6, f7, f8, f9) => wM g (sA (sA (sA (sA (sF (sF (sF σ 7 j2) 8 r2) 9 e2) 6 f6) 7 f7) 8 f8) 9 f9) ++ tl) z) t) (va_A (wM g σ ++ tl) sz)) 0 0 (va_A (wM g σ ++ tl) sz) := by
  refine jn_sl (wf := fun z : Nat × Nat × Nat × (Nat → Nat) × (Nat → Nat) × (Nat → Nat) × (Nat → Nat) => match z with | (j2, r2, e2, f6, f7, f8, f9) => wM g (sA (sA (sA (sA (sF (sF (sF σ 7 j2) 8 r2) 9 e2) 6 f6) 7 f7) 8 f8) 9 f9) ++ tl) (cc := cX11_acceptedAll) (maxL := 6) (own := RX11) (by decide) rfl rfl (Nat.le_of_ble_eq_true rfl) ?_
  intro p e s m below meth c Q A hx hb hml hown hts hK hP hD hS hAA hq ls hl
  obtain ⟨H, eH⟩ : ∃ z, z = s.heap := ⟨_, rfl⟩
  obtain ⟨locs, el⟩ : ∃ z : List Loc, z = [] := ⟨_, rfl⟩
  rw [← eH] at hP
  have hS : va_S A s.heap H locs := by rw [eH, el]; exact hS
  have goal0 : W p l e r_c_X11_acceptedAll s m ([.ref (g.2.2.2 0), .int (nI md), .int (nI n)] : List Value).toArray below meth c H locs 0 0 Q (F0 m 0 ls []) → W p l e r_c_X11_acceptedAll s m ([.ref (g.2.2.2 0), .int (nI md), .int (nI n)] : List Value).toArray below meth c s.heap [] 0 0 Q (F0 m 0 ls []) := fun h => by rw [eH, el] at h; exact h
  refine goal0 ?_
  have hl : lv_has ls 6 [(0, .ref (g.2.2.2 0)), (1, .int (nI md)), (2, .int (nI n))] := hl
  have iX11 : ∀ w ∈ wsX110, w ∈ wsX11_acceptedAll := by decide +kernel
  have k48 := hts (.fieldLink RX11 48 "JumpingAutomataModel" "other" "[I") (by decide +kernel)
  have p37 := pow3_7 n (by omega)
  refine lv_aload_n hx hb dX11_acceptedAll_0 rfl (lv_at hl 0 rfl) ?_
  refine jn_callv (va_runV (As := []) (rest := []) ⟨hx, hb, hml, hown, hts⟩ (c_X11_layReached l g tl H.size σ hT) (cwV 0 hts gX11_acceptedAll_X11_layReached rfl rfl rfl (by decide +kernel) ⟨Nat.le_of_ble_eq_true rfl, Nat.le_of_ble_eq_true rfl⟩) (okWV hK hP hD rfl (gM0 g σ tl)) rfl rfl hl.1 rfl (lv_room (Nat.le_of_ble_eq_true rfl)) dX11_acceptedAll_1 ⟨Nat.le_of_ble_eq_true rfl, Nat.le_of_ble_eq_true rfl⟩) hD hS hAA (fun u H locs hw_ hP hD hS => ?_)
  obtain ⟨f_1, rfl⟩ : ∃ z, z = u := ⟨_, rfl⟩
  have h_1 := hw_
  have h_1 : ∀ a b c, a < 10 → b < 10 → c < 10 → f_1 (100 * a + 10 * b + c) = rch (σ.2.1 0) a b c := h_1
  have hP : va_P (g.1, g.2.1) vwCl (wM g (sA σ 7 f_1) ++ tl) H := hP
  have hD : va_D A (wM g (sA σ 7 f_1) ++ tl) := hD
  refine lv_lconst (v := lN 0) hx hb dX11_acceptedAll_4 (by decide) ?_
  refine lv_lstore_n (lv' := [(3, .long (lN 0)), (0, .ref (g.2.2.2 0)), (1, .int (nI md)), (2, .int (nI n))]) hx hb dX11_acceptedAll_5 rfl hl (by decide) rfl (fun ls hl => ?_)
  refine lv_iconst (v := nI 0) hx hb dX11_acceptedAll_6 (by decide) ?_
  refine lv_istore (lv' := [(5, .int (nI 0)), (3, .long (lN 0)), (0, .ref (g.2.2.2 0)), (1, .int (nI md)), (2, .int (nI n))]) hx hb dX11_acceptedAll_7 hl (by decide) rfl (fun ls hl => ?_)
  have lp9 : ∀ (fu : Nat), ∀ (cd : Nat) (z : Nat) (j2 : Nat) (r2 : Nat) (e2 : Nat) (f6 : Nat → Nat) (f8 : Nat → Nat) (f9 : Nat → Nat), (cd ≤ 3 ^ n) → (z = fb_ct (fun cd => cB (acR (σ.2.1 0) (dgt cd n) ((σ.2.1 0) 15) n md)) cd) → 3 ^ n - cd < fu → ∀ (H : Heap) (locs : List Loc), va_P (g.1, g.2.1) vwCl (wM g (sA (sA (sA (sA (sF (sF (sF σ 7 j2) 8 r2) 9 e2) 6 f6) 7 f_1) 8 f8) 9 f9) ++ tl) H → va_D A (wM g (sA (sA (sA (sA (sF (sF (sF σ 7 j2) 8 r2) 9 e2) 6 f6) 7 f_1) 8 f8) 9 f9) ++ tl) → va_S A s.heap H locs → ∀ ls : Array Slot, lv_has ls 6 [(0, .ref (g.2.2.2 0)), (1, .int (nI md)), (2, .int (nI n)), (3, .long (lN z)), (5, .int (nI cd))] → W p l e r_c_X11_acceptedAll s m ([.ref (g.2.2.2 0), .int (nI md), .int (nI n)] : List Value).toArray below meth c H locs 0 0 Q (F0 m 9 ls []) := by
    intro fu
    induction fu with
    | zero => intro cd z j2 r2 e2 f6 f8 f9 h1 h2 hf; exact absurd hf (Nat.not_lt_zero _)
    | succ fu ih9 =>
      intro cd z j2 r2 e2 f6 f8 f9 h1 h2 hf H locs hP hD hS ls hl
      refine lv_iload hx hb dX11_acceptedAll_9 (lv_at hl 4 rfl) ?_
      refine lv_iload_n hx hb dX11_acceptedAll_11 rfl (lv_at hl 2 rfl) ?_
      refine vp_callSi (va_Run.run (va_runS (As := [.int (nI n)]) (rest := [.int (nI cd)]) ⟨hx, hb, hml, hown, hts⟩ (c_X11_power l n (by omega)) (va_cwS 1 hts gX11_acceptedAll_X11_power rfl rfl rfl (by decide +kernel) ⟨Nat.le_of_ble_eq_true rfl, Nat.le_of_ble_eq_true rfl⟩) okTS rfl rfl hl.1 rfl (lv_room (Nat.le_of_ble_eq_true rfl)) dX11_acceptedAll_12 ⟨Nat.le_of_ble_eq_true rfl, Nat.le_of_ble_eq_true rfl⟩)) (fun r_12 h_12 => ?_)
      subst h_12
      refine jn_cge hx hb (by omega) (by omega) (tgt := 52) dX11_acceptedAll_15 (by decide) (fun c_15 => ?_) (fun c_15 => ?_)
      · refine lv_lload_n hx hb dX11_acceptedAll_52 rfl (lv_at hl 3 rfl) ?_
        exact hq _ _ _ _ ((lN z)) (j2, r2, e2, f6, f_1, f8, f9) dX11_acceptedAll_53 (by rw [h2, show cd = 3 ^ n by omega]) hP hD hS
      · refine lv_aload_n hx hb dX11_acceptedAll_18 rfl (lv_at hl 0 rfl) ?_
        refine lv_iload hx hb dX11_acceptedAll_19 (lv_at hl 4 rfl) ?_
        refine lv_iload_n hx hb dX11_acceptedAll_21 rfl (lv_at hl 2 rfl) ?_
        refine jn_callv (va_runV (As := [.int (nI cd), .int (nI n)]) (rest := []) ⟨hx, hb, hml, hown, hts⟩ (c_X11_layOther l g tl H.size (sA (sA (sA (sA (sF (sF (sF σ 7 j2) 8 r2) 9 e2) 6 f6) 7 f_1) 8 f8) 9 f9) cd n (by omega) hn) (cwV 2 hts gX11_acceptedAll_X11_layOther rfl rfl rfl (by decide +kernel) ⟨Nat.le_of_ble_eq_true rfl, Nat.le_of_ble_eq_true rfl⟩) (okWV hK hP hD rfl (gM0 g (sA (sA (sA (sA (sF (sF (sF σ 7 j2) 8 r2) 9 e2) 6 f6) 7 f_1) 8 f8) 9 f9) tl)) rfl rfl hl.1 rfl (lv_room (Nat.le_of_ble_eq_true rfl)) dX11_acceptedAll_22 ⟨Nat.le_of_ble_eq_true rfl, Nat.le_of_ble_eq_true rfl⟩) hD hS hAA (fun u H locs hw_ hP hD hS => ?_)
        obtain ⟨f6_22, rfl⟩ : ∃ z, z = u := ⟨_, rfl⟩
        have h_22 := hw_
        have h_22 : ∀ k, k < n → f6_22 k = dgt cd n k := h_22
        have hP : va_P (g.1, g.2.1) vwCl (wM g (sA (sA (sA (sA (sA (sF (sF (sF σ 7 j2) 8 r2) 9 e2) 6 f6) 7 f_1) 8 f8) 9 f9) 6 f6_22) ++ tl) H := hP
        have hD : va_D A (wM g (sA (sA (sA (sA (sA (sF (sF (sF σ 7 j2) 8 r2) 9 e2) 6 f6) 7 f_1) 8 f8) 9 f9) 6 f6_22) ++ tl) := hD
        refine lv_lload_n hx hb dX11_acceptedAll_25 rfl (lv_at hl 3 rfl) ?_
        refine lv_aload_n hx hb dX11_acceptedAll_26 rfl (lv_at hl 0 rfl) ?_
        refine lv_iload_n hx hb dX11_acceptedAll_27 rfl (lv_at hl 1 rfl) ?_
        refine lv_aload_n hx hb dX11_acceptedAll_28 rfl (lv_at hl 0 rfl) ?_
        refine va_get (D := (g.1, g.2.1)) (ci := 13) (v := .ref (g.2.2.2 7)) (C := RX11) (T := TX11) (N := 30) hx hb hts iX11 hown hK.1 hP 0 (gM0 g (sA (sA (sA (sA (sA (sF (sF (sF σ 7 j2) 8 r2) 9 e2) 6 f6) 7 f_1) 8 f8) 9 f9) 6 f6_22) tl) rfl 12 (by decide) k48 (fun _ h9 => h9) rfl dX11_acceptedAll_29 ?_
        refine lv_iload_n hx hb dX11_acceptedAll_32 rfl (lv_at hl 2 rfl) ?_
        refine jn_calli (va_runV (As := [.int (nI md), .ref (g.2.2.2 7), .int (nI n)]) (rest := [.long (lN z)]) ⟨hx, hb, hml, hown, hts⟩ (c_X11_isAccepted_7 l g tl H.size (sA (sA (sA (sA (sA (sF (sF (sF σ 7 j2) 8 r2) 9 e2) 6 f6) 7 f_1) 8 f8) 9 f9) 6 f6_22) md n hT hF hmd hdt (by omega) (fun i hi => by show f6_22 i < 3; rw [h_22 i hi]; exact dgt_lt _ _ _) h_1) (cwV 3 hts gX11_acceptedAll_X11_isAccepted rfl rfl rfl (by decide +kernel) ⟨Nat.le_of_ble_eq_true rfl, Nat.le_of_ble_eq_true rfl⟩) (okWV hK hP hD rfl (gM0 g (sA (sA (sA (sA (sA (sF (sF (sF σ 7 j2) 8 r2) 9 e2) 6 f6) 7 f_1) 8 f8) 9 f9) 6 f6_22) tl)) rfl rfl hl.1 rfl (lv_room (Nat.le_of_ble_eq_true rfl)) dX11_acceptedAll_33 ⟨Nat.le_of_ble_eq_true rfl, Nat.le_of_ble_eq_true rfl⟩) hD hS hAA (fun r_33 u H locs hw_ hP hD hS => ?_)
        obtain ⟨r0_33, j2_33, r2_33, e2_33, f2_33, f8_33⟩ := u
        obtain ⟨rfl, h_33⟩ := hw_
        have h_33 : (r0_33 = 1 ∧ acR (σ.2.1 0) (f6_22) ((σ.2.1 0) 15) n md) ∨ (r0_33 = 0 ∧ ¬ acR (σ.2.1 0) (f6_22) ((σ.2.1 0) 15) n md) := h_33
        have hP : va_P (g.1, g.2.1) vwCl (wM g (sA (sA (sF (sF (sF (sA (sA (sA (sA (sA (sF (sF (sF σ 7 j2) 8 r2) 9 e2) 6 f6) 7 f_1) 8 f8) 9 f9) 6 f6_22) 7 j2_33) 8 r2_33) 9 e2_33) 9 f2_33) 8 f8_33) ++ tl) H := hP
        have hD : va_D A (wM g (sA (sA (sF (sF (sF (sA (sA (sA (sA (sA (sF (sF (sF σ 7 j2) 8 r2) 9 e2) 6 f6) 7 f_1) 8 f8) 9 f9) 6 f6_22) 7 j2_33) 8 r2_33) 9 e2_33) 9 f2_33) 8 f8_33) ++ tl) := hD
        have r01 : r0_33 = 1 ∨ r0_33 = 0 := h_33.imp (fun z => z.1) (fun z => z.1)
        have jp44 : ∀ v44 : Nat, v44 = (if cB (acR (σ.2.1 0) (dgt cd n) ((σ.2.1 0) 15) n md) = true then 1 else 0) → W p l e r_c_X11_acceptedAll s m ([.ref (g.2.2.2 0), .int (nI md), .int (nI n)] : List Value).toArray below meth c H locs 0 0 Q (F0 m 44 ls [.long (lN v44), .long (lN z)]) := by
          intro v44 ev44
          refine jn_ladd hx hb dX11_acceptedAll_44 ?_
          refine lv_lstore_n (lv' := [(3, .long (lN (z + v44))), (0, .ref (g.2.2.2 0)), (1, .int (nI md)), (2, .int (nI n)), (5, .int (nI cd))]) hx hb dX11_acceptedAll_45 rfl hl (by decide) rfl (fun ls hl => ?_)
          refine lv_iinc (v := nI (cd + 1)) (lv' := [(5, .int (nI (cd + 1))), (3, .long (lN (z + v44))), (0, .ref (g.2.2.2 0)), (1, .int (nI md)), (2, .int (nI n))]) hx hb dX11_acceptedAll_46 hl (k := 4) rfl (jn_ii _ 1) (by decide) rfl (fun ls hl => ?_)
          refine lv_goto (tgt := 9) hx hb dX11_acceptedAll_49 (by decide) ?_
          exact ih9 (cd + 1) (z + v44) j2_33 r2_33 e2_33 f6_22 f8_33 f2_33 (by omega) (by rw [h2, fb_ct_succ, ev44]) (by omega) _ _ hP hD hS _ (lv_sub hl [2, 3, 4, 1, 0] rfl)
        refine jn_zeq hx hb (by omega) (tgt := 43) dX11_acceptedAll_36 (by decide) (fun c_36 => ?_) (fun c_36 => ?_)
        · refine lv_lconst (v := lN 0) hx hb dX11_acceptedAll_43 (by decide) ?_
          exact jp44 0 (by rw [if_neg (fun q => (h_33.resolve_left (fun z => by have := z.1; omega)).2 ((acR_w h_22).mpr (cB_iff.mp q)))])
        · refine lv_lconst (v := lN 1) hx hb dX11_acceptedAll_39 (by decide) ?_
          refine lv_goto (tgt := 44) hx hb dX11_acceptedAll_40 (by decide) ?_
          exact jp44 1 (by rw [if_pos (cB_iff.mpr ((acR_w h_22).mp (h_33.resolve_right (fun z => by have := z.1; omega)).2))])
  exact lp9 _ 0 0 (σ.1 7) (σ.1 8) (σ.1 9) (σ.2.1 6) (σ.2.1 8) (σ.2.1 9) (by omega) rfl (Nat.lt_succ_self _) _ _ hP hD hS _ (lv_sub hl [2, 3, 4, 1, 0] rfl)

abbrev r_c_X11_acceptedWords : Room := { frames := 5, cells := 0, slots := 0, locals := 118 }
set_option maxHeartbeats 4000000 in
set_option maxRecDepth 100000 in
theorem c_X11_acceptedWords (l : Launch) (g : GC) (tl : va_W) (sz : Nat) (σ : SS) (md n : Nat) (hT : OkT (σ.2.1 0)) (hF : ((σ.2.1 0) 15) < 32) (hmd : md < 4294967296) (hn : n < 4294967296) : Met l yX11_acceptedWords wsX11_acceptedWords r_c_X11_acceptedWords (va_Pc [.ref (g.2.2.2 0), .int (nI md), .int (nI n)] (PW g (wM g σ ++ tl) sz)) (va_Ql (fun (r : Int64) (z : Nat × Nat × Nat × Nat × Nat × (Nat → Nat) × (Nat → Nat) × (Nat → Nat) × (Nat → Nat)) => match z with | (r0, th, j2, r2, e2, f6, f7, f8, f9) => (r = lN (r0)) ∧ ((¬ (md < 3 ∧ n < 8) ∧ th = 1) ∨ ((md < 3 ∧ n < 8) ∧ (md = 2 ∧ ¬ detT (σ.2.1 0)) ∧ th = 2) ∨ ((md < 3 ∧ n < 8) ∧ (md = 2 → detT (σ.2.1 0)) ∧ th = 0 ∧ r0 = fb_ct (fun cd => cB (acR (σ.2.1 0) (dgt cd n) ((σ.2.1 0) 15) n md)) (3 ^ n)))) (fun (z : Nat × Nat × Nat × Nat × Nat × (Nat → Nat) × (Nat → Nat) × (Nat → Nat) × (Nat → Nat)) t => BW g (va_A (wM g σ ++ tl) sz) ((fun z : Nat × Nat × Nat × Nat × Nat × (Nat → Nat) × (Nat → Nat) × (Nat → Nat) × (Nat → Nat) => match z with | (r0, th, j2, r2, e2, f6, f7, f8, f9) => wM g (sA (sA (sA (sA (sF (sF (sF (sF σ 0 th) 7 j2) 8 r2) 9 e2) 6 f6) 7 f7) 8 f8) 9 f9) ++ tl) z) t) (va_A (wM g σ ++ tl) sz)) 0 0 (va_A (wM g σ ++ tl) sz) := by
  refine jn_sl (wf := fun z : Nat × Nat × Nat × Nat × Nat × (Nat → Nat) × (Nat → Nat) × (Nat → Nat) × (Nat → Nat) => match z with | (r0, th, j2, r2, e2, f6, f7, f8, f9) => wM g (sA (sA (sA (sA (sF (sF (sF (sF σ 0 th) 7 j2) 8 r2) 9 e2) 6 f6) 7 f7) 8 f8) 9 f9) ++ tl) (cc := cX11_acceptedWords) (maxL := 3) (own := RX11) (by decide) rfl rfl (Nat.le_of_ble_eq_true rfl) ?_
  intro p e s m below meth c Q A hx hb hml hown hts hK hP hD hS hAA hq ls hl
  obtain ⟨H, eH⟩ : ∃ z, z = s.heap := ⟨_, rfl⟩
  obtain ⟨locs, el⟩ : ∃ z : List Loc, z = [] := ⟨_, rfl⟩
  rw [← eH] at hP
  have hS : va_S A s.heap H locs := by rw [eH, el]; exact hS
  have goal0 : W p l e r_c_X11_acceptedWords s m ([.ref (g.2.2.2 0), .int (nI md), .int (nI n)] : List Value).toArray below meth c H locs 0 0 Q (F0 m 0 ls []) → W p l e r_c_X11_acceptedWords s m ([.ref (g.2.2.2 0), .int (nI md), .int (nI n)] : List Value).toArray below meth c s.heap [] 0 0 Q (F0 m 0 ls []) := fun h => by rw [eH, el] at h; exact h
  refine goal0 ?_
  have hl : lv_has ls 3 [(0, .ref (g.2.2.2 0)), (1, .int (nI md)), (2, .int (nI n))] := hl
  have iX11 : ∀ w ∈ wsX110, w ∈ wsX11_acceptedWords := by decide +kernel
  have k1 := hts (.fieldLink RX11 1 "JumpingAutomataModel" "thrown" "I") (by decide +kernel)
  refine lv_aload_n hx hb dX11_acceptedWords_0 rfl (lv_at hl 0 rfl) ?_
  refine lv_iconst (v := nI 0) hx hb dX11_acceptedWords_1 (by decide) ?_
  refine jn_put (D := (g.1, g.2.1)) (ci := 13) (v := .int (nI 0)) (ty := .int) (C := RX11) (T := TX11) (N := 30) hx hb hts iX11 tyX11 tyX11_ok nmX11 hown hK.1 hP hD hS 0 (gM0 g σ tl) rfl 0 (by decide) k1 (fun _ h9 => h9) rfl (by decide +kernel) rfl rfl (Nat.le_of_ble_eq_true rfl) (uM_F0 g σ tl 0) dX11_acceptedWords_2 (fun H locs hP hD hS => ?_)
  refine lv_iload_n hx hb dX11_acceptedWords_5 rfl (lv_at hl 1 rfl) ?_
  refine lv_iconst (v := nI 0) hx hb dX11_acceptedWords_6 (by decide) ?_
  refine lv_iconst (v := nI 2) hx hb dX11_acceptedWords_7 (by decide) ?_
  refine vp_callSi (va_Run.run (va_runS (As := [.int (nI md), .int (nI 0), .int (nI 2)]) (rest := []) ⟨hx, hb, hml, hown, hts⟩ (c_X11_in l md 0 2 (by omega) (by decide) (by decide)) (va_cwS 3 hts gX11_acceptedWords_X11_in rfl rfl rfl (by decide +kernel) ⟨Nat.le_of_ble_eq_true rfl, Nat.le_of_ble_eq_true rfl⟩) okTS rfl rfl hl.1 rfl (lv_room (Nat.le_of_ble_eq_true rfl)) dX11_acceptedWords_8 ⟨Nat.le_of_ble_eq_true rfl, Nat.le_of_ble_eq_true rfl⟩)) (fun r_8 h_8 => ?_)
  subst h_8
  refine jn_beq hx hb (tgt := 24) dX11_acceptedWords_11 (by decide) (fun c_11 => ?_) (fun c_11 => ?_)
  · refine lv_aload_n hx hb dX11_acceptedWords_24 rfl (lv_at hl 0 rfl) ?_
    refine lv_iconst (v := nI 1) hx hb dX11_acceptedWords_25 (by decide) ?_
    refine jn_calli (va_runV (As := [.int (nI 1)]) (rest := []) ⟨hx, hb, hml, hown, hts⟩ (c_X11_fails l g tl H.size (sF σ 0 0) 1) (cwV 1 hts gX11_acceptedWords_X11_fails rfl rfl rfl (by decide +kernel) ⟨Nat.le_of_ble_eq_true rfl, Nat.le_of_ble_eq_true rfl⟩) (okWV hK hP hD rfl (gM0 g (sF σ 0 0) tl)) rfl rfl hl.1 rfl (lv_room (Nat.le_of_ble_eq_true rfl)) dX11_acceptedWords_26 ⟨Nat.le_of_ble_eq_true rfl, Nat.le_of_ble_eq_true rfl⟩) hD hS hAA (fun r_26 u H locs hw_ hP hD hS => ?_)
    obtain rfl := hw_
    have hP : va_P (g.1, g.2.1) vwCl (wM g (sF (sF σ 0 0) 0 1) ++ tl) H := hP
    have hD : va_D A (wM g (sF (sF σ 0 0) 0 1) ++ tl) := hD
    refine jn_i2l hx hb (by decide) dX11_acceptedWords_29 ?_
    exact hq _ _ _ _ ((lN 0)) (0, 1, (σ.1 7), (σ.1 8), (σ.1 9), (σ.2.1 6), (σ.2.1 7), (σ.2.1 8), (σ.2.1 9)) dX11_acceptedWords_30 ⟨rfl, (Or.inl ⟨by omega, rfl⟩)⟩ hP hD hS
  · refine lv_iload_n hx hb dX11_acceptedWords_14 rfl (lv_at hl 2 rfl) ?_
    refine lv_iconst (v := nI 0) hx hb dX11_acceptedWords_15 (by decide) ?_
    refine lv_bipush (v := nI 7) hx hb dX11_acceptedWords_16 (by decide) ?_
    refine vp_callSi (va_Run.run (va_runS (As := [.int (nI n), .int (nI 0), .int (nI 7)]) (rest := []) ⟨hx, hb, hml, hown, hts⟩ (c_X11_in l n 0 7 (by omega) (by decide) (by decide)) (va_cwS 3 hts gX11_acceptedWords_X11_in rfl rfl rfl (by decide +kernel) ⟨Nat.le_of_ble_eq_true rfl, Nat.le_of_ble_eq_true rfl⟩) okTS rfl rfl hl.1 rfl (lv_room (Nat.le_of_ble_eq_true rfl)) dX11_acceptedWords_18 ⟨Nat.le_of_ble_eq_true rfl, Nat.le_of_ble_eq_true rfl⟩)) (fun r_18 h_18 => ?_)
    subst h_18
    refine jn_bne hx hb (tgt := 31) dX11_acceptedWords_21 (by decide) (fun c_21 => ?_) (fun c_21 => ?_)
    · refine lv_aload_n hx hb dX11_acceptedWords_31 rfl (lv_at hl 0 rfl) ?_
      refine lv_iload_n hx hb dX11_acceptedWords_32 rfl (lv_at hl 1 rfl) ?_
      refine vp_callSi (va_Run.run (va_runV (As := [.int (nI md)]) (rest := []) ⟨hx, hb, hml, hown, hts⟩ (c_X11_lacksMode l g tl (sF σ 0 0) md hT (by omega)) (cwV 1 hts gX11_acceptedWords_X11_lacksMode rfl rfl rfl (by decide +kernel) ⟨Nat.le_of_ble_eq_true rfl, Nat.le_of_ble_eq_true rfl⟩) (okPV hK hP rfl (gM0 g (sF σ 0 0) tl)) rfl rfl hl.1 rfl (lv_room (Nat.le_of_ble_eq_true rfl)) dX11_acceptedWords_33 ⟨Nat.le_of_ble_eq_true rfl, Nat.le_of_ble_eq_true rfl⟩)) (fun r_33 h_33 => ?_)
      have h_33 : r_33 = (nI (if md = 2 ∧ ¬ detT (σ.2.1 0) then 1 else 0)) := h_33
      subst h_33
      refine jn_beq hx hb (tgt := 48) dX11_acceptedWords_36 (by decide) (fun c_36 => ?_) (fun c_36 => ?_)
      · refine lv_aload_n hx hb dX11_acceptedWords_48 rfl (lv_at hl 0 rfl) ?_
        refine lv_iload_n hx hb dX11_acceptedWords_49 rfl (lv_at hl 1 rfl) ?_
        refine lv_iload_n hx hb dX11_acceptedWords_50 rfl (lv_at hl 2 rfl) ?_
        refine jn_calll (va_runV (As := [.int (nI md), .int (nI n)]) (rest := []) ⟨hx, hb, hml, hown, hts⟩ (c_X11_acceptedAll l g tl H.size (sF σ 0 0) md n hT hF (by omega) (fun q => Classical.not_not.mp (fun z => c_36 ⟨q, z⟩)) (by omega)) (cwV 2 hts gX11_acceptedWords_X11_acceptedAll rfl rfl rfl (by decide +kernel) ⟨Nat.le_of_ble_eq_true rfl, Nat.le_of_ble_eq_true rfl⟩) (okWV hK hP hD rfl (gM0 g (sF σ 0 0) tl)) rfl rfl hl.1 rfl (lv_room (Nat.le_of_ble_eq_true rfl)) dX11_acceptedWords_51 ⟨Nat.le_of_ble_eq_true rfl, Nat.le_of_ble_eq_true rfl⟩) hD hS hAA (fun r_51 u H locs hw_ hP hD hS => ?_)
        obtain ⟨j2_51, r2_51, e2_51, f6_51, f7_51, f8_51, f9_51⟩ := u
        obtain rfl := hw_
        have hP : va_P (g.1, g.2.1) vwCl (wM g (sA (sA (sA (sA (sF (sF (sF (sF σ 0 0) 7 j2_51) 8 r2_51) 9 e2_51) 6 f6_51) 7 f7_51) 8 f8_51) 9 f9_51) ++ tl) H := hP
        have hD : va_D A (wM g (sA (sA (sA (sA (sF (sF (sF (sF σ 0 0) 7 j2_51) 8 r2_51) 9 e2_51) 6 f6_51) 7 f7_51) 8 f8_51) 9 f9_51) ++ tl) := hD
        exact hq _ _ _ _ ((lN (fb_ct (fun cd => cB (acR (σ.2.1 0) (dgt cd n) ((σ.2.1 0) 15) n md)) (3 ^ n)))) (_, 0, j2_51, r2_51, e2_51, f6_51, f7_51, f8_51, f9_51) dX11_acceptedWords_54 (by first | exact ⟨rfl, (Or.inr (Or.inl ⟨by omega, c_36, rfl⟩))⟩ | exact ⟨rfl, (Or.inr (Or.inr ⟨by omega, (fun q => Classical.not_not.mp (fun z => c_36 ⟨q, z⟩)), rfl, rfl⟩))⟩) hP hD hS
      · refine lv_aload_n hx hb dX11_acceptedWords_39 rfl (lv_at hl 0 rfl) ?_
        refine lv_iconst (v := nI 2) hx hb dX11_acceptedWords_40 (by decide) ?_
        refine jn_calli (va_runV (As := [.int (nI 2)]) (rest := []) ⟨hx, hb, hml, hown, hts⟩ (c_X11_fails l g tl H.size (sF σ 0 0) 2) (cwV 1 hts gX11_acceptedWords_X11_fails rfl rfl rfl (by decide +kernel) ⟨Nat.le_of_ble_eq_true rfl, Nat.le_of_ble_eq_true rfl⟩) (okWV hK hP hD rfl (gM0 g (sF σ 0 0) tl)) rfl rfl hl.1 rfl (lv_room (Nat.le_of_ble_eq_true rfl)) dX11_acceptedWords_41 ⟨Nat.le_of_ble_eq_true rfl, Nat.le_of_ble_eq_true rfl⟩) hD hS hAA (fun r_41 u H locs hw_ hP hD hS => ?_)
        obtain rfl := hw_
        have hP : va_P (g.1, g.2.1) vwCl (wM g (sF (sF σ 0 0) 0 2) ++ tl) H := hP
        have hD : va_D A (wM g (sF (sF σ 0 0) 0 2) ++ tl) := hD
        refine jn_i2l hx hb (by decide) dX11_acceptedWords_44 ?_
        refine lv_goto (tgt := 54) hx hb dX11_acceptedWords_45 (by decide) ?_
        exact hq _ _ _ _ ((lN 0)) (_, 2, (σ.1 7), (σ.1 8), (σ.1 9), (σ.2.1 6), (σ.2.1 7), (σ.2.1 8), (σ.2.1 9)) dX11_acceptedWords_54 (by first | exact ⟨rfl, (Or.inr (Or.inl ⟨by omega, c_36, rfl⟩))⟩ | exact ⟨rfl, (Or.inr (Or.inr ⟨by omega, (fun q => Classical.not_not.mp (fun z => c_36 ⟨q, z⟩)), rfl, rfl⟩))⟩) hP hD hS
    · refine lv_aload_n hx hb dX11_acceptedWords_24 rfl (lv_at hl 0 rfl) ?_
      refine lv_iconst (v := nI 1) hx hb dX11_acceptedWords_25 (by decide) ?_
      refine jn_calli (va_runV (As := [.int (nI 1)]) (rest := []) ⟨hx, hb, hml, hown, hts⟩ (c_X11_fails l g tl H.size (sF σ 0 0) 1) (cwV 1 hts gX11_acceptedWords_X11_fails rfl rfl rfl (by decide +kernel) ⟨Nat.le_of_ble_eq_true rfl, Nat.le_of_ble_eq_true rfl⟩) (okWV hK hP hD rfl (gM0 g (sF σ 0 0) tl)) rfl rfl hl.1 rfl (lv_room (Nat.le_of_ble_eq_true rfl)) dX11_acceptedWords_26 ⟨Nat.le_of_ble_eq_true rfl, Nat.le_of_ble_eq_true rfl⟩) hD hS hAA (fun r_26 u H locs hw_ hP hD hS => ?_)
      obtain rfl := hw_
      have hP : va_P (g.1, g.2.1) vwCl (wM g (sF (sF σ 0 0) 0 1) ++ tl) H := hP
      have hD : va_D A (wM g (sF (sF σ 0 0) 0 1) ++ tl) := hD
      refine jn_i2l hx hb (by decide) dX11_acceptedWords_29 ?_
      exact hq _ _ _ _ ((lN 0)) (0, 1, (σ.1 7), (σ.1 8), (σ.1 9), (σ.2.1 6), (σ.2.1 7), (σ.2.1 8), (σ.2.1 9)) dX11_acceptedWords_30 ⟨rfl, (Or.inl ⟨by omega, rfl⟩)⟩ hP hD hS

abbrev r_c_X11_isOpen : Room := { frames := 3, cells := 0, slots := 0, locals := 70 }
set_option maxHeartbeats 4000000 in
set_option maxRecDepth 100000 in
theorem c_X11_isOpen (l : Launch) (g : GC) (tl : va_W) (sz : Nat) (σ : SS) (mo : Nat) (hT : OkT (σ.2.1 0)) (hF : ((σ.2.1 0) 15) < 32) (hmo : mo ≤ 7) : Met l yX11_isOpen wsX11_isOpen r_c_X11_isOpen (va_Pc [.ref (g.2.2.2 0), .int (nI mo)] (PW g (wM g σ ++ tl) sz)) (va_Qi (fun (r : Int32) (z : Nat × Nat × (Nat → Nat) × (Nat → Nat) × (Nat → Nat)) => match z with | (r0, ol, f6, f7, f8) => (r = nI (r0)) ∧ ((r0 = 1 ∧ isOR (σ.2.1 0) ((σ.2.1 0) 15) mo ol f6) ∨ (r0 = 0 ∧ noR (σ.2.1 0) ((σ.2.1 0) 15) mo))) (fun (z : Nat × Nat × (Nat → Nat) × (Nat → Nat) × (Nat → Nat)) t => BW g (va_A (wM g σ ++ tl) sz) ((fun z : Nat × Nat × (Nat → Nat) × (Nat → Nat) × (Nat → Nat) => match z with | (r0, ol, f6, f7, f8) => wM g (sA (sA (sA (sF σ 13 ol) 6 f6) 7 f7) 8 f8) ++ tl) z) t) (va_A (wM g σ ++ tl) sz)) 0 0 (va_A (wM g σ ++ tl) sz) := by
  refine jn_sz (wf := fun z : Nat × Nat × (Nat → Nat) × (Nat → Nat) × (Nat → Nat) => match z with | (r0, ol, f6, f7, f8) => wM g (sA (sA (sA (sF σ 13 ol) 6 f6) 7 f7) 8 f8) ++ tl) (cc := cX11_isOpen) (maxL := 4) (own := RX11) (by decide) rfl rfl (Nat.le_of_ble_eq_true rfl) ?_
  intro p e s m below meth c Q A hx hb hml hown hts hK hP hD hS hAA hq ls hl
  obtain ⟨H, eH⟩ : ∃ z, z = s.heap := ⟨_, rfl⟩
  obtain ⟨locs, el⟩ : ∃ z : List Loc, z = [] := ⟨_, rfl⟩
  rw [← eH] at hP
  have hS : va_S A s.heap H locs := by rw [eH, el]; exact hS
  have goal0 : W p l e r_c_X11_isOpen s m ([.ref (g.2.2.2 0), .int (nI mo)] : List Value).toArray below meth c H locs 0 0 Q (F0 m 0 ls []) → W p l e r_c_X11_isOpen s m ([.ref (g.2.2.2 0), .int (nI mo)] : List Value).toArray below meth c s.heap [] 0 0 Q (F0 m 0 ls []) := fun h => by rw [eH, el] at h; exact h
  refine goal0 ?_
  have hl : lv_has ls 4 [(0, .ref (g.2.2.2 0)), (1, .int (nI mo))] := hl
  have iX11 : ∀ w ∈ wsX110, w ∈ wsX11_isOpen := by decide +kernel
  have k48 := hts (.fieldLink RX11 48 "JumpingAutomataModel" "other" "[I") (by decide +kernel)
  have k102 := hts (.fieldLink RX11 102 "JumpingAutomataModel" "openLength" "I") (by decide +kernel)
  refine lv_aload_n hx hb dX11_isOpen_0 rfl (lv_at hl 0 rfl) ?_
  refine jn_callv (va_runV (As := []) (rest := []) ⟨hx, hb, hml, hown, hts⟩ (c_X11_layReached l g tl H.size σ hT) (cwV 0 hts gX11_isOpen_X11_layReached rfl rfl rfl (by decide +kernel) ⟨Nat.le_of_ble_eq_true rfl, Nat.le_of_ble_eq_true rfl⟩) (okWV hK hP hD rfl (gM0 g σ tl)) rfl rfl hl.1 rfl (lv_room (Nat.le_of_ble_eq_true rfl)) dX11_isOpen_1 ⟨Nat.le_of_ble_eq_true rfl, Nat.le_of_ble_eq_true rfl⟩) hD hS hAA (fun u H locs hw_ hP hD hS => ?_)
  obtain ⟨f_1, rfl⟩ : ∃ z, z = u := ⟨_, rfl⟩
  have h_1 := hw_
  have h_1 : ∀ a b c, a < 10 → b < 10 → c < 10 → f_1 (100 * a + 10 * b + c) = rch (σ.2.1 0) a b c := h_1
  have hP : va_P (g.1, g.2.1) vwCl (wM g (sA σ 7 f_1) ++ tl) H := hP
  have hD : va_D A (wM g (sA σ 7 f_1) ++ tl) := hD
  refine lv_iconst (v := nI 0) hx hb dX11_isOpen_4 (by decide) ?_
  refine lv_istore_n (lv' := [(2, .int (nI 0)), (0, .ref (g.2.2.2 0)), (1, .int (nI mo))]) hx hb dX11_isOpen_5 rfl hl (by decide) rfl (fun ls hl => ?_)
  have lp6 : ∀ (fu : Nat), ∀ (n : Nat) (f6 : Nat → Nat) (f8 : Nat → Nat), (n ≤ mo + 1) → (∀ z, z < n → ∀ c, c < 3 ^ z → ¬ opR (σ.2.1 0) ((σ.2.1 0) 15) z c) → mo + 1 - n < fu → ∀ (H : Heap) (locs : List Loc), va_P (g.1, g.2.1) vwCl (wM g (sA (sA (sA σ 6 f6) 7 f_1) 8 f8) ++ tl) H → va_D A (wM g (sA (sA (sA σ 6 f6) 7 f_1) 8 f8) ++ tl) → va_S A s.heap H locs → ∀ ls : Array Slot, lv_has ls 4 [(0, .ref (g.2.2.2 0)), (1, .int (nI mo)), (2, .int (nI n))] → W p l e r_c_X11_isOpen s m ([.ref (g.2.2.2 0), .int (nI mo)] : List Value).toArray below meth c H locs 0 0 Q (F0 m 6 ls []) := by
    intro fu
    induction fu with
    | zero => intro n f6 f8 h1 h2 hf; exact absurd hf (Nat.not_lt_zero _)
    | succ fu ih6 =>
      intro n f6 f8 h1 h2 hf H locs hP hD hS ls hl
      refine lv_iload_n hx hb dX11_isOpen_6 rfl (lv_at hl 2 rfl) ?_
      refine lv_iload_n hx hb dX11_isOpen_7 rfl (lv_at hl 1 rfl) ?_
      refine jn_cgt hx hb (by omega) (by omega) (tgt := 73) dX11_isOpen_8 (by decide) (fun c_8 => ?_) (fun c_8 => ?_)
      · refine lv_iconst (v := nI 0) hx hb dX11_isOpen_73 (by decide) ?_
        exact hq _ _ _ _ ((nI 0)) (0, (σ.1 13), f6, f_1, f8) dX11_isOpen_74 jn_n0 ⟨rfl, Or.inr ⟨rfl, fun z hz c hc => h2 z (by omega) c hc⟩⟩ hP hD hS
      · refine lv_iconst (v := nI 0) hx hb dX11_isOpen_11 (by decide) ?_
        refine lv_istore_n (lv' := [(3, .int (nI 0)), (0, .ref (g.2.2.2 0)), (1, .int (nI mo)), (2, .int (nI n))]) hx hb dX11_isOpen_12 rfl hl (by decide) rfl (fun ls hl => ?_)
        have lp13 : ∀ (fu : Nat), ∀ (cd : Nat) (f6 : Nat → Nat) (f8 : Nat → Nat), (cd ≤ 3 ^ n) → (∀ c, c < cd → ¬ opR (σ.2.1 0) ((σ.2.1 0) 15) n c) → 3 ^ n - cd < fu → ∀ (H : Heap) (locs : List Loc), va_P (g.1, g.2.1) vwCl (wM g (sA (sA (sA σ 6 f6) 7 f_1) 8 f8) ++ tl) H → va_D A (wM g (sA (sA (sA σ 6 f6) 7 f_1) 8 f8) ++ tl) → va_S A s.heap H locs → ∀ ls : Array Slot, lv_has ls 4 [(0, .ref (g.2.2.2 0)), (1, .int (nI mo)), (2, .int (nI n)), (3, .int (nI cd))] → W p l e r_c_X11_isOpen s m ([.ref (g.2.2.2 0), .int (nI mo)] : List Value).toArray below meth c H locs 0 0 Q (F0 m 13 ls []) := by
          intro fu
          induction fu with
          | zero => intro cd f6 f8 h3 h4 hf; exact absurd hf (Nat.not_lt_zero _)
          | succ fu ih13 =>
            intro cd f6 f8 h3 h4 hf H locs hP hD hS ls hl
            have p37 := pow3_7 n (by omega)
            refine lv_iload_n hx hb dX11_isOpen_13 rfl (lv_at hl 3 rfl) ?_
            refine lv_iload_n hx hb dX11_isOpen_14 rfl (lv_at hl 2 rfl) ?_
            refine vp_callSi (va_Run.run (va_runS (As := [.int (nI n)]) (rest := [.int (nI cd)]) ⟨hx, hb, hml, hown, hts⟩ (c_X11_power l n (by omega)) (va_cwS 1 hts gX11_isOpen_X11_power rfl rfl rfl (by decide +kernel) ⟨Nat.le_of_ble_eq_true rfl, Nat.le_of_ble_eq_true rfl⟩) okTS rfl rfl hl.1 rfl (lv_room (Nat.le_of_ble_eq_true rfl)) dX11_isOpen_15 ⟨Nat.le_of_ble_eq_true rfl, Nat.le_of_ble_eq_true rfl⟩)) (fun r_15 h_15 => ?_)
            subst h_15
            refine jn_cge hx hb (by omega) (by omega) (tgt := 67) dX11_isOpen_18 (by decide) (fun c_18 => ?_) (fun c_18 => ?_)
            · refine lv_iinc (v := nI (n + 1)) (lv' := [(2, .int (nI (n + 1))), (0, .ref (g.2.2.2 0)), (1, .int (nI mo)), (3, .int (nI cd))]) hx hb dX11_isOpen_67 hl (k := 2) rfl (jn_ii _ 1) (by decide) rfl (fun ls hl => ?_)
              refine lv_goto (tgt := 6) hx hb dX11_isOpen_70 (by decide) ?_
              exact ih6 (n + 1) f6 f8 (by omega) (fun z hz c hc => by rcases Nat.lt_or_ge z n with q | q; { exact h2 z q c hc }; { have e : z = n := (by omega); subst e; exact h4 c (by omega) }) (by omega) _ _ hP hD hS _ (lv_sub hl [1, 2, 0] rfl)
            · refine lv_aload_n hx hb dX11_isOpen_21 rfl (lv_at hl 0 rfl) ?_
              refine lv_iload_n hx hb dX11_isOpen_22 rfl (lv_at hl 3 rfl) ?_
              refine lv_iload_n hx hb dX11_isOpen_23 rfl (lv_at hl 2 rfl) ?_
              refine jn_callv (va_runV (As := [.int (nI cd), .int (nI n)]) (rest := []) ⟨hx, hb, hml, hown, hts⟩ (c_X11_layOther l g tl H.size (sA (sA (sA σ 6 f6) 7 f_1) 8 f8) cd n (by omega) (by omega)) (cwV 2 hts gX11_isOpen_X11_layOther rfl rfl rfl (by decide +kernel) ⟨Nat.le_of_ble_eq_true rfl, Nat.le_of_ble_eq_true rfl⟩) (okWV hK hP hD rfl (gM0 g (sA (sA (sA σ 6 f6) 7 f_1) 8 f8) tl)) rfl rfl hl.1 rfl (lv_room (Nat.le_of_ble_eq_true rfl)) dX11_isOpen_24 ⟨Nat.le_of_ble_eq_true rfl, Nat.le_of_ble_eq_true rfl⟩) hD hS hAA (fun u H locs hw_ hP hD hS => ?_)
              obtain ⟨f6_24, rfl⟩ : ∃ z, z = u := ⟨_, rfl⟩
              have h_24 := hw_
              have h_24 : ∀ k, k < n → f6_24 k = dgt cd n k := h_24
              have hP : va_P (g.1, g.2.1) vwCl (wM g (sA (sA (sA (sA σ 6 f6) 7 f_1) 8 f8) 6 f6_24) ++ tl) H := hP
              have hD : va_D A (wM g (sA (sA (sA (sA σ 6 f6) 7 f_1) 8 f8) 6 f6_24) ++ tl) := hD
              have hw7 : ∀ i, i < n → f6_24 i < 3 := fun i hi => by rw [h_24 i hi]; exact dgt_lt _ _ _
              refine lv_aload_n hx hb dX11_isOpen_27 rfl (lv_at hl 0 rfl) ?_
              refine lv_aload_n hx hb dX11_isOpen_28 rfl (lv_at hl 0 rfl) ?_
              refine va_get (D := (g.1, g.2.1)) (ci := 13) (v := .ref (g.2.2.2 7)) (C := RX11) (T := TX11) (N := 30) hx hb hts iX11 hown hK.1 hP 0 (gM0 g (sA (sA (sA (sA σ 6 f6) 7 f_1) 8 f8) 6 f6_24) tl) rfl 12 (by decide) k48 (fun _ h9 => h9) rfl dX11_isOpen_29 ?_
              refine lv_iload_n hx hb dX11_isOpen_32 rfl (lv_at hl 2 rfl) ?_
              refine jn_calli (va_runV (As := [.ref (g.2.2.2 7), .int (nI n)]) (rest := []) ⟨hx, hb, hml, hown, hts⟩ (c_X11_isJumping_7 l g tl H.size (sA (sA (sA (sA σ 6 f6) 7 f_1) 8 f8) 6 f6_24) n hF (by omega) hw7 h_1) (cwV 2 hts gX11_isOpen_X11_isJumping rfl rfl rfl (by decide +kernel) ⟨Nat.le_of_ble_eq_true rfl, Nat.le_of_ble_eq_true rfl⟩) (okWV hK hP hD rfl (gM0 g (sA (sA (sA (sA σ 6 f6) 7 f_1) 8 f8) 6 f6_24) tl)) rfl rfl hl.1 rfl (lv_room (Nat.le_of_ble_eq_true rfl)) dX11_isOpen_33 ⟨Nat.le_of_ble_eq_true rfl, Nat.le_of_ble_eq_true rfl⟩) hD hS hAA (fun r_33 u H locs hw_ hP hD hS => ?_)
              obtain ⟨f8_33, rfl⟩ : ∃ z, z = u := ⟨_, rfl⟩
              obtain rfl := hw_
              have hP : va_P (g.1, g.2.1) vwCl (wM g (sA (sA (sA (sA (sA σ 6 f6) 7 f_1) 8 f8) 6 f6_24) 8 f8_33) ++ tl) H := hP
              have hD : va_D A (wM g (sA (sA (sA (sA (sA σ 6 f6) 7 f_1) 8 f8) 6 f6_24) 8 f8_33) ++ tl) := hD
              refine jn_beq hx hb (tgt := 61) dX11_isOpen_36 (by decide) (fun c_36 => ?_) (fun c_36 => ?_)
              · refine lv_iinc (v := nI (cd + 1)) (lv' := [(3, .int (nI (cd + 1))), (0, .ref (g.2.2.2 0)), (1, .int (nI mo)), (2, .int (nI n))]) hx hb dX11_isOpen_61 hl (k := 3) rfl (jn_ii _ 1) (by decide) rfl (fun ls hl => ?_)
                refine lv_goto (tgt := 13) hx hb dX11_isOpen_64 (by decide) ?_
                exact ih13 (cd + 1) f6_24 f8_33 (by omega) (fun c hc => by rcases Nat.lt_or_ge c cd with q | q; { exact h4 c q }; { rw [show c = cd by omega]; first | exact (fun z => c_36 ((wrc_w h_24).mpr z.1)) | exact (fun z => z.2 (by rw [← wrun_w n h_24]; exact c_48)) }) (by omega) _ _ hP hD hS _ (lv_sub hl [1, 2, 3, 0] rfl)
              · refine lv_aload_n hx hb dX11_isOpen_39 rfl (lv_at hl 0 rfl) ?_
                refine lv_aload_n hx hb dX11_isOpen_40 rfl (lv_at hl 0 rfl) ?_
                refine va_get (D := (g.1, g.2.1)) (ci := 13) (v := .ref (g.2.2.2 7)) (C := RX11) (T := TX11) (N := 30) hx hb hts iX11 hown hK.1 hP 0 (gM0 g (sA (sA (sA (sA (sA σ 6 f6) 7 f_1) 8 f8) 6 f6_24) 8 f8_33) tl) rfl 12 (by decide) k48 (fun _ h9 => h9) rfl dX11_isOpen_41 ?_
                refine lv_iload_n hx hb dX11_isOpen_44 rfl (lv_at hl 2 rfl) ?_
                refine vp_callSi (va_Run.run (va_runV (As := [.ref (g.2.2.2 7), .int (nI n)]) (rest := []) ⟨hx, hb, hml, hown, hts⟩ (c_X11_isInOrder_7 l g tl (sA (sA (sA (sA (sA σ 6 f6) 7 f_1) 8 f8) 6 f6_24) 8 f8_33) n hT hF (by omega) hw7) (cwV 2 hts gX11_isOpen_X11_isInOrder rfl rfl rfl (by decide +kernel) ⟨Nat.le_of_ble_eq_true rfl, Nat.le_of_ble_eq_true rfl⟩) (okPV hK hP rfl (gM0 g (sA (sA (sA (sA (sA σ 6 f6) 7 f_1) 8 f8) 6 f6_24) 8 f8_33) tl)) rfl rfl hl.1 rfl (lv_room (Nat.le_of_ble_eq_true rfl)) dX11_isOpen_45 ⟨Nat.le_of_ble_eq_true rfl, Nat.le_of_ble_eq_true rfl⟩)) (fun r_45 h_45 => ?_)
                have h_45 : r_45 = (nI (if wrun (σ.2.1 0) (f6_24) n &&& ((σ.2.1 0) 15) ≠ 0 then 1 else 0)) := h_45
                subst h_45
                refine jn_beq hx hb (tgt := 54) dX11_isOpen_48 (by decide) (fun c_48 => ?_) (fun c_48 => ?_)
                · refine lv_aload_n hx hb dX11_isOpen_54 rfl (lv_at hl 0 rfl) ?_
                  refine lv_iload_n hx hb dX11_isOpen_55 rfl (lv_at hl 2 rfl) ?_
                  refine jn_put (D := (g.1, g.2.1)) (ci := 13) (v := .int (nI n)) (ty := .int) (C := RX11) (T := TX11) (N := 30) hx hb hts iX11 tyX11 tyX11_ok nmX11 hown hK.1 hP hD hS 0 (gM0 g (sA (sA (sA (sA (sA σ 6 f6) 7 f_1) 8 f8) 6 f6_24) 8 f8_33) tl) rfl 29 (by decide) k102 (fun _ h9 => h9) rfl (by decide +kernel) rfl rfl (Nat.le_of_ble_eq_true rfl) (uM_F13 g (sA (sA (sA (sA (sA σ 6 f6) 7 f_1) 8 f8) 6 f6_24) 8 f8_33) tl n) dX11_isOpen_56 (fun H locs hP hD hS => ?_)
                  refine lv_iconst (v := nI 1) hx hb dX11_isOpen_59 (by decide) ?_
                  exact hq _ _ _ _ ((nI 1)) (1, n, f6_24, f_1, f8_33) dX11_isOpen_60 jn_n1 ⟨rfl, Or.inl ⟨rfl, by omega, cd, by omega, ⟨(wrc_w h_24).mp c_36, by rw [← wrun_w n h_24]; exact c_48⟩, fun z hz c hc => h2 z hz c hc, h4, h_24⟩⟩ hP hD hS
                · refine lv_goto (tgt := 61) hx hb dX11_isOpen_51 (by decide) ?_
                  refine lv_iinc (v := nI (cd + 1)) (lv' := [(3, .int (nI (cd + 1))), (0, .ref (g.2.2.2 0)), (1, .int (nI mo)), (2, .int (nI n))]) hx hb dX11_isOpen_61 hl (k := 3) rfl (jn_ii _ 1) (by decide) rfl (fun ls hl => ?_)
                  refine lv_goto (tgt := 13) hx hb dX11_isOpen_64 (by decide) ?_
                  exact ih13 (cd + 1) f6_24 f8_33 (by omega) (fun c hc => by rcases Nat.lt_or_ge c cd with q | q; { exact h4 c q }; { rw [show c = cd by omega]; first | exact (fun z => c_36 ((wrc_w h_24).mpr z.1)) | exact (fun z => z.2 (by rw [← wrun_w n h_24]; exact c_48)) }) (by omega) _ _ hP hD hS _ (lv_sub hl [1, 2, 3, 0] rfl)
        exact lp13 _ 0 f6 f8 (Nat.zero_le _) (fun c hc => absurd hc (by omega)) (Nat.lt_succ_self _) _ _ hP hD hS _ (lv_sub hl [1, 2, 3, 0] rfl)
  exact lp6 _ 0 (σ.2.1 6) (σ.2.1 8) (by omega) (fun z hz => absurd hz (by omega)) (Nat.lt_succ_self _) _ _ hP hD hS _ (lv_sub hl [1, 2, 0] rfl)

abbrev r_c_X11_isClosed : Room := { frames := 4, cells := 0, slots := 0, locals := 93 }
set_option maxHeartbeats 4000000 in
set_option maxRecDepth 100000 in
theorem c_X11_isClosed (l : Launch) (g : GC) (tl : va_W) (sz : Nat) (σ : SS) (n : Nat) (hT : OkT (σ.2.1 0)) (hF : ((σ.2.1 0) 15) < 32) (hn : n < 4294967296) : Met l yX11_isClosed wsX11_isClosed r_c_X11_isClosed (va_Pc [.ref (g.2.2.2 0), .int (nI n)] (PW g (wM g σ ++ tl) sz)) (va_Qi (fun (r : Int32) (z : Nat × Nat × Nat × (Nat → Nat) × (Nat → Nat) × (Nat → Nat)) => match z with | (r0, th, ol, f6, f7, f8) => (r = nI (r0)) ∧ ((¬ n < 8 ∧ th = 1) ∨ (n < 8 ∧ th = 0 ∧ r0 = 1 ∧ noR (σ.2.1 0) ((σ.2.1 0) 15) n) ∨ (n < 8 ∧ th = 0 ∧ r0 = 0 ∧ ∃ ol w, isOR (σ.2.1 0) ((σ.2.1 0) 15) n ol w))) (fun (z : Nat × Nat × Nat × (Nat → Nat) × (Nat → Nat) × (Nat → Nat)) t => BW g (va_A (wM g σ ++ tl) sz) ((fun z : Nat × Nat × Nat × (Nat → Nat) × (Nat → Nat) × (Nat → Nat) => match z with | (r0, th, ol, f6, f7, f8) => wM g (sA (sA (sA (sF (sF σ 0 th) 13 ol) 6 f6) 7 f7) 8 f8) ++ tl) z) t) (va_A (wM g σ ++ tl) sz)) 0 0 (va_A (wM g σ ++ tl) sz) := by
  refine jn_sz (wf := fun z : Nat × Nat × Nat × (Nat → Nat) × (Nat → Nat) × (Nat → Nat) => match z with | (r0, th, ol, f6, f7, f8) => wM g (sA (sA (sA (sF (sF σ 0 th) 13 ol) 6 f6) 7 f7) 8 f8) ++ tl) (cc := cX11_isClosed) (maxL := 2) (own := RX11) (by decide) rfl rfl (Nat.le_of_ble_eq_true rfl) ?_
  intro p e s m below meth c Q A hx hb hml hown hts hK hP hD hS hAA hq ls hl
  obtain ⟨H, eH⟩ : ∃ z, z = s.heap := ⟨_, rfl⟩
  obtain ⟨locs, el⟩ : ∃ z : List Loc, z = [] := ⟨_, rfl⟩
  rw [← eH] at hP
  have hS : va_S A s.heap H locs := by rw [eH, el]; exact hS
  have goal0 : W p l e r_c_X11_isClosed s m ([.ref (g.2.2.2 0), .int (nI n)] : List Value).toArray below meth c H locs 0 0 Q (F0 m 0 ls []) → W p l e r_c_X11_isClosed s m ([.ref (g.2.2.2 0), .int (nI n)] : List Value).toArray below meth c s.heap [] 0 0 Q (F0 m 0 ls []) := fun h => by rw [eH, el] at h; exact h
  refine goal0 ?_
  have hl : lv_has ls 2 [(0, .ref (g.2.2.2 0)), (1, .int (nI n))] := hl
  have iX11 : ∀ w ∈ wsX110, w ∈ wsX11_isClosed := by decide +kernel
  have k1 := hts (.fieldLink RX11 1 "JumpingAutomataModel" "thrown" "I") (by decide +kernel)
  refine lv_aload_n hx hb dX11_isClosed_0 rfl (lv_at hl 0 rfl) ?_
  refine lv_iconst (v := nI 0) hx hb dX11_isClosed_1 (by decide) ?_
  refine jn_put (D := (g.1, g.2.1)) (ci := 13) (v := .int (nI 0)) (ty := .int) (C := RX11) (T := TX11) (N := 30) hx hb hts iX11 tyX11 tyX11_ok nmX11 hown hK.1 hP hD hS 0 (gM0 g σ tl) rfl 0 (by decide) k1 (fun _ h9 => h9) rfl (by decide +kernel) rfl rfl (Nat.le_of_ble_eq_true rfl) (uM_F0 g σ tl 0) dX11_isClosed_2 (fun H locs hP hD hS => ?_)
  refine lv_iload_n hx hb dX11_isClosed_5 rfl (lv_at hl 1 rfl) ?_
  refine lv_iconst (v := nI 0) hx hb dX11_isClosed_6 (by decide) ?_
  refine lv_bipush (v := nI 7) hx hb dX11_isClosed_7 (by decide) ?_
  refine vp_callSi (va_Run.run (va_runS (As := [.int (nI n), .int (nI 0), .int (nI 7)]) (rest := []) ⟨hx, hb, hml, hown, hts⟩ (c_X11_in l n 0 7 (by omega) (by decide) (by decide)) (va_cwS 3 hts gX11_isClosed_X11_in rfl rfl rfl (by decide +kernel) ⟨Nat.le_of_ble_eq_true rfl, Nat.le_of_ble_eq_true rfl⟩) okTS rfl rfl hl.1 rfl (lv_room (Nat.le_of_ble_eq_true rfl)) dX11_isClosed_9 ⟨Nat.le_of_ble_eq_true rfl, Nat.le_of_ble_eq_true rfl⟩)) (fun r_9 h_9 => ?_)
  subst h_9
  refine jn_beq hx hb (tgt := 31) dX11_isClosed_12 (by decide) (fun c_12 => ?_) (fun c_12 => ?_)
  · refine lv_aload_n hx hb dX11_isClosed_31 rfl (lv_at hl 0 rfl) ?_
    refine lv_iconst (v := nI 1) hx hb dX11_isClosed_32 (by decide) ?_
    refine jn_calli (va_runV (As := [.int (nI 1)]) (rest := []) ⟨hx, hb, hml, hown, hts⟩ (c_X11_fails l g tl H.size (sF σ 0 0) 1) (cwV 1 hts gX11_isClosed_X11_fails rfl rfl rfl (by decide +kernel) ⟨Nat.le_of_ble_eq_true rfl, Nat.le_of_ble_eq_true rfl⟩) (okWV hK hP hD rfl (gM0 g (sF σ 0 0) tl)) rfl rfl hl.1 rfl (lv_room (Nat.le_of_ble_eq_true rfl)) dX11_isClosed_33 ⟨Nat.le_of_ble_eq_true rfl, Nat.le_of_ble_eq_true rfl⟩) hD hS hAA (fun r_33 u H locs hw_ hP hD hS => ?_)
    obtain rfl := hw_
    have hP : va_P (g.1, g.2.1) vwCl (wM g (sF (sF σ 0 0) 0 1) ++ tl) H := hP
    have hD : va_D A (wM g (sF (sF σ 0 0) 0 1) ++ tl) := hD
    refine jn_zle hx hb (by decide) (tgt := 43) dX11_isClosed_36 (by decide) (fun c_36 => ?_) (fun c_36 => absurd c_36 (by omega))
    refine lv_iconst (v := nI 0) hx hb dX11_isClosed_43 (by decide) ?_
    exact hq _ _ _ _ ((nI 0)) (0, 1, (σ.1 13), (σ.2.1 6), (σ.2.1 7), (σ.2.1 8)) dX11_isClosed_44 jn_n0 (by first | exact ⟨rfl, Or.inr (Or.inl ⟨by omega, rfl, rfl, (h_17.resolve_left (fun z => by have := z.1; omega)).2⟩)⟩ | exact ⟨rfl, Or.inr (Or.inr ⟨by omega, rfl, rfl, _, _, (h_17.resolve_right (fun z => by have := z.1; omega)).2⟩)⟩ | exact ⟨rfl, Or.inl ⟨by omega, rfl⟩⟩) hP hD hS
  · refine lv_aload_n hx hb dX11_isClosed_15 rfl (lv_at hl 0 rfl) ?_
    refine lv_iload_n hx hb dX11_isClosed_16 rfl (lv_at hl 1 rfl) ?_
    refine jn_calli (va_runV (As := [.int (nI n)]) (rest := []) ⟨hx, hb, hml, hown, hts⟩ (c_X11_isOpen l g tl H.size (sF σ 0 0) n hT hF (by omega)) (cwV 1 hts gX11_isClosed_X11_isOpen rfl rfl rfl (by decide +kernel) ⟨Nat.le_of_ble_eq_true rfl, Nat.le_of_ble_eq_true rfl⟩) (okWV hK hP hD rfl (gM0 g (sF σ 0 0) tl)) rfl rfl hl.1 rfl (lv_room (Nat.le_of_ble_eq_true rfl)) dX11_isClosed_17 ⟨Nat.le_of_ble_eq_true rfl, Nat.le_of_ble_eq_true rfl⟩) hD hS hAA (fun r_17 u H locs hw_ hP hD hS => ?_)
    obtain ⟨r0_17, ol_17, f6_17, f7_17, f8_17⟩ := u
    obtain ⟨rfl, h_17⟩ := hw_
    have h_17 : (r0_17 = 1 ∧ isOR (σ.2.1 0) ((σ.2.1 0) 15) n ol_17 f6_17) ∨ (r0_17 = 0 ∧ noR (σ.2.1 0) ((σ.2.1 0) 15) n) := h_17
    have hP : va_P (g.1, g.2.1) vwCl (wM g (sA (sA (sA (sF (sF σ 0 0) 13 ol_17) 6 f6_17) 7 f7_17) 8 f8_17) ++ tl) H := hP
    have hD : va_D A (wM g (sA (sA (sA (sF (sF σ 0 0) 13 ol_17) 6 f6_17) 7 f7_17) 8 f8_17) ++ tl) := hD
    have r01 : r0_17 = 1 ∨ r0_17 = 0 := h_17.imp (fun z => z.1) (fun z => z.1)
    refine jn_zne hx hb (by omega) (tgt := 27) dX11_isClosed_20 (by decide) (fun c_20 => ?_) (fun c_20 => ?_)
    · refine lv_iconst (v := nI 0) hx hb dX11_isClosed_27 (by decide) ?_
      refine lv_goto (tgt := 44) hx hb dX11_isClosed_28 (by decide) ?_
      exact hq _ _ _ _ ((nI 0)) (0, 0, ol_17, f6_17, f7_17, f8_17) dX11_isClosed_44 jn_n0 (by first | exact ⟨rfl, Or.inr (Or.inl ⟨by omega, rfl, rfl, (h_17.resolve_left (fun z => by have := z.1; omega)).2⟩)⟩ | exact ⟨rfl, Or.inr (Or.inr ⟨by omega, rfl, rfl, _, _, (h_17.resolve_right (fun z => by have := z.1; omega)).2⟩)⟩ | exact ⟨rfl, Or.inl ⟨by omega, rfl⟩⟩) hP hD hS
    · refine lv_iconst (v := nI 1) hx hb dX11_isClosed_23 (by decide) ?_
      refine lv_goto (tgt := 44) hx hb dX11_isClosed_24 (by decide) ?_
      exact hq _ _ _ _ ((nI 1)) (1, 0, ol_17, f6_17, f7_17, f8_17) dX11_isClosed_44 jn_n1 (by first | exact ⟨rfl, Or.inr (Or.inl ⟨by omega, rfl, rfl, (h_17.resolve_left (fun z => by have := z.1; omega)).2⟩)⟩ | exact ⟨rfl, Or.inr (Or.inr ⟨by omega, rfl, rfl, _, _, (h_17.resolve_right (fun z => by have := z.1; omega)).2⟩)⟩ | exact ⟨rfl, Or.inl ⟨by omega, rfl⟩⟩) hP hD hS

abbrev r_c_X11_takeOpenWord : Room := { frames := 4, cells := 0, slots := 0, locals := 93 }
set_option maxHeartbeats 4000000 in
set_option maxRecDepth 100000 in
theorem c_X11_takeOpenWord (l : Launch) (g : GC) (tl : va_W) (sz : Nat) (σ : SS) (n : Nat) (hT : OkT (σ.2.1 0)) (hF : ((σ.2.1 0) 15) < 32) (hn : n < 4294967296) : Met l yX11_takeOpenWord wsX11_takeOpenWord r_c_X11_takeOpenWord (va_Pc [.ref (g.2.2.2 0), .int (nI n)] (PW g (wM g σ ++ tl) sz)) (va_Qi (fun (r : Int32) (z : Nat × Nat × Nat × Nat × (Nat → Nat) × (Nat → Nat) × (Nat → Nat) × (Nat → Nat)) => match z with | (r0, th, n6, ol, wd, f6, f7, f8) => (r = nI (r0)) ∧ ((¬ n < 8 ∧ th = 1 ∧ n6 = (σ.1 6) ∧ wd = (σ.2.1 5)) ∨ (n < 8 ∧ noR (σ.2.1 0) ((σ.2.1 0) 15) n ∧ th = 2 ∧ n6 = (σ.1 6) ∧ wd = (σ.2.1 5)) ∨ (n < 8 ∧ th = 0 ∧ r0 = n6 ∧ isOR (σ.2.1 0) ((σ.2.1 0) 15) n n6 wd))) (fun (z : Nat × Nat × Nat × Nat × (Nat → Nat) × (Nat → Nat) × (Nat → Nat) × (Nat → Nat)) t => BW g (va_A (wM g σ ++ tl) sz) ((fun z : Nat × Nat × Nat × Nat × (Nat → Nat) × (Nat → Nat) × (Nat → Nat) × (Nat → Nat) => match z with | (r0, th, n6, ol, wd, f6, f7, f8) => wM g (sA (sA (sA (sA (sF (sF (sF σ 0 th) 6 n6) 13 ol) 5 wd) 6 f6) 7 f7) 8 f8) ++ tl) z) t) (va_A (wM g σ ++ tl) sz)) 0 0 (va_A (wM g σ ++ tl) sz) := by
  refine jn_si (wf := fun z : Nat × Nat × Nat × Nat × (Nat → Nat) × (Nat → Nat) × (Nat → Nat) × (Nat → Nat) => match z with | (r0, th, n6, ol, wd, f6, f7, f8) => wM g (sA (sA (sA (sA (sF (sF (sF σ 0 th) 6 n6) 13 ol) 5 wd) 6 f6) 7 f7) 8 f8) ++ tl) (cc := cX11_takeOpenWord) (maxL := 3) (own := RX11) (by decide) rfl rfl (Nat.le_of_ble_eq_true rfl) ?_
  intro p e s m below meth c Q A hx hb hml hown hts hK hP hD hS hAA hq ls hl
  obtain ⟨H, eH⟩ : ∃ z, z = s.heap := ⟨_, rfl⟩
  obtain ⟨locs, el⟩ : ∃ z : List Loc, z = [] := ⟨_, rfl⟩
  rw [← eH] at hP
  have hS : va_S A s.heap H locs := by rw [eH, el]; exact hS
  have goal0 : W p l e r_c_X11_takeOpenWord s m ([.ref (g.2.2.2 0), .int (nI n)] : List Value).toArray below meth c H locs 0 0 Q (F0 m 0 ls []) → W p l e r_c_X11_takeOpenWord s m ([.ref (g.2.2.2 0), .int (nI n)] : List Value).toArray below meth c s.heap [] 0 0 Q (F0 m 0 ls []) := fun h => by rw [eH, el] at h; exact h
  refine goal0 ?_
  have hl : lv_has ls 3 [(0, .ref (g.2.2.2 0)), (1, .int (nI n))] := hl
  have iX11 : ∀ w ∈ wsX110, w ∈ wsX11_takeOpenWord := by decide +kernel
  have k1 := hts (.fieldLink RX11 1 "JumpingAutomataModel" "thrown" "I") (by decide +kernel)
  have k102 := hts (.fieldLink RX11 102 "JumpingAutomataModel" "openLength" "I") (by decide +kernel)
  have k51 := hts (.fieldLink RX11 51 "JumpingAutomataModel" "length" "I") (by decide +kernel)
  have k45 := hts (.fieldLink RX11 45 "JumpingAutomataModel" "word" "[I") (by decide +kernel)
  have k48 := hts (.fieldLink RX11 48 "JumpingAutomataModel" "other" "[I") (by decide +kernel)
  refine lv_aload_n hx hb dX11_takeOpenWord_0 rfl (lv_at hl 0 rfl) ?_
  refine lv_iconst (v := nI 0) hx hb dX11_takeOpenWord_1 (by decide) ?_
  refine jn_put (D := (g.1, g.2.1)) (ci := 13) (v := .int (nI 0)) (ty := .int) (C := RX11) (T := TX11) (N := 30) hx hb hts iX11 tyX11 tyX11_ok nmX11 hown hK.1 hP hD hS 0 (gM0 g σ tl) rfl 0 (by decide) k1 (fun _ h9 => h9) rfl (by decide +kernel) rfl rfl (Nat.le_of_ble_eq_true rfl) (uM_F0 g σ tl 0) dX11_takeOpenWord_2 (fun H locs hP hD hS => ?_)
  refine lv_iload_n hx hb dX11_takeOpenWord_5 rfl (lv_at hl 1 rfl) ?_
  refine lv_iconst (v := nI 0) hx hb dX11_takeOpenWord_6 (by decide) ?_
  refine lv_bipush (v := nI 7) hx hb dX11_takeOpenWord_7 (by decide) ?_
  refine vp_callSi (va_Run.run (va_runS (As := [.int (nI n), .int (nI 0), .int (nI 7)]) (rest := []) ⟨hx, hb, hml, hown, hts⟩ (c_X11_in l n 0 7 (by omega) (by decide) (by decide)) (va_cwS 3 hts gX11_takeOpenWord_X11_in rfl rfl rfl (by decide +kernel) ⟨Nat.le_of_ble_eq_true rfl, Nat.le_of_ble_eq_true rfl⟩) okTS rfl rfl hl.1 rfl (lv_room (Nat.le_of_ble_eq_true rfl)) dX11_takeOpenWord_9 ⟨Nat.le_of_ble_eq_true rfl, Nat.le_of_ble_eq_true rfl⟩)) (fun r_9 h_9 => ?_)
  subst h_9
  refine jn_bne hx hb (tgt := 21) dX11_takeOpenWord_12 (by decide) (fun c_12 => ?_) (fun c_12 => ?_)
  · refine lv_aload_n hx hb dX11_takeOpenWord_21 rfl (lv_at hl 0 rfl) ?_
    refine lv_iload_n hx hb dX11_takeOpenWord_22 rfl (lv_at hl 1 rfl) ?_
    refine jn_calli (va_runV (As := [.int (nI n)]) (rest := []) ⟨hx, hb, hml, hown, hts⟩ (c_X11_isOpen l g tl H.size (sF σ 0 0) n hT hF (by omega)) (cwV 1 hts gX11_takeOpenWord_X11_isOpen rfl rfl rfl (by decide +kernel) ⟨Nat.le_of_ble_eq_true rfl, Nat.le_of_ble_eq_true rfl⟩) (okWV hK hP hD rfl (gM0 g (sF σ 0 0) tl)) rfl rfl hl.1 rfl (lv_room (Nat.le_of_ble_eq_true rfl)) dX11_takeOpenWord_23 ⟨Nat.le_of_ble_eq_true rfl, Nat.le_of_ble_eq_true rfl⟩) hD hS hAA (fun r_23 u H locs hw_ hP hD hS => ?_)
    obtain ⟨r0_23, ol_23, f6_23, f7_23, f8_23⟩ := u
    obtain ⟨rfl, h_23⟩ := hw_
    have h_23 : (r0_23 = 1 ∧ isOR (σ.2.1 0) ((σ.2.1 0) 15) n ol_23 f6_23) ∨ (r0_23 = 0 ∧ noR (σ.2.1 0) ((σ.2.1 0) 15) n) := h_23
    have hP : va_P (g.1, g.2.1) vwCl (wM g (sA (sA (sA (sF (sF σ 0 0) 13 ol_23) 6 f6_23) 7 f7_23) 8 f8_23) ++ tl) H := hP
    have hD : va_D A (wM g (sA (sA (sA (sF (sF σ 0 0) 13 ol_23) 6 f6_23) 7 f7_23) 8 f8_23) ++ tl) := hD
    have r01 : r0_23 = 1 ∨ r0_23 = 0 := h_23.imp (fun z => z.1) (fun z => z.1)
    refine jn_zne hx hb (by omega) (tgt := 35) dX11_takeOpenWord_26 (by decide) (fun c_26 => ?_) (fun c_26 => ?_)
    · have ho := (h_23.resolve_right (fun z => by have := z.1; omega)).2
      have hol := ho.1
      refine lv_aload_n hx hb dX11_takeOpenWord_35 rfl (lv_at hl 0 rfl) ?_
      refine lv_aload_n hx hb dX11_takeOpenWord_36 rfl (lv_at hl 0 rfl) ?_
      refine va_get (D := (g.1, g.2.1)) (ci := 13) (v := .int (nI ol_23)) (C := RX11) (T := TX11) (N := 30) hx hb hts iX11 hown hK.1 hP 0 (gM0 g (sA (sA (sA (sF (sF σ 0 0) 13 ol_23) 6 f6_23) 7 f7_23) 8 f8_23) tl) rfl 29 (by decide) k102 (fun _ h9 => h9) rfl dX11_takeOpenWord_37 ?_
      refine jn_put (D := (g.1, g.2.1)) (ci := 13) (v := .int (nI ol_23)) (ty := .int) (C := RX11) (T := TX11) (N := 30) hx hb hts iX11 tyX11 tyX11_ok nmX11 hown hK.1 hP hD hS 0 (gM0 g (sA (sA (sA (sF (sF σ 0 0) 13 ol_23) 6 f6_23) 7 f7_23) 8 f8_23) tl) rfl 13 (by decide) k51 (fun _ h9 => h9) rfl (by decide +kernel) rfl rfl (Nat.le_of_ble_eq_true rfl) (uM_F6 g (sA (sA (sA (sF (sF σ 0 0) 13 ol_23) 6 f6_23) 7 f7_23) 8 f8_23) tl ol_23) dX11_takeOpenWord_40 (fun H locs hP hD hS => ?_)
      refine lv_iconst (v := nI 0) hx hb dX11_takeOpenWord_43 (by decide) ?_
      refine lv_istore_n (lv' := [(2, .int (nI 0)), (0, .ref (g.2.2.2 0)), (1, .int (nI n))]) hx hb dX11_takeOpenWord_44 rfl hl (by decide) rfl (fun ls hl => ?_)
      have lp45 : ∀ (fu : Nat), ∀ (i : Nat) (f : Nat → Nat), (i ≤ ol_23) → (∀ k, k < i → f k = f6_23 k) → ol_23 - i < fu → ∀ (H : Heap) (locs : List Loc), va_P (g.1, g.2.1) vwCl (wM g (sA (sA (sA (sA (sF (sF (sF σ 0 0) 6 ol_23) 13 ol_23) 5 f) 6 f6_23) 7 f7_23) 8 f8_23) ++ tl) H → va_D A (wM g (sA (sA (sA (sA (sF (sF (sF σ 0 0) 6 ol_23) 13 ol_23) 5 f) 6 f6_23) 7 f7_23) 8 f8_23) ++ tl) → va_S A s.heap H locs → ∀ ls : Array Slot, lv_has ls 3 [(0, .ref (g.2.2.2 0)), (1, .int (nI n)), (2, .int (nI i))] → W p l e r_c_X11_takeOpenWord s m ([.ref (g.2.2.2 0), .int (nI n)] : List Value).toArray below meth c H locs 0 0 Q (F0 m 45 ls []) := by
        intro fu
        induction fu with
        | zero => intro i f h1 h2 hf; exact absurd hf (Nat.not_lt_zero _)
        | succ fu ih45 =>
          intro i f h1 h2 hf H locs hP hD hS ls hl
          refine lv_iload_n hx hb dX11_takeOpenWord_45 rfl (lv_at hl 2 rfl) ?_
          refine lv_aload_n hx hb dX11_takeOpenWord_46 rfl (lv_at hl 0 rfl) ?_
          refine va_get (D := (g.1, g.2.1)) (ci := 13) (v := .int (nI ol_23)) (C := RX11) (T := TX11) (N := 30) hx hb hts iX11 hown hK.1 hP 0 (gM0 g (sA (sA (sA (sA (sF (sF (sF σ 0 0) 6 ol_23) 13 ol_23) 5 f) 6 f6_23) 7 f7_23) 8 f8_23) tl) rfl 13 (by decide) k51 (fun _ h9 => h9) rfl dX11_takeOpenWord_47 ?_
          refine jn_cge hx hb (by omega) (by omega) (tgt := 71) dX11_takeOpenWord_50 (by decide) (fun c_50 => ?_) (fun c_50 => ?_)
          · refine lv_aload_n hx hb dX11_takeOpenWord_71 rfl (lv_at hl 0 rfl) ?_
            refine va_get (D := (g.1, g.2.1)) (ci := 13) (v := .int (nI ol_23)) (C := RX11) (T := TX11) (N := 30) hx hb hts iX11 hown hK.1 hP 0 (gM0 g (sA (sA (sA (sA (sF (sF (sF σ 0 0) 6 ol_23) 13 ol_23) 5 f) 6 f6_23) 7 f7_23) 8 f8_23) tl) rfl 13 (by decide) k51 (fun _ h9 => h9) rfl dX11_takeOpenWord_72 ?_
            exact hq _ _ _ _ ((nI ol_23)) (_, 0, ol_23, ol_23, f, f6_23, f7_23, f8_23) dX11_takeOpenWord_75 ⟨rfl, (Or.inr (Or.inr ⟨by omega, rfl, rfl, or_w ho (fun k hk => h2 k (by omega))⟩))⟩ hP hD hS
          · refine lv_aload_n hx hb dX11_takeOpenWord_53 rfl (lv_at hl 0 rfl) ?_
            refine va_get (D := (g.1, g.2.1)) (ci := 13) (v := .ref (g.2.2.2 6)) (C := RX11) (T := TX11) (N := 30) hx hb hts iX11 hown hK.1 hP 0 (gM0 g (sA (sA (sA (sA (sF (sF (sF σ 0 0) 6 ol_23) 13 ol_23) 5 f) 6 f6_23) 7 f7_23) 8 f8_23) tl) rfl 11 (by decide) k45 (fun _ h9 => h9) rfl dX11_takeOpenWord_54 ?_
            refine lv_iload_n hx hb dX11_takeOpenWord_57 rfl (lv_at hl 2 rfl) ?_
            refine lv_aload_n hx hb dX11_takeOpenWord_58 rfl (lv_at hl 0 rfl) ?_
            refine va_get (D := (g.1, g.2.1)) (ci := 13) (v := .ref (g.2.2.2 7)) (C := RX11) (T := TX11) (N := 30) hx hb hts iX11 hown hK.1 hP 0 (gM0 g (sA (sA (sA (sA (sF (sF (sF σ 0 0) 6 ol_23) 13 ol_23) 5 f) 6 f6_23) 7 f7_23) 8 f8_23) tl) rfl 12 (by decide) k48 (fun _ h9 => h9) rfl dX11_takeOpenWord_59 ?_
            refine lv_iload_n hx hb dX11_takeOpenWord_62 rfl (lv_at hl 2 rfl) ?_
            refine jn_iald (f := f6_23) hx hb hK.1 hP 7 0 (gM7 g (sA (sA (sA (sA (sF (sF (sF σ 0 0) 6 ol_23) 13 ol_23) 5 f) 6 f6_23) 7 f7_23) 8 f8_23) tl) rfl (by omega) (Nat.le_of_ble_eq_true rfl) dX11_takeOpenWord_63 ?_
            refine jn_iast (f := f) hx hb hK.1 hP hD hS 6 0 (gM6 g (sA (sA (sA (sA (sF (sF (sF σ 0 0) 6 ol_23) 13 ol_23) 5 f) 6 f6_23) 7 f7_23) 8 f8_23) tl) rfl (by omega) (Nat.le_of_ble_eq_true rfl) (uM_A5 g (sA (sA (sA (sA (sF (sF (sF σ 0 0) 6 ol_23) 13 ol_23) 5 f) 6 f6_23) 7 f7_23) 8 f8_23) tl _) dX11_takeOpenWord_64 (fun H locs hP hD hS => ?_)
            refine lv_iinc (v := nI (i + 1)) (lv' := [(2, .int (nI (i + 1))), (0, .ref (g.2.2.2 0)), (1, .int (nI n))]) hx hb dX11_takeOpenWord_65 hl (k := 2) rfl (jn_ii _ 1) (by decide) rfl (fun ls hl => ?_)
            refine lv_goto (tgt := 45) hx hb dX11_takeOpenWord_68 (by decide) ?_
            exact ih45 (i + 1) (va_up f i (f6_23 i)) (by omega) (fun k hk => by unfold va_up; split; { rename_i e; rw [e] }; { exact h2 k (by omega) }) (by omega) _ _ hP hD hS _ (lv_sub hl [1, 2, 0] rfl)
      exact lp45 _ 0 (σ.2.1 5) (by omega) (fun k hk => absurd hk (by omega)) (Nat.lt_succ_self _) _ _ hP hD hS _ (lv_sub hl [1, 2, 0] rfl)
    · have ho := (h_23.resolve_left (fun z => by have := z.1; omega)).2
      refine lv_aload_n hx hb dX11_takeOpenWord_29 rfl (lv_at hl 0 rfl) ?_
      refine lv_iconst (v := nI 2) hx hb dX11_takeOpenWord_30 (by decide) ?_
      refine jn_calli (va_runV (As := [.int (nI 2)]) (rest := []) ⟨hx, hb, hml, hown, hts⟩ (c_X11_fails l g tl H.size (sA (sA (sA (sF (sF σ 0 0) 13 ol_23) 6 f6_23) 7 f7_23) 8 f8_23) 2) (cwV 1 hts gX11_takeOpenWord_X11_fails rfl rfl rfl (by decide +kernel) ⟨Nat.le_of_ble_eq_true rfl, Nat.le_of_ble_eq_true rfl⟩) (okWV hK hP hD rfl (gM0 g (sA (sA (sA (sF (sF σ 0 0) 13 ol_23) 6 f6_23) 7 f7_23) 8 f8_23) tl)) rfl rfl hl.1 rfl (lv_room (Nat.le_of_ble_eq_true rfl)) dX11_takeOpenWord_31 ⟨Nat.le_of_ble_eq_true rfl, Nat.le_of_ble_eq_true rfl⟩) hD hS hAA (fun r_31 u H locs hw_ hP hD hS => ?_)
      obtain rfl := hw_
      have hP : va_P (g.1, g.2.1) vwCl (wM g (sF (sA (sA (sA (sF (sF σ 0 0) 13 ol_23) 6 f6_23) 7 f7_23) 8 f8_23) 0 2) ++ tl) H := hP
      have hD : va_D A (wM g (sF (sA (sA (sA (sF (sF σ 0 0) 13 ol_23) 6 f6_23) 7 f7_23) 8 f8_23) 0 2) ++ tl) := hD
      exact hq _ _ _ _ ((nI 0)) (0, 2, (σ.1 6), ol_23, (σ.2.1 5), f6_23, f7_23, f8_23) dX11_takeOpenWord_34 ⟨rfl, (Or.inr (Or.inl ⟨by omega, ho, rfl, rfl, rfl⟩))⟩ hP hD hS
  · refine lv_aload_n hx hb dX11_takeOpenWord_15 rfl (lv_at hl 0 rfl) ?_
    refine lv_iconst (v := nI 1) hx hb dX11_takeOpenWord_16 (by decide) ?_
    refine jn_calli (va_runV (As := [.int (nI 1)]) (rest := []) ⟨hx, hb, hml, hown, hts⟩ (c_X11_fails l g tl H.size (sF σ 0 0) 1) (cwV 1 hts gX11_takeOpenWord_X11_fails rfl rfl rfl (by decide +kernel) ⟨Nat.le_of_ble_eq_true rfl, Nat.le_of_ble_eq_true rfl⟩) (okWV hK hP hD rfl (gM0 g (sF σ 0 0) tl)) rfl rfl hl.1 rfl (lv_room (Nat.le_of_ble_eq_true rfl)) dX11_takeOpenWord_17 ⟨Nat.le_of_ble_eq_true rfl, Nat.le_of_ble_eq_true rfl⟩) hD hS hAA (fun r_17 u H locs hw_ hP hD hS => ?_)
    obtain rfl := hw_
    have hP : va_P (g.1, g.2.1) vwCl (wM g (sF (sF σ 0 0) 0 1) ++ tl) H := hP
    have hD : va_D A (wM g (sF (sF σ 0 0) 0 1) ++ tl) := hD
    exact hq _ _ _ _ ((nI 0)) (0, 1, (σ.1 6), (σ.1 13), (σ.2.1 5), (σ.2.1 6), (σ.2.1 7), (σ.2.1 8)) dX11_takeOpenWord_20 ⟨rfl, (Or.inl ⟨by omega, rfl, rfl, rfl⟩)⟩ hP hD hS

abbrev r_c_X11_density : Room := { frames := 5, cells := 0, slots := 0, locals := 118 }
set_option maxHeartbeats 4000000 in
set_option maxRecDepth 100000 in
theorem c_X11_density (l : Launch) (g : GC) (tl : va_W) (sz : Nat) (σ : SS) (md n : Nat) (hT : OkT (σ.2.1 0)) (hF : ((σ.2.1 0) 15) < 32) (hmd : md < 4294967296) (hn : n < 4294967296) : Met l yX11_density wsX11_density r_c_X11_density (va_Pc [.ref (g.2.2.2 0), .int (nI md), .int (nI n)] (PW g (wM g σ ++ tl) sz)) (va_Qd (fun (r : UInt64) (z : UInt64 × Nat × Nat × Nat × Nat × (Nat → Nat) × (Nat → Nat) × (Nat → Nat) × (Nat → Nat)) => match z with | (r0, th, j2, r2, e2, f6, f7, f8, f9) => (r = (r0)) ∧ ((¬ (md < 3 ∧ n < 8) ∧ th = 1) ∨ ((md < 3 ∧ n < 8) ∧ (md = 2 ∧ ¬ detT (σ.2.1 0)) ∧ th = 2) ∨ ((md < 3 ∧ n < 8) ∧ (md = 2 → detT (σ.2.1 0)) ∧ th = 0 ∧ r0 = ddQ n (fb_ct (fun cd => cB (acR (σ.2.1 0) (dgt cd n) ((σ.2.1 0) 15) n md)) (3 ^ n))))) (fun (z : UInt64 × Nat × Nat × Nat × Nat × (Nat → Nat) × (Nat → Nat) × (Nat → Nat) × (Nat → Nat)) t => BW g (va_A (wM g σ ++ tl) sz) ((fun z : UInt64 × Nat × Nat × Nat × Nat × (Nat → Nat) × (Nat → Nat) × (Nat → Nat) × (Nat → Nat) => match z with | (r0, th, j2, r2, e2, f6, f7, f8, f9) => wM g (sA (sA (sA (sA (sF (sF (sF (sF σ 0 th) 7 j2) 8 r2) 9 e2) 6 f6) 7 f7) 8 f8) 9 f9) ++ tl) z) t) (va_A (wM g σ ++ tl) sz)) 0 0 (va_A (wM g σ ++ tl) sz) := by
  refine jn_sd (wf := fun z : UInt64 × Nat × Nat × Nat × Nat × (Nat → Nat) × (Nat → Nat) × (Nat → Nat) × (Nat → Nat) => match z with | (r0, th, j2, r2, e2, f6, f7, f8, f9) => wM g (sA (sA (sA (sA (sF (sF (sF (sF σ 0 th) 7 j2) 8 r2) 9 e2) 6 f6) 7 f7) 8 f8) 9 f9) ++ tl) (cc := cX11_density) (maxL := 3) (own := RX11) (by decide) rfl rfl (Nat.le_of_ble_eq_true rfl) ?_
  intro p e s m below meth c Q A hx hb hml hown hts hK hP hD hS hAA hq ls hl
  obtain ⟨H, eH⟩ : ∃ z, z = s.heap := ⟨_, rfl⟩
  obtain ⟨locs, el⟩ : ∃ z : List Loc, z = [] := ⟨_, rfl⟩
  rw [← eH] at hP
  have hS : va_S A s.heap H locs := by rw [eH, el]; exact hS
  have goal0 : W p l e r_c_X11_density s m ([.ref (g.2.2.2 0), .int (nI md), .int (nI n)] : List Value).toArray below meth c H locs 0 0 Q (F0 m 0 ls []) → W p l e r_c_X11_density s m ([.ref (g.2.2.2 0), .int (nI md), .int (nI n)] : List Value).toArray below meth c s.heap [] 0 0 Q (F0 m 0 ls []) := fun h => by rw [eH, el] at h; exact h
  refine goal0 ?_
  have hl : lv_has ls 3 [(0, .ref (g.2.2.2 0)), (1, .int (nI md)), (2, .int (nI n))] := hl
  have iX11 : ∀ w ∈ wsX110, w ∈ wsX11_density := by decide +kernel
  have k1 := hts (.fieldLink RX11 1 "JumpingAutomataModel" "thrown" "I") (by decide +kernel)
  refine lv_aload_n hx hb dX11_density_0 rfl (lv_at hl 0 rfl) ?_
  refine lv_iconst (v := nI 0) hx hb dX11_density_1 (by decide) ?_
  refine jn_put (D := (g.1, g.2.1)) (ci := 13) (v := .int (nI 0)) (ty := .int) (C := RX11) (T := TX11) (N := 30) hx hb hts iX11 tyX11 tyX11_ok nmX11 hown hK.1 hP hD hS 0 (gM0 g σ tl) rfl 0 (by decide) k1 (fun _ h9 => h9) rfl (by decide +kernel) rfl rfl (Nat.le_of_ble_eq_true rfl) (uM_F0 g σ tl 0) dX11_density_2 (fun H locs hP hD hS => ?_)
  refine lv_iload_n hx hb dX11_density_5 rfl (lv_at hl 1 rfl) ?_
  refine lv_iconst (v := nI 0) hx hb dX11_density_6 (by decide) ?_
  refine lv_iconst (v := nI 2) hx hb dX11_density_7 (by decide) ?_
  refine vp_callSi (va_Run.run (va_runS (As := [.int (nI md), .int (nI 0), .int (nI 2)]) (rest := []) ⟨hx, hb, hml, hown, hts⟩ (c_X11_in l md 0 2 (by omega) (by decide) (by decide)) (va_cwS 3 hts gX11_density_X11_in rfl rfl rfl (by decide +kernel) ⟨Nat.le_of_ble_eq_true rfl, Nat.le_of_ble_eq_true rfl⟩) okTS rfl rfl hl.1 rfl (lv_room (Nat.le_of_ble_eq_true rfl)) dX11_density_8 ⟨Nat.le_of_ble_eq_true rfl, Nat.le_of_ble_eq_true rfl⟩)) (fun r_8 h_8 => ?_)
  subst h_8
  refine jn_beq hx hb (tgt := 24) dX11_density_11 (by decide) (fun c_11 => ?_) (fun c_11 => ?_)
  · refine lv_aload_n hx hb dX11_density_24 rfl (lv_at hl 0 rfl) ?_
    refine lv_iconst (v := nI 1) hx hb dX11_density_25 (by decide) ?_
    refine jn_calli (va_runV (As := [.int (nI 1)]) (rest := []) ⟨hx, hb, hml, hown, hts⟩ (c_X11_fails l g tl H.size (sF σ 0 0) 1) (cwV 1 hts gX11_density_X11_fails rfl rfl rfl (by decide +kernel) ⟨Nat.le_of_ble_eq_true rfl, Nat.le_of_ble_eq_true rfl⟩) (okWV hK hP hD rfl (gM0 g (sF σ 0 0) tl)) rfl rfl hl.1 rfl (lv_room (Nat.le_of_ble_eq_true rfl)) dX11_density_26 ⟨Nat.le_of_ble_eq_true rfl, Nat.le_of_ble_eq_true rfl⟩) hD hS hAA (fun r_26 u H locs hw_ hP hD hS => ?_)
    obtain rfl := hw_
    have hP : va_P (g.1, g.2.1) vwCl (wM g (sF (sF σ 0 0) 0 1) ++ tl) H := hP
    have hD : va_D A (wM g (sF (sF σ 0 0) 0 1) ++ tl) := hD
    refine lv_i2d hx hb dX11_density_29 ?_
    exact hq _ _ _ _ ((FP.i2d (nI 0))) (_, 1, (σ.1 7), (σ.1 8), (σ.1 9), (σ.2.1 6), (σ.2.1 7), (σ.2.1 8), (σ.2.1 9)) dX11_density_30 ⟨rfl, Or.inl ⟨by omega, rfl⟩⟩ hP hD hS
  · refine lv_iload_n hx hb dX11_density_14 rfl (lv_at hl 2 rfl) ?_
    refine lv_iconst (v := nI 0) hx hb dX11_density_15 (by decide) ?_
    refine lv_bipush (v := nI 7) hx hb dX11_density_16 (by decide) ?_
    refine vp_callSi (va_Run.run (va_runS (As := [.int (nI n), .int (nI 0), .int (nI 7)]) (rest := []) ⟨hx, hb, hml, hown, hts⟩ (c_X11_in l n 0 7 (by omega) (by decide) (by decide)) (va_cwS 3 hts gX11_density_X11_in rfl rfl rfl (by decide +kernel) ⟨Nat.le_of_ble_eq_true rfl, Nat.le_of_ble_eq_true rfl⟩) okTS rfl rfl hl.1 rfl (lv_room (Nat.le_of_ble_eq_true rfl)) dX11_density_18 ⟨Nat.le_of_ble_eq_true rfl, Nat.le_of_ble_eq_true rfl⟩)) (fun r_18 h_18 => ?_)
    subst h_18
    refine jn_bne hx hb (tgt := 31) dX11_density_21 (by decide) (fun c_21 => ?_) (fun c_21 => ?_)
    · refine lv_aload_n hx hb dX11_density_31 rfl (lv_at hl 0 rfl) ?_
      refine lv_iload_n hx hb dX11_density_32 rfl (lv_at hl 1 rfl) ?_
      refine vp_callSi (va_Run.run (va_runV (As := [.int (nI md)]) (rest := []) ⟨hx, hb, hml, hown, hts⟩ (c_X11_lacksMode l g tl (sF σ 0 0) md hT (by omega)) (cwV 1 hts gX11_density_X11_lacksMode rfl rfl rfl (by decide +kernel) ⟨Nat.le_of_ble_eq_true rfl, Nat.le_of_ble_eq_true rfl⟩) (okPV hK hP rfl (gM0 g (sF σ 0 0) tl)) rfl rfl hl.1 rfl (lv_room (Nat.le_of_ble_eq_true rfl)) dX11_density_33 ⟨Nat.le_of_ble_eq_true rfl, Nat.le_of_ble_eq_true rfl⟩)) (fun r_33 h_33 => ?_)
      have h_33 : r_33 = (nI (if md = 2 ∧ ¬ detT (σ.2.1 0) then 1 else 0)) := h_33
      subst h_33
      refine jn_beq hx hb (tgt := 46) dX11_density_36 (by decide) (fun c_36 => ?_) (fun c_36 => ?_)
      · refine lv_aload_n hx hb dX11_density_46 rfl (lv_at hl 0 rfl) ?_
        refine lv_iload_n hx hb dX11_density_47 rfl (lv_at hl 1 rfl) ?_
        refine lv_iload_n hx hb dX11_density_48 rfl (lv_at hl 2 rfl) ?_
        refine jn_calll (va_runV (As := [.int (nI md), .int (nI n)]) (rest := []) ⟨hx, hb, hml, hown, hts⟩ (c_X11_acceptedAll l g tl H.size (sF σ 0 0) md n hT hF (by omega) (fun q => Classical.not_not.mp (fun z => c_36 ⟨q, z⟩)) (by omega)) (cwV 2 hts gX11_density_X11_acceptedAll rfl rfl rfl (by decide +kernel) ⟨Nat.le_of_ble_eq_true rfl, Nat.le_of_ble_eq_true rfl⟩) (okWV hK hP hD rfl (gM0 g (sF σ 0 0) tl)) rfl rfl hl.1 rfl (lv_room (Nat.le_of_ble_eq_true rfl)) dX11_density_49 ⟨Nat.le_of_ble_eq_true rfl, Nat.le_of_ble_eq_true rfl⟩) hD hS hAA (fun r_49 u H locs hw_ hP hD hS => ?_)
        obtain ⟨j2_49, r2_49, e2_49, f6_49, f7_49, f8_49, f9_49⟩ := u
        obtain rfl := hw_
        have hP : va_P (g.1, g.2.1) vwCl (wM g (sA (sA (sA (sA (sF (sF (sF (sF σ 0 0) 7 j2_49) 8 r2_49) 9 e2_49) 6 f6_49) 7 f7_49) 8 f8_49) 9 f9_49) ++ tl) H := hP
        have hD : va_D A (wM g (sA (sA (sA (sA (sF (sF (sF (sF σ 0 0) 7 j2_49) 8 r2_49) 9 e2_49) 6 f6_49) 7 f7_49) 8 f8_49) 9 f9_49) ++ tl) := hD
        refine lv_l2d hx hb dX11_density_52 ?_
        refine lv_iload_n hx hb dX11_density_53 rfl (lv_at hl 2 rfl) ?_
        refine vp_callSi (va_Run.run (va_runS (As := [.int (nI n)]) (rest := [.double (FP.l2d (lN (fb_ct (fun cd => cB (acR (σ.2.1 0) (dgt cd n) ((σ.2.1 0) 15) n md)) (3 ^ n))))]) ⟨hx, hb, hml, hown, hts⟩ (c_X11_power l n (by omega)) (va_cwS 1 hts gX11_density_X11_power rfl rfl rfl (by decide +kernel) ⟨Nat.le_of_ble_eq_true rfl, Nat.le_of_ble_eq_true rfl⟩) okTS rfl rfl hl.1 rfl (lv_room (Nat.le_of_ble_eq_true rfl)) dX11_density_54 ⟨Nat.le_of_ble_eq_true rfl, Nat.le_of_ble_eq_true rfl⟩)) (fun r_54 h_54 => ?_)
        subst h_54
        refine lv_i2d hx hb dX11_density_57 ?_
        refine lv_ddiv hx hb dX11_density_58 (by rw [← dd_i n (by omega)]; exact dd_n (by omega) (fb_ct_le _ _)) ?_
        exact hq _ _ _ _ ((FP.ddiv (FP.l2d (lN (fb_ct (fun cd => cB (acR (σ.2.1 0) (dgt cd n) ((σ.2.1 0) 15) n md)) (3 ^ n)))) (FP.i2d (nI (3 ^ n))))) (_, 0, j2_49, r2_49, e2_49, f6_49, f7_49, f8_49, f9_49) dX11_density_59 ⟨rfl, Or.inr (Or.inr ⟨by omega, (fun q => Classical.not_not.mp (fun z => c_36 ⟨q, z⟩)), rfl, by rw [← dd_i n (by omega)]; rfl⟩)⟩ hP hD hS
      · refine lv_aload_n hx hb dX11_density_39 rfl (lv_at hl 0 rfl) ?_
        refine lv_iconst (v := nI 2) hx hb dX11_density_40 (by decide) ?_
        refine jn_calli (va_runV (As := [.int (nI 2)]) (rest := []) ⟨hx, hb, hml, hown, hts⟩ (c_X11_fails l g tl H.size (sF σ 0 0) 2) (cwV 1 hts gX11_density_X11_fails rfl rfl rfl (by decide +kernel) ⟨Nat.le_of_ble_eq_true rfl, Nat.le_of_ble_eq_true rfl⟩) (okWV hK hP hD rfl (gM0 g (sF σ 0 0) tl)) rfl rfl hl.1 rfl (lv_room (Nat.le_of_ble_eq_true rfl)) dX11_density_41 ⟨Nat.le_of_ble_eq_true rfl, Nat.le_of_ble_eq_true rfl⟩) hD hS hAA (fun r_41 u H locs hw_ hP hD hS => ?_)
        obtain rfl := hw_
        have hP : va_P (g.1, g.2.1) vwCl (wM g (sF (sF σ 0 0) 0 2) ++ tl) H := hP
        have hD : va_D A (wM g (sF (sF σ 0 0) 0 2) ++ tl) := hD
        refine lv_i2d hx hb dX11_density_44 ?_
        exact hq _ _ _ _ ((FP.i2d (nI 0))) (_, 2, (σ.1 7), (σ.1 8), (σ.1 9), (σ.2.1 6), (σ.2.1 7), (σ.2.1 8), (σ.2.1 9)) dX11_density_45 ⟨rfl, Or.inr (Or.inl ⟨by omega, c_36, rfl⟩)⟩ hP hD hS
    · refine lv_aload_n hx hb dX11_density_24 rfl (lv_at hl 0 rfl) ?_
      refine lv_iconst (v := nI 1) hx hb dX11_density_25 (by decide) ?_
      refine jn_calli (va_runV (As := [.int (nI 1)]) (rest := []) ⟨hx, hb, hml, hown, hts⟩ (c_X11_fails l g tl H.size (sF σ 0 0) 1) (cwV 1 hts gX11_density_X11_fails rfl rfl rfl (by decide +kernel) ⟨Nat.le_of_ble_eq_true rfl, Nat.le_of_ble_eq_true rfl⟩) (okWV hK hP hD rfl (gM0 g (sF σ 0 0) tl)) rfl rfl hl.1 rfl (lv_room (Nat.le_of_ble_eq_true rfl)) dX11_density_26 ⟨Nat.le_of_ble_eq_true rfl, Nat.le_of_ble_eq_true rfl⟩) hD hS hAA (fun r_26 u H locs hw_ hP hD hS => ?_)
      obtain rfl := hw_
      have hP : va_P (g.1, g.2.1) vwCl (wM g (sF (sF σ 0 0) 0 1) ++ tl) H := hP
      have hD : va_D A (wM g (sF (sF σ 0 0) 0 1) ++ tl) := hD
      refine lv_i2d hx hb dX11_density_29 ?_
      exact hq _ _ _ _ ((FP.i2d (nI 0))) (_, 1, (σ.1 7), (σ.1 8), (σ.1 9), (σ.2.1 6), (σ.2.1 7), (σ.2.1 8), (σ.2.1 9)) dX11_density_30 ⟨rfl, Or.inl ⟨by omega, rfl⟩⟩ hP hD hS

abbrev r_c_X11_averageMinimum : Room := { frames := 4, cells := 0, slots := 0, locals := 92 }
set_option maxHeartbeats 4000000 in
set_option maxRecDepth 100000 in
theorem c_X11_averageMinimum (l : Launch) (g : GC) (tl : va_W) (sz : Nat) (σ : SS) (hT : OkT (σ.2.1 0)) (hF : ((σ.2.1 0) 15) < 32) (hmk : ∀ k, k < 1000 → mnK (σ.2.1 0) ((σ.2.1 0) 15) k → dsum k ≤ 4) : Met l yX11_averageMinimum wsX11_averageMinimum r_c_X11_averageMinimum (va_Pc [.ref (g.2.2.2 0)] (PW g (wM g σ ++ tl) sz)) (va_Qf (fun (r : UInt32) (z : UInt32 × Nat × (Nat → Nat) × (Nat → Nat)) => match z with | (r0, th, f7, f13) => (r = (r0)) ∧ (FdO f13 (mnK (σ.2.1 0) ((σ.2.1 0) 15)) 1000) ∧ ((fb_ct (fdB f13) 1000 = 0 ∧ th = 1) ∨ (0 < fb_ct (fdB f13) 1000 ∧ th = 0 ∧ r0 = ffQ (fb_ct (fdB f13) 1000) (smF f13 1000)))) (fun (z : UInt32 × Nat × (Nat → Nat) × (Nat → Nat)) t => BW g (va_A (wM g σ ++ tl) sz) ((fun z : UInt32 × Nat × (Nat → Nat) × (Nat → Nat) => match z with | (r0, th, f7, f13) => wM g (sA (sA (sF σ 0 th) 7 f7) 13 f13) ++ tl) z) t) (va_A (wM g σ ++ tl) sz)) 0 0 (va_A (wM g σ ++ tl) sz) := by
  refine jn_sf (wf := fun z : UInt32 × Nat × (Nat → Nat) × (Nat → Nat) => match z with | (r0, th, f7, f13) => wM g (sA (sA (sF σ 0 th) 7 f7) 13 f13) ++ tl) (cc := cX11_averageMinimum) (maxL := 4) (own := RX11) (by decide) rfl rfl (Nat.le_of_ble_eq_true rfl) ?_
  intro p e s m below meth c Q A hx hb hml hown hts hK hP hD hS hAA hq ls hl
  obtain ⟨H, eH⟩ : ∃ z, z = s.heap := ⟨_, rfl⟩
  obtain ⟨locs, el⟩ : ∃ z : List Loc, z = [] := ⟨_, rfl⟩
  rw [← eH] at hP
  have hS : va_S A s.heap H locs := by rw [eH, el]; exact hS
  have goal0 : W p l e r_c_X11_averageMinimum s m ([.ref (g.2.2.2 0)] : List Value).toArray below meth c H locs 0 0 Q (F0 m 0 ls []) → W p l e r_c_X11_averageMinimum s m ([.ref (g.2.2.2 0)] : List Value).toArray below meth c s.heap [] 0 0 Q (F0 m 0 ls []) := fun h => by rw [eH, el] at h; exact h
  refine goal0 ?_
  have hl : lv_has ls 4 [(0, .ref (g.2.2.2 0))] := hl
  have iX11 : ∀ w ∈ wsX110, w ∈ wsX11_averageMinimum := by decide +kernel
  have k1 := hts (.fieldLink RX11 1 "JumpingAutomataModel" "thrown" "I") (by decide +kernel)
  have k95 := hts (.fieldLink RX11 95 "JumpingAutomataModel" "found" "[Z") (by decide +kernel)
  refine lv_aload_n hx hb dX11_averageMinimum_0 rfl (lv_at hl 0 rfl) ?_
  refine lv_iconst (v := nI 0) hx hb dX11_averageMinimum_1 (by decide) ?_
  refine jn_put (D := (g.1, g.2.1)) (ci := 13) (v := .int (nI 0)) (ty := .int) (C := RX11) (T := TX11) (N := 30) hx hb hts iX11 tyX11 tyX11_ok nmX11 hown hK.1 hP hD hS 0 (gM0 g σ tl) rfl 0 (by decide) k1 (fun _ h9 => h9) rfl (by decide +kernel) rfl rfl (Nat.le_of_ble_eq_true rfl) (uM_F0 g σ tl 0) dX11_averageMinimum_2 (fun H locs hP hD hS => ?_)
  refine lv_aload_n hx hb dX11_averageMinimum_5 rfl (lv_at hl 0 rfl) ?_
  refine jn_callv (va_runV (As := []) (rest := []) ⟨hx, hb, hml, hown, hts⟩ (c_X11_layMinimal l g tl H.size (sF σ 0 0) hT hF) (cwV 0 hts gX11_averageMinimum_X11_layMinimal rfl rfl rfl (by decide +kernel) ⟨Nat.le_of_ble_eq_true rfl, Nat.le_of_ble_eq_true rfl⟩) (okWV hK hP hD rfl (gM0 g (sF σ 0 0) tl)) rfl rfl hl.1 rfl (lv_room (Nat.le_of_ble_eq_true rfl)) dX11_averageMinimum_6 ⟨Nat.le_of_ble_eq_true rfl, Nat.le_of_ble_eq_true rfl⟩) hD hS hAA (fun u H locs hw_ hP hD hS => ?_)
  obtain ⟨f7_6, f13_6⟩ := u
  have h_6 := hw_
  have h_6 : FdO f13_6 (mnK (σ.2.1 0) ((σ.2.1 0) 15)) 1000 := h_6
  have hP : va_P (g.1, g.2.1) vwCl (wM g (sA (sA (sF σ 0 0) 7 f7_6) 13 f13_6) ++ tl) H := hP
  have hD : va_D A (wM g (sA (sA (sF σ 0 0) 7 f7_6) 13 f13_6) ++ tl) := hD
  have hfo := ff_ok h_6 hmk
  refine lv_iconst (v := nI 0) hx hb dX11_averageMinimum_9 (by decide) ?_
  refine lv_istore_n (lv' := [(1, .int (nI 0)), (0, .ref (g.2.2.2 0))]) hx hb dX11_averageMinimum_10 rfl hl (by decide) rfl (fun ls hl => ?_)
  refine lv_iconst (v := nI 0) hx hb dX11_averageMinimum_11 (by decide) ?_
  refine lv_istore_n (lv' := [(2, .int (nI 0)), (1, .int (nI 0)), (0, .ref (g.2.2.2 0))]) hx hb dX11_averageMinimum_12 rfl hl (by decide) rfl (fun ls hl => ?_)
  refine lv_iconst (v := nI 0) hx hb dX11_averageMinimum_13 (by decide) ?_
  refine lv_istore_n (lv' := [(3, .int (nI 0)), (2, .int (nI 0)), (1, .int (nI 0)), (0, .ref (g.2.2.2 0))]) hx hb dX11_averageMinimum_14 rfl hl (by decide) rfl (fun ls hl => ?_)
  have lp15 : ∀ (fu : Nat), ∀ (k : Nat) (n : Nat) (z : Nat), (k ≤ 1000) → (n = fb_ct (fdB f13_6) k) → (z = smF f13_6 k) → 1000 - k < fu → ∀ (H : Heap) (locs : List Loc), va_P (g.1, g.2.1) vwCl (wM g (sA (sA (sF σ 0 0) 7 f7_6) 13 f13_6) ++ tl) H → va_D A (wM g (sA (sA (sF σ 0 0) 7 f7_6) 13 f13_6) ++ tl) → va_S A s.heap H locs → ∀ ls : Array Slot, lv_has ls 4 [(0, .ref (g.2.2.2 0)), (1, .int (nI n)), (2, .int (nI z)), (3, .int (nI k))] → W p l e r_c_X11_averageMinimum s m ([.ref (g.2.2.2 0)] : List Value).toArray below meth c H locs 0 0 Q (F0 m 15 ls []) := by
    intro fu
    induction fu with
    | zero => intro k n z h1 h2 h3 hf; exact absurd hf (Nat.not_lt_zero _)
    | succ fu ih15 =>
      intro k n z h1 h2 h3 hf H locs hP hD hS ls hl
      refine lv_iload_n hx hb dX11_averageMinimum_15 rfl (lv_at hl 3 rfl) ?_
      refine lv_sipush (v := nI 1000) hx hb dX11_averageMinimum_16 (by decide) ?_
      refine jn_cge hx hb (by omega) (by decide) (tgt := 63) dX11_averageMinimum_19 (by decide) (fun c_19 => ?_) (fun c_19 => ?_)
      · have ek : k = 1000 := by omega
        rw [ek] at h2 h3
        refine lv_iload_n hx hb dX11_averageMinimum_63 rfl (lv_at hl 1 rfl) ?_
        refine jn_zne hx hb (by omega) (tgt := 76) dX11_averageMinimum_64 (by decide) (fun c_64 => ?_) (fun c_64 => ?_)
        · refine lv_iload_n hx hb dX11_averageMinimum_76 rfl (lv_at hl 2 rfl) ?_
          refine lv_i2f hx hb dX11_averageMinimum_77 ?_
          refine lv_iload_n hx hb dX11_averageMinimum_78 rfl (lv_at hl 1 rfl) ?_
          refine lv_i2f hx hb dX11_averageMinimum_79 ?_
          refine lv_fdiv hx hb dX11_averageMinimum_80 (ff_n (by omega) (by omega) (by rw [h2, h3]; exact hfo.2)).1 ?_
          exact hq _ _ _ _ ((FP.fdiv (FP.i2f (nI z)) (FP.i2f (nI n)))) (_, 0, f7_6, f13_6) dX11_averageMinimum_81 (by first | exact ⟨rfl, h_6, Or.inl ⟨by omega, rfl⟩⟩ | exact ⟨rfl, h_6, Or.inr ⟨by omega, rfl, by rw [h2, h3]; rfl⟩⟩) hP hD hS
        · refine lv_aload_n hx hb dX11_averageMinimum_67 rfl (lv_at hl 0 rfl) ?_
          refine lv_iconst (v := nI 1) hx hb dX11_averageMinimum_68 (by decide) ?_
          refine jn_calli (va_runV (As := [.int (nI 1)]) (rest := []) ⟨hx, hb, hml, hown, hts⟩ (c_X11_fails l g tl H.size (sA (sA (sF σ 0 0) 7 f7_6) 13 f13_6) 1) (cwV 1 hts gX11_averageMinimum_X11_fails rfl rfl rfl (by decide +kernel) ⟨Nat.le_of_ble_eq_true rfl, Nat.le_of_ble_eq_true rfl⟩) (okWV hK hP hD rfl (gM0 g (sA (sA (sF σ 0 0) 7 f7_6) 13 f13_6) tl)) rfl rfl hl.1 rfl (lv_room (Nat.le_of_ble_eq_true rfl)) dX11_averageMinimum_69 ⟨Nat.le_of_ble_eq_true rfl, Nat.le_of_ble_eq_true rfl⟩) hD hS hAA (fun r_69 u H locs hw_ hP hD hS => ?_)
          obtain rfl := hw_
          have hP : va_P (g.1, g.2.1) vwCl (wM g (sF (sA (sA (sF σ 0 0) 7 f7_6) 13 f13_6) 0 1) ++ tl) H := hP
          have hD : va_D A (wM g (sF (sA (sA (sF σ 0 0) 7 f7_6) 13 f13_6) 0 1) ++ tl) := hD
          refine lv_i2f hx hb dX11_averageMinimum_72 ?_
          refine lv_goto (tgt := 81) hx hb dX11_averageMinimum_73 (by decide) ?_
          exact hq _ _ _ _ ((FP.i2f (nI 0))) (_, 1, f7_6, f13_6) dX11_averageMinimum_81 (by first | exact ⟨rfl, h_6, Or.inl ⟨by omega, rfl⟩⟩ | exact ⟨rfl, h_6, Or.inr ⟨by omega, rfl, by rw [h2, h3]; rfl⟩⟩) hP hD hS
      · refine lv_aload_n hx hb dX11_averageMinimum_22 rfl (lv_at hl 0 rfl) ?_
        refine va_get (D := (g.1, g.2.1)) (ci := 13) (v := .ref (g.2.2.2 16)) (C := RX11) (T := TX11) (N := 30) hx hb hts iX11 hown hK.1 hP 0 (gM0 g (sA (sA (sF σ 0 0) 7 f7_6) 13 f13_6) tl) rfl 27 (by decide) k95 (fun _ h9 => h9) rfl dX11_averageMinimum_23 ?_
        refine lv_iload_n hx hb dX11_averageMinimum_26 rfl (lv_at hl 3 rfl) ?_
        refine jn_zald (f := f13_6) hx hb hK.1 hP 16 2 (gM16 g (sA (sA (sF σ 0 0) 7 f7_6) 13 f13_6) tl) rfl (by omega) (Nat.le_of_ble_eq_true rfl) dX11_averageMinimum_27 ?_
        refine jn_zne hx hb (by have := fd_bit h_6 (show k < 1000 by omega); omega) (tgt := 34) dX11_averageMinimum_28 (by decide) (fun c_28 => ?_) (fun c_28 => ?_)
        · refine lv_iinc (v := nI (n + 1)) (lv' := [(1, .int (nI (n + 1))), (0, .ref (g.2.2.2 0)), (2, .int (nI z)), (3, .int (nI k))]) hx hb dX11_averageMinimum_34 hl (k := 1) rfl (jn_ii _ 1) (by decide) rfl (fun ls hl => ?_)
          refine lv_iload_n hx hb dX11_averageMinimum_37 rfl (lv_at hl 2 rfl) ?_
          refine lv_iload_n hx hb dX11_averageMinimum_38 rfl (lv_at hl 3 rfl) ?_
          refine lv_bipush (v := nI 100) hx hb dX11_averageMinimum_39 (by decide) ?_
          refine jn_idiv hx hb (by omega) (by decide) (by decide) dX11_averageMinimum_41 ?_
          refine lv_iload_n hx hb dX11_averageMinimum_42 rfl (lv_at hl 3 rfl) ?_
          refine lv_bipush (v := nI 10) hx hb dX11_averageMinimum_43 (by decide) ?_
          refine jn_idiv hx hb (by omega) (by decide) (by decide) dX11_averageMinimum_45 ?_
          refine lv_bipush (v := nI 10) hx hb dX11_averageMinimum_46 (by decide) ?_
          refine jn_irem hx hb (by omega) (by decide) (by decide) dX11_averageMinimum_48 ?_
          refine jn_iadd hx hb dX11_averageMinimum_49 ?_
          refine lv_iload_n hx hb dX11_averageMinimum_50 rfl (lv_at hl 3 rfl) ?_
          refine lv_bipush (v := nI 10) hx hb dX11_averageMinimum_51 (by decide) ?_
          refine jn_irem hx hb (by omega) (by decide) (by decide) dX11_averageMinimum_53 ?_
          refine jn_iadd hx hb dX11_averageMinimum_54 ?_
          refine jn_iadd hx hb dX11_averageMinimum_55 ?_
          refine lv_istore_n (lv' := [(2, .int (nI (z + (((k / 100) + ((k / 10) % 10)) + (k % 10))))), (1, .int (nI (n + 1))), (0, .ref (g.2.2.2 0)), (3, .int (nI k))]) hx hb dX11_averageMinimum_56 rfl hl (by decide) rfl (fun ls hl => ?_)
          refine lv_iinc (v := nI (k + 1)) (lv' := [(3, .int (nI (k + 1))), (2, .int (nI (z + (((k / 100) + ((k / 10) % 10)) + (k % 10))))), (1, .int (nI (n + 1))), (0, .ref (g.2.2.2 0))]) hx hb dX11_averageMinimum_57 hl (k := 3) rfl (jn_ii _ 1) (by decide) rfl (fun ls hl => ?_)
          refine lv_goto (tgt := 15) hx hb dX11_averageMinimum_60 (by decide) ?_
          exact ih15 (k + 1) (n + 1) (z + (((k / 100) + ((k / 10) % 10)) + (k % 10))) (by omega) (by first | exact ct_y h2 (decide_eq_true c_28) | exact ct_n h2 (decide_eq_false (fun q => q c_28))) (by first | exact sf_y h3 c_28 | exact sf_n h3 c_28) (by omega) _ _ hP hD hS _ (lv_sub hl [3, 2, 1, 0] rfl)
        · refine lv_goto (tgt := 57) hx hb dX11_averageMinimum_31 (by decide) ?_
          refine lv_iinc (v := nI (k + 1)) (lv' := [(3, .int (nI (k + 1))), (0, .ref (g.2.2.2 0)), (1, .int (nI n)), (2, .int (nI z))]) hx hb dX11_averageMinimum_57 hl (k := 3) rfl (jn_ii _ 1) (by decide) rfl (fun ls hl => ?_)
          refine lv_goto (tgt := 15) hx hb dX11_averageMinimum_60 (by decide) ?_
          exact ih15 (k + 1) n z (by omega) (by first | exact ct_y h2 (decide_eq_true c_28) | exact ct_n h2 (decide_eq_false (fun q => q c_28))) (by first | exact sf_y h3 c_28 | exact sf_n h3 c_28) (by omega) _ _ hP hD hS _ (lv_sub hl [1, 2, 3, 0] rfl)
  exact lp15 _ 0 0 0 (by decide) rfl rfl (Nat.lt_succ_self _) _ _ hP hD hS _ (lv_sub hl [3, 2, 1, 0] rfl)
