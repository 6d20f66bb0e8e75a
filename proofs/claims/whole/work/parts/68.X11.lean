abbrev r_c_X11_costAt : Room := { frames := 0, cells := 0, slots := 0, locals := 0 }
set_option maxHeartbeats 4000000 in
set_option maxRecDepth 100000 in
theorem c_X11_costAt (l : Launch) (g : GC) (tl : va_W) (σ : SS) (a b c2 : Nat) : Met l yX11_costAt wsX11_costAt r_c_X11_costAt (va_Pc [.ref (g.2.2.2 0), .int (nI a), .int (nI b), .int (nI c2)] (PP g (wM g σ ++ tl))) (vp_Si (fun r => r = nI ((a * 8 + b) * 5 + c2))) 0 0 (fun _ => False) := by
  refine jn_pi (cc := cX11_costAt) (maxL := 4) (own := RX11) (by decide) rfl rfl (Nat.le_of_ble_eq_true rfl) ?_
  intro p e s m below meth c Q hx hb hml hown hts ⟨hP, hK⟩ hq ls hl
  have hl : lv_has ls 4 [(0, .ref (g.2.2.2 0)), (1, .int (nI a)), (2, .int (nI b)), (3, .int (nI c2))] := hl
  refine lv_iload_n hx hb dX11_costAt_0 rfl (lv_at hl 1 rfl) ?_
  refine lv_bipush (v := nI 8) hx hb dX11_costAt_1 (by decide) ?_
  refine jn_imul hx hb dX11_costAt_3 ?_
  refine lv_iload_n hx hb dX11_costAt_4 rfl (lv_at hl 2 rfl) ?_
  refine jn_iadd hx hb dX11_costAt_5 ?_
  refine lv_iconst (v := nI 5) hx hb dX11_costAt_6 (by decide) ?_
  refine jn_imul hx hb dX11_costAt_7 ?_
  refine lv_iload_n hx hb dX11_costAt_8 rfl (lv_at hl 3 rfl) ?_
  refine jn_iadd hx hb dX11_costAt_9 ?_
  exact hq _ _ ((nI ((((a * 8) + b) * 5) + c2))) dX11_costAt_10 rfl

abbrev r_c_X11_leastOf : Room := { frames := 1, cells := 0, slots := 0, locals := 24 }
set_option maxHeartbeats 4000000 in
set_option maxRecDepth 100000 in
theorem c_X11_leastOf (l : Launch) (g : GC) (tl : va_W) (σ : SS) (rd la st : Nat) (h1 : rd < 256) (h2 : la < 8) (h3 : st < 32) (h4 : ∀ t, t < 5 → Nat.testBit st t = true → (σ.2.1 11) ((rd * 8 + la) * 5 + t) ≤ 1000000) : Met l yX11_leastOf wsX11_leastOf r_c_X11_leastOf (va_Pc [.ref (g.2.2.2 0), .int (nI rd), .int (nI la), .int (nI st)] (PP g (wM g σ ++ tl))) (vp_Si (fun r => r = nI (lsR (fun t => (σ.2.1 11) ((rd * 8 + la) * 5 + t)) st))) 0 0 (fun _ => False) := by
  refine jn_pi (cc := cX11_leastOf) (maxL := 6) (own := RX11) (by decide) rfl rfl (Nat.le_of_ble_eq_true rfl) ?_
  intro p e s m below meth c Q hx hb hml hown hts ⟨hP, hK⟩ hq ls hl
  have hl : lv_has ls 6 [(0, .ref (g.2.2.2 0)), (1, .int (nI rd)), (2, .int (nI la)), (3, .int (nI st))] := hl
  have iX11 : ∀ w ∈ wsX110, w ∈ wsX11_leastOf := by decide +kernel
  have k89 := hts (.fieldLink RX11 89 "JumpingAutomataModel" "cost" "[I") (by decide +kernel)
  refine lv_ldc (v := 1000000) hx hb hown (hts (.constant RX11 195 1000000) (by decide +kernel)) dX11_leastOf_0 ?_
  rw [show ((1000000 : Int32)) = nI 1000000 from rfl]
  refine lv_istore (lv' := [(4, .int (nI 1000000)), (0, .ref (g.2.2.2 0)), (1, .int (nI rd)), (2, .int (nI la)), (3, .int (nI st))]) hx hb dX11_leastOf_2 hl (by decide) rfl (fun ls hl => ?_)
  refine lv_iconst (v := nI 0) hx hb dX11_leastOf_4 (by decide) ?_
  refine lv_istore (lv' := [(5, .int (nI 0)), (4, .int (nI 1000000)), (0, .ref (g.2.2.2 0)), (1, .int (nI rd)), (2, .int (nI la)), (3, .int (nI st))]) hx hb dX11_leastOf_5 hl (by decide) rfl (fun ls hl => ?_)
  have lp7 : ∀ (fu : Nat), ∀ (q : Nat) (z : Nat), (q ≤ 5) → (z = lsRF (fun t => (σ.2.1 11) ((rd * 8 + la) * 5 + t)) st q) → 5 - q < fu → ∀ ls : Array Slot, lv_has ls 6 [(0, .ref (g.2.2.2 0)), (1, .int (nI rd)), (2, .int (nI la)), (3, .int (nI st)), (4, .int (nI z)), (5, .int (nI q))] → W p l e r_c_X11_leastOf s m ([.ref (g.2.2.2 0), .int (nI rd), .int (nI la), .int (nI st)] : List Value).toArray below meth c s.heap [] 0 0 Q (F0 m 7 ls []) := by
    intro fu
    induction fu with
    | zero => intro q z h5 h6 hf; exact absurd hf (Nat.not_lt_zero _)
    | succ fu ih7 =>
      intro q z h5 h6 hf ls hl
      have hzl : z ≤ 1000000 := by rw [h6]; exact lsRF_le _ _ _
      refine lv_iload hx hb dX11_leastOf_7 (lv_at hl 5 rfl) ?_
      refine lv_iconst (v := nI 5) hx hb dX11_leastOf_9 (by decide) ?_
      refine jn_cge hx hb (by omega) (by decide) (tgt := 48) dX11_leastOf_10 (by decide) (fun c_10 => ?_) (fun c_10 => ?_)
      · refine lv_iload hx hb dX11_leastOf_48 (lv_at hl 4 rfl) ?_
        exact hq _ _ ((nI z)) dX11_leastOf_50 (by rw [h6, show q = 5 by omega])
      · refine lv_iload_n hx hb dX11_leastOf_13 rfl (lv_at hl 3 rfl) ?_
        refine lv_iload hx hb dX11_leastOf_14 (lv_at hl 5 rfl) ?_
        refine vp_callSi (va_Run.run (va_runS (As := [.int (nI st), .int (nI q)]) (rest := []) ⟨hx, hb, hml, hown, hts⟩ (c_X11_has l st q (by omega) (by omega)) (va_cwS 2 hts gX11_leastOf_X11_has rfl rfl rfl (by decide +kernel) ⟨Nat.le_of_ble_eq_true rfl, Nat.le_of_ble_eq_true rfl⟩) okTS rfl rfl hl.1 rfl (lv_room (Nat.le_of_ble_eq_true rfl)) dX11_leastOf_16 ⟨Nat.le_of_ble_eq_true rfl, Nat.le_of_ble_eq_true rfl⟩)) (fun r_16 h_16 => ?_)
        subst h_16
        refine jn_beq hx hb (tgt := 42) dX11_leastOf_19 (by decide) (fun c_19 => ?_) (fun c_19 => ?_)
        · refine lv_iinc (v := nI (q + 1)) (lv' := [(5, .int (nI (q + 1))), (0, .ref (g.2.2.2 0)), (1, .int (nI rd)), (2, .int (nI la)), (3, .int (nI st)), (4, .int (nI z))]) hx hb dX11_leastOf_42 hl (k := 5) rfl (jn_ii _ 1) (by decide) rfl (fun ls hl => ?_)
          refine lv_goto (tgt := 7) hx hb dX11_leastOf_45 (by decide) ?_
          exact ih7 (q + 1) z (by omega) (by rw [h6, lsRF]; first | rw [if_pos c_19] | rw [if_neg c_19]) (by omega) _ (lv_sub hl [1, 2, 3, 4, 5, 0] rfl)
        · refine lv_iload hx hb dX11_leastOf_22 (lv_at hl 4 rfl) ?_
          refine lv_aload_n hx hb dX11_leastOf_24 rfl (lv_at hl 0 rfl) ?_
          refine va_get (D := (g.1, g.2.1)) (ci := 13) (v := .ref (g.2.2.2 14)) (C := RX11) (T := TX11) (N := 30) hx hb hts iX11 hown hK.1 hP 0 (gM0 g σ tl) rfl 25 (by decide) k89 (fun _ h9 => h9) rfl dX11_leastOf_25 ?_
          refine lv_aload_n hx hb dX11_leastOf_28 rfl (lv_at hl 0 rfl) ?_
          refine lv_iload_n hx hb dX11_leastOf_29 rfl (lv_at hl 1 rfl) ?_
          refine lv_iload_n hx hb dX11_leastOf_30 rfl (lv_at hl 2 rfl) ?_
          refine lv_iload hx hb dX11_leastOf_31 (lv_at hl 5 rfl) ?_
          refine vp_callSi (va_Run.run (va_runV (As := [.int (nI rd), .int (nI la), .int (nI q)]) (rest := [.ref (g.2.2.2 14), .int (nI z)]) ⟨hx, hb, hml, hown, hts⟩ (c_X11_costAt l g tl σ rd la q) (cwV 3 hts gX11_leastOf_X11_costAt rfl rfl rfl (by decide +kernel) ⟨Nat.le_of_ble_eq_true rfl, Nat.le_of_ble_eq_true rfl⟩) (okPV hK hP rfl (gM0 g σ tl)) rfl rfl hl.1 rfl (lv_room (Nat.le_of_ble_eq_true rfl)) dX11_leastOf_33 ⟨Nat.le_of_ble_eq_true rfl, Nat.le_of_ble_eq_true rfl⟩)) (fun r_33 h_33 => ?_)
          subst h_33
          refine jn_iald (f := σ.2.1 11) hx hb hK.1 hP 14 0 (gM14 g σ tl) rfl (by omega) (Nat.le_of_ble_eq_true rfl) dX11_leastOf_36 ?_
          have hq4 := h4 q (by omega) c_19
          refine jn_min hx hb (hml.trans hl.1.symm) hown (hts (.methodLink RX11 204 Lib.Math.min.name) (by decide +kernel)) (hts (.static Lib.Math.min.name) (by decide +kernel)) (hts (.initialized "java/lang/Math") (by decide +kernel)) (hts (.code Lib.Math.min.name Lib.Math.min.code 2 (some .int)) (by decide +kernel)) (Nat.le_of_ble_eq_true rfl) (Nat.le_of_ble_eq_true rfl) (Nat.le_of_ble_eq_true rfl) (Nat.le_of_ble_eq_true rfl) (by omega) (by omega) dX11_leastOf_37 ?_
          refine lv_istore (lv' := [(4, .int (nI (min z ((σ.2.1 11) ((rd * 8 + la) * 5 + q))))), (0, .ref (g.2.2.2 0)), (1, .int (nI rd)), (2, .int (nI la)), (3, .int (nI st)), (5, .int (nI q))]) hx hb dX11_leastOf_40 hl (by decide) rfl (fun ls hl => ?_)
          refine lv_iinc (v := nI (q + 1)) (lv' := [(5, .int (nI (q + 1))), (4, .int (nI (min z ((σ.2.1 11) ((rd * 8 + la) * 5 + q))))), (0, .ref (g.2.2.2 0)), (1, .int (nI rd)), (2, .int (nI la)), (3, .int (nI st))]) hx hb dX11_leastOf_42 hl (k := 5) rfl (jn_ii _ 1) (by decide) rfl (fun ls hl => ?_)
          refine lv_goto (tgt := 7) hx hb dX11_leastOf_45 (by decide) ?_
          exact ih7 (q + 1) (min z ((σ.2.1 11) ((rd * 8 + la) * 5 + q))) (by omega) (by rw [h6, lsRF]; first | rw [if_pos c_19] | rw [if_neg c_19]) (by omega) _ (lv_sub hl [2, 3, 4, 5, 1, 0] rfl)
  exact lp7 _ 0 1000000 (by decide) rfl (Nat.lt_succ_self _) _ (lv_sub hl [2, 3, 4, 5, 1, 0] rfl)

abbrev r_c_X11_layCosts : Room := { frames := 2, cells := 0, slots := 0, locals := 49 }
set_option maxHeartbeats 4000000 in
set_option maxRecDepth 100000 in
theorem c_X11_layCosts (l : Launch) (g : GC) (tl : va_W) (sz : Nat) (σ : SS) (hT : OkT (σ.2.1 0)) (hF : ((σ.2.1 0) 15) < 32) (hn : (σ.1 6) ≤ 8) (hw : ∀ i, i < (σ.1 6) → (σ.2.1 5) i < 3) (h0 : 0 < (σ.1 6)) : Met l yX11_layCosts wsX11_layCosts r_c_X11_layCosts (va_Pc [.ref (g.2.2.2 0)] (PW g (wM g σ ++ tl) sz)) (va_Qv (fun (f11 : (Nat → Nat)) => TbP (σ.2.1 0) (σ.2.1 5) ((σ.2.1 0) 15) (σ.1 6) 0 0 0 f11) (fun (f11 : (Nat → Nat)) t => BW g (va_A (wM g σ ++ tl) sz) (wM g (sA σ 11 f11) ++ tl) t) (va_A (wM g σ ++ tl) sz)) 0 0 (va_A (wM g σ ++ tl) sz) := by
  refine jn_sv (wf := fun f11 : (Nat → Nat) => wM g (sA σ 11 f11) ++ tl) (cc := cX11_layCosts) (maxL := 7) (own := RX11) (by decide) rfl rfl (Nat.le_of_ble_eq_true rfl) ?_
  intro p e s m below meth c Q A hx hb hml hown hts hK hP hD hS hAA hq ls hl
  obtain ⟨H, eH⟩ : ∃ z, z = s.heap := ⟨_, rfl⟩
  obtain ⟨locs, el⟩ : ∃ z : List Loc, z = [] := ⟨_, rfl⟩
  rw [← eH] at hP
  have hS : va_S A s.heap H locs := by rw [eH, el]; exact hS
  have goal0 : W p l e r_c_X11_layCosts s m ([.ref (g.2.2.2 0)] : List Value).toArray below meth c H locs 0 0 Q (F0 m 0 ls []) → W p l e r_c_X11_layCosts s m ([.ref (g.2.2.2 0)] : List Value).toArray below meth c s.heap [] 0 0 Q (F0 m 0 ls []) := fun h => by rw [eH, el] at h; exact h
  refine goal0 ?_
  have hl : lv_has ls 7 [(0, .ref (g.2.2.2 0))] := hl
  have iX11 : ∀ w ∈ wsX110, w ∈ wsX11_layCosts := by decide +kernel
  have k51 := hts (.fieldLink RX11 51 "JumpingAutomataModel" "length" "I") (by decide +kernel)
  have k89 := hts (.fieldLink RX11 89 "JumpingAutomataModel" "cost" "[I") (by decide +kernel)
  have k45 := hts (.fieldLink RX11 45 "JumpingAutomataModel" "word" "[I") (by decide +kernel)
  have k13 := hts (.fieldLink RX11 13 "JumpingAutomataModel" "now" "[I") (by decide +kernel)
  have p8 := pow8 (σ.1 6) hn
  refine lv_iconst (v := nI 1) hx hb dX11_layCosts_0 (by decide) ?_
  refine lv_aload_n hx hb dX11_layCosts_1 rfl (lv_at hl 0 rfl) ?_
  refine va_get (D := (g.1, g.2.1)) (ci := 13) (v := .int (nI (σ.1 6))) (C := RX11) (T := TX11) (N := 30) hx hb hts iX11 hown hK.1 hP 0 (gM0 g σ tl) rfl 13 (by decide) k51 (fun _ h9 => h9) rfl dX11_layCosts_2 ?_
  refine jn_shl1 hx hb (by omega) dX11_layCosts_5 ?_
  refine lv_iconst (v := nI 1) hx hb dX11_layCosts_6 (by decide) ?_
  refine jn_isub hx hb (by omega) dX11_layCosts_7 ?_
  refine jn_nm (fun full efull => ?_)
  refine lv_istore_n (lv' := [(1, .int (nI full)), (0, .ref (g.2.2.2 0))]) hx hb dX11_layCosts_8 rfl hl (by decide) rfl (fun ls hl => ?_)
  refine lv_iload_n hx hb dX11_layCosts_9 rfl (lv_at hl 0 rfl) ?_
  refine lv_istore_n (lv' := [(2, .int (nI full)), (1, .int (nI full)), (0, .ref (g.2.2.2 0))]) hx hb dX11_layCosts_10 rfl hl (by decide) rfl (fun ls hl => ?_)
  have lp11 : ∀ (fu : Nat), ∀ (rd : Nat) (f : Nat → Nat), (rd ≤ 2 ^ (σ.1 6) - 1) → (TbP (σ.2.1 0) (σ.2.1 5) ((σ.2.1 0) 15) (σ.1 6) rd 0 0 f) → rd < fu → ∀ (H : Heap) (locs : List Loc), va_P (g.1, g.2.1) vwCl (wM g (sA σ 11 f) ++ tl) H → va_D A (wM g (sA σ 11 f) ++ tl) → va_S A s.heap H locs → ∀ ls : Array Slot, lv_has ls 7 [(0, .ref (g.2.2.2 0)), (1, .int (nI full)), (2, .int (nI rd))] → W p l e r_c_X11_layCosts s m ([.ref (g.2.2.2 0)] : List Value).toArray below meth c H locs 0 0 Q (F0 m 11 ls []) := by
    intro fu
    induction fu with
    | zero => intro rd f h1 h2 hf; exact absurd hf (Nat.not_lt_zero _)
    | succ fu ih11 =>
      intro rd f h1 h2 hf H locs hP hD hS ls hl
      refine lv_iload_n hx hb dX11_layCosts_11 rfl (lv_at hl 2 rfl) ?_
      refine jn_zle hx hb (by omega) (tgt := 162) dX11_layCosts_12 (by decide) (fun c_12 => ?_) (fun c_12 => ?_)
      · exact hq _ _ _ _ (f) dX11_layCosts_162 (by rw [show rd = 0 by omega] at h2; exact h2) hP hD hS
      · refine lv_iconst (v := nI 0) hx hb dX11_layCosts_15 (by decide) ?_
        refine lv_istore_n (lv' := [(3, .int (nI 0)), (0, .ref (g.2.2.2 0)), (1, .int (nI full)), (2, .int (nI rd))]) hx hb dX11_layCosts_16 rfl hl (by decide) rfl (fun ls hl => ?_)
        have lp17 : ∀ (fu : Nat), ∀ (la : Nat) (f : Nat → Nat), (la ≤ (σ.1 6)) → (TbP (σ.2.1 0) (σ.2.1 5) ((σ.2.1 0) 15) (σ.1 6) rd la 0 f) → (σ.1 6) - la < fu → ∀ (H : Heap) (locs : List Loc), va_P (g.1, g.2.1) vwCl (wM g (sA σ 11 f) ++ tl) H → va_D A (wM g (sA σ 11 f) ++ tl) → va_S A s.heap H locs → ∀ ls : Array Slot, lv_has ls 7 [(0, .ref (g.2.2.2 0)), (1, .int (nI full)), (2, .int (nI rd)), (3, .int (nI la))] → W p l e r_c_X11_layCosts s m ([.ref (g.2.2.2 0)] : List Value).toArray below meth c H locs 0 0 Q (F0 m 17 ls []) := by
          intro fu
          induction fu with
          | zero => intro la f h3 h4 hf; exact absurd hf (Nat.not_lt_zero _)
          | succ fu ih17 =>
            intro la f h3 h4 hf H locs hP hD hS ls hl
            refine lv_iload_n hx hb dX11_layCosts_17 rfl (lv_at hl 3 rfl) ?_
            refine lv_aload_n hx hb dX11_layCosts_18 rfl (lv_at hl 0 rfl) ?_
            refine va_get (D := (g.1, g.2.1)) (ci := 13) (v := .int (nI (σ.1 6))) (C := RX11) (T := TX11) (N := 30) hx hb hts iX11 hown hK.1 hP 0 (gM0 g (sA σ 11 f) tl) rfl 13 (by decide) k51 (fun _ h9 => h9) rfl dX11_layCosts_19 ?_
            refine jn_cge hx hb (by omega) (by omega) (tgt := 156) dX11_layCosts_22 (by decide) (fun c_22 => ?_) (fun c_22 => ?_)
            · refine lv_iinc (v := nI (rd - 1)) (lv' := [(2, .int (nI (rd - 1))), (0, .ref (g.2.2.2 0)), (1, .int (nI full)), (3, .int (nI la))]) hx hb dX11_layCosts_156 hl (k := 2) rfl (jn_im (by omega)) (by decide) rfl (fun ls hl => ?_)
              refine lv_goto (tgt := 11) hx hb dX11_layCosts_159 (by decide) ?_
              exact ih11 (rd - 1) f (by omega) (tbp_l h4 (by omega) (by omega)) (by omega) _ _ hP hD hS _ (lv_sub hl [1, 2, 0] rfl)
            · refine lv_iconst (v := nI 0) hx hb dX11_layCosts_25 (by decide) ?_
              refine lv_istore (lv' := [(4, .int (nI 0)), (0, .ref (g.2.2.2 0)), (1, .int (nI full)), (2, .int (nI rd)), (3, .int (nI la))]) hx hb dX11_layCosts_26 hl (by decide) rfl (fun ls hl => ?_)
              have lp28 : ∀ (fu : Nat), ∀ (q : Nat) (f : Nat → Nat), (q ≤ 5) → (TbP (σ.2.1 0) (σ.2.1 5) ((σ.2.1 0) 15) (σ.1 6) rd la q f) → 5 - q < fu → ∀ (H : Heap) (locs : List Loc), va_P (g.1, g.2.1) vwCl (wM g (sA σ 11 f) ++ tl) H → va_D A (wM g (sA σ 11 f) ++ tl) → va_S A s.heap H locs → ∀ ls : Array Slot, lv_has ls 7 [(0, .ref (g.2.2.2 0)), (1, .int (nI full)), (2, .int (nI rd)), (3, .int (nI la)), (4, .int (nI q))] → W p l e r_c_X11_layCosts s m ([.ref (g.2.2.2 0)] : List Value).toArray below meth c H locs 0 0 Q (F0 m 28 ls []) := by
                intro fu
                induction fu with
                | zero => intro q f h5 h6 hf; exact absurd hf (Nat.not_lt_zero _)
                | succ fu ih28 =>
                  intro q f h5 h6 hf H locs hP hD hS ls hl
                  refine lv_iload hx hb dX11_layCosts_28 (lv_at hl 4 rfl) ?_
                  refine lv_iconst (v := nI 5) hx hb dX11_layCosts_30 (by decide) ?_
                  refine jn_cge hx hb (by omega) (by decide) (tgt := 150) dX11_layCosts_31 (by decide) (fun c_31 => ?_) (fun c_31 => ?_)
                  · refine lv_iinc (v := nI (la + 1)) (lv' := [(3, .int (nI (la + 1))), (0, .ref (g.2.2.2 0)), (1, .int (nI full)), (2, .int (nI rd)), (4, .int (nI q))]) hx hb dX11_layCosts_150 hl (k := 3) rfl (jn_ii _ 1) (by decide) rfl (fun ls hl => ?_)
                    refine lv_goto (tgt := 17) hx hb dX11_layCosts_153 (by decide) ?_
                    exact ih17 (la + 1) f (by omega) (tbp_q h6 (by omega)) (by omega) _ _ hP hD hS _ (lv_sub hl [1, 2, 3, 0] rfl)
                  · refine lv_iload_n hx hb dX11_layCosts_34 rfl (lv_at hl 2 rfl) ?_
                    refine lv_iload_n hx hb dX11_layCosts_35 rfl (lv_at hl 1 rfl) ?_
                    have jp60 : ∀ v60 : Nat, v60 = (if rd = full ∧ Nat.testBit ((σ.2.1 0) 15) q = true then 0 else 1000000) → W p l e r_c_X11_layCosts s m ([.ref (g.2.2.2 0)] : List Value).toArray below meth c H locs 0 0 Q (F0 m 60 ls [.int (nI v60)]) := by
                      intro v60 ev60
                      refine lv_istore (lv' := [(5, .int (nI v60)), (0, .ref (g.2.2.2 0)), (1, .int (nI full)), (2, .int (nI rd)), (3, .int (nI la)), (4, .int (nI q))]) hx hb dX11_layCosts_60 hl (by decide) rfl (fun ls hl => ?_)
                      refine lv_iconst (v := nI 0) hx hb dX11_layCosts_62 (by decide) ?_
                      refine lv_istore (lv' := [(6, .int (nI 0)), (5, .int (nI v60)), (0, .ref (g.2.2.2 0)), (1, .int (nI full)), (2, .int (nI rd)), (3, .int (nI la)), (4, .int (nI q))]) hx hb dX11_layCosts_63 hl (by decide) rfl (fun ls hl => ?_)
                      have lp65 : ∀ (fu : Nat), ∀ (pp : Nat) (bs : Nat), (pp ≤ (σ.1 6)) → (BsI (σ.2.1 0) (σ.2.1 5) ((σ.2.1 0) 15) (σ.1 6) rd la q pp bs) → (σ.1 6) - pp < fu → ∀ (H : Heap) (locs : List Loc), va_P (g.1, g.2.1) vwCl (wM g (sA σ 11 f) ++ tl) H → va_D A (wM g (sA σ 11 f) ++ tl) → va_S A s.heap H locs → ∀ ls : Array Slot, lv_has ls 7 [(0, .ref (g.2.2.2 0)), (1, .int (nI full)), (2, .int (nI rd)), (3, .int (nI la)), (4, .int (nI q)), (5, .int (nI bs)), (6, .int (nI pp))] → W p l e r_c_X11_layCosts s m ([.ref (g.2.2.2 0)] : List Value).toArray below meth c H locs 0 0 Q (F0 m 65 ls []) := by
                        intro fu
                        induction fu with
                        | zero => intro pp bs h7 h8 hf; exact absurd hf (Nat.not_lt_zero _)
                        | succ fu ih65 =>
                          intro pp bs h7 h8 hf H locs hP hD hS ls hl
                          have hbl := bsi_le h8
                          refine lv_iload hx hb dX11_layCosts_65 (lv_at hl 6 rfl) ?_
                          refine lv_aload_n hx hb dX11_layCosts_67 rfl (lv_at hl 0 rfl) ?_
                          refine va_get (D := (g.1, g.2.1)) (ci := 13) (v := .int (nI (σ.1 6))) (C := RX11) (T := TX11) (N := 30) hx hb hts iX11 hown hK.1 hP 0 (gM0 g (sA σ 11 f) tl) rfl 13 (by decide) k51 (fun _ h9 => h9) rfl dX11_layCosts_68 ?_
                          refine jn_cge hx hb (by omega) (by omega) (tgt := 129) dX11_layCosts_71 (by decide) (fun c_71 => ?_) (fun c_71 => ?_)
                          · refine lv_aload_n hx hb dX11_layCosts_129 rfl (lv_at hl 0 rfl) ?_
                            refine va_get (D := (g.1, g.2.1)) (ci := 13) (v := .ref (g.2.2.2 14)) (C := RX11) (T := TX11) (N := 30) hx hb hts iX11 hown hK.1 hP 0 (gM0 g (sA σ 11 f) tl) rfl 25 (by decide) k89 (fun _ h9 => h9) rfl dX11_layCosts_130 ?_
                            refine lv_aload_n hx hb dX11_layCosts_133 rfl (lv_at hl 0 rfl) ?_
                            refine lv_iload_n hx hb dX11_layCosts_134 rfl (lv_at hl 2 rfl) ?_
                            refine lv_iload_n hx hb dX11_layCosts_135 rfl (lv_at hl 3 rfl) ?_
                            refine lv_iload hx hb dX11_layCosts_136 (lv_at hl 4 rfl) ?_
                            refine vp_callSi (va_Run.run (va_runV (As := [.int (nI rd), .int (nI la), .int (nI q)]) (rest := [.ref (g.2.2.2 14)]) ⟨hx, hb, hml, hown, hts⟩ (c_X11_costAt l g tl (sA σ 11 f) rd la q) (cwV 3 hts gX11_layCosts_X11_costAt rfl rfl rfl (by decide +kernel) ⟨Nat.le_of_ble_eq_true rfl, Nat.le_of_ble_eq_true rfl⟩) (okPV hK hP rfl (gM0 g (sA σ 11 f) tl)) rfl rfl hl.1 rfl (lv_room (Nat.le_of_ble_eq_true rfl)) dX11_layCosts_138 ⟨Nat.le_of_ble_eq_true rfl, Nat.le_of_ble_eq_true rfl⟩)) (fun r_138 h_138 => ?_)
                            have h_138 : r_138 = (nI ((rd * 8 + la) * 5 + q)) := h_138
                            subst h_138
                            refine lv_iload hx hb dX11_layCosts_141 (lv_at hl 5 rfl) ?_
                            refine jn_iast (f := f) hx hb hK.1 hP hD hS 14 0 (gM14 g (sA σ 11 f) tl) rfl (by omega) (Nat.le_of_ble_eq_true rfl) (uM_A11 g (sA σ 11 f) tl _) dX11_layCosts_143 (fun H locs hP hD hS => ?_)
                            refine lv_iinc (v := nI (q + 1)) (lv' := [(4, .int (nI (q + 1))), (0, .ref (g.2.2.2 0)), (1, .int (nI full)), (2, .int (nI rd)), (3, .int (nI la)), (5, .int (nI bs)), (6, .int (nI pp))]) hx hb dX11_layCosts_144 hl (k := 4) rfl (jn_ii _ 1) (by decide) rfl (fun ls hl => ?_)
                            refine lv_goto (tgt := 28) hx hb dX11_layCosts_147 (by decide) ?_
                            exact ih28 (q + 1) (va_up f ((rd * 8 + la) * 5 + q) bs) (by omega) (tbp_put hn (by omega) (by omega) h6 (bsi_end (by omega) (by omega) h8)) (by omega) _ _ hP hD hS _ (lv_sub hl [1, 2, 3, 4, 0] rfl)
                          · refine lv_iload_n hx hb dX11_layCosts_74 rfl (lv_at hl 2 rfl) ?_
                            refine lv_iload hx hb dX11_layCosts_75 (lv_at hl 6 rfl) ?_
                            refine vp_callSi (va_Run.run (va_runS (As := [.int (nI rd), .int (nI pp)]) (rest := []) ⟨hx, hb, hml, hown, hts⟩ (c_X11_has l rd pp (by omega) (by omega)) (va_cwS 2 hts gX11_layCosts_X11_has rfl rfl rfl (by decide +kernel) ⟨Nat.le_of_ble_eq_true rfl, Nat.le_of_ble_eq_true rfl⟩) okTS rfl rfl hl.1 rfl (lv_room (Nat.le_of_ble_eq_true rfl)) dX11_layCosts_77 ⟨Nat.le_of_ble_eq_true rfl, Nat.le_of_ble_eq_true rfl⟩)) (fun r_77 h_77 => ?_)
                            subst h_77
                            refine jn_bne hx hb (tgt := 123) dX11_layCosts_80 (by decide) (fun c_80 => ?_) (fun c_80 => ?_)
                            · refine lv_iinc (v := nI (pp + 1)) (lv' := [(6, .int (nI (pp + 1))), (0, .ref (g.2.2.2 0)), (1, .int (nI full)), (2, .int (nI rd)), (3, .int (nI la)), (4, .int (nI q)), (5, .int (nI bs))]) hx hb dX11_layCosts_123 hl (k := 6) rfl (jn_ii _ 1) (by decide) rfl (fun ls hl => ?_)
                              refine lv_goto (tgt := 65) hx hb dX11_layCosts_126 (by decide) ?_
                              exact ih65 (pp + 1) bs (by omega) (by first | exact bsi_y h8 c_80 | exact bsi_n hn (by omega) (by omega) h8 c_80) (by omega) _ _ hP hD hS _ (lv_sub hl [1, 2, 3, 4, 5, 6, 0] rfl)
                            · refine lv_iload hx hb dX11_layCosts_83 (lv_at hl 5 rfl) ?_
                              refine lv_iload hx hb dX11_layCosts_85 (lv_at hl 6 rfl) ?_
                              refine lv_iload_n hx hb dX11_layCosts_87 rfl (lv_at hl 3 rfl) ?_
                              refine lv_isub hx hb dX11_layCosts_88 ?_
                              refine jn_abs hx hb (hml.trans hl.1.symm) hown (hts (.methodLink RX11 196 Lib.Math.abs.name) (by decide +kernel)) (hts (.static Lib.Math.abs.name) (by decide +kernel)) (hts (.initialized "java/lang/Math") (by decide +kernel)) (hts (.code Lib.Math.abs.name Lib.Math.abs.code 1 (some .int)) (by decide +kernel)) (Nat.le_of_ble_eq_true rfl) (Nat.le_of_ble_eq_true rfl) (Nat.le_of_ble_eq_true rfl) (Nat.le_of_ble_eq_true rfl) (by omega) (by omega) dX11_layCosts_89 ?_
                              refine lv_aload_n hx hb dX11_layCosts_92 rfl (lv_at hl 0 rfl) ?_
                              refine lv_iload_n hx hb dX11_layCosts_93 rfl (lv_at hl 2 rfl) ?_
                              refine lv_iconst (v := nI 1) hx hb dX11_layCosts_94 (by decide) ?_
                              refine lv_iload hx hb dX11_layCosts_95 (lv_at hl 6 rfl) ?_
                              refine jn_shl1 hx hb (by omega) dX11_layCosts_97 ?_
                              refine jn_ior hx hb dX11_layCosts_98 ?_
                              refine lv_iload hx hb dX11_layCosts_99 (lv_at hl 6 rfl) ?_
                              refine lv_aload_n hx hb dX11_layCosts_101 rfl (lv_at hl 0 rfl) ?_
                              refine lv_iload hx hb dX11_layCosts_102 (lv_at hl 4 rfl) ?_
                              refine lv_aload_n hx hb dX11_layCosts_104 rfl (lv_at hl 0 rfl) ?_
                              refine va_get (D := (g.1, g.2.1)) (ci := 13) (v := .ref (g.2.2.2 6)) (C := RX11) (T := TX11) (N := 30) hx hb hts iX11 hown hK.1 hP 0 (gM0 g (sA σ 11 f) tl) rfl 11 (by decide) k45 (fun _ h9 => h9) rfl dX11_layCosts_105 ?_
                              refine lv_iload hx hb dX11_layCosts_108 (lv_at hl 6 rfl) ?_
                              refine jn_iald (f := σ.2.1 5) hx hb hK.1 hP 6 0 (gM6 g (sA σ 11 f) tl) rfl (by omega) (Nat.le_of_ble_eq_true rfl) dX11_layCosts_110 ?_
                              refine vp_callSi (va_Run.run (va_runV (As := [.int (nI q), .int (nI ((σ.2.1 5) pp))]) (rest := [.int (nI pp), .int (nI (rd ||| (2 ^ pp))), .ref (g.2.2.2 0), .int (nI ((pp - la) + (la - pp))), .int (nI bs)]) ⟨hx, hb, hml, hown, hts⟩ (c_X11_next l g tl (sA σ 11 f) q ((σ.2.1 5) pp) (by omega) (hw pp (by omega))) (cwV 2 hts gX11_layCosts_X11_next rfl rfl rfl (by decide +kernel) ⟨Nat.le_of_ble_eq_true rfl, Nat.le_of_ble_eq_true rfl⟩) (okPV hK hP rfl (gM0 g (sA σ 11 f) tl)) rfl rfl hl.1 rfl (lv_room (Nat.le_of_ble_eq_true rfl)) dX11_layCosts_111 ⟨Nat.le_of_ble_eq_true rfl, Nat.le_of_ble_eq_true rfl⟩)) (fun r_111 h_111 => ?_)
                              have h_111 : r_111 = (nI ((σ.2.1 0) (q * 3 + ((σ.2.1 5) pp)))) := h_111
                              subst h_111
                              have hw1 := hw pp (by omega)
                              have hor := or_lt8 (show rd < 2 ^ (σ.1 6) by omega) (show pp < (σ.1 6) by omega)
                              refine vp_callSi (va_Run.run (va_runV (As := [.int (nI (rd ||| (2 ^ pp))), .int (nI pp), .int (nI ((σ.2.1 0) (q * 3 + ((σ.2.1 5) pp))))]) (rest := [.int (nI ((pp - la) + (la - pp))), .int (nI bs)]) ⟨hx, hb, hml, hown, hts⟩ (c_X11_leastOf l g tl (sA σ 11 f) (rd ||| (2 ^ pp)) pp ((σ.2.1 0) (q * 3 + ((σ.2.1 5) pp))) (by omega) (by omega) (hT _ (by omega)) (ls_le h6 (by omega) (by omega) c_80)) (cwV 3 hts gX11_layCosts_X11_leastOf rfl rfl rfl (by decide +kernel) ⟨Nat.le_of_ble_eq_true rfl, Nat.le_of_ble_eq_true rfl⟩) (okPV hK hP rfl (gM0 g (sA σ 11 f) tl)) rfl rfl hl.1 rfl (lv_room (Nat.le_of_ble_eq_true rfl)) dX11_layCosts_114 ⟨Nat.le_of_ble_eq_true rfl, Nat.le_of_ble_eq_true rfl⟩)) (fun r_114 h_114 => ?_)
                              have h_114 : r_114 = (nI (lsR (fun t => (f) (((rd ||| (2 ^ pp)) * 8 + pp) * 5 + t)) ((σ.2.1 0) (q * 3 + ((σ.2.1 5) pp))))) := h_114
                              subst h_114
                              rw [ls_tab h6 (show rd < 2 ^ (σ.1 6) by omega) (show pp < (σ.1 6) by omega) c_80]
                              have hup := upF_le (lst (CF (σ.2.1 0) (σ.2.1 5) ((σ.2.1 0) 15) (σ.1 6) (rd ||| 2 ^ pp) pp) ((σ.2.1 0) (q * 3 + (σ.2.1 5) pp)))
                              refine jn_iadd hx hb dX11_layCosts_117 ?_
                              refine jn_min hx hb (hml.trans hl.1.symm) hown (hts (.methodLink RX11 204 Lib.Math.min.name) (by decide +kernel)) (hts (.static Lib.Math.min.name) (by decide +kernel)) (hts (.initialized "java/lang/Math") (by decide +kernel)) (hts (.code Lib.Math.min.name Lib.Math.min.code 2 (some .int)) (by decide +kernel)) (Nat.le_of_ble_eq_true rfl) (Nat.le_of_ble_eq_true rfl) (Nat.le_of_ble_eq_true rfl) (Nat.le_of_ble_eq_true rfl) (by omega) (by omega) dX11_layCosts_118 ?_
                              refine lv_istore (lv' := [(5, .int (nI (min bs (((pp - la) + (la - pp)) + (upF (lst (CF (σ.2.1 0) (σ.2.1 5) ((σ.2.1 0) 15) (σ.1 6) (rd ||| 2 ^ pp) pp) ((σ.2.1 0) (q * 3 + (σ.2.1 5) pp)))))))), (0, .ref (g.2.2.2 0)), (1, .int (nI full)), (2, .int (nI rd)), (3, .int (nI la)), (4, .int (nI q)), (6, .int (nI pp))]) hx hb dX11_layCosts_121 hl (by decide) rfl (fun ls hl => ?_)
                              refine lv_iinc (v := nI (pp + 1)) (lv' := [(6, .int (nI (pp + 1))), (5, .int (nI (min bs (((pp - la) + (la - pp)) + (upF (lst (CF (σ.2.1 0) (σ.2.1 5) ((σ.2.1 0) 15) (σ.1 6) (rd ||| 2 ^ pp) pp) ((σ.2.1 0) (q * 3 + (σ.2.1 5) pp)))))))), (0, .ref (g.2.2.2 0)), (1, .int (nI full)), (2, .int (nI rd)), (3, .int (nI la)), (4, .int (nI q))]) hx hb dX11_layCosts_123 hl (k := 6) rfl (jn_ii _ 1) (by decide) rfl (fun ls hl => ?_)
                              refine lv_goto (tgt := 65) hx hb dX11_layCosts_126 (by decide) ?_
                              exact ih65 (pp + 1) (min bs (((pp - la) + (la - pp)) + (upF (lst (CF (σ.2.1 0) (σ.2.1 5) ((σ.2.1 0) 15) (σ.1 6) (rd ||| 2 ^ pp) pp) ((σ.2.1 0) (q * 3 + (σ.2.1 5) pp)))))) (by omega) (by first | exact bsi_y h8 c_80 | exact bsi_n hn (by omega) (by omega) h8 c_80) (by omega) _ _ hP hD hS _ (lv_sub hl [2, 3, 4, 5, 6, 1, 0] rfl)
                      exact lp65 _ 0 v60 (by omega) (bsi_0 (by rw [ev60, efull])) (Nat.lt_succ_self _) _ _ hP hD hS _ (lv_sub hl [2, 3, 4, 5, 6, 1, 0] rfl)
                    refine jn_cne hx hb (by omega) (by omega) (tgt := 58) dX11_layCosts_36 (by decide) (fun c_36 => ?_) (fun c_36 => ?_)
                    · refine lv_ldc (v := 1000000) hx hb hown (hts (.constant RX11 195 1000000) (by decide +kernel)) dX11_layCosts_58 ?_
                      rw [show ((1000000 : Int32)) = nI 1000000 from rfl]
                      exact jp60 1000000 (by rw [if_neg (fun z => c_36 z.1)])
                    · refine lv_aload_n hx hb dX11_layCosts_39 rfl (lv_at hl 0 rfl) ?_
                      refine va_get (D := (g.1, g.2.1)) (ci := 13) (v := .ref (g.2.2.2 1)) (C := RX11) (T := TX11) (N := 30) hx hb hts iX11 hown hK.1 hP 0 (gM0 g (sA σ 11 f) tl) rfl 1 (by decide) k13 (fun _ h9 => h9) rfl dX11_layCosts_40 ?_
                      refine lv_bipush (v := nI 15) hx hb dX11_layCosts_43 (by decide) ?_
                      refine jn_iald (f := σ.2.1 0) hx hb hK.1 hP 1 0 (gM1 g (sA σ 11 f) tl) rfl (by decide) (Nat.le_of_ble_eq_true rfl) dX11_layCosts_45 ?_
                      refine lv_iload hx hb dX11_layCosts_46 (lv_at hl 4 rfl) ?_
                      refine vp_callSi (va_Run.run (va_runS (As := [.int (nI ((σ.2.1 0) 15)), .int (nI q)]) (rest := []) ⟨hx, hb, hml, hown, hts⟩ (c_X11_has l ((σ.2.1 0) 15) q (by omega) (by omega)) (va_cwS 2 hts gX11_layCosts_X11_has rfl rfl rfl (by decide +kernel) ⟨Nat.le_of_ble_eq_true rfl, Nat.le_of_ble_eq_true rfl⟩) okTS rfl rfl hl.1 rfl (lv_room (Nat.le_of_ble_eq_true rfl)) dX11_layCosts_48 ⟨Nat.le_of_ble_eq_true rfl, Nat.le_of_ble_eq_true rfl⟩)) (fun r_48 h_48 => ?_)
                      subst h_48
                      refine jn_beq hx hb (tgt := 58) dX11_layCosts_51 (by decide) (fun c_51 => ?_) (fun c_51 => ?_)
                      · refine lv_ldc (v := 1000000) hx hb hown (hts (.constant RX11 195 1000000) (by decide +kernel)) dX11_layCosts_58 ?_
                        rw [show ((1000000 : Int32)) = nI 1000000 from rfl]
                        exact jp60 1000000 (by first | exact (if_pos ⟨c_36, c_51⟩).symm | exact (if_neg (fun z => c_51 z.2)).symm)
                      · refine lv_iconst (v := nI 0) hx hb dX11_layCosts_54 (by decide) ?_
                        refine lv_goto (tgt := 60) hx hb dX11_layCosts_55 (by decide) ?_
                        exact jp60 0 (by first | exact (if_pos ⟨c_36, c_51⟩).symm | exact (if_neg (fun z => c_51 z.2)).symm)
              exact lp28 _ 0 f (by decide) h4 (Nat.lt_succ_self _) _ _ hP hD hS _ (lv_sub hl [1, 2, 3, 4, 0] rfl)
        exact lp17 _ 0 f (by omega) h2 (Nat.lt_succ_self _) _ _ hP hD hS _ (lv_sub hl [1, 2, 3, 0] rfl)
  exact lp11 _ full (σ.2.1 11) (by omega) (by rw [efull]; exact tbp_0) (Nat.lt_succ_self _) _ _ hP hD hS _ (lv_sub hl [2, 1, 0] rfl)

abbrev r_c_X11_leastCost : Room := { frames := 3, cells := 0, slots := 0, locals := 75 }
set_option maxHeartbeats 4000000 in
set_option maxRecDepth 100000 in
theorem c_X11_leastCost (l : Launch) (g : GC) (tl : va_W) (sz : Nat) (σ : SS) (hT : OkT (σ.2.1 0)) (hF : ((σ.2.1 0) 15) < 32) (hn : (σ.1 6) ≤ 8) (hw : ∀ i, i < (σ.1 6) → (σ.2.1 5) i < 3) : Met l yX11_leastCost wsX11_leastCost r_c_X11_leastCost (va_Pc [.ref (g.2.2.2 0)] (PW g (wM g σ ++ tl) sz)) (va_Qi (fun (r : Int32) (f11 : (Nat → Nat)) => (r = nI (upF (ocost (σ.2.1 0) (σ.2.1 5) ((σ.2.1 0) 15) (σ.1 6)))) ∧ (0 < (σ.1 6) → TbP (σ.2.1 0) (σ.2.1 5) ((σ.2.1 0) 15) (σ.1 6) 0 0 0 f11)) (fun (f11 : (Nat → Nat)) t => BW g (va_A (wM g σ ++ tl) sz) (wM g (sA σ 11 f11) ++ tl) t) (va_A (wM g σ ++ tl) sz)) 0 0 (va_A (wM g σ ++ tl) sz) := by
  refine jn_si (wf := fun f11 : (Nat → Nat) => wM g (sA σ 11 f11) ++ tl) (cc := cX11_leastCost) (maxL := 3) (own := RX11) (by decide) rfl rfl (Nat.le_of_ble_eq_true rfl) ?_
  intro p e s m below meth c Q A hx hb hml hown hts hK hP hD hS hAA hq ls hl
  obtain ⟨H, eH⟩ : ∃ z, z = s.heap := ⟨_, rfl⟩
  obtain ⟨locs, el⟩ : ∃ z : List Loc, z = [] := ⟨_, rfl⟩
  rw [← eH] at hP
  have hS : va_S A s.heap H locs := by rw [eH, el]; exact hS
  have goal0 : W p l e r_c_X11_leastCost s m ([.ref (g.2.2.2 0)] : List Value).toArray below meth c H locs 0 0 Q (F0 m 0 ls []) → W p l e r_c_X11_leastCost s m ([.ref (g.2.2.2 0)] : List Value).toArray below meth c s.heap [] 0 0 Q (F0 m 0 ls []) := fun h => by rw [eH, el] at h; exact h
  refine goal0 ?_
  have hl : lv_has ls 3 [(0, .ref (g.2.2.2 0))] := hl
  have iX11 : ∀ w ∈ wsX110, w ∈ wsX11_leastCost := by decide +kernel
  have k51 := hts (.fieldLink RX11 51 "JumpingAutomataModel" "length" "I") (by decide +kernel)
  have k45 := hts (.fieldLink RX11 45 "JumpingAutomataModel" "word" "[I") (by decide +kernel)
  have k13 := hts (.fieldLink RX11 13 "JumpingAutomataModel" "now" "[I") (by decide +kernel)
  have p8 := pow8 (σ.1 6) hn
  refine lv_aload_n hx hb dX11_leastCost_0 rfl (lv_at hl 0 rfl) ?_
  refine va_get (D := (g.1, g.2.1)) (ci := 13) (v := .int (nI (σ.1 6))) (C := RX11) (T := TX11) (N := 30) hx hb hts iX11 hown hK.1 hP 0 (gM0 g σ tl) rfl 13 (by decide) k51 (fun _ h9 => h9) rfl dX11_leastCost_1 ?_
  refine jn_zne hx hb (by omega) (tgt := 28) dX11_leastCost_4 (by decide) (fun c_4 => ?_) (fun c_4 => ?_)
  · refine lv_aload_n hx hb dX11_leastCost_28 rfl (lv_at hl 0 rfl) ?_
    refine jn_callv (va_runV (As := []) (rest := []) ⟨hx, hb, hml, hown, hts⟩ (c_X11_layCosts l g tl H.size σ hT hF hn hw (by omega)) (cwV 0 hts gX11_leastCost_X11_layCosts rfl rfl rfl (by decide +kernel) ⟨Nat.le_of_ble_eq_true rfl, Nat.le_of_ble_eq_true rfl⟩) (okWV hK hP hD rfl (gM0 g σ tl)) rfl rfl hl.1 rfl (lv_room (Nat.le_of_ble_eq_true rfl)) dX11_leastCost_29 ⟨Nat.le_of_ble_eq_true rfl, Nat.le_of_ble_eq_true rfl⟩) hD hS hAA (fun u H locs hw_ hP hD hS => ?_)
    obtain ⟨f11_29, rfl⟩ : ∃ z, z = u := ⟨_, rfl⟩
    have h_29 := hw_
    have h_29 : TbP (σ.2.1 0) (σ.2.1 5) ((σ.2.1 0) 15) (σ.1 6) 0 0 0 f11_29 := h_29
    have hP : va_P (g.1, g.2.1) vwCl (wM g (sA σ 11 f11_29) ++ tl) H := hP
    have hD : va_D A (wM g (sA σ 11 f11_29) ++ tl) := hD
    refine lv_ldc (v := 1000000) hx hb hown (hts (.constant RX11 195 1000000) (by decide +kernel)) dX11_leastCost_32 ?_
    rw [show ((1000000 : Int32)) = nI 1000000 from rfl]
    refine lv_istore_n (lv' := [(1, .int (nI 1000000)), (0, .ref (g.2.2.2 0))]) hx hb dX11_leastCost_34 rfl hl (by decide) rfl (fun ls hl => ?_)
    refine lv_iconst (v := nI 0) hx hb dX11_leastCost_35 (by decide) ?_
    refine lv_istore_n (lv' := [(2, .int (nI 0)), (1, .int (nI 1000000)), (0, .ref (g.2.2.2 0))]) hx hb dX11_leastCost_36 rfl hl (by decide) rfl (fun ls hl => ?_)
    have lp37 : ∀ (fu : Nat), ∀ (pp : Nat) (z : Nat), (pp ≤ (σ.1 6)) → (z = oc1 (σ.2.1 0) (σ.2.1 5) ((σ.2.1 0) 15) (σ.1 6) pp) → (σ.1 6) - pp < fu → ∀ (H : Heap) (locs : List Loc), va_P (g.1, g.2.1) vwCl (wM g (sA σ 11 f11_29) ++ tl) H → va_D A (wM g (sA σ 11 f11_29) ++ tl) → va_S A s.heap H locs → ∀ ls : Array Slot, lv_has ls 3 [(0, .ref (g.2.2.2 0)), (1, .int (nI z)), (2, .int (nI pp))] → W p l e r_c_X11_leastCost s m ([.ref (g.2.2.2 0)] : List Value).toArray below meth c H locs 0 0 Q (F0 m 37 ls []) := by
      intro fu
      induction fu with
      | zero => intro pp z h1 h2 hf; exact absurd hf (Nat.not_lt_zero _)
      | succ fu ih37 =>
        intro pp z h1 h2 hf H locs hP hD hS ls hl
        have hzl : z ≤ 1000000 := by rw [h2]; exact upF_le _
        refine lv_iload_n hx hb dX11_leastCost_37 rfl (lv_at hl 2 rfl) ?_
        refine lv_aload_n hx hb dX11_leastCost_38 rfl (lv_at hl 0 rfl) ?_
        refine va_get (D := (g.1, g.2.1)) (ci := 13) (v := .int (nI (σ.1 6))) (C := RX11) (T := TX11) (N := 30) hx hb hts iX11 hown hK.1 hP 0 (gM0 g (sA σ 11 f11_29) tl) rfl 13 (by decide) k51 (fun _ h9 => h9) rfl dX11_leastCost_39 ?_
        refine jn_cge hx hb (by omega) (by omega) (tgt := 77) dX11_leastCost_42 (by decide) (fun c_42 => ?_) (fun c_42 => ?_)
        · refine lv_iload_n hx hb dX11_leastCost_77 rfl (lv_at hl 1 rfl) ?_
          exact hq _ _ _ _ ((nI z)) f11_29 dX11_leastCost_78 ⟨by rw [h2, show pp = (σ.1 6) by omega, oc_n (by omega)], fun _ => h_29⟩ hP hD hS
        · refine lv_iload_n hx hb dX11_leastCost_45 rfl (lv_at hl 1 rfl) ?_
          refine lv_iload_n hx hb dX11_leastCost_46 rfl (lv_at hl 2 rfl) ?_
          refine lv_aload_n hx hb dX11_leastCost_47 rfl (lv_at hl 0 rfl) ?_
          refine lv_iconst (v := nI 1) hx hb dX11_leastCost_48 (by decide) ?_
          refine lv_iload_n hx hb dX11_leastCost_49 rfl (lv_at hl 2 rfl) ?_
          refine jn_shl1 hx hb (by omega) dX11_leastCost_50 ?_
          refine lv_iload_n hx hb dX11_leastCost_51 rfl (lv_at hl 2 rfl) ?_
          refine lv_aload_n hx hb dX11_leastCost_52 rfl (lv_at hl 0 rfl) ?_
          refine lv_iconst (v := nI 0) hx hb dX11_leastCost_53 (by decide) ?_
          refine lv_aload_n hx hb dX11_leastCost_54 rfl (lv_at hl 0 rfl) ?_
          refine va_get (D := (g.1, g.2.1)) (ci := 13) (v := .ref (g.2.2.2 6)) (C := RX11) (T := TX11) (N := 30) hx hb hts iX11 hown hK.1 hP 0 (gM0 g (sA σ 11 f11_29) tl) rfl 11 (by decide) k45 (fun _ h9 => h9) rfl dX11_leastCost_55 ?_
          refine lv_iload_n hx hb dX11_leastCost_58 rfl (lv_at hl 2 rfl) ?_
          refine jn_iald (f := σ.2.1 5) hx hb hK.1 hP 6 0 (gM6 g (sA σ 11 f11_29) tl) rfl (by omega) (Nat.le_of_ble_eq_true rfl) dX11_leastCost_59 ?_
          refine vp_callSi (va_Run.run (va_runV (As := [.int (nI 0), .int (nI ((σ.2.1 5) pp))]) (rest := [.int (nI pp), .int (nI (2 ^ pp)), .ref (g.2.2.2 0), .int (nI pp), .int (nI z)]) ⟨hx, hb, hml, hown, hts⟩ (c_X11_next l g tl (sA σ 11 f11_29) 0 ((σ.2.1 5) pp) (by decide) (hw pp (by omega))) (cwV 2 hts gX11_leastCost_X11_next rfl rfl rfl (by decide +kernel) ⟨Nat.le_of_ble_eq_true rfl, Nat.le_of_ble_eq_true rfl⟩) (okPV hK hP rfl (gM0 g (sA σ 11 f11_29) tl)) rfl rfl hl.1 rfl (lv_room (Nat.le_of_ble_eq_true rfl)) dX11_leastCost_60 ⟨Nat.le_of_ble_eq_true rfl, Nat.le_of_ble_eq_true rfl⟩)) (fun r_60 h_60 => ?_)
          have h_60 : r_60 = (nI ((σ.2.1 0) (0 * 3 + ((σ.2.1 5) pp)))) := h_60
          subst h_60
          have hw1 := hw pp (by omega)
          have hor := or_lt8 (rd := 0) (p := pp) (n := (σ.1 6)) (by omega) (show pp < (σ.1 6) by omega)
          rw [Nat.zero_or] at hor
          have hlt := ls_tab (m := (σ.2.1 0) (0 * 3 + (σ.2.1 5) pp)) h_29 (by omega) (show pp < (σ.1 6) by omega) (show ¬ Nat.testBit 0 pp = true by simp)
          have hle := ls_le (m := (σ.2.1 0) (0 * 3 + (σ.2.1 5) pp)) h_29 (by omega) (show pp < (σ.1 6) by omega) (show ¬ Nat.testBit 0 pp = true by simp)
          rw [Nat.zero_or] at hlt hle
          refine vp_callSi (va_Run.run (va_runV (As := [.int (nI (2 ^ pp)), .int (nI pp), .int (nI ((σ.2.1 0) (0 * 3 + ((σ.2.1 5) pp))))]) (rest := [.int (nI pp), .int (nI z)]) ⟨hx, hb, hml, hown, hts⟩ (c_X11_leastOf l g tl (sA σ 11 f11_29) (2 ^ pp) pp ((σ.2.1 0) (0 * 3 + ((σ.2.1 5) pp))) (by omega) (by omega) (hT _ (by omega)) hle) (cwV 3 hts gX11_leastCost_X11_leastOf rfl rfl rfl (by decide +kernel) ⟨Nat.le_of_ble_eq_true rfl, Nat.le_of_ble_eq_true rfl⟩) (okPV hK hP rfl (gM0 g (sA σ 11 f11_29) tl)) rfl rfl hl.1 rfl (lv_room (Nat.le_of_ble_eq_true rfl)) dX11_leastCost_63 ⟨Nat.le_of_ble_eq_true rfl, Nat.le_of_ble_eq_true rfl⟩)) (fun r_63 h_63 => ?_)
          have h_63 : r_63 = (nI (lsR (fun t => (f11_29) (((2 ^ pp) * 8 + pp) * 5 + t)) ((σ.2.1 0) (0 * 3 + ((σ.2.1 5) pp))))) := h_63
          subst h_63
          rw [hlt]
          have hup := upF_le (lst (CF (σ.2.1 0) (σ.2.1 5) ((σ.2.1 0) 15) (σ.1 6) (2 ^ pp) pp) ((σ.2.1 0) (0 * 3 + (σ.2.1 5) pp)))
          refine jn_iadd hx hb dX11_leastCost_66 ?_
          refine jn_min hx hb (hml.trans hl.1.symm) hown (hts (.methodLink RX11 204 Lib.Math.min.name) (by decide +kernel)) (hts (.static Lib.Math.min.name) (by decide +kernel)) (hts (.initialized "java/lang/Math") (by decide +kernel)) (hts (.code Lib.Math.min.name Lib.Math.min.code 2 (some .int)) (by decide +kernel)) (Nat.le_of_ble_eq_true rfl) (Nat.le_of_ble_eq_true rfl) (Nat.le_of_ble_eq_true rfl) (Nat.le_of_ble_eq_true rfl) (by omega) (by omega) dX11_leastCost_67 ?_
          refine lv_istore_n (lv' := [(1, .int (nI (min z (pp + (upF (lst (CF (σ.2.1 0) (σ.2.1 5) ((σ.2.1 0) 15) (σ.1 6) (2 ^ pp) pp) ((σ.2.1 0) (0 * 3 + (σ.2.1 5) pp)))))))), (0, .ref (g.2.2.2 0)), (2, .int (nI pp))]) hx hb dX11_leastCost_70 rfl hl (by decide) rfl (fun ls hl => ?_)
          refine lv_iinc (v := nI (pp + 1)) (lv' := [(2, .int (nI (pp + 1))), (1, .int (nI (min z (pp + (upF (lst (CF (σ.2.1 0) (σ.2.1 5) ((σ.2.1 0) 15) (σ.1 6) (2 ^ pp) pp) ((σ.2.1 0) (0 * 3 + (σ.2.1 5) pp)))))))), (0, .ref (g.2.2.2 0))]) hx hb dX11_leastCost_71 hl (k := 2) rfl (jn_ii _ 1) (by decide) rfl (fun ls hl => ?_)
          refine lv_goto (tgt := 37) hx hb dX11_leastCost_74 (by decide) ?_
          exact ih37 (pp + 1) (min z (pp + (upF (lst (CF (σ.2.1 0) (σ.2.1 5) ((σ.2.1 0) 15) (σ.1 6) (2 ^ pp) pp) ((σ.2.1 0) (0 * 3 + (σ.2.1 5) pp)))))) (by omega) (by rw [h2]; exact oc_s hn (by omega)) (by omega) _ _ hP hD hS _ (lv_sub hl [2, 1, 0] rfl)
    exact lp37 _ 0 1000000 (by omega) rfl (Nat.lt_succ_self _) _ _ hP hD hS _ (lv_sub hl [2, 1, 0] rfl)
  · refine lv_aload_n hx hb dX11_leastCost_7 rfl (lv_at hl 0 rfl) ?_
    refine va_get (D := (g.1, g.2.1)) (ci := 13) (v := .ref (g.2.2.2 1)) (C := RX11) (T := TX11) (N := 30) hx hb hts iX11 hown hK.1 hP 0 (gM0 g σ tl) rfl 1 (by decide) k13 (fun _ h9 => h9) rfl dX11_leastCost_8 ?_
    refine lv_bipush (v := nI 15) hx hb dX11_leastCost_11 (by decide) ?_
    refine jn_iald (f := σ.2.1 0) hx hb hK.1 hP 1 0 (gM1 g σ tl) rfl (by decide) (Nat.le_of_ble_eq_true rfl) dX11_leastCost_13 ?_
    refine lv_iconst (v := nI 0) hx hb dX11_leastCost_14 (by decide) ?_
    refine vp_callSi (va_Run.run (va_runS (As := [.int (nI ((σ.2.1 0) 15)), .int (nI 0)]) (rest := []) ⟨hx, hb, hml, hown, hts⟩ (c_X11_has l ((σ.2.1 0) 15) 0 (by omega) (by omega)) (va_cwS 2 hts gX11_leastCost_X11_has rfl rfl rfl (by decide +kernel) ⟨Nat.le_of_ble_eq_true rfl, Nat.le_of_ble_eq_true rfl⟩) okTS rfl rfl hl.1 rfl (lv_room (Nat.le_of_ble_eq_true rfl)) dX11_leastCost_15 ⟨Nat.le_of_ble_eq_true rfl, Nat.le_of_ble_eq_true rfl⟩)) (fun r_15 h_15 => ?_)
    subst h_15
    have jp27 : ∀ v27 : Nat, v27 = (if Nat.testBit ((σ.2.1 0) 15) 0 = true then 0 else 1000000) → W p l e r_c_X11_leastCost s m ([.ref (g.2.2.2 0)] : List Value).toArray below meth c H locs 0 0 Q (F0 m 27 ls [.int (nI v27)]) := by
      intro v27 ev27
      exact hq _ _ _ _ ((nI v27)) (σ.2.1 11) dX11_leastCost_27 ⟨by rw [c_4, oc_0, ev27], fun q => absurd q (by omega)⟩ hP hD hS
    refine jn_beq hx hb (tgt := 25) dX11_leastCost_18 (by decide) (fun c_18 => ?_) (fun c_18 => ?_)
    · refine lv_ldc (v := 1000000) hx hb hown (hts (.constant RX11 195 1000000) (by decide +kernel)) dX11_leastCost_25 ?_
      rw [show ((1000000 : Int32)) = nI 1000000 from rfl]
      exact jp27 1000000 (by rw [if_neg c_18])
    · refine lv_iconst (v := nI 0) hx hb dX11_leastCost_21 (by decide) ?_
      refine lv_goto (tgt := 27) hx hb dX11_leastCost_22 (by decide) ?_
      exact jp27 0 (by rw [if_pos c_18])

abbrev r_c_X11_orderCost : Room := { frames := 4, cells := 0, slots := 0, locals := 97 }
set_option maxHeartbeats 4000000 in
set_option maxRecDepth 100000 in
theorem c_X11_orderCost (l : Launch) (g : GC) (tl : va_W) (sz : Nat) (σ : SS) (hT : OkT (σ.2.1 0)) (hF : ((σ.2.1 0) 15) < 32) (hn : (σ.1 6) ≤ 8) (hw : ∀ i, i < (σ.1 6) → (σ.2.1 5) i < 3) : Met l yX11_orderCost wsX11_orderCost r_c_X11_orderCost (va_Pc [.ref (g.2.2.2 0)] (PW g (wM g σ ++ tl) sz)) (va_Qi (fun (r : Int32) (z : Nat × Nat × (Nat → Nat)) => match z with | (r0, th, f11) => (r = nI (r0)) ∧ ((¬ ocost (σ.2.1 0) (σ.2.1 5) ((σ.2.1 0) 15) (σ.1 6) < 63 ∧ th = 1) ∨ (ocost (σ.2.1 0) (σ.2.1 5) ((σ.2.1 0) 15) (σ.1 6) < 63 ∧ th = 0 ∧ r0 = ocost (σ.2.1 0) (σ.2.1 5) ((σ.2.1 0) 15) (σ.1 6)))) (fun (z : Nat × Nat × (Nat → Nat)) t => BW g (va_A (wM g σ ++ tl) sz) ((fun z : Nat × Nat × (Nat → Nat) => match z with | (r0, th, f11) => wM g (sA (sF σ 0 th) 11 f11) ++ tl) z) t) (va_A (wM g σ ++ tl) sz)) 0 0 (va_A (wM g σ ++ tl) sz) := by
  refine jn_si (wf := fun z : Nat × Nat × (Nat → Nat) => match z with | (r0, th, f11) => wM g (sA (sF σ 0 th) 11 f11) ++ tl) (cc := cX11_orderCost) (maxL := 2) (own := RX11) (by decide) rfl rfl (Nat.le_of_ble_eq_true rfl) ?_
  intro p e s m below meth c Q A hx hb hml hown hts hK hP hD hS hAA hq ls hl
  obtain ⟨H, eH⟩ : ∃ z, z = s.heap := ⟨_, rfl⟩
  obtain ⟨locs, el⟩ : ∃ z : List Loc, z = [] := ⟨_, rfl⟩
  rw [← eH] at hP
  have hS : va_S A s.heap H locs := by rw [eH, el]; exact hS
  have goal0 : W p l e r_c_X11_orderCost s m ([.ref (g.2.2.2 0)] : List Value).toArray below meth c H locs 0 0 Q (F0 m 0 ls []) → W p l e r_c_X11_orderCost s m ([.ref (g.2.2.2 0)] : List Value).toArray below meth c s.heap [] 0 0 Q (F0 m 0 ls []) := fun h => by rw [eH, el] at h; exact h
  refine goal0 ?_
  have hl : lv_has ls 2 [(0, .ref (g.2.2.2 0))] := hl
  have iX11 : ∀ w ∈ wsX110, w ∈ wsX11_orderCost := by decide +kernel
  have k1 := hts (.fieldLink RX11 1 "JumpingAutomataModel" "thrown" "I") (by decide +kernel)
  refine lv_aload_n hx hb dX11_orderCost_0 rfl (lv_at hl 0 rfl) ?_
  refine lv_iconst (v := nI 0) hx hb dX11_orderCost_1 (by decide) ?_
  refine jn_put (D := (g.1, g.2.1)) (ci := 13) (v := .int (nI 0)) (ty := .int) (C := RX11) (T := TX11) (N := 30) hx hb hts iX11 tyX11 tyX11_ok nmX11 hown hK.1 hP hD hS 0 (gM0 g σ tl) rfl 0 (by decide) k1 (fun _ h9 => h9) rfl (by decide +kernel) rfl rfl (Nat.le_of_ble_eq_true rfl) (uM_F0 g σ tl 0) dX11_orderCost_2 (fun H locs hP hD hS => ?_)
  refine lv_aload_n hx hb dX11_orderCost_5 rfl (lv_at hl 0 rfl) ?_
  refine jn_calli (va_runV (As := []) (rest := []) ⟨hx, hb, hml, hown, hts⟩ (c_X11_leastCost l g tl H.size (sF σ 0 0) hT hF hn hw) (cwV 0 hts gX11_orderCost_X11_leastCost rfl rfl rfl (by decide +kernel) ⟨Nat.le_of_ble_eq_true rfl, Nat.le_of_ble_eq_true rfl⟩) (okWV hK hP hD rfl (gM0 g (sF σ 0 0) tl)) rfl rfl hl.1 rfl (lv_room (Nat.le_of_ble_eq_true rfl)) dX11_orderCost_6 ⟨Nat.le_of_ble_eq_true rfl, Nat.le_of_ble_eq_true rfl⟩) hD hS hAA (fun r_6 u H locs hw_ hP hD hS => ?_)
  obtain ⟨f11_6, rfl⟩ : ∃ z, z = u := ⟨_, rfl⟩
  obtain ⟨rfl, h_6⟩ := hw_
  have h_6 : 0 < (σ.1 6) → TbP (σ.2.1 0) (σ.2.1 5) ((σ.2.1 0) 15) (σ.1 6) 0 0 0 f11_6 := h_6
  have hP : va_P (g.1, g.2.1) vwCl (wM g (sA (sF σ 0 0) 11 f11_6) ++ tl) H := hP
  have hD : va_D A (wM g (sA (sF σ 0 0) 11 f11_6) ++ tl) := hD
  have hul := upF_le (ocost (σ.2.1 0) (σ.2.1 5) ((σ.2.1 0) 15) (σ.1 6))
  have hui := upF_lt (ocost (σ.2.1 0) (σ.2.1 5) ((σ.2.1 0) 15) (σ.1 6))
  refine lv_istore_n (lv' := [(1, .int (nI (upF (ocost (σ.2.1 0) (σ.2.1 5) ((σ.2.1 0) 15) (σ.1 6))))), (0, .ref (g.2.2.2 0))]) hx hb dX11_orderCost_9 rfl hl (by decide) rfl (fun ls hl => ?_)
  refine lv_iload_n hx hb dX11_orderCost_10 rfl (lv_at hl 0 rfl) ?_
  refine lv_ldc (v := 1000000) hx hb hown (hts (.constant RX11 195 1000000) (by decide +kernel)) dX11_orderCost_11 ?_
  rw [show ((1000000 : Int32)) = nI 1000000 from rfl]
  refine jn_clt hx hb (by omega) (by decide) (tgt := 24) dX11_orderCost_13 (by decide) (fun c_13 => ?_) (fun c_13 => ?_)
  · refine lv_iload_n hx hb dX11_orderCost_24 rfl (lv_at hl 0 rfl) ?_
    exact hq _ _ _ _ ((nI (upF (ocost (σ.2.1 0) (σ.2.1 5) ((σ.2.1 0) 15) (σ.1 6))))) (_, 0, f11_6) dX11_orderCost_25 (by first | exact ⟨rfl, (Or.inl ⟨by omega, rfl⟩)⟩ | exact ⟨rfl, (Or.inr ⟨by omega, rfl, by unfold upF; rw [if_pos (by omega)]⟩)⟩) hP hD hS
  · refine lv_aload_n hx hb dX11_orderCost_16 rfl (lv_at hl 1 rfl) ?_
    refine lv_iconst (v := nI 1) hx hb dX11_orderCost_17 (by decide) ?_
    refine jn_calli (va_runV (As := [.int (nI 1)]) (rest := []) ⟨hx, hb, hml, hown, hts⟩ (c_X11_fails l g tl H.size (sA (sF σ 0 0) 11 f11_6) 1) (cwV 1 hts gX11_orderCost_X11_fails rfl rfl rfl (by decide +kernel) ⟨Nat.le_of_ble_eq_true rfl, Nat.le_of_ble_eq_true rfl⟩) (okWV hK hP hD rfl (gM0 g (sA (sF σ 0 0) 11 f11_6) tl)) rfl rfl hl.1 rfl (lv_room (Nat.le_of_ble_eq_true rfl)) dX11_orderCost_18 ⟨Nat.le_of_ble_eq_true rfl, Nat.le_of_ble_eq_true rfl⟩) hD hS hAA (fun r_18 u H locs hw_ hP hD hS => ?_)
    obtain rfl := hw_
    have hP : va_P (g.1, g.2.1) vwCl (wM g (sF (sA (sF σ 0 0) 11 f11_6) 0 1) ++ tl) H := hP
    have hD : va_D A (wM g (sF (sA (sF σ 0 0) 11 f11_6) 0 1) ++ tl) := hD
    refine lv_goto (tgt := 25) hx hb dX11_orderCost_21 (by decide) ?_
    exact hq _ _ _ _ ((nI 0)) (_, 1, f11_6) dX11_orderCost_25 (by first | exact ⟨rfl, (Or.inl ⟨by omega, rfl⟩)⟩ | exact ⟨rfl, (Or.inr ⟨by omega, rfl, by unfold upF; rw [if_pos (by omega)]⟩)⟩) hP hD hS

abbrev r_c_X11_orderPosition : Room := { frames := 4, cells := 0, slots := 0, locals := 97 }
set_option maxHeartbeats 4000000 in
set_option maxRecDepth 100000 in
theorem c_X11_orderPosition (l : Launch) (g : GC) (tl : va_W) (sz : Nat) (σ : SS) (idx : Nat) (hT : OkT (σ.2.1 0)) (hF : ((σ.2.1 0) 15) < 32) (hn : (σ.1 6) ≤ 8) (hw : ∀ i, i < (σ.1 6) → (σ.2.1 5) i < 3) (hidx : idx < 4294967296) : Met l yX11_orderPosition wsX11_orderPosition r_c_X11_orderPosition (va_Pc [.ref (g.2.2.2 0), .int (nI idx)] (PW g (wM g σ ++ tl) sz)) (va_Qi (fun (r : Int32) (z : Nat × Nat × (Nat → Nat) × (Nat → Nat)) => match z with | (r0, th, f11, f12) => (r = nI (r0)) ∧ ((¬ idx < (σ.1 6) ∧ th = 1) ∨ (idx < (σ.1 6) ∧ ¬ ocost (σ.2.1 0) (σ.2.1 5) ((σ.2.1 0) 15) (σ.1 6) < 63 ∧ th = 2) ∨ (idx < (σ.1 6) ∧ ocost (σ.2.1 0) (σ.2.1 5) ((σ.2.1 0) 15) (σ.1 6) < 63 ∧ th = 0 ∧ ∀ od, isOrd (σ.2.1 0) (σ.2.1 5) ((σ.2.1 0) 15) (σ.1 6) (σ.1 6) 0 0 1 (ocost (σ.2.1 0) (σ.2.1 5) ((σ.2.1 0) 15) (σ.1 6)) od → r0 = od idx))) (fun (z : Nat × Nat × (Nat → Nat) × (Nat → Nat)) t => BW g (va_A (wM g σ ++ tl) sz) ((fun z : Nat × Nat × (Nat → Nat) × (Nat → Nat) => match z with | (r0, th, f11, f12) => wM g (sA (sA (sF σ 0 th) 11 f11) 12 f12) ++ tl) z) t) (va_A (wM g σ ++ tl) sz)) 0 0 (va_A (wM g σ ++ tl) sz) := by
  refine jn_si (wf := fun z : Nat × Nat × (Nat → Nat) × (Nat → Nat) => match z with | (r0, th, f11, f12) => wM g (sA (sA (sF σ 0 th) 11 f11) 12 f12) ++ tl) (cc := cX11_orderPosition) (maxL := 8) (own := RX11) (by decide) rfl rfl (Nat.le_of_ble_eq_true rfl) ?_
  intro p e s m below meth c Q A hx hb hml hown hts hK hP hD hS hAA hq ls hl
  obtain ⟨H, eH⟩ : ∃ z, z = s.heap := ⟨_, rfl⟩
  obtain ⟨locs, el⟩ : ∃ z : List Loc, z = [] := ⟨_, rfl⟩
  rw [← eH] at hP
  have hS : va_S A s.heap H locs := by rw [eH, el]; exact hS
  have goal0 : W p l e r_c_X11_orderPosition s m ([.ref (g.2.2.2 0), .int (nI idx)] : List Value).toArray below meth c H locs 0 0 Q (F0 m 0 ls []) → W p l e r_c_X11_orderPosition s m ([.ref (g.2.2.2 0), .int (nI idx)] : List Value).toArray below meth c s.heap [] 0 0 Q (F0 m 0 ls []) := fun h => by rw [eH, el] at h; exact h
  refine goal0 ?_
  have hl : lv_has ls 8 [(0, .ref (g.2.2.2 0)), (1, .int (nI idx))] := hl
  have iX11 : ∀ w ∈ wsX110, w ∈ wsX11_orderPosition := by decide +kernel
  have k1 := hts (.fieldLink RX11 1 "JumpingAutomataModel" "thrown" "I") (by decide +kernel)
  have k51 := hts (.fieldLink RX11 51 "JumpingAutomataModel" "length" "I") (by decide +kernel)
  have k92 := hts (.fieldLink RX11 92 "JumpingAutomataModel" "order" "[I") (by decide +kernel)
  have k45 := hts (.fieldLink RX11 45 "JumpingAutomataModel" "word" "[I") (by decide +kernel)
  have p8 := pow8 (σ.1 6) hn
  refine lv_aload_n hx hb dX11_orderPosition_0 rfl (lv_at hl 0 rfl) ?_
  refine lv_iconst (v := nI 0) hx hb dX11_orderPosition_1 (by decide) ?_
  refine jn_put (D := (g.1, g.2.1)) (ci := 13) (v := .int (nI 0)) (ty := .int) (C := RX11) (T := TX11) (N := 30) hx hb hts iX11 tyX11 tyX11_ok nmX11 hown hK.1 hP hD hS 0 (gM0 g σ tl) rfl 0 (by decide) k1 (fun _ h9 => h9) rfl (by decide +kernel) rfl rfl (Nat.le_of_ble_eq_true rfl) (uM_F0 g σ tl 0) dX11_orderPosition_2 (fun H locs hP hD hS => ?_)
  refine lv_iload_n hx hb dX11_orderPosition_5 rfl (lv_at hl 1 rfl) ?_
  refine lv_iconst (v := nI 0) hx hb dX11_orderPosition_6 (by decide) ?_
  refine lv_aload_n hx hb dX11_orderPosition_7 rfl (lv_at hl 0 rfl) ?_
  refine va_get (D := (g.1, g.2.1)) (ci := 13) (v := .int (nI (σ.1 6))) (C := RX11) (T := TX11) (N := 30) hx hb hts iX11 hown hK.1 hP 0 (gM0 g (sF σ 0 0) tl) rfl 13 (by decide) k51 (fun _ h9 => h9) rfl dX11_orderPosition_8 ?_
  refine lv_iconst (v := nI 1) hx hb dX11_orderPosition_11 (by decide) ?_
  refine jn_isubB hx hb (by decide) dX11_orderPosition_12 ?_
  refine vp_callSi (va_Run.run (va_runS (As := [.int (nI idx), .int (nI 0), .int (nI (sb (σ.1 6) 1))]) (rest := []) ⟨hx, hb, hml, hown, hts⟩ (c_X11_in l idx 0 (sb (σ.1 6) 1) (by omega) (by decide) (sb_lt (by omega))) (va_cwS 3 hts gX11_orderPosition_X11_in rfl rfl rfl (by decide +kernel) ⟨Nat.le_of_ble_eq_true rfl, Nat.le_of_ble_eq_true rfl⟩) okTS rfl rfl hl.1 rfl (lv_room (Nat.le_of_ble_eq_true rfl)) dX11_orderPosition_13 ⟨Nat.le_of_ble_eq_true rfl, Nat.le_of_ble_eq_true rfl⟩)) (fun r_13 h_13 => ?_)
  subst h_13
  refine jn_bne hx hb (tgt := 25) dX11_orderPosition_16 (by decide) (fun c_16 => ?_) (fun c_16 => ?_)
  · have c9 := (sb1 hn).mp c_16
    refine lv_aload_n hx hb dX11_orderPosition_25 rfl (lv_at hl 0 rfl) ?_
    refine jn_calli (va_runV (As := []) (rest := []) ⟨hx, hb, hml, hown, hts⟩ (c_X11_leastCost l g tl H.size (sF σ 0 0) hT hF hn hw) (cwV 0 hts gX11_orderPosition_X11_leastCost rfl rfl rfl (by decide +kernel) ⟨Nat.le_of_ble_eq_true rfl, Nat.le_of_ble_eq_true rfl⟩) (okWV hK hP hD rfl (gM0 g (sF σ 0 0) tl)) rfl rfl hl.1 rfl (lv_room (Nat.le_of_ble_eq_true rfl)) dX11_orderPosition_26 ⟨Nat.le_of_ble_eq_true rfl, Nat.le_of_ble_eq_true rfl⟩) hD hS hAA (fun r_26 u H locs hw_ hP hD hS => ?_)
    obtain ⟨f11_26, rfl⟩ : ∃ z, z = u := ⟨_, rfl⟩
    obtain ⟨rfl, h_26⟩ := hw_
    have h_26 : 0 < (σ.1 6) → TbP (σ.2.1 0) (σ.2.1 5) ((σ.2.1 0) 15) (σ.1 6) 0 0 0 f11_26 := h_26
    have hP : va_P (g.1, g.2.1) vwCl (wM g (sA (sF σ 0 0) 11 f11_26) ++ tl) H := hP
    have hD : va_D A (wM g (sA (sF σ 0 0) 11 f11_26) ++ tl) := hD
    have hul := upF_le (ocost (σ.2.1 0) (σ.2.1 5) ((σ.2.1 0) 15) (σ.1 6))
    have hui := upF_lt (ocost (σ.2.1 0) (σ.2.1 5) ((σ.2.1 0) 15) (σ.1 6))
    refine lv_istore_n (lv' := [(2, .int (nI (upF (ocost (σ.2.1 0) (σ.2.1 5) ((σ.2.1 0) 15) (σ.1 6))))), (0, .ref (g.2.2.2 0)), (1, .int (nI idx))]) hx hb dX11_orderPosition_29 rfl hl (by decide) rfl (fun ls hl => ?_)
    refine lv_iload_n hx hb dX11_orderPosition_30 rfl (lv_at hl 0 rfl) ?_
    refine lv_ldc (v := 1000000) hx hb hown (hts (.constant RX11 195 1000000) (by decide +kernel)) dX11_orderPosition_31 ?_
    rw [show ((1000000 : Int32)) = nI 1000000 from rfl]
    refine jn_clt hx hb (by omega) (by decide) (tgt := 42) dX11_orderPosition_33 (by decide) (fun c_33 => ?_) (fun c_33 => ?_)
    · refine lv_iconst (v := nI 0) hx hb dX11_orderPosition_42 (by decide) ?_
      refine lv_istore_n (lv' := [(3, .int (nI 0)), (2, .int (nI (upF (ocost (σ.2.1 0) (σ.2.1 5) ((σ.2.1 0) 15) (σ.1 6))))), (0, .ref (g.2.2.2 0)), (1, .int (nI idx))]) hx hb dX11_orderPosition_43 rfl hl (by decide) rfl (fun ls hl => ?_)
      refine lv_iconst (v := nI 0) hx hb dX11_orderPosition_44 (by decide) ?_
      refine lv_istore (lv' := [(4, .int (nI 0)), (3, .int (nI 0)), (2, .int (nI (upF (ocost (σ.2.1 0) (σ.2.1 5) ((σ.2.1 0) 15) (σ.1 6))))), (0, .ref (g.2.2.2 0)), (1, .int (nI idx))]) hx hb dX11_orderPosition_45 hl (by decide) rfl (fun ls hl => ?_)
      refine lv_iconst (v := nI 1) hx hb dX11_orderPosition_47 (by decide) ?_
      refine lv_istore (lv' := [(5, .int (nI 1)), (4, .int (nI 0)), (3, .int (nI 0)), (2, .int (nI (upF (ocost (σ.2.1 0) (σ.2.1 5) ((σ.2.1 0) 15) (σ.1 6))))), (0, .ref (g.2.2.2 0)), (1, .int (nI idx))]) hx hb dX11_orderPosition_48 hl (by decide) rfl (fun ls hl => ?_)
      refine lv_iconst (v := nI 0) hx hb dX11_orderPosition_50 (by decide) ?_
      refine lv_istore (lv' := [(6, .int (nI 0)), (5, .int (nI 1)), (4, .int (nI 0)), (3, .int (nI 0)), (2, .int (nI (upF (ocost (σ.2.1 0) (σ.2.1 5) ((σ.2.1 0) 15) (σ.1 6))))), (0, .ref (g.2.2.2 0)), (1, .int (nI idx))]) hx hb dX11_orderPosition_51 hl (by decide) rfl (fun ls hl => ?_)
      have lp53 : ∀ (fu : Nat), ∀ (k : Nat) (lf : Nat) (rd : Nat) (la : Nat) (mq : Nat) (f : Nat → Nat), (k ≤ idx + 1) → (OrI (σ.2.1 0) (σ.2.1 5) ((σ.2.1 0) 15) (σ.1 6) k rd la mq lf f) → idx + 1 - k < fu → ∀ (H : Heap) (locs : List Loc), va_P (g.1, g.2.1) vwCl (wM g (sA (sA (sF σ 0 0) 11 f11_26) 12 f) ++ tl) H → va_D A (wM g (sA (sA (sF σ 0 0) 11 f11_26) 12 f) ++ tl) → va_S A s.heap H locs → ∀ ls : Array Slot, lv_has ls 8 [(0, .ref (g.2.2.2 0)), (1, .int (nI idx)), (2, .int (nI lf)), (3, .int (nI rd)), (4, .int (nI la)), (5, .int (nI mq)), (6, .int (nI k))] → W p l e r_c_X11_orderPosition s m ([.ref (g.2.2.2 0), .int (nI idx)] : List Value).toArray below meth c H locs 0 0 Q (F0 m 53 ls []) := by
        intro fu
        induction fu with
        | zero => intro k lf rd la mq f h1 h2 hf; exact absurd hf (Nat.not_lt_zero _)
        | succ fu ih53 =>
          intro k lf rd la mq f h1 h2 hf H locs hP hD hS ls hl
          obtain ⟨g1, g2, g3, g4, g5, g6, g7, g8⟩ := id h2
          refine lv_iload hx hb dX11_orderPosition_53 (lv_at hl 6 rfl) ?_
          refine lv_iload_n hx hb dX11_orderPosition_55 rfl (lv_at hl 1 rfl) ?_
          refine jn_cgt hx hb (by omega) (by omega) (tgt := 167) dX11_orderPosition_56 (by decide) (fun c_56 => ?_) (fun c_56 => ?_)
          · refine lv_aload_n hx hb dX11_orderPosition_167 rfl (lv_at hl 0 rfl) ?_
            refine va_get (D := (g.1, g.2.1)) (ci := 13) (v := .ref (g.2.2.2 15)) (C := RX11) (T := TX11) (N := 30) hx hb hts iX11 hown hK.1 hP 0 (gM0 g (sA (sA (sF σ 0 0) 11 f11_26) 12 f) tl) rfl 26 (by decide) k92 (fun _ h9 => h9) rfl dX11_orderPosition_168 ?_
            refine lv_iload_n hx hb dX11_orderPosition_171 rfl (lv_at hl 1 rfl) ?_
            refine jn_iald (f := f) hx hb hK.1 hP 15 0 (gM15 g (sA (sA (sF σ 0 0) 11 f11_26) 12 f) tl) rfl (by omega) (Nat.le_of_ble_eq_true rfl) dX11_orderPosition_172 ?_
            exact hq _ _ _ _ ((nI (f idx))) (_, 0, f11_26, f) dX11_orderPosition_173 ⟨rfl, (Or.inr (Or.inr ⟨c9, by omega, rfl, fun od ho => (g8 od ho).1 idx (by omega)⟩))⟩ hP hD hS
          · refine lv_iconst (v := nI 0) hx hb dX11_orderPosition_59 (by decide) ?_
            refine lv_istore (lv' := [(7, .int (nI 0)), (0, .ref (g.2.2.2 0)), (1, .int (nI idx)), (2, .int (nI lf)), (3, .int (nI rd)), (4, .int (nI la)), (5, .int (nI mq)), (6, .int (nI k))]) hx hb dX11_orderPosition_60 hl (by decide) rfl (fun ls hl => ?_)
            have lp62 : ∀ (fu : Nat), ∀ (pp : Nat), (∀ z, z < pp → ¬ orP (σ.2.1 0) (σ.2.1 5) ((σ.2.1 0) 15) (σ.1 6) rd la mq lf z) → (σ.1 6) - pp < fu → ∀ (H : Heap) (locs : List Loc), va_P (g.1, g.2.1) vwCl (wM g (sA (sA (sF σ 0 0) 11 f11_26) 12 f) ++ tl) H → va_D A (wM g (sA (sA (sF σ 0 0) 11 f11_26) 12 f) ++ tl) → va_S A s.heap H locs → ∀ ls : Array Slot, lv_has ls 8 [(0, .ref (g.2.2.2 0)), (1, .int (nI idx)), (2, .int (nI lf)), (3, .int (nI rd)), (4, .int (nI la)), (5, .int (nI mq)), (6, .int (nI k)), (7, .int (nI pp))] → W p l e r_c_X11_orderPosition s m ([.ref (g.2.2.2 0), .int (nI idx)] : List Value).toArray below meth c H locs 0 0 Q (F0 m 62 ls []) := by
              intro fu
              induction fu with
              | zero => intro pp h3 hf; exact absurd hf (Nat.not_lt_zero _)
              | succ fu ih62 =>
                intro pp h3 hf H locs hP hD hS ls hl
                have hpn := ori_lt h2 (by omega) h3
                refine lv_iload_n hx hb dX11_orderPosition_62 rfl (lv_at hl 3 rfl) ?_
                refine lv_iload hx hb dX11_orderPosition_63 (lv_at hl 7 rfl) ?_
                refine vp_callSi (va_Run.run (va_runS (As := [.int (nI rd), .int (nI pp)]) (rest := []) ⟨hx, hb, hml, hown, hts⟩ (c_X11_has l rd pp (by omega) (by omega)) (va_cwS 2 hts gX11_orderPosition_X11_has rfl rfl rfl (by decide +kernel) ⟨Nat.le_of_ble_eq_true rfl, Nat.le_of_ble_eq_true rfl⟩) okTS rfl rfl hl.1 rfl (lv_room (Nat.le_of_ble_eq_true rfl)) dX11_orderPosition_65 ⟨Nat.le_of_ble_eq_true rfl, Nat.le_of_ble_eq_true rfl⟩)) (fun r_65 h_65 => ?_)
                subst h_65
                refine jn_bne hx hb (tgt := 109) dX11_orderPosition_68 (by decide) (fun c_68 => ?_) (fun c_68 => ?_)
                · refine lv_iinc (v := nI (pp + 1)) (lv' := [(7, .int (nI (pp + 1))), (0, .ref (g.2.2.2 0)), (1, .int (nI idx)), (2, .int (nI lf)), (3, .int (nI rd)), (4, .int (nI la)), (5, .int (nI mq)), (6, .int (nI k))]) hx hb dX11_orderPosition_109 hl (k := 7) rfl (jn_ii _ 1) (by decide) rfl (fun ls hl => ?_)
                  refine lv_goto (tgt := 62) hx hb dX11_orderPosition_112 (by decide) ?_
                  exact ih62 (pp + 1) (fun z hz => by rcases Nat.lt_or_ge z pp with y | y; { exact h3 z y }; { rw [show z = pp by omega]; first | exact (fun y => y.1 c_68) | exact (fun y => c_106 ((or_cmp (f := f) hn hpn c_68 g6 g3).mpr y)) }) (by omega) _ _ hP hD hS _ (lv_sub hl [1, 2, 3, 4, 5, 6, 7, 0] rfl)
                · refine lv_iload hx hb dX11_orderPosition_71 (lv_at hl 7 rfl) ?_
                  refine lv_iload hx hb dX11_orderPosition_73 (lv_at hl 4 rfl) ?_
                  refine lv_isub hx hb dX11_orderPosition_75 ?_
                  refine jn_abs hx hb (hml.trans hl.1.symm) hown (hts (.methodLink RX11 196 Lib.Math.abs.name) (by decide +kernel)) (hts (.static Lib.Math.abs.name) (by decide +kernel)) (hts (.initialized "java/lang/Math") (by decide +kernel)) (hts (.code Lib.Math.abs.name Lib.Math.abs.code 1 (some .int)) (by decide +kernel)) (Nat.le_of_ble_eq_true rfl) (Nat.le_of_ble_eq_true rfl) (Nat.le_of_ble_eq_true rfl) (Nat.le_of_ble_eq_true rfl) (by omega) (by omega) dX11_orderPosition_76 ?_
                  refine lv_aload_n hx hb dX11_orderPosition_79 rfl (lv_at hl 0 rfl) ?_
                  refine lv_iload_n hx hb dX11_orderPosition_80 rfl (lv_at hl 3 rfl) ?_
                  refine lv_iconst (v := nI 1) hx hb dX11_orderPosition_81 (by decide) ?_
                  refine lv_iload hx hb dX11_orderPosition_82 (lv_at hl 7 rfl) ?_
                  refine jn_shl1 hx hb (by omega) dX11_orderPosition_84 ?_
                  refine jn_ior hx hb dX11_orderPosition_85 ?_
                  refine lv_iload hx hb dX11_orderPosition_86 (lv_at hl 7 rfl) ?_
                  refine lv_aload_n hx hb dX11_orderPosition_88 rfl (lv_at hl 0 rfl) ?_
                  refine lv_iload hx hb dX11_orderPosition_89 (lv_at hl 5 rfl) ?_
                  refine lv_aload_n hx hb dX11_orderPosition_91 rfl (lv_at hl 0 rfl) ?_
                  refine va_get (D := (g.1, g.2.1)) (ci := 13) (v := .ref (g.2.2.2 6)) (C := RX11) (T := TX11) (N := 30) hx hb hts iX11 hown hK.1 hP 0 (gM0 g (sA (sA (sF σ 0 0) 11 f11_26) 12 f) tl) rfl 11 (by decide) k45 (fun _ h9 => h9) rfl dX11_orderPosition_92 ?_
                  refine lv_iload hx hb dX11_orderPosition_95 (lv_at hl 7 rfl) ?_
                  refine jn_iald (f := σ.2.1 5) hx hb hK.1 hP 6 0 (gM6 g (sA (sA (sF σ 0 0) 11 f11_26) 12 f) tl) rfl (by omega) (Nat.le_of_ble_eq_true rfl) dX11_orderPosition_97 ?_
                  refine vp_callSi (va_Run.run (va_runV (As := [.int (nI mq), .int (nI ((σ.2.1 5) pp))]) (rest := [.int (nI pp), .int (nI (rd ||| (2 ^ pp))), .ref (g.2.2.2 0), .int (nI ((pp - la) + (la - pp)))]) ⟨hx, hb, hml, hown, hts⟩ (c_X11_after l g tl (sA (sA (sF σ 0 0) 11 f11_26) 12 f) mq ((σ.2.1 5) pp) (by omega) (hw pp hpn)) (cwV 2 hts gX11_orderPosition_X11_after rfl rfl rfl (by decide +kernel) ⟨Nat.le_of_ble_eq_true rfl, Nat.le_of_ble_eq_true rfl⟩) (okPV hK hP rfl (gM0 g (sA (sA (sF σ 0 0) 11 f11_26) 12 f) tl)) rfl rfl hl.1 rfl (lv_room (Nat.le_of_ble_eq_true rfl)) dX11_orderPosition_98 ⟨Nat.le_of_ble_eq_true rfl, Nat.le_of_ble_eq_true rfl⟩)) (fun r_98 h_98 => ?_)
                  have h_98 : r_98 = (nI (stp (σ.2.1 0) ((σ.2.1 5) pp) mq)) := h_98
                  subst h_98
                  have hor := or_lt8 g2 hpn
                  refine vp_callSi (va_Run.run (va_runV (As := [.int (nI (rd ||| (2 ^ pp))), .int (nI pp), .int (nI (stp (σ.2.1 0) ((σ.2.1 5) pp) mq))]) (rest := [.int (nI ((pp - la) + (la - pp)))]) ⟨hx, hb, hml, hown, hts⟩ (c_X11_leastOf l g tl (sA (sA (sF σ 0 0) 11 f11_26) 12 f) (rd ||| (2 ^ pp)) pp (stp (σ.2.1 0) ((σ.2.1 5) pp) mq) (by omega) (by omega) (stp_lt hT (hw pp hpn)) (ls_le_w (h_26 (by omega)) g2 hpn c_68)) (cwV 3 hts gX11_orderPosition_X11_leastOf rfl rfl rfl (by decide +kernel) ⟨Nat.le_of_ble_eq_true rfl, Nat.le_of_ble_eq_true rfl⟩) (okPV hK hP rfl (gM0 g (sA (sA (sF σ 0 0) 11 f11_26) 12 f) tl)) rfl rfl hl.1 rfl (lv_room (Nat.le_of_ble_eq_true rfl)) dX11_orderPosition_101 ⟨Nat.le_of_ble_eq_true rfl, Nat.le_of_ble_eq_true rfl⟩)) (fun r_101 h_101 => ?_)
                  have h_101 : r_101 = (nI (lsR (fun t => (f11_26) (((rd ||| (2 ^ pp)) * 8 + pp) * 5 + t)) (stp (σ.2.1 0) ((σ.2.1 5) pp) mq))) := h_101
                  subst h_101
                  rw [ls_tab_w (h_26 (by omega)) g2 hpn c_68]
                  have hup := upF_le (lst (CF (σ.2.1 0) (σ.2.1 5) ((σ.2.1 0) 15) (σ.1 6) (rd ||| 2 ^ pp) pp) (stp (σ.2.1 0) ((σ.2.1 5) pp) mq))
                  refine jn_iadd hx hb dX11_orderPosition_104 ?_
                  refine lv_iload_n hx hb dX11_orderPosition_105 rfl (lv_at hl 2 rfl) ?_
                  refine jn_ceq hx hb (by omega) (by omega) (tgt := 115) dX11_orderPosition_106 (by decide) (fun c_106 => ?_) (fun c_106 => ?_)
                  · have hyy := (or_cmp (f := f) hn hpn c_68 g6 g3).mp c_106
                    have hos := ori_s hT hn hw h2 (by omega) hpn hyy h3
                    have hos1 := hos.1
                    refine lv_iload_n hx hb dX11_orderPosition_115 rfl (lv_at hl 2 rfl) ?_
                    refine lv_iload hx hb dX11_orderPosition_116 (lv_at hl 7 rfl) ?_
                    refine lv_iload hx hb dX11_orderPosition_118 (lv_at hl 4 rfl) ?_
                    refine lv_isub hx hb dX11_orderPosition_120 ?_
                    refine jn_abs hx hb (hml.trans hl.1.symm) hown (hts (.methodLink RX11 196 Lib.Math.abs.name) (by decide +kernel)) (hts (.static Lib.Math.abs.name) (by decide +kernel)) (hts (.initialized "java/lang/Math") (by decide +kernel)) (hts (.code Lib.Math.abs.name Lib.Math.abs.code 1 (some .int)) (by decide +kernel)) (Nat.le_of_ble_eq_true rfl) (Nat.le_of_ble_eq_true rfl) (Nat.le_of_ble_eq_true rfl) (Nat.le_of_ble_eq_true rfl) (by omega) (by omega) dX11_orderPosition_121 ?_
                    refine jn_isub hx hb (by have e9 : (pp - la) + (la - pp) = adf la pp := (by show _ = (la - pp) + (pp - la); omega); omega) dX11_orderPosition_124 ?_
                    refine lv_istore_n (lv' := [(2, .int (nI (lf - ((pp - la) + (la - pp))))), (0, .ref (g.2.2.2 0)), (1, .int (nI idx)), (3, .int (nI rd)), (4, .int (nI la)), (5, .int (nI mq)), (6, .int (nI k)), (7, .int (nI pp))]) hx hb dX11_orderPosition_125 rfl hl (by decide) rfl (fun ls hl => ?_)
                    refine lv_aload_n hx hb dX11_orderPosition_126 rfl (lv_at hl 1 rfl) ?_
                    refine lv_iload hx hb dX11_orderPosition_127 (lv_at hl 5 rfl) ?_
                    refine lv_aload_n hx hb dX11_orderPosition_129 rfl (lv_at hl 1 rfl) ?_
                    refine va_get (D := (g.1, g.2.1)) (ci := 13) (v := .ref (g.2.2.2 6)) (C := RX11) (T := TX11) (N := 30) hx hb hts iX11 hown hK.1 hP 0 (gM0 g (sA (sA (sF σ 0 0) 11 f11_26) 12 f) tl) rfl 11 (by decide) k45 (fun _ h9 => h9) rfl dX11_orderPosition_130 ?_
                    refine lv_iload hx hb dX11_orderPosition_133 (lv_at hl 7 rfl) ?_
                    refine jn_iald (f := σ.2.1 5) hx hb hK.1 hP 6 0 (gM6 g (sA (sA (sF σ 0 0) 11 f11_26) 12 f) tl) rfl (by omega) (Nat.le_of_ble_eq_true rfl) dX11_orderPosition_135 ?_
                    refine vp_callSi (va_Run.run (va_runV (As := [.int (nI mq), .int (nI ((σ.2.1 5) pp))]) (rest := []) ⟨hx, hb, hml, hown, hts⟩ (c_X11_after l g tl (sA (sA (sF σ 0 0) 11 f11_26) 12 f) mq ((σ.2.1 5) pp) (by omega) (hw pp hpn)) (cwV 2 hts gX11_orderPosition_X11_after rfl rfl rfl (by decide +kernel) ⟨Nat.le_of_ble_eq_true rfl, Nat.le_of_ble_eq_true rfl⟩) (okPV hK hP rfl (gM0 g (sA (sA (sF σ 0 0) 11 f11_26) 12 f) tl)) rfl rfl hl.1 rfl (lv_room (Nat.le_of_ble_eq_true rfl)) dX11_orderPosition_136 ⟨Nat.le_of_ble_eq_true rfl, Nat.le_of_ble_eq_true rfl⟩)) (fun r_136 h_136 => ?_)
                    have h_136 : r_136 = (nI (stp (σ.2.1 0) ((σ.2.1 5) pp) mq)) := h_136
                    subst h_136
                    refine lv_istore (lv' := [(5, .int (nI (stp (σ.2.1 0) ((σ.2.1 5) pp) mq))), (2, .int (nI (lf - ((pp - la) + (la - pp))))), (0, .ref (g.2.2.2 0)), (1, .int (nI idx)), (3, .int (nI rd)), (4, .int (nI la)), (6, .int (nI k)), (7, .int (nI pp))]) hx hb dX11_orderPosition_139 hl (by decide) rfl (fun ls hl => ?_)
                    refine lv_iload_n hx hb dX11_orderPosition_141 rfl (lv_at hl 4 rfl) ?_
                    refine lv_iconst (v := nI 1) hx hb dX11_orderPosition_142 (by decide) ?_
                    refine lv_iload hx hb dX11_orderPosition_143 (lv_at hl 7 rfl) ?_
                    refine jn_shl1 hx hb (by omega) dX11_orderPosition_145 ?_
                    refine jn_ior hx hb dX11_orderPosition_146 ?_
                    refine lv_istore_n (lv' := [(3, .int (nI (rd ||| (2 ^ pp)))), (5, .int (nI (stp (σ.2.1 0) ((σ.2.1 5) pp) mq))), (2, .int (nI (lf - ((pp - la) + (la - pp))))), (0, .ref (g.2.2.2 0)), (1, .int (nI idx)), (4, .int (nI la)), (6, .int (nI k)), (7, .int (nI pp))]) hx hb dX11_orderPosition_147 rfl hl (by decide) rfl (fun ls hl => ?_)
                    refine lv_iload hx hb dX11_orderPosition_148 (lv_at hl 7 rfl) ?_
                    refine lv_istore (lv' := [(4, .int (nI pp)), (3, .int (nI (rd ||| (2 ^ pp)))), (5, .int (nI (stp (σ.2.1 0) ((σ.2.1 5) pp) mq))), (2, .int (nI (lf - ((pp - la) + (la - pp))))), (0, .ref (g.2.2.2 0)), (1, .int (nI idx)), (6, .int (nI k)), (7, .int (nI pp))]) hx hb dX11_orderPosition_150 hl (by decide) rfl (fun ls hl => ?_)
                    refine lv_aload_n hx hb dX11_orderPosition_152 rfl (lv_at hl 4 rfl) ?_
                    refine va_get (D := (g.1, g.2.1)) (ci := 13) (v := .ref (g.2.2.2 15)) (C := RX11) (T := TX11) (N := 30) hx hb hts iX11 hown hK.1 hP 0 (gM0 g (sA (sA (sF σ 0 0) 11 f11_26) 12 f) tl) rfl 26 (by decide) k92 (fun _ h9 => h9) rfl dX11_orderPosition_153 ?_
                    refine lv_iload hx hb dX11_orderPosition_156 (lv_at hl 6 rfl) ?_
                    refine lv_iload hx hb dX11_orderPosition_158 (lv_at hl 7 rfl) ?_
                    refine jn_iast (f := f) hx hb hK.1 hP hD hS 15 0 (gM15 g (sA (sA (sF σ 0 0) 11 f11_26) 12 f) tl) rfl (by omega) (Nat.le_of_ble_eq_true rfl) (uM_A12 g (sA (sA (sF σ 0 0) 11 f11_26) 12 f) tl _) dX11_orderPosition_160 (fun H locs hP hD hS => ?_)
                    refine lv_iinc (v := nI (k + 1)) (lv' := [(6, .int (nI (k + 1))), (4, .int (nI pp)), (3, .int (nI (rd ||| (2 ^ pp)))), (5, .int (nI (stp (σ.2.1 0) ((σ.2.1 5) pp) mq))), (2, .int (nI (lf - ((pp - la) + (la - pp))))), (0, .ref (g.2.2.2 0)), (1, .int (nI idx)), (7, .int (nI pp))]) hx hb dX11_orderPosition_161 hl (k := 6) rfl (jn_ii _ 1) (by decide) rfl (fun ls hl => ?_)
                    refine lv_goto (tgt := 53) hx hb dX11_orderPosition_164 (by decide) ?_
                    exact ih53 (k + 1) (lf - ((pp - la) + (la - pp))) (rd ||| (2 ^ pp)) pp (stp (σ.2.1 0) ((σ.2.1 5) pp) mq) (va_up f k pp) (by omega) (by rw [show (pp - la) + (la - pp) = adf la pp by show _ = (la - pp) + (pp - la); omega]; exact hos.2) (by omega) _ _ hP hD hS _ (lv_sub hl [5, 6, 4, 2, 1, 3, 0] rfl)
                  · refine lv_iinc (v := nI (pp + 1)) (lv' := [(7, .int (nI (pp + 1))), (0, .ref (g.2.2.2 0)), (1, .int (nI idx)), (2, .int (nI lf)), (3, .int (nI rd)), (4, .int (nI la)), (5, .int (nI mq)), (6, .int (nI k))]) hx hb dX11_orderPosition_109 hl (k := 7) rfl (jn_ii _ 1) (by decide) rfl (fun ls hl => ?_)
                    refine lv_goto (tgt := 62) hx hb dX11_orderPosition_112 (by decide) ?_
                    exact ih62 (pp + 1) (fun z hz => by rcases Nat.lt_or_ge z pp with y | y; { exact h3 z y }; { rw [show z = pp by omega]; first | exact (fun y => y.1 c_68) | exact (fun y => c_106 ((or_cmp (f := f) hn hpn c_68 g6 g3).mpr y)) }) (by omega) _ _ hP hD hS _ (lv_sub hl [1, 2, 3, 4, 5, 6, 7, 0] rfl)
            exact lp62 _ 0 (fun z hz => absurd hz (by omega)) (Nat.lt_succ_self _) _ _ hP hD hS _ (lv_sub hl [1, 2, 3, 4, 5, 6, 7, 0] rfl)
      exact lp53 _ 0 (upF (ocost (σ.2.1 0) (σ.2.1 5) ((σ.2.1 0) 15) (σ.1 6))) 0 0 1 (σ.2.1 12) (by omega) (by rw [show upF (ocost (σ.2.1 0) (σ.2.1 5) ((σ.2.1 0) 15) (σ.1 6)) = ocost (σ.2.1 0) (σ.2.1 5) ((σ.2.1 0) 15) (σ.1 6) by unfold upF; rw [if_pos (by omega)]]; exact ori_0 (by omega)) (Nat.lt_succ_self _) _ _ hP hD hS _ (lv_sub hl [5, 6, 4, 3, 2, 1, 0] rfl)
    · refine lv_aload_n hx hb dX11_orderPosition_36 rfl (lv_at hl 1 rfl) ?_
      refine lv_iconst (v := nI 2) hx hb dX11_orderPosition_37 (by decide) ?_
      refine jn_calli (va_runV (As := [.int (nI 2)]) (rest := []) ⟨hx, hb, hml, hown, hts⟩ (c_X11_fails l g tl H.size (sA (sF σ 0 0) 11 f11_26) 2) (cwV 1 hts gX11_orderPosition_X11_fails rfl rfl rfl (by decide +kernel) ⟨Nat.le_of_ble_eq_true rfl, Nat.le_of_ble_eq_true rfl⟩) (okWV hK hP hD rfl (gM0 g (sA (sF σ 0 0) 11 f11_26) tl)) rfl rfl hl.1 rfl (lv_room (Nat.le_of_ble_eq_true rfl)) dX11_orderPosition_38 ⟨Nat.le_of_ble_eq_true rfl, Nat.le_of_ble_eq_true rfl⟩) hD hS hAA (fun r_38 u H locs hw_ hP hD hS => ?_)
      obtain rfl := hw_
      have hP : va_P (g.1, g.2.1) vwCl (wM g (sF (sA (sF σ 0 0) 11 f11_26) 0 2) ++ tl) H := hP
      have hD : va_D A (wM g (sF (sA (sF σ 0 0) 11 f11_26) 0 2) ++ tl) := hD
      exact hq _ _ _ _ ((nI 0)) (0, 2, f11_26, (σ.2.1 12)) dX11_orderPosition_41 ⟨rfl, (Or.inr (Or.inl ⟨c9, by omega, rfl⟩))⟩ hP hD hS
  · have c9 := fun q => c_16 ((sb1 hn).mpr q)
    refine lv_aload_n hx hb dX11_orderPosition_19 rfl (lv_at hl 0 rfl) ?_
    refine lv_iconst (v := nI 1) hx hb dX11_orderPosition_20 (by decide) ?_
    refine jn_calli (va_runV (As := [.int (nI 1)]) (rest := []) ⟨hx, hb, hml, hown, hts⟩ (c_X11_fails l g tl H.size (sF σ 0 0) 1) (cwV 1 hts gX11_orderPosition_X11_fails rfl rfl rfl (by decide +kernel) ⟨Nat.le_of_ble_eq_true rfl, Nat.le_of_ble_eq_true rfl⟩) (okWV hK hP hD rfl (gM0 g (sF σ 0 0) tl)) rfl rfl hl.1 rfl (lv_room (Nat.le_of_ble_eq_true rfl)) dX11_orderPosition_21 ⟨Nat.le_of_ble_eq_true rfl, Nat.le_of_ble_eq_true rfl⟩) hD hS hAA (fun r_21 u H locs hw_ hP hD hS => ?_)
    obtain rfl := hw_
    have hP : va_P (g.1, g.2.1) vwCl (wM g (sF (sF σ 0 0) 0 1) ++ tl) H := hP
    have hD : va_D A (wM g (sF (sF σ 0 0) 0 1) ++ tl) := hD
    exact hq _ _ _ _ ((nI 0)) (0, 1, (σ.2.1 11), (σ.2.1 12)) dX11_orderPosition_24 ⟨rfl, (Or.inl ⟨c9, rfl⟩)⟩ hP hD hS
