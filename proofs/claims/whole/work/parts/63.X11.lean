abbrev r_c_X11_isJumping_6 : Room := { frames := 2, cells := 0, slots := 0, locals := 45 }
set_option maxHeartbeats 4000000 in
set_option maxRecDepth 100000 in
theorem c_X11_isJumping_6 (l : Launch) (g : GC) (tl : va_W) (sz : Nat) (σ : SS) (n : Nat) (hF : ((σ.2.1 0) 15) < 32) (hn : n ≤ 8) (hw : ∀ i, i < n → (σ.2.1 5) i < 3) (hB : ∀ a b c, a < 10 → b < 10 → c < 10 → (σ.2.1 7) (100 * a + 10 * b + c) = rch (σ.2.1 0) a b c) : Met l yX11_isJumping wsX11_isJumping r_c_X11_isJumping_6 (va_Pc [.ref (g.2.2.2 0), .ref (g.2.2.2 6), .int (nI n)] (PW g (wM g σ ++ tl) sz)) (va_Qi (fun (r : Int32) (f8 : (Nat → Nat)) => r = nI (if wrc (σ.2.1 0) (σ.2.1 5) ((σ.2.1 0) 15) n then 1 else 0)) (fun (f8 : (Nat → Nat)) t => BW g (va_A (wM g σ ++ tl) sz) (wM g (sA σ 8 f8) ++ tl) t) (va_A (wM g σ ++ tl) sz)) 0 0 (va_A (wM g σ ++ tl) sz) := by
  refine jn_sz (wf := fun f8 : (Nat → Nat) => wM g (sA σ 8 f8) ++ tl) (cc := cX11_isJumping) (maxL := 4) (own := RX11) (by decide) rfl rfl (Nat.le_of_ble_eq_true rfl) ?_
  intro p e s m below meth c Q A hx hb hml hown hts hK hP hD hS hAA hq ls hl
  obtain ⟨H, eH⟩ : ∃ z, z = s.heap := ⟨_, rfl⟩
  obtain ⟨locs, el⟩ : ∃ z : List Loc, z = [] := ⟨_, rfl⟩
  rw [← eH] at hP
  have hS : va_S A s.heap H locs := by rw [eH, el]; exact hS
  have goal0 : W p l e r_c_X11_isJumping_6 s m ([.ref (g.2.2.2 0), .ref (g.2.2.2 6), .int (nI n)] : List Value).toArray below meth c H locs 0 0 Q (F0 m 0 ls []) → W p l e r_c_X11_isJumping_6 s m ([.ref (g.2.2.2 0), .ref (g.2.2.2 6), .int (nI n)] : List Value).toArray below meth c s.heap [] 0 0 Q (F0 m 0 ls []) := fun h => by rw [eH, el] at h; exact h
  refine goal0 ?_
  have hl : lv_has ls 4 [(0, .ref (g.2.2.2 0)), (1, .ref (g.2.2.2 6)), (2, .int (nI n))] := hl
  have iX11 : ∀ w ∈ wsX110, w ∈ wsX11_isJumping := by decide +kernel
  have k57 := hts (.fieldLink RX11 57 "JumpingAutomataModel" "have" "[I") (by decide +kernel)
  refine lv_iconst (v := nI 0) hx hb dX11_isJumping_0 (by decide) ?_
  refine lv_istore_n (lv' := [(3, .int (nI 0)), (0, .ref (g.2.2.2 0)), (1, .ref (g.2.2.2 6)), (2, .int (nI n))]) hx hb dX11_isJumping_1 rfl hl (by decide) rfl (fun ls hl => ?_)
  have lp2 : ∀ (fu : Nat), ∀ (i : Nat) (f : Nat → Nat), (i ≤ 3) → (∀ x, x < i → f x = 0) → 3 - i < fu → ∀ (H : Heap) (locs : List Loc), va_P (g.1, g.2.1) vwCl (wM g (sA σ 8 f) ++ tl) H → va_D A (wM g (sA σ 8 f) ++ tl) → va_S A s.heap H locs → ∀ ls : Array Slot, lv_has ls 4 [(0, .ref (g.2.2.2 0)), (1, .ref (g.2.2.2 6)), (2, .int (nI n)), (3, .int (nI i))] → W p l e r_c_X11_isJumping_6 s m ([.ref (g.2.2.2 0), .ref (g.2.2.2 6), .int (nI n)] : List Value).toArray below meth c H locs 0 0 Q (F0 m 2 ls []) := by
    intro fu
    induction fu with
    | zero => intro i f h1 h2 hf; exact absurd hf (Nat.not_lt_zero _)
    | succ fu ih2 =>
      intro i f h1 h2 hf H locs hP hD hS ls hl
      refine lv_iload_n hx hb dX11_isJumping_2 rfl (lv_at hl 3 rfl) ?_
      refine lv_iconst (v := nI 3) hx hb dX11_isJumping_3 (by decide) ?_
      refine jn_cge hx hb (by omega) (by decide) (tgt := 20) dX11_isJumping_4 (by decide) (fun c_4 => ?_) (fun c_4 => ?_)
      · refine lv_iconst (v := nI 0) hx hb dX11_isJumping_20 (by decide) ?_
        refine lv_istore_n (lv' := [(3, .int (nI 0)), (0, .ref (g.2.2.2 0)), (1, .ref (g.2.2.2 6)), (2, .int (nI n))]) hx hb dX11_isJumping_21 rfl hl (by decide) rfl (fun ls hl => ?_)
        have lp22 : ∀ (fu : Nat), ∀ (i : Nat) (f : Nat → Nat), (i ≤ n) → (∀ x, x < 3 → f x = cntW (σ.2.1 5) i x) → n - i < fu → ∀ (H : Heap) (locs : List Loc), va_P (g.1, g.2.1) vwCl (wM g (sA σ 8 f) ++ tl) H → va_D A (wM g (sA σ 8 f) ++ tl) → va_S A s.heap H locs → ∀ ls : Array Slot, lv_has ls 4 [(0, .ref (g.2.2.2 0)), (1, .ref (g.2.2.2 6)), (2, .int (nI n)), (3, .int (nI i))] → W p l e r_c_X11_isJumping_6 s m ([.ref (g.2.2.2 0), .ref (g.2.2.2 6), .int (nI n)] : List Value).toArray below meth c H locs 0 0 Q (F0 m 22 ls []) := by
          intro fu
          induction fu with
          | zero => intro i f h3 h4 hf; exact absurd hf (Nat.not_lt_zero _)
          | succ fu ih22 =>
            intro i f h3 h4 hf H locs hP hD hS ls hl
            refine lv_iload_n hx hb dX11_isJumping_22 rfl (lv_at hl 3 rfl) ?_
            refine lv_iload_n hx hb dX11_isJumping_23 rfl (lv_at hl 2 rfl) ?_
            refine jn_cge hx hb (by omega) (by omega) (tgt := 45) dX11_isJumping_24 (by decide) (fun c_24 => ?_) (fun c_24 => ?_)
            · have e0 := h4 0 (by decide)
              have e1 := h4 1 (by decide)
              have e2 := h4 2 (by decide)
              have k0 := cntW_le (σ.2.1 5) i 0
              have k1 := cntW_le (σ.2.1 5) i 1
              have k2 := cntW_le (σ.2.1 5) i 2
              refine lv_aload_n hx hb dX11_isJumping_45 rfl (lv_at hl 0 rfl) ?_
              refine lv_aload_n hx hb dX11_isJumping_46 rfl (lv_at hl 0 rfl) ?_
              refine va_get (D := (g.1, g.2.1)) (ci := 13) (v := .ref (g.2.2.2 9)) (C := RX11) (T := TX11) (N := 30) hx hb hts iX11 hown hK.1 hP 0 (gM0 g (sA σ 8 f) tl) rfl 15 (by decide) k57 (fun _ h9 => h9) rfl dX11_isJumping_47 ?_
              refine lv_iconst (v := nI 0) hx hb dX11_isJumping_50 (by decide) ?_
              refine jn_iald (f := f) hx hb hK.1 hP 9 0 (gM9 g (sA σ 8 f) tl) rfl (by decide) (Nat.le_of_ble_eq_true rfl) dX11_isJumping_51 ?_
              refine lv_aload_n hx hb dX11_isJumping_52 rfl (lv_at hl 0 rfl) ?_
              refine va_get (D := (g.1, g.2.1)) (ci := 13) (v := .ref (g.2.2.2 9)) (C := RX11) (T := TX11) (N := 30) hx hb hts iX11 hown hK.1 hP 0 (gM0 g (sA σ 8 f) tl) rfl 15 (by decide) k57 (fun _ h9 => h9) rfl dX11_isJumping_53 ?_
              refine lv_iconst (v := nI 1) hx hb dX11_isJumping_56 (by decide) ?_
              refine jn_iald (f := f) hx hb hK.1 hP 9 0 (gM9 g (sA σ 8 f) tl) rfl (by decide) (Nat.le_of_ble_eq_true rfl) dX11_isJumping_57 ?_
              refine lv_aload_n hx hb dX11_isJumping_58 rfl (lv_at hl 0 rfl) ?_
              refine va_get (D := (g.1, g.2.1)) (ci := 13) (v := .ref (g.2.2.2 9)) (C := RX11) (T := TX11) (N := 30) hx hb hts iX11 hown hK.1 hP 0 (gM0 g (sA σ 8 f) tl) rfl 15 (by decide) k57 (fun _ h9 => h9) rfl dX11_isJumping_59 ?_
              refine lv_iconst (v := nI 2) hx hb dX11_isJumping_62 (by decide) ?_
              refine jn_iald (f := f) hx hb hK.1 hP 9 0 (gM9 g (sA σ 8 f) tl) rfl (by decide) (Nat.le_of_ble_eq_true rfl) dX11_isJumping_63 ?_
              refine vp_callSi (va_Run.run (va_runV (As := [.int (nI (f 0)), .int (nI (f 1)), .int (nI (f 2))]) (rest := []) ⟨hx, hb, hml, hown, hts⟩ (c_X11_isReached l g tl (sA σ 8 f) (f 0) (f 1) (f 2) hF (by omega) (by omega) (by omega)) (cwV 3 hts gX11_isJumping_X11_isReached rfl rfl rfl (by decide +kernel) ⟨Nat.le_of_ble_eq_true rfl, Nat.le_of_ble_eq_true rfl⟩) (okPV hK hP rfl (gM0 g (sA σ 8 f) tl)) rfl rfl hl.1 rfl (lv_room (Nat.le_of_ble_eq_true rfl)) dX11_isJumping_64 ⟨Nat.le_of_ble_eq_true rfl, Nat.le_of_ble_eq_true rfl⟩)) (fun r_64 h_64 => ?_)
              have h_64 : r_64 = (nI (if (σ.2.1 7) (100 * (f 0) + 10 * (f 1) + (f 2)) &&& ((σ.2.1 0) 15) ≠ 0 then 1 else 0)) := h_64
              subst h_64
              exact hq _ _ _ _ ((nI (if (σ.2.1 7) (100 * (f 0) + 10 * (f 1) + (f 2)) &&& ((σ.2.1 0) 15) ≠ 0 then 1 else 0))) (f) dX11_isJumping_67 (jn_nb _) (ifn (by rw [hB _ _ _ (by omega) (by omega) (by omega), e0, e1, e2, show i = n by omega])) hP hD hS
            · refine lv_aload_n hx hb dX11_isJumping_27 rfl (lv_at hl 0 rfl) ?_
              refine va_get (D := (g.1, g.2.1)) (ci := 13) (v := .ref (g.2.2.2 9)) (C := RX11) (T := TX11) (N := 30) hx hb hts iX11 hown hK.1 hP 0 (gM0 g (sA σ 8 f) tl) rfl 15 (by decide) k57 (fun _ h9 => h9) rfl dX11_isJumping_28 ?_
              refine lv_aload_n hx hb dX11_isJumping_31 rfl (lv_at hl 1 rfl) ?_
              refine lv_iload_n hx hb dX11_isJumping_32 rfl (lv_at hl 3 rfl) ?_
              refine jn_iald (f := σ.2.1 5) hx hb hK.1 hP 6 0 (gM6 g (sA σ 8 f) tl) rfl (by omega) (Nat.le_of_ble_eq_true rfl) dX11_isJumping_33 ?_
              refine lv_dup2_11 hx hb dX11_isJumping_34 rfl rfl ?_
              refine jn_iald (f := f) hx hb hK.1 hP 9 0 (gM9 g (sA σ 8 f) tl) rfl (hw i (by omega)) (Nat.le_of_ble_eq_true rfl) dX11_isJumping_35 ?_
              refine lv_iconst (v := nI 1) hx hb dX11_isJumping_36 (by decide) ?_
              refine jn_iadd hx hb dX11_isJumping_37 ?_
              refine jn_iast (f := f) hx hb hK.1 hP hD hS 9 0 (gM9 g (sA σ 8 f) tl) rfl (hw i (by omega)) (Nat.le_of_ble_eq_true rfl) (uM_A8 g (sA σ 8 f) tl _) dX11_isJumping_38 (fun H locs hP hD hS => ?_)
              refine lv_iinc (v := nI (i + 1)) (lv' := [(3, .int (nI (i + 1))), (0, .ref (g.2.2.2 0)), (1, .ref (g.2.2.2 6)), (2, .int (nI n))]) hx hb dX11_isJumping_39 hl (k := 3) rfl (jn_ii _ 1) (by decide) rfl (fun ls hl => ?_)
              refine lv_goto (tgt := 22) hx hb dX11_isJumping_42 (by decide) ?_
              exact ih22 (i + 1) (va_up f ((σ.2.1 5) i) ((f ((σ.2.1 5) i)) + 1)) (by omega) (cntW_put h4 (hw i (by omega))) (by omega) _ _ hP hD hS _ (lv_sub hl [1, 2, 3, 0] rfl)
        exact lp22 _ 0 f (by omega) (fun x hx => h2 x (by omega)) (Nat.lt_succ_self _) _ _ hP hD hS _ (lv_sub hl [1, 2, 3, 0] rfl)
      · refine lv_aload_n hx hb dX11_isJumping_7 rfl (lv_at hl 0 rfl) ?_
        refine va_get (D := (g.1, g.2.1)) (ci := 13) (v := .ref (g.2.2.2 9)) (C := RX11) (T := TX11) (N := 30) hx hb hts iX11 hown hK.1 hP 0 (gM0 g (sA σ 8 f) tl) rfl 15 (by decide) k57 (fun _ h9 => h9) rfl dX11_isJumping_8 ?_
        refine lv_iload_n hx hb dX11_isJumping_11 rfl (lv_at hl 3 rfl) ?_
        refine lv_iconst (v := nI 0) hx hb dX11_isJumping_12 (by decide) ?_
        refine jn_iast (f := f) hx hb hK.1 hP hD hS 9 0 (gM9 g (sA σ 8 f) tl) rfl (by omega) (Nat.le_of_ble_eq_true rfl) (uM_A8 g (sA σ 8 f) tl _) dX11_isJumping_13 (fun H locs hP hD hS => ?_)
        refine lv_iinc (v := nI (i + 1)) (lv' := [(3, .int (nI (i + 1))), (0, .ref (g.2.2.2 0)), (1, .ref (g.2.2.2 6)), (2, .int (nI n))]) hx hb dX11_isJumping_14 hl (k := 3) rfl (jn_ii _ 1) (by decide) rfl (fun ls hl => ?_)
        refine lv_goto (tgt := 2) hx hb dX11_isJumping_17 (by decide) ?_
        exact ih2 (i + 1) (va_up f i 0) (by omega) (fun k hk => by unfold va_up; split <;> first | rfl | exact h2 k (by omega)) (by omega) _ _ hP hD hS _ (lv_sub hl [1, 2, 3, 0] rfl)
  exact lp2 _ 0 (σ.2.1 8) (by decide) (fun k hk => absurd hk (by omega)) (Nat.lt_succ_self _) _ _ hP hD hS _ (lv_sub hl [1, 2, 3, 0] rfl)

abbrev r_c_X11_isJumping_7 : Room := { frames := 2, cells := 0, slots := 0, locals := 45 }
set_option maxHeartbeats 4000000 in
set_option maxRecDepth 100000 in
theorem c_X11_isJumping_7 (l : Launch) (g : GC) (tl : va_W) (sz : Nat) (σ : SS) (n : Nat) (hF : ((σ.2.1 0) 15) < 32) (hn : n ≤ 8) (hw : ∀ i, i < n → (σ.2.1 6) i < 3) (hB : ∀ a b c, a < 10 → b < 10 → c < 10 → (σ.2.1 7) (100 * a + 10 * b + c) = rch (σ.2.1 0) a b c) : Met l yX11_isJumping wsX11_isJumping r_c_X11_isJumping_7 (va_Pc [.ref (g.2.2.2 0), .ref (g.2.2.2 7), .int (nI n)] (PW g (wM g σ ++ tl) sz)) (va_Qi (fun (r : Int32) (f8 : (Nat → Nat)) => r = nI (if wrc (σ.2.1 0) (σ.2.1 6) ((σ.2.1 0) 15) n then 1 else 0)) (fun (f8 : (Nat → Nat)) t => BW g (va_A (wM g σ ++ tl) sz) (wM g (sA σ 8 f8) ++ tl) t) (va_A (wM g σ ++ tl) sz)) 0 0 (va_A (wM g σ ++ tl) sz) := by
  refine jn_sz (wf := fun f8 : (Nat → Nat) => wM g (sA σ 8 f8) ++ tl) (cc := cX11_isJumping) (maxL := 4) (own := RX11) (by decide) rfl rfl (Nat.le_of_ble_eq_true rfl) ?_
  intro p e s m below meth c Q A hx hb hml hown hts hK hP hD hS hAA hq ls hl
  obtain ⟨H, eH⟩ : ∃ z, z = s.heap := ⟨_, rfl⟩
  obtain ⟨locs, el⟩ : ∃ z : List Loc, z = [] := ⟨_, rfl⟩
  rw [← eH] at hP
  have hS : va_S A s.heap H locs := by rw [eH, el]; exact hS
  have goal0 : W p l e r_c_X11_isJumping_7 s m ([.ref (g.2.2.2 0), .ref (g.2.2.2 7), .int (nI n)] : List Value).toArray below meth c H locs 0 0 Q (F0 m 0 ls []) → W p l e r_c_X11_isJumping_7 s m ([.ref (g.2.2.2 0), .ref (g.2.2.2 7), .int (nI n)] : List Value).toArray below meth c s.heap [] 0 0 Q (F0 m 0 ls []) := fun h => by rw [eH, el] at h; exact h
  refine goal0 ?_
  have hl : lv_has ls 4 [(0, .ref (g.2.2.2 0)), (1, .ref (g.2.2.2 7)), (2, .int (nI n))] := hl
  have iX11 : ∀ w ∈ wsX110, w ∈ wsX11_isJumping := by decide +kernel
  have k57 := hts (.fieldLink RX11 57 "JumpingAutomataModel" "have" "[I") (by decide +kernel)
  refine lv_iconst (v := nI 0) hx hb dX11_isJumping_0 (by decide) ?_
  refine lv_istore_n (lv' := [(3, .int (nI 0)), (0, .ref (g.2.2.2 0)), (1, .ref (g.2.2.2 7)), (2, .int (nI n))]) hx hb dX11_isJumping_1 rfl hl (by decide) rfl (fun ls hl => ?_)
  have lp2 : ∀ (fu : Nat), ∀ (i : Nat) (f : Nat → Nat), (i ≤ 3) → (∀ x, x < i → f x = 0) → 3 - i < fu → ∀ (H : Heap) (locs : List Loc), va_P (g.1, g.2.1) vwCl (wM g (sA σ 8 f) ++ tl) H → va_D A (wM g (sA σ 8 f) ++ tl) → va_S A s.heap H locs → ∀ ls : Array Slot, lv_has ls 4 [(0, .ref (g.2.2.2 0)), (1, .ref (g.2.2.2 7)), (2, .int (nI n)), (3, .int (nI i))] → W p l e r_c_X11_isJumping_7 s m ([.ref (g.2.2.2 0), .ref (g.2.2.2 7), .int (nI n)] : List Value).toArray below meth c H locs 0 0 Q (F0 m 2 ls []) := by
    intro fu
    induction fu with
    | zero => intro i f h1 h2 hf; exact absurd hf (Nat.not_lt_zero _)
    | succ fu ih2 =>
      intro i f h1 h2 hf H locs hP hD hS ls hl
      refine lv_iload_n hx hb dX11_isJumping_2 rfl (lv_at hl 3 rfl) ?_
      refine lv_iconst (v := nI 3) hx hb dX11_isJumping_3 (by decide) ?_
      refine jn_cge hx hb (by omega) (by decide) (tgt := 20) dX11_isJumping_4 (by decide) (fun c_4 => ?_) (fun c_4 => ?_)
      · refine lv_iconst (v := nI 0) hx hb dX11_isJumping_20 (by decide) ?_
        refine lv_istore_n (lv' := [(3, .int (nI 0)), (0, .ref (g.2.2.2 0)), (1, .ref (g.2.2.2 7)), (2, .int (nI n))]) hx hb dX11_isJumping_21 rfl hl (by decide) rfl (fun ls hl => ?_)
        have lp22 : ∀ (fu : Nat), ∀ (i : Nat) (f : Nat → Nat), (i ≤ n) → (∀ x, x < 3 → f x = cntW (σ.2.1 6) i x) → n - i < fu → ∀ (H : Heap) (locs : List Loc), va_P (g.1, g.2.1) vwCl (wM g (sA σ 8 f) ++ tl) H → va_D A (wM g (sA σ 8 f) ++ tl) → va_S A s.heap H locs → ∀ ls : Array Slot, lv_has ls 4 [(0, .ref (g.2.2.2 0)), (1, .ref (g.2.2.2 7)), (2, .int (nI n)), (3, .int (nI i))] → W p l e r_c_X11_isJumping_7 s m ([.ref (g.2.2.2 0), .ref (g.2.2.2 7), .int (nI n)] : List Value).toArray below meth c H locs 0 0 Q (F0 m 22 ls []) := by
          intro fu
          induction fu with
          | zero => intro i f h3 h4 hf; exact absurd hf (Nat.not_lt_zero _)
          | succ fu ih22 =>
            intro i f h3 h4 hf H locs hP hD hS ls hl
            refine lv_iload_n hx hb dX11_isJumping_22 rfl (lv_at hl 3 rfl) ?_
            refine lv_iload_n hx hb dX11_isJumping_23 rfl (lv_at hl 2 rfl) ?_
            refine jn_cge hx hb (by omega) (by omega) (tgt := 45) dX11_isJumping_24 (by decide) (fun c_24 => ?_) (fun c_24 => ?_)
            · have e0 := h4 0 (by decide)
              have e1 := h4 1 (by decide)
              have e2 := h4 2 (by decide)
              have k0 := cntW_le (σ.2.1 6) i 0
              have k1 := cntW_le (σ.2.1 6) i 1
              have k2 := cntW_le (σ.2.1 6) i 2
              refine lv_aload_n hx hb dX11_isJumping_45 rfl (lv_at hl 0 rfl) ?_
              refine lv_aload_n hx hb dX11_isJumping_46 rfl (lv_at hl 0 rfl) ?_
              refine va_get (D := (g.1, g.2.1)) (ci := 13) (v := .ref (g.2.2.2 9)) (C := RX11) (T := TX11) (N := 30) hx hb hts iX11 hown hK.1 hP 0 (gM0 g (sA σ 8 f) tl) rfl 15 (by decide) k57 (fun _ h9 => h9) rfl dX11_isJumping_47 ?_
              refine lv_iconst (v := nI 0) hx hb dX11_isJumping_50 (by decide) ?_
              refine jn_iald (f := f) hx hb hK.1 hP 9 0 (gM9 g (sA σ 8 f) tl) rfl (by decide) (Nat.le_of_ble_eq_true rfl) dX11_isJumping_51 ?_
              refine lv_aload_n hx hb dX11_isJumping_52 rfl (lv_at hl 0 rfl) ?_
              refine va_get (D := (g.1, g.2.1)) (ci := 13) (v := .ref (g.2.2.2 9)) (C := RX11) (T := TX11) (N := 30) hx hb hts iX11 hown hK.1 hP 0 (gM0 g (sA σ 8 f) tl) rfl 15 (by decide) k57 (fun _ h9 => h9) rfl dX11_isJumping_53 ?_
              refine lv_iconst (v := nI 1) hx hb dX11_isJumping_56 (by decide) ?_
              refine jn_iald (f := f) hx hb hK.1 hP 9 0 (gM9 g (sA σ 8 f) tl) rfl (by decide) (Nat.le_of_ble_eq_true rfl) dX11_isJumping_57 ?_
              refine lv_aload_n hx hb dX11_isJumping_58 rfl (lv_at hl 0 rfl) ?_
              refine va_get (D := (g.1, g.2.1)) (ci := 13) (v := .ref (g.2.2.2 9)) (C := RX11) (T := TX11) (N := 30) hx hb hts iX11 hown hK.1 hP 0 (gM0 g (sA σ 8 f) tl) rfl 15 (by decide) k57 (fun _ h9 => h9) rfl dX11_isJumping_59 ?_
              refine lv_iconst (v := nI 2) hx hb dX11_isJumping_62 (by decide) ?_
              refine jn_iald (f := f) hx hb hK.1 hP 9 0 (gM9 g (sA σ 8 f) tl) rfl (by decide) (Nat.le_of_ble_eq_true rfl) dX11_isJumping_63 ?_
              refine vp_callSi (va_Run.run (va_runV (As := [.int (nI (f 0)), .int (nI (f 1)), .int (nI (f 2))]) (rest := []) ⟨hx, hb, hml, hown, hts⟩ (c_X11_isReached l g tl (sA σ 8 f) (f 0) (f 1) (f 2) hF (by omega) (by omega) (by omega)) (cwV 3 hts gX11_isJumping_X11_isReached rfl rfl rfl (by decide +kernel) ⟨Nat.le_of_ble_eq_true rfl, Nat.le_of_ble_eq_true rfl⟩) (okPV hK hP rfl (gM0 g (sA σ 8 f) tl)) rfl rfl hl.1 rfl (lv_room (Nat.le_of_ble_eq_true rfl)) dX11_isJumping_64 ⟨Nat.le_of_ble_eq_true rfl, Nat.le_of_ble_eq_true rfl⟩)) (fun r_64 h_64 => ?_)
              have h_64 : r_64 = (nI (if (σ.2.1 7) (100 * (f 0) + 10 * (f 1) + (f 2)) &&& ((σ.2.1 0) 15) ≠ 0 then 1 else 0)) := h_64
              subst h_64
              exact hq _ _ _ _ ((nI (if (σ.2.1 7) (100 * (f 0) + 10 * (f 1) + (f 2)) &&& ((σ.2.1 0) 15) ≠ 0 then 1 else 0))) (f) dX11_isJumping_67 (jn_nb _) (ifn (by rw [hB _ _ _ (by omega) (by omega) (by omega), e0, e1, e2, show i = n by omega])) hP hD hS
            · refine lv_aload_n hx hb dX11_isJumping_27 rfl (lv_at hl 0 rfl) ?_
              refine va_get (D := (g.1, g.2.1)) (ci := 13) (v := .ref (g.2.2.2 9)) (C := RX11) (T := TX11) (N := 30) hx hb hts iX11 hown hK.1 hP 0 (gM0 g (sA σ 8 f) tl) rfl 15 (by decide) k57 (fun _ h9 => h9) rfl dX11_isJumping_28 ?_
              refine lv_aload_n hx hb dX11_isJumping_31 rfl (lv_at hl 1 rfl) ?_
              refine lv_iload_n hx hb dX11_isJumping_32 rfl (lv_at hl 3 rfl) ?_
              refine jn_iald (f := σ.2.1 6) hx hb hK.1 hP 7 0 (gM7 g (sA σ 8 f) tl) rfl (by omega) (Nat.le_of_ble_eq_true rfl) dX11_isJumping_33 ?_
              refine lv_dup2_11 hx hb dX11_isJumping_34 rfl rfl ?_
              refine jn_iald (f := f) hx hb hK.1 hP 9 0 (gM9 g (sA σ 8 f) tl) rfl (hw i (by omega)) (Nat.le_of_ble_eq_true rfl) dX11_isJumping_35 ?_
              refine lv_iconst (v := nI 1) hx hb dX11_isJumping_36 (by decide) ?_
              refine jn_iadd hx hb dX11_isJumping_37 ?_
              refine jn_iast (f := f) hx hb hK.1 hP hD hS 9 0 (gM9 g (sA σ 8 f) tl) rfl (hw i (by omega)) (Nat.le_of_ble_eq_true rfl) (uM_A8 g (sA σ 8 f) tl _) dX11_isJumping_38 (fun H locs hP hD hS => ?_)
              refine lv_iinc (v := nI (i + 1)) (lv' := [(3, .int (nI (i + 1))), (0, .ref (g.2.2.2 0)), (1, .ref (g.2.2.2 7)), (2, .int (nI n))]) hx hb dX11_isJumping_39 hl (k := 3) rfl (jn_ii _ 1) (by decide) rfl (fun ls hl => ?_)
              refine lv_goto (tgt := 22) hx hb dX11_isJumping_42 (by decide) ?_
              exact ih22 (i + 1) (va_up f ((σ.2.1 6) i) ((f ((σ.2.1 6) i)) + 1)) (by omega) (cntW_put h4 (hw i (by omega))) (by omega) _ _ hP hD hS _ (lv_sub hl [1, 2, 3, 0] rfl)
        exact lp22 _ 0 f (by omega) (fun x hx => h2 x (by omega)) (Nat.lt_succ_self _) _ _ hP hD hS _ (lv_sub hl [1, 2, 3, 0] rfl)
      · refine lv_aload_n hx hb dX11_isJumping_7 rfl (lv_at hl 0 rfl) ?_
        refine va_get (D := (g.1, g.2.1)) (ci := 13) (v := .ref (g.2.2.2 9)) (C := RX11) (T := TX11) (N := 30) hx hb hts iX11 hown hK.1 hP 0 (gM0 g (sA σ 8 f) tl) rfl 15 (by decide) k57 (fun _ h9 => h9) rfl dX11_isJumping_8 ?_
        refine lv_iload_n hx hb dX11_isJumping_11 rfl (lv_at hl 3 rfl) ?_
        refine lv_iconst (v := nI 0) hx hb dX11_isJumping_12 (by decide) ?_
        refine jn_iast (f := f) hx hb hK.1 hP hD hS 9 0 (gM9 g (sA σ 8 f) tl) rfl (by omega) (Nat.le_of_ble_eq_true rfl) (uM_A8 g (sA σ 8 f) tl _) dX11_isJumping_13 (fun H locs hP hD hS => ?_)
        refine lv_iinc (v := nI (i + 1)) (lv' := [(3, .int (nI (i + 1))), (0, .ref (g.2.2.2 0)), (1, .ref (g.2.2.2 7)), (2, .int (nI n))]) hx hb dX11_isJumping_14 hl (k := 3) rfl (jn_ii _ 1) (by decide) rfl (fun ls hl => ?_)
        refine lv_goto (tgt := 2) hx hb dX11_isJumping_17 (by decide) ?_
        exact ih2 (i + 1) (va_up f i 0) (by omega) (fun k hk => by unfold va_up; split <;> first | rfl | exact h2 k (by omega)) (by omega) _ _ hP hD hS _ (lv_sub hl [1, 2, 3, 0] rfl)
  exact lp2 _ 0 (σ.2.1 8) (by decide) (fun k hk => absurd hk (by omega)) (Nat.lt_succ_self _) _ _ hP hD hS _ (lv_sub hl [1, 2, 3, 0] rfl)

abbrev r_c_X11_foundMany : Room := { frames := 0, cells := 0, slots := 0, locals := 0 }
set_option maxHeartbeats 4000000 in
set_option maxRecDepth 100000 in
theorem c_X11_foundMany (l : Launch) (g : GC) (tl : va_W) (σ : SS) (hFd : ∀ k, k < 1000 → (σ.2.1 13) k < 2) : Met l yX11_foundMany wsX11_foundMany r_c_X11_foundMany (va_Pc [.ref (g.2.2.2 0)] (PP g (wM g σ ++ tl))) (vp_Si (fun r => r = nI (fb_ct (fdB (σ.2.1 13)) 1000))) 0 0 (fun _ => False) := by
  refine jn_pi (cc := cX11_foundMany) (maxL := 3) (own := RX11) (by decide) rfl rfl (Nat.le_of_ble_eq_true rfl) ?_
  intro p e s m below meth c Q hx hb hml hown hts ⟨hP, hK⟩ hq ls hl
  have hl : lv_has ls 3 [(0, .ref (g.2.2.2 0))] := hl
  have iX11 : ∀ w ∈ wsX110, w ∈ wsX11_foundMany := by decide +kernel
  have k95 := hts (.fieldLink RX11 95 "JumpingAutomataModel" "found" "[Z") (by decide +kernel)
  refine lv_iconst (v := nI 0) hx hb dX11_foundMany_0 (by decide) ?_
  refine lv_istore_n (lv' := [(1, .int (nI 0)), (0, .ref (g.2.2.2 0))]) hx hb dX11_foundMany_1 rfl hl (by decide) rfl (fun ls hl => ?_)
  refine lv_iconst (v := nI 0) hx hb dX11_foundMany_2 (by decide) ?_
  refine lv_istore_n (lv' := [(2, .int (nI 0)), (1, .int (nI 0)), (0, .ref (g.2.2.2 0))]) hx hb dX11_foundMany_3 rfl hl (by decide) rfl (fun ls hl => ?_)
  have lp4 : ∀ (fu : Nat), ∀ (k : Nat) (z : Nat), (k ≤ 1000) → (z = fb_ct (fdB (σ.2.1 13)) k) → 1000 - k < fu → ∀ ls : Array Slot, lv_has ls 3 [(0, .ref (g.2.2.2 0)), (1, .int (nI z)), (2, .int (nI k))] → W p l e r_c_X11_foundMany s m ([.ref (g.2.2.2 0)] : List Value).toArray below meth c s.heap [] 0 0 Q (F0 m 4 ls []) := by
    intro fu
    induction fu with
    | zero => intro k z h1 h2 hf; exact absurd hf (Nat.not_lt_zero _)
    | succ fu ih4 =>
      intro k z h1 h2 hf ls hl
      refine lv_iload_n hx hb dX11_foundMany_4 rfl (lv_at hl 2 rfl) ?_
      refine lv_sipush (v := nI 1000) hx hb dX11_foundMany_5 (by decide) ?_
      refine jn_cge hx hb (by omega) (by decide) (tgt := 34) dX11_foundMany_8 (by decide) (fun c_8 => ?_) (fun c_8 => ?_)
      · refine lv_iload_n hx hb dX11_foundMany_34 rfl (lv_at hl 1 rfl) ?_
        exact hq _ _ ((nI z)) dX11_foundMany_35 (by rw [h2, show k = 1000 by omega])
      · refine lv_iload_n hx hb dX11_foundMany_11 rfl (lv_at hl 1 rfl) ?_
        refine lv_aload_n hx hb dX11_foundMany_12 rfl (lv_at hl 0 rfl) ?_
        refine va_get (D := (g.1, g.2.1)) (ci := 13) (v := .ref (g.2.2.2 16)) (C := RX11) (T := TX11) (N := 30) hx hb hts iX11 hown hK.1 hP 0 (gM0 g σ tl) rfl 27 (by decide) k95 (fun _ h9 => h9) rfl dX11_foundMany_13 ?_
        refine lv_iload_n hx hb dX11_foundMany_16 rfl (lv_at hl 2 rfl) ?_
        refine jn_zald (f := σ.2.1 13) hx hb hK.1 hP 16 2 (gM16 g σ tl) rfl (by omega) (Nat.le_of_ble_eq_true rfl) dX11_foundMany_17 ?_
        have jp26 : ∀ v26 : Nat, v26 = (if (σ.2.1 13) k ≠ 0 then 1 else 0) → W p l e r_c_X11_foundMany s m ([.ref (g.2.2.2 0)] : List Value).toArray below meth c s.heap [] 0 0 Q (F0 m 26 ls [.int (nI v26), .int (nI z)]) := by
          intro v26 ev26
          refine jn_iadd hx hb dX11_foundMany_26 ?_
          refine lv_istore_n (lv' := [(1, .int (nI (z + v26))), (0, .ref (g.2.2.2 0)), (2, .int (nI k))]) hx hb dX11_foundMany_27 rfl hl (by decide) rfl (fun ls hl => ?_)
          refine lv_iinc (v := nI (k + 1)) (lv' := [(2, .int (nI (k + 1))), (1, .int (nI (z + v26))), (0, .ref (g.2.2.2 0))]) hx hb dX11_foundMany_28 hl (k := 2) rfl (jn_ii _ 1) (by decide) rfl (fun ls hl => ?_)
          refine lv_goto (tgt := 4) hx hb dX11_foundMany_31 (by decide) ?_
          exact ih4 (k + 1) (z + v26) (by omega) (by rw [ev26]; by_cases q : (σ.2.1 13) k ≠ 0; { rw [if_pos q]; exact ct_y h2 (decide_eq_true q) }; { rw [if_neg q]; exact ct_n h2 (decide_eq_false q) }) (by omega) _ (lv_sub hl [2, 1, 0] rfl)
        refine jn_zeq hx hb (by have := hFd k (by omega); omega) (tgt := 25) dX11_foundMany_18 (by decide) (fun c_18 => ?_) (fun c_18 => ?_)
        · refine lv_iconst (v := nI 0) hx hb dX11_foundMany_25 (by decide) ?_
          exact jp26 0 (by rw [if_neg (by omega)])
        · refine lv_iconst (v := nI 1) hx hb dX11_foundMany_21 (by decide) ?_
          refine lv_goto (tgt := 26) hx hb dX11_foundMany_22 (by decide) ?_
          exact jp26 1 (by rw [if_pos c_18])
  exact lp4 _ 0 0 (by decide) rfl (Nat.lt_succ_self _) _ (lv_sub hl [2, 1, 0] rfl)

abbrev r_c_X11_foundAt : Room := { frames := 1, cells := 0, slots := 0, locals := 21 }
set_option maxHeartbeats 4000000 in
set_option maxRecDepth 100000 in
theorem c_X11_foundAt (l : Launch) (g : GC) (tl : va_W) (sz : Nat) (σ : SS) (idx : Nat) (hFd : ∀ k, k < 1000 → (σ.2.1 13) k < 2) (hi : idx < 4294967296) : Met l yX11_foundAt wsX11_foundAt r_c_X11_foundAt (va_Pc [.ref (g.2.2.2 0), .int (nI idx)] (PW g (wM g σ ++ tl) sz)) (va_Qi (fun (r : Int32) (z : Nat × Nat) => match z with | (r0, th) => (r = nI (r0)) ∧ ((idx < fb_ct (fdB (σ.2.1 13)) 1000 ∧ th = σ.1 0 ∧ r0 = kth (fdB (σ.2.1 13)) idx 1000) ∨ (¬ idx < fb_ct (fdB (σ.2.1 13)) 1000 ∧ th = 1 ∧ r0 = 0))) (fun (z : Nat × Nat) t => BW g (va_A (wM g σ ++ tl) sz) ((fun z : Nat × Nat => match z with | (r0, th) => wM g (sF σ 0 th) ++ tl) z) t) (va_A (wM g σ ++ tl) sz)) 0 0 (va_A (wM g σ ++ tl) sz) := by
  refine jn_si (wf := fun z : Nat × Nat => match z with | (r0, th) => wM g (sF σ 0 th) ++ tl) (cc := cX11_foundAt) (maxL := 4) (own := RX11) (by decide) rfl rfl (Nat.le_of_ble_eq_true rfl) ?_
  intro p e s m below meth c Q A hx hb hml hown hts hK hP hD hS hAA hq ls hl
  obtain ⟨H, eH⟩ : ∃ z, z = s.heap := ⟨_, rfl⟩
  obtain ⟨locs, el⟩ : ∃ z : List Loc, z = [] := ⟨_, rfl⟩
  rw [← eH] at hP
  have hS : va_S A s.heap H locs := by rw [eH, el]; exact hS
  have goal0 : W p l e r_c_X11_foundAt s m ([.ref (g.2.2.2 0), .int (nI idx)] : List Value).toArray below meth c H locs 0 0 Q (F0 m 0 ls []) → W p l e r_c_X11_foundAt s m ([.ref (g.2.2.2 0), .int (nI idx)] : List Value).toArray below meth c s.heap [] 0 0 Q (F0 m 0 ls []) := fun h => by rw [eH, el] at h; exact h
  refine goal0 ?_
  have hl : lv_has ls 4 [(0, .ref (g.2.2.2 0)), (1, .int (nI idx))] := hl
  have iX11 : ∀ w ∈ wsX110, w ∈ wsX11_foundAt := by decide +kernel
  have k95 := hts (.fieldLink RX11 95 "JumpingAutomataModel" "found" "[Z") (by decide +kernel)
  have hcl := fb_ct_le (fdB (σ.2.1 13)) 1000
  refine lv_iload_n hx hb dX11_foundAt_0 rfl (lv_at hl 1 rfl) ?_
  refine lv_istore_n (lv' := [(2, .int (nI idx)), (0, .ref (g.2.2.2 0)), (1, .int (nI idx))]) hx hb dX11_foundAt_1 rfl hl (by decide) rfl (fun ls hl => ?_)
  refine lv_iconst (v := nI 0) hx hb dX11_foundAt_2 (by decide) ?_
  refine lv_istore_n (lv' := [(3, .int (nI 0)), (2, .int (nI idx)), (0, .ref (g.2.2.2 0)), (1, .int (nI idx))]) hx hb dX11_foundAt_3 rfl hl (by decide) rfl (fun ls hl => ?_)
  have lp4 : ∀ (fu : Nat), ∀ (k : Nat) (lf : Nat), (k ≤ 1000) → (lf + fb_ct (fdB (σ.2.1 13)) k = idx) → 1000 - k < fu → ∀ (H : Heap) (locs : List Loc), va_P (g.1, g.2.1) vwCl (wM g σ ++ tl) H → va_D A (wM g σ ++ tl) → va_S A s.heap H locs → ∀ ls : Array Slot, lv_has ls 4 [(0, .ref (g.2.2.2 0)), (1, .int (nI idx)), (2, .int (nI lf)), (3, .int (nI k))] → W p l e r_c_X11_foundAt s m ([.ref (g.2.2.2 0), .int (nI idx)] : List Value).toArray below meth c H locs 0 0 Q (F0 m 4 ls []) := by
    intro fu
    induction fu with
    | zero => intro k lf h1 h2 hf; exact absurd hf (Nat.not_lt_zero _)
    | succ fu ih4 =>
      intro k lf h1 h2 hf H locs hP hD hS ls hl
      refine lv_iload_n hx hb dX11_foundAt_4 rfl (lv_at hl 3 rfl) ?_
      refine lv_sipush (v := nI 1000) hx hb dX11_foundAt_5 (by decide) ?_
      refine jn_cge hx hb (by omega) (by decide) (tgt := 42) dX11_foundAt_8 (by decide) (fun c_8 => ?_) (fun c_8 => ?_)
      · refine lv_aload_n hx hb dX11_foundAt_42 rfl (lv_at hl 0 rfl) ?_
        refine lv_iconst (v := nI 1) hx hb dX11_foundAt_43 (by decide) ?_
        refine jn_calli (va_runV (As := [.int (nI 1)]) (rest := []) ⟨hx, hb, hml, hown, hts⟩ (c_X11_fails l g tl H.size σ 1) (cwV 1 hts gX11_foundAt_X11_fails rfl rfl rfl (by decide +kernel) ⟨Nat.le_of_ble_eq_true rfl, Nat.le_of_ble_eq_true rfl⟩) (okWV hK hP hD rfl (gM0 g σ tl)) rfl rfl hl.1 rfl (lv_room (Nat.le_of_ble_eq_true rfl)) dX11_foundAt_44 ⟨Nat.le_of_ble_eq_true rfl, Nat.le_of_ble_eq_true rfl⟩) hD hS hAA (fun r_44 u H locs hw_ hP hD hS => ?_)
        obtain rfl := hw_
        have hP : va_P (g.1, g.2.1) vwCl (wM g (sF σ 0 1) ++ tl) H := hP
        have hD : va_D A (wM g (sF σ 0 1) ++ tl) := hD
        exact hq _ _ _ _ ((nI 0)) (0, 1) dX11_foundAt_47 ⟨rfl, Or.inr ⟨by first | omega | (rw [show k = 1000 by omega] at h2; omega), rfl, rfl⟩⟩ hP hD hS
      · refine lv_iload_n hx hb dX11_foundAt_11 rfl (lv_at hl 1 rfl) ?_
        refine jn_zlt hx hb (by omega) (tgt := 42) dX11_foundAt_12 (by decide) (fun c_12 => ?_) (fun c_12 => ?_)
        · refine lv_aload_n hx hb dX11_foundAt_42 rfl (lv_at hl 0 rfl) ?_
          refine lv_iconst (v := nI 1) hx hb dX11_foundAt_43 (by decide) ?_
          refine jn_calli (va_runV (As := [.int (nI 1)]) (rest := []) ⟨hx, hb, hml, hown, hts⟩ (c_X11_fails l g tl H.size σ 1) (cwV 1 hts gX11_foundAt_X11_fails rfl rfl rfl (by decide +kernel) ⟨Nat.le_of_ble_eq_true rfl, Nat.le_of_ble_eq_true rfl⟩) (okWV hK hP hD rfl (gM0 g σ tl)) rfl rfl hl.1 rfl (lv_room (Nat.le_of_ble_eq_true rfl)) dX11_foundAt_44 ⟨Nat.le_of_ble_eq_true rfl, Nat.le_of_ble_eq_true rfl⟩) hD hS hAA (fun r_44 u H locs hw_ hP hD hS => ?_)
          obtain rfl := hw_
          have hP : va_P (g.1, g.2.1) vwCl (wM g (sF σ 0 1) ++ tl) H := hP
          have hD : va_D A (wM g (sF σ 0 1) ++ tl) := hD
          exact hq _ _ _ _ ((nI 0)) (0, 1) dX11_foundAt_47 ⟨rfl, Or.inr ⟨by first | omega | (rw [show k = 1000 by omega] at h2; omega), rfl, rfl⟩⟩ hP hD hS
        · refine lv_aload_n hx hb dX11_foundAt_15 rfl (lv_at hl 0 rfl) ?_
          refine va_get (D := (g.1, g.2.1)) (ci := 13) (v := .ref (g.2.2.2 16)) (C := RX11) (T := TX11) (N := 30) hx hb hts iX11 hown hK.1 hP 0 (gM0 g σ tl) rfl 27 (by decide) k95 (fun _ h9 => h9) rfl dX11_foundAt_16 ?_
          refine lv_iload_n hx hb dX11_foundAt_19 rfl (lv_at hl 3 rfl) ?_
          refine jn_zald (f := σ.2.1 13) hx hb hK.1 hP 16 2 (gM16 g σ tl) rfl (by omega) (Nat.le_of_ble_eq_true rfl) dX11_foundAt_20 ?_
          refine jn_zne hx hb (by have := hFd k (by omega); omega) (tgt := 27) dX11_foundAt_21 (by decide) (fun c_21 => ?_) (fun c_21 => ?_)
          · refine lv_iload_n hx hb dX11_foundAt_27 rfl (lv_at hl 2 rfl) ?_
            refine jn_zne hx hb (by omega) (tgt := 33) dX11_foundAt_28 (by decide) (fun c_28 => ?_) (fun c_28 => ?_)
            · refine lv_iinc (v := nI (lf - 1)) (lv' := [(2, .int (nI (lf - 1))), (0, .ref (g.2.2.2 0)), (1, .int (nI idx)), (3, .int (nI k))]) hx hb dX11_foundAt_33 hl (k := 2) rfl (jn_im (by omega)) (by decide) rfl (fun ls hl => ?_)
              refine lv_iinc (v := nI (k + 1)) (lv' := [(3, .int (nI (k + 1))), (2, .int (nI (lf - 1))), (0, .ref (g.2.2.2 0)), (1, .int (nI idx))]) hx hb dX11_foundAt_36 hl (k := 3) rfl (jn_ii _ 1) (by decide) rfl (fun ls hl => ?_)
              refine lv_goto (tgt := 4) hx hb dX11_foundAt_39 (by decide) ?_
              exact ih4 (k + 1) (lf - 1) (by omega) (by first | exact ct_l h2 (by omega) (decide_eq_true c_21) | exact ct_m h2 (decide_eq_false (fun q => q c_21))) (by omega) _ _ hP hD hS _ (lv_sub hl [2, 3, 1, 0] rfl)
            · refine lv_iload_n hx hb dX11_foundAt_31 rfl (lv_at hl 3 rfl) ?_
              exact hq _ _ _ _ ((nI k)) (k, (σ.1 0)) dX11_foundAt_32 ⟨rfl, Or.inl ⟨by have := fb_ct_mono (fdB (σ.2.1 13)) (show k + 1 ≤ 1000 by omega); have h7 := ct_y (z := fb_ct (fdB (σ.2.1 13)) k) rfl (decide_eq_true c_21); omega, rfl, (kth_eq (by omega) (decide_eq_true c_21) (by omega)).symm⟩⟩ hP hD hS
          · refine lv_goto (tgt := 36) hx hb dX11_foundAt_24 (by decide) ?_
            refine lv_iinc (v := nI (k + 1)) (lv' := [(3, .int (nI (k + 1))), (0, .ref (g.2.2.2 0)), (1, .int (nI idx)), (2, .int (nI lf))]) hx hb dX11_foundAt_36 hl (k := 3) rfl (jn_ii _ 1) (by decide) rfl (fun ls hl => ?_)
            refine lv_goto (tgt := 4) hx hb dX11_foundAt_39 (by decide) ?_
            exact ih4 (k + 1) lf (by omega) (by first | exact ct_l h2 (by omega) (decide_eq_true c_21) | exact ct_m h2 (decide_eq_false (fun q => q c_21))) (by omega) _ _ hP hD hS _ (lv_sub hl [1, 2, 3, 0] rfl)
  exact lp4 _ 0 idx (by decide) rfl (Nat.lt_succ_self _) _ _ hP hD hS _ (lv_sub hl [2, 3, 1, 0] rfl)

abbrev r_c_X11_transition : Room := { frames := 1, cells := 0, slots := 0, locals := 21 }
set_option maxHeartbeats 4000000 in
set_option maxRecDepth 100000 in
theorem c_X11_transition (l : Launch) (g : GC) (tl : va_W) (sz : Nat) (σ : SS) (idx : Nat) (hT : OkT (σ.2.1 0)) (hi : idx < 4294967296) : Met l yX11_transition wsX11_transition r_c_X11_transition (va_Pc [.ref (g.2.2.2 0), .int (nI idx)] (PW g (wM g σ ++ tl) sz)) (va_Qi (fun (r : Int32) (z : Nat × Nat) => match z with | (r0, th) => (r = nI (r0)) ∧ ((idx < fb_ct (pT (σ.2.1 0)) 75 ∧ th = 0 ∧ r0 = cdT (kth (pT (σ.2.1 0)) idx 75)) ∨ (¬ idx < fb_ct (pT (σ.2.1 0)) 75 ∧ th = 1 ∧ r0 = 0))) (fun (z : Nat × Nat) t => BW g (va_A (wM g σ ++ tl) sz) ((fun z : Nat × Nat => match z with | (r0, th) => wM g (sF σ 0 th) ++ tl) z) t) (va_A (wM g σ ++ tl) sz)) 0 0 (va_A (wM g σ ++ tl) sz) := by
  refine jn_si (wf := fun z : Nat × Nat => match z with | (r0, th) => wM g (sF σ 0 th) ++ tl) (cc := cX11_transition) (maxL := 5) (own := RX11) (by decide) rfl rfl (Nat.le_of_ble_eq_true rfl) ?_
  intro p e s m below meth c Q A hx hb hml hown hts hK hP hD hS hAA hq ls hl
  obtain ⟨H, eH⟩ : ∃ z, z = s.heap := ⟨_, rfl⟩
  obtain ⟨locs, el⟩ : ∃ z : List Loc, z = [] := ⟨_, rfl⟩
  rw [← eH] at hP
  have hS : va_S A s.heap H locs := by rw [eH, el]; exact hS
  have goal0 : W p l e r_c_X11_transition s m ([.ref (g.2.2.2 0), .int (nI idx)] : List Value).toArray below meth c H locs 0 0 Q (F0 m 0 ls []) → W p l e r_c_X11_transition s m ([.ref (g.2.2.2 0), .int (nI idx)] : List Value).toArray below meth c s.heap [] 0 0 Q (F0 m 0 ls []) := fun h => by rw [eH, el] at h; exact h
  refine goal0 ?_
  have hl : lv_has ls 5 [(0, .ref (g.2.2.2 0)), (1, .int (nI idx))] := hl
  have iX11 : ∀ w ∈ wsX110, w ∈ wsX11_transition := by decide +kernel
  have k1 := hts (.fieldLink RX11 1 "JumpingAutomataModel" "thrown" "I") (by decide +kernel)
  have k13 := hts (.fieldLink RX11 13 "JumpingAutomataModel" "now" "[I") (by decide +kernel)
  have hcl := fb_ct_le (pT (σ.2.1 0)) 75
  refine lv_aload_n hx hb dX11_transition_0 rfl (lv_at hl 0 rfl) ?_
  refine lv_iconst (v := nI 0) hx hb dX11_transition_1 (by decide) ?_
  refine jn_put (D := (g.1, g.2.1)) (ci := 13) (v := .int (nI 0)) (ty := .int) (C := RX11) (T := TX11) (N := 30) hx hb hts iX11 tyX11 tyX11_ok nmX11 hown hK.1 hP hD hS 0 (gM0 g σ tl) rfl 0 (by decide) k1 (fun _ h9 => h9) rfl (by decide +kernel) rfl rfl (Nat.le_of_ble_eq_true rfl) (uM_F0 g σ tl 0) dX11_transition_2 (fun H locs hP hD hS => ?_)
  refine lv_iload_n hx hb dX11_transition_5 rfl (lv_at hl 1 rfl) ?_
  refine lv_istore_n (lv' := [(2, .int (nI idx)), (0, .ref (g.2.2.2 0)), (1, .int (nI idx))]) hx hb dX11_transition_6 rfl hl (by decide) rfl (fun ls hl => ?_)
  refine lv_iconst (v := nI 0) hx hb dX11_transition_7 (by decide) ?_
  refine lv_istore_n (lv' := [(3, .int (nI 0)), (2, .int (nI idx)), (0, .ref (g.2.2.2 0)), (1, .int (nI idx))]) hx hb dX11_transition_8 rfl hl (by decide) rfl (fun ls hl => ?_)
  have lp9 : ∀ (fu : Nat), ∀ (k : Nat) (lf : Nat), (k ≤ 15) → (lf + fb_ct (pT (σ.2.1 0)) (5 * k) = idx) → 15 - k < fu → ∀ (H : Heap) (locs : List Loc), va_P (g.1, g.2.1) vwCl (wM g (sF σ 0 0) ++ tl) H → va_D A (wM g (sF σ 0 0) ++ tl) → va_S A s.heap H locs → ∀ ls : Array Slot, lv_has ls 5 [(0, .ref (g.2.2.2 0)), (1, .int (nI idx)), (2, .int (nI lf)), (3, .int (nI k))] → W p l e r_c_X11_transition s m ([.ref (g.2.2.2 0), .int (nI idx)] : List Value).toArray below meth c H locs 0 0 Q (F0 m 9 ls []) := by
    intro fu
    induction fu with
    | zero => intro k lf h1 h2 hf; exact absurd hf (Nat.not_lt_zero _)
    | succ fu ih9 =>
      intro k lf h1 h2 hf H locs hP hD hS ls hl
      refine lv_iload_n hx hb dX11_transition_9 rfl (lv_at hl 3 rfl) ?_
      refine lv_bipush (v := nI 15) hx hb dX11_transition_10 (by decide) ?_
      refine jn_cge hx hb (by omega) (by decide) (tgt := 81) dX11_transition_12 (by decide) (fun c_12 => ?_) (fun c_12 => ?_)
      · refine lv_aload_n hx hb dX11_transition_81 rfl (lv_at hl 0 rfl) ?_
        refine lv_iconst (v := nI 1) hx hb dX11_transition_82 (by decide) ?_
        refine jn_calli (va_runV (As := [.int (nI 1)]) (rest := []) ⟨hx, hb, hml, hown, hts⟩ (c_X11_fails l g tl H.size (sF σ 0 0) 1) (cwV 1 hts gX11_transition_X11_fails rfl rfl rfl (by decide +kernel) ⟨Nat.le_of_ble_eq_true rfl, Nat.le_of_ble_eq_true rfl⟩) (okWV hK hP hD rfl (gM0 g (sF σ 0 0) tl)) rfl rfl hl.1 rfl (lv_room (Nat.le_of_ble_eq_true rfl)) dX11_transition_83 ⟨Nat.le_of_ble_eq_true rfl, Nat.le_of_ble_eq_true rfl⟩) hD hS hAA (fun r_83 u H locs hw_ hP hD hS => ?_)
        obtain rfl := hw_
        have hP : va_P (g.1, g.2.1) vwCl (wM g (sF (sF σ 0 0) 0 1) ++ tl) H := hP
        have hD : va_D A (wM g (sF (sF σ 0 0) 0 1) ++ tl) := hD
        exact hq _ _ _ _ ((nI 0)) (0, 1) dX11_transition_86 ⟨rfl, Or.inr ⟨by first | omega | (rw [show 5 * k = 75 by omega] at h2; omega), rfl, rfl⟩⟩ hP hD hS
      · refine lv_iload_n hx hb dX11_transition_15 rfl (lv_at hl 1 rfl) ?_
        refine jn_zlt hx hb (by omega) (tgt := 81) dX11_transition_16 (by decide) (fun c_16 => ?_) (fun c_16 => ?_)
        · refine lv_aload_n hx hb dX11_transition_81 rfl (lv_at hl 0 rfl) ?_
          refine lv_iconst (v := nI 1) hx hb dX11_transition_82 (by decide) ?_
          refine jn_calli (va_runV (As := [.int (nI 1)]) (rest := []) ⟨hx, hb, hml, hown, hts⟩ (c_X11_fails l g tl H.size (sF σ 0 0) 1) (cwV 1 hts gX11_transition_X11_fails rfl rfl rfl (by decide +kernel) ⟨Nat.le_of_ble_eq_true rfl, Nat.le_of_ble_eq_true rfl⟩) (okWV hK hP hD rfl (gM0 g (sF σ 0 0) tl)) rfl rfl hl.1 rfl (lv_room (Nat.le_of_ble_eq_true rfl)) dX11_transition_83 ⟨Nat.le_of_ble_eq_true rfl, Nat.le_of_ble_eq_true rfl⟩) hD hS hAA (fun r_83 u H locs hw_ hP hD hS => ?_)
          obtain rfl := hw_
          have hP : va_P (g.1, g.2.1) vwCl (wM g (sF (sF σ 0 0) 0 1) ++ tl) H := hP
          have hD : va_D A (wM g (sF (sF σ 0 0) 0 1) ++ tl) := hD
          exact hq _ _ _ _ ((nI 0)) (0, 1) dX11_transition_86 ⟨rfl, Or.inr ⟨by first | omega | (rw [show 5 * k = 75 by omega] at h2; omega), rfl, rfl⟩⟩ hP hD hS
        · refine lv_iconst (v := nI 0) hx hb dX11_transition_19 (by decide) ?_
          refine lv_istore (lv' := [(4, .int (nI 0)), (0, .ref (g.2.2.2 0)), (1, .int (nI idx)), (2, .int (nI lf)), (3, .int (nI k))]) hx hb dX11_transition_20 hl (by decide) rfl (fun ls hl => ?_)
          have lp22 : ∀ (fu : Nat), ∀ (t0 : Nat) (lf : Nat), (t0 ≤ 5) → (lf + fb_ct (pT (σ.2.1 0)) (5 * k + t0) = idx) → 5 - t0 < fu → ∀ (H : Heap) (locs : List Loc), va_P (g.1, g.2.1) vwCl (wM g (sF σ 0 0) ++ tl) H → va_D A (wM g (sF σ 0 0) ++ tl) → va_S A s.heap H locs → ∀ ls : Array Slot, lv_has ls 5 [(0, .ref (g.2.2.2 0)), (1, .int (nI idx)), (2, .int (nI lf)), (3, .int (nI k)), (4, .int (nI t0))] → W p l e r_c_X11_transition s m ([.ref (g.2.2.2 0), .int (nI idx)] : List Value).toArray below meth c H locs 0 0 Q (F0 m 22 ls []) := by
            intro fu
            induction fu with
            | zero => intro t0 lf h3 h4 hf; exact absurd hf (Nat.not_lt_zero _)
            | succ fu ih22 =>
              intro t0 lf h3 h4 hf H locs hP hD hS ls hl
              refine lv_iload hx hb dX11_transition_22 (lv_at hl 4 rfl) ?_
              refine lv_iconst (v := nI 5) hx hb dX11_transition_24 (by decide) ?_
              refine jn_cge hx hb (by omega) (by decide) (tgt := 75) dX11_transition_25 (by decide) (fun c_25 => ?_) (fun c_25 => ?_)
              · refine lv_iinc (v := nI (k + 1)) (lv' := [(3, .int (nI (k + 1))), (0, .ref (g.2.2.2 0)), (1, .int (nI idx)), (2, .int (nI lf)), (4, .int (nI t0))]) hx hb dX11_transition_75 hl (k := 3) rfl (jn_ii _ 1) (by decide) rfl (fun ls hl => ?_)
                refine lv_goto (tgt := 9) hx hb dX11_transition_78 (by decide) ?_
                exact ih9 (k + 1) lf (by omega) (by rw [show t0 = 5 by omega] at h4; exact h4) (by omega) _ _ hP hD hS _ (lv_sub hl [1, 2, 3, 0] rfl)
              · refine lv_aload_n hx hb dX11_transition_28 rfl (lv_at hl 0 rfl) ?_
                refine va_get (D := (g.1, g.2.1)) (ci := 13) (v := .ref (g.2.2.2 1)) (C := RX11) (T := TX11) (N := 30) hx hb hts iX11 hown hK.1 hP 0 (gM0 g (sF σ 0 0) tl) rfl 1 (by decide) k13 (fun _ h9 => h9) rfl dX11_transition_29 ?_
                refine lv_iload_n hx hb dX11_transition_32 rfl (lv_at hl 3 rfl) ?_
                refine jn_iald (f := σ.2.1 0) hx hb hK.1 hP 1 0 (gM1 g (sF σ 0 0) tl) rfl (by omega) (Nat.le_of_ble_eq_true rfl) dX11_transition_33 ?_
                refine lv_iload hx hb dX11_transition_34 (lv_at hl 4 rfl) ?_
                refine vp_callSi (va_Run.run (va_runS (As := [.int (nI ((σ.2.1 0) k)), .int (nI t0)]) (rest := []) ⟨hx, hb, hml, hown, hts⟩ (c_X11_has l ((σ.2.1 0) k) t0 (Nat.lt_trans (hT k (by omega)) (by decide)) (by omega)) (va_cwS 2 hts gX11_transition_X11_has rfl rfl rfl (by decide +kernel) ⟨Nat.le_of_ble_eq_true rfl, Nat.le_of_ble_eq_true rfl⟩) okTS rfl rfl hl.1 rfl (lv_room (Nat.le_of_ble_eq_true rfl)) dX11_transition_36 ⟨Nat.le_of_ble_eq_true rfl, Nat.le_of_ble_eq_true rfl⟩)) (fun r_36 h_36 => ?_)
                subst h_36
                refine jn_bne hx hb (tgt := 45) dX11_transition_39 (by decide) (fun c_39 => ?_) (fun c_39 => ?_)
                · have hpt : pT (σ.2.1 0) (5 * k + t0) = true := (by unfold pT; rw [show (5 * k + t0) / 5 = k by omega, show (5 * k + t0) % 5 = t0 by omega]; exact c_39)
                  refine lv_iload_n hx hb dX11_transition_45 rfl (lv_at hl 2 rfl) ?_
                  refine jn_zne hx hb (by omega) (tgt := 66) dX11_transition_46 (by decide) (fun c_46 => ?_) (fun c_46 => ?_)
                  · refine lv_iinc (v := nI (lf - 1)) (lv' := [(2, .int (nI (lf - 1))), (0, .ref (g.2.2.2 0)), (1, .int (nI idx)), (3, .int (nI k)), (4, .int (nI t0))]) hx hb dX11_transition_66 hl (k := 2) rfl (jn_im (by omega)) (by decide) rfl (fun ls hl => ?_)
                    refine lv_iinc (v := nI (t0 + 1)) (lv' := [(4, .int (nI (t0 + 1))), (2, .int (nI (lf - 1))), (0, .ref (g.2.2.2 0)), (1, .int (nI idx)), (3, .int (nI k))]) hx hb dX11_transition_69 hl (k := 4) rfl (jn_ii _ 1) (by decide) rfl (fun ls hl => ?_)
                    refine lv_goto (tgt := 22) hx hb dX11_transition_72 (by decide) ?_
                    exact ih22 (t0 + 1) (lf - 1) (by omega) (by first | exact ct_l h4 (by omega) hpt | exact ct_m h4 hpt) (by omega) _ _ hP hD hS _ (lv_sub hl [2, 3, 1, 4, 0] rfl)
                  · refine lv_bipush (v := nI 100) hx hb dX11_transition_49 (by decide) ?_
                    refine lv_iload_n hx hb dX11_transition_51 rfl (lv_at hl 3 rfl) ?_
                    refine lv_iconst (v := nI 3) hx hb dX11_transition_52 (by decide) ?_
                    refine jn_idiv hx hb (by omega) (by decide) (by decide) dX11_transition_53 ?_
                    refine jn_imul hx hb dX11_transition_54 ?_
                    refine lv_bipush (v := nI 10) hx hb dX11_transition_55 (by decide) ?_
                    refine lv_iload_n hx hb dX11_transition_57 rfl (lv_at hl 3 rfl) ?_
                    refine lv_iconst (v := nI 3) hx hb dX11_transition_58 (by decide) ?_
                    refine jn_irem hx hb (by omega) (by decide) (by decide) dX11_transition_59 ?_
                    refine jn_imul hx hb dX11_transition_60 ?_
                    refine jn_iadd hx hb dX11_transition_61 ?_
                    refine lv_iload hx hb dX11_transition_62 (lv_at hl 4 rfl) ?_
                    refine jn_iadd hx hb dX11_transition_64 ?_
                    exact hq _ _ _ _ ((nI (((100 * (k / 3)) + (10 * (k % 3))) + t0))) (_, 0) dX11_transition_65 ⟨rfl, Or.inl ⟨by have := fb_ct_mono (pT (σ.2.1 0)) (show 5 * k + t0 + 1 ≤ 75 by omega); have h7 := ct_y (z := fb_ct (pT (σ.2.1 0)) (5 * k + t0)) rfl hpt; omega, rfl, by rw [kth_eq (j := 5 * k + t0) (by omega) hpt (by omega)]; unfold cdT; omega⟩⟩ hP hD hS
                · have hpt : pT (σ.2.1 0) (5 * k + t0) = false := (by unfold pT; rw [show (5 * k + t0) / 5 = k by omega, show (5 * k + t0) % 5 = t0 by omega]; simpa using c_39)
                  refine lv_goto (tgt := 69) hx hb dX11_transition_42 (by decide) ?_
                  refine lv_iinc (v := nI (t0 + 1)) (lv' := [(4, .int (nI (t0 + 1))), (0, .ref (g.2.2.2 0)), (1, .int (nI idx)), (2, .int (nI lf)), (3, .int (nI k))]) hx hb dX11_transition_69 hl (k := 4) rfl (jn_ii _ 1) (by decide) rfl (fun ls hl => ?_)
                  refine lv_goto (tgt := 22) hx hb dX11_transition_72 (by decide) ?_
                  exact ih22 (t0 + 1) lf (by omega) (by first | exact ct_l h4 (by omega) hpt | exact ct_m h4 hpt) (by omega) _ _ hP hD hS _ (lv_sub hl [1, 2, 3, 4, 0] rfl)
          exact lp22 _ 0 lf (by decide) h2 (Nat.lt_succ_self _) _ _ hP hD hS _ (lv_sub hl [1, 2, 3, 4, 0] rfl)
  exact lp9 _ 0 idx (by decide) rfl (Nat.lt_succ_self _) _ _ hP hD hS _ (lv_sub hl [2, 3, 1, 0] rfl)
