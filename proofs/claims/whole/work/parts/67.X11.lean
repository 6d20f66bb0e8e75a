abbrev r_c_X11_runCount : Room := { frames := 1, cells := 0, slots := 0, locals := 22 }
set_option maxHeartbeats 4000000 in
set_option maxRecDepth 100000 in
theorem c_X11_runCount (l : Launch) (g : GC) (tl : va_W) (sz : Nat) (σ : SS) (hT : OkT (σ.2.1 0)) (hF : ((σ.2.1 0) 15) < 32) (hn : (σ.1 6) ≤ 8) (hw : ∀ i, i < (σ.1 6) → (σ.2.1 5) i < 3) : Met l yX11_runCount wsX11_runCount r_c_X11_runCount (va_Pc [.ref (g.2.2.2 0)] (PW g (wM g σ ++ tl) sz)) (va_Ql (fun (r : Int64) (z : (Nat → Nat) × (Nat → Nat)) => match z with | (l0, l1) => r = lN (fb_sm (fun q => if Nat.testBit ((σ.2.1 0) 15) q = true then rn (σ.2.1 0) (σ.2.1 5) (σ.1 6) q else 0) 5)) (fun (z : (Nat → Nat) × (Nat → Nat)) t => BW g (va_A (wM g σ ++ tl) sz) ((fun z : (Nat → Nat) × (Nat → Nat) => match z with | (l0, l1) => wM g (sL (sL σ 0 l0) 1 l1) ++ tl) z) t) (va_A (wM g σ ++ tl) sz)) 0 0 (va_A (wM g σ ++ tl) sz) := by
  refine jn_sl (wf := fun z : (Nat → Nat) × (Nat → Nat) => match z with | (l0, l1) => wM g (sL (sL σ 0 l0) 1 l1) ++ tl) (cc := cX11_runCount) (maxL := 4) (own := RX11) (by decide) rfl rfl (Nat.le_of_ble_eq_true rfl) ?_
  intro p e s m below meth c Q A hx hb hml hown hts hK hP hD hS hAA hq ls hl
  obtain ⟨H, eH⟩ : ∃ z, z = s.heap := ⟨_, rfl⟩
  obtain ⟨locs, el⟩ : ∃ z : List Loc, z = [] := ⟨_, rfl⟩
  rw [← eH] at hP
  have hS : va_S A s.heap H locs := by rw [eH, el]; exact hS
  have goal0 : W p l e r_c_X11_runCount s m ([.ref (g.2.2.2 0)] : List Value).toArray below meth c H locs 0 0 Q (F0 m 0 ls []) → W p l e r_c_X11_runCount s m ([.ref (g.2.2.2 0)] : List Value).toArray below meth c s.heap [] 0 0 Q (F0 m 0 ls []) := fun h => by rw [eH, el] at h; exact h
  refine goal0 ?_
  have hl : lv_has ls 4 [(0, .ref (g.2.2.2 0))] := hl
  have iX11 : ∀ w ∈ wsX110, w ∈ wsX11_runCount := by decide +kernel
  have k51 := hts (.fieldLink RX11 51 "JumpingAutomataModel" "length" "I") (by decide +kernel)
  have k13 := hts (.fieldLink RX11 13 "JumpingAutomataModel" "now" "[I") (by decide +kernel)
  have k72 := hts (.fieldLink RX11 72 "JumpingAutomataModel" "runs" "[J") (by decide +kernel)
  have k76 := hts (.fieldLink RX11 76 "JumpingAutomataModel" "more" "[J") (by decide +kernel)
  have k45 := hts (.fieldLink RX11 45 "JumpingAutomataModel" "word" "[I") (by decide +kernel)
  refine lv_iconst (v := nI 0) hx hb dX11_runCount_0 (by decide) ?_
  refine lv_istore_n (lv' := [(1, .int (nI 0)), (0, .ref (g.2.2.2 0))]) hx hb dX11_runCount_1 rfl hl (by decide) rfl (fun ls hl => ?_)
  have lp2 : ∀ (fu : Nat), ∀ (q : Nat) (f : Nat → Nat), (q ≤ 5) → (∀ k, k < q → f k = rn (σ.2.1 0) (σ.2.1 5) 0 k) → 5 - q < fu → ∀ (H : Heap) (locs : List Loc), va_P (g.1, g.2.1) vwCl (wM g (sL σ 0 f) ++ tl) H → va_D A (wM g (sL σ 0 f) ++ tl) → va_S A s.heap H locs → ∀ ls : Array Slot, lv_has ls 4 [(0, .ref (g.2.2.2 0)), (1, .int (nI q))] → W p l e r_c_X11_runCount s m ([.ref (g.2.2.2 0)] : List Value).toArray below meth c H locs 0 0 Q (F0 m 2 ls []) := by
    intro fu
    induction fu with
    | zero => intro q f h1 h2 hf; exact absurd hf (Nat.not_lt_zero _)
    | succ fu ih2 =>
      intro q f h1 h2 hf H locs hP hD hS ls hl
      refine lv_iload_n hx hb dX11_runCount_2 rfl (lv_at hl 1 rfl) ?_
      refine lv_iconst (v := nI 5) hx hb dX11_runCount_3 (by decide) ?_
      refine jn_cge hx hb (by omega) (by decide) (tgt := 28) dX11_runCount_4 (by decide) (fun c_4 => ?_) (fun c_4 => ?_)
      · refine lv_iconst (v := nI 0) hx hb dX11_runCount_28 (by decide) ?_
        refine lv_istore_n (lv' := [(1, .int (nI 0)), (0, .ref (g.2.2.2 0))]) hx hb dX11_runCount_29 rfl hl (by decide) rfl (fun ls hl => ?_)
        have lp30 : ∀ (fu : Nat), ∀ (i : Nat) (f : Nat → Nat) (g1 : Nat → Nat), (i ≤ (σ.1 6)) → (∀ k, k < 5 → f k = rn (σ.2.1 0) (σ.2.1 5) i k) → (σ.1 6) - i < fu → ∀ (H : Heap) (locs : List Loc), va_P (g.1, g.2.1) vwCl (wM g (sL (sL σ 0 f) 1 g1) ++ tl) H → va_D A (wM g (sL (sL σ 0 f) 1 g1) ++ tl) → va_S A s.heap H locs → ∀ ls : Array Slot, lv_has ls 4 [(0, .ref (g.2.2.2 0)), (1, .int (nI i))] → W p l e r_c_X11_runCount s m ([.ref (g.2.2.2 0)] : List Value).toArray below meth c H locs 0 0 Q (F0 m 30 ls []) := by
          intro fu
          induction fu with
          | zero => intro i f g1 h3 h4 hf; exact absurd hf (Nat.not_lt_zero _)
          | succ fu ih30 =>
            intro i f g1 h3 h4 hf H locs hP hD hS ls hl
            refine lv_iload_n hx hb dX11_runCount_30 rfl (lv_at hl 1 rfl) ?_
            refine lv_aload_n hx hb dX11_runCount_31 rfl (lv_at hl 0 rfl) ?_
            refine va_get (D := (g.1, g.2.1)) (ci := 13) (v := .int (nI (σ.1 6))) (C := RX11) (T := TX11) (N := 30) hx hb hts iX11 hown hK.1 hP 0 (gM0 g (sL (sL σ 0 f) 1 g1) tl) rfl 13 (by decide) k51 (fun _ h9 => h9) rfl dX11_runCount_32 ?_
            refine jn_cge hx hb (by omega) (by omega) (tgt := 148) dX11_runCount_35 (by decide) (fun c_35 => ?_) (fun c_35 => ?_)
            · refine lv_lconst (v := lN 0) hx hb dX11_runCount_148 (by decide) ?_
              refine lv_lstore_n (lv' := [(1, .long (lN 0)), (0, .ref (g.2.2.2 0))]) hx hb dX11_runCount_149 rfl hl (by decide) rfl (fun ls hl => ?_)
              refine lv_iconst (v := nI 0) hx hb dX11_runCount_150 (by decide) ?_
              refine lv_istore_n (lv' := [(3, .int (nI 0)), (1, .long (lN 0)), (0, .ref (g.2.2.2 0))]) hx hb dX11_runCount_151 rfl hl (by decide) rfl (fun ls hl => ?_)
              have lp152 : ∀ (fu : Nat), ∀ (q : Nat) (z : Nat), (q ≤ 5) → (z = fb_sm (fun q => if Nat.testBit ((σ.2.1 0) 15) q = true then rn (σ.2.1 0) (σ.2.1 5) (σ.1 6) q else 0) q) → 5 - q < fu → ∀ (H : Heap) (locs : List Loc), va_P (g.1, g.2.1) vwCl (wM g (sL (sL σ 0 f) 1 g1) ++ tl) H → va_D A (wM g (sL (sL σ 0 f) 1 g1) ++ tl) → va_S A s.heap H locs → ∀ ls : Array Slot, lv_has ls 4 [(0, .ref (g.2.2.2 0)), (1, .long (lN z)), (3, .int (nI q))] → W p l e r_c_X11_runCount s m ([.ref (g.2.2.2 0)] : List Value).toArray below meth c H locs 0 0 Q (F0 m 152 ls []) := by
                intro fu
                induction fu with
                | zero => intro q z h11 h12 hf; exact absurd hf (Nat.not_lt_zero _)
                | succ fu ih152 =>
                  intro q z h11 h12 hf H locs hP hD hS ls hl
                  refine lv_iload_n hx hb dX11_runCount_152 rfl (lv_at hl 2 rfl) ?_
                  refine lv_iconst (v := nI 5) hx hb dX11_runCount_153 (by decide) ?_
                  refine jn_cge hx hb (by omega) (by decide) (tgt := 186) dX11_runCount_154 (by decide) (fun c_154 => ?_) (fun c_154 => ?_)
                  · refine lv_lload_n hx hb dX11_runCount_186 rfl (lv_at hl 1 rfl) ?_
                    exact hq _ _ _ _ ((lN z)) (f, g1) dX11_runCount_187 (by rw [h12, show q = 5 by omega]) hP hD hS
                  · refine lv_aload_n hx hb dX11_runCount_157 rfl (lv_at hl 0 rfl) ?_
                    refine va_get (D := (g.1, g.2.1)) (ci := 13) (v := .ref (g.2.2.2 1)) (C := RX11) (T := TX11) (N := 30) hx hb hts iX11 hown hK.1 hP 0 (gM0 g (sL (sL σ 0 f) 1 g1) tl) rfl 1 (by decide) k13 (fun _ h9 => h9) rfl dX11_runCount_158 ?_
                    refine lv_bipush (v := nI 15) hx hb dX11_runCount_161 (by decide) ?_
                    refine jn_iald (f := σ.2.1 0) hx hb hK.1 hP 1 0 (gM1 g (sL (sL σ 0 f) 1 g1) tl) rfl (by decide) (Nat.le_of_ble_eq_true rfl) dX11_runCount_163 ?_
                    refine lv_iload_n hx hb dX11_runCount_164 rfl (lv_at hl 2 rfl) ?_
                    refine vp_callSi (va_Run.run (va_runS (As := [.int (nI ((σ.2.1 0) 15)), .int (nI q)]) (rest := []) ⟨hx, hb, hml, hown, hts⟩ (c_X11_has l ((σ.2.1 0) 15) q (by omega) (by omega)) (va_cwS 2 hts gX11_runCount_X11_has rfl rfl rfl (by decide +kernel) ⟨Nat.le_of_ble_eq_true rfl, Nat.le_of_ble_eq_true rfl⟩) okTS rfl rfl hl.1 rfl (lv_room (Nat.le_of_ble_eq_true rfl)) dX11_runCount_165 ⟨Nat.le_of_ble_eq_true rfl, Nat.le_of_ble_eq_true rfl⟩)) (fun r_165 h_165 => ?_)
                    subst h_165
                    refine jn_beq hx hb (tgt := 180) dX11_runCount_168 (by decide) (fun c_168 => ?_) (fun c_168 => ?_)
                    · refine lv_iinc (v := nI (q + 1)) (lv' := [(3, .int (nI (q + 1))), (0, .ref (g.2.2.2 0)), (1, .long (lN z))]) hx hb dX11_runCount_180 hl (k := 2) rfl (jn_ii _ 1) (by decide) rfl (fun ls hl => ?_)
                      refine lv_goto (tgt := 152) hx hb dX11_runCount_183 (by decide) ?_
                      exact ih152 (q + 1) z (by omega) (by rw [h12, fb_sm_succ]; first | rw [if_pos c_168, h4 q (by omega), show i = (σ.1 6) by omega] | rw [if_neg c_168, Nat.add_zero]) (by omega) _ _ hP hD hS _ (lv_sub hl [1, 2, 0] rfl)
                    · refine lv_lload_n hx hb dX11_runCount_171 rfl (lv_at hl 1 rfl) ?_
                      refine lv_aload_n hx hb dX11_runCount_172 rfl (lv_at hl 0 rfl) ?_
                      refine va_get (D := (g.1, g.2.1)) (ci := 13) (v := .ref (g.2.2.2 11)) (C := RX11) (T := TX11) (N := 30) hx hb hts iX11 hown hK.1 hP 0 (gM0 g (sL (sL σ 0 f) 1 g1) tl) rfl 20 (by decide) k72 (fun _ h9 => h9) rfl dX11_runCount_173 ?_
                      refine lv_iload_n hx hb dX11_runCount_176 rfl (lv_at hl 2 rfl) ?_
                      refine jn_lald (f := f) hx hb hK.1 hP 11 1 (gM11 g (sL (sL σ 0 f) 1 g1) tl) rfl (by omega) (Nat.le_of_ble_eq_true rfl) dX11_runCount_177 ?_
                      refine jn_ladd hx hb dX11_runCount_178 ?_
                      refine lv_lstore_n (lv' := [(1, .long (lN (z + (f q)))), (0, .ref (g.2.2.2 0)), (3, .int (nI q))]) hx hb dX11_runCount_179 rfl hl (by decide) rfl (fun ls hl => ?_)
                      refine lv_iinc (v := nI (q + 1)) (lv' := [(3, .int (nI (q + 1))), (1, .long (lN (z + (f q)))), (0, .ref (g.2.2.2 0))]) hx hb dX11_runCount_180 hl (k := 2) rfl (jn_ii _ 1) (by decide) rfl (fun ls hl => ?_)
                      refine lv_goto (tgt := 152) hx hb dX11_runCount_183 (by decide) ?_
                      exact ih152 (q + 1) (z + (f q)) (by omega) (by rw [h12, fb_sm_succ]; first | rw [if_pos c_168, h4 q (by omega), show i = (σ.1 6) by omega] | rw [if_neg c_168, Nat.add_zero]) (by omega) _ _ hP hD hS _ (lv_sub hl [2, 1, 0] rfl)
              exact lp152 _ 0 0 (by decide) rfl (Nat.lt_succ_self _) _ _ hP hD hS _ (lv_sub hl [2, 1, 0] rfl)
            · refine lv_iconst (v := nI 0) hx hb dX11_runCount_38 (by decide) ?_
              refine lv_istore_n (lv' := [(2, .int (nI 0)), (0, .ref (g.2.2.2 0)), (1, .int (nI i))]) hx hb dX11_runCount_39 rfl hl (by decide) rfl (fun ls hl => ?_)
              have lp40 : ∀ (fu : Nat), ∀ (q : Nat) (g2 : Nat → Nat), (q ≤ 5) → (∀ k, k < q → g2 k = 0) → 5 - q < fu → ∀ (H : Heap) (locs : List Loc), va_P (g.1, g.2.1) vwCl (wM g (sL (sL σ 0 f) 1 g2) ++ tl) H → va_D A (wM g (sL (sL σ 0 f) 1 g2) ++ tl) → va_S A s.heap H locs → ∀ ls : Array Slot, lv_has ls 4 [(0, .ref (g.2.2.2 0)), (1, .int (nI i)), (2, .int (nI q))] → W p l e r_c_X11_runCount s m ([.ref (g.2.2.2 0)] : List Value).toArray below meth c H locs 0 0 Q (F0 m 40 ls []) := by
                intro fu
                induction fu with
                | zero => intro q g2 h5 h6 hf; exact absurd hf (Nat.not_lt_zero _)
                | succ fu ih40 =>
                  intro q g2 h5 h6 hf H locs hP hD hS ls hl
                  refine lv_iload_n hx hb dX11_runCount_40 rfl (lv_at hl 2 rfl) ?_
                  refine lv_iconst (v := nI 5) hx hb dX11_runCount_41 (by decide) ?_
                  refine jn_cge hx hb (by omega) (by decide) (tgt := 58) dX11_runCount_42 (by decide) (fun c_42 => ?_) (fun c_42 => ?_)
                  · refine lv_iconst (v := nI 0) hx hb dX11_runCount_58 (by decide) ?_
                    refine lv_istore_n (lv' := [(2, .int (nI 0)), (0, .ref (g.2.2.2 0)), (1, .int (nI i))]) hx hb dX11_runCount_59 rfl hl (by decide) rfl (fun ls hl => ?_)
                    have lp60 : ∀ (fu : Nat), ∀ (q : Nat) (g3 : Nat → Nat), (q ≤ 5) → (RnI (σ.2.1 0) (σ.2.1 5) i q 0 g3) → 5 - q < fu → ∀ (H : Heap) (locs : List Loc), va_P (g.1, g.2.1) vwCl (wM g (sL (sL σ 0 f) 1 g3) ++ tl) H → va_D A (wM g (sL (sL σ 0 f) 1 g3) ++ tl) → va_S A s.heap H locs → ∀ ls : Array Slot, lv_has ls 4 [(0, .ref (g.2.2.2 0)), (1, .int (nI i)), (2, .int (nI q))] → W p l e r_c_X11_runCount s m ([.ref (g.2.2.2 0)] : List Value).toArray below meth c H locs 0 0 Q (F0 m 60 ls []) := by
                      intro fu
                      induction fu with
                      | zero => intro q g3 h5b h7 hf; exact absurd hf (Nat.not_lt_zero _)
                      | succ fu ih60 =>
                        intro q g3 h5b h7 hf H locs hP hD hS ls hl
                        refine lv_iload_n hx hb dX11_runCount_60 rfl (lv_at hl 2 rfl) ?_
                        refine lv_iconst (v := nI 5) hx hb dX11_runCount_61 (by decide) ?_
                        refine jn_cge hx hb (by omega) (by decide) (tgt := 117) dX11_runCount_62 (by decide) (fun c_62 => ?_) (fun c_62 => ?_)
                        · refine lv_iconst (v := nI 0) hx hb dX11_runCount_117 (by decide) ?_
                          refine lv_istore_n (lv' := [(2, .int (nI 0)), (0, .ref (g.2.2.2 0)), (1, .int (nI i))]) hx hb dX11_runCount_118 rfl hl (by decide) rfl (fun ls hl => ?_)
                          have lp119 : ∀ (fu : Nat), ∀ (q : Nat) (f5 : Nat → Nat), (q ≤ 5) → (∀ k, k < q → f5 k = g3 k) → 5 - q < fu → ∀ (H : Heap) (locs : List Loc), va_P (g.1, g.2.1) vwCl (wM g (sL (sL σ 0 f5) 1 g3) ++ tl) H → va_D A (wM g (sL (sL σ 0 f5) 1 g3) ++ tl) → va_S A s.heap H locs → ∀ ls : Array Slot, lv_has ls 4 [(0, .ref (g.2.2.2 0)), (1, .int (nI i)), (2, .int (nI q))] → W p l e r_c_X11_runCount s m ([.ref (g.2.2.2 0)] : List Value).toArray below meth c H locs 0 0 Q (F0 m 119 ls []) := by
                            intro fu
                            induction fu with
                            | zero => intro q f5 h5c h10 hf; exact absurd hf (Nat.not_lt_zero _)
                            | succ fu ih119 =>
                              intro q f5 h5c h10 hf H locs hP hD hS ls hl
                              refine lv_iload_n hx hb dX11_runCount_119 rfl (lv_at hl 2 rfl) ?_
                              refine lv_iconst (v := nI 5) hx hb dX11_runCount_120 (by decide) ?_
                              refine jn_cge hx hb (by omega) (by decide) (tgt := 142) dX11_runCount_121 (by decide) (fun c_121 => ?_) (fun c_121 => ?_)
                              · refine lv_iinc (v := nI (i + 1)) (lv' := [(1, .int (nI (i + 1))), (0, .ref (g.2.2.2 0)), (2, .int (nI q))]) hx hb dX11_runCount_142 hl (k := 1) rfl (jn_ii _ 1) (by decide) rfl (fun ls hl => ?_)
                                refine lv_goto (tgt := 30) hx hb dX11_runCount_145 (by decide) ?_
                                exact ih30 (i + 1) f5 g3 (by omega) (fun k hk => by rw [h10 k (by omega)]; exact rni_end h7 (by omega) k hk) (by omega) _ _ hP hD hS _ (lv_sub hl [1, 0] rfl)
                              · refine lv_aload_n hx hb dX11_runCount_124 rfl (lv_at hl 0 rfl) ?_
                                refine va_get (D := (g.1, g.2.1)) (ci := 13) (v := .ref (g.2.2.2 11)) (C := RX11) (T := TX11) (N := 30) hx hb hts iX11 hown hK.1 hP 0 (gM0 g (sL (sL σ 0 f5) 1 g3) tl) rfl 20 (by decide) k72 (fun _ h9 => h9) rfl dX11_runCount_125 ?_
                                refine lv_iload_n hx hb dX11_runCount_128 rfl (lv_at hl 2 rfl) ?_
                                refine lv_aload_n hx hb dX11_runCount_129 rfl (lv_at hl 0 rfl) ?_
                                refine va_get (D := (g.1, g.2.1)) (ci := 13) (v := .ref (g.2.2.2 12)) (C := RX11) (T := TX11) (N := 30) hx hb hts iX11 hown hK.1 hP 0 (gM0 g (sL (sL σ 0 f5) 1 g3) tl) rfl 21 (by decide) k76 (fun _ h9 => h9) rfl dX11_runCount_130 ?_
                                refine lv_iload_n hx hb dX11_runCount_133 rfl (lv_at hl 2 rfl) ?_
                                refine jn_lald (f := g3) hx hb hK.1 hP 12 1 (gM12 g (sL (sL σ 0 f5) 1 g3) tl) rfl (by omega) (Nat.le_of_ble_eq_true rfl) dX11_runCount_134 ?_
                                refine jn_last (f := f5) hx hb hK.1 hP hD hS 11 1 (gM11 g (sL (sL σ 0 f5) 1 g3) tl) rfl (by omega) (Nat.le_of_ble_eq_true rfl) (uM_L0 g (sL (sL σ 0 f5) 1 g3) tl _) dX11_runCount_135 (fun H locs hP hD hS => ?_)
                                refine lv_iinc (v := nI (q + 1)) (lv' := [(2, .int (nI (q + 1))), (0, .ref (g.2.2.2 0)), (1, .int (nI i))]) hx hb dX11_runCount_136 hl (k := 2) rfl (jn_ii _ 1) (by decide) rfl (fun ls hl => ?_)
                                refine lv_goto (tgt := 119) hx hb dX11_runCount_139 (by decide) ?_
                                exact ih119 (q + 1) (va_up f5 q (g3 q)) (by omega) (fun k hk => by unfold va_up; split; { rename_i e; rw [e] }; { exact h10 k (by omega) }) (by omega) _ _ hP hD hS _ (lv_sub hl [1, 2, 0] rfl)
                          exact lp119 _ 0 f (by decide) (fun k hk => absurd hk (by omega)) (Nat.lt_succ_self _) _ _ hP hD hS _ (lv_sub hl [1, 2, 0] rfl)
                        · refine lv_iconst (v := nI 0) hx hb dX11_runCount_65 (by decide) ?_
                          refine lv_istore_n (lv' := [(3, .int (nI 0)), (0, .ref (g.2.2.2 0)), (1, .int (nI i)), (2, .int (nI q))]) hx hb dX11_runCount_66 rfl hl (by decide) rfl (fun ls hl => ?_)
                          have lp67 : ∀ (fu : Nat), ∀ (t0 : Nat) (g4 : Nat → Nat), (t0 ≤ 5) → (RnI (σ.2.1 0) (σ.2.1 5) i q t0 g4) → 5 - t0 < fu → ∀ (H : Heap) (locs : List Loc), va_P (g.1, g.2.1) vwCl (wM g (sL (sL σ 0 f) 1 g4) ++ tl) H → va_D A (wM g (sL (sL σ 0 f) 1 g4) ++ tl) → va_S A s.heap H locs → ∀ ls : Array Slot, lv_has ls 4 [(0, .ref (g.2.2.2 0)), (1, .int (nI i)), (2, .int (nI q)), (3, .int (nI t0))] → W p l e r_c_X11_runCount s m ([.ref (g.2.2.2 0)] : List Value).toArray below meth c H locs 0 0 Q (F0 m 67 ls []) := by
                            intro fu
                            induction fu with
                            | zero => intro t0 g4 h9 h8 hf; exact absurd hf (Nat.not_lt_zero _)
                            | succ fu ih67 =>
                              intro t0 g4 h9 h8 hf H locs hP hD hS ls hl
                              refine lv_iload_n hx hb dX11_runCount_67 rfl (lv_at hl 3 rfl) ?_
                              refine lv_iconst (v := nI 5) hx hb dX11_runCount_68 (by decide) ?_
                              refine jn_cge hx hb (by omega) (by decide) (tgt := 111) dX11_runCount_69 (by decide) (fun c_69 => ?_) (fun c_69 => ?_)
                              · refine lv_iinc (v := nI (q + 1)) (lv' := [(2, .int (nI (q + 1))), (0, .ref (g.2.2.2 0)), (1, .int (nI i)), (3, .int (nI t0))]) hx hb dX11_runCount_111 hl (k := 2) rfl (jn_ii _ 1) (by decide) rfl (fun ls hl => ?_)
                                refine lv_goto (tgt := 60) hx hb dX11_runCount_114 (by decide) ?_
                                exact ih60 (q + 1) g4 (by omega) (rni_q h8 (by omega)) (by omega) _ _ hP hD hS _ (lv_sub hl [1, 2, 0] rfl)
                              · refine lv_aload_n hx hb dX11_runCount_72 rfl (lv_at hl 0 rfl) ?_
                                refine lv_iload_n hx hb dX11_runCount_73 rfl (lv_at hl 2 rfl) ?_
                                refine lv_aload_n hx hb dX11_runCount_74 rfl (lv_at hl 0 rfl) ?_
                                refine va_get (D := (g.1, g.2.1)) (ci := 13) (v := .ref (g.2.2.2 6)) (C := RX11) (T := TX11) (N := 30) hx hb hts iX11 hown hK.1 hP 0 (gM0 g (sL (sL σ 0 f) 1 g4) tl) rfl 11 (by decide) k45 (fun _ h9 => h9) rfl dX11_runCount_75 ?_
                                refine lv_iload_n hx hb dX11_runCount_78 rfl (lv_at hl 1 rfl) ?_
                                refine jn_iald (f := σ.2.1 5) hx hb hK.1 hP 6 0 (gM6 g (sL (sL σ 0 f) 1 g4) tl) rfl (by omega) (Nat.le_of_ble_eq_true rfl) dX11_runCount_79 ?_
                                refine vp_callSi (va_Run.run (va_runV (As := [.int (nI q), .int (nI ((σ.2.1 5) i))]) (rest := []) ⟨hx, hb, hml, hown, hts⟩ (c_X11_next l g tl (sL (sL σ 0 f) 1 g4) q ((σ.2.1 5) i) (by omega) (hw i (by omega))) (cwV 2 hts gX11_runCount_X11_next rfl rfl rfl (by decide +kernel) ⟨Nat.le_of_ble_eq_true rfl, Nat.le_of_ble_eq_true rfl⟩) (okPV hK hP rfl (gM0 g (sL (sL σ 0 f) 1 g4) tl)) rfl rfl hl.1 rfl (lv_room (Nat.le_of_ble_eq_true rfl)) dX11_runCount_80 ⟨Nat.le_of_ble_eq_true rfl, Nat.le_of_ble_eq_true rfl⟩)) (fun r_80 h_80 => ?_)
                                have h_80 : r_80 = (nI ((σ.2.1 0) (q * 3 + ((σ.2.1 5) i)))) := h_80
                                subst h_80
                                refine lv_iload_n hx hb dX11_runCount_83 rfl (lv_at hl 3 rfl) ?_
                                refine vp_callSi (va_Run.run (va_runS (As := [.int (nI ((σ.2.1 0) (q * 3 + ((σ.2.1 5) i)))), .int (nI t0)]) (rest := []) ⟨hx, hb, hml, hown, hts⟩ (c_X11_has l ((σ.2.1 0) (q * 3 + ((σ.2.1 5) i))) t0 (Nat.lt_trans (hT _ (by have := hw i (by omega); omega)) (by decide)) (by omega)) (va_cwS 2 hts gX11_runCount_X11_has rfl rfl rfl (by decide +kernel) ⟨Nat.le_of_ble_eq_true rfl, Nat.le_of_ble_eq_true rfl⟩) okTS rfl rfl hl.1 rfl (lv_room (Nat.le_of_ble_eq_true rfl)) dX11_runCount_84 ⟨Nat.le_of_ble_eq_true rfl, Nat.le_of_ble_eq_true rfl⟩)) (fun r_84 h_84 => ?_)
                                subst h_84
                                refine jn_beq hx hb (tgt := 105) dX11_runCount_87 (by decide) (fun c_87 => ?_) (fun c_87 => ?_)
                                · refine lv_iinc (v := nI (t0 + 1)) (lv' := [(3, .int (nI (t0 + 1))), (0, .ref (g.2.2.2 0)), (1, .int (nI i)), (2, .int (nI q))]) hx hb dX11_runCount_105 hl (k := 3) rfl (jn_ii _ 1) (by decide) rfl (fun ls hl => ?_)
                                  refine lv_goto (tgt := 67) hx hb dX11_runCount_108 (by decide) ?_
                                  exact ih67 (t0 + 1) g4 (by omega) (by first | exact rni_y h8 (by omega) c_87 (h4 q (by omega)) | exact rni_n h8 (by omega) c_87) (by omega) _ _ hP hD hS _ (lv_sub hl [1, 2, 3, 0] rfl)
                                · refine lv_aload_n hx hb dX11_runCount_90 rfl (lv_at hl 0 rfl) ?_
                                  refine va_get (D := (g.1, g.2.1)) (ci := 13) (v := .ref (g.2.2.2 12)) (C := RX11) (T := TX11) (N := 30) hx hb hts iX11 hown hK.1 hP 0 (gM0 g (sL (sL σ 0 f) 1 g4) tl) rfl 21 (by decide) k76 (fun _ h9 => h9) rfl dX11_runCount_91 ?_
                                  refine lv_iload_n hx hb dX11_runCount_94 rfl (lv_at hl 3 rfl) ?_
                                  refine lv_dup2_11 hx hb dX11_runCount_95 rfl rfl ?_
                                  refine jn_lald (f := g4) hx hb hK.1 hP 12 1 (gM12 g (sL (sL σ 0 f) 1 g4) tl) rfl (by omega) (Nat.le_of_ble_eq_true rfl) dX11_runCount_96 ?_
                                  refine lv_aload_n hx hb dX11_runCount_97 rfl (lv_at hl 0 rfl) ?_
                                  refine va_get (D := (g.1, g.2.1)) (ci := 13) (v := .ref (g.2.2.2 11)) (C := RX11) (T := TX11) (N := 30) hx hb hts iX11 hown hK.1 hP 0 (gM0 g (sL (sL σ 0 f) 1 g4) tl) rfl 20 (by decide) k72 (fun _ h9 => h9) rfl dX11_runCount_98 ?_
                                  refine lv_iload_n hx hb dX11_runCount_101 rfl (lv_at hl 2 rfl) ?_
                                  refine jn_lald (f := f) hx hb hK.1 hP 11 1 (gM11 g (sL (sL σ 0 f) 1 g4) tl) rfl (by omega) (Nat.le_of_ble_eq_true rfl) dX11_runCount_102 ?_
                                  refine jn_ladd hx hb dX11_runCount_103 ?_
                                  refine jn_last (f := g4) hx hb hK.1 hP hD hS 12 1 (gM12 g (sL (sL σ 0 f) 1 g4) tl) rfl (by omega) (Nat.le_of_ble_eq_true rfl) (uM_L1 g (sL (sL σ 0 f) 1 g4) tl _) dX11_runCount_104 (fun H locs hP hD hS => ?_)
                                  refine lv_iinc (v := nI (t0 + 1)) (lv' := [(3, .int (nI (t0 + 1))), (0, .ref (g.2.2.2 0)), (1, .int (nI i)), (2, .int (nI q))]) hx hb dX11_runCount_105 hl (k := 3) rfl (jn_ii _ 1) (by decide) rfl (fun ls hl => ?_)
                                  refine lv_goto (tgt := 67) hx hb dX11_runCount_108 (by decide) ?_
                                  exact ih67 (t0 + 1) (va_up g4 t0 ((g4 t0) + (f q))) (by omega) (by first | exact rni_y h8 (by omega) c_87 (h4 q (by omega)) | exact rni_n h8 (by omega) c_87) (by omega) _ _ hP hD hS _ (lv_sub hl [1, 2, 3, 0] rfl)
                          exact lp67 _ 0 g3 (by decide) h7 (Nat.lt_succ_self _) _ _ hP hD hS _ (lv_sub hl [1, 2, 3, 0] rfl)
                    exact lp60 _ 0 g2 (by decide) (fun t ht => by rw [h6 t (by omega), if_neg (by omega)]; rfl) (Nat.lt_succ_self _) _ _ hP hD hS _ (lv_sub hl [1, 2, 0] rfl)
                  · refine lv_aload_n hx hb dX11_runCount_45 rfl (lv_at hl 0 rfl) ?_
                    refine va_get (D := (g.1, g.2.1)) (ci := 13) (v := .ref (g.2.2.2 12)) (C := RX11) (T := TX11) (N := 30) hx hb hts iX11 hown hK.1 hP 0 (gM0 g (sL (sL σ 0 f) 1 g2) tl) rfl 21 (by decide) k76 (fun _ h9 => h9) rfl dX11_runCount_46 ?_
                    refine lv_iload_n hx hb dX11_runCount_49 rfl (lv_at hl 2 rfl) ?_
                    refine lv_lconst (v := lN 0) hx hb dX11_runCount_50 (by decide) ?_
                    refine jn_last (f := g2) hx hb hK.1 hP hD hS 12 1 (gM12 g (sL (sL σ 0 f) 1 g2) tl) rfl (by omega) (Nat.le_of_ble_eq_true rfl) (uM_L1 g (sL (sL σ 0 f) 1 g2) tl _) dX11_runCount_51 (fun H locs hP hD hS => ?_)
                    refine lv_iinc (v := nI (q + 1)) (lv' := [(2, .int (nI (q + 1))), (0, .ref (g.2.2.2 0)), (1, .int (nI i))]) hx hb dX11_runCount_52 hl (k := 2) rfl (jn_ii _ 1) (by decide) rfl (fun ls hl => ?_)
                    refine lv_goto (tgt := 40) hx hb dX11_runCount_55 (by decide) ?_
                    exact ih40 (q + 1) (va_up g2 q 0) (by omega) (fun k hk => by unfold va_up; split <;> first | rfl | exact h6 k (by omega)) (by omega) _ _ hP hD hS _ (lv_sub hl [1, 2, 0] rfl)
              exact lp40 _ 0 g1 (by decide) (fun k hk => absurd hk (by omega)) (Nat.lt_succ_self _) _ _ hP hD hS _ (lv_sub hl [1, 2, 0] rfl)
        exact lp30 _ 0 f (σ.2.2 1) (by omega) (fun k hk => h2 k (by omega)) (Nat.lt_succ_self _) _ _ hP hD hS _ (lv_sub hl [1, 0] rfl)
      · refine lv_aload_n hx hb dX11_runCount_7 rfl (lv_at hl 0 rfl) ?_
        refine va_get (D := (g.1, g.2.1)) (ci := 13) (v := .ref (g.2.2.2 11)) (C := RX11) (T := TX11) (N := 30) hx hb hts iX11 hown hK.1 hP 0 (gM0 g (sL σ 0 f) tl) rfl 20 (by decide) k72 (fun _ h9 => h9) rfl dX11_runCount_8 ?_
        refine lv_iload_n hx hb dX11_runCount_11 rfl (lv_at hl 1 rfl) ?_
        refine lv_iload_n hx hb dX11_runCount_12 rfl (lv_at hl 1 rfl) ?_
        have jp21 : ∀ v21 : Nat, v21 = (if q = 0 then 1 else 0) → W p l e r_c_X11_runCount s m ([.ref (g.2.2.2 0)] : List Value).toArray below meth c H locs 0 0 Q (F0 m 21 ls [.long (lN v21), .int (nI q), .ref (g.2.2.2 11)]) := by
          intro v21 ev21
          refine jn_last (f := f) hx hb hK.1 hP hD hS 11 1 (gM11 g (sL σ 0 f) tl) rfl (by omega) (Nat.le_of_ble_eq_true rfl) (uM_L0 g (sL σ 0 f) tl _) dX11_runCount_21 (fun H locs hP hD hS => ?_)
          refine lv_iinc (v := nI (q + 1)) (lv' := [(1, .int (nI (q + 1))), (0, .ref (g.2.2.2 0))]) hx hb dX11_runCount_22 hl (k := 1) rfl (jn_ii _ 1) (by decide) rfl (fun ls hl => ?_)
          refine lv_goto (tgt := 2) hx hb dX11_runCount_25 (by decide) ?_
          exact ih2 (q + 1) (va_up f q v21) (by omega) (fun k hk => by unfold va_up; split; { rename_i e; rw [ev21, e]; rfl }; { exact h2 k (by omega) }) (by omega) _ _ hP hD hS _ (lv_sub hl [1, 0] rfl)
        refine jn_zne hx hb (by omega) (tgt := 20) dX11_runCount_13 (by decide) (fun c_13 => ?_) (fun c_13 => ?_)
        · refine lv_lconst (v := lN 0) hx hb dX11_runCount_20 (by decide) ?_
          exact jp21 0 (by rw [if_neg c_13])
        · refine lv_lconst (v := lN 1) hx hb dX11_runCount_16 (by decide) ?_
          refine lv_goto (tgt := 21) hx hb dX11_runCount_17 (by decide) ?_
          exact jp21 1 (by rw [if_pos c_13])
  exact lp2 _ 0 (σ.2.2 0) (by decide) (fun k hk => absurd hk (by omega)) (Nat.lt_succ_self _) _ _ hP hD hS _ (lv_sub hl [1, 0] rfl)

abbrev r_c_X11_arranges_d8 : Room := { frames := 0, cells := 0, slots := 0, locals := 0 }
set_option maxHeartbeats 4000000 in
set_option maxRecDepth 100000 in
theorem c_X11_arranges_d8 (l : Launch) (g : GC) (tl : va_W) (sz : Nat) (σ : SS) (st : Nat) (hT : OkT (σ.2.1 0)) (hF : ((σ.2.1 0) 15) < 32) (hn : (σ.1 6) ≤ 8) (hd : 8 ≤ (σ.1 6)) (hst : st < 32) (hfo : (σ.1 11) = 0) (hrk : (σ.1 10) < 18446744073709551616) (hlf : (σ.2.1 10) 0 + (σ.2.1 10) 1 + (σ.2.1 10) 2 = ((σ.1 6) - 8)) : Met l yX11_arranges wsX11_arranges r_c_X11_arranges_d8 (va_Pc [.ref (g.2.2.2 0), .int (nI 8), .int (nI st)] (PW g (wM g σ ++ tl) sz)) (va_Ql (fun (r : Int64) (z : Nat × Nat × Nat × (Nat → Nat) × (Nat → Nat)) => match z with | (r0, rl, fo, ot, lf) => (r = lN (r0)) ∧ (((σ.1 10) < arrN (σ.2.1 0) ((σ.2.1 0) 15) ((σ.1 6) - 8) (σ.2.1 10) st ∧ fo = 1 ∧ isArr (σ.2.1 0) ((σ.2.1 0) 15) ((σ.1 6) - 8) (σ.2.1 10) st (σ.1 10) (fun i => ot (8 + i))) ∨ (¬ (σ.1 10) < arrN (σ.2.1 0) ((σ.2.1 0) 15) ((σ.1 6) - 8) (σ.2.1 10) st ∧ fo = 0 ∧ rl = (σ.1 10) - arrN (σ.2.1 0) ((σ.2.1 0) 15) ((σ.1 6) - 8) (σ.2.1 10) st ∧ r0 = arrN (σ.2.1 0) ((σ.2.1 0) 15) ((σ.1 6) - 8) (σ.2.1 10) st)) ∧ (∀ i, i < 8 → ot i = (σ.2.1 6) i) ∧ (∀ x, x < 3 → lf x = (σ.2.1 10) x) ∧ (rl < 18446744073709551616)) (fun (z : Nat × Nat × Nat × (Nat → Nat) × (Nat → Nat)) t => BW g (va_A (wM g σ ++ tl) sz) ((fun z : Nat × Nat × Nat × (Nat → Nat) × (Nat → Nat) => match z with | (r0, rl, fo, ot, lf) => wM g (sA (sA (sF (sF σ 10 rl) 11 fo) 6 ot) 10 lf) ++ tl) z) t) (va_A (wM g σ ++ tl) sz)) 0 0 (va_A (wM g σ ++ tl) sz) := by
  refine jn_sl (wf := fun z : Nat × Nat × Nat × (Nat → Nat) × (Nat → Nat) => match z with | (r0, rl, fo, ot, lf) => wM g (sA (sA (sF (sF σ 10 rl) 11 fo) 6 ot) 10 lf) ++ tl) (cc := cX11_arranges) (maxL := 6) (own := RX11) (by decide) rfl rfl (Nat.le_of_ble_eq_true rfl) ?_
  intro p e s m below meth c Q A hx hb hml hown hts hK hP hD hS hAA hq ls hl
  obtain ⟨H, eH⟩ : ∃ z, z = s.heap := ⟨_, rfl⟩
  obtain ⟨locs, el⟩ : ∃ z : List Loc, z = [] := ⟨_, rfl⟩
  rw [← eH] at hP
  have hS : va_S A s.heap H locs := by rw [eH, el]; exact hS
  have goal0 : W p l e r_c_X11_arranges_d8 s m ([.ref (g.2.2.2 0), .int (nI 8), .int (nI st)] : List Value).toArray below meth c H locs 0 0 Q (F0 m 0 ls []) → W p l e r_c_X11_arranges_d8 s m ([.ref (g.2.2.2 0), .int (nI 8), .int (nI st)] : List Value).toArray below meth c s.heap [] 0 0 Q (F0 m 0 ls []) := fun h => by rw [eH, el] at h; exact h
  refine goal0 ?_
  have hl : lv_has ls 6 [(0, .ref (g.2.2.2 0)), (1, .int (nI 8)), (2, .int (nI st))] := hl
  have iX11 : ∀ w ∈ wsX110, w ∈ wsX11_arranges := by decide +kernel
  have k51 := hts (.fieldLink RX11 51 "JumpingAutomataModel" "length" "I") (by decide +kernel)
  have k13 := hts (.fieldLink RX11 13 "JumpingAutomataModel" "now" "[I") (by decide +kernel)
  have k82 := hts (.fieldLink RX11 82 "JumpingAutomataModel" "rankLeft" "J") (by decide +kernel)
  have k86 := hts (.fieldLink RX11 86 "JumpingAutomataModel" "isFound" "Z") (by decide +kernel)
  have hl0 := ar_le3 (σ.2.1 10)
  refine lv_iload_n hx hb dX11_arranges_0 rfl (lv_at hl 1 rfl) ?_
  refine lv_aload_n hx hb dX11_arranges_1 rfl (lv_at hl 0 rfl) ?_
  refine va_get (D := (g.1, g.2.1)) (ci := 13) (v := .int (nI (σ.1 6))) (C := RX11) (T := TX11) (N := 30) hx hb hts iX11 hown hK.1 hP 0 (gM0 g σ tl) rfl 13 (by decide) k51 (fun _ h9 => h9) rfl dX11_arranges_2 ?_
  refine jn_cne hx hb (by decide) (by omega) (tgt := 52) dX11_arranges_5 (by decide) (fun c_5 => absurd c_5 (by omega)) (fun c_5 => ?_)
  have e0 : ((σ.1 6) - 8) = 0 := by omega
  refine lv_iload_n hx hb dX11_arranges_8 rfl (lv_at hl 2 rfl) ?_
  refine lv_aload_n hx hb dX11_arranges_9 rfl (lv_at hl 0 rfl) ?_
  refine va_get (D := (g.1, g.2.1)) (ci := 13) (v := .ref (g.2.2.2 1)) (C := RX11) (T := TX11) (N := 30) hx hb hts iX11 hown hK.1 hP 0 (gM0 g σ tl) rfl 1 (by decide) k13 (fun _ h9 => h9) rfl dX11_arranges_10 ?_
  refine lv_bipush (v := nI 15) hx hb dX11_arranges_13 (by decide) ?_
  refine jn_iald (f := σ.2.1 0) hx hb hK.1 hP 1 0 (gM1 g σ tl) rfl (by decide) (Nat.le_of_ble_eq_true rfl) dX11_arranges_15 ?_
  refine jn_iand hx hb dX11_arranges_16 ?_
  refine jn_zne hx hb (and_lt (by omega)) (tgt := 22) dX11_arranges_17 (by decide) (fun c_17 => ?_) (fun c_17 => ?_)
  · refine lv_aload_n hx hb dX11_arranges_22 rfl (lv_at hl 0 rfl) ?_
    refine lv_aload_n hx hb dX11_arranges_23 rfl (lv_at hl 0 rfl) ?_
    refine va_get (D := (g.1, g.2.1)) (ci := 13) (v := .long (lN (σ.1 10))) (C := RX11) (T := TX11) (N := 30) hx hb hts iX11 hown hK.1 hP 0 (gM0 g σ tl) rfl 23 (by decide) k82 (fun _ h9 => h9) rfl dX11_arranges_24 ?_
    refine lv_lconst (v := lN 0) hx hb dX11_arranges_27 (by decide) ?_
    refine jn_lcmp hx hb dX11_arranges_28 ?_
    have jp37 : ∀ v37 : Nat, v37 = (if (σ.1 10) = 0 then 1 else 0) → W p l e r_c_X11_arranges_d8 s m ([.ref (g.2.2.2 0), .int (nI 8), .int (nI st)] : List Value).toArray below meth c H locs 0 0 Q (F0 m 37 ls [.int (nI v37), .ref (g.2.2.2 0)]) := by
      intro v37 ev37
      refine jn_put (D := (g.1, g.2.1)) (ci := 13) (v := .int (nI v37)) (ty := .boolean) (C := RX11) (T := TX11) (N := 30) hx hb hts iX11 tyX11 tyX11_ok nmX11 hown hK.1 hP hD hS 0 (gM0 g σ tl) rfl 24 (by decide) k86 (fun _ h9 => h9) rfl (by decide +kernel) (by rw [ev37]; exact jn_nb _) (by rw [ev37]; exact jn_fb _) (Nat.le_of_ble_eq_true rfl) (uM_F11 g σ tl v37) dX11_arranges_37 (fun H locs hP hD hS => ?_)
      refine lv_aload_n hx hb dX11_arranges_40 rfl (lv_at hl 0 rfl) ?_
      refine lv_dup hx hb dX11_arranges_41 rfl ?_
      refine va_get (D := (g.1, g.2.1)) (ci := 13) (v := .long (lN (σ.1 10))) (C := RX11) (T := TX11) (N := 30) hx hb hts iX11 hown hK.1 hP 0 (gM0 g (sF σ 11 v37) tl) rfl 23 (by decide) k82 (fun _ h9 => h9) rfl dX11_arranges_42 ?_
      refine lv_lconst (v := lN 1) hx hb dX11_arranges_45 (by decide) ?_
      refine jn_lsub1 hx hb dX11_arranges_46 ?_
      refine jn_put (D := (g.1, g.2.1)) (ci := 13) (v := .long (lN (slb (σ.1 10)))) (ty := .long) (C := RX11) (T := TX11) (N := 30) hx hb hts iX11 tyX11 tyX11_ok nmX11 hown hK.1 hP hD hS 0 (gM0 g (sF σ 11 v37) tl) rfl 23 (by decide) k82 (fun _ h9 => h9) rfl (by decide +kernel) rfl rfl (Nat.le_of_ble_eq_true rfl) (uM_F10 g (sF σ 11 v37) tl (slb (σ.1 10))) dX11_arranges_47 (fun H locs hP hD hS => ?_)
      refine lv_lconst (v := lN 1) hx hb dX11_arranges_50 (by decide) ?_
      exact hq _ _ _ _ ((lN 1)) (1, (slb (σ.1 10)), v37, (σ.2.1 6), (σ.2.1 10)) dX11_arranges_51 ⟨rfl, by rw [e0, arrN, if_pos c_17]; by_cases q : (σ.1 10) = 0; { exact Or.inl ⟨by omega, by rw [ev37, if_pos q], trivial⟩ }; { exact Or.inr ⟨by omega, by rw [ev37, if_neg q], by unfold slb; rw [if_neg q], rfl⟩ }, fun _ _ => rfl, fun _ _ => rfl, slb_lt hrk⟩ hP hD hS
    refine jn_lneU hx hb hrk (by decide) (tgt := 36) dX11_arranges_29 (by decide) (fun c_29 => ?_) (fun c_29 => ?_)
    · refine lv_iconst (v := nI 0) hx hb dX11_arranges_36 (by decide) ?_
      exact jp37 0 (by rw [if_neg c_29])
    · refine lv_iconst (v := nI 1) hx hb dX11_arranges_32 (by decide) ?_
      refine lv_goto (tgt := 37) hx hb dX11_arranges_33 (by decide) ?_
      exact jp37 1 (by rw [if_pos c_29])
  · refine lv_lconst (v := lN 0) hx hb dX11_arranges_20 (by decide) ?_
    exact hq _ _ _ _ ((lN 0)) (0, (σ.1 10), (σ.1 11), (σ.2.1 6), (σ.2.1 10)) dX11_arranges_21 ⟨rfl, Or.inr (by rw [e0, arrN, if_neg (fun q => q c_17)]; exact ⟨by omega, hfo, rfl, rfl⟩), fun _ _ => rfl, fun _ _ => rfl, hrk⟩ hP hD hS

abbrev r_c_X11_arranges_d7 : Room := { frames := 2, cells := 0, slots := 0, locals := 46 }
set_option maxHeartbeats 4000000 in
set_option maxRecDepth 100000 in
theorem c_X11_arranges_d7 (l : Launch) (g : GC) (tl : va_W) (sz : Nat) (σ : SS) (st : Nat) (hT : OkT (σ.2.1 0)) (hF : ((σ.2.1 0) 15) < 32) (hn : (σ.1 6) ≤ 8) (hd : 7 ≤ (σ.1 6)) (hst : st < 32) (hfo : (σ.1 11) = 0) (hrk : (σ.1 10) < 18446744073709551616) (hlf : (σ.2.1 10) 0 + (σ.2.1 10) 1 + (σ.2.1 10) 2 = ((σ.1 6) - 7)) : Met l yX11_arranges wsX11_arranges r_c_X11_arranges_d7 (va_Pc [.ref (g.2.2.2 0), .int (nI 7), .int (nI st)] (PW g (wM g σ ++ tl) sz)) (va_Ql (fun (r : Int64) (z : Nat × Nat × Nat × (Nat → Nat) × (Nat → Nat)) => match z with | (r0, rl, fo, ot, lf) => (r = lN (r0)) ∧ (((σ.1 10) < arrN (σ.2.1 0) ((σ.2.1 0) 15) ((σ.1 6) - 7) (σ.2.1 10) st ∧ fo = 1 ∧ isArr (σ.2.1 0) ((σ.2.1 0) 15) ((σ.1 6) - 7) (σ.2.1 10) st (σ.1 10) (fun i => ot (7 + i))) ∨ (¬ (σ.1 10) < arrN (σ.2.1 0) ((σ.2.1 0) 15) ((σ.1 6) - 7) (σ.2.1 10) st ∧ fo = 0 ∧ rl = (σ.1 10) - arrN (σ.2.1 0) ((σ.2.1 0) 15) ((σ.1 6) - 7) (σ.2.1 10) st ∧ r0 = arrN (σ.2.1 0) ((σ.2.1 0) 15) ((σ.1 6) - 7) (σ.2.1 10) st)) ∧ (∀ i, i < 7 → ot i = (σ.2.1 6) i) ∧ (∀ x, x < 3 → lf x = (σ.2.1 10) x) ∧ (rl < 18446744073709551616)) (fun (z : Nat × Nat × Nat × (Nat → Nat) × (Nat → Nat)) t => BW g (va_A (wM g σ ++ tl) sz) ((fun z : Nat × Nat × Nat × (Nat → Nat) × (Nat → Nat) => match z with | (r0, rl, fo, ot, lf) => wM g (sA (sA (sF (sF σ 10 rl) 11 fo) 6 ot) 10 lf) ++ tl) z) t) (va_A (wM g σ ++ tl) sz)) 0 0 (va_A (wM g σ ++ tl) sz) := by
  refine jn_sl (wf := fun z : Nat × Nat × Nat × (Nat → Nat) × (Nat → Nat) => match z with | (r0, rl, fo, ot, lf) => wM g (sA (sA (sF (sF σ 10 rl) 11 fo) 6 ot) 10 lf) ++ tl) (cc := cX11_arranges) (maxL := 6) (own := RX11) (by decide) rfl rfl (Nat.le_of_ble_eq_true rfl) ?_
  intro p e s m below meth c Q A hx hb hml hown hts hK hP hD hS hAA hq ls hl
  obtain ⟨H, eH⟩ : ∃ z, z = s.heap := ⟨_, rfl⟩
  obtain ⟨locs, el⟩ : ∃ z : List Loc, z = [] := ⟨_, rfl⟩
  rw [← eH] at hP
  have hS : va_S A s.heap H locs := by rw [eH, el]; exact hS
  have goal0 : W p l e r_c_X11_arranges_d7 s m ([.ref (g.2.2.2 0), .int (nI 7), .int (nI st)] : List Value).toArray below meth c H locs 0 0 Q (F0 m 0 ls []) → W p l e r_c_X11_arranges_d7 s m ([.ref (g.2.2.2 0), .int (nI 7), .int (nI st)] : List Value).toArray below meth c s.heap [] 0 0 Q (F0 m 0 ls []) := fun h => by rw [eH, el] at h; exact h
  refine goal0 ?_
  have hl : lv_has ls 6 [(0, .ref (g.2.2.2 0)), (1, .int (nI 7)), (2, .int (nI st))] := hl
  have iX11 : ∀ w ∈ wsX110, w ∈ wsX11_arranges := by decide +kernel
  have k51 := hts (.fieldLink RX11 51 "JumpingAutomataModel" "length" "I") (by decide +kernel)
  have k86 := hts (.fieldLink RX11 86 "JumpingAutomataModel" "isFound" "Z") (by decide +kernel)
  have k79 := hts (.fieldLink RX11 79 "JumpingAutomataModel" "left" "[I") (by decide +kernel)
  have k48 := hts (.fieldLink RX11 48 "JumpingAutomataModel" "other" "[I") (by decide +kernel)
  have k13 := hts (.fieldLink RX11 13 "JumpingAutomataModel" "now" "[I") (by decide +kernel)
  have k82 := hts (.fieldLink RX11 82 "JumpingAutomataModel" "rankLeft" "J") (by decide +kernel)
  have hl0 := ar_le3 (σ.2.1 10)
  refine lv_iload_n hx hb dX11_arranges_0 rfl (lv_at hl 1 rfl) ?_
  refine lv_aload_n hx hb dX11_arranges_1 rfl (lv_at hl 0 rfl) ?_
  refine va_get (D := (g.1, g.2.1)) (ci := 13) (v := .int (nI (σ.1 6))) (C := RX11) (T := TX11) (N := 30) hx hb hts iX11 hown hK.1 hP 0 (gM0 g σ tl) rfl 13 (by decide) k51 (fun _ h9 => h9) rfl dX11_arranges_2 ?_
  refine jn_cne hx hb (by decide) (by omega) (tgt := 52) dX11_arranges_5 (by decide) (fun c_5 => ?_) (fun c_5 => ?_)
  · refine lv_lconst (v := lN 0) hx hb dX11_arranges_52 (by decide) ?_
    refine lv_lstore_n (lv' := [(3, .long (lN 0)), (0, .ref (g.2.2.2 0)), (1, .int (nI 7)), (2, .int (nI st))]) hx hb dX11_arranges_53 rfl hl (by decide) rfl (fun ls hl => ?_)
    refine lv_iconst (v := nI 0) hx hb dX11_arranges_54 (by decide) ?_
    refine lv_istore (lv' := [(5, .int (nI 0)), (3, .long (lN 0)), (0, .ref (g.2.2.2 0)), (1, .int (nI 7)), (2, .int (nI st))]) hx hb dX11_arranges_55 hl (by decide) rfl (fun ls hl => ?_)
    have lp57 : ∀ (fu : Nat), ∀ (x0 : Nat) (z : Nat) (rl1 : Nat) (fo1 : Nat) (ot1 : Nat → Nat) (lf1 : Nat → Nat), (x0 ≤ 3) → (ArI (σ.2.1 0) ((σ.2.1 0) 15) ((σ.1 6) - 8) (σ.2.1 10) st (σ.1 10) x0 rl1 z fo1 7 ot1) → (∀ i, i < 7 → ot1 i = (σ.2.1 6) i) → (∀ x, x < 3 → lf1 x = (σ.2.1 10) x) → (rl1 < 18446744073709551616) → 3 - x0 < fu → ∀ (H : Heap) (locs : List Loc), va_P (g.1, g.2.1) vwCl (wM g (sA (sA (sF (sF σ 10 rl1) 11 fo1) 6 ot1) 10 lf1) ++ tl) H → va_D A (wM g (sA (sA (sF (sF σ 10 rl1) 11 fo1) 6 ot1) 10 lf1) ++ tl) → va_S A s.heap H locs → ∀ ls : Array Slot, lv_has ls 6 [(0, .ref (g.2.2.2 0)), (1, .int (nI 7)), (2, .int (nI st)), (3, .long (lN z)), (5, .int (nI x0))] → W p l e r_c_X11_arranges_d7 s m ([.ref (g.2.2.2 0), .int (nI 7), .int (nI st)] : List Value).toArray below meth c H locs 0 0 Q (F0 m 57 ls []) := by
      intro fu
      induction fu with
      | zero => intro x0 z rl1 fo1 ot1 lf1 i1 i2 i3 i4 i5 hf; exact absurd hf (Nat.not_lt_zero _)
      | succ fu ih57 =>
        intro x0 z rl1 fo1 ot1 lf1 i1 i2 i3 i4 i5 hf H locs hP hD hS ls hl
        have eK : ((σ.1 6) - 7) = ((σ.1 6) - 8) + 1 := by omega
        have hfo1 : fo1 = 0 ∨ fo1 = 1 := i2.imp (fun z => z.1) (fun z => z.1)
        refine lv_iload hx hb dX11_arranges_57 (lv_at hl 4 rfl) ?_
        refine lv_iconst (v := nI 3) hx hb dX11_arranges_59 (by decide) ?_
        refine jn_cge hx hb (by omega) (by decide) (tgt := 136) dX11_arranges_60 (by decide) (fun c_60 => ?_) (fun c_60 => ?_)
        · refine lv_lload_n hx hb dX11_arranges_136 rfl (lv_at hl 3 rfl) ?_
          exact hq _ _ _ _ ((lN z)) (z, rl1, fo1, ot1, lf1) dX11_arranges_137 ⟨rfl, by first | exact ari_end i2 eK (Or.inl (by omega)) | exact ari_end i2 eK (Or.inr c_67), i3, i4, i5⟩ hP hD hS
        · refine lv_aload_n hx hb dX11_arranges_63 rfl (lv_at hl 0 rfl) ?_
          refine va_get (D := (g.1, g.2.1)) (ci := 13) (v := .int (nI fo1)) (C := RX11) (T := TX11) (N := 30) hx hb hts iX11 hown hK.1 hP 0 (gM0 g (sA (sA (sF (sF σ 10 rl1) 11 fo1) 6 ot1) 10 lf1) tl) rfl 24 (by decide) k86 (fun _ h9 => h9) rfl dX11_arranges_64 ?_
          refine jn_zne hx hb (by omega) (tgt := 136) dX11_arranges_67 (by decide) (fun c_67 => ?_) (fun c_67 => ?_)
          · refine lv_lload_n hx hb dX11_arranges_136 rfl (lv_at hl 3 rfl) ?_
            exact hq _ _ _ _ ((lN z)) (z, rl1, fo1, ot1, lf1) dX11_arranges_137 ⟨rfl, by first | exact ari_end i2 eK (Or.inl (by omega)) | exact ari_end i2 eK (Or.inr c_67), i3, i4, i5⟩ hP hD hS
          · refine lv_aload_n hx hb dX11_arranges_70 rfl (lv_at hl 0 rfl) ?_
            refine va_get (D := (g.1, g.2.1)) (ci := 13) (v := .ref (g.2.2.2 13)) (C := RX11) (T := TX11) (N := 30) hx hb hts iX11 hown hK.1 hP 0 (gM0 g (sA (sA (sF (sF σ 10 rl1) 11 fo1) 6 ot1) 10 lf1) tl) rfl 22 (by decide) k79 (fun _ h9 => h9) rfl dX11_arranges_71 ?_
            refine lv_iload hx hb dX11_arranges_74 (lv_at hl 4 rfl) ?_
            refine jn_iald (f := lf1) hx hb hK.1 hP 13 0 (gM13 g (sA (sA (sF (sF σ 10 rl1) 11 fo1) 6 ot1) 10 lf1) tl) rfl (by omega) (Nat.le_of_ble_eq_true rfl) dX11_arranges_76 ?_
            have hll := hl0 x0 (by omega)
            have hl1 := i4 x0 (by omega)
            refine jn_zne hx hb (by omega) (tgt := 83) dX11_arranges_77 (by decide) (fun c_77 => ?_) (fun c_77 => ?_)
            · refine lv_aload_n hx hb dX11_arranges_83 rfl (lv_at hl 0 rfl) ?_
              refine va_get (D := (g.1, g.2.1)) (ci := 13) (v := .ref (g.2.2.2 13)) (C := RX11) (T := TX11) (N := 30) hx hb hts iX11 hown hK.1 hP 0 (gM0 g (sA (sA (sF (sF σ 10 rl1) 11 fo1) 6 ot1) 10 lf1) tl) rfl 22 (by decide) k79 (fun _ h9 => h9) rfl dX11_arranges_84 ?_
              refine lv_iload hx hb dX11_arranges_87 (lv_at hl 4 rfl) ?_
              refine lv_dup2_11 hx hb dX11_arranges_89 rfl rfl ?_
              refine jn_iald (f := lf1) hx hb hK.1 hP 13 0 (gM13 g (sA (sA (sF (sF σ 10 rl1) 11 fo1) 6 ot1) 10 lf1) tl) rfl (by omega) (Nat.le_of_ble_eq_true rfl) dX11_arranges_90 ?_
              refine lv_iconst (v := nI 1) hx hb dX11_arranges_91 (by decide) ?_
              refine jn_isub hx hb (by omega) dX11_arranges_92 ?_
              refine jn_iast (f := lf1) hx hb hK.1 hP hD hS 13 0 (gM13 g (sA (sA (sF (sF σ 10 rl1) 11 fo1) 6 ot1) 10 lf1) tl) rfl (by omega) (Nat.le_of_ble_eq_true rfl) (uM_A10 g (sA (sA (sF (sF σ 10 rl1) 11 fo1) 6 ot1) 10 lf1) tl _) dX11_arranges_93 (fun H locs hP hD hS => ?_)
              refine lv_aload_n hx hb dX11_arranges_94 rfl (lv_at hl 0 rfl) ?_
              refine va_get (D := (g.1, g.2.1)) (ci := 13) (v := .ref (g.2.2.2 7)) (C := RX11) (T := TX11) (N := 30) hx hb hts iX11 hown hK.1 hP 0 (gM0 g (sA (sA (sA (sF (sF σ 10 rl1) 11 fo1) 6 ot1) 10 lf1) 10 (va_up lf1 x0 ((lf1 x0) - 1))) tl) rfl 12 (by decide) k48 (fun _ h9 => h9) rfl dX11_arranges_95 ?_
              refine lv_iload_n hx hb dX11_arranges_98 rfl (lv_at hl 1 rfl) ?_
              refine lv_iload hx hb dX11_arranges_99 (lv_at hl 4 rfl) ?_
              refine jn_iast (f := ot1) hx hb hK.1 hP hD hS 7 0 (gM7 g (sA (sA (sA (sF (sF σ 10 rl1) 11 fo1) 6 ot1) 10 lf1) 10 (va_up lf1 x0 ((lf1 x0) - 1))) tl) rfl (by decide) (Nat.le_of_ble_eq_true rfl) (uM_A6 g (sA (sA (sA (sF (sF σ 10 rl1) 11 fo1) 6 ot1) 10 lf1) 10 (va_up lf1 x0 ((lf1 x0) - 1))) tl _) dX11_arranges_101 (fun H locs hP hD hS => ?_)
              refine lv_lload_n hx hb dX11_arranges_102 rfl (lv_at hl 3 rfl) ?_
              refine lv_aload_n hx hb dX11_arranges_103 rfl (lv_at hl 0 rfl) ?_
              refine lv_iload_n hx hb dX11_arranges_104 rfl (lv_at hl 1 rfl) ?_
              refine lv_iconst (v := nI 1) hx hb dX11_arranges_105 (by decide) ?_
              refine jn_iadd hx hb dX11_arranges_106 ?_
              refine lv_aload_n hx hb dX11_arranges_107 rfl (lv_at hl 0 rfl) ?_
              refine lv_iload_n hx hb dX11_arranges_108 rfl (lv_at hl 2 rfl) ?_
              refine lv_iload hx hb dX11_arranges_109 (lv_at hl 4 rfl) ?_
              refine vp_callSi (va_Run.run (va_runV (As := [.int (nI st), .int (nI x0)]) (rest := [.int (nI (7 + 1)), .ref (g.2.2.2 0), .long (lN z)]) ⟨hx, hb, hml, hown, hts⟩ (c_X11_after l g tl (sA (sA (sA (sA (sF (sF σ 10 rl1) 11 fo1) 6 ot1) 10 lf1) 10 (va_up lf1 x0 ((lf1 x0) - 1))) 6 (va_up ot1 7 x0)) st x0 (by omega) (by omega)) (cwV 2 hts gX11_arranges_X11_after rfl rfl rfl (by decide +kernel) ⟨Nat.le_of_ble_eq_true rfl, Nat.le_of_ble_eq_true rfl⟩) (okPV hK hP rfl (gM0 g (sA (sA (sA (sA (sF (sF σ 10 rl1) 11 fo1) 6 ot1) 10 lf1) 10 (va_up lf1 x0 ((lf1 x0) - 1))) 6 (va_up ot1 7 x0)) tl)) rfl rfl hl.1 rfl (lv_room (Nat.le_of_ble_eq_true rfl)) dX11_arranges_111 ⟨Nat.le_of_ble_eq_true rfl, Nat.le_of_ble_eq_true rfl⟩)) (fun r_111 h_111 => ?_)
              have h_111 : r_111 = (nI (stp (σ.2.1 0) x0 st)) := h_111
              subst h_111
              refine jn_calll (va_runV (As := [.int (nI (7 + 1)), .int (nI (stp (σ.2.1 0) x0 st))]) (rest := [.long (lN z)]) ⟨hx, hb, hml, hown, hts⟩ (c_X11_arranges_d8 l g tl H.size (sA (sA (sA (sA (sF (sF σ 10 rl1) 11 fo1) 6 ot1) 10 lf1) 10 (va_up lf1 x0 ((lf1 x0) - 1))) 6 (va_up ot1 7 x0)) (stp (σ.2.1 0) x0 st) hT hF hn (show 8 ≤ (σ.1 6) by omega) (stp_lt hT (by omega)) (show fo1 = 0 by omega) i5 (by show va_up lf1 x0 (lf1 x0 - 1) 0 + va_up lf1 x0 (lf1 x0 - 1) 1 + va_up lf1 x0 (lf1 x0 - 1) 2 = ((σ.1 6) - 8); rw [ar_sum lf1 x0 (by omega) (by omega), i4 0 (by decide), i4 1 (by decide), i4 2 (by decide), hlf]; omega)) (cwV 2 hts gX11_arranges_X11_arranges rfl rfl rfl (by decide +kernel) ⟨Nat.le_of_ble_eq_true rfl, Nat.le_of_ble_eq_true rfl⟩) (okWV hK hP hD rfl (gM0 g (sA (sA (sA (sA (sF (sF σ 10 rl1) 11 fo1) 6 ot1) 10 lf1) 10 (va_up lf1 x0 ((lf1 x0) - 1))) 6 (va_up ot1 7 x0)) tl)) rfl rfl hl.1 rfl (lv_room (Nat.le_of_ble_eq_true rfl)) dX11_arranges_114 ⟨Nat.le_of_ble_eq_true rfl, Nat.le_of_ble_eq_true rfl⟩) hD hS hAA (fun r_114 u H locs hw_ hP hD hS => ?_)
              obtain ⟨r0_114, rl_114, fo_114, ot_114, lf_114⟩ := u
              obtain ⟨rfl, h_114⟩ := hw_
              have h_114 : (((rl1) < arrN (σ.2.1 0) ((σ.2.1 0) 15) ((σ.1 6) - 8) ((va_up lf1 x0 ((lf1 x0) - 1))) (stp (σ.2.1 0) x0 st) ∧ fo_114 = 1 ∧ isArr (σ.2.1 0) ((σ.2.1 0) 15) ((σ.1 6) - 8) ((va_up lf1 x0 ((lf1 x0) - 1))) (stp (σ.2.1 0) x0 st) (rl1) (fun i => ot_114 (8 + i))) ∨ (¬ (rl1) < arrN (σ.2.1 0) ((σ.2.1 0) 15) ((σ.1 6) - 8) ((va_up lf1 x0 ((lf1 x0) - 1))) (stp (σ.2.1 0) x0 st) ∧ fo_114 = 0 ∧ rl_114 = (rl1) - arrN (σ.2.1 0) ((σ.2.1 0) 15) ((σ.1 6) - 8) ((va_up lf1 x0 ((lf1 x0) - 1))) (stp (σ.2.1 0) x0 st) ∧ r0_114 = arrN (σ.2.1 0) ((σ.2.1 0) 15) ((σ.1 6) - 8) ((va_up lf1 x0 ((lf1 x0) - 1))) (stp (σ.2.1 0) x0 st))) ∧ (∀ i, i < 8 → ot_114 i = ((va_up ot1 7 x0)) i) ∧ (∀ x, x < 3 → lf_114 x = ((va_up lf1 x0 ((lf1 x0) - 1))) x) ∧ (rl_114 < 18446744073709551616) := h_114
              have hP : va_P (g.1, g.2.1) vwCl (wM g (sA (sA (sF (sF (sA (sA (sA (sA (sF (sF σ 10 rl1) 11 fo1) 6 ot1) 10 lf1) 10 (va_up lf1 x0 ((lf1 x0) - 1))) 6 (va_up ot1 7 x0)) 10 rl_114) 11 fo_114) 6 ot_114) 10 lf_114) ++ tl) H := hP
              have hD : va_D A (wM g (sA (sA (sF (sF (sA (sA (sA (sA (sF (sF σ 10 rl1) 11 fo1) 6 ot1) 10 lf1) 10 (va_up lf1 x0 ((lf1 x0) - 1))) 6 (va_up ot1 7 x0)) 10 rl_114) 11 fo_114) 6 ot_114) 10 lf_114) ++ tl) := hD
              refine jn_ladd hx hb dX11_arranges_117 ?_
              refine lv_lstore_n (lv' := [(3, .long (lN (z + r0_114))), (0, .ref (g.2.2.2 0)), (1, .int (nI 7)), (2, .int (nI st)), (5, .int (nI x0))]) hx hb dX11_arranges_118 rfl hl (by decide) rfl (fun ls hl => ?_)
              refine lv_aload_n hx hb dX11_arranges_119 rfl (lv_at hl 1 rfl) ?_
              refine va_get (D := (g.1, g.2.1)) (ci := 13) (v := .ref (g.2.2.2 13)) (C := RX11) (T := TX11) (N := 30) hx hb hts iX11 hown hK.1 hP 0 (gM0 g (sA (sA (sF (sF (sA (sA (sA (sA (sF (sF σ 10 rl1) 11 fo1) 6 ot1) 10 lf1) 10 (va_up lf1 x0 ((lf1 x0) - 1))) 6 (va_up ot1 7 x0)) 10 rl_114) 11 fo_114) 6 ot_114) 10 lf_114) tl) rfl 22 (by decide) k79 (fun _ h9 => h9) rfl dX11_arranges_120 ?_
              refine lv_iload hx hb dX11_arranges_123 (lv_at hl 4 rfl) ?_
              refine lv_dup2_11 hx hb dX11_arranges_125 rfl rfl ?_
              refine jn_iald (f := lf_114) hx hb hK.1 hP 13 0 (gM13 g (sA (sA (sF (sF (sA (sA (sA (sA (sF (sF σ 10 rl1) 11 fo1) 6 ot1) 10 lf1) 10 (va_up lf1 x0 ((lf1 x0) - 1))) 6 (va_up ot1 7 x0)) 10 rl_114) 11 fo_114) 6 ot_114) 10 lf_114) tl) rfl (by omega) (Nat.le_of_ble_eq_true rfl) dX11_arranges_126 ?_
              refine lv_iconst (v := nI 1) hx hb dX11_arranges_127 (by decide) ?_
              refine jn_iadd hx hb dX11_arranges_128 ?_
              refine jn_iast (f := lf_114) hx hb hK.1 hP hD hS 13 0 (gM13 g (sA (sA (sF (sF (sA (sA (sA (sA (sF (sF σ 10 rl1) 11 fo1) 6 ot1) 10 lf1) 10 (va_up lf1 x0 ((lf1 x0) - 1))) 6 (va_up ot1 7 x0)) 10 rl_114) 11 fo_114) 6 ot_114) 10 lf_114) tl) rfl (by omega) (Nat.le_of_ble_eq_true rfl) (uM_A10 g (sA (sA (sF (sF (sA (sA (sA (sA (sF (sF σ 10 rl1) 11 fo1) 6 ot1) 10 lf1) 10 (va_up lf1 x0 ((lf1 x0) - 1))) 6 (va_up ot1 7 x0)) 10 rl_114) 11 fo_114) 6 ot_114) 10 lf_114) tl _) dX11_arranges_129 (fun H locs hP hD hS => ?_)
              refine lv_iinc (v := nI (x0 + 1)) (lv' := [(5, .int (nI (x0 + 1))), (3, .long (lN (z + r0_114))), (0, .ref (g.2.2.2 0)), (1, .int (nI 7)), (2, .int (nI st))]) hx hb dX11_arranges_130 hl (k := 4) rfl (jn_ii _ 1) (by decide) rfl (fun ls hl => ?_)
              refine lv_goto (tgt := 57) hx hb dX11_arranges_133 (by decide) ?_
              exact ih57 (x0 + 1) (z + r0_114) rl_114 fo_114 ot_114 (va_up lf_114 x0 ((lf_114 x0) + 1)) (by omega) (by first | exact ari_no i2 (by omega) (by rw [← i4 _ (by omega)]; exact c_77) | exact ari_call i2 (by omega) (by omega) c_77 i4 (by rw [h_114.2.1 _ (by omega), va_up, if_pos rfl]) h_114.1) (by first | exact i3 | exact (fun i hi => by rw [h_114.2.1 i (by omega), va_up, if_neg (by omega)]; exact i3 i hi)) (by first | exact i4 | exact ar_lf i4 h_114.2.2.1 ⟨by omega, by omega⟩) (by first | exact i5 | exact h_114.2.2.2) (by omega) _ _ hP hD hS _ (lv_sub hl [2, 3, 4, 1, 0] rfl)
            · refine lv_goto (tgt := 130) hx hb dX11_arranges_80 (by decide) ?_
              refine lv_iinc (v := nI (x0 + 1)) (lv' := [(5, .int (nI (x0 + 1))), (0, .ref (g.2.2.2 0)), (1, .int (nI 7)), (2, .int (nI st)), (3, .long (lN z))]) hx hb dX11_arranges_130 hl (k := 4) rfl (jn_ii _ 1) (by decide) rfl (fun ls hl => ?_)
              refine lv_goto (tgt := 57) hx hb dX11_arranges_133 (by decide) ?_
              exact ih57 (x0 + 1) z rl1 fo1 ot1 lf1 (by omega) (by first | exact ari_no i2 (by omega) (by rw [← i4 _ (by omega)]; exact c_77) | exact ari_call i2 (by omega) (by omega) c_77 i4 (by rw [h_114.2.1 _ (by omega), va_up, if_pos rfl]) h_114.1) (by first | exact i3 | exact (fun i hi => by rw [h_114.2.1 i (by omega), va_up, if_neg (by omega)]; exact i3 i hi)) (by first | exact i4 | exact ar_lf i4 h_114.2.2.1 ⟨by omega, by omega⟩) (by first | exact i5 | exact h_114.2.2.2) (by omega) _ _ hP hD hS _ (lv_sub hl [1, 2, 3, 4, 0] rfl)
    exact lp57 _ 0 0 (σ.1 10) (σ.1 11) (σ.2.1 6) (σ.2.1 10) (by decide) (by rw [hfo]; exact ari_0) (fun _ _ => rfl) (fun _ _ => rfl) hrk (Nat.lt_succ_self _) _ _ hP hD hS _ (lv_sub hl [2, 3, 4, 1, 0] rfl)
  · have e0 : ((σ.1 6) - 7) = 0 := by omega
    refine lv_iload_n hx hb dX11_arranges_8 rfl (lv_at hl 2 rfl) ?_
    refine lv_aload_n hx hb dX11_arranges_9 rfl (lv_at hl 0 rfl) ?_
    refine va_get (D := (g.1, g.2.1)) (ci := 13) (v := .ref (g.2.2.2 1)) (C := RX11) (T := TX11) (N := 30) hx hb hts iX11 hown hK.1 hP 0 (gM0 g σ tl) rfl 1 (by decide) k13 (fun _ h9 => h9) rfl dX11_arranges_10 ?_
    refine lv_bipush (v := nI 15) hx hb dX11_arranges_13 (by decide) ?_
    refine jn_iald (f := σ.2.1 0) hx hb hK.1 hP 1 0 (gM1 g σ tl) rfl (by decide) (Nat.le_of_ble_eq_true rfl) dX11_arranges_15 ?_
    refine jn_iand hx hb dX11_arranges_16 ?_
    refine jn_zne hx hb (and_lt (by omega)) (tgt := 22) dX11_arranges_17 (by decide) (fun c_17 => ?_) (fun c_17 => ?_)
    · refine lv_aload_n hx hb dX11_arranges_22 rfl (lv_at hl 0 rfl) ?_
      refine lv_aload_n hx hb dX11_arranges_23 rfl (lv_at hl 0 rfl) ?_
      refine va_get (D := (g.1, g.2.1)) (ci := 13) (v := .long (lN (σ.1 10))) (C := RX11) (T := TX11) (N := 30) hx hb hts iX11 hown hK.1 hP 0 (gM0 g σ tl) rfl 23 (by decide) k82 (fun _ h9 => h9) rfl dX11_arranges_24 ?_
      refine lv_lconst (v := lN 0) hx hb dX11_arranges_27 (by decide) ?_
      refine jn_lcmp hx hb dX11_arranges_28 ?_
      have jp37 : ∀ v37 : Nat, v37 = (if (σ.1 10) = 0 then 1 else 0) → W p l e r_c_X11_arranges_d7 s m ([.ref (g.2.2.2 0), .int (nI 7), .int (nI st)] : List Value).toArray below meth c H locs 0 0 Q (F0 m 37 ls [.int (nI v37), .ref (g.2.2.2 0)]) := by
        intro v37 ev37
        refine jn_put (D := (g.1, g.2.1)) (ci := 13) (v := .int (nI v37)) (ty := .boolean) (C := RX11) (T := TX11) (N := 30) hx hb hts iX11 tyX11 tyX11_ok nmX11 hown hK.1 hP hD hS 0 (gM0 g σ tl) rfl 24 (by decide) k86 (fun _ h9 => h9) rfl (by decide +kernel) (by rw [ev37]; exact jn_nb _) (by rw [ev37]; exact jn_fb _) (Nat.le_of_ble_eq_true rfl) (uM_F11 g σ tl v37) dX11_arranges_37 (fun H locs hP hD hS => ?_)
        refine lv_aload_n hx hb dX11_arranges_40 rfl (lv_at hl 0 rfl) ?_
        refine lv_dup hx hb dX11_arranges_41 rfl ?_
        refine va_get (D := (g.1, g.2.1)) (ci := 13) (v := .long (lN (σ.1 10))) (C := RX11) (T := TX11) (N := 30) hx hb hts iX11 hown hK.1 hP 0 (gM0 g (sF σ 11 v37) tl) rfl 23 (by decide) k82 (fun _ h9 => h9) rfl dX11_arranges_42 ?_
        refine lv_lconst (v := lN 1) hx hb dX11_arranges_45 (by decide) ?_
        refine jn_lsub1 hx hb dX11_arranges_46 ?_
        refine jn_put (D := (g.1, g.2.1)) (ci := 13) (v := .long (lN (slb (σ.1 10)))) (ty := .long) (C := RX11) (T := TX11) (N := 30) hx hb hts iX11 tyX11 tyX11_ok nmX11 hown hK.1 hP hD hS 0 (gM0 g (sF σ 11 v37) tl) rfl 23 (by decide) k82 (fun _ h9 => h9) rfl (by decide +kernel) rfl rfl (Nat.le_of_ble_eq_true rfl) (uM_F10 g (sF σ 11 v37) tl (slb (σ.1 10))) dX11_arranges_47 (fun H locs hP hD hS => ?_)
        refine lv_lconst (v := lN 1) hx hb dX11_arranges_50 (by decide) ?_
        exact hq _ _ _ _ ((lN 1)) (1, (slb (σ.1 10)), v37, (σ.2.1 6), (σ.2.1 10)) dX11_arranges_51 ⟨rfl, by rw [e0, arrN, if_pos c_17]; by_cases q : (σ.1 10) = 0; { exact Or.inl ⟨by omega, by rw [ev37, if_pos q], trivial⟩ }; { exact Or.inr ⟨by omega, by rw [ev37, if_neg q], by unfold slb; rw [if_neg q], rfl⟩ }, fun _ _ => rfl, fun _ _ => rfl, slb_lt hrk⟩ hP hD hS
      refine jn_lneU hx hb hrk (by decide) (tgt := 36) dX11_arranges_29 (by decide) (fun c_29 => ?_) (fun c_29 => ?_)
      · refine lv_iconst (v := nI 0) hx hb dX11_arranges_36 (by decide) ?_
        exact jp37 0 (by rw [if_neg c_29])
      · refine lv_iconst (v := nI 1) hx hb dX11_arranges_32 (by decide) ?_
        refine lv_goto (tgt := 37) hx hb dX11_arranges_33 (by decide) ?_
        exact jp37 1 (by rw [if_pos c_29])
    · refine lv_lconst (v := lN 0) hx hb dX11_arranges_20 (by decide) ?_
      exact hq _ _ _ _ ((lN 0)) (0, (σ.1 10), (σ.1 11), (σ.2.1 6), (σ.2.1 10)) dX11_arranges_21 ⟨rfl, Or.inr (by rw [e0, arrN, if_neg (fun q => q c_17)]; exact ⟨by omega, hfo, rfl, rfl⟩), fun _ _ => rfl, fun _ _ => rfl, hrk⟩ hP hD hS

abbrev r_c_X11_arranges_d6 : Room := { frames := 3, cells := 0, slots := 0, locals := 71 }
set_option maxHeartbeats 4000000 in
set_option maxRecDepth 100000 in
theorem c_X11_arranges_d6 (l : Launch) (g : GC) (tl : va_W) (sz : Nat) (σ : SS) (st : Nat) (hT : OkT (σ.2.1 0)) (hF : ((σ.2.1 0) 15) < 32) (hn : (σ.1 6) ≤ 8) (hd : 6 ≤ (σ.1 6)) (hst : st < 32) (hfo : (σ.1 11) = 0) (hrk : (σ.1 10) < 18446744073709551616) (hlf : (σ.2.1 10) 0 + (σ.2.1 10) 1 + (σ.2.1 10) 2 = ((σ.1 6) - 6)) : Met l yX11_arranges wsX11_arranges r_c_X11_arranges_d6 (va_Pc [.ref (g.2.2.2 0), .int (nI 6), .int (nI st)] (PW g (wM g σ ++ tl) sz)) (va_Ql (fun (r : Int64) (z : Nat × Nat × Nat × (Nat → Nat) × (Nat → Nat)) => match z with | (r0, rl, fo, ot, lf) => (r = lN (r0)) ∧ (((σ.1 10) < arrN (σ.2.1 0) ((σ.2.1 0) 15) ((σ.1 6) - 6) (σ.2.1 10) st ∧ fo = 1 ∧ isArr (σ.2.1 0) ((σ.2.1 0) 15) ((σ.1 6) - 6) (σ.2.1 10) st (σ.1 10) (fun i => ot (6 + i))) ∨ (¬ (σ.1 10) < arrN (σ.2.1 0) ((σ.2.1 0) 15) ((σ.1 6) - 6) (σ.2.1 10) st ∧ fo = 0 ∧ rl = (σ.1 10) - arrN (σ.2.1 0) ((σ.2.1 0) 15) ((σ.1 6) - 6) (σ.2.1 10) st ∧ r0 = arrN (σ.2.1 0) ((σ.2.1 0) 15) ((σ.1 6) - 6) (σ.2.1 10) st)) ∧ (∀ i, i < 6 → ot i = (σ.2.1 6) i) ∧ (∀ x, x < 3 → lf x = (σ.2.1 10) x) ∧ (rl < 18446744073709551616)) (fun (z : Nat × Nat × Nat × (Nat → Nat) × (Nat → Nat)) t => BW g (va_A (wM g σ ++ tl) sz) ((fun z : Nat × Nat × Nat × (Nat → Nat) × (Nat → Nat) => match z with | (r0, rl, fo, ot, lf) => wM g (sA (sA (sF (sF σ 10 rl) 11 fo) 6 ot) 10 lf) ++ tl) z) t) (va_A (wM g σ ++ tl) sz)) 0 0 (va_A (wM g σ ++ tl) sz) := by
  refine jn_sl (wf := fun z : Nat × Nat × Nat × (Nat → Nat) × (Nat → Nat) => match z with | (r0, rl, fo, ot, lf) => wM g (sA (sA (sF (sF σ 10 rl) 11 fo) 6 ot) 10 lf) ++ tl) (cc := cX11_arranges) (maxL := 6) (own := RX11) (by decide) rfl rfl (Nat.le_of_ble_eq_true rfl) ?_
  intro p e s m below meth c Q A hx hb hml hown hts hK hP hD hS hAA hq ls hl
  obtain ⟨H, eH⟩ : ∃ z, z = s.heap := ⟨_, rfl⟩
  obtain ⟨locs, el⟩ : ∃ z : List Loc, z = [] := ⟨_, rfl⟩
  rw [← eH] at hP
  have hS : va_S A s.heap H locs := by rw [eH, el]; exact hS
  have goal0 : W p l e r_c_X11_arranges_d6 s m ([.ref (g.2.2.2 0), .int (nI 6), .int (nI st)] : List Value).toArray below meth c H locs 0 0 Q (F0 m 0 ls []) → W p l e r_c_X11_arranges_d6 s m ([.ref (g.2.2.2 0), .int (nI 6), .int (nI st)] : List Value).toArray below meth c s.heap [] 0 0 Q (F0 m 0 ls []) := fun h => by rw [eH, el] at h; exact h
  refine goal0 ?_
  have hl : lv_has ls 6 [(0, .ref (g.2.2.2 0)), (1, .int (nI 6)), (2, .int (nI st))] := hl
  have iX11 : ∀ w ∈ wsX110, w ∈ wsX11_arranges := by decide +kernel
  have k51 := hts (.fieldLink RX11 51 "JumpingAutomataModel" "length" "I") (by decide +kernel)
  have k86 := hts (.fieldLink RX11 86 "JumpingAutomataModel" "isFound" "Z") (by decide +kernel)
  have k79 := hts (.fieldLink RX11 79 "JumpingAutomataModel" "left" "[I") (by decide +kernel)
  have k48 := hts (.fieldLink RX11 48 "JumpingAutomataModel" "other" "[I") (by decide +kernel)
  have k13 := hts (.fieldLink RX11 13 "JumpingAutomataModel" "now" "[I") (by decide +kernel)
  have k82 := hts (.fieldLink RX11 82 "JumpingAutomataModel" "rankLeft" "J") (by decide +kernel)
  have hl0 := ar_le3 (σ.2.1 10)
  refine lv_iload_n hx hb dX11_arranges_0 rfl (lv_at hl 1 rfl) ?_
  refine lv_aload_n hx hb dX11_arranges_1 rfl (lv_at hl 0 rfl) ?_
  refine va_get (D := (g.1, g.2.1)) (ci := 13) (v := .int (nI (σ.1 6))) (C := RX11) (T := TX11) (N := 30) hx hb hts iX11 hown hK.1 hP 0 (gM0 g σ tl) rfl 13 (by decide) k51 (fun _ h9 => h9) rfl dX11_arranges_2 ?_
  refine jn_cne hx hb (by decide) (by omega) (tgt := 52) dX11_arranges_5 (by decide) (fun c_5 => ?_) (fun c_5 => ?_)
  · refine lv_lconst (v := lN 0) hx hb dX11_arranges_52 (by decide) ?_
    refine lv_lstore_n (lv' := [(3, .long (lN 0)), (0, .ref (g.2.2.2 0)), (1, .int (nI 6)), (2, .int (nI st))]) hx hb dX11_arranges_53 rfl hl (by decide) rfl (fun ls hl => ?_)
    refine lv_iconst (v := nI 0) hx hb dX11_arranges_54 (by decide) ?_
    refine lv_istore (lv' := [(5, .int (nI 0)), (3, .long (lN 0)), (0, .ref (g.2.2.2 0)), (1, .int (nI 6)), (2, .int (nI st))]) hx hb dX11_arranges_55 hl (by decide) rfl (fun ls hl => ?_)
    have lp57 : ∀ (fu : Nat), ∀ (x0 : Nat) (z : Nat) (rl1 : Nat) (fo1 : Nat) (ot1 : Nat → Nat) (lf1 : Nat → Nat), (x0 ≤ 3) → (ArI (σ.2.1 0) ((σ.2.1 0) 15) ((σ.1 6) - 7) (σ.2.1 10) st (σ.1 10) x0 rl1 z fo1 6 ot1) → (∀ i, i < 6 → ot1 i = (σ.2.1 6) i) → (∀ x, x < 3 → lf1 x = (σ.2.1 10) x) → (rl1 < 18446744073709551616) → 3 - x0 < fu → ∀ (H : Heap) (locs : List Loc), va_P (g.1, g.2.1) vwCl (wM g (sA (sA (sF (sF σ 10 rl1) 11 fo1) 6 ot1) 10 lf1) ++ tl) H → va_D A (wM g (sA (sA (sF (sF σ 10 rl1) 11 fo1) 6 ot1) 10 lf1) ++ tl) → va_S A s.heap H locs → ∀ ls : Array Slot, lv_has ls 6 [(0, .ref (g.2.2.2 0)), (1, .int (nI 6)), (2, .int (nI st)), (3, .long (lN z)), (5, .int (nI x0))] → W p l e r_c_X11_arranges_d6 s m ([.ref (g.2.2.2 0), .int (nI 6), .int (nI st)] : List Value).toArray below meth c H locs 0 0 Q (F0 m 57 ls []) := by
      intro fu
      induction fu with
      | zero => intro x0 z rl1 fo1 ot1 lf1 i1 i2 i3 i4 i5 hf; exact absurd hf (Nat.not_lt_zero _)
      | succ fu ih57 =>
        intro x0 z rl1 fo1 ot1 lf1 i1 i2 i3 i4 i5 hf H locs hP hD hS ls hl
        have eK : ((σ.1 6) - 6) = ((σ.1 6) - 7) + 1 := by omega
        have hfo1 : fo1 = 0 ∨ fo1 = 1 := i2.imp (fun z => z.1) (fun z => z.1)
        refine lv_iload hx hb dX11_arranges_57 (lv_at hl 4 rfl) ?_
        refine lv_iconst (v := nI 3) hx hb dX11_arranges_59 (by decide) ?_
        refine jn_cge hx hb (by omega) (by decide) (tgt := 136) dX11_arranges_60 (by decide) (fun c_60 => ?_) (fun c_60 => ?_)
        · refine lv_lload_n hx hb dX11_arranges_136 rfl (lv_at hl 3 rfl) ?_
          exact hq _ _ _ _ ((lN z)) (z, rl1, fo1, ot1, lf1) dX11_arranges_137 ⟨rfl, by first | exact ari_end i2 eK (Or.inl (by omega)) | exact ari_end i2 eK (Or.inr c_67), i3, i4, i5⟩ hP hD hS
        · refine lv_aload_n hx hb dX11_arranges_63 rfl (lv_at hl 0 rfl) ?_
          refine va_get (D := (g.1, g.2.1)) (ci := 13) (v := .int (nI fo1)) (C := RX11) (T := TX11) (N := 30) hx hb hts iX11 hown hK.1 hP 0 (gM0 g (sA (sA (sF (sF σ 10 rl1) 11 fo1) 6 ot1) 10 lf1) tl) rfl 24 (by decide) k86 (fun _ h9 => h9) rfl dX11_arranges_64 ?_
          refine jn_zne hx hb (by omega) (tgt := 136) dX11_arranges_67 (by decide) (fun c_67 => ?_) (fun c_67 => ?_)
          · refine lv_lload_n hx hb dX11_arranges_136 rfl (lv_at hl 3 rfl) ?_
            exact hq _ _ _ _ ((lN z)) (z, rl1, fo1, ot1, lf1) dX11_arranges_137 ⟨rfl, by first | exact ari_end i2 eK (Or.inl (by omega)) | exact ari_end i2 eK (Or.inr c_67), i3, i4, i5⟩ hP hD hS
          · refine lv_aload_n hx hb dX11_arranges_70 rfl (lv_at hl 0 rfl) ?_
            refine va_get (D := (g.1, g.2.1)) (ci := 13) (v := .ref (g.2.2.2 13)) (C := RX11) (T := TX11) (N := 30) hx hb hts iX11 hown hK.1 hP 0 (gM0 g (sA (sA (sF (sF σ 10 rl1) 11 fo1) 6 ot1) 10 lf1) tl) rfl 22 (by decide) k79 (fun _ h9 => h9) rfl dX11_arranges_71 ?_
            refine lv_iload hx hb dX11_arranges_74 (lv_at hl 4 rfl) ?_
            refine jn_iald (f := lf1) hx hb hK.1 hP 13 0 (gM13 g (sA (sA (sF (sF σ 10 rl1) 11 fo1) 6 ot1) 10 lf1) tl) rfl (by omega) (Nat.le_of_ble_eq_true rfl) dX11_arranges_76 ?_
            have hll := hl0 x0 (by omega)
            have hl1 := i4 x0 (by omega)
            refine jn_zne hx hb (by omega) (tgt := 83) dX11_arranges_77 (by decide) (fun c_77 => ?_) (fun c_77 => ?_)
            · refine lv_aload_n hx hb dX11_arranges_83 rfl (lv_at hl 0 rfl) ?_
              refine va_get (D := (g.1, g.2.1)) (ci := 13) (v := .ref (g.2.2.2 13)) (C := RX11) (T := TX11) (N := 30) hx hb hts iX11 hown hK.1 hP 0 (gM0 g (sA (sA (sF (sF σ 10 rl1) 11 fo1) 6 ot1) 10 lf1) tl) rfl 22 (by decide) k79 (fun _ h9 => h9) rfl dX11_arranges_84 ?_
              refine lv_iload hx hb dX11_arranges_87 (lv_at hl 4 rfl) ?_
              refine lv_dup2_11 hx hb dX11_arranges_89 rfl rfl ?_
              refine jn_iald (f := lf1) hx hb hK.1 hP 13 0 (gM13 g (sA (sA (sF (sF σ 10 rl1) 11 fo1) 6 ot1) 10 lf1) tl) rfl (by omega) (Nat.le_of_ble_eq_true rfl) dX11_arranges_90 ?_
              refine lv_iconst (v := nI 1) hx hb dX11_arranges_91 (by decide) ?_
              refine jn_isub hx hb (by omega) dX11_arranges_92 ?_
              refine jn_iast (f := lf1) hx hb hK.1 hP hD hS 13 0 (gM13 g (sA (sA (sF (sF σ 10 rl1) 11 fo1) 6 ot1) 10 lf1) tl) rfl (by omega) (Nat.le_of_ble_eq_true rfl) (uM_A10 g (sA (sA (sF (sF σ 10 rl1) 11 fo1) 6 ot1) 10 lf1) tl _) dX11_arranges_93 (fun H locs hP hD hS => ?_)
              refine lv_aload_n hx hb dX11_arranges_94 rfl (lv_at hl 0 rfl) ?_
              refine va_get (D := (g.1, g.2.1)) (ci := 13) (v := .ref (g.2.2.2 7)) (C := RX11) (T := TX11) (N := 30) hx hb hts iX11 hown hK.1 hP 0 (gM0 g (sA (sA (sA (sF (sF σ 10 rl1) 11 fo1) 6 ot1) 10 lf1) 10 (va_up lf1 x0 ((lf1 x0) - 1))) tl) rfl 12 (by decide) k48 (fun _ h9 => h9) rfl dX11_arranges_95 ?_
              refine lv_iload_n hx hb dX11_arranges_98 rfl (lv_at hl 1 rfl) ?_
              refine lv_iload hx hb dX11_arranges_99 (lv_at hl 4 rfl) ?_
              refine jn_iast (f := ot1) hx hb hK.1 hP hD hS 7 0 (gM7 g (sA (sA (sA (sF (sF σ 10 rl1) 11 fo1) 6 ot1) 10 lf1) 10 (va_up lf1 x0 ((lf1 x0) - 1))) tl) rfl (by decide) (Nat.le_of_ble_eq_true rfl) (uM_A6 g (sA (sA (sA (sF (sF σ 10 rl1) 11 fo1) 6 ot1) 10 lf1) 10 (va_up lf1 x0 ((lf1 x0) - 1))) tl _) dX11_arranges_101 (fun H locs hP hD hS => ?_)
              refine lv_lload_n hx hb dX11_arranges_102 rfl (lv_at hl 3 rfl) ?_
              refine lv_aload_n hx hb dX11_arranges_103 rfl (lv_at hl 0 rfl) ?_
              refine lv_iload_n hx hb dX11_arranges_104 rfl (lv_at hl 1 rfl) ?_
              refine lv_iconst (v := nI 1) hx hb dX11_arranges_105 (by decide) ?_
              refine jn_iadd hx hb dX11_arranges_106 ?_
              refine lv_aload_n hx hb dX11_arranges_107 rfl (lv_at hl 0 rfl) ?_
              refine lv_iload_n hx hb dX11_arranges_108 rfl (lv_at hl 2 rfl) ?_
              refine lv_iload hx hb dX11_arranges_109 (lv_at hl 4 rfl) ?_
              refine vp_callSi (va_Run.run (va_runV (As := [.int (nI st), .int (nI x0)]) (rest := [.int (nI (6 + 1)), .ref (g.2.2.2 0), .long (lN z)]) ⟨hx, hb, hml, hown, hts⟩ (c_X11_after l g tl (sA (sA (sA (sA (sF (sF σ 10 rl1) 11 fo1) 6 ot1) 10 lf1) 10 (va_up lf1 x0 ((lf1 x0) - 1))) 6 (va_up ot1 6 x0)) st x0 (by omega) (by omega)) (cwV 2 hts gX11_arranges_X11_after rfl rfl rfl (by decide +kernel) ⟨Nat.le_of_ble_eq_true rfl, Nat.le_of_ble_eq_true rfl⟩) (okPV hK hP rfl (gM0 g (sA (sA (sA (sA (sF (sF σ 10 rl1) 11 fo1) 6 ot1) 10 lf1) 10 (va_up lf1 x0 ((lf1 x0) - 1))) 6 (va_up ot1 6 x0)) tl)) rfl rfl hl.1 rfl (lv_room (Nat.le_of_ble_eq_true rfl)) dX11_arranges_111 ⟨Nat.le_of_ble_eq_true rfl, Nat.le_of_ble_eq_true rfl⟩)) (fun r_111 h_111 => ?_)
              have h_111 : r_111 = (nI (stp (σ.2.1 0) x0 st)) := h_111
              subst h_111
              refine jn_calll (va_runV (As := [.int (nI (6 + 1)), .int (nI (stp (σ.2.1 0) x0 st))]) (rest := [.long (lN z)]) ⟨hx, hb, hml, hown, hts⟩ (c_X11_arranges_d7 l g tl H.size (sA (sA (sA (sA (sF (sF σ 10 rl1) 11 fo1) 6 ot1) 10 lf1) 10 (va_up lf1 x0 ((lf1 x0) - 1))) 6 (va_up ot1 6 x0)) (stp (σ.2.1 0) x0 st) hT hF hn (show 7 ≤ (σ.1 6) by omega) (stp_lt hT (by omega)) (show fo1 = 0 by omega) i5 (by show va_up lf1 x0 (lf1 x0 - 1) 0 + va_up lf1 x0 (lf1 x0 - 1) 1 + va_up lf1 x0 (lf1 x0 - 1) 2 = ((σ.1 6) - 7); rw [ar_sum lf1 x0 (by omega) (by omega), i4 0 (by decide), i4 1 (by decide), i4 2 (by decide), hlf]; omega)) (cwV 2 hts gX11_arranges_X11_arranges rfl rfl rfl (by decide +kernel) ⟨Nat.le_of_ble_eq_true rfl, Nat.le_of_ble_eq_true rfl⟩) (okWV hK hP hD rfl (gM0 g (sA (sA (sA (sA (sF (sF σ 10 rl1) 11 fo1) 6 ot1) 10 lf1) 10 (va_up lf1 x0 ((lf1 x0) - 1))) 6 (va_up ot1 6 x0)) tl)) rfl rfl hl.1 rfl (lv_room (Nat.le_of_ble_eq_true rfl)) dX11_arranges_114 ⟨Nat.le_of_ble_eq_true rfl, Nat.le_of_ble_eq_true rfl⟩) hD hS hAA (fun r_114 u H locs hw_ hP hD hS => ?_)
              obtain ⟨r0_114, rl_114, fo_114, ot_114, lf_114⟩ := u
              obtain ⟨rfl, h_114⟩ := hw_
              have h_114 : (((rl1) < arrN (σ.2.1 0) ((σ.2.1 0) 15) ((σ.1 6) - 7) ((va_up lf1 x0 ((lf1 x0) - 1))) (stp (σ.2.1 0) x0 st) ∧ fo_114 = 1 ∧ isArr (σ.2.1 0) ((σ.2.1 0) 15) ((σ.1 6) - 7) ((va_up lf1 x0 ((lf1 x0) - 1))) (stp (σ.2.1 0) x0 st) (rl1) (fun i => ot_114 (7 + i))) ∨ (¬ (rl1) < arrN (σ.2.1 0) ((σ.2.1 0) 15) ((σ.1 6) - 7) ((va_up lf1 x0 ((lf1 x0) - 1))) (stp (σ.2.1 0) x0 st) ∧ fo_114 = 0 ∧ rl_114 = (rl1) - arrN (σ.2.1 0) ((σ.2.1 0) 15) ((σ.1 6) - 7) ((va_up lf1 x0 ((lf1 x0) - 1))) (stp (σ.2.1 0) x0 st) ∧ r0_114 = arrN (σ.2.1 0) ((σ.2.1 0) 15) ((σ.1 6) - 7) ((va_up lf1 x0 ((lf1 x0) - 1))) (stp (σ.2.1 0) x0 st))) ∧ (∀ i, i < 7 → ot_114 i = ((va_up ot1 6 x0)) i) ∧ (∀ x, x < 3 → lf_114 x = ((va_up lf1 x0 ((lf1 x0) - 1))) x) ∧ (rl_114 < 18446744073709551616) := h_114
              have hP : va_P (g.1, g.2.1) vwCl (wM g (sA (sA (sF (sF (sA (sA (sA (sA (sF (sF σ 10 rl1) 11 fo1) 6 ot1) 10 lf1) 10 (va_up lf1 x0 ((lf1 x0) - 1))) 6 (va_up ot1 6 x0)) 10 rl_114) 11 fo_114) 6 ot_114) 10 lf_114) ++ tl) H := hP
              have hD : va_D A (wM g (sA (sA (sF (sF (sA (sA (sA (sA (sF (sF σ 10 rl1) 11 fo1) 6 ot1) 10 lf1) 10 (va_up lf1 x0 ((lf1 x0) - 1))) 6 (va_up ot1 6 x0)) 10 rl_114) 11 fo_114) 6 ot_114) 10 lf_114) ++ tl) := hD
              refine jn_ladd hx hb dX11_arranges_117 ?_
              refine lv_lstore_n (lv' := [(3, .long (lN (z + r0_114))), (0, .ref (g.2.2.2 0)), (1, .int (nI 6)), (2, .int (nI st)), (5, .int (nI x0))]) hx hb dX11_arranges_118 rfl hl (by decide) rfl (fun ls hl => ?_)
              refine lv_aload_n hx hb dX11_arranges_119 rfl (lv_at hl 1 rfl) ?_
              refine va_get (D := (g.1, g.2.1)) (ci := 13) (v := .ref (g.2.2.2 13)) (C := RX11) (T := TX11) (N := 30) hx hb hts iX11 hown hK.1 hP 0 (gM0 g (sA (sA (sF (sF (sA (sA (sA (sA (sF (sF σ 10 rl1) 11 fo1) 6 ot1) 10 lf1) 10 (va_up lf1 x0 ((lf1 x0) - 1))) 6 (va_up ot1 6 x0)) 10 rl_114) 11 fo_114) 6 ot_114) 10 lf_114) tl) rfl 22 (by decide) k79 (fun _ h9 => h9) rfl dX11_arranges_120 ?_
              refine lv_iload hx hb dX11_arranges_123 (lv_at hl 4 rfl) ?_
              refine lv_dup2_11 hx hb dX11_arranges_125 rfl rfl ?_
              refine jn_iald (f := lf_114) hx hb hK.1 hP 13 0 (gM13 g (sA (sA (sF (sF (sA (sA (sA (sA (sF (sF σ 10 rl1) 11 fo1) 6 ot1) 10 lf1) 10 (va_up lf1 x0 ((lf1 x0) - 1))) 6 (va_up ot1 6 x0)) 10 rl_114) 11 fo_114) 6 ot_114) 10 lf_114) tl) rfl (by omega) (Nat.le_of_ble_eq_true rfl) dX11_arranges_126 ?_
              refine lv_iconst (v := nI 1) hx hb dX11_arranges_127 (by decide) ?_
              refine jn_iadd hx hb dX11_arranges_128 ?_
              refine jn_iast (f := lf_114) hx hb hK.1 hP hD hS 13 0 (gM13 g (sA (sA (sF (sF (sA (sA (sA (sA (sF (sF σ 10 rl1) 11 fo1) 6 ot1) 10 lf1) 10 (va_up lf1 x0 ((lf1 x0) - 1))) 6 (va_up ot1 6 x0)) 10 rl_114) 11 fo_114) 6 ot_114) 10 lf_114) tl) rfl (by omega) (Nat.le_of_ble_eq_true rfl) (uM_A10 g (sA (sA (sF (sF (sA (sA (sA (sA (sF (sF σ 10 rl1) 11 fo1) 6 ot1) 10 lf1) 10 (va_up lf1 x0 ((lf1 x0) - 1))) 6 (va_up ot1 6 x0)) 10 rl_114) 11 fo_114) 6 ot_114) 10 lf_114) tl _) dX11_arranges_129 (fun H locs hP hD hS => ?_)
              refine lv_iinc (v := nI (x0 + 1)) (lv' := [(5, .int (nI (x0 + 1))), (3, .long (lN (z + r0_114))), (0, .ref (g.2.2.2 0)), (1, .int (nI 6)), (2, .int (nI st))]) hx hb dX11_arranges_130 hl (k := 4) rfl (jn_ii _ 1) (by decide) rfl (fun ls hl => ?_)
              refine lv_goto (tgt := 57) hx hb dX11_arranges_133 (by decide) ?_
              exact ih57 (x0 + 1) (z + r0_114) rl_114 fo_114 ot_114 (va_up lf_114 x0 ((lf_114 x0) + 1)) (by omega) (by first | exact ari_no i2 (by omega) (by rw [← i4 _ (by omega)]; exact c_77) | exact ari_call i2 (by omega) (by omega) c_77 i4 (by rw [h_114.2.1 _ (by omega), va_up, if_pos rfl]) h_114.1) (by first | exact i3 | exact (fun i hi => by rw [h_114.2.1 i (by omega), va_up, if_neg (by omega)]; exact i3 i hi)) (by first | exact i4 | exact ar_lf i4 h_114.2.2.1 ⟨by omega, by omega⟩) (by first | exact i5 | exact h_114.2.2.2) (by omega) _ _ hP hD hS _ (lv_sub hl [2, 3, 4, 1, 0] rfl)
            · refine lv_goto (tgt := 130) hx hb dX11_arranges_80 (by decide) ?_
              refine lv_iinc (v := nI (x0 + 1)) (lv' := [(5, .int (nI (x0 + 1))), (0, .ref (g.2.2.2 0)), (1, .int (nI 6)), (2, .int (nI st)), (3, .long (lN z))]) hx hb dX11_arranges_130 hl (k := 4) rfl (jn_ii _ 1) (by decide) rfl (fun ls hl => ?_)
              refine lv_goto (tgt := 57) hx hb dX11_arranges_133 (by decide) ?_
              exact ih57 (x0 + 1) z rl1 fo1 ot1 lf1 (by omega) (by first | exact ari_no i2 (by omega) (by rw [← i4 _ (by omega)]; exact c_77) | exact ari_call i2 (by omega) (by omega) c_77 i4 (by rw [h_114.2.1 _ (by omega), va_up, if_pos rfl]) h_114.1) (by first | exact i3 | exact (fun i hi => by rw [h_114.2.1 i (by omega), va_up, if_neg (by omega)]; exact i3 i hi)) (by first | exact i4 | exact ar_lf i4 h_114.2.2.1 ⟨by omega, by omega⟩) (by first | exact i5 | exact h_114.2.2.2) (by omega) _ _ hP hD hS _ (lv_sub hl [1, 2, 3, 4, 0] rfl)
    exact lp57 _ 0 0 (σ.1 10) (σ.1 11) (σ.2.1 6) (σ.2.1 10) (by decide) (by rw [hfo]; exact ari_0) (fun _ _ => rfl) (fun _ _ => rfl) hrk (Nat.lt_succ_self _) _ _ hP hD hS _ (lv_sub hl [2, 3, 4, 1, 0] rfl)
  · have e0 : ((σ.1 6) - 6) = 0 := by omega
    refine lv_iload_n hx hb dX11_arranges_8 rfl (lv_at hl 2 rfl) ?_
    refine lv_aload_n hx hb dX11_arranges_9 rfl (lv_at hl 0 rfl) ?_
    refine va_get (D := (g.1, g.2.1)) (ci := 13) (v := .ref (g.2.2.2 1)) (C := RX11) (T := TX11) (N := 30) hx hb hts iX11 hown hK.1 hP 0 (gM0 g σ tl) rfl 1 (by decide) k13 (fun _ h9 => h9) rfl dX11_arranges_10 ?_
    refine lv_bipush (v := nI 15) hx hb dX11_arranges_13 (by decide) ?_
    refine jn_iald (f := σ.2.1 0) hx hb hK.1 hP 1 0 (gM1 g σ tl) rfl (by decide) (Nat.le_of_ble_eq_true rfl) dX11_arranges_15 ?_
    refine jn_iand hx hb dX11_arranges_16 ?_
    refine jn_zne hx hb (and_lt (by omega)) (tgt := 22) dX11_arranges_17 (by decide) (fun c_17 => ?_) (fun c_17 => ?_)
    · refine lv_aload_n hx hb dX11_arranges_22 rfl (lv_at hl 0 rfl) ?_
      refine lv_aload_n hx hb dX11_arranges_23 rfl (lv_at hl 0 rfl) ?_
      refine va_get (D := (g.1, g.2.1)) (ci := 13) (v := .long (lN (σ.1 10))) (C := RX11) (T := TX11) (N := 30) hx hb hts iX11 hown hK.1 hP 0 (gM0 g σ tl) rfl 23 (by decide) k82 (fun _ h9 => h9) rfl dX11_arranges_24 ?_
      refine lv_lconst (v := lN 0) hx hb dX11_arranges_27 (by decide) ?_
      refine jn_lcmp hx hb dX11_arranges_28 ?_
      have jp37 : ∀ v37 : Nat, v37 = (if (σ.1 10) = 0 then 1 else 0) → W p l e r_c_X11_arranges_d6 s m ([.ref (g.2.2.2 0), .int (nI 6), .int (nI st)] : List Value).toArray below meth c H locs 0 0 Q (F0 m 37 ls [.int (nI v37), .ref (g.2.2.2 0)]) := by
        intro v37 ev37
        refine jn_put (D := (g.1, g.2.1)) (ci := 13) (v := .int (nI v37)) (ty := .boolean) (C := RX11) (T := TX11) (N := 30) hx hb hts iX11 tyX11 tyX11_ok nmX11 hown hK.1 hP hD hS 0 (gM0 g σ tl) rfl 24 (by decide) k86 (fun _ h9 => h9) rfl (by decide +kernel) (by rw [ev37]; exact jn_nb _) (by rw [ev37]; exact jn_fb _) (Nat.le_of_ble_eq_true rfl) (uM_F11 g σ tl v37) dX11_arranges_37 (fun H locs hP hD hS => ?_)
        refine lv_aload_n hx hb dX11_arranges_40 rfl (lv_at hl 0 rfl) ?_
        refine lv_dup hx hb dX11_arranges_41 rfl ?_
        refine va_get (D := (g.1, g.2.1)) (ci := 13) (v := .long (lN (σ.1 10))) (C := RX11) (T := TX11) (N := 30) hx hb hts iX11 hown hK.1 hP 0 (gM0 g (sF σ 11 v37) tl) rfl 23 (by decide) k82 (fun _ h9 => h9) rfl dX11_arranges_42 ?_
        refine lv_lconst (v := lN 1) hx hb dX11_arranges_45 (by decide) ?_
        refine jn_lsub1 hx hb dX11_arranges_46 ?_
        refine jn_put (D := (g.1, g.2.1)) (ci := 13) (v := .long (lN (slb (σ.1 10)))) (ty := .long) (C := RX11) (T := TX11) (N := 30) hx hb hts iX11 tyX11 tyX11_ok nmX11 hown hK.1 hP hD hS 0 (gM0 g (sF σ 11 v37) tl) rfl 23 (by decide) k82 (fun _ h9 => h9) rfl (by decide +kernel) rfl rfl (Nat.le_of_ble_eq_true rfl) (uM_F10 g (sF σ 11 v37) tl (slb (σ.1 10))) dX11_arranges_47 (fun H locs hP hD hS => ?_)
        refine lv_lconst (v := lN 1) hx hb dX11_arranges_50 (by decide) ?_
        exact hq _ _ _ _ ((lN 1)) (1, (slb (σ.1 10)), v37, (σ.2.1 6), (σ.2.1 10)) dX11_arranges_51 ⟨rfl, by rw [e0, arrN, if_pos c_17]; by_cases q : (σ.1 10) = 0; { exact Or.inl ⟨by omega, by rw [ev37, if_pos q], trivial⟩ }; { exact Or.inr ⟨by omega, by rw [ev37, if_neg q], by unfold slb; rw [if_neg q], rfl⟩ }, fun _ _ => rfl, fun _ _ => rfl, slb_lt hrk⟩ hP hD hS
      refine jn_lneU hx hb hrk (by decide) (tgt := 36) dX11_arranges_29 (by decide) (fun c_29 => ?_) (fun c_29 => ?_)
      · refine lv_iconst (v := nI 0) hx hb dX11_arranges_36 (by decide) ?_
        exact jp37 0 (by rw [if_neg c_29])
      · refine lv_iconst (v := nI 1) hx hb dX11_arranges_32 (by decide) ?_
        refine lv_goto (tgt := 37) hx hb dX11_arranges_33 (by decide) ?_
        exact jp37 1 (by rw [if_pos c_29])
    · refine lv_lconst (v := lN 0) hx hb dX11_arranges_20 (by decide) ?_
      exact hq _ _ _ _ ((lN 0)) (0, (σ.1 10), (σ.1 11), (σ.2.1 6), (σ.2.1 10)) dX11_arranges_21 ⟨rfl, Or.inr (by rw [e0, arrN, if_neg (fun q => q c_17)]; exact ⟨by omega, hfo, rfl, rfl⟩), fun _ _ => rfl, fun _ _ => rfl, hrk⟩ hP hD hS

abbrev r_c_X11_arranges_d5 : Room := { frames := 4, cells := 0, slots := 0, locals := 96 }
set_option maxHeartbeats 4000000 in
set_option maxRecDepth 100000 in
theorem c_X11_arranges_d5 (l : Launch) (g : GC) (tl : va_W) (sz : Nat) (σ : SS) (st : Nat) (hT : OkT (σ.2.1 0)) (hF : ((σ.2.1 0) 15) < 32) (hn : (σ.1 6) ≤ 8) (hd : 5 ≤ (σ.1 6)) (hst : st < 32) (hfo : (σ.1 11) = 0) (hrk : (σ.1 10) < 18446744073709551616) (hlf : (σ.2.1 10) 0 + (σ.2.1 10) 1 + (σ.2.1 10) 2 = ((σ.1 6) - 5)) : Met l yX11_arranges wsX11_arranges r_c_X11_arranges_d5 (va_Pc [.ref (g.2.2.2 0), .int (nI 5), .int (nI st)] (PW g (wM g σ ++ tl) sz)) (va_Ql (fun (r : Int64) (z : Nat × Nat × Nat × (Nat → Nat) × (Nat → Nat)) => match z with | (r0, rl, fo, ot, lf) => (r = lN (r0)) ∧ (((σ.1 10) < arrN (σ.2.1 0) ((σ.2.1 0) 15) ((σ.1 6) - 5) (σ.2.1 10) st ∧ fo = 1 ∧ isArr (σ.2.1 0) ((σ.2.1 0) 15) ((σ.1 6) - 5) (σ.2.1 10) st (σ.1 10) (fun i => ot (5 + i))) ∨ (¬ (σ.1 10) < arrN (σ.2.1 0) ((σ.2.1 0) 15) ((σ.1 6) - 5) (σ.2.1 10) st ∧ fo = 0 ∧ rl = (σ.1 10) - arrN (σ.2.1 0) ((σ.2.1 0) 15) ((σ.1 6) - 5) (σ.2.1 10) st ∧ r0 = arrN (σ.2.1 0) ((σ.2.1 0) 15) ((σ.1 6) - 5) (σ.2.1 10) st)) ∧ (∀ i, i < 5 → ot i = (σ.2.1 6) i) ∧ (∀ x, x < 3 → lf x = (σ.2.1 10) x) ∧ (rl < 18446744073709551616)) (fun (z : Nat × Nat × Nat × (Nat → Nat) × (Nat → Nat)) t => BW g (va_A (wM g σ ++ tl) sz) ((fun z : Nat × Nat × Nat × (Nat → Nat) × (Nat → Nat) => match z with | (r0, rl, fo, ot, lf) => wM g (sA (sA (sF (sF σ 10 rl) 11 fo) 6 ot) 10 lf) ++ tl) z) t) (va_A (wM g σ ++ tl) sz)) 0 0 (va_A (wM g σ ++ tl) sz) := by
  refine jn_sl (wf := fun z : Nat × Nat × Nat × (Nat → Nat) × (Nat → Nat) => match z with | (r0, rl, fo, ot, lf) => wM g (sA (sA (sF (sF σ 10 rl) 11 fo) 6 ot) 10 lf) ++ tl) (cc := cX11_arranges) (maxL := 6) (own := RX11) (by decide) rfl rfl (Nat.le_of_ble_eq_true rfl) ?_
  intro p e s m below meth c Q A hx hb hml hown hts hK hP hD hS hAA hq ls hl
  obtain ⟨H, eH⟩ : ∃ z, z = s.heap := ⟨_, rfl⟩
  obtain ⟨locs, el⟩ : ∃ z : List Loc, z = [] := ⟨_, rfl⟩
  rw [← eH] at hP
  have hS : va_S A s.heap H locs := by rw [eH, el]; exact hS
  have goal0 : W p l e r_c_X11_arranges_d5 s m ([.ref (g.2.2.2 0), .int (nI 5), .int (nI st)] : List Value).toArray below meth c H locs 0 0 Q (F0 m 0 ls []) → W p l e r_c_X11_arranges_d5 s m ([.ref (g.2.2.2 0), .int (nI 5), .int (nI st)] : List Value).toArray below meth c s.heap [] 0 0 Q (F0 m 0 ls []) := fun h => by rw [eH, el] at h; exact h
  refine goal0 ?_
  have hl : lv_has ls 6 [(0, .ref (g.2.2.2 0)), (1, .int (nI 5)), (2, .int (nI st))] := hl
  have iX11 : ∀ w ∈ wsX110, w ∈ wsX11_arranges := by decide +kernel
  have k51 := hts (.fieldLink RX11 51 "JumpingAutomataModel" "length" "I") (by decide +kernel)
  have k86 := hts (.fieldLink RX11 86 "JumpingAutomataModel" "isFound" "Z") (by decide +kernel)
  have k79 := hts (.fieldLink RX11 79 "JumpingAutomataModel" "left" "[I") (by decide +kernel)
  have k48 := hts (.fieldLink RX11 48 "JumpingAutomataModel" "other" "[I") (by decide +kernel)
  have k13 := hts (.fieldLink RX11 13 "JumpingAutomataModel" "now" "[I") (by decide +kernel)
  have k82 := hts (.fieldLink RX11 82 "JumpingAutomataModel" "rankLeft" "J") (by decide +kernel)
  have hl0 := ar_le3 (σ.2.1 10)
  refine lv_iload_n hx hb dX11_arranges_0 rfl (lv_at hl 1 rfl) ?_
  refine lv_aload_n hx hb dX11_arranges_1 rfl (lv_at hl 0 rfl) ?_
  refine va_get (D := (g.1, g.2.1)) (ci := 13) (v := .int (nI (σ.1 6))) (C := RX11) (T := TX11) (N := 30) hx hb hts iX11 hown hK.1 hP 0 (gM0 g σ tl) rfl 13 (by decide) k51 (fun _ h9 => h9) rfl dX11_arranges_2 ?_
  refine jn_cne hx hb (by decide) (by omega) (tgt := 52) dX11_arranges_5 (by decide) (fun c_5 => ?_) (fun c_5 => ?_)
  · refine lv_lconst (v := lN 0) hx hb dX11_arranges_52 (by decide) ?_
    refine lv_lstore_n (lv' := [(3, .long (lN 0)), (0, .ref (g.2.2.2 0)), (1, .int (nI 5)), (2, .int (nI st))]) hx hb dX11_arranges_53 rfl hl (by decide) rfl (fun ls hl => ?_)
    refine lv_iconst (v := nI 0) hx hb dX11_arranges_54 (by decide) ?_
    refine lv_istore (lv' := [(5, .int (nI 0)), (3, .long (lN 0)), (0, .ref (g.2.2.2 0)), (1, .int (nI 5)), (2, .int (nI st))]) hx hb dX11_arranges_55 hl (by decide) rfl (fun ls hl => ?_)
    have lp57 : ∀ (fu : Nat), ∀ (x0 : Nat) (z : Nat) (rl1 : Nat) (fo1 : Nat) (ot1 : Nat → Nat) (lf1 : Nat → Nat), (x0 ≤ 3) → (ArI (σ.2.1 0) ((σ.2.1 0) 15) ((σ.1 6) - 6) (σ.2.1 10) st (σ.1 10) x0 rl1 z fo1 5 ot1) → (∀ i, i < 5 → ot1 i = (σ.2.1 6) i) → (∀ x, x < 3 → lf1 x = (σ.2.1 10) x) → (rl1 < 18446744073709551616) → 3 - x0 < fu → ∀ (H : Heap) (locs : List Loc), va_P (g.1, g.2.1) vwCl (wM g (sA (sA (sF (sF σ 10 rl1) 11 fo1) 6 ot1) 10 lf1) ++ tl) H → va_D A (wM g (sA (sA (sF (sF σ 10 rl1) 11 fo1) 6 ot1) 10 lf1) ++ tl) → va_S A s.heap H locs → ∀ ls : Array Slot, lv_has ls 6 [(0, .ref (g.2.2.2 0)), (1, .int (nI 5)), (2, .int (nI st)), (3, .long (lN z)), (5, .int (nI x0))] → W p l e r_c_X11_arranges_d5 s m ([.ref (g.2.2.2 0), .int (nI 5), .int (nI st)] : List Value).toArray below meth c H locs 0 0 Q (F0 m 57 ls []) := by
      intro fu
      induction fu with
      | zero => intro x0 z rl1 fo1 ot1 lf1 i1 i2 i3 i4 i5 hf; exact absurd hf (Nat.not_lt_zero _)
      | succ fu ih57 =>
        intro x0 z rl1 fo1 ot1 lf1 i1 i2 i3 i4 i5 hf H locs hP hD hS ls hl
        have eK : ((σ.1 6) - 5) = ((σ.1 6) - 6) + 1 := by omega
        have hfo1 : fo1 = 0 ∨ fo1 = 1 := i2.imp (fun z => z.1) (fun z => z.1)
        refine lv_iload hx hb dX11_arranges_57 (lv_at hl 4 rfl) ?_
        refine lv_iconst (v := nI 3) hx hb dX11_arranges_59 (by decide) ?_
        refine jn_cge hx hb (by omega) (by decide) (tgt := 136) dX11_arranges_60 (by decide) (fun c_60 => ?_) (fun c_60 => ?_)
        · refine lv_lload_n hx hb dX11_arranges_136 rfl (lv_at hl 3 rfl) ?_
          exact hq _ _ _ _ ((lN z)) (z, rl1, fo1, ot1, lf1) dX11_arranges_137 ⟨rfl, by first | exact ari_end i2 eK (Or.inl (by omega)) | exact ari_end i2 eK (Or.inr c_67), i3, i4, i5⟩ hP hD hS
        · refine lv_aload_n hx hb dX11_arranges_63 rfl (lv_at hl 0 rfl) ?_
          refine va_get (D := (g.1, g.2.1)) (ci := 13) (v := .int (nI fo1)) (C := RX11) (T := TX11) (N := 30) hx hb hts iX11 hown hK.1 hP 0 (gM0 g (sA (sA (sF (sF σ 10 rl1) 11 fo1) 6 ot1) 10 lf1) tl) rfl 24 (by decide) k86 (fun _ h9 => h9) rfl dX11_arranges_64 ?_
          refine jn_zne hx hb (by omega) (tgt := 136) dX11_arranges_67 (by decide) (fun c_67 => ?_) (fun c_67 => ?_)
          · refine lv_lload_n hx hb dX11_arranges_136 rfl (lv_at hl 3 rfl) ?_
            exact hq _ _ _ _ ((lN z)) (z, rl1, fo1, ot1, lf1) dX11_arranges_137 ⟨rfl, by first | exact ari_end i2 eK (Or.inl (by omega)) | exact ari_end i2 eK (Or.inr c_67), i3, i4, i5⟩ hP hD hS
          · refine lv_aload_n hx hb dX11_arranges_70 rfl (lv_at hl 0 rfl) ?_
            refine va_get (D := (g.1, g.2.1)) (ci := 13) (v := .ref (g.2.2.2 13)) (C := RX11) (T := TX11) (N := 30) hx hb hts iX11 hown hK.1 hP 0 (gM0 g (sA (sA (sF (sF σ 10 rl1) 11 fo1) 6 ot1) 10 lf1) tl) rfl 22 (by decide) k79 (fun _ h9 => h9) rfl dX11_arranges_71 ?_
            refine lv_iload hx hb dX11_arranges_74 (lv_at hl 4 rfl) ?_
            refine jn_iald (f := lf1) hx hb hK.1 hP 13 0 (gM13 g (sA (sA (sF (sF σ 10 rl1) 11 fo1) 6 ot1) 10 lf1) tl) rfl (by omega) (Nat.le_of_ble_eq_true rfl) dX11_arranges_76 ?_
            have hll := hl0 x0 (by omega)
            have hl1 := i4 x0 (by omega)
            refine jn_zne hx hb (by omega) (tgt := 83) dX11_arranges_77 (by decide) (fun c_77 => ?_) (fun c_77 => ?_)
            · refine lv_aload_n hx hb dX11_arranges_83 rfl (lv_at hl 0 rfl) ?_
              refine va_get (D := (g.1, g.2.1)) (ci := 13) (v := .ref (g.2.2.2 13)) (C := RX11) (T := TX11) (N := 30) hx hb hts iX11 hown hK.1 hP 0 (gM0 g (sA (sA (sF (sF σ 10 rl1) 11 fo1) 6 ot1) 10 lf1) tl) rfl 22 (by decide) k79 (fun _ h9 => h9) rfl dX11_arranges_84 ?_
              refine lv_iload hx hb dX11_arranges_87 (lv_at hl 4 rfl) ?_
              refine lv_dup2_11 hx hb dX11_arranges_89 rfl rfl ?_
              refine jn_iald (f := lf1) hx hb hK.1 hP 13 0 (gM13 g (sA (sA (sF (sF σ 10 rl1) 11 fo1) 6 ot1) 10 lf1) tl) rfl (by omega) (Nat.le_of_ble_eq_true rfl) dX11_arranges_90 ?_
              refine lv_iconst (v := nI 1) hx hb dX11_arranges_91 (by decide) ?_
              refine jn_isub hx hb (by omega) dX11_arranges_92 ?_
              refine jn_iast (f := lf1) hx hb hK.1 hP hD hS 13 0 (gM13 g (sA (sA (sF (sF σ 10 rl1) 11 fo1) 6 ot1) 10 lf1) tl) rfl (by omega) (Nat.le_of_ble_eq_true rfl) (uM_A10 g (sA (sA (sF (sF σ 10 rl1) 11 fo1) 6 ot1) 10 lf1) tl _) dX11_arranges_93 (fun H locs hP hD hS => ?_)
              refine lv_aload_n hx hb dX11_arranges_94 rfl (lv_at hl 0 rfl) ?_
              refine va_get (D := (g.1, g.2.1)) (ci := 13) (v := .ref (g.2.2.2 7)) (C := RX11) (T := TX11) (N := 30) hx hb hts iX11 hown hK.1 hP 0 (gM0 g (sA (sA (sA (sF (sF σ 10 rl1) 11 fo1) 6 ot1) 10 lf1) 10 (va_up lf1 x0 ((lf1 x0) - 1))) tl) rfl 12 (by decide) k48 (fun _ h9 => h9) rfl dX11_arranges_95 ?_
              refine lv_iload_n hx hb dX11_arranges_98 rfl (lv_at hl 1 rfl) ?_
              refine lv_iload hx hb dX11_arranges_99 (lv_at hl 4 rfl) ?_
              refine jn_iast (f := ot1) hx hb hK.1 hP hD hS 7 0 (gM7 g (sA (sA (sA (sF (sF σ 10 rl1) 11 fo1) 6 ot1) 10 lf1) 10 (va_up lf1 x0 ((lf1 x0) - 1))) tl) rfl (by decide) (Nat.le_of_ble_eq_true rfl) (uM_A6 g (sA (sA (sA (sF (sF σ 10 rl1) 11 fo1) 6 ot1) 10 lf1) 10 (va_up lf1 x0 ((lf1 x0) - 1))) tl _) dX11_arranges_101 (fun H locs hP hD hS => ?_)
              refine lv_lload_n hx hb dX11_arranges_102 rfl (lv_at hl 3 rfl) ?_
              refine lv_aload_n hx hb dX11_arranges_103 rfl (lv_at hl 0 rfl) ?_
              refine lv_iload_n hx hb dX11_arranges_104 rfl (lv_at hl 1 rfl) ?_
              refine lv_iconst (v := nI 1) hx hb dX11_arranges_105 (by decide) ?_
              refine jn_iadd hx hb dX11_arranges_106 ?_
              refine lv_aload_n hx hb dX11_arranges_107 rfl (lv_at hl 0 rfl) ?_
              refine lv_iload_n hx hb dX11_arranges_108 rfl (lv_at hl 2 rfl) ?_
              refine lv_iload hx hb dX11_arranges_109 (lv_at hl 4 rfl) ?_
              refine vp_callSi (va_Run.run (va_runV (As := [.int (nI st), .int (nI x0)]) (rest := [.int (nI (5 + 1)), .ref (g.2.2.2 0), .long (lN z)]) ⟨hx, hb, hml, hown, hts⟩ (c_X11_after l g tl (sA (sA (sA (sA (sF (sF σ 10 rl1) 11 fo1) 6 ot1) 10 lf1) 10 (va_up lf1 x0 ((lf1 x0) - 1))) 6 (va_up ot1 5 x0)) st x0 (by omega) (by omega)) (cwV 2 hts gX11_arranges_X11_after rfl rfl rfl (by decide +kernel) ⟨Nat.le_of_ble_eq_true rfl, Nat.le_of_ble_eq_true rfl⟩) (okPV hK hP rfl (gM0 g (sA (sA (sA (sA (sF (sF σ 10 rl1) 11 fo1) 6 ot1) 10 lf1) 10 (va_up lf1 x0 ((lf1 x0) - 1))) 6 (va_up ot1 5 x0)) tl)) rfl rfl hl.1 rfl (lv_room (Nat.le_of_ble_eq_true rfl)) dX11_arranges_111 ⟨Nat.le_of_ble_eq_true rfl, Nat.le_of_ble_eq_true rfl⟩)) (fun r_111 h_111 => ?_)
              have h_111 : r_111 = (nI (stp (σ.2.1 0) x0 st)) := h_111
              subst h_111
              refine jn_calll (va_runV (As := [.int (nI (5 + 1)), .int (nI (stp (σ.2.1 0) x0 st))]) (rest := [.long (lN z)]) ⟨hx, hb, hml, hown, hts⟩ (c_X11_arranges_d6 l g tl H.size (sA (sA (sA (sA (sF (sF σ 10 rl1) 11 fo1) 6 ot1) 10 lf1) 10 (va_up lf1 x0 ((lf1 x0) - 1))) 6 (va_up ot1 5 x0)) (stp (σ.2.1 0) x0 st) hT hF hn (show 6 ≤ (σ.1 6) by omega) (stp_lt hT (by omega)) (show fo1 = 0 by omega) i5 (by show va_up lf1 x0 (lf1 x0 - 1) 0 + va_up lf1 x0 (lf1 x0 - 1) 1 + va_up lf1 x0 (lf1 x0 - 1) 2 = ((σ.1 6) - 6); rw [ar_sum lf1 x0 (by omega) (by omega), i4 0 (by decide), i4 1 (by decide), i4 2 (by decide), hlf]; omega)) (cwV 2 hts gX11_arranges_X11_arranges rfl rfl rfl (by decide +kernel) ⟨Nat.le_of_ble_eq_true rfl, Nat.le_of_ble_eq_true rfl⟩) (okWV hK hP hD rfl (gM0 g (sA (sA (sA (sA (sF (sF σ 10 rl1) 11 fo1) 6 ot1) 10 lf1) 10 (va_up lf1 x0 ((lf1 x0) - 1))) 6 (va_up ot1 5 x0)) tl)) rfl rfl hl.1 rfl (lv_room (Nat.le_of_ble_eq_true rfl)) dX11_arranges_114 ⟨Nat.le_of_ble_eq_true rfl, Nat.le_of_ble_eq_true rfl⟩) hD hS hAA (fun r_114 u H locs hw_ hP hD hS => ?_)
              obtain ⟨r0_114, rl_114, fo_114, ot_114, lf_114⟩ := u
              obtain ⟨rfl, h_114⟩ := hw_
              have h_114 : (((rl1) < arrN (σ.2.1 0) ((σ.2.1 0) 15) ((σ.1 6) - 6) ((va_up lf1 x0 ((lf1 x0) - 1))) (stp (σ.2.1 0) x0 st) ∧ fo_114 = 1 ∧ isArr (σ.2.1 0) ((σ.2.1 0) 15) ((σ.1 6) - 6) ((va_up lf1 x0 ((lf1 x0) - 1))) (stp (σ.2.1 0) x0 st) (rl1) (fun i => ot_114 (6 + i))) ∨ (¬ (rl1) < arrN (σ.2.1 0) ((σ.2.1 0) 15) ((σ.1 6) - 6) ((va_up lf1 x0 ((lf1 x0) - 1))) (stp (σ.2.1 0) x0 st) ∧ fo_114 = 0 ∧ rl_114 = (rl1) - arrN (σ.2.1 0) ((σ.2.1 0) 15) ((σ.1 6) - 6) ((va_up lf1 x0 ((lf1 x0) - 1))) (stp (σ.2.1 0) x0 st) ∧ r0_114 = arrN (σ.2.1 0) ((σ.2.1 0) 15) ((σ.1 6) - 6) ((va_up lf1 x0 ((lf1 x0) - 1))) (stp (σ.2.1 0) x0 st))) ∧ (∀ i, i < 6 → ot_114 i = ((va_up ot1 5 x0)) i) ∧ (∀ x, x < 3 → lf_114 x = ((va_up lf1 x0 ((lf1 x0) - 1))) x) ∧ (rl_114 < 18446744073709551616) := h_114
              have hP : va_P (g.1, g.2.1) vwCl (wM g (sA (sA (sF (sF (sA (sA (sA (sA (sF (sF σ 10 rl1) 11 fo1) 6 ot1) 10 lf1) 10 (va_up lf1 x0 ((lf1 x0) - 1))) 6 (va_up ot1 5 x0)) 10 rl_114) 11 fo_114) 6 ot_114) 10 lf_114) ++ tl) H := hP
              have hD : va_D A (wM g (sA (sA (sF (sF (sA (sA (sA (sA (sF (sF σ 10 rl1) 11 fo1) 6 ot1) 10 lf1) 10 (va_up lf1 x0 ((lf1 x0) - 1))) 6 (va_up ot1 5 x0)) 10 rl_114) 11 fo_114) 6 ot_114) 10 lf_114) ++ tl) := hD
              refine jn_ladd hx hb dX11_arranges_117 ?_
              refine lv_lstore_n (lv' := [(3, .long (lN (z + r0_114))), (0, .ref (g.2.2.2 0)), (1, .int (nI 5)), (2, .int (nI st)), (5, .int (nI x0))]) hx hb dX11_arranges_118 rfl hl (by decide) rfl (fun ls hl => ?_)
              refine lv_aload_n hx hb dX11_arranges_119 rfl (lv_at hl 1 rfl) ?_
              refine va_get (D := (g.1, g.2.1)) (ci := 13) (v := .ref (g.2.2.2 13)) (C := RX11) (T := TX11) (N := 30) hx hb hts iX11 hown hK.1 hP 0 (gM0 g (sA (sA (sF (sF (sA (sA (sA (sA (sF (sF σ 10 rl1) 11 fo1) 6 ot1) 10 lf1) 10 (va_up lf1 x0 ((lf1 x0) - 1))) 6 (va_up ot1 5 x0)) 10 rl_114) 11 fo_114) 6 ot_114) 10 lf_114) tl) rfl 22 (by decide) k79 (fun _ h9 => h9) rfl dX11_arranges_120 ?_
              refine lv_iload hx hb dX11_arranges_123 (lv_at hl 4 rfl) ?_
              refine lv_dup2_11 hx hb dX11_arranges_125 rfl rfl ?_
              refine jn_iald (f := lf_114) hx hb hK.1 hP 13 0 (gM13 g (sA (sA (sF (sF (sA (sA (sA (sA (sF (sF σ 10 rl1) 11 fo1) 6 ot1) 10 lf1) 10 (va_up lf1 x0 ((lf1 x0) - 1))) 6 (va_up ot1 5 x0)) 10 rl_114) 11 fo_114) 6 ot_114) 10 lf_114) tl) rfl (by omega) (Nat.le_of_ble_eq_true rfl) dX11_arranges_126 ?_
              refine lv_iconst (v := nI 1) hx hb dX11_arranges_127 (by decide) ?_
              refine jn_iadd hx hb dX11_arranges_128 ?_
              refine jn_iast (f := lf_114) hx hb hK.1 hP hD hS 13 0 (gM13 g (sA (sA (sF (sF (sA (sA (sA (sA (sF (sF σ 10 rl1) 11 fo1) 6 ot1) 10 lf1) 10 (va_up lf1 x0 ((lf1 x0) - 1))) 6 (va_up ot1 5 x0)) 10 rl_114) 11 fo_114) 6 ot_114) 10 lf_114) tl) rfl (by omega) (Nat.le_of_ble_eq_true rfl) (uM_A10 g (sA (sA (sF (sF (sA (sA (sA (sA (sF (sF σ 10 rl1) 11 fo1) 6 ot1) 10 lf1) 10 (va_up lf1 x0 ((lf1 x0) - 1))) 6 (va_up ot1 5 x0)) 10 rl_114) 11 fo_114) 6 ot_114) 10 lf_114) tl _) dX11_arranges_129 (fun H locs hP hD hS => ?_)
              refine lv_iinc (v := nI (x0 + 1)) (lv' := [(5, .int (nI (x0 + 1))), (3, .long (lN (z + r0_114))), (0, .ref (g.2.2.2 0)), (1, .int (nI 5)), (2, .int (nI st))]) hx hb dX11_arranges_130 hl (k := 4) rfl (jn_ii _ 1) (by decide) rfl (fun ls hl => ?_)
              refine lv_goto (tgt := 57) hx hb dX11_arranges_133 (by decide) ?_
              exact ih57 (x0 + 1) (z + r0_114) rl_114 fo_114 ot_114 (va_up lf_114 x0 ((lf_114 x0) + 1)) (by omega) (by first | exact ari_no i2 (by omega) (by rw [← i4 _ (by omega)]; exact c_77) | exact ari_call i2 (by omega) (by omega) c_77 i4 (by rw [h_114.2.1 _ (by omega), va_up, if_pos rfl]) h_114.1) (by first | exact i3 | exact (fun i hi => by rw [h_114.2.1 i (by omega), va_up, if_neg (by omega)]; exact i3 i hi)) (by first | exact i4 | exact ar_lf i4 h_114.2.2.1 ⟨by omega, by omega⟩) (by first | exact i5 | exact h_114.2.2.2) (by omega) _ _ hP hD hS _ (lv_sub hl [2, 3, 4, 1, 0] rfl)
            · refine lv_goto (tgt := 130) hx hb dX11_arranges_80 (by decide) ?_
              refine lv_iinc (v := nI (x0 + 1)) (lv' := [(5, .int (nI (x0 + 1))), (0, .ref (g.2.2.2 0)), (1, .int (nI 5)), (2, .int (nI st)), (3, .long (lN z))]) hx hb dX11_arranges_130 hl (k := 4) rfl (jn_ii _ 1) (by decide) rfl (fun ls hl => ?_)
              refine lv_goto (tgt := 57) hx hb dX11_arranges_133 (by decide) ?_
              exact ih57 (x0 + 1) z rl1 fo1 ot1 lf1 (by omega) (by first | exact ari_no i2 (by omega) (by rw [← i4 _ (by omega)]; exact c_77) | exact ari_call i2 (by omega) (by omega) c_77 i4 (by rw [h_114.2.1 _ (by omega), va_up, if_pos rfl]) h_114.1) (by first | exact i3 | exact (fun i hi => by rw [h_114.2.1 i (by omega), va_up, if_neg (by omega)]; exact i3 i hi)) (by first | exact i4 | exact ar_lf i4 h_114.2.2.1 ⟨by omega, by omega⟩) (by first | exact i5 | exact h_114.2.2.2) (by omega) _ _ hP hD hS _ (lv_sub hl [1, 2, 3, 4, 0] rfl)
    exact lp57 _ 0 0 (σ.1 10) (σ.1 11) (σ.2.1 6) (σ.2.1 10) (by decide) (by rw [hfo]; exact ari_0) (fun _ _ => rfl) (fun _ _ => rfl) hrk (Nat.lt_succ_self _) _ _ hP hD hS _ (lv_sub hl [2, 3, 4, 1, 0] rfl)
  · have e0 : ((σ.1 6) - 5) = 0 := by omega
    refine lv_iload_n hx hb dX11_arranges_8 rfl (lv_at hl 2 rfl) ?_
    refine lv_aload_n hx hb dX11_arranges_9 rfl (lv_at hl 0 rfl) ?_
    refine va_get (D := (g.1, g.2.1)) (ci := 13) (v := .ref (g.2.2.2 1)) (C := RX11) (T := TX11) (N := 30) hx hb hts iX11 hown hK.1 hP 0 (gM0 g σ tl) rfl 1 (by decide) k13 (fun _ h9 => h9) rfl dX11_arranges_10 ?_
    refine lv_bipush (v := nI 15) hx hb dX11_arranges_13 (by decide) ?_
    refine jn_iald (f := σ.2.1 0) hx hb hK.1 hP 1 0 (gM1 g σ tl) rfl (by decide) (Nat.le_of_ble_eq_true rfl) dX11_arranges_15 ?_
    refine jn_iand hx hb dX11_arranges_16 ?_
    refine jn_zne hx hb (and_lt (by omega)) (tgt := 22) dX11_arranges_17 (by decide) (fun c_17 => ?_) (fun c_17 => ?_)
    · refine lv_aload_n hx hb dX11_arranges_22 rfl (lv_at hl 0 rfl) ?_
      refine lv_aload_n hx hb dX11_arranges_23 rfl (lv_at hl 0 rfl) ?_
      refine va_get (D := (g.1, g.2.1)) (ci := 13) (v := .long (lN (σ.1 10))) (C := RX11) (T := TX11) (N := 30) hx hb hts iX11 hown hK.1 hP 0 (gM0 g σ tl) rfl 23 (by decide) k82 (fun _ h9 => h9) rfl dX11_arranges_24 ?_
      refine lv_lconst (v := lN 0) hx hb dX11_arranges_27 (by decide) ?_
      refine jn_lcmp hx hb dX11_arranges_28 ?_
      have jp37 : ∀ v37 : Nat, v37 = (if (σ.1 10) = 0 then 1 else 0) → W p l e r_c_X11_arranges_d5 s m ([.ref (g.2.2.2 0), .int (nI 5), .int (nI st)] : List Value).toArray below meth c H locs 0 0 Q (F0 m 37 ls [.int (nI v37), .ref (g.2.2.2 0)]) := by
        intro v37 ev37
        refine jn_put (D := (g.1, g.2.1)) (ci := 13) (v := .int (nI v37)) (ty := .boolean) (C := RX11) (T := TX11) (N := 30) hx hb hts iX11 tyX11 tyX11_ok nmX11 hown hK.1 hP hD hS 0 (gM0 g σ tl) rfl 24 (by decide) k86 (fun _ h9 => h9) rfl (by decide +kernel) (by rw [ev37]; exact jn_nb _) (by rw [ev37]; exact jn_fb _) (Nat.le_of_ble_eq_true rfl) (uM_F11 g σ tl v37) dX11_arranges_37 (fun H locs hP hD hS => ?_)
        refine lv_aload_n hx hb dX11_arranges_40 rfl (lv_at hl 0 rfl) ?_
        refine lv_dup hx hb dX11_arranges_41 rfl ?_
        refine va_get (D := (g.1, g.2.1)) (ci := 13) (v := .long (lN (σ.1 10))) (C := RX11) (T := TX11) (N := 30) hx hb hts iX11 hown hK.1 hP 0 (gM0 g (sF σ 11 v37) tl) rfl 23 (by decide) k82 (fun _ h9 => h9) rfl dX11_arranges_42 ?_
        refine lv_lconst (v := lN 1) hx hb dX11_arranges_45 (by decide) ?_
        refine jn_lsub1 hx hb dX11_arranges_46 ?_
        refine jn_put (D := (g.1, g.2.1)) (ci := 13) (v := .long (lN (slb (σ.1 10)))) (ty := .long) (C := RX11) (T := TX11) (N := 30) hx hb hts iX11 tyX11 tyX11_ok nmX11 hown hK.1 hP hD hS 0 (gM0 g (sF σ 11 v37) tl) rfl 23 (by decide) k82 (fun _ h9 => h9) rfl (by decide +kernel) rfl rfl (Nat.le_of_ble_eq_true rfl) (uM_F10 g (sF σ 11 v37) tl (slb (σ.1 10))) dX11_arranges_47 (fun H locs hP hD hS => ?_)
        refine lv_lconst (v := lN 1) hx hb dX11_arranges_50 (by decide) ?_
        exact hq _ _ _ _ ((lN 1)) (1, (slb (σ.1 10)), v37, (σ.2.1 6), (σ.2.1 10)) dX11_arranges_51 ⟨rfl, by rw [e0, arrN, if_pos c_17]; by_cases q : (σ.1 10) = 0; { exact Or.inl ⟨by omega, by rw [ev37, if_pos q], trivial⟩ }; { exact Or.inr ⟨by omega, by rw [ev37, if_neg q], by unfold slb; rw [if_neg q], rfl⟩ }, fun _ _ => rfl, fun _ _ => rfl, slb_lt hrk⟩ hP hD hS
      refine jn_lneU hx hb hrk (by decide) (tgt := 36) dX11_arranges_29 (by decide) (fun c_29 => ?_) (fun c_29 => ?_)
      · refine lv_iconst (v := nI 0) hx hb dX11_arranges_36 (by decide) ?_
        exact jp37 0 (by rw [if_neg c_29])
      · refine lv_iconst (v := nI 1) hx hb dX11_arranges_32 (by decide) ?_
        refine lv_goto (tgt := 37) hx hb dX11_arranges_33 (by decide) ?_
        exact jp37 1 (by rw [if_pos c_29])
    · refine lv_lconst (v := lN 0) hx hb dX11_arranges_20 (by decide) ?_
      exact hq _ _ _ _ ((lN 0)) (0, (σ.1 10), (σ.1 11), (σ.2.1 6), (σ.2.1 10)) dX11_arranges_21 ⟨rfl, Or.inr (by rw [e0, arrN, if_neg (fun q => q c_17)]; exact ⟨by omega, hfo, rfl, rfl⟩), fun _ _ => rfl, fun _ _ => rfl, hrk⟩ hP hD hS

abbrev r_c_X11_arranges_d4 : Room := { frames := 5, cells := 0, slots := 0, locals := 121 }
set_option maxHeartbeats 4000000 in
set_option maxRecDepth 100000 in
theorem c_X11_arranges_d4 (l : Launch) (g : GC) (tl : va_W) (sz : Nat) (σ : SS) (st : Nat) (hT : OkT (σ.2.1 0)) (hF : ((σ.2.1 0) 15) < 32) (hn : (σ.1 6) ≤ 8) (hd : 4 ≤ (σ.1 6)) (hst : st < 32) (hfo : (σ.1 11) = 0) (hrk : (σ.1 10) < 18446744073709551616) (hlf : (σ.2.1 10) 0 + (σ.2.1 10) 1 + (σ.2.1 10) 2 = ((σ.1 6) - 4)) : Met l yX11_arranges wsX11_arranges r_c_X11_arranges_d4 (va_Pc [.ref (g.2.2.2 0), .int (nI 4), .int (nI st)] (PW g (wM g σ ++ tl) sz)) (va_Ql (fun (r : Int64) (z : Nat × Nat × Nat × (Nat → Nat) × (Nat → Nat)) => match z with | (r0, rl, fo, ot, lf) => (r = lN (r0)) ∧ (((σ.1 10) < arrN (σ.2.1 0) ((σ.2.1 0) 15) ((σ.1 6) - 4) (σ.2.1 10) st ∧ fo = 1 ∧ isArr (σ.2.1 0) ((σ.2.1 0) 15) ((σ.1 6) - 4) (σ.2.1 10) st (σ.1 10) (fun i => ot (4 + i))) ∨ (¬ (σ.1 10) < arrN (σ.2.1 0) ((σ.2.1 0) 15) ((σ.1 6) - 4) (σ.2.1 10) st ∧ fo = 0 ∧ rl = (σ.1 10) - arrN (σ.2.1 0) ((σ.2.1 0) 15) ((σ.1 6) - 4) (σ.2.1 10) st ∧ r0 = arrN (σ.2.1 0) ((σ.2.1 0) 15) ((σ.1 6) - 4) (σ.2.1 10) st)) ∧ (∀ i, i < 4 → ot i = (σ.2.1 6) i) ∧ (∀ x, x < 3 → lf x = (σ.2.1 10) x) ∧ (rl < 18446744073709551616)) (fun (z : Nat × Nat × Nat × (Nat → Nat) × (Nat → Nat)) t => BW g (va_A (wM g σ ++ tl) sz) ((fun z : Nat × Nat × Nat × (Nat → Nat) × (Nat → Nat) => match z with | (r0, rl, fo, ot, lf) => wM g (sA (sA (sF (sF σ 10 rl) 11 fo) 6 ot) 10 lf) ++ tl) z) t) (va_A (wM g σ ++ tl) sz)) 0 0 (va_A (wM g σ ++ tl) sz) := by
  refine jn_sl (wf := fun z : Nat × Nat × Nat × (Nat → Nat) × (Nat → Nat) => match z with | (r0, rl, fo, ot, lf) => wM g (sA (sA (sF (sF σ 10 rl) 11 fo) 6 ot) 10 lf) ++ tl) (cc := cX11_arranges) (maxL := 6) (own := RX11) (by decide) rfl rfl (Nat.le_of_ble_eq_true rfl) ?_
  intro p e s m below meth c Q A hx hb hml hown hts hK hP hD hS hAA hq ls hl
  obtain ⟨H, eH⟩ : ∃ z, z = s.heap := ⟨_, rfl⟩
  obtain ⟨locs, el⟩ : ∃ z : List Loc, z = [] := ⟨_, rfl⟩
  rw [← eH] at hP
  have hS : va_S A s.heap H locs := by rw [eH, el]; exact hS
  have goal0 : W p l e r_c_X11_arranges_d4 s m ([.ref (g.2.2.2 0), .int (nI 4), .int (nI st)] : List Value).toArray below meth c H locs 0 0 Q (F0 m 0 ls []) → W p l e r_c_X11_arranges_d4 s m ([.ref (g.2.2.2 0), .int (nI 4), .int (nI st)] : List Value).toArray below meth c s.heap [] 0 0 Q (F0 m 0 ls []) := fun h => by rw [eH, el] at h; exact h
  refine goal0 ?_
  have hl : lv_has ls 6 [(0, .ref (g.2.2.2 0)), (1, .int (nI 4)), (2, .int (nI st))] := hl
  have iX11 : ∀ w ∈ wsX110, w ∈ wsX11_arranges := by decide +kernel
  have k51 := hts (.fieldLink RX11 51 "JumpingAutomataModel" "length" "I") (by decide +kernel)
  have k86 := hts (.fieldLink RX11 86 "JumpingAutomataModel" "isFound" "Z") (by decide +kernel)
  have k79 := hts (.fieldLink RX11 79 "JumpingAutomataModel" "left" "[I") (by decide +kernel)
  have k48 := hts (.fieldLink RX11 48 "JumpingAutomataModel" "other" "[I") (by decide +kernel)
  have k13 := hts (.fieldLink RX11 13 "JumpingAutomataModel" "now" "[I") (by decide +kernel)
  have k82 := hts (.fieldLink RX11 82 "JumpingAutomataModel" "rankLeft" "J") (by decide +kernel)
  have hl0 := ar_le3 (σ.2.1 10)
  refine lv_iload_n hx hb dX11_arranges_0 rfl (lv_at hl 1 rfl) ?_
  refine lv_aload_n hx hb dX11_arranges_1 rfl (lv_at hl 0 rfl) ?_
  refine va_get (D := (g.1, g.2.1)) (ci := 13) (v := .int (nI (σ.1 6))) (C := RX11) (T := TX11) (N := 30) hx hb hts iX11 hown hK.1 hP 0 (gM0 g σ tl) rfl 13 (by decide) k51 (fun _ h9 => h9) rfl dX11_arranges_2 ?_
  refine jn_cne hx hb (by decide) (by omega) (tgt := 52) dX11_arranges_5 (by decide) (fun c_5 => ?_) (fun c_5 => ?_)
  · refine lv_lconst (v := lN 0) hx hb dX11_arranges_52 (by decide) ?_
    refine lv_lstore_n (lv' := [(3, .long (lN 0)), (0, .ref (g.2.2.2 0)), (1, .int (nI 4)), (2, .int (nI st))]) hx hb dX11_arranges_53 rfl hl (by decide) rfl (fun ls hl => ?_)
    refine lv_iconst (v := nI 0) hx hb dX11_arranges_54 (by decide) ?_
    refine lv_istore (lv' := [(5, .int (nI 0)), (3, .long (lN 0)), (0, .ref (g.2.2.2 0)), (1, .int (nI 4)), (2, .int (nI st))]) hx hb dX11_arranges_55 hl (by decide) rfl (fun ls hl => ?_)
    have lp57 : ∀ (fu : Nat), ∀ (x0 : Nat) (z : Nat) (rl1 : Nat) (fo1 : Nat) (ot1 : Nat → Nat) (lf1 : Nat → Nat), (x0 ≤ 3) → (ArI (σ.2.1 0) ((σ.2.1 0) 15) ((σ.1 6) - 5) (σ.2.1 10) st (σ.1 10) x0 rl1 z fo1 4 ot1) → (∀ i, i < 4 → ot1 i = (σ.2.1 6) i) → (∀ x, x < 3 → lf1 x = (σ.2.1 10) x) → (rl1 < 18446744073709551616) → 3 - x0 < fu → ∀ (H : Heap) (locs : List Loc), va_P (g.1, g.2.1) vwCl (wM g (sA (sA (sF (sF σ 10 rl1) 11 fo1) 6 ot1) 10 lf1) ++ tl) H → va_D A (wM g (sA (sA (sF (sF σ 10 rl1) 11 fo1) 6 ot1) 10 lf1) ++ tl) → va_S A s.heap H locs → ∀ ls : Array Slot, lv_has ls 6 [(0, .ref (g.2.2.2 0)), (1, .int (nI 4)), (2, .int (nI st)), (3, .long (lN z)), (5, .int (nI x0))] → W p l e r_c_X11_arranges_d4 s m ([.ref (g.2.2.2 0), .int (nI 4), .int (nI st)] : List Value).toArray below meth c H locs 0 0 Q (F0 m 57 ls []) := by
      intro fu
      induction fu with
      | zero => intro x0 z rl1 fo1 ot1 lf1 i1 i2 i3 i4 i5 hf; exact absurd hf (Nat.not_lt_zero _)
      | succ fu ih57 =>
        intro x0 z rl1 fo1 ot1 lf1 i1 i2 i3 i4 i5 hf H locs hP hD hS ls hl
        have eK : ((σ.1 6) - 4) = ((σ.1 6) - 5) + 1 := by omega
        have hfo1 : fo1 = 0 ∨ fo1 = 1 := i2.imp (fun z => z.1) (fun z => z.1)
        refine lv_iload hx hb dX11_arranges_57 (lv_at hl 4 rfl) ?_
        refine lv_iconst (v := nI 3) hx hb dX11_arranges_59 (by decide) ?_
        refine jn_cge hx hb (by omega) (by decide) (tgt := 136) dX11_arranges_60 (by decide) (fun c_60 => ?_) (fun c_60 => ?_)
        · refine lv_lload_n hx hb dX11_arranges_136 rfl (lv_at hl 3 rfl) ?_
          exact hq _ _ _ _ ((lN z)) (z, rl1, fo1, ot1, lf1) dX11_arranges_137 ⟨rfl, by first | exact ari_end i2 eK (Or.inl (by omega)) | exact ari_end i2 eK (Or.inr c_67), i3, i4, i5⟩ hP hD hS
        · refine lv_aload_n hx hb dX11_arranges_63 rfl (lv_at hl 0 rfl) ?_
          refine va_get (D := (g.1, g.2.1)) (ci := 13) (v := .int (nI fo1)) (C := RX11) (T := TX11) (N := 30) hx hb hts iX11 hown hK.1 hP 0 (gM0 g (sA (sA (sF (sF σ 10 rl1) 11 fo1) 6 ot1) 10 lf1) tl) rfl 24 (by decide) k86 (fun _ h9 => h9) rfl dX11_arranges_64 ?_
          refine jn_zne hx hb (by omega) (tgt := 136) dX11_arranges_67 (by decide) (fun c_67 => ?_) (fun c_67 => ?_)
          · refine lv_lload_n hx hb dX11_arranges_136 rfl (lv_at hl 3 rfl) ?_
            exact hq _ _ _ _ ((lN z)) (z, rl1, fo1, ot1, lf1) dX11_arranges_137 ⟨rfl, by first | exact ari_end i2 eK (Or.inl (by omega)) | exact ari_end i2 eK (Or.inr c_67), i3, i4, i5⟩ hP hD hS
          · refine lv_aload_n hx hb dX11_arranges_70 rfl (lv_at hl 0 rfl) ?_
            refine va_get (D := (g.1, g.2.1)) (ci := 13) (v := .ref (g.2.2.2 13)) (C := RX11) (T := TX11) (N := 30) hx hb hts iX11 hown hK.1 hP 0 (gM0 g (sA (sA (sF (sF σ 10 rl1) 11 fo1) 6 ot1) 10 lf1) tl) rfl 22 (by decide) k79 (fun _ h9 => h9) rfl dX11_arranges_71 ?_
            refine lv_iload hx hb dX11_arranges_74 (lv_at hl 4 rfl) ?_
            refine jn_iald (f := lf1) hx hb hK.1 hP 13 0 (gM13 g (sA (sA (sF (sF σ 10 rl1) 11 fo1) 6 ot1) 10 lf1) tl) rfl (by omega) (Nat.le_of_ble_eq_true rfl) dX11_arranges_76 ?_
            have hll := hl0 x0 (by omega)
            have hl1 := i4 x0 (by omega)
            refine jn_zne hx hb (by omega) (tgt := 83) dX11_arranges_77 (by decide) (fun c_77 => ?_) (fun c_77 => ?_)
            · refine lv_aload_n hx hb dX11_arranges_83 rfl (lv_at hl 0 rfl) ?_
              refine va_get (D := (g.1, g.2.1)) (ci := 13) (v := .ref (g.2.2.2 13)) (C := RX11) (T := TX11) (N := 30) hx hb hts iX11 hown hK.1 hP 0 (gM0 g (sA (sA (sF (sF σ 10 rl1) 11 fo1) 6 ot1) 10 lf1) tl) rfl 22 (by decide) k79 (fun _ h9 => h9) rfl dX11_arranges_84 ?_
              refine lv_iload hx hb dX11_arranges_87 (lv_at hl 4 rfl) ?_
              refine lv_dup2_11 hx hb dX11_arranges_89 rfl rfl ?_
              refine jn_iald (f := lf1) hx hb hK.1 hP 13 0 (gM13 g (sA (sA (sF (sF σ 10 rl1) 11 fo1) 6 ot1) 10 lf1) tl) rfl (by omega) (Nat.le_of_ble_eq_true rfl) dX11_arranges_90 ?_
              refine lv_iconst (v := nI 1) hx hb dX11_arranges_91 (by decide) ?_
              refine jn_isub hx hb (by omega) dX11_arranges_92 ?_
              refine jn_iast (f := lf1) hx hb hK.1 hP hD hS 13 0 (gM13 g (sA (sA (sF (sF σ 10 rl1) 11 fo1) 6 ot1) 10 lf1) tl) rfl (by omega) (Nat.le_of_ble_eq_true rfl) (uM_A10 g (sA (sA (sF (sF σ 10 rl1) 11 fo1) 6 ot1) 10 lf1) tl _) dX11_arranges_93 (fun H locs hP hD hS => ?_)
              refine lv_aload_n hx hb dX11_arranges_94 rfl (lv_at hl 0 rfl) ?_
              refine va_get (D := (g.1, g.2.1)) (ci := 13) (v := .ref (g.2.2.2 7)) (C := RX11) (T := TX11) (N := 30) hx hb hts iX11 hown hK.1 hP 0 (gM0 g (sA (sA (sA (sF (sF σ 10 rl1) 11 fo1) 6 ot1) 10 lf1) 10 (va_up lf1 x0 ((lf1 x0) - 1))) tl) rfl 12 (by decide) k48 (fun _ h9 => h9) rfl dX11_arranges_95 ?_
              refine lv_iload_n hx hb dX11_arranges_98 rfl (lv_at hl 1 rfl) ?_
              refine lv_iload hx hb dX11_arranges_99 (lv_at hl 4 rfl) ?_
              refine jn_iast (f := ot1) hx hb hK.1 hP hD hS 7 0 (gM7 g (sA (sA (sA (sF (sF σ 10 rl1) 11 fo1) 6 ot1) 10 lf1) 10 (va_up lf1 x0 ((lf1 x0) - 1))) tl) rfl (by decide) (Nat.le_of_ble_eq_true rfl) (uM_A6 g (sA (sA (sA (sF (sF σ 10 rl1) 11 fo1) 6 ot1) 10 lf1) 10 (va_up lf1 x0 ((lf1 x0) - 1))) tl _) dX11_arranges_101 (fun H locs hP hD hS => ?_)
              refine lv_lload_n hx hb dX11_arranges_102 rfl (lv_at hl 3 rfl) ?_
              refine lv_aload_n hx hb dX11_arranges_103 rfl (lv_at hl 0 rfl) ?_
              refine lv_iload_n hx hb dX11_arranges_104 rfl (lv_at hl 1 rfl) ?_
              refine lv_iconst (v := nI 1) hx hb dX11_arranges_105 (by decide) ?_
              refine jn_iadd hx hb dX11_arranges_106 ?_
              refine lv_aload_n hx hb dX11_arranges_107 rfl (lv_at hl 0 rfl) ?_
              refine lv_iload_n hx hb dX11_arranges_108 rfl (lv_at hl 2 rfl) ?_
              refine lv_iload hx hb dX11_arranges_109 (lv_at hl 4 rfl) ?_
              refine vp_callSi (va_Run.run (va_runV (As := [.int (nI st), .int (nI x0)]) (rest := [.int (nI (4 + 1)), .ref (g.2.2.2 0), .long (lN z)]) ⟨hx, hb, hml, hown, hts⟩ (c_X11_after l g tl (sA (sA (sA (sA (sF (sF σ 10 rl1) 11 fo1) 6 ot1) 10 lf1) 10 (va_up lf1 x0 ((lf1 x0) - 1))) 6 (va_up ot1 4 x0)) st x0 (by omega) (by omega)) (cwV 2 hts gX11_arranges_X11_after rfl rfl rfl (by decide +kernel) ⟨Nat.le_of_ble_eq_true rfl, Nat.le_of_ble_eq_true rfl⟩) (okPV hK hP rfl (gM0 g (sA (sA (sA (sA (sF (sF σ 10 rl1) 11 fo1) 6 ot1) 10 lf1) 10 (va_up lf1 x0 ((lf1 x0) - 1))) 6 (va_up ot1 4 x0)) tl)) rfl rfl hl.1 rfl (lv_room (Nat.le_of_ble_eq_true rfl)) dX11_arranges_111 ⟨Nat.le_of_ble_eq_true rfl, Nat.le_of_ble_eq_true rfl⟩)) (fun r_111 h_111 => ?_)
              have h_111 : r_111 = (nI (stp (σ.2.1 0) x0 st)) := h_111
              subst h_111
              refine jn_calll (va_runV (As := [.int (nI (4 + 1)), .int (nI (stp (σ.2.1 0) x0 st))]) (rest := [.long (lN z)]) ⟨hx, hb, hml, hown, hts⟩ (c_X11_arranges_d5 l g tl H.size (sA (sA (sA (sA (sF (sF σ 10 rl1) 11 fo1) 6 ot1) 10 lf1) 10 (va_up lf1 x0 ((lf1 x0) - 1))) 6 (va_up ot1 4 x0)) (stp (σ.2.1 0) x0 st) hT hF hn (show 5 ≤ (σ.1 6) by omega) (stp_lt hT (by omega)) (show fo1 = 0 by omega) i5 (by show va_up lf1 x0 (lf1 x0 - 1) 0 + va_up lf1 x0 (lf1 x0 - 1) 1 + va_up lf1 x0 (lf1 x0 - 1) 2 = ((σ.1 6) - 5); rw [ar_sum lf1 x0 (by omega) (by omega), i4 0 (by decide), i4 1 (by decide), i4 2 (by decide), hlf]; omega)) (cwV 2 hts gX11_arranges_X11_arranges rfl rfl rfl (by decide +kernel) ⟨Nat.le_of_ble_eq_true rfl, Nat.le_of_ble_eq_true rfl⟩) (okWV hK hP hD rfl (gM0 g (sA (sA (sA (sA (sF (sF σ 10 rl1) 11 fo1) 6 ot1) 10 lf1) 10 (va_up lf1 x0 ((lf1 x0) - 1))) 6 (va_up ot1 4 x0)) tl)) rfl rfl hl.1 rfl (lv_room (Nat.le_of_ble_eq_true rfl)) dX11_arranges_114 ⟨Nat.le_of_ble_eq_true rfl, Nat.le_of_ble_eq_true rfl⟩) hD hS hAA (fun r_114 u H locs hw_ hP hD hS => ?_)
              obtain ⟨r0_114, rl_114, fo_114, ot_114, lf_114⟩ := u
              obtain ⟨rfl, h_114⟩ := hw_
              have h_114 : (((rl1) < arrN (σ.2.1 0) ((σ.2.1 0) 15) ((σ.1 6) - 5) ((va_up lf1 x0 ((lf1 x0) - 1))) (stp (σ.2.1 0) x0 st) ∧ fo_114 = 1 ∧ isArr (σ.2.1 0) ((σ.2.1 0) 15) ((σ.1 6) - 5) ((va_up lf1 x0 ((lf1 x0) - 1))) (stp (σ.2.1 0) x0 st) (rl1) (fun i => ot_114 (5 + i))) ∨ (¬ (rl1) < arrN (σ.2.1 0) ((σ.2.1 0) 15) ((σ.1 6) - 5) ((va_up lf1 x0 ((lf1 x0) - 1))) (stp (σ.2.1 0) x0 st) ∧ fo_114 = 0 ∧ rl_114 = (rl1) - arrN (σ.2.1 0) ((σ.2.1 0) 15) ((σ.1 6) - 5) ((va_up lf1 x0 ((lf1 x0) - 1))) (stp (σ.2.1 0) x0 st) ∧ r0_114 = arrN (σ.2.1 0) ((σ.2.1 0) 15) ((σ.1 6) - 5) ((va_up lf1 x0 ((lf1 x0) - 1))) (stp (σ.2.1 0) x0 st))) ∧ (∀ i, i < 5 → ot_114 i = ((va_up ot1 4 x0)) i) ∧ (∀ x, x < 3 → lf_114 x = ((va_up lf1 x0 ((lf1 x0) - 1))) x) ∧ (rl_114 < 18446744073709551616) := h_114
              have hP : va_P (g.1, g.2.1) vwCl (wM g (sA (sA (sF (sF (sA (sA (sA (sA (sF (sF σ 10 rl1) 11 fo1) 6 ot1) 10 lf1) 10 (va_up lf1 x0 ((lf1 x0) - 1))) 6 (va_up ot1 4 x0)) 10 rl_114) 11 fo_114) 6 ot_114) 10 lf_114) ++ tl) H := hP
              have hD : va_D A (wM g (sA (sA (sF (sF (sA (sA (sA (sA (sF (sF σ 10 rl1) 11 fo1) 6 ot1) 10 lf1) 10 (va_up lf1 x0 ((lf1 x0) - 1))) 6 (va_up ot1 4 x0)) 10 rl_114) 11 fo_114) 6 ot_114) 10 lf_114) ++ tl) := hD
              refine jn_ladd hx hb dX11_arranges_117 ?_
              refine lv_lstore_n (lv' := [(3, .long (lN (z + r0_114))), (0, .ref (g.2.2.2 0)), (1, .int (nI 4)), (2, .int (nI st)), (5, .int (nI x0))]) hx hb dX11_arranges_118 rfl hl (by decide) rfl (fun ls hl => ?_)
              refine lv_aload_n hx hb dX11_arranges_119 rfl (lv_at hl 1 rfl) ?_
              refine va_get (D := (g.1, g.2.1)) (ci := 13) (v := .ref (g.2.2.2 13)) (C := RX11) (T := TX11) (N := 30) hx hb hts iX11 hown hK.1 hP 0 (gM0 g (sA (sA (sF (sF (sA (sA (sA (sA (sF (sF σ 10 rl1) 11 fo1) 6 ot1) 10 lf1) 10 (va_up lf1 x0 ((lf1 x0) - 1))) 6 (va_up ot1 4 x0)) 10 rl_114) 11 fo_114) 6 ot_114) 10 lf_114) tl) rfl 22 (by decide) k79 (fun _ h9 => h9) rfl dX11_arranges_120 ?_
              refine lv_iload hx hb dX11_arranges_123 (lv_at hl 4 rfl) ?_
              refine lv_dup2_11 hx hb dX11_arranges_125 rfl rfl ?_
              refine jn_iald (f := lf_114) hx hb hK.1 hP 13 0 (gM13 g (sA (sA (sF (sF (sA (sA (sA (sA (sF (sF σ 10 rl1) 11 fo1) 6 ot1) 10 lf1) 10 (va_up lf1 x0 ((lf1 x0) - 1))) 6 (va_up ot1 4 x0)) 10 rl_114) 11 fo_114) 6 ot_114) 10 lf_114) tl) rfl (by omega) (Nat.le_of_ble_eq_true rfl) dX11_arranges_126 ?_
              refine lv_iconst (v := nI 1) hx hb dX11_arranges_127 (by decide) ?_
              refine jn_iadd hx hb dX11_arranges_128 ?_
              refine jn_iast (f := lf_114) hx hb hK.1 hP hD hS 13 0 (gM13 g (sA (sA (sF (sF (sA (sA (sA (sA (sF (sF σ 10 rl1) 11 fo1) 6 ot1) 10 lf1) 10 (va_up lf1 x0 ((lf1 x0) - 1))) 6 (va_up ot1 4 x0)) 10 rl_114) 11 fo_114) 6 ot_114) 10 lf_114) tl) rfl (by omega) (Nat.le_of_ble_eq_true rfl) (uM_A10 g (sA (sA (sF (sF (sA (sA (sA (sA (sF (sF σ 10 rl1) 11 fo1) 6 ot1) 10 lf1) 10 (va_up lf1 x0 ((lf1 x0) - 1))) 6 (va_up ot1 4 x0)) 10 rl_114) 11 fo_114) 6 ot_114) 10 lf_114) tl _) dX11_arranges_129 (fun H locs hP hD hS => ?_)
              refine lv_iinc (v := nI (x0 + 1)) (lv' := [(5, .int (nI (x0 + 1))), (3, .long (lN (z + r0_114))), (0, .ref (g.2.2.2 0)), (1, .int (nI 4)), (2, .int (nI st))]) hx hb dX11_arranges_130 hl (k := 4) rfl (jn_ii _ 1) (by decide) rfl (fun ls hl => ?_)
              refine lv_goto (tgt := 57) hx hb dX11_arranges_133 (by decide) ?_
              exact ih57 (x0 + 1) (z + r0_114) rl_114 fo_114 ot_114 (va_up lf_114 x0 ((lf_114 x0) + 1)) (by omega) (by first | exact ari_no i2 (by omega) (by rw [← i4 _ (by omega)]; exact c_77) | exact ari_call i2 (by omega) (by omega) c_77 i4 (by rw [h_114.2.1 _ (by omega), va_up, if_pos rfl]) h_114.1) (by first | exact i3 | exact (fun i hi => by rw [h_114.2.1 i (by omega), va_up, if_neg (by omega)]; exact i3 i hi)) (by first | exact i4 | exact ar_lf i4 h_114.2.2.1 ⟨by omega, by omega⟩) (by first | exact i5 | exact h_114.2.2.2) (by omega) _ _ hP hD hS _ (lv_sub hl [2, 3, 4, 1, 0] rfl)
            · refine lv_goto (tgt := 130) hx hb dX11_arranges_80 (by decide) ?_
              refine lv_iinc (v := nI (x0 + 1)) (lv' := [(5, .int (nI (x0 + 1))), (0, .ref (g.2.2.2 0)), (1, .int (nI 4)), (2, .int (nI st)), (3, .long (lN z))]) hx hb dX11_arranges_130 hl (k := 4) rfl (jn_ii _ 1) (by decide) rfl (fun ls hl => ?_)
              refine lv_goto (tgt := 57) hx hb dX11_arranges_133 (by decide) ?_
              exact ih57 (x0 + 1) z rl1 fo1 ot1 lf1 (by omega) (by first | exact ari_no i2 (by omega) (by rw [← i4 _ (by omega)]; exact c_77) | exact ari_call i2 (by omega) (by omega) c_77 i4 (by rw [h_114.2.1 _ (by omega), va_up, if_pos rfl]) h_114.1) (by first | exact i3 | exact (fun i hi => by rw [h_114.2.1 i (by omega), va_up, if_neg (by omega)]; exact i3 i hi)) (by first | exact i4 | exact ar_lf i4 h_114.2.2.1 ⟨by omega, by omega⟩) (by first | exact i5 | exact h_114.2.2.2) (by omega) _ _ hP hD hS _ (lv_sub hl [1, 2, 3, 4, 0] rfl)
    exact lp57 _ 0 0 (σ.1 10) (σ.1 11) (σ.2.1 6) (σ.2.1 10) (by decide) (by rw [hfo]; exact ari_0) (fun _ _ => rfl) (fun _ _ => rfl) hrk (Nat.lt_succ_self _) _ _ hP hD hS _ (lv_sub hl [2, 3, 4, 1, 0] rfl)
  · have e0 : ((σ.1 6) - 4) = 0 := by omega
    refine lv_iload_n hx hb dX11_arranges_8 rfl (lv_at hl 2 rfl) ?_
    refine lv_aload_n hx hb dX11_arranges_9 rfl (lv_at hl 0 rfl) ?_
    refine va_get (D := (g.1, g.2.1)) (ci := 13) (v := .ref (g.2.2.2 1)) (C := RX11) (T := TX11) (N := 30) hx hb hts iX11 hown hK.1 hP 0 (gM0 g σ tl) rfl 1 (by decide) k13 (fun _ h9 => h9) rfl dX11_arranges_10 ?_
    refine lv_bipush (v := nI 15) hx hb dX11_arranges_13 (by decide) ?_
    refine jn_iald (f := σ.2.1 0) hx hb hK.1 hP 1 0 (gM1 g σ tl) rfl (by decide) (Nat.le_of_ble_eq_true rfl) dX11_arranges_15 ?_
    refine jn_iand hx hb dX11_arranges_16 ?_
    refine jn_zne hx hb (and_lt (by omega)) (tgt := 22) dX11_arranges_17 (by decide) (fun c_17 => ?_) (fun c_17 => ?_)
    · refine lv_aload_n hx hb dX11_arranges_22 rfl (lv_at hl 0 rfl) ?_
      refine lv_aload_n hx hb dX11_arranges_23 rfl (lv_at hl 0 rfl) ?_
      refine va_get (D := (g.1, g.2.1)) (ci := 13) (v := .long (lN (σ.1 10))) (C := RX11) (T := TX11) (N := 30) hx hb hts iX11 hown hK.1 hP 0 (gM0 g σ tl) rfl 23 (by decide) k82 (fun _ h9 => h9) rfl dX11_arranges_24 ?_
      refine lv_lconst (v := lN 0) hx hb dX11_arranges_27 (by decide) ?_
      refine jn_lcmp hx hb dX11_arranges_28 ?_
      have jp37 : ∀ v37 : Nat, v37 = (if (σ.1 10) = 0 then 1 else 0) → W p l e r_c_X11_arranges_d4 s m ([.ref (g.2.2.2 0), .int (nI 4), .int (nI st)] : List Value).toArray below meth c H locs 0 0 Q (F0 m 37 ls [.int (nI v37), .ref (g.2.2.2 0)]) := by
        intro v37 ev37
        refine jn_put (D := (g.1, g.2.1)) (ci := 13) (v := .int (nI v37)) (ty := .boolean) (C := RX11) (T := TX11) (N := 30) hx hb hts iX11 tyX11 tyX11_ok nmX11 hown hK.1 hP hD hS 0 (gM0 g σ tl) rfl 24 (by decide) k86 (fun _ h9 => h9) rfl (by decide +kernel) (by rw [ev37]; exact jn_nb _) (by rw [ev37]; exact jn_fb _) (Nat.le_of_ble_eq_true rfl) (uM_F11 g σ tl v37) dX11_arranges_37 (fun H locs hP hD hS => ?_)
        refine lv_aload_n hx hb dX11_arranges_40 rfl (lv_at hl 0 rfl) ?_
        refine lv_dup hx hb dX11_arranges_41 rfl ?_
        refine va_get (D := (g.1, g.2.1)) (ci := 13) (v := .long (lN (σ.1 10))) (C := RX11) (T := TX11) (N := 30) hx hb hts iX11 hown hK.1 hP 0 (gM0 g (sF σ 11 v37) tl) rfl 23 (by decide) k82 (fun _ h9 => h9) rfl dX11_arranges_42 ?_
        refine lv_lconst (v := lN 1) hx hb dX11_arranges_45 (by decide) ?_
        refine jn_lsub1 hx hb dX11_arranges_46 ?_
        refine jn_put (D := (g.1, g.2.1)) (ci := 13) (v := .long (lN (slb (σ.1 10)))) (ty := .long) (C := RX11) (T := TX11) (N := 30) hx hb hts iX11 tyX11 tyX11_ok nmX11 hown hK.1 hP hD hS 0 (gM0 g (sF σ 11 v37) tl) rfl 23 (by decide) k82 (fun _ h9 => h9) rfl (by decide +kernel) rfl rfl (Nat.le_of_ble_eq_true rfl) (uM_F10 g (sF σ 11 v37) tl (slb (σ.1 10))) dX11_arranges_47 (fun H locs hP hD hS => ?_)
        refine lv_lconst (v := lN 1) hx hb dX11_arranges_50 (by decide) ?_
        exact hq _ _ _ _ ((lN 1)) (1, (slb (σ.1 10)), v37, (σ.2.1 6), (σ.2.1 10)) dX11_arranges_51 ⟨rfl, by rw [e0, arrN, if_pos c_17]; by_cases q : (σ.1 10) = 0; { exact Or.inl ⟨by omega, by rw [ev37, if_pos q], trivial⟩ }; { exact Or.inr ⟨by omega, by rw [ev37, if_neg q], by unfold slb; rw [if_neg q], rfl⟩ }, fun _ _ => rfl, fun _ _ => rfl, slb_lt hrk⟩ hP hD hS
      refine jn_lneU hx hb hrk (by decide) (tgt := 36) dX11_arranges_29 (by decide) (fun c_29 => ?_) (fun c_29 => ?_)
      · refine lv_iconst (v := nI 0) hx hb dX11_arranges_36 (by decide) ?_
        exact jp37 0 (by rw [if_neg c_29])
      · refine lv_iconst (v := nI 1) hx hb dX11_arranges_32 (by decide) ?_
        refine lv_goto (tgt := 37) hx hb dX11_arranges_33 (by decide) ?_
        exact jp37 1 (by rw [if_pos c_29])
    · refine lv_lconst (v := lN 0) hx hb dX11_arranges_20 (by decide) ?_
      exact hq _ _ _ _ ((lN 0)) (0, (σ.1 10), (σ.1 11), (σ.2.1 6), (σ.2.1 10)) dX11_arranges_21 ⟨rfl, Or.inr (by rw [e0, arrN, if_neg (fun q => q c_17)]; exact ⟨by omega, hfo, rfl, rfl⟩), fun _ _ => rfl, fun _ _ => rfl, hrk⟩ hP hD hS

abbrev r_c_X11_arranges_d3 : Room := { frames := 6, cells := 0, slots := 0, locals := 146 }
set_option maxHeartbeats 4000000 in
set_option maxRecDepth 100000 in
theorem c_X11_arranges_d3 (l : Launch) (g : GC) (tl : va_W) (sz : Nat) (σ : SS) (st : Nat) (hT : OkT (σ.2.1 0)) (hF : ((σ.2.1 0) 15) < 32) (hn : (σ.1 6) ≤ 8) (hd : 3 ≤ (σ.1 6)) (hst : st < 32) (hfo : (σ.1 11) = 0) (hrk : (σ.1 10) < 18446744073709551616) (hlf : (σ.2.1 10) 0 + (σ.2.1 10) 1 + (σ.2.1 10) 2 = ((σ.1 6) - 3)) : Met l yX11_arranges wsX11_arranges r_c_X11_arranges_d3 (va_Pc [.ref (g.2.2.2 0), .int (nI 3), .int (nI st)] (PW g (wM g σ ++ tl) sz)) (va_Ql (fun (r : Int64) (z : Nat × Nat × Nat × (Nat → Nat) × (Nat → Nat)) => match z with | (r0, rl, fo, ot, lf) => (r = lN (r0)) ∧ (((σ.1 10) < arrN (σ.2.1 0) ((σ.2.1 0) 15) ((σ.1 6) - 3) (σ.2.1 10) st ∧ fo = 1 ∧ isArr (σ.2.1 0) ((σ.2.1 0) 15) ((σ.1 6) - 3) (σ.2.1 10) st (σ.1 10) (fun i => ot (3 + i))) ∨ (¬ (σ.1 10) < arrN (σ.2.1 0) ((σ.2.1 0) 15) ((σ.1 6) - 3) (σ.2.1 10) st ∧ fo = 0 ∧ rl = (σ.1 10) - arrN (σ.2.1 0) ((σ.2.1 0) 15) ((σ.1 6) - 3) (σ.2.1 10) st ∧ r0 = arrN (σ.2.1 0) ((σ.2.1 0) 15) ((σ.1 6) - 3) (σ.2.1 10) st)) ∧ (∀ i, i < 3 → ot i = (σ.2.1 6) i) ∧ (∀ x, x < 3 → lf x = (σ.2.1 10) x) ∧ (rl < 18446744073709551616)) (fun (z : Nat × Nat × Nat × (Nat → Nat) × (Nat → Nat)) t => BW g (va_A (wM g σ ++ tl) sz) ((fun z : Nat × Nat × Nat × (Nat → Nat) × (Nat → Nat) => match z with | (r0, rl, fo, ot, lf) => wM g (sA (sA (sF (sF σ 10 rl) 11 fo) 6 ot) 10 lf) ++ tl) z) t) (va_A (wM g σ ++ tl) sz)) 0 0 (va_A (wM g σ ++ tl) sz) := by
  refine jn_sl (wf := fun z : Nat × Nat × Nat × (Nat → Nat) × (Nat → Nat) => match z with | (r0, rl, fo, ot, lf) => wM g (sA (sA (sF (sF σ 10 rl) 11 fo) 6 ot) 10 lf) ++ tl) (cc := cX11_arranges) (maxL := 6) (own := RX11) (by decide) rfl rfl (Nat.le_of_ble_eq_true rfl) ?_
  intro p e s m below meth c Q A hx hb hml hown hts hK hP hD hS hAA hq ls hl
  obtain ⟨H, eH⟩ : ∃ z, z = s.heap := ⟨_, rfl⟩
  obtain ⟨locs, el⟩ : ∃ z : List Loc, z = [] := ⟨_, rfl⟩
  rw [← eH] at hP
  have hS : va_S A s.heap H locs := by rw [eH, el]; exact hS
  have goal0 : W p l e r_c_X11_arranges_d3 s m ([.ref (g.2.2.2 0), .int (nI 3), .int (nI st)] : List Value).toArray below meth c H locs 0 0 Q (F0 m 0 ls []) → W p l e r_c_X11_arranges_d3 s m ([.ref (g.2.2.2 0), .int (nI 3), .int (nI st)] : List Value).toArray below meth c s.heap [] 0 0 Q (F0 m 0 ls []) := fun h => by rw [eH, el] at h; exact h
  refine goal0 ?_
  have hl : lv_has ls 6 [(0, .ref (g.2.2.2 0)), (1, .int (nI 3)), (2, .int (nI st))] := hl
  have iX11 : ∀ w ∈ wsX110, w ∈ wsX11_arranges := by decide +kernel
  have k51 := hts (.fieldLink RX11 51 "JumpingAutomataModel" "length" "I") (by decide +kernel)
  have k86 := hts (.fieldLink RX11 86 "JumpingAutomataModel" "isFound" "Z") (by decide +kernel)
  have k79 := hts (.fieldLink RX11 79 "JumpingAutomataModel" "left" "[I") (by decide +kernel)
  have k48 := hts (.fieldLink RX11 48 "JumpingAutomataModel" "other" "[I") (by decide +kernel)
  have k13 := hts (.fieldLink RX11 13 "JumpingAutomataModel" "now" "[I") (by decide +kernel)
  have k82 := hts (.fieldLink RX11 82 "JumpingAutomataModel" "rankLeft" "J") (by decide +kernel)
  have hl0 := ar_le3 (σ.2.1 10)
  refine lv_iload_n hx hb dX11_arranges_0 rfl (lv_at hl 1 rfl) ?_
  refine lv_aload_n hx hb dX11_arranges_1 rfl (lv_at hl 0 rfl) ?_
  refine va_get (D := (g.1, g.2.1)) (ci := 13) (v := .int (nI (σ.1 6))) (C := RX11) (T := TX11) (N := 30) hx hb hts iX11 hown hK.1 hP 0 (gM0 g σ tl) rfl 13 (by decide) k51 (fun _ h9 => h9) rfl dX11_arranges_2 ?_
  refine jn_cne hx hb (by decide) (by omega) (tgt := 52) dX11_arranges_5 (by decide) (fun c_5 => ?_) (fun c_5 => ?_)
  · refine lv_lconst (v := lN 0) hx hb dX11_arranges_52 (by decide) ?_
    refine lv_lstore_n (lv' := [(3, .long (lN 0)), (0, .ref (g.2.2.2 0)), (1, .int (nI 3)), (2, .int (nI st))]) hx hb dX11_arranges_53 rfl hl (by decide) rfl (fun ls hl => ?_)
    refine lv_iconst (v := nI 0) hx hb dX11_arranges_54 (by decide) ?_
    refine lv_istore (lv' := [(5, .int (nI 0)), (3, .long (lN 0)), (0, .ref (g.2.2.2 0)), (1, .int (nI 3)), (2, .int (nI st))]) hx hb dX11_arranges_55 hl (by decide) rfl (fun ls hl => ?_)
    have lp57 : ∀ (fu : Nat), ∀ (x0 : Nat) (z : Nat) (rl1 : Nat) (fo1 : Nat) (ot1 : Nat → Nat) (lf1 : Nat → Nat), (x0 ≤ 3) → (ArI (σ.2.1 0) ((σ.2.1 0) 15) ((σ.1 6) - 4) (σ.2.1 10) st (σ.1 10) x0 rl1 z fo1 3 ot1) → (∀ i, i < 3 → ot1 i = (σ.2.1 6) i) → (∀ x, x < 3 → lf1 x = (σ.2.1 10) x) → (rl1 < 18446744073709551616) → 3 - x0 < fu → ∀ (H : Heap) (locs : List Loc), va_P (g.1, g.2.1) vwCl (wM g (sA (sA (sF (sF σ 10 rl1) 11 fo1) 6 ot1) 10 lf1) ++ tl) H → va_D A (wM g (sA (sA (sF (sF σ 10 rl1) 11 fo1) 6 ot1) 10 lf1) ++ tl) → va_S A s.heap H locs → ∀ ls : Array Slot, lv_has ls 6 [(0, .ref (g.2.2.2 0)), (1, .int (nI 3)), (2, .int (nI st)), (3, .long (lN z)), (5, .int (nI x0))] → W p l e r_c_X11_arranges_d3 s m ([.ref (g.2.2.2 0), .int (nI 3), .int (nI st)] : List Value).toArray below meth c H locs 0 0 Q (F0 m 57 ls []) := by
      intro fu
      induction fu with
      | zero => intro x0 z rl1 fo1 ot1 lf1 i1 i2 i3 i4 i5 hf; exact absurd hf (Nat.not_lt_zero _)
      | succ fu ih57 =>
        intro x0 z rl1 fo1 ot1 lf1 i1 i2 i3 i4 i5 hf H locs hP hD hS ls hl
        have eK : ((σ.1 6) - 3) = ((σ.1 6) - 4) + 1 := by omega
        have hfo1 : fo1 = 0 ∨ fo1 = 1 := i2.imp (fun z => z.1) (fun z => z.1)
        refine lv_iload hx hb dX11_arranges_57 (lv_at hl 4 rfl) ?_
        refine lv_iconst (v := nI 3) hx hb dX11_arranges_59 (by decide) ?_
        refine jn_cge hx hb (by omega) (by decide) (tgt := 136) dX11_arranges_60 (by decide) (fun c_60 => ?_) (fun c_60 => ?_)
        · refine lv_lload_n hx hb dX11_arranges_136 rfl (lv_at hl 3 rfl) ?_
          exact hq _ _ _ _ ((lN z)) (z, rl1, fo1, ot1, lf1) dX11_arranges_137 ⟨rfl, by first | exact ari_end i2 eK (Or.inl (by omega)) | exact ari_end i2 eK (Or.inr c_67), i3, i4, i5⟩ hP hD hS
        · refine lv_aload_n hx hb dX11_arranges_63 rfl (lv_at hl 0 rfl) ?_
          refine va_get (D := (g.1, g.2.1)) (ci := 13) (v := .int (nI fo1)) (C := RX11) (T := TX11) (N := 30) hx hb hts iX11 hown hK.1 hP 0 (gM0 g (sA (sA (sF (sF σ 10 rl1) 11 fo1) 6 ot1) 10 lf1) tl) rfl 24 (by decide) k86 (fun _ h9 => h9) rfl dX11_arranges_64 ?_
          refine jn_zne hx hb (by omega) (tgt := 136) dX11_arranges_67 (by decide) (fun c_67 => ?_) (fun c_67 => ?_)
          · refine lv_lload_n hx hb dX11_arranges_136 rfl (lv_at hl 3 rfl) ?_
            exact hq _ _ _ _ ((lN z)) (z, rl1, fo1, ot1, lf1) dX11_arranges_137 ⟨rfl, by first | exact ari_end i2 eK (Or.inl (by omega)) | exact ari_end i2 eK (Or.inr c_67), i3, i4, i5⟩ hP hD hS
          · refine lv_aload_n hx hb dX11_arranges_70 rfl (lv_at hl 0 rfl) ?_
            refine va_get (D := (g.1, g.2.1)) (ci := 13) (v := .ref (g.2.2.2 13)) (C := RX11) (T := TX11) (N := 30) hx hb hts iX11 hown hK.1 hP 0 (gM0 g (sA (sA (sF (sF σ 10 rl1) 11 fo1) 6 ot1) 10 lf1) tl) rfl 22 (by decide) k79 (fun _ h9 => h9) rfl dX11_arranges_71 ?_
            refine lv_iload hx hb dX11_arranges_74 (lv_at hl 4 rfl) ?_
            refine jn_iald (f := lf1) hx hb hK.1 hP 13 0 (gM13 g (sA (sA (sF (sF σ 10 rl1) 11 fo1) 6 ot1) 10 lf1) tl) rfl (by omega) (Nat.le_of_ble_eq_true rfl) dX11_arranges_76 ?_
            have hll := hl0 x0 (by omega)
            have hl1 := i4 x0 (by omega)
            refine jn_zne hx hb (by omega) (tgt := 83) dX11_arranges_77 (by decide) (fun c_77 => ?_) (fun c_77 => ?_)
            · refine lv_aload_n hx hb dX11_arranges_83 rfl (lv_at hl 0 rfl) ?_
              refine va_get (D := (g.1, g.2.1)) (ci := 13) (v := .ref (g.2.2.2 13)) (C := RX11) (T := TX11) (N := 30) hx hb hts iX11 hown hK.1 hP 0 (gM0 g (sA (sA (sF (sF σ 10 rl1) 11 fo1) 6 ot1) 10 lf1) tl) rfl 22 (by decide) k79 (fun _ h9 => h9) rfl dX11_arranges_84 ?_
              refine lv_iload hx hb dX11_arranges_87 (lv_at hl 4 rfl) ?_
              refine lv_dup2_11 hx hb dX11_arranges_89 rfl rfl ?_
              refine jn_iald (f := lf1) hx hb hK.1 hP 13 0 (gM13 g (sA (sA (sF (sF σ 10 rl1) 11 fo1) 6 ot1) 10 lf1) tl) rfl (by omega) (Nat.le_of_ble_eq_true rfl) dX11_arranges_90 ?_
              refine lv_iconst (v := nI 1) hx hb dX11_arranges_91 (by decide) ?_
              refine jn_isub hx hb (by omega) dX11_arranges_92 ?_
              refine jn_iast (f := lf1) hx hb hK.1 hP hD hS 13 0 (gM13 g (sA (sA (sF (sF σ 10 rl1) 11 fo1) 6 ot1) 10 lf1) tl) rfl (by omega) (Nat.le_of_ble_eq_true rfl) (uM_A10 g (sA (sA (sF (sF σ 10 rl1) 11 fo1) 6 ot1) 10 lf1) tl _) dX11_arranges_93 (fun H locs hP hD hS => ?_)
              refine lv_aload_n hx hb dX11_arranges_94 rfl (lv_at hl 0 rfl) ?_
              refine va_get (D := (g.1, g.2.1)) (ci := 13) (v := .ref (g.2.2.2 7)) (C := RX11) (T := TX11) (N := 30) hx hb hts iX11 hown hK.1 hP 0 (gM0 g (sA (sA (sA (sF (sF σ 10 rl1) 11 fo1) 6 ot1) 10 lf1) 10 (va_up lf1 x0 ((lf1 x0) - 1))) tl) rfl 12 (by decide) k48 (fun _ h9 => h9) rfl dX11_arranges_95 ?_
              refine lv_iload_n hx hb dX11_arranges_98 rfl (lv_at hl 1 rfl) ?_
              refine lv_iload hx hb dX11_arranges_99 (lv_at hl 4 rfl) ?_
              refine jn_iast (f := ot1) hx hb hK.1 hP hD hS 7 0 (gM7 g (sA (sA (sA (sF (sF σ 10 rl1) 11 fo1) 6 ot1) 10 lf1) 10 (va_up lf1 x0 ((lf1 x0) - 1))) tl) rfl (by decide) (Nat.le_of_ble_eq_true rfl) (uM_A6 g (sA (sA (sA (sF (sF σ 10 rl1) 11 fo1) 6 ot1) 10 lf1) 10 (va_up lf1 x0 ((lf1 x0) - 1))) tl _) dX11_arranges_101 (fun H locs hP hD hS => ?_)
              refine lv_lload_n hx hb dX11_arranges_102 rfl (lv_at hl 3 rfl) ?_
              refine lv_aload_n hx hb dX11_arranges_103 rfl (lv_at hl 0 rfl) ?_
              refine lv_iload_n hx hb dX11_arranges_104 rfl (lv_at hl 1 rfl) ?_
              refine lv_iconst (v := nI 1) hx hb dX11_arranges_105 (by decide) ?_
              refine jn_iadd hx hb dX11_arranges_106 ?_
              refine lv_aload_n hx hb dX11_arranges_107 rfl (lv_at hl 0 rfl) ?_
              refine lv_iload_n hx hb dX11_arranges_108 rfl (lv_at hl 2 rfl) ?_
              refine lv_iload hx hb dX11_arranges_109 (lv_at hl 4 rfl) ?_
              refine vp_callSi (va_Run.run (va_runV (As := [.int (nI st), .int (nI x0)]) (rest := [.int (nI (3 + 1)), .ref (g.2.2.2 0), .long (lN z)]) ⟨hx, hb, hml, hown, hts⟩ (c_X11_after l g tl (sA (sA (sA (sA (sF (sF σ 10 rl1) 11 fo1) 6 ot1) 10 lf1) 10 (va_up lf1 x0 ((lf1 x0) - 1))) 6 (va_up ot1 3 x0)) st x0 (by omega) (by omega)) (cwV 2 hts gX11_arranges_X11_after rfl rfl rfl (by decide +kernel) ⟨Nat.le_of_ble_eq_true rfl, Nat.le_of_ble_eq_true rfl⟩) (okPV hK hP rfl (gM0 g (sA (sA (sA (sA (sF (sF σ 10 rl1) 11 fo1) 6 ot1) 10 lf1) 10 (va_up lf1 x0 ((lf1 x0) - 1))) 6 (va_up ot1 3 x0)) tl)) rfl rfl hl.1 rfl (lv_room (Nat.le_of_ble_eq_true rfl)) dX11_arranges_111 ⟨Nat.le_of_ble_eq_true rfl, Nat.le_of_ble_eq_true rfl⟩)) (fun r_111 h_111 => ?_)
              have h_111 : r_111 = (nI (stp (σ.2.1 0) x0 st)) := h_111
              subst h_111
              refine jn_calll (va_runV (As := [.int (nI (3 + 1)), .int (nI (stp (σ.2.1 0) x0 st))]) (rest := [.long (lN z)]) ⟨hx, hb, hml, hown, hts⟩ (c_X11_arranges_d4 l g tl H.size (sA (sA (sA (sA (sF (sF σ 10 rl1) 11 fo1) 6 ot1) 10 lf1) 10 (va_up lf1 x0 ((lf1 x0) - 1))) 6 (va_up ot1 3 x0)) (stp (σ.2.1 0) x0 st) hT hF hn (show 4 ≤ (σ.1 6) by omega) (stp_lt hT (by omega)) (show fo1 = 0 by omega) i5 (by show va_up lf1 x0 (lf1 x0 - 1) 0 + va_up lf1 x0 (lf1 x0 - 1) 1 + va_up lf1 x0 (lf1 x0 - 1) 2 = ((σ.1 6) - 4); rw [ar_sum lf1 x0 (by omega) (by omega), i4 0 (by decide), i4 1 (by decide), i4 2 (by decide), hlf]; omega)) (cwV 2 hts gX11_arranges_X11_arranges rfl rfl rfl (by decide +kernel) ⟨Nat.le_of_ble_eq_true rfl, Nat.le_of_ble_eq_true rfl⟩) (okWV hK hP hD rfl (gM0 g (sA (sA (sA (sA (sF (sF σ 10 rl1) 11 fo1) 6 ot1) 10 lf1) 10 (va_up lf1 x0 ((lf1 x0) - 1))) 6 (va_up ot1 3 x0)) tl)) rfl rfl hl.1 rfl (lv_room (Nat.le_of_ble_eq_true rfl)) dX11_arranges_114 ⟨Nat.le_of_ble_eq_true rfl, Nat.le_of_ble_eq_true rfl⟩) hD hS hAA (fun r_114 u H locs hw_ hP hD hS => ?_)
              obtain ⟨r0_114, rl_114, fo_114, ot_114, lf_114⟩ := u
              obtain ⟨rfl, h_114⟩ := hw_
              have h_114 : (((rl1) < arrN (σ.2.1 0) ((σ.2.1 0) 15) ((σ.1 6) - 4) ((va_up lf1 x0 ((lf1 x0) - 1))) (stp (σ.2.1 0) x0 st) ∧ fo_114 = 1 ∧ isArr (σ.2.1 0) ((σ.2.1 0) 15) ((σ.1 6) - 4) ((va_up lf1 x0 ((lf1 x0) - 1))) (stp (σ.2.1 0) x0 st) (rl1) (fun i => ot_114 (4 + i))) ∨ (¬ (rl1) < arrN (σ.2.1 0) ((σ.2.1 0) 15) ((σ.1 6) - 4) ((va_up lf1 x0 ((lf1 x0) - 1))) (stp (σ.2.1 0) x0 st) ∧ fo_114 = 0 ∧ rl_114 = (rl1) - arrN (σ.2.1 0) ((σ.2.1 0) 15) ((σ.1 6) - 4) ((va_up lf1 x0 ((lf1 x0) - 1))) (stp (σ.2.1 0) x0 st) ∧ r0_114 = arrN (σ.2.1 0) ((σ.2.1 0) 15) ((σ.1 6) - 4) ((va_up lf1 x0 ((lf1 x0) - 1))) (stp (σ.2.1 0) x0 st))) ∧ (∀ i, i < 4 → ot_114 i = ((va_up ot1 3 x0)) i) ∧ (∀ x, x < 3 → lf_114 x = ((va_up lf1 x0 ((lf1 x0) - 1))) x) ∧ (rl_114 < 18446744073709551616) := h_114
              have hP : va_P (g.1, g.2.1) vwCl (wM g (sA (sA (sF (sF (sA (sA (sA (sA (sF (sF σ 10 rl1) 11 fo1) 6 ot1) 10 lf1) 10 (va_up lf1 x0 ((lf1 x0) - 1))) 6 (va_up ot1 3 x0)) 10 rl_114) 11 fo_114) 6 ot_114) 10 lf_114) ++ tl) H := hP
              have hD : va_D A (wM g (sA (sA (sF (sF (sA (sA (sA (sA (sF (sF σ 10 rl1) 11 fo1) 6 ot1) 10 lf1) 10 (va_up lf1 x0 ((lf1 x0) - 1))) 6 (va_up ot1 3 x0)) 10 rl_114) 11 fo_114) 6 ot_114) 10 lf_114) ++ tl) := hD
              refine jn_ladd hx hb dX11_arranges_117 ?_
              refine lv_lstore_n (lv' := [(3, .long (lN (z + r0_114))), (0, .ref (g.2.2.2 0)), (1, .int (nI 3)), (2, .int (nI st)), (5, .int (nI x0))]) hx hb dX11_arranges_118 rfl hl (by decide) rfl (fun ls hl => ?_)
              refine lv_aload_n hx hb dX11_arranges_119 rfl (lv_at hl 1 rfl) ?_
              refine va_get (D := (g.1, g.2.1)) (ci := 13) (v := .ref (g.2.2.2 13)) (C := RX11) (T := TX11) (N := 30) hx hb hts iX11 hown hK.1 hP 0 (gM0 g (sA (sA (sF (sF (sA (sA (sA (sA (sF (sF σ 10 rl1) 11 fo1) 6 ot1) 10 lf1) 10 (va_up lf1 x0 ((lf1 x0) - 1))) 6 (va_up ot1 3 x0)) 10 rl_114) 11 fo_114) 6 ot_114) 10 lf_114) tl) rfl 22 (by decide) k79 (fun _ h9 => h9) rfl dX11_arranges_120 ?_
              refine lv_iload hx hb dX11_arranges_123 (lv_at hl 4 rfl) ?_
              refine lv_dup2_11 hx hb dX11_arranges_125 rfl rfl ?_
              refine jn_iald (f := lf_114) hx hb hK.1 hP 13 0 (gM13 g (sA (sA (sF (sF (sA (sA (sA (sA (sF (sF σ 10 rl1) 11 fo1) 6 ot1) 10 lf1) 10 (va_up lf1 x0 ((lf1 x0) - 1))) 6 (va_up ot1 3 x0)) 10 rl_114) 11 fo_114) 6 ot_114) 10 lf_114) tl) rfl (by omega) (Nat.le_of_ble_eq_true rfl) dX11_arranges_126 ?_
              refine lv_iconst (v := nI 1) hx hb dX11_arranges_127 (by decide) ?_
              refine jn_iadd hx hb dX11_arranges_128 ?_
              refine jn_iast (f := lf_114) hx hb hK.1 hP hD hS 13 0 (gM13 g (sA (sA (sF (sF (sA (sA (sA (sA (sF (sF σ 10 rl1) 11 fo1) 6 ot1) 10 lf1) 10 (va_up lf1 x0 ((lf1 x0) - 1))) 6 (va_up ot1 3 x0)) 10 rl_114) 11 fo_114) 6 ot_114) 10 lf_114) tl) rfl (by omega) (Nat.le_of_ble_eq_true rfl) (uM_A10 g (sA (sA (sF (sF (sA (sA (sA (sA (sF (sF σ 10 rl1) 11 fo1) 6 ot1) 10 lf1) 10 (va_up lf1 x0 ((lf1 x0) - 1))) 6 (va_up ot1 3 x0)) 10 rl_114) 11 fo_114) 6 ot_114) 10 lf_114) tl _) dX11_arranges_129 (fun H locs hP hD hS => ?_)
              refine lv_iinc (v := nI (x0 + 1)) (lv' := [(5, .int (nI (x0 + 1))), (3, .long (lN (z + r0_114))), (0, .ref (g.2.2.2 0)), (1, .int (nI 3)), (2, .int (nI st))]) hx hb dX11_arranges_130 hl (k := 4) rfl (jn_ii _ 1) (by decide) rfl (fun ls hl => ?_)
              refine lv_goto (tgt := 57) hx hb dX11_arranges_133 (by decide) ?_
              exact ih57 (x0 + 1) (z + r0_114) rl_114 fo_114 ot_114 (va_up lf_114 x0 ((lf_114 x0) + 1)) (by omega) (by first | exact ari_no i2 (by omega) (by rw [← i4 _ (by omega)]; exact c_77) | exact ari_call i2 (by omega) (by omega) c_77 i4 (by rw [h_114.2.1 _ (by omega), va_up, if_pos rfl]) h_114.1) (by first | exact i3 | exact (fun i hi => by rw [h_114.2.1 i (by omega), va_up, if_neg (by omega)]; exact i3 i hi)) (by first | exact i4 | exact ar_lf i4 h_114.2.2.1 ⟨by omega, by omega⟩) (by first | exact i5 | exact h_114.2.2.2) (by omega) _ _ hP hD hS _ (lv_sub hl [2, 3, 4, 1, 0] rfl)
            · refine lv_goto (tgt := 130) hx hb dX11_arranges_80 (by decide) ?_
              refine lv_iinc (v := nI (x0 + 1)) (lv' := [(5, .int (nI (x0 + 1))), (0, .ref (g.2.2.2 0)), (1, .int (nI 3)), (2, .int (nI st)), (3, .long (lN z))]) hx hb dX11_arranges_130 hl (k := 4) rfl (jn_ii _ 1) (by decide) rfl (fun ls hl => ?_)
              refine lv_goto (tgt := 57) hx hb dX11_arranges_133 (by decide) ?_
              exact ih57 (x0 + 1) z rl1 fo1 ot1 lf1 (by omega) (by first | exact ari_no i2 (by omega) (by rw [← i4 _ (by omega)]; exact c_77) | exact ari_call i2 (by omega) (by omega) c_77 i4 (by rw [h_114.2.1 _ (by omega), va_up, if_pos rfl]) h_114.1) (by first | exact i3 | exact (fun i hi => by rw [h_114.2.1 i (by omega), va_up, if_neg (by omega)]; exact i3 i hi)) (by first | exact i4 | exact ar_lf i4 h_114.2.2.1 ⟨by omega, by omega⟩) (by first | exact i5 | exact h_114.2.2.2) (by omega) _ _ hP hD hS _ (lv_sub hl [1, 2, 3, 4, 0] rfl)
    exact lp57 _ 0 0 (σ.1 10) (σ.1 11) (σ.2.1 6) (σ.2.1 10) (by decide) (by rw [hfo]; exact ari_0) (fun _ _ => rfl) (fun _ _ => rfl) hrk (Nat.lt_succ_self _) _ _ hP hD hS _ (lv_sub hl [2, 3, 4, 1, 0] rfl)
  · have e0 : ((σ.1 6) - 3) = 0 := by omega
    refine lv_iload_n hx hb dX11_arranges_8 rfl (lv_at hl 2 rfl) ?_
    refine lv_aload_n hx hb dX11_arranges_9 rfl (lv_at hl 0 rfl) ?_
    refine va_get (D := (g.1, g.2.1)) (ci := 13) (v := .ref (g.2.2.2 1)) (C := RX11) (T := TX11) (N := 30) hx hb hts iX11 hown hK.1 hP 0 (gM0 g σ tl) rfl 1 (by decide) k13 (fun _ h9 => h9) rfl dX11_arranges_10 ?_
    refine lv_bipush (v := nI 15) hx hb dX11_arranges_13 (by decide) ?_
    refine jn_iald (f := σ.2.1 0) hx hb hK.1 hP 1 0 (gM1 g σ tl) rfl (by decide) (Nat.le_of_ble_eq_true rfl) dX11_arranges_15 ?_
    refine jn_iand hx hb dX11_arranges_16 ?_
    refine jn_zne hx hb (and_lt (by omega)) (tgt := 22) dX11_arranges_17 (by decide) (fun c_17 => ?_) (fun c_17 => ?_)
    · refine lv_aload_n hx hb dX11_arranges_22 rfl (lv_at hl 0 rfl) ?_
      refine lv_aload_n hx hb dX11_arranges_23 rfl (lv_at hl 0 rfl) ?_
      refine va_get (D := (g.1, g.2.1)) (ci := 13) (v := .long (lN (σ.1 10))) (C := RX11) (T := TX11) (N := 30) hx hb hts iX11 hown hK.1 hP 0 (gM0 g σ tl) rfl 23 (by decide) k82 (fun _ h9 => h9) rfl dX11_arranges_24 ?_
      refine lv_lconst (v := lN 0) hx hb dX11_arranges_27 (by decide) ?_
      refine jn_lcmp hx hb dX11_arranges_28 ?_
      have jp37 : ∀ v37 : Nat, v37 = (if (σ.1 10) = 0 then 1 else 0) → W p l e r_c_X11_arranges_d3 s m ([.ref (g.2.2.2 0), .int (nI 3), .int (nI st)] : List Value).toArray below meth c H locs 0 0 Q (F0 m 37 ls [.int (nI v37), .ref (g.2.2.2 0)]) := by
        intro v37 ev37
        refine jn_put (D := (g.1, g.2.1)) (ci := 13) (v := .int (nI v37)) (ty := .boolean) (C := RX11) (T := TX11) (N := 30) hx hb hts iX11 tyX11 tyX11_ok nmX11 hown hK.1 hP hD hS 0 (gM0 g σ tl) rfl 24 (by decide) k86 (fun _ h9 => h9) rfl (by decide +kernel) (by rw [ev37]; exact jn_nb _) (by rw [ev37]; exact jn_fb _) (Nat.le_of_ble_eq_true rfl) (uM_F11 g σ tl v37) dX11_arranges_37 (fun H locs hP hD hS => ?_)
        refine lv_aload_n hx hb dX11_arranges_40 rfl (lv_at hl 0 rfl) ?_
        refine lv_dup hx hb dX11_arranges_41 rfl ?_
        refine va_get (D := (g.1, g.2.1)) (ci := 13) (v := .long (lN (σ.1 10))) (C := RX11) (T := TX11) (N := 30) hx hb hts iX11 hown hK.1 hP 0 (gM0 g (sF σ 11 v37) tl) rfl 23 (by decide) k82 (fun _ h9 => h9) rfl dX11_arranges_42 ?_
        refine lv_lconst (v := lN 1) hx hb dX11_arranges_45 (by decide) ?_
        refine jn_lsub1 hx hb dX11_arranges_46 ?_
        refine jn_put (D := (g.1, g.2.1)) (ci := 13) (v := .long (lN (slb (σ.1 10)))) (ty := .long) (C := RX11) (T := TX11) (N := 30) hx hb hts iX11 tyX11 tyX11_ok nmX11 hown hK.1 hP hD hS 0 (gM0 g (sF σ 11 v37) tl) rfl 23 (by decide) k82 (fun _ h9 => h9) rfl (by decide +kernel) rfl rfl (Nat.le_of_ble_eq_true rfl) (uM_F10 g (sF σ 11 v37) tl (slb (σ.1 10))) dX11_arranges_47 (fun H locs hP hD hS => ?_)
        refine lv_lconst (v := lN 1) hx hb dX11_arranges_50 (by decide) ?_
        exact hq _ _ _ _ ((lN 1)) (1, (slb (σ.1 10)), v37, (σ.2.1 6), (σ.2.1 10)) dX11_arranges_51 ⟨rfl, by rw [e0, arrN, if_pos c_17]; by_cases q : (σ.1 10) = 0; { exact Or.inl ⟨by omega, by rw [ev37, if_pos q], trivial⟩ }; { exact Or.inr ⟨by omega, by rw [ev37, if_neg q], by unfold slb; rw [if_neg q], rfl⟩ }, fun _ _ => rfl, fun _ _ => rfl, slb_lt hrk⟩ hP hD hS
      refine jn_lneU hx hb hrk (by decide) (tgt := 36) dX11_arranges_29 (by decide) (fun c_29 => ?_) (fun c_29 => ?_)
      · refine lv_iconst (v := nI 0) hx hb dX11_arranges_36 (by decide) ?_
        exact jp37 0 (by rw [if_neg c_29])
      · refine lv_iconst (v := nI 1) hx hb dX11_arranges_32 (by decide) ?_
        refine lv_goto (tgt := 37) hx hb dX11_arranges_33 (by decide) ?_
        exact jp37 1 (by rw [if_pos c_29])
    · refine lv_lconst (v := lN 0) hx hb dX11_arranges_20 (by decide) ?_
      exact hq _ _ _ _ ((lN 0)) (0, (σ.1 10), (σ.1 11), (σ.2.1 6), (σ.2.1 10)) dX11_arranges_21 ⟨rfl, Or.inr (by rw [e0, arrN, if_neg (fun q => q c_17)]; exact ⟨by omega, hfo, rfl, rfl⟩), fun _ _ => rfl, fun _ _ => rfl, hrk⟩ hP hD hS

abbrev r_c_X11_arranges_d2 : Room := { frames := 7, cells := 0, slots := 0, locals := 171 }
set_option maxHeartbeats 4000000 in
set_option maxRecDepth 100000 in
theorem c_X11_arranges_d2 (l : Launch) (g : GC) (tl : va_W) (sz : Nat) (σ : SS) (st : Nat) (hT : OkT (σ.2.1 0)) (hF : ((σ.2.1 0) 15) < 32) (hn : (σ.1 6) ≤ 8) (hd : 2 ≤ (σ.1 6)) (hst : st < 32) (hfo : (σ.1 11) = 0) (hrk : (σ.1 10) < 18446744073709551616) (hlf : (σ.2.1 10) 0 + (σ.2.1 10) 1 + (σ.2.1 10) 2 = ((σ.1 6) - 2)) : Met l yX11_arranges wsX11_arranges r_c_X11_arranges_d2 (va_Pc [.ref (g.2.2.2 0), .int (nI 2), .int (nI st)] (PW g (wM g σ ++ tl) sz)) (va_Ql (fun (r : Int64) (z : Nat × Nat × Nat × (Nat → Nat) × (Nat → Nat)) => match z with | (r0, rl, fo, ot, lf) => (r = lN (r0)) ∧ (((σ.1 10) < arrN (σ.2.1 0) ((σ.2.1 0) 15) ((σ.1 6) - 2) (σ.2.1 10) st ∧ fo = 1 ∧ isArr (σ.2.1 0) ((σ.2.1 0) 15) ((σ.1 6) - 2) (σ.2.1 10) st (σ.1 10) (fun i => ot (2 + i))) ∨ (¬ (σ.1 10) < arrN (σ.2.1 0) ((σ.2.1 0) 15) ((σ.1 6) - 2) (σ.2.1 10) st ∧ fo = 0 ∧ rl = (σ.1 10) - arrN (σ.2.1 0) ((σ.2.1 0) 15) ((σ.1 6) - 2) (σ.2.1 10) st ∧ r0 = arrN (σ.2.1 0) ((σ.2.1 0) 15) ((σ.1 6) - 2) (σ.2.1 10) st)) ∧ (∀ i, i < 2 → ot i = (σ.2.1 6) i) ∧ (∀ x, x < 3 → lf x = (σ.2.1 10) x) ∧ (rl < 18446744073709551616)) (fun (z : Nat × Nat × Nat × (Nat → Nat) × (Nat → Nat)) t => BW g (va_A (wM g σ ++ tl) sz) ((fun z : Nat × Nat × Nat × (Nat → Nat) × (Nat → Nat) => match z with | (r0, rl, fo, ot, lf) => wM g (sA (sA (sF (sF σ 10 rl) 11 fo) 6 ot) 10 lf) ++ tl) z) t) (va_A (wM g σ ++ tl) sz)) 0 0 (va_A (wM g σ ++ tl) sz) := by
  refine jn_sl (wf := fun z : Nat × Nat × Nat × (Nat → Nat) × (Nat → Nat) => match z with | (r0, rl, fo, ot, lf) => wM g (sA (sA (sF (sF σ 10 rl) 11 fo) 6 ot) 10 lf) ++ tl) (cc := cX11_arranges) (maxL := 6) (own := RX11) (by decide) rfl rfl (Nat.le_of_ble_eq_true rfl) ?_
  intro p e s m below meth c Q A hx hb hml hown hts hK hP hD hS hAA hq ls hl
  obtain ⟨H, eH⟩ : ∃ z, z = s.heap := ⟨_, rfl⟩
  obtain ⟨locs, el⟩ : ∃ z : List Loc, z = [] := ⟨_, rfl⟩
  rw [← eH] at hP
  have hS : va_S A s.heap H locs := by rw [eH, el]; exact hS
  have goal0 : W p l e r_c_X11_arranges_d2 s m ([.ref (g.2.2.2 0), .int (nI 2), .int (nI st)] : List Value).toArray below meth c H locs 0 0 Q (F0 m 0 ls []) → W p l e r_c_X11_arranges_d2 s m ([.ref (g.2.2.2 0), .int (nI 2), .int (nI st)] : List Value).toArray below meth c s.heap [] 0 0 Q (F0 m 0 ls []) := fun h => by rw [eH, el] at h; exact h
  refine goal0 ?_
  have hl : lv_has ls 6 [(0, .ref (g.2.2.2 0)), (1, .int (nI 2)), (2, .int (nI st))] := hl
  have iX11 : ∀ w ∈ wsX110, w ∈ wsX11_arranges := by decide +kernel
  have k51 := hts (.fieldLink RX11 51 "JumpingAutomataModel" "length" "I") (by decide +kernel)
  have k86 := hts (.fieldLink RX11 86 "JumpingAutomataModel" "isFound" "Z") (by decide +kernel)
  have k79 := hts (.fieldLink RX11 79 "JumpingAutomataModel" "left" "[I") (by decide +kernel)
  have k48 := hts (.fieldLink RX11 48 "JumpingAutomataModel" "other" "[I") (by decide +kernel)
  have k13 := hts (.fieldLink RX11 13 "JumpingAutomataModel" "now" "[I") (by decide +kernel)
  have k82 := hts (.fieldLink RX11 82 "JumpingAutomataModel" "rankLeft" "J") (by decide +kernel)
  have hl0 := ar_le3 (σ.2.1 10)
  refine lv_iload_n hx hb dX11_arranges_0 rfl (lv_at hl 1 rfl) ?_
  refine lv_aload_n hx hb dX11_arranges_1 rfl (lv_at hl 0 rfl) ?_
  refine va_get (D := (g.1, g.2.1)) (ci := 13) (v := .int (nI (σ.1 6))) (C := RX11) (T := TX11) (N := 30) hx hb hts iX11 hown hK.1 hP 0 (gM0 g σ tl) rfl 13 (by decide) k51 (fun _ h9 => h9) rfl dX11_arranges_2 ?_
  refine jn_cne hx hb (by decide) (by omega) (tgt := 52) dX11_arranges_5 (by decide) (fun c_5 => ?_) (fun c_5 => ?_)
  · refine lv_lconst (v := lN 0) hx hb dX11_arranges_52 (by decide) ?_
    refine lv_lstore_n (lv' := [(3, .long (lN 0)), (0, .ref (g.2.2.2 0)), (1, .int (nI 2)), (2, .int (nI st))]) hx hb dX11_arranges_53 rfl hl (by decide) rfl (fun ls hl => ?_)
    refine lv_iconst (v := nI 0) hx hb dX11_arranges_54 (by decide) ?_
    refine lv_istore (lv' := [(5, .int (nI 0)), (3, .long (lN 0)), (0, .ref (g.2.2.2 0)), (1, .int (nI 2)), (2, .int (nI st))]) hx hb dX11_arranges_55 hl (by decide) rfl (fun ls hl => ?_)
    have lp57 : ∀ (fu : Nat), ∀ (x0 : Nat) (z : Nat) (rl1 : Nat) (fo1 : Nat) (ot1 : Nat → Nat) (lf1 : Nat → Nat), (x0 ≤ 3) → (ArI (σ.2.1 0) ((σ.2.1 0) 15) ((σ.1 6) - 3) (σ.2.1 10) st (σ.1 10) x0 rl1 z fo1 2 ot1) → (∀ i, i < 2 → ot1 i = (σ.2.1 6) i) → (∀ x, x < 3 → lf1 x = (σ.2.1 10) x) → (rl1 < 18446744073709551616) → 3 - x0 < fu → ∀ (H : Heap) (locs : List Loc), va_P (g.1, g.2.1) vwCl (wM g (sA (sA (sF (sF σ 10 rl1) 11 fo1) 6 ot1) 10 lf1) ++ tl) H → va_D A (wM g (sA (sA (sF (sF σ 10 rl1) 11 fo1) 6 ot1) 10 lf1) ++ tl) → va_S A s.heap H locs → ∀ ls : Array Slot, lv_has ls 6 [(0, .ref (g.2.2.2 0)), (1, .int (nI 2)), (2, .int (nI st)), (3, .long (lN z)), (5, .int (nI x0))] → W p l e r_c_X11_arranges_d2 s m ([.ref (g.2.2.2 0), .int (nI 2), .int (nI st)] : List Value).toArray below meth c H locs 0 0 Q (F0 m 57 ls []) := by
      intro fu
      induction fu with
      | zero => intro x0 z rl1 fo1 ot1 lf1 i1 i2 i3 i4 i5 hf; exact absurd hf (Nat.not_lt_zero _)
      | succ fu ih57 =>
        intro x0 z rl1 fo1 ot1 lf1 i1 i2 i3 i4 i5 hf H locs hP hD hS ls hl
        have eK : ((σ.1 6) - 2) = ((σ.1 6) - 3) + 1 := by omega
        have hfo1 : fo1 = 0 ∨ fo1 = 1 := i2.imp (fun z => z.1) (fun z => z.1)
        refine lv_iload hx hb dX11_arranges_57 (lv_at hl 4 rfl) ?_
        refine lv_iconst (v := nI 3) hx hb dX11_arranges_59 (by decide) ?_
        refine jn_cge hx hb (by omega) (by decide) (tgt := 136) dX11_arranges_60 (by decide) (fun c_60 => ?_) (fun c_60 => ?_)
        · refine lv_lload_n hx hb dX11_arranges_136 rfl (lv_at hl 3 rfl) ?_
          exact hq _ _ _ _ ((lN z)) (z, rl1, fo1, ot1, lf1) dX11_arranges_137 ⟨rfl, by first | exact ari_end i2 eK (Or.inl (by omega)) | exact ari_end i2 eK (Or.inr c_67), i3, i4, i5⟩ hP hD hS
        · refine lv_aload_n hx hb dX11_arranges_63 rfl (lv_at hl 0 rfl) ?_
          refine va_get (D := (g.1, g.2.1)) (ci := 13) (v := .int (nI fo1)) (C := RX11) (T := TX11) (N := 30) hx hb hts iX11 hown hK.1 hP 0 (gM0 g (sA (sA (sF (sF σ 10 rl1) 11 fo1) 6 ot1) 10 lf1) tl) rfl 24 (by decide) k86 (fun _ h9 => h9) rfl dX11_arranges_64 ?_
          refine jn_zne hx hb (by omega) (tgt := 136) dX11_arranges_67 (by decide) (fun c_67 => ?_) (fun c_67 => ?_)
          · refine lv_lload_n hx hb dX11_arranges_136 rfl (lv_at hl 3 rfl) ?_
            exact hq _ _ _ _ ((lN z)) (z, rl1, fo1, ot1, lf1) dX11_arranges_137 ⟨rfl, by first | exact ari_end i2 eK (Or.inl (by omega)) | exact ari_end i2 eK (Or.inr c_67), i3, i4, i5⟩ hP hD hS
          · refine lv_aload_n hx hb dX11_arranges_70 rfl (lv_at hl 0 rfl) ?_
            refine va_get (D := (g.1, g.2.1)) (ci := 13) (v := .ref (g.2.2.2 13)) (C := RX11) (T := TX11) (N := 30) hx hb hts iX11 hown hK.1 hP 0 (gM0 g (sA (sA (sF (sF σ 10 rl1) 11 fo1) 6 ot1) 10 lf1) tl) rfl 22 (by decide) k79 (fun _ h9 => h9) rfl dX11_arranges_71 ?_
            refine lv_iload hx hb dX11_arranges_74 (lv_at hl 4 rfl) ?_
            refine jn_iald (f := lf1) hx hb hK.1 hP 13 0 (gM13 g (sA (sA (sF (sF σ 10 rl1) 11 fo1) 6 ot1) 10 lf1) tl) rfl (by omega) (Nat.le_of_ble_eq_true rfl) dX11_arranges_76 ?_
            have hll := hl0 x0 (by omega)
            have hl1 := i4 x0 (by omega)
            refine jn_zne hx hb (by omega) (tgt := 83) dX11_arranges_77 (by decide) (fun c_77 => ?_) (fun c_77 => ?_)
            · refine lv_aload_n hx hb dX11_arranges_83 rfl (lv_at hl 0 rfl) ?_
              refine va_get (D := (g.1, g.2.1)) (ci := 13) (v := .ref (g.2.2.2 13)) (C := RX11) (T := TX11) (N := 30) hx hb hts iX11 hown hK.1 hP 0 (gM0 g (sA (sA (sF (sF σ 10 rl1) 11 fo1) 6 ot1) 10 lf1) tl) rfl 22 (by decide) k79 (fun _ h9 => h9) rfl dX11_arranges_84 ?_
              refine lv_iload hx hb dX11_arranges_87 (lv_at hl 4 rfl) ?_
              refine lv_dup2_11 hx hb dX11_arranges_89 rfl rfl ?_
              refine jn_iald (f := lf1) hx hb hK.1 hP 13 0 (gM13 g (sA (sA (sF (sF σ 10 rl1) 11 fo1) 6 ot1) 10 lf1) tl) rfl (by omega) (Nat.le_of_ble_eq_true rfl) dX11_arranges_90 ?_
              refine lv_iconst (v := nI 1) hx hb dX11_arranges_91 (by decide) ?_
              refine jn_isub hx hb (by omega) dX11_arranges_92 ?_
              refine jn_iast (f := lf1) hx hb hK.1 hP hD hS 13 0 (gM13 g (sA (sA (sF (sF σ 10 rl1) 11 fo1) 6 ot1) 10 lf1) tl) rfl (by omega) (Nat.le_of_ble_eq_true rfl) (uM_A10 g (sA (sA (sF (sF σ 10 rl1) 11 fo1) 6 ot1) 10 lf1) tl _) dX11_arranges_93 (fun H locs hP hD hS => ?_)
              refine lv_aload_n hx hb dX11_arranges_94 rfl (lv_at hl 0 rfl) ?_
              refine va_get (D := (g.1, g.2.1)) (ci := 13) (v := .ref (g.2.2.2 7)) (C := RX11) (T := TX11) (N := 30) hx hb hts iX11 hown hK.1 hP 0 (gM0 g (sA (sA (sA (sF (sF σ 10 rl1) 11 fo1) 6 ot1) 10 lf1) 10 (va_up lf1 x0 ((lf1 x0) - 1))) tl) rfl 12 (by decide) k48 (fun _ h9 => h9) rfl dX11_arranges_95 ?_
              refine lv_iload_n hx hb dX11_arranges_98 rfl (lv_at hl 1 rfl) ?_
              refine lv_iload hx hb dX11_arranges_99 (lv_at hl 4 rfl) ?_
              refine jn_iast (f := ot1) hx hb hK.1 hP hD hS 7 0 (gM7 g (sA (sA (sA (sF (sF σ 10 rl1) 11 fo1) 6 ot1) 10 lf1) 10 (va_up lf1 x0 ((lf1 x0) - 1))) tl) rfl (by decide) (Nat.le_of_ble_eq_true rfl) (uM_A6 g (sA (sA (sA (sF (sF σ 10 rl1) 11 fo1) 6 ot1) 10 lf1) 10 (va_up lf1 x0 ((lf1 x0) - 1))) tl _) dX11_arranges_101 (fun H locs hP hD hS => ?_)
              refine lv_lload_n hx hb dX11_arranges_102 rfl (lv_at hl 3 rfl) ?_
              refine lv_aload_n hx hb dX11_arranges_103 rfl (lv_at hl 0 rfl) ?_
              refine lv_iload_n hx hb dX11_arranges_104 rfl (lv_at hl 1 rfl) ?_
              refine lv_iconst (v := nI 1) hx hb dX11_arranges_105 (by decide) ?_
              refine jn_iadd hx hb dX11_arranges_106 ?_
              refine lv_aload_n hx hb dX11_arranges_107 rfl (lv_at hl 0 rfl) ?_
              refine lv_iload_n hx hb dX11_arranges_108 rfl (lv_at hl 2 rfl) ?_
              refine lv_iload hx hb dX11_arranges_109 (lv_at hl 4 rfl) ?_
              refine vp_callSi (va_Run.run (va_runV (As := [.int (nI st), .int (nI x0)]) (rest := [.int (nI (2 + 1)), .ref (g.2.2.2 0), .long (lN z)]) ⟨hx, hb, hml, hown, hts⟩ (c_X11_after l g tl (sA (sA (sA (sA (sF (sF σ 10 rl1) 11 fo1) 6 ot1) 10 lf1) 10 (va_up lf1 x0 ((lf1 x0) - 1))) 6 (va_up ot1 2 x0)) st x0 (by omega) (by omega)) (cwV 2 hts gX11_arranges_X11_after rfl rfl rfl (by decide +kernel) ⟨Nat.le_of_ble_eq_true rfl, Nat.le_of_ble_eq_true rfl⟩) (okPV hK hP rfl (gM0 g (sA (sA (sA (sA (sF (sF σ 10 rl1) 11 fo1) 6 ot1) 10 lf1) 10 (va_up lf1 x0 ((lf1 x0) - 1))) 6 (va_up ot1 2 x0)) tl)) rfl rfl hl.1 rfl (lv_room (Nat.le_of_ble_eq_true rfl)) dX11_arranges_111 ⟨Nat.le_of_ble_eq_true rfl, Nat.le_of_ble_eq_true rfl⟩)) (fun r_111 h_111 => ?_)
              have h_111 : r_111 = (nI (stp (σ.2.1 0) x0 st)) := h_111
              subst h_111
              refine jn_calll (va_runV (As := [.int (nI (2 + 1)), .int (nI (stp (σ.2.1 0) x0 st))]) (rest := [.long (lN z)]) ⟨hx, hb, hml, hown, hts⟩ (c_X11_arranges_d3 l g tl H.size (sA (sA (sA (sA (sF (sF σ 10 rl1) 11 fo1) 6 ot1) 10 lf1) 10 (va_up lf1 x0 ((lf1 x0) - 1))) 6 (va_up ot1 2 x0)) (stp (σ.2.1 0) x0 st) hT hF hn (show 3 ≤ (σ.1 6) by omega) (stp_lt hT (by omega)) (show fo1 = 0 by omega) i5 (by show va_up lf1 x0 (lf1 x0 - 1) 0 + va_up lf1 x0 (lf1 x0 - 1) 1 + va_up lf1 x0 (lf1 x0 - 1) 2 = ((σ.1 6) - 3); rw [ar_sum lf1 x0 (by omega) (by omega), i4 0 (by decide), i4 1 (by decide), i4 2 (by decide), hlf]; omega)) (cwV 2 hts gX11_arranges_X11_arranges rfl rfl rfl (by decide +kernel) ⟨Nat.le_of_ble_eq_true rfl, Nat.le_of_ble_eq_true rfl⟩) (okWV hK hP hD rfl (gM0 g (sA (sA (sA (sA (sF (sF σ 10 rl1) 11 fo1) 6 ot1) 10 lf1) 10 (va_up lf1 x0 ((lf1 x0) - 1))) 6 (va_up ot1 2 x0)) tl)) rfl rfl hl.1 rfl (lv_room (Nat.le_of_ble_eq_true rfl)) dX11_arranges_114 ⟨Nat.le_of_ble_eq_true rfl, Nat.le_of_ble_eq_true rfl⟩) hD hS hAA (fun r_114 u H locs hw_ hP hD hS => ?_)
              obtain ⟨r0_114, rl_114, fo_114, ot_114, lf_114⟩ := u
              obtain ⟨rfl, h_114⟩ := hw_
              have h_114 : (((rl1) < arrN (σ.2.1 0) ((σ.2.1 0) 15) ((σ.1 6) - 3) ((va_up lf1 x0 ((lf1 x0) - 1))) (stp (σ.2.1 0) x0 st) ∧ fo_114 = 1 ∧ isArr (σ.2.1 0) ((σ.2.1 0) 15) ((σ.1 6) - 3) ((va_up lf1 x0 ((lf1 x0) - 1))) (stp (σ.2.1 0) x0 st) (rl1) (fun i => ot_114 (3 + i))) ∨ (¬ (rl1) < arrN (σ.2.1 0) ((σ.2.1 0) 15) ((σ.1 6) - 3) ((va_up lf1 x0 ((lf1 x0) - 1))) (stp (σ.2.1 0) x0 st) ∧ fo_114 = 0 ∧ rl_114 = (rl1) - arrN (σ.2.1 0) ((σ.2.1 0) 15) ((σ.1 6) - 3) ((va_up lf1 x0 ((lf1 x0) - 1))) (stp (σ.2.1 0) x0 st) ∧ r0_114 = arrN (σ.2.1 0) ((σ.2.1 0) 15) ((σ.1 6) - 3) ((va_up lf1 x0 ((lf1 x0) - 1))) (stp (σ.2.1 0) x0 st))) ∧ (∀ i, i < 3 → ot_114 i = ((va_up ot1 2 x0)) i) ∧ (∀ x, x < 3 → lf_114 x = ((va_up lf1 x0 ((lf1 x0) - 1))) x) ∧ (rl_114 < 18446744073709551616) := h_114
              have hP : va_P (g.1, g.2.1) vwCl (wM g (sA (sA (sF (sF (sA (sA (sA (sA (sF (sF σ 10 rl1) 11 fo1) 6 ot1) 10 lf1) 10 (va_up lf1 x0 ((lf1 x0) - 1))) 6 (va_up ot1 2 x0)) 10 rl_114) 11 fo_114) 6 ot_114) 10 lf_114) ++ tl) H := hP
              have hD : va_D A (wM g (sA (sA (sF (sF (sA (sA (sA (sA (sF (sF σ 10 rl1) 11 fo1) 6 ot1) 10 lf1) 10 (va_up lf1 x0 ((lf1 x0) - 1))) 6 (va_up ot1 2 x0)) 10 rl_114) 11 fo_114) 6 ot_114) 10 lf_114) ++ tl) := hD
              refine jn_ladd hx hb dX11_arranges_117 ?_
              refine lv_lstore_n (lv' := [(3, .long (lN (z + r0_114))), (0, .ref (g.2.2.2 0)), (1, .int (nI 2)), (2, .int (nI st)), (5, .int (nI x0))]) hx hb dX11_arranges_118 rfl hl (by decide) rfl (fun ls hl => ?_)
              refine lv_aload_n hx hb dX11_arranges_119 rfl (lv_at hl 1 rfl) ?_
              refine va_get (D := (g.1, g.2.1)) (ci := 13) (v := .ref (g.2.2.2 13)) (C := RX11) (T := TX11) (N := 30) hx hb hts iX11 hown hK.1 hP 0 (gM0 g (sA (sA (sF (sF (sA (sA (sA (sA (sF (sF σ 10 rl1) 11 fo1) 6 ot1) 10 lf1) 10 (va_up lf1 x0 ((lf1 x0) - 1))) 6 (va_up ot1 2 x0)) 10 rl_114) 11 fo_114) 6 ot_114) 10 lf_114) tl) rfl 22 (by decide) k79 (fun _ h9 => h9) rfl dX11_arranges_120 ?_
              refine lv_iload hx hb dX11_arranges_123 (lv_at hl 4 rfl) ?_
              refine lv_dup2_11 hx hb dX11_arranges_125 rfl rfl ?_
              refine jn_iald (f := lf_114) hx hb hK.1 hP 13 0 (gM13 g (sA (sA (sF (sF (sA (sA (sA (sA (sF (sF σ 10 rl1) 11 fo1) 6 ot1) 10 lf1) 10 (va_up lf1 x0 ((lf1 x0) - 1))) 6 (va_up ot1 2 x0)) 10 rl_114) 11 fo_114) 6 ot_114) 10 lf_114) tl) rfl (by omega) (Nat.le_of_ble_eq_true rfl) dX11_arranges_126 ?_
              refine lv_iconst (v := nI 1) hx hb dX11_arranges_127 (by decide) ?_
              refine jn_iadd hx hb dX11_arranges_128 ?_
              refine jn_iast (f := lf_114) hx hb hK.1 hP hD hS 13 0 (gM13 g (sA (sA (sF (sF (sA (sA (sA (sA (sF (sF σ 10 rl1) 11 fo1) 6 ot1) 10 lf1) 10 (va_up lf1 x0 ((lf1 x0) - 1))) 6 (va_up ot1 2 x0)) 10 rl_114) 11 fo_114) 6 ot_114) 10 lf_114) tl) rfl (by omega) (Nat.le_of_ble_eq_true rfl) (uM_A10 g (sA (sA (sF (sF (sA (sA (sA (sA (sF (sF σ 10 rl1) 11 fo1) 6 ot1) 10 lf1) 10 (va_up lf1 x0 ((lf1 x0) - 1))) 6 (va_up ot1 2 x0)) 10 rl_114) 11 fo_114) 6 ot_114) 10 lf_114) tl _) dX11_arranges_129 (fun H locs hP hD hS => ?_)
              refine lv_iinc (v := nI (x0 + 1)) (lv' := [(5, .int (nI (x0 + 1))), (3, .long (lN (z + r0_114))), (0, .ref (g.2.2.2 0)), (1, .int (nI 2)), (2, .int (nI st))]) hx hb dX11_arranges_130 hl (k := 4) rfl (jn_ii _ 1) (by decide) rfl (fun ls hl => ?_)
              refine lv_goto (tgt := 57) hx hb dX11_arranges_133 (by decide) ?_
              exact ih57 (x0 + 1) (z + r0_114) rl_114 fo_114 ot_114 (va_up lf_114 x0 ((lf_114 x0) + 1)) (by omega) (by first | exact ari_no i2 (by omega) (by rw [← i4 _ (by omega)]; exact c_77) | exact ari_call i2 (by omega) (by omega) c_77 i4 (by rw [h_114.2.1 _ (by omega), va_up, if_pos rfl]) h_114.1) (by first | exact i3 | exact (fun i hi => by rw [h_114.2.1 i (by omega), va_up, if_neg (by omega)]; exact i3 i hi)) (by first | exact i4 | exact ar_lf i4 h_114.2.2.1 ⟨by omega, by omega⟩) (by first | exact i5 | exact h_114.2.2.2) (by omega) _ _ hP hD hS _ (lv_sub hl [2, 3, 4, 1, 0] rfl)
            · refine lv_goto (tgt := 130) hx hb dX11_arranges_80 (by decide) ?_
              refine lv_iinc (v := nI (x0 + 1)) (lv' := [(5, .int (nI (x0 + 1))), (0, .ref (g.2.2.2 0)), (1, .int (nI 2)), (2, .int (nI st)), (3, .long (lN z))]) hx hb dX11_arranges_130 hl (k := 4) rfl (jn_ii _ 1) (by decide) rfl (fun ls hl => ?_)
              refine lv_goto (tgt := 57) hx hb dX11_arranges_133 (by decide) ?_
              exact ih57 (x0 + 1) z rl1 fo1 ot1 lf1 (by omega) (by first | exact ari_no i2 (by omega) (by rw [← i4 _ (by omega)]; exact c_77) | exact ari_call i2 (by omega) (by omega) c_77 i4 (by rw [h_114.2.1 _ (by omega), va_up, if_pos rfl]) h_114.1) (by first | exact i3 | exact (fun i hi => by rw [h_114.2.1 i (by omega), va_up, if_neg (by omega)]; exact i3 i hi)) (by first | exact i4 | exact ar_lf i4 h_114.2.2.1 ⟨by omega, by omega⟩) (by first | exact i5 | exact h_114.2.2.2) (by omega) _ _ hP hD hS _ (lv_sub hl [1, 2, 3, 4, 0] rfl)
    exact lp57 _ 0 0 (σ.1 10) (σ.1 11) (σ.2.1 6) (σ.2.1 10) (by decide) (by rw [hfo]; exact ari_0) (fun _ _ => rfl) (fun _ _ => rfl) hrk (Nat.lt_succ_self _) _ _ hP hD hS _ (lv_sub hl [2, 3, 4, 1, 0] rfl)
  · have e0 : ((σ.1 6) - 2) = 0 := by omega
    refine lv_iload_n hx hb dX11_arranges_8 rfl (lv_at hl 2 rfl) ?_
    refine lv_aload_n hx hb dX11_arranges_9 rfl (lv_at hl 0 rfl) ?_
    refine va_get (D := (g.1, g.2.1)) (ci := 13) (v := .ref (g.2.2.2 1)) (C := RX11) (T := TX11) (N := 30) hx hb hts iX11 hown hK.1 hP 0 (gM0 g σ tl) rfl 1 (by decide) k13 (fun _ h9 => h9) rfl dX11_arranges_10 ?_
    refine lv_bipush (v := nI 15) hx hb dX11_arranges_13 (by decide) ?_
    refine jn_iald (f := σ.2.1 0) hx hb hK.1 hP 1 0 (gM1 g σ tl) rfl (by decide) (Nat.le_of_ble_eq_true rfl) dX11_arranges_15 ?_
    refine jn_iand hx hb dX11_arranges_16 ?_
    refine jn_zne hx hb (and_lt (by omega)) (tgt := 22) dX11_arranges_17 (by decide) (fun c_17 => ?_) (fun c_17 => ?_)
    · refine lv_aload_n hx hb dX11_arranges_22 rfl (lv_at hl 0 rfl) ?_
      refine lv_aload_n hx hb dX11_arranges_23 rfl (lv_at hl 0 rfl) ?_
      refine va_get (D := (g.1, g.2.1)) (ci := 13) (v := .long (lN (σ.1 10))) (C := RX11) (T := TX11) (N := 30) hx hb hts iX11 hown hK.1 hP 0 (gM0 g σ tl) rfl 23 (by decide) k82 (fun _ h9 => h9) rfl dX11_arranges_24 ?_
      refine lv_lconst (v := lN 0) hx hb dX11_arranges_27 (by decide) ?_
      refine jn_lcmp hx hb dX11_arranges_28 ?_
      have jp37 : ∀ v37 : Nat, v37 = (if (σ.1 10) = 0 then 1 else 0) → W p l e r_c_X11_arranges_d2 s m ([.ref (g.2.2.2 0), .int (nI 2), .int (nI st)] : List Value).toArray below meth c H locs 0 0 Q (F0 m 37 ls [.int (nI v37), .ref (g.2.2.2 0)]) := by
        intro v37 ev37
        refine jn_put (D := (g.1, g.2.1)) (ci := 13) (v := .int (nI v37)) (ty := .boolean) (C := RX11) (T := TX11) (N := 30) hx hb hts iX11 tyX11 tyX11_ok nmX11 hown hK.1 hP hD hS 0 (gM0 g σ tl) rfl 24 (by decide) k86 (fun _ h9 => h9) rfl (by decide +kernel) (by rw [ev37]; exact jn_nb _) (by rw [ev37]; exact jn_fb _) (Nat.le_of_ble_eq_true rfl) (uM_F11 g σ tl v37) dX11_arranges_37 (fun H locs hP hD hS => ?_)
        refine lv_aload_n hx hb dX11_arranges_40 rfl (lv_at hl 0 rfl) ?_
        refine lv_dup hx hb dX11_arranges_41 rfl ?_
        refine va_get (D := (g.1, g.2.1)) (ci := 13) (v := .long (lN (σ.1 10))) (C := RX11) (T := TX11) (N := 30) hx hb hts iX11 hown hK.1 hP 0 (gM0 g (sF σ 11 v37) tl) rfl 23 (by decide) k82 (fun _ h9 => h9) rfl dX11_arranges_42 ?_
        refine lv_lconst (v := lN 1) hx hb dX11_arranges_45 (by decide) ?_
        refine jn_lsub1 hx hb dX11_arranges_46 ?_
        refine jn_put (D := (g.1, g.2.1)) (ci := 13) (v := .long (lN (slb (σ.1 10)))) (ty := .long) (C := RX11) (T := TX11) (N := 30) hx hb hts iX11 tyX11 tyX11_ok nmX11 hown hK.1 hP hD hS 0 (gM0 g (sF σ 11 v37) tl) rfl 23 (by decide) k82 (fun _ h9 => h9) rfl (by decide +kernel) rfl rfl (Nat.le_of_ble_eq_true rfl) (uM_F10 g (sF σ 11 v37) tl (slb (σ.1 10))) dX11_arranges_47 (fun H locs hP hD hS => ?_)
        refine lv_lconst (v := lN 1) hx hb dX11_arranges_50 (by decide) ?_
        exact hq _ _ _ _ ((lN 1)) (1, (slb (σ.1 10)), v37, (σ.2.1 6), (σ.2.1 10)) dX11_arranges_51 ⟨rfl, by rw [e0, arrN, if_pos c_17]; by_cases q : (σ.1 10) = 0; { exact Or.inl ⟨by omega, by rw [ev37, if_pos q], trivial⟩ }; { exact Or.inr ⟨by omega, by rw [ev37, if_neg q], by unfold slb; rw [if_neg q], rfl⟩ }, fun _ _ => rfl, fun _ _ => rfl, slb_lt hrk⟩ hP hD hS
      refine jn_lneU hx hb hrk (by decide) (tgt := 36) dX11_arranges_29 (by decide) (fun c_29 => ?_) (fun c_29 => ?_)
      · refine lv_iconst (v := nI 0) hx hb dX11_arranges_36 (by decide) ?_
        exact jp37 0 (by rw [if_neg c_29])
      · refine lv_iconst (v := nI 1) hx hb dX11_arranges_32 (by decide) ?_
        refine lv_goto (tgt := 37) hx hb dX11_arranges_33 (by decide) ?_
        exact jp37 1 (by rw [if_pos c_29])
    · refine lv_lconst (v := lN 0) hx hb dX11_arranges_20 (by decide) ?_
      exact hq _ _ _ _ ((lN 0)) (0, (σ.1 10), (σ.1 11), (σ.2.1 6), (σ.2.1 10)) dX11_arranges_21 ⟨rfl, Or.inr (by rw [e0, arrN, if_neg (fun q => q c_17)]; exact ⟨by omega, hfo, rfl, rfl⟩), fun _ _ => rfl, fun _ _ => rfl, hrk⟩ hP hD hS

abbrev r_c_X11_arranges_d1 : Room := { frames := 8, cells := 0, slots := 0, locals := 196 }
set_option maxHeartbeats 4000000 in
set_option maxRecDepth 100000 in
theorem c_X11_arranges_d1 (l : Launch) (g : GC) (tl : va_W) (sz : Nat) (σ : SS) (st : Nat) (hT : OkT (σ.2.1 0)) (hF : ((σ.2.1 0) 15) < 32) (hn : (σ.1 6) ≤ 8) (hd : 1 ≤ (σ.1 6)) (hst : st < 32) (hfo : (σ.1 11) = 0) (hrk : (σ.1 10) < 18446744073709551616) (hlf : (σ.2.1 10) 0 + (σ.2.1 10) 1 + (σ.2.1 10) 2 = ((σ.1 6) - 1)) : Met l yX11_arranges wsX11_arranges r_c_X11_arranges_d1 (va_Pc [.ref (g.2.2.2 0), .int (nI 1), .int (nI st)] (PW g (wM g σ ++ tl) sz)) (va_Ql (fun (r : Int64) (z : Nat × Nat × Nat × (Nat → Nat) × (Nat → Nat)) => match z with | (r0, rl, fo, ot, lf) => (r = lN (r0)) ∧ (((σ.1 10) < arrN (σ.2.1 0) ((σ.2.1 0) 15) ((σ.1 6) - 1) (σ.2.1 10) st ∧ fo = 1 ∧ isArr (σ.2.1 0) ((σ.2.1 0) 15) ((σ.1 6) - 1) (σ.2.1 10) st (σ.1 10) (fun i => ot (1 + i))) ∨ (¬ (σ.1 10) < arrN (σ.2.1 0) ((σ.2.1 0) 15) ((σ.1 6) - 1) (σ.2.1 10) st ∧ fo = 0 ∧ rl = (σ.1 10) - arrN (σ.2.1 0) ((σ.2.1 0) 15) ((σ.1 6) - 1) (σ.2.1 10) st ∧ r0 = arrN (σ.2.1 0) ((σ.2.1 0) 15) ((σ.1 6) - 1) (σ.2.1 10) st)) ∧ (∀ i, i < 1 → ot i = (σ.2.1 6) i) ∧ (∀ x, x < 3 → lf x = (σ.2.1 10) x) ∧ (rl < 18446744073709551616)) (fun (z : Nat × Nat × Nat × (Nat → Nat) × (Nat → Nat)) t => BW g (va_A (wM g σ ++ tl) sz) ((fun z : Nat × Nat × Nat × (Nat → Nat) × (Nat → Nat) => match z with | (r0, rl, fo, ot, lf) => wM g (sA (sA (sF (sF σ 10 rl) 11 fo) 6 ot) 10 lf) ++ tl) z) t) (va_A (wM g σ ++ tl) sz)) 0 0 (va_A (wM g σ ++ tl) sz) := by
  refine jn_sl (wf := fun z : Nat × Nat × Nat × (Nat → Nat) × (Nat → Nat) => match z with | (r0, rl, fo, ot, lf) => wM g (sA (sA (sF (sF σ 10 rl) 11 fo) 6 ot) 10 lf) ++ tl) (cc := cX11_arranges) (maxL := 6) (own := RX11) (by decide) rfl rfl (Nat.le_of_ble_eq_true rfl) ?_
  intro p e s m below meth c Q A hx hb hml hown hts hK hP hD hS hAA hq ls hl
  obtain ⟨H, eH⟩ : ∃ z, z = s.heap := ⟨_, rfl⟩
  obtain ⟨locs, el⟩ : ∃ z : List Loc, z = [] := ⟨_, rfl⟩
  rw [← eH] at hP
  have hS : va_S A s.heap H locs := by rw [eH, el]; exact hS
  have goal0 : W p l e r_c_X11_arranges_d1 s m ([.ref (g.2.2.2 0), .int (nI 1), .int (nI st)] : List Value).toArray below meth c H locs 0 0 Q (F0 m 0 ls []) → W p l e r_c_X11_arranges_d1 s m ([.ref (g.2.2.2 0), .int (nI 1), .int (nI st)] : List Value).toArray below meth c s.heap [] 0 0 Q (F0 m 0 ls []) := fun h => by rw [eH, el] at h; exact h
  refine goal0 ?_
  have hl : lv_has ls 6 [(0, .ref (g.2.2.2 0)), (1, .int (nI 1)), (2, .int (nI st))] := hl
  have iX11 : ∀ w ∈ wsX110, w ∈ wsX11_arranges := by decide +kernel
  have k51 := hts (.fieldLink RX11 51 "JumpingAutomataModel" "length" "I") (by decide +kernel)
  have k86 := hts (.fieldLink RX11 86 "JumpingAutomataModel" "isFound" "Z") (by decide +kernel)
  have k79 := hts (.fieldLink RX11 79 "JumpingAutomataModel" "left" "[I") (by decide +kernel)
  have k48 := hts (.fieldLink RX11 48 "JumpingAutomataModel" "other" "[I") (by decide +kernel)
  have k13 := hts (.fieldLink RX11 13 "JumpingAutomataModel" "now" "[I") (by decide +kernel)
  have k82 := hts (.fieldLink RX11 82 "JumpingAutomataModel" "rankLeft" "J") (by decide +kernel)
  have hl0 := ar_le3 (σ.2.1 10)
  refine lv_iload_n hx hb dX11_arranges_0 rfl (lv_at hl 1 rfl) ?_
  refine lv_aload_n hx hb dX11_arranges_1 rfl (lv_at hl 0 rfl) ?_
  refine va_get (D := (g.1, g.2.1)) (ci := 13) (v := .int (nI (σ.1 6))) (C := RX11) (T := TX11) (N := 30) hx hb hts iX11 hown hK.1 hP 0 (gM0 g σ tl) rfl 13 (by decide) k51 (fun _ h9 => h9) rfl dX11_arranges_2 ?_
  refine jn_cne hx hb (by decide) (by omega) (tgt := 52) dX11_arranges_5 (by decide) (fun c_5 => ?_) (fun c_5 => ?_)
  · refine lv_lconst (v := lN 0) hx hb dX11_arranges_52 (by decide) ?_
    refine lv_lstore_n (lv' := [(3, .long (lN 0)), (0, .ref (g.2.2.2 0)), (1, .int (nI 1)), (2, .int (nI st))]) hx hb dX11_arranges_53 rfl hl (by decide) rfl (fun ls hl => ?_)
    refine lv_iconst (v := nI 0) hx hb dX11_arranges_54 (by decide) ?_
    refine lv_istore (lv' := [(5, .int (nI 0)), (3, .long (lN 0)), (0, .ref (g.2.2.2 0)), (1, .int (nI 1)), (2, .int (nI st))]) hx hb dX11_arranges_55 hl (by decide) rfl (fun ls hl => ?_)
    have lp57 : ∀ (fu : Nat), ∀ (x0 : Nat) (z : Nat) (rl1 : Nat) (fo1 : Nat) (ot1 : Nat → Nat) (lf1 : Nat → Nat), (x0 ≤ 3) → (ArI (σ.2.1 0) ((σ.2.1 0) 15) ((σ.1 6) - 2) (σ.2.1 10) st (σ.1 10) x0 rl1 z fo1 1 ot1) → (∀ i, i < 1 → ot1 i = (σ.2.1 6) i) → (∀ x, x < 3 → lf1 x = (σ.2.1 10) x) → (rl1 < 18446744073709551616) → 3 - x0 < fu → ∀ (H : Heap) (locs : List Loc), va_P (g.1, g.2.1) vwCl (wM g (sA (sA (sF (sF σ 10 rl1) 11 fo1) 6 ot1) 10 lf1) ++ tl) H → va_D A (wM g (sA (sA (sF (sF σ 10 rl1) 11 fo1) 6 ot1) 10 lf1) ++ tl) → va_S A s.heap H locs → ∀ ls : Array Slot, lv_has ls 6 [(0, .ref (g.2.2.2 0)), (1, .int (nI 1)), (2, .int (nI st)), (3, .long (lN z)), (5, .int (nI x0))] → W p l e r_c_X11_arranges_d1 s m ([.ref (g.2.2.2 0), .int (nI 1), .int (nI st)] : List Value).toArray below meth c H locs 0 0 Q (F0 m 57 ls []) := by
      intro fu
      induction fu with
      | zero => intro x0 z rl1 fo1 ot1 lf1 i1 i2 i3 i4 i5 hf; exact absurd hf (Nat.not_lt_zero _)
      | succ fu ih57 =>
        intro x0 z rl1 fo1 ot1 lf1 i1 i2 i3 i4 i5 hf H locs hP hD hS ls hl
        have eK : ((σ.1 6) - 1) = ((σ.1 6) - 2) + 1 := by omega
        have hfo1 : fo1 = 0 ∨ fo1 = 1 := i2.imp (fun z => z.1) (fun z => z.1)
        refine lv_iload hx hb dX11_arranges_57 (lv_at hl 4 rfl) ?_
        refine lv_iconst (v := nI 3) hx hb dX11_arranges_59 (by decide) ?_
        refine jn_cge hx hb (by omega) (by decide) (tgt := 136) dX11_arranges_60 (by decide) (fun c_60 => ?_) (fun c_60 => ?_)
        · refine lv_lload_n hx hb dX11_arranges_136 rfl (lv_at hl 3 rfl) ?_
          exact hq _ _ _ _ ((lN z)) (z, rl1, fo1, ot1, lf1) dX11_arranges_137 ⟨rfl, by first | exact ari_end i2 eK (Or.inl (by omega)) | exact ari_end i2 eK (Or.inr c_67), i3, i4, i5⟩ hP hD hS
        · refine lv_aload_n hx hb dX11_arranges_63 rfl (lv_at hl 0 rfl) ?_
          refine va_get (D := (g.1, g.2.1)) (ci := 13) (v := .int (nI fo1)) (C := RX11) (T := TX11) (N := 30) hx hb hts iX11 hown hK.1 hP 0 (gM0 g (sA (sA (sF (sF σ 10 rl1) 11 fo1) 6 ot1) 10 lf1) tl) rfl 24 (by decide) k86 (fun _ h9 => h9) rfl dX11_arranges_64 ?_
          refine jn_zne hx hb (by omega) (tgt := 136) dX11_arranges_67 (by decide) (fun c_67 => ?_) (fun c_67 => ?_)
          · refine lv_lload_n hx hb dX11_arranges_136 rfl (lv_at hl 3 rfl) ?_
            exact hq _ _ _ _ ((lN z)) (z, rl1, fo1, ot1, lf1) dX11_arranges_137 ⟨rfl, by first | exact ari_end i2 eK (Or.inl (by omega)) | exact ari_end i2 eK (Or.inr c_67), i3, i4, i5⟩ hP hD hS
          · refine lv_aload_n hx hb dX11_arranges_70 rfl (lv_at hl 0 rfl) ?_
            refine va_get (D := (g.1, g.2.1)) (ci := 13) (v := .ref (g.2.2.2 13)) (C := RX11) (T := TX11) (N := 30) hx hb hts iX11 hown hK.1 hP 0 (gM0 g (sA (sA (sF (sF σ 10 rl1) 11 fo1) 6 ot1) 10 lf1) tl) rfl 22 (by decide) k79 (fun _ h9 => h9) rfl dX11_arranges_71 ?_
            refine lv_iload hx hb dX11_arranges_74 (lv_at hl 4 rfl) ?_
            refine jn_iald (f := lf1) hx hb hK.1 hP 13 0 (gM13 g (sA (sA (sF (sF σ 10 rl1) 11 fo1) 6 ot1) 10 lf1) tl) rfl (by omega) (Nat.le_of_ble_eq_true rfl) dX11_arranges_76 ?_
            have hll := hl0 x0 (by omega)
            have hl1 := i4 x0 (by omega)
            refine jn_zne hx hb (by omega) (tgt := 83) dX11_arranges_77 (by decide) (fun c_77 => ?_) (fun c_77 => ?_)
            · refine lv_aload_n hx hb dX11_arranges_83 rfl (lv_at hl 0 rfl) ?_
              refine va_get (D := (g.1, g.2.1)) (ci := 13) (v := .ref (g.2.2.2 13)) (C := RX11) (T := TX11) (N := 30) hx hb hts iX11 hown hK.1 hP 0 (gM0 g (sA (sA (sF (sF σ 10 rl1) 11 fo1) 6 ot1) 10 lf1) tl) rfl 22 (by decide) k79 (fun _ h9 => h9) rfl dX11_arranges_84 ?_
              refine lv_iload hx hb dX11_arranges_87 (lv_at hl 4 rfl) ?_
              refine lv_dup2_11 hx hb dX11_arranges_89 rfl rfl ?_
              refine jn_iald (f := lf1) hx hb hK.1 hP 13 0 (gM13 g (sA (sA (sF (sF σ 10 rl1) 11 fo1) 6 ot1) 10 lf1) tl) rfl (by omega) (Nat.le_of_ble_eq_true rfl) dX11_arranges_90 ?_
              refine lv_iconst (v := nI 1) hx hb dX11_arranges_91 (by decide) ?_
              refine jn_isub hx hb (by omega) dX11_arranges_92 ?_
              refine jn_iast (f := lf1) hx hb hK.1 hP hD hS 13 0 (gM13 g (sA (sA (sF (sF σ 10 rl1) 11 fo1) 6 ot1) 10 lf1) tl) rfl (by omega) (Nat.le_of_ble_eq_true rfl) (uM_A10 g (sA (sA (sF (sF σ 10 rl1) 11 fo1) 6 ot1) 10 lf1) tl _) dX11_arranges_93 (fun H locs hP hD hS => ?_)
              refine lv_aload_n hx hb dX11_arranges_94 rfl (lv_at hl 0 rfl) ?_
              refine va_get (D := (g.1, g.2.1)) (ci := 13) (v := .ref (g.2.2.2 7)) (C := RX11) (T := TX11) (N := 30) hx hb hts iX11 hown hK.1 hP 0 (gM0 g (sA (sA (sA (sF (sF σ 10 rl1) 11 fo1) 6 ot1) 10 lf1) 10 (va_up lf1 x0 ((lf1 x0) - 1))) tl) rfl 12 (by decide) k48 (fun _ h9 => h9) rfl dX11_arranges_95 ?_
              refine lv_iload_n hx hb dX11_arranges_98 rfl (lv_at hl 1 rfl) ?_
              refine lv_iload hx hb dX11_arranges_99 (lv_at hl 4 rfl) ?_
              refine jn_iast (f := ot1) hx hb hK.1 hP hD hS 7 0 (gM7 g (sA (sA (sA (sF (sF σ 10 rl1) 11 fo1) 6 ot1) 10 lf1) 10 (va_up lf1 x0 ((lf1 x0) - 1))) tl) rfl (by decide) (Nat.le_of_ble_eq_true rfl) (uM_A6 g (sA (sA (sA (sF (sF σ 10 rl1) 11 fo1) 6 ot1) 10 lf1) 10 (va_up lf1 x0 ((lf1 x0) - 1))) tl _) dX11_arranges_101 (fun H locs hP hD hS => ?_)
              refine lv_lload_n hx hb dX11_arranges_102 rfl (lv_at hl 3 rfl) ?_
              refine lv_aload_n hx hb dX11_arranges_103 rfl (lv_at hl 0 rfl) ?_
              refine lv_iload_n hx hb dX11_arranges_104 rfl (lv_at hl 1 rfl) ?_
              refine lv_iconst (v := nI 1) hx hb dX11_arranges_105 (by decide) ?_
              refine jn_iadd hx hb dX11_arranges_106 ?_
              refine lv_aload_n hx hb dX11_arranges_107 rfl (lv_at hl 0 rfl) ?_
              refine lv_iload_n hx hb dX11_arranges_108 rfl (lv_at hl 2 rfl) ?_
              refine lv_iload hx hb dX11_arranges_109 (lv_at hl 4 rfl) ?_
              refine vp_callSi (va_Run.run (va_runV (As := [.int (nI st), .int (nI x0)]) (rest := [.int (nI (1 + 1)), .ref (g.2.2.2 0), .long (lN z)]) ⟨hx, hb, hml, hown, hts⟩ (c_X11_after l g tl (sA (sA (sA (sA (sF (sF σ 10 rl1) 11 fo1) 6 ot1) 10 lf1) 10 (va_up lf1 x0 ((lf1 x0) - 1))) 6 (va_up ot1 1 x0)) st x0 (by omega) (by omega)) (cwV 2 hts gX11_arranges_X11_after rfl rfl rfl (by decide +kernel) ⟨Nat.le_of_ble_eq_true rfl, Nat.le_of_ble_eq_true rfl⟩) (okPV hK hP rfl (gM0 g (sA (sA (sA (sA (sF (sF σ 10 rl1) 11 fo1) 6 ot1) 10 lf1) 10 (va_up lf1 x0 ((lf1 x0) - 1))) 6 (va_up ot1 1 x0)) tl)) rfl rfl hl.1 rfl (lv_room (Nat.le_of_ble_eq_true rfl)) dX11_arranges_111 ⟨Nat.le_of_ble_eq_true rfl, Nat.le_of_ble_eq_true rfl⟩)) (fun r_111 h_111 => ?_)
              have h_111 : r_111 = (nI (stp (σ.2.1 0) x0 st)) := h_111
              subst h_111
              refine jn_calll (va_runV (As := [.int (nI (1 + 1)), .int (nI (stp (σ.2.1 0) x0 st))]) (rest := [.long (lN z)]) ⟨hx, hb, hml, hown, hts⟩ (c_X11_arranges_d2 l g tl H.size (sA (sA (sA (sA (sF (sF σ 10 rl1) 11 fo1) 6 ot1) 10 lf1) 10 (va_up lf1 x0 ((lf1 x0) - 1))) 6 (va_up ot1 1 x0)) (stp (σ.2.1 0) x0 st) hT hF hn (show 2 ≤ (σ.1 6) by omega) (stp_lt hT (by omega)) (show fo1 = 0 by omega) i5 (by show va_up lf1 x0 (lf1 x0 - 1) 0 + va_up lf1 x0 (lf1 x0 - 1) 1 + va_up lf1 x0 (lf1 x0 - 1) 2 = ((σ.1 6) - 2); rw [ar_sum lf1 x0 (by omega) (by omega), i4 0 (by decide), i4 1 (by decide), i4 2 (by decide), hlf]; omega)) (cwV 2 hts gX11_arranges_X11_arranges rfl rfl rfl (by decide +kernel) ⟨Nat.le_of_ble_eq_true rfl, Nat.le_of_ble_eq_true rfl⟩) (okWV hK hP hD rfl (gM0 g (sA (sA (sA (sA (sF (sF σ 10 rl1) 11 fo1) 6 ot1) 10 lf1) 10 (va_up lf1 x0 ((lf1 x0) - 1))) 6 (va_up ot1 1 x0)) tl)) rfl rfl hl.1 rfl (lv_room (Nat.le_of_ble_eq_true rfl)) dX11_arranges_114 ⟨Nat.le_of_ble_eq_true rfl, Nat.le_of_ble_eq_true rfl⟩) hD hS hAA (fun r_114 u H locs hw_ hP hD hS => ?_)
              obtain ⟨r0_114, rl_114, fo_114, ot_114, lf_114⟩ := u
              obtain ⟨rfl, h_114⟩ := hw_
              have h_114 : (((rl1) < arrN (σ.2.1 0) ((σ.2.1 0) 15) ((σ.1 6) - 2) ((va_up lf1 x0 ((lf1 x0) - 1))) (stp (σ.2.1 0) x0 st) ∧ fo_114 = 1 ∧ isArr (σ.2.1 0) ((σ.2.1 0) 15) ((σ.1 6) - 2) ((va_up lf1 x0 ((lf1 x0) - 1))) (stp (σ.2.1 0) x0 st) (rl1) (fun i => ot_114 (2 + i))) ∨ (¬ (rl1) < arrN (σ.2.1 0) ((σ.2.1 0) 15) ((σ.1 6) - 2) ((va_up lf1 x0 ((lf1 x0) - 1))) (stp (σ.2.1 0) x0 st) ∧ fo_114 = 0 ∧ rl_114 = (rl1) - arrN (σ.2.1 0) ((σ.2.1 0) 15) ((σ.1 6) - 2) ((va_up lf1 x0 ((lf1 x0) - 1))) (stp (σ.2.1 0) x0 st) ∧ r0_114 = arrN (σ.2.1 0) ((σ.2.1 0) 15) ((σ.1 6) - 2) ((va_up lf1 x0 ((lf1 x0) - 1))) (stp (σ.2.1 0) x0 st))) ∧ (∀ i, i < 2 → ot_114 i = ((va_up ot1 1 x0)) i) ∧ (∀ x, x < 3 → lf_114 x = ((va_up lf1 x0 ((lf1 x0) - 1))) x) ∧ (rl_114 < 18446744073709551616) := h_114
              have hP : va_P (g.1, g.2.1) vwCl (wM g (sA (sA (sF (sF (sA (sA (sA (sA (sF (sF σ 10 rl1) 11 fo1) 6 ot1) 10 lf1) 10 (va_up lf1 x0 ((lf1 x0) - 1))) 6 (va_up ot1 1 x0)) 10 rl_114) 11 fo_114) 6 ot_114) 10 lf_114) ++ tl) H := hP
              have hD : va_D A (wM g (sA (sA (sF (sF (sA (sA (sA (sA (sF (sF σ 10 rl1) 11 fo1) 6 ot1) 10 lf1) 10 (va_up lf1 x0 ((lf1 x0) - 1))) 6 (va_up ot1 1 x0)) 10 rl_114) 11 fo_114) 6 ot_114) 10 lf_114) ++ tl) := hD
              refine jn_ladd hx hb dX11_arranges_117 ?_
              refine lv_lstore_n (lv' := [(3, .long (lN (z + r0_114))), (0, .ref (g.2.2.2 0)), (1, .int (nI 1)), (2, .int (nI st)), (5, .int (nI x0))]) hx hb dX11_arranges_118 rfl hl (by decide) rfl (fun ls hl => ?_)
              refine lv_aload_n hx hb dX11_arranges_119 rfl (lv_at hl 1 rfl) ?_
              refine va_get (D := (g.1, g.2.1)) (ci := 13) (v := .ref (g.2.2.2 13)) (C := RX11) (T := TX11) (N := 30) hx hb hts iX11 hown hK.1 hP 0 (gM0 g (sA (sA (sF (sF (sA (sA (sA (sA (sF (sF σ 10 rl1) 11 fo1) 6 ot1) 10 lf1) 10 (va_up lf1 x0 ((lf1 x0) - 1))) 6 (va_up ot1 1 x0)) 10 rl_114) 11 fo_114) 6 ot_114) 10 lf_114) tl) rfl 22 (by decide) k79 (fun _ h9 => h9) rfl dX11_arranges_120 ?_
              refine lv_iload hx hb dX11_arranges_123 (lv_at hl 4 rfl) ?_
              refine lv_dup2_11 hx hb dX11_arranges_125 rfl rfl ?_
              refine jn_iald (f := lf_114) hx hb hK.1 hP 13 0 (gM13 g (sA (sA (sF (sF (sA (sA (sA (sA (sF (sF σ 10 rl1) 11 fo1) 6 ot1) 10 lf1) 10 (va_up lf1 x0 ((lf1 x0) - 1))) 6 (va_up ot1 1 x0)) 10 rl_114) 11 fo_114) 6 ot_114) 10 lf_114) tl) rfl (by omega) (Nat.le_of_ble_eq_true rfl) dX11_arranges_126 ?_
              refine lv_iconst (v := nI 1) hx hb dX11_arranges_127 (by decide) ?_
              refine jn_iadd hx hb dX11_arranges_128 ?_
              refine jn_iast (f := lf_114) hx hb hK.1 hP hD hS 13 0 (gM13 g (sA (sA (sF (sF (sA (sA (sA (sA (sF (sF σ 10 rl1) 11 fo1) 6 ot1) 10 lf1) 10 (va_up lf1 x0 ((lf1 x0) - 1))) 6 (va_up ot1 1 x0)) 10 rl_114) 11 fo_114) 6 ot_114) 10 lf_114) tl) rfl (by omega) (Nat.le_of_ble_eq_true rfl) (uM_A10 g (sA (sA (sF (sF (sA (sA (sA (sA (sF (sF σ 10 rl1) 11 fo1) 6 ot1) 10 lf1) 10 (va_up lf1 x0 ((lf1 x0) - 1))) 6 (va_up ot1 1 x0)) 10 rl_114) 11 fo_114) 6 ot_114) 10 lf_114) tl _) dX11_arranges_129 (fun H locs hP hD hS => ?_)
              refine lv_iinc (v := nI (x0 + 1)) (lv' := [(5, .int (nI (x0 + 1))), (3, .long (lN (z + r0_114))), (0, .ref (g.2.2.2 0)), (1, .int (nI 1)), (2, .int (nI st))]) hx hb dX11_arranges_130 hl (k := 4) rfl (jn_ii _ 1) (by decide) rfl (fun ls hl => ?_)
              refine lv_goto (tgt := 57) hx hb dX11_arranges_133 (by decide) ?_
              exact ih57 (x0 + 1) (z + r0_114) rl_114 fo_114 ot_114 (va_up lf_114 x0 ((lf_114 x0) + 1)) (by omega) (by first | exact ari_no i2 (by omega) (by rw [← i4 _ (by omega)]; exact c_77) | exact ari_call i2 (by omega) (by omega) c_77 i4 (by rw [h_114.2.1 _ (by omega), va_up, if_pos rfl]) h_114.1) (by first | exact i3 | exact (fun i hi => by rw [h_114.2.1 i (by omega), va_up, if_neg (by omega)]; exact i3 i hi)) (by first | exact i4 | exact ar_lf i4 h_114.2.2.1 ⟨by omega, by omega⟩) (by first | exact i5 | exact h_114.2.2.2) (by omega) _ _ hP hD hS _ (lv_sub hl [2, 3, 4, 1, 0] rfl)
            · refine lv_goto (tgt := 130) hx hb dX11_arranges_80 (by decide) ?_
              refine lv_iinc (v := nI (x0 + 1)) (lv' := [(5, .int (nI (x0 + 1))), (0, .ref (g.2.2.2 0)), (1, .int (nI 1)), (2, .int (nI st)), (3, .long (lN z))]) hx hb dX11_arranges_130 hl (k := 4) rfl (jn_ii _ 1) (by decide) rfl (fun ls hl => ?_)
              refine lv_goto (tgt := 57) hx hb dX11_arranges_133 (by decide) ?_
              exact ih57 (x0 + 1) z rl1 fo1 ot1 lf1 (by omega) (by first | exact ari_no i2 (by omega) (by rw [← i4 _ (by omega)]; exact c_77) | exact ari_call i2 (by omega) (by omega) c_77 i4 (by rw [h_114.2.1 _ (by omega), va_up, if_pos rfl]) h_114.1) (by first | exact i3 | exact (fun i hi => by rw [h_114.2.1 i (by omega), va_up, if_neg (by omega)]; exact i3 i hi)) (by first | exact i4 | exact ar_lf i4 h_114.2.2.1 ⟨by omega, by omega⟩) (by first | exact i5 | exact h_114.2.2.2) (by omega) _ _ hP hD hS _ (lv_sub hl [1, 2, 3, 4, 0] rfl)
    exact lp57 _ 0 0 (σ.1 10) (σ.1 11) (σ.2.1 6) (σ.2.1 10) (by decide) (by rw [hfo]; exact ari_0) (fun _ _ => rfl) (fun _ _ => rfl) hrk (Nat.lt_succ_self _) _ _ hP hD hS _ (lv_sub hl [2, 3, 4, 1, 0] rfl)
  · have e0 : ((σ.1 6) - 1) = 0 := by omega
    refine lv_iload_n hx hb dX11_arranges_8 rfl (lv_at hl 2 rfl) ?_
    refine lv_aload_n hx hb dX11_arranges_9 rfl (lv_at hl 0 rfl) ?_
    refine va_get (D := (g.1, g.2.1)) (ci := 13) (v := .ref (g.2.2.2 1)) (C := RX11) (T := TX11) (N := 30) hx hb hts iX11 hown hK.1 hP 0 (gM0 g σ tl) rfl 1 (by decide) k13 (fun _ h9 => h9) rfl dX11_arranges_10 ?_
    refine lv_bipush (v := nI 15) hx hb dX11_arranges_13 (by decide) ?_
    refine jn_iald (f := σ.2.1 0) hx hb hK.1 hP 1 0 (gM1 g σ tl) rfl (by decide) (Nat.le_of_ble_eq_true rfl) dX11_arranges_15 ?_
    refine jn_iand hx hb dX11_arranges_16 ?_
    refine jn_zne hx hb (and_lt (by omega)) (tgt := 22) dX11_arranges_17 (by decide) (fun c_17 => ?_) (fun c_17 => ?_)
    · refine lv_aload_n hx hb dX11_arranges_22 rfl (lv_at hl 0 rfl) ?_
      refine lv_aload_n hx hb dX11_arranges_23 rfl (lv_at hl 0 rfl) ?_
      refine va_get (D := (g.1, g.2.1)) (ci := 13) (v := .long (lN (σ.1 10))) (C := RX11) (T := TX11) (N := 30) hx hb hts iX11 hown hK.1 hP 0 (gM0 g σ tl) rfl 23 (by decide) k82 (fun _ h9 => h9) rfl dX11_arranges_24 ?_
      refine lv_lconst (v := lN 0) hx hb dX11_arranges_27 (by decide) ?_
      refine jn_lcmp hx hb dX11_arranges_28 ?_
      have jp37 : ∀ v37 : Nat, v37 = (if (σ.1 10) = 0 then 1 else 0) → W p l e r_c_X11_arranges_d1 s m ([.ref (g.2.2.2 0), .int (nI 1), .int (nI st)] : List Value).toArray below meth c H locs 0 0 Q (F0 m 37 ls [.int (nI v37), .ref (g.2.2.2 0)]) := by
        intro v37 ev37
        refine jn_put (D := (g.1, g.2.1)) (ci := 13) (v := .int (nI v37)) (ty := .boolean) (C := RX11) (T := TX11) (N := 30) hx hb hts iX11 tyX11 tyX11_ok nmX11 hown hK.1 hP hD hS 0 (gM0 g σ tl) rfl 24 (by decide) k86 (fun _ h9 => h9) rfl (by decide +kernel) (by rw [ev37]; exact jn_nb _) (by rw [ev37]; exact jn_fb _) (Nat.le_of_ble_eq_true rfl) (uM_F11 g σ tl v37) dX11_arranges_37 (fun H locs hP hD hS => ?_)
        refine lv_aload_n hx hb dX11_arranges_40 rfl (lv_at hl 0 rfl) ?_
        refine lv_dup hx hb dX11_arranges_41 rfl ?_
        refine va_get (D := (g.1, g.2.1)) (ci := 13) (v := .long (lN (σ.1 10))) (C := RX11) (T := TX11) (N := 30) hx hb hts iX11 hown hK.1 hP 0 (gM0 g (sF σ 11 v37) tl) rfl 23 (by decide) k82 (fun _ h9 => h9) rfl dX11_arranges_42 ?_
        refine lv_lconst (v := lN 1) hx hb dX11_arranges_45 (by decide) ?_
        refine jn_lsub1 hx hb dX11_arranges_46 ?_
        refine jn_put (D := (g.1, g.2.1)) (ci := 13) (v := .long (lN (slb (σ.1 10)))) (ty := .long) (C := RX11) (T := TX11) (N := 30) hx hb hts iX11 tyX11 tyX11_ok nmX11 hown hK.1 hP hD hS 0 (gM0 g (sF σ 11 v37) tl) rfl 23 (by decide) k82 (fun _ h9 => h9) rfl (by decide +kernel) rfl rfl (Nat.le_of_ble_eq_true rfl) (uM_F10 g (sF σ 11 v37) tl (slb (σ.1 10))) dX11_arranges_47 (fun H locs hP hD hS => ?_)
        refine lv_lconst (v := lN 1) hx hb dX11_arranges_50 (by decide) ?_
        exact hq _ _ _ _ ((lN 1)) (1, (slb (σ.1 10)), v37, (σ.2.1 6), (σ.2.1 10)) dX11_arranges_51 ⟨rfl, by rw [e0, arrN, if_pos c_17]; by_cases q : (σ.1 10) = 0; { exact Or.inl ⟨by omega, by rw [ev37, if_pos q], trivial⟩ }; { exact Or.inr ⟨by omega, by rw [ev37, if_neg q], by unfold slb; rw [if_neg q], rfl⟩ }, fun _ _ => rfl, fun _ _ => rfl, slb_lt hrk⟩ hP hD hS
      refine jn_lneU hx hb hrk (by decide) (tgt := 36) dX11_arranges_29 (by decide) (fun c_29 => ?_) (fun c_29 => ?_)
      · refine lv_iconst (v := nI 0) hx hb dX11_arranges_36 (by decide) ?_
        exact jp37 0 (by rw [if_neg c_29])
      · refine lv_iconst (v := nI 1) hx hb dX11_arranges_32 (by decide) ?_
        refine lv_goto (tgt := 37) hx hb dX11_arranges_33 (by decide) ?_
        exact jp37 1 (by rw [if_pos c_29])
    · refine lv_lconst (v := lN 0) hx hb dX11_arranges_20 (by decide) ?_
      exact hq _ _ _ _ ((lN 0)) (0, (σ.1 10), (σ.1 11), (σ.2.1 6), (σ.2.1 10)) dX11_arranges_21 ⟨rfl, Or.inr (by rw [e0, arrN, if_neg (fun q => q c_17)]; exact ⟨by omega, hfo, rfl, rfl⟩), fun _ _ => rfl, fun _ _ => rfl, hrk⟩ hP hD hS

abbrev r_c_X11_arranges_d0 : Room := { frames := 9, cells := 0, slots := 0, locals := 221 }
set_option maxHeartbeats 4000000 in
set_option maxRecDepth 100000 in
theorem c_X11_arranges_d0 (l : Launch) (g : GC) (tl : va_W) (sz : Nat) (σ : SS) (st : Nat) (hT : OkT (σ.2.1 0)) (hF : ((σ.2.1 0) 15) < 32) (hn : (σ.1 6) ≤ 8) (hd : 0 ≤ (σ.1 6)) (hst : st < 32) (hfo : (σ.1 11) = 0) (hrk : (σ.1 10) < 18446744073709551616) (hlf : (σ.2.1 10) 0 + (σ.2.1 10) 1 + (σ.2.1 10) 2 = ((σ.1 6) - 0)) : Met l yX11_arranges wsX11_arranges r_c_X11_arranges_d0 (va_Pc [.ref (g.2.2.2 0), .int (nI 0), .int (nI st)] (PW g (wM g σ ++ tl) sz)) (va_Ql (fun (r : Int64) (z : Nat × Nat × Nat × (Nat → Nat) × (Nat → Nat)) => match z with | (r0, rl, fo, ot, lf) => (r = lN (r0)) ∧ (((σ.1 10) < arrN (σ.2.1 0) ((σ.2.1 0) 15) ((σ.1 6) - 0) (σ.2.1 10) st ∧ fo = 1 ∧ isArr (σ.2.1 0) ((σ.2.1 0) 15) ((σ.1 6) - 0) (σ.2.1 10) st (σ.1 10) (fun i => ot (0 + i))) ∨ (¬ (σ.1 10) < arrN (σ.2.1 0) ((σ.2.1 0) 15) ((σ.1 6) - 0) (σ.2.1 10) st ∧ fo = 0 ∧ rl = (σ.1 10) - arrN (σ.2.1 0) ((σ.2.1 0) 15) ((σ.1 6) - 0) (σ.2.1 10) st ∧ r0 = arrN (σ.2.1 0) ((σ.2.1 0) 15) ((σ.1 6) - 0) (σ.2.1 10) st)) ∧ (∀ i, i < 0 → ot i = (σ.2.1 6) i) ∧ (∀ x, x < 3 → lf x = (σ.2.1 10) x) ∧ (rl < 18446744073709551616)) (fun (z : Nat × Nat × Nat × (Nat → Nat) × (Nat → Nat)) t => BW g (va_A (wM g σ ++ tl) sz) ((fun z : Nat × Nat × Nat × (Nat → Nat) × (Nat → Nat) => match z with | (r0, rl, fo, ot, lf) => wM g (sA (sA (sF (sF σ 10 rl) 11 fo) 6 ot) 10 lf) ++ tl) z) t) (va_A (wM g σ ++ tl) sz)) 0 0 (va_A (wM g σ ++ tl) sz) := by
  refine jn_sl (wf := fun z : Nat × Nat × Nat × (Nat → Nat) × (Nat → Nat) => match z with | (r0, rl, fo, ot, lf) => wM g (sA (sA (sF (sF σ 10 rl) 11 fo) 6 ot) 10 lf) ++ tl) (cc := cX11_arranges) (maxL := 6) (own := RX11) (by decide) rfl rfl (Nat.le_of_ble_eq_true rfl) ?_
  intro p e s m below meth c Q A hx hb hml hown hts hK hP hD hS hAA hq ls hl
  obtain ⟨H, eH⟩ : ∃ z, z = s.heap := ⟨_, rfl⟩
  obtain ⟨locs, el⟩ : ∃ z : List Loc, z = [] := ⟨_, rfl⟩
  rw [← eH] at hP
  have hS : va_S A s.heap H locs := by rw [eH, el]; exact hS
  have goal0 : W p l e r_c_X11_arranges_d0 s m ([.ref (g.2.2.2 0), .int (nI 0), .int (nI st)] : List Value).toArray below meth c H locs 0 0 Q (F0 m 0 ls []) → W p l e r_c_X11_arranges_d0 s m ([.ref (g.2.2.2 0), .int (nI 0), .int (nI st)] : List Value).toArray below meth c s.heap [] 0 0 Q (F0 m 0 ls []) := fun h => by rw [eH, el] at h; exact h
  refine goal0 ?_
  have hl : lv_has ls 6 [(0, .ref (g.2.2.2 0)), (1, .int (nI 0)), (2, .int (nI st))] := hl
  have iX11 : ∀ w ∈ wsX110, w ∈ wsX11_arranges := by decide +kernel
  have k51 := hts (.fieldLink RX11 51 "JumpingAutomataModel" "length" "I") (by decide +kernel)
  have k86 := hts (.fieldLink RX11 86 "JumpingAutomataModel" "isFound" "Z") (by decide +kernel)
  have k79 := hts (.fieldLink RX11 79 "JumpingAutomataModel" "left" "[I") (by decide +kernel)
  have k48 := hts (.fieldLink RX11 48 "JumpingAutomataModel" "other" "[I") (by decide +kernel)
  have k13 := hts (.fieldLink RX11 13 "JumpingAutomataModel" "now" "[I") (by decide +kernel)
  have k82 := hts (.fieldLink RX11 82 "JumpingAutomataModel" "rankLeft" "J") (by decide +kernel)
  have hl0 := ar_le3 (σ.2.1 10)
  refine lv_iload_n hx hb dX11_arranges_0 rfl (lv_at hl 1 rfl) ?_
  refine lv_aload_n hx hb dX11_arranges_1 rfl (lv_at hl 0 rfl) ?_
  refine va_get (D := (g.1, g.2.1)) (ci := 13) (v := .int (nI (σ.1 6))) (C := RX11) (T := TX11) (N := 30) hx hb hts iX11 hown hK.1 hP 0 (gM0 g σ tl) rfl 13 (by decide) k51 (fun _ h9 => h9) rfl dX11_arranges_2 ?_
  refine jn_cne hx hb (by decide) (by omega) (tgt := 52) dX11_arranges_5 (by decide) (fun c_5 => ?_) (fun c_5 => ?_)
  · refine lv_lconst (v := lN 0) hx hb dX11_arranges_52 (by decide) ?_
    refine lv_lstore_n (lv' := [(3, .long (lN 0)), (0, .ref (g.2.2.2 0)), (1, .int (nI 0)), (2, .int (nI st))]) hx hb dX11_arranges_53 rfl hl (by decide) rfl (fun ls hl => ?_)
    refine lv_iconst (v := nI 0) hx hb dX11_arranges_54 (by decide) ?_
    refine lv_istore (lv' := [(5, .int (nI 0)), (3, .long (lN 0)), (0, .ref (g.2.2.2 0)), (1, .int (nI 0)), (2, .int (nI st))]) hx hb dX11_arranges_55 hl (by decide) rfl (fun ls hl => ?_)
    have lp57 : ∀ (fu : Nat), ∀ (x0 : Nat) (z : Nat) (rl1 : Nat) (fo1 : Nat) (ot1 : Nat → Nat) (lf1 : Nat → Nat), (x0 ≤ 3) → (ArI (σ.2.1 0) ((σ.2.1 0) 15) ((σ.1 6) - 1) (σ.2.1 10) st (σ.1 10) x0 rl1 z fo1 0 ot1) → (∀ i, i < 0 → ot1 i = (σ.2.1 6) i) → (∀ x, x < 3 → lf1 x = (σ.2.1 10) x) → (rl1 < 18446744073709551616) → 3 - x0 < fu → ∀ (H : Heap) (locs : List Loc), va_P (g.1, g.2.1) vwCl (wM g (sA (sA (sF (sF σ 10 rl1) 11 fo1) 6 ot1) 10 lf1) ++ tl) H → va_D A (wM g (sA (sA (sF (sF σ 10 rl1) 11 fo1) 6 ot1) 10 lf1) ++ tl) → va_S A s.heap H locs → ∀ ls : Array Slot, lv_has ls 6 [(0, .ref (g.2.2.2 0)), (1, .int (nI 0)), (2, .int (nI st)), (3, .long (lN z)), (5, .int (nI x0))] → W p l e r_c_X11_arranges_d0 s m ([.ref (g.2.2.2 0), .int (nI 0), .int (nI st)] : List Value).toArray below meth c H locs 0 0 Q (F0 m 57 ls []) := by
      intro fu
      induction fu with
      | zero => intro x0 z rl1 fo1 ot1 lf1 i1 i2 i3 i4 i5 hf; exact absurd hf (Nat.not_lt_zero _)
      | succ fu ih57 =>
        intro x0 z rl1 fo1 ot1 lf1 i1 i2 i3 i4 i5 hf H locs hP hD hS ls hl
        have eK : ((σ.1 6) - 0) = ((σ.1 6) - 1) + 1 := by omega
        have hfo1 : fo1 = 0 ∨ fo1 = 1 := i2.imp (fun z => z.1) (fun z => z.1)
        refine lv_iload hx hb dX11_arranges_57 (lv_at hl 4 rfl) ?_
        refine lv_iconst (v := nI 3) hx hb dX11_arranges_59 (by decide) ?_
        refine jn_cge hx hb (by omega) (by decide) (tgt := 136) dX11_arranges_60 (by decide) (fun c_60 => ?_) (fun c_60 => ?_)
        · refine lv_lload_n hx hb dX11_arranges_136 rfl (lv_at hl 3 rfl) ?_
          exact hq _ _ _ _ ((lN z)) (z, rl1, fo1, ot1, lf1) dX11_arranges_137 ⟨rfl, by first | exact ari_end i2 eK (Or.inl (by omega)) | exact ari_end i2 eK (Or.inr c_67), i3, i4, i5⟩ hP hD hS
        · refine lv_aload_n hx hb dX11_arranges_63 rfl (lv_at hl 0 rfl) ?_
          refine va_get (D := (g.1, g.2.1)) (ci := 13) (v := .int (nI fo1)) (C := RX11) (T := TX11) (N := 30) hx hb hts iX11 hown hK.1 hP 0 (gM0 g (sA (sA (sF (sF σ 10 rl1) 11 fo1) 6 ot1) 10 lf1) tl) rfl 24 (by decide) k86 (fun _ h9 => h9) rfl dX11_arranges_64 ?_
          refine jn_zne hx hb (by omega) (tgt := 136) dX11_arranges_67 (by decide) (fun c_67 => ?_) (fun c_67 => ?_)
          · refine lv_lload_n hx hb dX11_arranges_136 rfl (lv_at hl 3 rfl) ?_
            exact hq _ _ _ _ ((lN z)) (z, rl1, fo1, ot1, lf1) dX11_arranges_137 ⟨rfl, by first | exact ari_end i2 eK (Or.inl (by omega)) | exact ari_end i2 eK (Or.inr c_67), i3, i4, i5⟩ hP hD hS
          · refine lv_aload_n hx hb dX11_arranges_70 rfl (lv_at hl 0 rfl) ?_
            refine va_get (D := (g.1, g.2.1)) (ci := 13) (v := .ref (g.2.2.2 13)) (C := RX11) (T := TX11) (N := 30) hx hb hts iX11 hown hK.1 hP 0 (gM0 g (sA (sA (sF (sF σ 10 rl1) 11 fo1) 6 ot1) 10 lf1) tl) rfl 22 (by decide) k79 (fun _ h9 => h9) rfl dX11_arranges_71 ?_
            refine lv_iload hx hb dX11_arranges_74 (lv_at hl 4 rfl) ?_
            refine jn_iald (f := lf1) hx hb hK.1 hP 13 0 (gM13 g (sA (sA (sF (sF σ 10 rl1) 11 fo1) 6 ot1) 10 lf1) tl) rfl (by omega) (Nat.le_of_ble_eq_true rfl) dX11_arranges_76 ?_
            have hll := hl0 x0 (by omega)
            have hl1 := i4 x0 (by omega)
            refine jn_zne hx hb (by omega) (tgt := 83) dX11_arranges_77 (by decide) (fun c_77 => ?_) (fun c_77 => ?_)
            · refine lv_aload_n hx hb dX11_arranges_83 rfl (lv_at hl 0 rfl) ?_
              refine va_get (D := (g.1, g.2.1)) (ci := 13) (v := .ref (g.2.2.2 13)) (C := RX11) (T := TX11) (N := 30) hx hb hts iX11 hown hK.1 hP 0 (gM0 g (sA (sA (sF (sF σ 10 rl1) 11 fo1) 6 ot1) 10 lf1) tl) rfl 22 (by decide) k79 (fun _ h9 => h9) rfl dX11_arranges_84 ?_
              refine lv_iload hx hb dX11_arranges_87 (lv_at hl 4 rfl) ?_
              refine lv_dup2_11 hx hb dX11_arranges_89 rfl rfl ?_
              refine jn_iald (f := lf1) hx hb hK.1 hP 13 0 (gM13 g (sA (sA (sF (sF σ 10 rl1) 11 fo1) 6 ot1) 10 lf1) tl) rfl (by omega) (Nat.le_of_ble_eq_true rfl) dX11_arranges_90 ?_
              refine lv_iconst (v := nI 1) hx hb dX11_arranges_91 (by decide) ?_
              refine jn_isub hx hb (by omega) dX11_arranges_92 ?_
              refine jn_iast (f := lf1) hx hb hK.1 hP hD hS 13 0 (gM13 g (sA (sA (sF (sF σ 10 rl1) 11 fo1) 6 ot1) 10 lf1) tl) rfl (by omega) (Nat.le_of_ble_eq_true rfl) (uM_A10 g (sA (sA (sF (sF σ 10 rl1) 11 fo1) 6 ot1) 10 lf1) tl _) dX11_arranges_93 (fun H locs hP hD hS => ?_)
              refine lv_aload_n hx hb dX11_arranges_94 rfl (lv_at hl 0 rfl) ?_
              refine va_get (D := (g.1, g.2.1)) (ci := 13) (v := .ref (g.2.2.2 7)) (C := RX11) (T := TX11) (N := 30) hx hb hts iX11 hown hK.1 hP 0 (gM0 g (sA (sA (sA (sF (sF σ 10 rl1) 11 fo1) 6 ot1) 10 lf1) 10 (va_up lf1 x0 ((lf1 x0) - 1))) tl) rfl 12 (by decide) k48 (fun _ h9 => h9) rfl dX11_arranges_95 ?_
              refine lv_iload_n hx hb dX11_arranges_98 rfl (lv_at hl 1 rfl) ?_
              refine lv_iload hx hb dX11_arranges_99 (lv_at hl 4 rfl) ?_
              refine jn_iast (f := ot1) hx hb hK.1 hP hD hS 7 0 (gM7 g (sA (sA (sA (sF (sF σ 10 rl1) 11 fo1) 6 ot1) 10 lf1) 10 (va_up lf1 x0 ((lf1 x0) - 1))) tl) rfl (by decide) (Nat.le_of_ble_eq_true rfl) (uM_A6 g (sA (sA (sA (sF (sF σ 10 rl1) 11 fo1) 6 ot1) 10 lf1) 10 (va_up lf1 x0 ((lf1 x0) - 1))) tl _) dX11_arranges_101 (fun H locs hP hD hS => ?_)
              refine lv_lload_n hx hb dX11_arranges_102 rfl (lv_at hl 3 rfl) ?_
              refine lv_aload_n hx hb dX11_arranges_103 rfl (lv_at hl 0 rfl) ?_
              refine lv_iload_n hx hb dX11_arranges_104 rfl (lv_at hl 1 rfl) ?_
              refine lv_iconst (v := nI 1) hx hb dX11_arranges_105 (by decide) ?_
              refine jn_iadd hx hb dX11_arranges_106 ?_
              refine lv_aload_n hx hb dX11_arranges_107 rfl (lv_at hl 0 rfl) ?_
              refine lv_iload_n hx hb dX11_arranges_108 rfl (lv_at hl 2 rfl) ?_
              refine lv_iload hx hb dX11_arranges_109 (lv_at hl 4 rfl) ?_
              refine vp_callSi (va_Run.run (va_runV (As := [.int (nI st), .int (nI x0)]) (rest := [.int (nI (0 + 1)), .ref (g.2.2.2 0), .long (lN z)]) ⟨hx, hb, hml, hown, hts⟩ (c_X11_after l g tl (sA (sA (sA (sA (sF (sF σ 10 rl1) 11 fo1) 6 ot1) 10 lf1) 10 (va_up lf1 x0 ((lf1 x0) - 1))) 6 (va_up ot1 0 x0)) st x0 (by omega) (by omega)) (cwV 2 hts gX11_arranges_X11_after rfl rfl rfl (by decide +kernel) ⟨Nat.le_of_ble_eq_true rfl, Nat.le_of_ble_eq_true rfl⟩) (okPV hK hP rfl (gM0 g (sA (sA (sA (sA (sF (sF σ 10 rl1) 11 fo1) 6 ot1) 10 lf1) 10 (va_up lf1 x0 ((lf1 x0) - 1))) 6 (va_up ot1 0 x0)) tl)) rfl rfl hl.1 rfl (lv_room (Nat.le_of_ble_eq_true rfl)) dX11_arranges_111 ⟨Nat.le_of_ble_eq_true rfl, Nat.le_of_ble_eq_true rfl⟩)) (fun r_111 h_111 => ?_)
              have h_111 : r_111 = (nI (stp (σ.2.1 0) x0 st)) := h_111
              subst h_111
              refine jn_calll (va_runV (As := [.int (nI (0 + 1)), .int (nI (stp (σ.2.1 0) x0 st))]) (rest := [.long (lN z)]) ⟨hx, hb, hml, hown, hts⟩ (c_X11_arranges_d1 l g tl H.size (sA (sA (sA (sA (sF (sF σ 10 rl1) 11 fo1) 6 ot1) 10 lf1) 10 (va_up lf1 x0 ((lf1 x0) - 1))) 6 (va_up ot1 0 x0)) (stp (σ.2.1 0) x0 st) hT hF hn (show 1 ≤ (σ.1 6) by omega) (stp_lt hT (by omega)) (show fo1 = 0 by omega) i5 (by show va_up lf1 x0 (lf1 x0 - 1) 0 + va_up lf1 x0 (lf1 x0 - 1) 1 + va_up lf1 x0 (lf1 x0 - 1) 2 = ((σ.1 6) - 1); rw [ar_sum lf1 x0 (by omega) (by omega), i4 0 (by decide), i4 1 (by decide), i4 2 (by decide), hlf]; omega)) (cwV 2 hts gX11_arranges_X11_arranges rfl rfl rfl (by decide +kernel) ⟨Nat.le_of_ble_eq_true rfl, Nat.le_of_ble_eq_true rfl⟩) (okWV hK hP hD rfl (gM0 g (sA (sA (sA (sA (sF (sF σ 10 rl1) 11 fo1) 6 ot1) 10 lf1) 10 (va_up lf1 x0 ((lf1 x0) - 1))) 6 (va_up ot1 0 x0)) tl)) rfl rfl hl.1 rfl (lv_room (Nat.le_of_ble_eq_true rfl)) dX11_arranges_114 ⟨Nat.le_of_ble_eq_true rfl, Nat.le_of_ble_eq_true rfl⟩) hD hS hAA (fun r_114 u H locs hw_ hP hD hS => ?_)
              obtain ⟨r0_114, rl_114, fo_114, ot_114, lf_114⟩ := u
              obtain ⟨rfl, h_114⟩ := hw_
              have h_114 : (((rl1) < arrN (σ.2.1 0) ((σ.2.1 0) 15) ((σ.1 6) - 1) ((va_up lf1 x0 ((lf1 x0) - 1))) (stp (σ.2.1 0) x0 st) ∧ fo_114 = 1 ∧ isArr (σ.2.1 0) ((σ.2.1 0) 15) ((σ.1 6) - 1) ((va_up lf1 x0 ((lf1 x0) - 1))) (stp (σ.2.1 0) x0 st) (rl1) (fun i => ot_114 (1 + i))) ∨ (¬ (rl1) < arrN (σ.2.1 0) ((σ.2.1 0) 15) ((σ.1 6) - 1) ((va_up lf1 x0 ((lf1 x0) - 1))) (stp (σ.2.1 0) x0 st) ∧ fo_114 = 0 ∧ rl_114 = (rl1) - arrN (σ.2.1 0) ((σ.2.1 0) 15) ((σ.1 6) - 1) ((va_up lf1 x0 ((lf1 x0) - 1))) (stp (σ.2.1 0) x0 st) ∧ r0_114 = arrN (σ.2.1 0) ((σ.2.1 0) 15) ((σ.1 6) - 1) ((va_up lf1 x0 ((lf1 x0) - 1))) (stp (σ.2.1 0) x0 st))) ∧ (∀ i, i < 1 → ot_114 i = ((va_up ot1 0 x0)) i) ∧ (∀ x, x < 3 → lf_114 x = ((va_up lf1 x0 ((lf1 x0) - 1))) x) ∧ (rl_114 < 18446744073709551616) := h_114
              have hP : va_P (g.1, g.2.1) vwCl (wM g (sA (sA (sF (sF (sA (sA (sA (sA (sF (sF σ 10 rl1) 11 fo1) 6 ot1) 10 lf1) 10 (va_up lf1 x0 ((lf1 x0) - 1))) 6 (va_up ot1 0 x0)) 10 rl_114) 11 fo_114) 6 ot_114) 10 lf_114) ++ tl) H := hP
              have hD : va_D A (wM g (sA (sA (sF (sF (sA (sA (sA (sA (sF (sF σ 10 rl1) 11 fo1) 6 ot1) 10 lf1) 10 (va_up lf1 x0 ((lf1 x0) - 1))) 6 (va_up ot1 0 x0)) 10 rl_114) 11 fo_114) 6 ot_114) 10 lf_114) ++ tl) := hD
              refine jn_ladd hx hb dX11_arranges_117 ?_
              refine lv_lstore_n (lv' := [(3, .long (lN (z + r0_114))), (0, .ref (g.2.2.2 0)), (1, .int (nI 0)), (2, .int (nI st)), (5, .int (nI x0))]) hx hb dX11_arranges_118 rfl hl (by decide) rfl (fun ls hl => ?_)
              refine lv_aload_n hx hb dX11_arranges_119 rfl (lv_at hl 1 rfl) ?_
              refine va_get (D := (g.1, g.2.1)) (ci := 13) (v := .ref (g.2.2.2 13)) (C := RX11) (T := TX11) (N := 30) hx hb hts iX11 hown hK.1 hP 0 (gM0 g (sA (sA (sF (sF (sA (sA (sA (sA (sF (sF σ 10 rl1) 11 fo1) 6 ot1) 10 lf1) 10 (va_up lf1 x0 ((lf1 x0) - 1))) 6 (va_up ot1 0 x0)) 10 rl_114) 11 fo_114) 6 ot_114) 10 lf_114) tl) rfl 22 (by decide) k79 (fun _ h9 => h9) rfl dX11_arranges_120 ?_
              refine lv_iload hx hb dX11_arranges_123 (lv_at hl 4 rfl) ?_
              refine lv_dup2_11 hx hb dX11_arranges_125 rfl rfl ?_
              refine jn_iald (f := lf_114) hx hb hK.1 hP 13 0 (gM13 g (sA (sA (sF (sF (sA (sA (sA (sA (sF (sF σ 10 rl1) 11 fo1) 6 ot1) 10 lf1) 10 (va_up lf1 x0 ((lf1 x0) - 1))) 6 (va_up ot1 0 x0)) 10 rl_114) 11 fo_114) 6 ot_114) 10 lf_114) tl) rfl (by omega) (Nat.le_of_ble_eq_true rfl) dX11_arranges_126 ?_
              refine lv_iconst (v := nI 1) hx hb dX11_arranges_127 (by decide) ?_
              refine jn_iadd hx hb dX11_arranges_128 ?_
              refine jn_iast (f := lf_114) hx hb hK.1 hP hD hS 13 0 (gM13 g (sA (sA (sF (sF (sA (sA (sA (sA (sF (sF σ 10 rl1) 11 fo1) 6 ot1) 10 lf1) 10 (va_up lf1 x0 ((lf1 x0) - 1))) 6 (va_up ot1 0 x0)) 10 rl_114) 11 fo_114) 6 ot_114) 10 lf_114) tl) rfl (by omega) (Nat.le_of_ble_eq_true rfl) (uM_A10 g (sA (sA (sF (sF (sA (sA (sA (sA (sF (sF σ 10 rl1) 11 fo1) 6 ot1) 10 lf1) 10 (va_up lf1 x0 ((lf1 x0) - 1))) 6 (va_up ot1 0 x0)) 10 rl_114) 11 fo_114) 6 ot_114) 10 lf_114) tl _) dX11_arranges_129 (fun H locs hP hD hS => ?_)
              refine lv_iinc (v := nI (x0 + 1)) (lv' := [(5, .int (nI (x0 + 1))), (3, .long (lN (z + r0_114))), (0, .ref (g.2.2.2 0)), (1, .int (nI 0)), (2, .int (nI st))]) hx hb dX11_arranges_130 hl (k := 4) rfl (jn_ii _ 1) (by decide) rfl (fun ls hl => ?_)
              refine lv_goto (tgt := 57) hx hb dX11_arranges_133 (by decide) ?_
              exact ih57 (x0 + 1) (z + r0_114) rl_114 fo_114 ot_114 (va_up lf_114 x0 ((lf_114 x0) + 1)) (by omega) (by first | exact ari_no i2 (by omega) (by rw [← i4 _ (by omega)]; exact c_77) | exact ari_call i2 (by omega) (by omega) c_77 i4 (by rw [h_114.2.1 _ (by omega), va_up, if_pos rfl]) h_114.1) (by first | exact i3 | exact (fun i hi => by rw [h_114.2.1 i (by omega), va_up, if_neg (by omega)]; exact i3 i hi)) (by first | exact i4 | exact ar_lf i4 h_114.2.2.1 ⟨by omega, by omega⟩) (by first | exact i5 | exact h_114.2.2.2) (by omega) _ _ hP hD hS _ (lv_sub hl [2, 3, 4, 1, 0] rfl)
            · refine lv_goto (tgt := 130) hx hb dX11_arranges_80 (by decide) ?_
              refine lv_iinc (v := nI (x0 + 1)) (lv' := [(5, .int (nI (x0 + 1))), (0, .ref (g.2.2.2 0)), (1, .int (nI 0)), (2, .int (nI st)), (3, .long (lN z))]) hx hb dX11_arranges_130 hl (k := 4) rfl (jn_ii _ 1) (by decide) rfl (fun ls hl => ?_)
              refine lv_goto (tgt := 57) hx hb dX11_arranges_133 (by decide) ?_
              exact ih57 (x0 + 1) z rl1 fo1 ot1 lf1 (by omega) (by first | exact ari_no i2 (by omega) (by rw [← i4 _ (by omega)]; exact c_77) | exact ari_call i2 (by omega) (by omega) c_77 i4 (by rw [h_114.2.1 _ (by omega), va_up, if_pos rfl]) h_114.1) (by first | exact i3 | exact (fun i hi => by rw [h_114.2.1 i (by omega), va_up, if_neg (by omega)]; exact i3 i hi)) (by first | exact i4 | exact ar_lf i4 h_114.2.2.1 ⟨by omega, by omega⟩) (by first | exact i5 | exact h_114.2.2.2) (by omega) _ _ hP hD hS _ (lv_sub hl [1, 2, 3, 4, 0] rfl)
    exact lp57 _ 0 0 (σ.1 10) (σ.1 11) (σ.2.1 6) (σ.2.1 10) (by decide) (by rw [hfo]; exact ari_0) (fun _ _ => rfl) (fun _ _ => rfl) hrk (Nat.lt_succ_self _) _ _ hP hD hS _ (lv_sub hl [2, 3, 4, 1, 0] rfl)
  · have e0 : ((σ.1 6) - 0) = 0 := by omega
    refine lv_iload_n hx hb dX11_arranges_8 rfl (lv_at hl 2 rfl) ?_
    refine lv_aload_n hx hb dX11_arranges_9 rfl (lv_at hl 0 rfl) ?_
    refine va_get (D := (g.1, g.2.1)) (ci := 13) (v := .ref (g.2.2.2 1)) (C := RX11) (T := TX11) (N := 30) hx hb hts iX11 hown hK.1 hP 0 (gM0 g σ tl) rfl 1 (by decide) k13 (fun _ h9 => h9) rfl dX11_arranges_10 ?_
    refine lv_bipush (v := nI 15) hx hb dX11_arranges_13 (by decide) ?_
    refine jn_iald (f := σ.2.1 0) hx hb hK.1 hP 1 0 (gM1 g σ tl) rfl (by decide) (Nat.le_of_ble_eq_true rfl) dX11_arranges_15 ?_
    refine jn_iand hx hb dX11_arranges_16 ?_
    refine jn_zne hx hb (and_lt (by omega)) (tgt := 22) dX11_arranges_17 (by decide) (fun c_17 => ?_) (fun c_17 => ?_)
    · refine lv_aload_n hx hb dX11_arranges_22 rfl (lv_at hl 0 rfl) ?_
      refine lv_aload_n hx hb dX11_arranges_23 rfl (lv_at hl 0 rfl) ?_
      refine va_get (D := (g.1, g.2.1)) (ci := 13) (v := .long (lN (σ.1 10))) (C := RX11) (T := TX11) (N := 30) hx hb hts iX11 hown hK.1 hP 0 (gM0 g σ tl) rfl 23 (by decide) k82 (fun _ h9 => h9) rfl dX11_arranges_24 ?_
      refine lv_lconst (v := lN 0) hx hb dX11_arranges_27 (by decide) ?_
      refine jn_lcmp hx hb dX11_arranges_28 ?_
      have jp37 : ∀ v37 : Nat, v37 = (if (σ.1 10) = 0 then 1 else 0) → W p l e r_c_X11_arranges_d0 s m ([.ref (g.2.2.2 0), .int (nI 0), .int (nI st)] : List Value).toArray below meth c H locs 0 0 Q (F0 m 37 ls [.int (nI v37), .ref (g.2.2.2 0)]) := by
        intro v37 ev37
        refine jn_put (D := (g.1, g.2.1)) (ci := 13) (v := .int (nI v37)) (ty := .boolean) (C := RX11) (T := TX11) (N := 30) hx hb hts iX11 tyX11 tyX11_ok nmX11 hown hK.1 hP hD hS 0 (gM0 g σ tl) rfl 24 (by decide) k86 (fun _ h9 => h9) rfl (by decide +kernel) (by rw [ev37]; exact jn_nb _) (by rw [ev37]; exact jn_fb _) (Nat.le_of_ble_eq_true rfl) (uM_F11 g σ tl v37) dX11_arranges_37 (fun H locs hP hD hS => ?_)
        refine lv_aload_n hx hb dX11_arranges_40 rfl (lv_at hl 0 rfl) ?_
        refine lv_dup hx hb dX11_arranges_41 rfl ?_
        refine va_get (D := (g.1, g.2.1)) (ci := 13) (v := .long (lN (σ.1 10))) (C := RX11) (T := TX11) (N := 30) hx hb hts iX11 hown hK.1 hP 0 (gM0 g (sF σ 11 v37) tl) rfl 23 (by decide) k82 (fun _ h9 => h9) rfl dX11_arranges_42 ?_
        refine lv_lconst (v := lN 1) hx hb dX11_arranges_45 (by decide) ?_
        refine jn_lsub1 hx hb dX11_arranges_46 ?_
        refine jn_put (D := (g.1, g.2.1)) (ci := 13) (v := .long (lN (slb (σ.1 10)))) (ty := .long) (C := RX11) (T := TX11) (N := 30) hx hb hts iX11 tyX11 tyX11_ok nmX11 hown hK.1 hP hD hS 0 (gM0 g (sF σ 11 v37) tl) rfl 23 (by decide) k82 (fun _ h9 => h9) rfl (by decide +kernel) rfl rfl (Nat.le_of_ble_eq_true rfl) (uM_F10 g (sF σ 11 v37) tl (slb (σ.1 10))) dX11_arranges_47 (fun H locs hP hD hS => ?_)
        refine lv_lconst (v := lN 1) hx hb dX11_arranges_50 (by decide) ?_
        exact hq _ _ _ _ ((lN 1)) (1, (slb (σ.1 10)), v37, (σ.2.1 6), (σ.2.1 10)) dX11_arranges_51 ⟨rfl, by rw [e0, arrN, if_pos c_17]; by_cases q : (σ.1 10) = 0; { exact Or.inl ⟨by omega, by rw [ev37, if_pos q], trivial⟩ }; { exact Or.inr ⟨by omega, by rw [ev37, if_neg q], by unfold slb; rw [if_neg q], rfl⟩ }, fun _ _ => rfl, fun _ _ => rfl, slb_lt hrk⟩ hP hD hS
      refine jn_lneU hx hb hrk (by decide) (tgt := 36) dX11_arranges_29 (by decide) (fun c_29 => ?_) (fun c_29 => ?_)
      · refine lv_iconst (v := nI 0) hx hb dX11_arranges_36 (by decide) ?_
        exact jp37 0 (by rw [if_neg c_29])
      · refine lv_iconst (v := nI 1) hx hb dX11_arranges_32 (by decide) ?_
        refine lv_goto (tgt := 37) hx hb dX11_arranges_33 (by decide) ?_
        exact jp37 1 (by rw [if_pos c_29])
    · refine lv_lconst (v := lN 0) hx hb dX11_arranges_20 (by decide) ?_
      exact hq _ _ _ _ ((lN 0)) (0, (σ.1 10), (σ.1 11), (σ.2.1 6), (σ.2.1 10)) dX11_arranges_21 ⟨rfl, Or.inr (by rw [e0, arrN, if_neg (fun q => q c_17)]; exact ⟨by omega, hfo, rfl, rfl⟩), fun _ _ => rfl, fun _ _ => rfl, hrk⟩ hP hD hS

abbrev r_c_X11_arrangesAll : Room := { frames := 10, cells := 0, slots := 0, locals := 246 }
set_option maxHeartbeats 4000000 in
set_option maxRecDepth 100000 in
theorem c_X11_arrangesAll (l : Launch) (g : GC) (tl : va_W) (sz : Nat) (σ : SS) (rk : Nat) (hT : OkT (σ.2.1 0)) (hF : ((σ.2.1 0) 15) < 32) (hn : (σ.1 6) ≤ 8) (hw : ∀ i, i < (σ.1 6) → (σ.2.1 5) i < 3) (hrk : rk < 18446744073709551616) : Met l yX11_arrangesAll wsX11_arrangesAll r_c_X11_arrangesAll (va_Pc [.ref (g.2.2.2 0), .long (lN rk)] (PW g (wM g σ ++ tl) sz)) (va_Ql (fun (r : Int64) (z : Nat × Nat × Nat × (Nat → Nat) × (Nat → Nat)) => match z with | (r0, rl, fo, ot, lf) => (r = lN (r0)) ∧ ((rk < arrN (σ.2.1 0) ((σ.2.1 0) 15) (σ.1 6) (cntW (σ.2.1 5) (σ.1 6)) 1 ∧ fo = 1 ∧ isArr (σ.2.1 0) ((σ.2.1 0) 15) (σ.1 6) (cntW (σ.2.1 5) (σ.1 6)) 1 rk ot) ∨ (¬ rk < arrN (σ.2.1 0) ((σ.2.1 0) 15) (σ.1 6) (cntW (σ.2.1 5) (σ.1 6)) 1 ∧ fo = 0 ∧ r0 = arrN (σ.2.1 0) ((σ.2.1 0) 15) (σ.1 6) (cntW (σ.2.1 5) (σ.1 6)) 1))) (fun (z : Nat × Nat × Nat × (Nat → Nat) × (Nat → Nat)) t => BW g (va_A (wM g σ ++ tl) sz) ((fun z : Nat × Nat × Nat × (Nat → Nat) × (Nat → Nat) => match z with | (r0, rl, fo, ot, lf) => wM g (sA (sA (sF (sF σ 10 rl) 11 fo) 6 ot) 10 lf) ++ tl) z) t) (va_A (wM g σ ++ tl) sz)) 0 0 (va_A (wM g σ ++ tl) sz) := by
  refine jn_sl (wf := fun z : Nat × Nat × Nat × (Nat → Nat) × (Nat → Nat) => match z with | (r0, rl, fo, ot, lf) => wM g (sA (sA (sF (sF σ 10 rl) 11 fo) 6 ot) 10 lf) ++ tl) (cc := cX11_arrangesAll) (maxL := 4) (own := RX11) (by decide) rfl rfl (Nat.le_of_ble_eq_true rfl) ?_
  intro p e s m below meth c Q A hx hb hml hown hts hK hP hD hS hAA hq ls hl
  obtain ⟨H, eH⟩ : ∃ z, z = s.heap := ⟨_, rfl⟩
  obtain ⟨locs, el⟩ : ∃ z : List Loc, z = [] := ⟨_, rfl⟩
  rw [← eH] at hP
  have hS : va_S A s.heap H locs := by rw [eH, el]; exact hS
  have goal0 : W p l e r_c_X11_arrangesAll s m ([.ref (g.2.2.2 0), .long (lN rk)] : List Value).toArray below meth c H locs 0 0 Q (F0 m 0 ls []) → W p l e r_c_X11_arrangesAll s m ([.ref (g.2.2.2 0), .long (lN rk)] : List Value).toArray below meth c s.heap [] 0 0 Q (F0 m 0 ls []) := fun h => by rw [eH, el] at h; exact h
  refine goal0 ?_
  have hl : lv_has ls 4 [(0, .ref (g.2.2.2 0)), (1, .long (lN rk))] := hl
  have iX11 : ∀ w ∈ wsX110, w ∈ wsX11_arrangesAll := by decide +kernel
  have k51 := hts (.fieldLink RX11 51 "JumpingAutomataModel" "length" "I") (by decide +kernel)
  have k82 := hts (.fieldLink RX11 82 "JumpingAutomataModel" "rankLeft" "J") (by decide +kernel)
  have k86 := hts (.fieldLink RX11 86 "JumpingAutomataModel" "isFound" "Z") (by decide +kernel)
  have k79 := hts (.fieldLink RX11 79 "JumpingAutomataModel" "left" "[I") (by decide +kernel)
  have k45 := hts (.fieldLink RX11 45 "JumpingAutomataModel" "word" "[I") (by decide +kernel)
  refine lv_iconst (v := nI 0) hx hb dX11_arrangesAll_0 (by decide) ?_
  refine lv_istore_n (lv' := [(3, .int (nI 0)), (0, .ref (g.2.2.2 0)), (1, .long (lN rk))]) hx hb dX11_arrangesAll_1 rfl hl (by decide) rfl (fun ls hl => ?_)
  have lp2 : ∀ (fu : Nat), ∀ (i : Nat) (f : Nat → Nat), (i ≤ 3) → (∀ x, x < i → f x = 0) → 3 - i < fu → ∀ (H : Heap) (locs : List Loc), va_P (g.1, g.2.1) vwCl (wM g (sA σ 10 f) ++ tl) H → va_D A (wM g (sA σ 10 f) ++ tl) → va_S A s.heap H locs → ∀ ls : Array Slot, lv_has ls 4 [(0, .ref (g.2.2.2 0)), (1, .long (lN rk)), (3, .int (nI i))] → W p l e r_c_X11_arrangesAll s m ([.ref (g.2.2.2 0), .long (lN rk)] : List Value).toArray below meth c H locs 0 0 Q (F0 m 2 ls []) := by
    intro fu
    induction fu with
    | zero => intro i f h1 h2 hf; exact absurd hf (Nat.not_lt_zero _)
    | succ fu ih2 =>
      intro i f h1 h2 hf H locs hP hD hS ls hl
      refine lv_iload_n hx hb dX11_arrangesAll_2 rfl (lv_at hl 2 rfl) ?_
      refine lv_iconst (v := nI 3) hx hb dX11_arrangesAll_3 (by decide) ?_
      refine jn_cge hx hb (by omega) (by decide) (tgt := 20) dX11_arrangesAll_4 (by decide) (fun c_4 => ?_) (fun c_4 => ?_)
      · refine lv_iconst (v := nI 0) hx hb dX11_arrangesAll_20 (by decide) ?_
        refine lv_istore_n (lv' := [(3, .int (nI 0)), (0, .ref (g.2.2.2 0)), (1, .long (lN rk))]) hx hb dX11_arrangesAll_21 rfl hl (by decide) rfl (fun ls hl => ?_)
        have lp22 : ∀ (fu : Nat), ∀ (i : Nat) (f : Nat → Nat), (i ≤ (σ.1 6)) → (∀ x, x < 3 → f x = cntW (σ.2.1 5) i x) → (σ.1 6) - i < fu → ∀ (H : Heap) (locs : List Loc), va_P (g.1, g.2.1) vwCl (wM g (sA σ 10 f) ++ tl) H → va_D A (wM g (sA σ 10 f) ++ tl) → va_S A s.heap H locs → ∀ ls : Array Slot, lv_has ls 4 [(0, .ref (g.2.2.2 0)), (1, .long (lN rk)), (3, .int (nI i))] → W p l e r_c_X11_arrangesAll s m ([.ref (g.2.2.2 0), .long (lN rk)] : List Value).toArray below meth c H locs 0 0 Q (F0 m 22 ls []) := by
          intro fu
          induction fu with
          | zero => intro i f h3 h4 hf; exact absurd hf (Nat.not_lt_zero _)
          | succ fu ih22 =>
            intro i f h3 h4 hf H locs hP hD hS ls hl
            refine lv_iload_n hx hb dX11_arrangesAll_22 rfl (lv_at hl 2 rfl) ?_
            refine lv_aload_n hx hb dX11_arrangesAll_23 rfl (lv_at hl 0 rfl) ?_
            refine va_get (D := (g.1, g.2.1)) (ci := 13) (v := .int (nI (σ.1 6))) (C := RX11) (T := TX11) (N := 30) hx hb hts iX11 hown hK.1 hP 0 (gM0 g (sA σ 10 f) tl) rfl 13 (by decide) k51 (fun _ h9 => h9) rfl dX11_arrangesAll_24 ?_
            refine jn_cge hx hb (by omega) (by omega) (tgt := 51) dX11_arrangesAll_27 (by decide) (fun c_27 => ?_) (fun c_27 => ?_)
            · refine lv_aload_n hx hb dX11_arrangesAll_51 rfl (lv_at hl 0 rfl) ?_
              refine lv_lload_n hx hb dX11_arrangesAll_52 rfl (lv_at hl 1 rfl) ?_
              refine jn_put (D := (g.1, g.2.1)) (ci := 13) (v := .long (lN rk)) (ty := .long) (C := RX11) (T := TX11) (N := 30) hx hb hts iX11 tyX11 tyX11_ok nmX11 hown hK.1 hP hD hS 0 (gM0 g (sA σ 10 f) tl) rfl 23 (by decide) k82 (fun _ h9 => h9) rfl (by decide +kernel) rfl rfl (Nat.le_of_ble_eq_true rfl) (uM_F10 g (sA σ 10 f) tl rk) dX11_arrangesAll_53 (fun H locs hP hD hS => ?_)
              refine lv_aload_n hx hb dX11_arrangesAll_56 rfl (lv_at hl 0 rfl) ?_
              refine lv_iconst (v := nI 0) hx hb dX11_arrangesAll_57 (by decide) ?_
              refine jn_put (D := (g.1, g.2.1)) (ci := 13) (v := .int (nI 0)) (ty := .boolean) (C := RX11) (T := TX11) (N := 30) hx hb hts iX11 tyX11 tyX11_ok nmX11 hown hK.1 hP hD hS 0 (gM0 g (sF (sA σ 10 f) 10 rk) tl) rfl 24 (by decide) k86 (fun _ h9 => h9) rfl (by decide +kernel) jn_n0 jn_f0 (Nat.le_of_ble_eq_true rfl) (uM_F11 g (sF (sA σ 10 f) 10 rk) tl 0) dX11_arrangesAll_58 (fun H locs hP hD hS => ?_)
              refine lv_aload_n hx hb dX11_arrangesAll_61 rfl (lv_at hl 0 rfl) ?_
              refine lv_iconst (v := nI 0) hx hb dX11_arrangesAll_62 (by decide) ?_
              refine lv_iconst (v := nI 1) hx hb dX11_arrangesAll_63 (by decide) ?_
              have e1 : i = (σ.1 6) := by omega
              have h5 : ∀ x, x < 3 → f x = (cntW (σ.2.1 5) (σ.1 6)) x := by rw [← e1]; exact h4
              have eA : arrN (σ.2.1 0) ((σ.2.1 0) 15) ((σ.1 6) - 0) f 1 = arrN (σ.2.1 0) ((σ.2.1 0) 15) (σ.1 6) (cntW (σ.2.1 5) (σ.1 6)) 1 := arrN_cong _ _ _ _ _ _ h5
              refine jn_calll (va_runV (As := [.int (nI 0), .int (nI 1)]) (rest := []) ⟨hx, hb, hml, hown, hts⟩ (c_X11_arranges_d0 l g tl H.size (sF (sF (sA σ 10 f) 10 rk) 11 0) 1 hT hF hn (Nat.zero_le _) (by decide) rfl hrk (show f 0 + f 1 + f 2 = (σ.1 6) - 0 by rw [h5 0 (by decide), h5 1 (by decide), h5 2 (by decide), cntW_sum _ hw]; rfl)) (cwV 2 hts gX11_arrangesAll_X11_arranges rfl rfl rfl (by decide +kernel) ⟨Nat.le_of_ble_eq_true rfl, Nat.le_of_ble_eq_true rfl⟩) (okWV hK hP hD rfl (gM0 g (sF (sF (sA σ 10 f) 10 rk) 11 0) tl)) rfl rfl hl.1 rfl (lv_room (Nat.le_of_ble_eq_true rfl)) dX11_arrangesAll_64 ⟨Nat.le_of_ble_eq_true rfl, Nat.le_of_ble_eq_true rfl⟩) hD hS hAA (fun r_64 u H locs hw_ hP hD hS => ?_)
              obtain ⟨r0_64, rl_64, fo_64, ot_64, lf_64⟩ := u
              obtain ⟨rfl, h_64⟩ := hw_
              have h_64 : (((rk) < arrN (σ.2.1 0) ((σ.2.1 0) 15) ((σ.1 6) - 0) (f) 1 ∧ fo_64 = 1 ∧ isArr (σ.2.1 0) ((σ.2.1 0) 15) ((σ.1 6) - 0) (f) 1 (rk) (fun i => ot_64 (0 + i))) ∨ (¬ (rk) < arrN (σ.2.1 0) ((σ.2.1 0) 15) ((σ.1 6) - 0) (f) 1 ∧ fo_64 = 0 ∧ rl_64 = (rk) - arrN (σ.2.1 0) ((σ.2.1 0) 15) ((σ.1 6) - 0) (f) 1 ∧ r0_64 = arrN (σ.2.1 0) ((σ.2.1 0) 15) ((σ.1 6) - 0) (f) 1)) ∧ (∀ i, i < 0 → ot_64 i = (σ.2.1 6) i) ∧ (∀ x, x < 3 → lf_64 x = (f) x) ∧ (rl_64 < 18446744073709551616) := h_64
              have hP : va_P (g.1, g.2.1) vwCl (wM g (sA (sA (sF (sF (sF (sF (sA σ 10 f) 10 rk) 11 0) 10 rl_64) 11 fo_64) 6 ot_64) 10 lf_64) ++ tl) H := hP
              have hD : va_D A (wM g (sA (sA (sF (sF (sF (sF (sA σ 10 f) 10 rk) 11 0) 10 rl_64) 11 fo_64) 6 ot_64) 10 lf_64) ++ tl) := hD
              exact hq _ _ _ _ ((lN r0_64)) (r0_64, rl_64, fo_64, ot_64, lf_64) dX11_arrangesAll_67 ⟨rfl, by rcases h_64.1 with z | z; { exact Or.inl ⟨by have := z.1; rw [eA] at this; exact this, z.2.1, isArr_cong _ _ _ _ _ _ _ _ _ h5 (fun i _ => by rw [Nat.zero_add]) z.2.2⟩ }; { exact Or.inr ⟨by have := z.1; rw [eA] at this; exact this, z.2.1, by rw [z.2.2.2, eA]⟩ }⟩ hP hD hS
            · refine lv_aload_n hx hb dX11_arrangesAll_30 rfl (lv_at hl 0 rfl) ?_
              refine va_get (D := (g.1, g.2.1)) (ci := 13) (v := .ref (g.2.2.2 13)) (C := RX11) (T := TX11) (N := 30) hx hb hts iX11 hown hK.1 hP 0 (gM0 g (sA σ 10 f) tl) rfl 22 (by decide) k79 (fun _ h9 => h9) rfl dX11_arrangesAll_31 ?_
              refine lv_aload_n hx hb dX11_arrangesAll_34 rfl (lv_at hl 0 rfl) ?_
              refine va_get (D := (g.1, g.2.1)) (ci := 13) (v := .ref (g.2.2.2 6)) (C := RX11) (T := TX11) (N := 30) hx hb hts iX11 hown hK.1 hP 0 (gM0 g (sA σ 10 f) tl) rfl 11 (by decide) k45 (fun _ h9 => h9) rfl dX11_arrangesAll_35 ?_
              refine lv_iload_n hx hb dX11_arrangesAll_38 rfl (lv_at hl 2 rfl) ?_
              refine jn_iald (f := σ.2.1 5) hx hb hK.1 hP 6 0 (gM6 g (sA σ 10 f) tl) rfl (by omega) (Nat.le_of_ble_eq_true rfl) dX11_arrangesAll_39 ?_
              refine lv_dup2_11 hx hb dX11_arrangesAll_40 rfl rfl ?_
              refine jn_iald (f := f) hx hb hK.1 hP 13 0 (gM13 g (sA σ 10 f) tl) rfl (hw i (by omega)) (Nat.le_of_ble_eq_true rfl) dX11_arrangesAll_41 ?_
              refine lv_iconst (v := nI 1) hx hb dX11_arrangesAll_42 (by decide) ?_
              refine jn_iadd hx hb dX11_arrangesAll_43 ?_
              refine jn_iast (f := f) hx hb hK.1 hP hD hS 13 0 (gM13 g (sA σ 10 f) tl) rfl (hw i (by omega)) (Nat.le_of_ble_eq_true rfl) (uM_A10 g (sA σ 10 f) tl _) dX11_arrangesAll_44 (fun H locs hP hD hS => ?_)
              refine lv_iinc (v := nI (i + 1)) (lv' := [(3, .int (nI (i + 1))), (0, .ref (g.2.2.2 0)), (1, .long (lN rk))]) hx hb dX11_arrangesAll_45 hl (k := 2) rfl (jn_ii _ 1) (by decide) rfl (fun ls hl => ?_)
              refine lv_goto (tgt := 22) hx hb dX11_arrangesAll_48 (by decide) ?_
              exact ih22 (i + 1) (va_up f ((σ.2.1 5) i) ((f ((σ.2.1 5) i)) + 1)) (by omega) (cntW_put h4 (hw i (by omega))) (by omega) _ _ hP hD hS _ (lv_sub hl [1, 2, 0] rfl)
        exact lp22 _ 0 f (by omega) (fun x hx => h2 x (by omega)) (Nat.lt_succ_self _) _ _ hP hD hS _ (lv_sub hl [1, 2, 0] rfl)
      · refine lv_aload_n hx hb dX11_arrangesAll_7 rfl (lv_at hl 0 rfl) ?_
        refine va_get (D := (g.1, g.2.1)) (ci := 13) (v := .ref (g.2.2.2 13)) (C := RX11) (T := TX11) (N := 30) hx hb hts iX11 hown hK.1 hP 0 (gM0 g (sA σ 10 f) tl) rfl 22 (by decide) k79 (fun _ h9 => h9) rfl dX11_arrangesAll_8 ?_
        refine lv_iload_n hx hb dX11_arrangesAll_11 rfl (lv_at hl 2 rfl) ?_
        refine lv_iconst (v := nI 0) hx hb dX11_arrangesAll_12 (by decide) ?_
        refine jn_iast (f := f) hx hb hK.1 hP hD hS 13 0 (gM13 g (sA σ 10 f) tl) rfl (by omega) (Nat.le_of_ble_eq_true rfl) (uM_A10 g (sA σ 10 f) tl _) dX11_arrangesAll_13 (fun H locs hP hD hS => ?_)
        refine lv_iinc (v := nI (i + 1)) (lv' := [(3, .int (nI (i + 1))), (0, .ref (g.2.2.2 0)), (1, .long (lN rk))]) hx hb dX11_arrangesAll_14 hl (k := 2) rfl (jn_ii _ 1) (by decide) rfl (fun ls hl => ?_)
        refine lv_goto (tgt := 2) hx hb dX11_arrangesAll_17 (by decide) ?_
        exact ih2 (i + 1) (va_up f i 0) (by omega) (fun k hk => by unfold va_up; split <;> first | rfl | exact h2 k (by omega)) (by omega) _ _ hP hD hS _ (lv_sub hl [1, 2, 0] rfl)
  exact lp2 _ 0 (σ.2.1 10) (by decide) (fun k hk => absurd hk (by omega)) (Nat.lt_succ_self _) _ _ hP hD hS _ (lv_sub hl [1, 2, 0] rfl)

abbrev r_c_X11_acceptedArrangements : Room := { frames := 11, cells := 0, slots := 0, locals := 269 }
set_option maxHeartbeats 4000000 in
set_option maxRecDepth 100000 in
theorem c_X11_acceptedArrangements (l : Launch) (g : GC) (tl : va_W) (sz : Nat) (σ : SS) (hT : OkT (σ.2.1 0)) (hF : ((σ.2.1 0) 15) < 32) (hn : (σ.1 6) ≤ 8) (hw : ∀ i, i < (σ.1 6) → (σ.2.1 5) i < 3) : Met l yX11_acceptedArrangements wsX11_acceptedArrangements r_c_X11_acceptedArrangements (va_Pc [.ref (g.2.2.2 0)] (PW g (wM g σ ++ tl) sz)) (va_Ql (fun (r : Int64) (z : Nat × Nat × (Nat → Nat) × (Nat → Nat)) => match z with | (rl, fo, ot, lf) => r = lN (arrN (σ.2.1 0) ((σ.2.1 0) 15) (σ.1 6) (cntW (σ.2.1 5) (σ.1 6)) 1)) (fun (z : Nat × Nat × (Nat → Nat) × (Nat → Nat)) t => BW g (va_A (wM g σ ++ tl) sz) ((fun z : Nat × Nat × (Nat → Nat) × (Nat → Nat) => match z with | (rl, fo, ot, lf) => wM g (sA (sA (sF (sF σ 10 rl) 11 fo) 6 ot) 10 lf) ++ tl) z) t) (va_A (wM g σ ++ tl) sz)) 0 0 (va_A (wM g σ ++ tl) sz) := by
  refine jn_sl (wf := fun z : Nat × Nat × (Nat → Nat) × (Nat → Nat) => match z with | (rl, fo, ot, lf) => wM g (sA (sA (sF (sF σ 10 rl) 11 fo) 6 ot) 10 lf) ++ tl) (cc := cX11_acceptedArrangements) (maxL := 1) (own := RX11) (by decide) rfl rfl (Nat.le_of_ble_eq_true rfl) ?_
  intro p e s m below meth c Q A hx hb hml hown hts hK hP hD hS hAA hq ls hl
  obtain ⟨H, eH⟩ : ∃ z, z = s.heap := ⟨_, rfl⟩
  obtain ⟨locs, el⟩ : ∃ z : List Loc, z = [] := ⟨_, rfl⟩
  rw [← eH] at hP
  have hS : va_S A s.heap H locs := by rw [eH, el]; exact hS
  have goal0 : W p l e r_c_X11_acceptedArrangements s m ([.ref (g.2.2.2 0)] : List Value).toArray below meth c H locs 0 0 Q (F0 m 0 ls []) → W p l e r_c_X11_acceptedArrangements s m ([.ref (g.2.2.2 0)] : List Value).toArray below meth c s.heap [] 0 0 Q (F0 m 0 ls []) := fun h => by rw [eH, el] at h; exact h
  refine goal0 ?_
  have hl : lv_has ls 1 [(0, .ref (g.2.2.2 0))] := hl
  refine lv_aload_n hx hb dX11_acceptedArrangements_0 rfl (lv_at hl 0 rfl) ?_
  refine lv_ldc2 (v := -1) hx hb hown (hts (.constantLong RX11 189 (-1)) (by decide +kernel)) dX11_acceptedArrangements_1 ?_
  rw [show ((-1 : Int64)) = lN 18446744073709551615 from rfl]
  refine jn_calll (va_runV (As := [.long (lN 18446744073709551615)]) (rest := []) ⟨hx, hb, hml, hown, hts⟩ (c_X11_arrangesAll l g tl H.size σ 18446744073709551615 hT hF hn hw (by decide)) (cwV 1 hts gX11_acceptedArrangements_X11_arrangesAll rfl rfl rfl (by decide +kernel) ⟨Nat.le_of_ble_eq_true rfl, Nat.le_of_ble_eq_true rfl⟩) (okWV hK hP hD rfl (gM0 g σ tl)) rfl rfl hl.1 rfl (lv_room (Nat.le_of_ble_eq_true rfl)) dX11_acceptedArrangements_4 ⟨Nat.le_of_ble_eq_true rfl, Nat.le_of_ble_eq_true rfl⟩) hD hS hAA (fun r_4 u H locs hw_ hP hD hS => ?_)
  obtain ⟨r0_4, rl_4, fo_4, ot_4, lf_4⟩ := u
  obtain ⟨rfl, h_4⟩ := hw_
  have h_4 : (18446744073709551615 < arrN (σ.2.1 0) ((σ.2.1 0) 15) (σ.1 6) (cntW (σ.2.1 5) (σ.1 6)) 1 ∧ fo_4 = 1 ∧ isArr (σ.2.1 0) ((σ.2.1 0) 15) (σ.1 6) (cntW (σ.2.1 5) (σ.1 6)) 1 18446744073709551615 ot_4) ∨ (¬ 18446744073709551615 < arrN (σ.2.1 0) ((σ.2.1 0) 15) (σ.1 6) (cntW (σ.2.1 5) (σ.1 6)) 1 ∧ fo_4 = 0 ∧ r0_4 = arrN (σ.2.1 0) ((σ.2.1 0) 15) (σ.1 6) (cntW (σ.2.1 5) (σ.1 6)) 1) := h_4
  have hP : va_P (g.1, g.2.1) vwCl (wM g (sA (sA (sF (sF σ 10 rl_4) 11 fo_4) 6 ot_4) 10 lf_4) ++ tl) H := hP
  have hD : va_D A (wM g (sA (sA (sF (sF σ 10 rl_4) 11 fo_4) 6 ot_4) 10 lf_4) ++ tl) := hD
  have hle : arrN (σ.2.1 0) ((σ.2.1 0) 15) (σ.1 6) (cntW (σ.2.1 5) (σ.1 6)) 1 ≤ 3 ^ 8 := Nat.le_trans (arrN_le _ _ _ _ _) (Nat.pow_le_pow_right (by decide) hn)
  have er : r0_4 = arrN (σ.2.1 0) ((σ.2.1 0) 15) (σ.1 6) (cntW (σ.2.1 5) (σ.1 6)) 1 := by rcases h_4 with z | z; { have := z.1; omega }; { exact z.2.2 }
  exact hq _ _ _ _ ((lN r0_4)) (rl_4, fo_4, ot_4, lf_4) dX11_acceptedArrangements_7 (by rw [er]) hP hD hS

abbrev r_c_X11_takeArrangement : Room := { frames := 11, cells := 0, slots := 0, locals := 269 }
set_option maxHeartbeats 4000000 in
set_option maxRecDepth 100000 in
theorem c_X11_takeArrangement (l : Launch) (g : GC) (tl : va_W) (sz : Nat) (σ : SS) (rk : Nat) (hT : OkT (σ.2.1 0)) (hF : ((σ.2.1 0) 15) < 32) (hn : (σ.1 6) ≤ 8) (hw : ∀ i, i < (σ.1 6) → (σ.2.1 5) i < 3) (hrk : rk < 4294967296) : Met l yX11_takeArrangement wsX11_takeArrangement r_c_X11_takeArrangement (va_Pc [.ref (g.2.2.2 0), .int (nI rk)] (PW g (wM g σ ++ tl) sz)) (va_Qi (fun (r : Int32) (z : Nat × Nat × Nat × Nat × (Nat → Nat) × (Nat → Nat) × (Nat → Nat)) => match z with | (r0, th, rl, fo, wd, ot, lf) => (r = nI (r0)) ∧ ((2147483648 ≤ rk ∧ th = 1 ∧ wd = (σ.2.1 5)) ∨ (rk < 2147483648 ∧ ¬ rk < arrN (σ.2.1 0) ((σ.2.1 0) 15) (σ.1 6) (cntW (σ.2.1 5) (σ.1 6)) 1 ∧ th = 2 ∧ wd = (σ.2.1 5)) ∨ (rk < 2147483648 ∧ rk < arrN (σ.2.1 0) ((σ.2.1 0) 15) (σ.1 6) (cntW (σ.2.1 5) (σ.1 6)) 1 ∧ th = 0 ∧ r0 = (σ.1 6) ∧ isArr (σ.2.1 0) ((σ.2.1 0) 15) (σ.1 6) (cntW (σ.2.1 5) (σ.1 6)) 1 rk wd))) (fun (z : Nat × Nat × Nat × Nat × (Nat → Nat) × (Nat → Nat) × (Nat → Nat)) t => BW g (va_A (wM g σ ++ tl) sz) ((fun z : Nat × Nat × Nat × Nat × (Nat → Nat) × (Nat → Nat) × (Nat → Nat) => match z with | (r0, th, rl, fo, wd, ot, lf) => wM g (sA (sA (sA (sF (sF (sF σ 0 th) 10 rl) 11 fo) 5 wd) 6 ot) 10 lf) ++ tl) z) t) (va_A (wM g σ ++ tl) sz)) 0 0 (va_A (wM g σ ++ tl) sz) := by
  refine jn_si (wf := fun z : Nat × Nat × Nat × Nat × (Nat → Nat) × (Nat → Nat) × (Nat → Nat) => match z with | (r0, th, rl, fo, wd, ot, lf) => wM g (sA (sA (sA (sF (sF (sF σ 0 th) 10 rl) 11 fo) 5 wd) 6 ot) 10 lf) ++ tl) (cc := cX11_takeArrangement) (maxL := 5) (own := RX11) (by decide) rfl rfl (Nat.le_of_ble_eq_true rfl) ?_
  intro p e s m below meth c Q A hx hb hml hown hts hK hP hD hS hAA hq ls hl
  obtain ⟨H, eH⟩ : ∃ z, z = s.heap := ⟨_, rfl⟩
  obtain ⟨locs, el⟩ : ∃ z : List Loc, z = [] := ⟨_, rfl⟩
  rw [← eH] at hP
  have hS : va_S A s.heap H locs := by rw [eH, el]; exact hS
  have goal0 : W p l e r_c_X11_takeArrangement s m ([.ref (g.2.2.2 0), .int (nI rk)] : List Value).toArray below meth c H locs 0 0 Q (F0 m 0 ls []) → W p l e r_c_X11_takeArrangement s m ([.ref (g.2.2.2 0), .int (nI rk)] : List Value).toArray below meth c s.heap [] 0 0 Q (F0 m 0 ls []) := fun h => by rw [eH, el] at h; exact h
  refine goal0 ?_
  have hl : lv_has ls 5 [(0, .ref (g.2.2.2 0)), (1, .int (nI rk))] := hl
  have iX11 : ∀ w ∈ wsX110, w ∈ wsX11_takeArrangement := by decide +kernel
  have k1 := hts (.fieldLink RX11 1 "JumpingAutomataModel" "thrown" "I") (by decide +kernel)
  have k86 := hts (.fieldLink RX11 86 "JumpingAutomataModel" "isFound" "Z") (by decide +kernel)
  have k51 := hts (.fieldLink RX11 51 "JumpingAutomataModel" "length" "I") (by decide +kernel)
  have k45 := hts (.fieldLink RX11 45 "JumpingAutomataModel" "word" "[I") (by decide +kernel)
  have k48 := hts (.fieldLink RX11 48 "JumpingAutomataModel" "other" "[I") (by decide +kernel)
  refine lv_aload_n hx hb dX11_takeArrangement_0 rfl (lv_at hl 0 rfl) ?_
  refine lv_iconst (v := nI 0) hx hb dX11_takeArrangement_1 (by decide) ?_
  refine jn_put (D := (g.1, g.2.1)) (ci := 13) (v := .int (nI 0)) (ty := .int) (C := RX11) (T := TX11) (N := 30) hx hb hts iX11 tyX11 tyX11_ok nmX11 hown hK.1 hP hD hS 0 (gM0 g σ tl) rfl 0 (by decide) k1 (fun _ h9 => h9) rfl (by decide +kernel) rfl rfl (Nat.le_of_ble_eq_true rfl) (uM_F0 g σ tl 0) dX11_takeArrangement_2 (fun H locs hP hD hS => ?_)
  refine lv_iload_n hx hb dX11_takeArrangement_5 rfl (lv_at hl 1 rfl) ?_
  refine jn_zge hx hb (by omega) (tgt := 15) dX11_takeArrangement_6 (by decide) (fun c_6 => ?_) (fun c_6 => ?_)
  · refine lv_aload_n hx hb dX11_takeArrangement_15 rfl (lv_at hl 0 rfl) ?_
    refine lv_iload_n hx hb dX11_takeArrangement_16 rfl (lv_at hl 1 rfl) ?_
    refine jn_i2l hx hb (by omega) dX11_takeArrangement_17 ?_
    refine jn_calll (va_runV (As := [.long (lN rk)]) (rest := []) ⟨hx, hb, hml, hown, hts⟩ (c_X11_arrangesAll l g tl H.size (sF σ 0 0) rk hT hF hn hw (by omega)) (cwV 1 hts gX11_takeArrangement_X11_arrangesAll rfl rfl rfl (by decide +kernel) ⟨Nat.le_of_ble_eq_true rfl, Nat.le_of_ble_eq_true rfl⟩) (okWV hK hP hD rfl (gM0 g (sF σ 0 0) tl)) rfl rfl hl.1 rfl (lv_room (Nat.le_of_ble_eq_true rfl)) dX11_takeArrangement_18 ⟨Nat.le_of_ble_eq_true rfl, Nat.le_of_ble_eq_true rfl⟩) hD hS hAA (fun r_18 u H locs hw_ hP hD hS => ?_)
    obtain ⟨r0_18, rl_18, fo_18, ot_18, lf_18⟩ := u
    obtain ⟨rfl, h_18⟩ := hw_
    have h_18 : (rk < arrN (σ.2.1 0) ((σ.2.1 0) 15) (σ.1 6) (cntW (σ.2.1 5) (σ.1 6)) 1 ∧ fo_18 = 1 ∧ isArr (σ.2.1 0) ((σ.2.1 0) 15) (σ.1 6) (cntW (σ.2.1 5) (σ.1 6)) 1 rk ot_18) ∨ (¬ rk < arrN (σ.2.1 0) ((σ.2.1 0) 15) (σ.1 6) (cntW (σ.2.1 5) (σ.1 6)) 1 ∧ fo_18 = 0 ∧ r0_18 = arrN (σ.2.1 0) ((σ.2.1 0) 15) (σ.1 6) (cntW (σ.2.1 5) (σ.1 6)) 1) := h_18
    have hP : va_P (g.1, g.2.1) vwCl (wM g (sA (sA (sF (sF (sF σ 0 0) 10 rl_18) 11 fo_18) 6 ot_18) 10 lf_18) ++ tl) H := hP
    have hD : va_D A (wM g (sA (sA (sF (sF (sF σ 0 0) 10 rl_18) 11 fo_18) 6 ot_18) 10 lf_18) ++ tl) := hD
    have hf01 : fo_18 = 1 ∨ fo_18 = 0 := h_18.imp (fun z => z.2.1) (fun z => z.2.1)
    refine lv_lstore_n (lv' := [(2, .long (lN r0_18)), (0, .ref (g.2.2.2 0)), (1, .int (nI rk))]) hx hb dX11_takeArrangement_21 rfl hl (by decide) rfl (fun ls hl => ?_)
    refine lv_aload_n hx hb dX11_takeArrangement_22 rfl (lv_at hl 1 rfl) ?_
    refine va_get (D := (g.1, g.2.1)) (ci := 13) (v := .int (nI fo_18)) (C := RX11) (T := TX11) (N := 30) hx hb hts iX11 hown hK.1 hP 0 (gM0 g (sA (sA (sF (sF (sF σ 0 0) 10 rl_18) 11 fo_18) 6 ot_18) 10 lf_18) tl) rfl 24 (by decide) k86 (fun _ h9 => h9) rfl dX11_takeArrangement_23 ?_
    refine jn_zne hx hb (by omega) (tgt := 35) dX11_takeArrangement_26 (by decide) (fun c_26 => ?_) (fun c_26 => ?_)
    · have hr := h_18.resolve_right (fun z => by have := z.2.1; omega)
      refine lv_iconst (v := nI 0) hx hb dX11_takeArrangement_35 (by decide) ?_
      refine lv_istore (lv' := [(4, .int (nI 0)), (2, .long (lN r0_18)), (0, .ref (g.2.2.2 0)), (1, .int (nI rk))]) hx hb dX11_takeArrangement_36 hl (by decide) rfl (fun ls hl => ?_)
      have lp38 : ∀ (fu : Nat), ∀ (i : Nat) (f : Nat → Nat), (i ≤ (σ.1 6)) → (∀ k, k < i → f k = ot_18 k) → (σ.1 6) - i < fu → ∀ (H : Heap) (locs : List Loc), va_P (g.1, g.2.1) vwCl (wM g (sA (sA (sA (sF (sF (sF σ 0 0) 10 rl_18) 11 fo_18) 5 f) 6 ot_18) 10 lf_18) ++ tl) H → va_D A (wM g (sA (sA (sA (sF (sF (sF σ 0 0) 10 rl_18) 11 fo_18) 5 f) 6 ot_18) 10 lf_18) ++ tl) → va_S A s.heap H locs → ∀ ls : Array Slot, lv_has ls 5 [(0, .ref (g.2.2.2 0)), (1, .int (nI rk)), (4, .int (nI i))] → W p l e r_c_X11_takeArrangement s m ([.ref (g.2.2.2 0), .int (nI rk)] : List Value).toArray below meth c H locs 0 0 Q (F0 m 38 ls []) := by
        intro fu
        induction fu with
        | zero => intro i f h1 h2 hf; exact absurd hf (Nat.not_lt_zero _)
        | succ fu ih38 =>
          intro i f h1 h2 hf H locs hP hD hS ls hl
          refine lv_iload hx hb dX11_takeArrangement_38 (lv_at hl 2 rfl) ?_
          refine lv_aload_n hx hb dX11_takeArrangement_40 rfl (lv_at hl 0 rfl) ?_
          refine va_get (D := (g.1, g.2.1)) (ci := 13) (v := .int (nI (σ.1 6))) (C := RX11) (T := TX11) (N := 30) hx hb hts iX11 hown hK.1 hP 0 (gM0 g (sA (sA (sA (sF (sF (sF σ 0 0) 10 rl_18) 11 fo_18) 5 f) 6 ot_18) 10 lf_18) tl) rfl 13 (by decide) k51 (fun _ h9 => h9) rfl dX11_takeArrangement_41 ?_
          refine jn_cge hx hb (by omega) (by omega) (tgt := 67) dX11_takeArrangement_44 (by decide) (fun c_44 => ?_) (fun c_44 => ?_)
          · refine lv_aload_n hx hb dX11_takeArrangement_67 rfl (lv_at hl 0 rfl) ?_
            refine va_get (D := (g.1, g.2.1)) (ci := 13) (v := .int (nI (σ.1 6))) (C := RX11) (T := TX11) (N := 30) hx hb hts iX11 hown hK.1 hP 0 (gM0 g (sA (sA (sA (sF (sF (sF σ 0 0) 10 rl_18) 11 fo_18) 5 f) 6 ot_18) 10 lf_18) tl) rfl 13 (by decide) k51 (fun _ h9 => h9) rfl dX11_takeArrangement_68 ?_
            exact hq _ _ _ _ ((nI (σ.1 6))) (_, 0, rl_18, fo_18, f, ot_18, lf_18) dX11_takeArrangement_71 ⟨rfl, (Or.inr (Or.inr ⟨by omega, hr.1, rfl, rfl, isArr_cong _ _ _ _ _ _ _ _ _ (fun _ _ => rfl) (fun k hk => (h2 k (by omega)).symm) hr.2.2⟩))⟩ hP hD hS
          · refine lv_aload_n hx hb dX11_takeArrangement_47 rfl (lv_at hl 0 rfl) ?_
            refine va_get (D := (g.1, g.2.1)) (ci := 13) (v := .ref (g.2.2.2 6)) (C := RX11) (T := TX11) (N := 30) hx hb hts iX11 hown hK.1 hP 0 (gM0 g (sA (sA (sA (sF (sF (sF σ 0 0) 10 rl_18) 11 fo_18) 5 f) 6 ot_18) 10 lf_18) tl) rfl 11 (by decide) k45 (fun _ h9 => h9) rfl dX11_takeArrangement_48 ?_
            refine lv_iload hx hb dX11_takeArrangement_51 (lv_at hl 2 rfl) ?_
            refine lv_aload_n hx hb dX11_takeArrangement_53 rfl (lv_at hl 0 rfl) ?_
            refine va_get (D := (g.1, g.2.1)) (ci := 13) (v := .ref (g.2.2.2 7)) (C := RX11) (T := TX11) (N := 30) hx hb hts iX11 hown hK.1 hP 0 (gM0 g (sA (sA (sA (sF (sF (sF σ 0 0) 10 rl_18) 11 fo_18) 5 f) 6 ot_18) 10 lf_18) tl) rfl 12 (by decide) k48 (fun _ h9 => h9) rfl dX11_takeArrangement_54 ?_
            refine lv_iload hx hb dX11_takeArrangement_57 (lv_at hl 2 rfl) ?_
            refine jn_iald (f := ot_18) hx hb hK.1 hP 7 0 (gM7 g (sA (sA (sA (sF (sF (sF σ 0 0) 10 rl_18) 11 fo_18) 5 f) 6 ot_18) 10 lf_18) tl) rfl (by omega) (Nat.le_of_ble_eq_true rfl) dX11_takeArrangement_59 ?_
            refine jn_iast (f := f) hx hb hK.1 hP hD hS 6 0 (gM6 g (sA (sA (sA (sF (sF (sF σ 0 0) 10 rl_18) 11 fo_18) 5 f) 6 ot_18) 10 lf_18) tl) rfl (by omega) (Nat.le_of_ble_eq_true rfl) (uM_A5 g (sA (sA (sA (sF (sF (sF σ 0 0) 10 rl_18) 11 fo_18) 5 f) 6 ot_18) 10 lf_18) tl _) dX11_takeArrangement_60 (fun H locs hP hD hS => ?_)
            refine lv_iinc (v := nI (i + 1)) (lv' := [(4, .int (nI (i + 1))), (0, .ref (g.2.2.2 0)), (1, .int (nI rk))]) hx hb dX11_takeArrangement_61 hl (k := 2) rfl (jn_ii _ 1) (by decide) rfl (fun ls hl => ?_)
            refine lv_goto (tgt := 38) hx hb dX11_takeArrangement_64 (by decide) ?_
            exact ih38 (i + 1) (va_up f i (ot_18 i)) (by omega) (fun k hk => by unfold va_up; split; { rename_i e; rw [e] }; { exact h2 k (by omega) }) (by omega) _ _ hP hD hS _ (lv_sub hl [1, 2, 0] rfl)
      exact lp38 _ 0 (σ.2.1 5) (by omega) (fun k hk => absurd hk (by omega)) (Nat.lt_succ_self _) _ _ hP hD hS _ (lv_sub hl [2, 3, 0] rfl)
    · have hr := h_18.resolve_left (fun z => by have := z.2.1; omega)
      refine lv_aload_n hx hb dX11_takeArrangement_29 rfl (lv_at hl 1 rfl) ?_
      refine lv_iconst (v := nI 2) hx hb dX11_takeArrangement_30 (by decide) ?_
      refine jn_calli (va_runV (As := [.int (nI 2)]) (rest := []) ⟨hx, hb, hml, hown, hts⟩ (c_X11_fails l g tl H.size (sA (sA (sF (sF (sF σ 0 0) 10 rl_18) 11 fo_18) 6 ot_18) 10 lf_18) 2) (cwV 1 hts gX11_takeArrangement_X11_fails rfl rfl rfl (by decide +kernel) ⟨Nat.le_of_ble_eq_true rfl, Nat.le_of_ble_eq_true rfl⟩) (okWV hK hP hD rfl (gM0 g (sA (sA (sF (sF (sF σ 0 0) 10 rl_18) 11 fo_18) 6 ot_18) 10 lf_18) tl)) rfl rfl hl.1 rfl (lv_room (Nat.le_of_ble_eq_true rfl)) dX11_takeArrangement_31 ⟨Nat.le_of_ble_eq_true rfl, Nat.le_of_ble_eq_true rfl⟩) hD hS hAA (fun r_31 u H locs hw_ hP hD hS => ?_)
      obtain rfl := hw_
      have hP : va_P (g.1, g.2.1) vwCl (wM g (sF (sA (sA (sF (sF (sF σ 0 0) 10 rl_18) 11 fo_18) 6 ot_18) 10 lf_18) 0 2) ++ tl) H := hP
      have hD : va_D A (wM g (sF (sA (sA (sF (sF (sF σ 0 0) 10 rl_18) 11 fo_18) 6 ot_18) 10 lf_18) 0 2) ++ tl) := hD
      exact hq _ _ _ _ ((nI 0)) (0, 2, rl_18, fo_18, (σ.2.1 5), ot_18, lf_18) dX11_takeArrangement_34 ⟨rfl, (Or.inr (Or.inl ⟨by omega, hr.1, rfl, rfl⟩))⟩ hP hD hS
  · refine lv_aload_n hx hb dX11_takeArrangement_9 rfl (lv_at hl 0 rfl) ?_
    refine lv_iconst (v := nI 1) hx hb dX11_takeArrangement_10 (by decide) ?_
    refine jn_calli (va_runV (As := [.int (nI 1)]) (rest := []) ⟨hx, hb, hml, hown, hts⟩ (c_X11_fails l g tl H.size (sF σ 0 0) 1) (cwV 1 hts gX11_takeArrangement_X11_fails rfl rfl rfl (by decide +kernel) ⟨Nat.le_of_ble_eq_true rfl, Nat.le_of_ble_eq_true rfl⟩) (okWV hK hP hD rfl (gM0 g (sF σ 0 0) tl)) rfl rfl hl.1 rfl (lv_room (Nat.le_of_ble_eq_true rfl)) dX11_takeArrangement_11 ⟨Nat.le_of_ble_eq_true rfl, Nat.le_of_ble_eq_true rfl⟩) hD hS hAA (fun r_11 u H locs hw_ hP hD hS => ?_)
    obtain rfl := hw_
    have hP : va_P (g.1, g.2.1) vwCl (wM g (sF (sF σ 0 0) 0 1) ++ tl) H := hP
    have hD : va_D A (wM g (sF (sF σ 0 0) 0 1) ++ tl) := hD
    exact hq _ _ _ _ ((nI 0)) (0, 1, (σ.1 10), (σ.1 11), (σ.2.1 5), (σ.2.1 6), (σ.2.1 10)) dX11_takeArrangement_14 ⟨rfl, (Or.inl ⟨by omega, rfl, rfl⟩)⟩ hP hD hS
