abbrev r_c_X2_fillSet : Room := { frames := 3, cells := 0, slots := 0, locals := 75 }
set_option maxHeartbeats 4000000 in
set_option maxRecDepth 100000 in
theorem c_X2_fillSet (l : Launch) (g : GC) (tl : va_W) (sz : Nat) (σ : SS) (n st : Nat) (hA : OkA σ) (hl4 : σ.1 4 = n) (hn : n ≤ 8) (hw : ∀ i, i < n → (σ.2.1 24) i < 3) (hs : st < 2 ^ n - 1) (hSt : StK (σ.2.1 0) (σ.2.1 24) (σ.2.1 22) n (2 ^ n)) (hT : TbK (σ.2.1 0) (σ.2.1 24) (σ.2.1 22) (σ.2.1 21) (σ.1 0) n (st + 1)) : Met l yX2_fillSet wsX2_fillSet r_c_X2_fillSet (va_Pc [.ref (g.2.2.2 36), .ref (g.2.2.2 1), .int (nI st)] (PW g (wC g σ ++ tl) sz)) (va_Qv (fun (z : (Nat → Nat) × (Nat → Nat)) => match z with | (pc2, bf2) => TbK (σ.2.1 0) (σ.2.1 24) (σ.2.1 22) pc2 (σ.1 0) n st) (fun (z : (Nat → Nat) × (Nat → Nat)) t => BW g (va_A (wC g σ ++ tl) sz) ((fun z : (Nat → Nat) × (Nat → Nat) => match z with | (pc2, bf2) => wC g (sA (sA σ 21 pc2) 23 bf2) ++ tl) z) t) (va_A (wC g σ ++ tl) sz)) 0 0 (va_A (wC g σ ++ tl) sz) := by
  refine jn_sv (wf := fun z : (Nat → Nat) × (Nat → Nat) => match z with | (pc2, bf2) => wC g (sA (sA σ 21 pc2) 23 bf2) ++ tl) (cc := cX2_fillSet) (maxL := 5) (own := RX2) (by decide) rfl rfl (Nat.le_of_ble_eq_true rfl) ?_
  intro p e s m below meth c Q A hx hb hml hown hts hK hP hD hS hAA hq ls hl
  obtain ⟨H, eH⟩ : ∃ z, z = s.heap := ⟨_, rfl⟩
  obtain ⟨locs, el⟩ : ∃ z : List Loc, z = [] := ⟨_, rfl⟩
  rw [← eH] at hP
  have hS : va_S A s.heap H locs := by rw [eH, el]; exact hS
  have goal0 : W p l e r_c_X2_fillSet s m ([.ref (g.2.2.2 36), .ref (g.2.2.2 1), .int (nI st)] : List Value).toArray below meth c H locs 0 0 Q (F0 m 0 ls []) → W p l e r_c_X2_fillSet s m ([.ref (g.2.2.2 36), .ref (g.2.2.2 1), .int (nI st)] : List Value).toArray below meth c s.heap [] 0 0 Q (F0 m 0 ls []) := fun h => by rw [eH, el] at h; exact h
  refine goal0 ?_
  have hl : lv_has ls 5 [(0, .ref (g.2.2.2 36)), (1, .ref (g.2.2.2 1)), (2, .int (nI st))] := hl
  have iX2 : ∀ w ∈ wsX20, w ∈ wsX2_fillSet := by decide +kernel
  have k15 := hts (.fieldLink RX2 15 "JumpingAutomata$BestOrder" "states" "[I") (by decide +kernel)
  have k24 := hts (.fieldLink RX2 24 "JumpingAutomata$BestOrder" "length" "I") (by decide +kernel)
  have k18 := hts (.fieldLink RX2 18 "JumpingAutomata$BestOrder" "before" "[I") (by decide +kernel)
  have p8 := pow8 n hn
  have hm32 : ((σ.2.1 22) st) < 32 := hSt.2.1 st (by omega)
  refine lv_iload_n hx hb dX2_fillSet_0 rfl (lv_at hl 2 rfl) ?_
  refine jn_zlt hx hb (by omega) (tgt := 20) dX2_fillSet_1 (by decide) (fun c_1 => absurd c_1 (by omega)) (fun c_1 => ?_)
  refine lv_iload_n hx hb dX2_fillSet_4 rfl (lv_at hl 2 rfl) ?_
  refine lv_sipush (v := nI 256) hx hb dX2_fillSet_5 (by decide) ?_
  refine jn_cge hx hb (by omega) (by decide) (tgt := 20) dX2_fillSet_8 (by decide) (fun c_8 => absurd c_8 (by omega)) (fun c_8 => ?_)
  refine lv_aload_n hx hb dX2_fillSet_11 rfl (lv_at hl 0 rfl) ?_
  refine va_get (D := (g.1, g.2.1)) (ci := 4) (v := .ref (g.2.2.2 38)) (C := RX2) (T := TX2) (N := 7) hx hb hts iX2 hown hK.1 hP 36 (gC36 g σ tl) rfl 1 (by decide) k15 (fun _ h9 => h9) rfl dX2_fillSet_12 ?_
  refine lv_iload_n hx hb dX2_fillSet_15 rfl (lv_at hl 2 rfl) ?_
  refine jn_iald (f := σ.2.1 22) hx hb hK.1 hP 38 0 (gC38 g σ tl) rfl (by omega) (Nat.le_of_ble_eq_true rfl) dX2_fillSet_16 ?_
  refine lv_goto (tgt := 21) hx hb dX2_fillSet_17 (by decide) ?_
  refine lv_istore_n (lv' := [(3, .int (nI ((σ.2.1 22) st))), (0, .ref (g.2.2.2 36)), (1, .ref (g.2.2.2 1)), (2, .int (nI st))]) hx hb dX2_fillSet_21 rfl hl (by decide) rfl (fun ls hl => ?_)
  refine lv_iconst (v := nI 0) hx hb dX2_fillSet_22 (by decide) ?_
  refine lv_istore (lv' := [(4, .int (nI 0)), (3, .int (nI ((σ.2.1 22) st))), (0, .ref (g.2.2.2 36)), (1, .ref (g.2.2.2 1)), (2, .int (nI st))]) hx hb dX2_fillSet_23 hl (by decide) rfl (fun ls hl => ?_)
  have lp25 : ∀ (fu : Nat), ∀ (p0 : Nat) (bf2 : Nat → Nat), (p0 ≤ n) → (∀ p, p < p0 → ¬ st.testBit p = true → bf2 p = pkF (cBf (σ.2.1 0) (σ.2.1 24) (σ.2.1 21) st p ((σ.2.1 22) st)) 5) → n - p0 < fu → ∀ (H : Heap) (locs : List Loc), va_P (g.1, g.2.1) vwCl (wC g (sA σ 23 bf2) ++ tl) H → va_D A (wC g (sA σ 23 bf2) ++ tl) → va_S A s.heap H locs → ∀ ls : Array Slot, lv_has ls 5 [(0, .ref (g.2.2.2 36)), (1, .ref (g.2.2.2 1)), (2, .int (nI st)), (3, .int (nI ((σ.2.1 22) st))), (4, .int (nI p0))] → W p l e r_c_X2_fillSet s m ([.ref (g.2.2.2 36), .ref (g.2.2.2 1), .int (nI st)] : List Value).toArray below meth c H locs 0 0 Q (F0 m 25 ls []) := by
    intro fu
    induction fu with
    | zero => intro p0 bf2 h1 h2 hf; exact absurd hf (Nat.not_lt_zero _)
    | succ fu ih25 =>
      intro p0 bf2 h1 h2 hf H locs hP hD hS ls hl
      refine lv_iload hx hb dX2_fillSet_25 (lv_at hl 4 rfl) ?_
      refine lv_aload_n hx hb dX2_fillSet_27 rfl (lv_at hl 0 rfl) ?_
      refine va_get (D := (g.1, g.2.1)) (ci := 4) (v := .int (nI (σ.1 4))) (C := RX2) (T := TX2) (N := 7) hx hb hts iX2 hown hK.1 hP 36 (gC36 g (sA σ 23 bf2) tl) rfl 4 (by decide) k24 (fun _ h9 => h9) rfl dX2_fillSet_28 ?_
      refine jn_cge hx hb (by omega) (by omega) (tgt := 72) dX2_fillSet_31 (by decide) (fun c_31 => ?_) (fun c_31 => ?_)
      · refine lv_iconst (v := nI 0) hx hb dX2_fillSet_72 (by decide) ?_
        refine lv_istore (lv' := [(4, .int (nI 0)), (0, .ref (g.2.2.2 36)), (1, .ref (g.2.2.2 1)), (2, .int (nI st)), (3, .int (nI ((σ.2.1 22) st)))]) hx hb dX2_fillSet_73 hl (by decide) rfl (fun ls hl => ?_)
        have lp75 : ∀ (fu : Nat), ∀ (k : Nat) (pc2 : Nat → Nat), (k ≤ n) → (∀ z, (z < st * 8 ∨ st * 8 + 8 ≤ z) → pc2 z = (σ.2.1 21) z) → (∀ z, z < k → (st.testBit z = true ∨ (st = 0 ∧ z = 0)) → pc2 (st * 8 + z) = pkF (cFm bf2 n st z ((σ.2.1 22) st)) 5) → n - k < fu → ∀ (H : Heap) (locs : List Loc), va_P (g.1, g.2.1) vwCl (wC g (sA (sA σ 21 pc2) 23 bf2) ++ tl) H → va_D A (wC g (sA (sA σ 21 pc2) 23 bf2) ++ tl) → va_S A s.heap H locs → ∀ ls : Array Slot, lv_has ls 5 [(0, .ref (g.2.2.2 36)), (1, .ref (g.2.2.2 1)), (2, .int (nI st)), (3, .int (nI ((σ.2.1 22) st))), (4, .int (nI k))] → W p l e r_c_X2_fillSet s m ([.ref (g.2.2.2 36), .ref (g.2.2.2 1), .int (nI st)] : List Value).toArray below meth c H locs 0 0 Q (F0 m 75 ls []) := by
          intro fu
          induction fu with
          | zero => intro k pc2 h3 h4 h5 hf; exact absurd hf (Nat.not_lt_zero _)
          | succ fu ih75 =>
            intro k pc2 h3 h4 h5 hf H locs hP hD hS ls hl
            have hb2 : ∀ p, p < n → ¬ st.testBit p = true → bf2 p < 1073741824 := fun p hp hb => by rw [h2 p (by omega) hb]; exact pk30 (fun q _ => cBf_lt _ _ _ _ _ _ q)
            refine lv_iload hx hb dX2_fillSet_75 (lv_at hl 4 rfl) ?_
            refine lv_aload_n hx hb dX2_fillSet_77 rfl (lv_at hl 0 rfl) ?_
            refine va_get (D := (g.1, g.2.1)) (ci := 4) (v := .int (nI (σ.1 4))) (C := RX2) (T := TX2) (N := 7) hx hb hts iX2 hown hK.1 hP 36 (gC36 g (sA (sA σ 21 pc2) 23 bf2) tl) rfl 4 (by decide) k24 (fun _ h9 => h9) rfl dX2_fillSet_78 ?_
            refine jn_cge hx hb (by omega) (by omega) (tgt := 123) dX2_fillSet_81 (by decide) (fun c_81 => ?_) (fun c_81 => ?_)
            · exact hq _ _ _ _ (pc2, bf2) dX2_fillSet_123 (tb_step hA.1 hn hw hs hSt hT (fun p hp hb => h2 p (by omega) hb) h4 (fun z hz hv => h5 z (by omega) hv)) hP hD hS
            · refine lv_iload_n hx hb dX2_fillSet_84 rfl (lv_at hl 2 rfl) ?_
              refine lv_iload hx hb dX2_fillSet_85 (lv_at hl 4 rfl) ?_
              refine jn_ishr hx hb (by omega) (by omega) dX2_fillSet_87 ?_
              refine lv_iconst (v := nI 1) hx hb dX2_fillSet_88 (by decide) ?_
              refine jn_and1 hx hb dX2_fillSet_89 ?_
              refine jn_bne hx hb (tgt := 102) dX2_fillSet_90 (by decide) (fun c_90 => ?_) (fun c_90 => ?_)
              · refine lv_aload_n hx hb dX2_fillSet_102 rfl (lv_at hl 0 rfl) ?_
                refine lv_iload_n hx hb dX2_fillSet_103 rfl (lv_at hl 2 rfl) ?_
                refine lv_iload hx hb dX2_fillSet_104 (lv_at hl 4 rfl) ?_
                refine lv_aload_n hx hb dX2_fillSet_106 rfl (lv_at hl 0 rfl) ?_
                refine lv_iload_n hx hb dX2_fillSet_107 rfl (lv_at hl 2 rfl) ?_
                refine lv_iload hx hb dX2_fillSet_108 (lv_at hl 4 rfl) ?_
                refine lv_iload_n hx hb dX2_fillSet_110 rfl (lv_at hl 3 rfl) ?_
                refine vp_callSi (va_Run.run (va_runV (As := [.int (nI st), .int (nI k), .int (nI ((σ.2.1 22) st))]) (rest := [.int (nI k), .int (nI st), .ref (g.2.2.2 36)]) ⟨hx, hb, hml, hown, hts⟩ (c_X2_costsFrom l g tl (sA (sA σ 21 pc2) 23 bf2) n st k ((σ.2.1 22) st) hl4 hn (by omega) (by omega) hm32 hb2) (cwV 3 hts gX2_fillSet_X2_costsFrom rfl rfl rfl (by decide +kernel) ⟨Nat.le_of_ble_eq_true rfl, Nat.le_of_ble_eq_true rfl⟩) (okPV hK hP rfl (gC36 g (sA (sA σ 21 pc2) 23 bf2) tl)) rfl rfl hl.1 rfl (lv_room (Nat.le_of_ble_eq_true rfl)) dX2_fillSet_111 ⟨Nat.le_of_ble_eq_true rfl, Nat.le_of_ble_eq_true rfl⟩)) (fun r_111 h_111 => ?_)
                have h_111 : r_111 = (nI (pkF (cFm (bf2) n st k ((σ.2.1 22) st)) 5)) := h_111
                subst h_111
                refine jn_nm (fun v111 ev111 => ?_)
                refine jn_callv (va_runV (As := [.int (nI st), .int (nI k), .int (nI v111)]) (rest := []) ⟨hx, hb, hml, hown, hts⟩ (c_X2_putCosts l g tl H.size (sA (sA σ 21 pc2) 23 bf2) st k v111 (by omega) (by omega)) (cwV 3 hts gX2_fillSet_X2_putCosts rfl rfl rfl (by decide +kernel) ⟨Nat.le_of_ble_eq_true rfl, Nat.le_of_ble_eq_true rfl⟩) (okWV hK hP hD rfl (gC36 g (sA (sA σ 21 pc2) 23 bf2) tl)) rfl rfl hl.1 rfl (lv_room (Nat.le_of_ble_eq_true rfl)) dX2_fillSet_114 ⟨Nat.le_of_ble_eq_true rfl, Nat.le_of_ble_eq_true rfl⟩) hD hS hAA (fun u H locs hw_ hP hD hS => ?_)
                have hP : va_P (g.1, g.2.1) vwCl (wC g (sA (sA (sA σ 21 pc2) 23 bf2) 21 (va_up (pc2) (st * 8 + k) v111)) ++ tl) H := hP
                have hD : va_D A (wC g (sA (sA (sA σ 21 pc2) 23 bf2) 21 (va_up (pc2) (st * 8 + k) v111)) ++ tl) := hD
                refine lv_iinc (v := nI (k + 1)) (lv' := [(4, .int (nI (k + 1))), (0, .ref (g.2.2.2 36)), (1, .ref (g.2.2.2 1)), (2, .int (nI st)), (3, .int (nI ((σ.2.1 22) st)))]) hx hb dX2_fillSet_117 hl (k := 4) rfl (jn_ii _ 1) (by decide) rfl (fun ls hl => ?_)
                refine lv_goto (tgt := 75) hx hb dX2_fillSet_120 (by decide) ?_
                exact ih75 (k + 1) (va_up (pc2) (st * 8 + k) v111) (by omega) (fun z hz => by first | (rw [va_up, if_neg (by omega)]; exact h4 z hz) | exact h4 z hz) (by first | exact fs_put (P := fun z => (st.testBit z = true ∨ (st = 0 ∧ z = 0))) ev111 h5 | exact fs_keep (P := fun z => (st.testBit z = true ∨ (st = 0 ∧ z = 0))) (fun y => y.elim (fun x => absurd x c_90) (fun x => by omega)) h5) (by omega) _ _ hP hD hS _ (lv_sub hl [1, 2, 3, 4, 0] rfl)
              · refine lv_iload_n hx hb dX2_fillSet_93 rfl (lv_at hl 2 rfl) ?_
                refine jn_zne hx hb (by omega) (tgt := 117) dX2_fillSet_94 (by decide) (fun c_94 => ?_) (fun c_94 => ?_)
                · refine lv_iinc (v := nI (k + 1)) (lv' := [(4, .int (nI (k + 1))), (0, .ref (g.2.2.2 36)), (1, .ref (g.2.2.2 1)), (2, .int (nI st)), (3, .int (nI ((σ.2.1 22) st)))]) hx hb dX2_fillSet_117 hl (k := 4) rfl (jn_ii _ 1) (by decide) rfl (fun ls hl => ?_)
                  refine lv_goto (tgt := 75) hx hb dX2_fillSet_120 (by decide) ?_
                  exact ih75 (k + 1) pc2 (by omega) (fun z hz => by first | (rw [va_up, if_neg (by omega)]; exact h4 z hz) | exact h4 z hz) (by first | exact fs_put (P := fun z => (st.testBit z = true ∨ (st = 0 ∧ z = 0))) ev111 h5 | exact fs_keep (P := fun z => (st.testBit z = true ∨ (st = 0 ∧ z = 0))) (fun y => y.elim (fun x => absurd x c_90) (fun x => by omega)) h5) (by omega) _ _ hP hD hS _ (lv_sub hl [1, 2, 3, 4, 0] rfl)
                · refine lv_iload hx hb dX2_fillSet_97 (lv_at hl 4 rfl) ?_
                  refine jn_zne hx hb (by omega) (tgt := 117) dX2_fillSet_99 (by decide) (fun c_99 => ?_) (fun c_99 => ?_)
                  · refine lv_iinc (v := nI (k + 1)) (lv' := [(4, .int (nI (k + 1))), (0, .ref (g.2.2.2 36)), (1, .ref (g.2.2.2 1)), (2, .int (nI st)), (3, .int (nI ((σ.2.1 22) st)))]) hx hb dX2_fillSet_117 hl (k := 4) rfl (jn_ii _ 1) (by decide) rfl (fun ls hl => ?_)
                    refine lv_goto (tgt := 75) hx hb dX2_fillSet_120 (by decide) ?_
                    exact ih75 (k + 1) pc2 (by omega) (fun z hz => by first | (rw [va_up, if_neg (by omega)]; exact h4 z hz) | exact h4 z hz) (by first | exact fs_put (P := fun z => (st.testBit z = true ∨ (st = 0 ∧ z = 0))) ev111 h5 | exact fs_keep (P := fun z => (st.testBit z = true ∨ (st = 0 ∧ z = 0))) (fun y => y.elim (fun x => absurd x c_90) (fun x => by omega)) h5) (by omega) _ _ hP hD hS _ (lv_sub hl [1, 2, 3, 4, 0] rfl)
                  · refine lv_aload_n hx hb dX2_fillSet_102 rfl (lv_at hl 0 rfl) ?_
                    refine lv_iload_n hx hb dX2_fillSet_103 rfl (lv_at hl 2 rfl) ?_
                    refine lv_iload hx hb dX2_fillSet_104 (lv_at hl 4 rfl) ?_
                    refine lv_aload_n hx hb dX2_fillSet_106 rfl (lv_at hl 0 rfl) ?_
                    refine lv_iload_n hx hb dX2_fillSet_107 rfl (lv_at hl 2 rfl) ?_
                    refine lv_iload hx hb dX2_fillSet_108 (lv_at hl 4 rfl) ?_
                    refine lv_iload_n hx hb dX2_fillSet_110 rfl (lv_at hl 3 rfl) ?_
                    refine vp_callSi (va_Run.run (va_runV (As := [.int (nI st), .int (nI k), .int (nI ((σ.2.1 22) st))]) (rest := [.int (nI k), .int (nI st), .ref (g.2.2.2 36)]) ⟨hx, hb, hml, hown, hts⟩ (c_X2_costsFrom l g tl (sA (sA σ 21 pc2) 23 bf2) n st k ((σ.2.1 22) st) hl4 hn (by omega) (by omega) hm32 hb2) (cwV 3 hts gX2_fillSet_X2_costsFrom rfl rfl rfl (by decide +kernel) ⟨Nat.le_of_ble_eq_true rfl, Nat.le_of_ble_eq_true rfl⟩) (okPV hK hP rfl (gC36 g (sA (sA σ 21 pc2) 23 bf2) tl)) rfl rfl hl.1 rfl (lv_room (Nat.le_of_ble_eq_true rfl)) dX2_fillSet_111 ⟨Nat.le_of_ble_eq_true rfl, Nat.le_of_ble_eq_true rfl⟩)) (fun r_111 h_111 => ?_)
                    have h_111 : r_111 = (nI (pkF (cFm (bf2) n st k ((σ.2.1 22) st)) 5)) := h_111
                    subst h_111
                    refine jn_nm (fun v111 ev111 => ?_)
                    refine jn_callv (va_runV (As := [.int (nI st), .int (nI k), .int (nI v111)]) (rest := []) ⟨hx, hb, hml, hown, hts⟩ (c_X2_putCosts l g tl H.size (sA (sA σ 21 pc2) 23 bf2) st k v111 (by omega) (by omega)) (cwV 3 hts gX2_fillSet_X2_putCosts rfl rfl rfl (by decide +kernel) ⟨Nat.le_of_ble_eq_true rfl, Nat.le_of_ble_eq_true rfl⟩) (okWV hK hP hD rfl (gC36 g (sA (sA σ 21 pc2) 23 bf2) tl)) rfl rfl hl.1 rfl (lv_room (Nat.le_of_ble_eq_true rfl)) dX2_fillSet_114 ⟨Nat.le_of_ble_eq_true rfl, Nat.le_of_ble_eq_true rfl⟩) hD hS hAA (fun u H locs hw_ hP hD hS => ?_)
                    have hP : va_P (g.1, g.2.1) vwCl (wC g (sA (sA (sA σ 21 pc2) 23 bf2) 21 (va_up (pc2) (st * 8 + k) v111)) ++ tl) H := hP
                    have hD : va_D A (wC g (sA (sA (sA σ 21 pc2) 23 bf2) 21 (va_up (pc2) (st * 8 + k) v111)) ++ tl) := hD
                    refine lv_iinc (v := nI (k + 1)) (lv' := [(4, .int (nI (k + 1))), (0, .ref (g.2.2.2 36)), (1, .ref (g.2.2.2 1)), (2, .int (nI st)), (3, .int (nI ((σ.2.1 22) st)))]) hx hb dX2_fillSet_117 hl (k := 4) rfl (jn_ii _ 1) (by decide) rfl (fun ls hl => ?_)
                    refine lv_goto (tgt := 75) hx hb dX2_fillSet_120 (by decide) ?_
                    exact ih75 (k + 1) (va_up (pc2) (st * 8 + k) v111) (by omega) (fun z hz => by first | (rw [va_up, if_neg (by omega)]; exact h4 z hz) | exact h4 z hz) (by first | exact fs_put (P := fun z => (st.testBit z = true ∨ (st = 0 ∧ z = 0))) ev111 h5 | exact fs_keep (P := fun z => (st.testBit z = true ∨ (st = 0 ∧ z = 0))) (fun y => y.elim (fun x => absurd x c_90) (fun x => by omega)) h5) (by omega) _ _ hP hD hS _ (lv_sub hl [1, 2, 3, 4, 0] rfl)
        exact lp75 _ 0 (σ.2.1 21) (by omega) (fun _ _ => rfl) (fun z hz => absurd hz (by omega)) (Nat.lt_succ_self _) _ _ hP hD hS _ (lv_sub hl [1, 2, 3, 4, 0] rfl)
      · refine lv_iload hx hb dX2_fillSet_34 (lv_at hl 4 rfl) ?_
        refine lv_bipush (v := nI 8) hx hb dX2_fillSet_36 (by decide) ?_
        refine jn_cge hx hb (by omega) (by decide) (tgt := 72) dX2_fillSet_38 (by decide) (fun c_38 => absurd c_38 (by omega)) (fun c_38 => ?_)
        refine lv_iload_n hx hb dX2_fillSet_41 rfl (lv_at hl 2 rfl) ?_
        refine lv_iload hx hb dX2_fillSet_42 (lv_at hl 4 rfl) ?_
        refine jn_ishr hx hb (by omega) (by omega) dX2_fillSet_44 ?_
        refine lv_iconst (v := nI 1) hx hb dX2_fillSet_45 (by decide) ?_
        refine jn_and1 hx hb dX2_fillSet_46 ?_
        refine jn_bne hx hb (tgt := 66) dX2_fillSet_47 (by decide) (fun c_47 => ?_) (fun c_47 => ?_)
        · refine lv_iinc (v := nI (p0 + 1)) (lv' := [(4, .int (nI (p0 + 1))), (0, .ref (g.2.2.2 36)), (1, .ref (g.2.2.2 1)), (2, .int (nI st)), (3, .int (nI ((σ.2.1 22) st)))]) hx hb dX2_fillSet_66 hl (k := 4) rfl (jn_ii _ 1) (by decide) rfl (fun ls hl => ?_)
          refine lv_goto (tgt := 25) hx hb dX2_fillSet_69 (by decide) ?_
          exact ih25 (p0 + 1) bf2 (by omega) (by first | exact ft_put (P := fun p => ¬ st.testBit p = true) ev62 h2 | exact ft_keep (P := fun p => ¬ st.testBit p = true) (fun q => q c_47) h2) (by omega) _ _ hP hD hS _ (lv_sub hl [1, 2, 3, 4, 0] rfl)
        · refine lv_aload_n hx hb dX2_fillSet_50 rfl (lv_at hl 0 rfl) ?_
          refine va_get (D := (g.1, g.2.1)) (ci := 4) (v := .ref (g.2.2.2 39)) (C := RX2) (T := TX2) (N := 7) hx hb hts iX2 hown hK.1 hP 36 (gC36 g (sA σ 23 bf2) tl) rfl 2 (by decide) k18 (fun _ h9 => h9) rfl dX2_fillSet_51 ?_
          refine lv_iload hx hb dX2_fillSet_54 (lv_at hl 4 rfl) ?_
          refine lv_aload_n hx hb dX2_fillSet_56 rfl (lv_at hl 0 rfl) ?_
          refine lv_aload_n hx hb dX2_fillSet_57 rfl (lv_at hl 1 rfl) ?_
          refine lv_iload_n hx hb dX2_fillSet_58 rfl (lv_at hl 2 rfl) ?_
          refine lv_iload hx hb dX2_fillSet_59 (lv_at hl 4 rfl) ?_
          refine lv_iload_n hx hb dX2_fillSet_61 rfl (lv_at hl 3 rfl) ?_
          refine vp_callSi (va_Run.run (va_runV (As := [.ref (g.2.2.2 1), .int (nI st), .int (nI p0), .int (nI ((σ.2.1 22) st))]) (rest := [.int (nI p0), .ref (g.2.2.2 39)]) ⟨hx, hb, hml, hown, hts⟩ (c_X2_costsBefore l g tl (sA σ 23 bf2) st p0 ((σ.2.1 22) st) hA (by omega) (by omega) (hw p0 (by omega)) hm32 (hT _ p0 (or_gt (by omega) c_47) (or_lt8 (by omega) (by omega)) (by omega) (Or.inr (Or.inl (by rw [or_bit]; simp)))).1) (cwV 4 hts gX2_fillSet_X2_costsBefore rfl rfl rfl (by decide +kernel) ⟨Nat.le_of_ble_eq_true rfl, Nat.le_of_ble_eq_true rfl⟩) (okPV hK hP rfl (gC36 g (sA σ 23 bf2) tl)) rfl rfl hl.1 rfl (lv_room (Nat.le_of_ble_eq_true rfl)) dX2_fillSet_62 ⟨Nat.le_of_ble_eq_true rfl, Nat.le_of_ble_eq_true rfl⟩)) (fun r_62 h_62 => ?_)
          have h_62 : r_62 = (nI (pkF (cBf (σ.2.1 0) (σ.2.1 24) (σ.2.1 21) st p0 ((σ.2.1 22) st)) 5)) := h_62
          subst h_62
          refine jn_nm (fun v62 ev62 => ?_)
          refine jn_iast (f := bf2) hx hb hK.1 hP hD hS 39 0 (gC39 g (sA σ 23 bf2) tl) rfl (by omega) (Nat.le_of_ble_eq_true rfl) (uC_A23 g (sA σ 23 bf2) tl _) dX2_fillSet_65 (fun H locs hP hD hS => ?_)
          refine lv_iinc (v := nI (p0 + 1)) (lv' := [(4, .int (nI (p0 + 1))), (0, .ref (g.2.2.2 36)), (1, .ref (g.2.2.2 1)), (2, .int (nI st)), (3, .int (nI ((σ.2.1 22) st)))]) hx hb dX2_fillSet_66 hl (k := 4) rfl (jn_ii _ 1) (by decide) rfl (fun ls hl => ?_)
          refine lv_goto (tgt := 25) hx hb dX2_fillSet_69 (by decide) ?_
          exact ih25 (p0 + 1) (va_up bf2 p0 v62) (by omega) (by first | exact ft_put (P := fun p => ¬ st.testBit p = true) ev62 h2 | exact ft_keep (P := fun p => ¬ st.testBit p = true) (fun q => q c_47) h2) (by omega) _ _ hP hD hS _ (lv_sub hl [1, 2, 3, 4, 0] rfl)
  exact lp25 _ 0 (σ.2.1 23) (by omega) (fun p hp => absurd hp (by omega)) (Nat.lt_succ_self _) _ _ hP hD hS _ (lv_sub hl [2, 3, 4, 1, 0] rfl)
