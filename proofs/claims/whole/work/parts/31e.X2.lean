abbrev r_c_X2_trace : Room := { frames := 3, cells := 0, slots := 0, locals := 74 }
set_option maxHeartbeats 4000000 in
set_option maxRecDepth 100000 in
theorem c_X2_trace (l : Launch) (g : GC) (tl : va_W) (sz : Nat) (σ : SS) (n : Nat) (hA : OkA σ) (hl4 : σ.1 4 = n) (hn : n ≤ 8) (hw : ∀ i, i < n → (σ.2.1 24) i < 3) (hSt : StK (σ.2.1 0) (σ.2.1 24) (σ.2.1 22) n (2 ^ n)) (hT : TbK (σ.2.1 0) (σ.2.1 24) (σ.2.1 22) (σ.2.1 21) (σ.1 0) n 0) (hc5 : σ.1 5 = ocost (σ.2.1 0) (σ.2.1 24) (σ.1 0) n) (hc6 : σ.1 5 < 63) : Met l yX2_trace wsX2_trace r_c_X2_trace (va_Pc [.ref (g.2.2.2 36), .ref (g.2.2.2 1)] (PW g (wC g σ ++ tl) sz)) (va_Qv (fun (od : (Nat → Nat)) => isOrd (σ.2.1 0) (σ.2.1 24) (σ.1 0) n n 0 0 1 (ocost (σ.2.1 0) (σ.2.1 24) (σ.1 0) n) od ∧ ∀ j, j < n → od j < n) (fun (od : (Nat → Nat)) t => BW g (va_A (wC g σ ++ tl) sz) (wC g (sA σ 25 od) ++ tl) t) (va_A (wC g σ ++ tl) sz)) 0 0 (va_A (wC g σ ++ tl) sz) := by
  refine jn_sv (wf := fun od : (Nat → Nat) => wC g (sA σ 25 od) ++ tl) (cc := cX2_trace) (maxL := 8) (own := RX2) (by decide) rfl rfl (Nat.le_of_ble_eq_true rfl) ?_
  intro p e s m below meth c Q A hx hb hml hown hts hK hP hD hS hAA hq ls hl
  obtain ⟨H, eH⟩ : ∃ z, z = s.heap := ⟨_, rfl⟩
  obtain ⟨locs, el⟩ : ∃ z : List Loc, z = [] := ⟨_, rfl⟩
  rw [← eH] at hP
  have hS : va_S A s.heap H locs := by rw [eH, el]; exact hS
  have goal0 : W p l e r_c_X2_trace s m ([.ref (g.2.2.2 36), .ref (g.2.2.2 1)] : List Value).toArray below meth c H locs 0 0 Q (F0 m 0 ls []) → W p l e r_c_X2_trace s m ([.ref (g.2.2.2 36), .ref (g.2.2.2 1)] : List Value).toArray below meth c s.heap [] 0 0 Q (F0 m 0 ls []) := fun h => by rw [eH, el] at h; exact h
  refine goal0 ?_
  have hl : lv_has ls 8 [(0, .ref (g.2.2.2 36)), (1, .ref (g.2.2.2 1))] := hl
  have iX2 : ∀ w ∈ wsX20, w ∈ wsX2_trace := by decide +kernel
  have k31 := hts (.fieldLink RX2 31 "JumpingAutomata$BestOrder" "cost" "I") (by decide +kernel)
  have k24 := hts (.fieldLink RX2 24 "JumpingAutomata$BestOrder" "length" "I") (by decide +kernel)
  have k28 := hts (.fieldLink RX2 28 "JumpingAutomata$BestOrder" "order" "[I") (by decide +kernel)
  have k21 := hts (.fieldLink RX2 21 "JumpingAutomata$BestOrder" "letters" "[I") (by decide +kernel)
  have p8 := pow8 n hn
  refine lv_iconst (v := nI 0) hx hb dX2_trace_0 (by decide) ?_
  refine lv_istore_n (lv' := [(2, .int (nI 0)), (0, .ref (g.2.2.2 36)), (1, .ref (g.2.2.2 1))]) hx hb dX2_trace_1 rfl hl (by decide) rfl (fun ls hl => ?_)
  refine lv_iconst (v := nI 0) hx hb dX2_trace_2 (by decide) ?_
  refine lv_istore_n (lv' := [(3, .int (nI 0)), (2, .int (nI 0)), (0, .ref (g.2.2.2 36)), (1, .ref (g.2.2.2 1))]) hx hb dX2_trace_3 rfl hl (by decide) rfl (fun ls hl => ?_)
  refine lv_iconst (v := nI 1) hx hb dX2_trace_4 (by decide) ?_
  refine lv_istore (lv' := [(4, .int (nI 1)), (3, .int (nI 0)), (2, .int (nI 0)), (0, .ref (g.2.2.2 36)), (1, .ref (g.2.2.2 1))]) hx hb dX2_trace_5 hl (by decide) rfl (fun ls hl => ?_)
  refine lv_aload_n hx hb dX2_trace_7 rfl (lv_at hl 3 rfl) ?_
  refine va_get (D := (g.1, g.2.1)) (ci := 4) (v := .int (nI (σ.1 5))) (C := RX2) (T := TX2) (N := 7) hx hb hts iX2 hown hK.1 hP 36 (gC36 g σ tl) rfl 6 (by decide) k31 (fun _ h9 => h9) rfl dX2_trace_8 ?_
  refine lv_istore (lv' := [(5, .int (nI (σ.1 5))), (4, .int (nI 1)), (3, .int (nI 0)), (2, .int (nI 0)), (0, .ref (g.2.2.2 36)), (1, .ref (g.2.2.2 1))]) hx hb dX2_trace_11 hl (by decide) rfl (fun ls hl => ?_)
  refine lv_iconst (v := nI 0) hx hb dX2_trace_13 (by decide) ?_
  refine lv_istore (lv' := [(6, .int (nI 0)), (5, .int (nI (σ.1 5))), (4, .int (nI 1)), (3, .int (nI 0)), (2, .int (nI 0)), (0, .ref (g.2.2.2 36)), (1, .ref (g.2.2.2 1))]) hx hb dX2_trace_14 hl (by decide) rfl (fun ls hl => ?_)
  have lp16 : ∀ (fu : Nat), ∀ (rd : Nat) (la : Nat) (mq : Nat) (lf : Nat) (i0 : Nat) (od : Nat → Nat), (i0 ≤ n) → (TrI (σ.2.1 0) (σ.2.1 24) (σ.2.1 22) (σ.1 0) n i0 rd la mq lf od) → n - i0 < fu → ∀ (H : Heap) (locs : List Loc), va_P (g.1, g.2.1) vwCl (wC g (sA σ 25 od) ++ tl) H → va_D A (wC g (sA σ 25 od) ++ tl) → va_S A s.heap H locs → ∀ ls : Array Slot, lv_has ls 8 [(0, .ref (g.2.2.2 36)), (1, .ref (g.2.2.2 1)), (2, .int (nI rd)), (3, .int (nI la)), (4, .int (nI mq)), (5, .int (nI lf)), (6, .int (nI i0))] → W p l e r_c_X2_trace s m ([.ref (g.2.2.2 36), .ref (g.2.2.2 1)] : List Value).toArray below meth c H locs 0 0 Q (F0 m 16 ls []) := by
    intro fu
    induction fu with
    | zero => intro rd la mq lf i0 od h1 h2 hf; exact absurd hf (Nat.not_lt_zero _)
    | succ fu ih16 =>
      intro rd la mq lf i0 od h1 h2 hf H locs hP hD hS ls hl
      refine lv_iload hx hb dX2_trace_16 (lv_at hl 6 rfl) ?_
      refine lv_aload_n hx hb dX2_trace_18 rfl (lv_at hl 0 rfl) ?_
      refine va_get (D := (g.1, g.2.1)) (ci := 4) (v := .int (nI (σ.1 4))) (C := RX2) (T := TX2) (N := 7) hx hb hts iX2 hown hK.1 hP 36 (gC36 g (sA σ 25 od) tl) rfl 4 (by decide) k24 (fun _ h9 => h9) rfl dX2_trace_19 ?_
      refine jn_cge hx hb (by omega) (by omega) (tgt := 97) dX2_trace_22 (by decide) (fun c_22 => ?_) (fun c_22 => ?_)
      · exact hq _ _ _ _ (od) dX2_trace_97 (⟨by rw [← oc_lst]; exact tr_end h2 (by omega), fun j hj => h2.2.2.2.2.2.2.2.1 j (by omega)⟩) hP hD hS
      · refine lv_iload hx hb dX2_trace_25 (lv_at hl 6 rfl) ?_
        refine lv_bipush (v := nI 8) hx hb dX2_trace_27 (by decide) ?_
        refine jn_cge hx hb (by omega) (by decide) (tgt := 97) dX2_trace_29 (by decide) (fun c_29 => absurd c_29 (by omega)) (fun c_29 => ?_)
        refine lv_aload_n hx hb dX2_trace_32 rfl (lv_at hl 0 rfl) ?_
        refine lv_aload_n hx hb dX2_trace_33 rfl (lv_at hl 1 rfl) ?_
        refine lv_iload_n hx hb dX2_trace_34 rfl (lv_at hl 2 rfl) ?_
        refine lv_iload_n hx hb dX2_trace_35 rfl (lv_at hl 3 rfl) ?_
        refine lv_iload hx hb dX2_trace_36 (lv_at hl 4 rfl) ?_
        refine lv_iload hx hb dX2_trace_38 (lv_at hl 5 rfl) ?_
        refine vp_callSi (va_Run.run (va_runV (As := [.ref (g.2.2.2 1), .int (nI rd), .int (nI la), .int (nI mq), .int (nI lf)]) (rest := []) ⟨hx, hb, hml, hown, hts⟩ (c_X2_nextPosition l g tl (sA σ 25 od) n rd la mq lf hA hl4 hn hw (by have := h2.1; omega) h2.2.1 h2.2.2.1 h2.2.2.2.2.1 (tr_pc hn hT h2.1) (tr_hex hn hSt hT h2 (by omega))) (cwV 5 hts gX2_trace_X2_nextPosition rfl rfl rfl (by decide +kernel) ⟨Nat.le_of_ble_eq_true rfl, Nat.le_of_ble_eq_true rfl⟩) (okPV hK hP rfl (gC36 g (sA σ 25 od) tl)) rfl rfl hl.1 rfl (lv_room (Nat.le_of_ble_eq_true rfl)) dX2_trace_40 ⟨Nat.le_of_ble_eq_true rfl, Nat.le_of_ble_eq_true rfl⟩)) (fun r_40 h_40 => ?_)
        have h_40 : r_40 = (nI (fa_first (fun p => !Nat.testBit rd p && (adf la p + lst (fun t => at6 ((σ.2.1 21) ((rd ||| 2 ^ p) * 8 + p)) t) (stp (σ.2.1 0) ((σ.2.1 24) p) mq) == lf)) n)) := h_40
        subst h_40
        refine jn_nm (fun p1 ep1 => ?_)
        have tr9 := tr_step hA.1 hn hw hSt hT h2 (by omega) ep1
        have t1 := tr9.1
        have t2 := tr9.2.1
        have t3 := h2.2.1
        refine lv_istore (lv' := [(7, .int (nI p1)), (0, .ref (g.2.2.2 36)), (1, .ref (g.2.2.2 1)), (2, .int (nI rd)), (3, .int (nI la)), (4, .int (nI mq)), (5, .int (nI lf)), (6, .int (nI i0))]) hx hb dX2_trace_43 hl (by decide) rfl (fun ls hl => ?_)
        refine lv_aload_n hx hb dX2_trace_45 rfl (lv_at hl 1 rfl) ?_
        refine va_get (D := (g.1, g.2.1)) (ci := 4) (v := .ref (g.2.2.2 41)) (C := RX2) (T := TX2) (N := 7) hx hb hts iX2 hown hK.1 hP 36 (gC36 g (sA σ 25 od) tl) rfl 5 (by decide) k28 (fun _ h9 => h9) rfl dX2_trace_46 ?_
        refine lv_iload hx hb dX2_trace_49 (lv_at hl 7 rfl) ?_
        refine lv_iload hx hb dX2_trace_51 (lv_at hl 0 rfl) ?_
        refine jn_iast (f := od) hx hb hK.1 hP hD hS 41 0 (gC41 g (sA σ 25 od) tl) rfl (by omega) (Nat.le_of_ble_eq_true rfl) (uC_A25 g (sA σ 25 od) tl _) dX2_trace_53 (fun H locs hP hD hS => ?_)
        refine lv_aload_n hx hb dX2_trace_54 rfl (lv_at hl 2 rfl) ?_
        refine lv_aload_n hx hb dX2_trace_55 rfl (lv_at hl 1 rfl) ?_
        refine va_get (D := (g.1, g.2.1)) (ci := 4) (v := .ref (g.2.2.2 40)) (C := RX2) (T := TX2) (N := 7) hx hb hts iX2 hown hK.1 hP 36 (gC36 g (sA (sA σ 25 od) 25 (va_up od i0 p1)) tl) rfl 3 (by decide) k21 (fun _ h9 => h9) rfl dX2_trace_56 ?_
        refine lv_iload hx hb dX2_trace_59 (lv_at hl 0 rfl) ?_
        refine jn_iald (f := σ.2.1 24) hx hb hK.1 hP 40 0 (gC40 g (sA (sA σ 25 od) 25 (va_up od i0 p1)) tl) rfl (by omega) (Nat.le_of_ble_eq_true rfl) dX2_trace_61 ?_
        refine lv_iload hx hb dX2_trace_62 (lv_at hl 5 rfl) ?_
        refine vp_callSi (va_Run.run (va_runV (As := [.int (nI ((σ.2.1 24) p1)), .int (nI mq)]) (rest := []) ⟨hx, hb, hml, hown, hts⟩ (c_X0_step l g tl (sA (sA σ 25 od) 25 (va_up od i0 p1)) ((σ.2.1 24) p1) mq hA (hw p1 (by omega)) h2.2.2.1) (cwV 2 hts gX2_trace_X0_step rfl rfl rfl (by decide +kernel) ⟨Nat.le_of_ble_eq_true rfl, Nat.le_of_ble_eq_true rfl⟩) (okPV hK hP rfl (gC1 g (sA (sA σ 25 od) 25 (va_up od i0 p1)) tl)) rfl rfl hl.1 rfl (lv_room (Nat.le_of_ble_eq_true rfl)) dX2_trace_64 ⟨Nat.le_of_ble_eq_true rfl, Nat.le_of_ble_eq_true rfl⟩)) (fun r_64 h_64 => ?_)
        have h_64 : r_64 = (nI (stp (σ.2.1 0) ((σ.2.1 24) p1) mq)) := h_64
        subst h_64
        refine lv_istore (lv' := [(4, .int (nI (stp (σ.2.1 0) ((σ.2.1 24) p1) mq))), (7, .int (nI p1)), (0, .ref (g.2.2.2 36)), (1, .ref (g.2.2.2 1)), (2, .int (nI rd)), (3, .int (nI la)), (5, .int (nI lf)), (6, .int (nI i0))]) hx hb dX2_trace_67 hl (by decide) rfl (fun ls hl => ?_)
        refine lv_iload hx hb dX2_trace_69 (lv_at hl 6 rfl) ?_
        refine lv_iload_n hx hb dX2_trace_71 rfl (lv_at hl 5 rfl) ?_
        refine lv_iload hx hb dX2_trace_72 (lv_at hl 1 rfl) ?_
        refine lv_isub hx hb dX2_trace_74 ?_
        refine jn_abs hx hb (hml.trans hl.1.symm) hown (hts (.methodLink RX2 88 Lib.Math.abs.name) (by decide +kernel)) (hts (.static Lib.Math.abs.name) (by decide +kernel)) (hts (.initialized "java/lang/Math") (by decide +kernel)) (hts (.code Lib.Math.abs.name Lib.Math.abs.code 1 (some .int)) (by decide +kernel)) (Nat.le_of_ble_eq_true rfl) (Nat.le_of_ble_eq_true rfl) (Nat.le_of_ble_eq_true rfl) (Nat.le_of_ble_eq_true rfl) (by omega) (by omega) dX2_trace_75 ?_
        refine jn_isub hx hb t2 dX2_trace_78 ?_
        refine lv_istore (lv' := [(5, .int (nI (lf - ((la - p1) + (p1 - la))))), (4, .int (nI (stp (σ.2.1 0) ((σ.2.1 24) p1) mq))), (7, .int (nI p1)), (0, .ref (g.2.2.2 36)), (1, .ref (g.2.2.2 1)), (2, .int (nI rd)), (3, .int (nI la)), (6, .int (nI i0))]) hx hb dX2_trace_79 hl (by decide) rfl (fun ls hl => ?_)
        refine lv_iload_n hx hb dX2_trace_81 rfl (lv_at hl 5 rfl) ?_
        refine lv_iconst (v := nI 1) hx hb dX2_trace_82 (by decide) ?_
        refine lv_iload hx hb dX2_trace_83 (lv_at hl 2 rfl) ?_
        refine jn_shl1 hx hb (by omega) dX2_trace_85 ?_
        refine jn_ior hx hb dX2_trace_86 ?_
        refine lv_istore_n (lv' := [(2, .int (nI (rd ||| (2 ^ p1)))), (5, .int (nI (lf - ((la - p1) + (p1 - la))))), (4, .int (nI (stp (σ.2.1 0) ((σ.2.1 24) p1) mq))), (7, .int (nI p1)), (0, .ref (g.2.2.2 36)), (1, .ref (g.2.2.2 1)), (3, .int (nI la)), (6, .int (nI i0))]) hx hb dX2_trace_87 rfl hl (by decide) rfl (fun ls hl => ?_)
        refine lv_iload hx hb dX2_trace_88 (lv_at hl 3 rfl) ?_
        refine lv_istore_n (lv' := [(3, .int (nI p1)), (2, .int (nI (rd ||| (2 ^ p1)))), (5, .int (nI (lf - ((la - p1) + (p1 - la))))), (4, .int (nI (stp (σ.2.1 0) ((σ.2.1 24) p1) mq))), (7, .int (nI p1)), (0, .ref (g.2.2.2 36)), (1, .ref (g.2.2.2 1)), (6, .int (nI i0))]) hx hb dX2_trace_90 rfl hl (by decide) rfl (fun ls hl => ?_)
        refine lv_iinc (v := nI (i0 + 1)) (lv' := [(6, .int (nI (i0 + 1))), (3, .int (nI p1)), (2, .int (nI (rd ||| (2 ^ p1)))), (5, .int (nI (lf - ((la - p1) + (p1 - la))))), (4, .int (nI (stp (σ.2.1 0) ((σ.2.1 24) p1) mq))), (7, .int (nI p1)), (0, .ref (g.2.2.2 36)), (1, .ref (g.2.2.2 1))]) hx hb dX2_trace_91 hl (k := 7) rfl (jn_ii _ 1) (by decide) rfl (fun ls hl => ?_)
        refine lv_goto (tgt := 16) hx hb dX2_trace_94 (by decide) ?_
        exact ih16 (rd ||| (2 ^ p1)) p1 (stp (σ.2.1 0) ((σ.2.1 24) p1) mq) (lf - ((la - p1) + (p1 - la))) (i0 + 1) (va_up od i0 p1) (by omega) tr9.2.2 (by omega) _ _ hP hD hS _ (lv_sub hl [6, 7, 2, 1, 4, 3, 0] rfl)
  exact lp16 _ 0 0 1 (σ.1 5) 0 (σ.2.1 25) (by omega) (by rw [hc5, ← oc_lst]; exact tr_start hSt.1 (by rw [oc_lst, ← hc5]; exact hc6)) (Nat.lt_succ_self _) _ _ hP hD hS _ (lv_sub hl [5, 6, 4, 3, 2, 1, 0] rfl)
