abbrev r_c_X2_find : Room := { frames := 4, cells := 0, slots := 0, locals := 101 }
set_option maxHeartbeats 4000000 in
set_option maxRecDepth 100000 in
theorem c_X2_find (l : Launch) (g : GC) (tl : va_W) (sz : Nat) (σ : SS) (n : Nat) (hA : OkA σ) (hn : n ≤ 8) (hw : ∀ i, i < n → (σ.2.1 14) i < 3) : Met l yX2_find wsX2_find r_c_X2_find (va_Pc [.ref (g.2.2.2 36), .ref (g.2.2.2 1), .ref (g.2.2.2 20), .int (nI n)] (PW g (wC g σ ++ tl) sz)) (va_Qv (fun (z : Nat × (Nat → Nat) × (Nat → Nat) × (Nat → Nat) × (Nat → Nat) × (Nat → Nat)) => match z with | (co, pc2, S, bf2, w2, od) => (co = ocost (σ.2.1 0) (σ.2.1 14) (σ.1 0) n) ∧ (co < 63 → isOrd (σ.2.1 0) (σ.2.1 14) (σ.1 0) n n 0 0 1 (ocost (σ.2.1 0) (σ.2.1 14) (σ.1 0) n) od ∧ ∀ j, j < n → od j < n)) (fun (z : Nat × (Nat → Nat) × (Nat → Nat) × (Nat → Nat) × (Nat → Nat) × (Nat → Nat)) t => BW g (va_A (wC g σ ++ tl) sz) ((fun z : Nat × (Nat → Nat) × (Nat → Nat) × (Nat → Nat) × (Nat → Nat) × (Nat → Nat) => match z with | (co, pc2, S, bf2, w2, od) => wC g (sA (sA (sA (sA (sA (sF (sF σ 4 n) 5 co) 21 pc2) 22 S) 23 bf2) 24 w2) 25 od) ++ tl) z) t) (va_A (wC g σ ++ tl) sz)) 0 0 (va_A (wC g σ ++ tl) sz) := by
  refine jn_sv (wf := fun z : Nat × (Nat → Nat) × (Nat → Nat) × (Nat → Nat) × (Nat → Nat) × (Nat → Nat) => match z with | (co, pc2, S, bf2, w2, od) => wC g (sA (sA (sA (sA (sA (sF (sF σ 4 n) 5 co) 21 pc2) 22 S) 23 bf2) 24 w2) 25 od) ++ tl) (cc := cX2_find) (maxL := 6) (own := RX2) (by decide) rfl rfl (Nat.le_of_ble_eq_true rfl) ?_
  intro p e s m below meth c Q A hx hb hml hown hts hK hP hD hS hAA hq ls hl
  obtain ⟨H, eH⟩ : ∃ z, z = s.heap := ⟨_, rfl⟩
  obtain ⟨locs, el⟩ : ∃ z : List Loc, z = [] := ⟨_, rfl⟩
  rw [← eH] at hP
  have hS : va_S A s.heap H locs := by rw [eH, el]; exact hS
  have goal0 : W p l e r_c_X2_find s m ([.ref (g.2.2.2 36), .ref (g.2.2.2 1), .ref (g.2.2.2 20), .int (nI n)] : List Value).toArray below meth c H locs 0 0 Q (F0 m 0 ls []) → W p l e r_c_X2_find s m ([.ref (g.2.2.2 36), .ref (g.2.2.2 1), .ref (g.2.2.2 20), .int (nI n)] : List Value).toArray below meth c s.heap [] 0 0 Q (F0 m 0 ls []) := fun h => by rw [eH, el] at h; exact h
  refine goal0 ?_
  have hl : lv_has ls 6 [(0, .ref (g.2.2.2 36)), (1, .ref (g.2.2.2 1)), (2, .ref (g.2.2.2 20)), (3, .int (nI n))] := hl
  have iX2 : ∀ w ∈ wsX20, w ∈ wsX2_find := by decide +kernel
  have k31 := hts (.fieldLink RX2 31 "JumpingAutomata$BestOrder" "cost" "I") (by decide +kernel)
  have k24 := hts (.fieldLink RX2 24 "JumpingAutomata$BestOrder" "length" "I") (by decide +kernel)
  have k21 := hts (.fieldLink RX2 21 "JumpingAutomata$BestOrder" "letters" "[I") (by decide +kernel)
  have p8 := pow8 n hn
  refine lv_aload_n hx hb dX2_find_0 rfl (lv_at hl 0 rfl) ?_
  refine lv_bipush (v := nI 63) hx hb dX2_find_1 (by decide) ?_
  refine jn_put (D := (g.1, g.2.1)) (ci := 4) (v := .int (nI 63)) (ty := .int) (C := RX2) (T := TX2) (N := 7) hx hb hts iX2 tyX2 tyX2_ok nmX2 hown hK.1 hP hD hS 36 (gC36 g σ tl) rfl 6 (by decide) k31 (fun _ h9 => h9) rfl (by decide +kernel) rfl rfl (Nat.le_of_ble_eq_true rfl) (uC_F5 g σ tl 63) dX2_find_3 (fun H locs hP hD hS => ?_)
  refine lv_iload_n hx hb dX2_find_6 rfl (lv_at hl 3 rfl) ?_
  refine jn_zlt hx hb (by omega) (tgt := 22) dX2_find_7 (by decide) (fun c_7 => absurd c_7 (by omega)) (fun c_7 => ?_)
  refine lv_iload_n hx hb dX2_find_10 rfl (lv_at hl 3 rfl) ?_
  refine lv_bipush (v := nI 8) hx hb dX2_find_11 (by decide) ?_
  refine jn_cgt hx hb (by omega) (by decide) (tgt := 22) dX2_find_13 (by decide) (fun c_13 => absurd c_13 (by omega)) (fun c_13 => ?_)
  refine lv_iload_n hx hb dX2_find_16 rfl (lv_at hl 3 rfl) ?_
  refine lv_aload_n hx hb dX2_find_17 rfl (lv_at hl 2 rfl) ?_
  refine va_alen hx hb hK.1 hP 20 0 (gC20 g (sF σ 5 63) tl) rfl (v := nI 8) rfl dX2_find_18 ?_
  refine jn_cle hx hb (by omega) (by decide) (tgt := 23) dX2_find_19 (by decide) (fun c_19 => ?_) (fun c_19 => absurd c_19 (by omega))
  refine lv_aload_n hx hb dX2_find_23 rfl (lv_at hl 0 rfl) ?_
  refine lv_iload_n hx hb dX2_find_24 rfl (lv_at hl 3 rfl) ?_
  refine jn_put (D := (g.1, g.2.1)) (ci := 4) (v := .int (nI n)) (ty := .int) (C := RX2) (T := TX2) (N := 7) hx hb hts iX2 tyX2 tyX2_ok nmX2 hown hK.1 hP hD hS 36 (gC36 g (sF σ 5 63) tl) rfl 4 (by decide) k24 (fun _ h9 => h9) rfl (by decide +kernel) rfl rfl (Nat.le_of_ble_eq_true rfl) (uC_F4 g (sF σ 5 63) tl n) dX2_find_25 (fun H locs hP hD hS => ?_)
  refine lv_aload_n hx hb dX2_find_28 rfl (lv_at hl 2 rfl) ?_
  refine lv_iconst (v := nI 0) hx hb dX2_find_29 (by decide) ?_
  refine lv_aload_n hx hb dX2_find_30 rfl (lv_at hl 0 rfl) ?_
  refine va_get (D := (g.1, g.2.1)) (ci := 4) (v := .ref (g.2.2.2 40)) (C := RX2) (T := TX2) (N := 7) hx hb hts iX2 hown hK.1 hP 36 (gC36 g (sF (sF σ 5 63) 4 n) tl) rfl 3 (by decide) k21 (fun _ h9 => h9) rfl dX2_find_31 ?_
  refine lv_iconst (v := nI 0) hx hb dX2_find_34 (by decide) ?_
  refine lv_iload_n hx hb dX2_find_35 rfl (lv_at hl 3 rfl) ?_
  refine jn_copyi (f := σ.2.1 14) (f2 := σ.2.1 24) hx hb (hml.trans hl.1.symm) hown (hts (.methodLink RX2 34 arraycopyName) (by decide +kernel)) (hts (.native arraycopyName) (by decide +kernel)) (hts (.static arraycopyName) (by decide +kernel)) (hts (.initialized "java/lang/System") (by decide +kernel)) hK.1 hP hD hS 20 40 0 0 (gC20 g (sF (sF σ 5 63) 4 n) tl) (gC40 g (sF (sF σ 5 63) 4 n) tl) rfl rfl (by decide) (by decide) (by omega) (by omega) (by omega) (Nat.le_of_ble_eq_true rfl) (Nat.le_of_ble_eq_true rfl) (uC_A24 g (sF (sF σ 5 63) 4 n) tl _) dX2_find_36 (fun H locs hP hD hS => ?_)
  obtain ⟨w24, ew24⟩ : ∃ z, z = va_cpy (σ.2.1 14) (σ.2.1 24) 0 0 n := ⟨_, rfl⟩
  rw [← ew24] at hP hD
  have hcp : ∀ i, i < n → w24 i = σ.2.1 14 i := fun i hi => by rw [ew24]; exact cpy0 i hi
  have hw24 : ∀ i, i < n → w24 i < 3 := fun i hi => by rw [hcp i hi]; exact hw i hi
  refine lv_iconst (v := nI 1) hx hb dX2_find_39 (by decide) ?_
  refine lv_iload_n hx hb dX2_find_40 rfl (lv_at hl 3 rfl) ?_
  refine jn_shl1 hx hb (by omega) dX2_find_41 ?_
  refine lv_iconst (v := nI 1) hx hb dX2_find_42 (by decide) ?_
  refine jn_isub hx hb (by omega) dX2_find_43 ?_
  refine lv_istore (lv' := [(4, .int (nI ((2 ^ n) - 1))), (0, .ref (g.2.2.2 36)), (1, .ref (g.2.2.2 1)), (2, .ref (g.2.2.2 20)), (3, .int (nI n))]) hx hb dX2_find_44 hl (by decide) rfl (fun ls hl => ?_)
  refine lv_aload_n hx hb dX2_find_46 rfl (lv_at hl 1 rfl) ?_
  refine lv_aload_n hx hb dX2_find_47 rfl (lv_at hl 2 rfl) ?_
  refine lv_iload hx hb dX2_find_48 (lv_at hl 0 rfl) ?_
  refine jn_callv (va_runV (As := [.ref (g.2.2.2 1), .int (nI ((2 ^ n) - 1))]) (rest := []) ⟨hx, hb, hml, hown, hts⟩ (c_X2_fillStates l g tl H.size (sA (sF (sF σ 5 63) 4 n) 24 w24) n hA rfl hn hw24) (cwV 2 hts gX2_find_X2_fillStates rfl rfl rfl (by decide +kernel) ⟨Nat.le_of_ble_eq_true rfl, Nat.le_of_ble_eq_true rfl⟩) (okWV hK hP hD rfl (gC36 g (sA (sF (sF σ 5 63) 4 n) 24 w24) tl)) rfl rfl hl.1 rfl (lv_room (Nat.le_of_ble_eq_true rfl)) dX2_find_50 ⟨Nat.le_of_ble_eq_true rfl, Nat.le_of_ble_eq_true rfl⟩) hD hS hAA (fun u H locs hw_ hP hD hS => ?_)
  obtain ⟨S_50, rfl⟩ : ∃ z, z = u := ⟨_, rfl⟩
  have h_50 := hw_
  have h_50 : StK (σ.2.1 0) (w24) S_50 n (2 ^ n) := h_50
  have hP : va_P (g.1, g.2.1) vwCl (wC g (sA (sA (sF (sF σ 5 63) 4 n) 24 w24) 22 S_50) ++ tl) H := hP
  have hD : va_D A (wC g (sA (sA (sF (sF σ 5 63) 4 n) 24 w24) 22 S_50) ++ tl) := hD
  refine lv_aload_n hx hb dX2_find_53 rfl (lv_at hl 1 rfl) ?_
  refine lv_aload_n hx hb dX2_find_54 rfl (lv_at hl 2 rfl) ?_
  refine lv_iload hx hb dX2_find_55 (lv_at hl 0 rfl) ?_
  refine jn_callv (va_runV (As := [.ref (g.2.2.2 1), .int (nI ((2 ^ n) - 1))]) (rest := []) ⟨hx, hb, hml, hown, hts⟩ (c_X2_packFinals l g tl H.size (sA (sA (sF (sF σ 5 63) 4 n) 24 w24) 22 S_50) n hA hn) (cwV 2 hts gX2_find_X2_packFinals rfl rfl rfl (by decide +kernel) ⟨Nat.le_of_ble_eq_true rfl, Nat.le_of_ble_eq_true rfl⟩) (okWV hK hP hD rfl (gC36 g (sA (sA (sF (sF σ 5 63) 4 n) 24 w24) 22 S_50) tl)) rfl rfl hl.1 rfl (lv_room (Nat.le_of_ble_eq_true rfl)) dX2_find_57 ⟨Nat.le_of_ble_eq_true rfl, Nat.le_of_ble_eq_true rfl⟩) hD hS hAA (fun u H locs hw_ hP hD hS => ?_)
  obtain ⟨pc2_57, rfl⟩ : ∃ z, z = u := ⟨_, rfl⟩
  have h_57 := hw_
  have h_57 : ∀ k, k < 8 → pc2_57 ((2 ^ n - 1) * 8 + k) = pkF (fin6 (σ.1 0)) 5 := h_57
  have hP : va_P (g.1, g.2.1) vwCl (wC g (sA (sA (sA (sF (sF σ 5 63) 4 n) 24 w24) 22 S_50) 21 pc2_57) ++ tl) H := hP
  have hD : va_D A (wC g (sA (sA (sA (sF (sF σ 5 63) 4 n) 24 w24) 22 S_50) 21 pc2_57) ++ tl) := hD
  refine lv_iload hx hb dX2_find_60 (lv_at hl 0 rfl) ?_
  refine lv_iconst (v := nI 1) hx hb dX2_find_62 (by decide) ?_
  refine jn_isubB hx hb (by decide) dX2_find_63 ?_
  refine lv_istore (lv' := [(5, .int (nI (sb ((2 ^ n) - 1) 1))), (4, .int (nI ((2 ^ n) - 1))), (0, .ref (g.2.2.2 36)), (1, .ref (g.2.2.2 1)), (2, .ref (g.2.2.2 20)), (3, .int (nI n))]) hx hb dX2_find_64 hl (by decide) rfl (fun ls hl => ?_)
  have lp66 : ∀ (fu : Nat), ∀ (v5 : Nat) (pc2 : Nat → Nat) (bf2 : Nat → Nat) (k : Nat), (v5 = sb k 1) → (k ≤ 2 ^ n - 1) → (TbK (σ.2.1 0) w24 S_50 pc2 (σ.1 0) n k) → k < fu → ∀ (H : Heap) (locs : List Loc), va_P (g.1, g.2.1) vwCl (wC g (sA (sA (sA (sA (sF (sF σ 4 n) 5 63) 21 pc2) 22 S_50) 23 bf2) 24 w24) ++ tl) H → va_D A (wC g (sA (sA (sA (sA (sF (sF σ 4 n) 5 63) 21 pc2) 22 S_50) 23 bf2) 24 w24) ++ tl) → va_S A s.heap H locs → ∀ ls : Array Slot, lv_has ls 6 [(0, .ref (g.2.2.2 36)), (1, .ref (g.2.2.2 1)), (2, .ref (g.2.2.2 20)), (3, .int (nI n)), (4, .int (nI ((2 ^ n) - 1))), (5, .int (nI v5))] → W p l e r_c_X2_find s m ([.ref (g.2.2.2 36), .ref (g.2.2.2 1), .ref (g.2.2.2 20), .int (nI n)] : List Value).toArray below meth c H locs 0 0 Q (F0 m 66 ls []) := by
    intro fu
    induction fu with
    | zero => intro v5 pc2 bf2 k h1 h2 h3 hf; exact absurd hf (Nat.not_lt_zero _)
    | succ fu ih66 =>
      intro v5 pc2 bf2 k h1 h2 h3 hf H locs hP hD hS ls hl
      have sv := sb_neg h1 (by omega)
      refine lv_iload hx hb dX2_find_66 (lv_at hl 5 rfl) ?_
      refine jn_zlt hx hb sv.2.1 (tgt := 84) dX2_find_68 (by decide) (fun c_68 => ?_) (fun c_68 => ?_)
      · rw [sv.1.mp c_68] at h3
        refine lv_aload_n hx hb dX2_find_84 rfl (lv_at hl 0 rfl) ?_
        refine lv_aload_n hx hb dX2_find_85 rfl (lv_at hl 0 rfl) ?_
        refine lv_iconst (v := nI 0) hx hb dX2_find_86 (by decide) ?_
        refine lv_iconst (v := nI 0) hx hb dX2_find_87 (by decide) ?_
        refine vp_callSi (va_Run.run (va_runV (As := [.int (nI 0), .int (nI 0)]) (rest := [.ref (g.2.2.2 36)]) ⟨hx, hb, hml, hown, hts⟩ (c_X2_costsAt l g tl (sA (sA (sA (sA (sF (sF σ 4 n) 5 63) 21 pc2) 22 S_50) 23 bf2) 24 w24) 0 0 (by decide) (by decide)) (cwV 2 hts gX2_find_X2_costsAt rfl rfl rfl (by decide +kernel) ⟨Nat.le_of_ble_eq_true rfl, Nat.le_of_ble_eq_true rfl⟩) (okPV hK hP rfl (gC36 g (sA (sA (sA (sA (sF (sF σ 4 n) 5 63) 21 pc2) 22 S_50) 23 bf2) 24 w24) tl)) rfl rfl hl.1 rfl (lv_room (Nat.le_of_ble_eq_true rfl)) dX2_find_88 ⟨Nat.le_of_ble_eq_true rfl, Nat.le_of_ble_eq_true rfl⟩)) (fun r_88 h_88 => ?_)
        have h_88 : r_88 = (nI ((pc2) (0 * 8 + 0))) := h_88
        subst h_88
        refine lv_iconst (v := nI 0) hx hb dX2_find_91 (by decide) ?_
        refine vp_callSi (va_Run.run (va_runS (As := [.int (nI ((pc2) (0 * 8 + 0))), .int (nI 0)]) (rest := [.ref (g.2.2.2 36)]) ⟨hx, hb, hml, hown, hts⟩ (c_X2_costOf l ((pc2) (0 * 8 + 0)) 0 (by show pc2 0 < _; have := tb_pc0 h3; omega) (by decide)) (va_cwS 2 hts gX2_find_X2_costOf rfl rfl rfl (by decide +kernel) ⟨Nat.le_of_ble_eq_true rfl, Nat.le_of_ble_eq_true rfl⟩) okTS rfl rfl hl.1 rfl (lv_room (Nat.le_of_ble_eq_true rfl)) dX2_find_92 ⟨Nat.le_of_ble_eq_true rfl, Nat.le_of_ble_eq_true rfl⟩)) (fun r_92 h_92 => ?_)
        subst h_92
        refine jn_nm (fun c92 ec92 => ?_)
        have ec : c92 = ocost (σ.2.1 0) w24 (σ.1 0) n := by rw [ec92]; exact tb_cost h_50 h3
        have co := oc_le (σ.2.1 0) w24 (σ.1 0) n
        refine jn_put (D := (g.1, g.2.1)) (ci := 4) (v := .int (nI c92)) (ty := .int) (C := RX2) (T := TX2) (N := 7) hx hb hts iX2 tyX2 tyX2_ok nmX2 hown hK.1 hP hD hS 36 (gC36 g (sA (sA (sA (sA (sF (sF σ 4 n) 5 63) 21 pc2) 22 S_50) 23 bf2) 24 w24) tl) rfl 6 (by decide) k31 (fun _ h9 => h9) rfl (by decide +kernel) rfl rfl (Nat.le_of_ble_eq_true rfl) (uC_F5 g (sA (sA (sA (sA (sF (sF σ 4 n) 5 63) 21 pc2) 22 S_50) 23 bf2) 24 w24) tl c92) dX2_find_95 (fun H locs hP hD hS => ?_)
        refine lv_aload_n hx hb dX2_find_98 rfl (lv_at hl 0 rfl) ?_
        refine va_get (D := (g.1, g.2.1)) (ci := 4) (v := .int (nI c92)) (C := RX2) (T := TX2) (N := 7) hx hb hts iX2 hown hK.1 hP 36 (gC36 g (sF (sA (sA (sA (sA (sF (sF σ 4 n) 5 63) 21 pc2) 22 S_50) 23 bf2) 24 w24) 5 c92) tl) rfl 6 (by decide) k31 (fun _ h9 => h9) rfl dX2_find_99 ?_
        refine lv_bipush (v := nI 63) hx hb dX2_find_102 (by decide) ?_
        refine jn_cge hx hb (by omega) (by decide) (tgt := 112) dX2_find_104 (by decide) (fun c_104 => ?_) (fun c_104 => ?_)
        · exact hq _ _ _ _ (c92, pc2, S_50, bf2, w24, (σ.2.1 25)) dX2_find_112 (by first | exact ⟨by rw [ec]; exact oc_w hcp, fun hc => ⟨by rw [← oc_w hcp]; exact isOrd_w hcp _ _ _ _ _ _ h_109.1, h_109.2⟩⟩ | exact ⟨by rw [ec]; exact oc_w hcp, fun hc => absurd hc (by omega)⟩) hP hD hS
        · refine lv_aload_n hx hb dX2_find_107 rfl (lv_at hl 0 rfl) ?_
          refine lv_aload_n hx hb dX2_find_108 rfl (lv_at hl 1 rfl) ?_
          refine jn_callv (va_runV (As := [.ref (g.2.2.2 1)]) (rest := []) ⟨hx, hb, hml, hown, hts⟩ (c_X2_trace l g tl H.size (sF (sA (sA (sA (sA (sF (sF σ 4 n) 5 63) 21 pc2) 22 S_50) 23 bf2) 24 w24) 5 c92) n hA rfl hn hw24 h_50 h3 ec (by show c92 < 63; omega)) (cwV 1 hts gX2_find_X2_trace rfl rfl rfl (by decide +kernel) ⟨Nat.le_of_ble_eq_true rfl, Nat.le_of_ble_eq_true rfl⟩) (okWV hK hP hD rfl (gC36 g (sF (sA (sA (sA (sA (sF (sF σ 4 n) 5 63) 21 pc2) 22 S_50) 23 bf2) 24 w24) 5 c92) tl)) rfl rfl hl.1 rfl (lv_room (Nat.le_of_ble_eq_true rfl)) dX2_find_109 ⟨Nat.le_of_ble_eq_true rfl, Nat.le_of_ble_eq_true rfl⟩) hD hS hAA (fun u H locs hw_ hP hD hS => ?_)
          obtain ⟨od_109, rfl⟩ : ∃ z, z = u := ⟨_, rfl⟩
          have h_109 := hw_
          have h_109 : isOrd (σ.2.1 0) (w24) (σ.1 0) n n 0 0 1 (ocost (σ.2.1 0) (w24) (σ.1 0) n) od_109 ∧ ∀ j, j < n → od_109 j < n := h_109
          have hP : va_P (g.1, g.2.1) vwCl (wC g (sA (sF (sA (sA (sA (sA (sF (sF σ 4 n) 5 63) 21 pc2) 22 S_50) 23 bf2) 24 w24) 5 c92) 25 od_109) ++ tl) H := hP
          have hD : va_D A (wC g (sA (sF (sA (sA (sA (sA (sF (sF σ 4 n) 5 63) 21 pc2) 22 S_50) 23 bf2) 24 w24) 5 c92) 25 od_109) ++ tl) := hD
          exact hq _ _ _ _ (c92, pc2, S_50, bf2, w24, od_109) dX2_find_112 (by first | exact ⟨by rw [ec]; exact oc_w hcp, fun hc => ⟨by rw [← oc_w hcp]; exact isOrd_w hcp _ _ _ _ _ _ h_109.1, h_109.2⟩⟩ | exact ⟨by rw [ec]; exact oc_w hcp, fun hc => absurd hc (by omega)⟩) hP hD hS
      · refine lv_aload_n hx hb dX2_find_71 rfl (lv_at hl 0 rfl) ?_
        refine lv_aload_n hx hb dX2_find_72 rfl (lv_at hl 1 rfl) ?_
        refine lv_iload hx hb dX2_find_73 (lv_at hl 5 rfl) ?_
        refine jn_callv (va_runV (As := [.ref (g.2.2.2 1), .int (nI v5)]) (rest := []) ⟨hx, hb, hml, hown, hts⟩ (c_X2_fillSet l g tl H.size (sA (sA (sA (sA (sF (sF σ 4 n) 5 63) 21 pc2) 22 S_50) 23 bf2) 24 w24) n v5 hA rfl hn hw24 (by omega) h_50 (by rw [show v5 + 1 = k by omega]; exact h3)) (cwV 2 hts gX2_find_X2_fillSet rfl rfl rfl (by decide +kernel) ⟨Nat.le_of_ble_eq_true rfl, Nat.le_of_ble_eq_true rfl⟩) (okWV hK hP hD rfl (gC36 g (sA (sA (sA (sA (sF (sF σ 4 n) 5 63) 21 pc2) 22 S_50) 23 bf2) 24 w24) tl)) rfl rfl hl.1 rfl (lv_room (Nat.le_of_ble_eq_true rfl)) dX2_find_75 ⟨Nat.le_of_ble_eq_true rfl, Nat.le_of_ble_eq_true rfl⟩) hD hS hAA (fun u H locs hw_ hP hD hS => ?_)
        obtain ⟨pc2_75, bf2_75⟩ := u
        have h_75 := hw_
        have h_75 : TbK (σ.2.1 0) (w24) (S_50) pc2_75 (σ.1 0) n v5 := h_75
        have hP : va_P (g.1, g.2.1) vwCl (wC g (sA (sA (sA (sA (sA (sA (sF (sF σ 4 n) 5 63) 21 pc2) 22 S_50) 23 bf2) 24 w24) 21 pc2_75) 23 bf2_75) ++ tl) H := hP
        have hD : va_D A (wC g (sA (sA (sA (sA (sA (sA (sF (sF σ 4 n) 5 63) 21 pc2) 22 S_50) 23 bf2) 24 w24) 21 pc2_75) 23 bf2_75) ++ tl) := hD
        refine lv_iinc (v := nI (sb v5 1)) (lv' := [(5, .int (nI (sb v5 1))), (0, .ref (g.2.2.2 36)), (1, .ref (g.2.2.2 1)), (2, .ref (g.2.2.2 20)), (3, .int (nI n)), (4, .int (nI ((2 ^ n) - 1)))]) hx hb dX2_find_78 hl (k := 5) rfl (jn_imB _) (by decide) rfl (fun ls hl => ?_)
        refine lv_goto (tgt := 66) hx hb dX2_find_81 (by decide) ?_
        exact ih66 (sb v5 1) pc2_75 bf2_75 (k - 1) (by rw [sv.2.2 (by omega)]) (by omega) (by rw [← show v5 = k - 1 by omega]; exact h_75) (by omega) _ _ hP hD hS _ (lv_sub hl [1, 2, 3, 4, 5, 0] rfl)
  exact lp66 _ (sb ((2 ^ n) - 1) 1) pc2_57 (σ.2.1 23) (2 ^ n - 1) rfl (Nat.le_refl _) (tb_full h_57) (Nat.lt_succ_self _) _ _ hP hD hS _ (lv_sub hl [2, 3, 4, 5, 1, 0] rfl)
