/-! ===== class and reference answer alike, second ===== -/
section TIES
theorem mmL {σ τ : SS} {l0 l1 : Nat → Nat} (h : MmR σ τ) : MmR (sL (sL σ 0 l0) 1 l1) τ := ⟨h.1, h.2.1, h.2.2.1, fun j hj => by
  show SnR (va_up (va_up σ.2.2 0 l0) 1 l1 (2 + (σ.1 9 + 7 - j) % 8)) _
  rw [show va_up (va_up σ.2.2 0 l0) 1 l1 (2 + (σ.1 9 + 7 - j) % 8) = σ.2.2 (2 + (σ.1 9 + 7 - j) % 8) from (if_neg (by omega)).trans (if_neg (by omega))]
  exact h.2.2.2 j hj⟩
theorem svL {σ τ : SS} {l0 l1 : Nat → Nat} (h : SvR σ τ) : SvR (sL (sL σ 0 l0) 1 l1) τ := ⟨h.1, h.2.1, fun q => h.2.2 q⟩
variable {σ τ τ' : SS} {ov : Nat → Int64} {dv : Nat → UInt64} {r : Int32} {z : HZ}
theorem tie_transition {idx v : Nat} (hI : Inv σ τ) (h1 : RH_transition σ idx ov dv r z) (h2 : RM_transition τ idx v τ') : Tie r z τ' (nI v).toInt64 := by
  obtain ⟨r0, th, rfl, h2, rfl⟩ := h2
  have hT := hI.t
  have hc := cntT_ct hI.okT
  rcases h1 with ⟨rfl, c1, rfl⟩ | ⟨rfl, c1, rfl⟩ <;> rw [hT, hc] at c1 <;> rcases h2 with ⟨d1, rfl, d2⟩ | ⟨d1, rfl, d2⟩
  · refine ⟨rfl, fun _ => ?_, hI.1⟩
    show (nI (cdT (kth (pT (σ.2.1 0)) idx 75))).toInt64 = _
    rw [hT, d2]
  · exact absurd c1 d1
  · exact absurd d1 c1
  · exact ⟨rfl, fun q => absurd q n01, hI.1⟩
theorem wd_new {σ2 τ2 : SS} {n : Nat} {f g : Nat → Nat} (h20 : σ2.1 20 = n) (h6 : τ2.1 6 = n) (h14 : σ2.2.1 14 = f) (h5 : τ2.2.1 5 = g) (hn : n ≤ 8) (he : ∀ i, i < n → f i = g i ∧ f i < 3) : WdR σ2 τ2 := ⟨by rw [h20, h6], by rw [h20]; exact hn, fun i hi => by rw [h20] at hi; rw [h14, h5]; exact he i hi⟩
theorem tie_appendLetter {x v : Nat} (hI : Inv σ τ) (h1 : RH_appendLetter σ x ov dv r z) (h2 : RM_appendLetter τ x v τ') : Tie r z τ' (nI v).toInt64 := by
  obtain ⟨r0, th, n, f, rfl, h2, rfl⟩ := h2
  have e1 := hI.wd.1
  have hw := hI.weq
  have h3 := hI.w3
  have h8 := hI.w8
  rcases h1 with ⟨rfl, c1, c2, rfl⟩ | ⟨rfl, c1, rfl⟩ | ⟨rfl, c1, rfl⟩
  · rcases h2 with ⟨d1, rfl, rfl, rfl⟩ | ⟨d1, d2, rfl, rfl, rfl⟩ | ⟨d1, d2, rfl, rfl, rfl, rfl⟩
    · exact absurd c1 d1
    · omega
    · refine ⟨rfl, fun _ => ?_, hI.lv, hI.st, hI.mm, hI.sv, hI.tx, wd_new (n := τ.1 6 + 1) ?_ rfl rfl rfl (by omega) (fun i hi => ?_), od0 hI.od rfl rfl⟩
      · show (nI (σ.1 20 + 1)).toInt64 = (nI (τ.1 6 + 1)).toInt64
        rw [e1]
      · show σ.1 20 + 1 = τ.1 6 + 1
        rw [e1]
      · show va_up (σ.2.1 14) (σ.1 20) x i = va_up (τ.2.1 5) (τ.1 6) x i ∧ va_up (σ.2.1 14) (σ.1 20) x i < 3
        rw [e1]
        unfold va_up
        split
        · exact ⟨rfl, c1⟩
        · exact ⟨hw i (by omega), h3 i (by omega)⟩
  · rcases h2 with ⟨d1, rfl, rfl, rfl⟩ | ⟨d1, d2, rfl, rfl, rfl⟩ | ⟨d1, d2, rfl, rfl, rfl, rfl⟩
    · exact ⟨rfl, fun q => absurd q n01, hI.1⟩
    · exact absurd d1 c1
    · exact absurd d1 c1
  · rcases h2 with ⟨d1, rfl, rfl, rfl⟩ | ⟨d1, d2, rfl, rfl, rfl⟩ | ⟨d1, d2, rfl, rfl, rfl, rfl⟩
    · exact absurd c1.1 d1
    · exact ⟨rfl, fun q => absurd q n02, hI.1⟩
    · omega
theorem tie_letterAt {x v : Nat} (hI : Inv σ τ) (h1 : RH_letterAt σ x ov dv r z) (h2 : RM_letterAt τ x v τ') : Tie r z τ' (nI v).toInt64 := by
  obtain ⟨r0, th, rfl, h2, rfl⟩ := h2
  have e1 := hI.wd.1
  rcases h1 with ⟨rfl, c1, rfl⟩ | ⟨rfl, c1, rfl⟩ <;> rw [e1] at c1 <;> rcases h2 with ⟨d1, rfl⟩ | ⟨d1, rfl, rfl⟩
  · exact absurd c1 d1
  · refine ⟨rfl, fun _ => ?_, hI.1⟩
    show (nI (σ.2.1 14 x)).toInt64 = (nI (τ.2.1 5 x)).toInt64
    rw [hI.weq x c1]
  · exact ⟨rfl, fun q => absurd q n01, hI.1⟩
  · exact absurd d1 c1
theorem ac_eq (hI : Inv σ τ) (md : Nat) : acP (σ.2.1 0) (σ.2.1 14) (σ.1 0) (σ.1 20) md ↔ acR (τ.2.1 0) (τ.2.1 5) (τ.2.1 0 15) (τ.1 6) md := by
  rw [hI.t, hI.f, hI.wd.1, acP_R hI.mw8, acR_w hI.weq]
theorem tie_accepts {md v : Nat} (hI : Inv σ τ) (h1 : RH_accepts σ md ov dv r z) (h2 : RM_accepts τ md v τ') : TieZ r z τ' v := by
  obtain ⟨r0, th, j2, r2, e2, f2, f7, f8, rfl, h2, rfl⟩ := h2
  have hT := hI.t
  rcases h1 with ⟨f15, m2, s2, k2, i2, p2, rfl, c1, c2, rfl⟩ | ⟨rfl, c1, rfl⟩ | ⟨rfl, c1, rfl⟩
  · rw [hT] at c2
    rcases h2 with ⟨d1, rfl⟩ | ⟨d1, rfl⟩ | ⟨d1, rfl, rfl, d2⟩ | ⟨d1, rfl, rfl, d2⟩
    · exact absurd c1 d1
    · exact absurd (c2 d1.2.1) d1.2.2
    · exact ⟨rfl, fun _ => ⟨by decide, (if_pos ((ac_eq hI md).mpr d2)).trans (by decide)⟩, hI.1⟩
    · exact ⟨rfl, fun _ => ⟨by decide, (if_neg (fun q => d2 ((ac_eq hI md).mp q))).trans (by decide)⟩, hI.1⟩
  · rcases h2 with ⟨d1, rfl⟩ | ⟨d1, rfl⟩ | ⟨d1, rfl, rfl, d2⟩ | ⟨d1, rfl, rfl, d2⟩
    · exact ⟨rfl, fun q => absurd q n01, hI.1⟩
    · exact absurd d1.1 c1
    · exact absurd d1.1 c1
    · exact absurd d1.1 c1
  · rw [hT] at c1
    rcases h2 with ⟨d1, rfl⟩ | ⟨d1, rfl⟩ | ⟨d1, rfl, rfl, d2⟩ | ⟨d1, rfl, rfl, d2⟩
    · omega
    · exact ⟨rfl, fun q => absurd q n02, hI.1⟩
    · exact absurd (d1.2 c1.1) c1.2
    · exact absurd (d1.2 c1.1) c1.2
theorem cnt_weq (hI : Inv σ τ) : cntW (σ.2.1 14) (τ.1 6) = cntW (τ.2.1 5) (τ.1 6) := funext (fun x => cntW_w hI.weq x)
theorem isArr_lt3 (T : Nat → Nat) (fin : Nat) : ∀ k (lf : Nat → Nat) (m q : Nat) (w : Nat → Nat), isArr T fin k lf m q w → ∀ i, i < k → w i < 3
  | 0, _, _, _, _, _, i, hi => absurd hi (by omega)
  | k + 1, lf, m, q, w, h, i, hi => by
    obtain ⟨x, h1, -, -, -, h5, h6⟩ := h
    cases i with
    | zero => rw [h5]; exact h1
    | succ i => exact isArr_lt3 T fin k _ _ _ _ h6 i (by omega)
theorem tie_takeArrangement {rk v : Nat} (hI : Inv σ τ) (h1 : RH_takeArrangement σ rk ov dv r z) (h2 : RM_takeArrangement τ rk v τ') : Tie r z τ' (nI v).toInt64 := by
  obtain ⟨r0, th, rl, fo, wd, ot, lf, rfl, h2, rfl⟩ := h2
  have hT := hI.t
  have hf := hI.f
  have e1 := hI.wd.1
  have ec := cnt_weq hI
  rcases h1 with ⟨sn2, lt2, lf2, rfl, c1, c2, c3, rfl⟩ | ⟨n17, sn2, n19, lt2, lf2, rfl, c1, rfl⟩ | ⟨n17, sn2, n19, lt2, lf2, rfl, c1, rfl⟩
  · rw [hT, hf, e1, ec] at c2 c3
    rcases h2 with ⟨d1, rfl, rfl⟩ | ⟨d1, d2, rfl, rfl⟩ | ⟨d1, d2, rfl, rfl, d3⟩
    · omega
    · exact absurd c2 d2
    · refine ⟨rfl, fun _ => ?_, hI.lv, hI.st, hI.mm, hI.sv, hI.tx, wd_new (n := τ.1 6) e1 rfl rfl rfl hI.mw8 (fun i hi => ?_), od0 hI.od rfl rfl⟩
      · show (nI (σ.1 20)).toInt64 = (nI (τ.1 6)).toInt64
        rw [e1]
      · show va_cpy lt2 (σ.2.1 14) 0 0 (σ.1 20) i = wd i ∧ va_cpy lt2 (σ.2.1 14) 0 0 (σ.1 20) i < 3
        rw [e1, cpy0 i hi]
        exact ⟨isArr_one _ _ _ _ _ _ _ _ c3 d3 i hi, isArr_lt3 _ _ _ _ _ _ _ c3 i hi⟩
  · rcases h2 with ⟨d1, rfl, rfl⟩ | ⟨d1, d2, rfl, rfl⟩ | ⟨d1, d2, rfl, rfl, d3⟩
    · exact ⟨rfl, fun q => absurd q n01, hI.1⟩
    · omega
    · omega
  · rw [hT, hf, e1, ec] at c1
    rcases h2 with ⟨d1, rfl, rfl⟩ | ⟨d1, d2, rfl, rfl⟩ | ⟨d1, d2, rfl, rfl, d3⟩
    · omega
    · exact ⟨rfl, fun q => absurd q n02, hI.1⟩
    · exact absurd d2 c1.2
theorem ow_eq (hI : Inv σ τ) : ((readO (σ.2.1 0) (σ.2.1 14) (σ.1 20)).1, (readO (σ.2.1 0) (σ.2.1 14) (σ.1 20)).2.1.length, (readO (σ.2.1 0) (σ.2.1 14) (σ.1 20)).2.2.1) = owV (τ.2.1 0) 1 (wl (τ.2.1 5) (τ.1 6)) 0 0 := by
  rw [readO_V hI.w8, hI.t, hI.wd.1, wl_w hI.weq]
theorem tie_oneWayJumps {v : Nat} (hI : Inv σ τ) (h1 : RH_oneWayJumps σ ov dv r z) (h2 : RM_oneWayJumps τ v τ') : Tie r z τ' (nI v).toInt64 := by
  obtain ⟨r0, th, j2, r2, e2, f2, rfl, h2, rfl⟩ := h2
  have hT := hI.t
  rcases h1 with ⟨m2, s2, k2, i2, p2, rfl, c1, rfl⟩ | ⟨rfl, c1, rfl⟩ <;> rw [hT] at c1 <;> rcases h2 with ⟨d1, rfl⟩ | ⟨d1, rfl, rfl⟩
  · exact absurd c1 d1
  · refine ⟨rfl, fun _ => ?_, hI.1⟩
    rw [← ow_eq hI]; rfl
  · exact ⟨rfl, fun q => absurd q n01, hI.1⟩
  · exact absurd d1 c1
theorem tie_oneWayRest {v : Nat} (hI : Inv σ τ) (h1 : RH_oneWayRest σ ov dv r z) (h2 : RM_oneWayRest τ v τ') : Tie r z τ' (nI v).toInt64 := by
  obtain ⟨r0, th, j2, r2, e2, f2, rfl, h2, rfl⟩ := h2
  have hT := hI.t
  rcases h1 with ⟨m2, s2, k2, i2, p2, rfl, c1, rfl⟩ | ⟨rfl, c1, rfl⟩ <;> rw [hT] at c1 <;> rcases h2 with ⟨d1, rfl⟩ | ⟨d1, rfl, rfl⟩
  · exact absurd c1 d1
  · refine ⟨rfl, fun _ => ?_, hI.1⟩
    rw [← ow_eq hI]; rfl
  · exact ⟨rfl, fun q => absurd q n01, hI.1⟩
  · exact absurd d1 c1
theorem oc_eq (hI : Inv σ τ) : ocost (σ.2.1 0) (σ.2.1 14) (σ.1 0) (σ.1 20) = ocost (τ.2.1 0) (τ.2.1 5) (τ.2.1 0 15) (τ.1 6) := by
  rw [hI.t, hI.f, hI.wd.1, oc_w hI.weq]
theorem tie_orderCost {v : Nat} (hI : Inv σ τ) (h1 : RH_orderCost σ ov dv r z) (h2 : RM_orderCost τ v τ') : Tie r z τ' (nI v).toInt64 := by
  obtain ⟨r0, th, f11, rfl, h2, rfl⟩ := h2
  have eo := oc_eq hI
  rcases h1 with ⟨n4, co, kn, pc2, S, bf2, w2, od, rfl, c1, rfl, c3, rfl⟩ | ⟨n4, co, kn, pc2, S, bf2, w2, od, rfl, ⟨c1, rfl, c3⟩, rfl⟩ <;> have ec := c1.1 <;> rw [eo] at ec <;> subst ec <;> rcases h2 with ⟨d1, rfl⟩ | ⟨d1, rfl, rfl⟩
  · exact absurd c3 d1
  · exact ⟨rfl, fun _ => rfl, hI.lv, hI.st, hI.mm, hI.sv, hI.tx, hI.wd, by show (1 : Nat) < 2; decide, fun _ => c1, hI.od.2.2⟩
  · exact ⟨rfl, fun q => absurd q n01, hI.lv, hI.st, hI.mm, hI.sv, hI.tx, hI.wd, by show (1 : Nat) < 2; decide, fun _ => c1, hI.od.2.2⟩
  · exact absurd d1 c3
theorem tie_orderPosition {x v : Nat} (hI : Inv σ τ) (h1 : RH_orderPosition σ x ov dv r z) (h2 : RM_orderPosition τ x v τ') : Tie r z τ' (nI v).toInt64 := by
  obtain ⟨r0, th, f11, f12, rfl, h2, rfl⟩ := h2
  have eo := oc_eq hI
  have e1 := hI.wd.1
  rcases h1 with ⟨n4, co, kn, pc2, S, bf2, w2, od, rfl, c0, c1, rfl, c3, rfl⟩ | ⟨n4, co, kn, pc2, S, bf2, w2, od, rfl, ⟨c0, rfl, rfl, rfl, rfl⟩, rfl⟩ | ⟨n4, co, kn, pc2, S, bf2, w2, od, rfl, ⟨c0, c1, rfl, c3⟩, rfl⟩
  · rw [e1] at c0
    have ec := c1.1
    rw [eo] at ec
    rcases h2 with ⟨d1, rfl⟩ | ⟨d1, d2, rfl⟩ | ⟨d1, d2, rfl, d3⟩
    · exact absurd c0 d1
    · omega
    · refine ⟨rfl, fun _ => ?_, hI.lv, hI.st, hI.mm, hI.sv, hI.tx, hI.wd, by show (1 : Nat) < 2; decide, fun _ => c1, hI.od.2.2⟩
      show (nI (od x)).toInt64 = _
      rw [d3 od]
      have ho := (c1.2 c3).1
      rw [eo] at ho
      have hT := hI.t
      have hf := hI.f
      rw [hT, hf, e1] at ho
      exact isOrd_w hI.weq _ _ _ _ _ _ ho
  · rw [e1] at c0
    rcases h2 with ⟨d1, rfl⟩ | ⟨d1, d2, rfl⟩ | ⟨d1, d2, rfl, d3⟩
    · exact ⟨rfl, fun q => absurd q n01, hI.1⟩
    · exact absurd d1 c0
    · exact absurd d1 c0
  · rw [e1] at c0
    have ec := c1.1
    rw [eo] at ec
    rcases h2 with ⟨d1, rfl⟩ | ⟨d1, d2, rfl⟩ | ⟨d1, d2, rfl, d3⟩
    · exact absurd c0 d1
    · exact ⟨rfl, fun q => absurd q n02, hI.lv, hI.st, hI.mm, hI.sv, hI.tx, hI.wd, by show (1 : Nat) < 2; decide, fun _ => c1, hI.od.2.2⟩
    · omega
theorem tie_reaches {a b c2 v : Nat} (hI : Inv σ τ) (h1 : RH_reaches σ a b c2 ov dv r z) (h2 : RM_reaches τ a b c2 v τ') : TieZ r z τ' v := by
  obtain ⟨r0, th, f7, rfl, h2, rfl⟩ := h2
  have hT := hI.t
  have hf := hI.f
  rcases h1 with ⟨f15, rfl, c1, rfl⟩ | ⟨rfl, c1, rfl⟩ <;> rcases h2 with ⟨d1, rfl⟩ | ⟨d1, rfl, rfl⟩
  · exact absurd c1 d1
  · refine ⟨rfl, fun _ => ?_, hI.1⟩
    have e := if_z (P := rch (τ.2.1 0) a b c2 &&& (τ.2.1 0 15) ≠ 0) rfl
    refine ⟨e.1, ?_⟩
    rw [← e.2]
    show (if rch (σ.2.1 0) a b c2 &&& σ.1 0 ≠ 0 then 1 else 0 : Int64) = _
    rw [hT, hf]
  · exact ⟨rfl, fun q => absurd q n01, hI.1⟩
  · exact absurd d1 c1
theorem mn_fd (hI : Inv σ τ) {f17 f13 : Nat → Nat} {n6 : Nat} (hL : LOk f17 n6) (h : ∀ z, inL f17 n6 z ↔ mnC (σ.2.1 0) (σ.1 0) z) (h2 : FdO f13 (mnK (τ.2.1 0) (τ.2.1 0 15)) 1000) : ∀ z, z < 1000 → fdB f13 z = decide (inL f17 n6 z) := by
  have hT := hI.t
  have hf := hI.f
  rw [hT, hf] at h
  exact fd_list hL h (fdo_n h2) (fun z hz => mnC_K hI.okT hz)
theorem tie_minimal {x v : Nat} (hI : Inv σ τ) (h1 : RH_minimal σ x ov dv r z) (h2 : RM_minimal τ x v τ') : Tie r z τ' (nI v).toInt64 := by
  obtain ⟨r0, th, f7, f13, rfl, h3, h2, rfl⟩ := h2
  rcases h1 with ⟨n6, f15, f17, rfl, c1, c2, c3, rfl⟩ | ⟨n6, f15, f17, rfl, ⟨c1, c2, c3⟩, rfl⟩ <;> have e := mn_fd hI c1 c2 h3 <;> have en := fd_ct c1 e <;> rw [en] at h2 <;> rcases h2 with ⟨d1, rfl, d2⟩ | ⟨d1, rfl, d2⟩
  · refine ⟨rfl, fun _ => ?_, hI.1⟩
    show (nI (f17 x)).toInt64 = _
    rw [d2, fd_kth c1 e c3]
  · exact absurd c3 d1
  · exact absurd d1 c3
  · exact ⟨rfl, fun q => absurd q n01, hI.1⟩
theorem cy_fd (hI : Inv σ τ) {f18 f13 : Nat → Nat} {n7 us : Nat} (hL : LOk f18 n7) (h : ∀ x, inL f18 n7 x ↔ cyA (σ.2.1 0) (usf σ) 5 x) (hu : us = fR (τ.2.1 0) 5 &&& bR (τ.2.1 0) (τ.2.1 0 15) 5) (h2 : FdN f13 (cyN (τ.2.1 0) us 5)) : ∀ z, z < 1000 → fdB f13 z = decide (inL f18 n7 z) := by
  have eu : usf σ = us := by
    show frm (σ.2.1 0) 4 &&& twd (σ.2.1 0) (σ.1 0) 4 = us
    rw [hI.t, hI.f, useful_eq hI.okT hI.fin, hu]
  have hT := hI.t
  rw [eu, hT] at h
  exact fd_list hL h h2 (fun z _ => cyc_eq)
theorem tie_cycle {x v : Nat} (hI : Inv σ τ) (h1 : RH_cycle σ x ov dv r z) (h2 : RM_cycle τ x v τ') : Tie r z τ' (nI v).toInt64 := by
  obtain ⟨r0, th, us, f13, rfl, h3, h4, h2, rfl⟩ := h2
  rcases h1 with ⟨n7, s8, f18, rfl, c1, c2, c4, c3, rfl⟩ | ⟨n7, s8, f18, rfl, ⟨c1, c2, c4, c3⟩, rfl⟩ <;> have e := cy_fd hI c1 c2 h3 h4 <;> have en := fd_ct c1 e <;> rw [en] at h2 <;> rcases h2 with ⟨d1, rfl, d2⟩ | ⟨d1, rfl, d2⟩
  · refine ⟨rfl, fun _ => ?_, hI.lv, hI.st, hI.mm, hI.sv, hI.tx, hI.wd, hI.od.1, hI.od.2.1, c4⟩
    show (nI (f18 x)).toInt64 = _
    rw [d2, fd_kth c1 e c3]
  · exact absurd c3 d1
  · exact absurd d1 c3
  · exact ⟨rfl, fun q => absurd q n01, hI.lv, hI.st, hI.mm, hI.sv, hI.tx, hI.wd, hI.od.1, hI.od.2.1, c4⟩
theorem tie_contains {s2 x1 x2 x3 v : Nat} (hI : Inv σ τ) (h1 : RH_contains σ s2 x1 x2 x3 ov dv r z) (h2 : RM_contains τ s2 x1 x2 x3 v τ') : TieZ r z τ' v := by
  obtain ⟨r0, th, rfl, h2, rfl⟩ := h2
  rcases h1 with ⟨b, f16, rfl, c1, c2, c3, rfl⟩ | ⟨rfl, c1, rfl⟩ | ⟨rfl, c1, rfl⟩
  · rcases h2 with ⟨d1, rfl⟩ | ⟨d1, d2, rfl⟩ | ⟨d1, d2, rfl, rfl⟩
    · exact absurd c1 d1
    · exact absurd c2 d2
    · have e := mbS_eq (x := x1) (y := x2) (z := x3) hI.okS hI.set c1
      refine ⟨rfl, fun _ => ?_, hI.1⟩
      rcases c3 with ⟨rfl, w⟩ | ⟨rfl, w⟩
      · rw [if_pos (cB_iff.mpr (e.mp w))]; exact ⟨by decide, rfl⟩
      · rw [if_neg (fun q => w (e.mpr (cB_iff.mp q)))]; exact ⟨by decide, rfl⟩
  · rcases h2 with ⟨d1, rfl⟩ | ⟨d1, d2, rfl⟩ | ⟨d1, d2, rfl, rfl⟩
    · exact ⟨rfl, fun q => absurd q n01, hI.1⟩
    · exact absurd d1 c1
    · exact absurd d1 c1
  · rcases h2 with ⟨d1, rfl⟩ | ⟨d1, d2, rfl⟩ | ⟨d1, d2, rfl, rfl⟩
    · exact absurd c1.1 d1
    · exact ⟨rfl, fun q => absurd q n02, hI.1⟩
    · exact absurd d2 c1.2
theorem tie_elements {s2 bd v : Nat} (hI : Inv σ τ) (h1 : RH_elements σ s2 bd ov dv r z) (h2 : RM_elements τ s2 bd v τ') : Tie r z τ' (nI v).toInt64 := by
  obtain ⟨r0, th, rfl, h2, rfl⟩ := h2
  rcases h1 with ⟨f16, rfl, c1, c2, c3, rfl⟩ | ⟨rfl, c1, rfl⟩ | ⟨rfl, c1, rfl⟩
  · rcases h2 with ⟨d1, rfl⟩ | ⟨d1, d2, rfl⟩ | ⟨d1, d2, rfl, rfl⟩
    · exact absurd c1 d1
    · exact absurd c2 d2
    · refine ⟨rfl, fun _ => ?_, hI.1⟩
      show (nI (cnt3 (fun a b c => decide (f16 (100 * a + 10 * b + c) &&& 15 ≠ 0)) (bd + 1))).toInt64 = _
      rw [cnt3_cong (q := fun a b c => cB (inR (τ.2.1 0) s2 a b c)) (fun a b c ha hb hc => ?_)]
      rw [eq_comm]
      refine cB_dec ?_
      rw [← mbS_eq hI.okS hI.set c1, mb_and c3 (hI.okC s2 c1).1 (by omega) (by omega) (by omega)]
  · rcases h2 with ⟨d1, rfl⟩ | ⟨d1, d2, rfl⟩ | ⟨d1, d2, rfl, rfl⟩
    · exact ⟨rfl, fun q => absurd q n01, hI.1⟩
    · exact absurd d1 c1
    · exact absurd d1 c1
  · rcases h2 with ⟨d1, rfl⟩ | ⟨d1, d2, rfl⟩ | ⟨d1, d2, rfl, rfl⟩
    · exact absurd c1.1 d1
    · exact ⟨rfl, fun q => absurd q n02, hI.1⟩
    · exact absurd d2 c1.2
theorem tie_reachedCounts {bd v : Nat} (hI : Inv σ τ) (h1 : RH_reachedCounts σ bd ov dv r z) (h2 : RM_reachedCounts τ bd v τ') : Tie r z τ' (nI v).toInt64 := by
  obtain ⟨r0, th, f7, rfl, h2, rfl⟩ := h2
  have hT := hI.t
  have hf := hI.f
  rcases h1 with ⟨f15, rfl, c1, rfl⟩ | ⟨rfl, c1, rfl⟩ <;> rcases h2 with ⟨d1, rfl⟩ | ⟨d1, rfl, rfl⟩
  · exact absurd c1 d1
  · refine ⟨rfl, fun _ => ?_, hI.1⟩
    show (nI (cnt3 (fun a b c => decide (rch (σ.2.1 0) a b c &&& σ.1 0 ≠ 0)) (bd + 1))).toInt64 = _
    rw [hT, hf]
  · exact ⟨rfl, fun q => absurd q n01, hI.1⟩
  · exact absurd d1 c1
theorem df_eq (hI : Inv σ τ) {s2 wr : Nat} (hs : s2 < 2) : dfS (σ.2.1 0) (σ.1 0) (σ.2.1 2) s2 wr = dfR (τ.2.1 0) (τ.2.1 0 15) (τ.2.1 0) s2 wr := by
  funext x y w
  unfold dfS dfR
  rw [mbS_eq hI.okS hI.set hs, hI.t, hI.f]
theorem isDf_one {P : Nat → Nat → Nat → Prop} {bd a b : Nat} (h1 : isDf P bd a) (h2 : isDf P bd b) : a = b := by
  obtain ⟨x, y, w, p1, p2, p3, p4, p5, p6⟩ := h1
  obtain ⟨x2, y2, w2, q1, q2, q3, q4, q5, q6⟩ := h2
  have g1 : ¬ (x2 + y2 + w2 < x + y + w ∨ (x2 + y2 + w2 = x + y + w ∧ (x2 < x ∨ (x2 = x ∧ y2 < y)))) := fun h => p6 x2 y2 w2 q1 q2 q3 h q4
  have g2 : ¬ (x + y + w < x2 + y2 + w2 ∨ (x + y + w = x2 + y2 + w2 ∧ (x < x2 ∨ (x = x2 ∧ y < y2)))) := fun h => q6 x y w p1 p2 p3 h p4
  omega
theorem tie_df {nm : Nat} {s2 bd v : Nat} (hI : Inv σ τ) (h1 : (∃ (r0 : Nat) (f15 : Nat → Nat) (f16 : Nat → Nat), r = nI 0 ∧ (s2 < 2) ∧ (bd < 7) ∧ (isDf (dfS (σ.2.1 0) (σ.1 0) (σ.2.1 2) s2 nm) bd r0) ∧ z = ((sA (sA σ 15 f15) 16 f16), vp_updL ov 0 ((nI (r0)).toInt64), dv)) ∨ (∃ (f15 : Nat → Nat) (f16 : Nat → Nat), r = nI 1 ∧ (¬ s2 < 2) ∧ z = ((sA (sA σ 15 f15) 16 f16), ov, dv)) ∨ (∃ (f15 : Nat → Nat) (f16 : Nat → Nat), r = nI 2 ∧ (s2 < 2 ∧ ¬ bd < 7) ∧ z = ((sA (sA σ 15 f15) 16 f16), ov, dv)) ∨ (∃ (f15 : Nat → Nat) (f16 : Nat → Nat), r = nI 3 ∧ (s2 < 2 ∧ bd < 7 ∧ ∀ x y z, x ≤ bd → y ≤ bd → z ≤ bd → ¬ (dfS (σ.2.1 0) (σ.1 0) (σ.2.1 2) s2 nm) x y z) ∧ z = ((sA (sA σ 15 f15) 16 f16), ov, dv)))
    (h2 : ∃ (r0 : Nat) (th : Nat) (f7 : Nat → Nat), v = r0 ∧ ((¬ s2 < 2 ∧ th = 1) ∨ (s2 < 2 ∧ ¬ bd < 7 ∧ th = 2) ∨ (s2 < 2 ∧ bd < 7 ∧ th = 3 ∧ ∀ x y z, x ≤ bd → y ≤ bd → z ≤ bd → ¬ (dfR (τ.2.1 0) ((τ.2.1 0) 15) (τ.2.1 0) s2 nm) x y z) ∨ (s2 < 2 ∧ bd < 7 ∧ th = 0 ∧ isDf (dfR (τ.2.1 0) ((τ.2.1 0) 15) (τ.2.1 0) s2 nm) bd r0)) ∧ τ' = (sA (sF τ 0 th) 7 f7)) : Tie r z τ' (nI v).toInt64 := by
  obtain ⟨r0, th, f7, rfl, h2, rfl⟩ := h2
  rcases h1 with ⟨r1, f15, f16, rfl, c1, c2, c3, rfl⟩ | ⟨f15, f16, rfl, c1, rfl⟩ | ⟨f15, f16, rfl, c1, rfl⟩ | ⟨f15, f16, rfl, c1, rfl⟩
  · rw [df_eq hI c1] at c3
    rcases h2 with ⟨d1, rfl⟩ | ⟨d1, d2, rfl⟩ | ⟨d1, d2, rfl, d3⟩ | ⟨d1, d2, rfl, d3⟩
    · exact absurd c1 d1
    · exact absurd c2 d2
    · obtain ⟨x, y, w, p1, p2, p3, p4, -⟩ := c3
      exact absurd p4 (d3 x y w p1 p2 p3)
    · refine ⟨rfl, fun _ => ?_, hI.1⟩
      show (nI r1).toInt64 = (nI v).toInt64
      rw [isDf_one c3 d3]
  · rcases h2 with ⟨d1, rfl⟩ | ⟨d1, d2, rfl⟩ | ⟨d1, d2, rfl, d3⟩ | ⟨d1, d2, rfl, d3⟩
    · exact ⟨rfl, fun q => absurd q n01, hI.1⟩
    · exact absurd d1 c1
    · exact absurd d1 c1
    · exact absurd d1 c1
  · rcases h2 with ⟨d1, rfl⟩ | ⟨d1, d2, rfl⟩ | ⟨d1, d2, rfl, d3⟩ | ⟨d1, d2, rfl, d3⟩
    · exact absurd c1.1 d1
    · exact ⟨rfl, fun q => absurd q n02, hI.1⟩
    · exact absurd d2 c1.2
    · exact absurd d2 c1.2
  · obtain ⟨c1, c2, c3⟩ := c1
    rw [df_eq hI c1] at c3
    rcases h2 with ⟨d1, rfl⟩ | ⟨d1, d2, rfl⟩ | ⟨d1, d2, rfl, d3⟩ | ⟨d1, d2, rfl, d3⟩
    · exact absurd c1 d1
    · exact absurd c2 d2
    · exact ⟨rfl, fun q => absurd q n03, hI.1⟩
    · obtain ⟨x, y, w, p1, p2, p3, p4, -⟩ := d3
      exact absurd p4 (c3 x y w p1 p2 p3)
theorem tie_firstMissing {s2 bd v : Nat} (hI : Inv σ τ) (h1 : RH_firstMissing σ s2 bd ov dv r z) (h2 : RM_firstMissing τ s2 bd v τ') : Tie r z τ' (nI v).toInt64 := tie_df (nm := 1) hI h1 h2
theorem tie_firstExtra {s2 bd v : Nat} (hI : Inv σ τ) (h1 : RH_firstExtra σ s2 bd ov dv r z) (h2 : RM_firstExtra τ s2 bd v τ') : Tie r z τ' (nI v).toInt64 := tie_df (nm := 0) hI h1 h2
theorem tie_hasCyclePeriods {s2 ln v : Nat} (hI : Inv σ τ) (h1 : RH_hasCyclePeriods σ s2 ln ov dv r z) (h2 : RM_hasCyclePeriods τ s2 ln v τ') : TieZ r z τ' v := by
  obtain ⟨r0, th, us, f13, rfl, h2, rfl⟩ := h2
  have eL : (s2 < 2 ∧ ln < σ.2.1 2 (s2 * 21)) ↔ (s2 < 2 ∧ ln < τ.2.1 0 (16 + s2)) := by
    constructor
    · rintro ⟨q1, q2⟩; exact ⟨q1, by rw [← (hI.set s2 q1).1]; exact q2⟩
    · rintro ⟨q1, q2⟩; exact ⟨q1, by rw [(hI.set s2 q1).1]; exact q2⟩
  rcases h1 with ⟨b, n7, s8, f18, rfl, c1, c2, c3, rfl⟩ | ⟨rfl, c1, rfl⟩ <;> rw [eL] at c1
  · have hS := (hI.set s2 c1.1).2 ln c1.2
    have eu : usf σ = fR (τ.2.1 0) 5 &&& bR (τ.2.1 0) (τ.2.1 0 15) 5 := by
      show frm (σ.2.1 0) 4 &&& twd (σ.2.1 0) (σ.1 0) 4 = _
      rw [hI.t, hI.f, useful_eq hI.okT hI.fin]
    have ej : ∀ j, j < τ.2.1 0 (42 + (4 * s2 + ln)) → (cyA (σ.2.1 0) (usf σ) 5 (σ.2.1 2 (s2 * 21 + 1 + ln * 5 + 2 + j)) ↔ cyN (τ.2.1 0) (fR (τ.2.1 0) 5 &&& bR (τ.2.1 0) (τ.2.1 0 15) 5) 5 (100 * τ.2.1 0 (50 + 9 * (4 * s2 + ln) + 3 * j) + 10 * τ.2.1 0 (50 + 9 * (4 * s2 + ln) + 3 * j + 1) + τ.2.1 0 (50 + 9 * (4 * s2 + ln) + 3 * j + 2))) := fun j hj => by
      rw [hS.2.2 j hj, eu, hI.t, cyc_eq]
    rw [hS.2.1] at c2
    have od2 : OrR (sA (sF (sF σ 7 n7) 8 s8) 18 f18) := ⟨hI.od.1, hI.od.2.1, c3⟩
    rcases h2 with ⟨d1, rfl⟩ | ⟨d1, rfl, rfl, d2⟩ | ⟨d1, rfl, rfl, d2⟩
    · exact absurd c1 d1
    · refine ⟨rfl, fun _ => ?_, hI.lv, hI.st, hI.mm, hI.sv, hI.tx, hI.wd, od2⟩
      rcases c2 with ⟨rfl, w⟩ | ⟨rfl, j, w1, w2⟩
      · exact ⟨by decide, rfl⟩
      · exact absurd ((ej j w1).mpr (d2 j w1)) w2
    · refine ⟨rfl, fun _ => ?_, hI.lv, hI.st, hI.mm, hI.sv, hI.tx, hI.wd, od2⟩
      rcases c2 with ⟨rfl, w⟩ | ⟨rfl, j, w1, w2⟩
      · obtain ⟨j, w1, w2⟩ := d2
        exact absurd ((ej j w1).mp (w j w1)) w2
      · exact ⟨by decide, rfl⟩
  · rcases h2 with ⟨d1, rfl⟩ | ⟨d1, rfl, rfl, d2⟩ | ⟨d1, rfl, rfl, d2⟩
    · exact ⟨rfl, fun q => absurd q n01, hI.1⟩
    · exact absurd d1 c1
    · exact absurd d1 c1
theorem tie_acceptedWords {md n v : Nat} (hI : Inv σ τ) (h1 : RH_acceptedWords σ md n ov dv r z) (h2 : RM_acceptedWords τ md n v τ') : Tie r z τ' (lN v) := by
  obtain ⟨r0, th, j2, r2, e2, f6, f7, f8, f9, rfl, h2, rfl⟩ := h2
  have hT := hI.t
  have hf := hI.f
  rcases h1 with ⟨f15, l0, l1, m2, s2, k2, i2, p2, rfl, c1, c2, c3, rfl⟩ | ⟨rfl, c1, rfl⟩ | ⟨rfl, c1, rfl⟩
  · rw [hT] at c3
    rcases h2 with ⟨d1, rfl⟩ | ⟨d1, d2, rfl⟩ | ⟨d1, d2, rfl, rfl⟩
    · exact absurd ⟨c1, c2⟩ d1
    · exact absurd (c3 d2.1) d2.2
    · refine ⟨rfl, fun _ => ?_, hI.lv, hI.st, mmL (σ := σ) (l0 := l0) (l1 := l1) hI.mm, svL (σ := σ) (l0 := l0) (l1 := l1) hI.sv, hI.tx, hI.wd, hI.od⟩
      show lN (cwN (σ.2.1 0) (σ.1 0) md n) = _
      rw [hT, hf, cw_eq hI.okT c1 (by omega)]
  · rcases h2 with ⟨d1, rfl⟩ | ⟨d1, d2, rfl⟩ | ⟨d1, d2, rfl, rfl⟩
    · exact ⟨rfl, fun q => absurd q n01, hI.1⟩
    · exact absurd d1 c1
    · exact absurd d1 c1
  · rw [hT] at c1
    rcases h2 with ⟨d1, rfl⟩ | ⟨d1, d2, rfl⟩ | ⟨d1, d2, rfl, rfl⟩
    · exact absurd c1.1 d1
    · exact ⟨rfl, fun q => absurd q n02, hI.1⟩
    · exact absurd (d2 c1.2.1) c1.2.2
theorem tie_isClosed {n v : Nat} (hI : Inv σ τ) (h1 : RH_isClosed σ n ov dv r z) (h2 : RM_isClosed τ n v τ') : TieZ r z τ' v := by
  obtain ⟨r0, th, ol, f6, f7, f8, rfl, h2, rfl⟩ := h2
  have hT := hI.t
  have hf := hI.f
  rcases h1 with ⟨f15, l0, l1, rfl, c1, rfl⟩ | ⟨rfl, c1, rfl⟩
  · have e := sol_no_iff (T := τ.2.1 0) (fin := τ.2.1 0 15) (n := n) hI.okT (by omega)
    rcases h2 with ⟨d1, rfl⟩ | ⟨d1, rfl, rfl, d2⟩ | ⟨d1, rfl, rfl, d2⟩
    · exact absurd c1 d1
    · refine ⟨rfl, fun _ => ⟨by decide, ?_⟩, hI.lv, hI.st, mmL (σ := σ) (l0 := l0) (l1 := l1) hI.mm, svL (σ := σ) (l0 := l0) (l1 := l1) hI.sv, hI.tx, hI.wd, hI.od⟩
      show (if ¬ solF (σ.2.1 0) (σ.1 0) n ≤ n then 1 else 0 : Int64) = _
      rw [hT, hf, if_pos (e.mpr d2)]; rfl
    · refine ⟨rfl, fun _ => ⟨by decide, ?_⟩, hI.lv, hI.st, mmL (σ := σ) (l0 := l0) (l1 := l1) hI.mm, svL (σ := σ) (l0 := l0) (l1 := l1) hI.sv, hI.tx, hI.wd, hI.od⟩
      show (if ¬ solF (σ.2.1 0) (σ.1 0) n ≤ n then 1 else 0 : Int64) = _
      obtain ⟨ol2, w, hw⟩ := d2
      rw [hT, hf, if_neg (fun q => q (by rw [sol_or hI.okT (by omega) hw]; exact hw.1))]; rfl
  · rcases h2 with ⟨d1, rfl⟩ | ⟨d1, rfl, rfl, d2⟩ | ⟨d1, rfl, rfl, d2⟩
    · exact ⟨rfl, fun q => absurd q n01, hI.1⟩
    · exact absurd d1 c1
    · exact absurd d1 c1
theorem tie_takeOpenWord {n v : Nat} (hI : Inv σ τ) (h1 : RH_takeOpenWord σ n ov dv r z) (h2 : RM_takeOpenWord τ n v τ') : Tie r z τ' (nI v).toInt64 := by
  obtain ⟨r0, th, n6, ol, wd, f6, f7, f8, rfl, h2, rfl⟩ := h2
  have hT := hI.t
  have hf := hI.f
  rcases h1 with ⟨f15, l0, l1, n17, lt2, rfl, c1, c2, c3, c4, c5, rfl⟩ | ⟨f15, l0, l1, n17, lt2, rfl, c1, rfl⟩ | ⟨f15, l0, l1, n17, lt2, rfl, c1, rfl⟩
  · have e := sol_no_iff (T := τ.2.1 0) (fin := τ.2.1 0 15) (n := n) hI.okT (by omega)
    rcases h2 with ⟨d1, rfl, rfl, rfl⟩ | ⟨d1, d2, rfl, rfl, rfl⟩ | ⟨d1, rfl, rfl, d2⟩
    · exact absurd c1 d1
    · rw [hT, hf] at c2; exact absurd c2 (e.mpr d2)
    · have c3' := c3
      have c5' := c5
      rw [hT] at c3'
      rw [hT, hf] at c5'
      obtain ⟨es, ew⟩ := open_word (by omega) hI.okT c3' d2 c5'
      have hle := d2.1
      have es2 : solF (σ.2.1 0) (σ.1 0) n = v := by rw [hT, hf]; exact es
      refine ⟨rfl, fun _ => ?_, hI.lv, hI.st, mmL (σ := σ) (l0 := l0) (l1 := l1) hI.mm, svL (σ := σ) (l0 := l0) (l1 := l1) hI.sv, hI.tx, wd_new (n := v) es2 rfl rfl rfl (by omega) (fun i hi => ?_), od0 hI.od rfl rfl⟩
      · show (nI (solF (σ.2.1 0) (σ.1 0) n)).toInt64 = _
        rw [es2]
      · show va_cpy lt2 (σ.2.1 14) 0 0 (solF (σ.2.1 0) (σ.1 0) n) i = wd i ∧ va_cpy lt2 (σ.2.1 14) 0 0 (solF (σ.2.1 0) (σ.1 0) n) i < 3
        rw [es2, cpy0 i hi]
        obtain ⟨-, cd, -, -, -, -, g5⟩ := d2
        exact ⟨ew i hi, by rw [ew i hi, g5 i hi]; exact dgt_lt _ _ _⟩
  · rcases h2 with ⟨d1, rfl, rfl, rfl⟩ | ⟨d1, d2, rfl, rfl, rfl⟩ | ⟨d1, rfl, rfl, d2⟩
    · exact ⟨rfl, fun q => absurd q n01, hI.lv, hI.st, mmL (σ := σ) (l0 := l0) (l1 := l1) hI.mm, svL (σ := σ) (l0 := l0) (l1 := l1) hI.sv, hI.tx, hI.wd, hI.od⟩
    · exact absurd d1 c1
    · exact absurd d1 c1
  · obtain ⟨c1, c2, c3⟩ := c1
    rw [hT] at c2
    rw [hT, hf] at c3
    rcases h2 with ⟨d1, rfl, rfl, rfl⟩ | ⟨d1, d2, rfl, rfl, rfl⟩ | ⟨d1, rfl, rfl, d2⟩
    · exact absurd c1 d1
    · exact ⟨rfl, fun q => absurd q n02, hI.lv, hI.st, mmL (σ := σ) (l0 := l0) (l1 := l1) hI.mm, svL (σ := σ) (l0 := l0) (l1 := l1) hI.sv, hI.tx, hI.wd, hI.od⟩
    · have hs : solF (τ.2.1 0) (τ.2.1 0 15) n ≤ n := by rw [sol_or hI.okT (by omega) d2]; exact d2.1
      rcases c3 with w | w
      · exact absurd hs w
      · exact absurd (open_has (by omega) hI.okT c2 hs) w
theorem tie_density {md n : Nat} {v : UInt64} (hI : Inv σ τ) (h1 : RH_density σ md n ov dv r z) (h2 : RM_density τ md n v τ') : r = nI (τ'.1 0) ∧ (r = nI 0 → z.2.2 0 = v ∧ FP.dcmp v v = some .eq) ∧ InvW z.1 τ' := by
  obtain ⟨r0, th, j2, r2, e2, f6, f7, f8, f9, rfl, h2, rfl⟩ := h2
  have hT := hI.t
  have hf := hI.f
  rcases h1 with ⟨f15, l0, l1, m2, s2, k2, i2, p2, rfl, c1, c2, c3, rfl⟩ | ⟨rfl, c1, rfl⟩ | ⟨rfl, c1, rfl⟩
  · rw [hT] at c3
    rcases h2 with ⟨d1, rfl⟩ | ⟨d1, d2, rfl⟩ | ⟨d1, d2, rfl, rfl⟩
    · exact absurd ⟨c1, c2⟩ d1
    · exact absurd (c3 d2.1) d2.2
    · refine ⟨rfl, fun _ => ⟨?_, dd_e (by omega) (fb_ct_le _ _)⟩, hI.lv, hI.st, mmL (σ := σ) (l0 := l0) (l1 := l1) hI.mm, svL (σ := σ) (l0 := l0) (l1 := l1) hI.sv, hI.tx, hI.wd, hI.od⟩
      show ddQ n (cwN (σ.2.1 0) (σ.1 0) md n) = _
      rw [hT, hf, cw_eq hI.okT c1 (by omega)]
  · rcases h2 with ⟨d1, rfl⟩ | ⟨d1, d2, rfl⟩ | ⟨d1, d2, rfl, rfl⟩
    · exact ⟨rfl, fun q => absurd q n01, hI.1⟩
    · exact absurd d1 c1
    · exact absurd d1 c1
  · rw [hT] at c1
    rcases h2 with ⟨d1, rfl⟩ | ⟨d1, d2, rfl⟩ | ⟨d1, d2, rfl, rfl⟩
    · exact absurd c1.1 d1
    · exact ⟨rfl, fun q => absurd q n02, hI.1⟩
    · exact absurd (d2 c1.2.1) c1.2.2
theorem tie_averageMinimum {v : UInt32} (hI : Inv σ τ) (h1 : RH_averageMinimum σ ov dv r z) (h2 : RM_averageMinimum τ v τ') : r = nI (τ'.1 0) ∧ (r = nI 0 → z.2.2 0 = FP.f2d v ∧ vf_n64 (FP.f2d v) ∧ FP.dcmp (FP.f2d v) (FP.f2d v) = some .eq) ∧ InvW z.1 τ' := by
  obtain ⟨r0, th, f7, f13, rfl, h3, h2, rfl⟩ := h2
  rcases h1 with ⟨n6, f15, f17, rfl, c1, c2, c3, rfl⟩ | ⟨n6, f15, f17, rfl, ⟨c1, c2, c3⟩, rfl⟩ <;> have e := mn_fd hI c1 c2 h3 <;> have en := fd_ct c1 e <;> have es := fd_sm c1 e <;> rw [en, es] at h2 <;> rcases h2 with ⟨d1, rfl⟩ | ⟨d1, rfl, rfl⟩
  · omega
  · have g := ff_n c3 c1.1 (mn_sum c1 c2)
    exact ⟨rfl, fun _ => ⟨rfl, g.2.1, g.2.2.1⟩, hI.1⟩
  · exact ⟨rfl, fun q => absurd q n01, hI.1⟩
  · omega
end TIES
