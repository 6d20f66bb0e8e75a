section LWC
variable {p : Program} {l : Launch} {e : Env} {s : State} {m : MethodId} {below : List Frame} {meth : Method} {c : Code} {H : Heap} {locs : List Loc} {cells slots : Nat} {Q : State → Prop} {ls : Array Slot} {A : Nat → Prop} {b L i ao ad : Nat} {xs : Nat → Int32} {g : GC} {aM : Nat → Nat} {σ τ : SS} {ov : Nat → Int64} {dv : Nat → UInt64}

set_option maxHeartbeats 4000000 in
set_option maxRecDepth 100000 in
theorem lwc_615 (hflg : l.stackTraces = false) (C : LC p s m c cL_law b L xs A g) (hi : i + 5 < L) (hI : Inv σ τ) (hP : va_P (g.1, g.2.1) vwCl (LW g aM ao ad (σ, ov, dv) τ) H) (hD : va_D A (LW g aM ao ad (σ, ov, dv) τ)) (hS : va_S A s.heap H locs) (hl : lv_has ls 9 (LV b g aM ao ad i)) (hc : cells + 3 ≤ room_1.cells) (hsl : slots + 18 ≤ room_1.slots) (kk : LK p l e s m below meth c cells slots Q A b i ao ad g aM) : W p l e room_1 s m #[Value.ref b] below meth c H locs cells slots Q (F0 m 615 ls []) := by
  have C0 := C
  obtain ⟨hx, hb, hml, hown, hts, hK, hZ, hX, hbl, hbA, hAA, hL⟩ := C0
  obtain ⟨x1, hx1, ex1⟩ := nI_ex (xs (i + 1))
  obtain ⟨x2, hx2, ex2⟩ := nI_ex (xs (i + 2))
  obtain ⟨x3, hx3, ex3⟩ := nI_ex (xs (i + 3))
  obtain ⟨x4, hx4, ex4⟩ := nI_ex (xs (i + 4))
  obtain ⟨x5, hx5, ex5⟩ := nI_ex (xs (i + 5))
  have hc : cells + 3 ≤ 603072 := hc
  have hsl : slots + 18 ≤ 7170154 := hsl
  refine lv_aload_n hx hb dL_law_615 rfl (lv_at hl 1 rfl) ?_
  refine lw_arg C hS hl (List.mem_of_getElem? (i := 0) rfl) (List.mem_of_getElem? (i := 5) rfl) (k := 1) (by decide) (by omega) ex1 dL_law_616 dL_law_617 dL_law_619 dL_law_620 dL_law_621 ?_
  refine lv_aload_n hx hb dL_law_622 rfl (lv_at hl 3 rfl) ?_
  refine jI_calli (wf := wH g ao ad (wM (gMo g aM) τ ++ [])) (vx_runSW (As := [.ref (g.2.2.2 0), .int (nI x1), .ref ao]) (rest := []) ⟨hx, hb, hml, hown, hts⟩ (h_transition l hflg g (wM (gMo g aM) τ ++ []) H.size σ ao ad ov dv x1 hI.okA hx1) (vx_cwSW 3 hts gL_law_L_transition rfl rfl rfl (by decide +kernel) ⟨Nat.le_of_ble_eq_true rfl, Nat.le_of_ble_eq_true rfl⟩) (okHS hK (lw_P3 hP) (lw_D3 hD) hZ hS hAA) rfl rfl hl.1 rfl (lv_room (Nat.le_of_ble_eq_true rfl)) dL_law_623 ⟨by show cells + 1 ≤ 603072; omega, by show slots + 6 ≤ 7170154; omega⟩) (lw_D3 hD) hS hAA (fun r z H locs hr hP hD hS => ?_)
  have hP := lw_P4 hP
  have hD := lw_D4 hD
  refine lv_istore (lv' := ((6, .int r) :: LV b g aM ao ad i)) hx hb dL_law_626 hl (by decide) rfl (fun ls hl => ?_)
  refine lv_aload_n hx hb dL_law_628 rfl (lv_at hl 3 rfl) ?_
  refine lw_arg C hS hl (List.mem_of_getElem? (i := 1) rfl) (List.mem_of_getElem? (i := 6) rfl) (k := 1) (by decide) (by omega) ex1 dL_law_629 dL_law_630 dL_law_632 dL_law_633 dL_law_634 ?_
  refine jn_calli (va_runV (As := [.int (nI x1)]) (rest := []) ⟨hx, hb, hml, hown, hts⟩ (c_X11_transition l (gMo g aM) (wX g ao ad z ++ []) H.size τ x1 hI.okT hx1) (cwV 1 hts gL_law_X11_transition rfl rfl rfl (by decide +kernel) ⟨Nat.le_of_ble_eq_true rfl, Nat.le_of_ble_eq_true rfl⟩) (okWV (g := gMo g aM) hK.1.1 (lw_P1 hP) (lw_D1 hD) rfl (gM0 (gMo g aM) τ (wX g ao ad z ++ []))) rfl rfl hl.1 rfl (lv_room (Nat.le_of_ble_eq_true rfl)) dL_law_635 ⟨by show cells + 1 + 0 ≤ 603072; omega, by show slots + 6 + 0 ≤ 7170154; omega⟩) (lw_D1 hD) hS hAA (fun v2 u H locs hw hP hD hS => ?_)
  obtain ⟨r0, th⟩ := u
  obtain ⟨rfl, hw⟩ := hw
  have hm : RM_transition τ x1 _ (sF τ 0 th) := ⟨r0, th, rfl, hw, rfl⟩
  have hP := lw_P2 (z := z) (τ := (sF τ 0 th)) hP
  have hD := lw_D2 (z := z) (τ := (sF τ 0 th)) hD
  have ht := tie_transition hI hr hm
  refine lv_istore (lv' := ((7, .int (nI (r0))) :: (6, .int r) :: LV b g aM ao ad i)) hx hb dL_law_638 hl (by decide) rfl (fun ls hl => ?_)
  refine lw_thrown C gL_law_X11_thrown ⟨Nat.le_of_ble_eq_true rfl, Nat.le_of_ble_eq_true rfl⟩ ⟨by show cells + 1 + 0 ≤ 603072; omega, by show slots + 6 + 0 ≤ 7170154; omega⟩ hP hl (List.mem_of_getElem? (i := 4) rfl) (List.mem_of_getElem? (i := 1) rfl) ht.1 dL_law_640 dL_law_641 dL_law_644 dL_law_646 ?_ (Nat.le_of_ble_eq_true rfl)
  refine lw_cmpI C hP hl (List.mem_of_getElem? (i := 5) rfl) (List.mem_of_getElem? (i := 1) rfl) (List.mem_of_getElem? (i := 0) rfl) ht.2.1 dL_law_651 dL_law_653 dL_law_656 dL_law_657 dL_law_658 dL_law_659 dL_law_661 dL_law_662 dL_law_663 ?_
  refine lv_goto (tgt := 2501) hx hb dL_law_668 (by decide) ?_
  exact lw_end (z := z) kk (by omega) (by omega) ht.2.2 hP hD hS hl (fun _ h => List.mem_cons_of_mem _ (List.mem_cons_of_mem _ (h)))

set_option maxHeartbeats 4000000 in
set_option maxRecDepth 100000 in
theorem lwc_671 (hflg : l.stackTraces = false) (C : LC p s m c cL_law b L xs A g) (hi : i + 5 < L) (hI : Inv σ τ) (hP : va_P (g.1, g.2.1) vwCl (LW g aM ao ad (σ, ov, dv) τ) H) (hD : va_D A (LW g aM ao ad (σ, ov, dv) τ)) (hS : va_S A s.heap H locs) (hl : lv_has ls 9 (LV b g aM ao ad i)) (hc : cells + 3 ≤ room_1.cells) (hsl : slots + 18 ≤ room_1.slots) (kk : LK p l e s m below meth c cells slots Q A b i ao ad g aM) : W p l e room_1 s m #[Value.ref b] below meth c H locs cells slots Q (F0 m 671 ls []) := by
  have C0 := C
  obtain ⟨hx, hb, hml, hown, hts, hK, hZ, hX, hbl, hbA, hAA, hL⟩ := C0
  obtain ⟨x1, hx1, ex1⟩ := nI_ex (xs (i + 1))
  obtain ⟨x2, hx2, ex2⟩ := nI_ex (xs (i + 2))
  obtain ⟨x3, hx3, ex3⟩ := nI_ex (xs (i + 3))
  obtain ⟨x4, hx4, ex4⟩ := nI_ex (xs (i + 4))
  obtain ⟨x5, hx5, ex5⟩ := nI_ex (xs (i + 5))
  have hc : cells + 3 ≤ 603072 := hc
  have hsl : slots + 18 ≤ 7170154 := hsl
  refine lv_aload_n hx hb dL_law_671 rfl (lv_at hl 1 rfl) ?_
  refine vp_callSi (va_Run.run (va_runV (As := []) (rest := []) ⟨hx, hb, hml, hown, hts⟩ (c_X10_isDeterministic l g (wT g ao ad ov dv (wM (gMo g aM) τ ++ [])) σ hI.okA) (cwV 0 hts gL_law_X10_isDeterministic rfl rfl rfl (by decide +kernel) ⟨Nat.le_of_ble_eq_true rfl, Nat.le_of_ble_eq_true rfl⟩) (okPV hK.1.1 (lw_P3 hP) rfl (gC0 g σ (wT g ao ad ov dv (wM (gMo g aM) τ ++ [])))) rfl rfl hl.1 rfl (lv_room (Nat.le_of_ble_eq_true rfl)) dL_law_672 ⟨by show cells + 0 ≤ 603072; omega, by show slots + 0 ≤ 7170154; omega⟩)) (fun r1 h_1 => ?_)
  subst h_1
  refine lv_aload_n hx hb dL_law_675 rfl (lv_at hl 2 rfl) ?_
  refine vp_callSi (va_Run.run (va_runV (As := []) (rest := [.int (nI (if detT (σ.2.1 0) then 1 else 0))]) ⟨hx, hb, hml, hown, hts⟩ (c_X11_isDeterministic l (gMo g aM) (wX g ao ad (σ, ov, dv) ++ []) τ hI.okT) (cwV 0 hts gL_law_X11_isDeterministic rfl rfl rfl (by decide +kernel) ⟨Nat.le_of_ble_eq_true rfl, Nat.le_of_ble_eq_true rfl⟩) (okPV (g := gMo g aM) hK.1.1 (lw_P1 hP) rfl (gM0 (gMo g aM) τ (wX g ao ad (σ, ov, dv) ++ []))) rfl rfl hl.1 rfl (lv_room (Nat.le_of_ble_eq_true rfl)) dL_law_676 ⟨by show cells + 0 ≤ 603072; omega, by show slots + 0 ≤ 7170154; omega⟩)) (fun r2 h_2 => ?_)
  subst h_2
  refine lv_icmp_eq (tgt := 2501) hx hb dL_law_679 (by decide) (fun _ => ?_) (fun q => absurd (by rw [hI.t]) q)
  exact lw_end kk (by omega) (by omega) hI.1 hP hD hS hl (fun _ h => h)

set_option maxHeartbeats 4000000 in
set_option maxRecDepth 100000 in
theorem lwc_684 (hflg : l.stackTraces = false) (C : LC p s m c cL_law b L xs A g) (hi : i + 5 < L) (hI : Inv σ τ) (hP : va_P (g.1, g.2.1) vwCl (LW g aM ao ad (σ, ov, dv) τ) H) (hD : va_D A (LW g aM ao ad (σ, ov, dv) τ)) (hS : va_S A s.heap H locs) (hl : lv_has ls 9 (LV b g aM ao ad i)) (hc : cells + 3 ≤ room_1.cells) (hsl : slots + 18 ≤ room_1.slots) (kk : LK p l e s m below meth c cells slots Q A b i ao ad g aM) : W p l e room_1 s m #[Value.ref b] below meth c H locs cells slots Q (F0 m 684 ls []) := by
  have C0 := C
  obtain ⟨hx, hb, hml, hown, hts, hK, hZ, hX, hbl, hbA, hAA, hL⟩ := C0
  obtain ⟨x1, hx1, ex1⟩ := nI_ex (xs (i + 1))
  obtain ⟨x2, hx2, ex2⟩ := nI_ex (xs (i + 2))
  obtain ⟨x3, hx3, ex3⟩ := nI_ex (xs (i + 3))
  obtain ⟨x4, hx4, ex4⟩ := nI_ex (xs (i + 4))
  obtain ⟨x5, hx5, ex5⟩ := nI_ex (xs (i + 5))
  have hc : cells + 3 ≤ 603072 := hc
  have hsl : slots + 18 ≤ 7170154 := hsl
  refine lv_aload_n hx hb dL_law_684 rfl (lv_at hl 1 rfl) ?_
  refine vp_callSi (va_Run.run (va_runV (As := []) (rest := []) ⟨hx, hb, hml, hown, hts⟩ (c_X10_usefulStates l g (wT g ao ad ov dv (wM (gMo g aM) τ ++ [])) σ hI.okA) (cwV 0 hts gL_law_X10_usefulStates rfl rfl rfl (by decide +kernel) ⟨Nat.le_of_ble_eq_true rfl, Nat.le_of_ble_eq_true rfl⟩) (okPV hK.1.1 (lw_P3 hP) rfl (gC0 g σ (wT g ao ad ov dv (wM (gMo g aM) τ ++ [])))) rfl rfl hl.1 rfl (lv_room (Nat.le_of_ble_eq_true rfl)) dL_law_685 ⟨by show cells + 0 ≤ 603072; omega, by show slots + 0 ≤ 7170154; omega⟩)) (fun r1 h_1 => ?_)
  subst h_1
  refine lv_aload_n hx hb dL_law_688 rfl (lv_at hl 2 rfl) ?_
  refine vp_callSi (va_Run.run (va_runV (As := []) (rest := [.int (nI (frm (σ.2.1 0) 4 &&& twd (σ.2.1 0) (σ.1 0) 4))]) ⟨hx, hb, hml, hown, hts⟩ (c_X11_usefulStates l (gMo g aM) (wX g ao ad (σ, ov, dv) ++ []) τ hI.okT hI.fin) (cwV 0 hts gL_law_X11_usefulStates rfl rfl rfl (by decide +kernel) ⟨Nat.le_of_ble_eq_true rfl, Nat.le_of_ble_eq_true rfl⟩) (okPV (g := gMo g aM) hK.1.1 (lw_P1 hP) rfl (gM0 (gMo g aM) τ (wX g ao ad (σ, ov, dv) ++ []))) rfl rfl hl.1 rfl (lv_room (Nat.le_of_ble_eq_true rfl)) dL_law_689 ⟨by show cells + 0 ≤ 603072; omega, by show slots + 0 ≤ 7170154; omega⟩)) (fun r2 h_2 => ?_)
  subst h_2
  refine lv_icmp_eq (tgt := 2501) hx hb dL_law_692 (by decide) (fun _ => ?_) (fun q => absurd (by rw [tie_useful hI]) q)
  exact lw_end kk (by omega) (by omega) hI.1 hP hD hS hl (fun _ h => h)

set_option maxHeartbeats 4000000 in
set_option maxRecDepth 100000 in
theorem lwc_697 (hflg : l.stackTraces = false) (C : LC p s m c cL_law b L xs A g) (hi : i + 5 < L) (hI : Inv σ τ) (hP : va_P (g.1, g.2.1) vwCl (LW g aM ao ad (σ, ov, dv) τ) H) (hD : va_D A (LW g aM ao ad (σ, ov, dv) τ)) (hS : va_S A s.heap H locs) (hl : lv_has ls 9 (LV b g aM ao ad i)) (hc : cells + 3 ≤ room_1.cells) (hsl : slots + 18 ≤ room_1.slots) (kk : LK p l e s m below meth c cells slots Q A b i ao ad g aM) : W p l e room_1 s m #[Value.ref b] below meth c H locs cells slots Q (F0 m 697 ls []) := by
  have C0 := C
  obtain ⟨hx, hb, hml, hown, hts, hK, hZ, hX, hbl, hbA, hAA, hL⟩ := C0
  obtain ⟨x1, hx1, ex1⟩ := nI_ex (xs (i + 1))
  obtain ⟨x2, hx2, ex2⟩ := nI_ex (xs (i + 2))
  obtain ⟨x3, hx3, ex3⟩ := nI_ex (xs (i + 3))
  obtain ⟨x4, hx4, ex4⟩ := nI_ex (xs (i + 4))
  obtain ⟨x5, hx5, ex5⟩ := nI_ex (xs (i + 5))
  have hc : cells + 3 ≤ 603072 := hc
  have hsl : slots + 18 ≤ 7170154 := hsl
  refine lv_aload_n hx hb dL_law_697 rfl (lv_at hl 1 rfl) ?_
  refine lw_arg C hS hl (List.mem_of_getElem? (i := 0) rfl) (List.mem_of_getElem? (i := 5) rfl) (k := 1) (by decide) (by omega) ex1 dL_law_698 dL_law_699 dL_law_701 dL_law_702 dL_law_703 ?_
  refine lv_aload_n hx hb dL_law_704 rfl (lv_at hl 3 rfl) ?_
  refine jI_calli (wf := wH g ao ad (wM (gMo g aM) τ ++ [])) (vx_runSW (As := [.ref (g.2.2.2 0), .int (nI x1), .ref ao]) (rest := []) ⟨hx, hb, hml, hown, hts⟩ (h_appendLetter l hflg g (wM (gMo g aM) τ ++ []) H.size σ ao ad ov dv x1 hI.w8 hx1) (vx_cwSW 3 hts gL_law_L_appendLetter rfl rfl rfl (by decide +kernel) ⟨Nat.le_of_ble_eq_true rfl, Nat.le_of_ble_eq_true rfl⟩) (okHS hK (lw_P3 hP) (lw_D3 hD) hZ hS hAA) rfl rfl hl.1 rfl (lv_room (Nat.le_of_ble_eq_true rfl)) dL_law_705 ⟨by show cells + 1 ≤ 603072; omega, by show slots + 6 ≤ 7170154; omega⟩) (lw_D3 hD) hS hAA (fun r z H locs hr hP hD hS => ?_)
  have hP := lw_P4 hP
  have hD := lw_D4 hD
  refine lv_istore (lv' := ((6, .int r) :: LV b g aM ao ad i)) hx hb dL_law_708 hl (by decide) rfl (fun ls hl => ?_)
  refine lv_aload_n hx hb dL_law_710 rfl (lv_at hl 3 rfl) ?_
  refine lw_arg C hS hl (List.mem_of_getElem? (i := 1) rfl) (List.mem_of_getElem? (i := 6) rfl) (k := 1) (by decide) (by omega) ex1 dL_law_711 dL_law_712 dL_law_714 dL_law_715 dL_law_716 ?_
  refine jn_calli (va_runV (As := [.int (nI x1)]) (rest := []) ⟨hx, hb, hml, hown, hts⟩ (c_X11_appendLetter l (gMo g aM) (wX g ao ad z ++ []) H.size τ x1 hI.mw8 hx1) (cwV 1 hts gL_law_X11_appendLetter rfl rfl rfl (by decide +kernel) ⟨Nat.le_of_ble_eq_true rfl, Nat.le_of_ble_eq_true rfl⟩) (okWV (g := gMo g aM) hK.1.1 (lw_P1 hP) (lw_D1 hD) rfl (gM0 (gMo g aM) τ (wX g ao ad z ++ []))) rfl rfl hl.1 rfl (lv_room (Nat.le_of_ble_eq_true rfl)) dL_law_717 ⟨by show cells + 1 + 0 ≤ 603072; omega, by show slots + 6 + 0 ≤ 7170154; omega⟩) (lw_D1 hD) hS hAA (fun v2 u H locs hw hP hD hS => ?_)
  obtain ⟨r0, th, n, f⟩ := u
  obtain ⟨rfl, hw⟩ := hw
  have hm : RM_appendLetter τ x1 _ (sA (sF (sF τ 0 th) 6 n) 5 f) := ⟨r0, th, n, f, rfl, hw, rfl⟩
  have hP := lw_P2 (z := z) (τ := (sA (sF (sF τ 0 th) 6 n) 5 f)) hP
  have hD := lw_D2 (z := z) (τ := (sA (sF (sF τ 0 th) 6 n) 5 f)) hD
  have ht := tie_appendLetter hI hr hm
  refine lv_istore (lv' := ((7, .int (nI (r0))) :: (6, .int r) :: LV b g aM ao ad i)) hx hb dL_law_720 hl (by decide) rfl (fun ls hl => ?_)
  refine lw_thrown C gL_law_X11_thrown ⟨Nat.le_of_ble_eq_true rfl, Nat.le_of_ble_eq_true rfl⟩ ⟨by show cells + 1 + 0 ≤ 603072; omega, by show slots + 6 + 0 ≤ 7170154; omega⟩ hP hl (List.mem_of_getElem? (i := 4) rfl) (List.mem_of_getElem? (i := 1) rfl) ht.1 dL_law_722 dL_law_723 dL_law_726 dL_law_728 ?_ (Nat.le_of_ble_eq_true rfl)
  refine lw_cmpI C hP hl (List.mem_of_getElem? (i := 5) rfl) (List.mem_of_getElem? (i := 1) rfl) (List.mem_of_getElem? (i := 0) rfl) ht.2.1 dL_law_733 dL_law_735 dL_law_738 dL_law_739 dL_law_740 dL_law_741 dL_law_743 dL_law_744 dL_law_745 ?_
  refine lv_goto (tgt := 2501) hx hb dL_law_750 (by decide) ?_
  exact lw_end (z := z) kk (by omega) (by omega) ht.2.2 hP hD hS hl (fun _ h => List.mem_cons_of_mem _ (List.mem_cons_of_mem _ (h)))

set_option maxHeartbeats 4000000 in
set_option maxRecDepth 100000 in
theorem lwc_753 (hflg : l.stackTraces = false) (C : LC p s m c cL_law b L xs A g) (hi : i + 5 < L) (hI : Inv σ τ) (hP : va_P (g.1, g.2.1) vwCl (LW g aM ao ad (σ, ov, dv) τ) H) (hD : va_D A (LW g aM ao ad (σ, ov, dv) τ)) (hS : va_S A s.heap H locs) (hl : lv_has ls 9 (LV b g aM ao ad i)) (hc : cells + 3 ≤ room_1.cells) (hsl : slots + 18 ≤ room_1.slots) (kk : LK p l e s m below meth c cells slots Q A b i ao ad g aM) : W p l e room_1 s m #[Value.ref b] below meth c H locs cells slots Q (F0 m 753 ls []) := by
  have C0 := C
  obtain ⟨hx, hb, hml, hown, hts, hK, hZ, hX, hbl, hbA, hAA, hL⟩ := C0
  obtain ⟨x1, hx1, ex1⟩ := nI_ex (xs (i + 1))
  obtain ⟨x2, hx2, ex2⟩ := nI_ex (xs (i + 2))
  obtain ⟨x3, hx3, ex3⟩ := nI_ex (xs (i + 3))
  obtain ⟨x4, hx4, ex4⟩ := nI_ex (xs (i + 4))
  obtain ⟨x5, hx5, ex5⟩ := nI_ex (xs (i + 5))
  have hc : cells + 3 ≤ 603072 := hc
  have hsl : slots + 18 ≤ 7170154 := hsl
  refine lv_aload_n hx hb dL_law_753 rfl (lv_at hl 1 rfl) ?_
  refine jn_calli (va_runV (As := []) (rest := []) ⟨hx, hb, hml, hown, hts⟩ (c_X10_clearWord l g (wT g ao ad ov dv (wM (gMo g aM) τ ++ [])) H.size σ ) (cwV 0 hts gL_law_X10_clearWord rfl rfl rfl (by decide +kernel) ⟨Nat.le_of_ble_eq_true rfl, Nat.le_of_ble_eq_true rfl⟩) (okWV hK.1.1 (lw_P3 hP) (lw_D3 hD) rfl (gC0 g σ (wT g ao ad ov dv (wM (gMo g aM) τ ++ [])))) rfl rfl hl.1 rfl (lv_room (Nat.le_of_ble_eq_true rfl)) dL_law_754 ⟨by show cells + 0 ≤ 603072; omega, by show slots + 0 ≤ 7170154; omega⟩) (lw_D3 hD) hS hAA (fun v1 u H locs hw hP hD hS => ?_)
  obtain rfl := hw
  have hr : RC_clearWord σ _ (sF (sF σ 20 0) 21 0) := ⟨rfl, rfl⟩
  have hP := lw_P4 (z := ((sF (sF σ 20 0) 21 0), ov, dv)) hP
  have hD := lw_D4 (z := ((sF (sF σ 20 0) 21 0), ov, dv)) hD
  refine lv_aload_n hx hb dL_law_757 rfl (lv_at hl 2 rfl) ?_
  refine jn_calli (va_runV (As := []) (rest := [.int (nI ((σ.1 20)))]) ⟨hx, hb, hml, hown, hts⟩ (c_X11_clearWord l (gMo g aM) (wX g ao ad ((sF (sF σ 20 0) 21 0), ov, dv) ++ []) H.size τ  ) (cwV 0 hts gL_law_X11_clearWord rfl rfl rfl (by decide +kernel) ⟨Nat.le_of_ble_eq_true rfl, Nat.le_of_ble_eq_true rfl⟩) (okWV (g := gMo g aM) hK.1.1 (lw_P1 hP) (lw_D1 hD) rfl (gM0 (gMo g aM) τ (wX g ao ad ((sF (sF σ 20 0) 21 0), ov, dv) ++ []))) rfl rfl hl.1 rfl (lv_room (Nat.le_of_ble_eq_true rfl)) dL_law_758 ⟨by show cells + 0 ≤ 603072; omega, by show slots + 0 ≤ 7170154; omega⟩) (lw_D1 hD) hS hAA (fun v2 u H locs hw hP hD hS => ?_)
  obtain rfl := hw
  have hm : RM_clearWord τ  _ (sF τ 6 0) := ⟨rfl, rfl⟩
  have hP := lw_P2 (z := ((sF (sF σ 20 0) 21 0), ov, dv)) (τ := (sF τ 6 0)) hP
  have hD := lw_D2 (z := ((sF (sF σ 20 0) 21 0), ov, dv)) (τ := (sF τ 6 0)) hD
  have ht := tie_clearWord hI hr hm
  refine lv_icmp_eq (tgt := 2501) hx hb dL_law_761 (by decide) (fun _ => ?_) (fun q => absurd (congrArg nI ht.1) q)
  exact lw_end (z := ((sF (sF σ 20 0) 21 0), ov, dv)) kk (by omega) (by omega) ht.2.2 hP hD hS hl (fun _ h => h)

set_option maxHeartbeats 4000000 in
set_option maxRecDepth 100000 in
theorem lwc_766 (hflg : l.stackTraces = false) (C : LC p s m c cL_law b L xs A g) (hi : i + 5 < L) (hI : Inv σ τ) (hP : va_P (g.1, g.2.1) vwCl (LW g aM ao ad (σ, ov, dv) τ) H) (hD : va_D A (LW g aM ao ad (σ, ov, dv) τ)) (hS : va_S A s.heap H locs) (hl : lv_has ls 9 (LV b g aM ao ad i)) (hc : cells + 3 ≤ room_1.cells) (hsl : slots + 18 ≤ room_1.slots) (kk : LK p l e s m below meth c cells slots Q A b i ao ad g aM) : W p l e room_1 s m #[Value.ref b] below meth c H locs cells slots Q (F0 m 766 ls []) := by
  have C0 := C
  obtain ⟨hx, hb, hml, hown, hts, hK, hZ, hX, hbl, hbA, hAA, hL⟩ := C0
  obtain ⟨x1, hx1, ex1⟩ := nI_ex (xs (i + 1))
  obtain ⟨x2, hx2, ex2⟩ := nI_ex (xs (i + 2))
  obtain ⟨x3, hx3, ex3⟩ := nI_ex (xs (i + 3))
  obtain ⟨x4, hx4, ex4⟩ := nI_ex (xs (i + 4))
  obtain ⟨x5, hx5, ex5⟩ := nI_ex (xs (i + 5))
  have hc : cells + 3 ≤ 603072 := hc
  have hsl : slots + 18 ≤ 7170154 := hsl
  refine lv_aload_n hx hb dL_law_766 rfl (lv_at hl 1 rfl) ?_
  refine vp_callSi (va_Run.run (va_runV (As := []) (rest := []) ⟨hx, hb, hml, hown, hts⟩ (c_X10_wordLength l g (wT g ao ad ov dv (wM (gMo g aM) τ ++ [])) σ) (cwV 0 hts gL_law_X10_wordLength rfl rfl rfl (by decide +kernel) ⟨Nat.le_of_ble_eq_true rfl, Nat.le_of_ble_eq_true rfl⟩) (okPV hK.1.1 (lw_P3 hP) rfl (gC0 g σ (wT g ao ad ov dv (wM (gMo g aM) τ ++ [])))) rfl rfl hl.1 rfl (lv_room (Nat.le_of_ble_eq_true rfl)) dL_law_767 ⟨by show cells + 0 ≤ 603072; omega, by show slots + 0 ≤ 7170154; omega⟩)) (fun r1 h_1 => ?_)
  subst h_1
  refine lv_aload_n hx hb dL_law_770 rfl (lv_at hl 2 rfl) ?_
  refine vp_callSi (va_Run.run (va_runV (As := []) (rest := [.int (nI (σ.1 20))]) ⟨hx, hb, hml, hown, hts⟩ (c_X11_wordLength l (gMo g aM) (wX g ao ad (σ, ov, dv) ++ []) τ) (cwV 0 hts gL_law_X11_wordLength rfl rfl rfl (by decide +kernel) ⟨Nat.le_of_ble_eq_true rfl, Nat.le_of_ble_eq_true rfl⟩) (okPV (g := gMo g aM) hK.1.1 (lw_P1 hP) rfl (gM0 (gMo g aM) τ (wX g ao ad (σ, ov, dv) ++ []))) rfl rfl hl.1 rfl (lv_room (Nat.le_of_ble_eq_true rfl)) dL_law_771 ⟨by show cells + 0 ≤ 603072; omega, by show slots + 0 ≤ 7170154; omega⟩)) (fun r2 h_2 => ?_)
  subst h_2
  refine lv_icmp_eq (tgt := 2501) hx hb dL_law_774 (by decide) (fun _ => ?_) (fun q => absurd (by rw [hI.wd.1]) q)
  exact lw_end kk (by omega) (by omega) hI.1 hP hD hS hl (fun _ h => h)

set_option maxHeartbeats 4000000 in
set_option maxRecDepth 100000 in
theorem lwc_779 (hflg : l.stackTraces = false) (C : LC p s m c cL_law b L xs A g) (hi : i + 5 < L) (hI : Inv σ τ) (hP : va_P (g.1, g.2.1) vwCl (LW g aM ao ad (σ, ov, dv) τ) H) (hD : va_D A (LW g aM ao ad (σ, ov, dv) τ)) (hS : va_S A s.heap H locs) (hl : lv_has ls 9 (LV b g aM ao ad i)) (hc : cells + 3 ≤ room_1.cells) (hsl : slots + 18 ≤ room_1.slots) (kk : LK p l e s m below meth c cells slots Q A b i ao ad g aM) : W p l e room_1 s m #[Value.ref b] below meth c H locs cells slots Q (F0 m 779 ls []) := by
  have C0 := C
  obtain ⟨hx, hb, hml, hown, hts, hK, hZ, hX, hbl, hbA, hAA, hL⟩ := C0
  obtain ⟨x1, hx1, ex1⟩ := nI_ex (xs (i + 1))
  obtain ⟨x2, hx2, ex2⟩ := nI_ex (xs (i + 2))
  obtain ⟨x3, hx3, ex3⟩ := nI_ex (xs (i + 3))
  obtain ⟨x4, hx4, ex4⟩ := nI_ex (xs (i + 4))
  obtain ⟨x5, hx5, ex5⟩ := nI_ex (xs (i + 5))
  have hc : cells + 3 ≤ 603072 := hc
  have hsl : slots + 18 ≤ 7170154 := hsl
  refine lv_aload_n hx hb dL_law_779 rfl (lv_at hl 1 rfl) ?_
  refine lw_arg C hS hl (List.mem_of_getElem? (i := 0) rfl) (List.mem_of_getElem? (i := 5) rfl) (k := 1) (by decide) (by omega) ex1 dL_law_780 dL_law_781 dL_law_783 dL_law_784 dL_law_785 ?_
  refine lv_aload_n hx hb dL_law_786 rfl (lv_at hl 3 rfl) ?_
  refine jI_calli (wf := wH g ao ad (wM (gMo g aM) τ ++ [])) (vx_runSW (As := [.ref (g.2.2.2 0), .int (nI x1), .ref ao]) (rest := []) ⟨hx, hb, hml, hown, hts⟩ (h_letterAt l hflg g (wM (gMo g aM) τ ++ []) H.size σ ao ad ov dv x1 hI.w8 hx1) (vx_cwSW 3 hts gL_law_L_letterAt rfl rfl rfl (by decide +kernel) ⟨Nat.le_of_ble_eq_true rfl, Nat.le_of_ble_eq_true rfl⟩) (okHS hK (lw_P3 hP) (lw_D3 hD) hZ hS hAA) rfl rfl hl.1 rfl (lv_room (Nat.le_of_ble_eq_true rfl)) dL_law_787 ⟨by show cells + 1 ≤ 603072; omega, by show slots + 6 ≤ 7170154; omega⟩) (lw_D3 hD) hS hAA (fun r z H locs hr hP hD hS => ?_)
  have hP := lw_P4 hP
  have hD := lw_D4 hD
  refine lv_istore (lv' := ((6, .int r) :: LV b g aM ao ad i)) hx hb dL_law_790 hl (by decide) rfl (fun ls hl => ?_)
  refine lv_aload_n hx hb dL_law_792 rfl (lv_at hl 3 rfl) ?_
  refine lw_arg C hS hl (List.mem_of_getElem? (i := 1) rfl) (List.mem_of_getElem? (i := 6) rfl) (k := 1) (by decide) (by omega) ex1 dL_law_793 dL_law_794 dL_law_796 dL_law_797 dL_law_798 ?_
  refine jn_calli (va_runV (As := [.int (nI x1)]) (rest := []) ⟨hx, hb, hml, hown, hts⟩ (c_X11_letterAt l (gMo g aM) (wX g ao ad z ++ []) H.size τ x1 hI.mw8 hx1) (cwV 1 hts gL_law_X11_letterAt rfl rfl rfl (by decide +kernel) ⟨Nat.le_of_ble_eq_true rfl, Nat.le_of_ble_eq_true rfl⟩) (okWV (g := gMo g aM) hK.1.1 (lw_P1 hP) (lw_D1 hD) rfl (gM0 (gMo g aM) τ (wX g ao ad z ++ []))) rfl rfl hl.1 rfl (lv_room (Nat.le_of_ble_eq_true rfl)) dL_law_799 ⟨by show cells + 1 + 0 ≤ 603072; omega, by show slots + 6 + 0 ≤ 7170154; omega⟩) (lw_D1 hD) hS hAA (fun v2 u H locs hw hP hD hS => ?_)
  obtain ⟨r0, th⟩ := u
  obtain ⟨rfl, hw⟩ := hw
  have hm : RM_letterAt τ x1 _ (sF τ 0 th) := ⟨r0, th, rfl, hw, rfl⟩
  have hP := lw_P2 (z := z) (τ := (sF τ 0 th)) hP
  have hD := lw_D2 (z := z) (τ := (sF τ 0 th)) hD
  have ht := tie_letterAt hI hr hm
  refine lv_istore (lv' := ((7, .int (nI (r0))) :: (6, .int r) :: LV b g aM ao ad i)) hx hb dL_law_802 hl (by decide) rfl (fun ls hl => ?_)
  refine lw_thrown C gL_law_X11_thrown ⟨Nat.le_of_ble_eq_true rfl, Nat.le_of_ble_eq_true rfl⟩ ⟨by show cells + 1 + 0 ≤ 603072; omega, by show slots + 6 + 0 ≤ 7170154; omega⟩ hP hl (List.mem_of_getElem? (i := 4) rfl) (List.mem_of_getElem? (i := 1) rfl) ht.1 dL_law_804 dL_law_805 dL_law_808 dL_law_810 ?_ (Nat.le_of_ble_eq_true rfl)
  refine lw_cmpI C hP hl (List.mem_of_getElem? (i := 5) rfl) (List.mem_of_getElem? (i := 1) rfl) (List.mem_of_getElem? (i := 0) rfl) ht.2.1 dL_law_815 dL_law_817 dL_law_820 dL_law_821 dL_law_822 dL_law_823 dL_law_825 dL_law_826 dL_law_827 ?_
  refine lv_goto (tgt := 2501) hx hb dL_law_832 (by decide) ?_
  exact lw_end (z := z) kk (by omega) (by omega) ht.2.2 hP hD hS hl (fun _ h => List.mem_cons_of_mem _ (List.mem_cons_of_mem _ (h)))

set_option maxHeartbeats 4000000 in
set_option maxRecDepth 100000 in
theorem lwc_835 (hflg : l.stackTraces = false) (C : LC p s m c cL_law b L xs A g) (hi : i + 5 < L) (hI : Inv σ τ) (hP : va_P (g.1, g.2.1) vwCl (LW g aM ao ad (σ, ov, dv) τ) H) (hD : va_D A (LW g aM ao ad (σ, ov, dv) τ)) (hS : va_S A s.heap H locs) (hl : lv_has ls 9 (LV b g aM ao ad i)) (hc : cells + 3 ≤ room_1.cells) (hsl : slots + 18 ≤ room_1.slots) (kk : LK p l e s m below meth c cells slots Q A b i ao ad g aM) : W p l e room_1 s m #[Value.ref b] below meth c H locs cells slots Q (F0 m 835 ls []) := by
  have C0 := C
  obtain ⟨hx, hb, hml, hown, hts, hK, hZ, hX, hbl, hbA, hAA, hL⟩ := C0
  obtain ⟨x1, hx1, ex1⟩ := nI_ex (xs (i + 1))
  obtain ⟨x2, hx2, ex2⟩ := nI_ex (xs (i + 2))
  obtain ⟨x3, hx3, ex3⟩ := nI_ex (xs (i + 3))
  obtain ⟨x4, hx4, ex4⟩ := nI_ex (xs (i + 4))
  obtain ⟨x5, hx5, ex5⟩ := nI_ex (xs (i + 5))
  have hc : cells + 3 ≤ 603072 := hc
  have hsl : slots + 18 ≤ 7170154 := hsl
  refine lv_aload_n hx hb dL_law_835 rfl (lv_at hl 1 rfl) ?_
  refine lw_arg C hS hl (List.mem_of_getElem? (i := 0) rfl) (List.mem_of_getElem? (i := 5) rfl) (k := 1) (by decide) (by omega) ex1 dL_law_836 dL_law_837 dL_law_839 dL_law_840 dL_law_841 ?_
  refine lv_aload_n hx hb dL_law_842 rfl (lv_at hl 3 rfl) ?_
  refine jI_calli (wf := wH g ao ad (wM (gMo g aM) τ ++ [])) (vx_runSW (As := [.ref (g.2.2.2 0), .int (nI x1), .ref ao]) (rest := []) ⟨hx, hb, hml, hown, hts⟩ (h_accepts l hflg g (wM (gMo g aM) τ ++ []) H.size σ ao ad ov dv x1 hI.okA hI.w8 hI.w3 hx1) (vx_cwSW 3 hts gL_law_L_accepts rfl rfl rfl (by decide +kernel) ⟨Nat.le_of_ble_eq_true rfl, Nat.le_of_ble_eq_true rfl⟩) (okHS hK (lw_P3 hP) (lw_D3 hD) hZ hS hAA) rfl rfl hl.1 rfl (lv_room (Nat.le_of_ble_eq_true rfl)) dL_law_843 ⟨by show cells + 2 ≤ 603072; omega, by show slots + 12 ≤ 7170154; omega⟩) (lw_D3 hD) hS hAA (fun r z H locs hr hP hD hS => ?_)
  have hP := lw_P4 hP
  have hD := lw_D4 hD
  refine lv_istore (lv' := ((6, .int r) :: LV b g aM ao ad i)) hx hb dL_law_846 hl (by decide) rfl (fun ls hl => ?_)
  refine lv_aload_n hx hb dL_law_848 rfl (lv_at hl 3 rfl) ?_
  refine lw_arg C hS hl (List.mem_of_getElem? (i := 1) rfl) (List.mem_of_getElem? (i := 6) rfl) (k := 1) (by decide) (by omega) ex1 dL_law_849 dL_law_850 dL_law_852 dL_law_853 dL_law_854 ?_
  refine jn_calli (va_runV (As := [.int (nI x1)]) (rest := []) ⟨hx, hb, hml, hown, hts⟩ (c_X11_accepts l (gMo g aM) (wX g ao ad z ++ []) H.size τ x1 hI.okT hI.fin hI.mw8 hI.mw3 hx1) (cwV 1 hts gL_law_X11_accepts rfl rfl rfl (by decide +kernel) ⟨Nat.le_of_ble_eq_true rfl, Nat.le_of_ble_eq_true rfl⟩) (okWV (g := gMo g aM) hK.1.1 (lw_P1 hP) (lw_D1 hD) rfl (gM0 (gMo g aM) τ (wX g ao ad z ++ []))) rfl rfl hl.1 rfl (lv_room (Nat.le_of_ble_eq_true rfl)) dL_law_855 ⟨by show cells + 2 + 0 ≤ 603072; omega, by show slots + 12 + 0 ≤ 7170154; omega⟩) (lw_D1 hD) hS hAA (fun v2 u H locs hw hP hD hS => ?_)
  obtain ⟨r0, th, j2, r2, e2, f2, f7, f8⟩ := u
  obtain ⟨rfl, hw⟩ := hw
  have hm : RM_accepts τ x1 _ (sA (sA (sA (sF (sF (sF (sF τ 0 th) 7 j2) 8 r2) 9 e2) 9 f2) 7 f7) 8 f8) := ⟨r0, th, j2, r2, e2, f2, f7, f8, rfl, hw, rfl⟩
  have hP := lw_P2 (z := z) (τ := (sA (sA (sA (sF (sF (sF (sF τ 0 th) 7 j2) 8 r2) 9 e2) 9 f2) 7 f7) 8 f8)) hP
  have hD := lw_D2 (z := z) (τ := (sA (sA (sA (sF (sF (sF (sF τ 0 th) 7 j2) 8 r2) 9 e2) 9 f2) 7 f7) 8 f8)) hD
  have ht := tie_accepts hI hr hm
  refine lv_istore (lv' := ((7, .int (nI (r0))) :: (6, .int r) :: LV b g aM ao ad i)) hx hb dL_law_858 hl (by decide) rfl (fun ls hl => ?_)
  refine lw_thrown C gL_law_X11_thrown ⟨Nat.le_of_ble_eq_true rfl, Nat.le_of_ble_eq_true rfl⟩ ⟨by show cells + 2 + 0 ≤ 603072; omega, by show slots + 12 + 0 ≤ 7170154; omega⟩ hP hl (List.mem_of_getElem? (i := 4) rfl) (List.mem_of_getElem? (i := 1) rfl) ht.1 dL_law_860 dL_law_861 dL_law_864 dL_law_866 ?_ (Nat.le_of_ble_eq_true rfl)
  refine lw_cmpZ C hP hl (List.mem_of_getElem? (i := 5) rfl) (List.mem_of_getElem? (i := 1) rfl) (List.mem_of_getElem? (i := 0) rfl) ht.2.1 dL_law_871 dL_law_873 dL_law_876 dL_law_877 dL_law_878 dL_law_879 dL_law_881 dL_law_884 dL_law_885 dL_law_888 dL_law_889 dL_law_890 ?_
  refine lv_goto (tgt := 2501) hx hb dL_law_895 (by decide) ?_
  exact lw_end (z := z) kk (by omega) (by omega) ht.2.2 hP hD hS hl (fun _ h => List.mem_cons_of_mem _ (List.mem_cons_of_mem _ (h)))

end LWC
