section LWC
variable {p : Program} {l : Launch} {e : Env} {s : State} {m : MethodId} {below : List Frame} {meth : Method} {c : Code} {H : Heap} {locs : List Loc} {cells slots : Nat} {Q : State → Prop} {ls : Array Slot} {A : Nat → Prop} {b L i ao ad : Nat} {xs : Nat → Int32} {g : GC} {aM : Nat → Nat} {σ τ : SS} {ov : Nat → Int64} {dv : Nat → UInt64}

set_option maxHeartbeats 4000000 in
set_option maxRecDepth 100000 in
theorem lwc_898 (hflg : l.stackTraces = false) (C : LC p s m c cL_law b L xs A g) (hi : i + 5 < L) (hI : Inv σ τ) (hP : va_P (g.1, g.2.1) vwCl (LW g aM ao ad (σ, ov, dv) τ) H) (hD : va_D A (LW g aM ao ad (σ, ov, dv) τ)) (hS : va_S A s.heap H locs) (hl : lv_has ls 9 (LV b g aM ao ad i)) (hc : cells + 3 ≤ room_1.cells) (hsl : slots + 18 ≤ room_1.slots) (kk : LK p l e s m below meth c cells slots Q A b i ao ad g aM) : W p l e room_1 s m #[Value.ref b] below meth c H locs cells slots Q (F0 m 898 ls []) := by
  have C0 := C
  obtain ⟨hx, hb, hml, hown, hts, hK, hZ, hX, hbl, hbA, hAA, hL⟩ := C0
  obtain ⟨x1, hx1, ex1⟩ := nI_ex (xs (i + 1))
  obtain ⟨x2, hx2, ex2⟩ := nI_ex (xs (i + 2))
  obtain ⟨x3, hx3, ex3⟩ := nI_ex (xs (i + 3))
  obtain ⟨x4, hx4, ex4⟩ := nI_ex (xs (i + 4))
  obtain ⟨x5, hx5, ex5⟩ := nI_ex (xs (i + 5))
  have hc : cells + 3 ≤ 603072 := hc
  have hsl : slots + 18 ≤ 7170154 := hsl
  refine lv_aload_n hx hb dL_law_898 rfl (lv_at hl 1 rfl) ?_
  refine jn_calll (va_runV (As := []) (rest := []) ⟨hx, hb, hml, hown, hts⟩ (c_X10_runCount l g (wT g ao ad ov dv (wM (gMo g aM) τ ++ [])) H.size σ hI.okA hI.w8 hI.w3) (cwV 0 hts gL_law_X10_runCount rfl rfl rfl (by decide +kernel) ⟨Nat.le_of_ble_eq_true rfl, Nat.le_of_ble_eq_true rfl⟩) (okWV hK.1.1 (lw_P3 hP) (lw_D3 hD) rfl (gC0 g σ (wT g ao ad ov dv (wM (gMo g aM) τ ++ [])))) rfl rfl hl.1 rfl (lv_room (Nat.le_of_ble_eq_true rfl)) dL_law_899 ⟨by show cells + 0 ≤ 603072; omega, by show slots + 0 ≤ 7170154; omega⟩) (lw_D3 hD) hS hAA (fun v1 u H locs hw hP hD hS => ?_)
  obtain ⟨fC, g1C⟩ := u
  obtain rfl := hw
  have hr : RC_runCount σ _ (sL (sL σ 0 fC) 1 g1C) := ⟨fC, g1C, rfl, rfl⟩
  have hP := lw_P4 (z := ((sL (sL σ 0 fC) 1 g1C), ov, dv)) hP
  have hD := lw_D4 (z := ((sL (sL σ 0 fC) 1 g1C), ov, dv)) hD
  refine lv_aload_n hx hb dL_law_902 rfl (lv_at hl 2 rfl) ?_
  refine jn_calll (va_runV (As := []) (rest := [.long (lN (fb_sm (fun q => if 2 ^ q &&& (σ.1 0) ≠ 0 then rn (σ.2.1 0) (σ.2.1 14) (σ.1 20) q else 0) 5))]) ⟨hx, hb, hml, hown, hts⟩ (c_X11_runCount l (gMo g aM) (wX g ao ad ((sL (sL σ 0 fC) 1 g1C), ov, dv) ++ []) H.size τ  hI.okT hI.fin hI.mw8 hI.mw3) (cwV 0 hts gL_law_X11_runCount rfl rfl rfl (by decide +kernel) ⟨Nat.le_of_ble_eq_true rfl, Nat.le_of_ble_eq_true rfl⟩) (okWV (g := gMo g aM) hK.1.1 (lw_P1 hP) (lw_D1 hD) rfl (gM0 (gMo g aM) τ (wX g ao ad ((sL (sL σ 0 fC) 1 g1C), ov, dv) ++ []))) rfl rfl hl.1 rfl (lv_room (Nat.le_of_ble_eq_true rfl)) dL_law_903 ⟨by show cells + 0 ≤ 603072; omega, by show slots + 0 ≤ 7170154; omega⟩) (lw_D1 hD) hS hAA (fun v2 u H locs hw hP hD hS => ?_)
  obtain ⟨l0, l1⟩ := u
  obtain rfl := hw
  have hm : RM_runCount τ  _ (sL (sL τ 0 l0) 1 l1) := ⟨l0, l1, rfl, rfl⟩
  have hP := lw_P2 (z := ((sL (sL σ 0 fC) 1 g1C), ov, dv)) (τ := (sL (sL τ 0 l0) 1 l1)) hP
  have hD := lw_D2 (z := ((sL (sL σ 0 fC) 1 g1C), ov, dv)) (τ := (sL (sL τ 0 l0) 1 l1)) hD
  have ht := tie_runCount hI hr hm
  refine jn_lcmp hx hb dL_law_906 ?_
  refine lv_if_eq (tgt := 2501) hx hb dL_law_907 (by decide) (fun _ => ?_) (fun q => absurd ((cmpL_eq _ _).mpr (congrArg lN ht.1)) q)
  exact lw_end (z := ((sL (sL σ 0 fC) 1 g1C), ov, dv)) kk (by omega) (by omega) ht.2 hP hD hS hl (fun _ h => h)

set_option maxHeartbeats 4000000 in
set_option maxRecDepth 100000 in
theorem lwc_912 (hflg : l.stackTraces = false) (C : LC p s m c cL_law b L xs A g) (hi : i + 5 < L) (hI : Inv σ τ) (hP : va_P (g.1, g.2.1) vwCl (LW g aM ao ad (σ, ov, dv) τ) H) (hD : va_D A (LW g aM ao ad (σ, ov, dv) τ)) (hS : va_S A s.heap H locs) (hl : lv_has ls 9 (LV b g aM ao ad i)) (hc : cells + 3 ≤ room_1.cells) (hsl : slots + 18 ≤ room_1.slots) (kk : LK p l e s m below meth c cells slots Q A b i ao ad g aM) : W p l e room_1 s m #[Value.ref b] below meth c H locs cells slots Q (F0 m 912 ls []) := by
  have C0 := C
  obtain ⟨hx, hb, hml, hown, hts, hK, hZ, hX, hbl, hbA, hAA, hL⟩ := C0
  obtain ⟨x1, hx1, ex1⟩ := nI_ex (xs (i + 1))
  obtain ⟨x2, hx2, ex2⟩ := nI_ex (xs (i + 2))
  obtain ⟨x3, hx3, ex3⟩ := nI_ex (xs (i + 3))
  obtain ⟨x4, hx4, ex4⟩ := nI_ex (xs (i + 4))
  obtain ⟨x5, hx5, ex5⟩ := nI_ex (xs (i + 5))
  have hc : cells + 3 ≤ 603072 := hc
  have hsl : slots + 18 ≤ 7170154 := hsl
  refine lv_aload_n hx hb dL_law_912 rfl (lv_at hl 1 rfl) ?_
  refine jn_calll (va_runV (As := []) (rest := []) ⟨hx, hb, hml, hown, hts⟩ (c_X10_acceptedArrangements l g (wT g ao ad ov dv (wM (gMo g aM) τ ++ [])) H.size σ hI.okA hI.w8 hI.w3) (cwV 0 hts gL_law_X10_acceptedArrangements rfl rfl rfl (by decide +kernel) ⟨Nat.le_of_ble_eq_true rfl, Nat.le_of_ble_eq_true rfl⟩) (okWV hK.1.1 (lw_P3 hP) (lw_D3 hD) rfl (gC0 g σ (wT g ao ad ov dv (wM (gMo g aM) τ ++ [])))) rfl rfl hl.1 rfl (lv_room (Nat.le_of_ble_eq_true rfl)) dL_law_913 ⟨by show cells + 0 ≤ 603072; omega, by show slots + 0 ≤ 7170154; omega⟩) (lw_D3 hD) hS hAA (fun v1 u H locs hw hP hD hS => ?_)
  obtain ⟨bC, lt2C, lf2C, sn2C⟩ := u
  obtain rfl := hw
  have hr : RC_acceptedArrangements σ _ (sA (sA (sF (sF (sF σ 17 ((σ.1 20))) 18 sn2C) 19 4294967295) 19 lt2C) 20 lf2C) := ⟨bC, lt2C, lf2C, sn2C, rfl, rfl⟩
  have hP := lw_P4 (z := ((sA (sA (sF (sF (sF σ 17 ((σ.1 20))) 18 sn2C) 19 4294967295) 19 lt2C) 20 lf2C), ov, dv)) hP
  have hD := lw_D4 (z := ((sA (sA (sF (sF (sF σ 17 ((σ.1 20))) 18 sn2C) 19 4294967295) 19 lt2C) 20 lf2C), ov, dv)) hD
  refine lv_aload_n hx hb dL_law_916 rfl (lv_at hl 2 rfl) ?_
  refine jn_calll (va_runV (As := []) (rest := [.long (lN (arrN (σ.2.1 0) (σ.1 0) (σ.1 20) (cntW (σ.2.1 14) (σ.1 20)) 1))]) ⟨hx, hb, hml, hown, hts⟩ (c_X11_acceptedArrangements l (gMo g aM) (wX g ao ad ((sA (sA (sF (sF (sF σ 17 ((σ.1 20))) 18 sn2C) 19 4294967295) 19 lt2C) 20 lf2C), ov, dv) ++ []) H.size τ  hI.okT hI.fin hI.mw8 hI.mw3) (cwV 0 hts gL_law_X11_acceptedArrangements rfl rfl rfl (by decide +kernel) ⟨Nat.le_of_ble_eq_true rfl, Nat.le_of_ble_eq_true rfl⟩) (okWV (g := gMo g aM) hK.1.1 (lw_P1 hP) (lw_D1 hD) rfl (gM0 (gMo g aM) τ (wX g ao ad ((sA (sA (sF (sF (sF σ 17 ((σ.1 20))) 18 sn2C) 19 4294967295) 19 lt2C) 20 lf2C), ov, dv) ++ []))) rfl rfl hl.1 rfl (lv_room (Nat.le_of_ble_eq_true rfl)) dL_law_917 ⟨by show cells + 0 ≤ 603072; omega, by show slots + 0 ≤ 7170154; omega⟩) (lw_D1 hD) hS hAA (fun v2 u H locs hw hP hD hS => ?_)
  obtain ⟨rl, fo, ot, lf⟩ := u
  obtain rfl := hw
  have hm : RM_acceptedArrangements τ  _ (sA (sA (sF (sF τ 10 rl) 11 fo) 6 ot) 10 lf) := ⟨rl, fo, ot, lf, rfl, rfl⟩
  have hP := lw_P2 (z := ((sA (sA (sF (sF (sF σ 17 ((σ.1 20))) 18 sn2C) 19 4294967295) 19 lt2C) 20 lf2C), ov, dv)) (τ := (sA (sA (sF (sF τ 10 rl) 11 fo) 6 ot) 10 lf)) hP
  have hD := lw_D2 (z := ((sA (sA (sF (sF (sF σ 17 ((σ.1 20))) 18 sn2C) 19 4294967295) 19 lt2C) 20 lf2C), ov, dv)) (τ := (sA (sA (sF (sF τ 10 rl) 11 fo) 6 ot) 10 lf)) hD
  have ht := tie_acceptedArrangements hI hr hm
  refine jn_lcmp hx hb dL_law_920 ?_
  refine lv_if_eq (tgt := 2501) hx hb dL_law_921 (by decide) (fun _ => ?_) (fun q => absurd ((cmpL_eq _ _).mpr (congrArg lN ht.1)) q)
  exact lw_end (z := ((sA (sA (sF (sF (sF σ 17 ((σ.1 20))) 18 sn2C) 19 4294967295) 19 lt2C) 20 lf2C), ov, dv)) kk (by omega) (by omega) ht.2 hP hD hS hl (fun _ h => h)

set_option maxHeartbeats 4000000 in
set_option maxRecDepth 100000 in
theorem lwc_926 (hflg : l.stackTraces = false) (C : LC p s m c cL_law b L xs A g) (hi : i + 5 < L) (hI : Inv σ τ) (hP : va_P (g.1, g.2.1) vwCl (LW g aM ao ad (σ, ov, dv) τ) H) (hD : va_D A (LW g aM ao ad (σ, ov, dv) τ)) (hS : va_S A s.heap H locs) (hl : lv_has ls 9 (LV b g aM ao ad i)) (hc : cells + 3 ≤ room_1.cells) (hsl : slots + 18 ≤ room_1.slots) (kk : LK p l e s m below meth c cells slots Q A b i ao ad g aM) : W p l e room_1 s m #[Value.ref b] below meth c H locs cells slots Q (F0 m 926 ls []) := by
  have C0 := C
  obtain ⟨hx, hb, hml, hown, hts, hK, hZ, hX, hbl, hbA, hAA, hL⟩ := C0
  obtain ⟨x1, hx1, ex1⟩ := nI_ex (xs (i + 1))
  obtain ⟨x2, hx2, ex2⟩ := nI_ex (xs (i + 2))
  obtain ⟨x3, hx3, ex3⟩ := nI_ex (xs (i + 3))
  obtain ⟨x4, hx4, ex4⟩ := nI_ex (xs (i + 4))
  obtain ⟨x5, hx5, ex5⟩ := nI_ex (xs (i + 5))
  have hc : cells + 3 ≤ 603072 := hc
  have hsl : slots + 18 ≤ 7170154 := hsl
  refine lv_aload_n hx hb dL_law_926 rfl (lv_at hl 1 rfl) ?_
  refine lw_arg C hS hl (List.mem_of_getElem? (i := 0) rfl) (List.mem_of_getElem? (i := 5) rfl) (k := 1) (by decide) (by omega) ex1 dL_law_927 dL_law_928 dL_law_930 dL_law_931 dL_law_932 ?_
  refine lv_aload_n hx hb dL_law_933 rfl (lv_at hl 3 rfl) ?_
  refine jI_calli (wf := wH g ao ad (wM (gMo g aM) τ ++ [])) (vx_runSW (As := [.ref (g.2.2.2 0), .int (nI x1), .ref ao]) (rest := []) ⟨hx, hb, hml, hown, hts⟩ (h_takeArrangement l hflg g (wM (gMo g aM) τ ++ []) H.size σ ao ad ov dv x1 hI.okA hI.w8 hI.w3 hx1) (vx_cwSW 3 hts gL_law_L_takeArrangement rfl rfl rfl (by decide +kernel) ⟨Nat.le_of_ble_eq_true rfl, Nat.le_of_ble_eq_true rfl⟩) (okHS hK (lw_P3 hP) (lw_D3 hD) hZ hS hAA) rfl rfl hl.1 rfl (lv_room (Nat.le_of_ble_eq_true rfl)) dL_law_934 ⟨by show cells + 1 ≤ 603072; omega, by show slots + 6 ≤ 7170154; omega⟩) (lw_D3 hD) hS hAA (fun r z H locs hr hP hD hS => ?_)
  have hP := lw_P4 hP
  have hD := lw_D4 hD
  refine lv_istore (lv' := ((6, .int r) :: LV b g aM ao ad i)) hx hb dL_law_937 hl (by decide) rfl (fun ls hl => ?_)
  refine lv_aload_n hx hb dL_law_939 rfl (lv_at hl 3 rfl) ?_
  refine lw_arg C hS hl (List.mem_of_getElem? (i := 1) rfl) (List.mem_of_getElem? (i := 6) rfl) (k := 1) (by decide) (by omega) ex1 dL_law_940 dL_law_941 dL_law_943 dL_law_944 dL_law_945 ?_
  refine jn_calli (va_runV (As := [.int (nI x1)]) (rest := []) ⟨hx, hb, hml, hown, hts⟩ (c_X11_takeArrangement l (gMo g aM) (wX g ao ad z ++ []) H.size τ x1 hI.okT hI.fin hI.mw8 hI.mw3 hx1) (cwV 1 hts gL_law_X11_takeArrangement rfl rfl rfl (by decide +kernel) ⟨Nat.le_of_ble_eq_true rfl, Nat.le_of_ble_eq_true rfl⟩) (okWV (g := gMo g aM) hK.1.1 (lw_P1 hP) (lw_D1 hD) rfl (gM0 (gMo g aM) τ (wX g ao ad z ++ []))) rfl rfl hl.1 rfl (lv_room (Nat.le_of_ble_eq_true rfl)) dL_law_946 ⟨by show cells + 1 + 0 ≤ 603072; omega, by show slots + 6 + 0 ≤ 7170154; omega⟩) (lw_D1 hD) hS hAA (fun v2 u H locs hw hP hD hS => ?_)
  obtain ⟨r0, th, rl, fo, wd, ot, lf⟩ := u
  obtain ⟨rfl, hw⟩ := hw
  have hm : RM_takeArrangement τ x1 _ (sA (sA (sA (sF (sF (sF τ 0 th) 10 rl) 11 fo) 5 wd) 6 ot) 10 lf) := ⟨r0, th, rl, fo, wd, ot, lf, rfl, hw, rfl⟩
  have hP := lw_P2 (z := z) (τ := (sA (sA (sA (sF (sF (sF τ 0 th) 10 rl) 11 fo) 5 wd) 6 ot) 10 lf)) hP
  have hD := lw_D2 (z := z) (τ := (sA (sA (sA (sF (sF (sF τ 0 th) 10 rl) 11 fo) 5 wd) 6 ot) 10 lf)) hD
  have ht := tie_takeArrangement hI hr hm
  refine lv_istore (lv' := ((7, .int (nI (r0))) :: (6, .int r) :: LV b g aM ao ad i)) hx hb dL_law_949 hl (by decide) rfl (fun ls hl => ?_)
  refine lw_thrown C gL_law_X11_thrown ⟨Nat.le_of_ble_eq_true rfl, Nat.le_of_ble_eq_true rfl⟩ ⟨by show cells + 1 + 0 ≤ 603072; omega, by show slots + 6 + 0 ≤ 7170154; omega⟩ hP hl (List.mem_of_getElem? (i := 4) rfl) (List.mem_of_getElem? (i := 1) rfl) ht.1 dL_law_951 dL_law_952 dL_law_955 dL_law_957 ?_ (Nat.le_of_ble_eq_true rfl)
  refine lw_cmpI C hP hl (List.mem_of_getElem? (i := 5) rfl) (List.mem_of_getElem? (i := 1) rfl) (List.mem_of_getElem? (i := 0) rfl) ht.2.1 dL_law_962 dL_law_964 dL_law_967 dL_law_968 dL_law_969 dL_law_970 dL_law_972 dL_law_973 dL_law_974 ?_
  refine lv_goto (tgt := 2501) hx hb dL_law_979 (by decide) ?_
  exact lw_end (z := z) kk (by omega) (by omega) ht.2.2 hP hD hS hl (fun _ h => List.mem_cons_of_mem _ (List.mem_cons_of_mem _ (h)))

set_option maxHeartbeats 4000000 in
set_option maxRecDepth 100000 in
theorem lwc_982 (hflg : l.stackTraces = false) (C : LC p s m c cL_law b L xs A g) (hi : i + 5 < L) (hI : Inv σ τ) (hP : va_P (g.1, g.2.1) vwCl (LW g aM ao ad (σ, ov, dv) τ) H) (hD : va_D A (LW g aM ao ad (σ, ov, dv) τ)) (hS : va_S A s.heap H locs) (hl : lv_has ls 9 (LV b g aM ao ad i)) (hc : cells + 3 ≤ room_1.cells) (hsl : slots + 18 ≤ room_1.slots) (kk : LK p l e s m below meth c cells slots Q A b i ao ad g aM) : W p l e room_1 s m #[Value.ref b] below meth c H locs cells slots Q (F0 m 982 ls []) := by
  have C0 := C
  obtain ⟨hx, hb, hml, hown, hts, hK, hZ, hX, hbl, hbA, hAA, hL⟩ := C0
  obtain ⟨x1, hx1, ex1⟩ := nI_ex (xs (i + 1))
  obtain ⟨x2, hx2, ex2⟩ := nI_ex (xs (i + 2))
  obtain ⟨x3, hx3, ex3⟩ := nI_ex (xs (i + 3))
  obtain ⟨x4, hx4, ex4⟩ := nI_ex (xs (i + 4))
  obtain ⟨x5, hx5, ex5⟩ := nI_ex (xs (i + 5))
  have hc : cells + 3 ≤ 603072 := hc
  have hsl : slots + 18 ≤ 7170154 := hsl
  refine lv_aload_n hx hb dL_law_982 rfl (lv_at hl 1 rfl) ?_
  refine lv_aload_n hx hb dL_law_983 rfl (lv_at hl 3 rfl) ?_
  refine jI_calli (wf := wH g ao ad (wM (gMo g aM) τ ++ [])) (vx_runSW (As := [.ref (g.2.2.2 0), .ref ao]) (rest := []) ⟨hx, hb, hml, hown, hts⟩ (h_oneWayJumps l hflg g (wM (gMo g aM) τ ++ []) H.size σ ao ad ov dv  hI.okA hI.w8 hI.w3) (vx_cwSW 2 hts gL_law_L_oneWayJumps rfl rfl rfl (by decide +kernel) ⟨Nat.le_of_ble_eq_true rfl, Nat.le_of_ble_eq_true rfl⟩) (okHS hK (lw_P3 hP) (lw_D3 hD) hZ hS hAA) rfl rfl hl.1 rfl (lv_room (Nat.le_of_ble_eq_true rfl)) dL_law_984 ⟨by show cells + 1 ≤ 603072; omega, by show slots + 6 ≤ 7170154; omega⟩) (lw_D3 hD) hS hAA (fun r z H locs hr hP hD hS => ?_)
  have hP := lw_P4 hP
  have hD := lw_D4 hD
  refine lv_istore (lv' := ((6, .int r) :: LV b g aM ao ad i)) hx hb dL_law_987 hl (by decide) rfl (fun ls hl => ?_)
  refine lv_aload_n hx hb dL_law_989 rfl (lv_at hl 3 rfl) ?_
  refine jn_calli (va_runV (As := []) (rest := []) ⟨hx, hb, hml, hown, hts⟩ (c_X11_oneWayJumps l (gMo g aM) (wX g ao ad z ++ []) H.size τ  hI.okT hI.mw8 hI.mw3) (cwV 0 hts gL_law_X11_oneWayJumps rfl rfl rfl (by decide +kernel) ⟨Nat.le_of_ble_eq_true rfl, Nat.le_of_ble_eq_true rfl⟩) (okWV (g := gMo g aM) hK.1.1 (lw_P1 hP) (lw_D1 hD) rfl (gM0 (gMo g aM) τ (wX g ao ad z ++ []))) rfl rfl hl.1 rfl (lv_room (Nat.le_of_ble_eq_true rfl)) dL_law_990 ⟨by show cells + 1 + 0 ≤ 603072; omega, by show slots + 6 + 0 ≤ 7170154; omega⟩) (lw_D1 hD) hS hAA (fun v2 u H locs hw hP hD hS => ?_)
  obtain ⟨r0, th, j2, r2, e2, f2⟩ := u
  obtain ⟨rfl, hw⟩ := hw
  have hm : RM_oneWayJumps τ  _ (sA (sF (sF (sF (sF τ 0 th) 7 j2) 8 r2) 9 e2) 9 f2) := ⟨r0, th, j2, r2, e2, f2, rfl, hw, rfl⟩
  have hP := lw_P2 (z := z) (τ := (sA (sF (sF (sF (sF τ 0 th) 7 j2) 8 r2) 9 e2) 9 f2)) hP
  have hD := lw_D2 (z := z) (τ := (sA (sF (sF (sF (sF τ 0 th) 7 j2) 8 r2) 9 e2) 9 f2)) hD
  have ht := tie_oneWayJumps hI hr hm
  refine lv_istore (lv' := ((7, .int (nI (r0))) :: (6, .int r) :: LV b g aM ao ad i)) hx hb dL_law_993 hl (by decide) rfl (fun ls hl => ?_)
  refine lw_thrown C gL_law_X11_thrown ⟨Nat.le_of_ble_eq_true rfl, Nat.le_of_ble_eq_true rfl⟩ ⟨by show cells + 1 + 0 ≤ 603072; omega, by show slots + 6 + 0 ≤ 7170154; omega⟩ hP hl (List.mem_of_getElem? (i := 4) rfl) (List.mem_of_getElem? (i := 1) rfl) ht.1 dL_law_995 dL_law_996 dL_law_999 dL_law_1001 ?_ (Nat.le_of_ble_eq_true rfl)
  refine lw_cmpI C hP hl (List.mem_of_getElem? (i := 5) rfl) (List.mem_of_getElem? (i := 1) rfl) (List.mem_of_getElem? (i := 0) rfl) ht.2.1 dL_law_1006 dL_law_1008 dL_law_1011 dL_law_1012 dL_law_1013 dL_law_1014 dL_law_1016 dL_law_1017 dL_law_1018 ?_
  refine lv_goto (tgt := 2501) hx hb dL_law_1023 (by decide) ?_
  exact lw_end (z := z) kk (by omega) (by omega) ht.2.2 hP hD hS hl (fun _ h => List.mem_cons_of_mem _ (List.mem_cons_of_mem _ (h)))

set_option maxHeartbeats 4000000 in
set_option maxRecDepth 100000 in
theorem lwc_1026 (hflg : l.stackTraces = false) (C : LC p s m c cL_law b L xs A g) (hi : i + 5 < L) (hI : Inv σ τ) (hP : va_P (g.1, g.2.1) vwCl (LW g aM ao ad (σ, ov, dv) τ) H) (hD : va_D A (LW g aM ao ad (σ, ov, dv) τ)) (hS : va_S A s.heap H locs) (hl : lv_has ls 9 (LV b g aM ao ad i)) (hc : cells + 3 ≤ room_1.cells) (hsl : slots + 18 ≤ room_1.slots) (kk : LK p l e s m below meth c cells slots Q A b i ao ad g aM) : W p l e room_1 s m #[Value.ref b] below meth c H locs cells slots Q (F0 m 1026 ls []) := by
  have C0 := C
  obtain ⟨hx, hb, hml, hown, hts, hK, hZ, hX, hbl, hbA, hAA, hL⟩ := C0
  obtain ⟨x1, hx1, ex1⟩ := nI_ex (xs (i + 1))
  obtain ⟨x2, hx2, ex2⟩ := nI_ex (xs (i + 2))
  obtain ⟨x3, hx3, ex3⟩ := nI_ex (xs (i + 3))
  obtain ⟨x4, hx4, ex4⟩ := nI_ex (xs (i + 4))
  obtain ⟨x5, hx5, ex5⟩ := nI_ex (xs (i + 5))
  have hc : cells + 3 ≤ 603072 := hc
  have hsl : slots + 18 ≤ 7170154 := hsl
  refine lv_aload_n hx hb dL_law_1026 rfl (lv_at hl 1 rfl) ?_
  refine lv_aload_n hx hb dL_law_1027 rfl (lv_at hl 3 rfl) ?_
  refine jI_calli (wf := wH g ao ad (wM (gMo g aM) τ ++ [])) (vx_runSW (As := [.ref (g.2.2.2 0), .ref ao]) (rest := []) ⟨hx, hb, hml, hown, hts⟩ (h_oneWayRest l hflg g (wM (gMo g aM) τ ++ []) H.size σ ao ad ov dv  hI.okA hI.w8 hI.w3) (vx_cwSW 2 hts gL_law_L_oneWayRest rfl rfl rfl (by decide +kernel) ⟨Nat.le_of_ble_eq_true rfl, Nat.le_of_ble_eq_true rfl⟩) (okHS hK (lw_P3 hP) (lw_D3 hD) hZ hS hAA) rfl rfl hl.1 rfl (lv_room (Nat.le_of_ble_eq_true rfl)) dL_law_1028 ⟨by show cells + 1 ≤ 603072; omega, by show slots + 6 ≤ 7170154; omega⟩) (lw_D3 hD) hS hAA (fun r z H locs hr hP hD hS => ?_)
  have hP := lw_P4 hP
  have hD := lw_D4 hD
  refine lv_istore (lv' := ((6, .int r) :: LV b g aM ao ad i)) hx hb dL_law_1031 hl (by decide) rfl (fun ls hl => ?_)
  refine lv_aload_n hx hb dL_law_1033 rfl (lv_at hl 3 rfl) ?_
  refine jn_calli (va_runV (As := []) (rest := []) ⟨hx, hb, hml, hown, hts⟩ (c_X11_oneWayRest l (gMo g aM) (wX g ao ad z ++ []) H.size τ  hI.okT hI.mw8 hI.mw3) (cwV 0 hts gL_law_X11_oneWayRest rfl rfl rfl (by decide +kernel) ⟨Nat.le_of_ble_eq_true rfl, Nat.le_of_ble_eq_true rfl⟩) (okWV (g := gMo g aM) hK.1.1 (lw_P1 hP) (lw_D1 hD) rfl (gM0 (gMo g aM) τ (wX g ao ad z ++ []))) rfl rfl hl.1 rfl (lv_room (Nat.le_of_ble_eq_true rfl)) dL_law_1034 ⟨by show cells + 1 + 0 ≤ 603072; omega, by show slots + 6 + 0 ≤ 7170154; omega⟩) (lw_D1 hD) hS hAA (fun v2 u H locs hw hP hD hS => ?_)
  obtain ⟨r0, th, j2, r2, e2, f2⟩ := u
  obtain ⟨rfl, hw⟩ := hw
  have hm : RM_oneWayRest τ  _ (sA (sF (sF (sF (sF τ 0 th) 7 j2) 8 r2) 9 e2) 9 f2) := ⟨r0, th, j2, r2, e2, f2, rfl, hw, rfl⟩
  have hP := lw_P2 (z := z) (τ := (sA (sF (sF (sF (sF τ 0 th) 7 j2) 8 r2) 9 e2) 9 f2)) hP
  have hD := lw_D2 (z := z) (τ := (sA (sF (sF (sF (sF τ 0 th) 7 j2) 8 r2) 9 e2) 9 f2)) hD
  have ht := tie_oneWayRest hI hr hm
  refine lv_istore (lv' := ((7, .int (nI (r0))) :: (6, .int r) :: LV b g aM ao ad i)) hx hb dL_law_1037 hl (by decide) rfl (fun ls hl => ?_)
  refine lw_thrown C gL_law_X11_thrown ⟨Nat.le_of_ble_eq_true rfl, Nat.le_of_ble_eq_true rfl⟩ ⟨by show cells + 1 + 0 ≤ 603072; omega, by show slots + 6 + 0 ≤ 7170154; omega⟩ hP hl (List.mem_of_getElem? (i := 4) rfl) (List.mem_of_getElem? (i := 1) rfl) ht.1 dL_law_1039 dL_law_1040 dL_law_1043 dL_law_1045 ?_ (Nat.le_of_ble_eq_true rfl)
  refine lw_cmpI C hP hl (List.mem_of_getElem? (i := 5) rfl) (List.mem_of_getElem? (i := 1) rfl) (List.mem_of_getElem? (i := 0) rfl) ht.2.1 dL_law_1050 dL_law_1052 dL_law_1055 dL_law_1056 dL_law_1057 dL_law_1058 dL_law_1060 dL_law_1061 dL_law_1062 ?_
  refine lv_goto (tgt := 2501) hx hb dL_law_1067 (by decide) ?_
  exact lw_end (z := z) kk (by omega) (by omega) ht.2.2 hP hD hS hl (fun _ h => List.mem_cons_of_mem _ (List.mem_cons_of_mem _ (h)))

set_option maxHeartbeats 4000000 in
set_option maxRecDepth 100000 in
theorem lwc_1070 (hflg : l.stackTraces = false) (C : LC p s m c cL_law b L xs A g) (hi : i + 5 < L) (hI : Inv σ τ) (hP : va_P (g.1, g.2.1) vwCl (LW g aM ao ad (σ, ov, dv) τ) H) (hD : va_D A (LW g aM ao ad (σ, ov, dv) τ)) (hS : va_S A s.heap H locs) (hl : lv_has ls 9 (LV b g aM ao ad i)) (hc : cells + 3 ≤ room_1.cells) (hsl : slots + 18 ≤ room_1.slots) (kk : LK p l e s m below meth c cells slots Q A b i ao ad g aM) : W p l e room_1 s m #[Value.ref b] below meth c H locs cells slots Q (F0 m 1070 ls []) := by
  have C0 := C
  obtain ⟨hx, hb, hml, hown, hts, hK, hZ, hX, hbl, hbA, hAA, hL⟩ := C0
  obtain ⟨x1, hx1, ex1⟩ := nI_ex (xs (i + 1))
  obtain ⟨x2, hx2, ex2⟩ := nI_ex (xs (i + 2))
  obtain ⟨x3, hx3, ex3⟩ := nI_ex (xs (i + 3))
  obtain ⟨x4, hx4, ex4⟩ := nI_ex (xs (i + 4))
  obtain ⟨x5, hx5, ex5⟩ := nI_ex (xs (i + 5))
  have hc : cells + 3 ≤ 603072 := hc
  have hsl : slots + 18 ≤ 7170154 := hsl
  refine lv_aload_n hx hb dL_law_1070 rfl (lv_at hl 1 rfl) ?_
  refine lv_aload_n hx hb dL_law_1071 rfl (lv_at hl 3 rfl) ?_
  refine jI_calli (wf := wH g ao ad (wM (gMo g aM) τ ++ [])) (vx_runSW (As := [.ref (g.2.2.2 0), .ref ao]) (rest := []) ⟨hx, hb, hml, hown, hts⟩ (h_orderCost l hflg g (wM (gMo g aM) τ ++ []) H.size σ ao ad ov dv  hI.okA hI.w8 hI.w3 hI.od.1 hI.od.2.1) (vx_cwSW 2 hts gL_law_L_orderCost rfl rfl rfl (by decide +kernel) ⟨Nat.le_of_ble_eq_true rfl, Nat.le_of_ble_eq_true rfl⟩) (okHS hK (lw_P3 hP) (lw_D3 hD) hZ hS hAA) rfl rfl hl.1 rfl (lv_room (Nat.le_of_ble_eq_true rfl)) dL_law_1072 ⟨by show cells + 1 ≤ 603072; omega, by show slots + 6 ≤ 7170154; omega⟩) (lw_D3 hD) hS hAA (fun r z H locs hr hP hD hS => ?_)
  have hP := lw_P4 hP
  have hD := lw_D4 hD
  refine lv_istore (lv' := ((6, .int r) :: LV b g aM ao ad i)) hx hb dL_law_1075 hl (by decide) rfl (fun ls hl => ?_)
  refine lv_aload_n hx hb dL_law_1077 rfl (lv_at hl 3 rfl) ?_
  refine jn_calli (va_runV (As := []) (rest := []) ⟨hx, hb, hml, hown, hts⟩ (c_X11_orderCost l (gMo g aM) (wX g ao ad z ++ []) H.size τ  hI.okT hI.fin hI.mw8 hI.mw3) (cwV 0 hts gL_law_X11_orderCost rfl rfl rfl (by decide +kernel) ⟨Nat.le_of_ble_eq_true rfl, Nat.le_of_ble_eq_true rfl⟩) (okWV (g := gMo g aM) hK.1.1 (lw_P1 hP) (lw_D1 hD) rfl (gM0 (gMo g aM) τ (wX g ao ad z ++ []))) rfl rfl hl.1 rfl (lv_room (Nat.le_of_ble_eq_true rfl)) dL_law_1078 ⟨by show cells + 1 + 0 ≤ 603072; omega, by show slots + 6 + 0 ≤ 7170154; omega⟩) (lw_D1 hD) hS hAA (fun v2 u H locs hw hP hD hS => ?_)
  obtain ⟨r0, th, f11⟩ := u
  obtain ⟨rfl, hw⟩ := hw
  have hm : RM_orderCost τ  _ (sA (sF τ 0 th) 11 f11) := ⟨r0, th, f11, rfl, hw, rfl⟩
  have hP := lw_P2 (z := z) (τ := (sA (sF τ 0 th) 11 f11)) hP
  have hD := lw_D2 (z := z) (τ := (sA (sF τ 0 th) 11 f11)) hD
  have ht := tie_orderCost hI hr hm
  refine lv_istore (lv' := ((7, .int (nI (r0))) :: (6, .int r) :: LV b g aM ao ad i)) hx hb dL_law_1081 hl (by decide) rfl (fun ls hl => ?_)
  refine lw_thrown C gL_law_X11_thrown ⟨Nat.le_of_ble_eq_true rfl, Nat.le_of_ble_eq_true rfl⟩ ⟨by show cells + 1 + 0 ≤ 603072; omega, by show slots + 6 + 0 ≤ 7170154; omega⟩ hP hl (List.mem_of_getElem? (i := 4) rfl) (List.mem_of_getElem? (i := 1) rfl) ht.1 dL_law_1083 dL_law_1084 dL_law_1087 dL_law_1089 ?_ (Nat.le_of_ble_eq_true rfl)
  refine lw_cmpI C hP hl (List.mem_of_getElem? (i := 5) rfl) (List.mem_of_getElem? (i := 1) rfl) (List.mem_of_getElem? (i := 0) rfl) ht.2.1 dL_law_1094 dL_law_1096 dL_law_1099 dL_law_1100 dL_law_1101 dL_law_1102 dL_law_1104 dL_law_1105 dL_law_1106 ?_
  refine lv_goto (tgt := 2501) hx hb dL_law_1111 (by decide) ?_
  exact lw_end (z := z) kk (by omega) (by omega) ht.2.2 hP hD hS hl (fun _ h => List.mem_cons_of_mem _ (List.mem_cons_of_mem _ (h)))

set_option maxHeartbeats 4000000 in
set_option maxRecDepth 100000 in
theorem lwc_1114 (hflg : l.stackTraces = false) (C : LC p s m c cL_law b L xs A g) (hi : i + 5 < L) (hI : Inv σ τ) (hP : va_P (g.1, g.2.1) vwCl (LW g aM ao ad (σ, ov, dv) τ) H) (hD : va_D A (LW g aM ao ad (σ, ov, dv) τ)) (hS : va_S A s.heap H locs) (hl : lv_has ls 9 (LV b g aM ao ad i)) (hc : cells + 3 ≤ room_1.cells) (hsl : slots + 18 ≤ room_1.slots) (kk : LK p l e s m below meth c cells slots Q A b i ao ad g aM) : W p l e room_1 s m #[Value.ref b] below meth c H locs cells slots Q (F0 m 1114 ls []) := by
  have C0 := C
  obtain ⟨hx, hb, hml, hown, hts, hK, hZ, hX, hbl, hbA, hAA, hL⟩ := C0
  obtain ⟨x1, hx1, ex1⟩ := nI_ex (xs (i + 1))
  obtain ⟨x2, hx2, ex2⟩ := nI_ex (xs (i + 2))
  obtain ⟨x3, hx3, ex3⟩ := nI_ex (xs (i + 3))
  obtain ⟨x4, hx4, ex4⟩ := nI_ex (xs (i + 4))
  obtain ⟨x5, hx5, ex5⟩ := nI_ex (xs (i + 5))
  have hc : cells + 3 ≤ 603072 := hc
  have hsl : slots + 18 ≤ 7170154 := hsl
  refine lv_aload_n hx hb dL_law_1114 rfl (lv_at hl 1 rfl) ?_
  refine lw_arg C hS hl (List.mem_of_getElem? (i := 0) rfl) (List.mem_of_getElem? (i := 5) rfl) (k := 1) (by decide) (by omega) ex1 dL_law_1115 dL_law_1116 dL_law_1118 dL_law_1119 dL_law_1120 ?_
  refine lv_aload_n hx hb dL_law_1121 rfl (lv_at hl 3 rfl) ?_
  refine jI_calli (wf := wH g ao ad (wM (gMo g aM) τ ++ [])) (vx_runSW (As := [.ref (g.2.2.2 0), .int (nI x1), .ref ao]) (rest := []) ⟨hx, hb, hml, hown, hts⟩ (h_orderPosition l hflg g (wM (gMo g aM) τ ++ []) H.size σ ao ad ov dv x1 hI.okA hI.w8 hI.w3 hI.od.1 hI.od.2.1 hx1) (vx_cwSW 3 hts gL_law_L_orderPosition rfl rfl rfl (by decide +kernel) ⟨Nat.le_of_ble_eq_true rfl, Nat.le_of_ble_eq_true rfl⟩) (okHS hK (lw_P3 hP) (lw_D3 hD) hZ hS hAA) rfl rfl hl.1 rfl (lv_room (Nat.le_of_ble_eq_true rfl)) dL_law_1122 ⟨by show cells + 1 ≤ 603072; omega, by show slots + 6 ≤ 7170154; omega⟩) (lw_D3 hD) hS hAA (fun r z H locs hr hP hD hS => ?_)
  have hP := lw_P4 hP
  have hD := lw_D4 hD
  refine lv_istore (lv' := ((6, .int r) :: LV b g aM ao ad i)) hx hb dL_law_1125 hl (by decide) rfl (fun ls hl => ?_)
  refine lv_aload_n hx hb dL_law_1127 rfl (lv_at hl 3 rfl) ?_
  refine lw_arg C hS hl (List.mem_of_getElem? (i := 1) rfl) (List.mem_of_getElem? (i := 6) rfl) (k := 1) (by decide) (by omega) ex1 dL_law_1128 dL_law_1129 dL_law_1131 dL_law_1132 dL_law_1133 ?_
  refine jn_calli (va_runV (As := [.int (nI x1)]) (rest := []) ⟨hx, hb, hml, hown, hts⟩ (c_X11_orderPosition l (gMo g aM) (wX g ao ad z ++ []) H.size τ x1 hI.okT hI.fin hI.mw8 hI.mw3 hx1) (cwV 1 hts gL_law_X11_orderPosition rfl rfl rfl (by decide +kernel) ⟨Nat.le_of_ble_eq_true rfl, Nat.le_of_ble_eq_true rfl⟩) (okWV (g := gMo g aM) hK.1.1 (lw_P1 hP) (lw_D1 hD) rfl (gM0 (gMo g aM) τ (wX g ao ad z ++ []))) rfl rfl hl.1 rfl (lv_room (Nat.le_of_ble_eq_true rfl)) dL_law_1134 ⟨by show cells + 1 + 0 ≤ 603072; omega, by show slots + 6 + 0 ≤ 7170154; omega⟩) (lw_D1 hD) hS hAA (fun v2 u H locs hw hP hD hS => ?_)
  obtain ⟨r0, th, f11, f12⟩ := u
  obtain ⟨rfl, hw⟩ := hw
  have hm : RM_orderPosition τ x1 _ (sA (sA (sF τ 0 th) 11 f11) 12 f12) := ⟨r0, th, f11, f12, rfl, hw, rfl⟩
  have hP := lw_P2 (z := z) (τ := (sA (sA (sF τ 0 th) 11 f11) 12 f12)) hP
  have hD := lw_D2 (z := z) (τ := (sA (sA (sF τ 0 th) 11 f11) 12 f12)) hD
  have ht := tie_orderPosition hI hr hm
  refine lv_istore (lv' := ((7, .int (nI (r0))) :: (6, .int r) :: LV b g aM ao ad i)) hx hb dL_law_1137 hl (by decide) rfl (fun ls hl => ?_)
  refine lw_thrown C gL_law_X11_thrown ⟨Nat.le_of_ble_eq_true rfl, Nat.le_of_ble_eq_true rfl⟩ ⟨by show cells + 1 + 0 ≤ 603072; omega, by show slots + 6 + 0 ≤ 7170154; omega⟩ hP hl (List.mem_of_getElem? (i := 4) rfl) (List.mem_of_getElem? (i := 1) rfl) ht.1 dL_law_1139 dL_law_1140 dL_law_1143 dL_law_1145 ?_ (Nat.le_of_ble_eq_true rfl)
  refine lw_cmpI C hP hl (List.mem_of_getElem? (i := 5) rfl) (List.mem_of_getElem? (i := 1) rfl) (List.mem_of_getElem? (i := 0) rfl) ht.2.1 dL_law_1150 dL_law_1152 dL_law_1155 dL_law_1156 dL_law_1157 dL_law_1158 dL_law_1160 dL_law_1161 dL_law_1162 ?_
  refine lv_goto (tgt := 2501) hx hb dL_law_1167 (by decide) ?_
  exact lw_end (z := z) kk (by omega) (by omega) ht.2.2 hP hD hS hl (fun _ h => List.mem_cons_of_mem _ (List.mem_cons_of_mem _ (h)))

set_option maxHeartbeats 4000000 in
set_option maxRecDepth 100000 in
theorem lwc_1170 (hflg : l.stackTraces = false) (C : LC p s m c cL_law b L xs A g) (hi : i + 5 < L) (hI : Inv σ τ) (hP : va_P (g.1, g.2.1) vwCl (LW g aM ao ad (σ, ov, dv) τ) H) (hD : va_D A (LW g aM ao ad (σ, ov, dv) τ)) (hS : va_S A s.heap H locs) (hl : lv_has ls 9 (LV b g aM ao ad i)) (hc : cells + 3 ≤ room_1.cells) (hsl : slots + 18 ≤ room_1.slots) (kk : LK p l e s m below meth c cells slots Q A b i ao ad g aM) : W p l e room_1 s m #[Value.ref b] below meth c H locs cells slots Q (F0 m 1170 ls []) := by
  have C0 := C
  obtain ⟨hx, hb, hml, hown, hts, hK, hZ, hX, hbl, hbA, hAA, hL⟩ := C0
  obtain ⟨x1, hx1, ex1⟩ := nI_ex (xs (i + 1))
  obtain ⟨x2, hx2, ex2⟩ := nI_ex (xs (i + 2))
  obtain ⟨x3, hx3, ex3⟩ := nI_ex (xs (i + 3))
  obtain ⟨x4, hx4, ex4⟩ := nI_ex (xs (i + 4))
  obtain ⟨x5, hx5, ex5⟩ := nI_ex (xs (i + 5))
  have hc : cells + 3 ≤ 603072 := hc
  have hsl : slots + 18 ≤ 7170154 := hsl
  refine lv_aload_n hx hb dL_law_1170 rfl (lv_at hl 1 rfl) ?_
  refine lw_arg C hS hl (List.mem_of_getElem? (i := 0) rfl) (List.mem_of_getElem? (i := 5) rfl) (k := 1) (by decide) (by omega) ex1 dL_law_1171 dL_law_1172 dL_law_1174 dL_law_1175 dL_law_1176 ?_
  refine lw_arg C hS hl (List.mem_of_getElem? (i := 0) rfl) (List.mem_of_getElem? (i := 5) rfl) (k := 2) (by decide) (by omega) ex2 dL_law_1177 dL_law_1178 dL_law_1180 dL_law_1181 dL_law_1182 ?_
  refine lw_arg C hS hl (List.mem_of_getElem? (i := 0) rfl) (List.mem_of_getElem? (i := 5) rfl) (k := 3) (by decide) (by omega) ex3 dL_law_1183 dL_law_1184 dL_law_1186 dL_law_1187 dL_law_1188 ?_
  refine lv_aload_n hx hb dL_law_1189 rfl (lv_at hl 3 rfl) ?_
  refine jI_calli (wf := wH g ao ad (wM (gMo g aM) τ ++ [])) (vx_runSW (As := [.ref (g.2.2.2 0), .int (nI x1), .int (nI x2), .int (nI x3), .ref ao]) (rest := []) ⟨hx, hb, hml, hown, hts⟩ (h_reaches l hflg g (wM (gMo g aM) τ ++ []) H.size σ ao ad ov dv x1 x2 x3 hI.okA hx1 hx2 hx3) (vx_cwSW 5 hts gL_law_L_reaches rfl rfl rfl (by decide +kernel) ⟨Nat.le_of_ble_eq_true rfl, Nat.le_of_ble_eq_true rfl⟩) (okHS hK (lw_P3 hP) (lw_D3 hD) hZ hS hAA) rfl rfl hl.1 rfl (lv_room (Nat.le_of_ble_eq_true rfl)) dL_law_1190 ⟨by show cells + 1 ≤ 603072; omega, by show slots + 6 ≤ 7170154; omega⟩) (lw_D3 hD) hS hAA (fun r z H locs hr hP hD hS => ?_)
  have hP := lw_P4 hP
  have hD := lw_D4 hD
  refine lv_istore (lv' := ((6, .int r) :: LV b g aM ao ad i)) hx hb dL_law_1193 hl (by decide) rfl (fun ls hl => ?_)
  refine lv_aload_n hx hb dL_law_1195 rfl (lv_at hl 3 rfl) ?_
  refine lw_arg C hS hl (List.mem_of_getElem? (i := 1) rfl) (List.mem_of_getElem? (i := 6) rfl) (k := 1) (by decide) (by omega) ex1 dL_law_1196 dL_law_1197 dL_law_1199 dL_law_1200 dL_law_1201 ?_
  refine lw_arg C hS hl (List.mem_of_getElem? (i := 1) rfl) (List.mem_of_getElem? (i := 6) rfl) (k := 2) (by decide) (by omega) ex2 dL_law_1202 dL_law_1203 dL_law_1205 dL_law_1206 dL_law_1207 ?_
  refine lw_arg C hS hl (List.mem_of_getElem? (i := 1) rfl) (List.mem_of_getElem? (i := 6) rfl) (k := 3) (by decide) (by omega) ex3 dL_law_1208 dL_law_1209 dL_law_1211 dL_law_1212 dL_law_1213 ?_
  refine jn_calli (va_runV (As := [.int (nI x1), .int (nI x2), .int (nI x3)]) (rest := []) ⟨hx, hb, hml, hown, hts⟩ (c_X11_reaches l (gMo g aM) (wX g ao ad z ++ []) H.size τ x1 x2 x3 hI.okT hI.fin hx1 hx2 hx3) (cwV 3 hts gL_law_X11_reaches rfl rfl rfl (by decide +kernel) ⟨Nat.le_of_ble_eq_true rfl, Nat.le_of_ble_eq_true rfl⟩) (okWV (g := gMo g aM) hK.1.1 (lw_P1 hP) (lw_D1 hD) rfl (gM0 (gMo g aM) τ (wX g ao ad z ++ []))) rfl rfl hl.1 rfl (lv_room (Nat.le_of_ble_eq_true rfl)) dL_law_1214 ⟨by show cells + 1 + 0 ≤ 603072; omega, by show slots + 6 + 0 ≤ 7170154; omega⟩) (lw_D1 hD) hS hAA (fun v2 u H locs hw hP hD hS => ?_)
  obtain ⟨r0, th, f7⟩ := u
  obtain ⟨rfl, hw⟩ := hw
  have hm : RM_reaches τ x1 x2 x3 _ (sA (sF τ 0 th) 7 f7) := ⟨r0, th, f7, rfl, hw, rfl⟩
  have hP := lw_P2 (z := z) (τ := (sA (sF τ 0 th) 7 f7)) hP
  have hD := lw_D2 (z := z) (τ := (sA (sF τ 0 th) 7 f7)) hD
  have ht := tie_reaches hI hr hm
  refine lv_istore (lv' := ((7, .int (nI (r0))) :: (6, .int r) :: LV b g aM ao ad i)) hx hb dL_law_1217 hl (by decide) rfl (fun ls hl => ?_)
  refine lw_thrown C gL_law_X11_thrown ⟨Nat.le_of_ble_eq_true rfl, Nat.le_of_ble_eq_true rfl⟩ ⟨by show cells + 1 + 0 ≤ 603072; omega, by show slots + 6 + 0 ≤ 7170154; omega⟩ hP hl (List.mem_of_getElem? (i := 4) rfl) (List.mem_of_getElem? (i := 1) rfl) ht.1 dL_law_1219 dL_law_1220 dL_law_1223 dL_law_1225 ?_ (Nat.le_of_ble_eq_true rfl)
  refine lw_cmpZ C hP hl (List.mem_of_getElem? (i := 5) rfl) (List.mem_of_getElem? (i := 1) rfl) (List.mem_of_getElem? (i := 0) rfl) ht.2.1 dL_law_1230 dL_law_1232 dL_law_1235 dL_law_1236 dL_law_1237 dL_law_1238 dL_law_1240 dL_law_1243 dL_law_1244 dL_law_1247 dL_law_1248 dL_law_1249 ?_
  refine lv_goto (tgt := 2501) hx hb dL_law_1254 (by decide) ?_
  exact lw_end (z := z) kk (by omega) (by omega) ht.2.2 hP hD hS hl (fun _ h => List.mem_cons_of_mem _ (List.mem_cons_of_mem _ (h)))

end LWC
