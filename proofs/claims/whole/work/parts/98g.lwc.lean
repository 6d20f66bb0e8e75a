section LWC
variable {p : Program} {l : Launch} {e : Env} {s : State} {m : MethodId} {below : List Frame} {meth : Method} {c : Code} {H : Heap} {locs : List Loc} {cells slots : Nat} {Q : State → Prop} {ls : Array Slot} {A : Nat → Prop} {b L i ao ad : Nat} {xs : Nat → Int32} {g : GC} {aM : Nat → Nat} {σ τ : SS} {ov : Nat → Int64} {dv : Nat → UInt64}

set_option maxHeartbeats 4000000 in
set_option maxRecDepth 100000 in
theorem lwc_2267 (hflg : l.stackTraces = false) (C : LC p s m c cL_law b L xs A g) (hi : i + 5 < L) (hI : Inv σ τ) (hP : va_P (g.1, g.2.1) vwCl (LW g aM ao ad (σ, ov, dv) τ) H) (hD : va_D A (LW g aM ao ad (σ, ov, dv) τ)) (hS : va_S A s.heap H locs) (hl : lv_has ls 9 (LV b g aM ao ad i)) (hc : cells + 3 ≤ room_1.cells) (hsl : slots + 18 ≤ room_1.slots) (kk : LK p l e s m below meth c cells slots Q A b i ao ad g aM) : W p l e room_1 s m #[Value.ref b] below meth c H locs cells slots Q (F0 m 2267 ls []) := by
  have C0 := C
  obtain ⟨hx, hb, hml, hown, hts, hK, hZ, hX, hbl, hbA, hAA, hL⟩ := C0
  obtain ⟨x1, hx1, ex1⟩ := nI_ex (xs (i + 1))
  obtain ⟨x2, hx2, ex2⟩ := nI_ex (xs (i + 2))
  obtain ⟨x3, hx3, ex3⟩ := nI_ex (xs (i + 3))
  obtain ⟨x4, hx4, ex4⟩ := nI_ex (xs (i + 4))
  obtain ⟨x5, hx5, ex5⟩ := nI_ex (xs (i + 5))
  have hc : cells + 3 ≤ 603072 := hc
  have hsl : slots + 18 ≤ 7170154 := hsl
  refine lv_aload_n hx hb dL_law_2267 rfl (lv_at hl 1 rfl) ?_
  refine lw_arg C hS hl (List.mem_of_getElem? (i := 0) rfl) (List.mem_of_getElem? (i := 5) rfl) (k := 1) (by decide) (by omega) ex1 dL_law_2268 dL_law_2269 dL_law_2271 dL_law_2272 dL_law_2273 ?_
  refine lw_arg C hS hl (List.mem_of_getElem? (i := 0) rfl) (List.mem_of_getElem? (i := 5) rfl) (k := 2) (by decide) (by omega) ex2 dL_law_2274 dL_law_2275 dL_law_2277 dL_law_2278 dL_law_2279 ?_
  refine lv_aload hx hb dL_law_2280 (lv_at hl 4 rfl) ?_
  refine jI_calli (wf := wH g ao ad (wM (gMo g aM) τ ++ [])) (vx_runSW (As := [.ref (g.2.2.2 0), .int (nI x1), .int (nI x2), .ref ad]) (rest := []) ⟨hx, hb, hml, hown, hts⟩ (h_density l hflg g (wM (gMo g aM) τ ++ []) H.size σ ao ad ov dv x1 x2 hI.okA hx1 hx2 (cw_r hI)) (vx_cwSW 4 hts gL_law_L_density rfl rfl rfl (by decide +kernel) ⟨Nat.le_of_ble_eq_true rfl, Nat.le_of_ble_eq_true rfl⟩) (okHS hK (lw_P3 hP) (lw_D3 hD) hZ hS hAA) rfl rfl hl.1 rfl (lv_room (Nat.le_of_ble_eq_true rfl)) dL_law_2282 ⟨by show cells + 3 ≤ 603072; omega, by show slots + 18 ≤ 7170154; omega⟩) (lw_D3 hD) hS hAA (fun r z H locs hr hP hD hS => ?_)
  have hP := lw_P4 hP
  have hD := lw_D4 hD
  refine lv_istore (lv' := ((6, .int r) :: LV b g aM ao ad i)) hx hb dL_law_2285 hl (by decide) rfl (fun ls hl => ?_)
  refine lv_aload_n hx hb dL_law_2287 rfl (lv_at hl 3 rfl) ?_
  refine lw_arg C hS hl (List.mem_of_getElem? (i := 1) rfl) (List.mem_of_getElem? (i := 6) rfl) (k := 1) (by decide) (by omega) ex1 dL_law_2288 dL_law_2289 dL_law_2291 dL_law_2292 dL_law_2293 ?_
  refine lw_arg C hS hl (List.mem_of_getElem? (i := 1) rfl) (List.mem_of_getElem? (i := 6) rfl) (k := 2) (by decide) (by omega) ex2 dL_law_2294 dL_law_2295 dL_law_2297 dL_law_2298 dL_law_2299 ?_
  refine jn_calld (va_runV (As := [.int (nI x1), .int (nI x2)]) (rest := []) ⟨hx, hb, hml, hown, hts⟩ (c_X11_density l (gMo g aM) (wX g ao ad z ++ []) H.size τ x1 x2 hI.okT hI.fin hx1 hx2) (cwV 2 hts gL_law_X11_density rfl rfl rfl (by decide +kernel) ⟨Nat.le_of_ble_eq_true rfl, Nat.le_of_ble_eq_true rfl⟩) (okWV (g := gMo g aM) hK.1.1 (lw_P1 hP) (lw_D1 hD) rfl (gM0 (gMo g aM) τ (wX g ao ad z ++ []))) rfl rfl hl.1 rfl (lv_room (Nat.le_of_ble_eq_true rfl)) dL_law_2300 ⟨by show cells + 3 + 0 ≤ 603072; omega, by show slots + 18 + 0 ≤ 7170154; omega⟩) (lw_D1 hD) hS hAA (fun v2 u H locs hw hP hD hS => ?_)
  obtain ⟨r0, th, j2, r2, e2, f6, f7, f8, f9⟩ := u
  obtain ⟨e0, hw⟩ := hw
  rw [e0]
  have hm : RM_density τ x1 x2 _ (sA (sA (sA (sA (sF (sF (sF (sF τ 0 th) 7 j2) 8 r2) 9 e2) 6 f6) 7 f7) 8 f8) 9 f9) := ⟨r0, th, j2, r2, e2, f6, f7, f8, f9, rfl, hw, rfl⟩
  have hP := lw_P2 (z := z) (τ := (sA (sA (sA (sA (sF (sF (sF (sF τ 0 th) 7 j2) 8 r2) 9 e2) 6 f6) 7 f7) 8 f8) 9 f9)) hP
  have hD := lw_D2 (z := z) (τ := (sA (sA (sA (sA (sF (sF (sF (sF τ 0 th) 7 j2) 8 r2) 9 e2) 6 f6) 7 f7) 8 f8) 9 f9)) hD
  have ht := tie_density hI hr hm
  refine lv_dstore (lv' := ((7, .double (r0)) :: (6, .int r) :: LV b g aM ao ad i)) hx hb dL_law_2303 hl (by decide) rfl (fun ls hl => ?_)
  refine lw_thrown C gL_law_X11_thrown ⟨Nat.le_of_ble_eq_true rfl, Nat.le_of_ble_eq_true rfl⟩ ⟨by show cells + 3 + 0 ≤ 603072; omega, by show slots + 18 + 0 ≤ 7170154; omega⟩ hP hl (List.mem_of_getElem? (i := 4) rfl) (List.mem_of_getElem? (i := 1) rfl) ht.1 dL_law_2305 dL_law_2306 dL_law_2309 dL_law_2311 ?_ (Nat.le_of_ble_eq_true rfl)
  refine lw_cmpD C hP hl (List.mem_of_getElem? (i := 6) rfl) (List.mem_of_getElem? (i := 1) rfl) (List.mem_of_getElem? (i := 0) rfl) ht.2.1 dL_law_2316 dL_law_2318 dL_law_2321 dL_law_2323 dL_law_2324 dL_law_2325 dL_law_2327 dL_law_2328 ?_
  refine lv_goto (tgt := 2501) hx hb dL_law_2353 (by decide) ?_
  exact lw_end (z := z) kk (by omega) (by omega) ht.2.2 hP hD hS hl (fun _ h => List.mem_cons_of_mem _ (List.mem_cons_of_mem _ (h)))

set_option maxHeartbeats 4000000 in
set_option maxRecDepth 100000 in
theorem lwc_2356 (hflg : l.stackTraces = false) (C : LC p s m c cL_law b L xs A g) (hi : i + 5 < L) (hI : Inv σ τ) (hP : va_P (g.1, g.2.1) vwCl (LW g aM ao ad (σ, ov, dv) τ) H) (hD : va_D A (LW g aM ao ad (σ, ov, dv) τ)) (hS : va_S A s.heap H locs) (hl : lv_has ls 9 (LV b g aM ao ad i)) (hc : cells + 3 ≤ room_1.cells) (hsl : slots + 18 ≤ room_1.slots) (kk : LK p l e s m below meth c cells slots Q A b i ao ad g aM) : W p l e room_1 s m #[Value.ref b] below meth c H locs cells slots Q (F0 m 2356 ls []) := by
  have C0 := C
  obtain ⟨hx, hb, hml, hown, hts, hK, hZ, hX, hbl, hbA, hAA, hL⟩ := C0
  obtain ⟨x1, hx1, ex1⟩ := nI_ex (xs (i + 1))
  obtain ⟨x2, hx2, ex2⟩ := nI_ex (xs (i + 2))
  obtain ⟨x3, hx3, ex3⟩ := nI_ex (xs (i + 3))
  obtain ⟨x4, hx4, ex4⟩ := nI_ex (xs (i + 4))
  obtain ⟨x5, hx5, ex5⟩ := nI_ex (xs (i + 5))
  have hc : cells + 3 ≤ 603072 := hc
  have hsl : slots + 18 ≤ 7170154 := hsl
  refine lv_aload_n hx hb dL_law_2356 rfl (lv_at hl 1 rfl) ?_
  refine lv_aload hx hb dL_law_2357 (lv_at hl 4 rfl) ?_
  refine jI_calli (wf := wH g ao ad (wM (gMo g aM) τ ++ [])) (vx_runSW (As := [.ref (g.2.2.2 0), .ref ad]) (rest := []) ⟨hx, hb, hml, hown, hts⟩ (h_averageMinimum l hflg g (wM (gMo g aM) τ ++ []) H.size σ ao ad ov dv  hI.okA) (vx_cwSW 2 hts gL_law_L_averageMinimum rfl rfl rfl (by decide +kernel) ⟨Nat.le_of_ble_eq_true rfl, Nat.le_of_ble_eq_true rfl⟩) (okHS hK (lw_P3 hP) (lw_D3 hD) hZ hS hAA) rfl rfl hl.1 rfl (lv_room (Nat.le_of_ble_eq_true rfl)) dL_law_2359 ⟨by show cells + 1 ≤ 603072; omega, by show slots + 6 ≤ 7170154; omega⟩) (lw_D3 hD) hS hAA (fun r z H locs hr hP hD hS => ?_)
  have hP := lw_P4 hP
  have hD := lw_D4 hD
  refine lv_istore (lv' := ((6, .int r) :: LV b g aM ao ad i)) hx hb dL_law_2362 hl (by decide) rfl (fun ls hl => ?_)
  refine lv_aload_n hx hb dL_law_2364 rfl (lv_at hl 3 rfl) ?_
  refine jn_callf (va_runV (As := []) (rest := []) ⟨hx, hb, hml, hown, hts⟩ (c_X11_averageMinimum l (gMo g aM) (wX g ao ad z ++ []) H.size τ  hI.okT hI.fin (fun k _ h => mnK_4 hI.okT h)) (cwV 0 hts gL_law_X11_averageMinimum rfl rfl rfl (by decide +kernel) ⟨Nat.le_of_ble_eq_true rfl, Nat.le_of_ble_eq_true rfl⟩) (okWV (g := gMo g aM) hK.1.1 (lw_P1 hP) (lw_D1 hD) rfl (gM0 (gMo g aM) τ (wX g ao ad z ++ []))) rfl rfl hl.1 rfl (lv_room (Nat.le_of_ble_eq_true rfl)) dL_law_2365 ⟨by show cells + 1 + 0 ≤ 603072; omega, by show slots + 6 + 0 ≤ 7170154; omega⟩) (lw_D1 hD) hS hAA (fun v2 u H locs hw hP hD hS => ?_)
  obtain ⟨r0, th, f7, f13⟩ := u
  obtain ⟨e0, hw⟩ := hw
  rw [e0]
  have hm : RM_averageMinimum τ  _ (sA (sA (sF τ 0 th) 7 f7) 13 f13) := ⟨r0, th, f7, f13, rfl, hw.1, hw.2, rfl⟩
  have hP := lw_P2 (z := z) (τ := (sA (sA (sF τ 0 th) 7 f7) 13 f13)) hP
  have hD := lw_D2 (z := z) (τ := (sA (sA (sF τ 0 th) 7 f7) 13 f13)) hD
  have ht := tie_averageMinimum hI hr hm
  refine lv_fstore (lv' := ((7, .float (r0)) :: (6, .int r) :: LV b g aM ao ad i)) hx hb dL_law_2368 hl (by decide) rfl (fun ls hl => ?_)
  refine lw_thrown C gL_law_X11_thrown ⟨Nat.le_of_ble_eq_true rfl, Nat.le_of_ble_eq_true rfl⟩ ⟨by show cells + 1 + 0 ≤ 603072; omega, by show slots + 6 + 0 ≤ 7170154; omega⟩ hP hl (List.mem_of_getElem? (i := 4) rfl) (List.mem_of_getElem? (i := 1) rfl) ht.1 dL_law_2370 dL_law_2371 dL_law_2374 dL_law_2376 ?_ (Nat.le_of_ble_eq_true rfl)
  refine lw_cmpF C hP hl (List.mem_of_getElem? (i := 6) rfl) (List.mem_of_getElem? (i := 1) rfl) (List.mem_of_getElem? (i := 0) rfl) ht.2.1 dL_law_2381 dL_law_2383 dL_law_2386 dL_law_2388 dL_law_2389 dL_law_2390 dL_law_2392 dL_law_2393 dL_law_2394 ?_
  refine lv_goto (tgt := 2501) hx hb dL_law_2419 (by decide) ?_
  exact lw_end (z := z) kk (by omega) (by omega) ht.2.2 hP hD hS hl (fun _ h => List.mem_cons_of_mem _ (List.mem_cons_of_mem _ (h)))

set_option maxHeartbeats 4000000 in
set_option maxRecDepth 100000 in
theorem lwc_2422 (hflg : l.stackTraces = false) (C : LC p s m c cL_law b L xs A g) (hi : i + 5 < L) (hI : Inv σ τ) (hP : va_P (g.1, g.2.1) vwCl (LW g aM ao ad (σ, ov, dv) τ) H) (hD : va_D A (LW g aM ao ad (σ, ov, dv) τ)) (hS : va_S A s.heap H locs) (hl : lv_has ls 9 (LV b g aM ao ad i)) (hc : cells + 3 ≤ room_1.cells) (hsl : slots + 18 ≤ room_1.slots) (kk : LK p l e s m below meth c cells slots Q A b i ao ad g aM) : W p l e room_1 s m #[Value.ref b] below meth c H locs cells slots Q (F0 m 2422 ls []) := by
  have C0 := C
  obtain ⟨hx, hb, hml, hown, hts, hK, hZ, hX, hbl, hbA, hAA, hL⟩ := C0
  obtain ⟨x1, hx1, ex1⟩ := nI_ex (xs (i + 1))
  obtain ⟨x2, hx2, ex2⟩ := nI_ex (xs (i + 2))
  obtain ⟨x3, hx3, ex3⟩ := nI_ex (xs (i + 3))
  obtain ⟨x4, hx4, ex4⟩ := nI_ex (xs (i + 4))
  obtain ⟨x5, hx5, ex5⟩ := nI_ex (xs (i + 5))
  have hc : cells + 3 ≤ 603072 := hc
  have hsl : slots + 18 ≤ 7170154 := hsl
  refine lv_aload_n hx hb dL_law_2422 rfl (lv_at hl 1 rfl) ?_
  refine lv_aload_n hx hb dL_law_2423 rfl (lv_at hl 3 rfl) ?_
  refine jI_calli (wf := wH g ao ad (wM (gMo g aM) τ ++ [])) (vx_runSW (As := [.ref (g.2.2.2 0), .ref ao]) (rest := []) ⟨hx, hb, hml, hown, hts⟩ (h_undo l hflg g (wM (gMo g aM) τ ++ []) H.size σ ao ad ov dv  hI.okM (undo_r hI)) (vx_cwSW 2 hts gL_law_L_undo rfl rfl rfl (by decide +kernel) ⟨Nat.le_of_ble_eq_true rfl, Nat.le_of_ble_eq_true rfl⟩) (okHS hK (lw_P3 hP) (lw_D3 hD) hZ hS hAA) rfl rfl hl.1 rfl (lv_room (Nat.le_of_ble_eq_true rfl)) dL_law_2424 ⟨by show cells + 1 ≤ 603072; omega, by show slots + 6 ≤ 7170154; omega⟩) (lw_D3 hD) hS hAA (fun r z H locs hr hP hD hS => ?_)
  have hP := lw_P4 hP
  have hD := lw_D4 hD
  refine lv_istore (lv' := ((6, .int r) :: LV b g aM ao ad i)) hx hb dL_law_2427 hl (by decide) rfl (fun ls hl => ?_)
  refine lv_aload_n hx hb dL_law_2429 rfl (lv_at hl 3 rfl) ?_
  refine jn_calli (va_runV (As := []) (rest := []) ⟨hx, hb, hml, hown, hts⟩ (c_X11_undo l (gMo g aM) (wX g ao ad z ++ []) H.size τ  hI.mc8) (cwV 0 hts gL_law_X11_undo rfl rfl rfl (by decide +kernel) ⟨Nat.le_of_ble_eq_true rfl, Nat.le_of_ble_eq_true rfl⟩) (okWV (g := gMo g aM) hK.1.1 (lw_P1 hP) (lw_D1 hD) rfl (gM0 (gMo g aM) τ (wX g ao ad z ++ []))) rfl rfl hl.1 rfl (lv_room (Nat.le_of_ble_eq_true rfl)) dL_law_2430 ⟨by show cells + 1 + 0 ≤ 603072; omega, by show slots + 6 + 0 ≤ 7170154; omega⟩) (lw_D1 hD) hS hAA (fun v2 u H locs hw hP hD hS => ?_)
  obtain ⟨r0, th, ch, nw⟩ := u
  obtain ⟨rfl, hw⟩ := hw
  have hm : RM_undo τ  _ (sA (sF (sF τ 0 th) 1 ch) 0 nw) := ⟨r0, th, ch, nw, rfl, hw, rfl⟩
  have hP := lw_P2 (z := z) (τ := (sA (sF (sF τ 0 th) 1 ch) 0 nw)) hP
  have hD := lw_D2 (z := z) (τ := (sA (sF (sF τ 0 th) 1 ch) 0 nw)) hD
  have ht := tie_undo hI hr hm
  refine lv_istore (lv' := ((7, .int (nI (r0))) :: (6, .int r) :: LV b g aM ao ad i)) hx hb dL_law_2433 hl (by decide) rfl (fun ls hl => ?_)
  refine lw_thrown C gL_law_X11_thrown ⟨Nat.le_of_ble_eq_true rfl, Nat.le_of_ble_eq_true rfl⟩ ⟨by show cells + 1 + 0 ≤ 603072; omega, by show slots + 6 + 0 ≤ 7170154; omega⟩ hP hl (List.mem_of_getElem? (i := 4) rfl) (List.mem_of_getElem? (i := 1) rfl) ht.1 dL_law_2435 dL_law_2436 dL_law_2439 dL_law_2441 ?_ (Nat.le_of_ble_eq_true rfl)
  refine lw_cmpI C hP hl (List.mem_of_getElem? (i := 5) rfl) (List.mem_of_getElem? (i := 1) rfl) (List.mem_of_getElem? (i := 0) rfl) ht.2.1 dL_law_2446 dL_law_2448 dL_law_2451 dL_law_2452 dL_law_2453 dL_law_2454 dL_law_2456 dL_law_2457 dL_law_2458 ?_
  refine lv_goto (tgt := 2501) hx hb dL_law_2463 (by decide) ?_
  exact lw_end (z := z) kk (by omega) (by omega) ht.2.2 hP hD hS hl (fun _ h => List.mem_cons_of_mem _ (List.mem_cons_of_mem _ (h)))

set_option maxHeartbeats 4000000 in
set_option maxRecDepth 100000 in
theorem lwc_2466 (hflg : l.stackTraces = false) (C : LC p s m c cL_law b L xs A g) (hi : i + 5 < L) (hI : Inv σ τ) (hP : va_P (g.1, g.2.1) vwCl (LW g aM ao ad (σ, ov, dv) τ) H) (hD : va_D A (LW g aM ao ad (σ, ov, dv) τ)) (hS : va_S A s.heap H locs) (hl : lv_has ls 9 (LV b g aM ao ad i)) (hc : cells + 3 ≤ room_1.cells) (hsl : slots + 18 ≤ room_1.slots) (kk : LK p l e s m below meth c cells slots Q A b i ao ad g aM) : W p l e room_1 s m #[Value.ref b] below meth c H locs cells slots Q (F0 m 2466 ls []) := by
  have C0 := C
  obtain ⟨hx, hb, hml, hown, hts, hK, hZ, hX, hbl, hbA, hAA, hL⟩ := C0
  obtain ⟨x1, hx1, ex1⟩ := nI_ex (xs (i + 1))
  obtain ⟨x2, hx2, ex2⟩ := nI_ex (xs (i + 2))
  obtain ⟨x3, hx3, ex3⟩ := nI_ex (xs (i + 3))
  obtain ⟨x4, hx4, ex4⟩ := nI_ex (xs (i + 4))
  obtain ⟨x5, hx5, ex5⟩ := nI_ex (xs (i + 5))
  have hc : cells + 3 ≤ 603072 := hc
  have hsl : slots + 18 ≤ 7170154 := hsl
  refine lv_aload_n hx hb dL_law_2466 rfl (lv_at hl 1 rfl) ?_
  refine jn_callv (va_runV (As := []) (rest := []) ⟨hx, hb, hml, hown, hts⟩ (c_X10_save l g (wT g ao ad ov dv (wM (gMo g aM) τ ++ [])) H.size σ ) (cwV 0 hts gL_law_X10_save rfl rfl rfl (by decide +kernel) ⟨Nat.le_of_ble_eq_true rfl, Nat.le_of_ble_eq_true rfl⟩) (okWV hK.1.1 (lw_P3 hP) (lw_D3 hD) rfl (gC0 g σ (wT g ao ad ov dv (wM (gMo g aM) τ ++ [])))) rfl rfl hl.1 rfl (lv_room (Nat.le_of_ble_eq_true rfl)) dL_law_2467 ⟨by show cells + 0 ≤ 603072; omega, by show slots + 0 ≤ 7170154; omega⟩) (lw_D3 hD) hS hAA (fun u H locs hw hP hD hS => ?_)
  have hr : RC_save σ (sF (sL σ 10 (snp σ (σ.2.2 10))) 11 1) := rfl
  have hP := lw_P4 (z := ((sF (sL σ 10 (snp σ (σ.2.2 10))) 11 1), ov, dv)) hP
  have hD := lw_D4 (z := ((sF (sL σ 10 (snp σ (σ.2.2 10))) 11 1), ov, dv)) hD
  refine lv_aload_n hx hb dL_law_2470 rfl (lv_at hl 2 rfl) ?_
  refine jn_callv (va_runV (As := []) (rest := []) ⟨hx, hb, hml, hown, hts⟩ (c_X11_save l (gMo g aM) (wX g ao ad ((sF (sL σ 10 (snp σ (σ.2.2 10))) 11 1), ov, dv) ++ []) H.size τ  ) (cwV 0 hts gL_law_X11_save rfl rfl rfl (by decide +kernel) ⟨Nat.le_of_ble_eq_true rfl, Nat.le_of_ble_eq_true rfl⟩) (okWV (g := gMo g aM) hK.1.1 (lw_P1 hP) (lw_D1 hD) rfl (gM0 (gMo g aM) τ (wX g ao ad ((sF (sL σ 10 (snp σ (σ.2.2 10))) 11 1), ov, dv) ++ []))) rfl rfl hl.1 rfl (lv_room (Nat.le_of_ble_eq_true rfl)) dL_law_2471 ⟨by show cells + 0 ≤ 603072; omega, by show slots + 0 ≤ 7170154; omega⟩) (lw_D1 hD) hS hAA (fun u H locs hw hP hD hS => ?_)
  obtain ⟨v, sv⟩ := u
  have hm : RM_save τ  (sA (sF τ 2 v) 1 sv) := ⟨v, sv, hw.1, hw.2, rfl⟩
  have hP := lw_P2 (z := ((sF (sL σ 10 (snp σ (σ.2.2 10))) 11 1), ov, dv)) (τ := (sA (sF τ 2 v) 1 sv)) hP
  have hD := lw_D2 (z := ((sF (sL σ 10 (snp σ (σ.2.2 10))) 11 1), ov, dv)) (τ := (sA (sF τ 2 v) 1 sv)) hD
  have ht := tie_save hI hr hm
  refine lv_goto (tgt := 2501) hx hb dL_law_2474 (by decide) ?_
  exact lw_end (z := ((sF (sL σ 10 (snp σ (σ.2.2 10))) 11 1), ov, dv)) kk (by omega) (by omega) ht hP hD hS hl (fun _ h => h)

set_option maxHeartbeats 4000000 in
set_option maxRecDepth 100000 in
theorem lwc_2477 (hflg : l.stackTraces = false) (C : LC p s m c cL_law b L xs A g) (hi : i + 5 < L) (hI : Inv σ τ) (hP : va_P (g.1, g.2.1) vwCl (LW g aM ao ad (σ, ov, dv) τ) H) (hD : va_D A (LW g aM ao ad (σ, ov, dv) τ)) (hS : va_S A s.heap H locs) (hl : lv_has ls 9 (LV b g aM ao ad i)) (hc : cells + 3 ≤ room_1.cells) (hsl : slots + 18 ≤ room_1.slots) (kk : LK p l e s m below meth c cells slots Q A b i ao ad g aM) : W p l e room_1 s m #[Value.ref b] below meth c H locs cells slots Q (F0 m 2477 ls []) := by
  have C0 := C
  obtain ⟨hx, hb, hml, hown, hts, hK, hZ, hX, hbl, hbA, hAA, hL⟩ := C0
  obtain ⟨x1, hx1, ex1⟩ := nI_ex (xs (i + 1))
  obtain ⟨x2, hx2, ex2⟩ := nI_ex (xs (i + 2))
  obtain ⟨x3, hx3, ex3⟩ := nI_ex (xs (i + 3))
  obtain ⟨x4, hx4, ex4⟩ := nI_ex (xs (i + 4))
  obtain ⟨x5, hx5, ex5⟩ := nI_ex (xs (i + 5))
  have hc : cells + 3 ≤ 603072 := hc
  have hsl : slots + 18 ≤ 7170154 := hsl
  refine lv_aload_n hx hb dL_law_2477 rfl (lv_at hl 1 rfl) ?_
  refine jI_calli (wf := wH g ao ad (wM (gMo g aM) τ ++ [])) (vx_runSW (As := [.ref (g.2.2.2 0)]) (rest := []) ⟨hx, hb, hml, hown, hts⟩ (h_restore l hflg g (wM (gMo g aM) τ ++ []) H.size σ ao ad ov dv  hI.okM (restore_r hI)) (vx_cwSW 1 hts gL_law_L_restore rfl rfl rfl (by decide +kernel) ⟨Nat.le_of_ble_eq_true rfl, Nat.le_of_ble_eq_true rfl⟩) (okHS hK (lw_P3 hP) (lw_D3 hD) hZ hS hAA) rfl rfl hl.1 rfl (lv_room (Nat.le_of_ble_eq_true rfl)) dL_law_2478 ⟨by show cells + 1 ≤ 603072; omega, by show slots + 6 ≤ 7170154; omega⟩) (lw_D3 hD) hS hAA (fun r z H locs hr hP hD hS => ?_)
  have hP := lw_P4 hP
  have hD := lw_D4 hD
  refine lv_istore (lv' := ((6, .int r) :: LV b g aM ao ad i)) hx hb dL_law_2481 hl (by decide) rfl (fun ls hl => ?_)
  refine lv_aload_n hx hb dL_law_2483 rfl (lv_at hl 3 rfl) ?_
  refine jn_callv (va_runV (As := []) (rest := []) ⟨hx, hb, hml, hown, hts⟩ (c_X11_restore l (gMo g aM) (wX g ao ad z ++ []) H.size τ  hI.mc8 hI.msv) (cwV 0 hts gL_law_X11_restore rfl rfl rfl (by decide +kernel) ⟨Nat.le_of_ble_eq_true rfl, Nat.le_of_ble_eq_true rfl⟩) (okWV (g := gMo g aM) hK.1.1 (lw_P1 hP) (lw_D1 hD) rfl (gM0 (gMo g aM) τ (wX g ao ad z ++ []))) rfl rfl hl.1 rfl (lv_room (Nat.le_of_ble_eq_true rfl)) dL_law_2484 ⟨by show cells + 1 + 0 ≤ 603072; omega, by show slots + 6 + 0 ≤ 7170154; omega⟩) (lw_D1 hD) hS hAA (fun u H locs hw hP hD hS => ?_)
  obtain ⟨th, ch, nw, kp⟩ := u
  have hm : RM_restore τ  (sA (sA (sF (sF τ 0 th) 1 ch) 0 nw) 2 kp) := ⟨th, ch, nw, kp, hw, rfl⟩
  have hP := lw_P2 (z := z) (τ := (sA (sA (sF (sF τ 0 th) 1 ch) 0 nw) 2 kp)) hP
  have hD := lw_D2 (z := z) (τ := (sA (sA (sF (sF τ 0 th) 1 ch) 0 nw) 2 kp)) hD
  have ht := tie_restore hI hr hm
  refine lw_thrown C gL_law_X11_thrown ⟨Nat.le_of_ble_eq_true rfl, Nat.le_of_ble_eq_true rfl⟩ ⟨by show cells + 1 + 0 ≤ 603072; omega, by show slots + 6 + 0 ≤ 7170154; omega⟩ hP hl (List.mem_of_getElem? (i := 3) rfl) (List.mem_of_getElem? (i := 0) rfl) ht.1 dL_law_2487 dL_law_2488 dL_law_2491 dL_law_2493 ?_ (Nat.le_of_ble_eq_true rfl)
  refine lv_goto (tgt := 2501) hx hb dL_law_2498 (by decide) ?_
  exact lw_end (z := z) kk (by omega) (by omega) ht.2 hP hD hS hl (fun _ h => List.mem_cons_of_mem _ (h))

end LWC
