section LWC
variable {p : Program} {l : Launch} {e : Env} {s : State} {m : MethodId} {below : List Frame} {meth : Method} {c : Code} {H : Heap} {locs : List Loc} {cells slots : Nat} {Q : State → Prop} {ls : Array Slot} {A : Nat → Prop} {b L i ao ad : Nat} {xs : Nat → Int32} {g : GC} {aM : Nat → Nat} {σ τ : SS} {ov : Nat → Int64} {dv : Nat → UInt64}

set_option maxHeartbeats 4000000 in
set_option maxRecDepth 100000 in
theorem lwc_240 (hflg : l.stackTraces = false) (C : LC p s m c cL_law b L xs A g) (hi : i + 5 < L) (hI : Inv σ τ) (hP : va_P (g.1, g.2.1) vwCl (LW g aM ao ad (σ, ov, dv) τ) H) (hD : va_D A (LW g aM ao ad (σ, ov, dv) τ)) (hS : va_S A s.heap H locs) (hl : lv_has ls 9 (LV b g aM ao ad i)) (hc : cells + 3 ≤ room_1.cells) (hsl : slots + 18 ≤ room_1.slots) (kk : LK p l e s m below meth c cells slots Q A b i ao ad g aM) : W p l e room_1 s m #[Value.ref b] below meth c H locs cells slots Q (F0 m 240 ls []) := by
  have C0 := C
  obtain ⟨hx, hb, hml, hown, hts, hK, hZ, hX, hbl, hbA, hAA, hL⟩ := C0
  obtain ⟨x1, hx1, ex1⟩ := nI_ex (xs (i + 1))
  obtain ⟨x2, hx2, ex2⟩ := nI_ex (xs (i + 2))
  obtain ⟨x3, hx3, ex3⟩ := nI_ex (xs (i + 3))
  obtain ⟨x4, hx4, ex4⟩ := nI_ex (xs (i + 4))
  obtain ⟨x5, hx5, ex5⟩ := nI_ex (xs (i + 5))
  have hc : cells + 3 ≤ 603072 := hc
  have hsl : slots + 18 ≤ 7170154 := hsl
  refine lv_aload_n hx hb dL_law_240 rfl (lv_at hl 1 rfl) ?_
  refine lw_arg C hS hl (List.mem_of_getElem? (i := 0) rfl) (List.mem_of_getElem? (i := 5) rfl) (k := 1) (by decide) (by omega) ex1 dL_law_241 dL_law_242 dL_law_244 dL_law_245 dL_law_246 ?_
  refine lv_aload_n hx hb dL_law_247 rfl (lv_at hl 3 rfl) ?_
  refine jI_calli (wf := wH g ao ad (wM (gMo g aM) τ ++ [])) (vx_runSW (As := [.ref (g.2.2.2 0), .int (nI x1), .ref ao]) (rest := []) ⟨hx, hb, hml, hown, hts⟩ (h_appendCharacter l hflg g (wM (gMo g aM) τ ++ []) H.size σ ao ad ov dv x1 hI.okX hx1) (vx_cwSW 3 hts gL_law_L_appendCharacter rfl rfl rfl (by decide +kernel) ⟨Nat.le_of_ble_eq_true rfl, Nat.le_of_ble_eq_true rfl⟩) (okHS hK (lw_P3 hP) (lw_D3 hD) hZ hS hAA) rfl rfl hl.1 rfl (lv_room (Nat.le_of_ble_eq_true rfl)) dL_law_248 ⟨by show cells + 1 ≤ 603072; omega, by show slots + 6 ≤ 7170154; omega⟩) (lw_D3 hD) hS hAA (fun r z H locs hr hP hD hS => ?_)
  have hP := lw_P4 hP
  have hD := lw_D4 hD
  refine lv_istore (lv' := ((6, .int r) :: LV b g aM ao ad i)) hx hb dL_law_251 hl (by decide) rfl (fun ls hl => ?_)
  refine lv_aload_n hx hb dL_law_253 rfl (lv_at hl 3 rfl) ?_
  refine lw_arg C hS hl (List.mem_of_getElem? (i := 1) rfl) (List.mem_of_getElem? (i := 6) rfl) (k := 1) (by decide) (by omega) ex1 dL_law_254 dL_law_255 dL_law_257 dL_law_258 dL_law_259 ?_
  refine jn_calli (va_runV (As := [.int (nI x1)]) (rest := []) ⟨hx, hb, hml, hown, hts⟩ (c_X11_appendCharacter l (gMo g aM) (wX g ao ad z ++ []) H.size τ x1 hI.mtx hx1) (cwV 1 hts gL_law_X11_appendCharacter rfl rfl rfl (by decide +kernel) ⟨Nat.le_of_ble_eq_true rfl, Nat.le_of_ble_eq_true rfl⟩) (okWV (g := gMo g aM) hK.1.1 (lw_P1 hP) (lw_D1 hD) rfl (gM0 (gMo g aM) τ (wX g ao ad z ++ []))) rfl rfl hl.1 rfl (lv_room (Nat.le_of_ble_eq_true rfl)) dL_law_260 ⟨by show cells + 1 + 0 ≤ 603072; omega, by show slots + 6 + 0 ≤ 7170154; omega⟩) (lw_D1 hD) hS hAA (fun v2 u H locs hw hP hD hS => ?_)
  obtain ⟨r0, th, n, f⟩ := u
  obtain ⟨rfl, hw⟩ := hw
  have hm : RM_appendCharacter τ x1 _ (sA (sF (sF τ 0 th) 3 n) 3 f) := ⟨r0, th, n, f, rfl, hw, rfl⟩
  have hP := lw_P2 (z := z) (τ := (sA (sF (sF τ 0 th) 3 n) 3 f)) hP
  have hD := lw_D2 (z := z) (τ := (sA (sF (sF τ 0 th) 3 n) 3 f)) hD
  have ht := tie_appendCharacter hI hr hm
  refine lv_istore (lv' := ((7, .int (nI (r0))) :: (6, .int r) :: LV b g aM ao ad i)) hx hb dL_law_263 hl (by decide) rfl (fun ls hl => ?_)
  refine lw_thrown C gL_law_X11_thrown ⟨Nat.le_of_ble_eq_true rfl, Nat.le_of_ble_eq_true rfl⟩ ⟨by show cells + 1 + 0 ≤ 603072; omega, by show slots + 6 + 0 ≤ 7170154; omega⟩ hP hl (List.mem_of_getElem? (i := 4) rfl) (List.mem_of_getElem? (i := 1) rfl) ht.1 dL_law_265 dL_law_266 dL_law_269 dL_law_271 ?_ (Nat.le_of_ble_eq_true rfl)
  refine lw_cmpI C hP hl (List.mem_of_getElem? (i := 5) rfl) (List.mem_of_getElem? (i := 1) rfl) (List.mem_of_getElem? (i := 0) rfl) ht.2.1 dL_law_276 dL_law_278 dL_law_281 dL_law_282 dL_law_283 dL_law_284 dL_law_286 dL_law_287 dL_law_288 ?_
  refine lv_goto (tgt := 2501) hx hb dL_law_293 (by decide) ?_
  exact lw_end (z := z) kk (by omega) (by omega) ht.2.2 hP hD hS hl (fun _ h => List.mem_cons_of_mem _ (List.mem_cons_of_mem _ (h)))

set_option maxHeartbeats 4000000 in
set_option maxRecDepth 100000 in
theorem lwc_296 (hflg : l.stackTraces = false) (C : LC p s m c cL_law b L xs A g) (hi : i + 5 < L) (hI : Inv σ τ) (hP : va_P (g.1, g.2.1) vwCl (LW g aM ao ad (σ, ov, dv) τ) H) (hD : va_D A (LW g aM ao ad (σ, ov, dv) τ)) (hS : va_S A s.heap H locs) (hl : lv_has ls 9 (LV b g aM ao ad i)) (hc : cells + 3 ≤ room_1.cells) (hsl : slots + 18 ≤ room_1.slots) (kk : LK p l e s m below meth c cells slots Q A b i ao ad g aM) : W p l e room_1 s m #[Value.ref b] below meth c H locs cells slots Q (F0 m 296 ls []) := by
  have C0 := C
  obtain ⟨hx, hb, hml, hown, hts, hK, hZ, hX, hbl, hbA, hAA, hL⟩ := C0
  obtain ⟨x1, hx1, ex1⟩ := nI_ex (xs (i + 1))
  obtain ⟨x2, hx2, ex2⟩ := nI_ex (xs (i + 2))
  obtain ⟨x3, hx3, ex3⟩ := nI_ex (xs (i + 3))
  obtain ⟨x4, hx4, ex4⟩ := nI_ex (xs (i + 4))
  obtain ⟨x5, hx5, ex5⟩ := nI_ex (xs (i + 5))
  have hc : cells + 3 ≤ 603072 := hc
  have hsl : slots + 18 ≤ 7170154 := hsl
  refine lv_aload_n hx hb dL_law_296 rfl (lv_at hl 1 rfl) ?_
  refine vp_callSi (va_Run.run (va_runV (As := []) (rest := []) ⟨hx, hb, hml, hown, hts⟩ (c_X10_faultPosition l g (wT g ao ad ov dv (wM (gMo g aM) τ ++ [])) σ) (cwV 0 hts gL_law_X10_faultPosition rfl rfl rfl (by decide +kernel) ⟨Nat.le_of_ble_eq_true rfl, Nat.le_of_ble_eq_true rfl⟩) (okPV hK.1.1 (lw_P3 hP) rfl (gC0 g σ (wT g ao ad ov dv (wM (gMo g aM) τ ++ [])))) rfl rfl hl.1 rfl (lv_room (Nat.le_of_ble_eq_true rfl)) dL_law_297 ⟨by show cells + 0 ≤ 603072; omega, by show slots + 0 ≤ 7170154; omega⟩)) (fun r1 h_1 => ?_)
  subst h_1
  refine lv_aload_n hx hb dL_law_300 rfl (lv_at hl 2 rfl) ?_
  refine vp_callSi (va_Run.run (va_runV (As := []) (rest := [.int (nI (σ.1 2))]) ⟨hx, hb, hml, hown, hts⟩ (c_X11_faultPosition l (gMo g aM) (wX g ao ad (σ, ov, dv) ++ []) τ) (cwV 0 hts gL_law_X11_faultPosition rfl rfl rfl (by decide +kernel) ⟨Nat.le_of_ble_eq_true rfl, Nat.le_of_ble_eq_true rfl⟩) (okPV (g := gMo g aM) hK.1.1 (lw_P1 hP) rfl (gM0 (gMo g aM) τ (wX g ao ad (σ, ov, dv) ++ []))) rfl rfl hl.1 rfl (lv_room (Nat.le_of_ble_eq_true rfl)) dL_law_301 ⟨by show cells + 0 ≤ 603072; omega, by show slots + 0 ≤ 7170154; omega⟩)) (fun r2 h_2 => ?_)
  subst h_2
  refine lv_icmp_eq (tgt := 2501) hx hb dL_law_304 (by decide) (fun _ => ?_) (fun q => absurd (by rw [hI.tx.2.2.2.2.1]) q)
  exact lw_end kk (by omega) (by omega) hI.1 hP hD hS hl (fun _ h => h)

set_option maxHeartbeats 4000000 in
set_option maxRecDepth 100000 in
theorem lwc_309 (hflg : l.stackTraces = false) (C : LC p s m c cL_law b L xs A g) (hi : i + 5 < L) (hI : Inv σ τ) (hP : va_P (g.1, g.2.1) vwCl (LW g aM ao ad (σ, ov, dv) τ) H) (hD : va_D A (LW g aM ao ad (σ, ov, dv) τ)) (hS : va_S A s.heap H locs) (hl : lv_has ls 9 (LV b g aM ao ad i)) (hc : cells + 3 ≤ room_1.cells) (hsl : slots + 18 ≤ room_1.slots) (kk : LK p l e s m below meth c cells slots Q A b i ao ad g aM) : W p l e room_1 s m #[Value.ref b] below meth c H locs cells slots Q (F0 m 309 ls []) := by
  have C0 := C
  obtain ⟨hx, hb, hml, hown, hts, hK, hZ, hX, hbl, hbA, hAA, hL⟩ := C0
  obtain ⟨x1, hx1, ex1⟩ := nI_ex (xs (i + 1))
  obtain ⟨x2, hx2, ex2⟩ := nI_ex (xs (i + 2))
  obtain ⟨x3, hx3, ex3⟩ := nI_ex (xs (i + 3))
  obtain ⟨x4, hx4, ex4⟩ := nI_ex (xs (i + 4))
  obtain ⟨x5, hx5, ex5⟩ := nI_ex (xs (i + 5))
  have hc : cells + 3 ≤ 603072 := hc
  have hsl : slots + 18 ≤ 7170154 := hsl
  refine lv_aload_n hx hb dL_law_309 rfl (lv_at hl 1 rfl) ?_
  refine lv_aload_n hx hb dL_law_310 rfl (lv_at hl 3 rfl) ?_
  refine jI_calli (wf := wH g ao ad (wM (gMo g aM) τ ++ [])) (vx_runSW (As := [.ref (g.2.2.2 0), .ref ao]) (rest := []) ⟨hx, hb, hml, hown, hts⟩ (h_addText l hflg g (wM (gMo g aM) τ ++ []) H.size σ ao ad ov dv  hI.okX hI.okA hI.okM) (vx_cwSW 2 hts gL_law_L_addText rfl rfl rfl (by decide +kernel) ⟨Nat.le_of_ble_eq_true rfl, Nat.le_of_ble_eq_true rfl⟩) (okHS hK (lw_P3 hP) (lw_D3 hD) hZ hS hAA) rfl rfl hl.1 rfl (lv_room (Nat.le_of_ble_eq_true rfl)) dL_law_311 ⟨by show cells + 1 ≤ 603072; omega, by show slots + 6 ≤ 7170154; omega⟩) (lw_D3 hD) hS hAA (fun r z H locs hr hP hD hS => ?_)
  have hP := lw_P4 hP
  have hD := lw_D4 hD
  refine lv_istore (lv' := ((6, .int r) :: LV b g aM ao ad i)) hx hb dL_law_314 hl (by decide) rfl (fun ls hl => ?_)
  refine lv_aload_n hx hb dL_law_316 rfl (lv_at hl 3 rfl) ?_
  refine jn_calli (va_runV (As := []) (rest := []) ⟨hx, hb, hml, hown, hts⟩ (c_X11_addText l (gMo g aM) (wX g ao ad z ++ []) H.size τ  hI.mtx hI.mtc hI.okT hI.fin hI.mc8) (cwV 0 hts gL_law_X11_addText rfl rfl rfl (by decide +kernel) ⟨Nat.le_of_ble_eq_true rfl, Nat.le_of_ble_eq_true rfl⟩) (okWV (g := gMo g aM) hK.1.1 (lw_P1 hP) (lw_D1 hD) rfl (gM0 (gMo g aM) τ (wX g ao ad z ++ []))) rfl rfl hl.1 rfl (lv_room (Nat.le_of_ble_eq_true rfl)) dL_law_317 ⟨by show cells + 1 + 0 ≤ 603072; omega, by show slots + 6 + 0 ≤ 7170154; omega⟩) (lw_D1 hD) hS hAA (fun v2 u H locs hw hP hD hS => ?_)
  obtain ⟨r0, th, ch, n2, at2, fl2, nw, kp, f4⟩ := u
  obtain ⟨rfl, hw⟩ := hw
  have hm : RM_addText τ  _ (sA (sA (sA (sF (sF (sF (sF (sF τ 0 th) 1 ch) 3 n2) 4 at2) 5 fl2) 0 nw) 2 kp) 4 f4) := ⟨r0, th, ch, n2, at2, fl2, nw, kp, f4, rfl, hw.1, hw.2.1, hw.2.2, rfl⟩
  have hP := lw_P2 (z := z) (τ := (sA (sA (sA (sF (sF (sF (sF (sF τ 0 th) 1 ch) 3 n2) 4 at2) 5 fl2) 0 nw) 2 kp) 4 f4)) hP
  have hD := lw_D2 (z := z) (τ := (sA (sA (sA (sF (sF (sF (sF (sF τ 0 th) 1 ch) 3 n2) 4 at2) 5 fl2) 0 nw) 2 kp) 4 f4)) hD
  have ht := tie_addText hI hr hm
  refine lv_istore (lv' := ((7, .int (nI (r0))) :: (6, .int r) :: LV b g aM ao ad i)) hx hb dL_law_320 hl (by decide) rfl (fun ls hl => ?_)
  refine lw_thrown C gL_law_X11_thrown ⟨Nat.le_of_ble_eq_true rfl, Nat.le_of_ble_eq_true rfl⟩ ⟨by show cells + 1 + 0 ≤ 603072; omega, by show slots + 6 + 0 ≤ 7170154; omega⟩ hP hl (List.mem_of_getElem? (i := 4) rfl) (List.mem_of_getElem? (i := 1) rfl) ht.1 dL_law_322 dL_law_323 dL_law_326 dL_law_328 ?_ (Nat.le_of_ble_eq_true rfl)
  refine lw_cmpI C hP hl (List.mem_of_getElem? (i := 5) rfl) (List.mem_of_getElem? (i := 1) rfl) (List.mem_of_getElem? (i := 0) rfl) ht.2.1 dL_law_333 dL_law_335 dL_law_338 dL_law_339 dL_law_340 dL_law_341 dL_law_343 dL_law_344 dL_law_345 ?_
  refine lv_goto (tgt := 2501) hx hb dL_law_350 (by decide) ?_
  exact lw_end (z := z) kk (by omega) (by omega) ht.2.2 hP hD hS hl (fun _ h => List.mem_cons_of_mem _ (List.mem_cons_of_mem _ (h)))

set_option maxHeartbeats 4000000 in
set_option maxRecDepth 100000 in
theorem lwc_353 (hflg : l.stackTraces = false) (C : LC p s m c cL_law b L xs A g) (hi : i + 5 < L) (hI : Inv σ τ) (hP : va_P (g.1, g.2.1) vwCl (LW g aM ao ad (σ, ov, dv) τ) H) (hD : va_D A (LW g aM ao ad (σ, ov, dv) τ)) (hS : va_S A s.heap H locs) (hl : lv_has ls 9 (LV b g aM ao ad i)) (hc : cells + 3 ≤ room_1.cells) (hsl : slots + 18 ≤ room_1.slots) (kk : LK p l e s m below meth c cells slots Q A b i ao ad g aM) : W p l e room_1 s m #[Value.ref b] below meth c H locs cells slots Q (F0 m 353 ls []) := by
  have C0 := C
  obtain ⟨hx, hb, hml, hown, hts, hK, hZ, hX, hbl, hbA, hAA, hL⟩ := C0
  obtain ⟨x1, hx1, ex1⟩ := nI_ex (xs (i + 1))
  obtain ⟨x2, hx2, ex2⟩ := nI_ex (xs (i + 2))
  obtain ⟨x3, hx3, ex3⟩ := nI_ex (xs (i + 3))
  obtain ⟨x4, hx4, ex4⟩ := nI_ex (xs (i + 4))
  obtain ⟨x5, hx5, ex5⟩ := nI_ex (xs (i + 5))
  have hc : cells + 3 ≤ 603072 := hc
  have hsl : slots + 18 ≤ 7170154 := hsl
  refine lv_aload_n hx hb dL_law_353 rfl (lv_at hl 1 rfl) ?_
  refine lw_arg C hS hl (List.mem_of_getElem? (i := 0) rfl) (List.mem_of_getElem? (i := 5) rfl) (k := 1) (by decide) (by omega) ex1 dL_law_354 dL_law_355 dL_law_357 dL_law_358 dL_law_359 ?_
  refine lw_arg C hS hl (List.mem_of_getElem? (i := 0) rfl) (List.mem_of_getElem? (i := 5) rfl) (k := 2) (by decide) (by omega) ex2 dL_law_360 dL_law_361 dL_law_363 dL_law_364 dL_law_365 ?_
  refine lw_arg C hS hl (List.mem_of_getElem? (i := 0) rfl) (List.mem_of_getElem? (i := 5) rfl) (k := 3) (by decide) (by omega) ex3 dL_law_366 dL_law_367 dL_law_369 dL_law_370 dL_law_371 ?_
  refine lv_aload_n hx hb dL_law_372 rfl (lv_at hl 3 rfl) ?_
  refine jI_calli (wf := wH g ao ad (wM (gMo g aM) τ ++ [])) (vx_runSW (As := [.ref (g.2.2.2 0), .int (nI x1), .int (nI x2), .int (nI x3), .ref ao]) (rest := []) ⟨hx, hb, hml, hown, hts⟩ (h_addTransition l hflg g (wM (gMo g aM) τ ++ []) H.size σ ao ad ov dv x1 x2 x3 hI.okA hI.okM hx1 hx2 hx3) (vx_cwSW 5 hts gL_law_L_addTransition rfl rfl rfl (by decide +kernel) ⟨Nat.le_of_ble_eq_true rfl, Nat.le_of_ble_eq_true rfl⟩) (okHS hK (lw_P3 hP) (lw_D3 hD) hZ hS hAA) rfl rfl hl.1 rfl (lv_room (Nat.le_of_ble_eq_true rfl)) dL_law_373 ⟨by show cells + 2 ≤ 603072; omega, by show slots + 12 ≤ 7170154; omega⟩) (lw_D3 hD) hS hAA (fun r z H locs hr hP hD hS => ?_)
  have hP := lw_P4 hP
  have hD := lw_D4 hD
  refine lv_istore (lv' := ((6, .int r) :: LV b g aM ao ad i)) hx hb dL_law_376 hl (by decide) rfl (fun ls hl => ?_)
  refine lv_aload_n hx hb dL_law_378 rfl (lv_at hl 3 rfl) ?_
  refine lw_arg C hS hl (List.mem_of_getElem? (i := 1) rfl) (List.mem_of_getElem? (i := 6) rfl) (k := 1) (by decide) (by omega) ex1 dL_law_379 dL_law_380 dL_law_382 dL_law_383 dL_law_384 ?_
  refine lw_arg C hS hl (List.mem_of_getElem? (i := 1) rfl) (List.mem_of_getElem? (i := 6) rfl) (k := 2) (by decide) (by omega) ex2 dL_law_385 dL_law_386 dL_law_388 dL_law_389 dL_law_390 ?_
  refine lw_arg C hS hl (List.mem_of_getElem? (i := 1) rfl) (List.mem_of_getElem? (i := 6) rfl) (k := 3) (by decide) (by omega) ex3 dL_law_391 dL_law_392 dL_law_394 dL_law_395 dL_law_396 ?_
  refine jn_calli (va_runV (As := [.int (nI x1), .int (nI x2), .int (nI x3)]) (rest := []) ⟨hx, hb, hml, hown, hts⟩ (c_X11_addTransition l (gMo g aM) (wX g ao ad z ++ []) H.size τ x1 x2 x3 hI.okT hI.mc8 hx1 hx2 hx3) (cwV 3 hts gL_law_X11_addTransition rfl rfl rfl (by decide +kernel) ⟨Nat.le_of_ble_eq_true rfl, Nat.le_of_ble_eq_true rfl⟩) (okWV (g := gMo g aM) hK.1.1 (lw_P1 hP) (lw_D1 hD) rfl (gM0 (gMo g aM) τ (wX g ao ad z ++ []))) rfl rfl hl.1 rfl (lv_room (Nat.le_of_ble_eq_true rfl)) dL_law_397 ⟨by show cells + 2 + 0 ≤ 603072; omega, by show slots + 12 + 0 ≤ 7170154; omega⟩) (lw_D1 hD) hS hAA (fun v2 u H locs hw hP hD hS => ?_)
  obtain ⟨r0, th, ch, nw, kp⟩ := u
  obtain ⟨rfl, hw⟩ := hw
  have hm : RM_addTransition τ x1 x2 x3 _ (sA (sA (sF (sF τ 0 th) 1 ch) 0 nw) 2 kp) := ⟨r0, th, ch, nw, kp, rfl, hw, rfl⟩
  have hP := lw_P2 (z := z) (τ := (sA (sA (sF (sF τ 0 th) 1 ch) 0 nw) 2 kp)) hP
  have hD := lw_D2 (z := z) (τ := (sA (sA (sF (sF τ 0 th) 1 ch) 0 nw) 2 kp)) hD
  have ht := tie_addTransition hI hr hm
  refine lv_istore (lv' := ((7, .int (nI (r0))) :: (6, .int r) :: LV b g aM ao ad i)) hx hb dL_law_400 hl (by decide) rfl (fun ls hl => ?_)
  refine lw_thrown C gL_law_X11_thrown ⟨Nat.le_of_ble_eq_true rfl, Nat.le_of_ble_eq_true rfl⟩ ⟨by show cells + 2 + 0 ≤ 603072; omega, by show slots + 12 + 0 ≤ 7170154; omega⟩ hP hl (List.mem_of_getElem? (i := 4) rfl) (List.mem_of_getElem? (i := 1) rfl) ht.1 dL_law_402 dL_law_403 dL_law_406 dL_law_408 ?_ (Nat.le_of_ble_eq_true rfl)
  refine lw_cmpZ C hP hl (List.mem_of_getElem? (i := 5) rfl) (List.mem_of_getElem? (i := 1) rfl) (List.mem_of_getElem? (i := 0) rfl) ht.2.1 dL_law_413 dL_law_415 dL_law_418 dL_law_419 dL_law_420 dL_law_421 dL_law_423 dL_law_426 dL_law_427 dL_law_430 dL_law_431 dL_law_432 ?_
  refine lv_goto (tgt := 2501) hx hb dL_law_437 (by decide) ?_
  exact lw_end (z := z) kk (by omega) (by omega) ht.2.2 hP hD hS hl (fun _ h => List.mem_cons_of_mem _ (List.mem_cons_of_mem _ (h)))

set_option maxHeartbeats 4000000 in
set_option maxRecDepth 100000 in
theorem lwc_440 (hflg : l.stackTraces = false) (C : LC p s m c cL_law b L xs A g) (hi : i + 5 < L) (hI : Inv σ τ) (hP : va_P (g.1, g.2.1) vwCl (LW g aM ao ad (σ, ov, dv) τ) H) (hD : va_D A (LW g aM ao ad (σ, ov, dv) τ)) (hS : va_S A s.heap H locs) (hl : lv_has ls 9 (LV b g aM ao ad i)) (hc : cells + 3 ≤ room_1.cells) (hsl : slots + 18 ≤ room_1.slots) (kk : LK p l e s m below meth c cells slots Q A b i ao ad g aM) : W p l e room_1 s m #[Value.ref b] below meth c H locs cells slots Q (F0 m 440 ls []) := by
  have C0 := C
  obtain ⟨hx, hb, hml, hown, hts, hK, hZ, hX, hbl, hbA, hAA, hL⟩ := C0
  obtain ⟨x1, hx1, ex1⟩ := nI_ex (xs (i + 1))
  obtain ⟨x2, hx2, ex2⟩ := nI_ex (xs (i + 2))
  obtain ⟨x3, hx3, ex3⟩ := nI_ex (xs (i + 3))
  obtain ⟨x4, hx4, ex4⟩ := nI_ex (xs (i + 4))
  obtain ⟨x5, hx5, ex5⟩ := nI_ex (xs (i + 5))
  have hc : cells + 3 ≤ 603072 := hc
  have hsl : slots + 18 ≤ 7170154 := hsl
  refine lv_aload_n hx hb dL_law_440 rfl (lv_at hl 1 rfl) ?_
  refine lw_arg C hS hl (List.mem_of_getElem? (i := 0) rfl) (List.mem_of_getElem? (i := 5) rfl) (k := 1) (by decide) (by omega) ex1 dL_law_441 dL_law_442 dL_law_444 dL_law_445 dL_law_446 ?_
  refine lw_arg C hS hl (List.mem_of_getElem? (i := 0) rfl) (List.mem_of_getElem? (i := 5) rfl) (k := 2) (by decide) (by omega) ex2 dL_law_447 dL_law_448 dL_law_450 dL_law_451 dL_law_452 ?_
  refine lw_arg C hS hl (List.mem_of_getElem? (i := 0) rfl) (List.mem_of_getElem? (i := 5) rfl) (k := 3) (by decide) (by omega) ex3 dL_law_453 dL_law_454 dL_law_456 dL_law_457 dL_law_458 ?_
  refine jI_calli (wf := wH g ao ad (wM (gMo g aM) τ ++ [])) (vx_runSW (As := [.ref (g.2.2.2 0), .int (nI x1), .int (nI x2), .int (nI x3)]) (rest := []) ⟨hx, hb, hml, hown, hts⟩ (h_removeTransition l hflg g (wM (gMo g aM) τ ++ []) H.size σ ao ad ov dv x1 x2 x3 hI.okA hI.okM hx1 hx2 hx3) (vx_cwSW 4 hts gL_law_L_removeTransition rfl rfl rfl (by decide +kernel) ⟨Nat.le_of_ble_eq_true rfl, Nat.le_of_ble_eq_true rfl⟩) (okHS hK (lw_P3 hP) (lw_D3 hD) hZ hS hAA) rfl rfl hl.1 rfl (lv_room (Nat.le_of_ble_eq_true rfl)) dL_law_459 ⟨by show cells + 2 ≤ 603072; omega, by show slots + 12 ≤ 7170154; omega⟩) (lw_D3 hD) hS hAA (fun r z H locs hr hP hD hS => ?_)
  have hP := lw_P4 hP
  have hD := lw_D4 hD
  refine lv_istore (lv' := ((6, .int r) :: LV b g aM ao ad i)) hx hb dL_law_462 hl (by decide) rfl (fun ls hl => ?_)
  refine lv_aload_n hx hb dL_law_464 rfl (lv_at hl 3 rfl) ?_
  refine lw_arg C hS hl (List.mem_of_getElem? (i := 1) rfl) (List.mem_of_getElem? (i := 6) rfl) (k := 1) (by decide) (by omega) ex1 dL_law_465 dL_law_466 dL_law_468 dL_law_469 dL_law_470 ?_
  refine lw_arg C hS hl (List.mem_of_getElem? (i := 1) rfl) (List.mem_of_getElem? (i := 6) rfl) (k := 2) (by decide) (by omega) ex2 dL_law_471 dL_law_472 dL_law_474 dL_law_475 dL_law_476 ?_
  refine lw_arg C hS hl (List.mem_of_getElem? (i := 1) rfl) (List.mem_of_getElem? (i := 6) rfl) (k := 3) (by decide) (by omega) ex3 dL_law_477 dL_law_478 dL_law_480 dL_law_481 dL_law_482 ?_
  refine jn_callv (va_runV (As := [.int (nI x1), .int (nI x2), .int (nI x3)]) (rest := []) ⟨hx, hb, hml, hown, hts⟩ (c_X11_removeTransition l (gMo g aM) (wX g ao ad z ++ []) H.size τ x1 x2 x3 hI.okT hI.mc8 hx1 hx2 hx3) (cwV 3 hts gL_law_X11_removeTransition rfl rfl rfl (by decide +kernel) ⟨Nat.le_of_ble_eq_true rfl, Nat.le_of_ble_eq_true rfl⟩) (okWV (g := gMo g aM) hK.1.1 (lw_P1 hP) (lw_D1 hD) rfl (gM0 (gMo g aM) τ (wX g ao ad z ++ []))) rfl rfl hl.1 rfl (lv_room (Nat.le_of_ble_eq_true rfl)) dL_law_483 ⟨by show cells + 2 + 0 ≤ 603072; omega, by show slots + 12 + 0 ≤ 7170154; omega⟩) (lw_D1 hD) hS hAA (fun u H locs hw hP hD hS => ?_)
  obtain ⟨th, ch, nw, kp⟩ := u
  have hm : RM_removeTransition τ x1 x2 x3 (sA (sA (sF (sF τ 0 th) 1 ch) 0 nw) 2 kp) := ⟨th, ch, nw, kp, hw, rfl⟩
  have hP := lw_P2 (z := z) (τ := (sA (sA (sF (sF τ 0 th) 1 ch) 0 nw) 2 kp)) hP
  have hD := lw_D2 (z := z) (τ := (sA (sA (sF (sF τ 0 th) 1 ch) 0 nw) 2 kp)) hD
  have ht := tie_removeTransition hI hr hm
  refine lw_thrown C gL_law_X11_thrown ⟨Nat.le_of_ble_eq_true rfl, Nat.le_of_ble_eq_true rfl⟩ ⟨by show cells + 2 + 0 ≤ 603072; omega, by show slots + 12 + 0 ≤ 7170154; omega⟩ hP hl (List.mem_of_getElem? (i := 3) rfl) (List.mem_of_getElem? (i := 0) rfl) ht.1 dL_law_486 dL_law_487 dL_law_490 dL_law_492 ?_ (Nat.le_of_ble_eq_true rfl)
  refine lv_goto (tgt := 2501) hx hb dL_law_497 (by decide) ?_
  exact lw_end (z := z) kk (by omega) (by omega) ht.2 hP hD hS hl (fun _ h => List.mem_cons_of_mem _ (h))

set_option maxHeartbeats 4000000 in
set_option maxRecDepth 100000 in
theorem lwc_500 (hflg : l.stackTraces = false) (C : LC p s m c cL_law b L xs A g) (hi : i + 5 < L) (hI : Inv σ τ) (hP : va_P (g.1, g.2.1) vwCl (LW g aM ao ad (σ, ov, dv) τ) H) (hD : va_D A (LW g aM ao ad (σ, ov, dv) τ)) (hS : va_S A s.heap H locs) (hl : lv_has ls 9 (LV b g aM ao ad i)) (hc : cells + 3 ≤ room_1.cells) (hsl : slots + 18 ≤ room_1.slots) (kk : LK p l e s m below meth c cells slots Q A b i ao ad g aM) : W p l e room_1 s m #[Value.ref b] below meth c H locs cells slots Q (F0 m 500 ls []) := by
  have C0 := C
  obtain ⟨hx, hb, hml, hown, hts, hK, hZ, hX, hbl, hbA, hAA, hL⟩ := C0
  obtain ⟨x1, hx1, ex1⟩ := nI_ex (xs (i + 1))
  obtain ⟨x2, hx2, ex2⟩ := nI_ex (xs (i + 2))
  obtain ⟨x3, hx3, ex3⟩ := nI_ex (xs (i + 3))
  obtain ⟨x4, hx4, ex4⟩ := nI_ex (xs (i + 4))
  obtain ⟨x5, hx5, ex5⟩ := nI_ex (xs (i + 5))
  have hc : cells + 3 ≤ 603072 := hc
  have hsl : slots + 18 ≤ 7170154 := hsl
  refine lv_aload_n hx hb dL_law_500 rfl (lv_at hl 1 rfl) ?_
  refine lw_arg C hS hl (List.mem_of_getElem? (i := 0) rfl) (List.mem_of_getElem? (i := 5) rfl) (k := 1) (by decide) (by omega) ex1 dL_law_501 dL_law_502 dL_law_504 dL_law_505 dL_law_506 ?_
  refine lw_arg C hS hl (List.mem_of_getElem? (i := 0) rfl) (List.mem_of_getElem? (i := 5) rfl) (k := 2) (by decide) (by omega) ex2 dL_law_507 dL_law_508 dL_law_510 dL_law_511 dL_law_512 ?_
  refine lw_bool C dL_law_513 dL_law_516 dL_law_517 dL_law_520 hx2 ?_
  refine lv_aload_n hx hb dL_law_521 rfl (lv_at hl 3 rfl) ?_
  refine jI_calli (wf := wH g ao ad (wM (gMo g aM) τ ++ [])) (vx_runSW (As := [.ref (g.2.2.2 0), .int (nI x1), .int (nI (if x2 = 0 then 0 else 1)), .ref ao]) (rest := []) ⟨hx, hb, hml, hown, hts⟩ (h_setFinal l hflg g (wM (gMo g aM) τ ++ []) H.size σ ao ad ov dv x1 (if x2 = 0 then 0 else 1) hI.okA hI.okM hx1 (by split <;> decide)) (vx_cwSW 4 hts gL_law_L_setFinal rfl rfl rfl (by decide +kernel) ⟨Nat.le_of_ble_eq_true rfl, Nat.le_of_ble_eq_true rfl⟩) (okHS hK (lw_P3 hP) (lw_D3 hD) hZ hS hAA) rfl rfl hl.1 rfl (lv_room (Nat.le_of_ble_eq_true rfl)) dL_law_522 ⟨by show cells + 1 ≤ 603072; omega, by show slots + 6 ≤ 7170154; omega⟩) (lw_D3 hD) hS hAA (fun r z H locs hr hP hD hS => ?_)
  have hP := lw_P4 hP
  have hD := lw_D4 hD
  refine lv_istore (lv' := ((6, .int r) :: LV b g aM ao ad i)) hx hb dL_law_525 hl (by decide) rfl (fun ls hl => ?_)
  refine lv_aload_n hx hb dL_law_527 rfl (lv_at hl 3 rfl) ?_
  refine lw_arg C hS hl (List.mem_of_getElem? (i := 1) rfl) (List.mem_of_getElem? (i := 6) rfl) (k := 1) (by decide) (by omega) ex1 dL_law_528 dL_law_529 dL_law_531 dL_law_532 dL_law_533 ?_
  refine lw_arg C hS hl (List.mem_of_getElem? (i := 1) rfl) (List.mem_of_getElem? (i := 6) rfl) (k := 2) (by decide) (by omega) ex2 dL_law_534 dL_law_535 dL_law_537 dL_law_538 dL_law_539 ?_
  refine lw_bool C dL_law_540 dL_law_543 dL_law_544 dL_law_547 hx2 ?_
  refine jn_calli (va_runV (As := [.int (nI x1), .int (nI (if x2 = 0 then 0 else 1))]) (rest := []) ⟨hx, hb, hml, hown, hts⟩ (c_X11_setFinal l (gMo g aM) (wX g ao ad z ++ []) H.size τ x1 (if x2 = 0 then 0 else 1) hI.fin hI.mc8 hx1 (by split <;> decide)) (cwV 2 hts gL_law_X11_setFinal rfl rfl rfl (by decide +kernel) ⟨Nat.le_of_ble_eq_true rfl, Nat.le_of_ble_eq_true rfl⟩) (okWV (g := gMo g aM) hK.1.1 (lw_P1 hP) (lw_D1 hD) rfl (gM0 (gMo g aM) τ (wX g ao ad z ++ []))) rfl rfl hl.1 rfl (lv_room (Nat.le_of_ble_eq_true rfl)) dL_law_548 ⟨by show cells + 1 + 0 ≤ 603072; omega, by show slots + 6 + 0 ≤ 7170154; omega⟩) (lw_D1 hD) hS hAA (fun v2 u H locs hw hP hD hS => ?_)
  obtain ⟨r0, th, ch, nw, kp⟩ := u
  obtain ⟨rfl, hw⟩ := hw
  have hm : RM_setFinal τ x1 (if x2 = 0 then 0 else 1) _ (sA (sA (sF (sF τ 0 th) 1 ch) 0 nw) 2 kp) := ⟨r0, th, ch, nw, kp, rfl, hw, rfl⟩
  have hP := lw_P2 (z := z) (τ := (sA (sA (sF (sF τ 0 th) 1 ch) 0 nw) 2 kp)) hP
  have hD := lw_D2 (z := z) (τ := (sA (sA (sF (sF τ 0 th) 1 ch) 0 nw) 2 kp)) hD
  have ht := tie_setFinal hI hr hm
  refine lv_istore (lv' := ((7, .int (nI (r0))) :: (6, .int r) :: LV b g aM ao ad i)) hx hb dL_law_551 hl (by decide) rfl (fun ls hl => ?_)
  refine lw_thrown C gL_law_X11_thrown ⟨Nat.le_of_ble_eq_true rfl, Nat.le_of_ble_eq_true rfl⟩ ⟨by show cells + 1 + 0 ≤ 603072; omega, by show slots + 6 + 0 ≤ 7170154; omega⟩ hP hl (List.mem_of_getElem? (i := 4) rfl) (List.mem_of_getElem? (i := 1) rfl) ht.1 dL_law_553 dL_law_554 dL_law_557 dL_law_559 ?_ (Nat.le_of_ble_eq_true rfl)
  refine lw_cmpZ C hP hl (List.mem_of_getElem? (i := 5) rfl) (List.mem_of_getElem? (i := 1) rfl) (List.mem_of_getElem? (i := 0) rfl) ht.2.1 dL_law_564 dL_law_566 dL_law_569 dL_law_570 dL_law_571 dL_law_572 dL_law_574 dL_law_577 dL_law_578 dL_law_581 dL_law_582 dL_law_583 ?_
  refine lv_goto (tgt := 2501) hx hb dL_law_588 (by decide) ?_
  exact lw_end (z := z) kk (by omega) (by omega) ht.2.2 hP hD hS hl (fun _ h => List.mem_cons_of_mem _ (List.mem_cons_of_mem _ (h)))

set_option maxHeartbeats 4000000 in
set_option maxRecDepth 100000 in
theorem lwc_591 (hflg : l.stackTraces = false) (C : LC p s m c cL_law b L xs A g) (hi : i + 5 < L) (hI : Inv σ τ) (hP : va_P (g.1, g.2.1) vwCl (LW g aM ao ad (σ, ov, dv) τ) H) (hD : va_D A (LW g aM ao ad (σ, ov, dv) τ)) (hS : va_S A s.heap H locs) (hl : lv_has ls 9 (LV b g aM ao ad i)) (hc : cells + 3 ≤ room_1.cells) (hsl : slots + 18 ≤ room_1.slots) (kk : LK p l e s m below meth c cells slots Q A b i ao ad g aM) : W p l e room_1 s m #[Value.ref b] below meth c H locs cells slots Q (F0 m 591 ls []) := by
  have C0 := C
  obtain ⟨hx, hb, hml, hown, hts, hK, hZ, hX, hbl, hbA, hAA, hL⟩ := C0
  obtain ⟨x1, hx1, ex1⟩ := nI_ex (xs (i + 1))
  obtain ⟨x2, hx2, ex2⟩ := nI_ex (xs (i + 2))
  obtain ⟨x3, hx3, ex3⟩ := nI_ex (xs (i + 3))
  obtain ⟨x4, hx4, ex4⟩ := nI_ex (xs (i + 4))
  obtain ⟨x5, hx5, ex5⟩ := nI_ex (xs (i + 5))
  have hc : cells + 3 ≤ 603072 := hc
  have hsl : slots + 18 ≤ 7170154 := hsl
  refine lv_aload_n hx hb dL_law_591 rfl (lv_at hl 1 rfl) ?_
  refine jn_callv (va_runV (As := []) (rest := []) ⟨hx, hb, hml, hown, hts⟩ (c_X10_clearAutomaton l g (wT g ao ad ov dv (wM (gMo g aM) τ ++ [])) H.size σ hI.okM) (cwV 0 hts gL_law_X10_clearAutomaton rfl rfl rfl (by decide +kernel) ⟨Nat.le_of_ble_eq_true rfl, Nat.le_of_ble_eq_true rfl⟩) (okWV hK.1.1 (lw_P3 hP) (lw_D3 hD) rfl (gC0 g σ (wT g ao ad ov dv (wM (gMo g aM) τ ++ [])))) rfl rfl hl.1 rfl (lv_room (Nat.le_of_ble_eq_true rfl)) dL_law_592 ⟨by show cells + 0 ≤ 603072; omega, by show slots + 0 ≤ 7170154; omega⟩) (lw_D3 hD) hS hAA (fun u H locs hw hP hD hS => ?_)
  obtain ⟨f0C, f1C⟩ := u
  have hr : RC_clearAutomaton σ (sF (sA (sF (sA (sF (sF (sL σ (2 + σ.1 9) (snp σ (σ.2.2 (2 + σ.1 9)))) 9 ((σ.1 9 + 1) % 8)) 10 (min (σ.1 10 + 1) 8)) 0 f0C) 0 0) 1 f1C) 21 0) := ⟨f0C, f1C, hw.1, hw.2, rfl⟩
  have hP := lw_P4 (z := ((sF (sA (sF (sA (sF (sF (sL σ (2 + σ.1 9) (snp σ (σ.2.2 (2 + σ.1 9)))) 9 ((σ.1 9 + 1) % 8)) 10 (min (σ.1 10 + 1) 8)) 0 f0C) 0 0) 1 f1C) 21 0), ov, dv)) hP
  have hD := lw_D4 (z := ((sF (sA (sF (sA (sF (sF (sL σ (2 + σ.1 9) (snp σ (σ.2.2 (2 + σ.1 9)))) 9 ((σ.1 9 + 1) % 8)) 10 (min (σ.1 10 + 1) 8)) 0 f0C) 0 0) 1 f1C) 21 0), ov, dv)) hD
  refine lv_aload_n hx hb dL_law_595 rfl (lv_at hl 2 rfl) ?_
  refine jn_callv (va_runV (As := []) (rest := []) ⟨hx, hb, hml, hown, hts⟩ (c_X11_clearAutomaton l (gMo g aM) (wX g ao ad ((sF (sA (sF (sA (sF (sF (sL σ (2 + σ.1 9) (snp σ (σ.2.2 (2 + σ.1 9)))) 9 ((σ.1 9 + 1) % 8)) 10 (min (σ.1 10 + 1) 8)) 0 f0C) 0 0) 1 f1C) 21 0), ov, dv) ++ []) H.size τ  hI.mc8) (cwV 0 hts gL_law_X11_clearAutomaton rfl rfl rfl (by decide +kernel) ⟨Nat.le_of_ble_eq_true rfl, Nat.le_of_ble_eq_true rfl⟩) (okWV (g := gMo g aM) hK.1.1 (lw_P1 hP) (lw_D1 hD) rfl (gM0 (gMo g aM) τ (wX g ao ad ((sF (sA (sF (sA (sF (sF (sL σ (2 + σ.1 9) (snp σ (σ.2.2 (2 + σ.1 9)))) 9 ((σ.1 9 + 1) % 8)) 10 (min (σ.1 10 + 1) 8)) 0 f0C) 0 0) 1 f1C) 21 0), ov, dv) ++ []))) rfl rfl hl.1 rfl (lv_room (Nat.le_of_ble_eq_true rfl)) dL_law_596 ⟨by show cells + 0 ≤ 603072; omega, by show slots + 0 ≤ 7170154; omega⟩) (lw_D1 hD) hS hAA (fun u H locs hw hP hD hS => ?_)
  obtain ⟨ch, nw, kp⟩ := u
  have hm : RM_clearAutomaton τ  (sA (sA (sF τ 1 ch) 0 nw) 2 kp) := ⟨ch, nw, kp, hw.1, hw.2.1, hw.2.2.1, hw.2.2.2, rfl⟩
  have hP := lw_P2 (z := ((sF (sA (sF (sA (sF (sF (sL σ (2 + σ.1 9) (snp σ (σ.2.2 (2 + σ.1 9)))) 9 ((σ.1 9 + 1) % 8)) 10 (min (σ.1 10 + 1) 8)) 0 f0C) 0 0) 1 f1C) 21 0), ov, dv)) (τ := (sA (sA (sF τ 1 ch) 0 nw) 2 kp)) hP
  have hD := lw_D2 (z := ((sF (sA (sF (sA (sF (sF (sL σ (2 + σ.1 9) (snp σ (σ.2.2 (2 + σ.1 9)))) 9 ((σ.1 9 + 1) % 8)) 10 (min (σ.1 10 + 1) 8)) 0 f0C) 0 0) 1 f1C) 21 0), ov, dv)) (τ := (sA (sA (sF τ 1 ch) 0 nw) 2 kp)) hD
  have ht := tie_clearAutomaton hI hr hm
  refine lv_goto (tgt := 2501) hx hb dL_law_599 (by decide) ?_
  exact lw_end (z := ((sF (sA (sF (sA (sF (sF (sL σ (2 + σ.1 9) (snp σ (σ.2.2 (2 + σ.1 9)))) 9 ((σ.1 9 + 1) % 8)) 10 (min (σ.1 10 + 1) 8)) 0 f0C) 0 0) 1 f1C) 21 0), ov, dv)) kk (by omega) (by omega) ht hP hD hS hl (fun _ h => h)

set_option maxHeartbeats 4000000 in
set_option maxRecDepth 100000 in
theorem lwc_602 (hflg : l.stackTraces = false) (C : LC p s m c cL_law b L xs A g) (hi : i + 5 < L) (hI : Inv σ τ) (hP : va_P (g.1, g.2.1) vwCl (LW g aM ao ad (σ, ov, dv) τ) H) (hD : va_D A (LW g aM ao ad (σ, ov, dv) τ)) (hS : va_S A s.heap H locs) (hl : lv_has ls 9 (LV b g aM ao ad i)) (hc : cells + 3 ≤ room_1.cells) (hsl : slots + 18 ≤ room_1.slots) (kk : LK p l e s m below meth c cells slots Q A b i ao ad g aM) : W p l e room_1 s m #[Value.ref b] below meth c H locs cells slots Q (F0 m 602 ls []) := by
  have C0 := C
  obtain ⟨hx, hb, hml, hown, hts, hK, hZ, hX, hbl, hbA, hAA, hL⟩ := C0
  obtain ⟨x1, hx1, ex1⟩ := nI_ex (xs (i + 1))
  obtain ⟨x2, hx2, ex2⟩ := nI_ex (xs (i + 2))
  obtain ⟨x3, hx3, ex3⟩ := nI_ex (xs (i + 3))
  obtain ⟨x4, hx4, ex4⟩ := nI_ex (xs (i + 4))
  obtain ⟨x5, hx5, ex5⟩ := nI_ex (xs (i + 5))
  have hc : cells + 3 ≤ 603072 := hc
  have hsl : slots + 18 ≤ 7170154 := hsl
  refine lv_aload_n hx hb dL_law_602 rfl (lv_at hl 1 rfl) ?_
  refine vp_callSi (va_Run.run (va_runV (As := []) (rest := []) ⟨hx, hb, hml, hown, hts⟩ (c_X10_transitionCount l g (wT g ao ad ov dv (wM (gMo g aM) τ ++ [])) σ hI.okA) (cwV 0 hts gL_law_X10_transitionCount rfl rfl rfl (by decide +kernel) ⟨Nat.le_of_ble_eq_true rfl, Nat.le_of_ble_eq_true rfl⟩) (okPV hK.1.1 (lw_P3 hP) rfl (gC0 g σ (wT g ao ad ov dv (wM (gMo g aM) τ ++ [])))) rfl rfl hl.1 rfl (lv_room (Nat.le_of_ble_eq_true rfl)) dL_law_603 ⟨by show cells + 0 ≤ 603072; omega, by show slots + 0 ≤ 7170154; omega⟩)) (fun r1 h_1 => ?_)
  subst h_1
  refine lv_aload_n hx hb dL_law_606 rfl (lv_at hl 2 rfl) ?_
  refine vp_callSi (va_Run.run (va_runV (As := []) (rest := [.int (nI (cntT (σ.2.1 0)))]) ⟨hx, hb, hml, hown, hts⟩ (c_X11_transitionCount l (gMo g aM) (wX g ao ad (σ, ov, dv) ++ []) τ hI.okT) (cwV 0 hts gL_law_X11_transitionCount rfl rfl rfl (by decide +kernel) ⟨Nat.le_of_ble_eq_true rfl, Nat.le_of_ble_eq_true rfl⟩) (okPV (g := gMo g aM) hK.1.1 (lw_P1 hP) rfl (gM0 (gMo g aM) τ (wX g ao ad (σ, ov, dv) ++ []))) rfl rfl hl.1 rfl (lv_room (Nat.le_of_ble_eq_true rfl)) dL_law_607 ⟨by show cells + 0 ≤ 603072; omega, by show slots + 0 ≤ 7170154; omega⟩)) (fun r2 h_2 => ?_)
  subst h_2
  refine lv_icmp_eq (tgt := 2501) hx hb dL_law_610 (by decide) (fun _ => ?_) (fun q => absurd (by rw [hI.t]) q)
  exact lw_end kk (by omega) (by omega) hI.1 hP hD hS hl (fun _ h => h)

end LWC
