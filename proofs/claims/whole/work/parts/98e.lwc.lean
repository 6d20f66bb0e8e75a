section LWC
variable {p : Program} {l : Launch} {e : Env} {s : State} {m : MethodId} {below : List Frame} {meth : Method} {c : Code} {H : Heap} {locs : List Loc} {cells slots : Nat} {Q : State → Prop} {ls : Array Slot} {A : Nat → Prop} {b L i ao ad : Nat} {xs : Nat → Int32} {g : GC} {aM : Nat → Nat} {σ τ : SS} {ov : Nat → Int64} {dv : Nat → UInt64}

set_option maxHeartbeats 4000000 in
set_option maxRecDepth 100000 in
theorem lwc_1257 (hflg : l.stackTraces = false) (C : LC p s m c cL_law b L xs A g) (hi : i + 5 < L) (hI : Inv σ τ) (hP : va_P (g.1, g.2.1) vwCl (LW g aM ao ad (σ, ov, dv) τ) H) (hD : va_D A (LW g aM ao ad (σ, ov, dv) τ)) (hS : va_S A s.heap H locs) (hl : lv_has ls 9 (LV b g aM ao ad i)) (hc : cells + 3 ≤ room_1.cells) (hsl : slots + 18 ≤ room_1.slots) (kk : LK p l e s m below meth c cells slots Q A b i ao ad g aM) : W p l e room_1 s m #[Value.ref b] below meth c H locs cells slots Q (F0 m 1257 ls []) := by
  have C0 := C
  obtain ⟨hx, hb, hml, hown, hts, hK, hZ, hX, hbl, hbA, hAA, hL⟩ := C0
  obtain ⟨x1, hx1, ex1⟩ := nI_ex (xs (i + 1))
  obtain ⟨x2, hx2, ex2⟩ := nI_ex (xs (i + 2))
  obtain ⟨x3, hx3, ex3⟩ := nI_ex (xs (i + 3))
  obtain ⟨x4, hx4, ex4⟩ := nI_ex (xs (i + 4))
  obtain ⟨x5, hx5, ex5⟩ := nI_ex (xs (i + 5))
  have hc : cells + 3 ≤ 603072 := hc
  have hsl : slots + 18 ≤ 7170154 := hsl
  refine lv_aload_n hx hb dL_law_1257 rfl (lv_at hl 1 rfl) ?_
  refine jn_calli (va_runV (As := []) (rest := []) ⟨hx, hb, hml, hown, hts⟩ (c_X10_minimalCount l g (wT g ao ad ov dv (wM (gMo g aM) τ ++ [])) H.size σ hI.okA) (cwV 0 hts gL_law_X10_minimalCount rfl rfl rfl (by decide +kernel) ⟨Nat.le_of_ble_eq_true rfl, Nat.le_of_ble_eq_true rfl⟩) (okWV hK.1.1 (lw_P3 hP) (lw_D3 hD) rfl (gC0 g σ (wT g ao ad ov dv (wM (gMo g aM) τ ++ [])))) rfl rfl hl.1 rfl (lv_room (Nat.le_of_ble_eq_true rfl)) dL_law_1258 ⟨by show cells + 0 ≤ 603072; omega, by show slots + 0 ≤ 7170154; omega⟩) (lw_D3 hD) hS hAA (fun v1 u H locs hw hP hD hS => ?_)
  obtain ⟨n6C, f15C, f17C⟩ := u
  obtain ⟨rfl, hw⟩ := hw
  have hr : RC_minimalCount σ _ (sA (sA (sF σ 6 n6C) 15 f15C) 17 f17C) := ⟨n6C, f15C, f17C, rfl, hw.1, hw.2, rfl⟩
  have hP := lw_P4 (z := ((sA (sA (sF σ 6 n6C) 15 f15C) 17 f17C), ov, dv)) hP
  have hD := lw_D4 (z := ((sA (sA (sF σ 6 n6C) 15 f15C) 17 f17C), ov, dv)) hD
  refine lv_aload_n hx hb dL_law_1261 rfl (lv_at hl 2 rfl) ?_
  refine jn_calli (va_runV (As := []) (rest := [.int (nI (n6C))]) ⟨hx, hb, hml, hown, hts⟩ (c_X11_minimalCount l (gMo g aM) (wX g ao ad ((sA (sA (sF σ 6 n6C) 15 f15C) 17 f17C), ov, dv) ++ []) H.size τ  hI.okT hI.fin) (cwV 0 hts gL_law_X11_minimalCount rfl rfl rfl (by decide +kernel) ⟨Nat.le_of_ble_eq_true rfl, Nat.le_of_ble_eq_true rfl⟩) (okWV (g := gMo g aM) hK.1.1 (lw_P1 hP) (lw_D1 hD) rfl (gM0 (gMo g aM) τ (wX g ao ad ((sA (sA (sF σ 6 n6C) 15 f15C) 17 f17C), ov, dv) ++ []))) rfl rfl hl.1 rfl (lv_room (Nat.le_of_ble_eq_true rfl)) dL_law_1262 ⟨by show cells + 0 ≤ 603072; omega, by show slots + 0 ≤ 7170154; omega⟩) (lw_D1 hD) hS hAA (fun v2 u H locs hw hP hD hS => ?_)
  obtain ⟨f7, f13⟩ := u
  obtain ⟨rfl, hw⟩ := hw
  have hm : RM_minimalCount τ  _ (sA (sA τ 7 f7) 13 f13) := ⟨f7, f13, rfl, hw, rfl⟩
  have hP := lw_P2 (z := ((sA (sA (sF σ 6 n6C) 15 f15C) 17 f17C), ov, dv)) (τ := (sA (sA τ 7 f7) 13 f13)) hP
  have hD := lw_D2 (z := ((sA (sA (sF σ 6 n6C) 15 f15C) 17 f17C), ov, dv)) (τ := (sA (sA τ 7 f7) 13 f13)) hD
  have ht := tie_minimalCount hI hr hm
  refine lv_icmp_eq (tgt := 2501) hx hb dL_law_1265 (by decide) (fun _ => ?_) (fun q => absurd (congrArg nI ht.1) q)
  exact lw_end (z := ((sA (sA (sF σ 6 n6C) 15 f15C) 17 f17C), ov, dv)) kk (by omega) (by omega) ht.2.2 hP hD hS hl (fun _ h => h)

set_option maxHeartbeats 4000000 in
set_option maxRecDepth 100000 in
theorem lwc_1270 (hflg : l.stackTraces = false) (C : LC p s m c cL_law b L xs A g) (hi : i + 5 < L) (hI : Inv σ τ) (hP : va_P (g.1, g.2.1) vwCl (LW g aM ao ad (σ, ov, dv) τ) H) (hD : va_D A (LW g aM ao ad (σ, ov, dv) τ)) (hS : va_S A s.heap H locs) (hl : lv_has ls 9 (LV b g aM ao ad i)) (hc : cells + 3 ≤ room_1.cells) (hsl : slots + 18 ≤ room_1.slots) (kk : LK p l e s m below meth c cells slots Q A b i ao ad g aM) : W p l e room_1 s m #[Value.ref b] below meth c H locs cells slots Q (F0 m 1270 ls []) := by
  have C0 := C
  obtain ⟨hx, hb, hml, hown, hts, hK, hZ, hX, hbl, hbA, hAA, hL⟩ := C0
  obtain ⟨x1, hx1, ex1⟩ := nI_ex (xs (i + 1))
  obtain ⟨x2, hx2, ex2⟩ := nI_ex (xs (i + 2))
  obtain ⟨x3, hx3, ex3⟩ := nI_ex (xs (i + 3))
  obtain ⟨x4, hx4, ex4⟩ := nI_ex (xs (i + 4))
  obtain ⟨x5, hx5, ex5⟩ := nI_ex (xs (i + 5))
  have hc : cells + 3 ≤ 603072 := hc
  have hsl : slots + 18 ≤ 7170154 := hsl
  refine lv_aload_n hx hb dL_law_1270 rfl (lv_at hl 1 rfl) ?_
  refine lw_arg C hS hl (List.mem_of_getElem? (i := 0) rfl) (List.mem_of_getElem? (i := 5) rfl) (k := 1) (by decide) (by omega) ex1 dL_law_1271 dL_law_1272 dL_law_1274 dL_law_1275 dL_law_1276 ?_
  refine lv_aload_n hx hb dL_law_1277 rfl (lv_at hl 3 rfl) ?_
  refine jI_calli (wf := wH g ao ad (wM (gMo g aM) τ ++ [])) (vx_runSW (As := [.ref (g.2.2.2 0), .int (nI x1), .ref ao]) (rest := []) ⟨hx, hb, hml, hown, hts⟩ (h_minimal l hflg g (wM (gMo g aM) τ ++ []) H.size σ ao ad ov dv x1 hI.okA hx1) (vx_cwSW 3 hts gL_law_L_minimal rfl rfl rfl (by decide +kernel) ⟨Nat.le_of_ble_eq_true rfl, Nat.le_of_ble_eq_true rfl⟩) (okHS hK (lw_P3 hP) (lw_D3 hD) hZ hS hAA) rfl rfl hl.1 rfl (lv_room (Nat.le_of_ble_eq_true rfl)) dL_law_1278 ⟨by show cells + 1 ≤ 603072; omega, by show slots + 6 ≤ 7170154; omega⟩) (lw_D3 hD) hS hAA (fun r z H locs hr hP hD hS => ?_)
  have hP := lw_P4 hP
  have hD := lw_D4 hD
  refine lv_istore (lv' := ((6, .int r) :: LV b g aM ao ad i)) hx hb dL_law_1281 hl (by decide) rfl (fun ls hl => ?_)
  refine lv_aload_n hx hb dL_law_1283 rfl (lv_at hl 3 rfl) ?_
  refine lw_arg C hS hl (List.mem_of_getElem? (i := 1) rfl) (List.mem_of_getElem? (i := 6) rfl) (k := 1) (by decide) (by omega) ex1 dL_law_1284 dL_law_1285 dL_law_1287 dL_law_1288 dL_law_1289 ?_
  refine jn_calli (va_runV (As := [.int (nI x1)]) (rest := []) ⟨hx, hb, hml, hown, hts⟩ (c_X11_minimal l (gMo g aM) (wX g ao ad z ++ []) H.size τ x1 hI.okT hI.fin hx1) (cwV 1 hts gL_law_X11_minimal rfl rfl rfl (by decide +kernel) ⟨Nat.le_of_ble_eq_true rfl, Nat.le_of_ble_eq_true rfl⟩) (okWV (g := gMo g aM) hK.1.1 (lw_P1 hP) (lw_D1 hD) rfl (gM0 (gMo g aM) τ (wX g ao ad z ++ []))) rfl rfl hl.1 rfl (lv_room (Nat.le_of_ble_eq_true rfl)) dL_law_1290 ⟨by show cells + 1 + 0 ≤ 603072; omega, by show slots + 6 + 0 ≤ 7170154; omega⟩) (lw_D1 hD) hS hAA (fun v2 u H locs hw hP hD hS => ?_)
  obtain ⟨r0, th, f7, f13⟩ := u
  obtain ⟨rfl, hw⟩ := hw
  have hm : RM_minimal τ x1 _ (sA (sA (sF τ 0 th) 7 f7) 13 f13) := ⟨r0, th, f7, f13, rfl, hw.1, hw.2, rfl⟩
  have hP := lw_P2 (z := z) (τ := (sA (sA (sF τ 0 th) 7 f7) 13 f13)) hP
  have hD := lw_D2 (z := z) (τ := (sA (sA (sF τ 0 th) 7 f7) 13 f13)) hD
  have ht := tie_minimal hI hr hm
  refine lv_istore (lv' := ((7, .int (nI (r0))) :: (6, .int r) :: LV b g aM ao ad i)) hx hb dL_law_1293 hl (by decide) rfl (fun ls hl => ?_)
  refine lw_thrown C gL_law_X11_thrown ⟨Nat.le_of_ble_eq_true rfl, Nat.le_of_ble_eq_true rfl⟩ ⟨by show cells + 1 + 0 ≤ 603072; omega, by show slots + 6 + 0 ≤ 7170154; omega⟩ hP hl (List.mem_of_getElem? (i := 4) rfl) (List.mem_of_getElem? (i := 1) rfl) ht.1 dL_law_1295 dL_law_1296 dL_law_1299 dL_law_1301 ?_ (Nat.le_of_ble_eq_true rfl)
  refine lw_cmpI C hP hl (List.mem_of_getElem? (i := 5) rfl) (List.mem_of_getElem? (i := 1) rfl) (List.mem_of_getElem? (i := 0) rfl) ht.2.1 dL_law_1306 dL_law_1308 dL_law_1311 dL_law_1312 dL_law_1313 dL_law_1314 dL_law_1316 dL_law_1317 dL_law_1318 ?_
  refine lv_goto (tgt := 2501) hx hb dL_law_1323 (by decide) ?_
  exact lw_end (z := z) kk (by omega) (by omega) ht.2.2 hP hD hS hl (fun _ h => List.mem_cons_of_mem _ (List.mem_cons_of_mem _ (h)))

set_option maxHeartbeats 4000000 in
set_option maxRecDepth 100000 in
theorem lwc_1326 (hflg : l.stackTraces = false) (C : LC p s m c cL_law b L xs A g) (hi : i + 5 < L) (hI : Inv σ τ) (hP : va_P (g.1, g.2.1) vwCl (LW g aM ao ad (σ, ov, dv) τ) H) (hD : va_D A (LW g aM ao ad (σ, ov, dv) τ)) (hS : va_S A s.heap H locs) (hl : lv_has ls 9 (LV b g aM ao ad i)) (hc : cells + 3 ≤ room_1.cells) (hsl : slots + 18 ≤ room_1.slots) (kk : LK p l e s m below meth c cells slots Q A b i ao ad g aM) : W p l e room_1 s m #[Value.ref b] below meth c H locs cells slots Q (F0 m 1326 ls []) := by
  have C0 := C
  obtain ⟨hx, hb, hml, hown, hts, hK, hZ, hX, hbl, hbA, hAA, hL⟩ := C0
  obtain ⟨x1, hx1, ex1⟩ := nI_ex (xs (i + 1))
  obtain ⟨x2, hx2, ex2⟩ := nI_ex (xs (i + 2))
  obtain ⟨x3, hx3, ex3⟩ := nI_ex (xs (i + 3))
  obtain ⟨x4, hx4, ex4⟩ := nI_ex (xs (i + 4))
  obtain ⟨x5, hx5, ex5⟩ := nI_ex (xs (i + 5))
  have hc : cells + 3 ≤ 603072 := hc
  have hsl : slots + 18 ≤ 7170154 := hsl
  refine lv_aload_n hx hb dL_law_1326 rfl (lv_at hl 1 rfl) ?_
  refine jn_calli (va_runV (As := []) (rest := []) ⟨hx, hb, hml, hown, hts⟩ (c_X10_cycleCount l g (wT g ao ad ov dv (wM (gMo g aM) τ ++ [])) H.size σ hI.okA hI.od.2.2) (cwV 0 hts gL_law_X10_cycleCount rfl rfl rfl (by decide +kernel) ⟨Nat.le_of_ble_eq_true rfl, Nat.le_of_ble_eq_true rfl⟩) (okWV hK.1.1 (lw_P3 hP) (lw_D3 hD) rfl (gC0 g σ (wT g ao ad ov dv (wM (gMo g aM) τ ++ [])))) rfl rfl hl.1 rfl (lv_room (Nat.le_of_ble_eq_true rfl)) dL_law_1327 ⟨by show cells + 0 ≤ 603072; omega, by show slots + 0 ≤ 7170154; omega⟩) (lw_D3 hD) hS hAA (fun v1 u H locs hw hP hD hS => ?_)
  obtain ⟨n7C, s8C, f18C⟩ := u
  obtain ⟨rfl, hw⟩ := hw
  have hr : RC_cycleCount σ _ (sA (sF (sF σ 7 n7C) 8 s8C) 18 f18C) := ⟨n7C, s8C, f18C, rfl, hw.1, hw.2.1, hw.2.2, rfl⟩
  have hP := lw_P4 (z := ((sA (sF (sF σ 7 n7C) 8 s8C) 18 f18C), ov, dv)) hP
  have hD := lw_D4 (z := ((sA (sF (sF σ 7 n7C) 8 s8C) 18 f18C), ov, dv)) hD
  refine lv_aload_n hx hb dL_law_1330 rfl (lv_at hl 2 rfl) ?_
  refine jn_calli (va_runV (As := []) (rest := [.int (nI (n7C))]) ⟨hx, hb, hml, hown, hts⟩ (c_X11_cycleCount l (gMo g aM) (wX g ao ad ((sA (sF (sF σ 7 n7C) 8 s8C) 18 f18C), ov, dv) ++ []) H.size τ  hI.okT hI.fin) (cwV 0 hts gL_law_X11_cycleCount rfl rfl rfl (by decide +kernel) ⟨Nat.le_of_ble_eq_true rfl, Nat.le_of_ble_eq_true rfl⟩) (okWV (g := gMo g aM) hK.1.1 (lw_P1 hP) (lw_D1 hD) rfl (gM0 (gMo g aM) τ (wX g ao ad ((sA (sF (sF σ 7 n7C) 8 s8C) 18 f18C), ov, dv) ++ []))) rfl rfl hl.1 rfl (lv_room (Nat.le_of_ble_eq_true rfl)) dL_law_1331 ⟨by show cells + 0 ≤ 603072; omega, by show slots + 0 ≤ 7170154; omega⟩) (lw_D1 hD) hS hAA (fun v2 u H locs hw hP hD hS => ?_)
  obtain ⟨us, f13⟩ := u
  obtain ⟨rfl, hw⟩ := hw
  have hm : RM_cycleCount τ  _ (sA (sF τ 12 us) 13 f13) := ⟨us, f13, rfl, hw.1, hw.2, rfl⟩
  have hP := lw_P2 (z := ((sA (sF (sF σ 7 n7C) 8 s8C) 18 f18C), ov, dv)) (τ := (sA (sF τ 12 us) 13 f13)) hP
  have hD := lw_D2 (z := ((sA (sF (sF σ 7 n7C) 8 s8C) 18 f18C), ov, dv)) (τ := (sA (sF τ 12 us) 13 f13)) hD
  have ht := tie_cycleCount hI hr hm
  refine lv_icmp_eq (tgt := 2501) hx hb dL_law_1334 (by decide) (fun _ => ?_) (fun q => absurd (congrArg nI ht.1) q)
  exact lw_end (z := ((sA (sF (sF σ 7 n7C) 8 s8C) 18 f18C), ov, dv)) kk (by omega) (by omega) ht.2.2 hP hD hS hl (fun _ h => h)

set_option maxHeartbeats 4000000 in
set_option maxRecDepth 100000 in
theorem lwc_1339 (hflg : l.stackTraces = false) (C : LC p s m c cL_law b L xs A g) (hi : i + 5 < L) (hI : Inv σ τ) (hP : va_P (g.1, g.2.1) vwCl (LW g aM ao ad (σ, ov, dv) τ) H) (hD : va_D A (LW g aM ao ad (σ, ov, dv) τ)) (hS : va_S A s.heap H locs) (hl : lv_has ls 9 (LV b g aM ao ad i)) (hc : cells + 3 ≤ room_1.cells) (hsl : slots + 18 ≤ room_1.slots) (kk : LK p l e s m below meth c cells slots Q A b i ao ad g aM) : W p l e room_1 s m #[Value.ref b] below meth c H locs cells slots Q (F0 m 1339 ls []) := by
  have C0 := C
  obtain ⟨hx, hb, hml, hown, hts, hK, hZ, hX, hbl, hbA, hAA, hL⟩ := C0
  obtain ⟨x1, hx1, ex1⟩ := nI_ex (xs (i + 1))
  obtain ⟨x2, hx2, ex2⟩ := nI_ex (xs (i + 2))
  obtain ⟨x3, hx3, ex3⟩ := nI_ex (xs (i + 3))
  obtain ⟨x4, hx4, ex4⟩ := nI_ex (xs (i + 4))
  obtain ⟨x5, hx5, ex5⟩ := nI_ex (xs (i + 5))
  have hc : cells + 3 ≤ 603072 := hc
  have hsl : slots + 18 ≤ 7170154 := hsl
  refine lv_aload_n hx hb dL_law_1339 rfl (lv_at hl 1 rfl) ?_
  refine lw_arg C hS hl (List.mem_of_getElem? (i := 0) rfl) (List.mem_of_getElem? (i := 5) rfl) (k := 1) (by decide) (by omega) ex1 dL_law_1340 dL_law_1341 dL_law_1343 dL_law_1344 dL_law_1345 ?_
  refine lv_aload_n hx hb dL_law_1346 rfl (lv_at hl 3 rfl) ?_
  refine jI_calli (wf := wH g ao ad (wM (gMo g aM) τ ++ [])) (vx_runSW (As := [.ref (g.2.2.2 0), .int (nI x1), .ref ao]) (rest := []) ⟨hx, hb, hml, hown, hts⟩ (h_cycle l hflg g (wM (gMo g aM) τ ++ []) H.size σ ao ad ov dv x1 hI.okA hI.od.2.2 hx1) (vx_cwSW 3 hts gL_law_L_cycle rfl rfl rfl (by decide +kernel) ⟨Nat.le_of_ble_eq_true rfl, Nat.le_of_ble_eq_true rfl⟩) (okHS hK (lw_P3 hP) (lw_D3 hD) hZ hS hAA) rfl rfl hl.1 rfl (lv_room (Nat.le_of_ble_eq_true rfl)) dL_law_1347 ⟨by show cells + 1 ≤ 603072; omega, by show slots + 6 ≤ 7170154; omega⟩) (lw_D3 hD) hS hAA (fun r z H locs hr hP hD hS => ?_)
  have hP := lw_P4 hP
  have hD := lw_D4 hD
  refine lv_istore (lv' := ((6, .int r) :: LV b g aM ao ad i)) hx hb dL_law_1350 hl (by decide) rfl (fun ls hl => ?_)
  refine lv_aload_n hx hb dL_law_1352 rfl (lv_at hl 3 rfl) ?_
  refine lw_arg C hS hl (List.mem_of_getElem? (i := 1) rfl) (List.mem_of_getElem? (i := 6) rfl) (k := 1) (by decide) (by omega) ex1 dL_law_1353 dL_law_1354 dL_law_1356 dL_law_1357 dL_law_1358 ?_
  refine jn_calli (va_runV (As := [.int (nI x1)]) (rest := []) ⟨hx, hb, hml, hown, hts⟩ (c_X11_cycle l (gMo g aM) (wX g ao ad z ++ []) H.size τ x1 hI.okT hI.fin hx1) (cwV 1 hts gL_law_X11_cycle rfl rfl rfl (by decide +kernel) ⟨Nat.le_of_ble_eq_true rfl, Nat.le_of_ble_eq_true rfl⟩) (okWV (g := gMo g aM) hK.1.1 (lw_P1 hP) (lw_D1 hD) rfl (gM0 (gMo g aM) τ (wX g ao ad z ++ []))) rfl rfl hl.1 rfl (lv_room (Nat.le_of_ble_eq_true rfl)) dL_law_1359 ⟨by show cells + 1 + 0 ≤ 603072; omega, by show slots + 6 + 0 ≤ 7170154; omega⟩) (lw_D1 hD) hS hAA (fun v2 u H locs hw hP hD hS => ?_)
  obtain ⟨r0, th, us, f13⟩ := u
  obtain ⟨rfl, hw⟩ := hw
  have hm : RM_cycle τ x1 _ (sA (sF (sF τ 0 th) 12 us) 13 f13) := ⟨r0, th, us, f13, rfl, hw.1, hw.2.1, hw.2.2, rfl⟩
  have hP := lw_P2 (z := z) (τ := (sA (sF (sF τ 0 th) 12 us) 13 f13)) hP
  have hD := lw_D2 (z := z) (τ := (sA (sF (sF τ 0 th) 12 us) 13 f13)) hD
  have ht := tie_cycle hI hr hm
  refine lv_istore (lv' := ((7, .int (nI (r0))) :: (6, .int r) :: LV b g aM ao ad i)) hx hb dL_law_1362 hl (by decide) rfl (fun ls hl => ?_)
  refine lw_thrown C gL_law_X11_thrown ⟨Nat.le_of_ble_eq_true rfl, Nat.le_of_ble_eq_true rfl⟩ ⟨by show cells + 1 + 0 ≤ 603072; omega, by show slots + 6 + 0 ≤ 7170154; omega⟩ hP hl (List.mem_of_getElem? (i := 4) rfl) (List.mem_of_getElem? (i := 1) rfl) ht.1 dL_law_1364 dL_law_1365 dL_law_1368 dL_law_1370 ?_ (Nat.le_of_ble_eq_true rfl)
  refine lw_cmpI C hP hl (List.mem_of_getElem? (i := 5) rfl) (List.mem_of_getElem? (i := 1) rfl) (List.mem_of_getElem? (i := 0) rfl) ht.2.1 dL_law_1375 dL_law_1377 dL_law_1380 dL_law_1381 dL_law_1382 dL_law_1383 dL_law_1385 dL_law_1386 dL_law_1387 ?_
  refine lv_goto (tgt := 2501) hx hb dL_law_1392 (by decide) ?_
  exact lw_end (z := z) kk (by omega) (by omega) ht.2.2 hP hD hS hl (fun _ h => List.mem_cons_of_mem _ (List.mem_cons_of_mem _ (h)))

set_option maxHeartbeats 4000000 in
set_option maxRecDepth 100000 in
theorem lwc_1395 (hflg : l.stackTraces = false) (C : LC p s m c cL_law b L xs A g) (hi : i + 5 < L) (hI : Inv σ τ) (hP : va_P (g.1, g.2.1) vwCl (LW g aM ao ad (σ, ov, dv) τ) H) (hD : va_D A (LW g aM ao ad (σ, ov, dv) τ)) (hS : va_S A s.heap H locs) (hl : lv_has ls 9 (LV b g aM ao ad i)) (hc : cells + 3 ≤ room_1.cells) (hsl : slots + 18 ≤ room_1.slots) (kk : LK p l e s m below meth c cells slots Q A b i ao ad g aM) : W p l e room_1 s m #[Value.ref b] below meth c H locs cells slots Q (F0 m 1395 ls []) := by
  have C0 := C
  obtain ⟨hx, hb, hml, hown, hts, hK, hZ, hX, hbl, hbA, hAA, hL⟩ := C0
  obtain ⟨x1, hx1, ex1⟩ := nI_ex (xs (i + 1))
  obtain ⟨x2, hx2, ex2⟩ := nI_ex (xs (i + 2))
  obtain ⟨x3, hx3, ex3⟩ := nI_ex (xs (i + 3))
  obtain ⟨x4, hx4, ex4⟩ := nI_ex (xs (i + 4))
  obtain ⟨x5, hx5, ex5⟩ := nI_ex (xs (i + 5))
  have hc : cells + 3 ≤ 603072 := hc
  have hsl : slots + 18 ≤ 7170154 := hsl
  refine lv_aload_n hx hb dL_law_1395 rfl (lv_at hl 1 rfl) ?_
  refine lw_arg C hS hl (List.mem_of_getElem? (i := 0) rfl) (List.mem_of_getElem? (i := 5) rfl) (k := 1) (by decide) (by omega) ex1 dL_law_1396 dL_law_1397 dL_law_1399 dL_law_1400 dL_law_1401 ?_
  refine lw_arg C hS hl (List.mem_of_getElem? (i := 0) rfl) (List.mem_of_getElem? (i := 5) rfl) (k := 2) (by decide) (by omega) ex2 dL_law_1402 dL_law_1403 dL_law_1405 dL_law_1406 dL_law_1407 ?_
  refine lw_arg C hS hl (List.mem_of_getElem? (i := 0) rfl) (List.mem_of_getElem? (i := 5) rfl) (k := 3) (by decide) (by omega) ex3 dL_law_1408 dL_law_1409 dL_law_1411 dL_law_1412 dL_law_1413 ?_
  refine lw_arg C hS hl (List.mem_of_getElem? (i := 0) rfl) (List.mem_of_getElem? (i := 5) rfl) (k := 4) (by decide) (by omega) ex4 dL_law_1414 dL_law_1415 dL_law_1417 dL_law_1418 dL_law_1419 ?_
  refine lv_aload_n hx hb dL_law_1420 rfl (lv_at hl 3 rfl) ?_
  refine jI_calli (wf := wH g ao ad (wM (gMo g aM) τ ++ [])) (vx_runSW (As := [.ref (g.2.2.2 0), .int (nI x1), .int (nI x2), .int (nI x3), .int (nI x4), .ref ao]) (rest := []) ⟨hx, hb, hml, hown, hts⟩ (h_addLinearSet l hflg g (wM (gMo g aM) τ ++ []) H.size σ ao ad ov dv x1 x2 x3 x4 hI.okC hI.okM hx1 hx2 hx3 hx4) (vx_cwSW 6 hts gL_law_L_addLinearSet rfl rfl rfl (by decide +kernel) ⟨Nat.le_of_ble_eq_true rfl, Nat.le_of_ble_eq_true rfl⟩) (okHS hK (lw_P3 hP) (lw_D3 hD) hZ hS hAA) rfl rfl hl.1 rfl (lv_room (Nat.le_of_ble_eq_true rfl)) dL_law_1421 ⟨by show cells + 3 ≤ 603072; omega, by show slots + 18 ≤ 7170154; omega⟩) (lw_D3 hD) hS hAA (fun r z H locs hr hP hD hS => ?_)
  have hP := lw_P4 hP
  have hD := lw_D4 hD
  refine lv_istore (lv' := ((6, .int r) :: LV b g aM ao ad i)) hx hb dL_law_1424 hl (by decide) rfl (fun ls hl => ?_)
  refine lv_aload_n hx hb dL_law_1426 rfl (lv_at hl 3 rfl) ?_
  refine lw_arg C hS hl (List.mem_of_getElem? (i := 1) rfl) (List.mem_of_getElem? (i := 6) rfl) (k := 1) (by decide) (by omega) ex1 dL_law_1427 dL_law_1428 dL_law_1430 dL_law_1431 dL_law_1432 ?_
  refine lw_arg C hS hl (List.mem_of_getElem? (i := 1) rfl) (List.mem_of_getElem? (i := 6) rfl) (k := 2) (by decide) (by omega) ex2 dL_law_1433 dL_law_1434 dL_law_1436 dL_law_1437 dL_law_1438 ?_
  refine lw_arg C hS hl (List.mem_of_getElem? (i := 1) rfl) (List.mem_of_getElem? (i := 6) rfl) (k := 3) (by decide) (by omega) ex3 dL_law_1439 dL_law_1440 dL_law_1442 dL_law_1443 dL_law_1444 ?_
  refine lw_arg C hS hl (List.mem_of_getElem? (i := 1) rfl) (List.mem_of_getElem? (i := 6) rfl) (k := 4) (by decide) (by omega) ex4 dL_law_1445 dL_law_1446 dL_law_1448 dL_law_1449 dL_law_1450 ?_
  refine jn_calli (va_runV (As := [.int (nI x1), .int (nI x2), .int (nI x3), .int (nI x4)]) (rest := []) ⟨hx, hb, hml, hown, hts⟩ (c_X11_addLinearSet l (gMo g aM) (wX g ao ad z ++ []) H.size τ x1 x2 x3 x4 hI.mc8 hI.mm4 hx1 hx2 hx3 hx4) (cwV 4 hts gL_law_X11_addLinearSet rfl rfl rfl (by decide +kernel) ⟨Nat.le_of_ble_eq_true rfl, Nat.le_of_ble_eq_true rfl⟩) (okWV (g := gMo g aM) hK.1.1 (lw_P1 hP) (lw_D1 hD) rfl (gM0 (gMo g aM) τ (wX g ao ad z ++ []))) rfl rfl hl.1 rfl (lv_room (Nat.le_of_ble_eq_true rfl)) dL_law_1451 ⟨by show cells + 3 + 0 ≤ 603072; omega, by show slots + 18 + 0 ≤ 7170154; omega⟩) (lw_D1 hD) hS hAA (fun v2 u H locs hw hP hD hS => ?_)
  obtain ⟨r0, th, ch, nw, kp⟩ := u
  obtain ⟨rfl, hw⟩ := hw
  have hm : RM_addLinearSet τ x1 x2 x3 x4 _ (sA (sA (sF (sF τ 0 th) 1 ch) 0 nw) 2 kp) := ⟨r0, th, ch, nw, kp, rfl, hw, rfl⟩
  have hP := lw_P2 (z := z) (τ := (sA (sA (sF (sF τ 0 th) 1 ch) 0 nw) 2 kp)) hP
  have hD := lw_D2 (z := z) (τ := (sA (sA (sF (sF τ 0 th) 1 ch) 0 nw) 2 kp)) hD
  have ht := tie_addLinearSet hI hr hm
  refine lv_istore (lv' := ((7, .int (nI (r0))) :: (6, .int r) :: LV b g aM ao ad i)) hx hb dL_law_1454 hl (by decide) rfl (fun ls hl => ?_)
  refine lw_thrown C gL_law_X11_thrown ⟨Nat.le_of_ble_eq_true rfl, Nat.le_of_ble_eq_true rfl⟩ ⟨by show cells + 3 + 0 ≤ 603072; omega, by show slots + 18 + 0 ≤ 7170154; omega⟩ hP hl (List.mem_of_getElem? (i := 4) rfl) (List.mem_of_getElem? (i := 1) rfl) ht.1 dL_law_1456 dL_law_1457 dL_law_1460 dL_law_1462 ?_ (Nat.le_of_ble_eq_true rfl)
  refine lw_cmpI C hP hl (List.mem_of_getElem? (i := 5) rfl) (List.mem_of_getElem? (i := 1) rfl) (List.mem_of_getElem? (i := 0) rfl) ht.2.1 dL_law_1467 dL_law_1469 dL_law_1472 dL_law_1473 dL_law_1474 dL_law_1475 dL_law_1477 dL_law_1478 dL_law_1479 ?_
  refine lv_goto (tgt := 2501) hx hb dL_law_1484 (by decide) ?_
  exact lw_end (z := z) kk (by omega) (by omega) ht.2.2 hP hD hS hl (fun _ h => List.mem_cons_of_mem _ (List.mem_cons_of_mem _ (h)))

set_option maxHeartbeats 4000000 in
set_option maxRecDepth 100000 in
theorem lwc_1487 (hflg : l.stackTraces = false) (C : LC p s m c cL_law b L xs A g) (hi : i + 5 < L) (hI : Inv σ τ) (hP : va_P (g.1, g.2.1) vwCl (LW g aM ao ad (σ, ov, dv) τ) H) (hD : va_D A (LW g aM ao ad (σ, ov, dv) τ)) (hS : va_S A s.heap H locs) (hl : lv_has ls 9 (LV b g aM ao ad i)) (hc : cells + 3 ≤ room_1.cells) (hsl : slots + 18 ≤ room_1.slots) (kk : LK p l e s m below meth c cells slots Q A b i ao ad g aM) : W p l e room_1 s m #[Value.ref b] below meth c H locs cells slots Q (F0 m 1487 ls []) := by
  have C0 := C
  obtain ⟨hx, hb, hml, hown, hts, hK, hZ, hX, hbl, hbA, hAA, hL⟩ := C0
  obtain ⟨x1, hx1, ex1⟩ := nI_ex (xs (i + 1))
  obtain ⟨x2, hx2, ex2⟩ := nI_ex (xs (i + 2))
  obtain ⟨x3, hx3, ex3⟩ := nI_ex (xs (i + 3))
  obtain ⟨x4, hx4, ex4⟩ := nI_ex (xs (i + 4))
  obtain ⟨x5, hx5, ex5⟩ := nI_ex (xs (i + 5))
  have hc : cells + 3 ≤ 603072 := hc
  have hsl : slots + 18 ≤ 7170154 := hsl
  refine lv_aload_n hx hb dL_law_1487 rfl (lv_at hl 1 rfl) ?_
  refine lw_arg C hS hl (List.mem_of_getElem? (i := 0) rfl) (List.mem_of_getElem? (i := 5) rfl) (k := 1) (by decide) (by omega) ex1 dL_law_1488 dL_law_1489 dL_law_1491 dL_law_1492 dL_law_1493 ?_
  refine lw_arg C hS hl (List.mem_of_getElem? (i := 0) rfl) (List.mem_of_getElem? (i := 5) rfl) (k := 2) (by decide) (by omega) ex2 dL_law_1494 dL_law_1495 dL_law_1497 dL_law_1498 dL_law_1499 ?_
  refine lw_arg C hS hl (List.mem_of_getElem? (i := 0) rfl) (List.mem_of_getElem? (i := 5) rfl) (k := 3) (by decide) (by omega) ex3 dL_law_1500 dL_law_1501 dL_law_1503 dL_law_1504 dL_law_1505 ?_
  refine lw_arg C hS hl (List.mem_of_getElem? (i := 0) rfl) (List.mem_of_getElem? (i := 5) rfl) (k := 4) (by decide) (by omega) ex4 dL_law_1506 dL_law_1507 dL_law_1509 dL_law_1510 dL_law_1511 ?_
  refine lw_arg C hS hl (List.mem_of_getElem? (i := 0) rfl) (List.mem_of_getElem? (i := 5) rfl) (k := 5) (by decide) (by omega) ex5 dL_law_1512 dL_law_1513 dL_law_1515 dL_law_1516 dL_law_1517 ?_
  refine lv_aload_n hx hb dL_law_1518 rfl (lv_at hl 3 rfl) ?_
  refine jI_calli (wf := wH g ao ad (wM (gMo g aM) τ ++ [])) (vx_runSW (As := [.ref (g.2.2.2 0), .int (nI x1), .int (nI x2), .int (nI x3), .int (nI x4), .int (nI x5), .ref ao]) (rest := []) ⟨hx, hb, hml, hown, hts⟩ (h_addPeriod l hflg g (wM (gMo g aM) τ ++ []) H.size σ ao ad ov dv x1 x2 x3 x4 x5 hI.okC hI.okM hx1 hx2 hx3 hx4 hx5) (vx_cwSW 7 hts gL_law_L_addPeriod rfl rfl rfl (by decide +kernel) ⟨Nat.le_of_ble_eq_true rfl, Nat.le_of_ble_eq_true rfl⟩) (okHS hK (lw_P3 hP) (lw_D3 hD) hZ hS hAA) rfl rfl hl.1 rfl (lv_room (Nat.le_of_ble_eq_true rfl)) dL_law_1519 ⟨by show cells + 2 ≤ 603072; omega, by show slots + 12 ≤ 7170154; omega⟩) (lw_D3 hD) hS hAA (fun r z H locs hr hP hD hS => ?_)
  have hP := lw_P4 hP
  have hD := lw_D4 hD
  refine lv_istore (lv' := ((6, .int r) :: LV b g aM ao ad i)) hx hb dL_law_1522 hl (by decide) rfl (fun ls hl => ?_)
  refine lv_aload_n hx hb dL_law_1524 rfl (lv_at hl 3 rfl) ?_
  refine lw_arg C hS hl (List.mem_of_getElem? (i := 1) rfl) (List.mem_of_getElem? (i := 6) rfl) (k := 1) (by decide) (by omega) ex1 dL_law_1525 dL_law_1526 dL_law_1528 dL_law_1529 dL_law_1530 ?_
  refine lw_arg C hS hl (List.mem_of_getElem? (i := 1) rfl) (List.mem_of_getElem? (i := 6) rfl) (k := 2) (by decide) (by omega) ex2 dL_law_1531 dL_law_1532 dL_law_1534 dL_law_1535 dL_law_1536 ?_
  refine lw_arg C hS hl (List.mem_of_getElem? (i := 1) rfl) (List.mem_of_getElem? (i := 6) rfl) (k := 3) (by decide) (by omega) ex3 dL_law_1537 dL_law_1538 dL_law_1540 dL_law_1541 dL_law_1542 ?_
  refine lw_arg C hS hl (List.mem_of_getElem? (i := 1) rfl) (List.mem_of_getElem? (i := 6) rfl) (k := 4) (by decide) (by omega) ex4 dL_law_1543 dL_law_1544 dL_law_1546 dL_law_1547 dL_law_1548 ?_
  refine lw_arg C hS hl (List.mem_of_getElem? (i := 1) rfl) (List.mem_of_getElem? (i := 6) rfl) (k := 5) (by decide) (by omega) ex5 dL_law_1549 dL_law_1550 dL_law_1552 dL_law_1553 dL_law_1554 ?_
  refine jn_calli (va_runV (As := [.int (nI x1), .int (nI x2), .int (nI x3), .int (nI x4), .int (nI x5)]) (rest := []) ⟨hx, hb, hml, hown, hts⟩ (c_X11_addPeriod l (gMo g aM) (wX g ao ad z ++ []) H.size τ x1 x2 x3 x4 x5 hI.mc8 hI.mm4 hI.mm3 hx1 hx2 hx3 hx4 hx5) (cwV 5 hts gL_law_X11_addPeriod rfl rfl rfl (by decide +kernel) ⟨Nat.le_of_ble_eq_true rfl, Nat.le_of_ble_eq_true rfl⟩) (okWV (g := gMo g aM) hK.1.1 (lw_P1 hP) (lw_D1 hD) rfl (gM0 (gMo g aM) τ (wX g ao ad z ++ []))) rfl rfl hl.1 rfl (lv_room (Nat.le_of_ble_eq_true rfl)) dL_law_1555 ⟨by show cells + 2 + 0 ≤ 603072; omega, by show slots + 12 + 0 ≤ 7170154; omega⟩) (lw_D1 hD) hS hAA (fun v2 u H locs hw hP hD hS => ?_)
  obtain ⟨r0, th, ch, nw, kp⟩ := u
  obtain ⟨rfl, hw⟩ := hw
  have hm : RM_addPeriod τ x1 x2 x3 x4 x5 _ (sA (sA (sF (sF τ 0 th) 1 ch) 0 nw) 2 kp) := ⟨r0, th, ch, nw, kp, rfl, hw, rfl⟩
  have hP := lw_P2 (z := z) (τ := (sA (sA (sF (sF τ 0 th) 1 ch) 0 nw) 2 kp)) hP
  have hD := lw_D2 (z := z) (τ := (sA (sA (sF (sF τ 0 th) 1 ch) 0 nw) 2 kp)) hD
  have ht := tie_addPeriod hI hr hm
  refine lv_istore (lv' := ((7, .int (nI (r0))) :: (6, .int r) :: LV b g aM ao ad i)) hx hb dL_law_1558 hl (by decide) rfl (fun ls hl => ?_)
  refine lw_thrown C gL_law_X11_thrown ⟨Nat.le_of_ble_eq_true rfl, Nat.le_of_ble_eq_true rfl⟩ ⟨by show cells + 2 + 0 ≤ 603072; omega, by show slots + 12 + 0 ≤ 7170154; omega⟩ hP hl (List.mem_of_getElem? (i := 4) rfl) (List.mem_of_getElem? (i := 1) rfl) ht.1 dL_law_1560 dL_law_1561 dL_law_1564 dL_law_1566 ?_ (Nat.le_of_ble_eq_true rfl)
  refine lw_cmpI C hP hl (List.mem_of_getElem? (i := 5) rfl) (List.mem_of_getElem? (i := 1) rfl) (List.mem_of_getElem? (i := 0) rfl) ht.2.1 dL_law_1571 dL_law_1573 dL_law_1576 dL_law_1577 dL_law_1578 dL_law_1579 dL_law_1581 dL_law_1582 dL_law_1583 ?_
  refine lv_goto (tgt := 2501) hx hb dL_law_1588 (by decide) ?_
  exact lw_end (z := z) kk (by omega) (by omega) ht.2.2 hP hD hS hl (fun _ h => List.mem_cons_of_mem _ (List.mem_cons_of_mem _ (h)))

set_option maxHeartbeats 4000000 in
set_option maxRecDepth 100000 in
theorem lwc_1591 (hflg : l.stackTraces = false) (C : LC p s m c cL_law b L xs A g) (hi : i + 5 < L) (hI : Inv σ τ) (hP : va_P (g.1, g.2.1) vwCl (LW g aM ao ad (σ, ov, dv) τ) H) (hD : va_D A (LW g aM ao ad (σ, ov, dv) τ)) (hS : va_S A s.heap H locs) (hl : lv_has ls 9 (LV b g aM ao ad i)) (hc : cells + 3 ≤ room_1.cells) (hsl : slots + 18 ≤ room_1.slots) (kk : LK p l e s m below meth c cells slots Q A b i ao ad g aM) : W p l e room_1 s m #[Value.ref b] below meth c H locs cells slots Q (F0 m 1591 ls []) := by
  have C0 := C
  obtain ⟨hx, hb, hml, hown, hts, hK, hZ, hX, hbl, hbA, hAA, hL⟩ := C0
  obtain ⟨x1, hx1, ex1⟩ := nI_ex (xs (i + 1))
  obtain ⟨x2, hx2, ex2⟩ := nI_ex (xs (i + 2))
  obtain ⟨x3, hx3, ex3⟩ := nI_ex (xs (i + 3))
  obtain ⟨x4, hx4, ex4⟩ := nI_ex (xs (i + 4))
  obtain ⟨x5, hx5, ex5⟩ := nI_ex (xs (i + 5))
  have hc : cells + 3 ≤ 603072 := hc
  have hsl : slots + 18 ≤ 7170154 := hsl
  refine lv_aload_n hx hb dL_law_1591 rfl (lv_at hl 1 rfl) ?_
  refine lw_arg C hS hl (List.mem_of_getElem? (i := 0) rfl) (List.mem_of_getElem? (i := 5) rfl) (k := 1) (by decide) (by omega) ex1 dL_law_1592 dL_law_1593 dL_law_1595 dL_law_1596 dL_law_1597 ?_
  refine lv_aload_n hx hb dL_law_1598 rfl (lv_at hl 3 rfl) ?_
  refine jI_calli (wf := wH g ao ad (wM (gMo g aM) τ ++ [])) (vx_runSW (As := [.ref (g.2.2.2 0), .int (nI x1), .ref ao]) (rest := []) ⟨hx, hb, hml, hown, hts⟩ (h_clearSet l hflg g (wM (gMo g aM) τ ++ []) H.size σ ao ad ov dv x1 hI.okC hI.okM hx1) (vx_cwSW 3 hts gL_law_L_clearSet rfl rfl rfl (by decide +kernel) ⟨Nat.le_of_ble_eq_true rfl, Nat.le_of_ble_eq_true rfl⟩) (okHS hK (lw_P3 hP) (lw_D3 hD) hZ hS hAA) rfl rfl hl.1 rfl (lv_room (Nat.le_of_ble_eq_true rfl)) dL_law_1599 ⟨by show cells + 1 ≤ 603072; omega, by show slots + 6 ≤ 7170154; omega⟩) (lw_D3 hD) hS hAA (fun r z H locs hr hP hD hS => ?_)
  have hP := lw_P4 hP
  have hD := lw_D4 hD
  refine lv_istore (lv' := ((6, .int r) :: LV b g aM ao ad i)) hx hb dL_law_1602 hl (by decide) rfl (fun ls hl => ?_)
  refine lv_aload_n hx hb dL_law_1604 rfl (lv_at hl 3 rfl) ?_
  refine lw_arg C hS hl (List.mem_of_getElem? (i := 1) rfl) (List.mem_of_getElem? (i := 6) rfl) (k := 1) (by decide) (by omega) ex1 dL_law_1605 dL_law_1606 dL_law_1608 dL_law_1609 dL_law_1610 ?_
  refine jn_calli (va_runV (As := [.int (nI x1)]) (rest := []) ⟨hx, hb, hml, hown, hts⟩ (c_X11_clearSet l (gMo g aM) (wX g ao ad z ++ []) H.size τ x1 hI.mc8 hx1) (cwV 1 hts gL_law_X11_clearSet rfl rfl rfl (by decide +kernel) ⟨Nat.le_of_ble_eq_true rfl, Nat.le_of_ble_eq_true rfl⟩) (okWV (g := gMo g aM) hK.1.1 (lw_P1 hP) (lw_D1 hD) rfl (gM0 (gMo g aM) τ (wX g ao ad z ++ []))) rfl rfl hl.1 rfl (lv_room (Nat.le_of_ble_eq_true rfl)) dL_law_1611 ⟨by show cells + 1 + 0 ≤ 603072; omega, by show slots + 6 + 0 ≤ 7170154; omega⟩) (lw_D1 hD) hS hAA (fun v2 u H locs hw hP hD hS => ?_)
  obtain ⟨r0, th, ch, nw, kp⟩ := u
  obtain ⟨rfl, hw⟩ := hw
  have hm : RM_clearSet τ x1 _ (sA (sA (sF (sF τ 0 th) 1 ch) 0 nw) 2 kp) := ⟨r0, th, ch, nw, kp, rfl, hw, rfl⟩
  have hP := lw_P2 (z := z) (τ := (sA (sA (sF (sF τ 0 th) 1 ch) 0 nw) 2 kp)) hP
  have hD := lw_D2 (z := z) (τ := (sA (sA (sF (sF τ 0 th) 1 ch) 0 nw) 2 kp)) hD
  have ht := tie_clearSet hI hr hm
  refine lv_istore (lv' := ((7, .int (nI (r0))) :: (6, .int r) :: LV b g aM ao ad i)) hx hb dL_law_1614 hl (by decide) rfl (fun ls hl => ?_)
  refine lw_thrown C gL_law_X11_thrown ⟨Nat.le_of_ble_eq_true rfl, Nat.le_of_ble_eq_true rfl⟩ ⟨by show cells + 1 + 0 ≤ 603072; omega, by show slots + 6 + 0 ≤ 7170154; omega⟩ hP hl (List.mem_of_getElem? (i := 4) rfl) (List.mem_of_getElem? (i := 1) rfl) ht.1 dL_law_1616 dL_law_1617 dL_law_1620 dL_law_1622 ?_ (Nat.le_of_ble_eq_true rfl)
  refine lw_cmpI C hP hl (List.mem_of_getElem? (i := 5) rfl) (List.mem_of_getElem? (i := 1) rfl) (List.mem_of_getElem? (i := 0) rfl) ht.2.1 dL_law_1627 dL_law_1629 dL_law_1632 dL_law_1633 dL_law_1634 dL_law_1635 dL_law_1637 dL_law_1638 dL_law_1639 ?_
  refine lv_goto (tgt := 2501) hx hb dL_law_1644 (by decide) ?_
  exact lw_end (z := z) kk (by omega) (by omega) ht.2.2 hP hD hS hl (fun _ h => List.mem_cons_of_mem _ (List.mem_cons_of_mem _ (h)))

set_option maxHeartbeats 4000000 in
set_option maxRecDepth 100000 in
theorem lwc_1647 (hflg : l.stackTraces = false) (C : LC p s m c cL_law b L xs A g) (hi : i + 5 < L) (hI : Inv σ τ) (hP : va_P (g.1, g.2.1) vwCl (LW g aM ao ad (σ, ov, dv) τ) H) (hD : va_D A (LW g aM ao ad (σ, ov, dv) τ)) (hS : va_S A s.heap H locs) (hl : lv_has ls 9 (LV b g aM ao ad i)) (hc : cells + 3 ≤ room_1.cells) (hsl : slots + 18 ≤ room_1.slots) (kk : LK p l e s m below meth c cells slots Q A b i ao ad g aM) : W p l e room_1 s m #[Value.ref b] below meth c H locs cells slots Q (F0 m 1647 ls []) := by
  have C0 := C
  obtain ⟨hx, hb, hml, hown, hts, hK, hZ, hX, hbl, hbA, hAA, hL⟩ := C0
  obtain ⟨x1, hx1, ex1⟩ := nI_ex (xs (i + 1))
  obtain ⟨x2, hx2, ex2⟩ := nI_ex (xs (i + 2))
  obtain ⟨x3, hx3, ex3⟩ := nI_ex (xs (i + 3))
  obtain ⟨x4, hx4, ex4⟩ := nI_ex (xs (i + 4))
  obtain ⟨x5, hx5, ex5⟩ := nI_ex (xs (i + 5))
  have hc : cells + 3 ≤ 603072 := hc
  have hsl : slots + 18 ≤ 7170154 := hsl
  refine lv_aload_n hx hb dL_law_1647 rfl (lv_at hl 1 rfl) ?_
  refine lw_arg C hS hl (List.mem_of_getElem? (i := 0) rfl) (List.mem_of_getElem? (i := 5) rfl) (k := 1) (by decide) (by omega) ex1 dL_law_1648 dL_law_1649 dL_law_1651 dL_law_1652 dL_law_1653 ?_
  refine lw_arg C hS hl (List.mem_of_getElem? (i := 0) rfl) (List.mem_of_getElem? (i := 5) rfl) (k := 2) (by decide) (by omega) ex2 dL_law_1654 dL_law_1655 dL_law_1657 dL_law_1658 dL_law_1659 ?_
  refine lw_arg C hS hl (List.mem_of_getElem? (i := 0) rfl) (List.mem_of_getElem? (i := 5) rfl) (k := 3) (by decide) (by omega) ex3 dL_law_1660 dL_law_1661 dL_law_1663 dL_law_1664 dL_law_1665 ?_
  refine lw_arg C hS hl (List.mem_of_getElem? (i := 0) rfl) (List.mem_of_getElem? (i := 5) rfl) (k := 4) (by decide) (by omega) ex4 dL_law_1666 dL_law_1667 dL_law_1669 dL_law_1670 dL_law_1671 ?_
  refine lv_aload_n hx hb dL_law_1672 rfl (lv_at hl 3 rfl) ?_
  refine jI_calli (wf := wH g ao ad (wM (gMo g aM) τ ++ [])) (vx_runSW (As := [.ref (g.2.2.2 0), .int (nI x1), .int (nI x2), .int (nI x3), .int (nI x4), .ref ao]) (rest := []) ⟨hx, hb, hml, hown, hts⟩ (h_contains l hflg g (wM (gMo g aM) τ ++ []) H.size σ ao ad ov dv x1 x2 x3 x4 hI.okC hx1 hx2 hx3 hx4) (vx_cwSW 6 hts gL_law_L_contains rfl rfl rfl (by decide +kernel) ⟨Nat.le_of_ble_eq_true rfl, Nat.le_of_ble_eq_true rfl⟩) (okHS hK (lw_P3 hP) (lw_D3 hD) hZ hS hAA) rfl rfl hl.1 rfl (lv_room (Nat.le_of_ble_eq_true rfl)) dL_law_1673 ⟨by show cells + 2 ≤ 603072; omega, by show slots + 12 ≤ 7170154; omega⟩) (lw_D3 hD) hS hAA (fun r z H locs hr hP hD hS => ?_)
  have hP := lw_P4 hP
  have hD := lw_D4 hD
  refine lv_istore (lv' := ((6, .int r) :: LV b g aM ao ad i)) hx hb dL_law_1676 hl (by decide) rfl (fun ls hl => ?_)
  refine lv_aload_n hx hb dL_law_1678 rfl (lv_at hl 3 rfl) ?_
  refine lw_arg C hS hl (List.mem_of_getElem? (i := 1) rfl) (List.mem_of_getElem? (i := 6) rfl) (k := 1) (by decide) (by omega) ex1 dL_law_1679 dL_law_1680 dL_law_1682 dL_law_1683 dL_law_1684 ?_
  refine lw_arg C hS hl (List.mem_of_getElem? (i := 1) rfl) (List.mem_of_getElem? (i := 6) rfl) (k := 2) (by decide) (by omega) ex2 dL_law_1685 dL_law_1686 dL_law_1688 dL_law_1689 dL_law_1690 ?_
  refine lw_arg C hS hl (List.mem_of_getElem? (i := 1) rfl) (List.mem_of_getElem? (i := 6) rfl) (k := 3) (by decide) (by omega) ex3 dL_law_1691 dL_law_1692 dL_law_1694 dL_law_1695 dL_law_1696 ?_
  refine lw_arg C hS hl (List.mem_of_getElem? (i := 1) rfl) (List.mem_of_getElem? (i := 6) rfl) (k := 4) (by decide) (by omega) ex4 dL_law_1697 dL_law_1698 dL_law_1700 dL_law_1701 dL_law_1702 ?_
  refine jn_calli (va_runV (As := [.int (nI x1), .int (nI x2), .int (nI x3), .int (nI x4)]) (rest := []) ⟨hx, hb, hml, hown, hts⟩ (c_X11_contains l (gMo g aM) (wX g ao ad z ++ []) H.size τ x1 x2 x3 x4 hI.okS hx1 hx2 hx3 hx4) (cwV 4 hts gL_law_X11_contains rfl rfl rfl (by decide +kernel) ⟨Nat.le_of_ble_eq_true rfl, Nat.le_of_ble_eq_true rfl⟩) (okWV (g := gMo g aM) hK.1.1 (lw_P1 hP) (lw_D1 hD) rfl (gM0 (gMo g aM) τ (wX g ao ad z ++ []))) rfl rfl hl.1 rfl (lv_room (Nat.le_of_ble_eq_true rfl)) dL_law_1703 ⟨by show cells + 2 + 0 ≤ 603072; omega, by show slots + 12 + 0 ≤ 7170154; omega⟩) (lw_D1 hD) hS hAA (fun v2 u H locs hw hP hD hS => ?_)
  obtain ⟨r0, th⟩ := u
  obtain ⟨rfl, hw⟩ := hw
  have hm : RM_contains τ x1 x2 x3 x4 _ (sF τ 0 th) := ⟨r0, th, rfl, hw, rfl⟩
  have hP := lw_P2 (z := z) (τ := (sF τ 0 th)) hP
  have hD := lw_D2 (z := z) (τ := (sF τ 0 th)) hD
  have ht := tie_contains hI hr hm
  refine lv_istore (lv' := ((7, .int (nI (r0))) :: (6, .int r) :: LV b g aM ao ad i)) hx hb dL_law_1706 hl (by decide) rfl (fun ls hl => ?_)
  refine lw_thrown C gL_law_X11_thrown ⟨Nat.le_of_ble_eq_true rfl, Nat.le_of_ble_eq_true rfl⟩ ⟨by show cells + 2 + 0 ≤ 603072; omega, by show slots + 12 + 0 ≤ 7170154; omega⟩ hP hl (List.mem_of_getElem? (i := 4) rfl) (List.mem_of_getElem? (i := 1) rfl) ht.1 dL_law_1708 dL_law_1709 dL_law_1712 dL_law_1714 ?_ (Nat.le_of_ble_eq_true rfl)
  refine lw_cmpZ C hP hl (List.mem_of_getElem? (i := 5) rfl) (List.mem_of_getElem? (i := 1) rfl) (List.mem_of_getElem? (i := 0) rfl) ht.2.1 dL_law_1719 dL_law_1721 dL_law_1724 dL_law_1725 dL_law_1726 dL_law_1727 dL_law_1729 dL_law_1732 dL_law_1733 dL_law_1736 dL_law_1737 dL_law_1738 ?_
  refine lv_goto (tgt := 2501) hx hb dL_law_1743 (by decide) ?_
  exact lw_end (z := z) kk (by omega) (by omega) ht.2.2 hP hD hS hl (fun _ h => List.mem_cons_of_mem _ (List.mem_cons_of_mem _ (h)))

end LWC
