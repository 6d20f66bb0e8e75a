theorem st_flat {X : va_W} {a1 a2 a3 a4 a5 a6 a7 a8 a9 a10 a11 a12 a13 a14 a15 a16 u v o : Nat × va_E} : (((o :: ((((((((((((((((X ++ [a1]) ++ [a2]) ++ [a3]) ++ [a4]) ++ [a5]) ++ [a6]) ++ [a7]) ++ [a8]) ++ [a9]) ++ [a10]) ++ [a11]) ++ [a12]) ++ [a13]) ++ [a14]) ++ [a15]) ++ [a16])) ++ [u]) ++ [v]) = [o] ++ (X ++ ([a1, a2, a3, a4, a5, a6, a7, a8, a9, a10, a11, a12, a13, a14, a15, a16] ++ [u, v])) := by simp
theorem st_permP {D : va_G} {cl : List vw_C} {H : Heap} {X : va_W} {a1 a2 a3 a4 a5 a6 a7 a8 a9 a10 a11 a12 a13 a14 a15 a16 u v o : Nat × va_E} (h : va_P D cl (((o :: ((((((((((((((((X ++ [a1]) ++ [a2]) ++ [a3]) ++ [a4]) ++ [a5]) ++ [a6]) ++ [a7]) ++ [a8]) ++ [a9]) ++ [a10]) ++ [a11]) ++ [a12]) ++ [a13]) ++ [a14]) ++ [a15]) ++ [a16])) ++ [u]) ++ [v]) H) : va_P D cl ((X ++ [u, v]) ++ ([o, a1, a2, a3, a4, a5, a6, a7, a8, a9, a10, a11, a12, a13, a14, a15, a16] ++ [])) H := by
  rw [st_flat] at h
  have h3 : va_P D cl (X ++ ([o, a1, a2, a3, a4, a5, a6, a7, a8, a9, a10, a11, a12, a13, a14, a15, a16] ++ [u, v])) H := pP_blk (X := [o]) (Y := X) h
  have h5 : va_P D cl ([o, a1, a2, a3, a4, a5, a6, a7, a8, a9, a10, a11, a12, a13, a14, a15, a16] ++ ((X ++ [u, v]) ++ [])) H := by rw [List.append_nil]; exact pP_blk h3
  exact pP_blk h5
theorem st_permD {A : Nat → Prop} {X : va_W} {a1 a2 a3 a4 a5 a6 a7 a8 a9 a10 a11 a12 a13 a14 a15 a16 u v o : Nat × va_E} (h : va_D A (((o :: ((((((((((((((((X ++ [a1]) ++ [a2]) ++ [a3]) ++ [a4]) ++ [a5]) ++ [a6]) ++ [a7]) ++ [a8]) ++ [a9]) ++ [a10]) ++ [a11]) ++ [a12]) ++ [a13]) ++ [a14]) ++ [a15]) ++ [a16])) ++ [u]) ++ [v])) : va_D A ((X ++ [u, v]) ++ ([o, a1, a2, a3, a4, a5, a6, a7, a8, a9, a10, a11, a12, a13, a14, a15, a16] ++ [])) := by
  rw [st_flat] at h
  have h3 : va_D A (X ++ ([o, a1, a2, a3, a4, a5, a6, a7, a8, a9, a10, a11, a12, a13, a14, a15, a16] ++ [u, v])) := dD_blk (X := [o]) (Y := X) h
  have h5 : va_D A ([o, a1, a2, a3, a4, a5, a6, a7, a8, a9, a10, a11, a12, a13, a14, a15, a16] ++ ((X ++ [u, v]) ++ [])) := by rw [List.append_nil]; exact dD_blk h3
  exact dD_blk h5
set_option maxHeartbeats 8000000 in
set_option maxRecDepth 100000 in
theorem whole_start {p : Program} {e : Env} {s : State} {m : MethodId} {below : List Frame} {meth : Method} {c : Code} (l : Launch) (hflags : l.flags = flags0) {b L : Nat} {xs : Nat → Int32} (hL : L ≤ 3072) (C0 : lw_At p s m meth c b L xs) : W p l e room_1 s m #[Value.ref b] below meth c s.heap [] 0 0 (lw_Z below #[Value.ref b] s) (entryFrame m ([Value.ref b] : List Value).toArray 9) := by
  obtain ⟨hx, hb, hr, hml, hown, htl, hX, hbl, hlocks, hgv⟩ := C0
  have hflg : l.stackTraces = false := by unfold Launch.stackTraces; rw [hflags]; decide +kernel
  have hts : ∀ w ∈ wsL_law, w.before #[Value.ref b] s = true := fun w hw => htl w (wsL_law_in w hw)
  have hAA : ∀ q : Nat, s.heap.size ≤ q → (fun q : Nat => s.heap.size ≤ q) q := fun _ h => h
  have hbA : ¬ (fun q : Nat => s.heap.size ≤ q) b := Nat.not_le.mpr hbl
  obtain ⟨dC, dI, hKc⟩ := st_cls htl
  obtain ⟨cs, hKt⟩ := st_tys htl
  have hM : KM s := st_KM htl
  have hKg : ∀ ad : Nat → Nat, KL (dC, dI, cs, ad) s := fun ad => ⟨⟨⟨⟨hKc, hKt⟩, st_nw htl⟩, st_ex htl, st_str htl hgv, st_dec htl⟩, st_nc hgv, st_cl htl⟩
  have hK : va_K (dC, dI) vwCl (tyL (dC, dI, cs, fun _ => 0)) s := ⟨hKc, hKt⟩
  have hZ : ZX (fun q : Nat => s.heap.size ≤ q) s s.heap := st_Z htl hgv
  have hS : va_S (fun q : Nat => s.heap.size ≤ q) s.heap s.heap [] := va_S.rf
  have hP : va_P (dC, dI) vwCl [] s.heap := fun k q h => by simp at h
  have hD : va_D (fun q : Nat => s.heap.size ≤ q) [] := ⟨fun i j p q h => by simp at h, fun k q h => by simp at h⟩
  have hl := lv_entry ([.ref b]) (n := 9) (Nat.le_of_ble_eq_true rfl)
  rw [lg_entry_eq]
  generalize (lg_sl ([.ref b]) ++ List.replicate (9 - (lg_sl ([.ref b])).length) Slot.unset).toArray = ls at hl ⊢
  have hl : lv_has ls 9 [(0, .ref b)] := hl
  refine va_new (ci := 12) (fs := [.null, .null, .null, .null, .null, .int (nI 0), .null, .null, .null, .null, .null, .null, .null, .null, .int (nI 0)]) (C := RX10) (T := TX10) (N := 15) hx hb htl inX10 tyX10 tyX10_ok hown (htl (.classLink RL 8 RX10) (by decide +kernel)) (htl (.instantiable RX10 15) (by decide +kernel)) (htl (.initialized RX10) (by decide +kernel)) hK hP hD hS hAA rfl (fun j hj => by rcases (show j = 0 ∨ j = 1 ∨ j = 2 ∨ j = 3 ∨ j = 4 ∨ j = 5 ∨ j = 6 ∨ j = 7 ∨ j = 8 ∨ j = 9 ∨ j = 10 ∨ j = 11 ∨ j = 12 ∨ j = 13 ∨ j = 14 by omega) with rfl | rfl | rfl | rfl | rfl | rfl | rfl | rfl | rfl | rfl | rfl | rfl | rfl | rfl | rfl <;> rfl) (Nat.le_of_ble_eq_true rfl) (Nat.le_of_ble_eq_true rfl) dL_law_0 (fun q0 H hP hD hS => ?_)
  have hP : va_P (dC, dI) vwCl [(q0, .inr (12, [.null, .null, .null, .null, .null, .int (nI 0), .null, .null, .null, .null, .null, .null, .null, .null, .int (nI 0)]))] H := hP
  have hD : va_D (fun q : Nat => s.heap.size ≤ q) [(q0, .inr (12, [.null, .null, .null, .null, .null, .int (nI 0), .null, .null, .null, .null, .null, .null, .null, .null, .int (nI 0)]))] := hD
  refine lv_dup hx hb dL_law_3 rfl ?_
  refine jI_callv (va_runI (As := []) (rest := [.ref q0]) ⟨hx, hb, hml, hown, hts⟩ (c_X10_init l (dC, dI, cs, fun _ => 0) H.size q0) (cwI 0 hts gL_law_X10_init rfl rfl rfl (htl (.initialized RX10) (by decide +kernel)) (htl (.methodLink RL 134 yX10_init) (by decide +kernel)) (htl (.instanceMethod yX10_init) (by decide +kernel)) rfl (by decide +kernel) ⟨(Nat.le_of_ble_eq_true rfl), (Nat.le_of_ble_eq_true rfl)⟩) (okIS (g := (dC, dI, cs, fun _ => 0)) (hKg _).1.1 hP hD hM) rfl rfl hl.1 rfl (lv_room (Nat.le_of_ble_eq_true rfl)) dL_law_4 ⟨(Nat.le_of_ble_eq_true rfl), (Nat.le_of_ble_eq_true rfl)⟩) hD hS hAA (fun adC H locs hw hP hD hS => ?_)
  have hw : adC 0 = q0 := hw
  have hP : va_P (dC, dI) vwCl (wC (dC, dI, cs, adC) σ0) H := hP
  have hD : va_D (fun q : Nat => s.heap.size ≤ q) (wC (dC, dI, cs, adC) σ0) := hD
  refine lv_astore_n (lv' := [(1, .ref q0), (0, .ref b)]) hx hb dL_law_7 rfl hl (by decide) rfl (fun ls hl => ?_)
  refine va_new (ci := 13) (fs := [.int (nI 0), .null, .null, .null, .int (nI 0), .int (nI 0), .null, .int (nI 0), .int (nI 0), .int (nI 0), .null, .null, .null, .int (nI 0), .null, .null, .null, .int (nI 0), .int (nI 0), .int (nI 0), .null, .null, .null, .long (lN 0), .int (nI 0), .null, .null, .null, .int (nI 0), .int (nI 0)]) (C := RX11) (T := TX11) (N := 30) hx hb htl inX11 tyX11 tyX11_ok hown (htl (.classLink RL 135 RX11) (by decide +kernel)) (htl (.instantiable RX11 30) (by decide +kernel)) (htl (.initialized RX11) (by decide +kernel)) hK hP hD hS hAA rfl (fun j hj => by rcases (show j = 0 ∨ j = 1 ∨ j = 2 ∨ j = 3 ∨ j = 4 ∨ j = 5 ∨ j = 6 ∨ j = 7 ∨ j = 8 ∨ j = 9 ∨ j = 10 ∨ j = 11 ∨ j = 12 ∨ j = 13 ∨ j = 14 ∨ j = 15 ∨ j = 16 ∨ j = 17 ∨ j = 18 ∨ j = 19 ∨ j = 20 ∨ j = 21 ∨ j = 22 ∨ j = 23 ∨ j = 24 ∨ j = 25 ∨ j = 26 ∨ j = 27 ∨ j = 28 ∨ j = 29 by omega) with rfl | rfl | rfl | rfl | rfl | rfl | rfl | rfl | rfl | rfl | rfl | rfl | rfl | rfl | rfl | rfl | rfl | rfl | rfl | rfl | rfl | rfl | rfl | rfl | rfl | rfl | rfl | rfl | rfl | rfl <;> rfl) (Nat.le_of_ble_eq_true rfl) (Nat.le_of_ble_eq_true rfl) dL_law_8 (fun q1 H hP hD hS => ?_)
  have hP := pP_front hP
  have hD := dD_front hD
  have hP : va_P (dC, dI) vwCl ((q1, .inr (13, [.int (nI 0), .null, .null, .null, .int (nI 0), .int (nI 0), .null, .int (nI 0), .int (nI 0), .int (nI 0), .null, .null, .null, .int (nI 0), .null, .null, .null, .int (nI 0), .int (nI 0), .int (nI 0), .null, .null, .null, .long (lN 0), .int (nI 0), .null, .null, .null, .int (nI 0), .int (nI 0)])) :: wC (dC, dI, cs, adC) σ0) H := hP
  have hD : va_D (fun q : Nat => s.heap.size ≤ q) ((q1, .inr (13, [.int (nI 0), .null, .null, .null, .int (nI 0), .int (nI 0), .null, .int (nI 0), .int (nI 0), .int (nI 0), .null, .null, .null, .int (nI 0), .null, .null, .null, .int (nI 0), .int (nI 0), .int (nI 0), .null, .null, .null, .long (lN 0), .int (nI 0), .null, .null, .null, .int (nI 0), .int (nI 0)])) :: wC (dC, dI, cs, adC) σ0) := hD
  refine lv_dup hx hb dL_law_11 rfl ?_
  refine jI_callv (va_runI (As := []) (rest := [.ref q1]) ⟨hx, hb, hml, hown, hts⟩ (c_X11_init l (dC, dI, cs, fun _ => 0) (wC (dC, dI, cs, adC) σ0) H.size q1) (cwI 0 hts gL_law_X11_init rfl rfl rfl (htl (.initialized RX11) (by decide +kernel)) (htl (.methodLink RL 137 yX11_init) (by decide +kernel)) (htl (.instanceMethod yX11_init) (by decide +kernel)) rfl (by decide +kernel) ⟨(Nat.le_of_ble_eq_true rfl), (Nat.le_of_ble_eq_true rfl)⟩) (okIS (g := (dC, dI, cs, fun _ => 0)) (hKg _).1.1 hP hD hM) rfl rfl hl.1 rfl (lv_room (Nat.le_of_ble_eq_true rfl)) dL_law_12 ⟨(Nat.le_of_ble_eq_true rfl), (Nat.le_of_ble_eq_true rfl)⟩) hD hS hAA (fun u H locs hw2 hP hD hS => ?_)
  obtain ⟨q12, q20, q29, q47, q70, q78, q86, q100, q107, q115, q137, q144, q151, q170, q178, q187⟩ := u
  refine lv_astore_n (lv' := [(2, .ref q1), (1, .ref q0), (0, .ref b)]) hx hb dL_law_15 rfl hl (by decide) rfl (fun ls hl => ?_)
  refine lv_iconst (v := nI 1) hx hb dL_law_16 (by decide) ?_
  refine jI_newa (atype := .long) (ty := .long) (a0 := (1, .inr (.inl (fun _ => lN 0)))) hx hb (htl (.arrayClass .long) (by decide +kernel)) rfl hK 1 rfl hP hD hS hAA (fun _ => rfl) (by decide) (by decide) (Nat.le_of_ble_eq_true rfl) (Nat.le_of_ble_eq_true rfl) (Nat.le_of_ble_eq_true rfl) dL_law_17 (fun ao H hP hD hS => ?_)
  refine lv_astore_n (lv' := [(3, .ref ao), (2, .ref q1), (1, .ref q0), (0, .ref b)]) hx hb dL_law_19 rfl hl (by decide) rfl (fun ls hl => ?_)
  refine lv_iconst (v := nI 1) hx hb dL_law_20 (by decide) ?_
  refine jI_newa (atype := .double) (ty := .double) (a0 := (1, .inr (.inr (.inr (.inl (fun _ => 0)))))) hx hb (htl (.arrayClass .double) (by decide +kernel)) rfl hK 4 rfl hP hD hS hAA (fun _ => rfl) (by decide) (by decide) (Nat.le_of_ble_eq_true rfl) (Nat.le_of_ble_eq_true rfl) (Nat.le_of_ble_eq_true rfl) dL_law_21 (fun ad H hP hD hS => ?_)
  refine lv_astore (lv' := [(4, .ref ad), (3, .ref ao), (2, .ref q1), (1, .ref q0), (0, .ref b)]) hx hb dL_law_23 hl (by decide) rfl (fun ls hl => ?_)
  refine lv_iconst (v := nI 0) hx hb dL_law_25 (by decide) ?_
  refine lv_istore (lv' := [(5, .int (nI 0)), (4, .ref ad), (3, .ref ao), (2, .ref q1), (1, .ref q0), (0, .ref b)]) hx hb dL_law_26 hl (by decide) rfl (fun ls hl => ?_)
  have hP : va_P (dC, dI) vwCl ((((q1, .inr (13, [.int (nI 0), .ref q12, .ref q20, .ref q29, .int (nI 0), .int (nI 0), .ref q47, .int (nI 0), .int (nI 0), .int (nI 4294967295), .ref q70, .ref q78, .ref q86, .int (nI 0), .ref q100, .ref q107, .ref q115, .int (nI 0), .int (nI 0), .int (nI 0), .ref q137, .ref q144, .ref q151, .long (lN 0), .int (nI 0), .ref q170, .ref q178, .ref q187, .int (nI 0), .int (nI 0)])) :: ((((((((((((((((wC (dC, dI, cs, adC) σ0 ++ [(q12, .inl (cs 0, 122, .inl (fun _ => nI 0)))]) ++ [(q20, .inl (cs 0, 122, .inl (fun _ => nI 0)))]) ++ [(q29, .inl (cs 0, 976, .inl (fun _ => nI 0)))]) ++ [(q47, .inl (cs 0, 40, .inl (fun _ => nI 0)))]) ++ [(q70, .inl (cs 0, 16, .inl (fun _ => nI 0)))]) ++ [(q78, .inl (cs 0, 8, .inl (fun _ => nI 0)))]) ++ [(q86, .inl (cs 0, 8, .inl (fun _ => nI 0)))]) ++ [(q100, .inl (cs 0, 1000, .inl (fun _ => nI 0)))]) ++ [(q107, .inl (cs 0, 3, .inl (fun _ => nI 0)))]) ++ [(q115, .inl (cs 0, 8, .inl (fun _ => nI 0)))]) ++ [(q137, .inl (cs 1, 5, .inr (.inl (fun _ => lN 0))))]) ++ [(q144, .inl (cs 1, 5, .inr (.inl (fun _ => lN 0))))]) ++ [(q151, .inl (cs 0, 3, .inl (fun _ => nI 0)))]) ++ [(q170, .inl (cs 0, 10240, .inl (fun _ => nI 0)))]) ++ [(q178, .inl (cs 0, 8, .inl (fun _ => nI 0)))]) ++ [(q187, .inl (cs 2, 1000, .inl (fun _ => nI 0)))])) ++ [(ao, .inl (cs 1, 1, .inr (.inl (fun _ => lN 0))))]) ++ [(ad, .inl (cs 4, 1, .inr (.inr (.inr (.inl (fun _ => 0))))))]) H := hP
  have hD : va_D (fun q : Nat => s.heap.size ≤ q) ((((q1, .inr (13, [.int (nI 0), .ref q12, .ref q20, .ref q29, .int (nI 0), .int (nI 0), .ref q47, .int (nI 0), .int (nI 0), .int (nI 4294967295), .ref q70, .ref q78, .ref q86, .int (nI 0), .ref q100, .ref q107, .ref q115, .int (nI 0), .int (nI 0), .int (nI 0), .ref q137, .ref q144, .ref q151, .long (lN 0), .int (nI 0), .ref q170, .ref q178, .ref q187, .int (nI 0), .int (nI 0)])) :: ((((((((((((((((wC (dC, dI, cs, adC) σ0 ++ [(q12, .inl (cs 0, 122, .inl (fun _ => nI 0)))]) ++ [(q20, .inl (cs 0, 122, .inl (fun _ => nI 0)))]) ++ [(q29, .inl (cs 0, 976, .inl (fun _ => nI 0)))]) ++ [(q47, .inl (cs 0, 40, .inl (fun _ => nI 0)))]) ++ [(q70, .inl (cs 0, 16, .inl (fun _ => nI 0)))]) ++ [(q78, .inl (cs 0, 8, .inl (fun _ => nI 0)))]) ++ [(q86, .inl (cs 0, 8, .inl (fun _ => nI 0)))]) ++ [(q100, .inl (cs 0, 1000, .inl (fun _ => nI 0)))]) ++ [(q107, .inl (cs 0, 3, .inl (fun _ => nI 0)))]) ++ [(q115, .inl (cs 0, 8, .inl (fun _ => nI 0)))]) ++ [(q137, .inl (cs 1, 5, .inr (.inl (fun _ => lN 0))))]) ++ [(q144, .inl (cs 1, 5, .inr (.inl (fun _ => lN 0))))]) ++ [(q151, .inl (cs 0, 3, .inl (fun _ => nI 0)))]) ++ [(q170, .inl (cs 0, 10240, .inl (fun _ => nI 0)))]) ++ [(q178, .inl (cs 0, 8, .inl (fun _ => nI 0)))]) ++ [(q187, .inl (cs 2, 1000, .inl (fun _ => nI 0)))])) ++ [(ao, .inl (cs 1, 1, .inr (.inl (fun _ => lN 0))))]) ++ [(ad, .inl (cs 4, 1, .inr (.inr (.inr (.inl (fun _ => 0))))))]) := hD
  have hP := st_permP hP
  have hD := st_permD hD
  have hP : va_P (dC, dI) vwCl (LW (dC, dI, cs, adC) (fun k => [q1, q12, q20, q29, q47, q70, q78, q86, q100, q107, q115, q137, q144, q151, q170, q178, q187].getD k 0) ao ad (σ0, (fun _ => lN 0), (fun _ => 0)) τ0) H := hP
  have hD : va_D (fun q : Nat => s.heap.size ≤ q) (LW (dC, dI, cs, adC) (fun k => [q1, q12, q20, q29, q47, q70, q78, q86, q100, q107, q115, q137, q144, q151, q170, q178, q187].getD k 0) ao ad (σ0, (fun _ => lN 0), (fun _ => 0)) τ0) := hD
  rw [← hw] at hl
  refine lw_loop (g := (dC, dI, cs, adC)) (aM := (fun k => [q1, q12, q20, q29, q47, q70, q78, q86, q100, q107, q115, q137, q144, q151, q170, q178, q187].getD k 0)) (ao := ao) (ad := ad) hflg hr hlocks ⟨hx, hb, hml, hown, hts, hKg adC, hZ, hX, hbl, hbA, hAA, hL⟩ 513 0 (by omega) (by omega) H _ _ _ σ0 τ0 _ _ ls (Nat.le_of_ble_eq_true rfl) (Nat.le_of_ble_eq_true rfl) inv_0 hP hD hS (lw_sub hl ?_)
  intro q hq
  simp only [LV, List.mem_cons, List.not_mem_nil, or_false] at hq ⊢
  rcases hq with h | h | h | h | h | h <;> simp [h]
set_option maxHeartbeats 4000000 in
theorem lw_walk (l : Launch) (hflags : l.flags = flags0) (b : Addr) (xs : List Int32) : MetFree l x (headSpec (Jvm.Cond.code x code maxLocals ret :: tables_1) room_1) (lw_P b xs) (fun _ _ _ _ _ => True) lw_Q := by
  refine MetFree.of_bodyS (code := code) (maxLocals := maxLocals) (ret := ret) (by decide) ?_ ?_
  · intro args s m h hn
    obtain ⟨meth, c, h1, h2, h3, h4, h5, h6, -, -⟩ := Cond.code_spec hn (atoms_spec (ws := Jvm.Cond.code x code maxLocals ret :: tables_1) h _ List.mem_cons_self)
    exact ⟨meth, c, h1, h2, h3, h4, h5, h6⟩
  · intro p e s m args below meth c s₁ B hml0 hP _
    obtain ⟨rfl, hx, hbd, hgv⟩ := hP
    obtain ⟨scr, harrAt, hlist, hof, hsmall⟩ := hx
    obtain ⟨hcb, hkn, -, -⟩ := State.arrayAt?_spec harrAt
    have hown : s.vm.findClass R_law = some m.cls := findClass_of_methodNamed B.named
    have hts0 : ∀ c ∈ (Jvm.Cond.code x code maxLocals ret :: tables_1), c.before #[Value.ref b] s = true := atoms_spec (ws := Jvm.Cond.code x code maxLocals ret :: tables_1) B.pre
    have hts : ∀ w ∈ lw_tbl, w.before #[Value.ref b] s = true := k2_hts_sels lw_privs (fun w hw => hts0 w (List.mem_cons_of_mem _ hw)) lw_privs_ok
    have hml : c.maxLocals = 9 := B.maxLocals_eq (hts0 _ List.mem_cons_self)
    have X₀ : Stand p l e room_1 s m #[Value.ref b] below meth c s₁ [] 0 0 := Stand.of_body B
    have hh0 : s₁.heap = s.heap := by rw [B.state]; rfl
    have hsz : scr.slots.size = xs.length := by rw [← Array.length_toList, hlist, List.length_map]
    have hval : ∀ j : Nat, j < xs.length → scr.slots[j]? = some (.int (xs.getD j 0)) := fun j hj => by
      rw [← Array.getElem?_toList, hlist]
      simp [hj]
    have hbl : b < s.heap.size := (Array.getElem?_eq_some_iff.mp hcb).1
    have hX : va_X b xs.length (fun j => xs.getD j 0) s s.heap := ⟨scr, hcb, hof, hkn, hsz, hval⟩
    have K : W p l e room_1 s m #[Value.ref b] below meth c s₁.heap [] 0 0 (lw_Z below #[Value.ref b] s) (entryFrame m ([Value.ref b] : List Value).toArray 9) := by
      rw [hh0]
      exact whole_start l hflags hbd ⟨B.exec, B.bytes, B.returns, hml, hown, hts, hX, hbl, B.notSynchronized, hgv⟩
    obtain ⟨t, a1, o, b1, b2, b3⟩ := K s₁ rfl X₀
    exact ⟨t, o, a1, b1, b2, b3⟩
theorem lw_pre_spec {args : Array Value} {s : State} (h : (Jvm.Cond.and given_1 narrow_1).before args s = true) (hr : rest_1_c.before args s = true) : ∃ (b : Addr) (xs : List Int32), lw_P b xs args s := by
  have hs := flat_of_before _ h
  have hq := flat_of_before _ hr
  have hc : (Cond.count 1).before args s = true := hs _ (by decide +kernel)
  have harr : (Cond.arrayOf (.arg 0) .int).before args s = true := hs _ (by decide +kernel)
  have hle : (Cond.le (.length (.arg 0)) (.int 3072)).before args s = true := hs _ (by decide +kernel)
  have hlen : (Cond.isInt (.length (.arg 0))).before args s = true := hq _ (by decide +kernel)
  have hall : (Cond.all (.arg 0) (.isInt (.elem (.arg 0) (.index 0)))).before args s = true := hq _ (by decide +kernel)
  obtain ⟨b, xs, hb, hx⟩ := State.ints_of_pre rfl harr hlen hall
  have hsm : xs.length < 2 ^ 31 := hx.choose_spec.2.2.2
  have hev : (Term.length (.arg 0)).eval args s none [] s = some (.int xs.length.toInt32) := hx.length_eval hb
  have hv := Cond.le_ints hev (show (Term.int 3072).eval args s none [] s = some (.int 3072) from rfl)
  have hd : xs.length.toInt32 ≤ 3072 := by
    simpa [Cond.before, Cond.holds, hv] using hle
  have hN : xs.length ≤ 3072 := (Int32.ofNat_le_ofNat hsm (by decide)).mp (show Int32.ofNat xs.length ≤ Int32.ofNat 3072 from hd)
  exact ⟨b, xs, Cond.one_arg hc (show args[0]? = some (.ref b) from hb), hx, hN, h⟩
theorem lw_comes (l : Launch) (hflags : l.flags = flags0) : Comes l x (Jvm.Cond.code x code maxLocals ret :: tables_1) room_1 (fun tb e args s => Calls_1 tb e args s ∧ rest_1 tb e args s ∧ Pre_1 tb e args s)
    (fun _ _ args s o t => lw_Q args s o t) := by
  intro p e ha hc hk s m args below hf hfit hheap happ hpre
  obtain ⟨b, xs, hP⟩ := lw_pre_spec hpre.2.2 hpre.2.1
  obtain ⟨k, o, h1, h2, h3, hQ⟩ := lw_walk l hflags b xs p e ha hc hk s m args below hf ((Spec.applies_iff_loose hf).mp happ).1 hP trivial
  exact ⟨k, o, h1, h2, h3, hQ⟩
theorem lw_frame {s t : State} {o : Outcome} {args : Array Value} (h : State.butDraws s t lw_cs (fun t1 => Framed s o t1 [] 603072 7170154)) :
    State.butDraws s t [Jvm.Choice.named "NaN.bits"] (fun t1 => Framed s o t1 (fieldLocs frame_1_writes args s ++ arrayLocs frame_1_arrays args s ++ staticLocs frame_1_statics s) 603072 7170154) := h
theorem lw_limb (L : Cond) (hL : ∀ (args : Array Value) (s t : State), L.after args s (.returned (some (.int 1))) t = true) :
    ArmFor flags0 classFile x code maxLocals ret World_1 tables_1 room_1 Calls_1 rest_1 Pre_1
      (fun tb e a s o t => postC L tb e a s o t ∧ State.butDraws s t [Jvm.Choice.named "NaN.bits"] (fun t1 => Framed s o t1 (fieldLocs frame_1_writes a s ++ arrayLocs frame_1_arrays a s ++ staticLocs frame_1_statics s) 603072 7170154)) := by
  intro l hflags _ _ p e ha hc hk s m args below hf hfit hheap happ hpre
  obtain ⟨k, o, h1, h2, h3, rfl, hF⟩ := lw_comes l hflags p e ha hc hk s m args below hf hfit hheap happ hpre
  exact ⟨k, _, h1, h2, h3, hL args s _, lw_frame hF⟩
theorem i_vc : Claimed_1_1 ∧ Claimed_1_2 := ⟨lw_limb limb_1_1 (fun args s t => by simp [limb_1_1, Cond.after, Cond.holds, Cond.value]), lw_limb limb_1_2 (fun args s t => Cond.after_iff.mpr (by
  first | (rw [show limb_1_2 = Cond.eq .result (.int 1) from rfl, Cond.eq_ints (x := 1) (y := 1) rfl rfl]; simp; done) | (simp [limb_1_2, Cond.value, Term.eval]; done)))⟩
