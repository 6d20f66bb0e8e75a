/-! ===== the law's walk: its world and its steps ===== -/
theorem nI_ex (x : Int32) : ∃ n, n < 4294967296 ∧ x = nI n := ⟨x.toBitVec.toNat, x.toBitVec.isLt, by
  show x = Int32.ofNat x.toBitVec.toNat
  apply Int32.toBitVec_inj.mp
  rw [Int32.toBitVec_ofNat']
  simp⟩
abbrev gMo (g : GC) (aM : Nat → Nat) : GC := (g.1, g.2.1, g.2.2.1, aM)
def wX (g : GC) (ao ad : Nat) (z : HZ) : va_W := wC g z.1 ++ wT g ao ad z.2.1 z.2.2 []
abbrev LW (g : GC) (aM : Nat → Nat) (ao ad : Nat) (z : HZ) (τ : SS) : va_W := wX g ao ad z ++ (wM (gMo g aM) τ ++ [])
theorem wX_H (g : GC) (ao ad : Nat) (z : HZ) (Y : va_W) : wX g ao ad z ++ Y = wH g ao ad Y z := by
  unfold wX wH
  rw [List.append_assoc]
  rfl
/-- the values that stay in the law's frame -/
abbrev LV (b : Nat) (g : GC) (aM : Nat → Nat) (ao ad i : Nat) : List (Nat × Value) := [(0, .ref b), (1, .ref (g.2.2.2 0)), (2, .ref (aM 0)), (3, .ref ao), (4, .ref ad), (5, .int (nI i))]
theorem lw_sub {ls : Array Slot} {n : Nat} {l l2 : List (Nat × Value)} (h : lv_has ls n l) (hs : ∀ q ∈ l2, q ∈ l) : lv_has ls n l2 := ⟨h.1, h.2.1, fun q hq => h.2.2 q (hs q hq)⟩
/-- what holds at every point of the law -/
def LC (p : Program) (s : State) (m : MethodId) (c : Code) (cc : ByteArray) (b L : Nat) (xs : Nat → Int32) (A : Nat → Prop) (g : GC) : Prop :=
  p.tables.exec = Jvm.exec ∧ c.code = cc ∧ c.maxLocals = 9 ∧ s.vm.findClass RL = some m.cls ∧ (∀ w ∈ wsL_law, w.before #[Value.ref b] s = true) ∧ KL g s ∧ ZX A s s.heap ∧ va_X b L xs s s.heap ∧ b < s.heap.size ∧ ¬ A b ∧ (∀ q, s.heap.size ≤ q → A q) ∧ L ≤ 3072
section LWB
variable {p : Program} {l : Launch} {e : Env} {R : Room} {s : State} {m : MethodId} {below : List Frame} {meth : Method} {c : Code} {H : Heap} {locs : List Loc} {cells slots : Nat} {Q : State → Prop}
variable {cc : ByteArray} {pc : Nat} {ls : Array Slot} {rest : List Value} {A : Nat → Prop} {b L i ao ad : Nat} {xs : Nat → Int32} {g : GC} {aM : Nat → Nat} {z : HZ} {τ : SS} {lv : List (Nat × Value)}
/-- one of the script's ints on the stack -/
theorem lw_arg (C : LC p s m c cc b L xs A g) (hS : va_S A s.heap H locs) (hl : lv_has ls 9 lv) (h0 : (0, .ref b) ∈ lv) (h5 : (5, .int (nI i)) ∈ lv) {k : Nat} {kI : Int} (hk : Int32.ofInt kI = nI k) (hi : i + k < L) {x : Nat} (ex : xs (i + k) = nI x)
    (d0 : decode cc pc = .ok (.aload_n 0, 1)) (d1 : decode cc (pc + 1) = .ok (.iload 5, 2)) (d3 : decode cc (pc + 3) = .ok (.iconst kI, 1)) (d4 : decode cc (pc + 4) = .ok (.iadd, 1)) (d5 : decode cc (pc + 5) = .ok (.iaload, 1))
    (kk : W p l e R s m #[Value.ref b] below meth c H locs cells slots Q (F0 m (pc + 6) ls (.int (nI x) :: rest))) : W p l e R s m #[Value.ref b] below meth c H locs cells slots Q (F0 m pc ls rest) := by
  obtain ⟨hx, hb, hml, hown, hts, hK, hZ, hX, hbl, hbA, hAA, hL⟩ := C
  refine lv_aload_n hx hb d0 rfl (hl.2.2 _ h0) ?_
  refine lv_iload hx hb d1 (hl.2.2 _ h5) ?_
  refine lv_iconst hx hb d3 hk ?_
  refine jn_iadd hx hb d4 ?_
  refine va_sld hx hb hX hbl hbA hS (vp_in_nI hi (by omega)) d5 ?_
  rw [nI_clamp (show i + k < 2147483648 by omega), ex]
  exact kk
theorem lw_P1 {D : va_G} {cl : List vw_C} (h : va_P D cl (LW g aM ao ad z τ) H) : va_P D cl (wM (gMo g aM) τ ++ (wX g ao ad z ++ [])) H := pP_blk h
theorem lw_D1 (h : va_D A (LW g aM ao ad z τ)) : va_D A (wM (gMo g aM) τ ++ (wX g ao ad z ++ [])) := dD_blk h
theorem lw_P2 {D : va_G} {cl : List vw_C} (h : va_P D cl (wM (gMo g aM) τ ++ (wX g ao ad z ++ [])) H) : va_P D cl (LW g aM ao ad z τ) H := pP_blk h
theorem lw_D2 (h : va_D A (wM (gMo g aM) τ ++ (wX g ao ad z ++ []))) : va_D A (LW g aM ao ad z τ) := dD_blk h
theorem lw_P3 {D : va_G} {cl : List vw_C} (h : va_P D cl (LW g aM ao ad z τ) H) : va_P D cl (wH g ao ad (wM (gMo g aM) τ ++ []) z) H := by rw [← wX_H]; exact h
theorem lw_D3 (h : va_D A (LW g aM ao ad z τ)) : va_D A (wH g ao ad (wM (gMo g aM) τ ++ []) z) := by rw [← wX_H]; exact h
theorem lw_P4 {D : va_G} {cl : List vw_C} (h : va_P D cl (wH g ao ad (wM (gMo g aM) τ ++ []) z) H) : va_P D cl (LW g aM ao ad z τ) H := by rw [← wX_H] at h; exact h
theorem lw_D4 (h : va_D A (wH g ao ad (wM (gMo g aM) τ ++ []) z)) : va_D A (LW g aM ao ad z τ) := by rw [← wX_H] at h; exact h
/-- the round's end: the class's row of targets is thought of as the reference's -/
theorem lw_PN {D : va_G} {cl : List vw_C} {σ : SS} {ov : Nat → Int64} {dv : Nat → UInt64} (h : InvW σ τ) (hP : va_P D cl (LW g aM ao ad (σ, ov, dv) τ) H) : va_P D cl (LW g aM ao ad (sA σ 0 (τ.2.1 0), ov, dv) τ) H := lw_P4 (wC_norm h (lw_P3 hP))
theorem lw_DN {σ : SS} {ov : Nat → Int64} {dv : Nat → UInt64} (h : InvW σ τ) (hD : va_D A (LW g aM ao ad (σ, ov, dv) τ)) : va_D A (LW g aM ao ad (sA σ 0 (τ.2.1 0), ov, dv) τ) := lw_D4 (dC_norm (lw_D3 hD))
/-- after both calls: the reference's throw is asked for, and is the helper's number -/
theorem lw_thrown (C : LC p s m c cc b L xs A g) {ix : Nat} (hg : GoodIn wsL_law (wsV RL ix RX11 yX11_thrown wsX11_thrown)) (hR : 3 ≤ R.frames ∧ 60 ≤ R.locals) (hR2 : cells ≤ R.cells ∧ slots ≤ R.slots) (hP : va_P (g.1, g.2.1) vwCl (LW g aM ao ad z τ) H) (hl : lv_has ls 9 lv) (h2 : (2, .ref (aM 0)) ∈ lv) {r : Int32} (h6 : (6, .int r) ∈ lv) (hr : r = nI (τ.1 0))
    (d0 : decode cc pc = .ok (.aload_n 2, 1)) (d1 : decode cc (pc + 1) = .ok (.invokevirtual ix, 3)) (d4 : decode cc (pc + 4) = .ok (.iload 6, 2)) (d6 : decode cc (pc + 6) = .ok (.if_icmp .eq 5, 3))
    (kk : W p l e R s m #[Value.ref b] below meth c H locs cells slots Q (F0 m (pc + 11) ls rest)) (hrest : (rest.map fun v => v.category).sum ≤ 8) : W p l e R s m #[Value.ref b] below meth c H locs cells slots Q (F0 m pc ls rest) := by
  obtain ⟨hx, hb, hml, hown, hts, hK, hZ, hX, hbl, hbA, hAA, hL⟩ := C
  refine lv_aload_n hx hb d0 rfl (hl.2.2 _ h2) ?_
  refine vp_callSi (va_Run.run (va_runV (As := []) (rest := rest) ⟨hx, hb, hml, hown, hts⟩ (c_X11_thrown l (gMo g aM) (wX g ao ad z ++ []) τ) (cwV 0 hts hg rfl rfl rfl (by decide +kernel) ⟨Nat.le_trans (Nat.le_of_ble_eq_true rfl) hR.1, Nat.le_trans (Nat.le_of_ble_eq_true rfl) hR.2⟩) (okPV (g := gMo g aM) hK.1.1 (lw_P1 hP) rfl (gM0 (gMo g aM) τ (wX g ao ad z ++ []))) rfl rfl hl.1 rfl (lv_room hrest) d1 hR2)) (fun r2 h_2 => ?_)
  subst h_2
  refine lv_iload hx hb d4 (hl.2.2 _ h6) ?_
  refine lv_icmp_eq (tgt := pc + 11) hx hb d6 (by omega) (fun _ => kk) (fun q => absurd hr.symm q)
/-- the answers are compared: a long and an int -/
theorem lw_cmpI (C : LC p s m c cc b L xs A g) (hP : va_P (g.1, g.2.1) vwCl (LW g aM ao ad z τ) H) (hl : lv_has ls 9 lv) (h3 : (3, .ref ao) ∈ lv) {r v : Int32} (h6 : (6, .int r) ∈ lv) (h7 : (7, .int v) ∈ lv) (hr : r = nI 0 → z.2.1 0 = v.toInt64)
    (d0 : decode cc pc = .ok (.iload 6, 2)) (d2 : decode cc (pc + 2) = .ok (.ifCond .ne 15, 3)) (d5 : decode cc (pc + 5) = .ok (.aload_n 3, 1)) (d6 : decode cc (pc + 6) = .ok (.iconst 0, 1)) (d7 : decode cc (pc + 7) = .ok (.laload, 1)) (d8 : decode cc (pc + 8) = .ok (.iload 7, 2)) (d10 : decode cc (pc + 10) = .ok (.i2l, 1)) (d11 : decode cc (pc + 11) = .ok (.lcmp, 1)) (d12 : decode cc (pc + 12) = .ok (.ifCond .eq 5, 3))
    (kk : W p l e R s m #[Value.ref b] below meth c H locs cells slots Q (F0 m (pc + 17) ls [])) : W p l e R s m #[Value.ref b] below meth c H locs cells slots Q (F0 m pc ls []) := by
  obtain ⟨hx, hb, hml, hown, hts, hK, hZ, hX, hbl, hbA, hAA, hL⟩ := C
  refine lv_iload hx hb d0 (hl.2.2 _ h6) ?_
  refine lv_if_ne (tgt := pc + 17) hx hb d2 (by omega) (fun _ => kk) (fun q => ?_)
  refine lv_aload_n hx hb d5 rfl (hl.2.2 _ h3) ?_
  refine lv_iconst (v := nI 0) hx hb d6 (by decide) ?_
  refine va_lald hx hb hK.1.1.1 (lw_P3 hP) 42 1 (gT42 g z.1 ao ad z.2.1 z.2.2 _) rfl (vp_in_nI (by decide) (by decide)) d7 ?_
  refine lv_iload hx hb d8 (hl.2.2 _ h7) ?_
  refine lv_i2l hx hb d10 rfl ?_
  refine jn_lcmp hx hb d11 ?_
  refine lv_if_eq (tgt := pc + 17) hx hb d12 (by omega) (fun _ => kk) (fun w => absurd ((cmpL_eq _ _).mpr ?_) w)
  exact hr q
/-- a long and a truth -/
theorem lw_cmpZ (C : LC p s m c cc b L xs A g) (hP : va_P (g.1, g.2.1) vwCl (LW g aM ao ad z τ) H) (hl : lv_has ls 9 lv) (h3 : (3, .ref ao) ∈ lv) {r : Int32} {v : Nat} (h6 : (6, .int r) ∈ lv) (h7 : (7, .int (nI v)) ∈ lv) (hr : r = nI 0 → v < 2 ∧ z.2.1 0 = if v ≠ 0 then 1 else 0)
    (d0 : decode cc pc = .ok (.iload 6, 2)) (d2 : decode cc (pc + 2) = .ok (.ifCond .ne 22, 3)) (d5 : decode cc (pc + 5) = .ok (.aload_n 3, 1)) (d6 : decode cc (pc + 6) = .ok (.iconst 0, 1)) (d7 : decode cc (pc + 7) = .ok (.laload, 1)) (d8 : decode cc (pc + 8) = .ok (.iload 7, 2)) (d10 : decode cc (pc + 10) = .ok (.ifCond .eq 7, 3)) (d13 : decode cc (pc + 13) = .ok (.lconst 1, 1)) (d14 : decode cc (pc + 14) = .ok (.goto 4, 3)) (d17 : decode cc (pc + 17) = .ok (.lconst 0, 1)) (d18 : decode cc (pc + 18) = .ok (.lcmp, 1)) (d19 : decode cc (pc + 19) = .ok (.ifCond .eq 5, 3))
    (kk : W p l e R s m #[Value.ref b] below meth c H locs cells slots Q (F0 m (pc + 24) ls [])) : W p l e R s m #[Value.ref b] below meth c H locs cells slots Q (F0 m pc ls []) := by
  obtain ⟨hx, hb, hml, hown, hts, hK, hZ, hX, hbl, hbA, hAA, hL⟩ := C
  refine lv_iload hx hb d0 (hl.2.2 _ h6) ?_
  refine lv_if_ne (tgt := pc + 24) hx hb d2 (by omega) (fun _ => kk) (fun q => ?_)
  obtain ⟨hv, he⟩ := hr q
  refine lv_aload_n hx hb d5 rfl (hl.2.2 _ h3) ?_
  refine lv_iconst (v := nI 0) hx hb d6 (by decide) ?_
  refine va_lald hx hb hK.1.1.1 (lw_P3 hP) 42 1 (gT42 g z.1 ao ad z.2.1 z.2.2 _) rfl (vp_in_nI (by decide) (by decide)) d7 ?_
  refine lv_iload hx hb d8 (hl.2.2 _ h7) ?_
  refine jn_zeq (tgt := pc + 17) hx hb (by omega) d10 (by omega) (fun w => ?_) (fun w => ?_)
  · refine lv_lconst (v := 0) hx hb d17 rfl ?_
    refine jn_lcmp hx hb d18 ?_
    refine lv_if_eq (tgt := pc + 24) hx hb d19 (by omega) (fun _ => kk) (fun y => absurd ((cmpL_eq _ _).mpr ?_) y)
    rw [if_neg (fun y => y w)] at he
    exact he
  · refine lv_lconst (v := 1) hx hb d13 rfl ?_
    refine lv_goto (tgt := pc + 18) hx hb d14 (by omega) ?_
    refine jn_lcmp hx hb d18 ?_
    refine lv_if_eq (tgt := pc + 24) hx hb d19 (by omega) (fun _ => kk) (fun y => absurd ((cmpL_eq _ _).mpr ?_) y)
    rw [if_pos w] at he
    exact he
/-- two longs -/
theorem lw_cmpJ (C : LC p s m c cc b L xs A g) (hP : va_P (g.1, g.2.1) vwCl (LW g aM ao ad z τ) H) (hl : lv_has ls 9 lv) (h3 : (3, .ref ao) ∈ lv) {r : Int32} {v : Int64} (h6 : (6, .int r) ∈ lv) (h7 : (7, .long v) ∈ lv) (hr : r = nI 0 → z.2.1 0 = v)
    (d0 : decode cc pc = .ok (.iload 6, 2)) (d2 : decode cc (pc + 2) = .ok (.ifCond .ne 14, 3)) (d5 : decode cc (pc + 5) = .ok (.aload_n 3, 1)) (d6 : decode cc (pc + 6) = .ok (.iconst 0, 1)) (d7 : decode cc (pc + 7) = .ok (.laload, 1)) (d8 : decode cc (pc + 8) = .ok (.lload 7, 2)) (d10 : decode cc (pc + 10) = .ok (.lcmp, 1)) (d11 : decode cc (pc + 11) = .ok (.ifCond .eq 5, 3))
    (kk : W p l e R s m #[Value.ref b] below meth c H locs cells slots Q (F0 m (pc + 16) ls [])) : W p l e R s m #[Value.ref b] below meth c H locs cells slots Q (F0 m pc ls []) := by
  obtain ⟨hx, hb, hml, hown, hts, hK, hZ, hX, hbl, hbA, hAA, hL⟩ := C
  refine lv_iload hx hb d0 (hl.2.2 _ h6) ?_
  refine lv_if_ne (tgt := pc + 16) hx hb d2 (by omega) (fun _ => kk) (fun q => ?_)
  refine lv_aload_n hx hb d5 rfl (hl.2.2 _ h3) ?_
  refine lv_iconst (v := nI 0) hx hb d6 (by decide) ?_
  refine va_lald hx hb hK.1.1.1 (lw_P3 hP) 42 1 (gT42 g z.1 ao ad z.2.1 z.2.2 _) rfl (vp_in_nI (by decide) (by decide)) d7 ?_
  refine lv_lload hx hb d8 (hl.2.2 _ h7) ?_
  refine jn_lcmp hx hb d10 ?_
  refine lv_if_eq (tgt := pc + 16) hx hb d11 (by omega) (fun _ => kk) (fun w => absurd ((cmpL_eq _ _).mpr ?_) w)
  exact hr q
/-- a number as a truth -/
theorem lw_bool (C : LC p s m c cc b L xs A g) {x : Nat} (d0 : decode cc pc = .ok (.ifCond .eq 7, 3)) (d3 : decode cc (pc + 3) = .ok (.iconst 1, 1)) (d4 : decode cc (pc + 4) = .ok (.goto 4, 3)) (d7 : decode cc (pc + 7) = .ok (.iconst 0, 1)) (hx9 : x < 4294967296)
    (kk : W p l e R s m #[Value.ref b] below meth c H locs cells slots Q (F0 m (pc + 8) ls (.int (nI (if x = 0 then 0 else 1)) :: rest))) : W p l e R s m #[Value.ref b] below meth c H locs cells slots Q (F0 m pc ls (.int (nI x) :: rest)) := by
  obtain ⟨hx, hb, hml, hown, hts, hK, hZ, hX, hbl, hbA, hAA, hL⟩ := C
  refine jn_zeq (tgt := pc + 7) hx hb hx9 d0 (by omega) (fun w => ?_) (fun w => ?_)
  · refine lv_iconst (v := nI 0) hx hb d7 (by decide) ?_
    rw [if_pos w] at kk
    exact kk
  · refine lv_iconst (v := nI 1) hx hb d3 (by decide) ?_
    refine lv_goto (tgt := pc + 8) hx hb d4 (by omega) ?_
    rw [if_neg w] at kk
    exact kk
theorem cmp_eq0 {o : CmpOp} : Op.cmpValue (some .eq) o = 0 := by cases o <;> rfl
/-- two doubles -/
theorem lw_cmpD (C : LC p s m c cc b L xs A g) (hP : va_P (g.1, g.2.1) vwCl (LW g aM ao ad z τ) H) (hl : lv_has ls 9 lv) (h4 : (4, .ref ad) ∈ lv) {r : Int32} {v : UInt64} (h6 : (6, .int r) ∈ lv) (h7 : (7, .double v) ∈ lv) (hr : r = nI 0 → z.2.2 0 = v ∧ FP.dcmp v v = some .eq)
    (d0 : decode cc pc = .ok (.iload 6, 2)) (d2 : decode cc (pc + 2) = .ok (.ifCond .ne 35, 3)) (d5 : decode cc (pc + 5) = .ok (.aload 4, 2)) (d7 : decode cc (pc + 7) = .ok (.iconst 0, 1)) (d8 : decode cc (pc + 8) = .ok (.daload, 1)) (d9 : decode cc (pc + 9) = .ok (.dload 7, 2)) {o : CmpOp} (d11 : decode cc (pc + 11) = .ok (.dcmp o, 1)) (d12 : decode cc (pc + 12) = .ok (.ifCond .eq 25, 3))
    (kk : W p l e R s m #[Value.ref b] below meth c H locs cells slots Q (F0 m (pc + 37) ls [])) : W p l e R s m #[Value.ref b] below meth c H locs cells slots Q (F0 m pc ls []) := by
  obtain ⟨hx, hb, hml, hown, hts, hK, hZ, hX, hbl, hbA, hAA, hL⟩ := C
  refine lv_iload hx hb d0 (hl.2.2 _ h6) ?_
  refine lv_if_ne (tgt := pc + 37) hx hb d2 (by omega) (fun _ => kk) (fun q => ?_)
  obtain ⟨he, hd⟩ := hr q
  refine lv_aload hx hb d5 (hl.2.2 _ h4) ?_
  refine lv_iconst (v := nI 0) hx hb d7 (by decide) ?_
  refine va_dald hx hb hK.1.1.1 (lw_P3 hP) 43 4 (gT43 g z.1 ao ad z.2.1 z.2.2 _) rfl (vp_in_nI (by decide) (by decide)) d8 ?_
  refine lv_dload hx hb d9 (hl.2.2 _ h7) ?_
  refine lv_dcmp hx hb d11 ?_
  have e1 : z.2.2 (nI 0).toNatClampNeg = v := he
  rw [e1, hd, cmp_eq0]
  exact lv_if_eq (tgt := pc + 37) hx hb d12 (by omega) (fun _ => kk) (fun y => absurd rfl y)
/-- a double and a float -/
theorem lw_cmpF (C : LC p s m c cc b L xs A g) (hP : va_P (g.1, g.2.1) vwCl (LW g aM ao ad z τ) H) (hl : lv_has ls 9 lv) (h4 : (4, .ref ad) ∈ lv) {r : Int32} {v : UInt32} (h6 : (6, .int r) ∈ lv) (h7 : (7, .float v) ∈ lv) (hr : r = nI 0 → z.2.2 0 = FP.f2d v ∧ vf_n64 (FP.f2d v) ∧ FP.dcmp (FP.f2d v) (FP.f2d v) = some .eq)
    (d0 : decode cc pc = .ok (.iload 6, 2)) (d2 : decode cc (pc + 2) = .ok (.ifCond .ne 36, 3)) (d5 : decode cc (pc + 5) = .ok (.aload 4, 2)) (d7 : decode cc (pc + 7) = .ok (.iconst 0, 1)) (d8 : decode cc (pc + 8) = .ok (.daload, 1)) (d9 : decode cc (pc + 9) = .ok (.fload 7, 2)) (d11 : decode cc (pc + 11) = .ok (.f2d, 1)) {o : CmpOp} (d12 : decode cc (pc + 12) = .ok (.dcmp o, 1)) (d13 : decode cc (pc + 13) = .ok (.ifCond .eq 25, 3))
    (kk : W p l e R s m #[Value.ref b] below meth c H locs cells slots Q (F0 m (pc + 38) ls [])) : W p l e R s m #[Value.ref b] below meth c H locs cells slots Q (F0 m pc ls []) := by
  obtain ⟨hx, hb, hml, hown, hts, hK, hZ, hX, hbl, hbA, hAA, hL⟩ := C
  refine lv_iload hx hb d0 (hl.2.2 _ h6) ?_
  refine lv_if_ne (tgt := pc + 38) hx hb d2 (by omega) (fun _ => kk) (fun q => ?_)
  obtain ⟨he, hn, hd⟩ := hr q
  refine lv_aload hx hb d5 (hl.2.2 _ h4) ?_
  refine lv_iconst (v := nI 0) hx hb d7 (by decide) ?_
  refine va_dald hx hb hK.1.1.1 (lw_P3 hP) 43 4 (gT43 g z.1 ao ad z.2.1 z.2.2 _) rfl (vp_in_nI (by decide) (by decide)) d8 ?_
  refine lv_fload hx hb d9 (hl.2.2 _ h7) ?_
  refine lv_f2d hx hb d11 hn ?_
  refine lv_dcmp hx hb d12 ?_
  have e1 : z.2.2 (nI 0).toNatClampNeg = FP.f2d v := he
  rw [e1, hd, cmp_eq0]
  exact lv_if_eq (tgt := pc + 38) hx hb d13 (by omega) (fun _ => kk) (fun y => absurd rfl y)
end LWB
