def R_law : String := "JumpingAutomataLaw"
def lw_P (b : Addr) (xs : List Int32) (args : Array Value) (s : State) : Prop := args = #[.ref b] ∧ s.IntsAt b xs ∧ xs.length ≤ 3072 ∧ (Jvm.Cond.and given_1 narrow_1).before args s = true
/-- what a walk over the start with the record d0 says of its end, said of the start itself -/
theorem lw_closed {s t : State} {o : Outcome} {d0 : Drawn} {L : List Loc} {k n : Nat} (hd0 : s.drawn.sameBut d0 lw_cs) (hv : ∃ v, o = .returned v) (hW : (s.setDrawn d0).WarmedH t.vm) (hs : (s.setDrawn d0).sameButNew ({ t with vm := s.vm } : State) L k n) : State.butDraws s t lw_cs (fun t1 => Framed s o t1 L k n) := by
  have h2 : t.drawn = d0 := congrArg State.drawn hs.1
  refine ⟨⟨hv, hW, State.sameButNew.setDrawn hs s.drawn⟩, ?_, by decide⟩
  rw [h2]
  exact hd0
def lw_Q (_ : Array Value) (s : State) (o : Outcome) (t : State) : Prop := o = .returned (some (.int 1)) ∧ State.butDraws s t lw_cs (fun t1 => Framed s o t1 [] 603072 7170154)
def lw_Z (below : List Frame) (a : Array Value) (s : State) : State → Prop := fun t => ∃ o, t.status = .running ∧ Ended t below o ∧ lw_Q a s o t
/-- the law's own end, with 1 on the stack, nothing written that was there before, its room as the claim has it; d0: the record of draws at this point (at the entry s.drawn: begin with 'refine W.base ?_' and 'have hd0 := Drawn.sameBut.refl s.drawn lw_cs') -/
theorem lw_ret {p : Program} {l : Launch} {e : Env} {s : State} {m : MethodId} {below : List Frame} {meth : Method} {c : Code} {b : Nat} {d0 : Drawn} (hd0 : s.drawn.sameBut d0 lw_cs) (hx : p.tables.exec = Jvm.exec) (hb : c.code = code) (hr : meth.sig.returnType = ret) (hlocks : meth.locks = false) {pc : Nat} {H : Heap} {ls : Array Slot} (hdg : decode code pc = .ok (.ireturn, 1)) : W p l e room_1 (s.setDrawn d0) m #[Value.ref b] below meth c H [] 603072 7170154 (lw_Z below #[Value.ref b] s) (F0 m pc ls [.int 1]) := by
  intro T hT X
  obtain ⟨fs, hret, hrun, hended, hW, hframe⟩ := X.leave (v := some (.int 1)) (hlocks := hlocks) (fun h => by rw [hr] at h; cases h)
  have hmeth' : T.vm.method? m = some meth := X.method'
  refine ⟨T.setFrames fs, ?_, .returned (some (.int 1)), hrun, hended, rfl, lw_closed hd0 ⟨_, rfl⟩ hW hframe⟩
  jvm_step X.here [X.here.top, hx, hb, hdg, hmeth', hr, ret, narrow_b1]
  (try refine ⟨rfl, ?_⟩); (try refine ⟨rfl, ?_⟩)
  first | (intro acts; rw [hret _ acts rfl rfl rfl]) | rw [hret _ _ rfl rfl rfl]
  exact Steps.refl _
/-- what holds at the law's entry: the machine, the code, the tables' words (any of lw_tbl by 'hts w (by decide +kernel)'), the script of L ints xs at the cell b, what the Statement gives of the start (any of its parts by flat_of_before) -/
def lw_At (p : Program) (s : State) (m : MethodId) (meth : Method) (c : Code) (b L : Nat) (xs : Nat → Int32) : Prop :=
  p.tables.exec = Jvm.exec ∧ c.code = code ∧ meth.sig.returnType = ret ∧ c.maxLocals = 9 ∧ s.vm.findClass R_law = some m.cls ∧ (∀ w ∈ lw_tbl, w.before #[Value.ref b] s = true) ∧ va_X b L xs s s.heap ∧ b < s.heap.size ∧ meth.locks = false ∧ (Jvm.Cond.and given_1 narrow_1).before #[Value.ref b] s = true

/-! ===== the law's loop ===== -/
theorem lv_set5 {b ao ad j : Nat} {g : GC} {aM : Nat → Nat} : ∀ q ∈ LV b g aM ao ad j, q ∈ ((5, Value.int (nI j)) :: [(0, .ref b), (1, .ref (g.2.2.2 0)), (2, .ref (aM 0)), (3, .ref ao), (4, .ref ad)]) := by
  intro q hq
  simp only [LV, List.mem_cons, List.not_mem_nil, or_false] at hq ⊢
  rcases hq with h | h | h | h | h | h <;> simp [h]
set_option maxHeartbeats 4000000 in
set_option maxRecDepth 100000 in
theorem lw_loop {p : Program} {l : Launch} {e : Env} {s : State} {m : MethodId} {below : List Frame} {meth : Method} {c : Code} {b L ao ad : Nat} {xs : Nat → Int32} {g : GC} {aM : Nat → Nat} (hflg : l.stackTraces = false) (hr : meth.sig.returnType = ret) (hlocks : meth.locks = false) (C : LC p s m c cL_law b L xs (fun q => s.heap.size ≤ q) g) :
    ∀ (n i : Nat), L + 6 ≤ i + 6 * n → i ≤ L + 5 → ∀ (H : Heap) (locs : List Loc) (cells slots : Nat) (σ τ : SS) (ov : Nat → Int64) (dv : Nat → UInt64) (ls : Array Slot), cells + 3 * n ≤ 603072 → slots + 18 * n ≤ 7170154 → Inv σ τ → va_P (g.1, g.2.1) vwCl (LW g aM ao ad (σ, ov, dv) τ) H → va_D (fun q => s.heap.size ≤ q) (LW g aM ao ad (σ, ov, dv) τ) → va_S (fun q => s.heap.size ≤ q) s.heap H locs → lv_has ls 9 (LV b g aM ao ad i) → W p l e room_1 s m #[Value.ref b] below meth c H locs cells slots (lw_Z below #[Value.ref b] s) (F0 m 28 ls []) := by
  have C0 := C
  obtain ⟨hx, hb, hml, hown, hts, hK, hZ, hX, hbl, hbA, hAA, hL⟩ := C0
  intro n
  induction n with
  | zero =>
    intro i h1 h2
    omega
  | succ n ih =>
    intro i h1 h2 H locs cells slots σ τ ov dv ls hc hs hI hP hD hS hl
    have fin : W p l e room_1 s m #[Value.ref b] below meth c H locs cells slots (lw_Z below #[Value.ref b] s) (F0 m 2507 ls []) := by
      refine lv_iconst (v := 1) hx hb dL_law_2507 (by decide) ?_
      refine va_forget (fun q hq => hS.2.2 q hq) ?_
      refine W.widen (k := 603072) (n := 7170154) (by omega) (by omega) ?_
      exact lw_ret (d0 := s.drawn) (Drawn.sameBut.refl s.drawn lw_cs) hx hb hr hlocks dL_law_2508
    have body : i + 5 < L → W p l e room_1 s m #[Value.ref b] below meth c H locs cells slots (lw_Z below #[Value.ref b] s) (F0 m 38 ls []) := by
      intro hi
      have kk : LK p l e s m below meth c cells slots (lw_Z below #[Value.ref b] s) (fun q => s.heap.size ≤ q) b i ao ad g aM := by
        intro H locs σ τ ov dv ls hI hP hD hS hl
        refine lv_iinc (v := nI (i + 6)) (lv' := ((5, Value.int (nI (i + 6))) :: [(0, .ref b), (1, .ref (g.2.2.2 0)), (2, .ref (aM 0)), (3, .ref ao), (4, .ref ad)])) hx hb dL_law_2501 hl (k := 5) rfl (nI_add i 6) (by decide) rfl (fun ls hl => ?_)
        refine lv_goto (tgt := 28) hx hb dL_law_2504 (by decide) ?_
        exact ih (i + 6) (by omega) (by omega) H locs (cells + 3) (slots + 18) σ τ ov dv ls (by omega) (by omega) hI hP hD hS (lw_sub hl lv_set5)
      refine lv_aload_n hx hb dL_law_38 rfl (lv_at hl 0 rfl) ?_
      refine lv_iload hx hb dL_law_39 (lv_at hl 5 rfl) ?_
      refine va_sld hx hb hX hbl hbA hS (vp_in_nI (show i < L by omega) (by omega)) dL_law_41 ?_
      obtain ⟨k0, hk0, ek0⟩ := nI_ex (xs (nI i).toNatClampNeg)
      rw [ek0]
      refine lv_bipush (v := nI 63) hx hb dL_law_42 (by decide) ?_
      refine jn_iand hx hb dL_law_44 ?_
      have hv : k0 &&& 63 < 64 := Nat.lt_of_le_of_lt Nat.and_le_right (by decide)
      generalize k0 &&& 63 = v at hv ⊢
      have hc1 : cells + 3 ≤ room_1.cells := by show cells + 3 ≤ 603072; omega
      have hs1 : slots + 18 ≤ room_1.slots := by show slots + 18 ≤ 7170154; omega
      rcases (by omega : v = 0 ∨ v = 1 ∨ v = 2 ∨ v = 3 ∨ v = 4 ∨ v = 5 ∨ v = 6 ∨ v = 7 ∨ v = 8 ∨ v = 9 ∨ v = 10 ∨ v = 11 ∨ v = 12 ∨ v = 13 ∨ v = 14 ∨ v = 15 ∨ v = 16 ∨ v = 17 ∨ v = 18 ∨ v = 19 ∨ v = 20 ∨ v = 21 ∨ v = 22 ∨ v = 23 ∨ v = 24 ∨ v = 25 ∨ v = 26 ∨ v = 27 ∨ v = 28 ∨ v = 29 ∨ v = 30 ∨ v = 31 ∨ v = 32 ∨ v = 33 ∨ v = 34 ∨ v = 35 ∨ v = 36 ∨ v = 37 ∨ v = 38 ∨ v = 39 ∨ v = 40 ∨ v = 41 ∨ v = 42 ∨ v = 43 ∨ v = 44 ∨ 44 < v) with h | h | h | h | h | h | h | h | h | h | h | h | h | h | h | h | h | h | h | h | h | h | h | h | h | h | h | h | h | h | h | h | h | h | h | h | h | h | h | h | h | h | h | h | h | h
      · subst h
        refine lv_tableIn (off := 195) (tgt := 240) hx hb dL_law_45 (by decide) (by decide) rfl (by decide) ?_
        exact lwc_240 hflg C hi hI hP hD hS hl hc1 hs1 kk
      · subst h
        refine lv_tableIn (off := 251) (tgt := 296) hx hb dL_law_45 (by decide) (by decide) rfl (by decide) ?_
        exact lwc_296 hflg C hi hI hP hD hS hl hc1 hs1 kk
      · subst h
        refine lv_tableIn (off := 264) (tgt := 309) hx hb dL_law_45 (by decide) (by decide) rfl (by decide) ?_
        exact lwc_309 hflg C hi hI hP hD hS hl hc1 hs1 kk
      · subst h
        refine lv_tableIn (off := 308) (tgt := 353) hx hb dL_law_45 (by decide) (by decide) rfl (by decide) ?_
        exact lwc_353 hflg C hi hI hP hD hS hl hc1 hs1 kk
      · subst h
        refine lv_tableIn (off := 395) (tgt := 440) hx hb dL_law_45 (by decide) (by decide) rfl (by decide) ?_
        exact lwc_440 hflg C hi hI hP hD hS hl hc1 hs1 kk
      · subst h
        refine lv_tableIn (off := 455) (tgt := 500) hx hb dL_law_45 (by decide) (by decide) rfl (by decide) ?_
        exact lwc_500 hflg C hi hI hP hD hS hl hc1 hs1 kk
      · subst h
        refine lv_tableIn (off := 546) (tgt := 591) hx hb dL_law_45 (by decide) (by decide) rfl (by decide) ?_
        exact lwc_591 hflg C hi hI hP hD hS hl hc1 hs1 kk
      · subst h
        refine lv_tableIn (off := 557) (tgt := 602) hx hb dL_law_45 (by decide) (by decide) rfl (by decide) ?_
        exact lwc_602 hflg C hi hI hP hD hS hl hc1 hs1 kk
      · subst h
        refine lv_tableIn (off := 570) (tgt := 615) hx hb dL_law_45 (by decide) (by decide) rfl (by decide) ?_
        exact lwc_615 hflg C hi hI hP hD hS hl hc1 hs1 kk
      · subst h
        refine lv_tableIn (off := 626) (tgt := 671) hx hb dL_law_45 (by decide) (by decide) rfl (by decide) ?_
        exact lwc_671 hflg C hi hI hP hD hS hl hc1 hs1 kk
      · subst h
        refine lv_tableIn (off := 639) (tgt := 684) hx hb dL_law_45 (by decide) (by decide) rfl (by decide) ?_
        exact lwc_684 hflg C hi hI hP hD hS hl hc1 hs1 kk
      · subst h
        refine lv_tableIn (off := 652) (tgt := 697) hx hb dL_law_45 (by decide) (by decide) rfl (by decide) ?_
        exact lwc_697 hflg C hi hI hP hD hS hl hc1 hs1 kk
      · subst h
        refine lv_tableIn (off := 708) (tgt := 753) hx hb dL_law_45 (by decide) (by decide) rfl (by decide) ?_
        exact lwc_753 hflg C hi hI hP hD hS hl hc1 hs1 kk
      · subst h
        refine lv_tableIn (off := 721) (tgt := 766) hx hb dL_law_45 (by decide) (by decide) rfl (by decide) ?_
        exact lwc_766 hflg C hi hI hP hD hS hl hc1 hs1 kk
      · subst h
        refine lv_tableIn (off := 734) (tgt := 779) hx hb dL_law_45 (by decide) (by decide) rfl (by decide) ?_
        exact lwc_779 hflg C hi hI hP hD hS hl hc1 hs1 kk
      · subst h
        refine lv_tableIn (off := 790) (tgt := 835) hx hb dL_law_45 (by decide) (by decide) rfl (by decide) ?_
        exact lwc_835 hflg C hi hI hP hD hS hl hc1 hs1 kk
      · subst h
        refine lv_tableIn (off := 853) (tgt := 898) hx hb dL_law_45 (by decide) (by decide) rfl (by decide) ?_
        exact lwc_898 hflg C hi hI hP hD hS hl hc1 hs1 kk
      · subst h
        refine lv_tableIn (off := 867) (tgt := 912) hx hb dL_law_45 (by decide) (by decide) rfl (by decide) ?_
        exact lwc_912 hflg C hi hI hP hD hS hl hc1 hs1 kk
      · subst h
        refine lv_tableIn (off := 881) (tgt := 926) hx hb dL_law_45 (by decide) (by decide) rfl (by decide) ?_
        exact lwc_926 hflg C hi hI hP hD hS hl hc1 hs1 kk
      · subst h
        refine lv_tableIn (off := 937) (tgt := 982) hx hb dL_law_45 (by decide) (by decide) rfl (by decide) ?_
        exact lwc_982 hflg C hi hI hP hD hS hl hc1 hs1 kk
      · subst h
        refine lv_tableIn (off := 981) (tgt := 1026) hx hb dL_law_45 (by decide) (by decide) rfl (by decide) ?_
        exact lwc_1026 hflg C hi hI hP hD hS hl hc1 hs1 kk
      · subst h
        refine lv_tableIn (off := 1025) (tgt := 1070) hx hb dL_law_45 (by decide) (by decide) rfl (by decide) ?_
        exact lwc_1070 hflg C hi hI hP hD hS hl hc1 hs1 kk
      · subst h
        refine lv_tableIn (off := 1069) (tgt := 1114) hx hb dL_law_45 (by decide) (by decide) rfl (by decide) ?_
        exact lwc_1114 hflg C hi hI hP hD hS hl hc1 hs1 kk
      · subst h
        refine lv_tableIn (off := 1125) (tgt := 1170) hx hb dL_law_45 (by decide) (by decide) rfl (by decide) ?_
        exact lwc_1170 hflg C hi hI hP hD hS hl hc1 hs1 kk
      · subst h
        refine lv_tableIn (off := 1212) (tgt := 1257) hx hb dL_law_45 (by decide) (by decide) rfl (by decide) ?_
        exact lwc_1257 hflg C hi hI hP hD hS hl hc1 hs1 kk
      · subst h
        refine lv_tableIn (off := 1225) (tgt := 1270) hx hb dL_law_45 (by decide) (by decide) rfl (by decide) ?_
        exact lwc_1270 hflg C hi hI hP hD hS hl hc1 hs1 kk
      · subst h
        refine lv_tableIn (off := 1281) (tgt := 1326) hx hb dL_law_45 (by decide) (by decide) rfl (by decide) ?_
        exact lwc_1326 hflg C hi hI hP hD hS hl hc1 hs1 kk
      · subst h
        refine lv_tableIn (off := 1294) (tgt := 1339) hx hb dL_law_45 (by decide) (by decide) rfl (by decide) ?_
        exact lwc_1339 hflg C hi hI hP hD hS hl hc1 hs1 kk
      · subst h
        refine lv_tableIn (off := 1350) (tgt := 1395) hx hb dL_law_45 (by decide) (by decide) rfl (by decide) ?_
        exact lwc_1395 hflg C hi hI hP hD hS hl hc1 hs1 kk
      · subst h
        refine lv_tableIn (off := 1442) (tgt := 1487) hx hb dL_law_45 (by decide) (by decide) rfl (by decide) ?_
        exact lwc_1487 hflg C hi hI hP hD hS hl hc1 hs1 kk
      · subst h
        refine lv_tableIn (off := 1546) (tgt := 1591) hx hb dL_law_45 (by decide) (by decide) rfl (by decide) ?_
        exact lwc_1591 hflg C hi hI hP hD hS hl hc1 hs1 kk
      · subst h
        refine lv_tableIn (off := 1602) (tgt := 1647) hx hb dL_law_45 (by decide) (by decide) rfl (by decide) ?_
        exact lwc_1647 hflg C hi hI hP hD hS hl hc1 hs1 kk
      · subst h
        refine lv_tableIn (off := 1701) (tgt := 1746) hx hb dL_law_45 (by decide) (by decide) rfl (by decide) ?_
        exact lwc_1746 hflg C hi hI hP hD hS hl hc1 hs1 kk
      · subst h
        refine lv_tableIn (off := 1769) (tgt := 1814) hx hb dL_law_45 (by decide) (by decide) rfl (by decide) ?_
        exact lwc_1814 hflg C hi hI hP hD hS hl hc1 hs1 kk
      · subst h
        refine lv_tableIn (off := 1825) (tgt := 1870) hx hb dL_law_45 (by decide) (by decide) rfl (by decide) ?_
        exact lwc_1870 hflg C hi hI hP hD hS hl hc1 hs1 kk
      · subst h
        refine lv_tableIn (off := 1893) (tgt := 1938) hx hb dL_law_45 (by decide) (by decide) rfl (by decide) ?_
        exact lwc_1938 hflg C hi hI hP hD hS hl hc1 hs1 kk
      · subst h
        refine lv_tableIn (off := 1961) (tgt := 2006) hx hb dL_law_45 (by decide) (by decide) rfl (by decide) ?_
        exact lwc_2006 hflg C hi hI hP hD hS hl hc1 hs1 kk
      · subst h
        refine lv_tableIn (off := 2036) (tgt := 2081) hx hb dL_law_45 (by decide) (by decide) rfl (by decide) ?_
        exact lwc_2081 hflg C hi hI hP hD hS hl hc1 hs1 kk
      · subst h
        refine lv_tableIn (off := 2103) (tgt := 2148) hx hb dL_law_45 (by decide) (by decide) rfl (by decide) ?_
        exact lwc_2148 hflg C hi hI hP hD hS hl hc1 hs1 kk
      · subst h
        refine lv_tableIn (off := 2166) (tgt := 2211) hx hb dL_law_45 (by decide) (by decide) rfl (by decide) ?_
        exact lwc_2211 hflg C hi hI hP hD hS hl hc1 hs1 kk
      · subst h
        refine lv_tableIn (off := 2222) (tgt := 2267) hx hb dL_law_45 (by decide) (by decide) rfl (by decide) ?_
        exact lwc_2267 hflg C hi hI hP hD hS hl hc1 hs1 kk
      · subst h
        refine lv_tableIn (off := 2311) (tgt := 2356) hx hb dL_law_45 (by decide) (by decide) rfl (by decide) ?_
        exact lwc_2356 hflg C hi hI hP hD hS hl hc1 hs1 kk
      · subst h
        refine lv_tableIn (off := 2377) (tgt := 2422) hx hb dL_law_45 (by decide) (by decide) rfl (by decide) ?_
        exact lwc_2422 hflg C hi hI hP hD hS hl hc1 hs1 kk
      · subst h
        refine lv_tableIn (off := 2421) (tgt := 2466) hx hb dL_law_45 (by decide) (by decide) rfl (by decide) ?_
        exact lwc_2466 hflg C hi hI hP hD hS hl hc1 hs1 kk
      · subst h
        refine lv_tableIn (off := 2432) (tgt := 2477) hx hb dL_law_45 (by decide) (by decide) rfl (by decide) ?_
        exact lwc_2477 hflg C hi hI hP hD hS hl hc1 hs1 kk
      · refine lv_tableOut (tgt := 2501) hx hb dL_law_45 (Or.inr (by rw [nI_toInt (by omega)]; omega)) (by decide) ?_
        exact lw_end (z := (σ, ov, dv)) kk (by omega) (by omega) hI.1 hP hD hS hl (fun _ h => h)
    refine lv_iload hx hb dL_law_28 (lv_at hl 5 rfl) ?_
    refine lv_aload_n hx hb dL_law_30 rfl (lv_at hl 0 rfl) ?_
    refine va_slen hx hb hX hbl hbA hS dL_law_31 ?_
    refine lv_bipush (v := nI 6) hx hb dL_law_32 (by decide) ?_
    rcases Nat.lt_or_ge L 6 with h6 | h6
    · refine jn_isubW (x := L) hx hb (by omega) dL_law_34 ?_
      exact jn_cgtT (tgt := 2507) hx hb (by omega) (by omega) dL_law_35 (by decide) (fun _ => fin) (fun q => by omega)
    · refine jn_isub (x := L) hx hb h6 dL_law_34 ?_
      exact jn_cgt (tgt := 2507) hx hb (by omega) (by omega) dL_law_35 (by decide) (fun _ => fin) (fun q => body (by omega))
