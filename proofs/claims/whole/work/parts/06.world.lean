/-! ===== the worlds of the class and of the reference ===== -/
abbrev GC : Type := (Nat → ClassId) × (Nat → Nat → Nat) × (Nat → ClassId) × (Nat → Nat)
abbrev tyL (g : GC) : List (ClassId × FieldType) := [(g.2.2.1 0, .int), (g.2.2.1 1, .long), (g.2.2.1 2, .boolean), (g.2.2.1 3, .array .int), (g.2.2.1 4, .double)]
def nwL : List Cond := [.methodLinkNest RX10 11 yX0_init "JumpingAutomata", .methodLinkNest RX10 18 yX3_init "JumpingAutomata", .methodLinkNest RX10 25 yX7_init "JumpingAutomata", .methodLinkNest RX10 32 yX1_init "JumpingAutomata", .methodLinkNest RX10 47 yX5_init "JumpingAutomata", .methodLinkNest RX10 57 yX4_init "JumpingAutomata", .methodLinkNest RX10 67 yX6_init "JumpingAutomata", .methodLinkNest RX10 74 yX9_init "JumpingAutomata", .methodLinkNest RX10 81 yX8_init "JumpingAutomata", .methodLinkNest RX10 88 yX2_init "JumpingAutomata", .methodLinkNest RX0 26 yX10_isLetter "JumpingAutomata", .methodLinkNest RX0 22 yX10_isState "JumpingAutomata", .methodLinkNest RX9 62 yX10_isLetter "JumpingAutomata", .methodLinkNest RX5 15 yX10_areDigits "JumpingAutomata", .methodLinkNest RX5 19 yX10_codeOf "JumpingAutomata", .methodLinkNest RX4 21 yX10_firstOf "JumpingAutomata", .methodLinkNest RX4 27 yX10_secondOf "JumpingAutomata", .methodLinkNest RX4 30 yX10_thirdOf "JumpingAutomata", .methodLinkNest RX6 34 yX10_weightOf "JumpingAutomata", .methodLinkNest RX1 43 yX10_isState "JumpingAutomata", .methodLinkNest RX1 47 yX10_isLetter "JumpingAutomata", .methodLinkNest RX1 54 yX10_isTransition "JumpingAutomata", .methodLinkNest RX0 36 yX10_isTransition "JumpingAutomata", .methodLinkNest RX0 49 yX10_codeOf "JumpingAutomata", .methodLinkNest RX3 15 yX10_isSet "JumpingAutomata", .methodLinkNest RX5 59 yX10_firstOf "JumpingAutomata", .methodLinkNest RX5 62 yX10_secondOf "JumpingAutomata", .methodLinkNest RX5 65 yX10_thirdOf "JumpingAutomata", .methodLinkNest RX9 79 yX10_weightOf "JumpingAutomata"]
theorem nw_all {P : Cond → Prop} (h0 : P (.methodLinkNest RX10 11 yX0_init "JumpingAutomata")) (h1 : P (.methodLinkNest RX10 18 yX3_init "JumpingAutomata")) (h2 : P (.methodLinkNest RX10 25 yX7_init "JumpingAutomata")) (h3 : P (.methodLinkNest RX10 32 yX1_init "JumpingAutomata")) (h4 : P (.methodLinkNest RX10 47 yX5_init "JumpingAutomata")) (h5 : P (.methodLinkNest RX10 57 yX4_init "JumpingAutomata")) (h6 : P (.methodLinkNest RX10 67 yX6_init "JumpingAutomata")) (h7 : P (.methodLinkNest RX10 74 yX9_init "JumpingAutomata")) (h8 : P (.methodLinkNest RX10 81 yX8_init "JumpingAutomata")) (h9 : P (.methodLinkNest RX10 88 yX2_init "JumpingAutomata")) (h10 : P (.methodLinkNest RX0 26 yX10_isLetter "JumpingAutomata")) (h11 : P (.methodLinkNest RX0 22 yX10_isState "JumpingAutomata")) (h12 : P (.methodLinkNest RX9 62 yX10_isLetter "JumpingAutomata")) (h13 : P (.methodLinkNest RX5 15 yX10_areDigits "JumpingAutomata")) (h14 : P (.methodLinkNest RX5 19 yX10_codeOf "JumpingAutomata")) (h15 : P (.methodLinkNest RX4 21 yX10_firstOf "JumpingAutomata")) (h16 : P (.methodLinkNest RX4 27 yX10_secondOf "JumpingAutomata")) (h17 : P (.methodLinkNest RX4 30 yX10_thirdOf "JumpingAutomata")) (h18 : P (.methodLinkNest RX6 34 yX10_weightOf "JumpingAutomata")) (h19 : P (.methodLinkNest RX1 43 yX10_isState "JumpingAutomata")) (h20 : P (.methodLinkNest RX1 47 yX10_isLetter "JumpingAutomata")) (h21 : P (.methodLinkNest RX1 54 yX10_isTransition "JumpingAutomata")) (h22 : P (.methodLinkNest RX0 36 yX10_isTransition "JumpingAutomata")) (h23 : P (.methodLinkNest RX0 49 yX10_codeOf "JumpingAutomata")) (h24 : P (.methodLinkNest RX3 15 yX10_isSet "JumpingAutomata")) (h25 : P (.methodLinkNest RX5 59 yX10_firstOf "JumpingAutomata")) (h26 : P (.methodLinkNest RX5 62 yX10_secondOf "JumpingAutomata")) (h27 : P (.methodLinkNest RX5 65 yX10_thirdOf "JumpingAutomata")) (h28 : P (.methodLinkNest RX9 79 yX10_weightOf "JumpingAutomata")) : ∀ w ∈ nwL, P w := by
  unfold nwL
  simp only [List.forall_mem_cons]
  exact ⟨h0, h1, h2, h3, h4, h5, h6, h7, h8, h9, h10, h11, h12, h13, h14, h15, h16, h17, h18, h19, h20, h21, h22, h23, h24, h25, h26, h27, h28, fun _ h => absurd h List.not_mem_nil⟩
def KB (g : GC) (U : State) : Prop := va_K (g.1, g.2.1) vwCl (tyL g) U ∧ ∀ w ∈ nwL, va_Nw w U
theorem nw_moved {s U : State} (hW : s.WarmedH U.vm) (h : ∀ w ∈ nwL, va_Nw w s) : ∀ w ∈ nwL, va_Nw w U :=
  nw_all (P := fun w => va_Nw w U) (va_Nw.warmM hW (h _ (List.mem_of_getElem? (i := 0) rfl))) (va_Nw.warmM hW (h _ (List.mem_of_getElem? (i := 1) rfl))) (va_Nw.warmM hW (h _ (List.mem_of_getElem? (i := 2) rfl))) (va_Nw.warmM hW (h _ (List.mem_of_getElem? (i := 3) rfl))) (va_Nw.warmM hW (h _ (List.mem_of_getElem? (i := 4) rfl))) (va_Nw.warmM hW (h _ (List.mem_of_getElem? (i := 5) rfl))) (va_Nw.warmM hW (h _ (List.mem_of_getElem? (i := 6) rfl))) (va_Nw.warmM hW (h _ (List.mem_of_getElem? (i := 7) rfl))) (va_Nw.warmM hW (h _ (List.mem_of_getElem? (i := 8) rfl))) (va_Nw.warmM hW (h _ (List.mem_of_getElem? (i := 9) rfl))) (va_Nw.warmM hW (h _ (List.mem_of_getElem? (i := 10) rfl))) (va_Nw.warmM hW (h _ (List.mem_of_getElem? (i := 11) rfl))) (va_Nw.warmM hW (h _ (List.mem_of_getElem? (i := 12) rfl))) (va_Nw.warmM hW (h _ (List.mem_of_getElem? (i := 13) rfl))) (va_Nw.warmM hW (h _ (List.mem_of_getElem? (i := 14) rfl))) (va_Nw.warmM hW (h _ (List.mem_of_getElem? (i := 15) rfl))) (va_Nw.warmM hW (h _ (List.mem_of_getElem? (i := 16) rfl))) (va_Nw.warmM hW (h _ (List.mem_of_getElem? (i := 17) rfl))) (va_Nw.warmM hW (h _ (List.mem_of_getElem? (i := 18) rfl))) (va_Nw.warmM hW (h _ (List.mem_of_getElem? (i := 19) rfl))) (va_Nw.warmM hW (h _ (List.mem_of_getElem? (i := 20) rfl))) (va_Nw.warmM hW (h _ (List.mem_of_getElem? (i := 21) rfl))) (va_Nw.warmM hW (h _ (List.mem_of_getElem? (i := 22) rfl))) (va_Nw.warmM hW (h _ (List.mem_of_getElem? (i := 23) rfl))) (va_Nw.warmM hW (h _ (List.mem_of_getElem? (i := 24) rfl))) (va_Nw.warmM hW (h _ (List.mem_of_getElem? (i := 25) rfl))) (va_Nw.warmM hW (h _ (List.mem_of_getElem? (i := 26) rfl))) (va_Nw.warmM hW (h _ (List.mem_of_getElem? (i := 27) rfl))) (va_Nw.warmM hW (h _ (List.mem_of_getElem? (i := 28) rfl)))
theorem nw_blind {U : State} {g : JFrame} {mk : MethodId} {a : Array Value} (h : ∀ w ∈ nwL, va_Nw w U) : ∀ w ∈ nwL, va_Nw w (U.calling g mk a) :=
  nw_all (P := fun w => va_Nw w (U.calling g mk a)) (va_Nw.same rfl rfl (h _ (List.mem_of_getElem? (i := 0) rfl))) (va_Nw.same rfl rfl (h _ (List.mem_of_getElem? (i := 1) rfl))) (va_Nw.same rfl rfl (h _ (List.mem_of_getElem? (i := 2) rfl))) (va_Nw.same rfl rfl (h _ (List.mem_of_getElem? (i := 3) rfl))) (va_Nw.same rfl rfl (h _ (List.mem_of_getElem? (i := 4) rfl))) (va_Nw.same rfl rfl (h _ (List.mem_of_getElem? (i := 5) rfl))) (va_Nw.same rfl rfl (h _ (List.mem_of_getElem? (i := 6) rfl))) (va_Nw.same rfl rfl (h _ (List.mem_of_getElem? (i := 7) rfl))) (va_Nw.same rfl rfl (h _ (List.mem_of_getElem? (i := 8) rfl))) (va_Nw.same rfl rfl (h _ (List.mem_of_getElem? (i := 9) rfl))) (va_Nw.same rfl rfl (h _ (List.mem_of_getElem? (i := 10) rfl))) (va_Nw.same rfl rfl (h _ (List.mem_of_getElem? (i := 11) rfl))) (va_Nw.same rfl rfl (h _ (List.mem_of_getElem? (i := 12) rfl))) (va_Nw.same rfl rfl (h _ (List.mem_of_getElem? (i := 13) rfl))) (va_Nw.same rfl rfl (h _ (List.mem_of_getElem? (i := 14) rfl))) (va_Nw.same rfl rfl (h _ (List.mem_of_getElem? (i := 15) rfl))) (va_Nw.same rfl rfl (h _ (List.mem_of_getElem? (i := 16) rfl))) (va_Nw.same rfl rfl (h _ (List.mem_of_getElem? (i := 17) rfl))) (va_Nw.same rfl rfl (h _ (List.mem_of_getElem? (i := 18) rfl))) (va_Nw.same rfl rfl (h _ (List.mem_of_getElem? (i := 19) rfl))) (va_Nw.same rfl rfl (h _ (List.mem_of_getElem? (i := 20) rfl))) (va_Nw.same rfl rfl (h _ (List.mem_of_getElem? (i := 21) rfl))) (va_Nw.same rfl rfl (h _ (List.mem_of_getElem? (i := 22) rfl))) (va_Nw.same rfl rfl (h _ (List.mem_of_getElem? (i := 23) rfl))) (va_Nw.same rfl rfl (h _ (List.mem_of_getElem? (i := 24) rfl))) (va_Nw.same rfl rfl (h _ (List.mem_of_getElem? (i := 25) rfl))) (va_Nw.same rfl rfl (h _ (List.mem_of_getElem? (i := 26) rfl))) (va_Nw.same rfl rfl (h _ (List.mem_of_getElem? (i := 27) rfl))) (va_Nw.same rfl rfl (h _ (List.mem_of_getElem? (i := 28) rfl)))
theorem KB.moved {g : GC} {s U : State} (hW : s.WarmedH U.vm) (h : KB g s) : KB g U := ⟨va_K.moved hW.alike h.1, nw_moved hW h.2⟩
theorem KB.blind {g : GC} {U : State} {f : JFrame} {mk : MethodId} {a : Array Value} (h : KB g U) : KB g (U.calling f mk a) := ⟨va_K.moved (u := U) (U := U.calling f mk a) (Vm.Alike.refl U.vm) h.1, nw_blind h.2⟩
/-- a read-only method's start -/
def PP (g : GC) (w : va_W) : State → Prop := fun U => va_P (g.1, g.2.1) vwCl w U.heap ∧ KB g U
/-- a writing method's start -/
def PW (g : GC) (w : va_W) (sz : Nat) : State → Prop := fun U => U.heap.size = sz ∧ va_P (g.1, g.2.1) vwCl w U.heap ∧ KB g U ∧ va_D (fun _ => True) w
/-- a writing method's end -/
def BW (g : GC) (A : Nat → Prop) (w : va_W) (t : State) : Prop := va_P (g.1, g.2.1) vwCl w t.heap ∧ va_D A w
theorem fr_all {A0 : Nat → Prop} {ws : va_W} {H0 H : Heap} {locs : List Loc} (hD : va_D A0 ws) (hS : va_S A0 H0 H locs) (hA : ∀ q, H0.size ≤ q → A0 q) : ∀ q, va_A ws H.size q → A0 q := by
  intro q h
  rcases h with ⟨k, e, hk⟩ | h
  · exact hD.2 k _ hk
  · exact hA q (Nat.le_trans hS.1 h)
theorem okPS {s : State} {H : Heap} {g : GC} {w : va_W} {As : List Value} (hK : KB g s) (hP : va_P (g.1, g.2.1) vwCl w H) : PreS s H (va_Pc As (PP g w)) As :=
  ⟨fun a U f mk q => ⟨q.1, q.2.1, q.2.2.blind⟩, fun U hU hW => ⟨rfl, by rw [hU]; exact hP, hK.moved hW⟩⟩
theorem okPV {s : State} {H : Heap} {g : GC} {w : va_W} {As : List Value} {a q0 ci : Nat} {q : vw_C} {fs : List Value} (hK : KB g s) (hP : va_P (g.1, g.2.1) vwCl w H) (hc : vwCl[ci]? = some q) (he : w[q0]? = some (a, .inr (ci, fs))) : PreV s H q.1 a (va_Pc (.ref a :: As) (PP g w)) As :=
  ⟨fun a U f mk q => ⟨q.1, q.2.1, q.2.2.blind⟩, va_recv hK.1 hP hc he, fun U hU hW => ⟨rfl, by rw [hU]; exact hP, hK.moved hW⟩⟩
theorem okWS {s : State} {H : Heap} {g : GC} {w : va_W} {As : List Value} {A : Nat → Prop} (hK : KB g s) (hP : va_P (g.1, g.2.1) vwCl w H) (hD : va_D A w) : PreS s H (va_Pc As (PW g w H.size)) As :=
  ⟨fun a U f mk q => ⟨q.1, q.2.1, q.2.2.1, q.2.2.2.1.blind, q.2.2.2.2⟩, fun U hU hW => ⟨rfl, by rw [hU], by rw [hU]; exact hP, hK.moved hW, hD.weaken (fun _ _ _ _ => trivial)⟩⟩
theorem okWV {s : State} {H : Heap} {g : GC} {w : va_W} {As : List Value} {A : Nat → Prop} {a q0 ci : Nat} {q : vw_C} {fs : List Value} (hK : KB g s) (hP : va_P (g.1, g.2.1) vwCl w H) (hD : va_D A w) (hc : vwCl[ci]? = some q) (he : w[q0]? = some (a, .inr (ci, fs))) : PreV s H q.1 a (va_Pc (.ref a :: As) (PW g w H.size)) As :=
  ⟨fun a U f mk q => ⟨q.1, q.2.1, q.2.2.1, q.2.2.2.1.blind, q.2.2.2.2⟩, va_recv hK.1 hP hc he, fun U hU hW => ⟨rfl, by rw [hU], by rw [hU]; exact hP, hK.moved hW, hD.weaken (fun _ _ _ _ => trivial)⟩⟩
theorem okTS {s : State} {H : Heap} {As : List Value} : PreS s H (va_Pc As (fun _ => True)) As := ⟨fun a U f mk q => ⟨q.1, trivial⟩, fun U hU hW => ⟨rfl, trivial⟩⟩
def wC (g : GC) (σ : SS) : va_W := [
  (g.2.2.2 0, .inr (12, [.ref (g.2.2.2 1), .ref (g.2.2.2 4), .ref (g.2.2.2 6), .ref (g.2.2.2 17), .ref (g.2.2.2 20), .int (nI (σ.1 20)), .ref (g.2.2.2 21), .ref (g.2.2.2 23), .ref (g.2.2.2 25), .ref (g.2.2.2 27), .ref (g.2.2.2 29), .ref (g.2.2.2 30), .ref (g.2.2.2 35), .ref (g.2.2.2 36), .int (nI (σ.1 21))])),
  (g.2.2.2 1, .inr (2, [.ref (g.2.2.2 2), .ref (g.2.2.2 3), .int (nI (σ.1 0))])),
  (g.2.2.2 2, .inl (g.2.2.1 0, 15, .inl (fun k => nI (σ.2.1 0 k)))),
  (g.2.2.2 3, .inl (g.2.2.1 0, 96, .inl (fun k => nI (σ.2.1 1 k)))),
  (g.2.2.2 4, .inr (5, [.ref (g.2.2.2 5)])),
  (g.2.2.2 5, .inl (g.2.2.1 0, 42, .inl (fun k => nI (σ.2.1 2 k)))),
  (g.2.2.2 6, .inr (9, [.ref (g.2.2.2 7), .ref (g.2.2.2 16), .int (nI (σ.1 9)), .int (nI (σ.1 10)), .int (nI (σ.1 11))])),
  (g.2.2.2 7, .inl (g.2.2.1 3, 8, .inr (.inr (.inr (.inr (fun i => if i < 8 then some (g.2.2.2 (8 + i)) else none)))))),
  (g.2.2.2 8, .inl (g.2.2.1 0, 58, .inl (fun k => nI (σ.2.2 2 k)))),
  (g.2.2.2 9, .inl (g.2.2.1 0, 58, .inl (fun k => nI (σ.2.2 3 k)))),
  (g.2.2.2 10, .inl (g.2.2.1 0, 58, .inl (fun k => nI (σ.2.2 4 k)))),
  (g.2.2.2 11, .inl (g.2.2.1 0, 58, .inl (fun k => nI (σ.2.2 5 k)))),
  (g.2.2.2 12, .inl (g.2.2.1 0, 58, .inl (fun k => nI (σ.2.2 6 k)))),
  (g.2.2.2 13, .inl (g.2.2.1 0, 58, .inl (fun k => nI (σ.2.2 7 k)))),
  (g.2.2.2 14, .inl (g.2.2.1 0, 58, .inl (fun k => nI (σ.2.2 8 k)))),
  (g.2.2.2 15, .inl (g.2.2.1 0, 58, .inl (fun k => nI (σ.2.2 9 k)))),
  (g.2.2.2 16, .inl (g.2.2.1 0, 58, .inl (fun k => nI (σ.2.2 10 k)))),
  (g.2.2.2 17, .inr (3, [.ref (g.2.2.2 18), .int (nI (σ.1 1)), .int (nI (σ.1 2)), .ref (g.2.2.2 19), .int (nI (σ.1 3))])),
  (g.2.2.2 18, .inl (g.2.2.1 0, 40, .inl (fun k => nI (σ.2.1 12 k)))),
  (g.2.2.2 19, .inl (g.2.2.1 0, 15, .inl (fun k => nI (σ.2.1 13 k)))),
  (g.2.2.2 20, .inl (g.2.2.1 0, 8, .inl (fun k => nI (σ.2.1 14 k)))),
  (g.2.2.2 21, .inr (7, [.ref (g.2.2.2 22)])),
  (g.2.2.2 22, .inl (g.2.2.1 0, 1000, .inl (fun k => nI (σ.2.1 15 k)))),
  (g.2.2.2 23, .inr (7, [.ref (g.2.2.2 24)])),
  (g.2.2.2 24, .inl (g.2.2.1 0, 1000, .inl (fun k => nI (σ.2.1 16 k)))),
  (g.2.2.2 25, .inr (6, [.ref (g.2.2.2 26), .int (nI (σ.1 6))])),
  (g.2.2.2 26, .inl (g.2.2.1 0, 56, .inl (fun k => nI (σ.2.1 17 k)))),
  (g.2.2.2 27, .inr (6, [.ref (g.2.2.2 28), .int (nI (σ.1 7))])),
  (g.2.2.2 28, .inl (g.2.2.1 0, 56, .inl (fun k => nI (σ.2.1 18 k)))),
  (g.2.2.2 29, .inr (8, [.int (nI (σ.1 8))])),
  (g.2.2.2 30, .inr (11, [.ref (g.2.2.2 31), .ref (g.2.2.2 32), .int (nI (σ.1 17)), .int (nI (σ.1 18)), .int (nI (σ.1 19)), .ref (g.2.2.2 33), .ref (g.2.2.2 34)])),
  (g.2.2.2 31, .inl (g.2.2.1 0, 8, .inl (fun k => nI (σ.2.1 19 k)))),
  (g.2.2.2 32, .inl (g.2.2.1 0, 3, .inl (fun k => nI (σ.2.1 20 k)))),
  (g.2.2.2 33, .inl (g.2.2.1 1, 32, .inr (.inl (fun k => lN (σ.2.2 0 k))))),
  (g.2.2.2 34, .inl (g.2.2.1 1, 32, .inr (.inl (fun k => lN (σ.2.2 1 k))))),
  (g.2.2.2 35, .inr (10, [.int (nI (σ.1 12)), .int (nI (σ.1 13)), .int (nI (σ.1 14)), .int (nI (σ.1 15)), .int (nI (σ.1 16))])),
  (g.2.2.2 36, .inr (4, [.ref (g.2.2.2 37), .ref (g.2.2.2 38), .ref (g.2.2.2 39), .ref (g.2.2.2 40), .int (nI (σ.1 4)), .ref (g.2.2.2 41), .int (nI (σ.1 5))])),
  (g.2.2.2 37, .inl (g.2.2.1 0, 2048, .inl (fun k => nI (σ.2.1 21 k)))),
  (g.2.2.2 38, .inl (g.2.2.1 0, 256, .inl (fun k => nI (σ.2.1 22 k)))),
  (g.2.2.2 39, .inl (g.2.2.1 0, 8, .inl (fun k => nI (σ.2.1 23 k)))),
  (g.2.2.2 40, .inl (g.2.2.1 0, 8, .inl (fun k => nI (σ.2.1 24 k)))),
  (g.2.2.2 41, .inl (g.2.2.1 0, 8, .inl (fun k => nI (σ.2.1 25 k))))]
theorem gC0 (g : GC) (σ : SS) (tl : va_W) : (wC g σ ++ tl)[0]? = some (g.2.2.2 0, .inr (12, [.ref (g.2.2.2 1), .ref (g.2.2.2 4), .ref (g.2.2.2 6), .ref (g.2.2.2 17), .ref (g.2.2.2 20), .int (nI (σ.1 20)), .ref (g.2.2.2 21), .ref (g.2.2.2 23), .ref (g.2.2.2 25), .ref (g.2.2.2 27), .ref (g.2.2.2 29), .ref (g.2.2.2 30), .ref (g.2.2.2 35), .ref (g.2.2.2 36), .int (nI (σ.1 21))])) := rfl
theorem uC_F20 (g : GC) (σ : SS) (tl : va_W) (v : Nat) : (wC g σ ++ tl).set 0 (g.2.2.2 0, .inr (12, ([.ref (g.2.2.2 1), .ref (g.2.2.2 4), .ref (g.2.2.2 6), .ref (g.2.2.2 17), .ref (g.2.2.2 20), .int (nI (σ.1 20)), .ref (g.2.2.2 21), .ref (g.2.2.2 23), .ref (g.2.2.2 25), .ref (g.2.2.2 27), .ref (g.2.2.2 29), .ref (g.2.2.2 30), .ref (g.2.2.2 35), .ref (g.2.2.2 36), .int (nI (σ.1 21))] : List Value).set 5 (.int (nI (v))))) = wC g (sF σ 20 v) ++ tl := rfl
theorem uC_F21 (g : GC) (σ : SS) (tl : va_W) (v : Nat) : (wC g σ ++ tl).set 0 (g.2.2.2 0, .inr (12, ([.ref (g.2.2.2 1), .ref (g.2.2.2 4), .ref (g.2.2.2 6), .ref (g.2.2.2 17), .ref (g.2.2.2 20), .int (nI (σ.1 20)), .ref (g.2.2.2 21), .ref (g.2.2.2 23), .ref (g.2.2.2 25), .ref (g.2.2.2 27), .ref (g.2.2.2 29), .ref (g.2.2.2 30), .ref (g.2.2.2 35), .ref (g.2.2.2 36), .int (nI (σ.1 21))] : List Value).set 14 (.int (nI (v))))) = wC g (sF σ 21 v) ++ tl := rfl
theorem gC1 (g : GC) (σ : SS) (tl : va_W) : (wC g σ ++ tl)[1]? = some (g.2.2.2 1, .inr (2, [.ref (g.2.2.2 2), .ref (g.2.2.2 3), .int (nI (σ.1 0))])) := rfl
theorem uC_F0 (g : GC) (σ : SS) (tl : va_W) (v : Nat) : (wC g σ ++ tl).set 1 (g.2.2.2 1, .inr (2, ([.ref (g.2.2.2 2), .ref (g.2.2.2 3), .int (nI (σ.1 0))] : List Value).set 2 (.int (nI (v))))) = wC g (sF σ 0 v) ++ tl := rfl
theorem gC2 (g : GC) (σ : SS) (tl : va_W) : (wC g σ ++ tl)[2]? = some (g.2.2.2 2, .inl (g.2.2.1 0, 15, .inl (fun k => nI (σ.2.1 0 k)))) := rfl
theorem uC_A0 (g : GC) (σ : SS) (tl : va_W) (f : Nat → Nat) : (wC g σ ++ tl).set 2 (g.2.2.2 2, .inl (g.2.2.1 0, 15, .inl (fun k => nI (f k)))) = wC g (sA σ 0 f) ++ tl := rfl
theorem gC3 (g : GC) (σ : SS) (tl : va_W) : (wC g σ ++ tl)[3]? = some (g.2.2.2 3, .inl (g.2.2.1 0, 96, .inl (fun k => nI (σ.2.1 1 k)))) := rfl
theorem uC_A1 (g : GC) (σ : SS) (tl : va_W) (f : Nat → Nat) : (wC g σ ++ tl).set 3 (g.2.2.2 3, .inl (g.2.2.1 0, 96, .inl (fun k => nI (f k)))) = wC g (sA σ 1 f) ++ tl := rfl
theorem gC4 (g : GC) (σ : SS) (tl : va_W) : (wC g σ ++ tl)[4]? = some (g.2.2.2 4, .inr (5, [.ref (g.2.2.2 5)])) := rfl
theorem gC5 (g : GC) (σ : SS) (tl : va_W) : (wC g σ ++ tl)[5]? = some (g.2.2.2 5, .inl (g.2.2.1 0, 42, .inl (fun k => nI (σ.2.1 2 k)))) := rfl
theorem uC_A2 (g : GC) (σ : SS) (tl : va_W) (f : Nat → Nat) : (wC g σ ++ tl).set 5 (g.2.2.2 5, .inl (g.2.2.1 0, 42, .inl (fun k => nI (f k)))) = wC g (sA σ 2 f) ++ tl := rfl
theorem gC6 (g : GC) (σ : SS) (tl : va_W) : (wC g σ ++ tl)[6]? = some (g.2.2.2 6, .inr (9, [.ref (g.2.2.2 7), .ref (g.2.2.2 16), .int (nI (σ.1 9)), .int (nI (σ.1 10)), .int (nI (σ.1 11))])) := rfl
theorem uC_F9 (g : GC) (σ : SS) (tl : va_W) (v : Nat) : (wC g σ ++ tl).set 6 (g.2.2.2 6, .inr (9, ([.ref (g.2.2.2 7), .ref (g.2.2.2 16), .int (nI (σ.1 9)), .int (nI (σ.1 10)), .int (nI (σ.1 11))] : List Value).set 2 (.int (nI (v))))) = wC g (sF σ 9 v) ++ tl := rfl
theorem uC_F10 (g : GC) (σ : SS) (tl : va_W) (v : Nat) : (wC g σ ++ tl).set 6 (g.2.2.2 6, .inr (9, ([.ref (g.2.2.2 7), .ref (g.2.2.2 16), .int (nI (σ.1 9)), .int (nI (σ.1 10)), .int (nI (σ.1 11))] : List Value).set 3 (.int (nI (v))))) = wC g (sF σ 10 v) ++ tl := rfl
theorem uC_F11 (g : GC) (σ : SS) (tl : va_W) (v : Nat) : (wC g σ ++ tl).set 6 (g.2.2.2 6, .inr (9, ([.ref (g.2.2.2 7), .ref (g.2.2.2 16), .int (nI (σ.1 9)), .int (nI (σ.1 10)), .int (nI (σ.1 11))] : List Value).set 4 (.int (nI (v))))) = wC g (sF σ 11 v) ++ tl := rfl
theorem gC7 (g : GC) (σ : SS) (tl : va_W) : (wC g σ ++ tl)[7]? = some (g.2.2.2 7, .inl (g.2.2.1 3, 8, .inr (.inr (.inr (.inr (fun i => if i < 8 then some (g.2.2.2 (8 + i)) else none)))))) := rfl
theorem gC8 (g : GC) (σ : SS) (tl : va_W) : (wC g σ ++ tl)[8]? = some (g.2.2.2 8, .inl (g.2.2.1 0, 58, .inl (fun k => nI (σ.2.2 2 k)))) := rfl
theorem uC_L2 (g : GC) (σ : SS) (tl : va_W) (f : Nat → Nat) : (wC g σ ++ tl).set 8 (g.2.2.2 8, .inl (g.2.2.1 0, 58, .inl (fun k => nI (f k)))) = wC g (sL σ 2 f) ++ tl := rfl
theorem gC9 (g : GC) (σ : SS) (tl : va_W) : (wC g σ ++ tl)[9]? = some (g.2.2.2 9, .inl (g.2.2.1 0, 58, .inl (fun k => nI (σ.2.2 3 k)))) := rfl
theorem uC_L3 (g : GC) (σ : SS) (tl : va_W) (f : Nat → Nat) : (wC g σ ++ tl).set 9 (g.2.2.2 9, .inl (g.2.2.1 0, 58, .inl (fun k => nI (f k)))) = wC g (sL σ 3 f) ++ tl := rfl
theorem gC10 (g : GC) (σ : SS) (tl : va_W) : (wC g σ ++ tl)[10]? = some (g.2.2.2 10, .inl (g.2.2.1 0, 58, .inl (fun k => nI (σ.2.2 4 k)))) := rfl
theorem uC_L4 (g : GC) (σ : SS) (tl : va_W) (f : Nat → Nat) : (wC g σ ++ tl).set 10 (g.2.2.2 10, .inl (g.2.2.1 0, 58, .inl (fun k => nI (f k)))) = wC g (sL σ 4 f) ++ tl := rfl
theorem gC11 (g : GC) (σ : SS) (tl : va_W) : (wC g σ ++ tl)[11]? = some (g.2.2.2 11, .inl (g.2.2.1 0, 58, .inl (fun k => nI (σ.2.2 5 k)))) := rfl
theorem uC_L5 (g : GC) (σ : SS) (tl : va_W) (f : Nat → Nat) : (wC g σ ++ tl).set 11 (g.2.2.2 11, .inl (g.2.2.1 0, 58, .inl (fun k => nI (f k)))) = wC g (sL σ 5 f) ++ tl := rfl
theorem gC12 (g : GC) (σ : SS) (tl : va_W) : (wC g σ ++ tl)[12]? = some (g.2.2.2 12, .inl (g.2.2.1 0, 58, .inl (fun k => nI (σ.2.2 6 k)))) := rfl
theorem uC_L6 (g : GC) (σ : SS) (tl : va_W) (f : Nat → Nat) : (wC g σ ++ tl).set 12 (g.2.2.2 12, .inl (g.2.2.1 0, 58, .inl (fun k => nI (f k)))) = wC g (sL σ 6 f) ++ tl := rfl
theorem gC13 (g : GC) (σ : SS) (tl : va_W) : (wC g σ ++ tl)[13]? = some (g.2.2.2 13, .inl (g.2.2.1 0, 58, .inl (fun k => nI (σ.2.2 7 k)))) := rfl
theorem uC_L7 (g : GC) (σ : SS) (tl : va_W) (f : Nat → Nat) : (wC g σ ++ tl).set 13 (g.2.2.2 13, .inl (g.2.2.1 0, 58, .inl (fun k => nI (f k)))) = wC g (sL σ 7 f) ++ tl := rfl
theorem gC14 (g : GC) (σ : SS) (tl : va_W) : (wC g σ ++ tl)[14]? = some (g.2.2.2 14, .inl (g.2.2.1 0, 58, .inl (fun k => nI (σ.2.2 8 k)))) := rfl
theorem uC_L8 (g : GC) (σ : SS) (tl : va_W) (f : Nat → Nat) : (wC g σ ++ tl).set 14 (g.2.2.2 14, .inl (g.2.2.1 0, 58, .inl (fun k => nI (f k)))) = wC g (sL σ 8 f) ++ tl := rfl
theorem gC15 (g : GC) (σ : SS) (tl : va_W) : (wC g σ ++ tl)[15]? = some (g.2.2.2 15, .inl (g.2.2.1 0, 58, .inl (fun k => nI (σ.2.2 9 k)))) := rfl
theorem uC_L9 (g : GC) (σ : SS) (tl : va_W) (f : Nat → Nat) : (wC g σ ++ tl).set 15 (g.2.2.2 15, .inl (g.2.2.1 0, 58, .inl (fun k => nI (f k)))) = wC g (sL σ 9 f) ++ tl := rfl
theorem gC16 (g : GC) (σ : SS) (tl : va_W) : (wC g σ ++ tl)[16]? = some (g.2.2.2 16, .inl (g.2.2.1 0, 58, .inl (fun k => nI (σ.2.2 10 k)))) := rfl
theorem uC_L10 (g : GC) (σ : SS) (tl : va_W) (f : Nat → Nat) : (wC g σ ++ tl).set 16 (g.2.2.2 16, .inl (g.2.2.1 0, 58, .inl (fun k => nI (f k)))) = wC g (sL σ 10 f) ++ tl := rfl
theorem gC17 (g : GC) (σ : SS) (tl : va_W) : (wC g σ ++ tl)[17]? = some (g.2.2.2 17, .inr (3, [.ref (g.2.2.2 18), .int (nI (σ.1 1)), .int (nI (σ.1 2)), .ref (g.2.2.2 19), .int (nI (σ.1 3))])) := rfl
theorem uC_F1 (g : GC) (σ : SS) (tl : va_W) (v : Nat) : (wC g σ ++ tl).set 17 (g.2.2.2 17, .inr (3, ([.ref (g.2.2.2 18), .int (nI (σ.1 1)), .int (nI (σ.1 2)), .ref (g.2.2.2 19), .int (nI (σ.1 3))] : List Value).set 1 (.int (nI (v))))) = wC g (sF σ 1 v) ++ tl := rfl
theorem uC_F2 (g : GC) (σ : SS) (tl : va_W) (v : Nat) : (wC g σ ++ tl).set 17 (g.2.2.2 17, .inr (3, ([.ref (g.2.2.2 18), .int (nI (σ.1 1)), .int (nI (σ.1 2)), .ref (g.2.2.2 19), .int (nI (σ.1 3))] : List Value).set 2 (.int (nI (v))))) = wC g (sF σ 2 v) ++ tl := rfl
theorem uC_F3 (g : GC) (σ : SS) (tl : va_W) (v : Nat) : (wC g σ ++ tl).set 17 (g.2.2.2 17, .inr (3, ([.ref (g.2.2.2 18), .int (nI (σ.1 1)), .int (nI (σ.1 2)), .ref (g.2.2.2 19), .int (nI (σ.1 3))] : List Value).set 4 (.int (nI (v))))) = wC g (sF σ 3 v) ++ tl := rfl
theorem gC18 (g : GC) (σ : SS) (tl : va_W) : (wC g σ ++ tl)[18]? = some (g.2.2.2 18, .inl (g.2.2.1 0, 40, .inl (fun k => nI (σ.2.1 12 k)))) := rfl
theorem uC_A12 (g : GC) (σ : SS) (tl : va_W) (f : Nat → Nat) : (wC g σ ++ tl).set 18 (g.2.2.2 18, .inl (g.2.2.1 0, 40, .inl (fun k => nI (f k)))) = wC g (sA σ 12 f) ++ tl := rfl
theorem gC19 (g : GC) (σ : SS) (tl : va_W) : (wC g σ ++ tl)[19]? = some (g.2.2.2 19, .inl (g.2.2.1 0, 15, .inl (fun k => nI (σ.2.1 13 k)))) := rfl
theorem uC_A13 (g : GC) (σ : SS) (tl : va_W) (f : Nat → Nat) : (wC g σ ++ tl).set 19 (g.2.2.2 19, .inl (g.2.2.1 0, 15, .inl (fun k => nI (f k)))) = wC g (sA σ 13 f) ++ tl := rfl
theorem gC20 (g : GC) (σ : SS) (tl : va_W) : (wC g σ ++ tl)[20]? = some (g.2.2.2 20, .inl (g.2.2.1 0, 8, .inl (fun k => nI (σ.2.1 14 k)))) := rfl
theorem uC_A14 (g : GC) (σ : SS) (tl : va_W) (f : Nat → Nat) : (wC g σ ++ tl).set 20 (g.2.2.2 20, .inl (g.2.2.1 0, 8, .inl (fun k => nI (f k)))) = wC g (sA σ 14 f) ++ tl := rfl
theorem gC21 (g : GC) (σ : SS) (tl : va_W) : (wC g σ ++ tl)[21]? = some (g.2.2.2 21, .inr (7, [.ref (g.2.2.2 22)])) := rfl
theorem gC22 (g : GC) (σ : SS) (tl : va_W) : (wC g σ ++ tl)[22]? = some (g.2.2.2 22, .inl (g.2.2.1 0, 1000, .inl (fun k => nI (σ.2.1 15 k)))) := rfl
theorem uC_A15 (g : GC) (σ : SS) (tl : va_W) (f : Nat → Nat) : (wC g σ ++ tl).set 22 (g.2.2.2 22, .inl (g.2.2.1 0, 1000, .inl (fun k => nI (f k)))) = wC g (sA σ 15 f) ++ tl := rfl
theorem gC23 (g : GC) (σ : SS) (tl : va_W) : (wC g σ ++ tl)[23]? = some (g.2.2.2 23, .inr (7, [.ref (g.2.2.2 24)])) := rfl
theorem gC24 (g : GC) (σ : SS) (tl : va_W) : (wC g σ ++ tl)[24]? = some (g.2.2.2 24, .inl (g.2.2.1 0, 1000, .inl (fun k => nI (σ.2.1 16 k)))) := rfl
theorem uC_A16 (g : GC) (σ : SS) (tl : va_W) (f : Nat → Nat) : (wC g σ ++ tl).set 24 (g.2.2.2 24, .inl (g.2.2.1 0, 1000, .inl (fun k => nI (f k)))) = wC g (sA σ 16 f) ++ tl := rfl
theorem gC25 (g : GC) (σ : SS) (tl : va_W) : (wC g σ ++ tl)[25]? = some (g.2.2.2 25, .inr (6, [.ref (g.2.2.2 26), .int (nI (σ.1 6))])) := rfl
theorem uC_F6 (g : GC) (σ : SS) (tl : va_W) (v : Nat) : (wC g σ ++ tl).set 25 (g.2.2.2 25, .inr (6, ([.ref (g.2.2.2 26), .int (nI (σ.1 6))] : List Value).set 1 (.int (nI (v))))) = wC g (sF σ 6 v) ++ tl := rfl
theorem gC26 (g : GC) (σ : SS) (tl : va_W) : (wC g σ ++ tl)[26]? = some (g.2.2.2 26, .inl (g.2.2.1 0, 56, .inl (fun k => nI (σ.2.1 17 k)))) := rfl
theorem uC_A17 (g : GC) (σ : SS) (tl : va_W) (f : Nat → Nat) : (wC g σ ++ tl).set 26 (g.2.2.2 26, .inl (g.2.2.1 0, 56, .inl (fun k => nI (f k)))) = wC g (sA σ 17 f) ++ tl := rfl
theorem gC27 (g : GC) (σ : SS) (tl : va_W) : (wC g σ ++ tl)[27]? = some (g.2.2.2 27, .inr (6, [.ref (g.2.2.2 28), .int (nI (σ.1 7))])) := rfl
theorem uC_F7 (g : GC) (σ : SS) (tl : va_W) (v : Nat) : (wC g σ ++ tl).set 27 (g.2.2.2 27, .inr (6, ([.ref (g.2.2.2 28), .int (nI (σ.1 7))] : List Value).set 1 (.int (nI (v))))) = wC g (sF σ 7 v) ++ tl := rfl
theorem gC28 (g : GC) (σ : SS) (tl : va_W) : (wC g σ ++ tl)[28]? = some (g.2.2.2 28, .inl (g.2.2.1 0, 56, .inl (fun k => nI (σ.2.1 18 k)))) := rfl
theorem uC_A18 (g : GC) (σ : SS) (tl : va_W) (f : Nat → Nat) : (wC g σ ++ tl).set 28 (g.2.2.2 28, .inl (g.2.2.1 0, 56, .inl (fun k => nI (f k)))) = wC g (sA σ 18 f) ++ tl := rfl
theorem gC29 (g : GC) (σ : SS) (tl : va_W) : (wC g σ ++ tl)[29]? = some (g.2.2.2 29, .inr (8, [.int (nI (σ.1 8))])) := rfl
theorem uC_F8 (g : GC) (σ : SS) (tl : va_W) (v : Nat) : (wC g σ ++ tl).set 29 (g.2.2.2 29, .inr (8, ([.int (nI (σ.1 8))] : List Value).set 0 (.int (nI (v))))) = wC g (sF σ 8 v) ++ tl := rfl
theorem gC30 (g : GC) (σ : SS) (tl : va_W) : (wC g σ ++ tl)[30]? = some (g.2.2.2 30, .inr (11, [.ref (g.2.2.2 31), .ref (g.2.2.2 32), .int (nI (σ.1 17)), .int (nI (σ.1 18)), .int (nI (σ.1 19)), .ref (g.2.2.2 33), .ref (g.2.2.2 34)])) := rfl
theorem uC_F17 (g : GC) (σ : SS) (tl : va_W) (v : Nat) : (wC g σ ++ tl).set 30 (g.2.2.2 30, .inr (11, ([.ref (g.2.2.2 31), .ref (g.2.2.2 32), .int (nI (σ.1 17)), .int (nI (σ.1 18)), .int (nI (σ.1 19)), .ref (g.2.2.2 33), .ref (g.2.2.2 34)] : List Value).set 2 (.int (nI (v))))) = wC g (sF σ 17 v) ++ tl := rfl
theorem uC_F18 (g : GC) (σ : SS) (tl : va_W) (v : Nat) : (wC g σ ++ tl).set 30 (g.2.2.2 30, .inr (11, ([.ref (g.2.2.2 31), .ref (g.2.2.2 32), .int (nI (σ.1 17)), .int (nI (σ.1 18)), .int (nI (σ.1 19)), .ref (g.2.2.2 33), .ref (g.2.2.2 34)] : List Value).set 3 (.int (nI (v))))) = wC g (sF σ 18 v) ++ tl := rfl
theorem uC_F19 (g : GC) (σ : SS) (tl : va_W) (v : Nat) : (wC g σ ++ tl).set 30 (g.2.2.2 30, .inr (11, ([.ref (g.2.2.2 31), .ref (g.2.2.2 32), .int (nI (σ.1 17)), .int (nI (σ.1 18)), .int (nI (σ.1 19)), .ref (g.2.2.2 33), .ref (g.2.2.2 34)] : List Value).set 4 (.int (nI (v))))) = wC g (sF σ 19 v) ++ tl := rfl
theorem gC31 (g : GC) (σ : SS) (tl : va_W) : (wC g σ ++ tl)[31]? = some (g.2.2.2 31, .inl (g.2.2.1 0, 8, .inl (fun k => nI (σ.2.1 19 k)))) := rfl
theorem uC_A19 (g : GC) (σ : SS) (tl : va_W) (f : Nat → Nat) : (wC g σ ++ tl).set 31 (g.2.2.2 31, .inl (g.2.2.1 0, 8, .inl (fun k => nI (f k)))) = wC g (sA σ 19 f) ++ tl := rfl
theorem gC32 (g : GC) (σ : SS) (tl : va_W) : (wC g σ ++ tl)[32]? = some (g.2.2.2 32, .inl (g.2.2.1 0, 3, .inl (fun k => nI (σ.2.1 20 k)))) := rfl
theorem uC_A20 (g : GC) (σ : SS) (tl : va_W) (f : Nat → Nat) : (wC g σ ++ tl).set 32 (g.2.2.2 32, .inl (g.2.2.1 0, 3, .inl (fun k => nI (f k)))) = wC g (sA σ 20 f) ++ tl := rfl
theorem gC33 (g : GC) (σ : SS) (tl : va_W) : (wC g σ ++ tl)[33]? = some (g.2.2.2 33, .inl (g.2.2.1 1, 32, .inr (.inl (fun k => lN (σ.2.2 0 k))))) := rfl
theorem uC_L0 (g : GC) (σ : SS) (tl : va_W) (f : Nat → Nat) : (wC g σ ++ tl).set 33 (g.2.2.2 33, .inl (g.2.2.1 1, 32, .inr (.inl (fun k => lN (f k))))) = wC g (sL σ 0 f) ++ tl := rfl
theorem gC34 (g : GC) (σ : SS) (tl : va_W) : (wC g σ ++ tl)[34]? = some (g.2.2.2 34, .inl (g.2.2.1 1, 32, .inr (.inl (fun k => lN (σ.2.2 1 k))))) := rfl
theorem uC_L1 (g : GC) (σ : SS) (tl : va_W) (f : Nat → Nat) : (wC g σ ++ tl).set 34 (g.2.2.2 34, .inl (g.2.2.1 1, 32, .inr (.inl (fun k => lN (f k))))) = wC g (sL σ 1 f) ++ tl := rfl
theorem gC35 (g : GC) (σ : SS) (tl : va_W) : (wC g σ ++ tl)[35]? = some (g.2.2.2 35, .inr (10, [.int (nI (σ.1 12)), .int (nI (σ.1 13)), .int (nI (σ.1 14)), .int (nI (σ.1 15)), .int (nI (σ.1 16))])) := rfl
theorem uC_F12 (g : GC) (σ : SS) (tl : va_W) (v : Nat) : (wC g σ ++ tl).set 35 (g.2.2.2 35, .inr (10, ([.int (nI (σ.1 12)), .int (nI (σ.1 13)), .int (nI (σ.1 14)), .int (nI (σ.1 15)), .int (nI (σ.1 16))] : List Value).set 0 (.int (nI (v))))) = wC g (sF σ 12 v) ++ tl := rfl
theorem uC_F13 (g : GC) (σ : SS) (tl : va_W) (v : Nat) : (wC g σ ++ tl).set 35 (g.2.2.2 35, .inr (10, ([.int (nI (σ.1 12)), .int (nI (σ.1 13)), .int (nI (σ.1 14)), .int (nI (σ.1 15)), .int (nI (σ.1 16))] : List Value).set 1 (.int (nI (v))))) = wC g (sF σ 13 v) ++ tl := rfl
theorem uC_F14 (g : GC) (σ : SS) (tl : va_W) (v : Nat) : (wC g σ ++ tl).set 35 (g.2.2.2 35, .inr (10, ([.int (nI (σ.1 12)), .int (nI (σ.1 13)), .int (nI (σ.1 14)), .int (nI (σ.1 15)), .int (nI (σ.1 16))] : List Value).set 2 (.int (nI (v))))) = wC g (sF σ 14 v) ++ tl := rfl
theorem uC_F15 (g : GC) (σ : SS) (tl : va_W) (v : Nat) : (wC g σ ++ tl).set 35 (g.2.2.2 35, .inr (10, ([.int (nI (σ.1 12)), .int (nI (σ.1 13)), .int (nI (σ.1 14)), .int (nI (σ.1 15)), .int (nI (σ.1 16))] : List Value).set 3 (.int (nI (v))))) = wC g (sF σ 15 v) ++ tl := rfl
theorem uC_F16 (g : GC) (σ : SS) (tl : va_W) (v : Nat) : (wC g σ ++ tl).set 35 (g.2.2.2 35, .inr (10, ([.int (nI (σ.1 12)), .int (nI (σ.1 13)), .int (nI (σ.1 14)), .int (nI (σ.1 15)), .int (nI (σ.1 16))] : List Value).set 4 (.int (nI (v))))) = wC g (sF σ 16 v) ++ tl := rfl
theorem gC36 (g : GC) (σ : SS) (tl : va_W) : (wC g σ ++ tl)[36]? = some (g.2.2.2 36, .inr (4, [.ref (g.2.2.2 37), .ref (g.2.2.2 38), .ref (g.2.2.2 39), .ref (g.2.2.2 40), .int (nI (σ.1 4)), .ref (g.2.2.2 41), .int (nI (σ.1 5))])) := rfl
theorem uC_F4 (g : GC) (σ : SS) (tl : va_W) (v : Nat) : (wC g σ ++ tl).set 36 (g.2.2.2 36, .inr (4, ([.ref (g.2.2.2 37), .ref (g.2.2.2 38), .ref (g.2.2.2 39), .ref (g.2.2.2 40), .int (nI (σ.1 4)), .ref (g.2.2.2 41), .int (nI (σ.1 5))] : List Value).set 4 (.int (nI (v))))) = wC g (sF σ 4 v) ++ tl := rfl
theorem uC_F5 (g : GC) (σ : SS) (tl : va_W) (v : Nat) : (wC g σ ++ tl).set 36 (g.2.2.2 36, .inr (4, ([.ref (g.2.2.2 37), .ref (g.2.2.2 38), .ref (g.2.2.2 39), .ref (g.2.2.2 40), .int (nI (σ.1 4)), .ref (g.2.2.2 41), .int (nI (σ.1 5))] : List Value).set 6 (.int (nI (v))))) = wC g (sF σ 5 v) ++ tl := rfl
theorem gC37 (g : GC) (σ : SS) (tl : va_W) : (wC g σ ++ tl)[37]? = some (g.2.2.2 37, .inl (g.2.2.1 0, 2048, .inl (fun k => nI (σ.2.1 21 k)))) := rfl
theorem uC_A21 (g : GC) (σ : SS) (tl : va_W) (f : Nat → Nat) : (wC g σ ++ tl).set 37 (g.2.2.2 37, .inl (g.2.2.1 0, 2048, .inl (fun k => nI (f k)))) = wC g (sA σ 21 f) ++ tl := rfl
theorem gC38 (g : GC) (σ : SS) (tl : va_W) : (wC g σ ++ tl)[38]? = some (g.2.2.2 38, .inl (g.2.2.1 0, 256, .inl (fun k => nI (σ.2.1 22 k)))) := rfl
theorem uC_A22 (g : GC) (σ : SS) (tl : va_W) (f : Nat → Nat) : (wC g σ ++ tl).set 38 (g.2.2.2 38, .inl (g.2.2.1 0, 256, .inl (fun k => nI (f k)))) = wC g (sA σ 22 f) ++ tl := rfl
theorem gC39 (g : GC) (σ : SS) (tl : va_W) : (wC g σ ++ tl)[39]? = some (g.2.2.2 39, .inl (g.2.2.1 0, 8, .inl (fun k => nI (σ.2.1 23 k)))) := rfl
theorem uC_A23 (g : GC) (σ : SS) (tl : va_W) (f : Nat → Nat) : (wC g σ ++ tl).set 39 (g.2.2.2 39, .inl (g.2.2.1 0, 8, .inl (fun k => nI (f k)))) = wC g (sA σ 23 f) ++ tl := rfl
theorem gC40 (g : GC) (σ : SS) (tl : va_W) : (wC g σ ++ tl)[40]? = some (g.2.2.2 40, .inl (g.2.2.1 0, 8, .inl (fun k => nI (σ.2.1 24 k)))) := rfl
theorem uC_A24 (g : GC) (σ : SS) (tl : va_W) (f : Nat → Nat) : (wC g σ ++ tl).set 40 (g.2.2.2 40, .inl (g.2.2.1 0, 8, .inl (fun k => nI (f k)))) = wC g (sA σ 24 f) ++ tl := rfl
theorem gC41 (g : GC) (σ : SS) (tl : va_W) : (wC g σ ++ tl)[41]? = some (g.2.2.2 41, .inl (g.2.2.1 0, 8, .inl (fun k => nI (σ.2.1 25 k)))) := rfl
theorem uC_A25 (g : GC) (σ : SS) (tl : va_W) (f : Nat → Nat) : (wC g σ ++ tl).set 41 (g.2.2.2 41, .inl (g.2.2.1 0, 8, .inl (fun k => nI (f k)))) = wC g (sA σ 25 f) ++ tl := rfl
def wM (g : GC) (σ : SS) : va_W := [
  (g.2.2.2 0, .inr (13, [.int (nI (σ.1 0)), .ref (g.2.2.2 1), .ref (g.2.2.2 2), .ref (g.2.2.2 3), .int (nI (σ.1 1)), .int (nI (σ.1 2)), .ref (g.2.2.2 4), .int (nI (σ.1 3)), .int (nI (σ.1 4)), .int (nI (σ.1 5)), .ref (g.2.2.2 5), .ref (g.2.2.2 6), .ref (g.2.2.2 7), .int (nI (σ.1 6)), .ref (g.2.2.2 8), .ref (g.2.2.2 9), .ref (g.2.2.2 10), .int (nI (σ.1 7)), .int (nI (σ.1 8)), .int (nI (σ.1 9)), .ref (g.2.2.2 11), .ref (g.2.2.2 12), .ref (g.2.2.2 13), .long (lN (σ.1 10)), .int (nI (σ.1 11)), .ref (g.2.2.2 14), .ref (g.2.2.2 15), .ref (g.2.2.2 16), .int (nI (σ.1 12)), .int (nI (σ.1 13))])),
  (g.2.2.2 1, .inl (g.2.2.1 0, 122, .inl (fun k => nI (σ.2.1 0 k)))),
  (g.2.2.2 2, .inl (g.2.2.1 0, 122, .inl (fun k => nI (σ.2.1 1 k)))),
  (g.2.2.2 3, .inl (g.2.2.1 0, 976, .inl (fun k => nI (σ.2.1 2 k)))),
  (g.2.2.2 4, .inl (g.2.2.1 0, 40, .inl (fun k => nI (σ.2.1 3 k)))),
  (g.2.2.2 5, .inl (g.2.2.1 0, 16, .inl (fun k => nI (σ.2.1 4 k)))),
  (g.2.2.2 6, .inl (g.2.2.1 0, 8, .inl (fun k => nI (σ.2.1 5 k)))),
  (g.2.2.2 7, .inl (g.2.2.1 0, 8, .inl (fun k => nI (σ.2.1 6 k)))),
  (g.2.2.2 8, .inl (g.2.2.1 0, 1000, .inl (fun k => nI (σ.2.1 7 k)))),
  (g.2.2.2 9, .inl (g.2.2.1 0, 3, .inl (fun k => nI (σ.2.1 8 k)))),
  (g.2.2.2 10, .inl (g.2.2.1 0, 8, .inl (fun k => nI (σ.2.1 9 k)))),
  (g.2.2.2 11, .inl (g.2.2.1 1, 5, .inr (.inl (fun k => lN (σ.2.2 0 k))))),
  (g.2.2.2 12, .inl (g.2.2.1 1, 5, .inr (.inl (fun k => lN (σ.2.2 1 k))))),
  (g.2.2.2 13, .inl (g.2.2.1 0, 3, .inl (fun k => nI (σ.2.1 10 k)))),
  (g.2.2.2 14, .inl (g.2.2.1 0, 10240, .inl (fun k => nI (σ.2.1 11 k)))),
  (g.2.2.2 15, .inl (g.2.2.1 0, 8, .inl (fun k => nI (σ.2.1 12 k)))),
  (g.2.2.2 16, .inl (g.2.2.1 2, 1000, .inl (fun k => nI (σ.2.1 13 k))))]
theorem gM0 (g : GC) (σ : SS) (tl : va_W) : (wM g σ ++ tl)[0]? = some (g.2.2.2 0, .inr (13, [.int (nI (σ.1 0)), .ref (g.2.2.2 1), .ref (g.2.2.2 2), .ref (g.2.2.2 3), .int (nI (σ.1 1)), .int (nI (σ.1 2)), .ref (g.2.2.2 4), .int (nI (σ.1 3)), .int (nI (σ.1 4)), .int (nI (σ.1 5)), .ref (g.2.2.2 5), .ref (g.2.2.2 6), .ref (g.2.2.2 7), .int (nI (σ.1 6)), .ref (g.2.2.2 8), .ref (g.2.2.2 9), .ref (g.2.2.2 10), .int (nI (σ.1 7)), .int (nI (σ.1 8)), .int (nI (σ.1 9)), .ref (g.2.2.2 11), .ref (g.2.2.2 12), .ref (g.2.2.2 13), .long (lN (σ.1 10)), .int (nI (σ.1 11)), .ref (g.2.2.2 14), .ref (g.2.2.2 15), .ref (g.2.2.2 16), .int (nI (σ.1 12)), .int (nI (σ.1 13))])) := rfl
theorem uM_F0 (g : GC) (σ : SS) (tl : va_W) (v : Nat) : (wM g σ ++ tl).set 0 (g.2.2.2 0, .inr (13, ([.int (nI (σ.1 0)), .ref (g.2.2.2 1), .ref (g.2.2.2 2), .ref (g.2.2.2 3), .int (nI (σ.1 1)), .int (nI (σ.1 2)), .ref (g.2.2.2 4), .int (nI (σ.1 3)), .int (nI (σ.1 4)), .int (nI (σ.1 5)), .ref (g.2.2.2 5), .ref (g.2.2.2 6), .ref (g.2.2.2 7), .int (nI (σ.1 6)), .ref (g.2.2.2 8), .ref (g.2.2.2 9), .ref (g.2.2.2 10), .int (nI (σ.1 7)), .int (nI (σ.1 8)), .int (nI (σ.1 9)), .ref (g.2.2.2 11), .ref (g.2.2.2 12), .ref (g.2.2.2 13), .long (lN (σ.1 10)), .int (nI (σ.1 11)), .ref (g.2.2.2 14), .ref (g.2.2.2 15), .ref (g.2.2.2 16), .int (nI (σ.1 12)), .int (nI (σ.1 13))] : List Value).set 0 (.int (nI (v))))) = wM g (sF σ 0 v) ++ tl := rfl
theorem uM_F1 (g : GC) (σ : SS) (tl : va_W) (v : Nat) : (wM g σ ++ tl).set 0 (g.2.2.2 0, .inr (13, ([.int (nI (σ.1 0)), .ref (g.2.2.2 1), .ref (g.2.2.2 2), .ref (g.2.2.2 3), .int (nI (σ.1 1)), .int (nI (σ.1 2)), .ref (g.2.2.2 4), .int (nI (σ.1 3)), .int (nI (σ.1 4)), .int (nI (σ.1 5)), .ref (g.2.2.2 5), .ref (g.2.2.2 6), .ref (g.2.2.2 7), .int (nI (σ.1 6)), .ref (g.2.2.2 8), .ref (g.2.2.2 9), .ref (g.2.2.2 10), .int (nI (σ.1 7)), .int (nI (σ.1 8)), .int (nI (σ.1 9)), .ref (g.2.2.2 11), .ref (g.2.2.2 12), .ref (g.2.2.2 13), .long (lN (σ.1 10)), .int (nI (σ.1 11)), .ref (g.2.2.2 14), .ref (g.2.2.2 15), .ref (g.2.2.2 16), .int (nI (σ.1 12)), .int (nI (σ.1 13))] : List Value).set 4 (.int (nI (v))))) = wM g (sF σ 1 v) ++ tl := rfl
theorem uM_F2 (g : GC) (σ : SS) (tl : va_W) (v : Nat) : (wM g σ ++ tl).set 0 (g.2.2.2 0, .inr (13, ([.int (nI (σ.1 0)), .ref (g.2.2.2 1), .ref (g.2.2.2 2), .ref (g.2.2.2 3), .int (nI (σ.1 1)), .int (nI (σ.1 2)), .ref (g.2.2.2 4), .int (nI (σ.1 3)), .int (nI (σ.1 4)), .int (nI (σ.1 5)), .ref (g.2.2.2 5), .ref (g.2.2.2 6), .ref (g.2.2.2 7), .int (nI (σ.1 6)), .ref (g.2.2.2 8), .ref (g.2.2.2 9), .ref (g.2.2.2 10), .int (nI (σ.1 7)), .int (nI (σ.1 8)), .int (nI (σ.1 9)), .ref (g.2.2.2 11), .ref (g.2.2.2 12), .ref (g.2.2.2 13), .long (lN (σ.1 10)), .int (nI (σ.1 11)), .ref (g.2.2.2 14), .ref (g.2.2.2 15), .ref (g.2.2.2 16), .int (nI (σ.1 12)), .int (nI (σ.1 13))] : List Value).set 5 (.int (nI (v))))) = wM g (sF σ 2 v) ++ tl := rfl
theorem uM_F3 (g : GC) (σ : SS) (tl : va_W) (v : Nat) : (wM g σ ++ tl).set 0 (g.2.2.2 0, .inr (13, ([.int (nI (σ.1 0)), .ref (g.2.2.2 1), .ref (g.2.2.2 2), .ref (g.2.2.2 3), .int (nI (σ.1 1)), .int (nI (σ.1 2)), .ref (g.2.2.2 4), .int (nI (σ.1 3)), .int (nI (σ.1 4)), .int (nI (σ.1 5)), .ref (g.2.2.2 5), .ref (g.2.2.2 6), .ref (g.2.2.2 7), .int (nI (σ.1 6)), .ref (g.2.2.2 8), .ref (g.2.2.2 9), .ref (g.2.2.2 10), .int (nI (σ.1 7)), .int (nI (σ.1 8)), .int (nI (σ.1 9)), .ref (g.2.2.2 11), .ref (g.2.2.2 12), .ref (g.2.2.2 13), .long (lN (σ.1 10)), .int (nI (σ.1 11)), .ref (g.2.2.2 14), .ref (g.2.2.2 15), .ref (g.2.2.2 16), .int (nI (σ.1 12)), .int (nI (σ.1 13))] : List Value).set 7 (.int (nI (v))))) = wM g (sF σ 3 v) ++ tl := rfl
theorem uM_F4 (g : GC) (σ : SS) (tl : va_W) (v : Nat) : (wM g σ ++ tl).set 0 (g.2.2.2 0, .inr (13, ([.int (nI (σ.1 0)), .ref (g.2.2.2 1), .ref (g.2.2.2 2), .ref (g.2.2.2 3), .int (nI (σ.1 1)), .int (nI (σ.1 2)), .ref (g.2.2.2 4), .int (nI (σ.1 3)), .int (nI (σ.1 4)), .int (nI (σ.1 5)), .ref (g.2.2.2 5), .ref (g.2.2.2 6), .ref (g.2.2.2 7), .int (nI (σ.1 6)), .ref (g.2.2.2 8), .ref (g.2.2.2 9), .ref (g.2.2.2 10), .int (nI (σ.1 7)), .int (nI (σ.1 8)), .int (nI (σ.1 9)), .ref (g.2.2.2 11), .ref (g.2.2.2 12), .ref (g.2.2.2 13), .long (lN (σ.1 10)), .int (nI (σ.1 11)), .ref (g.2.2.2 14), .ref (g.2.2.2 15), .ref (g.2.2.2 16), .int (nI (σ.1 12)), .int (nI (σ.1 13))] : List Value).set 8 (.int (nI (v))))) = wM g (sF σ 4 v) ++ tl := rfl
theorem uM_F5 (g : GC) (σ : SS) (tl : va_W) (v : Nat) : (wM g σ ++ tl).set 0 (g.2.2.2 0, .inr (13, ([.int (nI (σ.1 0)), .ref (g.2.2.2 1), .ref (g.2.2.2 2), .ref (g.2.2.2 3), .int (nI (σ.1 1)), .int (nI (σ.1 2)), .ref (g.2.2.2 4), .int (nI (σ.1 3)), .int (nI (σ.1 4)), .int (nI (σ.1 5)), .ref (g.2.2.2 5), .ref (g.2.2.2 6), .ref (g.2.2.2 7), .int (nI (σ.1 6)), .ref (g.2.2.2 8), .ref (g.2.2.2 9), .ref (g.2.2.2 10), .int (nI (σ.1 7)), .int (nI (σ.1 8)), .int (nI (σ.1 9)), .ref (g.2.2.2 11), .ref (g.2.2.2 12), .ref (g.2.2.2 13), .long (lN (σ.1 10)), .int (nI (σ.1 11)), .ref (g.2.2.2 14), .ref (g.2.2.2 15), .ref (g.2.2.2 16), .int (nI (σ.1 12)), .int (nI (σ.1 13))] : List Value).set 9 (.int (nI (v))))) = wM g (sF σ 5 v) ++ tl := rfl
theorem uM_F6 (g : GC) (σ : SS) (tl : va_W) (v : Nat) : (wM g σ ++ tl).set 0 (g.2.2.2 0, .inr (13, ([.int (nI (σ.1 0)), .ref (g.2.2.2 1), .ref (g.2.2.2 2), .ref (g.2.2.2 3), .int (nI (σ.1 1)), .int (nI (σ.1 2)), .ref (g.2.2.2 4), .int (nI (σ.1 3)), .int (nI (σ.1 4)), .int (nI (σ.1 5)), .ref (g.2.2.2 5), .ref (g.2.2.2 6), .ref (g.2.2.2 7), .int (nI (σ.1 6)), .ref (g.2.2.2 8), .ref (g.2.2.2 9), .ref (g.2.2.2 10), .int (nI (σ.1 7)), .int (nI (σ.1 8)), .int (nI (σ.1 9)), .ref (g.2.2.2 11), .ref (g.2.2.2 12), .ref (g.2.2.2 13), .long (lN (σ.1 10)), .int (nI (σ.1 11)), .ref (g.2.2.2 14), .ref (g.2.2.2 15), .ref (g.2.2.2 16), .int (nI (σ.1 12)), .int (nI (σ.1 13))] : List Value).set 13 (.int (nI (v))))) = wM g (sF σ 6 v) ++ tl := rfl
theorem uM_F7 (g : GC) (σ : SS) (tl : va_W) (v : Nat) : (wM g σ ++ tl).set 0 (g.2.2.2 0, .inr (13, ([.int (nI (σ.1 0)), .ref (g.2.2.2 1), .ref (g.2.2.2 2), .ref (g.2.2.2 3), .int (nI (σ.1 1)), .int (nI (σ.1 2)), .ref (g.2.2.2 4), .int (nI (σ.1 3)), .int (nI (σ.1 4)), .int (nI (σ.1 5)), .ref (g.2.2.2 5), .ref (g.2.2.2 6), .ref (g.2.2.2 7), .int (nI (σ.1 6)), .ref (g.2.2.2 8), .ref (g.2.2.2 9), .ref (g.2.2.2 10), .int (nI (σ.1 7)), .int (nI (σ.1 8)), .int (nI (σ.1 9)), .ref (g.2.2.2 11), .ref (g.2.2.2 12), .ref (g.2.2.2 13), .long (lN (σ.1 10)), .int (nI (σ.1 11)), .ref (g.2.2.2 14), .ref (g.2.2.2 15), .ref (g.2.2.2 16), .int (nI (σ.1 12)), .int (nI (σ.1 13))] : List Value).set 17 (.int (nI (v))))) = wM g (sF σ 7 v) ++ tl := rfl
theorem uM_F8 (g : GC) (σ : SS) (tl : va_W) (v : Nat) : (wM g σ ++ tl).set 0 (g.2.2.2 0, .inr (13, ([.int (nI (σ.1 0)), .ref (g.2.2.2 1), .ref (g.2.2.2 2), .ref (g.2.2.2 3), .int (nI (σ.1 1)), .int (nI (σ.1 2)), .ref (g.2.2.2 4), .int (nI (σ.1 3)), .int (nI (σ.1 4)), .int (nI (σ.1 5)), .ref (g.2.2.2 5), .ref (g.2.2.2 6), .ref (g.2.2.2 7), .int (nI (σ.1 6)), .ref (g.2.2.2 8), .ref (g.2.2.2 9), .ref (g.2.2.2 10), .int (nI (σ.1 7)), .int (nI (σ.1 8)), .int (nI (σ.1 9)), .ref (g.2.2.2 11), .ref (g.2.2.2 12), .ref (g.2.2.2 13), .long (lN (σ.1 10)), .int (nI (σ.1 11)), .ref (g.2.2.2 14), .ref (g.2.2.2 15), .ref (g.2.2.2 16), .int (nI (σ.1 12)), .int (nI (σ.1 13))] : List Value).set 18 (.int (nI (v))))) = wM g (sF σ 8 v) ++ tl := rfl
theorem uM_F9 (g : GC) (σ : SS) (tl : va_W) (v : Nat) : (wM g σ ++ tl).set 0 (g.2.2.2 0, .inr (13, ([.int (nI (σ.1 0)), .ref (g.2.2.2 1), .ref (g.2.2.2 2), .ref (g.2.2.2 3), .int (nI (σ.1 1)), .int (nI (σ.1 2)), .ref (g.2.2.2 4), .int (nI (σ.1 3)), .int (nI (σ.1 4)), .int (nI (σ.1 5)), .ref (g.2.2.2 5), .ref (g.2.2.2 6), .ref (g.2.2.2 7), .int (nI (σ.1 6)), .ref (g.2.2.2 8), .ref (g.2.2.2 9), .ref (g.2.2.2 10), .int (nI (σ.1 7)), .int (nI (σ.1 8)), .int (nI (σ.1 9)), .ref (g.2.2.2 11), .ref (g.2.2.2 12), .ref (g.2.2.2 13), .long (lN (σ.1 10)), .int (nI (σ.1 11)), .ref (g.2.2.2 14), .ref (g.2.2.2 15), .ref (g.2.2.2 16), .int (nI (σ.1 12)), .int (nI (σ.1 13))] : List Value).set 19 (.int (nI (v))))) = wM g (sF σ 9 v) ++ tl := rfl
theorem uM_F10 (g : GC) (σ : SS) (tl : va_W) (v : Nat) : (wM g σ ++ tl).set 0 (g.2.2.2 0, .inr (13, ([.int (nI (σ.1 0)), .ref (g.2.2.2 1), .ref (g.2.2.2 2), .ref (g.2.2.2 3), .int (nI (σ.1 1)), .int (nI (σ.1 2)), .ref (g.2.2.2 4), .int (nI (σ.1 3)), .int (nI (σ.1 4)), .int (nI (σ.1 5)), .ref (g.2.2.2 5), .ref (g.2.2.2 6), .ref (g.2.2.2 7), .int (nI (σ.1 6)), .ref (g.2.2.2 8), .ref (g.2.2.2 9), .ref (g.2.2.2 10), .int (nI (σ.1 7)), .int (nI (σ.1 8)), .int (nI (σ.1 9)), .ref (g.2.2.2 11), .ref (g.2.2.2 12), .ref (g.2.2.2 13), .long (lN (σ.1 10)), .int (nI (σ.1 11)), .ref (g.2.2.2 14), .ref (g.2.2.2 15), .ref (g.2.2.2 16), .int (nI (σ.1 12)), .int (nI (σ.1 13))] : List Value).set 23 (.long (lN (v))))) = wM g (sF σ 10 v) ++ tl := rfl
theorem uM_F11 (g : GC) (σ : SS) (tl : va_W) (v : Nat) : (wM g σ ++ tl).set 0 (g.2.2.2 0, .inr (13, ([.int (nI (σ.1 0)), .ref (g.2.2.2 1), .ref (g.2.2.2 2), .ref (g.2.2.2 3), .int (nI (σ.1 1)), .int (nI (σ.1 2)), .ref (g.2.2.2 4), .int (nI (σ.1 3)), .int (nI (σ.1 4)), .int (nI (σ.1 5)), .ref (g.2.2.2 5), .ref (g.2.2.2 6), .ref (g.2.2.2 7), .int (nI (σ.1 6)), .ref (g.2.2.2 8), .ref (g.2.2.2 9), .ref (g.2.2.2 10), .int (nI (σ.1 7)), .int (nI (σ.1 8)), .int (nI (σ.1 9)), .ref (g.2.2.2 11), .ref (g.2.2.2 12), .ref (g.2.2.2 13), .long (lN (σ.1 10)), .int (nI (σ.1 11)), .ref (g.2.2.2 14), .ref (g.2.2.2 15), .ref (g.2.2.2 16), .int (nI (σ.1 12)), .int (nI (σ.1 13))] : List Value).set 24 (.int (nI (v))))) = wM g (sF σ 11 v) ++ tl := rfl
theorem uM_F12 (g : GC) (σ : SS) (tl : va_W) (v : Nat) : (wM g σ ++ tl).set 0 (g.2.2.2 0, .inr (13, ([.int (nI (σ.1 0)), .ref (g.2.2.2 1), .ref (g.2.2.2 2), .ref (g.2.2.2 3), .int (nI (σ.1 1)), .int (nI (σ.1 2)), .ref (g.2.2.2 4), .int (nI (σ.1 3)), .int (nI (σ.1 4)), .int (nI (σ.1 5)), .ref (g.2.2.2 5), .ref (g.2.2.2 6), .ref (g.2.2.2 7), .int (nI (σ.1 6)), .ref (g.2.2.2 8), .ref (g.2.2.2 9), .ref (g.2.2.2 10), .int (nI (σ.1 7)), .int (nI (σ.1 8)), .int (nI (σ.1 9)), .ref (g.2.2.2 11), .ref (g.2.2.2 12), .ref (g.2.2.2 13), .long (lN (σ.1 10)), .int (nI (σ.1 11)), .ref (g.2.2.2 14), .ref (g.2.2.2 15), .ref (g.2.2.2 16), .int (nI (σ.1 12)), .int (nI (σ.1 13))] : List Value).set 28 (.int (nI (v))))) = wM g (sF σ 12 v) ++ tl := rfl
theorem uM_F13 (g : GC) (σ : SS) (tl : va_W) (v : Nat) : (wM g σ ++ tl).set 0 (g.2.2.2 0, .inr (13, ([.int (nI (σ.1 0)), .ref (g.2.2.2 1), .ref (g.2.2.2 2), .ref (g.2.2.2 3), .int (nI (σ.1 1)), .int (nI (σ.1 2)), .ref (g.2.2.2 4), .int (nI (σ.1 3)), .int (nI (σ.1 4)), .int (nI (σ.1 5)), .ref (g.2.2.2 5), .ref (g.2.2.2 6), .ref (g.2.2.2 7), .int (nI (σ.1 6)), .ref (g.2.2.2 8), .ref (g.2.2.2 9), .ref (g.2.2.2 10), .int (nI (σ.1 7)), .int (nI (σ.1 8)), .int (nI (σ.1 9)), .ref (g.2.2.2 11), .ref (g.2.2.2 12), .ref (g.2.2.2 13), .long (lN (σ.1 10)), .int (nI (σ.1 11)), .ref (g.2.2.2 14), .ref (g.2.2.2 15), .ref (g.2.2.2 16), .int (nI (σ.1 12)), .int (nI (σ.1 13))] : List Value).set 29 (.int (nI (v))))) = wM g (sF σ 13 v) ++ tl := rfl
theorem gM1 (g : GC) (σ : SS) (tl : va_W) : (wM g σ ++ tl)[1]? = some (g.2.2.2 1, .inl (g.2.2.1 0, 122, .inl (fun k => nI (σ.2.1 0 k)))) := rfl
theorem uM_A0 (g : GC) (σ : SS) (tl : va_W) (f : Nat → Nat) : (wM g σ ++ tl).set 1 (g.2.2.2 1, .inl (g.2.2.1 0, 122, .inl (fun k => nI (f k)))) = wM g (sA σ 0 f) ++ tl := rfl
theorem gM2 (g : GC) (σ : SS) (tl : va_W) : (wM g σ ++ tl)[2]? = some (g.2.2.2 2, .inl (g.2.2.1 0, 122, .inl (fun k => nI (σ.2.1 1 k)))) := rfl
theorem uM_A1 (g : GC) (σ : SS) (tl : va_W) (f : Nat → Nat) : (wM g σ ++ tl).set 2 (g.2.2.2 2, .inl (g.2.2.1 0, 122, .inl (fun k => nI (f k)))) = wM g (sA σ 1 f) ++ tl := rfl
theorem gM3 (g : GC) (σ : SS) (tl : va_W) : (wM g σ ++ tl)[3]? = some (g.2.2.2 3, .inl (g.2.2.1 0, 976, .inl (fun k => nI (σ.2.1 2 k)))) := rfl
theorem uM_A2 (g : GC) (σ : SS) (tl : va_W) (f : Nat → Nat) : (wM g σ ++ tl).set 3 (g.2.2.2 3, .inl (g.2.2.1 0, 976, .inl (fun k => nI (f k)))) = wM g (sA σ 2 f) ++ tl := rfl
theorem gM4 (g : GC) (σ : SS) (tl : va_W) : (wM g σ ++ tl)[4]? = some (g.2.2.2 4, .inl (g.2.2.1 0, 40, .inl (fun k => nI (σ.2.1 3 k)))) := rfl
theorem uM_A3 (g : GC) (σ : SS) (tl : va_W) (f : Nat → Nat) : (wM g σ ++ tl).set 4 (g.2.2.2 4, .inl (g.2.2.1 0, 40, .inl (fun k => nI (f k)))) = wM g (sA σ 3 f) ++ tl := rfl
theorem gM5 (g : GC) (σ : SS) (tl : va_W) : (wM g σ ++ tl)[5]? = some (g.2.2.2 5, .inl (g.2.2.1 0, 16, .inl (fun k => nI (σ.2.1 4 k)))) := rfl
theorem uM_A4 (g : GC) (σ : SS) (tl : va_W) (f : Nat → Nat) : (wM g σ ++ tl).set 5 (g.2.2.2 5, .inl (g.2.2.1 0, 16, .inl (fun k => nI (f k)))) = wM g (sA σ 4 f) ++ tl := rfl
theorem gM6 (g : GC) (σ : SS) (tl : va_W) : (wM g σ ++ tl)[6]? = some (g.2.2.2 6, .inl (g.2.2.1 0, 8, .inl (fun k => nI (σ.2.1 5 k)))) := rfl
theorem uM_A5 (g : GC) (σ : SS) (tl : va_W) (f : Nat → Nat) : (wM g σ ++ tl).set 6 (g.2.2.2 6, .inl (g.2.2.1 0, 8, .inl (fun k => nI (f k)))) = wM g (sA σ 5 f) ++ tl := rfl
theorem gM7 (g : GC) (σ : SS) (tl : va_W) : (wM g σ ++ tl)[7]? = some (g.2.2.2 7, .inl (g.2.2.1 0, 8, .inl (fun k => nI (σ.2.1 6 k)))) := rfl
theorem uM_A6 (g : GC) (σ : SS) (tl : va_W) (f : Nat → Nat) : (wM g σ ++ tl).set 7 (g.2.2.2 7, .inl (g.2.2.1 0, 8, .inl (fun k => nI (f k)))) = wM g (sA σ 6 f) ++ tl := rfl
theorem gM8 (g : GC) (σ : SS) (tl : va_W) : (wM g σ ++ tl)[8]? = some (g.2.2.2 8, .inl (g.2.2.1 0, 1000, .inl (fun k => nI (σ.2.1 7 k)))) := rfl
theorem uM_A7 (g : GC) (σ : SS) (tl : va_W) (f : Nat → Nat) : (wM g σ ++ tl).set 8 (g.2.2.2 8, .inl (g.2.2.1 0, 1000, .inl (fun k => nI (f k)))) = wM g (sA σ 7 f) ++ tl := rfl
theorem gM9 (g : GC) (σ : SS) (tl : va_W) : (wM g σ ++ tl)[9]? = some (g.2.2.2 9, .inl (g.2.2.1 0, 3, .inl (fun k => nI (σ.2.1 8 k)))) := rfl
theorem uM_A8 (g : GC) (σ : SS) (tl : va_W) (f : Nat → Nat) : (wM g σ ++ tl).set 9 (g.2.2.2 9, .inl (g.2.2.1 0, 3, .inl (fun k => nI (f k)))) = wM g (sA σ 8 f) ++ tl := rfl
theorem gM10 (g : GC) (σ : SS) (tl : va_W) : (wM g σ ++ tl)[10]? = some (g.2.2.2 10, .inl (g.2.2.1 0, 8, .inl (fun k => nI (σ.2.1 9 k)))) := rfl
theorem uM_A9 (g : GC) (σ : SS) (tl : va_W) (f : Nat → Nat) : (wM g σ ++ tl).set 10 (g.2.2.2 10, .inl (g.2.2.1 0, 8, .inl (fun k => nI (f k)))) = wM g (sA σ 9 f) ++ tl := rfl
theorem gM11 (g : GC) (σ : SS) (tl : va_W) : (wM g σ ++ tl)[11]? = some (g.2.2.2 11, .inl (g.2.2.1 1, 5, .inr (.inl (fun k => lN (σ.2.2 0 k))))) := rfl
theorem uM_L0 (g : GC) (σ : SS) (tl : va_W) (f : Nat → Nat) : (wM g σ ++ tl).set 11 (g.2.2.2 11, .inl (g.2.2.1 1, 5, .inr (.inl (fun k => lN (f k))))) = wM g (sL σ 0 f) ++ tl := rfl
theorem gM12 (g : GC) (σ : SS) (tl : va_W) : (wM g σ ++ tl)[12]? = some (g.2.2.2 12, .inl (g.2.2.1 1, 5, .inr (.inl (fun k => lN (σ.2.2 1 k))))) := rfl
theorem uM_L1 (g : GC) (σ : SS) (tl : va_W) (f : Nat → Nat) : (wM g σ ++ tl).set 12 (g.2.2.2 12, .inl (g.2.2.1 1, 5, .inr (.inl (fun k => lN (f k))))) = wM g (sL σ 1 f) ++ tl := rfl
theorem gM13 (g : GC) (σ : SS) (tl : va_W) : (wM g σ ++ tl)[13]? = some (g.2.2.2 13, .inl (g.2.2.1 0, 3, .inl (fun k => nI (σ.2.1 10 k)))) := rfl
theorem uM_A10 (g : GC) (σ : SS) (tl : va_W) (f : Nat → Nat) : (wM g σ ++ tl).set 13 (g.2.2.2 13, .inl (g.2.2.1 0, 3, .inl (fun k => nI (f k)))) = wM g (sA σ 10 f) ++ tl := rfl
theorem gM14 (g : GC) (σ : SS) (tl : va_W) : (wM g σ ++ tl)[14]? = some (g.2.2.2 14, .inl (g.2.2.1 0, 10240, .inl (fun k => nI (σ.2.1 11 k)))) := rfl
theorem uM_A11 (g : GC) (σ : SS) (tl : va_W) (f : Nat → Nat) : (wM g σ ++ tl).set 14 (g.2.2.2 14, .inl (g.2.2.1 0, 10240, .inl (fun k => nI (f k)))) = wM g (sA σ 11 f) ++ tl := rfl
theorem gM15 (g : GC) (σ : SS) (tl : va_W) : (wM g σ ++ tl)[15]? = some (g.2.2.2 15, .inl (g.2.2.1 0, 8, .inl (fun k => nI (σ.2.1 12 k)))) := rfl
theorem uM_A12 (g : GC) (σ : SS) (tl : va_W) (f : Nat → Nat) : (wM g σ ++ tl).set 15 (g.2.2.2 15, .inl (g.2.2.1 0, 8, .inl (fun k => nI (f k)))) = wM g (sA σ 12 f) ++ tl := rfl
theorem gM16 (g : GC) (σ : SS) (tl : va_W) : (wM g σ ++ tl)[16]? = some (g.2.2.2 16, .inl (g.2.2.1 2, 1000, .inl (fun k => nI (σ.2.1 13 k)))) := rfl
theorem uM_A13 (g : GC) (σ : SS) (tl : va_W) (f : Nat → Nat) : (wM g σ ++ tl).set 16 (g.2.2.2 16, .inl (g.2.2.1 2, 1000, .inl (fun k => nI (f k)))) = wM g (sA σ 13 f) ++ tl := rfl
theorem gCr (g : GC) (σ : SS) (tl : va_W) (j : Nat) (hj : j < 9) : (wC g σ ++ tl)[8 + j]? = some (g.2.2.2 (8 + j), .inl (g.2.2.1 0, 58, .inl (fun k => nI (σ.2.2 (2 + j) k)))) := by
  rcases (by omega : j = 0 ∨ j = 1 ∨ j = 2 ∨ j = 3 ∨ j = 4 ∨ j = 5 ∨ j = 6 ∨ j = 7 ∨ j = 8) with rfl | rfl | rfl | rfl | rfl | rfl | rfl | rfl | rfl <;> rfl
theorem uC_Ar (g : GC) (σ : SS) (tl : va_W) (j : Nat) (hj : j < 9) (f : Nat → Nat) : (wC g σ ++ tl).set (8 + j) (g.2.2.2 (8 + j), .inl (g.2.2.1 0, 58, .inl (fun k => nI (f k)))) = wC g (sL σ (2 + j) f) ++ tl := by
  rcases (by omega : j = 0 ∨ j = 1 ∨ j = 2 ∨ j = 3 ∨ j = 4 ∨ j = 5 ∨ j = 6 ∨ j = 7 ∨ j = 8) with rfl | rfl | rfl | rfl | rfl | rfl | rfl | rfl | rfl <;> rfl
theorem sL_same (σ : SS) (j : Nat) (f : Nat → Nat) : (sL σ j f).2.2 j = f := if_pos rfl
theorem sL_sL (σ : SS) (j : Nat) (f f2 : Nat → Nat) : sL (sL σ j f) j f2 = sL σ j f2 := by
  unfold sL
  rw [bx_uu]
theorem gCr2 (g : GC) (σ : SS) (tl : va_W) (j : Nat) (hj : j < 9) (f : Nat → Nat) : (wC g (sL σ (2 + j) f) ++ tl)[8 + j]? = some (g.2.2.2 (8 + j), .inl (g.2.2.1 0, 58, .inl (fun k => nI (f k)))) := by
  have h := gCr g (sL σ (2 + j) f) tl j hj
  rw [sL_same] at h
  exact h
theorem uC_Ar2 (g : GC) (σ : SS) (tl : va_W) (j : Nat) (hj : j < 9) (f f2 : Nat → Nat) : (wC g (sL σ (2 + j) f) ++ tl).set (8 + j) (g.2.2.2 (8 + j), .inl (g.2.2.1 0, 58, .inl (fun k => nI (f2 k)))) = wC g (sL σ (2 + j) f2) ++ tl := by
  rw [uC_Ar g _ tl j hj, sL_sL]
/-! ===== the beginning and the end of a contract ===== -/
theorem jn_pi {l : Launch} {y : MethodName} {ws ws' : List Cond} {rm : Room} {av : List Value} {B : State → Prop} {post : Int32 → Prop} {cc : ByteArray} {maxL : Nat} {own : String} (hy : plainName y.cls = true) (hw : ws = Cond.code y cc maxL (some .int) :: ws') (hoy : y.cls = own) (hlen : (lg_sl av).length ≤ maxL)
    (body : ∀ (p : Program) (e : Env) (s : State) (m : MethodId) (below : List Frame) (meth : Method) (c : Code) (Q : State → Prop), p.tables.exec = Jvm.exec → c.code = cc → c.maxLocals = maxL → s.vm.findClass own = some m.cls → (∀ w ∈ ws, w.before av.toArray s = true) → B s →
      (∀ (pc : Nat) (ls : Array Slot) (v : Int32), decode cc pc = .ok (.ireturn, 1) → post v → W p l e rm s m av.toArray below meth c s.heap [] 0 0 Q (F0 m pc ls [.int v])) →
      ∀ ls, lv_has ls maxL (lv_args 0 av) → W p l e rm s m av.toArray below meth c s.heap [] 0 0 Q (F0 m 0 ls [])) : Met l y ws rm (va_Pc av B) (vp_Si post) 0 0 (fun _ => False) := by
  refine Met.ofW (cc := cc) (maxL := maxL) (ret := some .int) hy hw ?_
  intro p e s m args below meth c s₁ Bd hml hv
  obtain ⟨rfl, hB⟩ := hv
  have hl := lv_entry av (n := maxL) hlen
  rw [lg_entry_eq]
  have hlocks := Bd.notSynchronized
  exact body p e s m below meth c _ Bd.exec Bd.bytes hml (by rw [← hoy]; exact findClass_of_methodNamed Bd.named) (atoms_spec Bd.pre) hB (fun pc ls v d hp => W.iret Bd.exec Bd.bytes Bd.returns (fun t ht hW => ⟨v, rfl, hp, ht⟩) (fun q hq => absurd hq List.not_mem_nil) d) _ hl
theorem jn_pz {l : Launch} {y : MethodName} {ws ws' : List Cond} {rm : Room} {av : List Value} {B : State → Prop} {post : Int32 → Prop} {cc : ByteArray} {maxL : Nat} {own : String} (hy : plainName y.cls = true) (hw : ws = Cond.code y cc maxL (some .boolean) :: ws') (hoy : y.cls = own) (hlen : (lg_sl av).length ≤ maxL)
    (body : ∀ (p : Program) (e : Env) (s : State) (m : MethodId) (below : List Frame) (meth : Method) (c : Code) (Q : State → Prop), p.tables.exec = Jvm.exec → c.code = cc → c.maxLocals = maxL → s.vm.findClass own = some m.cls → (∀ w ∈ ws, w.before av.toArray s = true) → B s →
      (∀ (pc : Nat) (ls : Array Slot) (v : Int32), decode cc pc = .ok (.ireturn, 1) → narrow .boolean (.int v) = .int v → post v → W p l e rm s m av.toArray below meth c s.heap [] 0 0 Q (F0 m pc ls [.int v])) →
      ∀ ls, lv_has ls maxL (lv_args 0 av) → W p l e rm s m av.toArray below meth c s.heap [] 0 0 Q (F0 m 0 ls [])) : Met l y ws rm (va_Pc av B) (vp_Si post) 0 0 (fun _ => False) := by
  refine Met.ofW (cc := cc) (maxL := maxL) (ret := some .boolean) hy hw ?_
  intro p e s m args below meth c s₁ Bd hml hv
  obtain ⟨rfl, hB⟩ := hv
  have hl := lv_entry av (n := maxL) hlen
  rw [lg_entry_eq]
  have hlocks := Bd.notSynchronized
  exact body p e s m below meth c _ Bd.exec Bd.bytes hml (by rw [← hoy]; exact findClass_of_methodNamed Bd.named) (atoms_spec Bd.pre) hB (fun pc ls v d hn hp => W.zret Bd.exec Bd.bytes Bd.returns hn (fun t ht hW => ⟨v, rfl, hp, ht⟩) (fun q hq => absurd hq List.not_mem_nil) d) _ hl
theorem jn_pl {l : Launch} {y : MethodName} {ws ws' : List Cond} {rm : Room} {av : List Value} {B : State → Prop} {post : Int64 → Prop} {cc : ByteArray} {maxL : Nat} {own : String} (hy : plainName y.cls = true) (hw : ws = Cond.code y cc maxL (some .long) :: ws') (hoy : y.cls = own) (hlen : (lg_sl av).length ≤ maxL)
    (body : ∀ (p : Program) (e : Env) (s : State) (m : MethodId) (below : List Frame) (meth : Method) (c : Code) (Q : State → Prop), p.tables.exec = Jvm.exec → c.code = cc → c.maxLocals = maxL → s.vm.findClass own = some m.cls → (∀ w ∈ ws, w.before av.toArray s = true) → B s →
      (∀ (pc : Nat) (ls : Array Slot) (v : Int64), decode cc pc = .ok (.lreturn, 1) → post v → W p l e rm s m av.toArray below meth c s.heap [] 0 0 Q (F0 m pc ls [.long v])) →
      ∀ ls, lv_has ls maxL (lv_args 0 av) → W p l e rm s m av.toArray below meth c s.heap [] 0 0 Q (F0 m 0 ls [])) : Met l y ws rm (va_Pc av B) (vp_Sl post) 0 0 (fun _ => False) := by
  refine Met.ofW (cc := cc) (maxL := maxL) (ret := some .long) hy hw ?_
  intro p e s m args below meth c s₁ Bd hml hv
  obtain ⟨rfl, hB⟩ := hv
  have hl := lv_entry av (n := maxL) hlen
  rw [lg_entry_eq]
  have hlocks := Bd.notSynchronized
  exact body p e s m below meth c _ Bd.exec Bd.bytes hml (by rw [← hoy]; exact findClass_of_methodNamed Bd.named) (atoms_spec Bd.pre) hB (fun pc ls v d hp => W.lret Bd.exec Bd.bytes Bd.returns (fun t ht hW => ⟨v, rfl, hp, ht⟩) (fun q hq => absurd hq List.not_mem_nil) d) _ hl
theorem jn_sv {l : Launch} {y : MethodName} {ws ws' : List Cond} {rm : Room} {av : List Value} {S : Type} {g : GC} {w0 : va_W} {wf : S → va_W} {sz : Nat} {post : S → Prop} {cc : ByteArray} {maxL : Nat} {own : String} (hy : plainName y.cls = true) (hw : ws = Cond.code y cc maxL (none) :: ws') (hoy : y.cls = own) (hlen : (lg_sl av).length ≤ maxL)
    (body : ∀ (p : Program) (e : Env) (s : State) (m : MethodId) (below : List Frame) (meth : Method) (c : Code) (Q : State → Prop) (A : Nat → Prop), p.tables.exec = Jvm.exec → c.code = cc → c.maxLocals = maxL → s.vm.findClass own = some m.cls → (∀ w ∈ ws, w.before av.toArray s = true) → KB g s → va_P (g.1, g.2.1) vwCl w0 s.heap → va_D A w0 → va_S A s.heap s.heap [] → (∀ q : Nat, s.heap.size ≤ q → A q) →
      (∀ (H : Heap) (locs : List Loc) (pc : Nat) (ls : Array Slot) (u : S), decode cc pc = .ok (.return_, 1) → post u → va_P (g.1, g.2.1) vwCl (wf u) H → va_D A (wf u) → va_S A s.heap H locs → W p l e rm s m av.toArray below meth c H locs 0 0 Q (F0 m pc ls [])) →
      ∀ ls, lv_has ls maxL (lv_args 0 av) → W p l e rm s m av.toArray below meth c s.heap [] 0 0 Q (F0 m 0 ls [])) : Met l y ws rm (va_Pc av (PW g w0 sz)) (va_Qv post (fun u t => BW g (va_A w0 sz) (wf u) t) (va_A w0 sz)) 0 0 (va_A w0 sz) := by
  refine Met.ofW (cc := cc) (maxL := maxL) (ret := none) hy hw ?_
  intro p e s m args below meth c s₁ Bd hml hv
  obtain ⟨rfl, hsz, hP, hK, hD0⟩ := hv
  subst hsz
  have hl := lv_entry av (n := maxL) hlen
  rw [lg_entry_eq]
  have hlocks := Bd.notSynchronized
  exact body p e s m below meth c _ (va_A w0 s.heap.size) Bd.exec Bd.bytes hml (by rw [← hoy]; exact findClass_of_methodNamed Bd.named) (atoms_spec Bd.pre) hK hP hD0.self va_S.rf (fun q h => Or.inr h) (fun H locs pc ls u d hp hP hD hS => W.vret Bd.exec Bd.bytes Bd.returns (fun t ht hW => ⟨⟨u, rfl, hp, by rw [ht]; exact hP, hD⟩, hS.F ht⟩) hS.2.2 d) _ hl
theorem jn_si {l : Launch} {y : MethodName} {ws ws' : List Cond} {rm : Room} {av : List Value} {S : Type} {g : GC} {w0 : va_W} {wf : S → va_W} {sz : Nat} {post : Int32 → S → Prop} {cc : ByteArray} {maxL : Nat} {own : String} (hy : plainName y.cls = true) (hw : ws = Cond.code y cc maxL (some .int) :: ws') (hoy : y.cls = own) (hlen : (lg_sl av).length ≤ maxL)
    (body : ∀ (p : Program) (e : Env) (s : State) (m : MethodId) (below : List Frame) (meth : Method) (c : Code) (Q : State → Prop) (A : Nat → Prop), p.tables.exec = Jvm.exec → c.code = cc → c.maxLocals = maxL → s.vm.findClass own = some m.cls → (∀ w ∈ ws, w.before av.toArray s = true) → KB g s → va_P (g.1, g.2.1) vwCl w0 s.heap → va_D A w0 → va_S A s.heap s.heap [] → (∀ q : Nat, s.heap.size ≤ q → A q) →
      (∀ (H : Heap) (locs : List Loc) (pc : Nat) (ls : Array Slot) (v : Int32) (u : S), decode cc pc = .ok (.ireturn, 1) → post v u → va_P (g.1, g.2.1) vwCl (wf u) H → va_D A (wf u) → va_S A s.heap H locs → W p l e rm s m av.toArray below meth c H locs 0 0 Q (F0 m pc ls [.int v])) →
      ∀ ls, lv_has ls maxL (lv_args 0 av) → W p l e rm s m av.toArray below meth c s.heap [] 0 0 Q (F0 m 0 ls [])) : Met l y ws rm (va_Pc av (PW g w0 sz)) (va_Qi post (fun u t => BW g (va_A w0 sz) (wf u) t) (va_A w0 sz)) 0 0 (va_A w0 sz) := by
  refine Met.ofW (cc := cc) (maxL := maxL) (ret := some .int) hy hw ?_
  intro p e s m args below meth c s₁ Bd hml hv
  obtain ⟨rfl, hsz, hP, hK, hD0⟩ := hv
  subst hsz
  have hl := lv_entry av (n := maxL) hlen
  rw [lg_entry_eq]
  have hlocks := Bd.notSynchronized
  exact body p e s m below meth c _ (va_A w0 s.heap.size) Bd.exec Bd.bytes hml (by rw [← hoy]; exact findClass_of_methodNamed Bd.named) (atoms_spec Bd.pre) hK hP hD0.self va_S.rf (fun q h => Or.inr h) (fun H locs pc ls v u d hp hP hD hS => W.iret Bd.exec Bd.bytes Bd.returns (fun t ht hW => ⟨⟨v, u, rfl, hp, by rw [ht]; exact hP, hD⟩, hS.F ht⟩) hS.2.2 d) _ hl
theorem jn_sz {l : Launch} {y : MethodName} {ws ws' : List Cond} {rm : Room} {av : List Value} {S : Type} {g : GC} {w0 : va_W} {wf : S → va_W} {sz : Nat} {post : Int32 → S → Prop} {cc : ByteArray} {maxL : Nat} {own : String} (hy : plainName y.cls = true) (hw : ws = Cond.code y cc maxL (some .boolean) :: ws') (hoy : y.cls = own) (hlen : (lg_sl av).length ≤ maxL)
    (body : ∀ (p : Program) (e : Env) (s : State) (m : MethodId) (below : List Frame) (meth : Method) (c : Code) (Q : State → Prop) (A : Nat → Prop), p.tables.exec = Jvm.exec → c.code = cc → c.maxLocals = maxL → s.vm.findClass own = some m.cls → (∀ w ∈ ws, w.before av.toArray s = true) → KB g s → va_P (g.1, g.2.1) vwCl w0 s.heap → va_D A w0 → va_S A s.heap s.heap [] → (∀ q : Nat, s.heap.size ≤ q → A q) →
      (∀ (H : Heap) (locs : List Loc) (pc : Nat) (ls : Array Slot) (v : Int32) (u : S), decode cc pc = .ok (.ireturn, 1) → narrow .boolean (.int v) = .int v → post v u → va_P (g.1, g.2.1) vwCl (wf u) H → va_D A (wf u) → va_S A s.heap H locs → W p l e rm s m av.toArray below meth c H locs 0 0 Q (F0 m pc ls [.int v])) →
      ∀ ls, lv_has ls maxL (lv_args 0 av) → W p l e rm s m av.toArray below meth c s.heap [] 0 0 Q (F0 m 0 ls [])) : Met l y ws rm (va_Pc av (PW g w0 sz)) (va_Qi post (fun u t => BW g (va_A w0 sz) (wf u) t) (va_A w0 sz)) 0 0 (va_A w0 sz) := by
  refine Met.ofW (cc := cc) (maxL := maxL) (ret := some .boolean) hy hw ?_
  intro p e s m args below meth c s₁ Bd hml hv
  obtain ⟨rfl, hsz, hP, hK, hD0⟩ := hv
  subst hsz
  have hl := lv_entry av (n := maxL) hlen
  rw [lg_entry_eq]
  have hlocks := Bd.notSynchronized
  exact body p e s m below meth c _ (va_A w0 s.heap.size) Bd.exec Bd.bytes hml (by rw [← hoy]; exact findClass_of_methodNamed Bd.named) (atoms_spec Bd.pre) hK hP hD0.self va_S.rf (fun q h => Or.inr h) (fun H locs pc ls v u d hn hp hP hD hS => W.zret Bd.exec Bd.bytes Bd.returns hn (fun t ht hW => ⟨⟨v, u, rfl, hp, by rw [ht]; exact hP, hD⟩, hS.F ht⟩) hS.2.2 d) _ hl
theorem jn_sl {l : Launch} {y : MethodName} {ws ws' : List Cond} {rm : Room} {av : List Value} {S : Type} {g : GC} {w0 : va_W} {wf : S → va_W} {sz : Nat} {post : Int64 → S → Prop} {cc : ByteArray} {maxL : Nat} {own : String} (hy : plainName y.cls = true) (hw : ws = Cond.code y cc maxL (some .long) :: ws') (hoy : y.cls = own) (hlen : (lg_sl av).length ≤ maxL)
    (body : ∀ (p : Program) (e : Env) (s : State) (m : MethodId) (below : List Frame) (meth : Method) (c : Code) (Q : State → Prop) (A : Nat → Prop), p.tables.exec = Jvm.exec → c.code = cc → c.maxLocals = maxL → s.vm.findClass own = some m.cls → (∀ w ∈ ws, w.before av.toArray s = true) → KB g s → va_P (g.1, g.2.1) vwCl w0 s.heap → va_D A w0 → va_S A s.heap s.heap [] → (∀ q : Nat, s.heap.size ≤ q → A q) →
      (∀ (H : Heap) (locs : List Loc) (pc : Nat) (ls : Array Slot) (v : Int64) (u : S), decode cc pc = .ok (.lreturn, 1) → post v u → va_P (g.1, g.2.1) vwCl (wf u) H → va_D A (wf u) → va_S A s.heap H locs → W p l e rm s m av.toArray below meth c H locs 0 0 Q (F0 m pc ls [.long v])) →
      ∀ ls, lv_has ls maxL (lv_args 0 av) → W p l e rm s m av.toArray below meth c s.heap [] 0 0 Q (F0 m 0 ls [])) : Met l y ws rm (va_Pc av (PW g w0 sz)) (va_Ql post (fun u t => BW g (va_A w0 sz) (wf u) t) (va_A w0 sz)) 0 0 (va_A w0 sz) := by
  refine Met.ofW (cc := cc) (maxL := maxL) (ret := some .long) hy hw ?_
  intro p e s m args below meth c s₁ Bd hml hv
  obtain ⟨rfl, hsz, hP, hK, hD0⟩ := hv
  subst hsz
  have hl := lv_entry av (n := maxL) hlen
  rw [lg_entry_eq]
  have hlocks := Bd.notSynchronized
  exact body p e s m below meth c _ (va_A w0 s.heap.size) Bd.exec Bd.bytes hml (by rw [← hoy]; exact findClass_of_methodNamed Bd.named) (atoms_spec Bd.pre) hK hP hD0.self va_S.rf (fun q h => Or.inr h) (fun H locs pc ls v u d hp hP hD hS => W.lret Bd.exec Bd.bytes Bd.returns (fun t ht hW => ⟨⟨v, u, rfl, hp, by rw [ht]; exact hP, hD⟩, hS.F ht⟩) hS.2.2 d) _ hl
theorem jn_nb (P : Prop) [Decidable P] : narrow .boolean (.int (nI (if P then 1 else 0))) = .int (nI (if P then 1 else 0)) := by
  by_cases h : P
  · rw [if_pos h]; decide
  · rw [if_neg h]; decide
theorem jn_n0 : narrow .boolean (.int (nI 0)) = .int (nI 0) := by decide
theorem jn_n1 : narrow .boolean (.int (nI 1)) = .int (nI 1) := by decide
theorem sF_same (σ : SS) (k v : Nat) : (sF σ k v).1 k = v := if_pos rfl
theorem sF_ne (σ : SS) {k j : Nat} (v : Nat) (h : j ≠ k) : (sF σ k v).1 j = σ.1 j := if_neg h
section JNC
variable {p : Program} {l : Launch} {e : Env} {R : Room} {s : State} {m : MethodId} {args : Array Value} {below : List Frame} {meth : Method} {c : Code} {H : Heap} {locs : List Loc} {cells slots : Nat} {Q : State → Prop}
variable {cc : ByteArray} {pc : Nat} {ls : Array Slot} {rest st0 : List Value} {D : va_G} {cl : List vw_C} {A : Nat → Prop} {a : Array Value} {tys : List (ClassId × FieldType)} {H0 : Heap}
theorem jn_callv {S : Type} {post : S → Prop} {g : GC} {w0 : va_W} {wf : S → va_W} (hr : va_Run p l e R s m args below meth c H locs cells slots 0 0 (F0 m pc ls st0) rest (va_Qv post (fun u t => BW g (va_A w0 H.size) (wf u) t) (va_A w0 H.size) a) (va_A w0 H.size)) (hD : va_D A w0) (hS : va_S A H0 H locs) (hA : ∀ q, H0.size ≤ q → A q)
    (kk : ∀ (u : S) (H1 : Heap) (locs1 : List Loc), post u → va_P (g.1, g.2.1) vwCl (wf u) H1 → va_D A (wf u) → va_S A H0 H1 locs1 → W p l e R s m args below meth c H1 locs1 cells slots Q (F0 m (pc + 3) ls (rest))) : W p l e R s m args below meth c H locs cells slots Q (F0 m pc ls st0) := by
  refine va_callv hr hS (fun q _ h => fr_all hD hS hA q h) (fr_all hD hS hA) (fun u t H1 locs1 ht hvm hw hB hz1 hk1 hS1 => ?_)
  obtain ⟨hP1, hD1⟩ := hB
  rw [ht] at hP1
  exact kk u H1 locs1 hw hP1 (hD1.weaken (fun _ _ _ h => fr_all hD hS hA _ h)) hS1
theorem jn_calli {S : Type} {post : Int32 → S → Prop} {g : GC} {w0 : va_W} {wf : S → va_W} (hr : va_Run p l e R s m args below meth c H locs cells slots 0 0 (F0 m pc ls st0) rest (va_Qi post (fun u t => BW g (va_A w0 H.size) (wf u) t) (va_A w0 H.size) a) (va_A w0 H.size)) (hD : va_D A w0) (hS : va_S A H0 H locs) (hA : ∀ q, H0.size ≤ q → A q)
    (kk : ∀ (r : Int32) (u : S) (H1 : Heap) (locs1 : List Loc), post r u → va_P (g.1, g.2.1) vwCl (wf u) H1 → va_D A (wf u) → va_S A H0 H1 locs1 → W p l e R s m args below meth c H1 locs1 cells slots Q (F0 m (pc + 3) ls (.int r :: rest))) : W p l e R s m args below meth c H locs cells slots Q (F0 m pc ls st0) := by
  refine va_calli hr hS (fun q _ h => fr_all hD hS hA q h) (fr_all hD hS hA) (fun r u t H1 locs1 ht hvm hw hB hz1 hk1 hS1 => ?_)
  obtain ⟨hP1, hD1⟩ := hB
  rw [ht] at hP1
  exact kk r u H1 locs1 hw hP1 (hD1.weaken (fun _ _ _ h => fr_all hD hS hA _ h)) hS1
theorem jn_calll {S : Type} {post : Int64 → S → Prop} {g : GC} {w0 : va_W} {wf : S → va_W} (hr : va_Run p l e R s m args below meth c H locs cells slots 0 0 (F0 m pc ls st0) rest (va_Ql post (fun u t => BW g (va_A w0 H.size) (wf u) t) (va_A w0 H.size) a) (va_A w0 H.size)) (hD : va_D A w0) (hS : va_S A H0 H locs) (hA : ∀ q, H0.size ≤ q → A q)
    (kk : ∀ (r : Int64) (u : S) (H1 : Heap) (locs1 : List Loc), post r u → va_P (g.1, g.2.1) vwCl (wf u) H1 → va_D A (wf u) → va_S A H0 H1 locs1 → W p l e R s m args below meth c H1 locs1 cells slots Q (F0 m (pc + 3) ls (.long r :: rest))) : W p l e R s m args below meth c H locs cells slots Q (F0 m pc ls st0) := by
  refine va_calll hr hS (fun q _ h => fr_all hD hS hA q h) (fr_all hD hS hA) (fun r u t H1 locs1 ht hvm hw hB hz1 hk1 hS1 => ?_)
  obtain ⟨hP1, hD1⟩ := hB
  rw [ht] at hP1
  exact kk r u H1 locs1 hw hP1 (hD1.weaken (fun _ _ _ h => fr_all hD hS hA _ h)) hS1
end JNC
theorem jn_f0 : fits .boolean (.int (nI 0)) = true := by decide
theorem jn_f1 : fits .boolean (.int (nI 1)) = true := by decide
theorem jn_fb (P : Prop) [Decidable P] : fits .boolean (.int (nI (if P then 1 else 0))) = true := by
  by_cases h : P
  · rw [if_pos h]; decide
  · rw [if_neg h]; decide
