/-! ===== methods that may throw ===== -/
def exL : List String := ["java/lang/IllegalArgumentException", "java/lang/IllegalStateException", "java/lang/IndexOutOfBoundsException", "java/util/NoSuchElementException", "java/lang/UnsupportedOperationException", "java/lang/ArithmeticException"]
def strL : List (Nat × String) := [(99, "the character is not from 33 to 126"), (110, "the text has 40 characters"), (123, "the text has a fault"), (132, "there would be more than 15 transitions"), (159, "there are 15 transitions"), (166, "the transition does not exist"), (178, "there is no such state"), (191, "there is no such transition"), (205, "the letter is out of range"), (207, "the word has 8 letters"), (212, "there is no such position"), (242, "the rank is negative"), (248, "there is no such arrangement"), (265, "there is no reading orde\x72"), (270, "there is no such index"), (294, "there are no such minimal counts"), (301, "there are no such cycle counts"), (309, "the counting set has 4 linear sets"), (322, "a number is out of range, or all are 0"), (327, "the linear set has 3 periods"), (371, "there is no such word"), (377, "there are no minimal counts"), (384, "there is no change to take back"), (396, "nothing was saved"), (407, "there is no such state or lette\x72"), (412, "there is no such counting set"), (418, "there is no such counting set or linear set"), (420, "a number is out of range"), (422, "the bound is out of range"), (424, "the length is out of range"), (426, "the mode is out of range"), (430, "the automaton is not deterministic"), (476, "there are no such counts")]
abbrev nmE : List String := ["java/lang/RuntimeException", "java/lang/Exception"]
def decL : List String := ["java/lang/RuntimeException", "java/lang/Exception", Bundle.tN]
def KX (g : GC) (U : State) : Prop := KB g U ∧ (∀ q ∈ exL, va_Nw (.castable q q) U) ∧ (∀ q ∈ strL, ∃ sa, vk_R RX10 q.1 q.2 sa U) ∧ ∀ q ∈ decL, va_Nw (.declares (Bundle.initS q)) U
theorem KX.moved {g : GC} {s U : State} (hW : s.WarmedH U.vm) (h : KX g s) : KX g U := ⟨h.1.moved hW, fun q hq => va_Nw.warmC hW (h.2.1 q hq), fun q hq => by obtain ⟨sa, hs⟩ := h.2.2.1 q hq; exact ⟨sa, vk_R.warm hW hs⟩, fun q hq => va_Nw.warmD hW (h.2.2.2 q hq)⟩
theorem KX.blind {g : GC} {U : State} {f : JFrame} {mk : MethodId} {a : Array Value} (h : KX g U) : KX g (U.calling f mk a) := ⟨h.1.blind, fun q hq => va_Nw.same rfl rfl (h.2.1 q hq), fun q hq => by obtain ⟨sa, hs⟩ := h.2.2.1 q hq; exact ⟨sa, vk_R.same (u := U) rfl hs⟩, fun q hq => va_Nw.same rfl rfl (h.2.2.2 q hq)⟩
def ZX (A : Nat → Prop) (U : State) (H : Heap) : Prop := vx_Zq Bundle.tN "UNASSIGNED_STACK" Bundle.steD A U H ∧ vx_Zq Bundle.tN "SUPPRESSED_SENTINEL" Bundle.listD A U H
theorem ZX.moved {A : Nat → Prop} {u U : State} {H : Heap} (hvm : u.vm.Alike U.vm) (h : ZX A u H) : ZX A U H := ⟨h.1.moved hvm, h.2.moved hvm⟩
theorem ZX.kept {A : Nat → Prop} {U : State} {H H1 : Heap} (h : ZX A U H) (hq : ∀ a : Nat, a < H.size → ¬ A a → H1[a]? = H[a]?) : ZX A U H1 := ⟨h.1.kept hq, h.2.kept hq⟩
theorem ZX.narrow {A B : Nat → Prop} {U : State} {H : Heap} (h : ZX A U H) (hAB : ∀ q, B q → A q) : ZX B U H := ⟨h.1.narrow hAB, h.2.narrow hAB⟩
/-- the start of a method that may throw -/
def PX (g : GC) (w : va_W) (sz : Nat) : State → Prop := fun U => U.heap.size = sz ∧ va_P (g.1, g.2.1) vwCl w U.heap ∧ KX g U ∧ va_D (fun _ => True) w ∧ ZX (va_A w sz) U U.heap
theorem okXS {s : State} {H H0 : Heap} {g : GC} {w : va_W} {As : List Value} {A : Nat → Prop} {locs : List Loc} (hK : KX g s) (hP : va_P (g.1, g.2.1) vwCl w H) (hD : va_D A w) (hZ : ZX A s H0) (hS : va_S A H0 H locs) (hA : ∀ q, H0.size ≤ q → A q) : PreS s H (va_Pc As (PX g w H.size)) As :=
  ⟨fun a U f mk q => ⟨q.1, q.2.1, q.2.2.1, q.2.2.2.1.blind, q.2.2.2.2.1, q.2.2.2.2.2.moved (U := U.calling f mk a) (Vm.Alike.refl U.vm)⟩, fun U hU hW => ⟨rfl, by rw [hU], by rw [hU]; exact hP, hK.moved hW, hD.weaken (fun _ _ _ _ => trivial), by rw [hU]; exact (((hZ.kept hS.2.1).narrow (fr_all hD hS hA)).moved hW.alike)⟩⟩
theorem okXV {s : State} {H H0 : Heap} {g : GC} {w : va_W} {As : List Value} {A : Nat → Prop} {locs : List Loc} {a q0 ci : Nat} {q : vw_C} {fs : List Value} (hK : KX g s) (hP : va_P (g.1, g.2.1) vwCl w H) (hD : va_D A w) (hZ : ZX A s H0) (hS : va_S A H0 H locs) (hA : ∀ q, H0.size ≤ q → A q) (hc : vwCl[ci]? = some q) (he : w[q0]? = some (a, .inr (ci, fs))) : PreV s H q.1 a (va_Pc (.ref a :: As) (PX g w H.size)) As :=
  ⟨fun a U f mk q => ⟨q.1, q.2.1, q.2.2.1, q.2.2.2.1.blind, q.2.2.2.2.1, q.2.2.2.2.2.moved (U := U.calling f mk a) (Vm.Alike.refl U.vm)⟩, va_recv hK.1.1 hP hc he, fun U hU hW => ⟨rfl, by rw [hU], by rw [hU]; exact hP, hK.moved hW, hD.weaken (fun _ _ _ _ => trivial), by rw [hU]; exact (((hZ.kept hS.2.1).narrow (fr_all hD hS hA)).moved hW.alike)⟩⟩
/-- how a method that throws leaves the world: E: the exception's class -/
def XW {SX : Type} (g : GC) (A : Nat → Prop) (xp : String → SX → Prop) (wx : SX → va_W) : String → State → State → Prop := vx_X (fun _ : SX => True) (fun E u t => xp E u ∧ BW g A (wx u) t) A
/-- the words of a throw, and its room -/
def TwW (own : String) (ik is ic : Nat) (cls text : String) (ws : List Cond) (rm : Room) : Prop :=
  Cond.classLink own ik cls ∈ ws ∧ Cond.initialized cls ∈ ws ∧ (∀ w ∈ (vx_atS own ic cls nmE).filter goodWord, w ∈ ws) ∧ ((is, text) : Nat × String) ∈ strL ∧ cls ∈ exL ∧ Bundle.fit cls = true ∧ (∀ w ∈ (vx_atS own ic cls nmE).filter (fun w => !goodWord w), w ∈ [Cond.castable cls cls, Cond.declares (Bundle.initS "java/lang/RuntimeException"), Cond.declares (Bundle.initS "java/lang/Exception"), Cond.declares (Bundle.initS Bundle.tN)]) ∧ (∀ w ∈ Cond.classLink own ik cls :: Cond.initialized cls :: vx_atS own ic cls nmE, vx_ot w = true) ∧ nmE.length + 3 < rm.frames ∧ (([] : List Value).map fun v => v.category).sum + (13 * (nmE.length + 1) + 43) ≤ rm.locals
theorem jx_v {l : Launch} (hflg : l.stackTraces = false) {y : MethodName} {ws ws' : List Cond} {rm : Room} {av : List Value} {S SX : Type} {g : GC} {w0 : va_W} {wf : S → va_W} {wx : SX → va_W} {sz mc ms : Nat} {post : S → Prop} {xp : String → SX → Prop} {cc : ByteArray} {maxL : Nat} (hy : plainName y.cls = true) (hw : ws = Cond.code y cc maxL none :: ws') (hoy : y.cls = RX10) (hlen : (lg_sl av).length ≤ maxL)
    (body : ∀ (p : Program) (e : Env) (s : State) (m : MethodId) (below : List Frame) (meth : Method) (c : Code) (Q : State → Prop) (A : Nat → Prop), p.tables.exec = Jvm.exec → c.code = cc → c.maxLocals = maxL → s.vm.findClass RX10 = some m.cls → (∀ w ∈ ws, w.before av.toArray s = true) → KX g s → va_P (g.1, g.2.1) vwCl w0 s.heap → va_D A w0 → va_S A s.heap s.heap [] → (∀ q : Nat, s.heap.size ≤ q → A q) → ZX A s s.heap →
      (∀ (H : Heap) (locs : List Loc) (cells slots : Nat) (pc : Nat) (ls : Array Slot) (u : S), cells ≤ mc → slots ≤ ms → decode cc pc = .ok (.return_, 1) → post u → va_P (g.1, g.2.1) vwCl (wf u) H → va_D A (wf u) → va_S A s.heap H locs → W p l e rm s m av.toArray below meth c H locs cells slots Q (F0 m pc ls [])) →
      (∀ (H : Heap) (locs : List Loc) (cells slots : Nat) (pc ik is ic : Nat) (cls text : String) (ls : Array Slot) (u : SX), ls.size = maxL → decode cc pc = .ok (.new ik, 3) → decode cc (pc + 3) = .ok (.dup, 1) → decode cc (pc + 4) = .ok (.ldc is, 2) → decode cc (pc + 6) = .ok (.invokespecial ic, 3) → decode cc (pc + 9) = .ok (.athrow, 1) →
        TwW RX10 ik is ic cls text ws rm → cells + 1 ≤ mc → slots + 6 ≤ ms → mc ≤ rm.cells → ms ≤ rm.slots → xp cls u → va_P (g.1, g.2.1) vwCl (wx u) H → va_D A (wx u) → va_S A s.heap H locs → W p l e rm s m av.toArray below meth c H locs cells slots Q (F0 m pc ls [])) →
      (∀ (H : Heap) (locs : List Loc) (cells slots : Nat) (pc ik is ic : Nat) (cls text : String) (ls : Array Slot) (u : SX), ls.size = maxL → decode cc pc = .ok (.new ik, 3) → decode cc (pc + 3) = .ok (.dup, 1) → decode cc (pc + 4) = .ok (.ldc_w is, 3) → decode cc (pc + 7) = .ok (.invokespecial ic, 3) → decode cc (pc + 10) = .ok (.athrow, 1) →
        TwW RX10 ik is ic cls text ws rm → cells + 1 ≤ mc → slots + 6 ≤ ms → mc ≤ rm.cells → ms ≤ rm.slots → xp cls u → va_P (g.1, g.2.1) vwCl (wx u) H → va_D A (wx u) → va_S A s.heap H locs → W p l e rm s m av.toArray below meth c H locs cells slots Q (F0 m pc ls [])) →
      (∀ (H : Heap) (locs : List Loc) (cells slots : Nat) (pc : Nat) (ls : Array Slot) (rest : List Value) (E : String) (ce : Cell) (q9 : Nat) (u : SX), cells ≤ mc → slots ≤ ms → H[q9]? = some ce → ce.vm = .none → s.vm.findClass E = some ce.cls → xp E u → va_P (g.1, g.2.1) vwCl (wx u) H → va_D A (wx u) → va_S A s.heap H locs → vx_W p l e rm s m av.toArray below meth c H locs cells slots Q (F0 m pc ls rest) q9) →
      ∀ ls, lv_has ls maxL (lv_args 0 av) → W p l e rm s m av.toArray below meth c s.heap [] 0 0 Q (F0 m 0 ls [])) : vx_Met l y ws rm (va_Pc av (PX g w0 sz)) (va_Qv post (fun u t => BW g (va_A w0 sz) (wf u) t) (va_A w0 sz)) (XW g (va_A w0 sz) xp wx) mc ms (va_A w0 sz) := by
  refine vx_ofW (cc := cc) (maxL := maxL) (ret := none) hy hw ?_
  intro p e s m args below meth c s₁ Bd hml htab hv
  obtain ⟨rfl, hsz, hP, hK, hD0, hZ⟩ := hv
  subst hsz
  have hl := lv_entry av (n := maxL) hlen
  rw [lg_entry_eq]
  have hlocks := Bd.notSynchronized
  have hown : s.vm.findClass RX10 = some m.cls := by rw [← hoy]; exact findClass_of_methodNamed Bd.named
  have hts := atoms_spec Bd.pre
  have hx0 : ∀ (H : Heap) (locs : List Loc) (cls : String) (u : SX), xp cls u → va_P (g.1, g.2.1) vwCl (wx u) H → va_D (va_A w0 s.heap.size) (wx u) → va_S (va_A w0 s.heap.size) s.heap H locs → ∀ t : State, s.vm.Alike t.vm → H.size ≤ t.heap.size → (∀ q : Nat, q < H.size → t.heap[q]? = H[q]?) → XW g (va_A w0 s.heap.size) xp wx cls s t := by
    intro H locs cls u hxp hP hD hS t _ h1 h2
    exact ⟨u, trivial, ⟨hxp, hP.kept (fun k q hk => h2 q.1 (vx_lt hP hk)), hD⟩, Nat.le_trans hS.1 h1, fun q h3 h4 => by rw [h2 q (Nat.lt_of_lt_of_le h3 hS.1)]; exact hS.2.1 q h3 h4⟩
  refine body p e s m below meth c _ (va_A w0 s.heap.size) Bd.exec Bd.bytes hml hown hts hK hP hD0.self va_S.rf (fun q h => Or.inr h) hZ ?_ ?_ ?_ ?_ _ hl
  · intro H locs cells slots pc ls u hc hs d hp hP hD hS
    exact W.widen hc hs (vx_ret (W.vret Bd.exec Bd.bytes Bd.returns (fun t ht hW => ⟨⟨u, rfl, hp, by rw [ht]; exact hP, hD⟩, hS.F ht⟩) hS.2.2 d))
  · intro H locs cells slots pc ik is ic cls text ls u hsz d0 d3 d4 d6 d9 hT hc hs hmc hms hxp hP hD hS
    obtain ⟨sa, hstr⟩ := hK.2.2.1 _ hT.2.2.2.1
    exact vx_throwS Bd.exec Bd.bytes hflg (names := nmE) hown hT.2.2.2.2.2.1 (by decide) (hts _ hT.1) (hts _ hT.2.1) hstr
      (vx_hat (B := [Cond.castable cls cls, Cond.declares (Bundle.initS "java/lang/RuntimeException"), Cond.declares (Bundle.initS "java/lang/Exception"), Cond.declares (Bundle.initS Bundle.tN)]) (fun w hw => hts w (hT.2.2.1 w hw)) hT.2.2.2.2.2.2.1 (vx_c (va_Nw.use rfl (hK.2.1 _ hT.2.2.2.2.1)) (vx_c (va_Nw.use rfl (hK.2.2.2 _ (List.mem_of_getElem? (i := 0) rfl))) (vx_c (va_Nw.use rfl (hK.2.2.2 _ (List.mem_of_getElem? (i := 1) rfl))) (vx_c (va_Nw.use rfl (hK.2.2.2 _ (List.mem_of_getElem? (i := 2) rfl))) vx_n))))) hT.2.2.2.2.2.2.2.1 hZ.1 hZ.2 hS (hsz.trans hml.symm) d0 d3 d4 d6 d9 (fun x hx => (htab x hx).elim) hT.2.2.2.2.2.2.2.2.1 hT.2.2.2.2.2.2.2.2.2 (Nat.le_trans hc hmc) (Nat.le_trans hs hms) hlocks (hx0 H locs cls u hxp hP hD hS) hS.2.2 hc hs
  · intro H locs cells slots pc ik is ic cls text ls u hsz d0 d3 d4 d6 d9 hT hc hs hmc hms hxp hP hD hS
    obtain ⟨sa, hstr⟩ := hK.2.2.1 _ hT.2.2.2.1
    exact vx_throwSW Bd.exec Bd.bytes hflg (names := nmE) hown hT.2.2.2.2.2.1 (by decide) (hts _ hT.1) (hts _ hT.2.1) hstr
      (vx_hat (B := [Cond.castable cls cls, Cond.declares (Bundle.initS "java/lang/RuntimeException"), Cond.declares (Bundle.initS "java/lang/Exception"), Cond.declares (Bundle.initS Bundle.tN)]) (fun w hw => hts w (hT.2.2.1 w hw)) hT.2.2.2.2.2.2.1 (vx_c (va_Nw.use rfl (hK.2.1 _ hT.2.2.2.2.1)) (vx_c (va_Nw.use rfl (hK.2.2.2 _ (List.mem_of_getElem? (i := 0) rfl))) (vx_c (va_Nw.use rfl (hK.2.2.2 _ (List.mem_of_getElem? (i := 1) rfl))) (vx_c (va_Nw.use rfl (hK.2.2.2 _ (List.mem_of_getElem? (i := 2) rfl))) vx_n))))) hT.2.2.2.2.2.2.2.1 hZ.1 hZ.2 hS (hsz.trans hml.symm) d0 d3 d4 d6 d9 (fun x hx => (htab x hx).elim) hT.2.2.2.2.2.2.2.2.1 hT.2.2.2.2.2.2.2.2.2 (Nat.le_trans hc hmc) (Nat.le_trans hs hms) hlocks (hx0 H locs cls u hxp hP hD hS) hS.2.2 hc hs
  · intro H locs cells slots pc ls rest E ce q9 u hc hs hce hcv hcl hxp hP hD hS
    exact vx_out (fun x hx => (htab x hx).elim) hlocks hce hcv hcl (fun t ht hvm => hx0 H locs E u hxp hP hD hS t hvm (by rw [ht]; exact Nat.le_refl _) (fun q _ => by rw [ht])) hS.2.2 hc hs
theorem jx_i {l : Launch} (hflg : l.stackTraces = false) {y : MethodName} {ws ws' : List Cond} {rm : Room} {av : List Value} {S SX : Type} {g : GC} {w0 : va_W} {wf : S → va_W} {wx : SX → va_W} {sz mc ms : Nat} {post : Int32 → S → Prop} {xp : String → SX → Prop} {cc : ByteArray} {maxL : Nat} (hy : plainName y.cls = true) (hw : ws = Cond.code y cc maxL (some .int) :: ws') (hoy : y.cls = RX10) (hlen : (lg_sl av).length ≤ maxL)
    (body : ∀ (p : Program) (e : Env) (s : State) (m : MethodId) (below : List Frame) (meth : Method) (c : Code) (Q : State → Prop) (A : Nat → Prop), p.tables.exec = Jvm.exec → c.code = cc → c.maxLocals = maxL → s.vm.findClass RX10 = some m.cls → (∀ w ∈ ws, w.before av.toArray s = true) → KX g s → va_P (g.1, g.2.1) vwCl w0 s.heap → va_D A w0 → va_S A s.heap s.heap [] → (∀ q : Nat, s.heap.size ≤ q → A q) → ZX A s s.heap →
      (∀ (H : Heap) (locs : List Loc) (cells slots : Nat) (pc : Nat) (ls : Array Slot) (v : Int32) (u : S), cells ≤ mc → slots ≤ ms → decode cc pc = .ok (.ireturn, 1) → post v u → va_P (g.1, g.2.1) vwCl (wf u) H → va_D A (wf u) → va_S A s.heap H locs → W p l e rm s m av.toArray below meth c H locs cells slots Q (F0 m pc ls [.int v])) →
      (∀ (H : Heap) (locs : List Loc) (cells slots : Nat) (pc ik is ic : Nat) (cls text : String) (ls : Array Slot) (u : SX), ls.size = maxL → decode cc pc = .ok (.new ik, 3) → decode cc (pc + 3) = .ok (.dup, 1) → decode cc (pc + 4) = .ok (.ldc is, 2) → decode cc (pc + 6) = .ok (.invokespecial ic, 3) → decode cc (pc + 9) = .ok (.athrow, 1) →
        TwW RX10 ik is ic cls text ws rm → cells + 1 ≤ mc → slots + 6 ≤ ms → mc ≤ rm.cells → ms ≤ rm.slots → xp cls u → va_P (g.1, g.2.1) vwCl (wx u) H → va_D A (wx u) → va_S A s.heap H locs → W p l e rm s m av.toArray below meth c H locs cells slots Q (F0 m pc ls [])) →
      (∀ (H : Heap) (locs : List Loc) (cells slots : Nat) (pc ik is ic : Nat) (cls text : String) (ls : Array Slot) (u : SX), ls.size = maxL → decode cc pc = .ok (.new ik, 3) → decode cc (pc + 3) = .ok (.dup, 1) → decode cc (pc + 4) = .ok (.ldc_w is, 3) → decode cc (pc + 7) = .ok (.invokespecial ic, 3) → decode cc (pc + 10) = .ok (.athrow, 1) →
        TwW RX10 ik is ic cls text ws rm → cells + 1 ≤ mc → slots + 6 ≤ ms → mc ≤ rm.cells → ms ≤ rm.slots → xp cls u → va_P (g.1, g.2.1) vwCl (wx u) H → va_D A (wx u) → va_S A s.heap H locs → W p l e rm s m av.toArray below meth c H locs cells slots Q (F0 m pc ls [])) →
      (∀ (H : Heap) (locs : List Loc) (cells slots : Nat) (pc : Nat) (ls : Array Slot) (rest : List Value) (E : String) (ce : Cell) (q9 : Nat) (u : SX), cells ≤ mc → slots ≤ ms → H[q9]? = some ce → ce.vm = .none → s.vm.findClass E = some ce.cls → xp E u → va_P (g.1, g.2.1) vwCl (wx u) H → va_D A (wx u) → va_S A s.heap H locs → vx_W p l e rm s m av.toArray below meth c H locs cells slots Q (F0 m pc ls rest) q9) →
      ∀ ls, lv_has ls maxL (lv_args 0 av) → W p l e rm s m av.toArray below meth c s.heap [] 0 0 Q (F0 m 0 ls [])) : vx_Met l y ws rm (va_Pc av (PX g w0 sz)) (va_Qi post (fun u t => BW g (va_A w0 sz) (wf u) t) (va_A w0 sz)) (XW g (va_A w0 sz) xp wx) mc ms (va_A w0 sz) := by
  refine vx_ofW (cc := cc) (maxL := maxL) (ret := (some .int)) hy hw ?_
  intro p e s m args below meth c s₁ Bd hml htab hv
  obtain ⟨rfl, hsz, hP, hK, hD0, hZ⟩ := hv
  subst hsz
  have hl := lv_entry av (n := maxL) hlen
  rw [lg_entry_eq]
  have hlocks := Bd.notSynchronized
  have hown : s.vm.findClass RX10 = some m.cls := by rw [← hoy]; exact findClass_of_methodNamed Bd.named
  have hts := atoms_spec Bd.pre
  have hx0 : ∀ (H : Heap) (locs : List Loc) (cls : String) (u : SX), xp cls u → va_P (g.1, g.2.1) vwCl (wx u) H → va_D (va_A w0 s.heap.size) (wx u) → va_S (va_A w0 s.heap.size) s.heap H locs → ∀ t : State, s.vm.Alike t.vm → H.size ≤ t.heap.size → (∀ q : Nat, q < H.size → t.heap[q]? = H[q]?) → XW g (va_A w0 s.heap.size) xp wx cls s t := by
    intro H locs cls u hxp hP hD hS t _ h1 h2
    exact ⟨u, trivial, ⟨hxp, hP.kept (fun k q hk => h2 q.1 (vx_lt hP hk)), hD⟩, Nat.le_trans hS.1 h1, fun q h3 h4 => by rw [h2 q (Nat.lt_of_lt_of_le h3 hS.1)]; exact hS.2.1 q h3 h4⟩
  refine body p e s m below meth c _ (va_A w0 s.heap.size) Bd.exec Bd.bytes hml hown hts hK hP hD0.self va_S.rf (fun q h => Or.inr h) hZ ?_ ?_ ?_ ?_ _ hl
  · intro H locs cells slots pc ls v u hc hs d hp hP hD hS
    exact W.widen hc hs (vx_ret (W.iret Bd.exec Bd.bytes Bd.returns (fun t ht hW => ⟨⟨v, u, rfl, hp, by rw [ht]; exact hP, hD⟩, hS.F ht⟩) hS.2.2 d))
  · intro H locs cells slots pc ik is ic cls text ls u hsz d0 d3 d4 d6 d9 hT hc hs hmc hms hxp hP hD hS
    obtain ⟨sa, hstr⟩ := hK.2.2.1 _ hT.2.2.2.1
    exact vx_throwS Bd.exec Bd.bytes hflg (names := nmE) hown hT.2.2.2.2.2.1 (by decide) (hts _ hT.1) (hts _ hT.2.1) hstr
      (vx_hat (B := [Cond.castable cls cls, Cond.declares (Bundle.initS "java/lang/RuntimeException"), Cond.declares (Bundle.initS "java/lang/Exception"), Cond.declares (Bundle.initS Bundle.tN)]) (fun w hw => hts w (hT.2.2.1 w hw)) hT.2.2.2.2.2.2.1 (vx_c (va_Nw.use rfl (hK.2.1 _ hT.2.2.2.2.1)) (vx_c (va_Nw.use rfl (hK.2.2.2 _ (List.mem_of_getElem? (i := 0) rfl))) (vx_c (va_Nw.use rfl (hK.2.2.2 _ (List.mem_of_getElem? (i := 1) rfl))) (vx_c (va_Nw.use rfl (hK.2.2.2 _ (List.mem_of_getElem? (i := 2) rfl))) vx_n))))) hT.2.2.2.2.2.2.2.1 hZ.1 hZ.2 hS (hsz.trans hml.symm) d0 d3 d4 d6 d9 (fun x hx => (htab x hx).elim) hT.2.2.2.2.2.2.2.2.1 hT.2.2.2.2.2.2.2.2.2 (Nat.le_trans hc hmc) (Nat.le_trans hs hms) hlocks (hx0 H locs cls u hxp hP hD hS) hS.2.2 hc hs
  · intro H locs cells slots pc ik is ic cls text ls u hsz d0 d3 d4 d6 d9 hT hc hs hmc hms hxp hP hD hS
    obtain ⟨sa, hstr⟩ := hK.2.2.1 _ hT.2.2.2.1
    exact vx_throwSW Bd.exec Bd.bytes hflg (names := nmE) hown hT.2.2.2.2.2.1 (by decide) (hts _ hT.1) (hts _ hT.2.1) hstr
      (vx_hat (B := [Cond.castable cls cls, Cond.declares (Bundle.initS "java/lang/RuntimeException"), Cond.declares (Bundle.initS "java/lang/Exception"), Cond.declares (Bundle.initS Bundle.tN)]) (fun w hw => hts w (hT.2.2.1 w hw)) hT.2.2.2.2.2.2.1 (vx_c (va_Nw.use rfl (hK.2.1 _ hT.2.2.2.2.1)) (vx_c (va_Nw.use rfl (hK.2.2.2 _ (List.mem_of_getElem? (i := 0) rfl))) (vx_c (va_Nw.use rfl (hK.2.2.2 _ (List.mem_of_getElem? (i := 1) rfl))) (vx_c (va_Nw.use rfl (hK.2.2.2 _ (List.mem_of_getElem? (i := 2) rfl))) vx_n))))) hT.2.2.2.2.2.2.2.1 hZ.1 hZ.2 hS (hsz.trans hml.symm) d0 d3 d4 d6 d9 (fun x hx => (htab x hx).elim) hT.2.2.2.2.2.2.2.2.1 hT.2.2.2.2.2.2.2.2.2 (Nat.le_trans hc hmc) (Nat.le_trans hs hms) hlocks (hx0 H locs cls u hxp hP hD hS) hS.2.2 hc hs
  · intro H locs cells slots pc ls rest E ce q9 u hc hs hce hcv hcl hxp hP hD hS
    exact vx_out (fun x hx => (htab x hx).elim) hlocks hce hcv hcl (fun t ht hvm => hx0 H locs E u hxp hP hD hS t hvm (by rw [ht]; exact Nat.le_refl _) (fun q _ => by rw [ht])) hS.2.2 hc hs
theorem jx_z {l : Launch} (hflg : l.stackTraces = false) {y : MethodName} {ws ws' : List Cond} {rm : Room} {av : List Value} {S SX : Type} {g : GC} {w0 : va_W} {wf : S → va_W} {wx : SX → va_W} {sz mc ms : Nat} {post : Int32 → S → Prop} {xp : String → SX → Prop} {cc : ByteArray} {maxL : Nat} (hy : plainName y.cls = true) (hw : ws = Cond.code y cc maxL (some .boolean) :: ws') (hoy : y.cls = RX10) (hlen : (lg_sl av).length ≤ maxL)
    (body : ∀ (p : Program) (e : Env) (s : State) (m : MethodId) (below : List Frame) (meth : Method) (c : Code) (Q : State → Prop) (A : Nat → Prop), p.tables.exec = Jvm.exec → c.code = cc → c.maxLocals = maxL → s.vm.findClass RX10 = some m.cls → (∀ w ∈ ws, w.before av.toArray s = true) → KX g s → va_P (g.1, g.2.1) vwCl w0 s.heap → va_D A w0 → va_S A s.heap s.heap [] → (∀ q : Nat, s.heap.size ≤ q → A q) → ZX A s s.heap →
      (∀ (H : Heap) (locs : List Loc) (cells slots : Nat) (pc : Nat) (ls : Array Slot) (v : Int32) (u : S), cells ≤ mc → slots ≤ ms → decode cc pc = .ok (.ireturn, 1) → narrow .boolean (.int v) = .int v → post v u → va_P (g.1, g.2.1) vwCl (wf u) H → va_D A (wf u) → va_S A s.heap H locs → W p l e rm s m av.toArray below meth c H locs cells slots Q (F0 m pc ls [.int v])) →
      (∀ (H : Heap) (locs : List Loc) (cells slots : Nat) (pc ik is ic : Nat) (cls text : String) (ls : Array Slot) (u : SX), ls.size = maxL → decode cc pc = .ok (.new ik, 3) → decode cc (pc + 3) = .ok (.dup, 1) → decode cc (pc + 4) = .ok (.ldc is, 2) → decode cc (pc + 6) = .ok (.invokespecial ic, 3) → decode cc (pc + 9) = .ok (.athrow, 1) →
        TwW RX10 ik is ic cls text ws rm → cells + 1 ≤ mc → slots + 6 ≤ ms → mc ≤ rm.cells → ms ≤ rm.slots → xp cls u → va_P (g.1, g.2.1) vwCl (wx u) H → va_D A (wx u) → va_S A s.heap H locs → W p l e rm s m av.toArray below meth c H locs cells slots Q (F0 m pc ls [])) →
      (∀ (H : Heap) (locs : List Loc) (cells slots : Nat) (pc ik is ic : Nat) (cls text : String) (ls : Array Slot) (u : SX), ls.size = maxL → decode cc pc = .ok (.new ik, 3) → decode cc (pc + 3) = .ok (.dup, 1) → decode cc (pc + 4) = .ok (.ldc_w is, 3) → decode cc (pc + 7) = .ok (.invokespecial ic, 3) → decode cc (pc + 10) = .ok (.athrow, 1) →
        TwW RX10 ik is ic cls text ws rm → cells + 1 ≤ mc → slots + 6 ≤ ms → mc ≤ rm.cells → ms ≤ rm.slots → xp cls u → va_P (g.1, g.2.1) vwCl (wx u) H → va_D A (wx u) → va_S A s.heap H locs → W p l e rm s m av.toArray below meth c H locs cells slots Q (F0 m pc ls [])) →
      (∀ (H : Heap) (locs : List Loc) (cells slots : Nat) (pc : Nat) (ls : Array Slot) (rest : List Value) (E : String) (ce : Cell) (q9 : Nat) (u : SX), cells ≤ mc → slots ≤ ms → H[q9]? = some ce → ce.vm = .none → s.vm.findClass E = some ce.cls → xp E u → va_P (g.1, g.2.1) vwCl (wx u) H → va_D A (wx u) → va_S A s.heap H locs → vx_W p l e rm s m av.toArray below meth c H locs cells slots Q (F0 m pc ls rest) q9) →
      ∀ ls, lv_has ls maxL (lv_args 0 av) → W p l e rm s m av.toArray below meth c s.heap [] 0 0 Q (F0 m 0 ls [])) : vx_Met l y ws rm (va_Pc av (PX g w0 sz)) (va_Qi post (fun u t => BW g (va_A w0 sz) (wf u) t) (va_A w0 sz)) (XW g (va_A w0 sz) xp wx) mc ms (va_A w0 sz) := by
  refine vx_ofW (cc := cc) (maxL := maxL) (ret := (some .boolean)) hy hw ?_
  intro p e s m args below meth c s₁ Bd hml htab hv
  obtain ⟨rfl, hsz, hP, hK, hD0, hZ⟩ := hv
  subst hsz
  have hl := lv_entry av (n := maxL) hlen
  rw [lg_entry_eq]
  have hlocks := Bd.notSynchronized
  have hown : s.vm.findClass RX10 = some m.cls := by rw [← hoy]; exact findClass_of_methodNamed Bd.named
  have hts := atoms_spec Bd.pre
  have hx0 : ∀ (H : Heap) (locs : List Loc) (cls : String) (u : SX), xp cls u → va_P (g.1, g.2.1) vwCl (wx u) H → va_D (va_A w0 s.heap.size) (wx u) → va_S (va_A w0 s.heap.size) s.heap H locs → ∀ t : State, s.vm.Alike t.vm → H.size ≤ t.heap.size → (∀ q : Nat, q < H.size → t.heap[q]? = H[q]?) → XW g (va_A w0 s.heap.size) xp wx cls s t := by
    intro H locs cls u hxp hP hD hS t _ h1 h2
    exact ⟨u, trivial, ⟨hxp, hP.kept (fun k q hk => h2 q.1 (vx_lt hP hk)), hD⟩, Nat.le_trans hS.1 h1, fun q h3 h4 => by rw [h2 q (Nat.lt_of_lt_of_le h3 hS.1)]; exact hS.2.1 q h3 h4⟩
  refine body p e s m below meth c _ (va_A w0 s.heap.size) Bd.exec Bd.bytes hml hown hts hK hP hD0.self va_S.rf (fun q h => Or.inr h) hZ ?_ ?_ ?_ ?_ _ hl
  · intro H locs cells slots pc ls v u hc hs d hn hp hP hD hS
    exact W.widen hc hs (vx_ret (W.zret Bd.exec Bd.bytes Bd.returns hn (fun t ht hW => ⟨⟨v, u, rfl, hp, by rw [ht]; exact hP, hD⟩, hS.F ht⟩) hS.2.2 d))
  · intro H locs cells slots pc ik is ic cls text ls u hsz d0 d3 d4 d6 d9 hT hc hs hmc hms hxp hP hD hS
    obtain ⟨sa, hstr⟩ := hK.2.2.1 _ hT.2.2.2.1
    exact vx_throwS Bd.exec Bd.bytes hflg (names := nmE) hown hT.2.2.2.2.2.1 (by decide) (hts _ hT.1) (hts _ hT.2.1) hstr
      (vx_hat (B := [Cond.castable cls cls, Cond.declares (Bundle.initS "java/lang/RuntimeException"), Cond.declares (Bundle.initS "java/lang/Exception"), Cond.declares (Bundle.initS Bundle.tN)]) (fun w hw => hts w (hT.2.2.1 w hw)) hT.2.2.2.2.2.2.1 (vx_c (va_Nw.use rfl (hK.2.1 _ hT.2.2.2.2.1)) (vx_c (va_Nw.use rfl (hK.2.2.2 _ (List.mem_of_getElem? (i := 0) rfl))) (vx_c (va_Nw.use rfl (hK.2.2.2 _ (List.mem_of_getElem? (i := 1) rfl))) (vx_c (va_Nw.use rfl (hK.2.2.2 _ (List.mem_of_getElem? (i := 2) rfl))) vx_n))))) hT.2.2.2.2.2.2.2.1 hZ.1 hZ.2 hS (hsz.trans hml.symm) d0 d3 d4 d6 d9 (fun x hx => (htab x hx).elim) hT.2.2.2.2.2.2.2.2.1 hT.2.2.2.2.2.2.2.2.2 (Nat.le_trans hc hmc) (Nat.le_trans hs hms) hlocks (hx0 H locs cls u hxp hP hD hS) hS.2.2 hc hs
  · intro H locs cells slots pc ik is ic cls text ls u hsz d0 d3 d4 d6 d9 hT hc hs hmc hms hxp hP hD hS
    obtain ⟨sa, hstr⟩ := hK.2.2.1 _ hT.2.2.2.1
    exact vx_throwSW Bd.exec Bd.bytes hflg (names := nmE) hown hT.2.2.2.2.2.1 (by decide) (hts _ hT.1) (hts _ hT.2.1) hstr
      (vx_hat (B := [Cond.castable cls cls, Cond.declares (Bundle.initS "java/lang/RuntimeException"), Cond.declares (Bundle.initS "java/lang/Exception"), Cond.declares (Bundle.initS Bundle.tN)]) (fun w hw => hts w (hT.2.2.1 w hw)) hT.2.2.2.2.2.2.1 (vx_c (va_Nw.use rfl (hK.2.1 _ hT.2.2.2.2.1)) (vx_c (va_Nw.use rfl (hK.2.2.2 _ (List.mem_of_getElem? (i := 0) rfl))) (vx_c (va_Nw.use rfl (hK.2.2.2 _ (List.mem_of_getElem? (i := 1) rfl))) (vx_c (va_Nw.use rfl (hK.2.2.2 _ (List.mem_of_getElem? (i := 2) rfl))) vx_n))))) hT.2.2.2.2.2.2.2.1 hZ.1 hZ.2 hS (hsz.trans hml.symm) d0 d3 d4 d6 d9 (fun x hx => (htab x hx).elim) hT.2.2.2.2.2.2.2.2.1 hT.2.2.2.2.2.2.2.2.2 (Nat.le_trans hc hmc) (Nat.le_trans hs hms) hlocks (hx0 H locs cls u hxp hP hD hS) hS.2.2 hc hs
  · intro H locs cells slots pc ls rest E ce q9 u hc hs hce hcv hcl hxp hP hD hS
    exact vx_out (fun x hx => (htab x hx).elim) hlocks hce hcv hcl (fun t ht hvm => hx0 H locs E u hxp hP hD hS t hvm (by rw [ht]; exact Nat.le_refl _) (fun q _ => by rw [ht])) hS.2.2 hc hs
theorem jx_l {l : Launch} (hflg : l.stackTraces = false) {y : MethodName} {ws ws' : List Cond} {rm : Room} {av : List Value} {S SX : Type} {g : GC} {w0 : va_W} {wf : S → va_W} {wx : SX → va_W} {sz mc ms : Nat} {post : Int64 → S → Prop} {xp : String → SX → Prop} {cc : ByteArray} {maxL : Nat} (hy : plainName y.cls = true) (hw : ws = Cond.code y cc maxL (some .long) :: ws') (hoy : y.cls = RX10) (hlen : (lg_sl av).length ≤ maxL)
    (body : ∀ (p : Program) (e : Env) (s : State) (m : MethodId) (below : List Frame) (meth : Method) (c : Code) (Q : State → Prop) (A : Nat → Prop), p.tables.exec = Jvm.exec → c.code = cc → c.maxLocals = maxL → s.vm.findClass RX10 = some m.cls → (∀ w ∈ ws, w.before av.toArray s = true) → KX g s → va_P (g.1, g.2.1) vwCl w0 s.heap → va_D A w0 → va_S A s.heap s.heap [] → (∀ q : Nat, s.heap.size ≤ q → A q) → ZX A s s.heap →
      (∀ (H : Heap) (locs : List Loc) (cells slots : Nat) (pc : Nat) (ls : Array Slot) (v : Int64) (u : S), cells ≤ mc → slots ≤ ms → decode cc pc = .ok (.lreturn, 1) → post v u → va_P (g.1, g.2.1) vwCl (wf u) H → va_D A (wf u) → va_S A s.heap H locs → W p l e rm s m av.toArray below meth c H locs cells slots Q (F0 m pc ls [.long v])) →
      (∀ (H : Heap) (locs : List Loc) (cells slots : Nat) (pc ik is ic : Nat) (cls text : String) (ls : Array Slot) (u : SX), ls.size = maxL → decode cc pc = .ok (.new ik, 3) → decode cc (pc + 3) = .ok (.dup, 1) → decode cc (pc + 4) = .ok (.ldc is, 2) → decode cc (pc + 6) = .ok (.invokespecial ic, 3) → decode cc (pc + 9) = .ok (.athrow, 1) →
        TwW RX10 ik is ic cls text ws rm → cells + 1 ≤ mc → slots + 6 ≤ ms → mc ≤ rm.cells → ms ≤ rm.slots → xp cls u → va_P (g.1, g.2.1) vwCl (wx u) H → va_D A (wx u) → va_S A s.heap H locs → W p l e rm s m av.toArray below meth c H locs cells slots Q (F0 m pc ls [])) →
      (∀ (H : Heap) (locs : List Loc) (cells slots : Nat) (pc ik is ic : Nat) (cls text : String) (ls : Array Slot) (u : SX), ls.size = maxL → decode cc pc = .ok (.new ik, 3) → decode cc (pc + 3) = .ok (.dup, 1) → decode cc (pc + 4) = .ok (.ldc_w is, 3) → decode cc (pc + 7) = .ok (.invokespecial ic, 3) → decode cc (pc + 10) = .ok (.athrow, 1) →
        TwW RX10 ik is ic cls text ws rm → cells + 1 ≤ mc → slots + 6 ≤ ms → mc ≤ rm.cells → ms ≤ rm.slots → xp cls u → va_P (g.1, g.2.1) vwCl (wx u) H → va_D A (wx u) → va_S A s.heap H locs → W p l e rm s m av.toArray below meth c H locs cells slots Q (F0 m pc ls [])) →
      (∀ (H : Heap) (locs : List Loc) (cells slots : Nat) (pc : Nat) (ls : Array Slot) (rest : List Value) (E : String) (ce : Cell) (q9 : Nat) (u : SX), cells ≤ mc → slots ≤ ms → H[q9]? = some ce → ce.vm = .none → s.vm.findClass E = some ce.cls → xp E u → va_P (g.1, g.2.1) vwCl (wx u) H → va_D A (wx u) → va_S A s.heap H locs → vx_W p l e rm s m av.toArray below meth c H locs cells slots Q (F0 m pc ls rest) q9) →
      ∀ ls, lv_has ls maxL (lv_args 0 av) → W p l e rm s m av.toArray below meth c s.heap [] 0 0 Q (F0 m 0 ls [])) : vx_Met l y ws rm (va_Pc av (PX g w0 sz)) (va_Ql post (fun u t => BW g (va_A w0 sz) (wf u) t) (va_A w0 sz)) (XW g (va_A w0 sz) xp wx) mc ms (va_A w0 sz) := by
  refine vx_ofW (cc := cc) (maxL := maxL) (ret := (some .long)) hy hw ?_
  intro p e s m args below meth c s₁ Bd hml htab hv
  obtain ⟨rfl, hsz, hP, hK, hD0, hZ⟩ := hv
  subst hsz
  have hl := lv_entry av (n := maxL) hlen
  rw [lg_entry_eq]
  have hlocks := Bd.notSynchronized
  have hown : s.vm.findClass RX10 = some m.cls := by rw [← hoy]; exact findClass_of_methodNamed Bd.named
  have hts := atoms_spec Bd.pre
  have hx0 : ∀ (H : Heap) (locs : List Loc) (cls : String) (u : SX), xp cls u → va_P (g.1, g.2.1) vwCl (wx u) H → va_D (va_A w0 s.heap.size) (wx u) → va_S (va_A w0 s.heap.size) s.heap H locs → ∀ t : State, s.vm.Alike t.vm → H.size ≤ t.heap.size → (∀ q : Nat, q < H.size → t.heap[q]? = H[q]?) → XW g (va_A w0 s.heap.size) xp wx cls s t := by
    intro H locs cls u hxp hP hD hS t _ h1 h2
    exact ⟨u, trivial, ⟨hxp, hP.kept (fun k q hk => h2 q.1 (vx_lt hP hk)), hD⟩, Nat.le_trans hS.1 h1, fun q h3 h4 => by rw [h2 q (Nat.lt_of_lt_of_le h3 hS.1)]; exact hS.2.1 q h3 h4⟩
  refine body p e s m below meth c _ (va_A w0 s.heap.size) Bd.exec Bd.bytes hml hown hts hK hP hD0.self va_S.rf (fun q h => Or.inr h) hZ ?_ ?_ ?_ ?_ _ hl
  · intro H locs cells slots pc ls v u hc hs d hp hP hD hS
    exact W.widen hc hs (vx_ret (W.lret Bd.exec Bd.bytes Bd.returns (fun t ht hW => ⟨⟨v, u, rfl, hp, by rw [ht]; exact hP, hD⟩, hS.F ht⟩) hS.2.2 d))
  · intro H locs cells slots pc ik is ic cls text ls u hsz d0 d3 d4 d6 d9 hT hc hs hmc hms hxp hP hD hS
    obtain ⟨sa, hstr⟩ := hK.2.2.1 _ hT.2.2.2.1
    exact vx_throwS Bd.exec Bd.bytes hflg (names := nmE) hown hT.2.2.2.2.2.1 (by decide) (hts _ hT.1) (hts _ hT.2.1) hstr
      (vx_hat (B := [Cond.castable cls cls, Cond.declares (Bundle.initS "java/lang/RuntimeException"), Cond.declares (Bundle.initS "java/lang/Exception"), Cond.declares (Bundle.initS Bundle.tN)]) (fun w hw => hts w (hT.2.2.1 w hw)) hT.2.2.2.2.2.2.1 (vx_c (va_Nw.use rfl (hK.2.1 _ hT.2.2.2.2.1)) (vx_c (va_Nw.use rfl (hK.2.2.2 _ (List.mem_of_getElem? (i := 0) rfl))) (vx_c (va_Nw.use rfl (hK.2.2.2 _ (List.mem_of_getElem? (i := 1) rfl))) (vx_c (va_Nw.use rfl (hK.2.2.2 _ (List.mem_of_getElem? (i := 2) rfl))) vx_n))))) hT.2.2.2.2.2.2.2.1 hZ.1 hZ.2 hS (hsz.trans hml.symm) d0 d3 d4 d6 d9 (fun x hx => (htab x hx).elim) hT.2.2.2.2.2.2.2.2.1 hT.2.2.2.2.2.2.2.2.2 (Nat.le_trans hc hmc) (Nat.le_trans hs hms) hlocks (hx0 H locs cls u hxp hP hD hS) hS.2.2 hc hs
  · intro H locs cells slots pc ik is ic cls text ls u hsz d0 d3 d4 d6 d9 hT hc hs hmc hms hxp hP hD hS
    obtain ⟨sa, hstr⟩ := hK.2.2.1 _ hT.2.2.2.1
    exact vx_throwSW Bd.exec Bd.bytes hflg (names := nmE) hown hT.2.2.2.2.2.1 (by decide) (hts _ hT.1) (hts _ hT.2.1) hstr
      (vx_hat (B := [Cond.castable cls cls, Cond.declares (Bundle.initS "java/lang/RuntimeException"), Cond.declares (Bundle.initS "java/lang/Exception"), Cond.declares (Bundle.initS Bundle.tN)]) (fun w hw => hts w (hT.2.2.1 w hw)) hT.2.2.2.2.2.2.1 (vx_c (va_Nw.use rfl (hK.2.1 _ hT.2.2.2.2.1)) (vx_c (va_Nw.use rfl (hK.2.2.2 _ (List.mem_of_getElem? (i := 0) rfl))) (vx_c (va_Nw.use rfl (hK.2.2.2 _ (List.mem_of_getElem? (i := 1) rfl))) (vx_c (va_Nw.use rfl (hK.2.2.2 _ (List.mem_of_getElem? (i := 2) rfl))) vx_n))))) hT.2.2.2.2.2.2.2.1 hZ.1 hZ.2 hS (hsz.trans hml.symm) d0 d3 d4 d6 d9 (fun x hx => (htab x hx).elim) hT.2.2.2.2.2.2.2.2.1 hT.2.2.2.2.2.2.2.2.2 (Nat.le_trans hc hmc) (Nat.le_trans hs hms) hlocks (hx0 H locs cls u hxp hP hD hS) hS.2.2 hc hs
  · intro H locs cells slots pc ls rest E ce q9 u hc hs hce hcv hcl hxp hP hD hS
    exact vx_out (fun x hx => (htab x hx).elim) hlocks hce hcv hcl (fun t ht hvm => hx0 H locs E u hxp hP hD hS t hvm (by rw [ht]; exact Nat.le_refl _) (fun q _ => by rw [ht])) hS.2.2 hc hs
theorem jx_d {l : Launch} (hflg : l.stackTraces = false) {y : MethodName} {ws ws' : List Cond} {rm : Room} {av : List Value} {S SX : Type} {g : GC} {w0 : va_W} {wf : S → va_W} {wx : SX → va_W} {sz mc ms : Nat} {post : UInt64 → S → Prop} {xp : String → SX → Prop} {cc : ByteArray} {maxL : Nat} (hy : plainName y.cls = true) (hw : ws = Cond.code y cc maxL (some .double) :: ws') (hoy : y.cls = RX10) (hlen : (lg_sl av).length ≤ maxL)
    (body : ∀ (p : Program) (e : Env) (s : State) (m : MethodId) (below : List Frame) (meth : Method) (c : Code) (Q : State → Prop) (A : Nat → Prop), p.tables.exec = Jvm.exec → c.code = cc → c.maxLocals = maxL → s.vm.findClass RX10 = some m.cls → (∀ w ∈ ws, w.before av.toArray s = true) → KX g s → va_P (g.1, g.2.1) vwCl w0 s.heap → va_D A w0 → va_S A s.heap s.heap [] → (∀ q : Nat, s.heap.size ≤ q → A q) → ZX A s s.heap →
      (∀ (H : Heap) (locs : List Loc) (cells slots : Nat) (pc : Nat) (ls : Array Slot) (v : UInt64) (u : S), cells ≤ mc → slots ≤ ms → decode cc pc = .ok (.dreturn, 1) → post v u → va_P (g.1, g.2.1) vwCl (wf u) H → va_D A (wf u) → va_S A s.heap H locs → W p l e rm s m av.toArray below meth c H locs cells slots Q (F0 m pc ls [.double v])) →
      (∀ (H : Heap) (locs : List Loc) (cells slots : Nat) (pc ik is ic : Nat) (cls text : String) (ls : Array Slot) (u : SX), ls.size = maxL → decode cc pc = .ok (.new ik, 3) → decode cc (pc + 3) = .ok (.dup, 1) → decode cc (pc + 4) = .ok (.ldc is, 2) → decode cc (pc + 6) = .ok (.invokespecial ic, 3) → decode cc (pc + 9) = .ok (.athrow, 1) →
        TwW RX10 ik is ic cls text ws rm → cells + 1 ≤ mc → slots + 6 ≤ ms → mc ≤ rm.cells → ms ≤ rm.slots → xp cls u → va_P (g.1, g.2.1) vwCl (wx u) H → va_D A (wx u) → va_S A s.heap H locs → W p l e rm s m av.toArray below meth c H locs cells slots Q (F0 m pc ls [])) →
      (∀ (H : Heap) (locs : List Loc) (cells slots : Nat) (pc ik is ic : Nat) (cls text : String) (ls : Array Slot) (u : SX), ls.size = maxL → decode cc pc = .ok (.new ik, 3) → decode cc (pc + 3) = .ok (.dup, 1) → decode cc (pc + 4) = .ok (.ldc_w is, 3) → decode cc (pc + 7) = .ok (.invokespecial ic, 3) → decode cc (pc + 10) = .ok (.athrow, 1) →
        TwW RX10 ik is ic cls text ws rm → cells + 1 ≤ mc → slots + 6 ≤ ms → mc ≤ rm.cells → ms ≤ rm.slots → xp cls u → va_P (g.1, g.2.1) vwCl (wx u) H → va_D A (wx u) → va_S A s.heap H locs → W p l e rm s m av.toArray below meth c H locs cells slots Q (F0 m pc ls [])) →
      (∀ (H : Heap) (locs : List Loc) (cells slots : Nat) (pc : Nat) (ls : Array Slot) (rest : List Value) (E : String) (ce : Cell) (q9 : Nat) (u : SX), cells ≤ mc → slots ≤ ms → H[q9]? = some ce → ce.vm = .none → s.vm.findClass E = some ce.cls → xp E u → va_P (g.1, g.2.1) vwCl (wx u) H → va_D A (wx u) → va_S A s.heap H locs → vx_W p l e rm s m av.toArray below meth c H locs cells slots Q (F0 m pc ls rest) q9) →
      ∀ ls, lv_has ls maxL (lv_args 0 av) → W p l e rm s m av.toArray below meth c s.heap [] 0 0 Q (F0 m 0 ls [])) : vx_Met l y ws rm (va_Pc av (PX g w0 sz)) (va_Qd post (fun u t => BW g (va_A w0 sz) (wf u) t) (va_A w0 sz)) (XW g (va_A w0 sz) xp wx) mc ms (va_A w0 sz) := by
  refine vx_ofW (cc := cc) (maxL := maxL) (ret := (some .double)) hy hw ?_
  intro p e s m args below meth c s₁ Bd hml htab hv
  obtain ⟨rfl, hsz, hP, hK, hD0, hZ⟩ := hv
  subst hsz
  have hl := lv_entry av (n := maxL) hlen
  rw [lg_entry_eq]
  have hlocks := Bd.notSynchronized
  have hown : s.vm.findClass RX10 = some m.cls := by rw [← hoy]; exact findClass_of_methodNamed Bd.named
  have hts := atoms_spec Bd.pre
  have hx0 : ∀ (H : Heap) (locs : List Loc) (cls : String) (u : SX), xp cls u → va_P (g.1, g.2.1) vwCl (wx u) H → va_D (va_A w0 s.heap.size) (wx u) → va_S (va_A w0 s.heap.size) s.heap H locs → ∀ t : State, s.vm.Alike t.vm → H.size ≤ t.heap.size → (∀ q : Nat, q < H.size → t.heap[q]? = H[q]?) → XW g (va_A w0 s.heap.size) xp wx cls s t := by
    intro H locs cls u hxp hP hD hS t _ h1 h2
    exact ⟨u, trivial, ⟨hxp, hP.kept (fun k q hk => h2 q.1 (vx_lt hP hk)), hD⟩, Nat.le_trans hS.1 h1, fun q h3 h4 => by rw [h2 q (Nat.lt_of_lt_of_le h3 hS.1)]; exact hS.2.1 q h3 h4⟩
  refine body p e s m below meth c _ (va_A w0 s.heap.size) Bd.exec Bd.bytes hml hown hts hK hP hD0.self va_S.rf (fun q h => Or.inr h) hZ ?_ ?_ ?_ ?_ _ hl
  · intro H locs cells slots pc ls v u hc hs d hp hP hD hS
    exact W.widen hc hs (vx_ret (W.dret Bd.exec Bd.bytes Bd.returns (fun t ht hW => ⟨⟨v, u, rfl, hp, by rw [ht]; exact hP, hD⟩, hS.F ht⟩) hS.2.2 d))
  · intro H locs cells slots pc ik is ic cls text ls u hsz d0 d3 d4 d6 d9 hT hc hs hmc hms hxp hP hD hS
    obtain ⟨sa, hstr⟩ := hK.2.2.1 _ hT.2.2.2.1
    exact vx_throwS Bd.exec Bd.bytes hflg (names := nmE) hown hT.2.2.2.2.2.1 (by decide) (hts _ hT.1) (hts _ hT.2.1) hstr
      (vx_hat (B := [Cond.castable cls cls, Cond.declares (Bundle.initS "java/lang/RuntimeException"), Cond.declares (Bundle.initS "java/lang/Exception"), Cond.declares (Bundle.initS Bundle.tN)]) (fun w hw => hts w (hT.2.2.1 w hw)) hT.2.2.2.2.2.2.1 (vx_c (va_Nw.use rfl (hK.2.1 _ hT.2.2.2.2.1)) (vx_c (va_Nw.use rfl (hK.2.2.2 _ (List.mem_of_getElem? (i := 0) rfl))) (vx_c (va_Nw.use rfl (hK.2.2.2 _ (List.mem_of_getElem? (i := 1) rfl))) (vx_c (va_Nw.use rfl (hK.2.2.2 _ (List.mem_of_getElem? (i := 2) rfl))) vx_n))))) hT.2.2.2.2.2.2.2.1 hZ.1 hZ.2 hS (hsz.trans hml.symm) d0 d3 d4 d6 d9 (fun x hx => (htab x hx).elim) hT.2.2.2.2.2.2.2.2.1 hT.2.2.2.2.2.2.2.2.2 (Nat.le_trans hc hmc) (Nat.le_trans hs hms) hlocks (hx0 H locs cls u hxp hP hD hS) hS.2.2 hc hs
  · intro H locs cells slots pc ik is ic cls text ls u hsz d0 d3 d4 d6 d9 hT hc hs hmc hms hxp hP hD hS
    obtain ⟨sa, hstr⟩ := hK.2.2.1 _ hT.2.2.2.1
    exact vx_throwSW Bd.exec Bd.bytes hflg (names := nmE) hown hT.2.2.2.2.2.1 (by decide) (hts _ hT.1) (hts _ hT.2.1) hstr
      (vx_hat (B := [Cond.castable cls cls, Cond.declares (Bundle.initS "java/lang/RuntimeException"), Cond.declares (Bundle.initS "java/lang/Exception"), Cond.declares (Bundle.initS Bundle.tN)]) (fun w hw => hts w (hT.2.2.1 w hw)) hT.2.2.2.2.2.2.1 (vx_c (va_Nw.use rfl (hK.2.1 _ hT.2.2.2.2.1)) (vx_c (va_Nw.use rfl (hK.2.2.2 _ (List.mem_of_getElem? (i := 0) rfl))) (vx_c (va_Nw.use rfl (hK.2.2.2 _ (List.mem_of_getElem? (i := 1) rfl))) (vx_c (va_Nw.use rfl (hK.2.2.2 _ (List.mem_of_getElem? (i := 2) rfl))) vx_n))))) hT.2.2.2.2.2.2.2.1 hZ.1 hZ.2 hS (hsz.trans hml.symm) d0 d3 d4 d6 d9 (fun x hx => (htab x hx).elim) hT.2.2.2.2.2.2.2.2.1 hT.2.2.2.2.2.2.2.2.2 (Nat.le_trans hc hmc) (Nat.le_trans hs hms) hlocks (hx0 H locs cls u hxp hP hD hS) hS.2.2 hc hs
  · intro H locs cells slots pc ls rest E ce q9 u hc hs hce hcv hcl hxp hP hD hS
    exact vx_out (fun x hx => (htab x hx).elim) hlocks hce hcv hcl (fun t ht hvm => hx0 H locs E u hxp hP hD hS t hvm (by rw [ht]; exact Nat.le_refl _) (fun q _ => by rw [ht])) hS.2.2 hc hs
theorem jx_f {l : Launch} (hflg : l.stackTraces = false) {y : MethodName} {ws ws' : List Cond} {rm : Room} {av : List Value} {S SX : Type} {g : GC} {w0 : va_W} {wf : S → va_W} {wx : SX → va_W} {sz mc ms : Nat} {post : UInt32 → S → Prop} {xp : String → SX → Prop} {cc : ByteArray} {maxL : Nat} (hy : plainName y.cls = true) (hw : ws = Cond.code y cc maxL (some .float) :: ws') (hoy : y.cls = RX10) (hlen : (lg_sl av).length ≤ maxL)
    (body : ∀ (p : Program) (e : Env) (s : State) (m : MethodId) (below : List Frame) (meth : Method) (c : Code) (Q : State → Prop) (A : Nat → Prop), p.tables.exec = Jvm.exec → c.code = cc → c.maxLocals = maxL → s.vm.findClass RX10 = some m.cls → (∀ w ∈ ws, w.before av.toArray s = true) → KX g s → va_P (g.1, g.2.1) vwCl w0 s.heap → va_D A w0 → va_S A s.heap s.heap [] → (∀ q : Nat, s.heap.size ≤ q → A q) → ZX A s s.heap →
      (∀ (H : Heap) (locs : List Loc) (cells slots : Nat) (pc : Nat) (ls : Array Slot) (v : UInt32) (u : S), cells ≤ mc → slots ≤ ms → decode cc pc = .ok (.freturn, 1) → post v u → va_P (g.1, g.2.1) vwCl (wf u) H → va_D A (wf u) → va_S A s.heap H locs → W p l e rm s m av.toArray below meth c H locs cells slots Q (F0 m pc ls [.float v])) →
      (∀ (H : Heap) (locs : List Loc) (cells slots : Nat) (pc ik is ic : Nat) (cls text : String) (ls : Array Slot) (u : SX), ls.size = maxL → decode cc pc = .ok (.new ik, 3) → decode cc (pc + 3) = .ok (.dup, 1) → decode cc (pc + 4) = .ok (.ldc is, 2) → decode cc (pc + 6) = .ok (.invokespecial ic, 3) → decode cc (pc + 9) = .ok (.athrow, 1) →
        TwW RX10 ik is ic cls text ws rm → cells + 1 ≤ mc → slots + 6 ≤ ms → mc ≤ rm.cells → ms ≤ rm.slots → xp cls u → va_P (g.1, g.2.1) vwCl (wx u) H → va_D A (wx u) → va_S A s.heap H locs → W p l e rm s m av.toArray below meth c H locs cells slots Q (F0 m pc ls [])) →
      (∀ (H : Heap) (locs : List Loc) (cells slots : Nat) (pc ik is ic : Nat) (cls text : String) (ls : Array Slot) (u : SX), ls.size = maxL → decode cc pc = .ok (.new ik, 3) → decode cc (pc + 3) = .ok (.dup, 1) → decode cc (pc + 4) = .ok (.ldc_w is, 3) → decode cc (pc + 7) = .ok (.invokespecial ic, 3) → decode cc (pc + 10) = .ok (.athrow, 1) →
        TwW RX10 ik is ic cls text ws rm → cells + 1 ≤ mc → slots + 6 ≤ ms → mc ≤ rm.cells → ms ≤ rm.slots → xp cls u → va_P (g.1, g.2.1) vwCl (wx u) H → va_D A (wx u) → va_S A s.heap H locs → W p l e rm s m av.toArray below meth c H locs cells slots Q (F0 m pc ls [])) →
      (∀ (H : Heap) (locs : List Loc) (cells slots : Nat) (pc : Nat) (ls : Array Slot) (rest : List Value) (E : String) (ce : Cell) (q9 : Nat) (u : SX), cells ≤ mc → slots ≤ ms → H[q9]? = some ce → ce.vm = .none → s.vm.findClass E = some ce.cls → xp E u → va_P (g.1, g.2.1) vwCl (wx u) H → va_D A (wx u) → va_S A s.heap H locs → vx_W p l e rm s m av.toArray below meth c H locs cells slots Q (F0 m pc ls rest) q9) →
      ∀ ls, lv_has ls maxL (lv_args 0 av) → W p l e rm s m av.toArray below meth c s.heap [] 0 0 Q (F0 m 0 ls [])) : vx_Met l y ws rm (va_Pc av (PX g w0 sz)) (va_Qf post (fun u t => BW g (va_A w0 sz) (wf u) t) (va_A w0 sz)) (XW g (va_A w0 sz) xp wx) mc ms (va_A w0 sz) := by
  refine vx_ofW (cc := cc) (maxL := maxL) (ret := (some .float)) hy hw ?_
  intro p e s m args below meth c s₁ Bd hml htab hv
  obtain ⟨rfl, hsz, hP, hK, hD0, hZ⟩ := hv
  subst hsz
  have hl := lv_entry av (n := maxL) hlen
  rw [lg_entry_eq]
  have hlocks := Bd.notSynchronized
  have hown : s.vm.findClass RX10 = some m.cls := by rw [← hoy]; exact findClass_of_methodNamed Bd.named
  have hts := atoms_spec Bd.pre
  have hx0 : ∀ (H : Heap) (locs : List Loc) (cls : String) (u : SX), xp cls u → va_P (g.1, g.2.1) vwCl (wx u) H → va_D (va_A w0 s.heap.size) (wx u) → va_S (va_A w0 s.heap.size) s.heap H locs → ∀ t : State, s.vm.Alike t.vm → H.size ≤ t.heap.size → (∀ q : Nat, q < H.size → t.heap[q]? = H[q]?) → XW g (va_A w0 s.heap.size) xp wx cls s t := by
    intro H locs cls u hxp hP hD hS t _ h1 h2
    exact ⟨u, trivial, ⟨hxp, hP.kept (fun k q hk => h2 q.1 (vx_lt hP hk)), hD⟩, Nat.le_trans hS.1 h1, fun q h3 h4 => by rw [h2 q (Nat.lt_of_lt_of_le h3 hS.1)]; exact hS.2.1 q h3 h4⟩
  refine body p e s m below meth c _ (va_A w0 s.heap.size) Bd.exec Bd.bytes hml hown hts hK hP hD0.self va_S.rf (fun q h => Or.inr h) hZ ?_ ?_ ?_ ?_ _ hl
  · intro H locs cells slots pc ls v u hc hs d hp hP hD hS
    exact W.widen hc hs (vx_ret (W.fret Bd.exec Bd.bytes Bd.returns (fun t ht hW => ⟨⟨v, u, rfl, hp, by rw [ht]; exact hP, hD⟩, hS.F ht⟩) hS.2.2 d))
  · intro H locs cells slots pc ik is ic cls text ls u hsz d0 d3 d4 d6 d9 hT hc hs hmc hms hxp hP hD hS
    obtain ⟨sa, hstr⟩ := hK.2.2.1 _ hT.2.2.2.1
    exact vx_throwS Bd.exec Bd.bytes hflg (names := nmE) hown hT.2.2.2.2.2.1 (by decide) (hts _ hT.1) (hts _ hT.2.1) hstr
      (vx_hat (B := [Cond.castable cls cls, Cond.declares (Bundle.initS "java/lang/RuntimeException"), Cond.declares (Bundle.initS "java/lang/Exception"), Cond.declares (Bundle.initS Bundle.tN)]) (fun w hw => hts w (hT.2.2.1 w hw)) hT.2.2.2.2.2.2.1 (vx_c (va_Nw.use rfl (hK.2.1 _ hT.2.2.2.2.1)) (vx_c (va_Nw.use rfl (hK.2.2.2 _ (List.mem_of_getElem? (i := 0) rfl))) (vx_c (va_Nw.use rfl (hK.2.2.2 _ (List.mem_of_getElem? (i := 1) rfl))) (vx_c (va_Nw.use rfl (hK.2.2.2 _ (List.mem_of_getElem? (i := 2) rfl))) vx_n))))) hT.2.2.2.2.2.2.2.1 hZ.1 hZ.2 hS (hsz.trans hml.symm) d0 d3 d4 d6 d9 (fun x hx => (htab x hx).elim) hT.2.2.2.2.2.2.2.2.1 hT.2.2.2.2.2.2.2.2.2 (Nat.le_trans hc hmc) (Nat.le_trans hs hms) hlocks (hx0 H locs cls u hxp hP hD hS) hS.2.2 hc hs
  · intro H locs cells slots pc ik is ic cls text ls u hsz d0 d3 d4 d6 d9 hT hc hs hmc hms hxp hP hD hS
    obtain ⟨sa, hstr⟩ := hK.2.2.1 _ hT.2.2.2.1
    exact vx_throwSW Bd.exec Bd.bytes hflg (names := nmE) hown hT.2.2.2.2.2.1 (by decide) (hts _ hT.1) (hts _ hT.2.1) hstr
      (vx_hat (B := [Cond.castable cls cls, Cond.declares (Bundle.initS "java/lang/RuntimeException"), Cond.declares (Bundle.initS "java/lang/Exception"), Cond.declares (Bundle.initS Bundle.tN)]) (fun w hw => hts w (hT.2.2.1 w hw)) hT.2.2.2.2.2.2.1 (vx_c (va_Nw.use rfl (hK.2.1 _ hT.2.2.2.2.1)) (vx_c (va_Nw.use rfl (hK.2.2.2 _ (List.mem_of_getElem? (i := 0) rfl))) (vx_c (va_Nw.use rfl (hK.2.2.2 _ (List.mem_of_getElem? (i := 1) rfl))) (vx_c (va_Nw.use rfl (hK.2.2.2 _ (List.mem_of_getElem? (i := 2) rfl))) vx_n))))) hT.2.2.2.2.2.2.2.1 hZ.1 hZ.2 hS (hsz.trans hml.symm) d0 d3 d4 d6 d9 (fun x hx => (htab x hx).elim) hT.2.2.2.2.2.2.2.2.1 hT.2.2.2.2.2.2.2.2.2 (Nat.le_trans hc hmc) (Nat.le_trans hs hms) hlocks (hx0 H locs cls u hxp hP hD hS) hS.2.2 hc hs
  · intro H locs cells slots pc ls rest E ce q9 u hc hs hce hcv hcl hxp hP hD hS
    exact vx_out (fun x hx => (htab x hx).elim) hlocks hce hcv hcl (fun t ht hvm => hx0 H locs E u hxp hP hD hS t hvm (by rw [ht]; exact Nat.le_refl _) (fun q _ => by rw [ht])) hS.2.2 hc hs
section JXC
variable {p : Program} {l : Launch} {e : Env} {R : Room} {s : State} {m : MethodId} {args : Array Value} {below : List Frame} {meth : Method} {c : Code} {H : Heap} {locs : List Loc} {cells slots mc ms : Nat} {Q : State → Prop} {a : Array Value} {pc : Nat} {ls : Array Slot} {st0 rest : List Value} {A : Nat → Prop} {H0 : Heap}
theorem jx_callv {S SX : Type} {post : S → Prop} {g : GC} {w0 : va_W} {wf : S → va_W} {wx : SX → va_W} {xp : String → SX → Prop} (hr : vx_Run p l e R s m args below meth c H locs cells slots mc ms (F0 m pc ls st0) rest (va_Qv post (fun u t => BW g (va_A w0 H.size) (wf u) t) (va_A w0 H.size) a) (XW g (va_A w0 H.size) xp wx) (va_A w0 H.size)) (hD : va_D A w0) (hS : va_S A H0 H locs) (hA : ∀ q, H0.size ≤ q → A q)
    (kx : ∀ (E : String) (ce : Cell) (q9 : Nat) (u : SX) (H1 : Heap) (locs1 : List Loc), xp E u → va_P (g.1, g.2.1) vwCl (wx u) H1 → va_D A (wx u) → va_S A H0 H1 locs1 → H1[q9]? = some ce → ce.vm = .none → s.vm.findClass E = some ce.cls → vx_W p l e R s m args below meth c H1 locs1 (cells + mc) (slots + ms) Q (F0 m pc ls rest) q9)
    (kk : ∀ (u : S) (H1 : Heap) (locs1 : List Loc), post u → va_P (g.1, g.2.1) vwCl (wf u) H1 → va_D A (wf u) → va_S A H0 H1 locs1 → W p l e R s m args below meth c H1 locs1 (cells + mc) (slots + ms) Q (F0 m (pc + 3) ls (rest))) : W p l e R s m args below meth c H locs cells slots Q (F0 m pc ls st0) := by
  refine vx_callv hr hS (fun q _ h => fr_all hD hS hA q h) (fr_all hD hS hA) (fun q _ h => fr_all hD hS hA q h) (fun E ce q9 u t H1 locs1 ht hvm _ hB hz1 hk1 hS1 h7 h8 h9 => ?_) (fun u t H1 locs1 ht hvm hw hB hz1 hk1 hS1 => ?_)
  · obtain ⟨hxp, hP1, hD1⟩ := hB
    rw [ht] at hP1
    exact kx E ce q9 u H1 locs1 hxp hP1 (hD1.weaken (fun _ _ _ h => fr_all hD hS hA _ h)) hS1 h7 h8 h9
  · obtain ⟨hP1, hD1⟩ := hB
    rw [ht] at hP1
    exact kk u H1 locs1 hw hP1 (hD1.weaken (fun _ _ _ h => fr_all hD hS hA _ h)) hS1
theorem jx_calli {S SX : Type} {post : Int32 → S → Prop} {g : GC} {w0 : va_W} {wf : S → va_W} {wx : SX → va_W} {xp : String → SX → Prop} (hr : vx_Run p l e R s m args below meth c H locs cells slots mc ms (F0 m pc ls st0) rest (va_Qi post (fun u t => BW g (va_A w0 H.size) (wf u) t) (va_A w0 H.size) a) (XW g (va_A w0 H.size) xp wx) (va_A w0 H.size)) (hD : va_D A w0) (hS : va_S A H0 H locs) (hA : ∀ q, H0.size ≤ q → A q)
    (kx : ∀ (E : String) (ce : Cell) (q9 : Nat) (u : SX) (H1 : Heap) (locs1 : List Loc), xp E u → va_P (g.1, g.2.1) vwCl (wx u) H1 → va_D A (wx u) → va_S A H0 H1 locs1 → H1[q9]? = some ce → ce.vm = .none → s.vm.findClass E = some ce.cls → vx_W p l e R s m args below meth c H1 locs1 (cells + mc) (slots + ms) Q (F0 m pc ls rest) q9)
    (kk : ∀ (r : Int32) (u : S) (H1 : Heap) (locs1 : List Loc), post r u → va_P (g.1, g.2.1) vwCl (wf u) H1 → va_D A (wf u) → va_S A H0 H1 locs1 → W p l e R s m args below meth c H1 locs1 (cells + mc) (slots + ms) Q (F0 m (pc + 3) ls (.int r :: rest))) : W p l e R s m args below meth c H locs cells slots Q (F0 m pc ls st0) := by
  refine vx_calli hr hS (fun q _ h => fr_all hD hS hA q h) (fr_all hD hS hA) (fun q _ h => fr_all hD hS hA q h) (fun E ce q9 u t H1 locs1 ht hvm _ hB hz1 hk1 hS1 h7 h8 h9 => ?_) (fun r u t H1 locs1 ht hvm hw hB hz1 hk1 hS1 => ?_)
  · obtain ⟨hxp, hP1, hD1⟩ := hB
    rw [ht] at hP1
    exact kx E ce q9 u H1 locs1 hxp hP1 (hD1.weaken (fun _ _ _ h => fr_all hD hS hA _ h)) hS1 h7 h8 h9
  · obtain ⟨hP1, hD1⟩ := hB
    rw [ht] at hP1
    exact kk r u H1 locs1 hw hP1 (hD1.weaken (fun _ _ _ h => fr_all hD hS hA _ h)) hS1
theorem jx_calll {S SX : Type} {post : Int64 → S → Prop} {g : GC} {w0 : va_W} {wf : S → va_W} {wx : SX → va_W} {xp : String → SX → Prop} (hr : vx_Run p l e R s m args below meth c H locs cells slots mc ms (F0 m pc ls st0) rest (va_Ql post (fun u t => BW g (va_A w0 H.size) (wf u) t) (va_A w0 H.size) a) (XW g (va_A w0 H.size) xp wx) (va_A w0 H.size)) (hD : va_D A w0) (hS : va_S A H0 H locs) (hA : ∀ q, H0.size ≤ q → A q)
    (kx : ∀ (E : String) (ce : Cell) (q9 : Nat) (u : SX) (H1 : Heap) (locs1 : List Loc), xp E u → va_P (g.1, g.2.1) vwCl (wx u) H1 → va_D A (wx u) → va_S A H0 H1 locs1 → H1[q9]? = some ce → ce.vm = .none → s.vm.findClass E = some ce.cls → vx_W p l e R s m args below meth c H1 locs1 (cells + mc) (slots + ms) Q (F0 m pc ls rest) q9)
    (kk : ∀ (r : Int64) (u : S) (H1 : Heap) (locs1 : List Loc), post r u → va_P (g.1, g.2.1) vwCl (wf u) H1 → va_D A (wf u) → va_S A H0 H1 locs1 → W p l e R s m args below meth c H1 locs1 (cells + mc) (slots + ms) Q (F0 m (pc + 3) ls (.long r :: rest))) : W p l e R s m args below meth c H locs cells slots Q (F0 m pc ls st0) := by
  refine vx_calll hr hS (fun q _ h => fr_all hD hS hA q h) (fr_all hD hS hA) (fun q _ h => fr_all hD hS hA q h) (fun E ce q9 u t H1 locs1 ht hvm _ hB hz1 hk1 hS1 h7 h8 h9 => ?_) (fun r u t H1 locs1 ht hvm hw hB hz1 hk1 hS1 => ?_)
  · obtain ⟨hxp, hP1, hD1⟩ := hB
    rw [ht] at hP1
    exact kx E ce q9 u H1 locs1 hxp hP1 (hD1.weaken (fun _ _ _ h => fr_all hD hS hA _ h)) hS1 h7 h8 h9
  · obtain ⟨hP1, hD1⟩ := hB
    rw [ht] at hP1
    exact kk r u H1 locs1 hw hP1 (hD1.weaken (fun _ _ _ h => fr_all hD hS hA _ h)) hS1
theorem jx_calld {S SX : Type} {post : UInt64 → S → Prop} {g : GC} {w0 : va_W} {wf : S → va_W} {wx : SX → va_W} {xp : String → SX → Prop} (hr : vx_Run p l e R s m args below meth c H locs cells slots mc ms (F0 m pc ls st0) rest (va_Qd post (fun u t => BW g (va_A w0 H.size) (wf u) t) (va_A w0 H.size) a) (XW g (va_A w0 H.size) xp wx) (va_A w0 H.size)) (hD : va_D A w0) (hS : va_S A H0 H locs) (hA : ∀ q, H0.size ≤ q → A q)
    (kx : ∀ (E : String) (ce : Cell) (q9 : Nat) (u : SX) (H1 : Heap) (locs1 : List Loc), xp E u → va_P (g.1, g.2.1) vwCl (wx u) H1 → va_D A (wx u) → va_S A H0 H1 locs1 → H1[q9]? = some ce → ce.vm = .none → s.vm.findClass E = some ce.cls → vx_W p l e R s m args below meth c H1 locs1 (cells + mc) (slots + ms) Q (F0 m pc ls rest) q9)
    (kk : ∀ (r : UInt64) (u : S) (H1 : Heap) (locs1 : List Loc), post r u → va_P (g.1, g.2.1) vwCl (wf u) H1 → va_D A (wf u) → va_S A H0 H1 locs1 → W p l e R s m args below meth c H1 locs1 (cells + mc) (slots + ms) Q (F0 m (pc + 3) ls (.double r :: rest))) : W p l e R s m args below meth c H locs cells slots Q (F0 m pc ls st0) := by
  refine vx_calld hr hS (fun q _ h => fr_all hD hS hA q h) (fr_all hD hS hA) (fun q _ h => fr_all hD hS hA q h) (fun E ce q9 u t H1 locs1 ht hvm _ hB hz1 hk1 hS1 h7 h8 h9 => ?_) (fun r u t H1 locs1 ht hvm hw hB hz1 hk1 hS1 => ?_)
  · obtain ⟨hxp, hP1, hD1⟩ := hB
    rw [ht] at hP1
    exact kx E ce q9 u H1 locs1 hxp hP1 (hD1.weaken (fun _ _ _ h => fr_all hD hS hA _ h)) hS1 h7 h8 h9
  · obtain ⟨hP1, hD1⟩ := hB
    rw [ht] at hP1
    exact kk r u H1 locs1 hw hP1 (hD1.weaken (fun _ _ _ h => fr_all hD hS hA _ h)) hS1
theorem jx_callf {S SX : Type} {post : UInt32 → S → Prop} {g : GC} {w0 : va_W} {wf : S → va_W} {wx : SX → va_W} {xp : String → SX → Prop} (hr : vx_Run p l e R s m args below meth c H locs cells slots mc ms (F0 m pc ls st0) rest (va_Qf post (fun u t => BW g (va_A w0 H.size) (wf u) t) (va_A w0 H.size) a) (XW g (va_A w0 H.size) xp wx) (va_A w0 H.size)) (hD : va_D A w0) (hS : va_S A H0 H locs) (hA : ∀ q, H0.size ≤ q → A q)
    (kx : ∀ (E : String) (ce : Cell) (q9 : Nat) (u : SX) (H1 : Heap) (locs1 : List Loc), xp E u → va_P (g.1, g.2.1) vwCl (wx u) H1 → va_D A (wx u) → va_S A H0 H1 locs1 → H1[q9]? = some ce → ce.vm = .none → s.vm.findClass E = some ce.cls → vx_W p l e R s m args below meth c H1 locs1 (cells + mc) (slots + ms) Q (F0 m pc ls rest) q9)
    (kk : ∀ (r : UInt32) (u : S) (H1 : Heap) (locs1 : List Loc), post r u → va_P (g.1, g.2.1) vwCl (wf u) H1 → va_D A (wf u) → va_S A H0 H1 locs1 → W p l e R s m args below meth c H1 locs1 (cells + mc) (slots + ms) Q (F0 m (pc + 3) ls (.float r :: rest))) : W p l e R s m args below meth c H locs cells slots Q (F0 m pc ls st0) := by
  refine vx_callf hr hS (fun q _ h => fr_all hD hS hA q h) (fr_all hD hS hA) (fun q _ h => fr_all hD hS hA q h) (fun E ce q9 u t H1 locs1 ht hvm _ hB hz1 hk1 hS1 h7 h8 h9 => ?_) (fun r u t H1 locs1 ht hvm hw hB hz1 hk1 hS1 => ?_)
  · obtain ⟨hxp, hP1, hD1⟩ := hB
    rw [ht] at hP1
    exact kx E ce q9 u H1 locs1 hxp hP1 (hD1.weaken (fun _ _ _ h => fr_all hD hS hA _ h)) hS1 h7 h8 h9
  · obtain ⟨hP1, hD1⟩ := hB
    rw [ht] at hP1
    exact kk r u H1 locs1 hw hP1 (hD1.weaken (fun _ _ _ h => fr_all hD hS hA _ h)) hS1
end JXC
