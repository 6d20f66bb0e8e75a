/-! ===== the law's helpers ===== -/
def ncL : List (String × String) := [("java/lang/IllegalStateException", "java/lang/IllegalArgumentException"), ("java/lang/UnsupportedOperationException", "java/lang/IllegalArgumentException"), ("java/lang/IllegalArgumentException", "java/lang/IndexOutOfBoundsException"), ("java/lang/IllegalStateException", "java/lang/IndexOutOfBoundsException"), ("java/util/NoSuchElementException", "java/lang/IndexOutOfBoundsException"), ("java/util/NoSuchElementException", "java/lang/IllegalArgumentException")]
def clL : List (Nat × String) := [(13, "java/lang/IllegalArgumentException"), (15, "java/lang/IllegalStateException"), (25, "java/lang/IndexOutOfBoundsException"), (31, "java/util/NoSuchElementException"), (50, "java/lang/UnsupportedOperationException"), (126, "java/lang/ArithmeticException")]
theorem va_Nw.warmL {a : String} {i : Nat} {n : String} {s U : State} (hW : s.WarmedH U.vm) (hZ : va_Nw (.classLink a i n) s) : va_Nw (.classLink a i n) U := va_tabs rfl (rfl : (s.setVm U.vm).vm = U.vm) (Cond.classLink_shifted (args := #[]) (State.Shifted.of_warmed hW) hZ)
def KL (g : GC) (U : State) : Prop := KX g U ∧ (∀ q ∈ ncL, va_Nc q.1 q.2 U) ∧ ∀ q ∈ clL, va_Nw (.classLink RL q.1 q.2) U
theorem KL.moved {g : GC} {s U : State} (hW : s.WarmedH U.vm) (h : KL g s) : KL g U := ⟨h.1.moved hW, fun q hq => va_Nc.moved hW.alike (h.2.1 q hq), fun q hq => va_Nw.warmL hW (h.2.2 q hq)⟩
theorem KL.blind {g : GC} {U : State} {f : JFrame} {mk : MethodId} {a : Array Value} (h : KL g U) : KL g (U.calling f mk a) := ⟨h.1.blind, fun q hq => va_Nc.moved (u := U) (U := U.calling f mk a) (Vm.Alike.refl U.vm) (h.2.1 q hq), fun q hq => va_Nw.same rfl rfl (h.2.2 q hq)⟩
def PH (g : GC) (w : va_W) (sz : Nat) : State → Prop := fun U => U.heap.size = sz ∧ va_P (g.1, g.2.1) vwCl w U.heap ∧ KL g U ∧ va_D (fun _ => True) w ∧ ZX (va_A w sz) U U.heap
theorem okHS {s : State} {H H0 : Heap} {g : GC} {w : va_W} {As : List Value} {A : Nat → Prop} {locs : List Loc} (hK : KL g s) (hP : va_P (g.1, g.2.1) vwCl w H) (hD : va_D A w) (hZ : ZX A s H0) (hS : va_S A H0 H locs) (hA : ∀ q, H0.size ≤ q → A q) : PreS s H (va_Pc As (PH g w H.size)) As :=
  ⟨fun a U f mk q => ⟨q.1, q.2.1, q.2.2.1, q.2.2.2.1.blind, q.2.2.2.2.1, q.2.2.2.2.2.moved (U := U.calling f mk a) (Vm.Alike.refl U.vm)⟩, fun U hU hW => ⟨rfl, by rw [hU], by rw [hU]; exact hP, hK.moved hW, hD.weaken (fun _ _ _ _ => trivial), by rw [hU]; exact (((hZ.kept hS.2.1).narrow (fr_all hD hS hA)).moved hW.alike)⟩⟩
/-- the two rows of answers, a long and a double, behind the class's world -/
def wT (g : GC) (ao ad : Nat) (ov : Nat → Int64) (dv : Nat → UInt64) (tl : va_W) : va_W := (ao, .inl (g.2.2.1 1, 1, .inr (.inl ov))) :: (ad, .inl (g.2.2.1 4, 1, .inr (.inr (.inr (.inl dv))))) :: tl
theorem gT42 (g : GC) (σ : SS) (ao ad : Nat) (ov : Nat → Int64) (dv : Nat → UInt64) (tl : va_W) : (wC g σ ++ wT g ao ad ov dv tl)[42]? = some (ao, .inl (g.2.2.1 1, 1, .inr (.inl ov))) := rfl
theorem gT43 (g : GC) (σ : SS) (ao ad : Nat) (ov : Nat → Int64) (dv : Nat → UInt64) (tl : va_W) : (wC g σ ++ wT g ao ad ov dv tl)[43]? = some (ad, .inl (g.2.2.1 4, 1, .inr (.inr (.inr (.inl dv))))) := rfl
theorem uT42 (g : GC) (σ : SS) (ao ad : Nat) (ov f : Nat → Int64) (dv : Nat → UInt64) (tl : va_W) : (wC g σ ++ wT g ao ad ov dv tl).set 42 (ao, .inl (g.2.2.1 1, 1, .inr (.inl f))) = wC g σ ++ wT g ao ad f dv tl := rfl
theorem uT43 (g : GC) (σ : SS) (ao ad : Nat) (ov : Nat → Int64) (dv f : Nat → UInt64) (tl : va_W) : (wC g σ ++ wT g ao ad ov dv tl).set 43 (ad, .inl (g.2.2.1 4, 1, .inr (.inr (.inr (.inl f))))) = wC g σ ++ wT g ao ad ov f tl := rfl
abbrev HZ : Type := SS × (Nat → Int64) × (Nat → UInt64)
abbrev wH (g : GC) (ao ad : Nat) (tl : va_W) (z : HZ) : va_W := wC g z.1 ++ wT g ao ad z.2.1 z.2.2 tl
theorem jh_i {l : Launch} {y : MethodName} {ws ws' : List Cond} {rm : Room} {av : List Value} {S : Type} {g : GC} {w0 : va_W} {wf : S → va_W} {sz mc ms : Nat} {post : Int32 → S → Prop} {cc : ByteArray} {maxL : Nat} {hh : List (Nat × Nat × Nat × Nat)} (hy : plainName y.cls = true) (hw : ws = Cond.codeWith y cc maxL (some .int) hh :: ws') (hoy : y.cls = RL) (hlen : (lg_sl av).length ≤ maxL)
    (body : ∀ (p : Program) (e : Env) (s : State) (m : MethodId) (below : List Frame) (meth : Method) (c : Code) (Q : State → Prop) (A : Nat → Prop), p.tables.exec = Jvm.exec → c.code = cc → c.maxLocals = maxL → s.vm.findClass RL = some m.cls → (∀ w ∈ ws, w.before av.toArray s = true) → KL g s → va_P (g.1, g.2.1) vwCl w0 s.heap → va_D A w0 → va_S A s.heap s.heap [] → (∀ q : Nat, s.heap.size ≤ q → A q) → ZX A s s.heap → c.exceptionTable.toList = tableOf hh →
      (∀ (H : Heap) (locs : List Loc) (cells slots : Nat) (pc : Nat) (ls : Array Slot) (v : Int32) (u : S), cells ≤ mc → slots ≤ ms → decode cc pc = .ok (.ireturn, 1) → post v u → va_P (g.1, g.2.1) vwCl (wf u) H → va_D A (wf u) → va_S A s.heap H locs → W p l e rm s m av.toArray below meth c H locs cells slots Q (F0 m pc ls [.int v])) →
      ∀ ls, lv_has ls maxL (lv_args 0 av) → W p l e rm s m av.toArray below meth c s.heap [] 0 0 Q (F0 m 0 ls [])) : Met l y ws rm (va_Pc av (PH g w0 sz)) (va_Qi post (fun u t => BW g (va_A w0 sz) (wf u) t) (va_A w0 sz)) mc ms (va_A w0 sz) := by
  refine va_MetW (cc := cc) (maxL := maxL) (ret := some .int) (hh := hh) hy hw ?_
  intro p e s m args below meth c s₁ Bd hml hv
  obtain ⟨rfl, hsz, hP, hK, hD0, hZ⟩ := hv
  subst hsz
  have hl := lv_entry av (n := maxL) hlen
  rw [lg_entry_eq]
  have hlocks := Bd.notSynchronized
  have hts := atoms_spec Bd.pre
  refine body p e s m below meth c _ (va_A w0 s.heap.size) Bd.exec Bd.bytes hml (by rw [← hoy]; exact findClass_of_methodNamed Bd.named) hts hK hP hD0.self va_S.rf (fun q h => Or.inr h) hZ (vx_table (x := y) Bd (hts _ (by rw [hw]; exact List.mem_cons_self))) ?_ _ hl
  intro H locs cells slots pc ls v u hc hs d hp hP hD hS
  exact W.widen hc hs (W.iret Bd.exec Bd.bytes Bd.returns (fun t ht hW => ⟨⟨v, u, rfl, hp, by rw [ht]; exact hP, hD⟩, hS.F ht⟩) hS.2.2 d)
