theorem jn_sd {l : Launch} {y : MethodName} {ws ws' : List Cond} {rm : Room} {av : List Value} {S : Type} {g : GC} {w0 : va_W} {wf : S → va_W} {sz : Nat} {post : UInt64 → S → Prop} {cc : ByteArray} {maxL : Nat} {own : String} (hy : plainName y.cls = true) (hw : ws = Cond.code y cc maxL (some .double) :: ws') (hoy : y.cls = own) (hlen : (lg_sl av).length ≤ maxL)
    (body : ∀ (p : Program) (e : Env) (s : State) (m : MethodId) (below : List Frame) (meth : Method) (c : Code) (Q : State → Prop) (A : Nat → Prop), p.tables.exec = Jvm.exec → c.code = cc → c.maxLocals = maxL → s.vm.findClass own = some m.cls → (∀ w ∈ ws, w.before av.toArray s = true) → KB g s → va_P (g.1, g.2.1) vwCl w0 s.heap → va_D A w0 → va_S A s.heap s.heap [] → (∀ q : Nat, s.heap.size ≤ q → A q) →
      (∀ (H : Heap) (locs : List Loc) (pc : Nat) (ls : Array Slot) (v : UInt64) (u : S), decode cc pc = .ok (.dreturn, 1) → post v u → va_P (g.1, g.2.1) vwCl (wf u) H → va_D A (wf u) → va_S A s.heap H locs → W p l e rm s m av.toArray below meth c H locs 0 0 Q (F0 m pc ls [.double v])) →
      ∀ ls, lv_has ls maxL (lv_args 0 av) → W p l e rm s m av.toArray below meth c s.heap [] 0 0 Q (F0 m 0 ls [])) : Met l y ws rm (va_Pc av (PW g w0 sz)) (va_Qd post (fun u t => BW g (va_A w0 sz) (wf u) t) (va_A w0 sz)) 0 0 (va_A w0 sz) := by
  refine Met.ofW (cc := cc) (maxL := maxL) (ret := some .double) hy hw ?_
  intro p e s m args below meth c s₁ Bd hml hv
  obtain ⟨rfl, hsz, hP, hK, hD0⟩ := hv
  subst hsz
  have hl := lv_entry av (n := maxL) hlen
  rw [lg_entry_eq]
  have hlocks := Bd.notSynchronized
  exact body p e s m below meth c _ (va_A w0 s.heap.size) Bd.exec Bd.bytes hml (by rw [← hoy]; exact findClass_of_methodNamed Bd.named) (atoms_spec Bd.pre) hK hP hD0.self va_S.rf (fun q h => Or.inr h) (fun H locs pc ls v u d hp hP hD hS => W.dret Bd.exec Bd.bytes Bd.returns (fun t ht hW => ⟨⟨v, u, rfl, hp, by rw [ht]; exact hP, hD⟩, hS.F ht⟩) hS.2.2 d) _ hl
theorem jn_sf {l : Launch} {y : MethodName} {ws ws' : List Cond} {rm : Room} {av : List Value} {S : Type} {g : GC} {w0 : va_W} {wf : S → va_W} {sz : Nat} {post : UInt32 → S → Prop} {cc : ByteArray} {maxL : Nat} {own : String} (hy : plainName y.cls = true) (hw : ws = Cond.code y cc maxL (some .float) :: ws') (hoy : y.cls = own) (hlen : (lg_sl av).length ≤ maxL)
    (body : ∀ (p : Program) (e : Env) (s : State) (m : MethodId) (below : List Frame) (meth : Method) (c : Code) (Q : State → Prop) (A : Nat → Prop), p.tables.exec = Jvm.exec → c.code = cc → c.maxLocals = maxL → s.vm.findClass own = some m.cls → (∀ w ∈ ws, w.before av.toArray s = true) → KB g s → va_P (g.1, g.2.1) vwCl w0 s.heap → va_D A w0 → va_S A s.heap s.heap [] → (∀ q : Nat, s.heap.size ≤ q → A q) →
      (∀ (H : Heap) (locs : List Loc) (pc : Nat) (ls : Array Slot) (v : UInt32) (u : S), decode cc pc = .ok (.freturn, 1) → post v u → va_P (g.1, g.2.1) vwCl (wf u) H → va_D A (wf u) → va_S A s.heap H locs → W p l e rm s m av.toArray below meth c H locs 0 0 Q (F0 m pc ls [.float v])) →
      ∀ ls, lv_has ls maxL (lv_args 0 av) → W p l e rm s m av.toArray below meth c s.heap [] 0 0 Q (F0 m 0 ls [])) : Met l y ws rm (va_Pc av (PW g w0 sz)) (va_Qf post (fun u t => BW g (va_A w0 sz) (wf u) t) (va_A w0 sz)) 0 0 (va_A w0 sz) := by
  refine Met.ofW (cc := cc) (maxL := maxL) (ret := some .float) hy hw ?_
  intro p e s m args below meth c s₁ Bd hml hv
  obtain ⟨rfl, hsz, hP, hK, hD0⟩ := hv
  subst hsz
  have hl := lv_entry av (n := maxL) hlen
  rw [lg_entry_eq]
  have hlocks := Bd.notSynchronized
  exact body p e s m below meth c _ (va_A w0 s.heap.size) Bd.exec Bd.bytes hml (by rw [← hoy]; exact findClass_of_methodNamed Bd.named) (atoms_spec Bd.pre) hK hP hD0.self va_S.rf (fun q h => Or.inr h) (fun H locs pc ls v u d hp hP hD hS => W.fret Bd.exec Bd.bytes Bd.returns (fun t ht hW => ⟨⟨v, u, rfl, hp, by rw [ht]; exact hP, hD⟩, hS.F ht⟩) hS.2.2 d) _ hl
section JNC8
variable {p : Program} {l : Launch} {e : Env} {R : Room} {s : State} {m : MethodId} {args : Array Value} {below : List Frame} {meth : Method} {c : Code} {H : Heap} {locs : List Loc} {cells slots : Nat} {Q : State → Prop}
variable {cc : ByteArray} {pc : Nat} {ls : Array Slot} {rest st0 : List Value} {D : va_G} {cl : List vw_C} {A : Nat → Prop} {a : Array Value} {tys : List (ClassId × FieldType)} {H0 : Heap}
theorem jn_calld {S : Type} {post : UInt64 → S → Prop} {g : GC} {w0 : va_W} {wf : S → va_W} (hr : va_Run p l e R s m args below meth c H locs cells slots 0 0 (F0 m pc ls st0) rest (va_Qd post (fun u t => BW g (va_A w0 H.size) (wf u) t) (va_A w0 H.size) a) (va_A w0 H.size)) (hD : va_D A w0) (hS : va_S A H0 H locs) (hA : ∀ q, H0.size ≤ q → A q)
    (kk : ∀ (r : UInt64) (u : S) (H1 : Heap) (locs1 : List Loc), post r u → va_P (g.1, g.2.1) vwCl (wf u) H1 → va_D A (wf u) → va_S A H0 H1 locs1 → W p l e R s m args below meth c H1 locs1 cells slots Q (F0 m (pc + 3) ls (.double r :: rest))) : W p l e R s m args below meth c H locs cells slots Q (F0 m pc ls st0) := by
  refine va_calld hr hS (fun q _ h => fr_all hD hS hA q h) (fr_all hD hS hA) (fun r u t H1 locs1 ht hvm hw hB hz1 hk1 hS1 => ?_)
  obtain ⟨hP1, hD1⟩ := hB
  rw [ht] at hP1
  exact kk r u H1 locs1 hw hP1 (hD1.weaken (fun _ _ _ h => fr_all hD hS hA _ h)) hS1
theorem jn_callf {S : Type} {post : UInt32 → S → Prop} {g : GC} {w0 : va_W} {wf : S → va_W} (hr : va_Run p l e R s m args below meth c H locs cells slots 0 0 (F0 m pc ls st0) rest (va_Qf post (fun u t => BW g (va_A w0 H.size) (wf u) t) (va_A w0 H.size) a) (va_A w0 H.size)) (hD : va_D A w0) (hS : va_S A H0 H locs) (hA : ∀ q, H0.size ≤ q → A q)
    (kk : ∀ (r : UInt32) (u : S) (H1 : Heap) (locs1 : List Loc), post r u → va_P (g.1, g.2.1) vwCl (wf u) H1 → va_D A (wf u) → va_S A H0 H1 locs1 → W p l e R s m args below meth c H1 locs1 cells slots Q (F0 m (pc + 3) ls (.float r :: rest))) : W p l e R s m args below meth c H locs cells slots Q (F0 m pc ls st0) := by
  refine va_callf hr hS (fun q _ h => fr_all hD hS hA q h) (fr_all hD hS hA) (fun r u t H1 locs1 ht hvm hw hB hz1 hk1 hS1 => ?_)
  obtain ⟨hP1, hD1⟩ := hB
  rw [ht] at hP1
  exact kk r u H1 locs1 hw hP1 (hD1.weaken (fun _ _ _ h => fr_all hD hS hA _ h)) hS1
end JNC8
