/-! ===== constructors ===== -/
theorem pP_map {D : va_G} {cl : List vw_C} {ws ws' : va_W} {H : Heap} (f : Nat → Nat) (h : ∀ (k : Nat) (q : Nat × va_E), ws'[k]? = some q → ws[f k]? = some q) (hP : va_P D cl ws H) : va_P D cl ws' H := fun k q hk => hP (f k) q (h k q hk)
theorem dD_map {A : Nat → Prop} {ws ws' : va_W} (f : Nat → Nat) (hf : ∀ i j, i < ws'.length → j < ws'.length → f i = f j → i = j) (h : ∀ (k : Nat) (q : Nat × va_E), ws'[k]? = some q → ws[f k]? = some q) (hD : va_D A ws) : va_D A ws' :=
  ⟨fun i j p q hi hj e => hf i j (List.getElem?_eq_some_iff.mp hi).1 (List.getElem?_eq_some_iff.mp hj).1 (hD.1 (f i) (f j) p q (h i p hi) (h j q hj) e), fun k q hk => hD.2 (f k) q (h k q hk)⟩
theorem fr_at {W : va_W} {x : Nat × va_E} : ∀ (k : Nat) (q : Nat × va_E), (x :: W)[k]? = some q → (W ++ [x])[if k = 0 then W.length else k - 1]? = some q
  | 0, q, h => by
    rw [if_pos rfl, List.getElem?_append_right (Nat.le_refl _), Nat.sub_self]; exact h
  | k + 1, q, h => by
    have h : W[k]? = some q := h
    rw [if_neg (by omega), Nat.add_sub_cancel, List.getElem?_append_left (List.getElem?_eq_some_iff.mp h).1]; exact h
theorem pP_front {D : va_G} {cl : List vw_C} {W : va_W} {x : Nat × va_E} {H : Heap} (h : va_P D cl (W ++ [x]) H) : va_P D cl (x :: W) H := pP_map _ fr_at h
theorem dD_front {A : Nat → Prop} {W : va_W} {x : Nat × va_E} (h : va_D A (W ++ [x])) : va_D A (x :: W) := dD_map _ (fun i j hi hj e => by
  simp only [List.length_cons] at hi hj
  split at e <;> split at e <;> omega) fr_at h
theorem sw_at {W : va_W} {x y : Nat × va_E} : ∀ (k : Nat) (q : Nat × va_E), (y :: x :: W)[k]? = some q → (x :: y :: W)[if k = 0 then 1 else if k = 1 then 0 else k]? = some q
  | 0, q, h => h
  | 1, q, h => h
  | k + 2, q, h => by rw [if_neg (by omega), if_neg (by omega)]; exact h
theorem pP_sw {D : va_G} {cl : List vw_C} {W : va_W} {x y : Nat × va_E} {H : Heap} (h : va_P D cl (x :: y :: W) H) : va_P D cl (y :: x :: W) H := pP_map _ sw_at h
theorem dD_sw {A : Nat → Prop} {W : va_W} {x y : Nat × va_E} (h : va_D A (x :: y :: W)) : va_D A (y :: x :: W) := dD_map _ (fun i j hi hj e => by
  split at e <;> split at e <;> (try split at e) <;> (try split at e) <;> omega) sw_at h
theorem bl_at {X Y Z : va_W} (k : Nat) (q : Nat × va_E) (h : (Y ++ (X ++ Z))[k]? = some q) : (X ++ (Y ++ Z))[if k < Y.length then X.length + k else if k < Y.length + X.length then k - Y.length else k]? = some q := by
  by_cases h1 : k < Y.length
  · rw [List.getElem?_append_left h1] at h
    rw [if_pos h1, List.getElem?_append_right (by omega), show X.length + k - X.length = k by omega, List.getElem?_append_left h1]; exact h
  · rw [List.getElem?_append_right (by omega)] at h
    rw [if_neg h1]
    by_cases h2 : k < Y.length + X.length
    · rw [List.getElem?_append_left (by omega)] at h
      rw [if_pos h2, List.getElem?_append_left (by omega)]; exact h
    · rw [List.getElem?_append_right (by omega)] at h
      rw [if_neg h2, List.getElem?_append_right (by omega), List.getElem?_append_right (by omega), show k - X.length - Y.length = k - Y.length - X.length by omega]; exact h
/-- two blocks of a world change places -/
theorem pP_blk {D : va_G} {cl : List vw_C} {X Y Z : va_W} {H : Heap} (h : va_P D cl (X ++ (Y ++ Z)) H) : va_P D cl (Y ++ (X ++ Z)) H := pP_map _ bl_at h
theorem dD_blk {A : Nat → Prop} {X Y Z : va_W} (h : va_D A (X ++ (Y ++ Z))) : va_D A (Y ++ (X ++ Z)) := dD_map _ (fun i j hi hj e => by
  simp only [List.length_append] at hi hj
  split at e <;> split at e <;> (try split at e) <;> (try split at e) <;> omega) bl_at h
/-- the classes of rows of rows of ints -/
def KM (U : State) : Prop := ∃ (cO cI c2 : ClassId) (kO kI : Class), U.vm.findClass "[[I" = some cO ∧ U.vm.findClass "[I" = some cI ∧ U.vm.classes[cO]? = some kO ∧ kO.kind = .array cI (.array .int) ∧ U.vm.classes[cI]? = some kI ∧ kI.kind = .array c2 .int
theorem KM.moved {u U : State} (hvm : u.vm.Alike U.vm) (h : KM u) : KM U := by
  obtain ⟨cO, cI, c2, kO, kI, h1, h2, h3, h4, h5, h6⟩ := h
  obtain ⟨kO', g1, g2⟩ := hvm.2.2 _ _ h3
  obtain ⟨kI', g3, g4⟩ := hvm.2.2 _ _ h5
  exact ⟨cO, cI, c2, kO', kI', by rw [hvm.findClass]; exact h1, by rw [hvm.findClass]; exact h2, g1, by rw [g2]; exact h4, g3, by rw [g4]; exact h6⟩
def PI (g : GC) (w : va_W) (sz : Nat) : State → Prop := fun U => U.heap.size = sz ∧ va_P (g.1, g.2.1) vwCl w U.heap ∧ KB g U ∧ va_D (fun _ => True) w ∧ KM U
theorem okIS {s : State} {H : Heap} {g : GC} {w : va_W} {As : List Value} {A : Nat → Prop} (hK : KB g s) (hP : va_P (g.1, g.2.1) vwCl w H) (hD : va_D A w) (hM : KM s) : PreS s H (va_Pc As (PI g w H.size)) As :=
  ⟨fun a U f mk q => ⟨q.1, q.2.1, q.2.2.1, q.2.2.2.1.blind, q.2.2.2.2.1, KM.moved (u := U) (U := U.calling f mk a) (Vm.Alike.refl U.vm) q.2.2.2.2.2⟩, fun U hU hW => ⟨rfl, by rw [hU], by rw [hU]; exact hP, hK.moved hW, hD.weaken (fun _ _ _ _ => trivial), hM.moved hW.alike⟩⟩
theorem jI_v {l : Launch} {y : MethodName} {ws ws' : List Cond} {rm : Room} {av : List Value} {S : Type} {g : GC} {w0 : va_W} {wf : S → va_W} {sz mc ms : Nat} {post : S → Prop} {cc : ByteArray} {maxL : Nat} {own : String} (hy : plainName y.cls = true) (hw : ws = Cond.code y cc maxL none :: ws') (hoy : y.cls = own) (hni : y.name = "<init>") (hlen : (lg_sl av).length ≤ maxL)
    (body : ∀ (p : Program) (e : Env) (s : State) (m : MethodId) (below : List Frame) (meth : Method) (c : Code) (Q : State → Prop) (A : Nat → Prop), p.tables.exec = Jvm.exec → c.code = cc → c.maxLocals = maxL → s.vm.findClass own = some m.cls → (∀ w ∈ ws, w.before av.toArray s = true) → meth.name = "<init>" → KB g s → KM s → va_P (g.1, g.2.1) vwCl w0 s.heap → va_D A w0 → va_S A s.heap s.heap [] → (∀ q : Nat, s.heap.size ≤ q → A q) →
      (∀ (H : Heap) (locs : List Loc) (cells slots : Nat) (pc : Nat) (ls : Array Slot) (u : S), cells ≤ mc → slots ≤ ms → decode cc pc = .ok (.return_, 1) → post u → va_P (g.1, g.2.1) vwCl (wf u) H → va_D A (wf u) → va_S A s.heap H locs → W p l e rm s m av.toArray below meth c H locs cells slots Q (F0 m pc ls [])) →
      ∀ ls, lv_has ls maxL (lv_args 0 av) → W p l e rm s m av.toArray below meth c s.heap [] 0 0 Q (F0 m 0 ls [])) : Met l y ws rm (va_Pc av (PI g w0 sz)) (va_Qv post (fun u t => BW g (va_A w0 sz) (wf u) t) (va_A w0 sz)) mc ms (va_A w0 sz) := by
  refine Met.ofW (cc := cc) (maxL := maxL) (ret := none) hy hw ?_
  intro p e s m args below meth c s₁ Bd hml hv
  obtain ⟨rfl, hsz, hP, hK, hD0, hM⟩ := hv
  subst hsz
  have hl := lv_entry av (n := maxL) hlen
  rw [lg_entry_eq]
  have hlocks := Bd.notSynchronized
  refine body p e s m below meth c _ (va_A w0 s.heap.size) Bd.exec Bd.bytes hml (by rw [← hoy]; exact findClass_of_methodNamed Bd.named) (atoms_spec Bd.pre) ((name_of_methodNamed Bd.named Bd.method).1.trans hni) hK hM hP hD0.self va_S.rf (fun q h => Or.inr h) ?_ _ hl
  intro H locs cells slots pc ls u hc hs d hp hP hD hS
  exact W.widen hc hs (W.vret Bd.exec Bd.bytes Bd.returns (fun t ht hW => ⟨⟨u, rfl, hp, by rw [ht]; exact hP, hD⟩, hS.F ht⟩) hS.2.2 d)
section JIC
variable {p : Program} {l : Launch} {e : Env} {R : Room} {s : State} {m : MethodId} {args : Array Value} {below : List Frame} {meth : Method} {c : Code} {H : Heap} {locs : List Loc} {cells slots : Nat} {Q : State → Prop}
variable {cc : ByteArray} {pc : Nat} {ls : Array Slot} {rest st0 : List Value} {A : Nat → Prop} {a : Array Value} {H0 : Heap} {mc ms : Nat}
theorem jI_callv {S : Type} {post : S → Prop} {g : GC} {w0 : va_W} {wf : S → va_W} (hr : va_Run p l e R s m args below meth c H locs cells slots mc ms (F0 m pc ls st0) rest (va_Qv post (fun u t => BW g (va_A w0 H.size) (wf u) t) (va_A w0 H.size) a) (va_A w0 H.size)) (hD : va_D A w0) (hS : va_S A H0 H locs) (hA : ∀ q, H0.size ≤ q → A q)
    (kk : ∀ (u : S) (H1 : Heap) (locs1 : List Loc), post u → va_P (g.1, g.2.1) vwCl (wf u) H1 → va_D A (wf u) → va_S A H0 H1 locs1 → W p l e R s m args below meth c H1 locs1 (cells + mc) (slots + ms) Q (F0 m (pc + 3) ls rest)) : W p l e R s m args below meth c H locs cells slots Q (F0 m pc ls st0) := by
  refine va_callv hr hS (fun q _ h => fr_all hD hS hA q h) (fr_all hD hS hA) (fun u t H1 locs1 ht hvm hw hB hz1 hk1 hS1 => ?_)
  obtain ⟨hP1, hD1⟩ := hB
  rw [ht] at hP1
  exact kk u H1 locs1 hw hP1 (hD1.weaken (fun _ _ _ h => fr_all hD hS hA _ h)) hS1
theorem jI_calli {S : Type} {post : Int32 → S → Prop} {g : GC} {w0 : va_W} {wf : S → va_W} (hr : va_Run p l e R s m args below meth c H locs cells slots mc ms (F0 m pc ls st0) rest (va_Qi post (fun u t => BW g (va_A w0 H.size) (wf u) t) (va_A w0 H.size) a) (va_A w0 H.size)) (hD : va_D A w0) (hS : va_S A H0 H locs) (hA : ∀ q, H0.size ≤ q → A q)
    (kk : ∀ (r : Int32) (u : S) (H1 : Heap) (locs1 : List Loc), post r u → va_P (g.1, g.2.1) vwCl (wf u) H1 → va_D A (wf u) → va_S A H0 H1 locs1 → W p l e R s m args below meth c H1 locs1 (cells + mc) (slots + ms) Q (F0 m (pc + 3) ls (.int r :: rest))) : W p l e R s m args below meth c H locs cells slots Q (F0 m pc ls st0) := by
  refine va_calli hr hS (fun q _ h => fr_all hD hS hA q h) (fr_all hD hS hA) (fun r u t H1 locs1 ht hvm hw hB hz1 hk1 hS1 => ?_)
  obtain ⟨hP1, hD1⟩ := hB
  rw [ht] at hP1
  exact kk r u H1 locs1 hw hP1 (hD1.weaken (fun _ _ _ h => fr_all hD hS hA _ h)) hS1
theorem va_RA.one {U : State} {c1 c2 : ClassId} {ty : FieldType} (h1 : va_RA U c1 ty) (h2 : va_RA U c2 ty) : c1 = c2 := by
  cases ty <;> first | exact Option.some.inj (h1.symm.trans h2) | (obtain ⟨_, _, _, _, _, e1⟩ := h1; obtain ⟨_, _, _, _, _, e2⟩ := h2; exact Option.some.inj (e1.symm.trans e2))
/-- a new row, of the class that the tables name -/
theorem jI_newa {D : va_G} {cl : List vw_C} {tys : List (ClassId × FieldType)} {ws : va_W} (hexec : p.tables.exec = Jvm.exec) (hb : c.code = cc) {atype : ArrayType} (harr : (Cond.arrayClass (newarray.typeOf atype)).before args s = true) {ty : FieldType} (hty : newarray.typeOf atype = ty) (hK : va_K D cl tys s) (t0 : Nat) {cA : ClassId} (ht : tys[t0]? = some (cA, ty)) (hP : va_P D cl ws H) (hD : va_D A ws) (hS : va_S A H0 H locs) (hA : ∀ q, H0.size ≤ q → A q)
    {n : Int32} {N' : Nat} {a0 : vp_A} (ha : ∀ cA : ClassId, vp_cell cA a0 = arrV cA N' (fun _ => defaultValue ty)) (hn : ¬ n < 0) (hN : n.toNatClampNeg = N') (hbytes : N' * componentBytes ty ≤ 536870912) (hcells : cells + 1 ≤ R.cells) (hslots : slots + N' ≤ R.slots) (hdg : decode cc pc = .ok (.newarray atype, 2))
    (kk : ∀ (q : Nat) (H1 : Heap), va_P D cl (ws ++ [(q, .inl (cA, a0))]) H1 → va_D A (ws ++ [(q, .inl (cA, a0))]) → va_S A H0 H1 locs →
      W p l e R s m args below meth c H1 locs (cells + 1) (slots + N') Q (F0 m (pc + 2) ls (.ref q :: rest))) : W p l e R s m args below meth c H locs cells slots Q (F0 m pc ls (.int n :: rest)) := by
  refine va_newa hexec hb harr hty hK hP hD hS hA ha hn hN hbytes hcells hslots hdg (fun q cB H1 hK1 hP1 hD1 hS1 => ?_)
  have e : cB = cA := va_RA.one (hK1.2 tys.length (cB, ty) (by rw [List.getElem?_append_right (Nat.le_refl _), Nat.sub_self]; rfl)).2 (hK.2 t0 _ ht).2
  subst e
  exact kk q H1 hP1 hD1 hS1
end JIC
/-- a new object and the rows that its constructor made go behind the tail -/
theorem pP_in0 {D : va_G} {cl : List vw_C} {x a : Nat × va_E} {T : va_W} {H : Heap} (h : va_P D cl (x :: (a :: T)) H) : va_P D cl (a :: (T ++ [x])) H := pP_blk (X := [x]) (Y := a :: T) (Z := []) (by rw [List.append_nil]; exact h)
theorem dD_in0 {A : Nat → Prop} {x a : Nat × va_E} {T : va_W} (h : va_D A (x :: (a :: T))) : va_D A (a :: (T ++ [x])) := dD_blk (X := [x]) (Y := a :: T) (Z := []) (by rw [List.append_nil]; exact h)
theorem pP_in1 {D : va_G} {cl : List vw_C} {x a : Nat × va_E} {T P1 : va_W} {H : Heap} (h : va_P D cl (x :: (a :: (T ++ P1))) H) : va_P D cl (a :: (T ++ (x :: P1))) H := pP_blk (X := [x]) (Y := a :: T) (Z := P1) h
theorem dD_in1 {A : Nat → Prop} {x a : Nat × va_E} {T P1 : va_W} (h : va_D A (x :: (a :: (T ++ P1)))) : va_D A (a :: (T ++ (x :: P1))) := dD_blk (X := [x]) (Y := a :: T) (Z := P1) h
theorem ap_in2 {T P1 P2 : va_W} : ((T ++ P1) ++ P2) = T ++ (P1 ++ P2) := by simp only [List.append_assoc]
theorem pP_in2 {D : va_G} {cl : List vw_C} {x a : Nat × va_E} {T P1 P2 : va_W} {H : Heap} (h : va_P D cl (x :: (a :: ((T ++ P1) ++ P2))) H) : va_P D cl (a :: (T ++ (x :: (P1 ++ P2)))) H := by
  rw [ap_in2] at h
  exact pP_in1 h
theorem dD_in2 {A : Nat → Prop} {x a : Nat × va_E} {T P1 P2 : va_W} (h : va_D A (x :: (a :: ((T ++ P1) ++ P2)))) : va_D A (a :: (T ++ (x :: (P1 ++ P2)))) := by
  rw [ap_in2] at h
  exact dD_in1 h
theorem ap_in3 {T P1 P2 P3 : va_W} : (((T ++ P1) ++ P2) ++ P3) = T ++ (P1 ++ (P2 ++ P3)) := by simp only [List.append_assoc]
theorem pP_in3 {D : va_G} {cl : List vw_C} {x a : Nat × va_E} {T P1 P2 P3 : va_W} {H : Heap} (h : va_P D cl (x :: (a :: (((T ++ P1) ++ P2) ++ P3))) H) : va_P D cl (a :: (T ++ (x :: (P1 ++ (P2 ++ P3))))) H := by
  rw [ap_in3] at h
  exact pP_in1 h
theorem dD_in3 {A : Nat → Prop} {x a : Nat × va_E} {T P1 P2 P3 : va_W} (h : va_D A (x :: (a :: (((T ++ P1) ++ P2) ++ P3)))) : va_D A (a :: (T ++ (x :: (P1 ++ (P2 ++ P3))))) := by
  rw [ap_in3] at h
  exact dD_in1 h
theorem ap_in4 {T P1 P2 P3 P4 : va_W} : ((((T ++ P1) ++ P2) ++ P3) ++ P4) = T ++ (P1 ++ (P2 ++ (P3 ++ P4))) := by simp only [List.append_assoc]
theorem pP_in4 {D : va_G} {cl : List vw_C} {x a : Nat × va_E} {T P1 P2 P3 P4 : va_W} {H : Heap} (h : va_P D cl (x :: (a :: ((((T ++ P1) ++ P2) ++ P3) ++ P4))) H) : va_P D cl (a :: (T ++ (x :: (P1 ++ (P2 ++ (P3 ++ P4)))))) H := by
  rw [ap_in4] at h
  exact pP_in1 h
theorem dD_in4 {A : Nat → Prop} {x a : Nat × va_E} {T P1 P2 P3 P4 : va_W} (h : va_D A (x :: (a :: ((((T ++ P1) ++ P2) ++ P3) ++ P4)))) : va_D A (a :: (T ++ (x :: (P1 ++ (P2 ++ (P3 ++ P4)))))) := by
  rw [ap_in4] at h
  exact dD_in1 h
theorem ap_in5 {T P1 P2 P3 P4 P5 : va_W} : (((((T ++ P1) ++ P2) ++ P3) ++ P4) ++ P5) = T ++ (P1 ++ (P2 ++ (P3 ++ (P4 ++ P5)))) := by simp only [List.append_assoc]
theorem pP_in5 {D : va_G} {cl : List vw_C} {x a : Nat × va_E} {T P1 P2 P3 P4 P5 : va_W} {H : Heap} (h : va_P D cl (x :: (a :: (((((T ++ P1) ++ P2) ++ P3) ++ P4) ++ P5))) H) : va_P D cl (a :: (T ++ (x :: (P1 ++ (P2 ++ (P3 ++ (P4 ++ P5))))))) H := by
  rw [ap_in5] at h
  exact pP_in1 h
theorem dD_in5 {A : Nat → Prop} {x a : Nat × va_E} {T P1 P2 P3 P4 P5 : va_W} (h : va_D A (x :: (a :: (((((T ++ P1) ++ P2) ++ P3) ++ P4) ++ P5)))) : va_D A (a :: (T ++ (x :: (P1 ++ (P2 ++ (P3 ++ (P4 ++ P5))))))) := by
  rw [ap_in5] at h
  exact dD_in1 h
