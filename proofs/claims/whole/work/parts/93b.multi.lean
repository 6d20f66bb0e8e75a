/-! ===== eight new rows of 58 ints, and the row of them ===== -/
/-- the row of rows when i of them stand -/
def jmR (h0 i : Nat) : Nat → Value := fun j => if j < i then .ref (h0 + 1 + j) else .null
abbrev jmI (cI : ClassId) : Cell := arrV cI 58 (fun _ => .int 0)
theorem jmR_0 (h0 : Nat) : jmR h0 0 = fun _ => .null := funext fun j => if_neg (Nat.not_lt_zero j)
theorem jmR_s (h0 i : Nat) : updV (jmR h0 i) i (.ref (h0 + 1 + i)) = jmR h0 (i + 1) := by
  funext j
  unfold updV jmR
  by_cases e : j = i
  · subst e; rw [if_pos rfl, if_pos (Nat.lt_succ_self _)]
  · rw [if_neg e]
    by_cases z : j < i
    · rw [if_pos z, if_pos (by omega)]
    · rw [if_neg z, if_neg (by omega)]
/-- the state when i rows stand -/
def jmS (T : State) (cO cI : ClassId) : Nat → State
  | 0 => T.pushCell (arrV cO 8 (jmR T.heap.size 0))
  | i + 1 => ((jmS T cO cI i).pushCell (jmI cI)).setCell T.heap.size (arrV cO 8 (jmR T.heap.size (i + 1)))
theorem jm_slots (cI : ClassId) (n : Nat) (f : Nat → Value) : (arrV cI n f).slots.size = n := arrV_size cI n f
theorem jmS_at (T : State) (cO cI : ClassId) : ∀ i, (jmS T cO cI i).heap.size = T.heap.size + 1 + i ∧ (jmS T cO cI i).heap[T.heap.size]? = some (arrV cO 8 (jmR T.heap.size i)) ∧ (jmS T cO cI i).vm = T.vm ∧ (jmS T cO cI i).slotsUsed = T.slotsUsed + 8 + i * 58 ∧ (∀ a : Nat, a < T.heap.size → (jmS T cO cI i).heap[a]? = T.heap[a]?) ∧ ∀ j, j < i → (jmS T cO cI i).heap[T.heap.size + 1 + j]? = some (jmI cI)
  | 0 => ⟨by simp [jmS], by simp [jmS], rfl, by simp [jmS, jm_slots], fun a ha => State.heap_pushCell_of_lt _ _ ha, fun j hj => absurd hj (Nat.not_lt_zero _)⟩
  | i + 1 => by
    obtain ⟨h1, h2, h3, h4, h5, h6⟩ := jmS_at T cO cI i
    have hlt : T.heap.size < (jmS T cO cI i).heap.size := by omega
    have hc : ((jmS T cO cI i).pushCell (jmI cI)).heap[T.heap.size]? = some (arrV cO 8 (jmR T.heap.size i)) := by rw [State.heap_pushCell_of_lt (h := hlt)]; exact h2
    refine ⟨?_, State.heap_setCell_self hc, by simp [jmS, h3], ?_, fun a ha => ?_, fun j hj => ?_⟩
    · simp [jmS, State.setCell, h1]; omega
    · simp [jmS, h4, jm_slots, Nat.succ_mul]; omega
    · show (((jmS T cO cI i).pushCell (jmI cI)).setCell T.heap.size _).heap[a]? = _
      rw [State.heap_setCell_other (Nat.ne_of_gt ha), State.heap_pushCell_of_lt (h := Nat.lt_trans ha hlt)]
      exact h5 a ha
    · show (((jmS T cO cI i).pushCell (jmI cI)).setCell T.heap.size _).heap[T.heap.size + 1 + j]? = _
      rw [State.heap_setCell_other (show T.heap.size ≠ T.heap.size + 1 + j by omega)]
      rcases Nat.lt_or_ge j i with z | z
      · rw [State.heap_pushCell_of_lt (h := show T.heap.size + 1 + j < (jmS T cO cI i).heap.size by omega)]
        exact h6 j z
      · rw [show T.heap.size + 1 + j = (jmS T cO cI i).heap.size by omega]
        exact State.heap_pushCell_size _ _
theorem jmS_top (T : State) (f : JFrame) (cO cI : ClassId) : ∀ i, jmS (T.setTop f) cO cI i = (jmS T cO cI i).setTop f
  | 0 => rfl
  | i + 1 => by simp only [jmS, jmS_top T f cO cI i, State.heap_setTop, State.pushCell_setTop, State.setCell_setTop]
section JMW
variable {E : CtlPost} {e : Env} {d : Bool} {acts : List Action} {s : State}
/-- a new array of default values -/
theorem jm_newArray {cA comp : ClassId} {k : Class} {type : FieldType} {len : Nat} {init : Value} (hk : s.vm.classes[cA]? = some k) (hkind : k.kind = .array comp type)
    (hlim : ¬ len > e.platform.arrayLengthLimit) (hheap : ¬ len * componentBytes type > e.platform.maxHeapBytes) (hfit : fits type init = true) (hdef : init.isDefault = true) {Q : Addr → Pre}
    (h1 : s.heap.size < e.platform.maxCells) (h2 : s.slotsUsed + len ≤ e.platform.maxSlots) (hq : Q s.heap.size d acts (s.pushCell (arrV cA len (fun _ => init)))) : wp (Jvm.newArray cA len init) Q E e d acts s := by
  have hf : ∀ i v, (Array.replicate len init)[i]? = some v → s.fitsSlot cA .none i v = true := by
    intro i v hv
    rw [Array.getElem?_replicate] at hv
    split at hv
    · cases hv; simp [State.fitsSlot, State.slotType?, hk, hkind, hfit]
    · cases hv
  have hacts : allocActs (Array.replicate len init) s.heap.size acts = acts := by
    have : ((Array.replicate len init).all (·.isDefault)) = true := by
      rw [Array.all_replicate]; split <;> simp [hdef]
    unfold allocActs
    rw [if_pos this]
  rw [← arrV_new] at hq
  simp only [Jvm.newArray, Jvm.arrayFits, wp_bind', W.ask, W.ite, hlim, if_false, wp_pure', W.theClass, hk, hkind, hheap, W.alloc, W.stop, Option.some.injEq, exists_eq_left', Array.size_replicate, hacts]
  rw [if_neg (by omega)]
  exact ⟨h1, h2, hf, hq⟩
theorem jm_make {cO cI c2 : ClassId} {kO kI : Class} (hkO : s.vm.classes[cO]? = some kO) (hO : kO.kind = .array cI (.array .int)) (hkI : s.vm.classes[cI]? = some kI) (hI : kI.kind = .array c2 .int)
    (hlim : ¬ 58 > e.platform.arrayLengthLimit) (hheap : ¬ 232 > e.platform.maxHeapBytes) (hc : s.heap.size + 9 ≤ e.platform.maxCells) (hs : s.slotsUsed + 472 ≤ e.platform.maxSlots)
    {Q : Addr → Pre} (hq : ∀ d' acts', Q s.heap.size d' acts' (jmS s cO cI 8)) : wp (multianewarray.make cO [8, 58]) Q E e d acts s := by
  have n8 : (8 : Int32).toNatClampNeg = 8 := by decide
  have n58 : (58 : Int32).toNatClampNeg = 58 := by decide
  have hfind : (([58] : List Int32).find? (· < 0)) = none := by decide
  rw [multianewarray.make]
  simp only [wp_bind', W.ite, show ¬ ((8 : Int32) < 0) by decide, if_false, wp_pure', W.theClass, hkO, hO, Option.some.injEq, exists_eq_left', n8]
  refine jm_newArray hkO hO (by omega) (by show ¬ 8 * 4 > _; omega) rfl rfl (by omega) (by omega) ?_
  simp only [hfind]
  rw [ite_self, wp_bind', Std.Legacy.Range.forIn_eq_forIn_range']
  have hsz : ([:8] : Std.Legacy.Range).size = 8 := by decide
  rw [hsz]
  show wp (forIn (List.range' 0 8 1) PUnit.unit _) _ E e d acts _
  refine wp_forIn_inv (fun rest s' => ∃ i, i ≤ 8 ∧ rest = List.range' i (8 - i) ∧ s' = jmS s cO cI i) _ _ ⟨0, Nat.zero_le _, rfl, by rw [jmS, jmR_0]⟩ ?_ ?_
  · rintro x rest s' d' acts' Q' ⟨i, hi, hl, rfl⟩ hnext
    have hlt : i < 8 := by
      rcases Nat.lt_or_ge i 8 with z | z
      · exact z
      · rw [show 8 - i = 0 by omega] at hl; simp at hl
    obtain ⟨rfl, hrest⟩ : x = i ∧ rest = List.range' (i + 1) (8 - (i + 1)) := by
      rw [show 8 - i = (8 - (i + 1)) + 1 by omega, List.range'_succ] at hl
      exact ⟨(List.cons.inj hl).1, (List.cons.inj hl).2⟩
    obtain ⟨f1, f2, f3, f4, f5, f6⟩ := jmS_at s cO cI x
    simp only [wp_bind']
    rw [multianewarray.make]
    simp only [wp_bind', W.ite, show ¬ ((58 : Int32) < 0) by decide, if_false, wp_pure', W.theClass, f3, hkI, hI, Option.some.injEq, exists_eq_left', n58]
    refine jm_newArray (by rw [f3]; exact hkI) hI hlim (by show ¬ 58 * 4 > _; omega) rfl rfl (by omega) (by omega) ?_
    have hlt0 : s.heap.size < (jmS s cO cI x).heap.size := by omega
    simp only [wp_bind', W.writeLoc, wp_pure']
    refine ⟨arrV cO 8 (jmR s.heap.size x), by rw [State.heap_pushCell_of_lt (h := hlt0)]; exact f2, nofun, by rw [arrV_size]; exact hlt, ?_, hnext _ _ _ ⟨x + 1, hlt, hrest, ?_⟩⟩
    · show State.fitsSlot _ cO .none x _ = true
      simp [State.fitsSlot, State.slotType?, f3, hkO, hO, fits]
    · rw [f1, arrV_store, jmR_s]; rfl
  · rintro s' d' acts' ⟨i, hi, hl, rfl⟩
    have e8 : i = 8 := by
      rcases Nat.lt_or_ge i 8 with z | z
      · rw [show 8 - i = (8 - (i + 1)) + 1 by omega, List.range'_succ] at hl; cases hl
      · omega
    subst e8
    simp only [wp_pure']
    exact hq _ _
end JMW
section JMS
variable {p : Program} {l : Launch} {e : Env} {R : Room} {s : State} {m : MethodId} {args : Array Value} {below : List Frame} {meth : Method} {c : Code} {T : State} {locs : List Loc} {cells slots : Nat}
theorem jm_stand (X : Stand p l e R s m args below meth c T locs cells slots) (cO cI : ClassId) : ∀ i, Stand p l e R s m args below meth c (jmS T cO cI i) (locs ++ (List.range i).map fun j => ⟨T.heap.size, j⟩) (cells + 1 + i) (slots + 8 + i * 58)
  | 0 => by
    have h := X.pushed (arrV cO 8 (jmR T.heap.size 0))
    rw [arrV_size] at h
    simpa [jmS] using h
  | i + 1 => by
    have Xi := jm_stand X cO cI i
    obtain ⟨f1, f2, -, -, -, -⟩ := jmS_at T cO cI i
    have hc : ((jmS T cO cI i).pushCell (jmI cI)).heap[T.heap.size]? = some (arrV cO 8 (jmR T.heap.size i)) := by rw [State.heap_pushCell_of_lt (h := show T.heap.size < (jmS T cO cI i).heap.size by omega)]; exact f2
    have h := (Xi.pushed (jmI cI)).stored hc i (.ref (T.heap.size + 1 + i))
    rw [arrV_size, arrV_store, jmR_s] at h
    have e2 : (locs ++ (List.range (i + 1)).map fun j => (⟨T.heap.size, j⟩ : Loc)) = (locs ++ (List.range i).map fun j => (⟨T.heap.size, j⟩ : Loc)) ++ [⟨T.heap.size, i⟩] := by simp [List.range_succ, List.append_assoc]
    rw [e2, show slots + 8 + (i + 1) * 58 = slots + 8 + i * 58 + 58 by omega]
    exact h
end JMS
section JMN
variable {p : Program} {l : Launch} {e : Env} {R : Room} {s : State} {m : MethodId} {args : Array Value} {below : List Frame} {meth : Method} {c : Code} {H H0 : Heap} {locs : List Loc} {cells slots : Nat} {Q : State → Prop}
variable {cc : ByteArray} {pc : Nat} {ls : Array Slot} {rest : List Value} {A : Nat → Prop} {D : va_G} {cl : List vw_C} {tys : List (ClassId × FieldType)} {ws : va_W}
abbrev jmW (cO cI : ClassId) (q : Nat) : va_W := [(q, .inl (cO, 8, .inr (.inr (.inr (.inr (fun i => if i < 8 then some (q + 1 + i) else none)))))), (q + 1 + 0, .inl (cI, 58, .inl (fun _ => nI 0))), (q + 1 + 1, .inl (cI, 58, .inl (fun _ => nI 0))), (q + 1 + 2, .inl (cI, 58, .inl (fun _ => nI 0))), (q + 1 + 3, .inl (cI, 58, .inl (fun _ => nI 0))), (q + 1 + 4, .inl (cI, 58, .inl (fun _ => nI 0))), (q + 1 + 5, .inl (cI, 58, .inl (fun _ => nI 0))), (q + 1 + 6, .inl (cI, 58, .inl (fun _ => nI 0))), (q + 1 + 7, .inl (cI, 58, .inl (fun _ => nI 0)))]
theorem jmW_at {cO cI : ClassId} {q : Nat} : ∀ (k : Nat) (x : Nat × va_E), (jmW cO cI q)[k]? = some x → x.1 = q + k
  | 0, x, h => by cases h; rfl
  | 1, x, h => by cases h; rfl
  | 2, x, h => by cases h; rfl
  | 3, x, h => by cases h; rfl
  | 4, x, h => by cases h; rfl
  | 5, x, h => by cases h; rfl
  | 6, x, h => by cases h; rfl
  | 7, x, h => by cases h; rfl
  | 8, x, h => by cases h; rfl
  | k + 9, x, h => by cases h
theorem jm_out (cO : ClassId) (h0 : Nat) : arrV cO 8 (jmR h0 8) = vp_cell cO (8, .inr (.inr (.inr (.inr (fun i => if i < 8 then some (h0 + 1 + i) else none))))) := by
  rw [vp_cell_q]
  refine congrArg (arrV cO 8) (funext fun j => ?_)
  unfold jmR
  by_cases z : j < 8
  · rw [if_pos z, if_pos z]; rfl
  · rw [if_neg z, if_neg z]; rfl
theorem jm_in (cI : ClassId) : jmI cI = vp_cell cI (58, .inl (fun _ => nI 0)) := rfl
theorem jm_P {G : Heap} {cO cI : ClassId} {h0 : Nat} (hP : va_P D cl ws H) (h9 : ∀ (k : Nat) (x : Nat × va_E), ws[k]? = some x → G[x.1]? = H[x.1]?) (f2 : G[h0]? = some (arrV cO 8 (jmR h0 8))) (f6 : ∀ j, j < 8 → G[h0 + 1 + j]? = some (jmI cI)) : va_P D cl (ws ++ jmW cO cI h0) G := by
  refine (hP.kept h9).app (fun k x hx => ?_)
  rw [jm_out] at f2
  rw [jm_in] at f6
  match k, hx with
  | 0, hx => cases hx; exact f2
  | 1, hx => cases hx; exact f6 0 (by decide)
  | 2, hx => cases hx; exact f6 1 (by decide)
  | 3, hx => cases hx; exact f6 2 (by decide)
  | 4, hx => cases hx; exact f6 3 (by decide)
  | 5, hx => cases hx; exact f6 4 (by decide)
  | 6, hx => cases hx; exact f6 5 (by decide)
  | 7, hx => cases hx; exact f6 6 (by decide)
  | 8, hx => cases hx; exact f6 7 (by decide)
  | k + 9, hx => cases hx
theorem jm_D {cO cI : ClassId} {h0 : Nat} (hD : va_D A ws) (old : ∀ (k : Nat) (x : Nat × va_E), ws[k]? = some x → x.1 < h0) (hA : ∀ q, h0 ≤ q → A q) : va_D A (ws ++ jmW cO cI h0) := by
  have cases2 : ∀ (k : Nat) (x : Nat × va_E), (ws ++ jmW cO cI h0)[k]? = some x → (k < ws.length ∧ ws[k]? = some x) ∨ (ws.length ≤ k ∧ x.1 = h0 + (k - ws.length)) := by
    intro k x hx
    rcases Nat.lt_or_ge k ws.length with z | z
    · rw [List.getElem?_append_left z] at hx; exact Or.inl ⟨z, hx⟩
    · rw [List.getElem?_append_right z] at hx; exact Or.inr ⟨z, jmW_at _ _ hx⟩
  refine ⟨fun i j x y hi hj he => ?_, fun k x hx => ?_⟩
  · rcases cases2 i x hi with ⟨a1, a2⟩ | ⟨a1, a2⟩ <;> rcases cases2 j y hj with ⟨b1, b2⟩ | ⟨b1, b2⟩
    · exact hD.1 i j x y a2 b2 he
    · have := old i x a2; omega
    · have := old j y b2; omega
    · omega
  · rcases cases2 k x hx with ⟨a1, a2⟩ | ⟨a1, a2⟩
    · exact hD.2 k x a2
    · exact hA _ (by omega)
theorem jm_new (hexec : p.tables.exec = Jvm.exec) (hb : c.code = cc) {own : String} {index : Nat} (hown : s.vm.findClass own = some m.cls) (hlink : (Cond.classLink own index "[[I").before args s = true) (hM : KM s) (hK : va_K D cl tys s) {cO cI : ClassId} (h3 : tys[3]? = some (cO, .array .int)) (h0 : tys[0]? = some (cI, .int)) (hP : va_P D cl ws H) (hD : va_D A ws) (hS : va_S A H0 H locs) (hA : ∀ q, H0.size ≤ q → A q)
    (hcells : cells + 9 ≤ R.cells) (hslots : slots + 472 ≤ R.slots) (hdg : decode cc pc = .ok (.multianewarray index 2, 4))
    (kk : ∀ (q : Nat) (H1 : Heap) (locs1 : List Loc), va_P D cl (ws ++ jmW cO cI q) H1 → va_D A (ws ++ jmW cO cI q) → va_S A H0 H1 locs1 → W p l e R s m args below meth c H1 locs1 (cells + 9) (slots + 472) Q (F0 m (pc + 4) ls (.ref q :: rest))) :
    W p l e R s m args below meth c H locs cells slots Q (F0 m pc ls (.int (nI 58) :: .int (nI 8) :: rest)) := by
  intro T hT X
  subst hT
  obtain ⟨cO', cI', c2, kO, kI, g1, g2, g3, g4, g5, g6⟩ := hM
  have eO : cO' = cO := Option.some.inj (g1.symm.trans (hK.2 3 _ h3).2)
  have eI : cI' = cI := Option.some.inj (g2.symm.trans (hK.2 0 _ h0).2)
  subst eO; subst eI
  have hpl : e.platform.magicAccessors = ({} : Platform).magicAccessors := by rw [X.admits.platform]
  obtain ⟨c0, hfc0, hcl⟩ := Cond.classLink_spec hown hlink e.platform hpl
  cases g1.symm.trans hfc0
  obtain ⟨hg₁, hwarm₁, hready₁⟩ := State.classEntry (e := e) X.warmed hcl
  generalize T.vm.noted m.cls index (.cls cO') = vm₁ at hg₁ hwarm₁ hready₁
  have hal : s.vm.Alike vm₁ := hwarm₁.alike
  obtain ⟨kO₁, hkO₁, heO⟩ := hal.2.2 _ _ g3
  obtain ⟨kI₁, hkI₁, heI⟩ := hal.2.2 _ _ g5
  have X₁ := X.noted hwarm₁
  have XF := jm_stand X₁ cO' cI' 8
  obtain ⟨hr1, hr2⟩ := X.roomAbove hcells hslots
  obtain ⟨f1, f2, f3, f4, f5, f6⟩ := jmS_at (T.setVm vm₁) cO' cI' 8
  have hsz : (T.setVm vm₁).heap.size = T.heap.size := rfl
  rw [hsz] at f1 f2 f5 f6
  have h9 : ∀ (k : Nat) (x : Nat × va_E), ws[k]? = some x → (jmS (T.setVm vm₁) cO' cI' 8).heap[x.1]? = T.heap[x.1]? := fun k x hx => f5 x.1 ((hP k x hx).lt)
  have hP1 : va_P D cl (ws ++ jmW cO' cI' T.heap.size) (jmS (T.setVm vm₁) cO' cI' 8).heap := jm_P hP h9 f2 f6
  have hD1 : va_D A (ws ++ jmW cO' cI' T.heap.size) := jm_D hD (fun k x hx => (hP k x hx).lt) (fun q hq => hA q (Nat.le_trans hS.1 hq))
  have hS1 : va_S A H0 (jmS (T.setVm vm₁) cO' cI' 8).heap (locs ++ (List.range 8).map fun j => ⟨T.heap.size, j⟩) := by
    refine ⟨by have := hS.1; omega, fun q h1 h2 => (f5 q (Nat.lt_of_lt_of_le h1 hS.1)).trans (hS.2.1 q h1 h2), fun x hx => ?_⟩
    rcases List.mem_append.mp hx with z | z
    · exact hS.2.2 x z
    · obtain ⟨j, -, rfl⟩ := List.mem_map.mp z
      exact hA _ hS.1
  obtain ⟨t, a1, b1⟩ := kk T.heap.size _ _ hP1 hD1 hS1 _ rfl XF
  refine ⟨t, ?_, b1⟩
  have hlim : ¬ 58 > e.platform.arrayLengthLimit := by rw [Launch.admits_arrayLengthLimit X.admits]; decide
  have hheap : ¬ 232 > e.platform.maxHeapBytes := by rw [Launch.admits_maxHeapBytes X.admits]; decide
  have hdg' : decode c.code (F0 m pc ls (.int (nI 58) :: .int (nI 8) :: rest)).pc = .ok (.multianewarray index 2, 4) := by rw [hb]; exact hdg
  generalize hg : F0 m pc ls (.int (nI 58) :: .int (nI 8) :: rest) = g at hdg' ⊢
  have hgm : g.method = m := by rw [← hg]
  have hstack : g.stack = .int 58 :: .int 8 :: rest := by rw [← hg]; rfl
  have hpc : ({ g with pc := g.pc + 4, stack := .ref T.heap.size :: rest } : JFrame) = F0 m (pc + 4) ls (.ref T.heap.size :: rest) := by rw [← hg]
  rw [← hpc] at a1
  subst hgm
  jvm_step X.here [hexec, hdg']
  simp only [multianewarray.sem, wp_bind', W.resolveClassAt_links (State.method?_setTop g X.here.top) hg₁]
  rw [W.popN, if_neg (by decide)]
  refine ⟨g, State.topJava?_setTop' (s := T.setVm vm₁) g X.here.top, [.int 8, .int 58], rest, rfl, hstack, ?_⟩
  simp only [List.mapM_cons, List.mapM_nil, wp_bind', wp_pure']
  refine jm_make (kO := kO₁) (kI := kI₁) (cI := cI') (c2 := c2) hkO₁ (by rw [heO]; exact g4) hkI₁ (by rw [heI]; exact g6) hlim hheap (by show T.heap.size + 9 ≤ _; omega) (by show T.slotsUsed + 472 ≤ _; omega) (fun d' acts' => ?_)
  have eS : ((T.setTop g).setVm vm₁).setTop { g with stack := rest } = (T.setVm vm₁).setTop { g with stack := rest } := by
    show ((T.setVm vm₁).setTop g).setTop _ = _
    rw [State.setTop_setTop]
  rw [eS, jmS_top]
  simp only [wp_bind', W.mark, W.pushRef, State.topJava?_setTop' _ XF.here.top, Option.some.injEq, exists_eq_left', State.setTop_setTop, State.heap_setTop]
  intro acts
  simp [jvm, XF.here.top]
  exact a1
end JMN
