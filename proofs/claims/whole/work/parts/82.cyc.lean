/-! ===== simple cycles, both ways ===== -/
/-- a closed walk to b over the states that S allows -/
def wk (T : Nat → Nat) (b : Nat) : Nat → Nat → (Nat → Prop) → Nat → Nat → Prop
  | 0, _, _, _, _ => False
  | k + 1, q, S, cd, x => ∃ l, l < 3 ∧ (((T (q * 3 + l)).testBit b = true ∧ x = cd + wt l) ∨ ∃ to, to < 5 ∧ S to ∧ (T (q * 3 + l)).testBit to = true ∧ wk T b k to (fun t => S t ∧ t ≠ to) (cd + wt l) x)
theorem wk_mono {T : Nat → Nat} {b : Nat} : ∀ k q (S S2 : Nat → Prop) cd x, (∀ t, t < 5 → S t → S2 t) → wk T b k q S cd x → wk T b k q S2 cd x
  | 0, _, _, _, _, _, _, h => h
  | k + 1, q, S, S2, cd, x, hs, h => by
    obtain ⟨l, hl, h | ⟨to, h1, h2, h3, h4⟩⟩ := h
    · exact ⟨l, hl, Or.inl h⟩
    · exact ⟨l, hl, Or.inr ⟨to, h1, hs to h1 h2, h3, wk_mono k to _ _ _ _ (fun t ht w => ⟨hs t ht w.1, w.2⟩) h4⟩⟩
theorem wk_iff {T : Nat → Nat} {b k q cd x : Nat} {S S2 : Nat → Prop} (h : ∀ t, t < 5 → (S t ↔ S2 t)) : wk T b k q S cd x ↔ wk T b k q S2 cd x :=
  ⟨wk_mono k q S S2 cd x (fun t ht => (h t ht).mp), wk_mono k q S2 S cd x (fun t ht => (h t ht).mpr)⟩
theorem clr_bit : ∀ to, to < 5 → ∀ t, t < 5 → (2 ^ to ^^^ 4294967295).testBit t = decide (t ≠ to) := by decide +kernel
theorem hi_bit : ∀ e, e < 5 → ∀ t, t < 5 → e < t → (4294967296 - 2 ^ (e + 1)).testBit t = true := by decide +kernel
theorem cyW_wk {T : Nat → Nat} {st : Nat} : ∀ k q fr cd x, cyW T st k q fr cd x ↔ wk T st k q (fun t => st < t ∧ fr.testBit t = true) cd x
  | 0, _, _, _, _ => Iff.rfl
  | k + 1, q, fr, cd, x => by
    have key : ∀ to, to < 5 → ∀ cd, (cyW T st k to (fr &&& (2 ^ to ^^^ 4294967295)) cd x ↔ wk T st k to (fun t => (st < t ∧ fr.testBit t = true) ∧ t ≠ to) cd x) := by
      intro to hto cd
      rw [cyW_wk k]
      refine wk_iff (fun t ht => ?_)
      rw [Nat.testBit_and, clr_bit to hto t ht, Bool.and_eq_true, decide_eq_true_iff, and_assoc]
    constructor
    · rintro ⟨l, hl, h | ⟨to, h1, h2, h3, h4, h5⟩⟩
      · exact ⟨l, hl, Or.inl h⟩
      · exact ⟨l, hl, Or.inr ⟨to, h2, ⟨h1, h4⟩, h3, (key to h2 _).mp h5⟩⟩
    · rintro ⟨l, hl, h | ⟨to, h1, h2, h3, h4⟩⟩
      · exact ⟨l, hl, Or.inl h⟩
      · exact ⟨l, hl, Or.inr ⟨to, h2.1, h1, h3, h2.2, (key to h1 _).mpr h4⟩⟩
theorem grW_wk {T : Nat → Nat} {U b : Nat} (hb : b < 5) (hU : U.testBit b = true) : ∀ k q mt cd x, grW T U b k q mt cd x ↔ wk T b k q (fun t => t ≠ b ∧ U.testBit t = true ∧ ¬ mt.testBit t = true) cd x
  | 0, _, _, _, _ => Iff.rfl
  | k + 1, q, mt, cd, x => by
    have key : ∀ to cd, (grW T U b k to (mt ||| 2 ^ to) cd x ↔ wk T b k to (fun t => (t ≠ b ∧ U.testBit t = true ∧ ¬ mt.testBit t = true) ∧ t ≠ to) cd x) := by
      intro to cd
      rw [grW_wk hb hU k]
      refine wk_iff (fun t ht => ?_)
      rw [or_bit, Bool.or_eq_true, decide_eq_true_iff]
      constructor
      · rintro ⟨h1, h2, h3⟩; exact ⟨⟨h1, h2, fun w => h3 (Or.inl w)⟩, fun w => h3 (Or.inr w)⟩
      · rintro ⟨⟨h1, h2, h3⟩, h4⟩; exact ⟨h1, h2, fun w => w.elim h3 h4⟩
    constructor
    · rintro ⟨l, hl, to, h1, h2, h | ⟨h3, h4, h5⟩⟩
      · rw [Nat.testBit_and, Bool.and_eq_true] at h2
        rw [h.1] at h2
        exact ⟨l, hl, Or.inl ⟨h2.1, h.2⟩⟩
      · rw [Nat.testBit_and, Bool.and_eq_true] at h2
        exact ⟨l, hl, Or.inr ⟨to, h1, ⟨h3, h2.2, h4⟩, h2.1, (key to _).mp h5⟩⟩
    · rintro ⟨l, hl, h | ⟨to, h1, h2, h3, h4⟩⟩
      · exact ⟨l, hl, b, hb, by rw [Nat.testBit_and, h.1, hU]; rfl, Or.inl ⟨rfl, h.2⟩⟩
      · exact ⟨l, hl, to, h1, by rw [Nat.testBit_and, h3, h2.2.1]; rfl, Or.inr ⟨h2.1, h2.2.2, (key to _).mpr h4⟩⟩
/-- steps: a letter and the state behind it -/
def pl (T : Nat → Nat) : Nat → List (Nat × Nat) → Nat → Prop
  | q, [], e => q = e
  | q, s :: L, e => s.1 < 3 ∧ (T (q * 3 + s.1)).testBit s.2 = true ∧ pl T s.2 L e
def wsm (L : List (Nat × Nat)) : Nat := (L.map (fun s => wt s.1)).sum
theorem pl_app {T : Nat → Nat} {e f : Nat} {B : List (Nat × Nat)} (hB : pl T e B f) : ∀ (A : List (Nat × Nat)) (q : Nat), pl T q A e → pl T q (A ++ B) f
  | [], q, h => by have h : q = e := h; rw [h]; exact hB
  | s :: A, q, h => ⟨h.1, h.2.1, pl_app hB A s.2 h.2.2⟩
theorem pl_cut {T : Nat → Nat} {f : Nat} {s : Nat × Nat} {B : List (Nat × Nat)} : ∀ (A : List (Nat × Nat)) (q : Nat), pl T q (A ++ s :: B) f → pl T q (A ++ [s]) s.2 ∧ pl T s.2 B f
  | [], q, h => ⟨⟨h.1, h.2.1, rfl⟩, h.2.2⟩
  | a :: A, q, h => by
    have ih := pl_cut A a.2 h.2.2
    exact ⟨⟨h.1, h.2.1, ih.1⟩, ih.2⟩
theorem wsm_app (A B : List (Nat × Nat)) : wsm (A ++ B) = wsm A + wsm B := by unfold wsm; rw [List.map_append, List.sum_append]
theorem wsm_c (s : Nat × Nat) (A : List (Nat × Nat)) : wsm (s :: A) = wt s.1 + wsm A := by unfold wsm; rw [List.map_cons, List.sum_cons]
theorem wk_list {T : Nat → Nat} {b : Nat} : ∀ k q (S : Nat → Prop) cd x, wk T b k q S cd x → ∃ (M : List (Nat × Nat)) (l : Nat), M.length + 1 ≤ k ∧ pl T q (M ++ [(l, b)]) b ∧ (∀ t ∈ M.map Prod.snd, t < 5 ∧ S t) ∧ (M.map Prod.snd).Nodup ∧ x = cd + wsm (M ++ [(l, b)])
  | 0, _, _, _, _, h => h.elim
  | k + 1, q, S, cd, x, h => by
    obtain ⟨l, hl, h | ⟨to, h1, h2, h3, h4⟩⟩ := h
    · exact ⟨[], l, by simp, ⟨hl, h.1, rfl⟩, fun t ht => absurd ht List.not_mem_nil, List.nodup_nil, by rw [h.2]; simp [wsm]⟩
    · obtain ⟨M, l2, g1, g2, g3, g4, g5⟩ := wk_list k to _ _ _ h4
      refine ⟨(l, to) :: M, l2, by simp; omega, ⟨hl, h3, g2⟩, fun t ht => ?_, ?_, ?_⟩
      · rw [List.map_cons, List.mem_cons] at ht
        rcases ht with e | ht
        · rw [e]; exact ⟨h1, h2⟩
        · exact ⟨(g3 t ht).1, (g3 t ht).2.1⟩
      · rw [List.map_cons, List.nodup_cons]
        exact ⟨fun hm => (g3 to hm).2.2 rfl, g4⟩
      · rw [g5, List.cons_append, wsm_c, Nat.add_assoc]
theorem list_wk {T : Nat → Nat} {b l : Nat} : ∀ (M : List (Nat × Nat)) k q (S : Nat → Prop) cd, M.length + 1 ≤ k → pl T q (M ++ [(l, b)]) b → (∀ t ∈ M.map Prod.snd, t < 5 ∧ S t) → (M.map Prod.snd).Nodup → wk T b k q S cd (cd + wsm (M ++ [(l, b)]))
  | _, 0, _, _, _, h, _, _, _ => absurd h (by omega)
  | [], k + 1, q, S, cd, _, hp, _, _ => ⟨l, hp.1, Or.inl ⟨hp.2.1, by simp [wsm]⟩⟩
  | s :: M, k + 1, q, S, cd, hk, hp, hS, hn => by
    rw [List.map_cons, List.nodup_cons] at hn
    have hs := hS s.2 (by simp)
    refine ⟨s.1, hp.1, Or.inr ⟨s.2, hs.1, hs.2, hp.2.1, ?_⟩⟩
    have := list_wk M k s.2 (fun t => S t ∧ t ≠ s.2) (cd + wt s.1) (by simp at hk; omega) hp.2.2 (fun t ht => ⟨(hS t (by rw [List.map_cons]; exact List.mem_cons_of_mem _ ht)).1, (hS t (by rw [List.map_cons]; exact List.mem_cons_of_mem _ ht)).2, fun e => hn.1 (e ▸ ht)⟩) hn.2
    rw [List.cons_append, wsm_c, ← Nat.add_assoc]
    exact this
/-- a list that isn't empty has a least second number -/
theorem min_ex : ∀ L : List (Nat × Nat), L ≠ [] → ∃ s, s ∈ L ∧ ∀ t ∈ L, s.2 ≤ t.2
  | [], h => absurd rfl h
  | [s], _ => ⟨s, by simp, fun t ht => by rw [List.mem_singleton.mp ht]; exact Nat.le_refl _⟩
  | s :: t :: L, _ => by
    obtain ⟨u, h1, h2⟩ := min_ex (t :: L) (by simp)
    rcases Nat.lt_or_ge u.2 s.2 with z | z
    · refine ⟨u, List.mem_cons_of_mem _ h1, fun v hv => ?_⟩
      rcases List.mem_cons.mp hv with e | hv
      · rw [e]; omega
      · exact h2 v hv
    · refine ⟨s, by simp, fun v hv => ?_⟩
      rcases List.mem_cons.mp hv with e | hv
      · rw [e]; exact Nat.le_refl _
      · have := h2 v hv; omega
theorem cyc_eq {T : Nat → Nat} {U x : Nat} : cyA T U 5 x ↔ cyN T U 5 x := by
  constructor
  · rintro ⟨st, h1, h2, h3⟩
    rw [cyW_wk] at h3
    refine ⟨st, h1, h2, (grW_wk h1 h2 5 st (2 ^ st) 0 x).mpr ?_⟩
    refine wk_mono 5 st _ _ 0 x (fun t ht w => ?_) h3
    rw [Nat.testBit_and, Bool.and_eq_true] at w
    exact ⟨by omega, w.2.1, by rw [bit_pow st h1 t ht, decide_eq_true_iff]; omega⟩
  · rintro ⟨q, h1, h2, h3⟩
    rw [grW_wk h1 h2] at h3
    obtain ⟨M, l, g1, g2, g3, g4, g5⟩ := wk_list 5 q _ 0 x h3
    obtain ⟨s, s1, s2⟩ := min_ex (M ++ [(l, q)]) (by simp)
    obtain ⟨A, B, eL⟩ := List.append_of_mem s1
    have hpl := g2
    rw [eL] at hpl
    obtain ⟨c1, c2⟩ := pl_cut A q hpl
    have hnd : ((M ++ [(l, q)]).map Prod.snd).Nodup := by
      rw [List.map_append, List.nodup_append]
      refine ⟨g4, by simp, fun a ha b hb e => ?_⟩
      simp at hb
      exact (g3 a ha).2.1 (e.trans hb)
    have hU : ∀ t ∈ (M ++ [(l, q)]).map Prod.snd, t < 5 ∧ U.testBit t = true := by
      intro t ht
      rw [List.map_append, List.mem_append] at ht
      rcases ht with ht | ht
      · exact ⟨(g3 t ht).1, (g3 t ht).2.2.1⟩
      · simp at ht; rw [ht]; exact ⟨h1, h2⟩
    rw [eL] at hnd hU s2
    have hs : s.2 < 5 ∧ U.testBit s.2 = true := hU s.2 (by simp)
    have hlen : A.length + (B.length + 1) = M.length + 1 := by
      have := congrArg List.length eL
      simp at this; omega
    have hpl2 : pl T s.2 ((B ++ A) ++ [(s.1, s.2)]) s.2 := by
      rw [List.append_assoc]
      exact pl_app c1 B s.2 c2
    have hnd2 : ((B ++ A).map Prod.snd).Nodup ∧ s.2 ∉ (B ++ A).map Prod.snd := by
      rw [List.map_append, List.map_cons, List.nodup_append, List.nodup_cons] at hnd
      obtain ⟨n1, ⟨n2, n3⟩, n4⟩ := hnd
      rw [List.map_append, List.nodup_append]
      refine ⟨⟨n3, n1, fun a ha b hb e => n4 b hb a (List.mem_cons_of_mem _ ha) e.symm⟩, fun hm => ?_⟩
      rcases List.mem_append.mp hm with z | z
      · exact n2 z
      · exact n4 _ z _ List.mem_cons_self rfl
    have hx : x = 0 + wsm ((B ++ A) ++ [(s.1, s.2)]) := by
      rw [g5, eL, wsm_app, wsm_app, wsm_app, wsm_c, wsm_c]
      simp [wsm]; omega
    have hw := list_wk (T := T) (b := s.2) (l := s.1) (B ++ A) 5 s.2 (fun t => s.2 < t ∧ (U &&& (4294967296 - 2 ^ (s.2 + 1))).testBit t = true) 0 (by simp; omega) hpl2 (fun t ht => by
      have hm : t ∈ (A ++ s :: B).map Prod.snd := by
        rw [List.map_append, List.mem_append] at ht
        rw [List.map_append, List.map_cons, List.mem_append, List.mem_cons]
        rcases ht with z | z
        · exact Or.inr (Or.inr z)
        · exact Or.inl z
      have ht5 := hU t hm
      obtain ⟨v, hv, ev⟩ := List.mem_map.mp hm
      have hle := s2 v hv
      have hne : t ≠ s.2 := fun e => hnd2.2 (e ▸ ht)
      have hlt : s.2 < t := by omega
      exact ⟨ht5.1, hlt, by rw [Nat.testBit_and, ht5.2, Bool.true_and]; exact hi_bit s.2 hs.1 t ht5.1 hlt⟩) hnd2.1
    rw [← hx] at hw
    exact ⟨s.2, hs.1, hs.2, (cyW_wk 5 s.2 _ 0 x).mpr hw⟩
