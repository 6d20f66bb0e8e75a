/-! ===== one-way jumping: the circle ===== -/
/-- c letters of the circle Z are still to be looked at -/
def owS (T : Nat → Nat) (q : Nat) (Z : List Nat) (c j ps : Nat) : Nat × Nat × Nat :=
  match c, Z with
  | 0, Z => (q, Z.length, j)
  | _ + 1, [] => (q, 0, j)
  | c + 1, x :: Z => if stp T x q = 0 then owS T q (Z ++ [x]) c j 1 else owS T (stp T x q) Z Z.length (j + ps) 0
termination_by (Z.length, c)
decreasing_by
  · simp only [List.length_append, List.length_cons, List.length_nil]
    exact Prod.Lex.right _ (Nat.lt_succ_self _)
  · exact Prod.Lex.left _ _ (Nat.lt_succ_self _)
theorem owS_0 (T : Nat → Nat) (q : Nat) (Z : List Nat) (j ps : Nat) : owS T q Z 0 j ps = (q, Z.length, j) := by rw [owS]
theorem owS_n (T : Nat → Nat) (q x : Nat) (Z : List Nat) (c j ps : Nat) (h : stp T x q = 0) : owS T q (x :: Z) (c + 1) j ps = owS T q (Z ++ [x]) c j 1 := by rw [owS, if_pos h]
theorem owS_y (T : Nat → Nat) (q x : Nat) (Z : List Nat) (c j ps : Nat) (h : ¬ stp T x q = 0) : owS T q (x :: Z) (c + 1) j ps = owS T (stp T x q) Z Z.length (j + ps) 0 := by rw [owS, if_neg h]
abbrev unR (T : Nat → Nat) (q : Nat) (A : List Nat) : Prop := ∀ x ∈ A, stp T x q = 0
theorem owS_pass (T : Nat → Nat) (q : Nat) : ∀ (A B : List Nat) (c j ps : Nat), unR T q A → owS T q (A ++ B) (A.length + c) j ps = owS T q (B ++ A) c j (if A = [] then ps else 1)
  | [], B, c, j, ps, _ => by simp
  | x :: A, B, c, j, ps, h => by
    have e : (x :: A).length + c = (A.length + c) + 1 := by simp only [List.length_cons]; omega
    rw [e, List.cons_append, owS_n T q x _ _ _ _ (h x List.mem_cons_self), List.append_assoc, owS_pass T q A (B ++ [x]) c j 1 (fun y hy => h y (List.mem_cons_of_mem _ hy)), List.append_assoc]
    have e2 : (if A = [] then 1 else 1) = 1 := by split <;> rfl
    rw [e2, if_neg (by simp)]
    rfl
theorem owS_done {T : Nat → Nat} {q : Nat} {A : List Nat} {j ps : Nat} (h : unR T q A) : owS T q A A.length j ps = (q, A.length, j) := by
  have h1 := owS_pass T q A [] 0 j ps h
  rw [List.append_nil, List.nil_append, Nat.add_zero, owS_0] at h1
  exact h1
theorem un_split (T : Nat → Nat) (q : Nat) : ∀ L : List Nat, unR T q L ∨ ∃ A x B, L = A ++ x :: B ∧ unR T q A ∧ ¬ stp T x q = 0
  | [] => Or.inl (fun x h => absurd h List.not_mem_nil)
  | y :: L => by
    by_cases hy : stp T y q = 0
    · rcases un_split T q L with h | ⟨A, x, B, e, h1, h2⟩
      · exact Or.inl (fun x hx => by rcases List.mem_cons.mp hx with z | z; { rw [z]; exact hy }; { exact h x z })
      · refine Or.inr ⟨y :: A, x, B, by rw [e]; rfl, fun z hz => ?_, h2⟩
        rcases List.mem_cons.mp hz with w | w
        · rw [w]; exact hy
        · exact h1 z w
    · exact Or.inr ⟨[], y, L, rfl, fun x h => absurd h List.not_mem_nil, hy⟩
theorem owS_mono {T : Nat → Nat} {q : Nat} {A B : List Nat} {j ps : Nat} (hB : unR T q B) : owS T q (A ++ B) A.length j ps = owS T q (A ++ B) (A ++ B).length j ps := by
  rcases un_split T q A with h | ⟨A1, x, A2, e, h1, h2⟩
  · have e1 := owS_pass T q A B 0 j ps h
    rw [Nat.add_zero, owS_0] at e1
    rw [e1, owS_done (fun x hx => by rcases List.mem_append.mp hx with z | z; { exact h x z }; { exact hB x z })]
    simp [Nat.add_comm]
  · subst e
    have e1 : (A1 ++ x :: A2).length = A1.length + (A2.length + 1) := by simp
    have e2 : ((A1 ++ x :: A2) ++ B).length = A1.length + ((A2 ++ B).length + 1) := by simp
    rw [e1, e2, List.append_assoc, owS_pass T q A1 _ _ _ _ h1, owS_pass T q A1 _ _ _ _ h1]
    rw [List.cons_append, List.cons_append, owS_y _ _ _ _ _ _ _ h2, owS_y _ _ _ _ _ _ _ h2]
/-- the end of reading the circle Z -/
def owV (T : Nat → Nat) (q : Nat) (Z : List Nat) (j ps : Nat) : Nat × Nat × Nat := owS T q Z Z.length j ps
theorem owV_n {T : Nat → Nat} {q x : Nat} {Z : List Nat} {j ps : Nat} (h : stp T x q = 0) : owV T q (x :: Z) j ps = owV T q (Z ++ [x]) j 1 := by
  unfold owV
  rw [List.length_cons, owS_n _ _ _ _ _ _ _ h]
  exact owS_mono (A := Z) (B := [x]) (fun y hy => by rw [List.mem_singleton.mp hy]; exact h)
theorem owV_y {T : Nat → Nat} {q x : Nat} {Z : List Nat} {j ps : Nat} (h : ¬ stp T x q = 0) : owV T q (x :: Z) j ps = owV T (stp T x q) Z (j + ps) 0 := by
  unfold owV
  rw [List.length_cons, owS_y _ _ _ _ _ _ _ h]
/-- the class's rounds keep the end -/
theorem owV_fold (T : Nat → Nat) : ∀ (X : List Nat) (s : OW), owV T (X.foldl (meetL T) s).1 (X.foldl (meetL T) s).2.1 (X.foldl (meetL T) s).2.2.1 (X.foldl (meetL T) s).2.2.2 = owV T s.1 (X ++ s.2.1) s.2.2.1 s.2.2.2
  | [], s => rfl
  | x :: X, s => by
    rw [List.foldl_cons, owV_fold T X]
    unfold meetL
    by_cases h : stp T x s.1 = 0
    · rw [if_pos h, List.cons_append, owV_n h, List.append_assoc]
    · rw [if_neg h, List.cons_append, owV_y h]
theorem fold_len (T : Nat → Nat) : ∀ (X : List Nat) (s : OW), (X.foldl (meetL T) s).2.1.length ≤ s.2.1.length + X.length ∧ ((X.foldl (meetL T) s).2.1.length = s.2.1.length + X.length → (X.foldl (meetL T) s).1 = s.1 ∧ (X.foldl (meetL T) s).2.1 = s.2.1 ++ X ∧ unR T s.1 X)
  | [], s => ⟨Nat.le_refl _, fun _ => ⟨rfl, (List.append_nil _).symm, fun x h => absurd h List.not_mem_nil⟩⟩
  | x :: X, s => by
    rw [List.foldl_cons]
    have ih := fold_len T X (meetL T s x)
    by_cases h : stp T x s.1 = 0
    · have e : meetL T s x = (s.1, s.2.1 ++ [x], s.2.2.1, 1) := by unfold meetL; rw [if_pos h]
      rw [e] at ih ⊢
      simp only [List.length_append, List.length_cons, List.length_nil] at ih ⊢
      refine ⟨by omega, fun q => ?_⟩
      obtain ⟨h1, h2, h3⟩ := ih.2 (by omega)
      refine ⟨h1, by rw [h2, List.append_assoc]; rfl, fun y hy => ?_⟩
      rcases List.mem_cons.mp hy with z | z
      · rw [z]; exact h
      · exact h3 y z
    · have e : meetL T s x = (stp T x s.1, s.2.1, s.2.2.1 + s.2.2.2, 0) := by unfold meetL; rw [if_neg h]
      rw [e] at ih ⊢
      simp only [List.length_cons] at ih ⊢
      exact ⟨by have := ih.1; omega, fun q => by have := ih.1; omega⟩
theorem fin_V (T : Nat → Nat) : ∀ (f b : Nat) (s : OW), s.2.1.length ≤ f → s.2.1.length ≤ b → (s.2.1.length = b → unR T s.1 s.2.1) → ((finL T f b s).1, (finL T f b s).2.1.length, (finL T f b s).2.2.1) = owV T s.1 s.2.1 s.2.2.1 s.2.2.2
  | 0, b, s, hf, hb, hd => by
    have e : s.2.1 = [] := List.eq_nil_of_length_eq_zero (by omega)
    rw [finL, e]; unfold owV; rw [List.length_nil, owS_0]; rfl
  | f + 1, b, s, hf, hb, hd => by
    rw [finL]
    by_cases h : 0 < s.2.1.length ∧ s.2.1.length < b
    · rw [if_pos h]
      have fl := fold_len T s.2.1 (s.1, [], s.2.2.1, s.2.2.2)
      have fv := owV_fold T s.2.1 (s.1, [], s.2.2.1, s.2.2.2)
      rw [List.append_nil] at fv
      rw [← fv]
      simp only [List.length_nil, Nat.zero_add] at fl
      by_cases hl : ((s.2.1.foldl (meetL T) (s.1, [], s.2.2.1, s.2.2.2)).2.1).length = s.2.1.length
      · rw [fin_stop (by omega)]
        obtain ⟨h1, h2, h3⟩ := fl.2 hl
        unfold owV
        rw [owS_done (by rw [h1, h2]; exact h3)]
      · exact fin_V T f _ _ (by have := fl.1; omega) fl.1 (fun q => absurd q hl)
    · rw [if_neg h]
      rcases Nat.eq_zero_or_pos s.2.1.length with z | z
      · rw [List.eq_nil_of_length_eq_zero z]; unfold owV; rw [List.length_nil, owS_0]; rfl
      · unfold owV; rw [owS_done (hd (by omega))]
theorem wl_len (w : Nat → Nat) (n : Nat) : (wl w n).length = n := by unfold wl; simp
/-- what the class reads -/
theorem readO_V {T w : Nat → Nat} {n : Nat} (hn : n ≤ 8) : ((readO T w n).1, (readO T w n).2.1.length, (readO T w n).2.2.1) = owV T 1 (wl w n) 0 0 := by
  unfold readO
  have fl := fold_len T (wl w n) (1, [], 0, 0)
  have fv := owV_fold T (wl w n) (1, [], 0, 0)
  rw [List.append_nil] at fv
  rw [← fv]
  simp only [List.length_nil, Nat.zero_add, wl_len] at fl
  exact fin_V T 8 n _ (by have := fl.1; omega) fl.1 (fun q => by obtain ⟨h1, h2, h3⟩ := fl.2 q; rw [h1, h2]; exact h3)
/-- the reference's circle, from its head on -/
def rot (f : Nat → Nat) (h r : Nat) : List Nat := (List.range r).map (fun i => f ((h + i) % r))
theorem rot_len (f : Nat → Nat) (h r : Nat) : (rot f h r).length = r := by unfold rot; simp
theorem rot_0 {f w : Nat → Nat} {n : Nat} (h : ∀ i, i < n → f i = w i) : rot f 0 n = wl w n := by
  unfold rot wl
  apply List.map_congr_left
  intro i hi
  have := List.mem_range.mp hi
  rw [Nat.zero_add, Nat.mod_eq_of_lt this, h i this]
theorem range_split (p r : Nat) (hp : p < r) : List.range r = List.range p ++ p :: (List.range (r - p - 1)).map (fun i => p + 1 + i) := by
  have e : r = p + (1 + (r - p - 1)) := by omega
  rw [e, List.range_add, show (p + (1 + (r - p - 1))) - p - 1 = r - p - 1 by omega, List.range_add]
  simp [List.map_map, Function.comp_def, Nat.add_assoc]
theorem rot_split {f : Nat → Nat} {h r p : Nat} (hp : p < r) : rot f h r = (List.range p).map (fun i => f ((h + i) % r)) ++ f ((h + p) % r) :: (List.range (r - p - 1)).map (fun i => f ((h + (p + 1 + i)) % r)) := by
  unfold rot
  rw [range_split p r hp, List.map_append, List.map_cons, List.map_map]
  rfl
theorem rot_next {f f2 : Nat → Nat} {h r p hd : Nat} (hr : r ≤ 8) (hp : p < r) (hh : h < r) (ehd : hd = (h + p) % r) (h1 : ∀ k, k < hd → f2 k = f k) (h2 : ∀ k, hd ≤ k → k + 1 < r → f2 k = f (k + 1)) :
    rot f2 (if 0 < r - 1 then hd % (r - 1) else 0) (r - 1) = (List.range (r - p - 1)).map (fun i => f ((h + (p + 1 + i)) % r)) ++ (List.range p).map (fun i => f ((h + i) % r)) := by
  have hlt : hd < r := by rw [ehd]; exact Nat.mod_lt _ (by omega)
  have e1 : rot f2 (if 0 < r - 1 then hd % (r - 1) else 0) (r - 1) = (List.range (r - 1)).map (fun i => f ((h + (p + 1 + i)) % r)) := by
    unfold rot
    apply List.map_congr_left
    intro i hi
    have hi := List.mem_range.mp hi
    rw [if_pos (by omega)]
    have eR : (h + (p + 1 + i)) % r = (hd + (1 + i)) % r := by rw [ehd, Nat.mod_add_mod, Nat.add_assoc, Nat.add_assoc]
    rw [eR]
    rcases Nat.lt_or_ge hd (r - 1) with z | z
    · rw [Nat.mod_eq_of_lt z]
      rcases Nat.lt_or_ge (hd + i) (r - 1) with y | y
      · rw [Nat.mod_eq_of_lt y, h2 _ (by omega) (by omega), Nat.mod_eq_of_lt (by omega)]; congr 1; omega
      · rw [Nat.mod_eq_sub_mod y, Nat.mod_eq_of_lt (by omega), h1 _ (by omega), Nat.mod_eq_sub_mod (by omega), Nat.mod_eq_of_lt (by omega)]; congr 1; omega
    · have e : hd = r - 1 := by omega
      rw [e, Nat.mod_self, Nat.zero_add, Nat.mod_eq_of_lt hi, h1 _ (by omega), Nat.mod_eq_sub_mod (by omega), Nat.mod_eq_of_lt (by omega)]; congr 1; omega
  rw [e1]
  have e2 : r - 1 = (r - p - 1) + p := by omega
  rw [e2, List.range_add, List.map_append, List.map_map]
  congr 1
  apply List.map_congr_left
  intro i hi
  have hi := List.mem_range.mp hi
  show f ((h + (p + 1 + (r - p - 1 + i))) % r) = _
  rw [show h + (p + 1 + (r - p - 1 + i)) = h + i + r by omega, Nat.add_mod_right]
theorem det_one : ∀ x, x < 32 → pop x ≤ 1 → x ≠ 0 → x = 2 ^ sgl x := by decide +kernel
theorem bit_pow : ∀ e, e < 5 → ∀ q, q < 5 → (2 ^ e).testBit q = decide (q = e) := by decide
theorem stp_one {T : Nat → Nat} {x e : Nat} (he : e < 5) : stp T x (2 ^ e) = T (e * 3 + x) := by
  apply Nat.eq_of_testBit_eq
  intro i
  apply Bool.eq_iff_iff.mpr
  constructor
  · intro h
    obtain ⟨q, hq, h1, h2⟩ := stp_of h
    rw [bit_pow e he q hq] at h1
    have : q = e := by simpa using h1
    rw [← this]; exact h2
  · intro h
    exact stp_bit he (by rw [bit_pow e he e he]; simp) h
/-- a reading of the reference -/
theorem ow_read {T f f2 : Nat → Nat} {h r p hd e j q2 : Nat} (he : e < 5) (hr : r ≤ 8) (hp : p < r) (hh : h < r) (ehd : hd = (h + p) % r) (h1 : ∀ k, k < hd → f2 k = f k) (h2 : ∀ k, hd ≤ k → k + 1 < r → f2 k = f (k + 1)) (hu : ∀ i, i < p → T (e * 3 + f ((h + i) % r)) = 0) (hy : T (e * 3 + f hd) ≠ 0) (hq : T (e * 3 + f hd) = 2 ^ q2) :
    owV T (2 ^ e) (rot f h r) j 0 = owV T (2 ^ q2) (rot f2 (if 0 < r - 1 then hd % (r - 1) else 0) (r - 1)) (j + if 0 < p then 1 else 0) 0 := by
  rw [rot_next hr hp hh ehd h1 h2, rot_split hp]
  have hun : unR T (2 ^ e) ((List.range p).map (fun i => f ((h + i) % r))) := by
    intro x hx
    obtain ⟨i, hi, rfl⟩ := List.mem_map.mp hx
    rw [stp_one he]; exact hu i (List.mem_range.mp hi)
  unfold owV
  have el : ((List.range p).map (fun i => f ((h + i) % r)) ++ f ((h + p) % r) :: (List.range (r - p - 1)).map (fun i => f ((h + (p + 1 + i)) % r))).length = ((List.range p).map (fun i => f ((h + i) % r))).length + ((List.range (r - p - 1)).map (fun i => f ((h + (p + 1 + i)) % r)) |>.length |> (· + 1)) := by simp
  rw [el, owS_pass _ _ _ _ _ _ _ hun, List.cons_append, owS_y _ _ _ _ _ _ _ (by rw [stp_one he, ← ehd]; exact hy), stp_one he, ← ehd, hq]
  congr 1
  by_cases z : p = 0
  · subst z; simp
  · rw [if_neg (by simp; exact z), if_pos (by omega)]
theorem ow_stop {T f : Nat → Nat} {h r e j : Nat} (he : e < 5) (hu : ∀ i, i < r → T (e * 3 + f ((h + i) % r)) = 0) : owV T (2 ^ e) (rot f h r) j 0 = (2 ^ e, r, j) := by
  unfold owV
  rw [owS_done, rot_len]
  intro x hx
  obtain ⟨i, hi, rfl⟩ := List.mem_map.mp hx
  rw [stp_one he]; exact hu i (List.mem_range.mp hi)
theorem ow_nil {T f : Nat → Nat} {h e j : Nat} : owV T (2 ^ e) (rot f h 0) j 0 = (2 ^ e, 0, j) := by
  unfold owV; rw [rot_len, owS_0, rot_len]
/-- where the reference stands -/
def OwI (T w : Nat → Nat) (n h r e j : Nat) (f : Nat → Nat) : Prop := r ≤ n ∧ (h < r ∨ (r = 0 ∧ h = 0)) ∧ e < 5 ∧ j + r ≤ n ∧ (∀ i, i < r → f i < 3) ∧ owV T (2 ^ e) (rot f h r) j 0 = owV T 1 (wl w n) 0 0
theorem owi_0 {T w f : Nat → Nat} {n : Nat} (h : ∀ i, i < n → f i = w i) (hw : ∀ i, i < n → w i < 3) : OwI T w n 0 n 0 0 f :=
  ⟨Nat.le_refl _, by omega, by decide, by omega, fun i hi => by rw [h i hi]; exact hw i hi, by rw [rot_0 h]⟩
theorem owi_s {T w f f2 : Nat → Nat} {n h r e j p hd : Nat} (hn : n ≤ 8) (hT : OkT T) (hdt : detT T) (hi : OwI T w n h r e j f) (hp : p < r) (ehd : hd = (h + p) % r) (h1 : ∀ k, k < hd → f2 k = f k) (h2 : ∀ k, hd ≤ k → k + 1 < r → f2 k = f (k + 1)) (hu : ∀ i, i < p → T (e * 3 + f ((h + i) % r)) = 0) (hy : T (e * 3 + f hd) ≠ 0) :
    OwI T w n (if 0 < r - 1 then hd % (r - 1) else 0) (r - 1) (sgl (T (e * 3 + f hd))) (j + if 0 < p then 1 else 0) f2 := by
  obtain ⟨g1, g2, g3, g4, g5, g6⟩ := hi
  have hh : h < r := by omega
  have hlt : hd < r := by rw [ehd]; exact Nat.mod_lt _ (by omega)
  have hk := g5 hd hlt
  refine ⟨by omega, ?_, sgl_lt _, ?_, fun i hi => ?_, ?_⟩
  · split
    · rename_i z; exact Or.inl (Nat.mod_lt _ z)
    · exact Or.inr ⟨by omega, rfl⟩
  · split <;> omega
  · rcases Nat.lt_or_ge i hd with z | z
    · rw [h1 i z]; exact g5 i (by omega)
    · rw [h2 i z (by omega)]; exact g5 (i + 1) (by omega)
  · rw [← g6, ow_read g3 (by omega) hp hh ehd h1 h2 hu hy (det_one _ (hT _ (by omega)) (hdt _ (by omega)) hy)]
/-- the answer of the reference's isAccepted -/
def acR (T w : Nat → Nat) (fin n md : Nat) : Prop := (md = 0 ∧ wrun T w n &&& fin ≠ 0) ∨ (md = 1 ∧ wrc T w fin n) ∨ (md = 2 ∧ (owV T 1 (wl w n) 0 0).2.1 = 0 ∧ (owV T 1 (wl w n) 0 0).1 &&& fin ≠ 0)
theorem ac_0 {T w : Nat → Nat} {fin n md : Nat} (h : md = 0) : acR T w fin n md ↔ wrun T w n &&& fin ≠ 0 := by
  unfold acR
  constructor
  · rintro (z | z | z)
    · exact z.2
    · omega
    · omega
  · intro z; exact Or.inl ⟨h, z⟩
theorem ac_1 {T w : Nat → Nat} {fin n md : Nat} (h : md = 1) : acR T w fin n md ↔ wrc T w fin n := by
  unfold acR
  constructor
  · rintro (z | z | z)
    · omega
    · exact z.2
    · omega
  · intro z; exact Or.inr (Or.inl ⟨h, z⟩)
theorem acr_if {A B : Prop} [Decidable B] (h : A ↔ B) : ((if B then 1 else 0 : Nat) = 1 ∧ A) ∨ ((if B then 1 else 0 : Nat) = 0 ∧ ¬ A) := by
  by_cases q : B
  · rw [if_pos q]; exact Or.inl ⟨rfl, h.mpr q⟩
  · rw [if_neg q]; exact Or.inr ⟨rfl, fun z => q (h.mp z)⟩
theorem ac_2 {T w : Nat → Nat} {fin n md e2 r2 j2 : Nat} (h : md = 2) (hf : fin < 32) (he : e2 < 5) (hv : (2 ^ e2, r2, j2) = owV T 1 (wl w n) 0 0) : acR T w fin n md ↔ r2 = 0 ∧ fin.testBit e2 = true := by
  unfold acR
  rw [← hv]
  have hb : 2 ^ e2 &&& fin ≠ 0 ↔ fin.testBit e2 = true := by
    rw [Nat.and_comm]
    have := fb_bit_nat fin e2
    constructor
    · intro z; exact Classical.not_not.mp (fun q => z (this.mpr (by simpa using q)))
    · intro z q; rw [this] at q; rw [z] at q; cases q
  constructor
  · rintro (z | z | z)
    · omega
    · omega
    · exact ⟨z.2.1, hb.mp z.2.2⟩
  · intro z; exact Or.inr (Or.inr ⟨h, z.1, hb.mpr z.2⟩)
