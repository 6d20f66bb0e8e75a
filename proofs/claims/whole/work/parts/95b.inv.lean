/-! ===== the class's state and the reference's ===== -/
def OkN (nw : Nat → Nat) : Prop := OkT nw ∧ nw 15 < 32 ∧ OkS nw ∧ cntT nw ≤ 15
/-- a row of 58 cells holds what 122 cells hold -/
def SnR (row nw : Nat → Nat) : Prop := (∀ k, k < 15 → row k = nw k) ∧ row 15 = nw 15 ∧ SetR (fun k => row (16 + k)) nw ∧ OkN nw
def LvR (σ τ : SS) : Prop := (∀ k, k < 15 → σ.2.1 0 k = τ.2.1 0 k) ∧ σ.1 0 = τ.2.1 0 15 ∧ SetR (σ.2.1 2) (τ.2.1 0) ∧ OkN (τ.2.1 0)
def StR (σ : SS) : Prop := ∀ x, x < 3 → ∀ m, m < 32 → σ.2.1 1 (x * 32 + m) = stp (σ.2.1 0) x m
def MmR (σ τ : SS) : Prop := σ.1 9 < 8 ∧ σ.1 10 ≤ 8 ∧ τ.1 1 = σ.1 10 ∧ ∀ j, j < σ.1 10 → SnR (σ.2.2 (2 + (σ.1 9 + 7 - j) % 8)) (fun k => τ.2.1 2 ((σ.1 10 - 1 - j) * 122 + k))
def SvR (σ τ : SS) : Prop := σ.1 11 < 2 ∧ τ.1 2 = σ.1 11 ∧ (σ.1 11 ≠ 0 → SnR (σ.2.2 10) (τ.2.1 1))
def TxR (σ τ : SS) : Prop := σ.1 1 = τ.1 3 ∧ σ.1 1 ≤ 40 ∧ σ.2.1 12 = τ.2.1 3 ∧ (∀ k, k < σ.1 1 → 33 ≤ σ.2.1 12 k ∧ σ.2.1 12 k < 127) ∧ σ.1 2 = τ.1 5 ∧ σ.1 2 < 4294967296
def WdR (σ τ : SS) : Prop := σ.1 20 = τ.1 6 ∧ σ.1 20 ≤ 8 ∧ ∀ i, i < σ.1 20 → σ.2.1 14 i = τ.2.1 5 i ∧ σ.2.1 14 i < 3
def OrR (σ : SS) : Prop := σ.1 21 < 2 ∧ (σ.1 21 = 1 → ordK (σ.2.1 0) (σ.2.1 14) (σ.1 0) (σ.1 20) (σ.1 5) (σ.2.1 25)) ∧ σ.1 8 < 5
def InvW (σ τ : SS) : Prop := LvR σ τ ∧ StR σ ∧ MmR σ τ ∧ SvR σ τ ∧ TxR σ τ ∧ WdR σ τ ∧ OrR σ
def Inv (σ τ : SS) : Prop := InvW σ τ ∧ σ.2.1 0 = τ.2.1 0
section INV
variable {σ τ : SS}
theorem Inv.lv (h : Inv σ τ) : LvR σ τ := h.1.1
theorem Inv.st (h : Inv σ τ) : StR σ := h.1.2.1
theorem Inv.mm (h : Inv σ τ) : MmR σ τ := h.1.2.2.1
theorem Inv.sv (h : Inv σ τ) : SvR σ τ := h.1.2.2.2.1
theorem Inv.tx (h : Inv σ τ) : TxR σ τ := h.1.2.2.2.2.1
theorem Inv.wd (h : Inv σ τ) : WdR σ τ := h.1.2.2.2.2.2.1
theorem Inv.od (h : Inv σ τ) : OrR σ := h.1.2.2.2.2.2.2
theorem Inv.t (h : Inv σ τ) : σ.2.1 0 = τ.2.1 0 := h.2
theorem Inv.f (h : Inv σ τ) : σ.1 0 = τ.2.1 0 15 := h.lv.2.1
theorem Inv.okT (h : Inv σ τ) : OkT (τ.2.1 0) := h.lv.2.2.2.1
theorem Inv.fin (h : Inv σ τ) : τ.2.1 0 15 < 32 := h.lv.2.2.2.2.1
theorem Inv.okS (h : Inv σ τ) : OkS (τ.2.1 0) := h.lv.2.2.2.2.2.1
theorem Inv.c15 (h : Inv σ τ) : cntT (τ.2.1 0) ≤ 15 := h.lv.2.2.2.2.2.2
theorem Inv.set (h : Inv σ τ) : SetR (σ.2.1 2) (τ.2.1 0) := h.lv.2.2.1
theorem Inv.okA (h : Inv σ τ) : OkA σ := ⟨by rw [h.t]; exact h.okT, by rw [h.f]; exact h.fin, h.st⟩
theorem Inv.okX (h : Inv σ τ) : OkX σ := ⟨h.tx.2.1, h.tx.2.2.2.1⟩
theorem Inv.okM (h : Inv σ τ) : OkM σ := ⟨h.mm.1, h.mm.2.1, h.sv.1⟩
theorem Inv.okC (h : Inv σ τ) : OkC (σ.2.1 2) := okC_of h.okS h.set
theorem Inv.w8 (h : Inv σ τ) : σ.1 20 ≤ 8 := h.wd.2.1
theorem Inv.w3 (h : Inv σ τ) : ∀ i, i < σ.1 20 → σ.2.1 14 i < 3 := fun i hi => (h.wd.2.2 i hi).2
theorem Inv.weq (h : Inv σ τ) : ∀ i, i < τ.1 6 → σ.2.1 14 i = τ.2.1 5 i := fun i hi => (h.wd.2.2 i (by rw [h.wd.1]; exact hi)).1
theorem Inv.mw8 (h : Inv σ τ) : τ.1 6 ≤ 8 := by rw [← h.wd.1]; exact h.w8
theorem Inv.mw3 (h : Inv σ τ) : ∀ i, i < τ.1 6 → τ.2.1 5 i < 3 := fun i hi => by rw [← h.weq i hi]; exact h.w3 i (by rw [h.wd.1]; exact hi)
theorem Inv.mtx (h : Inv σ τ) : τ.1 3 ≤ 40 := by rw [← h.tx.1]; exact h.tx.2.1
theorem Inv.mtc (h : Inv σ τ) : ∀ k, k < τ.1 3 → τ.2.1 3 k < 127 := fun k hk => by rw [← h.tx.2.2.1]; exact (h.tx.2.2.2.1 k (by rw [h.tx.1]; exact hk)).2
theorem Inv.mc8 (h : Inv σ τ) : τ.1 1 ≤ 8 := by rw [h.mm.2.2.1]; exact h.mm.2.1
theorem Inv.msv (h : Inv σ τ) : τ.1 2 < 2 := by rw [h.sv.2.1]; exact h.sv.1
theorem Inv.mm4 (h : Inv σ τ) : ∀ s, s < 2 → τ.2.1 0 (16 + s) ≤ 4 := fun s hs => (h.okS s hs).1
theorem Inv.mm3 (h : Inv σ τ) : ∀ s, s < 2 → ∀ l, l < τ.2.1 0 (16 + s) → τ.2.1 0 (42 + (4 * s + l)) ≤ 3 := fun s hs l hl => ((h.okS s hs).2 l hl).2.1
end INV
theorem pop_or1 : ∀ x, x < 32 → ∀ c, c < 5 → pop (x ||| 2 ^ c) ≤ pop x + 1 ∧ (x.testBit c = true → x ||| 2 ^ c = x) := by decide +kernel
theorem pop_and1 : ∀ x, x < 32 → ∀ c, c < 5 → pop (x &&& (2 ^ c ^^^ 4294967295)) ≤ pop x := by decide +kernel
theorem cnt_up {T : Nat → Nat} {k v : Nat} (hk : k < 15) : cntT (va_up T k v) + pop (T k) = cntT T + pop v := by
  have e := fb_sm_upd (fun j => pop (T j)) (pop v) hk
  unfold cntT
  rw [← e]
  congr 1
  exact fb_sm_cong (fun j _ => by unfold va_up; split <;> rfl)
theorem cnt_eq {T T2 : Nat → Nat} (h : ∀ k, k < 15 → T2 k = T k) : cntT T2 = cntT T := fb_sm_cong (fun k hk => by rw [h k hk])
/-! the counting sets look at places from 16 on, of 42 and of 122 -/
theorem OkS.hi {nw nw2 : Nat → Nat} (h : OkS nw) (he : ∀ k, 16 ≤ k → k < 122 → nw k = nw2 k) : OkS nw2 := by
  intro s hs
  obtain ⟨h1, h2⟩ := h s hs
  rw [← he (16 + s) (by omega) (by omega)]
  refine ⟨h1, fun l hl => ?_⟩
  obtain ⟨⟨b1, b2, b3⟩, b4, b5⟩ := h2 l hl
  unfold Ln
  rw [← he (18 + 3 * (4 * s + l)) (by omega) (by omega), ← he (18 + 3 * (4 * s + l) + 1) (by omega) (by omega), ← he (18 + 3 * (4 * s + l) + 2) (by omega) (by omega), ← he (42 + (4 * s + l)) (by omega) (by omega)]
  refine ⟨⟨b1, b2, b3⟩, b4, fun i hi => ?_⟩
  rw [← he (50 + 9 * (4 * s + l) + 3 * i) (by omega) (by omega), ← he (50 + 9 * (4 * s + l) + 3 * i + 1) (by omega) (by omega), ← he (50 + 9 * (4 * s + l) + 3 * i + 2) (by omega) (by omega)]
  exact b5 i hi
theorem SetR.hi {c c2 nw nw2 : Nat → Nat} (hS : OkS nw) (h : SetR c nw) (he : ∀ k, 16 ≤ k → k < 122 → nw k = nw2 k) (hc : ∀ k, k < 42 → c k = c2 k) : SetR c2 nw2 := by
  intro s hs
  obtain ⟨h1, h2⟩ := hS s hs
  obtain ⟨g1, g2⟩ := h s hs
  rw [← he (16 + s) (by omega) (by omega), ← hc (s * 21) (by omega)]
  refine ⟨g1, fun l hl => ?_⟩
  obtain ⟨-, b4, -⟩ := h2 l hl
  obtain ⟨q1, q2, q3⟩ := g2 l hl
  rw [← he (18 + 3 * (4 * s + l)) (by omega) (by omega), ← he (18 + 3 * (4 * s + l) + 1) (by omega) (by omega), ← he (18 + 3 * (4 * s + l) + 2) (by omega) (by omega), ← he (42 + (4 * s + l)) (by omega) (by omega), ← hc (s * 21 + 1 + l * 5) (by omega), ← hc (s * 21 + 1 + l * 5 + 1) (by omega)]
  refine ⟨q1, q2, fun i hi => ?_⟩
  rw [← he (50 + 9 * (4 * s + l) + 3 * i) (by omega) (by omega), ← he (50 + 9 * (4 * s + l) + 3 * i + 1) (by omega) (by omega), ← he (50 + 9 * (4 * s + l) + 3 * i + 2) (by omega) (by omega), ← hc (s * 21 + 1 + l * 5 + 2 + i) (by omega)]
  exact q3 i hi
theorem OkN.cong {nw nw2 : Nat → Nat} (h : OkN nw) (he : ∀ k, k < 122 → nw k = nw2 k) : OkN nw2 := ⟨fun k hk => by rw [← he k (by omega)]; exact h.1 k hk, by rw [← he 15 (by decide)]; exact h.2.1, h.2.2.1.hi (fun k _ hk => he k hk), by
    have e : cntT nw2 = cntT nw := fb_sm_cong (fun k hk => by rw [he k (by omega)])
    rw [e]; exact h.2.2.2⟩
theorem SnR.cong {row row2 nw nw2 : Nat → Nat} (h : SnR row nw) (hr : ∀ k, k < 58 → row k = row2 k) (he : ∀ k, k < 122 → nw k = nw2 k) : SnR row2 nw2 :=
  ⟨fun k hk => by rw [← hr k (by omega), ← he k (by omega)]; exact h.1 k hk, by rw [← hr 15 (by decide), ← he 15 (by decide)]; exact h.2.1, h.2.2.1.hi h.2.2.2.2.2.1 (fun k _ hk => he k hk) (fun k hk => hr (16 + k) (by omega)), h.2.2.2.cong he⟩
/-- what the class writes when it remembers -/
theorem snp_R {σ τ : SS} {old : Nat → Nat} (h : LvR σ τ) : SnR (snp σ old) (τ.2.1 0) := by
  have e1 : ∀ k, k < 15 → snp σ old k = σ.2.1 0 k := fun k hk => by
    unfold snp va_cpy va_up
    rw [if_neg (by omega), if_neg (by omega)]
    exact (if_pos ⟨Nat.zero_le _, by omega⟩).trans (by rw [show 0 + (k - 0) = k by omega])
  have e2 : snp σ old 15 = σ.1 0 := by
    unfold snp va_cpy va_up
    rw [if_neg (by omega), if_pos rfl]
  have e3 : ∀ k, k < 42 → snp σ old (16 + k) = σ.2.1 2 k := fun k hk => by
    unfold snp va_cpy
    rw [if_pos (by omega), show 0 + (16 + k - 16) = k by omega]
  refine ⟨fun k hk => by rw [e1 k hk]; exact h.1 k hk, by rw [e2]; exact h.2.1, h.2.2.1.hi h.2.2.2.2.2.1 (fun _ _ _ => rfl) (fun k hk => (e3 k hk).symm), h.2.2.2⟩
/-- a change is remembered on both sides -/
theorem push_R {σ τ σ2 τ2 : SS} {old : Nat → Nat} (hL : LvR σ τ) (hM : MmR σ τ) (h9 : σ2.1 9 = (σ.1 9 + 1) % 8) (h10 : σ2.1 10 = min (σ.1 10 + 1) 8) (hR : ∀ i, σ2.2.2 i = if i = 2 + σ.1 9 then snp σ old else σ.2.2 i) (hc : τ2.1 1 = min (τ.1 1 + 1) 8) (hk : KpO (τ.2.1 2) (τ.2.1 0) (τ.1 1) (τ2.2.1 2)) : MmR σ2 τ2 := by
  obtain ⟨m1, m2, m3, m4⟩ := hM
  rw [m3] at hk hc
  refine ⟨by rw [h9]; omega, by rw [h10]; omega, by rw [hc, h10], fun j hj => ?_⟩
  rw [h10] at hj
  rw [h9, h10, hR]
  rcases Nat.eq_zero_or_pos j with z | z
  · subst z
    rw [if_pos (by omega)]
    exact (snp_R hL).cong (fun _ _ => rfl) (fun k hk2 => by rw [Nat.sub_zero]; exact (hk.2 k hk2).symm)
  · rw [if_neg (by omega)]
    have h := m4 (j - 1) (by omega)
    rw [show ((σ.1 9 + 1) % 8 + 7 - j) % 8 = (σ.1 9 + 7 - (j - 1)) % 8 by omega]
    refine h.cong (fun _ _ => rfl) (fun k hk2 => ?_)
    rw [hk.1 (min (σ.1 10 + 1) 8 - 1 - j) k hk2 (by omega)]
    refine congrArg (fun i => τ.2.1 2 (i * 122 + k)) ?_
    split <;> omega
theorem sv_push {σ τ σ2 τ2 : SS} {old : Nat → Nat} (hM : MmR σ τ) (hS : SvR σ τ) (h11 : σ2.1 11 = σ.1 11) (hR : ∀ i, σ2.2.2 i = if i = 2 + σ.1 9 then snp σ old else σ.2.2 i) (h2 : τ2.1 2 = τ.1 2) (h1 : τ2.2.1 1 = τ.2.1 1) : SvR σ2 τ2 := by
  obtain ⟨s1, s2, s3⟩ := hS
  refine ⟨by rw [h11]; exact s1, by rw [h11, h2]; exact s2, fun q => ?_⟩
  rw [h11] at q
  rw [hR, if_neg (by have := hM.1; omega), h1]
  exact s3 q
theorem stp_T {T T2 : Nat → Nat} (h : ∀ k, k < 15 → T k = T2 k) {x : Nat} (hx : x < 3) (m : Nat) : stp T x m = stp T2 x m := orU_cong (fun q hq => by rw [h (q * 3 + x) (by omega)])
theorem cF_T {T T2 w : Nat → Nat} {fin n : Nat} (h : ∀ k, k < 15 → T k = T2 k) (hw : ∀ p, p < n → w p < 3) : ∀ k rd ls q, q < 5 → cF T w fin n k rd ls q = cF T2 w fin n k rd ls q
  | 0, _, _, _, _ => rfl
  | k + 1, rd, ls, q, hq => by
    rw [cF, cF]
    refine stF_cong n (fun p hp _ => ?_)
    rw [h (q * 3 + w p) (by have := hw p hp; omega)]
    congr 1
    exact lstF_cong 5 (fun t ht _ => cF_T h hw k _ _ t ht)
theorem lCF_T {T T2 w : Nat → Nat} {fin n rd ls m : Nat} (h : ∀ k, k < 15 → T k = T2 k) (hw : ∀ p, p < n → w p < 3) : lst (CF T w fin n rd ls) m = lst (CF T2 w fin n rd ls) m := lstF_cong 5 (fun t ht _ => cF_T h hw _ _ _ t ht)
theorem isOrd_T {T T2 w : Nat → Nat} {fin n : Nat} (h : ∀ k, k < 15 → T k = T2 k) (hw : ∀ p, p < n → w p < 3) : ∀ k rd ls mq lf (od : Nat → Nat), isOrd T w fin n k rd ls mq lf od → isOrd T2 w fin n k rd ls mq lf od
  | 0, _, _, _, _, _, _ => trivial
  | k + 1, rd, ls, mq, lf, od, hi => by
    obtain ⟨p, h1, h2, h3, h4, h5, h6⟩ := hi
    rw [stp_T h (hw p h1), lCF_T h hw] at h3
    rw [stp_T h (hw p h1)] at h6
    refine ⟨p, h1, h2, h3, fun z hz hb => ?_, h5, isOrd_T h hw k _ _ _ _ _ h6⟩
    have := h4 z hz hb
    rw [stp_T h (hw z (by omega)), lCF_T h hw] at this
    exact this
theorem ordK_T {T T2 w : Nat → Nat} {fin n co : Nat} {od : Nat → Nat} (h : ∀ k, k < 15 → T k = T2 k) (hw : ∀ p, p < n → w p < 3) (ho : ordK T w fin n co od) : ordK T2 w fin n co od := by
  have e : ocost T w fin n = ocost T2 w fin n := cF_T h hw _ _ _ 0 (by decide)
  obtain ⟨h1, h2⟩ := ho
  rw [e] at h1
  refine ⟨h1, fun q => ?_⟩
  have := h2 q
  rw [e] at this
  exact ⟨isOrd_T h hw _ _ _ _ _ _ this.1, this.2⟩
/-- the class's row of targets may be thought of as the reference's -/
theorem inv_norm {σ τ : SS} (h : InvW σ τ) : Inv (sA σ 0 (τ.2.1 0)) τ := by
  obtain ⟨h1, h2, h3, h4, h5, h6, h7⟩ := h
  refine ⟨⟨⟨fun _ _ => rfl, h1.2.1, h1.2.2.1, h1.2.2.2⟩, fun x hx m hm => ?_, h3, h4, h5, h6, h7.1, fun q => ?_, h7.2.2⟩, rfl⟩
  · show σ.2.1 1 (x * 32 + m) = stp (τ.2.1 0) x m
    rw [h2 x hx m hm, stp_T h1.1 hx]
  · exact ordK_T h1.1 (fun i hi => (h6.2.2 i hi).2) (h7.2.1 q)
/-- a cell's contents beyond its end don't matter -/
theorem vp_cut {cA : ClassId} {n : Nat} {f g : Nat → Int32} (h : ∀ k, k < n → f k = g k) : vp_cell cA (n, .inl f) = vp_cell cA (n, .inl g) := by
  rw [vp_cell_i, vp_cell_i]
  have e : (fun j : Fin n => Value.int (f j.1)) = (fun j : Fin n => Value.int (g j.1)) := funext fun j => by rw [h j.1 j.2]
  exact congrArg (fun F : Fin n → Value => ({ cls := cA, slots := Array.ofFn F, vm := .none } : Cell)) e
theorem pP_cut {D : va_G} {cl : List vw_C} {ws : va_W} {H : Heap} {i a : Nat} {cA : ClassId} {n : Nat} {f g : Nat → Int32} (hP : va_P D cl ws H) (hi : ws[i]? = some (a, .inl (cA, n, .inl f))) (h : ∀ k, k < n → f k = g k) : va_P D cl (ws.set i (a, .inl (cA, n, .inl g))) H := by
  intro k q hk
  by_cases e : i = k
  · subst e
    rw [List.getElem?_set_self (List.getElem?_eq_some_iff.mp hi).1] at hk
    cases hk
    show H[a]? = some (vp_cell cA (n, .inl g))
    rw [← vp_cut h]
    exact hP i _ hi
  · rw [List.getElem?_set_ne e] at hk
    exact hP k q hk
theorem wC_norm {D : va_G} {cl : List vw_C} {g : GC} {σ τ : SS} {tl : va_W} {H : Heap} (h : InvW σ τ) (hP : va_P D cl (wC g σ ++ tl) H) : va_P D cl (wC g (sA σ 0 (τ.2.1 0)) ++ tl) H := by
  have := pP_cut (g := fun k => nI (τ.2.1 0 k)) hP (gC2 g σ tl) (fun k hk => by rw [h.1.1 k hk])
  rw [uC_A0] at this
  exact this
theorem dC_norm {A : Nat → Prop} {g : GC} {σ τ : SS} {tl : va_W} (hD : va_D A (wC g σ ++ tl)) : va_D A (wC g (sA σ 0 (τ.2.1 0)) ++ tl) := by
  have := hD.set (e := .inl (g.2.2.1 0, 15, .inl (fun k => nI (τ.2.1 0 k)))) (gC2 g σ tl)
  rw [uC_A0] at this
  exact this
