/-! ===== the cases of the law ===== -/
section LWC
variable {p : Program} {l : Launch} {e : Env} {s : State} {m : MethodId} {below : List Frame} {meth : Method} {c : Code} {H : Heap} {locs : List Loc} {cells slots : Nat} {Q : State → Prop} {ls : Array Slot} {A : Nat → Prop} {b L i ao ad : Nat} {xs : Nat → Int32} {g : GC} {aM : Nat → Nat} {σ τ : SS} {ov : Nat → Int64} {dv : Nat → UInt64}
theorem undo_r (hI : Inv σ τ) : 0 < σ.1 10 → ∀ k, k < 15 → (σ.2.2 (2 + (σ.1 9 + 7) % 8)) k < 32 := fun h k hk => by
  have q := hI.mm.2.2.2 0 h
  have e1 := q.1 k hk
  rw [Nat.sub_zero] at e1
  rw [e1]
  exact q.2.2.2.1 k hk
theorem restore_r (hI : Inv σ τ) : σ.1 11 ≠ 0 → ∀ k, k < 15 → (σ.2.2 10) k < 32 := fun h k hk => by
  have q := hI.sv.2.2 h
  rw [q.1 k hk]
  exact q.2.2.2.1 k hk
theorem cw_r {md n : Nat} (hI : Inv σ τ) : md < 3 → n < 8 → (md = 2 → detT (σ.2.1 0)) → cwN (σ.2.1 0) (σ.1 0) md n ≤ 3 ^ n := fun h1 h2 _ => cw_le (by rw [hI.t]; exact hI.okT) h1 (by omega)
/-- what the rest of the law asks of a round's end -/
def LK (p : Program) (l : Launch) (e : Env) (s : State) (m : MethodId) (below : List Frame) (meth : Method) (c : Code) (cells slots : Nat) (Q : State → Prop) (A : Nat → Prop) (b i ao ad : Nat) (g : GC) (aM : Nat → Nat) : Prop :=
  ∀ (H : Heap) (locs : List Loc) (σ τ : SS) (ov : Nat → Int64) (dv : Nat → UInt64) (ls : Array Slot), Inv σ τ → va_P (g.1, g.2.1) vwCl (LW g aM ao ad (σ, ov, dv) τ) H → va_D A (LW g aM ao ad (σ, ov, dv) τ) → va_S A s.heap H locs → lv_has ls 9 (LV b g aM ao ad i) → W p l e room_1 s m #[Value.ref b] below meth c H locs (cells + 3) (slots + 18) Q (F0 m 2501 ls [])
theorem lw_end (kk : LK p l e s m below meth c cells slots Q A b i ao ad g aM) {c2 s2 : Nat} (h1 : c2 ≤ cells + 3) (h2 : s2 ≤ slots + 18) {z : HZ} {lv : List (Nat × Value)} (hI : InvW z.1 τ) (hP : va_P (g.1, g.2.1) vwCl (LW g aM ao ad z τ) H) (hD : va_D A (LW g aM ao ad z τ)) (hS : va_S A s.heap H locs) (hl : lv_has ls 9 lv) (hs : ∀ q ∈ LV b g aM ao ad i, q ∈ lv) : W p l e room_1 s m #[Value.ref b] below meth c H locs c2 s2 Q (F0 m 2501 ls []) :=
  W.widen h1 h2 (kk H locs _ _ _ _ ls (inv_norm hI) (lw_PN (σ := z.1) (ov := z.2.1) (dv := z.2.2) hI hP) (lw_DN (σ := z.1) (ov := z.2.1) (dv := z.2.2) hI hD) hS (lw_sub hl hs))
end LWC
