section JNR6
variable {p : Program} {l : Launch} {e : Env} {R : Room} {s : State} {m : MethodId} {args : Array Value} {below : List Frame} {meth : Method} {c : Code} {H : Heap} {locs : List Loc} {cells slots : Nat} {Q : State → Prop}
variable {cc : ByteArray} {pc : Nat} {ls : Array Slot} {rest : List Value} {D : va_G} {cl : List vw_C} {A : Nat → Prop} {a : Nat} {tys : List (ClassId × FieldType)} {ws : va_W} {H0 : Heap}
theorem jn_cgtT (hexec : p.tables.exec = Jvm.exec) (hb : c.code = cc) {x y : Nat} (hx : x < 2147483648) (hy : y < 4294967296) {off : Int} {tgt : Nat} (hdg : decode cc pc = .ok (.if_icmp .gt off, 3)) (ht : (pc : Int) + off = (tgt : Int))
    (kt : (y < x ∨ 2147483648 ≤ y) → W p l e R s m args below meth c H locs cells slots Q (F0 m tgt ls rest)) (kf : (x ≤ y ∧ y < 2147483648) → W p l e R s m args below meth c H locs cells slots Q (F0 m (pc + 3) ls rest)) : W p l e R s m args below meth c H locs cells slots Q (F0 m pc ls (.int (nI y) :: .int (nI x) :: rest)) := lv_icmp_gt hexec hb hdg ht (fun h => kt ((jn_ltS hy hx).mp h)) (fun h => kf (by have q : ¬ (y < x ∨ 2147483648 ≤ y) := fun z => h ((jn_ltS hy hx).mpr z); omega))
end JNR6
theorem ifc {P Q : Prop} [Decidable P] [Decidable Q] (h : P ↔ Q) : (if P then 1 else 0 : Nat) = if Q then 1 else 0 := by
  by_cases p : P
  · rw [if_pos p, if_pos (h.mp p)]
  · rw [if_neg p, if_neg (fun q => p (h.mpr q))]
theorem ifn {P Q : Prop} [Decidable P] [Decidable Q] (h : P ↔ Q) : nI (if P then 1 else 0) = nI (if Q then 1 else 0) := by rw [ifc h]
theorem ite_1 {P : Prop} [Decidable P] (h : (if P then 1 else 0 : Nat) = 1) : P := Classical.not_not.mp (fun q => by rw [if_neg q] at h; cases h)
theorem ite_n1 {P : Prop} [Decidable P] (h : (if P then 1 else 0 : Nat) ≠ 1) : ¬ P := fun q => h (if_pos q)
theorem ite_lt {P : Prop} [Decidable P] : (if P then 1 else 0 : Nat) < 2147483648 := by split <;> decide
