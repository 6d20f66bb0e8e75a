theorem lN_nat {x : Nat} (h : x < 18446744073709551616) : (lN x).toBitVec.toNat = x := by
  show (BitVec.ofNat 64 x).toNat = x
  rw [BitVec.toNat_ofNat, Nat.mod_eq_of_lt h]
theorem lN_injU {x y : Nat} (hx : x < 18446744073709551616) (hy : y < 18446744073709551616) : lN x = lN y ↔ x = y := by
  constructor
  · intro h
    have h1 : (lN x).toBitVec.toNat = (lN y).toBitVec.toNat := by rw [h]
    rw [lN_nat hx, lN_nat hy] at h1
    exact h1
  · intro h; rw [h]
/-- a long less one -/
def slb (r : Nat) : Nat := if r = 0 then 18446744073709551615 else r - 1
theorem slb_lt {r : Nat} (h : r < 18446744073709551616) : slb r < 18446744073709551616 := by unfold slb; split <;> omega
theorem jn_slb (r : Nat) : lN r - lN 1 = lN (slb r) := by
  unfold slb
  split
  · rename_i h; subst h; decide
  · exact lN_sub (by omega)
section JNR7
variable {p : Program} {l : Launch} {e : Env} {R : Room} {s : State} {m : MethodId} {args : Array Value} {below : List Frame} {meth : Method} {c : Code} {H : Heap} {locs : List Loc} {cells slots : Nat} {Q : State → Prop}
variable {cc : ByteArray} {pc : Nat} {ls : Array Slot} {rest : List Value} {D : va_G} {cl : List vw_C} {A : Nat → Prop} {a : Nat} {tys : List (ClassId × FieldType)} {ws : va_W} {H0 : Heap}
theorem jn_leqU (hexec : p.tables.exec = Jvm.exec) (hb : c.code = cc) {x y : Nat} (hx : x < 18446744073709551616) (hy : y < 18446744073709551616) {off : Int} {tgt : Nat} (hdg : decode cc pc = .ok (.ifCond .eq off, 3)) (ht : (pc : Int) + off = (tgt : Int))
    (kt : x = y → W p l e R s m args below meth c H locs cells slots Q (F0 m tgt ls rest)) (kf : x ≠ y → W p l e R s m args below meth c H locs cells slots Q (F0 m (pc + 3) ls rest)) : W p l e R s m args below meth c H locs cells slots Q (F0 m pc ls (.int (Jvm.Free.XT.cmpL (lN x) (lN y)) :: rest)) := lv_if_eq hexec hb hdg ht (fun h => kt ((lN_injU hx hy).mp ((cmpL_eq _ _).mp h))) (fun h => kf (fun q => h ((cmpL_eq _ _).mpr (by rw [q]))))
theorem jn_lneU (hexec : p.tables.exec = Jvm.exec) (hb : c.code = cc) {x y : Nat} (hx : x < 18446744073709551616) (hy : y < 18446744073709551616) {off : Int} {tgt : Nat} (hdg : decode cc pc = .ok (.ifCond .ne off, 3)) (ht : (pc : Int) + off = (tgt : Int))
    (kt : x ≠ y → W p l e R s m args below meth c H locs cells slots Q (F0 m tgt ls rest)) (kf : x = y → W p l e R s m args below meth c H locs cells slots Q (F0 m (pc + 3) ls rest)) : W p l e R s m args below meth c H locs cells slots Q (F0 m pc ls (.int (Jvm.Free.XT.cmpL (lN x) (lN y)) :: rest)) := lv_if_ne hexec hb hdg ht (fun h => kt (fun q => h ((cmpL_eq _ _).mpr (by rw [q])))) (fun h => kf ((lN_injU hx hy).mp ((cmpL_eq _ _).mp h)))
theorem jn_lsub1 (hexec : p.tables.exec = Jvm.exec) (hb : c.code = cc) {x : Nat} (hdg : decode cc pc = .ok (.lsub, 1))
    (k : W p l e R s m args below meth c H locs cells slots Q (F0 m (pc + 1) ls (.long (lN (slb x)) :: rest))) : W p l e R s m args below meth c H locs cells slots Q (F0 m pc ls (.long (lN 1) :: .long (lN x) :: rest)) := lv_lsub hexec hb hdg (by rw [jn_slb]; exact k)
end JNR7
