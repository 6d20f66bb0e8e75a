/-- a difference of ints, as a number below 2^32 -/
def sb (x y : Nat) : Nat := if y ≤ x then x - y else x + 4294967296 - y
theorem sb_lt {x y : Nat} (hx : x < 4294967296) : sb x y < 4294967296 := by unfold sb; split <;> omega
theorem sb_small {x y n : Nat} (hx : x < 2147483648) (hy : y < 2147483648) (hn : n ≤ 2147483648) : sb x y < n ↔ y ≤ x ∧ x < y + n := by unfold sb; split <;> omega
theorem sb_eq {x y : Nat} (h : y ≤ x) : sb x y = x - y := if_pos h
theorem jn_sb {x y : Nat} (hy : y ≤ 4294967296) : nI x - nI y = nI (sb x y) := by
  unfold sb
  split
  · rename_i h; exact pk_sub h
  · exact jn_wrap (by omega)
section JNR3
variable {p : Program} {l : Launch} {e : Env} {R : Room} {s : State} {m : MethodId} {args : Array Value} {below : List Frame} {meth : Method} {c : Code} {H : Heap} {locs : List Loc} {cells slots : Nat} {Q : State → Prop}
variable {cc : ByteArray} {pc : Nat} {ls : Array Slot} {rest : List Value} {D : va_G} {cl : List vw_C} {A : Nat → Prop} {a : Nat} {tys : List (ClassId × FieldType)} {ws : va_W} {H0 : Heap}
theorem jn_shlm2 (hexec : p.tables.exec = Jvm.exec) (hb : c.code = cc) {y : Nat} (hy : y < 31) (hdg : decode cc pc = .ok (.ishl, 1))
    (k : W p l e R s m args below meth c H locs cells slots Q (F0 m (pc + 1) ls (.int (nI (4294967296 - 2 ^ (y + 1))) :: rest))) : W p l e R s m args below meth c H locs cells slots Q (F0 m pc ls (.int (nI y) :: .int (nI 4294967294) :: rest)) := lv_ishl hexec hb hdg (by rw [(by decide +kernel : ∀ y, y < 31 → nI 4294967294 <<< (nI y &&& 31) = nI (4294967296 - 2 ^ (y + 1))) y hy]; exact k)
theorem jn_isubB (hexec : p.tables.exec = Jvm.exec) (hb : c.code = cc) {x y : Nat} (h : y ≤ 4294967296) (hdg : decode cc pc = .ok (.isub, 1))
    (k : W p l e R s m args below meth c H locs cells slots Q (F0 m (pc + 1) ls (.int (nI (sb x y)) :: rest))) : W p l e R s m args below meth c H locs cells slots Q (F0 m pc ls (.int (nI y) :: .int (nI x) :: rest)) := lv_isub hexec hb hdg (by rw [jn_sb h]; exact k)
theorem jn_tabIn (hexec : p.tables.exec = Jvm.exec) (hb : c.code = cc) {dflt hi : Int} {offs : Array Int} {len : Nat} {x : Nat} (j : Nat) {off : Int} {tgt : Nat} (hdg : decode cc pc = .ok (.tableswitch dflt 0 hi offs, len)) (hx : x = j) (hj : j < 2147483648) (h2 : ¬ hi < (j : Int)) (ho : offs[j]? = some off) (ht : (pc : Int) + off = (tgt : Int))
    (k : W p l e R s m args below meth c H locs cells slots Q (F0 m tgt ls rest)) : W p l e R s m args below meth c H locs cells slots Q (F0 m pc ls (.int (nI x) :: rest)) := by
  subst hx
  have e : (nI x).toInt = (x : Int) := nI_toInt hj
  exact lv_tableIn hexec hb hdg (by rw [e]; omega) (by rw [e]; exact h2) (by rw [e]; simpa using ho) ht k
theorem jn_tabOut (hexec : p.tables.exec = Jvm.exec) (hb : c.code = cc) {dflt hi : Int} {offs : Array Int} {len : Nat} {x : Nat} {tgt : Nat} (hdg : decode cc pc = .ok (.tableswitch dflt 0 hi offs, len)) (hx : x < 2147483648) (h2 : hi < (x : Int)) (ht : (pc : Int) + dflt = (tgt : Int))
    (k : W p l e R s m args below meth c H locs cells slots Q (F0 m tgt ls rest)) : W p l e R s m args below meth c H locs cells slots Q (F0 m pc ls (.int (nI x) :: rest)) := lv_tableOut hexec hb hdg (Or.inr (by rw [nI_toInt hx]; exact h2)) ht k
theorem jn_aald (hexec : p.tables.exec = Jvm.exec) (hb : c.code = cc) (hK : va_K D cl tys s) (hP : va_P D cl ws H) (q0 t0 : Nat) {cA : ClassId} {n b : Nat} {f : Nat → Option Nat} (ha : ws[q0]? = some (a, .inl (cA, n, .inr (.inr (.inr (.inr f)))))) (ht : tys[t0]? = some (cA, .array .int)) {i : Nat} (hi : i < n) (hn : n < 2147483648) (hv : f i = some b) (hdg : decode cc pc = .ok (.aaload, 1))
    (kk : W p l e R s m args below meth c H locs cells slots Q (F0 m (pc + 1) ls (.ref b :: rest))) : W p l e R s m args below meth c H locs cells slots Q (F0 m pc ls (.int (nI i) :: .ref a :: rest)) := by
  have hin := vp_in_nI hi hn
  have hlt : (nI i).toNatClampNeg < n := Nat.not_le.mp fun q => hin (Or.inr q)
  have hcl : (nI i).toNatClampNeg = i := nI_clamp (Nat.lt_trans hi hn)
  refine W.aald (v := va_rf (f (nI i).toNatClampNeg)) (ty := .array .int) hexec hb (hP q0 _ ha) ((hK.2 t0 _ ht).1 n (fun j => va_rf (f j))) rfl (fun q => by cases q) (by show ¬ (nI i < 0 ∨ (arrV _ _ _).slots.size ≤ _); rw [arrV_size]; exact hin) (by show (arrV _ _ _).slots[_]? = _; rw [arrV_read _ _ hlt]) rfl rfl hdg ?_
  rw [hcl, hv]
  exact kk
end JNR3
