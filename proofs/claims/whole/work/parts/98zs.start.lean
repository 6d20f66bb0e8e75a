/-! ===== the law's start ===== -/
theorem st_cls {s : State} {a : Array Value} (htl : ∀ w ∈ lw_tbl, w.before a s = true) : ∃ (dC : Nat → ClassId) (dI : Nat → Nat → Nat), ∀ (k : Nat) (q : vw_C), vwCl[k]? = some q → u_Kn s q.1 q.2.1 q.2.2 (dC k) (dI k) := by
  obtain ⟨c0, i0, h0⟩ := u_known (C := RJ0) (T := TJ0) (N := 2) (n := 4) htl inJ0 (htl (.instantiable RJ0 4) (by decide +kernel))
  obtain ⟨c1, i1, h1⟩ := u_known (C := RJx00060) (T := TJx00060) (N := 6) (n := 6) htl inJx00060 (htl (.instantiable RJx00060 6) (by decide +kernel))
  obtain ⟨c2, i2, h2⟩ := u_known (C := RX0) (T := TX0) (N := 3) (n := 3) htl inX0 (htl (.instantiable RX0 3) (by decide +kernel))
  obtain ⟨c3, i3, h3⟩ := u_known (C := RX1) (T := TX1) (N := 5) (n := 5) htl inX1 (htl (.instantiable RX1 5) (by decide +kernel))
  obtain ⟨c4, i4, h4⟩ := u_known (C := RX2) (T := TX2) (N := 7) (n := 7) htl inX2 (htl (.instantiable RX2 7) (by decide +kernel))
  obtain ⟨c5, i5, h5⟩ := u_known (C := RX3) (T := TX3) (N := 1) (n := 1) htl inX3 (htl (.instantiable RX3 1) (by decide +kernel))
  obtain ⟨c6, i6, h6⟩ := u_known (C := RX4) (T := TX4) (N := 2) (n := 2) htl inX4 (htl (.instantiable RX4 2) (by decide +kernel))
  obtain ⟨c7, i7, h7⟩ := u_known (C := RX5) (T := TX5) (N := 1) (n := 1) htl inX5 (htl (.instantiable RX5 1) (by decide +kernel))
  obtain ⟨c8, i8, h8⟩ := u_known (C := RX6) (T := TX6) (N := 1) (n := 1) htl inX6 (htl (.instantiable RX6 1) (by decide +kernel))
  obtain ⟨c9, i9, h9⟩ := u_known (C := RX7) (T := TX7) (N := 5) (n := 5) htl inX7 (htl (.instantiable RX7 5) (by decide +kernel))
  obtain ⟨c10, i10, h10⟩ := u_known (C := RX8) (T := TX8) (N := 5) (n := 5) htl inX8 (htl (.instantiable RX8 5) (by decide +kernel))
  obtain ⟨c11, i11, h11⟩ := u_known (C := RX9) (T := TX9) (N := 7) (n := 7) htl inX9 (htl (.instantiable RX9 7) (by decide +kernel))
  obtain ⟨c12, i12, h12⟩ := u_known (C := RX10) (T := TX10) (N := 15) (n := 15) htl inX10 (htl (.instantiable RX10 15) (by decide +kernel))
  obtain ⟨c13, i13, h13⟩ := u_known (C := RX11) (T := TX11) (N := 30) (n := 30) htl inX11 (htl (.instantiable RX11 30) (by decide +kernel))
  refine ⟨fun k => [c0, c1, c2, c3, c4, c5, c6, c7, c8, c9, c10, c11, c12, c13].getD k c0, fun k => [i0, i1, i2, i3, i4, i5, i6, i7, i8, i9, i10, i11, i12, i13].getD k i0, ?_⟩
  intro k q hq
  match k, hq with
  | 0, hq => cases hq; exact h0
  | 1, hq => cases hq; exact h1
  | 2, hq => cases hq; exact h2
  | 3, hq => cases hq; exact h3
  | 4, hq => cases hq; exact h4
  | 5, hq => cases hq; exact h5
  | 6, hq => cases hq; exact h6
  | 7, hq => cases hq; exact h7
  | 8, hq => cases hq; exact h8
  | 9, hq => cases hq; exact h9
  | 10, hq => cases hq; exact h10
  | 11, hq => cases hq; exact h11
  | 12, hq => cases hq; exact h12
  | 13, hq => cases hq; exact h13
  | k + 14, hq => cases hq
theorem st_arr {s : State} {cA comp : ClassId} {kA : Class} {ty : FieldType} (h2 : s.vm.classes[cA]? = some kA) (h3 : kA.kind = .array comp ty) : ArrOfT s cA ty := fun n z => ⟨fun k h => (by cases h), kA, h2, comp, h3⟩
theorem st_tys {s : State} {a : Array Value} (htl : ∀ w ∈ lw_tbl, w.before a s = true) : ∃ cs : Nat → ClassId, ∀ (k : Nat) (q : ClassId × FieldType), [(cs 0, FieldType.int), (cs 1, .long), (cs 2, .boolean), (cs 3, .array .int), (cs 4, .double)][k]? = some q → ArrOfT s q.1 q.2 ∧ va_RA s q.1 q.2 := by
  obtain ⟨c0, k0, m0, a0, b0, d0⟩ := Cond.arrayClass_spec (htl (.arrayClass .int) (by decide +kernel))
  obtain ⟨c1, k1, m1, a1, b1, d1⟩ := Cond.arrayClass_spec (htl (.arrayClass .long) (by decide +kernel))
  obtain ⟨c2, k2, m2, a2, b2, d2⟩ := Cond.arrayClass_spec (htl (.arrayClass .boolean) (by decide +kernel))
  obtain ⟨m3, c3, k3, e3, b3, d3, a3⟩ := Cond.arrayOver_specA (htl (.arrayOver (.array .int)) (by decide +kernel))
  obtain ⟨c4, k4, m4, a4, b4, d4⟩ := Cond.arrayClass_spec (htl (.arrayClass .double) (by decide +kernel))
  refine ⟨fun k => [c0, c1, c2, c3, c4].getD k c0, ?_⟩
  intro k q hq
  match k, hq with
  | 0, hq => cases hq; exact ⟨st_arr b0 d0, a0⟩
  | 1, hq => cases hq; exact ⟨st_arr b1 d1, a1⟩
  | 2, hq => cases hq; exact ⟨st_arr b2 d2, a2⟩
  | 3, hq => cases hq; exact ⟨st_arr b3 d3, a3⟩
  | 4, hq => cases hq; exact ⟨st_arr b4 d4, a4⟩
  | k + 5, hq => cases hq
theorem st_KM {s : State} {a : Array Value} (htl : ∀ w ∈ lw_tbl, w.before a s = true) : KM s := by
  obtain ⟨c0, k0, m0, a0, b0, d0⟩ := Cond.arrayClass_spec (htl (.arrayClass .int) (by decide +kernel))
  obtain ⟨m3, c3, k3, e3, b3, d3, a3⟩ := Cond.arrayOver_specA (htl (.arrayOver (.array .int)) (by decide +kernel))
  have e1 : s.vm.findClass "[I" = some c0 := a0
  have e2 : s.vm.findClass "[I" = some m3 := e3
  have e4 : s.vm.findClass "[[I" = some c3 := a3
  cases Option.some.inj (e1.symm.trans e2)
  exact ⟨c3, c0, m0, k3, k0, e4, e1, b3, d3, b0, d0⟩
theorem st_nw {s : State} {a : Array Value} (htl : ∀ w ∈ lw_tbl, w.before a s = true) : ∀ w ∈ nwL, va_Nw w s := fun w hw => va_Nw.of ((by decide +kernel : ∀ w ∈ nwL, w.onTables = true) w hw) (htl w ((by decide +kernel : ∀ w ∈ nwL, w ∈ lw_tbl) w hw))
theorem st_ex {s : State} {a : Array Value} (htl : ∀ w ∈ lw_tbl, w.before a s = true) : ∀ q ∈ exL, va_Nw (.castable q q) s := fun q hq => va_Nw.of rfl (htl _ ((by decide +kernel : ∀ q ∈ exL, Cond.castable q q ∈ lw_tbl) q hq))
theorem st_dec {s : State} {a : Array Value} (htl : ∀ w ∈ lw_tbl, w.before a s = true) : ∀ q ∈ decL, va_Nw (.declares (Bundle.initS q)) s := fun q hq => va_Nw.of rfl (htl _ ((by decide +kernel : ∀ q ∈ decL, Cond.declares (Bundle.initS q) ∈ lw_tbl) q hq))
theorem st_cl {s : State} {a : Array Value} (htl : ∀ w ∈ lw_tbl, w.before a s = true) : ∀ q ∈ clL, va_Nw (.classLink RL q.1 q.2) s := fun q hq => va_Nw.of rfl (htl _ ((by decide +kernel : ∀ q ∈ clL, Cond.classLink RL q.1 q.2 ∈ lw_tbl) q hq))
theorem st_nc {s : State} {a : Array Value} (hgv : (Jvm.Cond.and given_1 narrow_1).before a s = true) : ∀ q ∈ ncL, va_Nc q.1 q.2 s := fun q hq => va_Nc.of (flat_of_before _ hgv _ ((by decide +kernel : ∀ q ∈ ncL, Cond.not (.castable q.1 q.2) ∈ flatC (Jvm.Cond.and given_1 narrow_1)) q hq))
theorem st_str {s : State} {a : Array Value} (htl : ∀ w ∈ lw_tbl, w.before a s = true) (hgv : (Jvm.Cond.and given_1 narrow_1).before a s = true) : ∀ q ∈ strL, ∃ sa, vk_R RX10 q.1 q.2 sa s := fun q hq => by
  have h1 := htl _ ((by decide +kernel : ∀ q ∈ strL, Cond.stringRef RX10 q.1 q.2 ∈ lw_tbl) q hq)
  have h2 := flat_of_before _ hgv _ ((by decide +kernel : ∀ q ∈ strL, Cond.exactly (.string RX10 q.1) "java/lang/String" ∈ flatC (Jvm.Cond.and given_1 narrow_1)) q hq)
  obtain ⟨sa, _, _, _, hsa, -⟩ := Cond.exactly_spec h2
  exact ⟨sa, vk_R.of h1 hsa⟩
theorem st_Z {s : State} {a : Array Value} (htl : ∀ w ∈ lw_tbl, w.before a s = true) (hgv : (Jvm.Cond.and given_1 narrow_1).before a s = true) : ZX (fun q => s.heap.size ≤ q) s s.heap :=
  ⟨vx_Zqof (htl (.laysStatic Bundle.tN "UNASSIGNED_STACK" Bundle.steD) (by decide +kernel)) (htl (.initialized Bundle.tN) (by decide +kernel)) (flat_of_before _ hgv (.isRef (.static Bundle.tN "UNASSIGNED_STACK" Bundle.steD)) (by decide +kernel)) (fun a h => Nat.not_le.mpr h), vx_Zqof (htl (.laysStatic Bundle.tN "SUPPRESSED_SENTINEL" Bundle.listD) (by decide +kernel)) (htl (.initialized Bundle.tN) (by decide +kernel)) (flat_of_before _ hgv (.isRef (.static Bundle.tN "SUPPRESSED_SENTINEL" Bundle.listD)) (by decide +kernel)) (fun a h => Nat.not_le.mpr h)⟩
