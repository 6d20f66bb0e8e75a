def τ0 : SS := (fun k => if k = 5 then 4294967295 else 0, fun _ _ => 0, fun _ _ => 0)
/-- the start of both -/
theorem inv_0 : Inv σ0 τ0 := by
  have hn : OkN (fun _ => 0) := ⟨fun k _ => (by decide : 0 < 32), (by decide : 0 < 32), fun s hs => ⟨Nat.zero_le _, fun l hl => absurd hl (Nat.not_lt_zero _)⟩, by decide⟩
  refine ⟨⟨⟨fun _ _ => rfl, rfl, fun s hs => ⟨rfl, fun l hl => absurd hl (Nat.not_lt_zero _)⟩, hn⟩, fun x hx m hm => ?_, ⟨by decide, by decide, rfl, fun j hj => absurd hj (Nat.not_lt_zero _)⟩, ⟨by decide, rfl, fun h => absurd rfl h⟩, ⟨rfl, by decide, rfl, fun k hk => absurd hk (Nat.not_lt_zero _), rfl, by decide⟩, ⟨rfl, by decide, fun i hi => absurd hi (Nat.not_lt_zero _)⟩, by decide, fun h => absurd h (by decide), by decide⟩, rfl⟩
  show 0 = stp (fun _ => 0) x m
  unfold stp
  rw [orU_cong (g := fun _ => 0) (fun q _ => by split <;> rfl)]
  rfl
