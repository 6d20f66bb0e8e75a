/-! ===== the tables by blocks ===== -/
def tblB : List (List Cond) := [tables_1_1, tables_1_2, tables_1_3, tables_1_4, tables_1_5, tables_1_6, tables_1_7, tables_1_8, k2_sels lw_privs_1, k2_sels lw_privs_2, k2_sels lw_privs_3, k2_sels lw_privs_4, k2_sels lw_privs_5]
theorem tblB_0 : ∀ w ∈ tables_1_1, w ∈ lw_tbl := fun w h => List.mem_append_right _ (show w ∈ tables_1 from List.mem_append_left _ h)
theorem tblB_1 : ∀ w ∈ tables_1_2, w ∈ lw_tbl := fun w h => List.mem_append_right _ (show w ∈ tables_1 from List.mem_append_right _ (List.mem_append_left _ h))
theorem tblB_2 : ∀ w ∈ tables_1_3, w ∈ lw_tbl := fun w h => List.mem_append_right _ (show w ∈ tables_1 from List.mem_append_right _ (List.mem_append_right _ (List.mem_append_left _ h)))
theorem tblB_3 : ∀ w ∈ tables_1_4, w ∈ lw_tbl := fun w h => List.mem_append_right _ (show w ∈ tables_1 from List.mem_append_right _ (List.mem_append_right _ (List.mem_append_right _ (List.mem_append_left _ h))))
theorem tblB_4 : ∀ w ∈ tables_1_5, w ∈ lw_tbl := fun w h => List.mem_append_right _ (show w ∈ tables_1 from List.mem_append_right _ (List.mem_append_right _ (List.mem_append_right _ (List.mem_append_right _ (List.mem_append_left _ h)))))
theorem tblB_5 : ∀ w ∈ tables_1_6, w ∈ lw_tbl := fun w h => List.mem_append_right _ (show w ∈ tables_1 from List.mem_append_right _ (List.mem_append_right _ (List.mem_append_right _ (List.mem_append_right _ (List.mem_append_right _ (List.mem_append_left _ h))))))
theorem tblB_6 : ∀ w ∈ tables_1_7, w ∈ lw_tbl := fun w h => List.mem_append_right _ (show w ∈ tables_1 from List.mem_append_right _ (List.mem_append_right _ (List.mem_append_right _ (List.mem_append_right _ (List.mem_append_right _ (List.mem_append_right _ (List.mem_append_left _ h)))))))
theorem tblB_7 : ∀ w ∈ tables_1_8, w ∈ lw_tbl := fun w h => List.mem_append_right _ (show w ∈ tables_1 from List.mem_append_right _ (List.mem_append_right _ (List.mem_append_right _ (List.mem_append_right _ (List.mem_append_right _ (List.mem_append_right _ (List.mem_append_right _ h)))))))
theorem tblP_0 : ∀ q ∈ lw_privs_1, q ∈ lw_privs := fun q h => List.mem_append_left _ h
theorem tblB_8 : ∀ w ∈ k2_sels lw_privs_1, w ∈ lw_tbl := fun w h => List.mem_append_left _ (by obtain ⟨q, h1, h2⟩ := List.mem_map.mp h; exact List.mem_map.mpr ⟨q, tblP_0 q h1, h2⟩)
theorem tblP_1 : ∀ q ∈ lw_privs_2, q ∈ lw_privs := fun q h => List.mem_append_right _ (List.mem_append_left _ h)
theorem tblB_9 : ∀ w ∈ k2_sels lw_privs_2, w ∈ lw_tbl := fun w h => List.mem_append_left _ (by obtain ⟨q, h1, h2⟩ := List.mem_map.mp h; exact List.mem_map.mpr ⟨q, tblP_1 q h1, h2⟩)
theorem tblP_2 : ∀ q ∈ lw_privs_3, q ∈ lw_privs := fun q h => List.mem_append_right _ (List.mem_append_right _ (List.mem_append_left _ h))
theorem tblB_10 : ∀ w ∈ k2_sels lw_privs_3, w ∈ lw_tbl := fun w h => List.mem_append_left _ (by obtain ⟨q, h1, h2⟩ := List.mem_map.mp h; exact List.mem_map.mpr ⟨q, tblP_2 q h1, h2⟩)
theorem tblP_3 : ∀ q ∈ lw_privs_4, q ∈ lw_privs := fun q h => List.mem_append_right _ (List.mem_append_right _ (List.mem_append_right _ (List.mem_append_left _ h)))
theorem tblB_11 : ∀ w ∈ k2_sels lw_privs_4, w ∈ lw_tbl := fun w h => List.mem_append_left _ (by obtain ⟨q, h1, h2⟩ := List.mem_map.mp h; exact List.mem_map.mpr ⟨q, tblP_3 q h1, h2⟩)
theorem tblP_4 : ∀ q ∈ lw_privs_5, q ∈ lw_privs := fun q h => List.mem_append_right _ (List.mem_append_right _ (List.mem_append_right _ (List.mem_append_right _ h)))
theorem tblB_12 : ∀ w ∈ k2_sels lw_privs_5, w ∈ lw_tbl := fun w h => List.mem_append_left _ (by obtain ⟨q, h1, h2⟩ := List.mem_map.mp h; exact List.mem_map.mpr ⟨q, tblP_4 q h1, h2⟩)
theorem tblB_in : ∀ b ∈ tblB, ∀ w ∈ b, w ∈ lw_tbl := (List.forall_mem_cons.mpr ⟨tblB_0, (List.forall_mem_cons.mpr ⟨tblB_1, (List.forall_mem_cons.mpr ⟨tblB_2, (List.forall_mem_cons.mpr ⟨tblB_3, (List.forall_mem_cons.mpr ⟨tblB_4, (List.forall_mem_cons.mpr ⟨tblB_5, (List.forall_mem_cons.mpr ⟨tblB_6, (List.forall_mem_cons.mpr ⟨tblB_7, (List.forall_mem_cons.mpr ⟨tblB_8, (List.forall_mem_cons.mpr ⟨tblB_9, (List.forall_mem_cons.mpr ⟨tblB_10, (List.forall_mem_cons.mpr ⟨tblB_11, (List.forall_mem_cons.mpr ⟨tblB_12, (fun _ h => by cases h)⟩)⟩)⟩)⟩)⟩)⟩)⟩)⟩)⟩)⟩)⟩)⟩)⟩)
theorem inT_b (ws : List Cond) (ps : List (Nat × Nat)) (hp : ws = ps.filterMap (fun q => (tblB[q.1]?).bind (fun b => b[q.2]?))) : ∀ w ∈ ws, w ∈ lw_tbl := by
  intro w hw
  rw [hp] at hw
  obtain ⟨q, -, hq⟩ := List.mem_filterMap.mp hw
  have hq : (tblB[q.1]?).bind (fun b => b[q.2]?) = some w := hq
  cases hb : tblB[q.1]? with
  | none => rw [hb] at hq; cases hq
  | some b =>
    rw [hb] at hq
    have hq : b[q.2]? = some w := hq
    exact tblB_in b (List.mem_of_getElem? hb) w (List.mem_of_getElem? hq)
