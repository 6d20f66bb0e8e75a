/-- words that were chosen as good are good -/
theorem gsub_f (L : List Cond) : (L.filter goodWord).all goodWord = true := List.all_eq_true.mpr (fun _ h => (List.mem_filter.mp h).2)
