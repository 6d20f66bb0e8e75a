section LWC
variable {p : Program} {l : Launch} {e : Env} {s : State} {m : MethodId} {below : List Frame} {meth : Method} {c : Code} {H : Heap} {locs : List Loc} {cells slots : Nat} {Q : State → Prop} {ls : Array Slot} {A : Nat → Prop} {b L i ao ad : Nat} {xs : Nat → Int32} {g : GC} {aM : Nat → Nat} {σ τ : SS} {ov : Nat → Int64} {dv : Nat → UInt64}

set_option maxHeartbeats 4000000 in
set_option maxRecDepth 100000 in
theorem lwc_1746 (hflg : l.stackTraces = false) (C : LC p s m c cL_law b L xs A g) (hi : i + 5 < L) (hI : Inv σ τ) (hP : va_P (g.1, g.2.1) vwCl (LW g aM ao ad (σ, ov, dv) τ) H) (hD : va_D A (LW g aM ao ad (σ, ov, dv) τ)) (hS : va_S A s.heap H locs) (hl : lv_has ls 9 (LV b g aM ao ad i)) (hc : cells + 3 ≤ room_1.cells) (hsl : slots + 18 ≤ room_1.slots) (kk : LK p l e s m below meth c cells slots Q A b i ao ad g aM) : W p l e room_1 s m #[Value.ref b] below meth c H locs cells slots Q (F0 m 1746 ls []) := by
  have C0 := C
  obtain ⟨hx, hb, hml, hown, hts, hK, hZ, hX, hbl, hbA, hAA, hL⟩ := C0
  obtain ⟨x1, hx1, ex1⟩ := nI_ex (xs (i + 1))
  obtain ⟨x2, hx2, ex2⟩ := nI_ex (xs (i + 2))
  obtain ⟨x3, hx3, ex3⟩ := nI_ex (xs (i + 3))
  obtain ⟨x4, hx4, ex4⟩ := nI_ex (xs (i + 4))
  obtain ⟨x5, hx5, ex5⟩ := nI_ex (xs (i + 5))
  have hc : cells + 3 ≤ 603072 := hc
  have hsl : slots + 18 ≤ 7170154 := hsl
  refine lv_aload_n hx hb dL_law_1746 rfl (lv_at hl 1 rfl) ?_
  refine lw_arg C hS hl (List.mem_of_getElem? (i := 0) rfl) (List.mem_of_getElem? (i := 5) rfl) (k := 1) (by decide) (by omega) ex1 dL_law_1747 dL_law_1748 dL_law_1750 dL_law_1751 dL_law_1752 ?_
  refine lw_arg C hS hl (List.mem_of_getElem? (i := 0) rfl) (List.mem_of_getElem? (i := 5) rfl) (k := 2) (by decide) (by omega) ex2 dL_law_1753 dL_law_1754 dL_law_1756 dL_law_1757 dL_law_1758 ?_
  refine lv_aload_n hx hb dL_law_1759 rfl (lv_at hl 3 rfl) ?_
  refine jI_calli (wf := wH g ao ad (wM (gMo g aM) τ ++ [])) (vx_runSW (As := [.ref (g.2.2.2 0), .int (nI x1), .int (nI x2), .ref ao]) (rest := []) ⟨hx, hb, hml, hown, hts⟩ (h_elements l hflg g (wM (gMo g aM) τ ++ []) H.size σ ao ad ov dv x1 x2 hI.okC hx1 hx2) (vx_cwSW 4 hts gL_law_L_elements rfl rfl rfl (by decide +kernel) ⟨Nat.le_of_ble_eq_true rfl, Nat.le_of_ble_eq_true rfl⟩) (okHS hK (lw_P3 hP) (lw_D3 hD) hZ hS hAA) rfl rfl hl.1 rfl (lv_room (Nat.le_of_ble_eq_true rfl)) dL_law_1760 ⟨by show cells + 2 ≤ 603072; omega, by show slots + 12 ≤ 7170154; omega⟩) (lw_D3 hD) hS hAA (fun r z H locs hr hP hD hS => ?_)
  have hP := lw_P4 hP
  have hD := lw_D4 hD
  refine lv_istore (lv' := ((6, .int r) :: LV b g aM ao ad i)) hx hb dL_law_1763 hl (by decide) rfl (fun ls hl => ?_)
  refine lv_aload_n hx hb dL_law_1765 rfl (lv_at hl 3 rfl) ?_
  refine lw_arg C hS hl (List.mem_of_getElem? (i := 1) rfl) (List.mem_of_getElem? (i := 6) rfl) (k := 1) (by decide) (by omega) ex1 dL_law_1766 dL_law_1767 dL_law_1769 dL_law_1770 dL_law_1771 ?_
  refine lw_arg C hS hl (List.mem_of_getElem? (i := 1) rfl) (List.mem_of_getElem? (i := 6) rfl) (k := 2) (by decide) (by omega) ex2 dL_law_1772 dL_law_1773 dL_law_1775 dL_law_1776 dL_law_1777 ?_
  refine jn_calli (va_runV (As := [.int (nI x1), .int (nI x2)]) (rest := []) ⟨hx, hb, hml, hown, hts⟩ (c_X11_elements l (gMo g aM) (wX g ao ad z ++ []) H.size τ x1 x2 hI.okS hx1 hx2) (cwV 2 hts gL_law_X11_elements rfl rfl rfl (by decide +kernel) ⟨Nat.le_of_ble_eq_true rfl, Nat.le_of_ble_eq_true rfl⟩) (okWV (g := gMo g aM) hK.1.1 (lw_P1 hP) (lw_D1 hD) rfl (gM0 (gMo g aM) τ (wX g ao ad z ++ []))) rfl rfl hl.1 rfl (lv_room (Nat.le_of_ble_eq_true rfl)) dL_law_1778 ⟨by show cells + 2 + 0 ≤ 603072; omega, by show slots + 12 + 0 ≤ 7170154; omega⟩) (lw_D1 hD) hS hAA (fun v2 u H locs hw hP hD hS => ?_)
  obtain ⟨r0, th⟩ := u
  obtain ⟨rfl, hw⟩ := hw
  have hm : RM_elements τ x1 x2 _ (sF τ 0 th) := ⟨r0, th, rfl, hw, rfl⟩
  have hP := lw_P2 (z := z) (τ := (sF τ 0 th)) hP
  have hD := lw_D2 (z := z) (τ := (sF τ 0 th)) hD
  have ht := tie_elements hI hr hm
  refine lv_istore (lv' := ((7, .int (nI (r0))) :: (6, .int r) :: LV b g aM ao ad i)) hx hb dL_law_1781 hl (by decide) rfl (fun ls hl => ?_)
  refine lw_thrown C gL_law_X11_thrown ⟨Nat.le_of_ble_eq_true rfl, Nat.le_of_ble_eq_true rfl⟩ ⟨by show cells + 2 + 0 ≤ 603072; omega, by show slots + 12 + 0 ≤ 7170154; omega⟩ hP hl (List.mem_of_getElem? (i := 4) rfl) (List.mem_of_getElem? (i := 1) rfl) ht.1 dL_law_1783 dL_law_1784 dL_law_1787 dL_law_1789 ?_ (Nat.le_of_ble_eq_true rfl)
  refine lw_cmpI C hP hl (List.mem_of_getElem? (i := 5) rfl) (List.mem_of_getElem? (i := 1) rfl) (List.mem_of_getElem? (i := 0) rfl) ht.2.1 dL_law_1794 dL_law_1796 dL_law_1799 dL_law_1800 dL_law_1801 dL_law_1802 dL_law_1804 dL_law_1805 dL_law_1806 ?_
  refine lv_goto (tgt := 2501) hx hb dL_law_1811 (by decide) ?_
  exact lw_end (z := z) kk (by omega) (by omega) ht.2.2 hP hD hS hl (fun _ h => List.mem_cons_of_mem _ (List.mem_cons_of_mem _ (h)))

set_option maxHeartbeats 4000000 in
set_option maxRecDepth 100000 in
theorem lwc_1814 (hflg : l.stackTraces = false) (C : LC p s m c cL_law b L xs A g) (hi : i + 5 < L) (hI : Inv σ τ) (hP : va_P (g.1, g.2.1) vwCl (LW g aM ao ad (σ, ov, dv) τ) H) (hD : va_D A (LW g aM ao ad (σ, ov, dv) τ)) (hS : va_S A s.heap H locs) (hl : lv_has ls 9 (LV b g aM ao ad i)) (hc : cells + 3 ≤ room_1.cells) (hsl : slots + 18 ≤ room_1.slots) (kk : LK p l e s m below meth c cells slots Q A b i ao ad g aM) : W p l e room_1 s m #[Value.ref b] below meth c H locs cells slots Q (F0 m 1814 ls []) := by
  have C0 := C
  obtain ⟨hx, hb, hml, hown, hts, hK, hZ, hX, hbl, hbA, hAA, hL⟩ := C0
  obtain ⟨x1, hx1, ex1⟩ := nI_ex (xs (i + 1))
  obtain ⟨x2, hx2, ex2⟩ := nI_ex (xs (i + 2))
  obtain ⟨x3, hx3, ex3⟩ := nI_ex (xs (i + 3))
  obtain ⟨x4, hx4, ex4⟩ := nI_ex (xs (i + 4))
  obtain ⟨x5, hx5, ex5⟩ := nI_ex (xs (i + 5))
  have hc : cells + 3 ≤ 603072 := hc
  have hsl : slots + 18 ≤ 7170154 := hsl
  refine lv_aload_n hx hb dL_law_1814 rfl (lv_at hl 1 rfl) ?_
  refine lw_arg C hS hl (List.mem_of_getElem? (i := 0) rfl) (List.mem_of_getElem? (i := 5) rfl) (k := 1) (by decide) (by omega) ex1 dL_law_1815 dL_law_1816 dL_law_1818 dL_law_1819 dL_law_1820 ?_
  refine lv_aload_n hx hb dL_law_1821 rfl (lv_at hl 3 rfl) ?_
  refine jI_calli (wf := wH g ao ad (wM (gMo g aM) τ ++ [])) (vx_runSW (As := [.ref (g.2.2.2 0), .int (nI x1), .ref ao]) (rest := []) ⟨hx, hb, hml, hown, hts⟩ (h_reachedCounts l hflg g (wM (gMo g aM) τ ++ []) H.size σ ao ad ov dv x1 hI.okA hx1) (vx_cwSW 3 hts gL_law_L_reachedCounts rfl rfl rfl (by decide +kernel) ⟨Nat.le_of_ble_eq_true rfl, Nat.le_of_ble_eq_true rfl⟩) (okHS hK (lw_P3 hP) (lw_D3 hD) hZ hS hAA) rfl rfl hl.1 rfl (lv_room (Nat.le_of_ble_eq_true rfl)) dL_law_1822 ⟨by show cells + 1 ≤ 603072; omega, by show slots + 6 ≤ 7170154; omega⟩) (lw_D3 hD) hS hAA (fun r z H locs hr hP hD hS => ?_)
  have hP := lw_P4 hP
  have hD := lw_D4 hD
  refine lv_istore (lv' := ((6, .int r) :: LV b g aM ao ad i)) hx hb dL_law_1825 hl (by decide) rfl (fun ls hl => ?_)
  refine lv_aload_n hx hb dL_law_1827 rfl (lv_at hl 3 rfl) ?_
  refine lw_arg C hS hl (List.mem_of_getElem? (i := 1) rfl) (List.mem_of_getElem? (i := 6) rfl) (k := 1) (by decide) (by omega) ex1 dL_law_1828 dL_law_1829 dL_law_1831 dL_law_1832 dL_law_1833 ?_
  refine jn_calli (va_runV (As := [.int (nI x1)]) (rest := []) ⟨hx, hb, hml, hown, hts⟩ (c_X11_reachedCounts l (gMo g aM) (wX g ao ad z ++ []) H.size τ x1 hI.okT hI.fin hx1) (cwV 1 hts gL_law_X11_reachedCounts rfl rfl rfl (by decide +kernel) ⟨Nat.le_of_ble_eq_true rfl, Nat.le_of_ble_eq_true rfl⟩) (okWV (g := gMo g aM) hK.1.1 (lw_P1 hP) (lw_D1 hD) rfl (gM0 (gMo g aM) τ (wX g ao ad z ++ []))) rfl rfl hl.1 rfl (lv_room (Nat.le_of_ble_eq_true rfl)) dL_law_1834 ⟨by show cells + 1 + 0 ≤ 603072; omega, by show slots + 6 + 0 ≤ 7170154; omega⟩) (lw_D1 hD) hS hAA (fun v2 u H locs hw hP hD hS => ?_)
  obtain ⟨r0, th, f7⟩ := u
  obtain ⟨rfl, hw⟩ := hw
  have hm : RM_reachedCounts τ x1 _ (sA (sF τ 0 th) 7 f7) := ⟨r0, th, f7, rfl, hw, rfl⟩
  have hP := lw_P2 (z := z) (τ := (sA (sF τ 0 th) 7 f7)) hP
  have hD := lw_D2 (z := z) (τ := (sA (sF τ 0 th) 7 f7)) hD
  have ht := tie_reachedCounts hI hr hm
  refine lv_istore (lv' := ((7, .int (nI (r0))) :: (6, .int r) :: LV b g aM ao ad i)) hx hb dL_law_1837 hl (by decide) rfl (fun ls hl => ?_)
  refine lw_thrown C gL_law_X11_thrown ⟨Nat.le_of_ble_eq_true rfl, Nat.le_of_ble_eq_true rfl⟩ ⟨by show cells + 1 + 0 ≤ 603072; omega, by show slots + 6 + 0 ≤ 7170154; omega⟩ hP hl (List.mem_of_getElem? (i := 4) rfl) (List.mem_of_getElem? (i := 1) rfl) ht.1 dL_law_1839 dL_law_1840 dL_law_1843 dL_law_1845 ?_ (Nat.le_of_ble_eq_true rfl)
  refine lw_cmpI C hP hl (List.mem_of_getElem? (i := 5) rfl) (List.mem_of_getElem? (i := 1) rfl) (List.mem_of_getElem? (i := 0) rfl) ht.2.1 dL_law_1850 dL_law_1852 dL_law_1855 dL_law_1856 dL_law_1857 dL_law_1858 dL_law_1860 dL_law_1861 dL_law_1862 ?_
  refine lv_goto (tgt := 2501) hx hb dL_law_1867 (by decide) ?_
  exact lw_end (z := z) kk (by omega) (by omega) ht.2.2 hP hD hS hl (fun _ h => List.mem_cons_of_mem _ (List.mem_cons_of_mem _ (h)))

set_option maxHeartbeats 4000000 in
set_option maxRecDepth 100000 in
theorem lwc_1870 (hflg : l.stackTraces = false) (C : LC p s m c cL_law b L xs A g) (hi : i + 5 < L) (hI : Inv σ τ) (hP : va_P (g.1, g.2.1) vwCl (LW g aM ao ad (σ, ov, dv) τ) H) (hD : va_D A (LW g aM ao ad (σ, ov, dv) τ)) (hS : va_S A s.heap H locs) (hl : lv_has ls 9 (LV b g aM ao ad i)) (hc : cells + 3 ≤ room_1.cells) (hsl : slots + 18 ≤ room_1.slots) (kk : LK p l e s m below meth c cells slots Q A b i ao ad g aM) : W p l e room_1 s m #[Value.ref b] below meth c H locs cells slots Q (F0 m 1870 ls []) := by
  have C0 := C
  obtain ⟨hx, hb, hml, hown, hts, hK, hZ, hX, hbl, hbA, hAA, hL⟩ := C0
  obtain ⟨x1, hx1, ex1⟩ := nI_ex (xs (i + 1))
  obtain ⟨x2, hx2, ex2⟩ := nI_ex (xs (i + 2))
  obtain ⟨x3, hx3, ex3⟩ := nI_ex (xs (i + 3))
  obtain ⟨x4, hx4, ex4⟩ := nI_ex (xs (i + 4))
  obtain ⟨x5, hx5, ex5⟩ := nI_ex (xs (i + 5))
  have hc : cells + 3 ≤ 603072 := hc
  have hsl : slots + 18 ≤ 7170154 := hsl
  refine lv_aload_n hx hb dL_law_1870 rfl (lv_at hl 1 rfl) ?_
  refine lw_arg C hS hl (List.mem_of_getElem? (i := 0) rfl) (List.mem_of_getElem? (i := 5) rfl) (k := 1) (by decide) (by omega) ex1 dL_law_1871 dL_law_1872 dL_law_1874 dL_law_1875 dL_law_1876 ?_
  refine lw_arg C hS hl (List.mem_of_getElem? (i := 0) rfl) (List.mem_of_getElem? (i := 5) rfl) (k := 2) (by decide) (by omega) ex2 dL_law_1877 dL_law_1878 dL_law_1880 dL_law_1881 dL_law_1882 ?_
  refine lv_aload_n hx hb dL_law_1883 rfl (lv_at hl 3 rfl) ?_
  refine jI_calli (wf := wH g ao ad (wM (gMo g aM) τ ++ [])) (vx_runSW (As := [.ref (g.2.2.2 0), .int (nI x1), .int (nI x2), .ref ao]) (rest := []) ⟨hx, hb, hml, hown, hts⟩ (h_firstMissing l hflg g (wM (gMo g aM) τ ++ []) H.size σ ao ad ov dv x1 x2 hI.okA hI.okC hx1 hx2) (vx_cwSW 4 hts gL_law_L_firstMissing rfl rfl rfl (by decide +kernel) ⟨Nat.le_of_ble_eq_true rfl, Nat.le_of_ble_eq_true rfl⟩) (okHS hK (lw_P3 hP) (lw_D3 hD) hZ hS hAA) rfl rfl hl.1 rfl (lv_room (Nat.le_of_ble_eq_true rfl)) dL_law_1884 ⟨by show cells + 3 ≤ 603072; omega, by show slots + 18 ≤ 7170154; omega⟩) (lw_D3 hD) hS hAA (fun r z H locs hr hP hD hS => ?_)
  have hP := lw_P4 hP
  have hD := lw_D4 hD
  refine lv_istore (lv' := ((6, .int r) :: LV b g aM ao ad i)) hx hb dL_law_1887 hl (by decide) rfl (fun ls hl => ?_)
  refine lv_aload_n hx hb dL_law_1889 rfl (lv_at hl 3 rfl) ?_
  refine lw_arg C hS hl (List.mem_of_getElem? (i := 1) rfl) (List.mem_of_getElem? (i := 6) rfl) (k := 1) (by decide) (by omega) ex1 dL_law_1890 dL_law_1891 dL_law_1893 dL_law_1894 dL_law_1895 ?_
  refine lw_arg C hS hl (List.mem_of_getElem? (i := 1) rfl) (List.mem_of_getElem? (i := 6) rfl) (k := 2) (by decide) (by omega) ex2 dL_law_1896 dL_law_1897 dL_law_1899 dL_law_1900 dL_law_1901 ?_
  refine jn_calli (va_runV (As := [.int (nI x1), .int (nI x2)]) (rest := []) ⟨hx, hb, hml, hown, hts⟩ (c_X11_firstMissing l (gMo g aM) (wX g ao ad z ++ []) H.size τ x1 x2 hI.okT hI.fin hI.okS hx1 hx2) (cwV 2 hts gL_law_X11_firstMissing rfl rfl rfl (by decide +kernel) ⟨Nat.le_of_ble_eq_true rfl, Nat.le_of_ble_eq_true rfl⟩) (okWV (g := gMo g aM) hK.1.1 (lw_P1 hP) (lw_D1 hD) rfl (gM0 (gMo g aM) τ (wX g ao ad z ++ []))) rfl rfl hl.1 rfl (lv_room (Nat.le_of_ble_eq_true rfl)) dL_law_1902 ⟨by show cells + 3 + 0 ≤ 603072; omega, by show slots + 18 + 0 ≤ 7170154; omega⟩) (lw_D1 hD) hS hAA (fun v2 u H locs hw hP hD hS => ?_)
  obtain ⟨r0, th, f7⟩ := u
  obtain ⟨rfl, hw⟩ := hw
  have hm : RM_firstMissing τ x1 x2 _ (sA (sF τ 0 th) 7 f7) := ⟨r0, th, f7, rfl, hw, rfl⟩
  have hP := lw_P2 (z := z) (τ := (sA (sF τ 0 th) 7 f7)) hP
  have hD := lw_D2 (z := z) (τ := (sA (sF τ 0 th) 7 f7)) hD
  have ht := tie_firstMissing hI hr hm
  refine lv_istore (lv' := ((7, .int (nI (r0))) :: (6, .int r) :: LV b g aM ao ad i)) hx hb dL_law_1905 hl (by decide) rfl (fun ls hl => ?_)
  refine lw_thrown C gL_law_X11_thrown ⟨Nat.le_of_ble_eq_true rfl, Nat.le_of_ble_eq_true rfl⟩ ⟨by show cells + 3 + 0 ≤ 603072; omega, by show slots + 18 + 0 ≤ 7170154; omega⟩ hP hl (List.mem_of_getElem? (i := 4) rfl) (List.mem_of_getElem? (i := 1) rfl) ht.1 dL_law_1907 dL_law_1908 dL_law_1911 dL_law_1913 ?_ (Nat.le_of_ble_eq_true rfl)
  refine lw_cmpI C hP hl (List.mem_of_getElem? (i := 5) rfl) (List.mem_of_getElem? (i := 1) rfl) (List.mem_of_getElem? (i := 0) rfl) ht.2.1 dL_law_1918 dL_law_1920 dL_law_1923 dL_law_1924 dL_law_1925 dL_law_1926 dL_law_1928 dL_law_1929 dL_law_1930 ?_
  refine lv_goto (tgt := 2501) hx hb dL_law_1935 (by decide) ?_
  exact lw_end (z := z) kk (by omega) (by omega) ht.2.2 hP hD hS hl (fun _ h => List.mem_cons_of_mem _ (List.mem_cons_of_mem _ (h)))

set_option maxHeartbeats 4000000 in
set_option maxRecDepth 100000 in
theorem lwc_1938 (hflg : l.stackTraces = false) (C : LC p s m c cL_law b L xs A g) (hi : i + 5 < L) (hI : Inv σ τ) (hP : va_P (g.1, g.2.1) vwCl (LW g aM ao ad (σ, ov, dv) τ) H) (hD : va_D A (LW g aM ao ad (σ, ov, dv) τ)) (hS : va_S A s.heap H locs) (hl : lv_has ls 9 (LV b g aM ao ad i)) (hc : cells + 3 ≤ room_1.cells) (hsl : slots + 18 ≤ room_1.slots) (kk : LK p l e s m below meth c cells slots Q A b i ao ad g aM) : W p l e room_1 s m #[Value.ref b] below meth c H locs cells slots Q (F0 m 1938 ls []) := by
  have C0 := C
  obtain ⟨hx, hb, hml, hown, hts, hK, hZ, hX, hbl, hbA, hAA, hL⟩ := C0
  obtain ⟨x1, hx1, ex1⟩ := nI_ex (xs (i + 1))
  obtain ⟨x2, hx2, ex2⟩ := nI_ex (xs (i + 2))
  obtain ⟨x3, hx3, ex3⟩ := nI_ex (xs (i + 3))
  obtain ⟨x4, hx4, ex4⟩ := nI_ex (xs (i + 4))
  obtain ⟨x5, hx5, ex5⟩ := nI_ex (xs (i + 5))
  have hc : cells + 3 ≤ 603072 := hc
  have hsl : slots + 18 ≤ 7170154 := hsl
  refine lv_aload_n hx hb dL_law_1938 rfl (lv_at hl 1 rfl) ?_
  refine lw_arg C hS hl (List.mem_of_getElem? (i := 0) rfl) (List.mem_of_getElem? (i := 5) rfl) (k := 1) (by decide) (by omega) ex1 dL_law_1939 dL_law_1940 dL_law_1942 dL_law_1943 dL_law_1944 ?_
  refine lw_arg C hS hl (List.mem_of_getElem? (i := 0) rfl) (List.mem_of_getElem? (i := 5) rfl) (k := 2) (by decide) (by omega) ex2 dL_law_1945 dL_law_1946 dL_law_1948 dL_law_1949 dL_law_1950 ?_
  refine lv_aload_n hx hb dL_law_1951 rfl (lv_at hl 3 rfl) ?_
  refine jI_calli (wf := wH g ao ad (wM (gMo g aM) τ ++ [])) (vx_runSW (As := [.ref (g.2.2.2 0), .int (nI x1), .int (nI x2), .ref ao]) (rest := []) ⟨hx, hb, hml, hown, hts⟩ (h_firstExtra l hflg g (wM (gMo g aM) τ ++ []) H.size σ ao ad ov dv x1 x2 hI.okA hI.okC hx1 hx2) (vx_cwSW 4 hts gL_law_L_firstExtra rfl rfl rfl (by decide +kernel) ⟨Nat.le_of_ble_eq_true rfl, Nat.le_of_ble_eq_true rfl⟩) (okHS hK (lw_P3 hP) (lw_D3 hD) hZ hS hAA) rfl rfl hl.1 rfl (lv_room (Nat.le_of_ble_eq_true rfl)) dL_law_1952 ⟨by show cells + 3 ≤ 603072; omega, by show slots + 18 ≤ 7170154; omega⟩) (lw_D3 hD) hS hAA (fun r z H locs hr hP hD hS => ?_)
  have hP := lw_P4 hP
  have hD := lw_D4 hD
  refine lv_istore (lv' := ((6, .int r) :: LV b g aM ao ad i)) hx hb dL_law_1955 hl (by decide) rfl (fun ls hl => ?_)
  refine lv_aload_n hx hb dL_law_1957 rfl (lv_at hl 3 rfl) ?_
  refine lw_arg C hS hl (List.mem_of_getElem? (i := 1) rfl) (List.mem_of_getElem? (i := 6) rfl) (k := 1) (by decide) (by omega) ex1 dL_law_1958 dL_law_1959 dL_law_1961 dL_law_1962 dL_law_1963 ?_
  refine lw_arg C hS hl (List.mem_of_getElem? (i := 1) rfl) (List.mem_of_getElem? (i := 6) rfl) (k := 2) (by decide) (by omega) ex2 dL_law_1964 dL_law_1965 dL_law_1967 dL_law_1968 dL_law_1969 ?_
  refine jn_calli (va_runV (As := [.int (nI x1), .int (nI x2)]) (rest := []) ⟨hx, hb, hml, hown, hts⟩ (c_X11_firstExtra l (gMo g aM) (wX g ao ad z ++ []) H.size τ x1 x2 hI.okT hI.fin hI.okS hx1 hx2) (cwV 2 hts gL_law_X11_firstExtra rfl rfl rfl (by decide +kernel) ⟨Nat.le_of_ble_eq_true rfl, Nat.le_of_ble_eq_true rfl⟩) (okWV (g := gMo g aM) hK.1.1 (lw_P1 hP) (lw_D1 hD) rfl (gM0 (gMo g aM) τ (wX g ao ad z ++ []))) rfl rfl hl.1 rfl (lv_room (Nat.le_of_ble_eq_true rfl)) dL_law_1970 ⟨by show cells + 3 + 0 ≤ 603072; omega, by show slots + 18 + 0 ≤ 7170154; omega⟩) (lw_D1 hD) hS hAA (fun v2 u H locs hw hP hD hS => ?_)
  obtain ⟨r0, th, f7⟩ := u
  obtain ⟨rfl, hw⟩ := hw
  have hm : RM_firstExtra τ x1 x2 _ (sA (sF τ 0 th) 7 f7) := ⟨r0, th, f7, rfl, hw, rfl⟩
  have hP := lw_P2 (z := z) (τ := (sA (sF τ 0 th) 7 f7)) hP
  have hD := lw_D2 (z := z) (τ := (sA (sF τ 0 th) 7 f7)) hD
  have ht := tie_firstExtra hI hr hm
  refine lv_istore (lv' := ((7, .int (nI (r0))) :: (6, .int r) :: LV b g aM ao ad i)) hx hb dL_law_1973 hl (by decide) rfl (fun ls hl => ?_)
  refine lw_thrown C gL_law_X11_thrown ⟨Nat.le_of_ble_eq_true rfl, Nat.le_of_ble_eq_true rfl⟩ ⟨by show cells + 3 + 0 ≤ 603072; omega, by show slots + 18 + 0 ≤ 7170154; omega⟩ hP hl (List.mem_of_getElem? (i := 4) rfl) (List.mem_of_getElem? (i := 1) rfl) ht.1 dL_law_1975 dL_law_1976 dL_law_1979 dL_law_1981 ?_ (Nat.le_of_ble_eq_true rfl)
  refine lw_cmpI C hP hl (List.mem_of_getElem? (i := 5) rfl) (List.mem_of_getElem? (i := 1) rfl) (List.mem_of_getElem? (i := 0) rfl) ht.2.1 dL_law_1986 dL_law_1988 dL_law_1991 dL_law_1992 dL_law_1993 dL_law_1994 dL_law_1996 dL_law_1997 dL_law_1998 ?_
  refine lv_goto (tgt := 2501) hx hb dL_law_2003 (by decide) ?_
  exact lw_end (z := z) kk (by omega) (by omega) ht.2.2 hP hD hS hl (fun _ h => List.mem_cons_of_mem _ (List.mem_cons_of_mem _ (h)))

set_option maxHeartbeats 4000000 in
set_option maxRecDepth 100000 in
theorem lwc_2006 (hflg : l.stackTraces = false) (C : LC p s m c cL_law b L xs A g) (hi : i + 5 < L) (hI : Inv σ τ) (hP : va_P (g.1, g.2.1) vwCl (LW g aM ao ad (σ, ov, dv) τ) H) (hD : va_D A (LW g aM ao ad (σ, ov, dv) τ)) (hS : va_S A s.heap H locs) (hl : lv_has ls 9 (LV b g aM ao ad i)) (hc : cells + 3 ≤ room_1.cells) (hsl : slots + 18 ≤ room_1.slots) (kk : LK p l e s m below meth c cells slots Q A b i ao ad g aM) : W p l e room_1 s m #[Value.ref b] below meth c H locs cells slots Q (F0 m 2006 ls []) := by
  have C0 := C
  obtain ⟨hx, hb, hml, hown, hts, hK, hZ, hX, hbl, hbA, hAA, hL⟩ := C0
  obtain ⟨x1, hx1, ex1⟩ := nI_ex (xs (i + 1))
  obtain ⟨x2, hx2, ex2⟩ := nI_ex (xs (i + 2))
  obtain ⟨x3, hx3, ex3⟩ := nI_ex (xs (i + 3))
  obtain ⟨x4, hx4, ex4⟩ := nI_ex (xs (i + 4))
  obtain ⟨x5, hx5, ex5⟩ := nI_ex (xs (i + 5))
  have hc : cells + 3 ≤ 603072 := hc
  have hsl : slots + 18 ≤ 7170154 := hsl
  refine lv_aload_n hx hb dL_law_2006 rfl (lv_at hl 1 rfl) ?_
  refine lw_arg C hS hl (List.mem_of_getElem? (i := 0) rfl) (List.mem_of_getElem? (i := 5) rfl) (k := 1) (by decide) (by omega) ex1 dL_law_2007 dL_law_2008 dL_law_2010 dL_law_2011 dL_law_2012 ?_
  refine lw_arg C hS hl (List.mem_of_getElem? (i := 0) rfl) (List.mem_of_getElem? (i := 5) rfl) (k := 2) (by decide) (by omega) ex2 dL_law_2013 dL_law_2014 dL_law_2016 dL_law_2017 dL_law_2018 ?_
  refine lv_aload_n hx hb dL_law_2019 rfl (lv_at hl 3 rfl) ?_
  refine jI_calli (wf := wH g ao ad (wM (gMo g aM) τ ++ [])) (vx_runSW (As := [.ref (g.2.2.2 0), .int (nI x1), .int (nI x2), .ref ao]) (rest := []) ⟨hx, hb, hml, hown, hts⟩ (h_hasCyclePeriods l hflg g (wM (gMo g aM) τ ++ []) H.size σ ao ad ov dv x1 x2 hI.okA hI.okC hI.od.2.2 hx1 hx2) (vx_cwSW 4 hts gL_law_L_hasCyclePeriods rfl rfl rfl (by decide +kernel) ⟨Nat.le_of_ble_eq_true rfl, Nat.le_of_ble_eq_true rfl⟩) (okHS hK (lw_P3 hP) (lw_D3 hD) hZ hS hAA) rfl rfl hl.1 rfl (lv_room (Nat.le_of_ble_eq_true rfl)) dL_law_2020 ⟨by show cells + 1 ≤ 603072; omega, by show slots + 6 ≤ 7170154; omega⟩) (lw_D3 hD) hS hAA (fun r z H locs hr hP hD hS => ?_)
  have hP := lw_P4 hP
  have hD := lw_D4 hD
  refine lv_istore (lv' := ((6, .int r) :: LV b g aM ao ad i)) hx hb dL_law_2023 hl (by decide) rfl (fun ls hl => ?_)
  refine lv_aload_n hx hb dL_law_2025 rfl (lv_at hl 3 rfl) ?_
  refine lw_arg C hS hl (List.mem_of_getElem? (i := 1) rfl) (List.mem_of_getElem? (i := 6) rfl) (k := 1) (by decide) (by omega) ex1 dL_law_2026 dL_law_2027 dL_law_2029 dL_law_2030 dL_law_2031 ?_
  refine lw_arg C hS hl (List.mem_of_getElem? (i := 1) rfl) (List.mem_of_getElem? (i := 6) rfl) (k := 2) (by decide) (by omega) ex2 dL_law_2032 dL_law_2033 dL_law_2035 dL_law_2036 dL_law_2037 ?_
  refine jn_calli (va_runV (As := [.int (nI x1), .int (nI x2)]) (rest := []) ⟨hx, hb, hml, hown, hts⟩ (c_X11_hasCyclePeriods l (gMo g aM) (wX g ao ad z ++ []) H.size τ x1 x2 hI.okT hI.fin hI.okS hx1 hx2) (cwV 2 hts gL_law_X11_hasCyclePeriods rfl rfl rfl (by decide +kernel) ⟨Nat.le_of_ble_eq_true rfl, Nat.le_of_ble_eq_true rfl⟩) (okWV (g := gMo g aM) hK.1.1 (lw_P1 hP) (lw_D1 hD) rfl (gM0 (gMo g aM) τ (wX g ao ad z ++ []))) rfl rfl hl.1 rfl (lv_room (Nat.le_of_ble_eq_true rfl)) dL_law_2038 ⟨by show cells + 1 + 0 ≤ 603072; omega, by show slots + 6 + 0 ≤ 7170154; omega⟩) (lw_D1 hD) hS hAA (fun v2 u H locs hw hP hD hS => ?_)
  obtain ⟨r0, th, us, f13⟩ := u
  obtain ⟨rfl, hw⟩ := hw
  have hm : RM_hasCyclePeriods τ x1 x2 _ (sA (sF (sF τ 0 th) 12 us) 13 f13) := ⟨r0, th, us, f13, rfl, hw, rfl⟩
  have hP := lw_P2 (z := z) (τ := (sA (sF (sF τ 0 th) 12 us) 13 f13)) hP
  have hD := lw_D2 (z := z) (τ := (sA (sF (sF τ 0 th) 12 us) 13 f13)) hD
  have ht := tie_hasCyclePeriods hI hr hm
  refine lv_istore (lv' := ((7, .int (nI (r0))) :: (6, .int r) :: LV b g aM ao ad i)) hx hb dL_law_2041 hl (by decide) rfl (fun ls hl => ?_)
  refine lw_thrown C gL_law_X11_thrown ⟨Nat.le_of_ble_eq_true rfl, Nat.le_of_ble_eq_true rfl⟩ ⟨by show cells + 1 + 0 ≤ 603072; omega, by show slots + 6 + 0 ≤ 7170154; omega⟩ hP hl (List.mem_of_getElem? (i := 4) rfl) (List.mem_of_getElem? (i := 1) rfl) ht.1 dL_law_2043 dL_law_2044 dL_law_2047 dL_law_2049 ?_ (Nat.le_of_ble_eq_true rfl)
  refine lw_cmpZ C hP hl (List.mem_of_getElem? (i := 5) rfl) (List.mem_of_getElem? (i := 1) rfl) (List.mem_of_getElem? (i := 0) rfl) ht.2.1 dL_law_2054 dL_law_2056 dL_law_2059 dL_law_2060 dL_law_2061 dL_law_2062 dL_law_2064 dL_law_2067 dL_law_2068 dL_law_2071 dL_law_2072 dL_law_2073 ?_
  refine lv_goto (tgt := 2501) hx hb dL_law_2078 (by decide) ?_
  exact lw_end (z := z) kk (by omega) (by omega) ht.2.2 hP hD hS hl (fun _ h => List.mem_cons_of_mem _ (List.mem_cons_of_mem _ (h)))

set_option maxHeartbeats 4000000 in
set_option maxRecDepth 100000 in
theorem lwc_2081 (hflg : l.stackTraces = false) (C : LC p s m c cL_law b L xs A g) (hi : i + 5 < L) (hI : Inv σ τ) (hP : va_P (g.1, g.2.1) vwCl (LW g aM ao ad (σ, ov, dv) τ) H) (hD : va_D A (LW g aM ao ad (σ, ov, dv) τ)) (hS : va_S A s.heap H locs) (hl : lv_has ls 9 (LV b g aM ao ad i)) (hc : cells + 3 ≤ room_1.cells) (hsl : slots + 18 ≤ room_1.slots) (kk : LK p l e s m below meth c cells slots Q A b i ao ad g aM) : W p l e room_1 s m #[Value.ref b] below meth c H locs cells slots Q (F0 m 2081 ls []) := by
  have C0 := C
  obtain ⟨hx, hb, hml, hown, hts, hK, hZ, hX, hbl, hbA, hAA, hL⟩ := C0
  obtain ⟨x1, hx1, ex1⟩ := nI_ex (xs (i + 1))
  obtain ⟨x2, hx2, ex2⟩ := nI_ex (xs (i + 2))
  obtain ⟨x3, hx3, ex3⟩ := nI_ex (xs (i + 3))
  obtain ⟨x4, hx4, ex4⟩ := nI_ex (xs (i + 4))
  obtain ⟨x5, hx5, ex5⟩ := nI_ex (xs (i + 5))
  have hc : cells + 3 ≤ 603072 := hc
  have hsl : slots + 18 ≤ 7170154 := hsl
  refine lv_aload_n hx hb dL_law_2081 rfl (lv_at hl 1 rfl) ?_
  refine lw_arg C hS hl (List.mem_of_getElem? (i := 0) rfl) (List.mem_of_getElem? (i := 5) rfl) (k := 1) (by decide) (by omega) ex1 dL_law_2082 dL_law_2083 dL_law_2085 dL_law_2086 dL_law_2087 ?_
  refine lw_arg C hS hl (List.mem_of_getElem? (i := 0) rfl) (List.mem_of_getElem? (i := 5) rfl) (k := 2) (by decide) (by omega) ex2 dL_law_2088 dL_law_2089 dL_law_2091 dL_law_2092 dL_law_2093 ?_
  refine lv_aload_n hx hb dL_law_2094 rfl (lv_at hl 3 rfl) ?_
  refine jI_calli (wf := wH g ao ad (wM (gMo g aM) τ ++ [])) (vx_runSW (As := [.ref (g.2.2.2 0), .int (nI x1), .int (nI x2), .ref ao]) (rest := []) ⟨hx, hb, hml, hown, hts⟩ (h_acceptedWords l hflg g (wM (gMo g aM) τ ++ []) H.size σ ao ad ov dv x1 x2 hI.okA hx1 hx2) (vx_cwSW 4 hts gL_law_L_acceptedWords rfl rfl rfl (by decide +kernel) ⟨Nat.le_of_ble_eq_true rfl, Nat.le_of_ble_eq_true rfl⟩) (okHS hK (lw_P3 hP) (lw_D3 hD) hZ hS hAA) rfl rfl hl.1 rfl (lv_room (Nat.le_of_ble_eq_true rfl)) dL_law_2095 ⟨by show cells + 3 ≤ 603072; omega, by show slots + 18 ≤ 7170154; omega⟩) (lw_D3 hD) hS hAA (fun r z H locs hr hP hD hS => ?_)
  have hP := lw_P4 hP
  have hD := lw_D4 hD
  refine lv_istore (lv' := ((6, .int r) :: LV b g aM ao ad i)) hx hb dL_law_2098 hl (by decide) rfl (fun ls hl => ?_)
  refine lv_aload_n hx hb dL_law_2100 rfl (lv_at hl 3 rfl) ?_
  refine lw_arg C hS hl (List.mem_of_getElem? (i := 1) rfl) (List.mem_of_getElem? (i := 6) rfl) (k := 1) (by decide) (by omega) ex1 dL_law_2101 dL_law_2102 dL_law_2104 dL_law_2105 dL_law_2106 ?_
  refine lw_arg C hS hl (List.mem_of_getElem? (i := 1) rfl) (List.mem_of_getElem? (i := 6) rfl) (k := 2) (by decide) (by omega) ex2 dL_law_2107 dL_law_2108 dL_law_2110 dL_law_2111 dL_law_2112 ?_
  refine jn_calll (va_runV (As := [.int (nI x1), .int (nI x2)]) (rest := []) ⟨hx, hb, hml, hown, hts⟩ (c_X11_acceptedWords l (gMo g aM) (wX g ao ad z ++ []) H.size τ x1 x2 hI.okT hI.fin hx1 hx2) (cwV 2 hts gL_law_X11_acceptedWords rfl rfl rfl (by decide +kernel) ⟨Nat.le_of_ble_eq_true rfl, Nat.le_of_ble_eq_true rfl⟩) (okWV (g := gMo g aM) hK.1.1 (lw_P1 hP) (lw_D1 hD) rfl (gM0 (gMo g aM) τ (wX g ao ad z ++ []))) rfl rfl hl.1 rfl (lv_room (Nat.le_of_ble_eq_true rfl)) dL_law_2113 ⟨by show cells + 3 + 0 ≤ 603072; omega, by show slots + 18 + 0 ≤ 7170154; omega⟩) (lw_D1 hD) hS hAA (fun v2 u H locs hw hP hD hS => ?_)
  obtain ⟨r0, th, j2, r2, e2, f6, f7, f8, f9⟩ := u
  obtain ⟨rfl, hw⟩ := hw
  have hm : RM_acceptedWords τ x1 x2 _ (sA (sA (sA (sA (sF (sF (sF (sF τ 0 th) 7 j2) 8 r2) 9 e2) 6 f6) 7 f7) 8 f8) 9 f9) := ⟨r0, th, j2, r2, e2, f6, f7, f8, f9, rfl, hw, rfl⟩
  have hP := lw_P2 (z := z) (τ := (sA (sA (sA (sA (sF (sF (sF (sF τ 0 th) 7 j2) 8 r2) 9 e2) 6 f6) 7 f7) 8 f8) 9 f9)) hP
  have hD := lw_D2 (z := z) (τ := (sA (sA (sA (sA (sF (sF (sF (sF τ 0 th) 7 j2) 8 r2) 9 e2) 6 f6) 7 f7) 8 f8) 9 f9)) hD
  have ht := tie_acceptedWords hI hr hm
  refine lv_lstore (lv' := ((7, .long (lN (r0))) :: (6, .int r) :: LV b g aM ao ad i)) hx hb dL_law_2116 hl (by decide) rfl (fun ls hl => ?_)
  refine lw_thrown C gL_law_X11_thrown ⟨Nat.le_of_ble_eq_true rfl, Nat.le_of_ble_eq_true rfl⟩ ⟨by show cells + 3 + 0 ≤ 603072; omega, by show slots + 18 + 0 ≤ 7170154; omega⟩ hP hl (List.mem_of_getElem? (i := 4) rfl) (List.mem_of_getElem? (i := 1) rfl) ht.1 dL_law_2118 dL_law_2119 dL_law_2122 dL_law_2124 ?_ (Nat.le_of_ble_eq_true rfl)
  refine lw_cmpJ C hP hl (List.mem_of_getElem? (i := 5) rfl) (List.mem_of_getElem? (i := 1) rfl) (List.mem_of_getElem? (i := 0) rfl) ht.2.1 dL_law_2129 dL_law_2131 dL_law_2134 dL_law_2135 dL_law_2136 dL_law_2137 dL_law_2139 dL_law_2140 ?_
  refine lv_goto (tgt := 2501) hx hb dL_law_2145 (by decide) ?_
  exact lw_end (z := z) kk (by omega) (by omega) ht.2.2 hP hD hS hl (fun _ h => List.mem_cons_of_mem _ (List.mem_cons_of_mem _ (h)))

set_option maxHeartbeats 4000000 in
set_option maxRecDepth 100000 in
theorem lwc_2148 (hflg : l.stackTraces = false) (C : LC p s m c cL_law b L xs A g) (hi : i + 5 < L) (hI : Inv σ τ) (hP : va_P (g.1, g.2.1) vwCl (LW g aM ao ad (σ, ov, dv) τ) H) (hD : va_D A (LW g aM ao ad (σ, ov, dv) τ)) (hS : va_S A s.heap H locs) (hl : lv_has ls 9 (LV b g aM ao ad i)) (hc : cells + 3 ≤ room_1.cells) (hsl : slots + 18 ≤ room_1.slots) (kk : LK p l e s m below meth c cells slots Q A b i ao ad g aM) : W p l e room_1 s m #[Value.ref b] below meth c H locs cells slots Q (F0 m 2148 ls []) := by
  have C0 := C
  obtain ⟨hx, hb, hml, hown, hts, hK, hZ, hX, hbl, hbA, hAA, hL⟩ := C0
  obtain ⟨x1, hx1, ex1⟩ := nI_ex (xs (i + 1))
  obtain ⟨x2, hx2, ex2⟩ := nI_ex (xs (i + 2))
  obtain ⟨x3, hx3, ex3⟩ := nI_ex (xs (i + 3))
  obtain ⟨x4, hx4, ex4⟩ := nI_ex (xs (i + 4))
  obtain ⟨x5, hx5, ex5⟩ := nI_ex (xs (i + 5))
  have hc : cells + 3 ≤ 603072 := hc
  have hsl : slots + 18 ≤ 7170154 := hsl
  refine lv_aload_n hx hb dL_law_2148 rfl (lv_at hl 1 rfl) ?_
  refine lw_arg C hS hl (List.mem_of_getElem? (i := 0) rfl) (List.mem_of_getElem? (i := 5) rfl) (k := 1) (by decide) (by omega) ex1 dL_law_2149 dL_law_2150 dL_law_2152 dL_law_2153 dL_law_2154 ?_
  refine lv_aload_n hx hb dL_law_2155 rfl (lv_at hl 3 rfl) ?_
  refine jI_calli (wf := wH g ao ad (wM (gMo g aM) τ ++ [])) (vx_runSW (As := [.ref (g.2.2.2 0), .int (nI x1), .ref ao]) (rest := []) ⟨hx, hb, hml, hown, hts⟩ (h_isClosed l hflg g (wM (gMo g aM) τ ++ []) H.size σ ao ad ov dv x1 hI.okA hx1) (vx_cwSW 3 hts gL_law_L_isClosed rfl rfl rfl (by decide +kernel) ⟨Nat.le_of_ble_eq_true rfl, Nat.le_of_ble_eq_true rfl⟩) (okHS hK (lw_P3 hP) (lw_D3 hD) hZ hS hAA) rfl rfl hl.1 rfl (lv_room (Nat.le_of_ble_eq_true rfl)) dL_law_2156 ⟨by show cells + 1 ≤ 603072; omega, by show slots + 6 ≤ 7170154; omega⟩) (lw_D3 hD) hS hAA (fun r z H locs hr hP hD hS => ?_)
  have hP := lw_P4 hP
  have hD := lw_D4 hD
  refine lv_istore (lv' := ((6, .int r) :: LV b g aM ao ad i)) hx hb dL_law_2159 hl (by decide) rfl (fun ls hl => ?_)
  refine lv_aload_n hx hb dL_law_2161 rfl (lv_at hl 3 rfl) ?_
  refine lw_arg C hS hl (List.mem_of_getElem? (i := 1) rfl) (List.mem_of_getElem? (i := 6) rfl) (k := 1) (by decide) (by omega) ex1 dL_law_2162 dL_law_2163 dL_law_2165 dL_law_2166 dL_law_2167 ?_
  refine jn_calli (va_runV (As := [.int (nI x1)]) (rest := []) ⟨hx, hb, hml, hown, hts⟩ (c_X11_isClosed l (gMo g aM) (wX g ao ad z ++ []) H.size τ x1 hI.okT hI.fin hx1) (cwV 1 hts gL_law_X11_isClosed rfl rfl rfl (by decide +kernel) ⟨Nat.le_of_ble_eq_true rfl, Nat.le_of_ble_eq_true rfl⟩) (okWV (g := gMo g aM) hK.1.1 (lw_P1 hP) (lw_D1 hD) rfl (gM0 (gMo g aM) τ (wX g ao ad z ++ []))) rfl rfl hl.1 rfl (lv_room (Nat.le_of_ble_eq_true rfl)) dL_law_2168 ⟨by show cells + 1 + 0 ≤ 603072; omega, by show slots + 6 + 0 ≤ 7170154; omega⟩) (lw_D1 hD) hS hAA (fun v2 u H locs hw hP hD hS => ?_)
  obtain ⟨r0, th, ol, f6, f7, f8⟩ := u
  obtain ⟨rfl, hw⟩ := hw
  have hm : RM_isClosed τ x1 _ (sA (sA (sA (sF (sF τ 0 th) 13 ol) 6 f6) 7 f7) 8 f8) := ⟨r0, th, ol, f6, f7, f8, rfl, hw, rfl⟩
  have hP := lw_P2 (z := z) (τ := (sA (sA (sA (sF (sF τ 0 th) 13 ol) 6 f6) 7 f7) 8 f8)) hP
  have hD := lw_D2 (z := z) (τ := (sA (sA (sA (sF (sF τ 0 th) 13 ol) 6 f6) 7 f7) 8 f8)) hD
  have ht := tie_isClosed hI hr hm
  refine lv_istore (lv' := ((7, .int (nI (r0))) :: (6, .int r) :: LV b g aM ao ad i)) hx hb dL_law_2171 hl (by decide) rfl (fun ls hl => ?_)
  refine lw_thrown C gL_law_X11_thrown ⟨Nat.le_of_ble_eq_true rfl, Nat.le_of_ble_eq_true rfl⟩ ⟨by show cells + 1 + 0 ≤ 603072; omega, by show slots + 6 + 0 ≤ 7170154; omega⟩ hP hl (List.mem_of_getElem? (i := 4) rfl) (List.mem_of_getElem? (i := 1) rfl) ht.1 dL_law_2173 dL_law_2174 dL_law_2177 dL_law_2179 ?_ (Nat.le_of_ble_eq_true rfl)
  refine lw_cmpZ C hP hl (List.mem_of_getElem? (i := 5) rfl) (List.mem_of_getElem? (i := 1) rfl) (List.mem_of_getElem? (i := 0) rfl) ht.2.1 dL_law_2184 dL_law_2186 dL_law_2189 dL_law_2190 dL_law_2191 dL_law_2192 dL_law_2194 dL_law_2197 dL_law_2198 dL_law_2201 dL_law_2202 dL_law_2203 ?_
  refine lv_goto (tgt := 2501) hx hb dL_law_2208 (by decide) ?_
  exact lw_end (z := z) kk (by omega) (by omega) ht.2.2 hP hD hS hl (fun _ h => List.mem_cons_of_mem _ (List.mem_cons_of_mem _ (h)))

set_option maxHeartbeats 4000000 in
set_option maxRecDepth 100000 in
theorem lwc_2211 (hflg : l.stackTraces = false) (C : LC p s m c cL_law b L xs A g) (hi : i + 5 < L) (hI : Inv σ τ) (hP : va_P (g.1, g.2.1) vwCl (LW g aM ao ad (σ, ov, dv) τ) H) (hD : va_D A (LW g aM ao ad (σ, ov, dv) τ)) (hS : va_S A s.heap H locs) (hl : lv_has ls 9 (LV b g aM ao ad i)) (hc : cells + 3 ≤ room_1.cells) (hsl : slots + 18 ≤ room_1.slots) (kk : LK p l e s m below meth c cells slots Q A b i ao ad g aM) : W p l e room_1 s m #[Value.ref b] below meth c H locs cells slots Q (F0 m 2211 ls []) := by
  have C0 := C
  obtain ⟨hx, hb, hml, hown, hts, hK, hZ, hX, hbl, hbA, hAA, hL⟩ := C0
  obtain ⟨x1, hx1, ex1⟩ := nI_ex (xs (i + 1))
  obtain ⟨x2, hx2, ex2⟩ := nI_ex (xs (i + 2))
  obtain ⟨x3, hx3, ex3⟩ := nI_ex (xs (i + 3))
  obtain ⟨x4, hx4, ex4⟩ := nI_ex (xs (i + 4))
  obtain ⟨x5, hx5, ex5⟩ := nI_ex (xs (i + 5))
  have hc : cells + 3 ≤ 603072 := hc
  have hsl : slots + 18 ≤ 7170154 := hsl
  refine lv_aload_n hx hb dL_law_2211 rfl (lv_at hl 1 rfl) ?_
  refine lw_arg C hS hl (List.mem_of_getElem? (i := 0) rfl) (List.mem_of_getElem? (i := 5) rfl) (k := 1) (by decide) (by omega) ex1 dL_law_2212 dL_law_2213 dL_law_2215 dL_law_2216 dL_law_2217 ?_
  refine lv_aload_n hx hb dL_law_2218 rfl (lv_at hl 3 rfl) ?_
  refine jI_calli (wf := wH g ao ad (wM (gMo g aM) τ ++ [])) (vx_runSW (As := [.ref (g.2.2.2 0), .int (nI x1), .ref ao]) (rest := []) ⟨hx, hb, hml, hown, hts⟩ (h_takeOpenWord l hflg g (wM (gMo g aM) τ ++ []) H.size σ ao ad ov dv x1 hI.okA hx1) (vx_cwSW 3 hts gL_law_L_takeOpenWord rfl rfl rfl (by decide +kernel) ⟨Nat.le_of_ble_eq_true rfl, Nat.le_of_ble_eq_true rfl⟩) (okHS hK (lw_P3 hP) (lw_D3 hD) hZ hS hAA) rfl rfl hl.1 rfl (lv_room (Nat.le_of_ble_eq_true rfl)) dL_law_2219 ⟨by show cells + 2 ≤ 603072; omega, by show slots + 12 ≤ 7170154; omega⟩) (lw_D3 hD) hS hAA (fun r z H locs hr hP hD hS => ?_)
  have hP := lw_P4 hP
  have hD := lw_D4 hD
  refine lv_istore (lv' := ((6, .int r) :: LV b g aM ao ad i)) hx hb dL_law_2222 hl (by decide) rfl (fun ls hl => ?_)
  refine lv_aload_n hx hb dL_law_2224 rfl (lv_at hl 3 rfl) ?_
  refine lw_arg C hS hl (List.mem_of_getElem? (i := 1) rfl) (List.mem_of_getElem? (i := 6) rfl) (k := 1) (by decide) (by omega) ex1 dL_law_2225 dL_law_2226 dL_law_2228 dL_law_2229 dL_law_2230 ?_
  refine jn_calli (va_runV (As := [.int (nI x1)]) (rest := []) ⟨hx, hb, hml, hown, hts⟩ (c_X11_takeOpenWord l (gMo g aM) (wX g ao ad z ++ []) H.size τ x1 hI.okT hI.fin hx1) (cwV 1 hts gL_law_X11_takeOpenWord rfl rfl rfl (by decide +kernel) ⟨Nat.le_of_ble_eq_true rfl, Nat.le_of_ble_eq_true rfl⟩) (okWV (g := gMo g aM) hK.1.1 (lw_P1 hP) (lw_D1 hD) rfl (gM0 (gMo g aM) τ (wX g ao ad z ++ []))) rfl rfl hl.1 rfl (lv_room (Nat.le_of_ble_eq_true rfl)) dL_law_2231 ⟨by show cells + 2 + 0 ≤ 603072; omega, by show slots + 12 + 0 ≤ 7170154; omega⟩) (lw_D1 hD) hS hAA (fun v2 u H locs hw hP hD hS => ?_)
  obtain ⟨r0, th, n6, ol, wd, f6, f7, f8⟩ := u
  obtain ⟨rfl, hw⟩ := hw
  have hm : RM_takeOpenWord τ x1 _ (sA (sA (sA (sA (sF (sF (sF τ 0 th) 6 n6) 13 ol) 5 wd) 6 f6) 7 f7) 8 f8) := ⟨r0, th, n6, ol, wd, f6, f7, f8, rfl, hw, rfl⟩
  have hP := lw_P2 (z := z) (τ := (sA (sA (sA (sA (sF (sF (sF τ 0 th) 6 n6) 13 ol) 5 wd) 6 f6) 7 f7) 8 f8)) hP
  have hD := lw_D2 (z := z) (τ := (sA (sA (sA (sA (sF (sF (sF τ 0 th) 6 n6) 13 ol) 5 wd) 6 f6) 7 f7) 8 f8)) hD
  have ht := tie_takeOpenWord hI hr hm
  refine lv_istore (lv' := ((7, .int (nI (r0))) :: (6, .int r) :: LV b g aM ao ad i)) hx hb dL_law_2234 hl (by decide) rfl (fun ls hl => ?_)
  refine lw_thrown C gL_law_X11_thrown ⟨Nat.le_of_ble_eq_true rfl, Nat.le_of_ble_eq_true rfl⟩ ⟨by show cells + 2 + 0 ≤ 603072; omega, by show slots + 12 + 0 ≤ 7170154; omega⟩ hP hl (List.mem_of_getElem? (i := 4) rfl) (List.mem_of_getElem? (i := 1) rfl) ht.1 dL_law_2236 dL_law_2237 dL_law_2240 dL_law_2242 ?_ (Nat.le_of_ble_eq_true rfl)
  refine lw_cmpI C hP hl (List.mem_of_getElem? (i := 5) rfl) (List.mem_of_getElem? (i := 1) rfl) (List.mem_of_getElem? (i := 0) rfl) ht.2.1 dL_law_2247 dL_law_2249 dL_law_2252 dL_law_2253 dL_law_2254 dL_law_2255 dL_law_2257 dL_law_2258 dL_law_2259 ?_
  refine lv_goto (tgt := 2501) hx hb dL_law_2264 (by decide) ?_
  exact lw_end (z := z) kk (by omega) (by omega) ht.2.2 hP hD hS hl (fun _ h => List.mem_cons_of_mem _ (List.mem_cons_of_mem _ (h)))

end LWC
