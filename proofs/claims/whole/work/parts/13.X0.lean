abbrev r_c_J6_bitCount_0f7a4 : Room := { frames := 0, cells := 0, slots := 0, locals := 0 }
set_option maxHeartbeats 4000000 in
set_option maxRecDepth 100000 in
theorem c_J6_bitCount_0f7a4 (l : Launch) (x : Nat) (hx : x < 32) : Met l yJ6_bitCount_0f7a4 wsJ6_bitCount_0f7a4 r_c_J6_bitCount_0f7a4 (va_Pc [.int (nI x)] (fun _ => True)) (vp_Si (fun r => r = nI (pop x))) 0 0 (fun _ => False) := by
  refine jn_pi (cc := cJ6_bitCount_0f7a4) (maxL := 1) (own := RJ6) (by decide) rfl rfl (Nat.le_of_ble_eq_true rfl) ?_
  intro p e s m below meth c Q hx hb hml hown hts _ hq ls hl
  have hl : lv_has ls 1 [(0, .int (nI x))] := hl
  refine lv_iload_n hx hb dJ6_bitCount_0f7a4_0 rfl (lv_at hl 0 rfl) ?_
  refine lv_iload_n hx hb dJ6_bitCount_0f7a4_1 rfl (lv_at hl 0 rfl) ?_
  refine lv_iconst (v := nI 1) hx hb dJ6_bitCount_0f7a4_2 (by decide) ?_
  refine lv_iushr hx hb dJ6_bitCount_0f7a4_3 rfl ?_
  refine lv_ldcw (v := 1431655765) hx hb hown (hts (.constant RJ6 265 1431655765) (by decide +kernel)) dJ6_bitCount_0f7a4_4 ?_
  refine lv_iand hx hb dJ6_bitCount_0f7a4_7 ?_
  refine lv_isub hx hb dJ6_bitCount_0f7a4_8 ?_
  refine lv_istore_n (lv' := [(0, .int ((nI x) - ((((nI x).toUInt32 >>> ((nI 1).toUInt32 &&& Int32.toUInt32 31)).toInt32) &&& ((1431655765 : Int32)))))]) hx hb dJ6_bitCount_0f7a4_9 rfl hl (by decide) rfl (fun ls hl => ?_)
  refine lv_iload_n hx hb dJ6_bitCount_0f7a4_10 rfl (lv_at hl 0 rfl) ?_
  refine lv_ldcw (v := 858993459) hx hb hown (hts (.constant RJ6 266 858993459) (by decide +kernel)) dJ6_bitCount_0f7a4_11 ?_
  refine lv_iand hx hb dJ6_bitCount_0f7a4_14 ?_
  refine lv_iload_n hx hb dJ6_bitCount_0f7a4_15 rfl (lv_at hl 0 rfl) ?_
  refine lv_iconst (v := nI 2) hx hb dJ6_bitCount_0f7a4_16 (by decide) ?_
  refine lv_iushr hx hb dJ6_bitCount_0f7a4_17 rfl ?_
  refine lv_ldcw (v := 858993459) hx hb hown (hts (.constant RJ6 266 858993459) (by decide +kernel)) dJ6_bitCount_0f7a4_18 ?_
  refine lv_iand hx hb dJ6_bitCount_0f7a4_21 ?_
  refine lv_iadd hx hb dJ6_bitCount_0f7a4_22 ?_
  refine lv_istore_n (lv' := [(0, .int ((((nI x) - ((((nI x).toUInt32 >>> ((nI 1).toUInt32 &&& Int32.toUInt32 31)).toInt32) &&& ((1431655765 : Int32)))) &&& ((858993459 : Int32))) + (((((nI x) - ((((nI x).toUInt32 >>> ((nI 1).toUInt32 &&& Int32.toUInt32 31)).toInt32) &&& ((1431655765 : Int32)))).toUInt32 >>> ((nI 2).toUInt32 &&& Int32.toUInt32 31)).toInt32) &&& ((858993459 : Int32)))))]) hx hb dJ6_bitCount_0f7a4_23 rfl hl (by decide) rfl (fun ls hl => ?_)
  refine lv_iload_n hx hb dJ6_bitCount_0f7a4_24 rfl (lv_at hl 0 rfl) ?_
  refine lv_iload_n hx hb dJ6_bitCount_0f7a4_25 rfl (lv_at hl 0 rfl) ?_
  refine lv_iconst (v := nI 4) hx hb dJ6_bitCount_0f7a4_26 (by decide) ?_
  refine lv_iushr hx hb dJ6_bitCount_0f7a4_27 rfl ?_
  refine lv_iadd hx hb dJ6_bitCount_0f7a4_28 ?_
  refine lv_ldcw (v := 252645135) hx hb hown (hts (.constant RJ6 267 252645135) (by decide +kernel)) dJ6_bitCount_0f7a4_29 ?_
  refine lv_iand hx hb dJ6_bitCount_0f7a4_32 ?_
  refine lv_istore_n (lv' := [(0, .int ((((((nI x) - ((((nI x).toUInt32 >>> ((nI 1).toUInt32 &&& Int32.toUInt32 31)).toInt32) &&& ((1431655765 : Int32)))) &&& ((858993459 : Int32))) + (((((nI x) - ((((nI x).toUInt32 >>> ((nI 1).toUInt32 &&& Int32.toUInt32 31)).toInt32) &&& ((1431655765 : Int32)))).toUInt32 >>> ((nI 2).toUInt32 &&& Int32.toUInt32 31)).toInt32) &&& ((858993459 : Int32)))) + ((((((nI x) - ((((nI x).toUInt32 >>> ((nI 1).toUInt32 &&& Int32.toUInt32 31)).toInt32) &&& ((1431655765 : Int32)))) &&& ((858993459 : Int32))) + (((((nI x) - ((((nI x).toUInt32 >>> ((nI 1).toUInt32 &&& Int32.toUInt32 31)).toInt32) &&& ((1431655765 : Int32)))).toUInt32 >>> ((nI 2).toUInt32 &&& Int32.toUInt32 31)).toInt32) &&& ((858993459 : Int32)))).toUInt32 >>> ((nI 4).toUInt32 &&& Int32.toUInt32 31)).toInt32)) &&& ((252645135 : Int32))))]) hx hb dJ6_bitCount_0f7a4_33 rfl hl (by decide) rfl (fun ls hl => ?_)
  refine lv_iload_n hx hb dJ6_bitCount_0f7a4_34 rfl (lv_at hl 0 rfl) ?_
  refine lv_iload_n hx hb dJ6_bitCount_0f7a4_35 rfl (lv_at hl 0 rfl) ?_
  refine lv_bipush (v := nI 8) hx hb dJ6_bitCount_0f7a4_36 (by decide) ?_
  refine lv_iushr hx hb dJ6_bitCount_0f7a4_38 rfl ?_
  refine lv_iadd hx hb dJ6_bitCount_0f7a4_39 ?_
  refine lv_istore_n (lv' := [(0, .int (((((((nI x) - ((((nI x).toUInt32 >>> ((nI 1).toUInt32 &&& Int32.toUInt32 31)).toInt32) &&& ((1431655765 : Int32)))) &&& ((858993459 : Int32))) + (((((nI x) - ((((nI x).toUInt32 >>> ((nI 1).toUInt32 &&& Int32.toUInt32 31)).toInt32) &&& ((1431655765 : Int32)))).toUInt32 >>> ((nI 2).toUInt32 &&& Int32.toUInt32 31)).toInt32) &&& ((858993459 : Int32)))) + ((((((nI x) - ((((nI x).toUInt32 >>> ((nI 1).toUInt32 &&& Int32.toUInt32 31)).toInt32) &&& ((1431655765 : Int32)))) &&& ((858993459 : Int32))) + (((((nI x) - ((((nI x).toUInt32 >>> ((nI 1).toUInt32 &&& Int32.toUInt32 31)).toInt32) &&& ((1431655765 : Int32)))).toUInt32 >>> ((nI 2).toUInt32 &&& Int32.toUInt32 31)).toInt32) &&& ((858993459 : Int32)))).toUInt32 >>> ((nI 4).toUInt32 &&& Int32.toUInt32 31)).toInt32)) &&& ((252645135 : Int32))) + ((((((((nI x) - ((((nI x).toUInt32 >>> ((nI 1).toUInt32 &&& Int32.toUInt32 31)).toInt32) &&& ((1431655765 : Int32)))) &&& ((858993459 : Int32))) + (((((nI x) - ((((nI x).toUInt32 >>> ((nI 1).toUInt32 &&& Int32.toUInt32 31)).toInt32) &&& ((1431655765 : Int32)))).toUInt32 >>> ((nI 2).toUInt32 &&& Int32.toUInt32 31)).toInt32) &&& ((858993459 : Int32)))) + ((((((nI x) - ((((nI x).toUInt32 >>> ((nI 1).toUInt32 &&& Int32.toUInt32 31)).toInt32) &&& ((1431655765 : Int32)))) &&& ((858993459 : Int32))) + (((((nI x) - ((((nI x).toUInt32 >>> ((nI 1).toUInt32 &&& Int32.toUInt32 31)).toInt32) &&& ((1431655765 : Int32)))).toUInt32 >>> ((nI 2).toUInt32 &&& Int32.toUInt32 31)).toInt32) &&& ((858993459 : Int32)))).toUInt32 >>> ((nI 4).toUInt32 &&& Int32.toUInt32 31)).toInt32)) &&& ((252645135 : Int32))).toUInt32 >>> ((nI 8).toUInt32 &&& Int32.toUInt32 31)).toInt32)))]) hx hb dJ6_bitCount_0f7a4_40 rfl hl (by decide) rfl (fun ls hl => ?_)
  refine lv_iload_n hx hb dJ6_bitCount_0f7a4_41 rfl (lv_at hl 0 rfl) ?_
  refine lv_iload_n hx hb dJ6_bitCount_0f7a4_42 rfl (lv_at hl 0 rfl) ?_
  refine lv_bipush (v := nI 16) hx hb dJ6_bitCount_0f7a4_43 (by decide) ?_
  refine lv_iushr hx hb dJ6_bitCount_0f7a4_45 rfl ?_
  refine lv_iadd hx hb dJ6_bitCount_0f7a4_46 ?_
  refine lv_istore_n (lv' := [(0, .int ((((((((nI x) - ((((nI x).toUInt32 >>> ((nI 1).toUInt32 &&& Int32.toUInt32 31)).toInt32) &&& ((1431655765 : Int32)))) &&& ((858993459 : Int32))) + (((((nI x) - ((((nI x).toUInt32 >>> ((nI 1).toUInt32 &&& Int32.toUInt32 31)).toInt32) &&& ((1431655765 : Int32)))).toUInt32 >>> ((nI 2).toUInt32 &&& Int32.toUInt32 31)).toInt32) &&& ((858993459 : Int32)))) + ((((((nI x) - ((((nI x).toUInt32 >>> ((nI 1).toUInt32 &&& Int32.toUInt32 31)).toInt32) &&& ((1431655765 : Int32)))) &&& ((858993459 : Int32))) + (((((nI x) - ((((nI x).toUInt32 >>> ((nI 1).toUInt32 &&& Int32.toUInt32 31)).toInt32) &&& ((1431655765 : Int32)))).toUInt32 >>> ((nI 2).toUInt32 &&& Int32.toUInt32 31)).toInt32) &&& ((858993459 : Int32)))).toUInt32 >>> ((nI 4).toUInt32 &&& Int32.toUInt32 31)).toInt32)) &&& ((252645135 : Int32))) + ((((((((nI x) - ((((nI x).toUInt32 >>> ((nI 1).toUInt32 &&& Int32.toUInt32 31)).toInt32) &&& ((1431655765 : Int32)))) &&& ((858993459 : Int32))) + (((((nI x) - ((((nI x).toUInt32 >>> ((nI 1).toUInt32 &&& Int32.toUInt32 31)).toInt32) &&& ((1431655765 : Int32)))).toUInt32 >>> ((nI 2).toUInt32 &&& Int32.toUInt32 31)).toInt32) &&& ((858993459 : Int32)))) + ((((((nI x) - ((((nI x).toUInt32 >>> ((nI 1).toUInt32 &&& Int32.toUInt32 31)).toInt32) &&& ((1431655765 : Int32)))) &&& ((858993459 : Int32))) + (((((nI x) - ((((nI x).toUInt32 >>> ((nI 1).toUInt32 &&& Int32.toUInt32 31)).toInt32) &&& ((1431655765 : Int32)))).toUInt32 >>> ((nI 2).toUInt32 &&& Int32.toUInt32 31)).toInt32) &&& ((858993459 : Int32)))).toUInt32 >>> ((nI 4).toUInt32 &&& Int32.toUInt32 31)).toInt32)) &&& ((252645135 : Int32))).toUInt32 >>> ((nI 8).toUInt32 &&& Int32.toUInt32 31)).toInt32)) + (((((((((nI x) - ((((nI x).toUInt32 >>> ((nI 1).toUInt32 &&& Int32.toUInt32 31)).toInt32) &&& ((1431655765 : Int32)))) &&& ((858993459 : Int32))) + (((((nI x) - ((((nI x).toUInt32 >>> ((nI 1).toUInt32 &&& Int32.toUInt32 31)).toInt32) &&& ((1431655765 : Int32)))).toUInt32 >>> ((nI 2).toUInt32 &&& Int32.toUInt32 31)).toInt32) &&& ((858993459 : Int32)))) + ((((((nI x) - ((((nI x).toUInt32 >>> ((nI 1).toUInt32 &&& Int32.toUInt32 31)).toInt32) &&& ((1431655765 : Int32)))) &&& ((858993459 : Int32))) + (((((nI x) - ((((nI x).toUInt32 >>> ((nI 1).toUInt32 &&& Int32.toUInt32 31)).toInt32) &&& ((1431655765 : Int32)))).toUInt32 >>> ((nI 2).toUInt32 &&& Int32.toUInt32 31)).toInt32) &&& ((858993459 : Int32)))).toUInt32 >>> ((nI 4).toUInt32 &&& Int32.toUInt32 31)).toInt32)) &&& ((252645135 : Int32))) + ((((((((nI x) - ((((nI x).toUInt32 >>> ((nI 1).toUInt32 &&& Int32.toUInt32 31)).toInt32) &&& ((1431655765 : Int32)))) &&& ((858993459 : Int32))) + (((((nI x) - ((((nI x).toUInt32 >>> ((nI 1).toUInt32 &&& Int32.toUInt32 31)).toInt32) &&& ((1431655765 : Int32)))).toUInt32 >>> ((nI 2).toUInt32 &&& Int32.toUInt32 31)).toInt32) &&& ((858993459 : Int32)))) + ((((((nI x) - ((((nI x).toUInt32 >>> ((nI 1).toUInt32 &&& Int32.toUInt32 31)).toInt32) &&& ((1431655765 : Int32)))) &&& ((858993459 : Int32))) + (((((nI x) - ((((nI x).toUInt32 >>> ((nI 1).toUInt32 &&& Int32.toUInt32 31)).toInt32) &&& ((1431655765 : Int32)))).toUInt32 >>> ((nI 2).toUInt32 &&& Int32.toUInt32 31)).toInt32) &&& ((858993459 : Int32)))).toUInt32 >>> ((nI 4).toUInt32 &&& Int32.toUInt32 31)).toInt32)) &&& ((252645135 : Int32))).toUInt32 >>> ((nI 8).toUInt32 &&& Int32.toUInt32 31)).toInt32)).toUInt32 >>> ((nI 16).toUInt32 &&& Int32.toUInt32 31)).toInt32)))]) hx hb dJ6_bitCount_0f7a4_47 rfl hl (by decide) rfl (fun ls hl => ?_)
  refine lv_iload_n hx hb dJ6_bitCount_0f7a4_48 rfl (lv_at hl 0 rfl) ?_
  refine lv_bipush (v := nI 63) hx hb dJ6_bitCount_0f7a4_49 (by decide) ?_
  refine lv_iand hx hb dJ6_bitCount_0f7a4_51 ?_
  exact hq _ _ ((((((((((nI x) - ((((nI x).toUInt32 >>> ((nI 1).toUInt32 &&& Int32.toUInt32 31)).toInt32) &&& ((1431655765 : Int32)))) &&& ((858993459 : Int32))) + (((((nI x) - ((((nI x).toUInt32 >>> ((nI 1).toUInt32 &&& Int32.toUInt32 31)).toInt32) &&& ((1431655765 : Int32)))).toUInt32 >>> ((nI 2).toUInt32 &&& Int32.toUInt32 31)).toInt32) &&& ((858993459 : Int32)))) + ((((((nI x) - ((((nI x).toUInt32 >>> ((nI 1).toUInt32 &&& Int32.toUInt32 31)).toInt32) &&& ((1431655765 : Int32)))) &&& ((858993459 : Int32))) + (((((nI x) - ((((nI x).toUInt32 >>> ((nI 1).toUInt32 &&& Int32.toUInt32 31)).toInt32) &&& ((1431655765 : Int32)))).toUInt32 >>> ((nI 2).toUInt32 &&& Int32.toUInt32 31)).toInt32) &&& ((858993459 : Int32)))).toUInt32 >>> ((nI 4).toUInt32 &&& Int32.toUInt32 31)).toInt32)) &&& ((252645135 : Int32))) + ((((((((nI x) - ((((nI x).toUInt32 >>> ((nI 1).toUInt32 &&& Int32.toUInt32 31)).toInt32) &&& ((1431655765 : Int32)))) &&& ((858993459 : Int32))) + (((((nI x) - ((((nI x).toUInt32 >>> ((nI 1).toUInt32 &&& Int32.toUInt32 31)).toInt32) &&& ((1431655765 : Int32)))).toUInt32 >>> ((nI 2).toUInt32 &&& Int32.toUInt32 31)).toInt32) &&& ((858993459 : Int32)))) + ((((((nI x) - ((((nI x).toUInt32 >>> ((nI 1).toUInt32 &&& Int32.toUInt32 31)).toInt32) &&& ((1431655765 : Int32)))) &&& ((858993459 : Int32))) + (((((nI x) - ((((nI x).toUInt32 >>> ((nI 1).toUInt32 &&& Int32.toUInt32 31)).toInt32) &&& ((1431655765 : Int32)))).toUInt32 >>> ((nI 2).toUInt32 &&& Int32.toUInt32 31)).toInt32) &&& ((858993459 : Int32)))).toUInt32 >>> ((nI 4).toUInt32 &&& Int32.toUInt32 31)).toInt32)) &&& ((252645135 : Int32))).toUInt32 >>> ((nI 8).toUInt32 &&& Int32.toUInt32 31)).toInt32)) + (((((((((nI x) - ((((nI x).toUInt32 >>> ((nI 1).toUInt32 &&& Int32.toUInt32 31)).toInt32) &&& ((1431655765 : Int32)))) &&& ((858993459 : Int32))) + (((((nI x) - ((((nI x).toUInt32 >>> ((nI 1).toUInt32 &&& Int32.toUInt32 31)).toInt32) &&& ((1431655765 : Int32)))).toUInt32 >>> ((nI 2).toUInt32 &&& Int32.toUInt32 31)).toInt32) &&& ((858993459 : Int32)))) + ((((((nI x) - ((((nI x).toUInt32 >>> ((nI 1).toUInt32 &&& Int32.toUInt32 31)).toInt32) &&& ((1431655765 : Int32)))) &&& ((858993459 : Int32))) + (((((nI x) - ((((nI x).toUInt32 >>> ((nI 1).toUInt32 &&& Int32.toUInt32 31)).toInt32) &&& ((1431655765 : Int32)))).toUInt32 >>> ((nI 2).toUInt32 &&& Int32.toUInt32 31)).toInt32) &&& ((858993459 : Int32)))).toUInt32 >>> ((nI 4).toUInt32 &&& Int32.toUInt32 31)).toInt32)) &&& ((252645135 : Int32))) + ((((((((nI x) - ((((nI x).toUInt32 >>> ((nI 1).toUInt32 &&& Int32.toUInt32 31)).toInt32) &&& ((1431655765 : Int32)))) &&& ((858993459 : Int32))) + (((((nI x) - ((((nI x).toUInt32 >>> ((nI 1).toUInt32 &&& Int32.toUInt32 31)).toInt32) &&& ((1431655765 : Int32)))).toUInt32 >>> ((nI 2).toUInt32 &&& Int32.toUInt32 31)).toInt32) &&& ((858993459 : Int32)))) + ((((((nI x) - ((((nI x).toUInt32 >>> ((nI 1).toUInt32 &&& Int32.toUInt32 31)).toInt32) &&& ((1431655765 : Int32)))) &&& ((858993459 : Int32))) + (((((nI x) - ((((nI x).toUInt32 >>> ((nI 1).toUInt32 &&& Int32.toUInt32 31)).toInt32) &&& ((1431655765 : Int32)))).toUInt32 >>> ((nI 2).toUInt32 &&& Int32.toUInt32 31)).toInt32) &&& ((858993459 : Int32)))).toUInt32 >>> ((nI 4).toUInt32 &&& Int32.toUInt32 31)).toInt32)) &&& ((252645135 : Int32))).toUInt32 >>> ((nI 8).toUInt32 &&& Int32.toUInt32 31)).toInt32)).toUInt32 >>> ((nI 16).toUInt32 &&& Int32.toUInt32 31)).toInt32)) &&& (nI 63))) dJ6_bitCount_0f7a4_52 ((by decide +kernel : ∀ x, x < 32 → ((((((((nI x) - ((((nI x).toUInt32 >>> ((nI 1).toUInt32 &&& Int32.toUInt32 31)).toInt32) &&& ((1431655765 : Int32)))) &&& ((858993459 : Int32))) + (((((nI x) - ((((nI x).toUInt32 >>> ((nI 1).toUInt32 &&& Int32.toUInt32 31)).toInt32) &&& ((1431655765 : Int32)))).toUInt32 >>> ((nI 2).toUInt32 &&& Int32.toUInt32 31)).toInt32) &&& ((858993459 : Int32)))) + ((((((nI x) - ((((nI x).toUInt32 >>> ((nI 1).toUInt32 &&& Int32.toUInt32 31)).toInt32) &&& ((1431655765 : Int32)))) &&& ((858993459 : Int32))) + (((((nI x) - ((((nI x).toUInt32 >>> ((nI 1).toUInt32 &&& Int32.toUInt32 31)).toInt32) &&& ((1431655765 : Int32)))).toUInt32 >>> ((nI 2).toUInt32 &&& Int32.toUInt32 31)).toInt32) &&& ((858993459 : Int32)))).toUInt32 >>> ((nI 4).toUInt32 &&& Int32.toUInt32 31)).toInt32)) &&& ((252645135 : Int32))) + ((((((((nI x) - ((((nI x).toUInt32 >>> ((nI 1).toUInt32 &&& Int32.toUInt32 31)).toInt32) &&& ((1431655765 : Int32)))) &&& ((858993459 : Int32))) + (((((nI x) - ((((nI x).toUInt32 >>> ((nI 1).toUInt32 &&& Int32.toUInt32 31)).toInt32) &&& ((1431655765 : Int32)))).toUInt32 >>> ((nI 2).toUInt32 &&& Int32.toUInt32 31)).toInt32) &&& ((858993459 : Int32)))) + ((((((nI x) - ((((nI x).toUInt32 >>> ((nI 1).toUInt32 &&& Int32.toUInt32 31)).toInt32) &&& ((1431655765 : Int32)))) &&& ((858993459 : Int32))) + (((((nI x) - ((((nI x).toUInt32 >>> ((nI 1).toUInt32 &&& Int32.toUInt32 31)).toInt32) &&& ((1431655765 : Int32)))).toUInt32 >>> ((nI 2).toUInt32 &&& Int32.toUInt32 31)).toInt32) &&& ((858993459 : Int32)))).toUInt32 >>> ((nI 4).toUInt32 &&& Int32.toUInt32 31)).toInt32)) &&& ((252645135 : Int32))).toUInt32 >>> ((nI 8).toUInt32 &&& Int32.toUInt32 31)).toInt32)) + (((((((((nI x) - ((((nI x).toUInt32 >>> ((nI 1).toUInt32 &&& Int32.toUInt32 31)).toInt32) &&& ((1431655765 : Int32)))) &&& ((858993459 : Int32))) + (((((nI x) - ((((nI x).toUInt32 >>> ((nI 1).toUInt32 &&& Int32.toUInt32 31)).toInt32) &&& ((1431655765 : Int32)))).toUInt32 >>> ((nI 2).toUInt32 &&& Int32.toUInt32 31)).toInt32) &&& ((858993459 : Int32)))) + ((((((nI x) - ((((nI x).toUInt32 >>> ((nI 1).toUInt32 &&& Int32.toUInt32 31)).toInt32) &&& ((1431655765 : Int32)))) &&& ((858993459 : Int32))) + (((((nI x) - ((((nI x).toUInt32 >>> ((nI 1).toUInt32 &&& Int32.toUInt32 31)).toInt32) &&& ((1431655765 : Int32)))).toUInt32 >>> ((nI 2).toUInt32 &&& Int32.toUInt32 31)).toInt32) &&& ((858993459 : Int32)))).toUInt32 >>> ((nI 4).toUInt32 &&& Int32.toUInt32 31)).toInt32)) &&& ((252645135 : Int32))) + ((((((((nI x) - ((((nI x).toUInt32 >>> ((nI 1).toUInt32 &&& Int32.toUInt32 31)).toInt32) &&& ((1431655765 : Int32)))) &&& ((858993459 : Int32))) + (((((nI x) - ((((nI x).toUInt32 >>> ((nI 1).toUInt32 &&& Int32.toUInt32 31)).toInt32) &&& ((1431655765 : Int32)))).toUInt32 >>> ((nI 2).toUInt32 &&& Int32.toUInt32 31)).toInt32) &&& ((858993459 : Int32)))) + ((((((nI x) - ((((nI x).toUInt32 >>> ((nI 1).toUInt32 &&& Int32.toUInt32 31)).toInt32) &&& ((1431655765 : Int32)))) &&& ((858993459 : Int32))) + (((((nI x) - ((((nI x).toUInt32 >>> ((nI 1).toUInt32 &&& Int32.toUInt32 31)).toInt32) &&& ((1431655765 : Int32)))).toUInt32 >>> ((nI 2).toUInt32 &&& Int32.toUInt32 31)).toInt32) &&& ((858993459 : Int32)))).toUInt32 >>> ((nI 4).toUInt32 &&& Int32.toUInt32 31)).toInt32)) &&& ((252645135 : Int32))).toUInt32 >>> ((nI 8).toUInt32 &&& Int32.toUInt32 31)).toInt32)).toUInt32 >>> ((nI 16).toUInt32 &&& Int32.toUInt32 31)).toInt32)) &&& (nI 63) = nI (pop x)) x (by omega))

abbrev r_c_X0_accepting : Room := { frames := 0, cells := 0, slots := 0, locals := 0 }
set_option maxHeartbeats 4000000 in
set_option maxRecDepth 100000 in
theorem c_X0_accepting (l : Launch) (g : GC) (tl : va_W) (σ : SS) (k : Nat) (hA : OkA σ) : Met l yX0_accepting wsX0_accepting r_c_X0_accepting (va_Pc [.ref (g.2.2.2 1), .int (nI k)] (PP g (wC g σ ++ tl))) (vp_Si (fun r => r = nI (if k &&& σ.1 0 ≠ 0 then 1 else 0))) 0 0 (fun _ => False) := by
  refine jn_pz (cc := cX0_accepting) (maxL := 2) (own := RX0) (by decide) rfl rfl (Nat.le_of_ble_eq_true rfl) ?_
  intro p e s m below meth c Q hx hb hml hown hts ⟨hP, hK⟩ hq ls hl
  have hl : lv_has ls 2 [(0, .ref (g.2.2.2 1)), (1, .int (nI k))] := hl
  have iX0 : ∀ w ∈ wsX00, w ∈ wsX0_accepting := by decide +kernel
  have k18 := hts (.fieldLink RX0 18 "JumpingAutomata$Automaton" "finals" "I") (by decide +kernel)
  refine lv_iload_n hx hb dX0_accepting_0 rfl (lv_at hl 1 rfl) ?_
  refine lv_aload_n hx hb dX0_accepting_1 rfl (lv_at hl 0 rfl) ?_
  refine va_get (D := (g.1, g.2.1)) (ci := 2) (v := .int (nI (σ.1 0))) (C := RX0) (T := TX0) (N := 3) hx hb hts iX0 hown hK.1 hP 1 (gC1 g σ tl) rfl 2 (by decide) k18 (fun _ h9 => h9) rfl dX0_accepting_2 ?_
  refine jn_iand hx hb dX0_accepting_5 ?_
  refine jn_zeq hx hb (and_lt (Nat.lt_trans hA.2.1 (by decide))) (tgt := 13) dX0_accepting_6 (by decide) (fun c_6 => ?_) (fun c_6 => ?_)
  · refine lv_iconst (v := nI 0) hx hb dX0_accepting_13 (by decide) ?_
    exact hq _ _ ((nI 0)) dX0_accepting_14 jn_n0 (by first | rw [if_neg (by omega)] | rw [if_pos (by omega)])
  · refine lv_iconst (v := nI 1) hx hb dX0_accepting_9 (by decide) ?_
    refine lv_goto (tgt := 14) hx hb dX0_accepting_10 (by decide) ?_
    exact hq _ _ ((nI 1)) dX0_accepting_14 jn_n1 (by first | rw [if_neg (by omega)] | rw [if_pos (by omega)])

abbrev r_c_X0_targetsOf : Room := { frames := 1, cells := 0, slots := 0, locals := 20 }
set_option maxHeartbeats 4000000 in
set_option maxRecDepth 100000 in
theorem c_X0_targetsOf (l : Launch) (g : GC) (tl : va_W) (σ : SS) (x y : Nat) (hA : OkA σ) (hx : x < 5) (hy : y < 3) : Met l yX0_targetsOf wsX0_targetsOf r_c_X0_targetsOf (va_Pc [.ref (g.2.2.2 1), .int (nI x), .int (nI y)] (PP g (wC g σ ++ tl))) (vp_Si (fun r => r = nI (σ.2.1 0 (x * 3 + y)))) 0 0 (fun _ => False) := by
  refine jn_pi (cc := cX0_targetsOf) (maxL := 3) (own := RX0) (by decide) rfl rfl (Nat.le_of_ble_eq_true rfl) ?_
  intro p e s m below meth c Q hx hb hml hown hts ⟨hP, hK⟩ hq ls hl
  have hl : lv_has ls 3 [(0, .ref (g.2.2.2 1)), (1, .int (nI x)), (2, .int (nI y))] := hl
  have iX0 : ∀ w ∈ wsX00, w ∈ wsX0_targetsOf := by decide +kernel
  have k9 := hts (.fieldLink RX0 9 "JumpingAutomata$Automaton" "targets" "[I") (by decide +kernel)
  refine lv_iload_n hx hb dX0_targetsOf_0 rfl (lv_at hl 1 rfl) ?_
  refine vp_callSi (va_Run.run (va_runSN (As := [.int (nI x)]) (rest := []) ⟨hx, hb, hml, hown, hts⟩ (c_X10_isState l x (by omega)) ⟨(va_cnB 1 hts gX0_targetsOf_X10_isState_n22 rfl rfl rfl (hK.2 _ (List.mem_of_getElem? (i := 11) rfl)) (hts (.initialized RX10) (by decide +kernel)) (by decide +kernel) ⟨Nat.le_of_ble_eq_true rfl, Nat.le_of_ble_eq_true rfl⟩), hts (.static yX10_isState) (by decide +kernel), trivial⟩ okTS rfl rfl hl.1 rfl (lv_room (Nat.le_of_ble_eq_true rfl)) dX0_targetsOf_1 ⟨Nat.le_of_ble_eq_true rfl, Nat.le_of_ble_eq_true rfl⟩)) (fun r_1 h_1 => ?_)
  subst h_1
  refine jn_beq hx hb (tgt := 27) dX0_targetsOf_4 (by decide) (fun c_4 => absurd c_4 (by omega)) (fun c_4 => ?_)
  refine lv_iload_n hx hb dX0_targetsOf_7 rfl (lv_at hl 2 rfl) ?_
  refine vp_callSi (va_Run.run (va_runSN (As := [.int (nI y)]) (rest := []) ⟨hx, hb, hml, hown, hts⟩ (c_X10_isLetter l y (by omega)) ⟨(va_cnB 1 hts gX0_targetsOf_X10_isLetter_n26 rfl rfl rfl (hK.2 _ (List.mem_of_getElem? (i := 10) rfl)) (hts (.initialized RX10) (by decide +kernel)) (by decide +kernel) ⟨Nat.le_of_ble_eq_true rfl, Nat.le_of_ble_eq_true rfl⟩), hts (.static yX10_isLetter) (by decide +kernel), trivial⟩ okTS rfl rfl hl.1 rfl (lv_room (Nat.le_of_ble_eq_true rfl)) dX0_targetsOf_8 ⟨Nat.le_of_ble_eq_true rfl, Nat.le_of_ble_eq_true rfl⟩)) (fun r_8 h_8 => ?_)
  subst h_8
  refine jn_beq hx hb (tgt := 27) dX0_targetsOf_11 (by decide) (fun c_11 => absurd c_11 (by omega)) (fun c_11 => ?_)
  refine lv_aload_n hx hb dX0_targetsOf_14 rfl (lv_at hl 0 rfl) ?_
  refine va_get (D := (g.1, g.2.1)) (ci := 2) (v := .ref (g.2.2.2 2)) (C := RX0) (T := TX0) (N := 3) hx hb hts iX0 hown hK.1 hP 1 (gC1 g σ tl) rfl 0 (by decide) k9 (fun _ h9 => h9) rfl dX0_targetsOf_15 ?_
  refine lv_iload_n hx hb dX0_targetsOf_18 rfl (lv_at hl 1 rfl) ?_
  refine lv_iconst (v := nI 3) hx hb dX0_targetsOf_19 (by decide) ?_
  refine jn_imul hx hb dX0_targetsOf_20 ?_
  refine lv_iload_n hx hb dX0_targetsOf_21 rfl (lv_at hl 2 rfl) ?_
  refine jn_iadd hx hb dX0_targetsOf_22 ?_
  refine jn_iald (f := σ.2.1 0) hx hb hK.1 hP 2 0 (gC2 g σ tl) rfl (by omega) (Nat.le_of_ble_eq_true rfl) dX0_targetsOf_23 ?_
  refine lv_goto (tgt := 28) hx hb dX0_targetsOf_24 (by decide) ?_
  exact hq _ _ ((nI ((σ.2.1 0) ((x * 3) + y)))) dX0_targetsOf_28 rfl

abbrev r_c_X0_step : Room := { frames := 1, cells := 0, slots := 0, locals := 20 }
set_option maxHeartbeats 4000000 in
set_option maxRecDepth 100000 in
theorem c_X0_step (l : Launch) (g : GC) (tl : va_W) (σ : SS) (x k : Nat) (hA : OkA σ) (hx : x < 3) (hk : k < 32) : Met l yX0_step wsX0_step r_c_X0_step (va_Pc [.ref (g.2.2.2 1), .int (nI x), .int (nI k)] (PP g (wC g σ ++ tl))) (vp_Si (fun r => r = nI (stp (σ.2.1 0) x k))) 0 0 (fun _ => False) := by
  refine jn_pi (cc := cX0_step) (maxL := 3) (own := RX0) (by decide) rfl rfl (Nat.le_of_ble_eq_true rfl) ?_
  intro p e s m below meth c Q hx hb hml hown hts ⟨hP, hK⟩ hq ls hl
  have hl : lv_has ls 3 [(0, .ref (g.2.2.2 1)), (1, .int (nI x)), (2, .int (nI k))] := hl
  have iX0 : ∀ w ∈ wsX00, w ∈ wsX0_step := by decide +kernel
  have k15 := hts (.fieldLink RX0 15 "JumpingAutomata$Automaton" "steps" "[I") (by decide +kernel)
  refine lv_iload_n hx hb dX0_step_0 rfl (lv_at hl 1 rfl) ?_
  refine vp_callSi (va_Run.run (va_runSN (As := [.int (nI x)]) (rest := []) ⟨hx, hb, hml, hown, hts⟩ (c_X10_isLetter l x (by omega)) ⟨(va_cnB 1 hts gX0_step_X10_isLetter_n26 rfl rfl rfl (hK.2 _ (List.mem_of_getElem? (i := 10) rfl)) (hts (.initialized RX10) (by decide +kernel)) (by decide +kernel) ⟨Nat.le_of_ble_eq_true rfl, Nat.le_of_ble_eq_true rfl⟩), hts (.static yX10_isLetter) (by decide +kernel), trivial⟩ okTS rfl rfl hl.1 rfl (lv_room (Nat.le_of_ble_eq_true rfl)) dX0_step_1 ⟨Nat.le_of_ble_eq_true rfl, Nat.le_of_ble_eq_true rfl⟩)) (fun r_1 h_1 => ?_)
  subst h_1
  refine jn_beq hx hb (tgt := 24) dX0_step_4 (by decide) (fun c_4 => absurd c_4 (by omega)) (fun c_4 => ?_)
  refine lv_aload_n hx hb dX0_step_7 rfl (lv_at hl 0 rfl) ?_
  refine va_get (D := (g.1, g.2.1)) (ci := 2) (v := .ref (g.2.2.2 3)) (C := RX0) (T := TX0) (N := 3) hx hb hts iX0 hown hK.1 hP 1 (gC1 g σ tl) rfl 1 (by decide) k15 (fun _ h9 => h9) rfl dX0_step_8 ?_
  refine lv_iload_n hx hb dX0_step_11 rfl (lv_at hl 1 rfl) ?_
  refine lv_bipush (v := nI 32) hx hb dX0_step_12 (by decide) ?_
  refine jn_imul hx hb dX0_step_14 ?_
  refine lv_iload_n hx hb dX0_step_15 rfl (lv_at hl 2 rfl) ?_
  refine lv_bipush (v := nI 31) hx hb dX0_step_16 (by decide) ?_
  refine jn_iand hx hb dX0_step_18 ?_
  refine jn_iadd hx hb dX0_step_19 ?_
  have a31 : k &&& 31 ≤ 31 := Nat.and_le_right
  refine jn_iald (f := σ.2.1 1) hx hb hK.1 hP 3 0 (gC3 g σ tl) rfl (by omega) (Nat.le_of_ble_eq_true rfl) dX0_step_20 ?_
  refine lv_goto (tgt := 25) hx hb dX0_step_21 (by decide) ?_
  exact hq _ _ ((nI ((σ.2.1 1) ((x * 32) + (k &&& 31))))) dX0_step_25 (by rw [and31 hk, hA.2.2 x (by omega) k hk])

abbrev r_c_X0_statesAfter : Room := { frames := 2, cells := 0, slots := 0, locals := 42 }
set_option maxHeartbeats 4000000 in
set_option maxRecDepth 100000 in
theorem c_X0_statesAfter (l : Launch) (g : GC) (tl : va_W) (σ : SS) (n : Nat) (hA : OkA σ) (hn : n ≤ 8) (hw : ∀ i, i < n → σ.2.1 14 i < 3) : Met l yX0_statesAfter wsX0_statesAfter r_c_X0_statesAfter (va_Pc [.ref (g.2.2.2 1), .ref (g.2.2.2 20), .int (nI n)] (PP g (wC g σ ++ tl))) (vp_Si (fun r => r = nI (wrun (σ.2.1 0) (σ.2.1 14) n))) 0 0 (fun _ => False) := by
  refine jn_pi (cc := cX0_statesAfter) (maxL := 5) (own := RX0) (by decide) rfl rfl (Nat.le_of_ble_eq_true rfl) ?_
  intro p e s m below meth c Q hx hb hml hown hts ⟨hP, hK⟩ hq ls hl
  have hl : lv_has ls 5 [(0, .ref (g.2.2.2 1)), (1, .ref (g.2.2.2 20)), (2, .int (nI n))] := hl
  refine lv_iconst (v := nI 1) hx hb dX0_statesAfter_0 (by decide) ?_
  refine lv_istore_n (lv' := [(3, .int (nI 1)), (0, .ref (g.2.2.2 1)), (1, .ref (g.2.2.2 20)), (2, .int (nI n))]) hx hb dX0_statesAfter_1 rfl hl (by decide) rfl (fun ls hl => ?_)
  refine lv_iconst (v := nI 0) hx hb dX0_statesAfter_2 (by decide) ?_
  refine lv_istore (lv' := [(4, .int (nI 0)), (3, .int (nI 1)), (0, .ref (g.2.2.2 1)), (1, .ref (g.2.2.2 20)), (2, .int (nI n))]) hx hb dX0_statesAfter_3 hl (by decide) rfl (fun ls hl => ?_)
  have lp5 : ∀ (fu : Nat), ∀ (i : Nat) (mk : Nat), (i ≤ n) → (mk = wrun (σ.2.1 0) (σ.2.1 14) i) → n - i < fu → ∀ ls : Array Slot, lv_has ls 5 [(0, .ref (g.2.2.2 1)), (1, .ref (g.2.2.2 20)), (2, .int (nI n)), (3, .int (nI mk)), (4, .int (nI i))] → W p l e r_c_X0_statesAfter s m ([.ref (g.2.2.2 1), .ref (g.2.2.2 20), .int (nI n)] : List Value).toArray below meth c s.heap [] 0 0 Q (F0 m 5 ls []) := by
    intro fu
    induction fu with
    | zero => intro i mk h1 h2 hf; exact absurd hf (Nat.not_lt_zero _)
    | succ fu ih5 =>
      intro i mk h1 h2 hf ls hl
      refine lv_iload hx hb dX0_statesAfter_5 (lv_at hl 4 rfl) ?_
      refine lv_iload_n hx hb dX0_statesAfter_7 rfl (lv_at hl 2 rfl) ?_
      refine jn_cge hx hb (by omega) (by omega) (tgt := 34) dX0_statesAfter_8 (by decide) (fun c_8 => ?_) (fun c_8 => ?_)
      · refine lv_iload_n hx hb dX0_statesAfter_34 rfl (lv_at hl 3 rfl) ?_
        exact hq _ _ ((nI mk)) dX0_statesAfter_35 (by rw [h2, show i = n by omega])
      · refine lv_iload hx hb dX0_statesAfter_11 (lv_at hl 4 rfl) ?_
        refine lv_aload_n hx hb dX0_statesAfter_13 rfl (lv_at hl 1 rfl) ?_
        refine va_alen hx hb hK.1 hP 20 0 (gC20 g σ tl) rfl (v := nI 8) rfl dX0_statesAfter_14 ?_
        refine jn_cge hx hb (by omega) (by decide) (tgt := 34) dX0_statesAfter_15 (by decide) (fun c_15 => ?_) (fun c_15 => ?_)
        · refine lv_iload_n hx hb dX0_statesAfter_34 rfl (lv_at hl 3 rfl) ?_
          exact hq _ _ ((nI mk)) dX0_statesAfter_35 (by rw [h2, show i = n by omega])
        · refine lv_aload_n hx hb dX0_statesAfter_18 rfl (lv_at hl 0 rfl) ?_
          refine lv_aload_n hx hb dX0_statesAfter_19 rfl (lv_at hl 1 rfl) ?_
          refine lv_iload hx hb dX0_statesAfter_20 (lv_at hl 4 rfl) ?_
          refine jn_iald (f := σ.2.1 14) hx hb hK.1 hP 20 0 (gC20 g σ tl) rfl (by omega) (Nat.le_of_ble_eq_true rfl) dX0_statesAfter_22 ?_
          refine lv_iload_n hx hb dX0_statesAfter_23 rfl (lv_at hl 3 rfl) ?_
          refine vp_callSi (va_Run.run (va_runV (As := [.int (nI ((σ.2.1 14) i)), .int (nI mk)]) (rest := []) ⟨hx, hb, hml, hown, hts⟩ (c_X0_step l g tl σ ((σ.2.1 14) i) mk hA (hw i (by omega)) (by rw [h2]; exact wrun_lt hA.1 i (fun j hj => hw j (by omega)))) (cwV 2 hts gX0_statesAfter_X0_step rfl rfl rfl (by decide +kernel) ⟨Nat.le_of_ble_eq_true rfl, Nat.le_of_ble_eq_true rfl⟩) (okPV hK hP rfl (gC1 g σ tl)) rfl rfl hl.1 rfl (lv_room (Nat.le_of_ble_eq_true rfl)) dX0_statesAfter_24 ⟨Nat.le_of_ble_eq_true rfl, Nat.le_of_ble_eq_true rfl⟩)) (fun r_24 h_24 => ?_)
          subst h_24
          refine lv_istore_n (lv' := [(3, .int (nI (stp (σ.2.1 0) ((σ.2.1 14) i) mk))), (0, .ref (g.2.2.2 1)), (1, .ref (g.2.2.2 20)), (2, .int (nI n)), (4, .int (nI i))]) hx hb dX0_statesAfter_27 rfl hl (by decide) rfl (fun ls hl => ?_)
          refine lv_iinc (v := nI (i + 1)) (lv' := [(4, .int (nI (i + 1))), (3, .int (nI (stp (σ.2.1 0) ((σ.2.1 14) i) mk))), (0, .ref (g.2.2.2 1)), (1, .ref (g.2.2.2 20)), (2, .int (nI n))]) hx hb dX0_statesAfter_28 hl (k := 4) rfl (jn_ii _ 1) (by decide) rfl (fun ls hl => ?_)
          refine lv_goto (tgt := 5) hx hb dX0_statesAfter_31 (by decide) ?_
          exact ih5 (i + 1) (stp (σ.2.1 0) ((σ.2.1 14) i) mk) (by omega) (by rw [h2]; rfl) (by omega) _ (lv_sub hl [2, 3, 4, 1, 0] rfl)
  exact lp5 _ 0 1 (by omega) rfl (Nat.lt_succ_self _) _ (lv_sub hl [2, 3, 4, 1, 0] rfl)

abbrev r_c_X0_has : Room := { frames := 2, cells := 0, slots := 0, locals := 42 }
set_option maxHeartbeats 4000000 in
set_option maxRecDepth 100000 in
theorem c_X0_has (l : Launch) (g : GC) (tl : va_W) (σ : SS) (x y z : Nat) (hA : OkA σ) (hx : x < 5) (hy : y < 3) (hz : z < 5) : Met l yX0_has wsX0_has r_c_X0_has (va_Pc [.ref (g.2.2.2 1), .int (nI x), .int (nI y), .int (nI z)] (PP g (wC g σ ++ tl))) (vp_Si (fun r => r = nI (if Nat.testBit (σ.2.1 0 (x * 3 + y)) z = true then 1 else 0))) 0 0 (fun _ => False) := by
  refine jn_pz (cc := cX0_has) (maxL := 4) (own := RX0) (by decide) rfl rfl (Nat.le_of_ble_eq_true rfl) ?_
  intro p e s m below meth c Q hx hb hml hown hts ⟨hP, hK⟩ hq ls hl
  have hl : lv_has ls 4 [(0, .ref (g.2.2.2 1)), (1, .int (nI x)), (2, .int (nI y)), (3, .int (nI z))] := hl
  refine lv_iload_n hx hb dX0_has_0 rfl (lv_at hl 3 rfl) ?_
  refine vp_callSi (va_Run.run (va_runSN (As := [.int (nI z)]) (rest := []) ⟨hx, hb, hml, hown, hts⟩ (c_X10_isState l z (by omega)) ⟨(va_cnB 1 hts gX0_has_X10_isState_n22 rfl rfl rfl (hK.2 _ (List.mem_of_getElem? (i := 11) rfl)) (hts (.initialized RX10) (by decide +kernel)) (by decide +kernel) ⟨Nat.le_of_ble_eq_true rfl, Nat.le_of_ble_eq_true rfl⟩), hts (.static yX10_isState) (by decide +kernel), trivial⟩ okTS rfl rfl hl.1 rfl (lv_room (Nat.le_of_ble_eq_true rfl)) dX0_has_1 ⟨Nat.le_of_ble_eq_true rfl, Nat.le_of_ble_eq_true rfl⟩)) (fun r_1 h_1 => ?_)
  subst h_1
  refine jn_beq hx hb (tgt := 24) dX0_has_4 (by decide) (fun c_4 => absurd c_4 (by omega)) (fun c_4 => ?_)
  refine lv_aload_n hx hb dX0_has_7 rfl (lv_at hl 0 rfl) ?_
  refine lv_iload_n hx hb dX0_has_8 rfl (lv_at hl 1 rfl) ?_
  refine lv_iload_n hx hb dX0_has_9 rfl (lv_at hl 2 rfl) ?_
  refine vp_callSi (va_Run.run (va_runV (As := [.int (nI x), .int (nI y)]) (rest := []) ⟨hx, hb, hml, hown, hts⟩ (c_X0_targetsOf l g tl σ x y hA (by omega) (by omega)) (cwV 2 hts gX0_has_X0_targetsOf rfl rfl rfl (by decide +kernel) ⟨Nat.le_of_ble_eq_true rfl, Nat.le_of_ble_eq_true rfl⟩) (okPV hK hP rfl (gC1 g σ tl)) rfl rfl hl.1 rfl (lv_room (Nat.le_of_ble_eq_true rfl)) dX0_has_10 ⟨Nat.le_of_ble_eq_true rfl, Nat.le_of_ble_eq_true rfl⟩)) (fun r_10 h_10 => ?_)
  subst h_10
  refine lv_iload_n hx hb dX0_has_13 rfl (lv_at hl 3 rfl) ?_
  have t32 := hA.1 (x * 3 + y) (by omega)
  refine jn_ishr hx hb (by omega) (by omega) dX0_has_14 ?_
  refine lv_iconst (v := nI 1) hx hb dX0_has_15 (by decide) ?_
  refine jn_and1 hx hb dX0_has_16 ?_
  refine jn_beq hx hb (tgt := 24) dX0_has_17 (by decide) (fun c_17 => ?_) (fun c_17 => ?_)
  · refine lv_iconst (v := nI 0) hx hb dX0_has_24 (by decide) ?_
    exact hq _ _ ((nI 0)) dX0_has_25 jn_n0 (by first | rw [if_pos c_17] | rw [if_neg c_17])
  · refine lv_iconst (v := nI 1) hx hb dX0_has_20 (by decide) ?_
    refine lv_goto (tgt := 25) hx hb dX0_has_21 (by decide) ?_
    exact hq _ _ ((nI 1)) dX0_has_25 jn_n1 (by first | rw [if_pos c_17] | rw [if_neg c_17])
