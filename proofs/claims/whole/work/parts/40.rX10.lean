set_option maxRecDepth 20000 in
theorem ggX10_init_X0_init : GoodIn wsX10_init wsX0_init := goodIn_r _ [51, 52, 2, 3, 20, 53, 54, 55, 119, 120, 121] (by decide +kernel) (by decide +kernel)
set_option maxRecDepth 20000 in
theorem gX10_init_X0_init_n11 : GoodIn wsX10_init (wsX0_init) := ggX10_init_X0_init
set_option maxRecDepth 20000 in
theorem ggX10_init_X3_init : GoodIn wsX10_init wsX3_init := goodIn_r _ [57, 58, 2, 3, 20, 59, 137] (by decide +kernel) (by decide +kernel)
set_option maxRecDepth 20000 in
theorem gX10_init_X3_init_n18 : GoodIn wsX10_init (wsX3_init) := ggX10_init_X3_init
set_option maxRecDepth 20000 in
theorem ggX10_init_X7_init : GoodIn wsX10_init wsX7_init := goodIn_r _ [61, 62, 2, 3, 63, 20, 64, 65, 66, 67, 68, 138, 139, 140, 141, 142] (by decide +kernel) (by decide +kernel)
set_option maxRecDepth 20000 in
theorem gX10_init_X7_init_n25 : GoodIn wsX10_init (wsX7_init) := ggX10_init_X7_init
set_option maxRecDepth 20000 in
theorem ggX10_init_X1_init : GoodIn wsX10_init wsX1_init := goodIn_r _ [70, 71, 2, 3, 20, 72, 73, 74, 75, 76, 143, 144, 145, 146, 147] (by decide +kernel) (by decide +kernel)
set_option maxRecDepth 20000 in
theorem gX10_init_X1_init_n32 : GoodIn wsX10_init (wsX1_init) := ggX10_init_X1_init
set_option maxRecDepth 20000 in
theorem ggX10_init_X5_init : GoodIn wsX10_init wsX5_init := goodIn_r _ [78, 79, 2, 3, 20, 80, 148] (by decide +kernel) (by decide +kernel)
set_option maxRecDepth 20000 in
theorem gX10_init_X5_init_n47 : GoodIn wsX10_init (wsX5_init) := ggX10_init_X5_init
set_option maxRecDepth 20000 in
theorem ggX10_init_X4_init : GoodIn wsX10_init wsX4_init := goodIn_r _ [82, 83, 2, 3, 20, 84, 85, 149, 150] (by decide +kernel) (by decide +kernel)
set_option maxRecDepth 20000 in
theorem gX10_init_X4_init_n57 : GoodIn wsX10_init (wsX4_init) := ggX10_init_X4_init
set_option maxRecDepth 20000 in
theorem ggX10_init_X6_init : GoodIn wsX10_init wsX6_init := goodIn_r _ [87, 88, 2, 3, 89, 151] (by decide +kernel) (by decide +kernel)
set_option maxRecDepth 20000 in
theorem gX10_init_X6_init_n67 : GoodIn wsX10_init (wsX6_init) := ggX10_init_X6_init
set_option maxRecDepth 20000 in
theorem ggX10_init_X9_init : GoodIn wsX10_init wsX9_init := goodIn_r _ [91, 92, 2, 3, 20, 93, 94, 95, 96, 97, 98, 99, 100, 152, 153, 154, 155, 156, 157, 158] (by decide +kernel) (by decide +kernel)
set_option maxRecDepth 20000 in
theorem gX10_init_X9_init_n74 : GoodIn wsX10_init (wsX9_init) := ggX10_init_X9_init
set_option maxRecDepth 20000 in
theorem ggX10_init_X8_init : GoodIn wsX10_init wsX8_init := goodIn_r _ [102, 103, 2, 3, 104, 105, 106, 107, 108, 159, 160, 161, 162, 163] (by decide +kernel) (by decide +kernel)
set_option maxRecDepth 20000 in
theorem gX10_init_X8_init_n81 : GoodIn wsX10_init (wsX8_init) := ggX10_init_X8_init
set_option maxRecDepth 20000 in
theorem ggX10_init_X2_init : GoodIn wsX10_init wsX2_init := goodIn_r _ [110, 111, 2, 3, 20, 112, 113, 114, 115, 116, 117, 118, 164, 165, 166, 167, 168, 169, 170] (by decide +kernel) (by decide +kernel)
set_option maxRecDepth 20000 in
theorem gX10_init_X2_init_n88 : GoodIn wsX10_init (wsX2_init) := ggX10_init_X2_init
theorem dX10_init_0 : decode cX10_init 0 = .ok (.aload_n 0, 1) := by decide +kernel
theorem dX10_init_1 : decode cX10_init 1 = .ok (.invokespecial 3, 3) := by decide +kernel
theorem dX10_init_4 : decode cX10_init 4 = .ok (.aload_n 0, 1) := by decide +kernel
theorem dX10_init_5 : decode cX10_init 5 = .ok (.new 9, 3) := by decide +kernel
theorem dX10_init_8 : decode cX10_init 8 = .ok (.dup, 1) := by decide +kernel
theorem dX10_init_9 : decode cX10_init 9 = .ok (.invokespecial 11, 3) := by decide +kernel
theorem dX10_init_12 : decode cX10_init 12 = .ok (.putfield 12, 3) := by decide +kernel
theorem dX10_init_15 : decode cX10_init 15 = .ok (.aload_n 0, 1) := by decide +kernel
theorem dX10_init_16 : decode cX10_init 16 = .ok (.new 16, 3) := by decide +kernel
theorem dX10_init_19 : decode cX10_init 19 = .ok (.dup, 1) := by decide +kernel
theorem dX10_init_20 : decode cX10_init 20 = .ok (.invokespecial 18, 3) := by decide +kernel
theorem dX10_init_23 : decode cX10_init 23 = .ok (.putfield 19, 3) := by decide +kernel
theorem dX10_init_26 : decode cX10_init 26 = .ok (.aload_n 0, 1) := by decide +kernel
theorem dX10_init_27 : decode cX10_init 27 = .ok (.new 23, 3) := by decide +kernel
theorem dX10_init_30 : decode cX10_init 30 = .ok (.dup, 1) := by decide +kernel
theorem dX10_init_31 : decode cX10_init 31 = .ok (.invokespecial 25, 3) := by decide +kernel
theorem dX10_init_34 : decode cX10_init 34 = .ok (.putfield 26, 3) := by decide +kernel
theorem dX10_init_37 : decode cX10_init 37 = .ok (.aload_n 0, 1) := by decide +kernel
theorem dX10_init_38 : decode cX10_init 38 = .ok (.new 30, 3) := by decide +kernel
theorem dX10_init_41 : decode cX10_init 41 = .ok (.dup, 1) := by decide +kernel
theorem dX10_init_42 : decode cX10_init 42 = .ok (.invokespecial 32, 3) := by decide +kernel
theorem dX10_init_45 : decode cX10_init 45 = .ok (.putfield 33, 3) := by decide +kernel
theorem dX10_init_48 : decode cX10_init 48 = .ok (.aload_n 0, 1) := by decide +kernel
theorem dX10_init_49 : decode cX10_init 49 = .ok (.bipush 8, 2) := by decide +kernel
theorem dX10_init_51 : decode cX10_init 51 = .ok (.newarray .int, 2) := by decide +kernel
theorem dX10_init_53 : decode cX10_init 53 = .ok (.putfield 37, 3) := by decide +kernel
theorem dX10_init_56 : decode cX10_init 56 = .ok (.aload_n 0, 1) := by decide +kernel
theorem dX10_init_57 : decode cX10_init 57 = .ok (.iconst 0, 1) := by decide +kernel
theorem dX10_init_58 : decode cX10_init 58 = .ok (.putfield 41, 3) := by decide +kernel
theorem dX10_init_61 : decode cX10_init 61 = .ok (.aload_n 0, 1) := by decide +kernel
theorem dX10_init_62 : decode cX10_init 62 = .ok (.new 45, 3) := by decide +kernel
theorem dX10_init_65 : decode cX10_init 65 = .ok (.dup, 1) := by decide +kernel
theorem dX10_init_66 : decode cX10_init 66 = .ok (.invokespecial 47, 3) := by decide +kernel
theorem dX10_init_69 : decode cX10_init 69 = .ok (.putfield 48, 3) := by decide +kernel
theorem dX10_init_72 : decode cX10_init 72 = .ok (.aload_n 0, 1) := by decide +kernel
theorem dX10_init_73 : decode cX10_init 73 = .ok (.new 45, 3) := by decide +kernel
theorem dX10_init_76 : decode cX10_init 76 = .ok (.dup, 1) := by decide +kernel
theorem dX10_init_77 : decode cX10_init 77 = .ok (.invokespecial 47, 3) := by decide +kernel
theorem dX10_init_80 : decode cX10_init 80 = .ok (.putfield 52, 3) := by decide +kernel
theorem dX10_init_83 : decode cX10_init 83 = .ok (.aload_n 0, 1) := by decide +kernel
theorem dX10_init_84 : decode cX10_init 84 = .ok (.new 55, 3) := by decide +kernel
theorem dX10_init_87 : decode cX10_init 87 = .ok (.dup, 1) := by decide +kernel
theorem dX10_init_88 : decode cX10_init 88 = .ok (.invokespecial 57, 3) := by decide +kernel
theorem dX10_init_91 : decode cX10_init 91 = .ok (.putfield 58, 3) := by decide +kernel
theorem dX10_init_94 : decode cX10_init 94 = .ok (.aload_n 0, 1) := by decide +kernel
theorem dX10_init_95 : decode cX10_init 95 = .ok (.new 55, 3) := by decide +kernel
theorem dX10_init_98 : decode cX10_init 98 = .ok (.dup, 1) := by decide +kernel
theorem dX10_init_99 : decode cX10_init 99 = .ok (.invokespecial 57, 3) := by decide +kernel
theorem dX10_init_102 : decode cX10_init 102 = .ok (.putfield 62, 3) := by decide +kernel
theorem dX10_init_105 : decode cX10_init 105 = .ok (.aload_n 0, 1) := by decide +kernel
theorem dX10_init_106 : decode cX10_init 106 = .ok (.new 65, 3) := by decide +kernel
theorem dX10_init_109 : decode cX10_init 109 = .ok (.dup, 1) := by decide +kernel
theorem dX10_init_110 : decode cX10_init 110 = .ok (.invokespecial 67, 3) := by decide +kernel
theorem dX10_init_113 : decode cX10_init 113 = .ok (.putfield 68, 3) := by decide +kernel
theorem dX10_init_116 : decode cX10_init 116 = .ok (.aload_n 0, 1) := by decide +kernel
theorem dX10_init_117 : decode cX10_init 117 = .ok (.new 72, 3) := by decide +kernel
theorem dX10_init_120 : decode cX10_init 120 = .ok (.dup, 1) := by decide +kernel
theorem dX10_init_121 : decode cX10_init 121 = .ok (.invokespecial 74, 3) := by decide +kernel
theorem dX10_init_124 : decode cX10_init 124 = .ok (.putfield 75, 3) := by decide +kernel
theorem dX10_init_127 : decode cX10_init 127 = .ok (.aload_n 0, 1) := by decide +kernel
theorem dX10_init_128 : decode cX10_init 128 = .ok (.new 79, 3) := by decide +kernel
theorem dX10_init_131 : decode cX10_init 131 = .ok (.dup, 1) := by decide +kernel
theorem dX10_init_132 : decode cX10_init 132 = .ok (.invokespecial 81, 3) := by decide +kernel
theorem dX10_init_135 : decode cX10_init 135 = .ok (.putfield 82, 3) := by decide +kernel
theorem dX10_init_138 : decode cX10_init 138 = .ok (.aload_n 0, 1) := by decide +kernel
theorem dX10_init_139 : decode cX10_init 139 = .ok (.new 86, 3) := by decide +kernel
theorem dX10_init_142 : decode cX10_init 142 = .ok (.dup, 1) := by decide +kernel
theorem dX10_init_143 : decode cX10_init 143 = .ok (.invokespecial 88, 3) := by decide +kernel
theorem dX10_init_146 : decode cX10_init 146 = .ok (.putfield 89, 3) := by decide +kernel
theorem dX10_init_149 : decode cX10_init 149 = .ok (.aload_n 0, 1) := by decide +kernel
theorem dX10_init_150 : decode cX10_init 150 = .ok (.iconst 0, 1) := by decide +kernel
theorem dX10_init_151 : decode cX10_init 151 = .ok (.putfield 93, 3) := by decide +kernel
theorem dX10_init_154 : decode cX10_init 154 = .ok (.return_, 1) := by decide +kernel
set_option maxRecDepth 20000 in
theorem ggX10_appendCharacter_X1_isFull : GoodIn wsX10_appendCharacter wsX1_isFull := goodIn_r _ [10, 11, 33, 34, 35, 36, 37] (by decide +kernel) (by decide +kernel)
set_option maxRecDepth 20000 in
theorem gX10_appendCharacter_X1_isFull : GoodIn wsX10_appendCharacter (wsV RX10 104 RX1 yX1_isFull wsX1_isFull) := goodIn_app (goodIn_of _ (by decide +kernel)) ggX10_appendCharacter_X1_isFull
set_option maxRecDepth 20000 in
theorem ggX10_appendCharacter_X1_append : GoodIn wsX10_appendCharacter wsX1_append := goodIn_ca (goodIn_r _ [15, 16, 11, 17, 7, 8, 9, 10, 33, 34, 35, 36, 37] (by decide +kernel) (by decide +kernel)) (goodIn_sub (fun _ h => List.mem_cons_of_mem _ (List.mem_append_right _ h)) (gsub_f _))
set_option maxRecDepth 20000 in
theorem gX10_appendCharacter_X1_append : GoodIn wsX10_appendCharacter (wsV RX10 113 RX1 yX1_append wsX1_append) := goodIn_app (goodIn_of _ (by decide +kernel)) ggX10_appendCharacter_X1_append
theorem dX10_appendCharacter_0 : decode cX10_appendCharacter 0 = .ok (.iload_n 1, 1) := by decide +kernel
theorem dX10_appendCharacter_1 : decode cX10_appendCharacter 1 = .ok (.bipush 33, 2) := by decide +kernel
theorem dX10_appendCharacter_3 : decode cX10_appendCharacter 3 = .ok (.if_icmp .lt 9, 3) := by decide +kernel
theorem dX10_appendCharacter_6 : decode cX10_appendCharacter 6 = .ok (.iload_n 1, 1) := by decide +kernel
theorem dX10_appendCharacter_7 : decode cX10_appendCharacter 7 = .ok (.bipush 126, 2) := by decide +kernel
theorem dX10_appendCharacter_9 : decode cX10_appendCharacter 9 = .ok (.if_icmp .le 13, 3) := by decide +kernel
theorem dX10_appendCharacter_12 : decode cX10_appendCharacter 12 = .ok (.new 97, 3) := by decide +kernel
theorem dX10_appendCharacter_15 : decode cX10_appendCharacter 15 = .ok (.dup, 1) := by decide +kernel
theorem dX10_appendCharacter_16 : decode cX10_appendCharacter 16 = .ok (.ldc 99, 2) := by decide +kernel
theorem dX10_appendCharacter_18 : decode cX10_appendCharacter 18 = .ok (.invokespecial 101, 3) := by decide +kernel
theorem dX10_appendCharacter_21 : decode cX10_appendCharacter 21 = .ok (.athrow, 1) := by decide +kernel
theorem dX10_appendCharacter_22 : decode cX10_appendCharacter 22 = .ok (.aload_n 0, 1) := by decide +kernel
theorem dX10_appendCharacter_23 : decode cX10_appendCharacter 23 = .ok (.getfield 33, 3) := by decide +kernel
theorem dX10_appendCharacter_26 : decode cX10_appendCharacter 26 = .ok (.invokevirtual 104, 3) := by decide +kernel
theorem dX10_appendCharacter_29 : decode cX10_appendCharacter 29 = .ok (.ifCond .eq 13, 3) := by decide +kernel
theorem dX10_appendCharacter_32 : decode cX10_appendCharacter 32 = .ok (.new 108, 3) := by decide +kernel
theorem dX10_appendCharacter_35 : decode cX10_appendCharacter 35 = .ok (.dup, 1) := by decide +kernel
theorem dX10_appendCharacter_36 : decode cX10_appendCharacter 36 = .ok (.ldc 110, 2) := by decide +kernel
theorem dX10_appendCharacter_38 : decode cX10_appendCharacter 38 = .ok (.invokespecial 112, 3) := by decide +kernel
theorem dX10_appendCharacter_41 : decode cX10_appendCharacter 41 = .ok (.athrow, 1) := by decide +kernel
theorem dX10_appendCharacter_42 : decode cX10_appendCharacter 42 = .ok (.aload_n 0, 1) := by decide +kernel
theorem dX10_appendCharacter_43 : decode cX10_appendCharacter 43 = .ok (.getfield 33, 3) := by decide +kernel
theorem dX10_appendCharacter_46 : decode cX10_appendCharacter 46 = .ok (.iload_n 1, 1) := by decide +kernel
theorem dX10_appendCharacter_47 : decode cX10_appendCharacter 47 = .ok (.invokevirtual 113, 3) := by decide +kernel
theorem dX10_appendCharacter_50 : decode cX10_appendCharacter 50 = .ok (.ireturn, 1) := by decide +kernel
theorem dX10_faultPosition_0 : decode cX10_faultPosition 0 = .ok (.aload_n 0, 1) := by decide +kernel
theorem dX10_faultPosition_1 : decode cX10_faultPosition 1 = .ok (.getfield 33, 3) := by decide +kernel
theorem dX10_faultPosition_4 : decode cX10_faultPosition 4 = .ok (.getfield 117, 3) := by decide +kernel
theorem dX10_faultPosition_7 : decode cX10_faultPosition 7 = .ok (.ireturn, 1) := by decide +kernel
set_option maxRecDepth 20000 in
theorem ggX10_addText_X1_read : GoodIn wsX10_addText wsX1_read := goodIn_ca (goodIn_r _ [14, 15, 16, 17, 18, 19, 13, 20, 21, 22, 23, 24, 25, 26, 27, 28, 29, 30, 31, 32, 33, 34, 35, 36, 37, 38, 39, 40, 41, 42, 43, 123, 124, 125, 126, 127] (by decide +kernel) (by decide +kernel)) (goodIn_sub (fun _ h => List.mem_cons_of_mem _ (List.mem_append_right _ h)) (gsub_f _))
set_option maxRecDepth 20000 in
theorem gX10_addText_X1_read : GoodIn wsX10_addText (wsV RX10 120 RX1 yX1_read wsX1_read) := goodIn_app (goodIn_r _ [10, 11, 12, 13] (by decide +kernel) (by decide +kernel)) ggX10_addText_X1_read
set_option maxRecDepth 20000 in
theorem ggX10_addText_X0_sizeWith : GoodIn wsX10_addText wsX0_sizeWith := goodIn_ca (goodIn_r _ [48, 49, 50, 51, 52, 53, 54, 55, 56, 128, 129, 130] (by decide +kernel) (by decide +kernel)) (goodIn_sub (fun _ h => List.mem_cons_of_mem _ (List.mem_append_right _ h)) (gsub_f _))
set_option maxRecDepth 20000 in
theorem gX10_addText_X0_sizeWith : GoodIn wsX10_addText (wsV RX10 128 RX0 yX0_sizeWith wsX0_sizeWith) := goodIn_app (goodIn_r _ [44, 45, 46, 47] (by decide +kernel) (by decide +kernel)) ggX10_addText_X0_sizeWith
set_option maxRecDepth 20000 in
theorem ggX10_addText_X10_beginChange : GoodIn wsX10_addText wsX10_beginChange := goodIn_ca (goodIn_r _ [60, 61, 7, 62, 63, 64, 65, 66, 67, 68, 69, 70, 71, 72, 73, 74, 75, 76, 47, 77, 49, 78, 79, 80, 81, 82, 83, 84, 85, 86, 87, 88, 89, 108, 109, 110, 111, 112, 113, 114, 115, 116, 117, 118, 119, 120, 121, 122, 131, 132, 133, 134, 135, 128, 129, 130, 136] (by decide +kernel) (by decide +kernel)) (goodIn_sub (fun _ h => List.mem_cons_of_mem _ (List.mem_append_right _ h)) (gsub_f _))
set_option maxRecDepth 20000 in
theorem gX10_addText_X10_beginChange : GoodIn wsX10_addText (wsV RX10 134 RX10 yX10_beginChange wsX10_beginChange) := goodIn_app (goodIn_r _ [57, 58, 59, 26] (by decide +kernel) (by decide +kernel)) ggX10_addText_X10_beginChange
set_option maxRecDepth 20000 in
theorem ggX10_addText_X0_merge : GoodIn wsX10_addText wsX0_merge := goodIn_ca (goodIn_r _ [93, 49, 82, 128, 129, 130] (by decide +kernel) (by decide +kernel)) (goodIn_sub (fun _ h => List.mem_cons_of_mem _ (List.mem_append_right _ h)) (gsub_f _))
set_option maxRecDepth 20000 in
theorem gX10_addText_X0_merge : GoodIn wsX10_addText (wsV RX10 140 RX0 yX0_merge wsX0_merge) := goodIn_app (goodIn_r _ [90, 91, 92, 47] (by decide +kernel) (by decide +kernel)) ggX10_addText_X0_merge
set_option maxRecDepth 20000 in
theorem ggX10_addText_X10_endAutomatonChange : GoodIn wsX10_addText wsX10_endAutomatonChange := goodIn_ca (goodIn_r _ [97, 7, 98, 99, 100, 101, 47, 102, 103, 49, 108, 109, 110, 111, 112, 113, 114, 115, 116, 117, 118, 119, 120, 121, 122, 128, 129, 130] (by decide +kernel) (by decide +kernel)) (goodIn_sub (fun _ h => List.mem_cons_of_mem _ (List.mem_append_right _ h)) (gsub_f _))
set_option maxRecDepth 20000 in
theorem gX10_addText_X10_endAutomatonChange : GoodIn wsX10_addText (wsV RX10 144 RX10 yX10_endAutomatonChange wsX10_endAutomatonChange) := goodIn_app (goodIn_r _ [94, 95, 96, 26] (by decide +kernel) (by decide +kernel)) ggX10_addText_X10_endAutomatonChange
set_option maxRecDepth 20000 in
theorem ggX10_addText_X0_size : GoodIn wsX10_addText wsX0_size := goodIn_ca (goodIn_r _ [107, 49, 50, 51, 52, 53, 54, 55, 56, 128, 129, 130] (by decide +kernel) (by decide +kernel)) (goodIn_sub (fun _ h => List.mem_cons_of_mem _ (List.mem_append_right _ h)) (gsub_f _))
set_option maxRecDepth 20000 in
theorem gX10_addText_X0_size : GoodIn wsX10_addText (wsV RX10 147 RX0 yX0_size wsX0_size) := goodIn_app (goodIn_r _ [104, 105, 106, 47] (by decide +kernel) (by decide +kernel)) ggX10_addText_X0_size
theorem dX10_addText_0 : decode cX10_addText 0 = .ok (.aload_n 0, 1) := by decide +kernel
theorem dX10_addText_1 : decode cX10_addText 1 = .ok (.getfield 33, 3) := by decide +kernel
theorem dX10_addText_4 : decode cX10_addText 4 = .ok (.invokevirtual 120, 3) := by decide +kernel
theorem dX10_addText_7 : decode cX10_addText 7 = .ok (.aload_n 0, 1) := by decide +kernel
theorem dX10_addText_8 : decode cX10_addText 8 = .ok (.getfield 33, 3) := by decide +kernel
theorem dX10_addText_11 : decode cX10_addText 11 = .ok (.getfield 117, 3) := by decide +kernel
theorem dX10_addText_14 : decode cX10_addText 14 = .ok (.ifCond .lt 13, 3) := by decide +kernel
theorem dX10_addText_17 : decode cX10_addText 17 = .ok (.new 97, 3) := by decide +kernel
theorem dX10_addText_20 : decode cX10_addText 20 = .ok (.dup, 1) := by decide +kernel
theorem dX10_addText_21 : decode cX10_addText 21 = .ok (.ldc 123, 2) := by decide +kernel
theorem dX10_addText_23 : decode cX10_addText 23 = .ok (.invokespecial 101, 3) := by decide +kernel
theorem dX10_addText_26 : decode cX10_addText 26 = .ok (.athrow, 1) := by decide +kernel
theorem dX10_addText_27 : decode cX10_addText 27 = .ok (.aload_n 0, 1) := by decide +kernel
theorem dX10_addText_28 : decode cX10_addText 28 = .ok (.getfield 12, 3) := by decide +kernel
theorem dX10_addText_31 : decode cX10_addText 31 = .ok (.aload_n 0, 1) := by decide +kernel
theorem dX10_addText_32 : decode cX10_addText 32 = .ok (.getfield 33, 3) := by decide +kernel
theorem dX10_addText_35 : decode cX10_addText 35 = .ok (.getfield 125, 3) := by decide +kernel
theorem dX10_addText_38 : decode cX10_addText 38 = .ok (.invokevirtual 128, 3) := by decide +kernel
theorem dX10_addText_41 : decode cX10_addText 41 = .ok (.bipush 15, 2) := by decide +kernel
theorem dX10_addText_43 : decode cX10_addText 43 = .ok (.if_icmp .le 13, 3) := by decide +kernel
theorem dX10_addText_46 : decode cX10_addText 46 = .ok (.new 108, 3) := by decide +kernel
theorem dX10_addText_49 : decode cX10_addText 49 = .ok (.dup, 1) := by decide +kernel
theorem dX10_addText_50 : decode cX10_addText 50 = .ok (.ldc 132, 2) := by decide +kernel
theorem dX10_addText_52 : decode cX10_addText 52 = .ok (.invokespecial 112, 3) := by decide +kernel
theorem dX10_addText_55 : decode cX10_addText 55 = .ok (.athrow, 1) := by decide +kernel
theorem dX10_addText_56 : decode cX10_addText 56 = .ok (.aload_n 0, 1) := by decide +kernel
theorem dX10_addText_57 : decode cX10_addText 57 = .ok (.invokevirtual 134, 3) := by decide +kernel
theorem dX10_addText_60 : decode cX10_addText 60 = .ok (.aload_n 0, 1) := by decide +kernel
theorem dX10_addText_61 : decode cX10_addText 61 = .ok (.getfield 12, 3) := by decide +kernel
theorem dX10_addText_64 : decode cX10_addText 64 = .ok (.aload_n 0, 1) := by decide +kernel
theorem dX10_addText_65 : decode cX10_addText 65 = .ok (.getfield 33, 3) := by decide +kernel
theorem dX10_addText_68 : decode cX10_addText 68 = .ok (.getfield 125, 3) := by decide +kernel
theorem dX10_addText_71 : decode cX10_addText 71 = .ok (.aload_n 0, 1) := by decide +kernel
theorem dX10_addText_72 : decode cX10_addText 72 = .ok (.getfield 33, 3) := by decide +kernel
theorem dX10_addText_75 : decode cX10_addText 75 = .ok (.getfield 137, 3) := by decide +kernel
theorem dX10_addText_78 : decode cX10_addText 78 = .ok (.invokevirtual 140, 3) := by decide +kernel
theorem dX10_addText_81 : decode cX10_addText 81 = .ok (.aload_n 0, 1) := by decide +kernel
theorem dX10_addText_82 : decode cX10_addText 82 = .ok (.invokevirtual 144, 3) := by decide +kernel
theorem dX10_addText_85 : decode cX10_addText 85 = .ok (.aload_n 0, 1) := by decide +kernel
theorem dX10_addText_86 : decode cX10_addText 86 = .ok (.getfield 12, 3) := by decide +kernel
theorem dX10_addText_89 : decode cX10_addText 89 = .ok (.invokevirtual 147, 3) := by decide +kernel
theorem dX10_addText_92 : decode cX10_addText 92 = .ok (.ireturn, 1) := by decide +kernel
set_option maxRecDepth 20000 in
theorem ggX10_addTransition_X10_requireTransition : GoodIn wsX10_addTransition wsX10_requireTransition := goodIn_ca (goodIn_r _ [7, 8, 9, 10, 11, 6, 12, 13, 14, 15, 16, 17, 18] (by decide +kernel) (by decide +kernel)) (goodIn_sub (fun _ h => List.mem_cons_of_mem _ (List.mem_append_left _ (List.mem_append_right _ h))) (gsub_f _))
set_option maxRecDepth 20000 in
theorem gX10_addTransition_X10_requireTransition : GoodIn wsX10_addTransition (va_wsS RX10 151 yX10_requireTransition wsX10_requireTransition) := goodIn_app (goodIn_r _ [4, 5, 6] (by decide +kernel) (by decide +kernel)) ggX10_addTransition_X10_requireTransition
set_option maxRecDepth 20000 in
theorem ggX10_addTransition_X0_has : GoodIn wsX10_addTransition wsX0_has := goodIn_ca (goodIn_r _ [23, 14, 6, 15, 24, 25, 26, 22, 27, 28, 17, 18, 102, 103, 104] (by decide +kernel) (by decide +kernel)) (goodIn_sub (fun _ h => List.mem_cons_of_mem _ (List.mem_append_right _ h)) (gsub_f _))
set_option maxRecDepth 20000 in
theorem gX10_addTransition_X0_has : GoodIn wsX10_addTransition (wsV RX10 155 RX0 yX0_has wsX0_has) := goodIn_app (goodIn_r _ [19, 20, 21, 22] (by decide +kernel) (by decide +kernel)) ggX10_addTransition_X0_has
set_option maxRecDepth 20000 in
theorem ggX10_addTransition_X0_size : GoodIn wsX10_addTransition wsX0_size := goodIn_ca (goodIn_r _ [32, 28, 33, 34, 35, 36, 37, 38, 39, 102, 103, 104] (by decide +kernel) (by decide +kernel)) (goodIn_sub (fun _ h => List.mem_cons_of_mem _ (List.mem_append_right _ h)) (gsub_f _))
set_option maxRecDepth 20000 in
theorem gX10_addTransition_X0_size : GoodIn wsX10_addTransition (wsV RX10 147 RX0 yX0_size wsX0_size) := goodIn_app (goodIn_r _ [29, 30, 31, 22] (by decide +kernel) (by decide +kernel)) ggX10_addTransition_X0_size
set_option maxRecDepth 20000 in
theorem ggX10_addTransition_X10_beginChange : GoodIn wsX10_addTransition wsX10_beginChange := goodIn_ca (goodIn_r _ [43, 44, 3, 45, 46, 47, 48, 49, 50, 51, 52, 53, 54, 55, 56, 57, 58, 59, 22, 60, 28, 61, 62, 63, 64, 65, 66, 67, 68, 69, 70, 71, 72, 87, 88, 89, 90, 91, 92, 93, 94, 95, 96, 97, 98, 99, 100, 101, 105, 106, 107, 108, 109, 102, 103, 104, 110] (by decide +kernel) (by decide +kernel)) (goodIn_sub (fun _ h => List.mem_cons_of_mem _ (List.mem_append_right _ h)) (gsub_f _))
set_option maxRecDepth 20000 in
theorem gX10_addTransition_X10_beginChange : GoodIn wsX10_addTransition (wsV RX10 134 RX10 yX10_beginChange wsX10_beginChange) := goodIn_app (goodIn_r _ [40, 41, 42, 6] (by decide +kernel) (by decide +kernel)) ggX10_addTransition_X10_beginChange
set_option maxRecDepth 20000 in
theorem ggX10_addTransition_X0_put : GoodIn wsX10_addTransition wsX0_put := goodIn_ca (goodIn_r _ [76, 28, 11, 6, 12, 13, 14, 15, 16, 17, 18, 102, 103, 104] (by decide +kernel) (by decide +kernel)) (goodIn_sub (fun _ h => List.mem_cons_of_mem _ (List.mem_append_right _ h)) (gsub_f _))
set_option maxRecDepth 20000 in
theorem gX10_addTransition_X0_put : GoodIn wsX10_addTransition (wsV RX10 161 RX0 yX0_put wsX0_put) := goodIn_app (goodIn_r _ [73, 74, 75, 22] (by decide +kernel) (by decide +kernel)) ggX10_addTransition_X0_put
set_option maxRecDepth 20000 in
theorem ggX10_addTransition_X10_endAutomatonChange : GoodIn wsX10_addTransition wsX10_endAutomatonChange := goodIn_ca (goodIn_r _ [80, 3, 81, 82, 83, 84, 22, 85, 86, 28, 87, 88, 89, 90, 91, 92, 93, 94, 95, 96, 97, 98, 99, 100, 101, 102, 103, 104] (by decide +kernel) (by decide +kernel)) (goodIn_sub (fun _ h => List.mem_cons_of_mem _ (List.mem_append_right _ h)) (gsub_f _))
set_option maxRecDepth 20000 in
theorem gX10_addTransition_X10_endAutomatonChange : GoodIn wsX10_addTransition (wsV RX10 144 RX10 yX10_endAutomatonChange wsX10_endAutomatonChange) := goodIn_app (goodIn_r _ [77, 78, 79, 6] (by decide +kernel) (by decide +kernel)) ggX10_addTransition_X10_endAutomatonChange
theorem dX10_addTransition_0 : decode cX10_addTransition 0 = .ok (.iload_n 1, 1) := by decide +kernel
theorem dX10_addTransition_1 : decode cX10_addTransition 1 = .ok (.iload_n 2, 1) := by decide +kernel
theorem dX10_addTransition_2 : decode cX10_addTransition 2 = .ok (.iload_n 3, 1) := by decide +kernel
theorem dX10_addTransition_3 : decode cX10_addTransition 3 = .ok (.invokestatic 151, 3) := by decide +kernel
theorem dX10_addTransition_6 : decode cX10_addTransition 6 = .ok (.aload_n 0, 1) := by decide +kernel
theorem dX10_addTransition_7 : decode cX10_addTransition 7 = .ok (.getfield 12, 3) := by decide +kernel
theorem dX10_addTransition_10 : decode cX10_addTransition 10 = .ok (.iload_n 1, 1) := by decide +kernel
theorem dX10_addTransition_11 : decode cX10_addTransition 11 = .ok (.iload_n 2, 1) := by decide +kernel
theorem dX10_addTransition_12 : decode cX10_addTransition 12 = .ok (.iload_n 3, 1) := by decide +kernel
theorem dX10_addTransition_13 : decode cX10_addTransition 13 = .ok (.invokevirtual 155, 3) := by decide +kernel
theorem dX10_addTransition_16 : decode cX10_addTransition 16 = .ok (.ifCond .ne 7, 3) := by decide +kernel
theorem dX10_addTransition_19 : decode cX10_addTransition 19 = .ok (.iconst 1, 1) := by decide +kernel
theorem dX10_addTransition_20 : decode cX10_addTransition 20 = .ok (.goto 4, 3) := by decide +kernel
theorem dX10_addTransition_23 : decode cX10_addTransition 23 = .ok (.iconst 0, 1) := by decide +kernel
theorem dX10_addTransition_24 : decode cX10_addTransition 24 = .ok (.istore 4, 2) := by decide +kernel
theorem dX10_addTransition_26 : decode cX10_addTransition 26 = .ok (.iload 4, 2) := by decide +kernel
theorem dX10_addTransition_28 : decode cX10_addTransition 28 = .ok (.ifCond .eq 25, 3) := by decide +kernel
theorem dX10_addTransition_31 : decode cX10_addTransition 31 = .ok (.aload_n 0, 1) := by decide +kernel
theorem dX10_addTransition_32 : decode cX10_addTransition 32 = .ok (.getfield 12, 3) := by decide +kernel
theorem dX10_addTransition_35 : decode cX10_addTransition 35 = .ok (.invokevirtual 147, 3) := by decide +kernel
theorem dX10_addTransition_38 : decode cX10_addTransition 38 = .ok (.bipush 15, 2) := by decide +kernel
theorem dX10_addTransition_40 : decode cX10_addTransition 40 = .ok (.if_icmp .lt 13, 3) := by decide +kernel
theorem dX10_addTransition_43 : decode cX10_addTransition 43 = .ok (.new 108, 3) := by decide +kernel
theorem dX10_addTransition_46 : decode cX10_addTransition 46 = .ok (.dup, 1) := by decide +kernel
theorem dX10_addTransition_47 : decode cX10_addTransition 47 = .ok (.ldc 159, 2) := by decide +kernel
theorem dX10_addTransition_49 : decode cX10_addTransition 49 = .ok (.invokespecial 112, 3) := by decide +kernel
theorem dX10_addTransition_52 : decode cX10_addTransition 52 = .ok (.athrow, 1) := by decide +kernel
theorem dX10_addTransition_53 : decode cX10_addTransition 53 = .ok (.aload_n 0, 1) := by decide +kernel
theorem dX10_addTransition_54 : decode cX10_addTransition 54 = .ok (.invokevirtual 134, 3) := by decide +kernel
theorem dX10_addTransition_57 : decode cX10_addTransition 57 = .ok (.aload_n 0, 1) := by decide +kernel
theorem dX10_addTransition_58 : decode cX10_addTransition 58 = .ok (.getfield 12, 3) := by decide +kernel
theorem dX10_addTransition_61 : decode cX10_addTransition 61 = .ok (.iload_n 1, 1) := by decide +kernel
theorem dX10_addTransition_62 : decode cX10_addTransition 62 = .ok (.iload_n 2, 1) := by decide +kernel
theorem dX10_addTransition_63 : decode cX10_addTransition 63 = .ok (.iload_n 3, 1) := by decide +kernel
theorem dX10_addTransition_64 : decode cX10_addTransition 64 = .ok (.invokevirtual 161, 3) := by decide +kernel
theorem dX10_addTransition_67 : decode cX10_addTransition 67 = .ok (.aload_n 0, 1) := by decide +kernel
theorem dX10_addTransition_68 : decode cX10_addTransition 68 = .ok (.invokevirtual 144, 3) := by decide +kernel
theorem dX10_addTransition_71 : decode cX10_addTransition 71 = .ok (.iload 4, 2) := by decide +kernel
theorem dX10_addTransition_73 : decode cX10_addTransition 73 = .ok (.ireturn, 1) := by decide +kernel
set_option maxRecDepth 20000 in
theorem ggX10_removeTransition_X10_requireTransition : GoodIn wsX10_removeTransition wsX10_requireTransition := goodIn_ca (goodIn_r _ [7, 8, 9, 10, 11, 6, 12, 13, 14, 15, 16, 17, 18] (by decide +kernel) (by decide +kernel)) (goodIn_sub (fun _ h => List.mem_cons_of_mem _ (List.mem_append_left _ (List.mem_append_right _ h))) (gsub_f _))
set_option maxRecDepth 20000 in
theorem gX10_removeTransition_X10_requireTransition : GoodIn wsX10_removeTransition (va_wsS RX10 151 yX10_requireTransition wsX10_requireTransition) := goodIn_app (goodIn_r _ [4, 5, 6] (by decide +kernel) (by decide +kernel)) ggX10_removeTransition_X10_requireTransition
set_option maxRecDepth 20000 in
theorem ggX10_removeTransition_X0_has : GoodIn wsX10_removeTransition wsX0_has := goodIn_ca (goodIn_r _ [23, 14, 6, 15, 24, 25, 26, 22, 27, 28, 17, 18, 91, 92, 93] (by decide +kernel) (by decide +kernel)) (goodIn_sub (fun _ h => List.mem_cons_of_mem _ (List.mem_append_right _ h)) (gsub_f _))
set_option maxRecDepth 20000 in
theorem gX10_removeTransition_X0_has : GoodIn wsX10_removeTransition (wsV RX10 155 RX0 yX0_has wsX0_has) := goodIn_app (goodIn_r _ [19, 20, 21, 22] (by decide +kernel) (by decide +kernel)) ggX10_removeTransition_X0_has
set_option maxRecDepth 20000 in
theorem ggX10_removeTransition_X10_beginChange : GoodIn wsX10_removeTransition wsX10_beginChange := goodIn_ca (goodIn_r _ [32, 33, 3, 34, 35, 36, 37, 38, 39, 40, 41, 42, 43, 44, 45, 46, 47, 48, 22, 49, 28, 50, 51, 52, 53, 54, 55, 56, 57, 58, 59, 60, 61, 76, 77, 78, 79, 80, 81, 82, 83, 84, 85, 86, 87, 88, 89, 90, 94, 95, 96, 97, 98, 91, 92, 93, 99] (by decide +kernel) (by decide +kernel)) (goodIn_sub (fun _ h => List.mem_cons_of_mem _ (List.mem_append_right _ h)) (gsub_f _))
set_option maxRecDepth 20000 in
theorem gX10_removeTransition_X10_beginChange : GoodIn wsX10_removeTransition (wsV RX10 134 RX10 yX10_beginChange wsX10_beginChange) := goodIn_app (goodIn_r _ [29, 30, 31, 6] (by decide +kernel) (by decide +kernel)) ggX10_removeTransition_X10_beginChange
set_option maxRecDepth 20000 in
theorem ggX10_removeTransition_X0_drop : GoodIn wsX10_removeTransition wsX0_drop := goodIn_ca (goodIn_r _ [65, 28, 11, 6, 12, 13, 14, 15, 16, 17, 18, 91, 92, 93] (by decide +kernel) (by decide +kernel)) (goodIn_sub (fun _ h => List.mem_cons_of_mem _ (List.mem_append_right _ h)) (gsub_f _))
set_option maxRecDepth 20000 in
theorem gX10_removeTransition_X0_drop : GoodIn wsX10_removeTransition (wsV RX10 169 RX0 yX0_drop wsX0_drop) := goodIn_app (goodIn_r _ [62, 63, 64, 22] (by decide +kernel) (by decide +kernel)) ggX10_removeTransition_X0_drop
set_option maxRecDepth 20000 in
theorem ggX10_removeTransition_X10_endAutomatonChange : GoodIn wsX10_removeTransition wsX10_endAutomatonChange := goodIn_ca (goodIn_r _ [69, 3, 70, 71, 72, 73, 22, 74, 75, 28, 76, 77, 78, 79, 80, 81, 82, 83, 84, 85, 86, 87, 88, 89, 90, 91, 92, 93] (by decide +kernel) (by decide +kernel)) (goodIn_sub (fun _ h => List.mem_cons_of_mem _ (List.mem_append_right _ h)) (gsub_f _))
set_option maxRecDepth 20000 in
theorem gX10_removeTransition_X10_endAutomatonChange : GoodIn wsX10_removeTransition (wsV RX10 144 RX10 yX10_endAutomatonChange wsX10_endAutomatonChange) := goodIn_app (goodIn_r _ [66, 67, 68, 6] (by decide +kernel) (by decide +kernel)) ggX10_removeTransition_X10_endAutomatonChange
theorem dX10_removeTransition_0 : decode cX10_removeTransition 0 = .ok (.iload_n 1, 1) := by decide +kernel
theorem dX10_removeTransition_1 : decode cX10_removeTransition 1 = .ok (.iload_n 2, 1) := by decide +kernel
theorem dX10_removeTransition_2 : decode cX10_removeTransition 2 = .ok (.iload_n 3, 1) := by decide +kernel
theorem dX10_removeTransition_3 : decode cX10_removeTransition 3 = .ok (.invokestatic 151, 3) := by decide +kernel
theorem dX10_removeTransition_6 : decode cX10_removeTransition 6 = .ok (.aload_n 0, 1) := by decide +kernel
theorem dX10_removeTransition_7 : decode cX10_removeTransition 7 = .ok (.getfield 12, 3) := by decide +kernel
theorem dX10_removeTransition_10 : decode cX10_removeTransition 10 = .ok (.iload_n 1, 1) := by decide +kernel
theorem dX10_removeTransition_11 : decode cX10_removeTransition 11 = .ok (.iload_n 2, 1) := by decide +kernel
theorem dX10_removeTransition_12 : decode cX10_removeTransition 12 = .ok (.iload_n 3, 1) := by decide +kernel
theorem dX10_removeTransition_13 : decode cX10_removeTransition 13 = .ok (.invokevirtual 155, 3) := by decide +kernel
theorem dX10_removeTransition_16 : decode cX10_removeTransition 16 = .ok (.ifCond .ne 13, 3) := by decide +kernel
theorem dX10_removeTransition_19 : decode cX10_removeTransition 19 = .ok (.new 164, 3) := by decide +kernel
theorem dX10_removeTransition_22 : decode cX10_removeTransition 22 = .ok (.dup, 1) := by decide +kernel
theorem dX10_removeTransition_23 : decode cX10_removeTransition 23 = .ok (.ldc 166, 2) := by decide +kernel
theorem dX10_removeTransition_25 : decode cX10_removeTransition 25 = .ok (.invokespecial 168, 3) := by decide +kernel
theorem dX10_removeTransition_28 : decode cX10_removeTransition 28 = .ok (.athrow, 1) := by decide +kernel
theorem dX10_removeTransition_29 : decode cX10_removeTransition 29 = .ok (.aload_n 0, 1) := by decide +kernel
theorem dX10_removeTransition_30 : decode cX10_removeTransition 30 = .ok (.invokevirtual 134, 3) := by decide +kernel
theorem dX10_removeTransition_33 : decode cX10_removeTransition 33 = .ok (.aload_n 0, 1) := by decide +kernel
theorem dX10_removeTransition_34 : decode cX10_removeTransition 34 = .ok (.getfield 12, 3) := by decide +kernel
theorem dX10_removeTransition_37 : decode cX10_removeTransition 37 = .ok (.iload_n 1, 1) := by decide +kernel
theorem dX10_removeTransition_38 : decode cX10_removeTransition 38 = .ok (.iload_n 2, 1) := by decide +kernel
theorem dX10_removeTransition_39 : decode cX10_removeTransition 39 = .ok (.iload_n 3, 1) := by decide +kernel
theorem dX10_removeTransition_40 : decode cX10_removeTransition 40 = .ok (.invokevirtual 169, 3) := by decide +kernel
theorem dX10_removeTransition_43 : decode cX10_removeTransition 43 = .ok (.aload_n 0, 1) := by decide +kernel
theorem dX10_removeTransition_44 : decode cX10_removeTransition 44 = .ok (.invokevirtual 144, 3) := by decide +kernel
theorem dX10_removeTransition_47 : decode cX10_removeTransition 47 = .ok (.return_, 1) := by decide +kernel
set_option maxRecDepth 20000 in
theorem ggX10_setFinal_X10_isState : GoodIn wsX10_setFinal wsX10_isState := goodIn_r _ [7] (by decide +kernel) (by decide +kernel)
set_option maxRecDepth 20000 in
theorem gX10_setFinal_X10_isState : GoodIn wsX10_setFinal (va_wsS RX10 172 yX10_isState wsX10_isState) := goodIn_app (goodIn_r _ [4, 5, 6] (by decide +kernel) (by decide +kernel)) ggX10_setFinal_X10_isState
set_option maxRecDepth 20000 in
theorem ggX10_setFinal_X0_accepting : GoodIn wsX10_setFinal wsX0_accepting := goodIn_r _ [12, 13, 76, 77, 78] (by decide +kernel) (by decide +kernel)
set_option maxRecDepth 20000 in
theorem gX10_setFinal_X0_accepting : GoodIn wsX10_setFinal (wsV RX10 181 RX0 yX0_accepting wsX0_accepting) := goodIn_app (goodIn_r _ [8, 9, 10, 11] (by decide +kernel) (by decide +kernel)) ggX10_setFinal_X0_accepting
set_option maxRecDepth 20000 in
theorem ggX10_setFinal_X10_beginChange : GoodIn wsX10_setFinal wsX10_beginChange := goodIn_ca (goodIn_r _ [17, 18, 3, 19, 20, 21, 22, 23, 24, 25, 26, 27, 28, 29, 30, 31, 32, 33, 11, 34, 35, 36, 37, 38, 39, 13, 40, 41, 42, 43, 44, 45, 46, 61, 62, 63, 64, 65, 66, 67, 68, 69, 70, 71, 72, 73, 74, 75, 79, 80, 81, 82, 83, 76, 77, 78, 84] (by decide +kernel) (by decide +kernel)) (goodIn_sub (fun _ h => List.mem_cons_of_mem _ (List.mem_append_right _ h)) (gsub_f _))
set_option maxRecDepth 20000 in
theorem gX10_setFinal_X10_beginChange : GoodIn wsX10_setFinal (wsV RX10 134 RX10 yX10_beginChange wsX10_beginChange) := goodIn_app (goodIn_r _ [14, 15, 16, 6] (by decide +kernel) (by decide +kernel)) ggX10_setFinal_X10_beginChange
set_option maxRecDepth 20000 in
theorem ggX10_setFinal_X0_markFinal : GoodIn wsX10_setFinal wsX0_markFinal := goodIn_r _ [50, 13, 5, 6, 7, 76, 77, 78] (by decide +kernel) (by decide +kernel)
set_option maxRecDepth 20000 in
theorem gX10_setFinal_X0_markFinal : GoodIn wsX10_setFinal (wsV RX10 184 RX0 yX0_markFinal wsX0_markFinal) := goodIn_app (goodIn_r _ [47, 48, 49, 11] (by decide +kernel) (by decide +kernel)) ggX10_setFinal_X0_markFinal
set_option maxRecDepth 20000 in
theorem ggX10_setFinal_X10_endAutomatonChange : GoodIn wsX10_setFinal wsX10_endAutomatonChange := goodIn_ca (goodIn_r _ [54, 3, 55, 56, 57, 58, 11, 59, 60, 35, 61, 62, 63, 64, 65, 66, 67, 68, 69, 70, 71, 72, 73, 74, 75, 76, 77, 78] (by decide +kernel) (by decide +kernel)) (goodIn_sub (fun _ h => List.mem_cons_of_mem _ (List.mem_append_right _ h)) (gsub_f _))
set_option maxRecDepth 20000 in
theorem gX10_setFinal_X10_endAutomatonChange : GoodIn wsX10_setFinal (wsV RX10 144 RX10 yX10_endAutomatonChange wsX10_endAutomatonChange) := goodIn_app (goodIn_r _ [51, 52, 53, 6] (by decide +kernel) (by decide +kernel)) ggX10_setFinal_X10_endAutomatonChange
theorem dX10_setFinal_0 : decode cX10_setFinal 0 = .ok (.iload_n 1, 1) := by decide +kernel
theorem dX10_setFinal_1 : decode cX10_setFinal 1 = .ok (.invokestatic 172, 3) := by decide +kernel
theorem dX10_setFinal_4 : decode cX10_setFinal 4 = .ok (.ifCond .ne 13, 3) := by decide +kernel
theorem dX10_setFinal_7 : decode cX10_setFinal 7 = .ok (.new 176, 3) := by decide +kernel
theorem dX10_setFinal_10 : decode cX10_setFinal 10 = .ok (.dup, 1) := by decide +kernel
theorem dX10_setFinal_11 : decode cX10_setFinal 11 = .ok (.ldc 178, 2) := by decide +kernel
theorem dX10_setFinal_13 : decode cX10_setFinal 13 = .ok (.invokespecial 180, 3) := by decide +kernel
theorem dX10_setFinal_16 : decode cX10_setFinal 16 = .ok (.athrow, 1) := by decide +kernel
theorem dX10_setFinal_17 : decode cX10_setFinal 17 = .ok (.aload_n 0, 1) := by decide +kernel
theorem dX10_setFinal_18 : decode cX10_setFinal 18 = .ok (.getfield 12, 3) := by decide +kernel
theorem dX10_setFinal_21 : decode cX10_setFinal 21 = .ok (.iconst 1, 1) := by decide +kernel
theorem dX10_setFinal_22 : decode cX10_setFinal 22 = .ok (.iload_n 1, 1) := by decide +kernel
theorem dX10_setFinal_23 : decode cX10_setFinal 23 = .ok (.ishl, 1) := by decide +kernel
theorem dX10_setFinal_24 : decode cX10_setFinal 24 = .ok (.invokevirtual 181, 3) := by decide +kernel
theorem dX10_setFinal_27 : decode cX10_setFinal 27 = .ok (.istore_n 3, 1) := by decide +kernel
theorem dX10_setFinal_28 : decode cX10_setFinal 28 = .ok (.aload_n 0, 1) := by decide +kernel
theorem dX10_setFinal_29 : decode cX10_setFinal 29 = .ok (.invokevirtual 134, 3) := by decide +kernel
theorem dX10_setFinal_32 : decode cX10_setFinal 32 = .ok (.aload_n 0, 1) := by decide +kernel
theorem dX10_setFinal_33 : decode cX10_setFinal 33 = .ok (.getfield 12, 3) := by decide +kernel
theorem dX10_setFinal_36 : decode cX10_setFinal 36 = .ok (.iload_n 1, 1) := by decide +kernel
theorem dX10_setFinal_37 : decode cX10_setFinal 37 = .ok (.iload_n 2, 1) := by decide +kernel
theorem dX10_setFinal_38 : decode cX10_setFinal 38 = .ok (.invokevirtual 184, 3) := by decide +kernel
theorem dX10_setFinal_41 : decode cX10_setFinal 41 = .ok (.aload_n 0, 1) := by decide +kernel
theorem dX10_setFinal_42 : decode cX10_setFinal 42 = .ok (.invokevirtual 144, 3) := by decide +kernel
theorem dX10_setFinal_45 : decode cX10_setFinal 45 = .ok (.iload_n 3, 1) := by decide +kernel
theorem dX10_setFinal_46 : decode cX10_setFinal 46 = .ok (.ireturn, 1) := by decide +kernel
set_option maxRecDepth 20000 in
theorem ggX10_clearAutomaton_X10_beginChange : GoodIn wsX10_clearAutomaton wsX10_beginChange := goodIn_ca (goodIn_r _ [6, 7, 1, 8, 9, 10, 11, 12, 13, 14, 15, 16, 17, 18, 19, 20, 21, 22, 23, 24, 25, 26, 27, 28, 29, 30, 31, 32, 33, 34, 35, 36, 37, 52, 53, 54, 55, 56, 57, 58, 59, 60, 61, 62, 63, 64, 65, 66, 67, 68, 69, 70, 71, 72, 73, 74, 75] (by decide +kernel) (by decide +kernel)) (goodIn_sub (fun _ h => List.mem_cons_of_mem _ (List.mem_append_right _ h)) (gsub_f _))
set_option maxRecDepth 20000 in
theorem gX10_clearAutomaton_X10_beginChange : GoodIn wsX10_clearAutomaton (wsV RX10 134 RX10 yX10_beginChange wsX10_beginChange) := goodIn_app (goodIn_r _ [2, 3, 4, 5] (by decide +kernel) (by decide +kernel)) ggX10_clearAutomaton_X10_beginChange
set_option maxRecDepth 20000 in
theorem ggX10_clearAutomaton_X0_wipe : GoodIn wsX10_clearAutomaton wsX0_wipe := goodIn_ca (goodIn_r _ [41, 25, 30, 72, 73, 74] (by decide +kernel) (by decide +kernel)) (goodIn_sub (fun _ h => List.mem_cons_of_mem _ (List.mem_append_right _ h)) (gsub_f _))
set_option maxRecDepth 20000 in
theorem gX10_clearAutomaton_X0_wipe : GoodIn wsX10_clearAutomaton (wsV RX10 188 RX0 yX0_wipe wsX0_wipe) := goodIn_app (goodIn_r _ [38, 39, 40, 23] (by decide +kernel) (by decide +kernel)) ggX10_clearAutomaton_X0_wipe
set_option maxRecDepth 20000 in
theorem ggX10_clearAutomaton_X10_endAutomatonChange : GoodIn wsX10_clearAutomaton wsX10_endAutomatonChange := goodIn_ca (goodIn_r _ [45, 1, 46, 47, 48, 49, 23, 50, 51, 25, 52, 53, 54, 55, 56, 57, 58, 59, 60, 61, 62, 63, 64, 65, 66, 72, 73, 74] (by decide +kernel) (by decide +kernel)) (goodIn_sub (fun _ h => List.mem_cons_of_mem _ (List.mem_append_right _ h)) (gsub_f _))
set_option maxRecDepth 20000 in
theorem gX10_clearAutomaton_X10_endAutomatonChange : GoodIn wsX10_clearAutomaton (wsV RX10 144 RX10 yX10_endAutomatonChange wsX10_endAutomatonChange) := goodIn_app (goodIn_r _ [42, 43, 44, 5] (by decide +kernel) (by decide +kernel)) ggX10_clearAutomaton_X10_endAutomatonChange
theorem dX10_clearAutomaton_0 : decode cX10_clearAutomaton 0 = .ok (.aload_n 0, 1) := by decide +kernel
theorem dX10_clearAutomaton_1 : decode cX10_clearAutomaton 1 = .ok (.invokevirtual 134, 3) := by decide +kernel
theorem dX10_clearAutomaton_4 : decode cX10_clearAutomaton 4 = .ok (.aload_n 0, 1) := by decide +kernel
theorem dX10_clearAutomaton_5 : decode cX10_clearAutomaton 5 = .ok (.getfield 12, 3) := by decide +kernel
theorem dX10_clearAutomaton_8 : decode cX10_clearAutomaton 8 = .ok (.invokevirtual 188, 3) := by decide +kernel
theorem dX10_clearAutomaton_11 : decode cX10_clearAutomaton 11 = .ok (.aload_n 0, 1) := by decide +kernel
theorem dX10_clearAutomaton_12 : decode cX10_clearAutomaton 12 = .ok (.invokevirtual 144, 3) := by decide +kernel
theorem dX10_clearAutomaton_15 : decode cX10_clearAutomaton 15 = .ok (.return_, 1) := by decide +kernel
set_option maxRecDepth 20000 in
theorem ggX10_transitionCount_X0_size : GoodIn wsX10_transitionCount wsX0_size := goodIn_ca (goodIn_r _ [6, 7, 8, 9, 10, 11, 12, 13, 14, 30, 31, 32] (by decide +kernel) (by decide +kernel)) (goodIn_sub (fun _ h => List.mem_cons_of_mem _ (List.mem_append_right _ h)) (gsub_f _))
set_option maxRecDepth 20000 in
theorem gX10_transitionCount_X0_size : GoodIn wsX10_transitionCount (wsV RX10 147 RX0 yX0_size wsX0_size) := goodIn_app (goodIn_of _ (by decide +kernel)) ggX10_transitionCount_X0_size
theorem dX10_transitionCount_0 : decode cX10_transitionCount 0 = .ok (.aload_n 0, 1) := by decide +kernel
theorem dX10_transitionCount_1 : decode cX10_transitionCount 1 = .ok (.getfield 12, 3) := by decide +kernel
theorem dX10_transitionCount_4 : decode cX10_transitionCount 4 = .ok (.invokevirtual 147, 3) := by decide +kernel
theorem dX10_transitionCount_7 : decode cX10_transitionCount 7 = .ok (.ireturn, 1) := by decide +kernel
set_option maxRecDepth 20000 in
theorem ggX10_transition_X0_size : GoodIn wsX10_transition wsX0_size := goodIn_ca (goodIn_r _ [8, 9, 10, 11, 12, 13, 14, 15, 16, 51, 52, 53] (by decide +kernel) (by decide +kernel)) (goodIn_sub (fun _ h => List.mem_cons_of_mem _ (List.mem_append_right _ h)) (gsub_f _))
set_option maxRecDepth 20000 in
theorem gX10_transition_X0_size : GoodIn wsX10_transition (wsV RX10 147 RX0 yX0_size wsX0_size) := goodIn_app (goodIn_r _ [4, 5, 6, 7] (by decide +kernel) (by decide +kernel)) ggX10_transition_X0_size
set_option maxRecDepth 20000 in
theorem ggX10_transition_X0_codeAt : GoodIn wsX10_transition wsX0_codeAt := goodIn_ca (goodIn_r _ [20, 21, 22, 23, 7, 24, 25, 26, 27, 28, 29, 30, 31, 9, 32, 33, 34, 35, 51, 52, 53] (by decide +kernel) (by decide +kernel)) (goodIn_sub (fun _ h => List.mem_cons_of_mem _ (List.mem_append_right _ h)) (gsub_f _))
set_option maxRecDepth 20000 in
theorem gX10_transition_X0_codeAt : GoodIn wsX10_transition (wsV RX10 193 RX0 yX0_codeAt wsX0_codeAt) := goodIn_app (goodIn_r _ [17, 18, 19, 7] (by decide +kernel) (by decide +kernel)) ggX10_transition_X0_codeAt
theorem dX10_transition_0 : decode cX10_transition 0 = .ok (.iload_n 1, 1) := by decide +kernel
theorem dX10_transition_1 : decode cX10_transition 1 = .ok (.ifCond .lt 14, 3) := by decide +kernel
theorem dX10_transition_4 : decode cX10_transition 4 = .ok (.iload_n 1, 1) := by decide +kernel
theorem dX10_transition_5 : decode cX10_transition 5 = .ok (.aload_n 0, 1) := by decide +kernel
theorem dX10_transition_6 : decode cX10_transition 6 = .ok (.getfield 12, 3) := by decide +kernel
theorem dX10_transition_9 : decode cX10_transition 9 = .ok (.invokevirtual 147, 3) := by decide +kernel
theorem dX10_transition_12 : decode cX10_transition 12 = .ok (.if_icmp .lt 13, 3) := by decide +kernel
theorem dX10_transition_15 : decode cX10_transition 15 = .ok (.new 176, 3) := by decide +kernel
theorem dX10_transition_18 : decode cX10_transition 18 = .ok (.dup, 1) := by decide +kernel
theorem dX10_transition_19 : decode cX10_transition 19 = .ok (.ldc 191, 2) := by decide +kernel
theorem dX10_transition_21 : decode cX10_transition 21 = .ok (.invokespecial 180, 3) := by decide +kernel
theorem dX10_transition_24 : decode cX10_transition 24 = .ok (.athrow, 1) := by decide +kernel
theorem dX10_transition_25 : decode cX10_transition 25 = .ok (.aload_n 0, 1) := by decide +kernel
theorem dX10_transition_26 : decode cX10_transition 26 = .ok (.getfield 12, 3) := by decide +kernel
theorem dX10_transition_29 : decode cX10_transition 29 = .ok (.iload_n 1, 1) := by decide +kernel
theorem dX10_transition_30 : decode cX10_transition 30 = .ok (.invokevirtual 193, 3) := by decide +kernel
theorem dX10_transition_33 : decode cX10_transition 33 = .ok (.ireturn, 1) := by decide +kernel
set_option maxRecDepth 20000 in
theorem ggX10_isDeterministic_X0_hasSingleTargets : GoodIn wsX10_isDeterministic wsX0_hasSingleTargets := goodIn_ca (goodIn_r _ [6, 7, 23, 24, 25] (by decide +kernel) (by decide +kernel)) (goodIn_sub (fun _ h => List.mem_cons_of_mem _ (List.mem_append_right _ h)) (gsub_f _))
set_option maxRecDepth 20000 in
theorem gX10_isDeterministic_X0_hasSingleTargets : GoodIn wsX10_isDeterministic (wsV RX10 196 RX0 yX0_hasSingleTargets wsX0_hasSingleTargets) := goodIn_app (goodIn_of _ (by decide +kernel)) ggX10_isDeterministic_X0_hasSingleTargets
theorem dX10_isDeterministic_0 : decode cX10_isDeterministic 0 = .ok (.aload_n 0, 1) := by decide +kernel
theorem dX10_isDeterministic_1 : decode cX10_isDeterministic 1 = .ok (.getfield 12, 3) := by decide +kernel
theorem dX10_isDeterministic_4 : decode cX10_isDeterministic 4 = .ok (.invokevirtual 196, 3) := by decide +kernel
theorem dX10_isDeterministic_7 : decode cX10_isDeterministic 7 = .ok (.ireturn, 1) := by decide +kernel
set_option maxRecDepth 20000 in
theorem ggX10_usefulStates_X0_useful : GoodIn wsX10_usefulStates wsX0_useful := goodIn_ca (goodIn_r _ [6, 7, 8, 9, 10, 5, 11, 12, 13, 14, 15, 16, 17, 18, 19, 20, 36, 37, 38] (by decide +kernel) (by decide +kernel)) (goodIn_sub (fun _ h => List.mem_cons_of_mem _ (List.mem_append_right _ h)) (gsub_f _))
set_option maxRecDepth 20000 in
theorem gX10_usefulStates_X0_useful : GoodIn wsX10_usefulStates (wsV RX10 199 RX0 yX0_useful wsX0_useful) := goodIn_app (goodIn_of _ (by decide +kernel)) ggX10_usefulStates_X0_useful
theorem dX10_usefulStates_0 : decode cX10_usefulStates 0 = .ok (.aload_n 0, 1) := by decide +kernel
theorem dX10_usefulStates_1 : decode cX10_usefulStates 1 = .ok (.getfield 12, 3) := by decide +kernel
theorem dX10_usefulStates_4 : decode cX10_usefulStates 4 = .ok (.invokevirtual 199, 3) := by decide +kernel
theorem dX10_usefulStates_7 : decode cX10_usefulStates 7 = .ok (.ireturn, 1) := by decide +kernel
set_option maxRecDepth 20000 in
theorem ggX10_appendLetter_X10_isLetter : GoodIn wsX10_appendLetter wsX10_isLetter := goodIn_r _ [11] (by decide +kernel) (by decide +kernel)
set_option maxRecDepth 20000 in
theorem gX10_appendLetter_X10_isLetter : GoodIn wsX10_appendLetter (va_wsS RX10 202 yX10_isLetter wsX10_isLetter) := goodIn_app (goodIn_of _ (by decide +kernel)) ggX10_appendLetter_X10_isLetter
theorem dX10_appendLetter_0 : decode cX10_appendLetter 0 = .ok (.iload_n 1, 1) := by decide +kernel
theorem dX10_appendLetter_1 : decode cX10_appendLetter 1 = .ok (.invokestatic 202, 3) := by decide +kernel
theorem dX10_appendLetter_4 : decode cX10_appendLetter 4 = .ok (.ifCond .ne 13, 3) := by decide +kernel
theorem dX10_appendLetter_7 : decode cX10_appendLetter 7 = .ok (.new 97, 3) := by decide +kernel
theorem dX10_appendLetter_10 : decode cX10_appendLetter 10 = .ok (.dup, 1) := by decide +kernel
theorem dX10_appendLetter_11 : decode cX10_appendLetter 11 = .ok (.ldc 205, 2) := by decide +kernel
theorem dX10_appendLetter_13 : decode cX10_appendLetter 13 = .ok (.invokespecial 101, 3) := by decide +kernel
theorem dX10_appendLetter_16 : decode cX10_appendLetter 16 = .ok (.athrow, 1) := by decide +kernel
theorem dX10_appendLetter_17 : decode cX10_appendLetter 17 = .ok (.aload_n 0, 1) := by decide +kernel
theorem dX10_appendLetter_18 : decode cX10_appendLetter 18 = .ok (.getfield 41, 3) := by decide +kernel
theorem dX10_appendLetter_21 : decode cX10_appendLetter 21 = .ok (.ifCond .lt 12, 3) := by decide +kernel
theorem dX10_appendLetter_24 : decode cX10_appendLetter 24 = .ok (.aload_n 0, 1) := by decide +kernel
theorem dX10_appendLetter_25 : decode cX10_appendLetter 25 = .ok (.getfield 41, 3) := by decide +kernel
theorem dX10_appendLetter_28 : decode cX10_appendLetter 28 = .ok (.bipush 8, 2) := by decide +kernel
theorem dX10_appendLetter_30 : decode cX10_appendLetter 30 = .ok (.if_icmp .lt 13, 3) := by decide +kernel
theorem dX10_appendLetter_33 : decode cX10_appendLetter 33 = .ok (.new 108, 3) := by decide +kernel
theorem dX10_appendLetter_36 : decode cX10_appendLetter 36 = .ok (.dup, 1) := by decide +kernel
theorem dX10_appendLetter_37 : decode cX10_appendLetter 37 = .ok (.ldc 207, 2) := by decide +kernel
theorem dX10_appendLetter_39 : decode cX10_appendLetter 39 = .ok (.invokespecial 112, 3) := by decide +kernel
theorem dX10_appendLetter_42 : decode cX10_appendLetter 42 = .ok (.athrow, 1) := by decide +kernel
theorem dX10_appendLetter_43 : decode cX10_appendLetter 43 = .ok (.aload_n 0, 1) := by decide +kernel
theorem dX10_appendLetter_44 : decode cX10_appendLetter 44 = .ok (.getfield 37, 3) := by decide +kernel
theorem dX10_appendLetter_47 : decode cX10_appendLetter 47 = .ok (.aload_n 0, 1) := by decide +kernel
theorem dX10_appendLetter_48 : decode cX10_appendLetter 48 = .ok (.getfield 41, 3) := by decide +kernel
theorem dX10_appendLetter_51 : decode cX10_appendLetter 51 = .ok (.iload_n 1, 1) := by decide +kernel
theorem dX10_appendLetter_52 : decode cX10_appendLetter 52 = .ok (.iastore, 1) := by decide +kernel
theorem dX10_appendLetter_53 : decode cX10_appendLetter 53 = .ok (.aload_n 0, 1) := by decide +kernel
theorem dX10_appendLetter_54 : decode cX10_appendLetter 54 = .ok (.dup, 1) := by decide +kernel
theorem dX10_appendLetter_55 : decode cX10_appendLetter 55 = .ok (.getfield 41, 3) := by decide +kernel
theorem dX10_appendLetter_58 : decode cX10_appendLetter 58 = .ok (.iconst 1, 1) := by decide +kernel
theorem dX10_appendLetter_59 : decode cX10_appendLetter 59 = .ok (.iadd, 1) := by decide +kernel
theorem dX10_appendLetter_60 : decode cX10_appendLetter 60 = .ok (.putfield 41, 3) := by decide +kernel
theorem dX10_appendLetter_63 : decode cX10_appendLetter 63 = .ok (.aload_n 0, 1) := by decide +kernel
theorem dX10_appendLetter_64 : decode cX10_appendLetter 64 = .ok (.iconst 0, 1) := by decide +kernel
theorem dX10_appendLetter_65 : decode cX10_appendLetter 65 = .ok (.putfield 93, 3) := by decide +kernel
theorem dX10_appendLetter_68 : decode cX10_appendLetter 68 = .ok (.aload_n 0, 1) := by decide +kernel
theorem dX10_appendLetter_69 : decode cX10_appendLetter 69 = .ok (.getfield 41, 3) := by decide +kernel
theorem dX10_appendLetter_72 : decode cX10_appendLetter 72 = .ok (.ireturn, 1) := by decide +kernel
theorem dX10_clearWord_0 : decode cX10_clearWord 0 = .ok (.aload_n 0, 1) := by decide +kernel
theorem dX10_clearWord_1 : decode cX10_clearWord 1 = .ok (.getfield 41, 3) := by decide +kernel
theorem dX10_clearWord_4 : decode cX10_clearWord 4 = .ok (.istore_n 1, 1) := by decide +kernel
theorem dX10_clearWord_5 : decode cX10_clearWord 5 = .ok (.aload_n 0, 1) := by decide +kernel
theorem dX10_clearWord_6 : decode cX10_clearWord 6 = .ok (.iconst 0, 1) := by decide +kernel
theorem dX10_clearWord_7 : decode cX10_clearWord 7 = .ok (.putfield 41, 3) := by decide +kernel
theorem dX10_clearWord_10 : decode cX10_clearWord 10 = .ok (.aload_n 0, 1) := by decide +kernel
theorem dX10_clearWord_11 : decode cX10_clearWord 11 = .ok (.iconst 0, 1) := by decide +kernel
theorem dX10_clearWord_12 : decode cX10_clearWord 12 = .ok (.putfield 93, 3) := by decide +kernel
theorem dX10_clearWord_15 : decode cX10_clearWord 15 = .ok (.iload_n 1, 1) := by decide +kernel
theorem dX10_clearWord_16 : decode cX10_clearWord 16 = .ok (.ireturn, 1) := by decide +kernel
theorem dX10_wordLength_0 : decode cX10_wordLength 0 = .ok (.aload_n 0, 1) := by decide +kernel
theorem dX10_wordLength_1 : decode cX10_wordLength 1 = .ok (.getfield 41, 3) := by decide +kernel
theorem dX10_wordLength_4 : decode cX10_wordLength 4 = .ok (.ireturn, 1) := by decide +kernel
set_option maxRecDepth 20000 in
theorem ggX10_letterAt_X10_isPosition : GoodIn wsX10_letterAt wsX10_isPosition := goodIn_r _ [8, 9, 10, 11, 12, 13, 14, 15, 16, 17, 18, 19, 20, 21, 22, 23, 24] (by decide +kernel) (by decide +kernel)
set_option maxRecDepth 20000 in
theorem gX10_letterAt_X10_isPosition : GoodIn wsX10_letterAt (wsV RX10 209 RX10 yX10_isPosition wsX10_isPosition) := goodIn_app (goodIn_of _ (by decide +kernel)) ggX10_letterAt_X10_isPosition
theorem dX10_letterAt_0 : decode cX10_letterAt 0 = .ok (.aload_n 0, 1) := by decide +kernel
theorem dX10_letterAt_1 : decode cX10_letterAt 1 = .ok (.iload_n 1, 1) := by decide +kernel
theorem dX10_letterAt_2 : decode cX10_letterAt 2 = .ok (.invokevirtual 209, 3) := by decide +kernel
theorem dX10_letterAt_5 : decode cX10_letterAt 5 = .ok (.ifCond .ne 13, 3) := by decide +kernel
theorem dX10_letterAt_8 : decode cX10_letterAt 8 = .ok (.new 176, 3) := by decide +kernel
theorem dX10_letterAt_11 : decode cX10_letterAt 11 = .ok (.dup, 1) := by decide +kernel
theorem dX10_letterAt_12 : decode cX10_letterAt 12 = .ok (.ldc 212, 2) := by decide +kernel
theorem dX10_letterAt_14 : decode cX10_letterAt 14 = .ok (.invokespecial 180, 3) := by decide +kernel
theorem dX10_letterAt_17 : decode cX10_letterAt 17 = .ok (.athrow, 1) := by decide +kernel
theorem dX10_letterAt_18 : decode cX10_letterAt 18 = .ok (.aload_n 0, 1) := by decide +kernel
theorem dX10_letterAt_19 : decode cX10_letterAt 19 = .ok (.getfield 37, 3) := by decide +kernel
theorem dX10_letterAt_22 : decode cX10_letterAt 22 = .ok (.iload_n 1, 1) := by decide +kernel
theorem dX10_letterAt_23 : decode cX10_letterAt 23 = .ok (.iaload, 1) := by decide +kernel
theorem dX10_letterAt_24 : decode cX10_letterAt 24 = .ok (.ireturn, 1) := by decide +kernel
set_option maxRecDepth 20000 in
theorem ggX10_accepts_X10_requireMode : GoodIn wsX10_accepts wsX10_requireMode := goodIn_ca (goodIn_r _ [8, 9, 10] (by decide +kernel) (by decide +kernel)) (goodIn_sub (fun _ h => List.mem_cons_of_mem _ (List.mem_append_left _ (List.mem_append_left _ (List.mem_append_right _ h)))) (gsub_f _))
set_option maxRecDepth 20000 in
theorem gX10_accepts_X10_requireMode : GoodIn wsX10_accepts (va_wsS RX10 214 yX10_requireMode wsX10_requireMode) := goodIn_app (goodIn_r _ [5, 6, 7] (by decide +kernel) (by decide +kernel)) ggX10_accepts_X10_requireMode
set_option maxRecDepth 20000 in
theorem ggX10_accepts_X10_requireReadable : GoodIn wsX10_accepts wsX10_requireReadable := goodIn_ca (goodIn_ca (goodIn_r _ [14, 15, 16, 17, 7, 18, 19, 20, 1, 21, 22, 23, 24, 25, 26, 106, 107, 108, 109, 110, 111, 112, 113, 114, 115, 116, 117, 118, 119, 120, 121, 122, 123] (by decide +kernel) (by decide +kernel)) (goodIn_sub (fun _ h => List.mem_cons_of_mem _ (List.mem_append_left _ (List.mem_append_right _ h))) (gsub_f _))) (goodIn_sub (fun _ h => List.mem_cons_of_mem _ (List.mem_append_right _ h)) (gsub_f _))
set_option maxRecDepth 20000 in
theorem gX10_accepts_X10_requireReadable : GoodIn wsX10_accepts (wsV RX10 218 RX10 yX10_requireReadable wsX10_requireReadable) := goodIn_app (goodIn_r _ [11, 12, 13, 7] (by decide +kernel) (by decide +kernel)) ggX10_accepts_X10_requireReadable
set_option maxRecDepth 20000 in
theorem ggX10_accepts_X0_statesAfter : GoodIn wsX10_accepts wsX0_statesAfter := goodIn_ca (goodIn_r _ [30, 31, 32, 33, 24, 34, 35, 36, 7, 37, 121, 122, 123] (by decide +kernel) (by decide +kernel)) (goodIn_sub (fun _ h => List.mem_cons_of_mem _ (List.mem_append_right _ h)) (gsub_f _))
set_option maxRecDepth 20000 in
theorem gX10_accepts_X0_statesAfter : GoodIn wsX10_accepts (wsV RX10 221 RX0 yX0_statesAfter wsX0_statesAfter) := goodIn_app (goodIn_r _ [27, 28, 29, 24] (by decide +kernel) (by decide +kernel)) ggX10_accepts_X0_statesAfter
set_option maxRecDepth 20000 in
theorem ggX10_accepts_X0_accepting : GoodIn wsX10_accepts wsX0_accepting := goodIn_r _ [41, 42, 121, 122, 123] (by decide +kernel) (by decide +kernel)
set_option maxRecDepth 20000 in
theorem gX10_accepts_X0_accepting : GoodIn wsX10_accepts (wsV RX10 181 RX0 yX0_accepting wsX0_accepting) := goodIn_app (goodIn_r _ [38, 39, 40, 24] (by decide +kernel) (by decide +kernel)) ggX10_accepts_X0_accepting
set_option maxRecDepth 20000 in
theorem ggX10_accepts_X10_wordIsReached : GoodIn wsX10_accepts wsX10_wordIsReached := goodIn_ca (goodIn_r _ [46, 3, 2, 47, 1, 48, 49, 7, 50, 51, 52, 53, 54, 55, 56, 57, 58, 59, 60, 61, 62, 63, 64, 65, 66, 67, 68, 69, 70, 71, 72, 73, 32, 33, 24, 34, 35, 36, 37, 74, 75, 76, 77, 38, 39, 40, 41, 42, 106, 107, 108, 109, 110, 111, 112, 113, 114, 115, 116, 117, 118, 119, 120, 124, 121, 122, 123] (by decide +kernel) (by decide +kernel)) (goodIn_sub (fun _ h => List.mem_cons_of_mem _ (List.mem_append_right _ h)) (gsub_f _))
set_option maxRecDepth 20000 in
theorem gX10_accepts_X10_wordIsReached : GoodIn wsX10_accepts (wsV RX10 225 RX10 yX10_wordIsReached wsX10_wordIsReached) := goodIn_app (goodIn_r _ [43, 44, 45, 7] (by decide +kernel) (by decide +kernel)) ggX10_accepts_X10_wordIsReached
set_option maxRecDepth 20000 in
theorem ggX10_accepts_X8_read : GoodIn wsX10_accepts wsX8_read := goodIn_ca (goodIn_r _ [82, 83, 84, 85, 81, 86, 87, 88, 89, 90, 91, 92, 93, 94, 95, 96, 32, 33, 24, 34, 35, 36, 7, 37, 97, 98, 99, 100, 125, 126, 127, 128, 129, 121, 122, 123] (by decide +kernel) (by decide +kernel)) (goodIn_sub (fun _ h => List.mem_cons_of_mem _ (List.mem_append_right _ h)) (gsub_f _))
set_option maxRecDepth 20000 in
theorem gX10_accepts_X8_read : GoodIn wsX10_accepts (wsV RX10 228 RX8 yX8_read wsX8_read) := goodIn_app (goodIn_r _ [78, 79, 80, 81] (by decide +kernel) (by decide +kernel)) ggX10_accepts_X8_read
set_option maxRecDepth 20000 in
theorem ggX10_accepts_X8_accepted : GoodIn wsX10_accepts wsX8_accepted := goodIn_r _ [104, 89, 87, 105, 39, 40, 24, 41, 42, 125, 126, 127, 128, 129, 121, 122, 123] (by decide +kernel) (by decide +kernel)
set_option maxRecDepth 20000 in
theorem gX10_accepts_X8_accepted : GoodIn wsX10_accepts (wsV RX10 231 RX8 yX8_accepted wsX8_accepted) := goodIn_app (goodIn_r _ [101, 102, 103, 81] (by decide +kernel) (by decide +kernel)) ggX10_accepts_X8_accepted
theorem dX10_accepts_0 : decode cX10_accepts 0 = .ok (.iload_n 1, 1) := by decide +kernel
theorem dX10_accepts_1 : decode cX10_accepts 1 = .ok (.invokestatic 214, 3) := by decide +kernel
theorem dX10_accepts_4 : decode cX10_accepts 4 = .ok (.aload_n 0, 1) := by decide +kernel
theorem dX10_accepts_5 : decode cX10_accepts 5 = .ok (.iload_n 1, 1) := by decide +kernel
theorem dX10_accepts_6 : decode cX10_accepts 6 = .ok (.invokevirtual 218, 3) := by decide +kernel
theorem dX10_accepts_9 : decode cX10_accepts 9 = .ok (.iload_n 1, 1) := by decide +kernel
theorem dX10_accepts_10 : decode cX10_accepts 10 = .ok (.ifCond .ne 26, 3) := by decide +kernel
theorem dX10_accepts_13 : decode cX10_accepts 13 = .ok (.aload_n 0, 1) := by decide +kernel
theorem dX10_accepts_14 : decode cX10_accepts 14 = .ok (.getfield 12, 3) := by decide +kernel
theorem dX10_accepts_17 : decode cX10_accepts 17 = .ok (.aload_n 0, 1) := by decide +kernel
theorem dX10_accepts_18 : decode cX10_accepts 18 = .ok (.getfield 12, 3) := by decide +kernel
theorem dX10_accepts_21 : decode cX10_accepts 21 = .ok (.aload_n 0, 1) := by decide +kernel
theorem dX10_accepts_22 : decode cX10_accepts 22 = .ok (.getfield 37, 3) := by decide +kernel
theorem dX10_accepts_25 : decode cX10_accepts 25 = .ok (.aload_n 0, 1) := by decide +kernel
theorem dX10_accepts_26 : decode cX10_accepts 26 = .ok (.getfield 41, 3) := by decide +kernel
theorem dX10_accepts_29 : decode cX10_accepts 29 = .ok (.invokevirtual 221, 3) := by decide +kernel
theorem dX10_accepts_32 : decode cX10_accepts 32 = .ok (.invokevirtual 181, 3) := by decide +kernel
theorem dX10_accepts_35 : decode cX10_accepts 35 = .ok (.ireturn, 1) := by decide +kernel
theorem dX10_accepts_36 : decode cX10_accepts 36 = .ok (.iload_n 1, 1) := by decide +kernel
theorem dX10_accepts_37 : decode cX10_accepts 37 = .ok (.iconst 1, 1) := by decide +kernel
theorem dX10_accepts_38 : decode cX10_accepts 38 = .ok (.if_icmp .ne 8, 3) := by decide +kernel
theorem dX10_accepts_41 : decode cX10_accepts 41 = .ok (.aload_n 0, 1) := by decide +kernel
theorem dX10_accepts_42 : decode cX10_accepts 42 = .ok (.invokevirtual 225, 3) := by decide +kernel
theorem dX10_accepts_45 : decode cX10_accepts 45 = .ok (.ireturn, 1) := by decide +kernel
theorem dX10_accepts_46 : decode cX10_accepts 46 = .ok (.aload_n 0, 1) := by decide +kernel
theorem dX10_accepts_47 : decode cX10_accepts 47 = .ok (.getfield 82, 3) := by decide +kernel
theorem dX10_accepts_50 : decode cX10_accepts 50 = .ok (.aload_n 0, 1) := by decide +kernel
theorem dX10_accepts_51 : decode cX10_accepts 51 = .ok (.getfield 12, 3) := by decide +kernel
theorem dX10_accepts_54 : decode cX10_accepts 54 = .ok (.aload_n 0, 1) := by decide +kernel
theorem dX10_accepts_55 : decode cX10_accepts 55 = .ok (.getfield 37, 3) := by decide +kernel
theorem dX10_accepts_58 : decode cX10_accepts 58 = .ok (.aload_n 0, 1) := by decide +kernel
theorem dX10_accepts_59 : decode cX10_accepts 59 = .ok (.getfield 41, 3) := by decide +kernel
theorem dX10_accepts_62 : decode cX10_accepts 62 = .ok (.invokevirtual 228, 3) := by decide +kernel
theorem dX10_accepts_65 : decode cX10_accepts 65 = .ok (.aload_n 0, 1) := by decide +kernel
theorem dX10_accepts_66 : decode cX10_accepts 66 = .ok (.getfield 82, 3) := by decide +kernel
theorem dX10_accepts_69 : decode cX10_accepts 69 = .ok (.aload_n 0, 1) := by decide +kernel
theorem dX10_accepts_70 : decode cX10_accepts 70 = .ok (.getfield 12, 3) := by decide +kernel
theorem dX10_accepts_73 : decode cX10_accepts 73 = .ok (.invokevirtual 231, 3) := by decide +kernel
theorem dX10_accepts_76 : decode cX10_accepts 76 = .ok (.ireturn, 1) := by decide +kernel
set_option maxRecDepth 20000 in
theorem ggX10_runCount_X9_countRuns : GoodIn wsX10_runCount wsX9_countRuns := goodIn_ca (goodIn_r _ [9, 10, 11, 12, 13, 14, 15, 16, 17, 8, 18, 19, 20, 21, 22, 23, 24, 25, 26, 27, 28, 29, 30, 31, 32, 33, 34, 50, 51, 52, 53, 54, 55, 56, 57, 58, 59] (by decide +kernel) (by decide +kernel)) (goodIn_sub (fun _ h => List.mem_cons_of_mem _ (List.mem_append_right _ h)) (gsub_f _))
set_option maxRecDepth 20000 in
theorem gX10_runCount_X9_countRuns : GoodIn wsX10_runCount (wsV RX10 235 RX9 yX9_countRuns wsX9_countRuns) := goodIn_app (goodIn_r _ [5, 6, 7, 8] (by decide +kernel) (by decide +kernel)) ggX10_runCount_X9_countRuns
theorem dX10_runCount_0 : decode cX10_runCount 0 = .ok (.aload_n 0, 1) := by decide +kernel
theorem dX10_runCount_1 : decode cX10_runCount 1 = .ok (.getfield 75, 3) := by decide +kernel
theorem dX10_runCount_4 : decode cX10_runCount 4 = .ok (.aload_n 0, 1) := by decide +kernel
theorem dX10_runCount_5 : decode cX10_runCount 5 = .ok (.getfield 12, 3) := by decide +kernel
theorem dX10_runCount_8 : decode cX10_runCount 8 = .ok (.aload_n 0, 1) := by decide +kernel
theorem dX10_runCount_9 : decode cX10_runCount 9 = .ok (.getfield 37, 3) := by decide +kernel
theorem dX10_runCount_12 : decode cX10_runCount 12 = .ok (.aload_n 0, 1) := by decide +kernel
theorem dX10_runCount_13 : decode cX10_runCount 13 = .ok (.getfield 41, 3) := by decide +kernel
theorem dX10_runCount_16 : decode cX10_runCount 16 = .ok (.invokevirtual 235, 3) := by decide +kernel
theorem dX10_runCount_19 : decode cX10_runCount 19 = .ok (.lreturn, 1) := by decide +kernel
set_option maxRecDepth 20000 in
theorem ggX10_acceptedArrangements_X9_countArrangements : GoodIn wsX10_acceptedArrangements wsX9_countArrangements := goodIn_ca (goodIn_r _ [9, 10, 11, 12, 13, 8, 14, 15, 16, 17, 18, 19, 20, 21, 22, 23, 24, 25, 26, 27, 28, 29, 30, 31, 32, 33, 34, 35, 36, 52, 53, 54, 55, 56, 57, 58, 59, 60, 61] (by decide +kernel) (by decide +kernel)) (goodIn_sub (fun _ h => List.mem_cons_of_mem _ (List.mem_append_right _ h)) (gsub_f _))
set_option maxRecDepth 20000 in
theorem gX10_acceptedArrangements_X9_countArrangements : GoodIn wsX10_acceptedArrangements (wsV RX10 239 RX9 yX9_countArrangements wsX9_countArrangements) := goodIn_app (goodIn_r _ [5, 6, 7, 8] (by decide +kernel) (by decide +kernel)) ggX10_acceptedArrangements_X9_countArrangements
theorem dX10_acceptedArrangements_0 : decode cX10_acceptedArrangements 0 = .ok (.aload_n 0, 1) := by decide +kernel
theorem dX10_acceptedArrangements_1 : decode cX10_acceptedArrangements 1 = .ok (.getfield 75, 3) := by decide +kernel
theorem dX10_acceptedArrangements_4 : decode cX10_acceptedArrangements 4 = .ok (.aload_n 0, 1) := by decide +kernel
theorem dX10_acceptedArrangements_5 : decode cX10_acceptedArrangements 5 = .ok (.getfield 12, 3) := by decide +kernel
theorem dX10_acceptedArrangements_8 : decode cX10_acceptedArrangements 8 = .ok (.aload_n 0, 1) := by decide +kernel
theorem dX10_acceptedArrangements_9 : decode cX10_acceptedArrangements 9 = .ok (.getfield 37, 3) := by decide +kernel
theorem dX10_acceptedArrangements_12 : decode cX10_acceptedArrangements 12 = .ok (.aload_n 0, 1) := by decide +kernel
theorem dX10_acceptedArrangements_13 : decode cX10_acceptedArrangements 13 = .ok (.getfield 41, 3) := by decide +kernel
theorem dX10_acceptedArrangements_16 : decode cX10_acceptedArrangements 16 = .ok (.invokevirtual 239, 3) := by decide +kernel
theorem dX10_acceptedArrangements_19 : decode cX10_acceptedArrangements 19 = .ok (.lreturn, 1) := by decide +kernel
set_option maxRecDepth 20000 in
theorem ggX10_takeArrangement_X9_findArrangement : GoodIn wsX10_takeArrangement wsX9_findArrangement := goodIn_ca (goodIn_r _ [13, 14, 15, 16, 17, 18, 19, 20, 21, 22, 23, 12, 24, 25, 26, 27, 28, 29, 30, 31, 32, 33, 34, 35, 36, 62, 63, 64, 65, 66, 67, 68, 69, 70, 71] (by decide +kernel) (by decide +kernel)) (goodIn_sub (fun _ h => List.mem_cons_of_mem _ (List.mem_append_right _ h)) (gsub_f _))
set_option maxRecDepth 20000 in
theorem gX10_takeArrangement_X9_findArrangement : GoodIn wsX10_takeArrangement (wsV RX10 244 RX9 yX9_findArrangement wsX9_findArrangement) := goodIn_app (goodIn_r _ [9, 10, 11, 12] (by decide +kernel) (by decide +kernel)) ggX10_takeArrangement_X9_findArrangement
set_option maxRecDepth 20000 in
theorem ggX10_takeArrangement_X10_takeWord : GoodIn wsX10_takeArrangement wsX10_takeWord := goodIn_r _ [40, 5, 41, 7, 42, 43, 44, 45, 8, 46, 47, 48, 49, 50, 51, 52, 53, 54, 55, 56, 57, 58, 59, 60, 61, 62, 63, 64, 65, 66, 67, 68] (by decide +kernel) (by decide +kernel)
set_option maxRecDepth 20000 in
theorem gX10_takeArrangement_X10_takeWord : GoodIn wsX10_takeArrangement (wsV RX10 250 RX10 yX10_takeWord wsX10_takeWord) := goodIn_app (goodIn_r _ [37, 38, 39, 19] (by decide +kernel) (by decide +kernel)) ggX10_takeArrangement_X10_takeWord
theorem dX10_takeArrangement_0 : decode cX10_takeArrangement 0 = .ok (.iload_n 1, 1) := by decide +kernel
theorem dX10_takeArrangement_1 : decode cX10_takeArrangement 1 = .ok (.ifCond .ge 13, 3) := by decide +kernel
theorem dX10_takeArrangement_4 : decode cX10_takeArrangement 4 = .ok (.new 97, 3) := by decide +kernel
theorem dX10_takeArrangement_7 : decode cX10_takeArrangement 7 = .ok (.dup, 1) := by decide +kernel
theorem dX10_takeArrangement_8 : decode cX10_takeArrangement 8 = .ok (.ldc 242, 2) := by decide +kernel
theorem dX10_takeArrangement_10 : decode cX10_takeArrangement 10 = .ok (.invokespecial 101, 3) := by decide +kernel
theorem dX10_takeArrangement_13 : decode cX10_takeArrangement 13 = .ok (.athrow, 1) := by decide +kernel
theorem dX10_takeArrangement_14 : decode cX10_takeArrangement 14 = .ok (.aload_n 0, 1) := by decide +kernel
theorem dX10_takeArrangement_15 : decode cX10_takeArrangement 15 = .ok (.getfield 75, 3) := by decide +kernel
theorem dX10_takeArrangement_18 : decode cX10_takeArrangement 18 = .ok (.aload_n 0, 1) := by decide +kernel
theorem dX10_takeArrangement_19 : decode cX10_takeArrangement 19 = .ok (.getfield 12, 3) := by decide +kernel
theorem dX10_takeArrangement_22 : decode cX10_takeArrangement 22 = .ok (.aload_n 0, 1) := by decide +kernel
theorem dX10_takeArrangement_23 : decode cX10_takeArrangement 23 = .ok (.getfield 37, 3) := by decide +kernel
theorem dX10_takeArrangement_26 : decode cX10_takeArrangement 26 = .ok (.aload_n 0, 1) := by decide +kernel
theorem dX10_takeArrangement_27 : decode cX10_takeArrangement 27 = .ok (.getfield 41, 3) := by decide +kernel
theorem dX10_takeArrangement_30 : decode cX10_takeArrangement 30 = .ok (.iload_n 1, 1) := by decide +kernel
theorem dX10_takeArrangement_31 : decode cX10_takeArrangement 31 = .ok (.invokevirtual 244, 3) := by decide +kernel
theorem dX10_takeArrangement_34 : decode cX10_takeArrangement 34 = .ok (.ifCond .ne 13, 3) := by decide +kernel
theorem dX10_takeArrangement_37 : decode cX10_takeArrangement 37 = .ok (.new 164, 3) := by decide +kernel
theorem dX10_takeArrangement_40 : decode cX10_takeArrangement 40 = .ok (.dup, 1) := by decide +kernel
theorem dX10_takeArrangement_41 : decode cX10_takeArrangement 41 = .ok (.ldc 248, 2) := by decide +kernel
theorem dX10_takeArrangement_43 : decode cX10_takeArrangement 43 = .ok (.invokespecial 168, 3) := by decide +kernel
theorem dX10_takeArrangement_46 : decode cX10_takeArrangement 46 = .ok (.athrow, 1) := by decide +kernel
theorem dX10_takeArrangement_47 : decode cX10_takeArrangement 47 = .ok (.aload_n 0, 1) := by decide +kernel
theorem dX10_takeArrangement_48 : decode cX10_takeArrangement 48 = .ok (.aload_n 0, 1) := by decide +kernel
theorem dX10_takeArrangement_49 : decode cX10_takeArrangement 49 = .ok (.getfield 41, 3) := by decide +kernel
theorem dX10_takeArrangement_52 : decode cX10_takeArrangement 52 = .ok (.invokevirtual 250, 3) := by decide +kernel
theorem dX10_takeArrangement_55 : decode cX10_takeArrangement 55 = .ok (.aload_n 0, 1) := by decide +kernel
theorem dX10_takeArrangement_56 : decode cX10_takeArrangement 56 = .ok (.getfield 41, 3) := by decide +kernel
theorem dX10_takeArrangement_59 : decode cX10_takeArrangement 59 = .ok (.ireturn, 1) := by decide +kernel
set_option maxRecDepth 20000 in
theorem ggX10_oneWayJumps_X10_requireSingleTargets : GoodIn wsX10_oneWayJumps wsX10_requireSingleTargets := goodIn_ca (goodIn_ca (goodIn_r _ [10, 11, 12, 2, 13, 14, 15, 16, 17, 18, 48, 49, 50, 51, 52, 53, 54, 55, 56, 57, 58, 59, 60, 61, 62, 68, 69, 70] (by decide +kernel) (by decide +kernel)) (goodIn_sub (fun _ h => List.mem_cons_of_mem _ (List.mem_append_left _ (List.mem_append_right _ h))) (gsub_f _))) (goodIn_sub (fun _ h => List.mem_cons_of_mem _ (List.mem_append_right _ h)) (gsub_f _))
set_option maxRecDepth 20000 in
theorem gX10_oneWayJumps_X10_requireSingleTargets : GoodIn wsX10_oneWayJumps (wsV RX10 253 RX10 yX10_requireSingleTargets wsX10_requireSingleTargets) := goodIn_app (goodIn_r _ [6, 7, 8, 9] (by decide +kernel) (by decide +kernel)) ggX10_oneWayJumps_X10_requireSingleTargets
set_option maxRecDepth 20000 in
theorem ggX10_oneWayJumps_X8_read : GoodIn wsX10_oneWayJumps wsX8_read := goodIn_ca (goodIn_r _ [23, 24, 25, 26, 22, 27, 28, 29, 30, 31, 32, 33, 34, 35, 36, 37, 38, 39, 16, 40, 41, 42, 9, 43, 44, 45, 46, 47, 63, 64, 65, 66, 67, 68, 69, 70] (by decide +kernel) (by decide +kernel)) (goodIn_sub (fun _ h => List.mem_cons_of_mem _ (List.mem_append_right _ h)) (gsub_f _))
set_option maxRecDepth 20000 in
theorem gX10_oneWayJumps_X8_read : GoodIn wsX10_oneWayJumps (wsV RX10 228 RX8 yX8_read wsX8_read) := goodIn_app (goodIn_r _ [19, 20, 21, 22] (by decide +kernel) (by decide +kernel)) ggX10_oneWayJumps_X8_read
theorem dX10_oneWayJumps_0 : decode cX10_oneWayJumps 0 = .ok (.aload_n 0, 1) := by decide +kernel
theorem dX10_oneWayJumps_1 : decode cX10_oneWayJumps 1 = .ok (.invokevirtual 253, 3) := by decide +kernel
theorem dX10_oneWayJumps_4 : decode cX10_oneWayJumps 4 = .ok (.aload_n 0, 1) := by decide +kernel
theorem dX10_oneWayJumps_5 : decode cX10_oneWayJumps 5 = .ok (.getfield 82, 3) := by decide +kernel
theorem dX10_oneWayJumps_8 : decode cX10_oneWayJumps 8 = .ok (.aload_n 0, 1) := by decide +kernel
theorem dX10_oneWayJumps_9 : decode cX10_oneWayJumps 9 = .ok (.getfield 12, 3) := by decide +kernel
theorem dX10_oneWayJumps_12 : decode cX10_oneWayJumps 12 = .ok (.aload_n 0, 1) := by decide +kernel
theorem dX10_oneWayJumps_13 : decode cX10_oneWayJumps 13 = .ok (.getfield 37, 3) := by decide +kernel
theorem dX10_oneWayJumps_16 : decode cX10_oneWayJumps 16 = .ok (.aload_n 0, 1) := by decide +kernel
theorem dX10_oneWayJumps_17 : decode cX10_oneWayJumps 17 = .ok (.getfield 41, 3) := by decide +kernel
theorem dX10_oneWayJumps_20 : decode cX10_oneWayJumps 20 = .ok (.invokevirtual 228, 3) := by decide +kernel
theorem dX10_oneWayJumps_23 : decode cX10_oneWayJumps 23 = .ok (.aload_n 0, 1) := by decide +kernel
theorem dX10_oneWayJumps_24 : decode cX10_oneWayJumps 24 = .ok (.getfield 82, 3) := by decide +kernel
theorem dX10_oneWayJumps_27 : decode cX10_oneWayJumps 27 = .ok (.getfield 256, 3) := by decide +kernel
theorem dX10_oneWayJumps_30 : decode cX10_oneWayJumps 30 = .ok (.ireturn, 1) := by decide +kernel
set_option maxRecDepth 20000 in
theorem ggX10_oneWayRest_X10_requireSingleTargets : GoodIn wsX10_oneWayRest wsX10_requireSingleTargets := goodIn_ca (goodIn_ca (goodIn_r _ [10, 11, 12, 2, 13, 14, 15, 16, 17, 18, 48, 49, 50, 51, 52, 53, 54, 55, 56, 57, 58, 59, 60, 61, 62, 68, 69, 70] (by decide +kernel) (by decide +kernel)) (goodIn_sub (fun _ h => List.mem_cons_of_mem _ (List.mem_append_left _ (List.mem_append_right _ h))) (gsub_f _))) (goodIn_sub (fun _ h => List.mem_cons_of_mem _ (List.mem_append_right _ h)) (gsub_f _))
set_option maxRecDepth 20000 in
theorem gX10_oneWayRest_X10_requireSingleTargets : GoodIn wsX10_oneWayRest (wsV RX10 253 RX10 yX10_requireSingleTargets wsX10_requireSingleTargets) := goodIn_app (goodIn_r _ [6, 7, 8, 9] (by decide +kernel) (by decide +kernel)) ggX10_oneWayRest_X10_requireSingleTargets
set_option maxRecDepth 20000 in
theorem ggX10_oneWayRest_X8_read : GoodIn wsX10_oneWayRest wsX8_read := goodIn_ca (goodIn_r _ [23, 24, 25, 26, 22, 27, 28, 29, 30, 31, 32, 33, 34, 35, 36, 37, 38, 39, 16, 40, 41, 42, 9, 43, 44, 45, 46, 47, 63, 64, 65, 66, 67, 68, 69, 70] (by decide +kernel) (by decide +kernel)) (goodIn_sub (fun _ h => List.mem_cons_of_mem _ (List.mem_append_right _ h)) (gsub_f _))
set_option maxRecDepth 20000 in
theorem gX10_oneWayRest_X8_read : GoodIn wsX10_oneWayRest (wsV RX10 228 RX8 yX8_read wsX8_read) := goodIn_app (goodIn_r _ [19, 20, 21, 22] (by decide +kernel) (by decide +kernel)) ggX10_oneWayRest_X8_read
theorem dX10_oneWayRest_0 : decode cX10_oneWayRest 0 = .ok (.aload_n 0, 1) := by decide +kernel
theorem dX10_oneWayRest_1 : decode cX10_oneWayRest 1 = .ok (.invokevirtual 253, 3) := by decide +kernel
theorem dX10_oneWayRest_4 : decode cX10_oneWayRest 4 = .ok (.aload_n 0, 1) := by decide +kernel
theorem dX10_oneWayRest_5 : decode cX10_oneWayRest 5 = .ok (.getfield 82, 3) := by decide +kernel
theorem dX10_oneWayRest_8 : decode cX10_oneWayRest 8 = .ok (.aload_n 0, 1) := by decide +kernel
theorem dX10_oneWayRest_9 : decode cX10_oneWayRest 9 = .ok (.getfield 12, 3) := by decide +kernel
theorem dX10_oneWayRest_12 : decode cX10_oneWayRest 12 = .ok (.aload_n 0, 1) := by decide +kernel
theorem dX10_oneWayRest_13 : decode cX10_oneWayRest 13 = .ok (.getfield 37, 3) := by decide +kernel
theorem dX10_oneWayRest_16 : decode cX10_oneWayRest 16 = .ok (.aload_n 0, 1) := by decide +kernel
theorem dX10_oneWayRest_17 : decode cX10_oneWayRest 17 = .ok (.getfield 41, 3) := by decide +kernel
theorem dX10_oneWayRest_20 : decode cX10_oneWayRest 20 = .ok (.invokevirtual 228, 3) := by decide +kernel
theorem dX10_oneWayRest_23 : decode cX10_oneWayRest 23 = .ok (.aload_n 0, 1) := by decide +kernel
theorem dX10_oneWayRest_24 : decode cX10_oneWayRest 24 = .ok (.getfield 82, 3) := by decide +kernel
theorem dX10_oneWayRest_27 : decode cX10_oneWayRest 27 = .ok (.getfield 259, 3) := by decide +kernel
theorem dX10_oneWayRest_30 : decode cX10_oneWayRest 30 = .ok (.ireturn, 1) := by decide +kernel
set_option maxRecDepth 20000 in
theorem ggX10_orderCost_X10_findBestOrder : GoodIn wsX10_orderCost wsX10_findBestOrder := goodIn_ca (goodIn_r _ [9, 10, 3, 11, 12, 13, 4, 14, 15, 16, 17, 18, 19, 20, 21, 22, 23, 24, 25, 26, 27, 28, 29, 30, 31, 32, 33, 34, 35, 36, 37, 8, 38, 39, 40, 41, 42, 43, 44, 45, 46, 47, 48, 49, 50, 51, 52, 53, 54, 55, 56, 57, 58, 59, 60, 61, 62, 63, 64, 65, 66, 67, 68, 69, 70, 71, 72, 73, 74, 75, 76, 77, 78, 79, 80, 81, 82, 83, 84, 85, 86, 87, 88, 89, 90, 91, 92, 93, 94, 95, 96, 97, 98, 99, 100, 101, 102, 103, 104, 105, 106, 107, 108, 109, 110, 111, 112, 113, 114, 115, 116, 117, 118, 119, 120, 121, 122, 123, 124, 125, 126] (by decide +kernel) (by decide +kernel)) (goodIn_sub (fun _ h => List.mem_cons_of_mem _ (List.mem_append_right _ h)) (gsub_f _))
set_option maxRecDepth 20000 in
theorem gX10_orderCost_X10_findBestOrder : GoodIn wsX10_orderCost (wsV RX10 262 RX10 yX10_findBestOrder wsX10_findBestOrder) := goodIn_app (goodIn_r _ [5, 6, 7, 8] (by decide +kernel) (by decide +kernel)) ggX10_orderCost_X10_findBestOrder
theorem dX10_orderCost_0 : decode cX10_orderCost 0 = .ok (.aload_n 0, 1) := by decide +kernel
theorem dX10_orderCost_1 : decode cX10_orderCost 1 = .ok (.invokevirtual 262, 3) := by decide +kernel
theorem dX10_orderCost_4 : decode cX10_orderCost 4 = .ok (.ifCond .ne 14, 3) := by decide +kernel
theorem dX10_orderCost_7 : decode cX10_orderCost 7 = .ok (.new 164, 3) := by decide +kernel
theorem dX10_orderCost_10 : decode cX10_orderCost 10 = .ok (.dup, 1) := by decide +kernel
theorem dX10_orderCost_11 : decode cX10_orderCost 11 = .ok (.ldc_w 265, 3) := by decide +kernel
theorem dX10_orderCost_14 : decode cX10_orderCost 14 = .ok (.invokespecial 168, 3) := by decide +kernel
theorem dX10_orderCost_17 : decode cX10_orderCost 17 = .ok (.athrow, 1) := by decide +kernel
theorem dX10_orderCost_18 : decode cX10_orderCost 18 = .ok (.aload_n 0, 1) := by decide +kernel
theorem dX10_orderCost_19 : decode cX10_orderCost 19 = .ok (.getfield 89, 3) := by decide +kernel
theorem dX10_orderCost_22 : decode cX10_orderCost 22 = .ok (.getfield 267, 3) := by decide +kernel
theorem dX10_orderCost_25 : decode cX10_orderCost 25 = .ok (.ireturn, 1) := by decide +kernel
set_option maxRecDepth 20000 in
theorem ggX10_orderPosition_X10_isPosition : GoodIn wsX10_orderPosition wsX10_isPosition := goodIn_r _ [11, 12, 109, 110, 111, 112, 113, 114, 115, 116, 117, 118, 119, 120, 121, 122, 123] (by decide +kernel) (by decide +kernel)
set_option maxRecDepth 20000 in
theorem gX10_orderPosition_X10_isPosition : GoodIn wsX10_orderPosition (wsV RX10 209 RX10 yX10_isPosition wsX10_isPosition) := goodIn_app (goodIn_r _ [7, 8, 9, 10] (by decide +kernel) (by decide +kernel)) ggX10_orderPosition_X10_isPosition
set_option maxRecDepth 20000 in
theorem ggX10_orderPosition_X10_findBestOrder : GoodIn wsX10_orderPosition wsX10_findBestOrder := goodIn_ca (goodIn_r _ [16, 17, 5, 18, 19, 12, 20, 21, 22, 23, 24, 25, 26, 27, 28, 29, 30, 31, 32, 33, 34, 35, 36, 37, 38, 39, 40, 41, 42, 43, 44, 10, 45, 46, 47, 48, 49, 50, 51, 52, 53, 54, 55, 56, 57, 58, 59, 60, 61, 62, 63, 64, 65, 66, 67, 68, 69, 70, 71, 72, 73, 74, 75, 76, 77, 78, 79, 80, 81, 82, 83, 84, 85, 86, 87, 88, 89, 90, 91, 92, 93, 94, 95, 96, 97, 98, 99, 100, 101, 102, 103, 104, 105, 106, 107, 108, 109, 110, 111, 112, 113, 114, 115, 116, 117, 118, 119, 120, 121, 122, 123, 124, 125, 126, 127, 128, 129, 130, 131, 132, 133] (by decide +kernel) (by decide +kernel)) (goodIn_sub (fun _ h => List.mem_cons_of_mem _ (List.mem_append_right _ h)) (gsub_f _))
set_option maxRecDepth 20000 in
theorem gX10_orderPosition_X10_findBestOrder : GoodIn wsX10_orderPosition (wsV RX10 262 RX10 yX10_findBestOrder wsX10_findBestOrder) := goodIn_app (goodIn_r _ [13, 14, 15, 10] (by decide +kernel) (by decide +kernel)) ggX10_orderPosition_X10_findBestOrder
theorem dX10_orderPosition_0 : decode cX10_orderPosition 0 = .ok (.aload_n 0, 1) := by decide +kernel
theorem dX10_orderPosition_1 : decode cX10_orderPosition 1 = .ok (.iload_n 1, 1) := by decide +kernel
theorem dX10_orderPosition_2 : decode cX10_orderPosition 2 = .ok (.invokevirtual 209, 3) := by decide +kernel
theorem dX10_orderPosition_5 : decode cX10_orderPosition 5 = .ok (.ifCond .ne 14, 3) := by decide +kernel
theorem dX10_orderPosition_8 : decode cX10_orderPosition 8 = .ok (.new 176, 3) := by decide +kernel
theorem dX10_orderPosition_11 : decode cX10_orderPosition 11 = .ok (.dup, 1) := by decide +kernel
theorem dX10_orderPosition_12 : decode cX10_orderPosition 12 = .ok (.ldc_w 270, 3) := by decide +kernel
theorem dX10_orderPosition_15 : decode cX10_orderPosition 15 = .ok (.invokespecial 180, 3) := by decide +kernel
theorem dX10_orderPosition_18 : decode cX10_orderPosition 18 = .ok (.athrow, 1) := by decide +kernel
theorem dX10_orderPosition_19 : decode cX10_orderPosition 19 = .ok (.aload_n 0, 1) := by decide +kernel
theorem dX10_orderPosition_20 : decode cX10_orderPosition 20 = .ok (.invokevirtual 262, 3) := by decide +kernel
theorem dX10_orderPosition_23 : decode cX10_orderPosition 23 = .ok (.ifCond .ne 14, 3) := by decide +kernel
theorem dX10_orderPosition_26 : decode cX10_orderPosition 26 = .ok (.new 164, 3) := by decide +kernel
theorem dX10_orderPosition_29 : decode cX10_orderPosition 29 = .ok (.dup, 1) := by decide +kernel
theorem dX10_orderPosition_30 : decode cX10_orderPosition 30 = .ok (.ldc_w 265, 3) := by decide +kernel
theorem dX10_orderPosition_33 : decode cX10_orderPosition 33 = .ok (.invokespecial 168, 3) := by decide +kernel
theorem dX10_orderPosition_36 : decode cX10_orderPosition 36 = .ok (.athrow, 1) := by decide +kernel
theorem dX10_orderPosition_37 : decode cX10_orderPosition 37 = .ok (.aload_n 0, 1) := by decide +kernel
theorem dX10_orderPosition_38 : decode cX10_orderPosition 38 = .ok (.getfield 89, 3) := by decide +kernel
theorem dX10_orderPosition_41 : decode cX10_orderPosition 41 = .ok (.getfield 272, 3) := by decide +kernel
theorem dX10_orderPosition_44 : decode cX10_orderPosition 44 = .ok (.iload_n 1, 1) := by decide +kernel
theorem dX10_orderPosition_45 : decode cX10_orderPosition 45 = .ok (.iaload, 1) := by decide +kernel
theorem dX10_orderPosition_46 : decode cX10_orderPosition 46 = .ok (.ireturn, 1) := by decide +kernel
set_option maxRecDepth 20000 in
theorem ggX10_reaches_X10_requireDigits : GoodIn wsX10_reaches wsX10_requireDigits := goodIn_ca (goodIn_r _ [6, 7, 8, 9, 10, 5, 11, 12, 13, 14] (by decide +kernel) (by decide +kernel)) (goodIn_sub (fun _ h => List.mem_cons_of_mem _ (List.mem_append_left _ (List.mem_append_right _ h))) (gsub_f _))
set_option maxRecDepth 20000 in
theorem gX10_reaches_X10_requireDigits : GoodIn wsX10_reaches (va_wsS RX10 275 yX10_requireDigits wsX10_requireDigits) := goodIn_app (goodIn_r _ [3, 4, 5] (by decide +kernel) (by decide +kernel)) ggX10_reaches_X10_requireDigits
set_option maxRecDepth 20000 in
theorem ggX10_reaches_X5_fillReached : GoodIn wsX10_reaches wsX5_fillReached := goodIn_ca (goodIn_r _ [19, 20, 10, 5, 11, 12, 13, 14, 21, 22, 23, 24, 25, 26, 27, 28, 29, 30, 56, 57, 58, 59] (by decide +kernel) (by decide +kernel)) (goodIn_sub (fun _ h => List.mem_cons_of_mem _ (List.mem_append_right _ h)) (gsub_f _))
set_option maxRecDepth 20000 in
theorem gX10_reaches_X5_fillReached : GoodIn wsX10_reaches (wsV RX10 278 RX5 yX5_fillReached wsX5_fillReached) := goodIn_app (goodIn_r _ [15, 16, 17, 18] (by decide +kernel) (by decide +kernel)) ggX10_reaches_X5_fillReached
set_option maxRecDepth 20000 in
theorem ggX10_reaches_X10_codeOf : GoodIn wsX10_reaches wsX10_codeOf := goodIn_r _ [22] (by decide +kernel) (by decide +kernel)
set_option maxRecDepth 20000 in
theorem gX10_reaches_X10_codeOf : GoodIn wsX10_reaches (va_wsS RX10 282 yX10_codeOf wsX10_codeOf) := goodIn_app (goodIn_r _ [31, 21, 5] (by decide +kernel) (by decide +kernel)) ggX10_reaches_X10_codeOf
set_option maxRecDepth 20000 in
theorem ggX10_reaches_X5_at : GoodIn wsX10_reaches wsX5_at := goodIn_ca (goodIn_r _ [35, 20, 56] (by decide +kernel) (by decide +kernel)) (goodIn_sub (fun _ h => List.mem_cons_of_mem _ (List.mem_append_right _ h)) (gsub_f _))
set_option maxRecDepth 20000 in
theorem gX10_reaches_X5_at : GoodIn wsX10_reaches (wsV RX10 286 RX5 yX5_at wsX5_at) := goodIn_app (goodIn_r _ [32, 33, 34, 18] (by decide +kernel) (by decide +kernel)) ggX10_reaches_X5_at
set_option maxRecDepth 20000 in
theorem ggX10_reaches_X0_accepting : GoodIn wsX10_reaches wsX0_accepting := goodIn_r _ [39, 40, 57, 58, 59] (by decide +kernel) (by decide +kernel)
set_option maxRecDepth 20000 in
theorem gX10_reaches_X0_accepting : GoodIn wsX10_reaches (wsV RX10 181 RX0 yX0_accepting wsX0_accepting) := goodIn_app (goodIn_r _ [36, 37, 38, 26] (by decide +kernel) (by decide +kernel)) ggX10_reaches_X0_accepting
theorem dX10_reaches_0 : decode cX10_reaches 0 = .ok (.iload_n 1, 1) := by decide +kernel
theorem dX10_reaches_1 : decode cX10_reaches 1 = .ok (.iload_n 2, 1) := by decide +kernel
theorem dX10_reaches_2 : decode cX10_reaches 2 = .ok (.iload_n 3, 1) := by decide +kernel
theorem dX10_reaches_3 : decode cX10_reaches 3 = .ok (.invokestatic 275, 3) := by decide +kernel
theorem dX10_reaches_6 : decode cX10_reaches 6 = .ok (.aload_n 0, 1) := by decide +kernel
theorem dX10_reaches_7 : decode cX10_reaches 7 = .ok (.getfield 48, 3) := by decide +kernel
theorem dX10_reaches_10 : decode cX10_reaches 10 = .ok (.aload_n 0, 1) := by decide +kernel
theorem dX10_reaches_11 : decode cX10_reaches 11 = .ok (.getfield 12, 3) := by decide +kernel
theorem dX10_reaches_14 : decode cX10_reaches 14 = .ok (.iload_n 1, 1) := by decide +kernel
theorem dX10_reaches_15 : decode cX10_reaches 15 = .ok (.iload_n 2, 1) := by decide +kernel
theorem dX10_reaches_16 : decode cX10_reaches 16 = .ok (.iload_n 3, 1) := by decide +kernel
theorem dX10_reaches_17 : decode cX10_reaches 17 = .ok (.invokevirtual 278, 3) := by decide +kernel
theorem dX10_reaches_20 : decode cX10_reaches 20 = .ok (.aload_n 0, 1) := by decide +kernel
theorem dX10_reaches_21 : decode cX10_reaches 21 = .ok (.getfield 12, 3) := by decide +kernel
theorem dX10_reaches_24 : decode cX10_reaches 24 = .ok (.aload_n 0, 1) := by decide +kernel
theorem dX10_reaches_25 : decode cX10_reaches 25 = .ok (.getfield 48, 3) := by decide +kernel
theorem dX10_reaches_28 : decode cX10_reaches 28 = .ok (.iload_n 1, 1) := by decide +kernel
theorem dX10_reaches_29 : decode cX10_reaches 29 = .ok (.iload_n 2, 1) := by decide +kernel
theorem dX10_reaches_30 : decode cX10_reaches 30 = .ok (.iload_n 3, 1) := by decide +kernel
theorem dX10_reaches_31 : decode cX10_reaches 31 = .ok (.invokestatic 282, 3) := by decide +kernel
theorem dX10_reaches_34 : decode cX10_reaches 34 = .ok (.invokevirtual 286, 3) := by decide +kernel
theorem dX10_reaches_37 : decode cX10_reaches 37 = .ok (.invokevirtual 181, 3) := by decide +kernel
theorem dX10_reaches_40 : decode cX10_reaches 40 = .ok (.ireturn, 1) := by decide +kernel
set_option maxRecDepth 20000 in
theorem ggX10_minimalCount_X10_gatherMinimals : GoodIn wsX10_minimalCount wsX10_gatherMinimals := goodIn_ca (goodIn_r _ [7, 8, 9, 1, 10, 11, 12, 13, 14, 15, 16, 6, 17, 18, 19, 20, 21, 22, 23, 24, 25, 26, 27, 28, 29, 30, 31, 32, 33, 34, 35, 36, 37, 38, 39, 40, 41, 42, 43, 44, 45, 46, 47, 48, 49, 50, 51, 52, 53, 54, 55, 56, 57, 58, 59, 60, 61, 62, 63, 64, 65, 66, 67, 68, 69, 70, 71, 72, 73, 74, 75, 76, 77, 78, 79, 80, 83, 84, 85, 86, 81, 82] (by decide +kernel) (by decide +kernel)) (goodIn_sub (fun _ h => List.mem_cons_of_mem _ (List.mem_append_right _ h)) (gsub_f _))
set_option maxRecDepth 20000 in
theorem gX10_minimalCount_X10_gatherMinimals : GoodIn wsX10_minimalCount (wsV RX10 289 RX10 yX10_gatherMinimals wsX10_gatherMinimals) := goodIn_app (goodIn_r _ [3, 4, 5, 6] (by decide +kernel) (by decide +kernel)) ggX10_minimalCount_X10_gatherMinimals
theorem dX10_minimalCount_0 : decode cX10_minimalCount 0 = .ok (.aload_n 0, 1) := by decide +kernel
theorem dX10_minimalCount_1 : decode cX10_minimalCount 1 = .ok (.invokevirtual 289, 3) := by decide +kernel
theorem dX10_minimalCount_4 : decode cX10_minimalCount 4 = .ok (.aload_n 0, 1) := by decide +kernel
theorem dX10_minimalCount_5 : decode cX10_minimalCount 5 = .ok (.getfield 58, 3) := by decide +kernel
theorem dX10_minimalCount_8 : decode cX10_minimalCount 8 = .ok (.getfield 292, 3) := by decide +kernel
theorem dX10_minimalCount_11 : decode cX10_minimalCount 11 = .ok (.ireturn, 1) := by decide +kernel
set_option maxRecDepth 20000 in
theorem ggX10_minimal_X10_gatherMinimals : GoodIn wsX10_minimal wsX10_gatherMinimals := goodIn_ca (goodIn_r _ [9, 10, 11, 3, 12, 13, 14, 15, 16, 17, 18, 8, 19, 20, 21, 22, 23, 24, 25, 26, 27, 28, 29, 30, 31, 32, 33, 34, 35, 36, 37, 38, 39, 40, 41, 42, 43, 44, 45, 46, 47, 48, 49, 50, 51, 52, 53, 54, 55, 56, 57, 58, 59, 60, 61, 62, 63, 64, 65, 66, 67, 72, 73, 74, 75, 76, 77, 78, 79, 80, 81, 82, 83, 84, 85, 86, 89, 90, 91, 92, 87, 88] (by decide +kernel) (by decide +kernel)) (goodIn_sub (fun _ h => List.mem_cons_of_mem _ (List.mem_append_right _ h)) (gsub_f _))
set_option maxRecDepth 20000 in
theorem gX10_minimal_X10_gatherMinimals : GoodIn wsX10_minimal (wsV RX10 289 RX10 yX10_gatherMinimals wsX10_gatherMinimals) := goodIn_app (goodIn_r _ [5, 6, 7, 8] (by decide +kernel) (by decide +kernel)) ggX10_minimal_X10_gatherMinimals
set_option maxRecDepth 20000 in
theorem ggX10_minimal_X4_at : GoodIn wsX10_minimal wsX4_at := goodIn_ca (goodIn_r _ [71, 38, 53, 87, 88] (by decide +kernel) (by decide +kernel)) (goodIn_sub (fun _ h => List.mem_cons_of_mem _ (List.mem_append_right _ h)) (gsub_f _))
set_option maxRecDepth 20000 in
theorem gX10_minimal_X4_at : GoodIn wsX10_minimal (wsV RX10 296 RX4 yX4_at wsX4_at) := goodIn_app (goodIn_r _ [68, 69, 70, 36] (by decide +kernel) (by decide +kernel)) ggX10_minimal_X4_at
theorem dX10_minimal_0 : decode cX10_minimal 0 = .ok (.aload_n 0, 1) := by decide +kernel
theorem dX10_minimal_1 : decode cX10_minimal 1 = .ok (.invokevirtual 289, 3) := by decide +kernel
theorem dX10_minimal_4 : decode cX10_minimal 4 = .ok (.iload_n 1, 1) := by decide +kernel
theorem dX10_minimal_5 : decode cX10_minimal 5 = .ok (.ifCond .lt 14, 3) := by decide +kernel
theorem dX10_minimal_8 : decode cX10_minimal 8 = .ok (.iload_n 1, 1) := by decide +kernel
theorem dX10_minimal_9 : decode cX10_minimal 9 = .ok (.aload_n 0, 1) := by decide +kernel
theorem dX10_minimal_10 : decode cX10_minimal 10 = .ok (.getfield 58, 3) := by decide +kernel
theorem dX10_minimal_13 : decode cX10_minimal 13 = .ok (.getfield 292, 3) := by decide +kernel
theorem dX10_minimal_16 : decode cX10_minimal 16 = .ok (.if_icmp .lt 14, 3) := by decide +kernel
theorem dX10_minimal_19 : decode cX10_minimal 19 = .ok (.new 176, 3) := by decide +kernel
theorem dX10_minimal_22 : decode cX10_minimal 22 = .ok (.dup, 1) := by decide +kernel
theorem dX10_minimal_23 : decode cX10_minimal 23 = .ok (.ldc_w 294, 3) := by decide +kernel
theorem dX10_minimal_26 : decode cX10_minimal 26 = .ok (.invokespecial 180, 3) := by decide +kernel
theorem dX10_minimal_29 : decode cX10_minimal 29 = .ok (.athrow, 1) := by decide +kernel
theorem dX10_minimal_30 : decode cX10_minimal 30 = .ok (.aload_n 0, 1) := by decide +kernel
theorem dX10_minimal_31 : decode cX10_minimal 31 = .ok (.getfield 58, 3) := by decide +kernel
theorem dX10_minimal_34 : decode cX10_minimal 34 = .ok (.iload_n 1, 1) := by decide +kernel
theorem dX10_minimal_35 : decode cX10_minimal 35 = .ok (.invokevirtual 296, 3) := by decide +kernel
theorem dX10_minimal_38 : decode cX10_minimal 38 = .ok (.ireturn, 1) := by decide +kernel
set_option maxRecDepth 20000 in
theorem ggX10_cycleCount_X6_gather : GoodIn wsX10_cycleCount wsX6_gather := goodIn_ca (goodIn_r _ [9, 10, 11, 12, 13, 14, 15, 16, 17, 18, 19, 20, 21, 22, 23, 24, 25, 26, 27, 28, 29, 30, 31, 32, 33, 34, 35, 36, 37, 38, 8, 39, 40, 41, 42, 43, 44, 45, 46, 47, 48, 49, 50, 51, 52, 53, 54, 55, 56, 74, 72, 73, 75, 76, 77] (by decide +kernel) (by decide +kernel)) (goodIn_sub (fun _ h => List.mem_cons_of_mem _ (List.mem_append_right _ h)) (gsub_f _))
set_option maxRecDepth 20000 in
theorem gX10_cycleCount_X6_gather : GoodIn wsX10_cycleCount (wsV RX10 297 RX6 yX6_gather wsX6_gather) := goodIn_app (goodIn_r _ [5, 6, 7, 8] (by decide +kernel) (by decide +kernel)) ggX10_cycleCount_X6_gather
theorem dX10_cycleCount_0 : decode cX10_cycleCount 0 = .ok (.aload_n 0, 1) := by decide +kernel
theorem dX10_cycleCount_1 : decode cX10_cycleCount 1 = .ok (.getfield 68, 3) := by decide +kernel
theorem dX10_cycleCount_4 : decode cX10_cycleCount 4 = .ok (.aload_n 0, 1) := by decide +kernel
theorem dX10_cycleCount_5 : decode cX10_cycleCount 5 = .ok (.getfield 12, 3) := by decide +kernel
theorem dX10_cycleCount_8 : decode cX10_cycleCount 8 = .ok (.aload_n 0, 1) := by decide +kernel
theorem dX10_cycleCount_9 : decode cX10_cycleCount 9 = .ok (.getfield 62, 3) := by decide +kernel
theorem dX10_cycleCount_12 : decode cX10_cycleCount 12 = .ok (.invokevirtual 297, 3) := by decide +kernel
theorem dX10_cycleCount_15 : decode cX10_cycleCount 15 = .ok (.aload_n 0, 1) := by decide +kernel
theorem dX10_cycleCount_16 : decode cX10_cycleCount 16 = .ok (.getfield 62, 3) := by decide +kernel
theorem dX10_cycleCount_19 : decode cX10_cycleCount 19 = .ok (.getfield 292, 3) := by decide +kernel
theorem dX10_cycleCount_22 : decode cX10_cycleCount 22 = .ok (.ireturn, 1) := by decide +kernel
set_option maxRecDepth 20000 in
theorem ggX10_cycle_X6_gather : GoodIn wsX10_cycle wsX6_gather := goodIn_ca (goodIn_r _ [11, 12, 13, 14, 15, 16, 17, 18, 19, 20, 21, 22, 23, 24, 25, 26, 27, 28, 29, 30, 31, 32, 33, 34, 35, 36, 37, 38, 39, 40, 10, 41, 42, 43, 44, 45, 46, 47, 48, 49, 50, 51, 52, 53, 54, 55, 56, 57, 58, 80, 78, 79, 81, 82, 83] (by decide +kernel) (by decide +kernel)) (goodIn_sub (fun _ h => List.mem_cons_of_mem _ (List.mem_append_right _ h)) (gsub_f _))
set_option maxRecDepth 20000 in
theorem gX10_cycle_X6_gather : GoodIn wsX10_cycle (wsV RX10 297 RX6 yX6_gather wsX6_gather) := goodIn_app (goodIn_r _ [7, 8, 9, 10] (by decide +kernel) (by decide +kernel)) ggX10_cycle_X6_gather
set_option maxRecDepth 20000 in
theorem ggX10_cycle_X4_at : GoodIn wsX10_cycle wsX4_at := goodIn_ca (goodIn_r _ [62, 18, 54, 78, 79] (by decide +kernel) (by decide +kernel)) (goodIn_sub (fun _ h => List.mem_cons_of_mem _ (List.mem_append_right _ h)) (gsub_f _))
set_option maxRecDepth 20000 in
theorem gX10_cycle_X4_at : GoodIn wsX10_cycle (wsV RX10 296 RX4 yX4_at wsX4_at) := goodIn_app (goodIn_r _ [59, 60, 61, 16] (by decide +kernel) (by decide +kernel)) ggX10_cycle_X4_at
theorem dX10_cycle_0 : decode cX10_cycle 0 = .ok (.aload_n 0, 1) := by decide +kernel
theorem dX10_cycle_1 : decode cX10_cycle 1 = .ok (.getfield 68, 3) := by decide +kernel
theorem dX10_cycle_4 : decode cX10_cycle 4 = .ok (.aload_n 0, 1) := by decide +kernel
theorem dX10_cycle_5 : decode cX10_cycle 5 = .ok (.getfield 12, 3) := by decide +kernel
theorem dX10_cycle_8 : decode cX10_cycle 8 = .ok (.aload_n 0, 1) := by decide +kernel
theorem dX10_cycle_9 : decode cX10_cycle 9 = .ok (.getfield 62, 3) := by decide +kernel
theorem dX10_cycle_12 : decode cX10_cycle 12 = .ok (.invokevirtual 297, 3) := by decide +kernel
theorem dX10_cycle_15 : decode cX10_cycle 15 = .ok (.iload_n 1, 1) := by decide +kernel
theorem dX10_cycle_16 : decode cX10_cycle 16 = .ok (.ifCond .lt 14, 3) := by decide +kernel
theorem dX10_cycle_19 : decode cX10_cycle 19 = .ok (.iload_n 1, 1) := by decide +kernel
theorem dX10_cycle_20 : decode cX10_cycle 20 = .ok (.aload_n 0, 1) := by decide +kernel
theorem dX10_cycle_21 : decode cX10_cycle 21 = .ok (.getfield 62, 3) := by decide +kernel
theorem dX10_cycle_24 : decode cX10_cycle 24 = .ok (.getfield 292, 3) := by decide +kernel
theorem dX10_cycle_27 : decode cX10_cycle 27 = .ok (.if_icmp .lt 14, 3) := by decide +kernel
theorem dX10_cycle_30 : decode cX10_cycle 30 = .ok (.new 176, 3) := by decide +kernel
theorem dX10_cycle_33 : decode cX10_cycle 33 = .ok (.dup, 1) := by decide +kernel
theorem dX10_cycle_34 : decode cX10_cycle 34 = .ok (.ldc_w 301, 3) := by decide +kernel
theorem dX10_cycle_37 : decode cX10_cycle 37 = .ok (.invokespecial 180, 3) := by decide +kernel
theorem dX10_cycle_40 : decode cX10_cycle 40 = .ok (.athrow, 1) := by decide +kernel
theorem dX10_cycle_41 : decode cX10_cycle 41 = .ok (.aload_n 0, 1) := by decide +kernel
theorem dX10_cycle_42 : decode cX10_cycle 42 = .ok (.getfield 62, 3) := by decide +kernel
theorem dX10_cycle_45 : decode cX10_cycle 45 = .ok (.iload_n 1, 1) := by decide +kernel
theorem dX10_cycle_46 : decode cX10_cycle 46 = .ok (.invokevirtual 296, 3) := by decide +kernel
theorem dX10_cycle_49 : decode cX10_cycle 49 = .ok (.ireturn, 1) := by decide +kernel
set_option maxRecDepth 20000 in
theorem ggX10_addLinearSet_X10_requireSet : GoodIn wsX10_addLinearSet wsX10_requireSet := goodIn_ca (goodIn_r _ [7, 8, 9, 10, 11, 6, 12] (by decide +kernel) (by decide +kernel)) (goodIn_sub (fun _ h => List.mem_cons_of_mem _ (List.mem_append_left _ (List.mem_append_left _ (List.mem_append_right _ h)))) (gsub_f _))
set_option maxRecDepth 20000 in
theorem gX10_addLinearSet_X10_requireSet : GoodIn wsX10_addLinearSet (va_wsS RX10 303 yX10_requireSet wsX10_requireSet) := goodIn_app (goodIn_r _ [4, 5, 6] (by decide +kernel) (by decide +kernel)) ggX10_addLinearSet_X10_requireSet
set_option maxRecDepth 20000 in
theorem ggX10_addLinearSet_X10_requireDigits : GoodIn wsX10_addLinearSet wsX10_requireDigits := goodIn_ca (goodIn_r _ [15, 16, 17, 18, 19, 6, 20, 21, 22, 23] (by decide +kernel) (by decide +kernel)) (goodIn_sub (fun _ h => List.mem_cons_of_mem _ (List.mem_append_left _ (List.mem_append_right _ h))) (gsub_f _))
set_option maxRecDepth 20000 in
theorem gX10_addLinearSet_X10_requireDigits : GoodIn wsX10_addLinearSet (va_wsS RX10 275 yX10_requireDigits wsX10_requireDigits) := goodIn_app (goodIn_r _ [13, 14, 6] (by decide +kernel) (by decide +kernel)) ggX10_addLinearSet_X10_requireDigits
set_option maxRecDepth 20000 in
theorem ggX10_addLinearSet_X3_linearCount : GoodIn wsX10_addLinearSet wsX3_linearCount := goodIn_ca (goodIn_r _ [28, 29, 11, 6, 12, 89] (by decide +kernel) (by decide +kernel)) (goodIn_sub (fun _ h => List.mem_cons_of_mem _ (List.mem_append_right _ h)) (gsub_f _))
set_option maxRecDepth 20000 in
theorem gX10_addLinearSet_X3_linearCount : GoodIn wsX10_addLinearSet (wsV RX10 306 RX3 yX3_linearCount wsX3_linearCount) := goodIn_app (goodIn_r _ [24, 25, 26, 27] (by decide +kernel) (by decide +kernel)) ggX10_addLinearSet_X3_linearCount
set_option maxRecDepth 20000 in
theorem ggX10_addLinearSet_X10_beginChange : GoodIn wsX10_addLinearSet wsX10_beginChange := goodIn_ca (goodIn_r _ [33, 34, 35, 3, 36, 37, 38, 39, 40, 41, 42, 43, 44, 45, 46, 47, 48, 49, 50, 51, 52, 53, 54, 55, 56, 57, 58, 59, 60, 27, 61, 29, 62, 74, 75, 76, 77, 78, 79, 80, 81, 82, 83, 84, 85, 86, 87, 88, 90, 91, 92, 93, 94, 95, 96, 97, 89] (by decide +kernel) (by decide +kernel)) (goodIn_sub (fun _ h => List.mem_cons_of_mem _ (List.mem_append_right _ h)) (gsub_f _))
set_option maxRecDepth 20000 in
theorem gX10_addLinearSet_X10_beginChange : GoodIn wsX10_addLinearSet (wsV RX10 134 RX10 yX10_beginChange wsX10_beginChange) := goodIn_app (goodIn_r _ [30, 31, 32, 6] (by decide +kernel) (by decide +kernel)) ggX10_addLinearSet_X10_beginChange
set_option maxRecDepth 20000 in
theorem ggX10_addLinearSet_X10_codeOf : GoodIn wsX10_addLinearSet wsX10_codeOf := goodIn_r _ [65] (by decide +kernel) (by decide +kernel)
set_option maxRecDepth 20000 in
theorem gX10_addLinearSet_X10_codeOf : GoodIn wsX10_addLinearSet (va_wsS RX10 282 yX10_codeOf wsX10_codeOf) := goodIn_app (goodIn_r _ [63, 64, 6] (by decide +kernel) (by decide +kernel)) ggX10_addLinearSet_X10_codeOf
set_option maxRecDepth 20000 in
theorem ggX10_addLinearSet_X3_addLinear : GoodIn wsX10_addLinearSet wsX3_addLinear := goodIn_ca (goodIn_r _ [69, 29, 70, 25, 26, 27, 28, 11, 6, 12, 71, 72, 73, 89] (by decide +kernel) (by decide +kernel)) (goodIn_sub (fun _ h => List.mem_cons_of_mem _ (List.mem_append_right _ h)) (gsub_f _))
set_option maxRecDepth 20000 in
theorem gX10_addLinearSet_X3_addLinear : GoodIn wsX10_addLinearSet (wsV RX10 311 RX3 yX3_addLinear wsX3_addLinear) := goodIn_app (goodIn_r _ [66, 67, 68, 27] (by decide +kernel) (by decide +kernel)) ggX10_addLinearSet_X3_addLinear
theorem dX10_addLinearSet_0 : decode cX10_addLinearSet 0 = .ok (.iload_n 1, 1) := by decide +kernel
theorem dX10_addLinearSet_1 : decode cX10_addLinearSet 1 = .ok (.invokestatic 303, 3) := by decide +kernel
theorem dX10_addLinearSet_4 : decode cX10_addLinearSet 4 = .ok (.iload_n 2, 1) := by decide +kernel
theorem dX10_addLinearSet_5 : decode cX10_addLinearSet 5 = .ok (.iload_n 3, 1) := by decide +kernel
theorem dX10_addLinearSet_6 : decode cX10_addLinearSet 6 = .ok (.iload 4, 2) := by decide +kernel
theorem dX10_addLinearSet_8 : decode cX10_addLinearSet 8 = .ok (.invokestatic 275, 3) := by decide +kernel
theorem dX10_addLinearSet_11 : decode cX10_addLinearSet 11 = .ok (.aload_n 0, 1) := by decide +kernel
theorem dX10_addLinearSet_12 : decode cX10_addLinearSet 12 = .ok (.getfield 19, 3) := by decide +kernel
theorem dX10_addLinearSet_15 : decode cX10_addLinearSet 15 = .ok (.iload_n 1, 1) := by decide +kernel
theorem dX10_addLinearSet_16 : decode cX10_addLinearSet 16 = .ok (.invokevirtual 306, 3) := by decide +kernel
theorem dX10_addLinearSet_19 : decode cX10_addLinearSet 19 = .ok (.iconst 4, 1) := by decide +kernel
theorem dX10_addLinearSet_20 : decode cX10_addLinearSet 20 = .ok (.if_icmp .lt 14, 3) := by decide +kernel
theorem dX10_addLinearSet_23 : decode cX10_addLinearSet 23 = .ok (.new 108, 3) := by decide +kernel
theorem dX10_addLinearSet_26 : decode cX10_addLinearSet 26 = .ok (.dup, 1) := by decide +kernel
theorem dX10_addLinearSet_27 : decode cX10_addLinearSet 27 = .ok (.ldc_w 309, 3) := by decide +kernel
theorem dX10_addLinearSet_30 : decode cX10_addLinearSet 30 = .ok (.invokespecial 112, 3) := by decide +kernel
theorem dX10_addLinearSet_33 : decode cX10_addLinearSet 33 = .ok (.athrow, 1) := by decide +kernel
theorem dX10_addLinearSet_34 : decode cX10_addLinearSet 34 = .ok (.aload_n 0, 1) := by decide +kernel
theorem dX10_addLinearSet_35 : decode cX10_addLinearSet 35 = .ok (.invokevirtual 134, 3) := by decide +kernel
theorem dX10_addLinearSet_38 : decode cX10_addLinearSet 38 = .ok (.aload_n 0, 1) := by decide +kernel
theorem dX10_addLinearSet_39 : decode cX10_addLinearSet 39 = .ok (.getfield 19, 3) := by decide +kernel
theorem dX10_addLinearSet_42 : decode cX10_addLinearSet 42 = .ok (.iload_n 1, 1) := by decide +kernel
theorem dX10_addLinearSet_43 : decode cX10_addLinearSet 43 = .ok (.iload_n 2, 1) := by decide +kernel
theorem dX10_addLinearSet_44 : decode cX10_addLinearSet 44 = .ok (.iload_n 3, 1) := by decide +kernel
theorem dX10_addLinearSet_45 : decode cX10_addLinearSet 45 = .ok (.iload 4, 2) := by decide +kernel
theorem dX10_addLinearSet_47 : decode cX10_addLinearSet 47 = .ok (.invokestatic 282, 3) := by decide +kernel
theorem dX10_addLinearSet_50 : decode cX10_addLinearSet 50 = .ok (.invokevirtual 311, 3) := by decide +kernel
theorem dX10_addLinearSet_53 : decode cX10_addLinearSet 53 = .ok (.ireturn, 1) := by decide +kernel
set_option maxRecDepth 20000 in
theorem ggX10_addPeriod_X10_requireLinear : GoodIn wsX10_addPeriod wsX10_requireLinear := goodIn_ca (goodIn_ca (goodIn_r _ [10, 11, 12, 5, 13, 14, 15, 16, 17, 18, 19, 9, 20, 76, 77, 78, 79, 80, 81, 82, 83, 84, 85, 86, 87, 88, 89, 90, 91] (by decide +kernel) (by decide +kernel)) (goodIn_sub (fun _ h => List.mem_cons_of_mem _ (List.mem_append_left _ (List.mem_append_right _ h))) (gsub_f _))) (goodIn_sub (fun _ h => List.mem_cons_of_mem _ (List.mem_append_right _ h)) (gsub_f _))
set_option maxRecDepth 20000 in
theorem gX10_addPeriod_X10_requireLinear : GoodIn wsX10_addPeriod (wsV RX10 315 RX10 yX10_requireLinear wsX10_requireLinear) := goodIn_app (goodIn_r _ [6, 7, 8, 9] (by decide +kernel) (by decide +kernel)) ggX10_addPeriod_X10_requireLinear
set_option maxRecDepth 20000 in
theorem ggX10_addPeriod_X10_areDigits : GoodIn wsX10_addPeriod wsX10_areDigits := goodIn_r _ [23, 24, 25, 9, 26] (by decide +kernel) (by decide +kernel)
set_option maxRecDepth 20000 in
theorem gX10_addPeriod_X10_areDigits : GoodIn wsX10_addPeriod (va_wsS RX10 319 yX10_areDigits wsX10_areDigits) := goodIn_app (goodIn_r _ [21, 22, 9] (by decide +kernel) (by decide +kernel)) ggX10_addPeriod_X10_areDigits
set_option maxRecDepth 20000 in
theorem ggX10_addPeriod_X10_codeOf : GoodIn wsX10_addPeriod wsX10_codeOf := goodIn_r _ [29] (by decide +kernel) (by decide +kernel)
set_option maxRecDepth 20000 in
theorem gX10_addPeriod_X10_codeOf : GoodIn wsX10_addPeriod (va_wsS RX10 282 yX10_codeOf wsX10_codeOf) := goodIn_app (goodIn_r _ [27, 28, 9] (by decide +kernel) (by decide +kernel)) ggX10_addPeriod_X10_codeOf
set_option maxRecDepth 20000 in
theorem ggX10_addPeriod_X3_periodCount : GoodIn wsX10_addPeriod wsX3_periodCount := goodIn_ca (goodIn_r _ [33, 18, 34, 14, 15, 16, 17, 19, 9, 20, 35, 36, 37, 91] (by decide +kernel) (by decide +kernel)) (goodIn_sub (fun _ h => List.mem_cons_of_mem _ (List.mem_append_right _ h)) (gsub_f _))
set_option maxRecDepth 20000 in
theorem gX10_addPeriod_X3_periodCount : GoodIn wsX10_addPeriod (wsV RX10 324 RX3 yX3_periodCount wsX3_periodCount) := goodIn_app (goodIn_r _ [30, 31, 32, 16] (by decide +kernel) (by decide +kernel)) ggX10_addPeriod_X3_periodCount
set_option maxRecDepth 20000 in
theorem ggX10_addPeriod_X10_beginChange : GoodIn wsX10_addPeriod wsX10_beginChange := goodIn_ca (goodIn_r _ [41, 42, 43, 5, 44, 45, 46, 47, 48, 49, 50, 51, 52, 53, 54, 55, 56, 57, 58, 59, 60, 61, 62, 63, 64, 65, 66, 67, 68, 16, 69, 18, 70, 76, 77, 78, 79, 80, 81, 82, 83, 84, 85, 86, 87, 88, 89, 90, 92, 93, 94, 95, 96, 97, 98, 99, 91] (by decide +kernel) (by decide +kernel)) (goodIn_sub (fun _ h => List.mem_cons_of_mem _ (List.mem_append_right _ h)) (gsub_f _))
set_option maxRecDepth 20000 in
theorem gX10_addPeriod_X10_beginChange : GoodIn wsX10_addPeriod (wsV RX10 134 RX10 yX10_beginChange wsX10_beginChange) := goodIn_app (goodIn_r _ [38, 39, 40, 9] (by decide +kernel) (by decide +kernel)) ggX10_addPeriod_X10_beginChange
set_option maxRecDepth 20000 in
theorem ggX10_addPeriod_X3_putPeriod : GoodIn wsX10_addPeriod wsX3_putPeriod := goodIn_ca (goodIn_r _ [74, 18, 75, 31, 32, 16, 33, 34, 14, 15, 17, 19, 9, 20, 35, 36, 37, 91] (by decide +kernel) (by decide +kernel)) (goodIn_sub (fun _ h => List.mem_cons_of_mem _ (List.mem_append_right _ h)) (gsub_f _))
set_option maxRecDepth 20000 in
theorem gX10_addPeriod_X3_putPeriod : GoodIn wsX10_addPeriod (wsV RX10 329 RX3 yX3_putPeriod wsX3_putPeriod) := goodIn_app (goodIn_r _ [71, 72, 73, 16] (by decide +kernel) (by decide +kernel)) ggX10_addPeriod_X3_putPeriod
theorem dX10_addPeriod_0 : decode cX10_addPeriod 0 = .ok (.aload_n 0, 1) := by decide +kernel
theorem dX10_addPeriod_1 : decode cX10_addPeriod 1 = .ok (.iload_n 1, 1) := by decide +kernel
theorem dX10_addPeriod_2 : decode cX10_addPeriod 2 = .ok (.iload_n 2, 1) := by decide +kernel
theorem dX10_addPeriod_3 : decode cX10_addPeriod 3 = .ok (.invokevirtual 315, 3) := by decide +kernel
theorem dX10_addPeriod_6 : decode cX10_addPeriod 6 = .ok (.iload_n 3, 1) := by decide +kernel
theorem dX10_addPeriod_7 : decode cX10_addPeriod 7 = .ok (.iload 4, 2) := by decide +kernel
theorem dX10_addPeriod_9 : decode cX10_addPeriod 9 = .ok (.iload 5, 2) := by decide +kernel
theorem dX10_addPeriod_11 : decode cX10_addPeriod 11 = .ok (.invokestatic 319, 3) := by decide +kernel
theorem dX10_addPeriod_14 : decode cX10_addPeriod 14 = .ok (.ifCond .eq 14, 3) := by decide +kernel
theorem dX10_addPeriod_17 : decode cX10_addPeriod 17 = .ok (.iload_n 3, 1) := by decide +kernel
theorem dX10_addPeriod_18 : decode cX10_addPeriod 18 = .ok (.iload 4, 2) := by decide +kernel
theorem dX10_addPeriod_20 : decode cX10_addPeriod 20 = .ok (.iload 5, 2) := by decide +kernel
theorem dX10_addPeriod_22 : decode cX10_addPeriod 22 = .ok (.invokestatic 282, 3) := by decide +kernel
theorem dX10_addPeriod_25 : decode cX10_addPeriod 25 = .ok (.ifCond .ne 14, 3) := by decide +kernel
theorem dX10_addPeriod_28 : decode cX10_addPeriod 28 = .ok (.new 97, 3) := by decide +kernel
theorem dX10_addPeriod_31 : decode cX10_addPeriod 31 = .ok (.dup, 1) := by decide +kernel
theorem dX10_addPeriod_32 : decode cX10_addPeriod 32 = .ok (.ldc_w 322, 3) := by decide +kernel
theorem dX10_addPeriod_35 : decode cX10_addPeriod 35 = .ok (.invokespecial 101, 3) := by decide +kernel
theorem dX10_addPeriod_38 : decode cX10_addPeriod 38 = .ok (.athrow, 1) := by decide +kernel
theorem dX10_addPeriod_39 : decode cX10_addPeriod 39 = .ok (.aload_n 0, 1) := by decide +kernel
theorem dX10_addPeriod_40 : decode cX10_addPeriod 40 = .ok (.getfield 19, 3) := by decide +kernel
theorem dX10_addPeriod_43 : decode cX10_addPeriod 43 = .ok (.iload_n 1, 1) := by decide +kernel
theorem dX10_addPeriod_44 : decode cX10_addPeriod 44 = .ok (.iload_n 2, 1) := by decide +kernel
theorem dX10_addPeriod_45 : decode cX10_addPeriod 45 = .ok (.invokevirtual 324, 3) := by decide +kernel
theorem dX10_addPeriod_48 : decode cX10_addPeriod 48 = .ok (.iconst 3, 1) := by decide +kernel
theorem dX10_addPeriod_49 : decode cX10_addPeriod 49 = .ok (.if_icmp .lt 14, 3) := by decide +kernel
theorem dX10_addPeriod_52 : decode cX10_addPeriod 52 = .ok (.new 108, 3) := by decide +kernel
theorem dX10_addPeriod_55 : decode cX10_addPeriod 55 = .ok (.dup, 1) := by decide +kernel
theorem dX10_addPeriod_56 : decode cX10_addPeriod 56 = .ok (.ldc_w 327, 3) := by decide +kernel
theorem dX10_addPeriod_59 : decode cX10_addPeriod 59 = .ok (.invokespecial 112, 3) := by decide +kernel
theorem dX10_addPeriod_62 : decode cX10_addPeriod 62 = .ok (.athrow, 1) := by decide +kernel
theorem dX10_addPeriod_63 : decode cX10_addPeriod 63 = .ok (.aload_n 0, 1) := by decide +kernel
theorem dX10_addPeriod_64 : decode cX10_addPeriod 64 = .ok (.invokevirtual 134, 3) := by decide +kernel
theorem dX10_addPeriod_67 : decode cX10_addPeriod 67 = .ok (.aload_n 0, 1) := by decide +kernel
theorem dX10_addPeriod_68 : decode cX10_addPeriod 68 = .ok (.getfield 19, 3) := by decide +kernel
theorem dX10_addPeriod_71 : decode cX10_addPeriod 71 = .ok (.iload_n 1, 1) := by decide +kernel
theorem dX10_addPeriod_72 : decode cX10_addPeriod 72 = .ok (.iload_n 2, 1) := by decide +kernel
theorem dX10_addPeriod_73 : decode cX10_addPeriod 73 = .ok (.iload_n 3, 1) := by decide +kernel
theorem dX10_addPeriod_74 : decode cX10_addPeriod 74 = .ok (.iload 4, 2) := by decide +kernel
theorem dX10_addPeriod_76 : decode cX10_addPeriod 76 = .ok (.iload 5, 2) := by decide +kernel
theorem dX10_addPeriod_78 : decode cX10_addPeriod 78 = .ok (.invokestatic 282, 3) := by decide +kernel
theorem dX10_addPeriod_81 : decode cX10_addPeriod 81 = .ok (.invokevirtual 329, 3) := by decide +kernel
theorem dX10_addPeriod_84 : decode cX10_addPeriod 84 = .ok (.ireturn, 1) := by decide +kernel
set_option maxRecDepth 20000 in
theorem ggX10_clearSet_X10_requireSet : GoodIn wsX10_clearSet wsX10_requireSet := goodIn_ca (goodIn_r _ [5, 6, 7, 8, 9, 4, 10] (by decide +kernel) (by decide +kernel)) (goodIn_sub (fun _ h => List.mem_cons_of_mem _ (List.mem_append_left _ (List.mem_append_right _ h))) (gsub_f _))
set_option maxRecDepth 20000 in
theorem gX10_clearSet_X10_requireSet : GoodIn wsX10_clearSet (va_wsS RX10 303 yX10_requireSet wsX10_requireSet) := goodIn_app (goodIn_r _ [2, 3, 4] (by decide +kernel) (by decide +kernel)) ggX10_clearSet_X10_requireSet
set_option maxRecDepth 20000 in
theorem ggX10_clearSet_X10_beginChange : GoodIn wsX10_clearSet wsX10_beginChange := goodIn_ca (goodIn_r _ [14, 15, 16, 1, 17, 18, 19, 20, 21, 22, 23, 24, 25, 26, 27, 28, 29, 30, 31, 32, 33, 34, 35, 36, 37, 38, 39, 40, 41, 42, 43, 44, 45, 54, 55, 56, 57, 58, 59, 60, 61, 62, 63, 64, 65, 66, 67, 68, 69, 70, 71, 72, 73, 74, 75, 76, 77] (by decide +kernel) (by decide +kernel)) (goodIn_sub (fun _ h => List.mem_cons_of_mem _ (List.mem_append_right _ h)) (gsub_f _))
set_option maxRecDepth 20000 in
theorem gX10_clearSet_X10_beginChange : GoodIn wsX10_clearSet (wsV RX10 134 RX10 yX10_beginChange wsX10_beginChange) := goodIn_app (goodIn_r _ [11, 12, 13, 4] (by decide +kernel) (by decide +kernel)) ggX10_clearSet_X10_beginChange
set_option maxRecDepth 20000 in
theorem ggX10_clearSet_X3_wipe : GoodIn wsX10_clearSet wsX3_wipe := goodIn_ca (goodIn_r _ [49, 44, 50, 51, 52, 42, 53, 9, 4, 10, 77] (by decide +kernel) (by decide +kernel)) (goodIn_sub (fun _ h => List.mem_cons_of_mem _ (List.mem_append_right _ h)) (gsub_f _))
set_option maxRecDepth 20000 in
theorem gX10_clearSet_X3_wipe : GoodIn wsX10_clearSet (wsV RX10 332 RX3 yX3_wipe wsX3_wipe) := goodIn_app (goodIn_r _ [46, 47, 48, 42] (by decide +kernel) (by decide +kernel)) ggX10_clearSet_X3_wipe
theorem dX10_clearSet_0 : decode cX10_clearSet 0 = .ok (.iload_n 1, 1) := by decide +kernel
theorem dX10_clearSet_1 : decode cX10_clearSet 1 = .ok (.invokestatic 303, 3) := by decide +kernel
theorem dX10_clearSet_4 : decode cX10_clearSet 4 = .ok (.aload_n 0, 1) := by decide +kernel
theorem dX10_clearSet_5 : decode cX10_clearSet 5 = .ok (.invokevirtual 134, 3) := by decide +kernel
theorem dX10_clearSet_8 : decode cX10_clearSet 8 = .ok (.aload_n 0, 1) := by decide +kernel
theorem dX10_clearSet_9 : decode cX10_clearSet 9 = .ok (.getfield 19, 3) := by decide +kernel
theorem dX10_clearSet_12 : decode cX10_clearSet 12 = .ok (.iload_n 1, 1) := by decide +kernel
theorem dX10_clearSet_13 : decode cX10_clearSet 13 = .ok (.invokevirtual 332, 3) := by decide +kernel
theorem dX10_clearSet_16 : decode cX10_clearSet 16 = .ok (.ireturn, 1) := by decide +kernel
set_option maxRecDepth 20000 in
theorem ggX10_contains_X10_requireSet : GoodIn wsX10_contains wsX10_requireSet := goodIn_ca (goodIn_r _ [6, 7, 8, 9, 10, 5, 11] (by decide +kernel) (by decide +kernel)) (goodIn_sub (fun _ h => List.mem_cons_of_mem _ (List.mem_append_left _ (List.mem_append_left _ (List.mem_append_right _ h)))) (gsub_f _))
set_option maxRecDepth 20000 in
theorem gX10_contains_X10_requireSet : GoodIn wsX10_contains (va_wsS RX10 303 yX10_requireSet wsX10_requireSet) := goodIn_app (goodIn_r _ [3, 4, 5] (by decide +kernel) (by decide +kernel)) ggX10_contains_X10_requireSet
set_option maxRecDepth 20000 in
theorem ggX10_contains_X10_requireDigits : GoodIn wsX10_contains wsX10_requireDigits := goodIn_ca (goodIn_r _ [14, 15, 16, 17, 18, 5, 19, 20, 21, 22] (by decide +kernel) (by decide +kernel)) (goodIn_sub (fun _ h => List.mem_cons_of_mem _ (List.mem_append_left _ (List.mem_append_right _ h))) (gsub_f _))
set_option maxRecDepth 20000 in
theorem gX10_contains_X10_requireDigits : GoodIn wsX10_contains (va_wsS RX10 275 yX10_requireDigits wsX10_requireDigits) := goodIn_app (goodIn_r _ [12, 13, 5] (by decide +kernel) (by decide +kernel)) ggX10_contains_X10_requireDigits
set_option maxRecDepth 20000 in
theorem ggX10_contains_X5_fillMembers : GoodIn wsX10_contains wsX5_fillMembers := goodIn_ca (goodIn_r _ [27, 18, 5, 19, 20, 21, 22, 28, 29, 30, 31, 32, 26, 33, 34, 35, 36, 37, 38, 39, 40, 10, 11, 41, 42, 43, 44, 45, 46, 47, 48, 49, 50, 51, 52, 53, 54, 55, 56, 57, 58, 59, 60, 61, 62, 63, 64, 65, 66, 67, 68, 69, 70, 71, 72, 73, 74, 95, 96] (by decide +kernel) (by decide +kernel)) (goodIn_sub (fun _ h => List.mem_cons_of_mem _ (List.mem_append_right _ h)) (gsub_f _))
set_option maxRecDepth 20000 in
theorem gX10_contains_X5_fillMembers : GoodIn wsX10_contains (wsV RX10 334 RX5 yX5_fillMembers wsX5_fillMembers) := goodIn_app (goodIn_r _ [23, 24, 25, 26] (by decide +kernel) (by decide +kernel)) ggX10_contains_X5_fillMembers
set_option maxRecDepth 20000 in
theorem ggX10_contains_X10_codeOf : GoodIn wsX10_contains wsX10_codeOf := goodIn_r _ [29] (by decide +kernel) (by decide +kernel)
set_option maxRecDepth 20000 in
theorem gX10_contains_X10_codeOf : GoodIn wsX10_contains (va_wsS RX10 282 yX10_codeOf wsX10_codeOf) := goodIn_app (goodIn_r _ [75, 28, 5] (by decide +kernel) (by decide +kernel)) ggX10_contains_X10_codeOf
set_option maxRecDepth 20000 in
theorem ggX10_contains_X5_at : GoodIn wsX10_contains wsX5_at := goodIn_ca (goodIn_r _ [79, 34, 95] (by decide +kernel) (by decide +kernel)) (goodIn_sub (fun _ h => List.mem_cons_of_mem _ (List.mem_append_right _ h)) (gsub_f _))
set_option maxRecDepth 20000 in
theorem gX10_contains_X5_at : GoodIn wsX10_contains (wsV RX10 286 RX5 yX5_at wsX5_at) := goodIn_app (goodIn_r _ [76, 77, 78, 26] (by decide +kernel) (by decide +kernel)) ggX10_contains_X5_at
theorem dX10_contains_0 : decode cX10_contains 0 = .ok (.iload_n 1, 1) := by decide +kernel
theorem dX10_contains_1 : decode cX10_contains 1 = .ok (.invokestatic 303, 3) := by decide +kernel
theorem dX10_contains_4 : decode cX10_contains 4 = .ok (.iload_n 2, 1) := by decide +kernel
theorem dX10_contains_5 : decode cX10_contains 5 = .ok (.iload_n 3, 1) := by decide +kernel
theorem dX10_contains_6 : decode cX10_contains 6 = .ok (.iload 4, 2) := by decide +kernel
theorem dX10_contains_8 : decode cX10_contains 8 = .ok (.invokestatic 275, 3) := by decide +kernel
theorem dX10_contains_11 : decode cX10_contains 11 = .ok (.aload_n 0, 1) := by decide +kernel
theorem dX10_contains_12 : decode cX10_contains 12 = .ok (.getfield 52, 3) := by decide +kernel
theorem dX10_contains_15 : decode cX10_contains 15 = .ok (.aload_n 0, 1) := by decide +kernel
theorem dX10_contains_16 : decode cX10_contains 16 = .ok (.getfield 19, 3) := by decide +kernel
theorem dX10_contains_19 : decode cX10_contains 19 = .ok (.iload_n 1, 1) := by decide +kernel
theorem dX10_contains_20 : decode cX10_contains 20 = .ok (.iload_n 2, 1) := by decide +kernel
theorem dX10_contains_21 : decode cX10_contains 21 = .ok (.iload_n 3, 1) := by decide +kernel
theorem dX10_contains_22 : decode cX10_contains 22 = .ok (.iload 4, 2) := by decide +kernel
theorem dX10_contains_24 : decode cX10_contains 24 = .ok (.invokevirtual 334, 3) := by decide +kernel
theorem dX10_contains_27 : decode cX10_contains 27 = .ok (.aload_n 0, 1) := by decide +kernel
theorem dX10_contains_28 : decode cX10_contains 28 = .ok (.getfield 52, 3) := by decide +kernel
theorem dX10_contains_31 : decode cX10_contains 31 = .ok (.iload_n 2, 1) := by decide +kernel
theorem dX10_contains_32 : decode cX10_contains 32 = .ok (.iload_n 3, 1) := by decide +kernel
theorem dX10_contains_33 : decode cX10_contains 33 = .ok (.iload 4, 2) := by decide +kernel
theorem dX10_contains_35 : decode cX10_contains 35 = .ok (.invokestatic 282, 3) := by decide +kernel
theorem dX10_contains_38 : decode cX10_contains 38 = .ok (.invokevirtual 286, 3) := by decide +kernel
theorem dX10_contains_41 : decode cX10_contains 41 = .ok (.ifCond .eq 7, 3) := by decide +kernel
theorem dX10_contains_44 : decode cX10_contains 44 = .ok (.iconst 1, 1) := by decide +kernel
theorem dX10_contains_45 : decode cX10_contains 45 = .ok (.goto 4, 3) := by decide +kernel
theorem dX10_contains_48 : decode cX10_contains 48 = .ok (.iconst 0, 1) := by decide +kernel
theorem dX10_contains_49 : decode cX10_contains 49 = .ok (.ireturn, 1) := by decide +kernel
set_option maxRecDepth 20000 in
theorem ggX10_elements_X10_requireSet : GoodIn wsX10_elements wsX10_requireSet := goodIn_ca (goodIn_r _ [6, 7, 8, 9, 10, 5, 11] (by decide +kernel) (by decide +kernel)) (goodIn_sub (fun _ h => List.mem_cons_of_mem _ (List.mem_append_left _ (List.mem_append_left _ (List.mem_append_right _ h)))) (gsub_f _))
set_option maxRecDepth 20000 in
theorem gX10_elements_X10_requireSet : GoodIn wsX10_elements (va_wsS RX10 303 yX10_requireSet wsX10_requireSet) := goodIn_app (goodIn_r _ [3, 4, 5] (by decide +kernel) (by decide +kernel)) ggX10_elements_X10_requireSet
set_option maxRecDepth 20000 in
theorem ggX10_elements_X10_requireBound : GoodIn wsX10_elements wsX10_requireBound := goodIn_ca (goodIn_r _ [14, 15, 16] (by decide +kernel) (by decide +kernel)) (goodIn_sub (fun _ h => List.mem_cons_of_mem _ (List.mem_append_left _ (List.mem_append_right _ h))) (gsub_f _))
set_option maxRecDepth 20000 in
theorem gX10_elements_X10_requireBound : GoodIn wsX10_elements (va_wsS RX10 338 yX10_requireBound wsX10_requireBound) := goodIn_app (goodIn_r _ [12, 13, 5] (by decide +kernel) (by decide +kernel)) ggX10_elements_X10_requireBound
set_option maxRecDepth 20000 in
theorem ggX10_elements_X5_fillMembers : GoodIn wsX10_elements wsX5_fillMembers := goodIn_ca (goodIn_r _ [21, 22, 5, 23, 24, 25, 26, 27, 28, 29, 30, 31, 20, 32, 33, 34, 35, 36, 37, 38, 39, 10, 11, 40, 41, 42, 43, 44, 45, 46, 47, 48, 49, 50, 51, 52, 53, 54, 55, 56, 57, 58, 59, 60, 61, 62, 63, 64, 65, 66, 67, 68, 69, 70, 71, 72, 73, 97, 98] (by decide +kernel) (by decide +kernel)) (goodIn_sub (fun _ h => List.mem_cons_of_mem _ (List.mem_append_right _ h)) (gsub_f _))
set_option maxRecDepth 20000 in
theorem gX10_elements_X5_fillMembers : GoodIn wsX10_elements (wsV RX10 334 RX5 yX5_fillMembers wsX5_fillMembers) := goodIn_app (goodIn_r _ [17, 18, 19, 20] (by decide +kernel) (by decide +kernel)) ggX10_elements_X5_fillMembers
set_option maxRecDepth 20000 in
theorem ggX10_elements_X5_countMeeting : GoodIn wsX10_elements wsX5_countMeeting := goodIn_ca (goodIn_r _ [77, 27, 5, 28, 78, 79, 80, 20, 81, 33, 97] (by decide +kernel) (by decide +kernel)) (goodIn_sub (fun _ h => List.mem_cons_of_mem _ (List.mem_append_right _ h)) (gsub_f _))
set_option maxRecDepth 20000 in
theorem gX10_elements_X5_countMeeting : GoodIn wsX10_elements (wsV RX10 341 RX5 yX5_countMeeting wsX5_countMeeting) := goodIn_app (goodIn_r _ [74, 75, 76, 20] (by decide +kernel) (by decide +kernel)) ggX10_elements_X5_countMeeting
theorem dX10_elements_0 : decode cX10_elements 0 = .ok (.iload_n 1, 1) := by decide +kernel
theorem dX10_elements_1 : decode cX10_elements 1 = .ok (.invokestatic 303, 3) := by decide +kernel
theorem dX10_elements_4 : decode cX10_elements 4 = .ok (.iload_n 2, 1) := by decide +kernel
theorem dX10_elements_5 : decode cX10_elements 5 = .ok (.invokestatic 338, 3) := by decide +kernel
theorem dX10_elements_8 : decode cX10_elements 8 = .ok (.aload_n 0, 1) := by decide +kernel
theorem dX10_elements_9 : decode cX10_elements 9 = .ok (.getfield 52, 3) := by decide +kernel
theorem dX10_elements_12 : decode cX10_elements 12 = .ok (.aload_n 0, 1) := by decide +kernel
theorem dX10_elements_13 : decode cX10_elements 13 = .ok (.getfield 19, 3) := by decide +kernel
theorem dX10_elements_16 : decode cX10_elements 16 = .ok (.iload_n 1, 1) := by decide +kernel
theorem dX10_elements_17 : decode cX10_elements 17 = .ok (.iload_n 2, 1) := by decide +kernel
theorem dX10_elements_18 : decode cX10_elements 18 = .ok (.iload_n 2, 1) := by decide +kernel
theorem dX10_elements_19 : decode cX10_elements 19 = .ok (.iload_n 2, 1) := by decide +kernel
theorem dX10_elements_20 : decode cX10_elements 20 = .ok (.invokevirtual 334, 3) := by decide +kernel
theorem dX10_elements_23 : decode cX10_elements 23 = .ok (.aload_n 0, 1) := by decide +kernel
theorem dX10_elements_24 : decode cX10_elements 24 = .ok (.getfield 52, 3) := by decide +kernel
theorem dX10_elements_27 : decode cX10_elements 27 = .ok (.bipush 15, 2) := by decide +kernel
theorem dX10_elements_29 : decode cX10_elements 29 = .ok (.iload_n 2, 1) := by decide +kernel
theorem dX10_elements_30 : decode cX10_elements 30 = .ok (.invokevirtual 341, 3) := by decide +kernel
theorem dX10_elements_33 : decode cX10_elements 33 = .ok (.ireturn, 1) := by decide +kernel
set_option maxRecDepth 20000 in
theorem ggX10_reachedCounts_X10_requireBound : GoodIn wsX10_reachedCounts wsX10_requireBound := goodIn_ca (goodIn_r _ [7, 8, 9] (by decide +kernel) (by decide +kernel)) (goodIn_sub (fun _ h => List.mem_cons_of_mem _ (List.mem_append_left _ (List.mem_append_right _ h))) (gsub_f _))
set_option maxRecDepth 20000 in
theorem gX10_reachedCounts_X10_requireBound : GoodIn wsX10_reachedCounts (va_wsS RX10 338 yX10_requireBound wsX10_requireBound) := goodIn_app (goodIn_r _ [4, 5, 6] (by decide +kernel) (by decide +kernel)) ggX10_reachedCounts_X10_requireBound
set_option maxRecDepth 20000 in
theorem ggX10_reachedCounts_X5_fillReached : GoodIn wsX10_reachedCounts wsX5_fillReached := goodIn_ca (goodIn_r _ [14, 15, 16, 6, 17, 18, 19, 20, 21, 22, 23, 24, 25, 26, 27, 28, 29, 30, 57, 54, 55, 56] (by decide +kernel) (by decide +kernel)) (goodIn_sub (fun _ h => List.mem_cons_of_mem _ (List.mem_append_right _ h)) (gsub_f _))
set_option maxRecDepth 20000 in
theorem gX10_reachedCounts_X5_fillReached : GoodIn wsX10_reachedCounts (wsV RX10 278 RX5 yX5_fillReached wsX5_fillReached) := goodIn_app (goodIn_r _ [10, 11, 12, 13] (by decide +kernel) (by decide +kernel)) ggX10_reachedCounts_X5_fillReached
set_option maxRecDepth 20000 in
theorem ggX10_reachedCounts_X5_countMeeting : GoodIn wsX10_reachedCounts wsX5_countMeeting := goodIn_ca (goodIn_r _ [34, 21, 6, 22, 35, 36, 37, 13, 38, 15, 57] (by decide +kernel) (by decide +kernel)) (goodIn_sub (fun _ h => List.mem_cons_of_mem _ (List.mem_append_right _ h)) (gsub_f _))
set_option maxRecDepth 20000 in
theorem gX10_reachedCounts_X5_countMeeting : GoodIn wsX10_reachedCounts (wsV RX10 341 RX5 yX5_countMeeting wsX5_countMeeting) := goodIn_app (goodIn_r _ [31, 32, 33, 13] (by decide +kernel) (by decide +kernel)) ggX10_reachedCounts_X5_countMeeting
theorem dX10_reachedCounts_0 : decode cX10_reachedCounts 0 = .ok (.iload_n 1, 1) := by decide +kernel
theorem dX10_reachedCounts_1 : decode cX10_reachedCounts 1 = .ok (.invokestatic 338, 3) := by decide +kernel
theorem dX10_reachedCounts_4 : decode cX10_reachedCounts 4 = .ok (.aload_n 0, 1) := by decide +kernel
theorem dX10_reachedCounts_5 : decode cX10_reachedCounts 5 = .ok (.getfield 48, 3) := by decide +kernel
theorem dX10_reachedCounts_8 : decode cX10_reachedCounts 8 = .ok (.aload_n 0, 1) := by decide +kernel
theorem dX10_reachedCounts_9 : decode cX10_reachedCounts 9 = .ok (.getfield 12, 3) := by decide +kernel
theorem dX10_reachedCounts_12 : decode cX10_reachedCounts 12 = .ok (.iload_n 1, 1) := by decide +kernel
theorem dX10_reachedCounts_13 : decode cX10_reachedCounts 13 = .ok (.iload_n 1, 1) := by decide +kernel
theorem dX10_reachedCounts_14 : decode cX10_reachedCounts 14 = .ok (.iload_n 1, 1) := by decide +kernel
theorem dX10_reachedCounts_15 : decode cX10_reachedCounts 15 = .ok (.invokevirtual 278, 3) := by decide +kernel
theorem dX10_reachedCounts_18 : decode cX10_reachedCounts 18 = .ok (.aload_n 0, 1) := by decide +kernel
theorem dX10_reachedCounts_19 : decode cX10_reachedCounts 19 = .ok (.getfield 48, 3) := by decide +kernel
theorem dX10_reachedCounts_22 : decode cX10_reachedCounts 22 = .ok (.aload_n 0, 1) := by decide +kernel
theorem dX10_reachedCounts_23 : decode cX10_reachedCounts 23 = .ok (.getfield 12, 3) := by decide +kernel
theorem dX10_reachedCounts_26 : decode cX10_reachedCounts 26 = .ok (.getfield 344, 3) := by decide +kernel
theorem dX10_reachedCounts_29 : decode cX10_reachedCounts 29 = .ok (.iload_n 1, 1) := by decide +kernel
theorem dX10_reachedCounts_30 : decode cX10_reachedCounts 30 = .ok (.invokevirtual 341, 3) := by decide +kernel
theorem dX10_reachedCounts_33 : decode cX10_reachedCounts 33 = .ok (.ireturn, 1) := by decide +kernel
set_option maxRecDepth 20000 in
theorem ggX10_firstMissing_X10_requireSet : GoodIn wsX10_firstMissing wsX10_requireSet := goodIn_ca (goodIn_r _ [4, 5, 6, 7, 8, 3, 9] (by decide +kernel) (by decide +kernel)) (goodIn_sub (fun _ h => List.mem_cons_of_mem _ (List.mem_append_left _ (List.mem_append_left _ (List.mem_append_left _ (List.mem_append_right _ h))))) (gsub_f _))
set_option maxRecDepth 20000 in
theorem gX10_firstMissing_X10_requireSet : GoodIn wsX10_firstMissing (va_wsS RX10 303 yX10_requireSet wsX10_requireSet) := goodIn_app (goodIn_r _ [1, 2, 3] (by decide +kernel) (by decide +kernel)) ggX10_firstMissing_X10_requireSet
set_option maxRecDepth 20000 in
theorem ggX10_firstMissing_X10_requireBound : GoodIn wsX10_firstMissing wsX10_requireBound := goodIn_ca (goodIn_r _ [12, 13, 14] (by decide +kernel) (by decide +kernel)) (goodIn_sub (fun _ h => List.mem_cons_of_mem _ (List.mem_append_left _ (List.mem_append_left _ (List.mem_append_right _ h)))) (gsub_f _))
set_option maxRecDepth 20000 in
theorem gX10_firstMissing_X10_requireBound : GoodIn wsX10_firstMissing (va_wsS RX10 338 yX10_requireBound wsX10_requireBound) := goodIn_app (goodIn_r _ [10, 11, 3] (by decide +kernel) (by decide +kernel)) ggX10_firstMissing_X10_requireBound
set_option maxRecDepth 20000 in
theorem ggX10_firstMissing_X10_firstDifference : GoodIn wsX10_firstMissing wsX10_firstDifference := goodIn_ca (goodIn_ca (goodIn_r _ [18, 19, 20, 21, 22, 23, 24, 25, 26, 27, 28, 29, 30, 31, 3, 32, 33, 34, 35, 36, 37, 38, 39, 40, 41, 42, 43, 44, 45, 46, 47, 48, 49, 50, 51, 52, 53, 54, 55, 56, 57, 58, 59, 8, 9, 60, 61, 62, 63, 64, 65, 66, 67, 68, 69, 70, 71, 72, 73, 74, 75, 76, 77, 78, 79, 80, 81, 82, 83, 84, 85, 86, 87, 88, 89, 90, 91, 92, 93, 94, 95, 96, 97, 98, 99, 100, 101, 102, 103, 104, 105, 106, 107, 108, 109, 110, 111, 112, 113, 114, 115, 116, 117, 118, 119, 120, 121, 122, 123, 124, 125, 126, 127] (by decide +kernel) (by decide +kernel)) (goodIn_sub (fun _ h => List.mem_cons_of_mem _ (List.mem_append_left _ (List.mem_append_right _ h))) (gsub_f _))) (goodIn_sub (fun _ h => List.mem_cons_of_mem _ (List.mem_append_right _ h)) (gsub_f _))
set_option maxRecDepth 20000 in
theorem gX10_firstMissing_X10_firstDifference : GoodIn wsX10_firstMissing (wsV RX10 347 RX10 yX10_firstDifference wsX10_firstDifference) := goodIn_app (goodIn_r _ [15, 16, 17, 3] (by decide +kernel) (by decide +kernel)) ggX10_firstMissing_X10_firstDifference
theorem dX10_firstMissing_0 : decode cX10_firstMissing 0 = .ok (.iload_n 1, 1) := by decide +kernel
theorem dX10_firstMissing_1 : decode cX10_firstMissing 1 = .ok (.invokestatic 303, 3) := by decide +kernel
theorem dX10_firstMissing_4 : decode cX10_firstMissing 4 = .ok (.iload_n 2, 1) := by decide +kernel
theorem dX10_firstMissing_5 : decode cX10_firstMissing 5 = .ok (.invokestatic 338, 3) := by decide +kernel
theorem dX10_firstMissing_8 : decode cX10_firstMissing 8 = .ok (.aload_n 0, 1) := by decide +kernel
theorem dX10_firstMissing_9 : decode cX10_firstMissing 9 = .ok (.iload_n 1, 1) := by decide +kernel
theorem dX10_firstMissing_10 : decode cX10_firstMissing 10 = .ok (.iload_n 2, 1) := by decide +kernel
theorem dX10_firstMissing_11 : decode cX10_firstMissing 11 = .ok (.iconst 1, 1) := by decide +kernel
theorem dX10_firstMissing_12 : decode cX10_firstMissing 12 = .ok (.invokevirtual 347, 3) := by decide +kernel
theorem dX10_firstMissing_15 : decode cX10_firstMissing 15 = .ok (.ireturn, 1) := by decide +kernel
set_option maxRecDepth 20000 in
theorem ggX10_firstExtra_X10_requireSet : GoodIn wsX10_firstExtra wsX10_requireSet := goodIn_ca (goodIn_r _ [4, 5, 6, 7, 8, 3, 9] (by decide +kernel) (by decide +kernel)) (goodIn_sub (fun _ h => List.mem_cons_of_mem _ (List.mem_append_left _ (List.mem_append_left _ (List.mem_append_left _ (List.mem_append_right _ h))))) (gsub_f _))
set_option maxRecDepth 20000 in
theorem gX10_firstExtra_X10_requireSet : GoodIn wsX10_firstExtra (va_wsS RX10 303 yX10_requireSet wsX10_requireSet) := goodIn_app (goodIn_r _ [1, 2, 3] (by decide +kernel) (by decide +kernel)) ggX10_firstExtra_X10_requireSet
set_option maxRecDepth 20000 in
theorem ggX10_firstExtra_X10_requireBound : GoodIn wsX10_firstExtra wsX10_requireBound := goodIn_ca (goodIn_r _ [12, 13, 14] (by decide +kernel) (by decide +kernel)) (goodIn_sub (fun _ h => List.mem_cons_of_mem _ (List.mem_append_left _ (List.mem_append_left _ (List.mem_append_right _ h)))) (gsub_f _))
set_option maxRecDepth 20000 in
theorem gX10_firstExtra_X10_requireBound : GoodIn wsX10_firstExtra (va_wsS RX10 338 yX10_requireBound wsX10_requireBound) := goodIn_app (goodIn_r _ [10, 11, 3] (by decide +kernel) (by decide +kernel)) ggX10_firstExtra_X10_requireBound
set_option maxRecDepth 20000 in
theorem ggX10_firstExtra_X10_firstDifference : GoodIn wsX10_firstExtra wsX10_firstDifference := goodIn_ca (goodIn_ca (goodIn_r _ [18, 19, 20, 21, 22, 23, 24, 25, 26, 27, 28, 29, 30, 31, 3, 32, 33, 34, 35, 36, 37, 38, 39, 40, 41, 42, 43, 44, 45, 46, 47, 48, 49, 50, 51, 52, 53, 54, 55, 56, 57, 58, 59, 8, 9, 60, 61, 62, 63, 64, 65, 66, 67, 68, 69, 70, 71, 72, 73, 74, 75, 76, 77, 78, 79, 80, 81, 82, 83, 84, 85, 86, 87, 88, 89, 90, 91, 92, 93, 94, 95, 96, 97, 98, 99, 100, 101, 102, 103, 104, 105, 106, 107, 108, 109, 110, 111, 112, 113, 114, 115, 116, 117, 118, 119, 120, 121, 122, 123, 124, 125, 126, 127] (by decide +kernel) (by decide +kernel)) (goodIn_sub (fun _ h => List.mem_cons_of_mem _ (List.mem_append_left _ (List.mem_append_right _ h))) (gsub_f _))) (goodIn_sub (fun _ h => List.mem_cons_of_mem _ (List.mem_append_right _ h)) (gsub_f _))
set_option maxRecDepth 20000 in
theorem gX10_firstExtra_X10_firstDifference : GoodIn wsX10_firstExtra (wsV RX10 347 RX10 yX10_firstDifference wsX10_firstDifference) := goodIn_app (goodIn_r _ [15, 16, 17, 3] (by decide +kernel) (by decide +kernel)) ggX10_firstExtra_X10_firstDifference
theorem dX10_firstExtra_0 : decode cX10_firstExtra 0 = .ok (.iload_n 1, 1) := by decide +kernel
theorem dX10_firstExtra_1 : decode cX10_firstExtra 1 = .ok (.invokestatic 303, 3) := by decide +kernel
theorem dX10_firstExtra_4 : decode cX10_firstExtra 4 = .ok (.iload_n 2, 1) := by decide +kernel
theorem dX10_firstExtra_5 : decode cX10_firstExtra 5 = .ok (.invokestatic 338, 3) := by decide +kernel
theorem dX10_firstExtra_8 : decode cX10_firstExtra 8 = .ok (.aload_n 0, 1) := by decide +kernel
theorem dX10_firstExtra_9 : decode cX10_firstExtra 9 = .ok (.iload_n 1, 1) := by decide +kernel
theorem dX10_firstExtra_10 : decode cX10_firstExtra 10 = .ok (.iload_n 2, 1) := by decide +kernel
theorem dX10_firstExtra_11 : decode cX10_firstExtra 11 = .ok (.iconst 0, 1) := by decide +kernel
theorem dX10_firstExtra_12 : decode cX10_firstExtra 12 = .ok (.invokevirtual 347, 3) := by decide +kernel
theorem dX10_firstExtra_15 : decode cX10_firstExtra 15 = .ok (.ireturn, 1) := by decide +kernel
set_option maxRecDepth 20000 in
theorem ggX10_hasCyclePeriods_X10_requireLinear : GoodIn wsX10_hasCyclePeriods wsX10_requireLinear := goodIn_ca (goodIn_ca (goodIn_r _ [9, 10, 11, 4, 12, 13, 14, 15, 16, 17, 18, 8, 19, 85, 86, 87, 88, 89, 90, 91, 92, 93, 94, 95, 96, 97, 98, 99, 100] (by decide +kernel) (by decide +kernel)) (goodIn_sub (fun _ h => List.mem_cons_of_mem _ (List.mem_append_left _ (List.mem_append_right _ h))) (gsub_f _))) (goodIn_sub (fun _ h => List.mem_cons_of_mem _ (List.mem_append_right _ h)) (gsub_f _))
set_option maxRecDepth 20000 in
theorem gX10_hasCyclePeriods_X10_requireLinear : GoodIn wsX10_hasCyclePeriods (wsV RX10 315 RX10 yX10_requireLinear wsX10_requireLinear) := goodIn_app (goodIn_r _ [5, 6, 7, 8] (by decide +kernel) (by decide +kernel)) ggX10_hasCyclePeriods_X10_requireLinear
set_option maxRecDepth 20000 in
theorem ggX10_hasCyclePeriods_X6_gather : GoodIn wsX10_hasCyclePeriods wsX6_gather := goodIn_ca (goodIn_r _ [24, 25, 26, 27, 28, 29, 30, 31, 32, 33, 34, 35, 36, 37, 38, 39, 40, 41, 42, 43, 8, 44, 45, 46, 47, 48, 49, 50, 51, 52, 23, 53, 54, 55, 56, 57, 58, 59, 60, 61, 62, 63, 64, 65, 66, 67, 68, 69, 70, 101, 102, 103, 104, 105, 106] (by decide +kernel) (by decide +kernel)) (goodIn_sub (fun _ h => List.mem_cons_of_mem _ (List.mem_append_right _ h)) (gsub_f _))
set_option maxRecDepth 20000 in
theorem gX10_hasCyclePeriods_X6_gather : GoodIn wsX10_hasCyclePeriods (wsV RX10 297 RX6 yX6_gather wsX6_gather) := goodIn_app (goodIn_r _ [20, 21, 22, 23] (by decide +kernel) (by decide +kernel)) ggX10_hasCyclePeriods_X6_gather
set_option maxRecDepth 20000 in
theorem ggX10_hasCyclePeriods_X3_periodCount : GoodIn wsX10_hasCyclePeriods wsX3_periodCount := goodIn_ca (goodIn_r _ [74, 17, 75, 13, 14, 15, 16, 18, 8, 19, 76, 77, 78, 100] (by decide +kernel) (by decide +kernel)) (goodIn_sub (fun _ h => List.mem_cons_of_mem _ (List.mem_append_right _ h)) (gsub_f _))
set_option maxRecDepth 20000 in
theorem gX10_hasCyclePeriods_X3_periodCount : GoodIn wsX10_hasCyclePeriods (wsV RX10 324 RX3 yX3_periodCount wsX3_periodCount) := goodIn_app (goodIn_r _ [71, 72, 73, 15] (by decide +kernel) (by decide +kernel)) ggX10_hasCyclePeriods_X3_periodCount
set_option maxRecDepth 20000 in
theorem ggX10_hasCyclePeriods_X3_period : GoodIn wsX10_hasCyclePeriods wsX3_period := goodIn_ca (goodIn_r _ [82, 17, 83, 72, 73, 15, 74, 75, 13, 14, 16, 18, 8, 19, 76, 77, 78, 100] (by decide +kernel) (by decide +kernel)) (goodIn_sub (fun _ h => List.mem_cons_of_mem _ (List.mem_append_right _ h)) (gsub_f _))
set_option maxRecDepth 20000 in
theorem gX10_hasCyclePeriods_X3_period : GoodIn wsX10_hasCyclePeriods (wsV RX10 351 RX3 yX3_period wsX3_period) := goodIn_app (goodIn_r _ [79, 80, 81, 15] (by decide +kernel) (by decide +kernel)) ggX10_hasCyclePeriods_X3_period
set_option maxRecDepth 20000 in
theorem ggX10_hasCyclePeriods_X4_holds : GoodIn wsX10_hasCyclePeriods wsX4_holds := goodIn_ca (goodIn_r _ [70, 31, 66, 102, 103] (by decide +kernel) (by decide +kernel)) (goodIn_sub (fun _ h => List.mem_cons_of_mem _ (List.mem_append_right _ h)) (gsub_f _))
set_option maxRecDepth 20000 in
theorem gX10_hasCyclePeriods_X4_holds : GoodIn wsX10_hasCyclePeriods (wsV RX10 354 RX4 yX4_holds wsX4_holds) := goodIn_app (goodIn_r _ [84, 68, 69, 29] (by decide +kernel) (by decide +kernel)) ggX10_hasCyclePeriods_X4_holds
theorem dX10_hasCyclePeriods_0 : decode cX10_hasCyclePeriods 0 = .ok (.aload_n 0, 1) := by decide +kernel
theorem dX10_hasCyclePeriods_1 : decode cX10_hasCyclePeriods 1 = .ok (.iload_n 1, 1) := by decide +kernel
theorem dX10_hasCyclePeriods_2 : decode cX10_hasCyclePeriods 2 = .ok (.iload_n 2, 1) := by decide +kernel
theorem dX10_hasCyclePeriods_3 : decode cX10_hasCyclePeriods 3 = .ok (.invokevirtual 315, 3) := by decide +kernel
theorem dX10_hasCyclePeriods_6 : decode cX10_hasCyclePeriods 6 = .ok (.aload_n 0, 1) := by decide +kernel
theorem dX10_hasCyclePeriods_7 : decode cX10_hasCyclePeriods 7 = .ok (.getfield 68, 3) := by decide +kernel
theorem dX10_hasCyclePeriods_10 : decode cX10_hasCyclePeriods 10 = .ok (.aload_n 0, 1) := by decide +kernel
theorem dX10_hasCyclePeriods_11 : decode cX10_hasCyclePeriods 11 = .ok (.getfield 12, 3) := by decide +kernel
theorem dX10_hasCyclePeriods_14 : decode cX10_hasCyclePeriods 14 = .ok (.aload_n 0, 1) := by decide +kernel
theorem dX10_hasCyclePeriods_15 : decode cX10_hasCyclePeriods 15 = .ok (.getfield 62, 3) := by decide +kernel
theorem dX10_hasCyclePeriods_18 : decode cX10_hasCyclePeriods 18 = .ok (.invokevirtual 297, 3) := by decide +kernel
theorem dX10_hasCyclePeriods_21 : decode cX10_hasCyclePeriods 21 = .ok (.aload_n 0, 1) := by decide +kernel
theorem dX10_hasCyclePeriods_22 : decode cX10_hasCyclePeriods 22 = .ok (.getfield 19, 3) := by decide +kernel
theorem dX10_hasCyclePeriods_25 : decode cX10_hasCyclePeriods 25 = .ok (.iload_n 1, 1) := by decide +kernel
theorem dX10_hasCyclePeriods_26 : decode cX10_hasCyclePeriods 26 = .ok (.iload_n 2, 1) := by decide +kernel
theorem dX10_hasCyclePeriods_27 : decode cX10_hasCyclePeriods 27 = .ok (.invokevirtual 324, 3) := by decide +kernel
theorem dX10_hasCyclePeriods_30 : decode cX10_hasCyclePeriods 30 = .ok (.istore_n 3, 1) := by decide +kernel
theorem dX10_hasCyclePeriods_31 : decode cX10_hasCyclePeriods 31 = .ok (.iconst 0, 1) := by decide +kernel
theorem dX10_hasCyclePeriods_32 : decode cX10_hasCyclePeriods 32 = .ok (.istore 4, 2) := by decide +kernel
theorem dX10_hasCyclePeriods_34 : decode cX10_hasCyclePeriods 34 = .ok (.iload 4, 2) := by decide +kernel
theorem dX10_hasCyclePeriods_36 : decode cX10_hasCyclePeriods 36 = .ok (.iload_n 3, 1) := by decide +kernel
theorem dX10_hasCyclePeriods_37 : decode cX10_hasCyclePeriods 37 = .ok (.if_icmp .ge 32, 3) := by decide +kernel
theorem dX10_hasCyclePeriods_40 : decode cX10_hasCyclePeriods 40 = .ok (.aload_n 0, 1) := by decide +kernel
theorem dX10_hasCyclePeriods_41 : decode cX10_hasCyclePeriods 41 = .ok (.getfield 62, 3) := by decide +kernel
theorem dX10_hasCyclePeriods_44 : decode cX10_hasCyclePeriods 44 = .ok (.aload_n 0, 1) := by decide +kernel
theorem dX10_hasCyclePeriods_45 : decode cX10_hasCyclePeriods 45 = .ok (.getfield 19, 3) := by decide +kernel
theorem dX10_hasCyclePeriods_48 : decode cX10_hasCyclePeriods 48 = .ok (.iload_n 1, 1) := by decide +kernel
theorem dX10_hasCyclePeriods_49 : decode cX10_hasCyclePeriods 49 = .ok (.iload_n 2, 1) := by decide +kernel
theorem dX10_hasCyclePeriods_50 : decode cX10_hasCyclePeriods 50 = .ok (.iload 4, 2) := by decide +kernel
theorem dX10_hasCyclePeriods_52 : decode cX10_hasCyclePeriods 52 = .ok (.invokevirtual 351, 3) := by decide +kernel
theorem dX10_hasCyclePeriods_55 : decode cX10_hasCyclePeriods 55 = .ok (.invokevirtual 354, 3) := by decide +kernel
theorem dX10_hasCyclePeriods_58 : decode cX10_hasCyclePeriods 58 = .ok (.ifCond .ne 5, 3) := by decide +kernel
theorem dX10_hasCyclePeriods_61 : decode cX10_hasCyclePeriods 61 = .ok (.iconst 0, 1) := by decide +kernel
theorem dX10_hasCyclePeriods_62 : decode cX10_hasCyclePeriods 62 = .ok (.ireturn, 1) := by decide +kernel
theorem dX10_hasCyclePeriods_63 : decode cX10_hasCyclePeriods 63 = .ok (.iinc 4 1, 3) := by decide +kernel
theorem dX10_hasCyclePeriods_66 : decode cX10_hasCyclePeriods 66 = .ok (.goto (-32), 3) := by decide +kernel
theorem dX10_hasCyclePeriods_69 : decode cX10_hasCyclePeriods 69 = .ok (.iconst 1, 1) := by decide +kernel
theorem dX10_hasCyclePeriods_70 : decode cX10_hasCyclePeriods 70 = .ok (.ireturn, 1) := by decide +kernel
set_option maxRecDepth 20000 in
theorem ggX10_acceptedWords_X10_requireMode : GoodIn wsX10_acceptedWords wsX10_requireMode := goodIn_ca (goodIn_r _ [4, 5, 6] (by decide +kernel) (by decide +kernel)) (goodIn_sub (fun _ h => List.mem_cons_of_mem _ (List.mem_append_left _ (List.mem_append_left _ (List.mem_append_left _ (List.mem_append_right _ h))))) (gsub_f _))
set_option maxRecDepth 20000 in
theorem gX10_acceptedWords_X10_requireMode : GoodIn wsX10_acceptedWords (va_wsS RX10 214 yX10_requireMode wsX10_requireMode) := goodIn_app (goodIn_r _ [1, 2, 3] (by decide +kernel) (by decide +kernel)) ggX10_acceptedWords_X10_requireMode
set_option maxRecDepth 20000 in
theorem ggX10_acceptedWords_X10_requireLength : GoodIn wsX10_acceptedWords wsX10_requireLength := goodIn_ca (goodIn_r _ [9, 5, 6] (by decide +kernel) (by decide +kernel)) (goodIn_sub (fun _ h => List.mem_cons_of_mem _ (List.mem_append_left _ (List.mem_append_left _ (List.mem_append_left _ (List.mem_append_right _ h))))) (gsub_f _))
set_option maxRecDepth 20000 in
theorem gX10_acceptedWords_X10_requireLength : GoodIn wsX10_acceptedWords (va_wsS RX10 357 yX10_requireLength wsX10_requireLength) := goodIn_app (goodIn_r _ [7, 8, 3] (by decide +kernel) (by decide +kernel)) ggX10_acceptedWords_X10_requireLength
set_option maxRecDepth 20000 in
theorem ggX10_acceptedWords_X10_requireReadable : GoodIn wsX10_acceptedWords wsX10_requireReadable := goodIn_ca (goodIn_ca (goodIn_r _ [13, 14, 15, 16, 3, 17, 18, 19, 20, 21, 22, 23, 24, 25, 26, 119, 120, 121, 122, 123, 124, 125, 126, 127, 128, 129, 130, 131, 132, 133, 134, 135, 136] (by decide +kernel) (by decide +kernel)) (goodIn_sub (fun _ h => List.mem_cons_of_mem _ (List.mem_append_left _ (List.mem_append_left _ (List.mem_append_right _ h)))) (gsub_f _))) (goodIn_sub (fun _ h => List.mem_cons_of_mem _ (List.mem_append_left _ (List.mem_append_right _ h))) (gsub_f _))
set_option maxRecDepth 20000 in
theorem gX10_acceptedWords_X10_requireReadable : GoodIn wsX10_acceptedWords (wsV RX10 218 RX10 yX10_requireReadable wsX10_requireReadable) := goodIn_app (goodIn_r _ [10, 11, 12, 3] (by decide +kernel) (by decide +kernel)) ggX10_acceptedWords_X10_requireReadable
set_option maxRecDepth 20000 in
theorem ggX10_acceptedWords_X10_countWords : GoodIn wsX10_acceptedWords wsX10_countWords := goodIn_ca (goodIn_ca (goodIn_r _ [30, 31, 20, 32, 33, 34, 35, 36, 37, 38, 39, 40, 41, 42, 43, 44, 45, 46, 47, 48, 49, 50, 24, 51, 52, 53, 3, 54, 55, 56, 57, 58, 59, 60, 61, 62, 63, 64, 65, 66, 67, 68, 69, 70, 71, 72, 73, 74, 75, 76, 77, 78, 79, 80, 81, 82, 83, 84, 85, 86, 87, 88, 89, 90, 91, 92, 93, 94, 95, 96, 97, 98, 99, 100, 101, 102, 103, 104, 105, 106, 107, 108, 109, 110, 111, 112, 113, 114, 115, 116, 117, 118, 119, 120, 121, 122, 123, 124, 125, 126, 127, 128, 129, 130, 131, 132, 133, 137, 138, 139, 140, 141, 142, 143, 134, 135, 136, 144, 145, 146, 147, 148, 149] (by decide +kernel) (by decide +kernel)) (goodIn_sub (fun _ h => List.mem_cons_of_mem _ (List.mem_append_left _ (List.mem_append_right _ h))) (gsub_f _))) (goodIn_sub (fun _ h => List.mem_cons_of_mem _ (List.mem_append_right _ h)) (gsub_f _))
set_option maxRecDepth 20000 in
theorem gX10_acceptedWords_X10_countWords : GoodIn wsX10_acceptedWords (wsV RX10 360 RX10 yX10_countWords wsX10_countWords) := goodIn_app (goodIn_r _ [27, 28, 29, 3] (by decide +kernel) (by decide +kernel)) ggX10_acceptedWords_X10_countWords
theorem dX10_acceptedWords_0 : decode cX10_acceptedWords 0 = .ok (.iload_n 1, 1) := by decide +kernel
theorem dX10_acceptedWords_1 : decode cX10_acceptedWords 1 = .ok (.invokestatic 214, 3) := by decide +kernel
theorem dX10_acceptedWords_4 : decode cX10_acceptedWords 4 = .ok (.iload_n 2, 1) := by decide +kernel
theorem dX10_acceptedWords_5 : decode cX10_acceptedWords 5 = .ok (.invokestatic 357, 3) := by decide +kernel
theorem dX10_acceptedWords_8 : decode cX10_acceptedWords 8 = .ok (.aload_n 0, 1) := by decide +kernel
theorem dX10_acceptedWords_9 : decode cX10_acceptedWords 9 = .ok (.iload_n 1, 1) := by decide +kernel
theorem dX10_acceptedWords_10 : decode cX10_acceptedWords 10 = .ok (.invokevirtual 218, 3) := by decide +kernel
theorem dX10_acceptedWords_13 : decode cX10_acceptedWords 13 = .ok (.aload_n 0, 1) := by decide +kernel
theorem dX10_acceptedWords_14 : decode cX10_acceptedWords 14 = .ok (.iload_n 1, 1) := by decide +kernel
theorem dX10_acceptedWords_15 : decode cX10_acceptedWords 15 = .ok (.iload_n 2, 1) := by decide +kernel
theorem dX10_acceptedWords_16 : decode cX10_acceptedWords 16 = .ok (.invokevirtual 360, 3) := by decide +kernel
theorem dX10_acceptedWords_19 : decode cX10_acceptedWords 19 = .ok (.lreturn, 1) := by decide +kernel
set_option maxRecDepth 20000 in
theorem ggX10_isClosed_X10_requireLength : GoodIn wsX10_isClosed wsX10_requireLength := goodIn_ca (goodIn_r _ [4, 5, 6] (by decide +kernel) (by decide +kernel)) (goodIn_sub (fun _ h => List.mem_cons_of_mem _ (List.mem_append_left _ (List.mem_append_left _ (List.mem_append_right _ h)))) (gsub_f _))
set_option maxRecDepth 20000 in
theorem gX10_isClosed_X10_requireLength : GoodIn wsX10_isClosed (va_wsS RX10 357 yX10_requireLength wsX10_requireLength) := goodIn_app (goodIn_r _ [1, 2, 3] (by decide +kernel) (by decide +kernel)) ggX10_isClosed_X10_requireLength
set_option maxRecDepth 20000 in
theorem ggX10_isClosed_X10_shortestOpenLength : GoodIn wsX10_isClosed wsX10_shortestOpenLength := goodIn_ca (goodIn_ca (goodIn_r _ [10, 11, 12, 13, 14, 15, 16, 17, 18, 19, 20, 3, 21, 22, 23, 24, 25, 26, 27, 28, 29, 30, 31, 32, 33, 34, 35, 36, 37, 38, 39, 40, 41, 42, 43, 44, 45, 46, 47, 48, 49, 50, 51, 52, 53, 54, 55, 56, 57, 58, 59, 60, 61, 62, 63, 64, 65, 66, 67, 68, 69, 70, 71, 72, 73, 74, 75, 76, 77, 78, 79, 80, 81, 82, 83, 84, 85, 86, 87, 88, 89, 90, 91, 92, 93] (by decide +kernel) (by decide +kernel)) (goodIn_sub (fun _ h => List.mem_cons_of_mem _ (List.mem_append_left _ (List.mem_append_right _ h))) (gsub_f _))) (goodIn_sub (fun _ h => List.mem_cons_of_mem _ (List.mem_append_right _ h)) (gsub_f _))
set_option maxRecDepth 20000 in
theorem gX10_isClosed_X10_shortestOpenLength : GoodIn wsX10_isClosed (wsV RX10 364 RX10 yX10_shortestOpenLength wsX10_shortestOpenLength) := goodIn_app (goodIn_r _ [7, 8, 9, 3] (by decide +kernel) (by decide +kernel)) ggX10_isClosed_X10_shortestOpenLength
theorem dX10_isClosed_0 : decode cX10_isClosed 0 = .ok (.iload_n 1, 1) := by decide +kernel
theorem dX10_isClosed_1 : decode cX10_isClosed 1 = .ok (.invokestatic 357, 3) := by decide +kernel
theorem dX10_isClosed_4 : decode cX10_isClosed 4 = .ok (.aload_n 0, 1) := by decide +kernel
theorem dX10_isClosed_5 : decode cX10_isClosed 5 = .ok (.iload_n 1, 1) := by decide +kernel
theorem dX10_isClosed_6 : decode cX10_isClosed 6 = .ok (.invokevirtual 364, 3) := by decide +kernel
theorem dX10_isClosed_9 : decode cX10_isClosed 9 = .ok (.ifCond .ge 7, 3) := by decide +kernel
theorem dX10_isClosed_12 : decode cX10_isClosed 12 = .ok (.iconst 1, 1) := by decide +kernel
theorem dX10_isClosed_13 : decode cX10_isClosed 13 = .ok (.goto 4, 3) := by decide +kernel
theorem dX10_isClosed_16 : decode cX10_isClosed 16 = .ok (.iconst 0, 1) := by decide +kernel
theorem dX10_isClosed_17 : decode cX10_isClosed 17 = .ok (.ireturn, 1) := by decide +kernel
set_option maxRecDepth 20000 in
theorem ggX10_takeOpenWord_X10_requireLength : GoodIn wsX10_takeOpenWord wsX10_requireLength := goodIn_ca (goodIn_r _ [10, 11, 12] (by decide +kernel) (by decide +kernel)) (goodIn_sub (fun _ h => List.mem_cons_of_mem _ (List.mem_append_left _ (List.mem_append_left _ (List.mem_append_right _ h)))) (gsub_f _))
set_option maxRecDepth 20000 in
theorem gX10_takeOpenWord_X10_requireLength : GoodIn wsX10_takeOpenWord (va_wsS RX10 357 yX10_requireLength wsX10_requireLength) := goodIn_app (goodIn_r _ [7, 8, 9] (by decide +kernel) (by decide +kernel)) ggX10_takeOpenWord_X10_requireLength
set_option maxRecDepth 20000 in
theorem ggX10_takeOpenWord_X10_shortestOpenLength : GoodIn wsX10_takeOpenWord wsX10_shortestOpenLength := goodIn_ca (goodIn_ca (goodIn_r _ [16, 5, 4, 3, 17, 18, 19, 20, 21, 22, 23, 9, 24, 25, 26, 27, 28, 29, 30, 31, 32, 33, 34, 35, 36, 37, 38, 39, 40, 41, 42, 43, 44, 45, 46, 47, 48, 49, 50, 51, 52, 53, 54, 55, 56, 57, 58, 59, 60, 61, 62, 63, 64, 65, 66, 67, 68, 69, 70, 92, 93, 94, 95, 96, 97, 98, 99, 100, 101, 102, 103, 104, 105, 106, 107, 108, 109, 110, 111, 112, 113, 114, 115, 116, 117] (by decide +kernel) (by decide +kernel)) (goodIn_sub (fun _ h => List.mem_cons_of_mem _ (List.mem_append_left _ (List.mem_append_right _ h))) (gsub_f _))) (goodIn_sub (fun _ h => List.mem_cons_of_mem _ (List.mem_append_right _ h)) (gsub_f _))
set_option maxRecDepth 20000 in
theorem gX10_takeOpenWord_X10_shortestOpenLength : GoodIn wsX10_takeOpenWord (wsV RX10 364 RX10 yX10_shortestOpenLength wsX10_shortestOpenLength) := goodIn_app (goodIn_r _ [13, 14, 15, 9] (by decide +kernel) (by decide +kernel)) ggX10_takeOpenWord_X10_shortestOpenLength
set_option maxRecDepth 20000 in
theorem ggX10_takeOpenWord_X9_findOpenWord : GoodIn wsX10_takeOpenWord wsX9_findOpenWord := goodIn_ca (goodIn_r _ [74, 75, 76, 77, 78, 58, 79, 80, 81, 44, 45, 20, 46, 22, 70, 48, 49, 33, 50, 51, 69, 31, 32, 34, 35, 36, 9, 37, 82, 83, 111, 112, 113, 114, 115, 116, 117, 107, 108, 109, 110] (by decide +kernel) (by decide +kernel)) (goodIn_sub (fun _ h => List.mem_cons_of_mem _ (List.mem_append_left _ (List.mem_append_right _ h))) (gsub_f _))
set_option maxRecDepth 20000 in
theorem gX10_takeOpenWord_X9_findOpenWord : GoodIn wsX10_takeOpenWord (wsV RX10 367 RX9 yX9_findOpenWord wsX9_findOpenWord) := goodIn_app (goodIn_r _ [71, 72, 73, 58] (by decide +kernel) (by decide +kernel)) ggX10_takeOpenWord_X9_findOpenWord
set_option maxRecDepth 20000 in
theorem ggX10_takeOpenWord_X10_takeWord : GoodIn wsX10_takeOpenWord wsX10_takeWord := goodIn_r _ [87, 3, 88, 89, 90, 63, 64, 65, 6, 91, 92, 93, 94, 95, 96, 97, 98, 99, 100, 101, 102, 103, 104, 105, 106, 111, 112, 113, 114, 115, 116, 117] (by decide +kernel) (by decide +kernel)
set_option maxRecDepth 20000 in
theorem gX10_takeOpenWord_X10_takeWord : GoodIn wsX10_takeOpenWord (wsV RX10 250 RX10 yX10_takeWord wsX10_takeWord) := goodIn_app (goodIn_r _ [84, 85, 86, 9] (by decide +kernel) (by decide +kernel)) ggX10_takeOpenWord_X10_takeWord
theorem dX10_takeOpenWord_0 : decode cX10_takeOpenWord 0 = .ok (.iload_n 1, 1) := by decide +kernel
theorem dX10_takeOpenWord_1 : decode cX10_takeOpenWord 1 = .ok (.invokestatic 357, 3) := by decide +kernel
theorem dX10_takeOpenWord_4 : decode cX10_takeOpenWord 4 = .ok (.aload_n 0, 1) := by decide +kernel
theorem dX10_takeOpenWord_5 : decode cX10_takeOpenWord 5 = .ok (.iload_n 1, 1) := by decide +kernel
theorem dX10_takeOpenWord_6 : decode cX10_takeOpenWord 6 = .ok (.invokevirtual 364, 3) := by decide +kernel
theorem dX10_takeOpenWord_9 : decode cX10_takeOpenWord 9 = .ok (.istore_n 2, 1) := by decide +kernel
theorem dX10_takeOpenWord_10 : decode cX10_takeOpenWord 10 = .ok (.iload_n 2, 1) := by decide +kernel
theorem dX10_takeOpenWord_11 : decode cX10_takeOpenWord 11 = .ok (.ifCond .lt 22, 3) := by decide +kernel
theorem dX10_takeOpenWord_14 : decode cX10_takeOpenWord 14 = .ok (.aload_n 0, 1) := by decide +kernel
theorem dX10_takeOpenWord_15 : decode cX10_takeOpenWord 15 = .ok (.getfield 75, 3) := by decide +kernel
theorem dX10_takeOpenWord_18 : decode cX10_takeOpenWord 18 = .ok (.aload_n 0, 1) := by decide +kernel
theorem dX10_takeOpenWord_19 : decode cX10_takeOpenWord 19 = .ok (.getfield 12, 3) := by decide +kernel
theorem dX10_takeOpenWord_22 : decode cX10_takeOpenWord 22 = .ok (.aload_n 0, 1) := by decide +kernel
theorem dX10_takeOpenWord_23 : decode cX10_takeOpenWord 23 = .ok (.getfield 48, 3) := by decide +kernel
theorem dX10_takeOpenWord_26 : decode cX10_takeOpenWord 26 = .ok (.iload_n 2, 1) := by decide +kernel
theorem dX10_takeOpenWord_27 : decode cX10_takeOpenWord 27 = .ok (.invokevirtual 367, 3) := by decide +kernel
theorem dX10_takeOpenWord_30 : decode cX10_takeOpenWord 30 = .ok (.ifCond .ne 14, 3) := by decide +kernel
theorem dX10_takeOpenWord_33 : decode cX10_takeOpenWord 33 = .ok (.new 164, 3) := by decide +kernel
theorem dX10_takeOpenWord_36 : decode cX10_takeOpenWord 36 = .ok (.dup, 1) := by decide +kernel
theorem dX10_takeOpenWord_37 : decode cX10_takeOpenWord 37 = .ok (.ldc_w 371, 3) := by decide +kernel
theorem dX10_takeOpenWord_40 : decode cX10_takeOpenWord 40 = .ok (.invokespecial 168, 3) := by decide +kernel
theorem dX10_takeOpenWord_43 : decode cX10_takeOpenWord 43 = .ok (.athrow, 1) := by decide +kernel
theorem dX10_takeOpenWord_44 : decode cX10_takeOpenWord 44 = .ok (.aload_n 0, 1) := by decide +kernel
theorem dX10_takeOpenWord_45 : decode cX10_takeOpenWord 45 = .ok (.iload_n 2, 1) := by decide +kernel
theorem dX10_takeOpenWord_46 : decode cX10_takeOpenWord 46 = .ok (.invokevirtual 250, 3) := by decide +kernel
theorem dX10_takeOpenWord_49 : decode cX10_takeOpenWord 49 = .ok (.aload_n 0, 1) := by decide +kernel
theorem dX10_takeOpenWord_50 : decode cX10_takeOpenWord 50 = .ok (.getfield 41, 3) := by decide +kernel
theorem dX10_takeOpenWord_53 : decode cX10_takeOpenWord 53 = .ok (.ireturn, 1) := by decide +kernel
set_option maxRecDepth 20000 in
theorem ggX10_density_X10_requireMode : GoodIn wsX10_density wsX10_requireMode := goodIn_ca (goodIn_r _ [5, 6, 7] (by decide +kernel) (by decide +kernel)) (goodIn_sub (fun _ h => List.mem_cons_of_mem _ (List.mem_append_left _ (List.mem_append_left _ (List.mem_append_left _ (List.mem_append_right _ h))))) (gsub_f _))
set_option maxRecDepth 20000 in
theorem gX10_density_X10_requireMode : GoodIn wsX10_density (va_wsS RX10 214 yX10_requireMode wsX10_requireMode) := goodIn_app (goodIn_r _ [2, 3, 4] (by decide +kernel) (by decide +kernel)) ggX10_density_X10_requireMode
set_option maxRecDepth 20000 in
theorem ggX10_density_X10_requireLength : GoodIn wsX10_density wsX10_requireLength := goodIn_ca (goodIn_r _ [10, 6, 7] (by decide +kernel) (by decide +kernel)) (goodIn_sub (fun _ h => List.mem_cons_of_mem _ (List.mem_append_left _ (List.mem_append_left _ (List.mem_append_left _ (List.mem_append_right _ h))))) (gsub_f _))
set_option maxRecDepth 20000 in
theorem gX10_density_X10_requireLength : GoodIn wsX10_density (va_wsS RX10 357 yX10_requireLength wsX10_requireLength) := goodIn_app (goodIn_r _ [8, 9, 4] (by decide +kernel) (by decide +kernel)) ggX10_density_X10_requireLength
set_option maxRecDepth 20000 in
theorem ggX10_density_X10_requireReadable : GoodIn wsX10_density wsX10_requireReadable := goodIn_ca (goodIn_ca (goodIn_r _ [14, 15, 16, 17, 4, 18, 19, 20, 21, 22, 23, 24, 25, 26, 27, 120, 121, 122, 123, 124, 125, 126, 127, 128, 129, 130, 131, 132, 133, 134, 135, 136, 137] (by decide +kernel) (by decide +kernel)) (goodIn_sub (fun _ h => List.mem_cons_of_mem _ (List.mem_append_left _ (List.mem_append_left _ (List.mem_append_right _ h)))) (gsub_f _))) (goodIn_sub (fun _ h => List.mem_cons_of_mem _ (List.mem_append_left _ (List.mem_append_right _ h))) (gsub_f _))
set_option maxRecDepth 20000 in
theorem gX10_density_X10_requireReadable : GoodIn wsX10_density (wsV RX10 218 RX10 yX10_requireReadable wsX10_requireReadable) := goodIn_app (goodIn_r _ [11, 12, 13, 4] (by decide +kernel) (by decide +kernel)) ggX10_density_X10_requireReadable
set_option maxRecDepth 20000 in
theorem ggX10_density_X10_countWords : GoodIn wsX10_density wsX10_countWords := goodIn_ca (goodIn_ca (goodIn_r _ [31, 32, 21, 33, 34, 35, 36, 37, 38, 39, 40, 41, 42, 43, 44, 45, 46, 47, 48, 49, 50, 51, 25, 52, 53, 54, 4, 55, 56, 57, 58, 59, 60, 61, 62, 63, 64, 65, 66, 67, 68, 69, 70, 71, 72, 73, 74, 75, 76, 77, 78, 79, 80, 81, 82, 83, 84, 85, 86, 87, 88, 89, 90, 91, 92, 93, 94, 95, 96, 97, 98, 99, 100, 101, 102, 103, 104, 105, 106, 107, 108, 109, 110, 111, 112, 113, 114, 115, 116, 117, 118, 119, 120, 121, 122, 123, 124, 125, 126, 127, 128, 129, 130, 131, 132, 133, 134, 138, 139, 140, 141, 142, 143, 144, 135, 136, 137, 145, 146, 147, 148, 149, 150] (by decide +kernel) (by decide +kernel)) (goodIn_sub (fun _ h => List.mem_cons_of_mem _ (List.mem_append_left _ (List.mem_append_right _ h))) (gsub_f _))) (goodIn_sub (fun _ h => List.mem_cons_of_mem _ (List.mem_append_right _ h)) (gsub_f _))
set_option maxRecDepth 20000 in
theorem gX10_density_X10_countWords : GoodIn wsX10_density (wsV RX10 360 RX10 yX10_countWords wsX10_countWords) := goodIn_app (goodIn_r _ [28, 29, 30, 4] (by decide +kernel) (by decide +kernel)) ggX10_density_X10_countWords
theorem dX10_density_0 : decode cX10_density 0 = .ok (.iload_n 1, 1) := by decide +kernel
theorem dX10_density_1 : decode cX10_density 1 = .ok (.invokestatic 214, 3) := by decide +kernel
theorem dX10_density_4 : decode cX10_density 4 = .ok (.iload_n 2, 1) := by decide +kernel
theorem dX10_density_5 : decode cX10_density 5 = .ok (.invokestatic 357, 3) := by decide +kernel
theorem dX10_density_8 : decode cX10_density 8 = .ok (.aload_n 0, 1) := by decide +kernel
theorem dX10_density_9 : decode cX10_density 9 = .ok (.iload_n 1, 1) := by decide +kernel
theorem dX10_density_10 : decode cX10_density 10 = .ok (.invokevirtual 218, 3) := by decide +kernel
theorem dX10_density_13 : decode cX10_density 13 = .ok (.lconst 1, 1) := by decide +kernel
theorem dX10_density_14 : decode cX10_density 14 = .ok (.lstore_n 3, 1) := by decide +kernel
theorem dX10_density_15 : decode cX10_density 15 = .ok (.iconst 0, 1) := by decide +kernel
theorem dX10_density_16 : decode cX10_density 16 = .ok (.istore 5, 2) := by decide +kernel
theorem dX10_density_18 : decode cX10_density 18 = .ok (.iload 5, 2) := by decide +kernel
theorem dX10_density_20 : decode cX10_density 20 = .ok (.iload_n 2, 1) := by decide +kernel
theorem dX10_density_21 : decode cX10_density 21 = .ok (.if_icmp .ge 15, 3) := by decide +kernel
theorem dX10_density_24 : decode cX10_density 24 = .ok (.lload_n 3, 1) := by decide +kernel
theorem dX10_density_25 : decode cX10_density 25 = .ok (.ldc2_w 373, 3) := by decide +kernel
theorem dX10_density_28 : decode cX10_density 28 = .ok (.lmul, 1) := by decide +kernel
theorem dX10_density_29 : decode cX10_density 29 = .ok (.lstore_n 3, 1) := by decide +kernel
theorem dX10_density_30 : decode cX10_density 30 = .ok (.iinc 5 1, 3) := by decide +kernel
theorem dX10_density_33 : decode cX10_density 33 = .ok (.goto (-15), 3) := by decide +kernel
theorem dX10_density_36 : decode cX10_density 36 = .ok (.aload_n 0, 1) := by decide +kernel
theorem dX10_density_37 : decode cX10_density 37 = .ok (.iload_n 1, 1) := by decide +kernel
theorem dX10_density_38 : decode cX10_density 38 = .ok (.iload_n 2, 1) := by decide +kernel
theorem dX10_density_39 : decode cX10_density 39 = .ok (.invokevirtual 360, 3) := by decide +kernel
theorem dX10_density_42 : decode cX10_density 42 = .ok (.l2d, 1) := by decide +kernel
theorem dX10_density_43 : decode cX10_density 43 = .ok (.lload_n 3, 1) := by decide +kernel
theorem dX10_density_44 : decode cX10_density 44 = .ok (.l2d, 1) := by decide +kernel
theorem dX10_density_45 : decode cX10_density 45 = .ok (.ddiv, 1) := by decide +kernel
theorem dX10_density_46 : decode cX10_density 46 = .ok (.dreturn, 1) := by decide +kernel
set_option maxRecDepth 20000 in
theorem ggX10_averageMinimum_X10_gatherMinimals : GoodIn wsX10_averageMinimum wsX10_gatherMinimals := goodIn_ca (goodIn_r _ [9, 10, 11, 3, 12, 13, 14, 15, 16, 17, 18, 8, 19, 20, 21, 22, 23, 24, 25, 26, 27, 28, 29, 30, 31, 32, 33, 34, 35, 36, 37, 38, 39, 40, 41, 42, 43, 44, 45, 46, 47, 48, 49, 50, 51, 52, 53, 54, 55, 56, 57, 58, 59, 60, 61, 62, 63, 64, 65, 66, 67, 72, 73, 74, 75, 76, 77, 78, 79, 80, 81, 82, 83, 84, 85, 86, 89, 90, 91, 92, 87, 88] (by decide +kernel) (by decide +kernel)) (goodIn_sub (fun _ h => List.mem_cons_of_mem _ (List.mem_append_right _ h)) (gsub_f _))
set_option maxRecDepth 20000 in
theorem gX10_averageMinimum_X10_gatherMinimals : GoodIn wsX10_averageMinimum (wsV RX10 289 RX10 yX10_gatherMinimals wsX10_gatherMinimals) := goodIn_app (goodIn_r _ [5, 6, 7, 8] (by decide +kernel) (by decide +kernel)) ggX10_averageMinimum_X10_gatherMinimals
set_option maxRecDepth 20000 in
theorem ggX10_averageMinimum_X4_sumOfNumbers : GoodIn wsX10_averageMinimum wsX4_sumOfNumbers := goodIn_ca (goodIn_r _ [71, 38, 53, 54, 8, 55, 56, 57, 58, 59, 87, 88] (by decide +kernel) (by decide +kernel)) (goodIn_sub (fun _ h => List.mem_cons_of_mem _ (List.mem_append_right _ h)) (gsub_f _))
set_option maxRecDepth 20000 in
theorem gX10_averageMinimum_X4_sumOfNumbers : GoodIn wsX10_averageMinimum (wsV RX10 380 RX4 yX4_sumOfNumbers wsX4_sumOfNumbers) := goodIn_app (goodIn_r _ [68, 69, 70, 36] (by decide +kernel) (by decide +kernel)) ggX10_averageMinimum_X4_sumOfNumbers
theorem dX10_averageMinimum_0 : decode cX10_averageMinimum 0 = .ok (.aload_n 0, 1) := by decide +kernel
theorem dX10_averageMinimum_1 : decode cX10_averageMinimum 1 = .ok (.invokevirtual 289, 3) := by decide +kernel
theorem dX10_averageMinimum_4 : decode cX10_averageMinimum 4 = .ok (.aload_n 0, 1) := by decide +kernel
theorem dX10_averageMinimum_5 : decode cX10_averageMinimum 5 = .ok (.getfield 58, 3) := by decide +kernel
theorem dX10_averageMinimum_8 : decode cX10_averageMinimum 8 = .ok (.getfield 292, 3) := by decide +kernel
theorem dX10_averageMinimum_11 : decode cX10_averageMinimum 11 = .ok (.ifCond .gt 14, 3) := by decide +kernel
theorem dX10_averageMinimum_14 : decode cX10_averageMinimum 14 = .ok (.new 375, 3) := by decide +kernel
theorem dX10_averageMinimum_17 : decode cX10_averageMinimum 17 = .ok (.dup, 1) := by decide +kernel
theorem dX10_averageMinimum_18 : decode cX10_averageMinimum 18 = .ok (.ldc_w 377, 3) := by decide +kernel
theorem dX10_averageMinimum_21 : decode cX10_averageMinimum 21 = .ok (.invokespecial 379, 3) := by decide +kernel
theorem dX10_averageMinimum_24 : decode cX10_averageMinimum 24 = .ok (.athrow, 1) := by decide +kernel
theorem dX10_averageMinimum_25 : decode cX10_averageMinimum 25 = .ok (.aload_n 0, 1) := by decide +kernel
theorem dX10_averageMinimum_26 : decode cX10_averageMinimum 26 = .ok (.getfield 58, 3) := by decide +kernel
theorem dX10_averageMinimum_29 : decode cX10_averageMinimum 29 = .ok (.invokevirtual 380, 3) := by decide +kernel
theorem dX10_averageMinimum_32 : decode cX10_averageMinimum 32 = .ok (.i2f, 1) := by decide +kernel
theorem dX10_averageMinimum_33 : decode cX10_averageMinimum 33 = .ok (.aload_n 0, 1) := by decide +kernel
theorem dX10_averageMinimum_34 : decode cX10_averageMinimum 34 = .ok (.getfield 58, 3) := by decide +kernel
theorem dX10_averageMinimum_37 : decode cX10_averageMinimum 37 = .ok (.getfield 292, 3) := by decide +kernel
theorem dX10_averageMinimum_40 : decode cX10_averageMinimum 40 = .ok (.i2f, 1) := by decide +kernel
theorem dX10_averageMinimum_41 : decode cX10_averageMinimum 41 = .ok (.fdiv, 1) := by decide +kernel
theorem dX10_averageMinimum_42 : decode cX10_averageMinimum 42 = .ok (.freturn, 1) := by decide +kernel
set_option maxRecDepth 20000 in
theorem ggX10_undo_X7_pop : GoodIn wsX10_undo wsX7_pop := goodIn_ca (goodIn_r _ [11, 12, 13, 14, 15, 16, 10, 17, 18, 19, 20, 21, 22, 23, 24, 25, 26, 27, 28, 29, 30, 31, 32, 33, 34, 35, 62, 63, 64, 65, 66, 67, 68, 69, 70] (by decide +kernel) (by decide +kernel)) (goodIn_sub (fun _ h => List.mem_cons_of_mem _ (List.mem_append_right _ h)) (gsub_f _))
set_option maxRecDepth 20000 in
theorem gX10_undo_X7_pop : GoodIn wsX10_undo (wsV RX10 386 RX7 yX7_pop wsX7_pop) := goodIn_app (goodIn_r _ [7, 8, 9, 10] (by decide +kernel) (by decide +kernel)) ggX10_undo_X7_pop
set_option maxRecDepth 20000 in
theorem ggX10_undo_X10_endAutomatonChange : GoodIn wsX10_undo wsX10_endAutomatonChange := goodIn_ca (goodIn_r _ [40, 5, 41, 42, 43, 44, 21, 45, 46, 23, 47, 48, 49, 50, 51, 52, 53, 54, 55, 56, 57, 58, 59, 60, 61, 67, 68, 69] (by decide +kernel) (by decide +kernel)) (goodIn_sub (fun _ h => List.mem_cons_of_mem _ (List.mem_append_right _ h)) (gsub_f _))
set_option maxRecDepth 20000 in
theorem gX10_undo_X10_endAutomatonChange : GoodIn wsX10_undo (wsV RX10 144 RX10 yX10_endAutomatonChange wsX10_endAutomatonChange) := goodIn_app (goodIn_r _ [36, 37, 38, 39] (by decide +kernel) (by decide +kernel)) ggX10_undo_X10_endAutomatonChange
theorem dX10_undo_0 : decode cX10_undo 0 = .ok (.aload_n 0, 1) := by decide +kernel
theorem dX10_undo_1 : decode cX10_undo 1 = .ok (.getfield 26, 3) := by decide +kernel
theorem dX10_undo_4 : decode cX10_undo 4 = .ok (.getfield 383, 3) := by decide +kernel
theorem dX10_undo_7 : decode cX10_undo 7 = .ok (.ifCond .gt 14, 3) := by decide +kernel
theorem dX10_undo_10 : decode cX10_undo 10 = .ok (.new 108, 3) := by decide +kernel
theorem dX10_undo_13 : decode cX10_undo 13 = .ok (.dup, 1) := by decide +kernel
theorem dX10_undo_14 : decode cX10_undo 14 = .ok (.ldc_w 384, 3) := by decide +kernel
theorem dX10_undo_17 : decode cX10_undo 17 = .ok (.invokespecial 112, 3) := by decide +kernel
theorem dX10_undo_20 : decode cX10_undo 20 = .ok (.athrow, 1) := by decide +kernel
theorem dX10_undo_21 : decode cX10_undo 21 = .ok (.aload_n 0, 1) := by decide +kernel
theorem dX10_undo_22 : decode cX10_undo 22 = .ok (.getfield 26, 3) := by decide +kernel
theorem dX10_undo_25 : decode cX10_undo 25 = .ok (.aload_n 0, 1) := by decide +kernel
theorem dX10_undo_26 : decode cX10_undo 26 = .ok (.getfield 12, 3) := by decide +kernel
theorem dX10_undo_29 : decode cX10_undo 29 = .ok (.aload_n 0, 1) := by decide +kernel
theorem dX10_undo_30 : decode cX10_undo 30 = .ok (.getfield 19, 3) := by decide +kernel
theorem dX10_undo_33 : decode cX10_undo 33 = .ok (.invokevirtual 386, 3) := by decide +kernel
theorem dX10_undo_36 : decode cX10_undo 36 = .ok (.aload_n 0, 1) := by decide +kernel
theorem dX10_undo_37 : decode cX10_undo 37 = .ok (.invokevirtual 144, 3) := by decide +kernel
theorem dX10_undo_40 : decode cX10_undo 40 = .ok (.aload_n 0, 1) := by decide +kernel
theorem dX10_undo_41 : decode cX10_undo 41 = .ok (.getfield 26, 3) := by decide +kernel
theorem dX10_undo_44 : decode cX10_undo 44 = .ok (.getfield 383, 3) := by decide +kernel
theorem dX10_undo_47 : decode cX10_undo 47 = .ok (.ireturn, 1) := by decide +kernel
set_option maxRecDepth 20000 in
theorem ggX10_save_X7_keep : GoodIn wsX10_save wsX7_keep := goodIn_ca (goodIn_r _ [8, 9, 10, 11, 12, 7, 13, 14, 15, 16, 17, 18, 19, 20, 21, 22, 23, 24, 25, 26, 27, 28, 29, 30, 31, 47, 48, 49, 50, 51, 52, 53, 54, 55] (by decide +kernel) (by decide +kernel)) (goodIn_sub (fun _ h => List.mem_cons_of_mem _ (List.mem_append_right _ h)) (gsub_f _))
set_option maxRecDepth 20000 in
theorem gX10_save_X7_keep : GoodIn wsX10_save (wsV RX10 390 RX7 yX7_keep wsX7_keep) := goodIn_app (goodIn_r _ [4, 5, 6, 7] (by decide +kernel) (by decide +kernel)) ggX10_save_X7_keep
theorem dX10_save_0 : decode cX10_save 0 = .ok (.aload_n 0, 1) := by decide +kernel
theorem dX10_save_1 : decode cX10_save 1 = .ok (.getfield 26, 3) := by decide +kernel
theorem dX10_save_4 : decode cX10_save 4 = .ok (.aload_n 0, 1) := by decide +kernel
theorem dX10_save_5 : decode cX10_save 5 = .ok (.getfield 12, 3) := by decide +kernel
theorem dX10_save_8 : decode cX10_save 8 = .ok (.aload_n 0, 1) := by decide +kernel
theorem dX10_save_9 : decode cX10_save 9 = .ok (.getfield 19, 3) := by decide +kernel
theorem dX10_save_12 : decode cX10_save 12 = .ok (.invokevirtual 390, 3) := by decide +kernel
theorem dX10_save_15 : decode cX10_save 15 = .ok (.return_, 1) := by decide +kernel
set_option maxRecDepth 20000 in
theorem ggX10_restore_X10_beginChange : GoodIn wsX10_restore wsX10_beginChange := goodIn_ca (goodIn_r _ [11, 3, 5, 6, 12, 13, 14, 15, 16, 17, 18, 19, 20, 21, 22, 23, 24, 25, 26, 27, 28, 29, 30, 31, 32, 33, 34, 35, 36, 37, 38, 39, 40, 68, 69, 70, 71, 72, 73, 74, 75, 76, 77, 78, 79, 80, 81, 82, 83, 84, 85, 86, 87, 88, 89, 90, 91] (by decide +kernel) (by decide +kernel)) (goodIn_sub (fun _ h => List.mem_cons_of_mem _ (List.mem_append_right _ h)) (gsub_f _))
set_option maxRecDepth 20000 in
theorem gX10_restore_X10_beginChange : GoodIn wsX10_restore (wsV RX10 134 RX10 yX10_beginChange wsX10_beginChange) := goodIn_app (goodIn_r _ [7, 8, 9, 10] (by decide +kernel) (by decide +kernel)) ggX10_restore_X10_beginChange
set_option maxRecDepth 20000 in
theorem ggX10_restore_X7_recall : GoodIn wsX10_restore wsX7_recall := goodIn_ca (goodIn_r _ [44, 45, 46, 47, 48, 15, 49, 50, 51, 52, 26, 53, 28, 29, 30, 31, 32, 33, 54, 55, 56, 37, 57, 39, 40, 83, 84, 85, 86, 87, 88, 89, 90, 91] (by decide +kernel) (by decide +kernel)) (goodIn_sub (fun _ h => List.mem_cons_of_mem _ (List.mem_append_right _ h)) (gsub_f _))
set_option maxRecDepth 20000 in
theorem gX10_restore_X7_recall : GoodIn wsX10_restore (wsV RX10 398 RX7 yX7_recall wsX7_recall) := goodIn_app (goodIn_r _ [41, 42, 43, 15] (by decide +kernel) (by decide +kernel)) ggX10_restore_X7_recall
set_option maxRecDepth 20000 in
theorem ggX10_restore_X10_endAutomatonChange : GoodIn wsX10_restore wsX10_endAutomatonChange := goodIn_ca (goodIn_r _ [61, 5, 62, 63, 64, 65, 26, 66, 67, 28, 68, 69, 70, 71, 72, 73, 74, 75, 76, 77, 78, 79, 80, 81, 82, 88, 89, 90] (by decide +kernel) (by decide +kernel)) (goodIn_sub (fun _ h => List.mem_cons_of_mem _ (List.mem_append_right _ h)) (gsub_f _))
set_option maxRecDepth 20000 in
theorem gX10_restore_X10_endAutomatonChange : GoodIn wsX10_restore (wsV RX10 144 RX10 yX10_endAutomatonChange wsX10_endAutomatonChange) := goodIn_app (goodIn_r _ [58, 59, 60, 10] (by decide +kernel) (by decide +kernel)) ggX10_restore_X10_endAutomatonChange
theorem dX10_restore_0 : decode cX10_restore 0 = .ok (.aload_n 0, 1) := by decide +kernel
theorem dX10_restore_1 : decode cX10_restore 1 = .ok (.getfield 26, 3) := by decide +kernel
theorem dX10_restore_4 : decode cX10_restore 4 = .ok (.getfield 393, 3) := by decide +kernel
theorem dX10_restore_7 : decode cX10_restore 7 = .ok (.ifCond .ne 14, 3) := by decide +kernel
theorem dX10_restore_10 : decode cX10_restore 10 = .ok (.new 108, 3) := by decide +kernel
theorem dX10_restore_13 : decode cX10_restore 13 = .ok (.dup, 1) := by decide +kernel
theorem dX10_restore_14 : decode cX10_restore 14 = .ok (.ldc_w 396, 3) := by decide +kernel
theorem dX10_restore_17 : decode cX10_restore 17 = .ok (.invokespecial 112, 3) := by decide +kernel
theorem dX10_restore_20 : decode cX10_restore 20 = .ok (.athrow, 1) := by decide +kernel
theorem dX10_restore_21 : decode cX10_restore 21 = .ok (.aload_n 0, 1) := by decide +kernel
theorem dX10_restore_22 : decode cX10_restore 22 = .ok (.invokevirtual 134, 3) := by decide +kernel
theorem dX10_restore_25 : decode cX10_restore 25 = .ok (.aload_n 0, 1) := by decide +kernel
theorem dX10_restore_26 : decode cX10_restore 26 = .ok (.getfield 26, 3) := by decide +kernel
theorem dX10_restore_29 : decode cX10_restore 29 = .ok (.aload_n 0, 1) := by decide +kernel
theorem dX10_restore_30 : decode cX10_restore 30 = .ok (.getfield 12, 3) := by decide +kernel
theorem dX10_restore_33 : decode cX10_restore 33 = .ok (.aload_n 0, 1) := by decide +kernel
theorem dX10_restore_34 : decode cX10_restore 34 = .ok (.getfield 19, 3) := by decide +kernel
theorem dX10_restore_37 : decode cX10_restore 37 = .ok (.invokevirtual 398, 3) := by decide +kernel
theorem dX10_restore_40 : decode cX10_restore 40 = .ok (.aload_n 0, 1) := by decide +kernel
theorem dX10_restore_41 : decode cX10_restore 41 = .ok (.invokevirtual 144, 3) := by decide +kernel
theorem dX10_restore_44 : decode cX10_restore 44 = .ok (.return_, 1) := by decide +kernel
theorem dX10_isPosition_0 : decode cX10_isPosition 0 = .ok (.iload_n 1, 1) := by decide +kernel
theorem dX10_isPosition_1 : decode cX10_isPosition 1 = .ok (.ifCond .lt 21, 3) := by decide +kernel
theorem dX10_isPosition_4 : decode cX10_isPosition 4 = .ok (.iload_n 1, 1) := by decide +kernel
theorem dX10_isPosition_5 : decode cX10_isPosition 5 = .ok (.aload_n 0, 1) := by decide +kernel
theorem dX10_isPosition_6 : decode cX10_isPosition 6 = .ok (.getfield 41, 3) := by decide +kernel
theorem dX10_isPosition_9 : decode cX10_isPosition 9 = .ok (.if_icmp .ge 13, 3) := by decide +kernel
theorem dX10_isPosition_12 : decode cX10_isPosition 12 = .ok (.iload_n 1, 1) := by decide +kernel
theorem dX10_isPosition_13 : decode cX10_isPosition 13 = .ok (.bipush 8, 2) := by decide +kernel
theorem dX10_isPosition_15 : decode cX10_isPosition 15 = .ok (.if_icmp .ge 7, 3) := by decide +kernel
theorem dX10_isPosition_18 : decode cX10_isPosition 18 = .ok (.iconst 1, 1) := by decide +kernel
theorem dX10_isPosition_19 : decode cX10_isPosition 19 = .ok (.goto 4, 3) := by decide +kernel
theorem dX10_isPosition_22 : decode cX10_isPosition 22 = .ok (.iconst 0, 1) := by decide +kernel
theorem dX10_isPosition_23 : decode cX10_isPosition 23 = .ok (.ireturn, 1) := by decide +kernel
set_option maxRecDepth 20000 in
theorem ggX10_requireTransition_X10_isTransition : GoodIn wsX10_requireTransition wsX10_isTransition := goodIn_r _ [6, 7, 8, 5, 9, 10, 11, 12] (by decide +kernel) (by decide +kernel)
set_option maxRecDepth 20000 in
theorem gX10_requireTransition_X10_isTransition : GoodIn wsX10_requireTransition (va_wsS RX10 404 yX10_isTransition wsX10_isTransition) := goodIn_app (goodIn_of _ (by decide +kernel)) ggX10_requireTransition_X10_isTransition
theorem dX10_requireTransition_0 : decode cX10_requireTransition 0 = .ok (.iload_n 0, 1) := by decide +kernel
theorem dX10_requireTransition_1 : decode cX10_requireTransition 1 = .ok (.iload_n 1, 1) := by decide +kernel
theorem dX10_requireTransition_2 : decode cX10_requireTransition 2 = .ok (.iload_n 2, 1) := by decide +kernel
theorem dX10_requireTransition_3 : decode cX10_requireTransition 3 = .ok (.invokestatic 404, 3) := by decide +kernel
theorem dX10_requireTransition_6 : decode cX10_requireTransition 6 = .ok (.ifCond .ne 14, 3) := by decide +kernel
theorem dX10_requireTransition_9 : decode cX10_requireTransition 9 = .ok (.new 176, 3) := by decide +kernel
theorem dX10_requireTransition_12 : decode cX10_requireTransition 12 = .ok (.dup, 1) := by decide +kernel
theorem dX10_requireTransition_13 : decode cX10_requireTransition 13 = .ok (.ldc_w 407, 3) := by decide +kernel
theorem dX10_requireTransition_16 : decode cX10_requireTransition 16 = .ok (.invokespecial 180, 3) := by decide +kernel
theorem dX10_requireTransition_19 : decode cX10_requireTransition 19 = .ok (.athrow, 1) := by decide +kernel
theorem dX10_requireTransition_20 : decode cX10_requireTransition 20 = .ok (.return_, 1) := by decide +kernel
set_option maxRecDepth 20000 in
theorem ggX10_requireSet_X10_isSet : GoodIn wsX10_requireSet wsX10_isSet := goodIn_r _ [6] (by decide +kernel) (by decide +kernel)
set_option maxRecDepth 20000 in
theorem gX10_requireSet_X10_isSet : GoodIn wsX10_requireSet (va_wsS RX10 409 yX10_isSet wsX10_isSet) := goodIn_app (goodIn_of _ (by decide +kernel)) ggX10_requireSet_X10_isSet
theorem dX10_requireSet_0 : decode cX10_requireSet 0 = .ok (.iload_n 0, 1) := by decide +kernel
theorem dX10_requireSet_1 : decode cX10_requireSet 1 = .ok (.invokestatic 409, 3) := by decide +kernel
theorem dX10_requireSet_4 : decode cX10_requireSet 4 = .ok (.ifCond .ne 14, 3) := by decide +kernel
theorem dX10_requireSet_7 : decode cX10_requireSet 7 = .ok (.new 176, 3) := by decide +kernel
theorem dX10_requireSet_10 : decode cX10_requireSet 10 = .ok (.dup, 1) := by decide +kernel
theorem dX10_requireSet_11 : decode cX10_requireSet 11 = .ok (.ldc_w 412, 3) := by decide +kernel
theorem dX10_requireSet_14 : decode cX10_requireSet 14 = .ok (.invokespecial 180, 3) := by decide +kernel
theorem dX10_requireSet_17 : decode cX10_requireSet 17 = .ok (.athrow, 1) := by decide +kernel
theorem dX10_requireSet_18 : decode cX10_requireSet 18 = .ok (.return_, 1) := by decide +kernel
set_option maxRecDepth 20000 in
theorem ggX10_requireLinear_X3_hasLinear : GoodIn wsX10_requireLinear wsX3_hasLinear := goodIn_ca (goodIn_r _ [8, 9, 10, 11, 12, 28] (by decide +kernel) (by decide +kernel)) (goodIn_sub (fun _ h => List.mem_cons_of_mem _ (List.mem_append_right _ h)) (gsub_f _))
set_option maxRecDepth 20000 in
theorem gX10_requireLinear_X3_hasLinear : GoodIn wsX10_requireLinear (wsV RX10 414 RX3 yX3_hasLinear wsX3_hasLinear) := goodIn_app (goodIn_of _ (by decide +kernel)) ggX10_requireLinear_X3_hasLinear
theorem dX10_requireLinear_0 : decode cX10_requireLinear 0 = .ok (.aload_n 0, 1) := by decide +kernel
theorem dX10_requireLinear_1 : decode cX10_requireLinear 1 = .ok (.getfield 19, 3) := by decide +kernel
theorem dX10_requireLinear_4 : decode cX10_requireLinear 4 = .ok (.iload_n 1, 1) := by decide +kernel
theorem dX10_requireLinear_5 : decode cX10_requireLinear 5 = .ok (.iload_n 2, 1) := by decide +kernel
theorem dX10_requireLinear_6 : decode cX10_requireLinear 6 = .ok (.invokevirtual 414, 3) := by decide +kernel
theorem dX10_requireLinear_9 : decode cX10_requireLinear 9 = .ok (.ifCond .ne 14, 3) := by decide +kernel
theorem dX10_requireLinear_12 : decode cX10_requireLinear 12 = .ok (.new 176, 3) := by decide +kernel
theorem dX10_requireLinear_15 : decode cX10_requireLinear 15 = .ok (.dup, 1) := by decide +kernel
theorem dX10_requireLinear_16 : decode cX10_requireLinear 16 = .ok (.ldc_w 418, 3) := by decide +kernel
theorem dX10_requireLinear_19 : decode cX10_requireLinear 19 = .ok (.invokespecial 180, 3) := by decide +kernel
theorem dX10_requireLinear_22 : decode cX10_requireLinear 22 = .ok (.athrow, 1) := by decide +kernel
theorem dX10_requireLinear_23 : decode cX10_requireLinear 23 = .ok (.return_, 1) := by decide +kernel
set_option maxRecDepth 20000 in
theorem ggX10_requireDigits_X10_areDigits : GoodIn wsX10_requireDigits wsX10_areDigits := goodIn_r _ [6, 7, 8, 5, 9] (by decide +kernel) (by decide +kernel)
set_option maxRecDepth 20000 in
theorem gX10_requireDigits_X10_areDigits : GoodIn wsX10_requireDigits (va_wsS RX10 319 yX10_areDigits wsX10_areDigits) := goodIn_app (goodIn_of _ (by decide +kernel)) ggX10_requireDigits_X10_areDigits
theorem dX10_requireDigits_0 : decode cX10_requireDigits 0 = .ok (.iload_n 0, 1) := by decide +kernel
theorem dX10_requireDigits_1 : decode cX10_requireDigits 1 = .ok (.iload_n 1, 1) := by decide +kernel
theorem dX10_requireDigits_2 : decode cX10_requireDigits 2 = .ok (.iload_n 2, 1) := by decide +kernel
theorem dX10_requireDigits_3 : decode cX10_requireDigits 3 = .ok (.invokestatic 319, 3) := by decide +kernel
theorem dX10_requireDigits_6 : decode cX10_requireDigits 6 = .ok (.ifCond .ne 14, 3) := by decide +kernel
theorem dX10_requireDigits_9 : decode cX10_requireDigits 9 = .ok (.new 97, 3) := by decide +kernel
theorem dX10_requireDigits_12 : decode cX10_requireDigits 12 = .ok (.dup, 1) := by decide +kernel
theorem dX10_requireDigits_13 : decode cX10_requireDigits 13 = .ok (.ldc_w 420, 3) := by decide +kernel
theorem dX10_requireDigits_16 : decode cX10_requireDigits 16 = .ok (.invokespecial 101, 3) := by decide +kernel
theorem dX10_requireDigits_19 : decode cX10_requireDigits 19 = .ok (.athrow, 1) := by decide +kernel
theorem dX10_requireDigits_20 : decode cX10_requireDigits 20 = .ok (.return_, 1) := by decide +kernel
theorem dX10_requireBound_0 : decode cX10_requireBound 0 = .ok (.iload_n 0, 1) := by decide +kernel
theorem dX10_requireBound_1 : decode cX10_requireBound 1 = .ok (.ifCond .lt 9, 3) := by decide +kernel
theorem dX10_requireBound_4 : decode cX10_requireBound 4 = .ok (.iload_n 0, 1) := by decide +kernel
theorem dX10_requireBound_5 : decode cX10_requireBound 5 = .ok (.bipush 6, 2) := by decide +kernel
theorem dX10_requireBound_7 : decode cX10_requireBound 7 = .ok (.if_icmp .le 14, 3) := by decide +kernel
theorem dX10_requireBound_10 : decode cX10_requireBound 10 = .ok (.new 97, 3) := by decide +kernel
theorem dX10_requireBound_13 : decode cX10_requireBound 13 = .ok (.dup, 1) := by decide +kernel
theorem dX10_requireBound_14 : decode cX10_requireBound 14 = .ok (.ldc_w 422, 3) := by decide +kernel
theorem dX10_requireBound_17 : decode cX10_requireBound 17 = .ok (.invokespecial 101, 3) := by decide +kernel
theorem dX10_requireBound_20 : decode cX10_requireBound 20 = .ok (.athrow, 1) := by decide +kernel
theorem dX10_requireBound_21 : decode cX10_requireBound 21 = .ok (.return_, 1) := by decide +kernel
theorem dX10_requireLength_0 : decode cX10_requireLength 0 = .ok (.iload_n 0, 1) := by decide +kernel
theorem dX10_requireLength_1 : decode cX10_requireLength 1 = .ok (.ifCond .lt 9, 3) := by decide +kernel
theorem dX10_requireLength_4 : decode cX10_requireLength 4 = .ok (.iload_n 0, 1) := by decide +kernel
theorem dX10_requireLength_5 : decode cX10_requireLength 5 = .ok (.bipush 7, 2) := by decide +kernel
theorem dX10_requireLength_7 : decode cX10_requireLength 7 = .ok (.if_icmp .le 14, 3) := by decide +kernel
theorem dX10_requireLength_10 : decode cX10_requireLength 10 = .ok (.new 97, 3) := by decide +kernel
theorem dX10_requireLength_13 : decode cX10_requireLength 13 = .ok (.dup, 1) := by decide +kernel
theorem dX10_requireLength_14 : decode cX10_requireLength 14 = .ok (.ldc_w 424, 3) := by decide +kernel
theorem dX10_requireLength_17 : decode cX10_requireLength 17 = .ok (.invokespecial 101, 3) := by decide +kernel
theorem dX10_requireLength_20 : decode cX10_requireLength 20 = .ok (.athrow, 1) := by decide +kernel
theorem dX10_requireLength_21 : decode cX10_requireLength 21 = .ok (.return_, 1) := by decide +kernel
theorem dX10_requireMode_0 : decode cX10_requireMode 0 = .ok (.iload_n 0, 1) := by decide +kernel
theorem dX10_requireMode_1 : decode cX10_requireMode 1 = .ok (.ifCond .lt 8, 3) := by decide +kernel
theorem dX10_requireMode_4 : decode cX10_requireMode 4 = .ok (.iload_n 0, 1) := by decide +kernel
theorem dX10_requireMode_5 : decode cX10_requireMode 5 = .ok (.iconst 2, 1) := by decide +kernel
theorem dX10_requireMode_6 : decode cX10_requireMode 6 = .ok (.if_icmp .le 14, 3) := by decide +kernel
theorem dX10_requireMode_9 : decode cX10_requireMode 9 = .ok (.new 97, 3) := by decide +kernel
theorem dX10_requireMode_12 : decode cX10_requireMode 12 = .ok (.dup, 1) := by decide +kernel
theorem dX10_requireMode_13 : decode cX10_requireMode 13 = .ok (.ldc_w 426, 3) := by decide +kernel
theorem dX10_requireMode_16 : decode cX10_requireMode 16 = .ok (.invokespecial 101, 3) := by decide +kernel
theorem dX10_requireMode_19 : decode cX10_requireMode 19 = .ok (.athrow, 1) := by decide +kernel
theorem dX10_requireMode_20 : decode cX10_requireMode 20 = .ok (.return_, 1) := by decide +kernel
set_option maxRecDepth 20000 in
theorem ggX10_requireReadable_X10_requireSingleTargets : GoodIn wsX10_requireReadable wsX10_requireSingleTargets := goodIn_ca (goodIn_ca (goodIn_r _ [5, 6, 7, 8, 9, 10, 11, 12, 13, 14, 15, 16, 17, 18, 19, 20, 21, 22, 23, 24, 25, 26, 27, 28, 29, 30, 31, 32] (by decide +kernel) (by decide +kernel)) (goodIn_sub (fun _ h => List.mem_cons_of_mem _ (List.mem_append_left _ (List.mem_append_right _ h))) (gsub_f _))) (goodIn_sub (fun _ h => List.mem_cons_of_mem _ (List.mem_append_right _ h)) (gsub_f _))
set_option maxRecDepth 20000 in
theorem gX10_requireReadable_X10_requireSingleTargets : GoodIn wsX10_requireReadable (wsV RX10 253 RX10 yX10_requireSingleTargets wsX10_requireSingleTargets) := goodIn_app (goodIn_of _ (by decide +kernel)) ggX10_requireReadable_X10_requireSingleTargets
theorem dX10_requireReadable_0 : decode cX10_requireReadable 0 = .ok (.iload_n 1, 1) := by decide +kernel
theorem dX10_requireReadable_1 : decode cX10_requireReadable 1 = .ok (.iconst 2, 1) := by decide +kernel
theorem dX10_requireReadable_2 : decode cX10_requireReadable 2 = .ok (.if_icmp .ne 7, 3) := by decide +kernel
theorem dX10_requireReadable_5 : decode cX10_requireReadable 5 = .ok (.aload_n 0, 1) := by decide +kernel
theorem dX10_requireReadable_6 : decode cX10_requireReadable 6 = .ok (.invokevirtual 253, 3) := by decide +kernel
theorem dX10_requireReadable_9 : decode cX10_requireReadable 9 = .ok (.return_, 1) := by decide +kernel
set_option maxRecDepth 20000 in
theorem ggX10_requireSingleTargets_X0_hasSingleTargets : GoodIn wsX10_requireSingleTargets wsX0_hasSingleTargets := goodIn_ca (goodIn_r _ [8, 9, 25, 26, 27] (by decide +kernel) (by decide +kernel)) (goodIn_sub (fun _ h => List.mem_cons_of_mem _ (List.mem_append_right _ h)) (gsub_f _))
set_option maxRecDepth 20000 in
theorem gX10_requireSingleTargets_X0_hasSingleTargets : GoodIn wsX10_requireSingleTargets (wsV RX10 196 RX0 yX0_hasSingleTargets wsX0_hasSingleTargets) := goodIn_app (goodIn_of _ (by decide +kernel)) ggX10_requireSingleTargets_X0_hasSingleTargets
theorem dX10_requireSingleTargets_0 : decode cX10_requireSingleTargets 0 = .ok (.aload_n 0, 1) := by decide +kernel
theorem dX10_requireSingleTargets_1 : decode cX10_requireSingleTargets 1 = .ok (.getfield 12, 3) := by decide +kernel
theorem dX10_requireSingleTargets_4 : decode cX10_requireSingleTargets 4 = .ok (.invokevirtual 196, 3) := by decide +kernel
theorem dX10_requireSingleTargets_7 : decode cX10_requireSingleTargets 7 = .ok (.ifCond .ne 14, 3) := by decide +kernel
theorem dX10_requireSingleTargets_10 : decode cX10_requireSingleTargets 10 = .ok (.new 428, 3) := by decide +kernel
theorem dX10_requireSingleTargets_13 : decode cX10_requireSingleTargets 13 = .ok (.dup, 1) := by decide +kernel
theorem dX10_requireSingleTargets_14 : decode cX10_requireSingleTargets 14 = .ok (.ldc_w 430, 3) := by decide +kernel
theorem dX10_requireSingleTargets_17 : decode cX10_requireSingleTargets 17 = .ok (.invokespecial 432, 3) := by decide +kernel
theorem dX10_requireSingleTargets_20 : decode cX10_requireSingleTargets 20 = .ok (.athrow, 1) := by decide +kernel
theorem dX10_requireSingleTargets_21 : decode cX10_requireSingleTargets 21 = .ok (.return_, 1) := by decide +kernel
set_option maxRecDepth 20000 in
theorem ggX10_beginChange_X7_push : GoodIn wsX10_beginChange wsX7_push := goodIn_ca (goodIn_r _ [8, 9, 10, 11, 12, 13, 7, 14, 15, 16, 17, 18, 19, 20, 21, 22, 23, 24, 25, 26, 27, 28, 29, 30, 31, 32, 48, 49, 50, 51, 52, 53, 54, 55, 56] (by decide +kernel) (by decide +kernel)) (goodIn_sub (fun _ h => List.mem_cons_of_mem _ (List.mem_append_right _ h)) (gsub_f _))
set_option maxRecDepth 20000 in
theorem gX10_beginChange_X7_push : GoodIn wsX10_beginChange (wsV RX10 433 RX7 yX7_push wsX7_push) := goodIn_app (goodIn_r _ [4, 5, 6, 7] (by decide +kernel) (by decide +kernel)) ggX10_beginChange_X7_push
theorem dX10_beginChange_0 : decode cX10_beginChange 0 = .ok (.aload_n 0, 1) := by decide +kernel
theorem dX10_beginChange_1 : decode cX10_beginChange 1 = .ok (.getfield 26, 3) := by decide +kernel
theorem dX10_beginChange_4 : decode cX10_beginChange 4 = .ok (.aload_n 0, 1) := by decide +kernel
theorem dX10_beginChange_5 : decode cX10_beginChange 5 = .ok (.getfield 12, 3) := by decide +kernel
theorem dX10_beginChange_8 : decode cX10_beginChange 8 = .ok (.aload_n 0, 1) := by decide +kernel
theorem dX10_beginChange_9 : decode cX10_beginChange 9 = .ok (.getfield 19, 3) := by decide +kernel
theorem dX10_beginChange_12 : decode cX10_beginChange 12 = .ok (.invokevirtual 433, 3) := by decide +kernel
theorem dX10_beginChange_15 : decode cX10_beginChange 15 = .ok (.return_, 1) := by decide +kernel
set_option maxRecDepth 20000 in
theorem ggX10_endAutomatonChange_X0_rebuild : GoodIn wsX10_endAutomatonChange wsX0_rebuild := goodIn_ca (goodIn_r _ [7, 8, 9, 25, 26, 27] (by decide +kernel) (by decide +kernel)) (goodIn_sub (fun _ h => List.mem_cons_of_mem _ (List.mem_append_right _ h)) (gsub_f _))
set_option maxRecDepth 20000 in
theorem gX10_endAutomatonChange_X0_rebuild : GoodIn wsX10_endAutomatonChange (wsV RX10 436 RX0 yX0_rebuild wsX0_rebuild) := goodIn_app (goodIn_of _ (by decide +kernel)) ggX10_endAutomatonChange_X0_rebuild
theorem dX10_endAutomatonChange_0 : decode cX10_endAutomatonChange 0 = .ok (.aload_n 0, 1) := by decide +kernel
theorem dX10_endAutomatonChange_1 : decode cX10_endAutomatonChange 1 = .ok (.getfield 12, 3) := by decide +kernel
theorem dX10_endAutomatonChange_4 : decode cX10_endAutomatonChange 4 = .ok (.invokevirtual 436, 3) := by decide +kernel
theorem dX10_endAutomatonChange_7 : decode cX10_endAutomatonChange 7 = .ok (.aload_n 0, 1) := by decide +kernel
theorem dX10_endAutomatonChange_8 : decode cX10_endAutomatonChange 8 = .ok (.iconst 0, 1) := by decide +kernel
theorem dX10_endAutomatonChange_9 : decode cX10_endAutomatonChange 9 = .ok (.putfield 93, 3) := by decide +kernel
theorem dX10_endAutomatonChange_12 : decode cX10_endAutomatonChange 12 = .ok (.return_, 1) := by decide +kernel
theorem dX10_takeWord_0 : decode cX10_takeWord 0 = .ok (.iload_n 1, 1) := by decide +kernel
theorem dX10_takeWord_1 : decode cX10_takeWord 1 = .ok (.ifCond .lt 9, 3) := by decide +kernel
theorem dX10_takeWord_4 : decode cX10_takeWord 4 = .ok (.iload_n 1, 1) := by decide +kernel
theorem dX10_takeWord_5 : decode cX10_takeWord 5 = .ok (.bipush 8, 2) := by decide +kernel
theorem dX10_takeWord_7 : decode cX10_takeWord 7 = .ok (.if_icmp .le 4, 3) := by decide +kernel
theorem dX10_takeWord_10 : decode cX10_takeWord 10 = .ok (.return_, 1) := by decide +kernel
theorem dX10_takeWord_11 : decode cX10_takeWord 11 = .ok (.aload_n 0, 1) := by decide +kernel
theorem dX10_takeWord_12 : decode cX10_takeWord 12 = .ok (.getfield 75, 3) := by decide +kernel
theorem dX10_takeWord_15 : decode cX10_takeWord 15 = .ok (.getfield 439, 3) := by decide +kernel
theorem dX10_takeWord_18 : decode cX10_takeWord 18 = .ok (.iconst 0, 1) := by decide +kernel
theorem dX10_takeWord_19 : decode cX10_takeWord 19 = .ok (.aload_n 0, 1) := by decide +kernel
theorem dX10_takeWord_20 : decode cX10_takeWord 20 = .ok (.getfield 37, 3) := by decide +kernel
theorem dX10_takeWord_23 : decode cX10_takeWord 23 = .ok (.iconst 0, 1) := by decide +kernel
theorem dX10_takeWord_24 : decode cX10_takeWord 24 = .ok (.iload_n 1, 1) := by decide +kernel
theorem dX10_takeWord_25 : decode cX10_takeWord 25 = .ok (.invokestatic 442, 3) := by decide +kernel
theorem dX10_takeWord_28 : decode cX10_takeWord 28 = .ok (.aload_n 0, 1) := by decide +kernel
theorem dX10_takeWord_29 : decode cX10_takeWord 29 = .ok (.iload_n 1, 1) := by decide +kernel
theorem dX10_takeWord_30 : decode cX10_takeWord 30 = .ok (.putfield 41, 3) := by decide +kernel
theorem dX10_takeWord_33 : decode cX10_takeWord 33 = .ok (.aload_n 0, 1) := by decide +kernel
theorem dX10_takeWord_34 : decode cX10_takeWord 34 = .ok (.iconst 0, 1) := by decide +kernel
theorem dX10_takeWord_35 : decode cX10_takeWord 35 = .ok (.putfield 93, 3) := by decide +kernel
theorem dX10_takeWord_38 : decode cX10_takeWord 38 = .ok (.return_, 1) := by decide +kernel
set_option maxRecDepth 20000 in
theorem ggX10_wordIsReached_X10_weightOf : GoodIn wsX10_wordIsReached wsX10_weightOf := goodIn_r _ [8] (by decide +kernel) (by decide +kernel)
set_option maxRecDepth 20000 in
theorem gX10_wordIsReached_X10_weightOf : GoodIn wsX10_wordIsReached (va_wsS RX10 448 yX10_weightOf wsX10_weightOf) := goodIn_app (goodIn_r _ [5, 6, 7] (by decide +kernel) (by decide +kernel)) ggX10_wordIsReached_X10_weightOf
set_option maxRecDepth 20000 in
theorem ggX10_wordIsReached_X10_firstOf : GoodIn wsX10_wordIsReached wsX10_firstOf := goodIn_r _ [11] (by decide +kernel) (by decide +kernel)
set_option maxRecDepth 20000 in
theorem gX10_wordIsReached_X10_firstOf : GoodIn wsX10_wordIsReached (va_wsS RX10 451 yX10_firstOf wsX10_firstOf) := goodIn_app (goodIn_r _ [9, 10, 7] (by decide +kernel) (by decide +kernel)) ggX10_wordIsReached_X10_firstOf
set_option maxRecDepth 20000 in
theorem ggX10_wordIsReached_X10_secondOf : GoodIn wsX10_wordIsReached wsX10_secondOf := goodIn_r _ [14] (by decide +kernel) (by decide +kernel)
set_option maxRecDepth 20000 in
theorem gX10_wordIsReached_X10_secondOf : GoodIn wsX10_wordIsReached (va_wsS RX10 454 yX10_secondOf wsX10_secondOf) := goodIn_app (goodIn_r _ [12, 13, 7] (by decide +kernel) (by decide +kernel)) ggX10_wordIsReached_X10_secondOf
set_option maxRecDepth 20000 in
theorem ggX10_wordIsReached_X10_thirdOf : GoodIn wsX10_wordIsReached wsX10_thirdOf := goodIn_r _ [17] (by decide +kernel) (by decide +kernel)
set_option maxRecDepth 20000 in
theorem gX10_wordIsReached_X10_thirdOf : GoodIn wsX10_wordIsReached (va_wsS RX10 457 yX10_thirdOf wsX10_thirdOf) := goodIn_app (goodIn_r _ [15, 16, 7] (by decide +kernel) (by decide +kernel)) ggX10_wordIsReached_X10_thirdOf
set_option maxRecDepth 20000 in
theorem ggX10_wordIsReached_X5_fillReached : GoodIn wsX10_wordIsReached wsX5_fillReached := goodIn_ca (goodIn_r _ [22, 23, 24, 7, 25, 26, 27, 28, 29, 30, 31, 32, 33, 34, 35, 36, 37, 38, 63, 64, 65, 66] (by decide +kernel) (by decide +kernel)) (goodIn_sub (fun _ h => List.mem_cons_of_mem _ (List.mem_append_right _ h)) (gsub_f _))
set_option maxRecDepth 20000 in
theorem gX10_wordIsReached_X5_fillReached : GoodIn wsX10_wordIsReached (wsV RX10 278 RX5 yX5_fillReached wsX5_fillReached) := goodIn_app (goodIn_r _ [18, 19, 20, 21] (by decide +kernel) (by decide +kernel)) ggX10_wordIsReached_X5_fillReached
set_option maxRecDepth 20000 in
theorem ggX10_wordIsReached_X5_at : GoodIn wsX10_wordIsReached wsX5_at := goodIn_ca (goodIn_r _ [42, 23, 63] (by decide +kernel) (by decide +kernel)) (goodIn_sub (fun _ h => List.mem_cons_of_mem _ (List.mem_append_right _ h)) (gsub_f _))
set_option maxRecDepth 20000 in
theorem gX10_wordIsReached_X5_at : GoodIn wsX10_wordIsReached (wsV RX10 286 RX5 yX5_at wsX5_at) := goodIn_app (goodIn_r _ [39, 40, 41, 21] (by decide +kernel) (by decide +kernel)) ggX10_wordIsReached_X5_at
set_option maxRecDepth 20000 in
theorem ggX10_wordIsReached_X0_accepting : GoodIn wsX10_wordIsReached wsX0_accepting := goodIn_r _ [46, 47, 64, 65, 66] (by decide +kernel) (by decide +kernel)
set_option maxRecDepth 20000 in
theorem gX10_wordIsReached_X0_accepting : GoodIn wsX10_wordIsReached (wsV RX10 181 RX0 yX0_accepting wsX0_accepting) := goodIn_app (goodIn_r _ [43, 44, 45, 34] (by decide +kernel) (by decide +kernel)) ggX10_wordIsReached_X0_accepting
theorem dX10_wordIsReached_0 : decode cX10_wordIsReached 0 = .ok (.iconst 0, 1) := by decide +kernel
theorem dX10_wordIsReached_1 : decode cX10_wordIsReached 1 = .ok (.istore_n 1, 1) := by decide +kernel
theorem dX10_wordIsReached_2 : decode cX10_wordIsReached 2 = .ok (.iconst 0, 1) := by decide +kernel
theorem dX10_wordIsReached_3 : decode cX10_wordIsReached 3 = .ok (.istore_n 2, 1) := by decide +kernel
theorem dX10_wordIsReached_4 : decode cX10_wordIsReached 4 = .ok (.iload_n 2, 1) := by decide +kernel
theorem dX10_wordIsReached_5 : decode cX10_wordIsReached 5 = .ok (.aload_n 0, 1) := by decide +kernel
theorem dX10_wordIsReached_6 : decode cX10_wordIsReached 6 = .ok (.getfield 41, 3) := by decide +kernel
theorem dX10_wordIsReached_9 : decode cX10_wordIsReached 9 = .ok (.if_icmp .ge 27, 3) := by decide +kernel
theorem dX10_wordIsReached_12 : decode cX10_wordIsReached 12 = .ok (.iload_n 2, 1) := by decide +kernel
theorem dX10_wordIsReached_13 : decode cX10_wordIsReached 13 = .ok (.bipush 8, 2) := by decide +kernel
theorem dX10_wordIsReached_15 : decode cX10_wordIsReached 15 = .ok (.if_icmp .ge 21, 3) := by decide +kernel
theorem dX10_wordIsReached_18 : decode cX10_wordIsReached 18 = .ok (.iload_n 1, 1) := by decide +kernel
theorem dX10_wordIsReached_19 : decode cX10_wordIsReached 19 = .ok (.aload_n 0, 1) := by decide +kernel
theorem dX10_wordIsReached_20 : decode cX10_wordIsReached 20 = .ok (.getfield 37, 3) := by decide +kernel
theorem dX10_wordIsReached_23 : decode cX10_wordIsReached 23 = .ok (.iload_n 2, 1) := by decide +kernel
theorem dX10_wordIsReached_24 : decode cX10_wordIsReached 24 = .ok (.iaload, 1) := by decide +kernel
theorem dX10_wordIsReached_25 : decode cX10_wordIsReached 25 = .ok (.invokestatic 448, 3) := by decide +kernel
theorem dX10_wordIsReached_28 : decode cX10_wordIsReached 28 = .ok (.iadd, 1) := by decide +kernel
theorem dX10_wordIsReached_29 : decode cX10_wordIsReached 29 = .ok (.istore_n 1, 1) := by decide +kernel
theorem dX10_wordIsReached_30 : decode cX10_wordIsReached 30 = .ok (.iinc 2 1, 3) := by decide +kernel
theorem dX10_wordIsReached_33 : decode cX10_wordIsReached 33 = .ok (.goto (-29), 3) := by decide +kernel
theorem dX10_wordIsReached_36 : decode cX10_wordIsReached 36 = .ok (.aload_n 0, 1) := by decide +kernel
theorem dX10_wordIsReached_37 : decode cX10_wordIsReached 37 = .ok (.getfield 48, 3) := by decide +kernel
theorem dX10_wordIsReached_40 : decode cX10_wordIsReached 40 = .ok (.aload_n 0, 1) := by decide +kernel
theorem dX10_wordIsReached_41 : decode cX10_wordIsReached 41 = .ok (.getfield 12, 3) := by decide +kernel
theorem dX10_wordIsReached_44 : decode cX10_wordIsReached 44 = .ok (.iload_n 1, 1) := by decide +kernel
theorem dX10_wordIsReached_45 : decode cX10_wordIsReached 45 = .ok (.invokestatic 451, 3) := by decide +kernel
theorem dX10_wordIsReached_48 : decode cX10_wordIsReached 48 = .ok (.iload_n 1, 1) := by decide +kernel
theorem dX10_wordIsReached_49 : decode cX10_wordIsReached 49 = .ok (.invokestatic 454, 3) := by decide +kernel
theorem dX10_wordIsReached_52 : decode cX10_wordIsReached 52 = .ok (.iload_n 1, 1) := by decide +kernel
theorem dX10_wordIsReached_53 : decode cX10_wordIsReached 53 = .ok (.invokestatic 457, 3) := by decide +kernel
theorem dX10_wordIsReached_56 : decode cX10_wordIsReached 56 = .ok (.invokevirtual 278, 3) := by decide +kernel
theorem dX10_wordIsReached_59 : decode cX10_wordIsReached 59 = .ok (.aload_n 0, 1) := by decide +kernel
theorem dX10_wordIsReached_60 : decode cX10_wordIsReached 60 = .ok (.getfield 12, 3) := by decide +kernel
theorem dX10_wordIsReached_63 : decode cX10_wordIsReached 63 = .ok (.aload_n 0, 1) := by decide +kernel
theorem dX10_wordIsReached_64 : decode cX10_wordIsReached 64 = .ok (.getfield 48, 3) := by decide +kernel
theorem dX10_wordIsReached_67 : decode cX10_wordIsReached 67 = .ok (.iload_n 1, 1) := by decide +kernel
theorem dX10_wordIsReached_68 : decode cX10_wordIsReached 68 = .ok (.invokevirtual 286, 3) := by decide +kernel
theorem dX10_wordIsReached_71 : decode cX10_wordIsReached 71 = .ok (.invokevirtual 181, 3) := by decide +kernel
theorem dX10_wordIsReached_74 : decode cX10_wordIsReached 74 = .ok (.ireturn, 1) := by decide +kernel
set_option maxRecDepth 20000 in
theorem ggX10_findBestOrder_X2_find : GoodIn wsX10_findBestOrder wsX2_find := goodIn_ca (goodIn_r _ [11, 12, 13, 14, 15, 16, 17, 18, 19, 20, 21, 10, 22, 23, 24, 25, 26, 27, 28, 29, 30, 31, 32, 33, 34, 35, 36, 37, 38, 39, 40, 41, 42, 43, 44, 45, 46, 47, 48, 49, 50, 51, 52, 53, 54, 55, 56, 57, 58, 59, 60, 61, 62, 63, 64, 65, 66, 67, 68, 69, 70, 71, 72, 73, 74, 75, 76, 77, 78, 79, 80, 81, 82, 83, 84, 85, 86, 87, 88, 89, 90, 91, 92, 93, 94, 95, 111, 112, 113, 114, 115, 116, 117, 118, 119, 120] (by decide +kernel) (by decide +kernel)) (goodIn_sub (fun _ h => List.mem_cons_of_mem _ (List.mem_append_right _ h)) (gsub_f _))
set_option maxRecDepth 20000 in
theorem gX10_findBestOrder_X2_find : GoodIn wsX10_findBestOrder (wsV RX10 460 RX2 yX2_find wsX2_find) := goodIn_app (goodIn_r _ [7, 8, 9, 10] (by decide +kernel) (by decide +kernel)) ggX10_findBestOrder_X2_find
theorem dX10_findBestOrder_0 : decode cX10_findBestOrder 0 = .ok (.aload_n 0, 1) := by decide +kernel
theorem dX10_findBestOrder_1 : decode cX10_findBestOrder 1 = .ok (.getfield 93, 3) := by decide +kernel
theorem dX10_findBestOrder_4 : decode cX10_findBestOrder 4 = .ok (.ifCond .ne 27, 3) := by decide +kernel
theorem dX10_findBestOrder_7 : decode cX10_findBestOrder 7 = .ok (.aload_n 0, 1) := by decide +kernel
theorem dX10_findBestOrder_8 : decode cX10_findBestOrder 8 = .ok (.getfield 89, 3) := by decide +kernel
theorem dX10_findBestOrder_11 : decode cX10_findBestOrder 11 = .ok (.aload_n 0, 1) := by decide +kernel
theorem dX10_findBestOrder_12 : decode cX10_findBestOrder 12 = .ok (.getfield 12, 3) := by decide +kernel
theorem dX10_findBestOrder_15 : decode cX10_findBestOrder 15 = .ok (.aload_n 0, 1) := by decide +kernel
theorem dX10_findBestOrder_16 : decode cX10_findBestOrder 16 = .ok (.getfield 37, 3) := by decide +kernel
theorem dX10_findBestOrder_19 : decode cX10_findBestOrder 19 = .ok (.aload_n 0, 1) := by decide +kernel
theorem dX10_findBestOrder_20 : decode cX10_findBestOrder 20 = .ok (.getfield 41, 3) := by decide +kernel
theorem dX10_findBestOrder_23 : decode cX10_findBestOrder 23 = .ok (.invokevirtual 460, 3) := by decide +kernel
theorem dX10_findBestOrder_26 : decode cX10_findBestOrder 26 = .ok (.aload_n 0, 1) := by decide +kernel
theorem dX10_findBestOrder_27 : decode cX10_findBestOrder 27 = .ok (.iconst 1, 1) := by decide +kernel
theorem dX10_findBestOrder_28 : decode cX10_findBestOrder 28 = .ok (.putfield 93, 3) := by decide +kernel
theorem dX10_findBestOrder_31 : decode cX10_findBestOrder 31 = .ok (.aload_n 0, 1) := by decide +kernel
theorem dX10_findBestOrder_32 : decode cX10_findBestOrder 32 = .ok (.getfield 89, 3) := by decide +kernel
theorem dX10_findBestOrder_35 : decode cX10_findBestOrder 35 = .ok (.getfield 267, 3) := by decide +kernel
theorem dX10_findBestOrder_38 : decode cX10_findBestOrder 38 = .ok (.bipush 63, 2) := by decide +kernel
theorem dX10_findBestOrder_40 : decode cX10_findBestOrder 40 = .ok (.if_icmp .ge 7, 3) := by decide +kernel
theorem dX10_findBestOrder_43 : decode cX10_findBestOrder 43 = .ok (.iconst 1, 1) := by decide +kernel
theorem dX10_findBestOrder_44 : decode cX10_findBestOrder 44 = .ok (.goto 4, 3) := by decide +kernel
theorem dX10_findBestOrder_47 : decode cX10_findBestOrder 47 = .ok (.iconst 0, 1) := by decide +kernel
theorem dX10_findBestOrder_48 : decode cX10_findBestOrder 48 = .ok (.ireturn, 1) := by decide +kernel
set_option maxRecDepth 20000 in
theorem ggX10_gatherMinimals_X5_fillReached : GoodIn wsX10_gatherMinimals wsX5_fillReached := goodIn_ca (goodIn_r _ [8, 9, 10, 11, 12, 13, 14, 15, 16, 17, 18, 19, 20, 21, 22, 23, 24, 25, 76, 77, 78, 79] (by decide +kernel) (by decide +kernel)) (goodIn_sub (fun _ h => List.mem_cons_of_mem _ (List.mem_append_right _ h)) (gsub_f _))
set_option maxRecDepth 20000 in
theorem gX10_gatherMinimals_X5_fillReached : GoodIn wsX10_gatherMinimals (wsV RX10 278 RX5 yX5_fillReached wsX5_fillReached) := goodIn_app (goodIn_r _ [4, 5, 6, 7] (by decide +kernel) (by decide +kernel)) ggX10_gatherMinimals_X5_fillReached
set_option maxRecDepth 20000 in
theorem ggX10_gatherMinimals_X4_clear : GoodIn wsX10_gatherMinimals wsX4_clear := goodIn_r _ [30, 31, 80, 81] (by decide +kernel) (by decide +kernel)
set_option maxRecDepth 20000 in
theorem gX10_gatherMinimals_X4_clear : GoodIn wsX10_gatherMinimals (wsV RX10 463 RX4 yX4_clear wsX4_clear) := goodIn_app (goodIn_r _ [26, 27, 28, 29] (by decide +kernel) (by decide +kernel)) ggX10_gatherMinimals_X4_clear
set_option maxRecDepth 20000 in
theorem ggX10_gatherMinimals_X10_codeOf : GoodIn wsX10_gatherMinimals wsX10_codeOf := goodIn_r _ [17] (by decide +kernel) (by decide +kernel)
set_option maxRecDepth 20000 in
theorem gX10_gatherMinimals_X10_codeOf : GoodIn wsX10_gatherMinimals (va_wsS RX10 282 yX10_codeOf wsX10_codeOf) := goodIn_app (goodIn_r _ [32, 16, 11] (by decide +kernel) (by decide +kernel)) ggX10_gatherMinimals_X10_codeOf
set_option maxRecDepth 20000 in
theorem ggX10_gatherMinimals_X5_at : GoodIn wsX10_gatherMinimals wsX5_at := goodIn_ca (goodIn_r _ [36, 9, 76] (by decide +kernel) (by decide +kernel)) (goodIn_sub (fun _ h => List.mem_cons_of_mem _ (List.mem_append_right _ h)) (gsub_f _))
set_option maxRecDepth 20000 in
theorem gX10_gatherMinimals_X5_at : GoodIn wsX10_gatherMinimals (wsV RX10 286 RX5 yX5_at wsX5_at) := goodIn_app (goodIn_r _ [33, 34, 35, 7] (by decide +kernel) (by decide +kernel)) ggX10_gatherMinimals_X5_at
set_option maxRecDepth 20000 in
theorem ggX10_gatherMinimals_X0_accepting : GoodIn wsX10_gatherMinimals wsX0_accepting := goodIn_r _ [40, 41, 77, 78, 79] (by decide +kernel) (by decide +kernel)
set_option maxRecDepth 20000 in
theorem gX10_gatherMinimals_X0_accepting : GoodIn wsX10_gatherMinimals (wsV RX10 181 RX0 yX0_accepting wsX0_accepting) := goodIn_app (goodIn_r _ [37, 38, 39, 21] (by decide +kernel) (by decide +kernel)) ggX10_gatherMinimals_X0_accepting
set_option maxRecDepth 20000 in
theorem ggX10_gatherMinimals_X4_hasBelow : GoodIn wsX10_gatherMinimals wsX4_hasBelow := goodIn_ca (goodIn_r _ [45, 31, 46, 47, 11, 48, 49, 50, 51, 52, 80, 81] (by decide +kernel) (by decide +kernel)) (goodIn_sub (fun _ h => List.mem_cons_of_mem _ (List.mem_append_right _ h)) (gsub_f _))
set_option maxRecDepth 20000 in
theorem gX10_gatherMinimals_X4_hasBelow : GoodIn wsX10_gatherMinimals (wsV RX10 466 RX4 yX4_hasBelow wsX4_hasBelow) := goodIn_app (goodIn_r _ [42, 43, 44, 29] (by decide +kernel) (by decide +kernel)) ggX10_gatherMinimals_X4_hasBelow
set_option maxRecDepth 20000 in
theorem ggX10_gatherMinimals_X4_insert : GoodIn wsX10_gatherMinimals wsX4_insert := goodIn_ca (goodIn_r _ [56, 31, 46, 57, 58, 59, 29, 60, 80, 81] (by decide +kernel) (by decide +kernel)) (goodIn_sub (fun _ h => List.mem_cons_of_mem _ (List.mem_append_right _ h)) (gsub_f _))
set_option maxRecDepth 20000 in
theorem gX10_gatherMinimals_X4_insert : GoodIn wsX10_gatherMinimals (wsV RX10 469 RX4 yX4_insert wsX4_insert) := goodIn_app (goodIn_r _ [53, 54, 55, 29] (by decide +kernel) (by decide +kernel)) ggX10_gatherMinimals_X4_insert
theorem dX10_gatherMinimals_0 : decode cX10_gatherMinimals 0 = .ok (.iconst 4, 1) := by decide +kernel
theorem dX10_gatherMinimals_1 : decode cX10_gatherMinimals 1 = .ok (.istore_n 1, 1) := by decide +kernel
theorem dX10_gatherMinimals_2 : decode cX10_gatherMinimals 2 = .ok (.aload_n 0, 1) := by decide +kernel
theorem dX10_gatherMinimals_3 : decode cX10_gatherMinimals 3 = .ok (.getfield 48, 3) := by decide +kernel
theorem dX10_gatherMinimals_6 : decode cX10_gatherMinimals 6 = .ok (.aload_n 0, 1) := by decide +kernel
theorem dX10_gatherMinimals_7 : decode cX10_gatherMinimals 7 = .ok (.getfield 12, 3) := by decide +kernel
theorem dX10_gatherMinimals_10 : decode cX10_gatherMinimals 10 = .ok (.iload_n 1, 1) := by decide +kernel
theorem dX10_gatherMinimals_11 : decode cX10_gatherMinimals 11 = .ok (.iload_n 1, 1) := by decide +kernel
theorem dX10_gatherMinimals_12 : decode cX10_gatherMinimals 12 = .ok (.iload_n 1, 1) := by decide +kernel
theorem dX10_gatherMinimals_13 : decode cX10_gatherMinimals 13 = .ok (.invokevirtual 278, 3) := by decide +kernel
theorem dX10_gatherMinimals_16 : decode cX10_gatherMinimals 16 = .ok (.aload_n 0, 1) := by decide +kernel
theorem dX10_gatherMinimals_17 : decode cX10_gatherMinimals 17 = .ok (.getfield 58, 3) := by decide +kernel
theorem dX10_gatherMinimals_20 : decode cX10_gatherMinimals 20 = .ok (.invokevirtual 463, 3) := by decide +kernel
theorem dX10_gatherMinimals_23 : decode cX10_gatherMinimals 23 = .ok (.iconst 0, 1) := by decide +kernel
theorem dX10_gatherMinimals_24 : decode cX10_gatherMinimals 24 = .ok (.istore_n 2, 1) := by decide +kernel
theorem dX10_gatherMinimals_25 : decode cX10_gatherMinimals 25 = .ok (.iload_n 2, 1) := by decide +kernel
theorem dX10_gatherMinimals_26 : decode cX10_gatherMinimals 26 = .ok (.iload_n 1, 1) := by decide +kernel
theorem dX10_gatherMinimals_27 : decode cX10_gatherMinimals 27 = .ok (.if_icmp .gt 92, 3) := by decide +kernel
theorem dX10_gatherMinimals_30 : decode cX10_gatherMinimals 30 = .ok (.iconst 0, 1) := by decide +kernel
theorem dX10_gatherMinimals_31 : decode cX10_gatherMinimals 31 = .ok (.istore_n 3, 1) := by decide +kernel
theorem dX10_gatherMinimals_32 : decode cX10_gatherMinimals 32 = .ok (.iload_n 2, 1) := by decide +kernel
theorem dX10_gatherMinimals_33 : decode cX10_gatherMinimals 33 = .ok (.iload_n 3, 1) := by decide +kernel
theorem dX10_gatherMinimals_34 : decode cX10_gatherMinimals 34 = .ok (.iadd, 1) := by decide +kernel
theorem dX10_gatherMinimals_35 : decode cX10_gatherMinimals 35 = .ok (.iload_n 1, 1) := by decide +kernel
theorem dX10_gatherMinimals_36 : decode cX10_gatherMinimals 36 = .ok (.if_icmp .gt 77, 3) := by decide +kernel
theorem dX10_gatherMinimals_39 : decode cX10_gatherMinimals 39 = .ok (.iconst 0, 1) := by decide +kernel
theorem dX10_gatherMinimals_40 : decode cX10_gatherMinimals 40 = .ok (.istore 4, 2) := by decide +kernel
theorem dX10_gatherMinimals_42 : decode cX10_gatherMinimals 42 = .ok (.iload_n 2, 1) := by decide +kernel
theorem dX10_gatherMinimals_43 : decode cX10_gatherMinimals 43 = .ok (.iload_n 3, 1) := by decide +kernel
theorem dX10_gatherMinimals_44 : decode cX10_gatherMinimals 44 = .ok (.iadd, 1) := by decide +kernel
theorem dX10_gatherMinimals_45 : decode cX10_gatherMinimals 45 = .ok (.iload 4, 2) := by decide +kernel
theorem dX10_gatherMinimals_47 : decode cX10_gatherMinimals 47 = .ok (.iadd, 1) := by decide +kernel
theorem dX10_gatherMinimals_48 : decode cX10_gatherMinimals 48 = .ok (.iload_n 1, 1) := by decide +kernel
theorem dX10_gatherMinimals_49 : decode cX10_gatherMinimals 49 = .ok (.if_icmp .gt 58, 3) := by decide +kernel
theorem dX10_gatherMinimals_52 : decode cX10_gatherMinimals 52 = .ok (.iload_n 2, 1) := by decide +kernel
theorem dX10_gatherMinimals_53 : decode cX10_gatherMinimals 53 = .ok (.iload_n 3, 1) := by decide +kernel
theorem dX10_gatherMinimals_54 : decode cX10_gatherMinimals 54 = .ok (.iload 4, 2) := by decide +kernel
theorem dX10_gatherMinimals_56 : decode cX10_gatherMinimals 56 = .ok (.invokestatic 282, 3) := by decide +kernel
theorem dX10_gatherMinimals_59 : decode cX10_gatherMinimals 59 = .ok (.istore 5, 2) := by decide +kernel
theorem dX10_gatherMinimals_61 : decode cX10_gatherMinimals 61 = .ok (.aload_n 0, 1) := by decide +kernel
theorem dX10_gatherMinimals_62 : decode cX10_gatherMinimals 62 = .ok (.getfield 12, 3) := by decide +kernel
theorem dX10_gatherMinimals_65 : decode cX10_gatherMinimals 65 = .ok (.aload_n 0, 1) := by decide +kernel
theorem dX10_gatherMinimals_66 : decode cX10_gatherMinimals 66 = .ok (.getfield 48, 3) := by decide +kernel
theorem dX10_gatherMinimals_69 : decode cX10_gatherMinimals 69 = .ok (.iload 5, 2) := by decide +kernel
theorem dX10_gatherMinimals_71 : decode cX10_gatherMinimals 71 = .ok (.invokevirtual 286, 3) := by decide +kernel
theorem dX10_gatherMinimals_74 : decode cX10_gatherMinimals 74 = .ok (.invokevirtual 181, 3) := by decide +kernel
theorem dX10_gatherMinimals_77 : decode cX10_gatherMinimals 77 = .ok (.ifCond .eq 24, 3) := by decide +kernel
theorem dX10_gatherMinimals_80 : decode cX10_gatherMinimals 80 = .ok (.aload_n 0, 1) := by decide +kernel
theorem dX10_gatherMinimals_81 : decode cX10_gatherMinimals 81 = .ok (.getfield 58, 3) := by decide +kernel
theorem dX10_gatherMinimals_84 : decode cX10_gatherMinimals 84 = .ok (.iload 5, 2) := by decide +kernel
theorem dX10_gatherMinimals_86 : decode cX10_gatherMinimals 86 = .ok (.invokevirtual 466, 3) := by decide +kernel
theorem dX10_gatherMinimals_89 : decode cX10_gatherMinimals 89 = .ok (.ifCond .ne 12, 3) := by decide +kernel
theorem dX10_gatherMinimals_92 : decode cX10_gatherMinimals 92 = .ok (.aload_n 0, 1) := by decide +kernel
theorem dX10_gatherMinimals_93 : decode cX10_gatherMinimals 93 = .ok (.getfield 58, 3) := by decide +kernel
theorem dX10_gatherMinimals_96 : decode cX10_gatherMinimals 96 = .ok (.iload 5, 2) := by decide +kernel
theorem dX10_gatherMinimals_98 : decode cX10_gatherMinimals 98 = .ok (.invokevirtual 469, 3) := by decide +kernel
theorem dX10_gatherMinimals_101 : decode cX10_gatherMinimals 101 = .ok (.iinc 4 1, 3) := by decide +kernel
theorem dX10_gatherMinimals_104 : decode cX10_gatherMinimals 104 = .ok (.goto (-62), 3) := by decide +kernel
theorem dX10_gatherMinimals_107 : decode cX10_gatherMinimals 107 = .ok (.iinc 3 1, 3) := by decide +kernel
theorem dX10_gatherMinimals_110 : decode cX10_gatherMinimals 110 = .ok (.goto (-78), 3) := by decide +kernel
theorem dX10_gatherMinimals_113 : decode cX10_gatherMinimals 113 = .ok (.iinc 2 1, 3) := by decide +kernel
theorem dX10_gatherMinimals_116 : decode cX10_gatherMinimals 116 = .ok (.goto (-91), 3) := by decide +kernel
theorem dX10_gatherMinimals_119 : decode cX10_gatherMinimals 119 = .ok (.return_, 1) := by decide +kernel
set_option maxRecDepth 20000 in
theorem ggX10_firstDifference_X5_fillReached : GoodIn wsX10_firstDifference wsX5_fillReached := goodIn_ca (goodIn_r _ [11, 12, 13, 14, 15, 16, 17, 18, 19, 20, 21, 22, 23, 24, 25, 26, 27, 28, 108, 109, 110, 111] (by decide +kernel) (by decide +kernel)) (goodIn_sub (fun _ h => List.mem_cons_of_mem _ (List.mem_append_right _ h)) (gsub_f _))
set_option maxRecDepth 20000 in
theorem gX10_firstDifference_X5_fillReached : GoodIn wsX10_firstDifference (wsV RX10 278 RX5 yX5_fillReached wsX5_fillReached) := goodIn_app (goodIn_r _ [7, 8, 9, 10] (by decide +kernel) (by decide +kernel)) ggX10_firstDifference_X5_fillReached
set_option maxRecDepth 20000 in
theorem ggX10_firstDifference_X5_fillMembers : GoodIn wsX10_firstDifference wsX5_fillMembers := goodIn_ca (goodIn_r _ [32, 13, 14, 15, 16, 17, 18, 19, 20, 33, 34, 35, 10, 36, 12, 37, 38, 39, 40, 41, 42, 43, 44, 45, 46, 47, 48, 49, 50, 51, 52, 53, 54, 55, 56, 57, 58, 59, 60, 61, 62, 63, 64, 65, 66, 67, 68, 69, 70, 71, 72, 73, 74, 75, 76, 77, 78, 108, 112] (by decide +kernel) (by decide +kernel)) (goodIn_sub (fun _ h => List.mem_cons_of_mem _ (List.mem_append_right _ h)) (gsub_f _))
set_option maxRecDepth 20000 in
theorem gX10_firstDifference_X5_fillMembers : GoodIn wsX10_firstDifference (wsV RX10 334 RX5 yX5_fillMembers wsX5_fillMembers) := goodIn_app (goodIn_r _ [29, 30, 31, 10] (by decide +kernel) (by decide +kernel)) ggX10_firstDifference_X5_fillMembers
set_option maxRecDepth 20000 in
theorem ggX10_firstDifference_X10_codeOf : GoodIn wsX10_firstDifference wsX10_codeOf := goodIn_r _ [20] (by decide +kernel) (by decide +kernel)
set_option maxRecDepth 20000 in
theorem gX10_firstDifference_X10_codeOf : GoodIn wsX10_firstDifference (va_wsS RX10 282 yX10_codeOf wsX10_codeOf) := goodIn_app (goodIn_r _ [79, 19, 14] (by decide +kernel) (by decide +kernel)) ggX10_firstDifference_X10_codeOf
set_option maxRecDepth 20000 in
theorem ggX10_firstDifference_X10_isDifference : GoodIn wsX10_firstDifference wsX10_isDifference := goodIn_ca (goodIn_r _ [83, 4, 3, 5, 84, 85, 86, 10, 87, 12, 88, 89, 90, 24, 91, 92, 93, 94, 95, 96, 97, 98, 99, 100, 101, 102, 103, 104, 105, 106, 107, 108, 109, 110, 111] (by decide +kernel) (by decide +kernel)) (goodIn_sub (fun _ h => List.mem_cons_of_mem _ (List.mem_append_right _ h)) (gsub_f _))
set_option maxRecDepth 20000 in
theorem gX10_firstDifference_X10_isDifference : GoodIn wsX10_firstDifference (wsV RX10 472 RX10 yX10_isDifference wsX10_isDifference) := goodIn_app (goodIn_r _ [80, 81, 82, 14] (by decide +kernel) (by decide +kernel)) ggX10_firstDifference_X10_isDifference
theorem dX10_firstDifference_0 : decode cX10_firstDifference 0 = .ok (.aload_n 0, 1) := by decide +kernel
theorem dX10_firstDifference_1 : decode cX10_firstDifference 1 = .ok (.getfield 48, 3) := by decide +kernel
theorem dX10_firstDifference_4 : decode cX10_firstDifference 4 = .ok (.aload_n 0, 1) := by decide +kernel
theorem dX10_firstDifference_5 : decode cX10_firstDifference 5 = .ok (.getfield 12, 3) := by decide +kernel
theorem dX10_firstDifference_8 : decode cX10_firstDifference 8 = .ok (.iload_n 2, 1) := by decide +kernel
theorem dX10_firstDifference_9 : decode cX10_firstDifference 9 = .ok (.iload_n 2, 1) := by decide +kernel
theorem dX10_firstDifference_10 : decode cX10_firstDifference 10 = .ok (.iload_n 2, 1) := by decide +kernel
theorem dX10_firstDifference_11 : decode cX10_firstDifference 11 = .ok (.invokevirtual 278, 3) := by decide +kernel
theorem dX10_firstDifference_14 : decode cX10_firstDifference 14 = .ok (.aload_n 0, 1) := by decide +kernel
theorem dX10_firstDifference_15 : decode cX10_firstDifference 15 = .ok (.getfield 52, 3) := by decide +kernel
theorem dX10_firstDifference_18 : decode cX10_firstDifference 18 = .ok (.aload_n 0, 1) := by decide +kernel
theorem dX10_firstDifference_19 : decode cX10_firstDifference 19 = .ok (.getfield 19, 3) := by decide +kernel
theorem dX10_firstDifference_22 : decode cX10_firstDifference 22 = .ok (.iload_n 1, 1) := by decide +kernel
theorem dX10_firstDifference_23 : decode cX10_firstDifference 23 = .ok (.iload_n 2, 1) := by decide +kernel
theorem dX10_firstDifference_24 : decode cX10_firstDifference 24 = .ok (.iload_n 2, 1) := by decide +kernel
theorem dX10_firstDifference_25 : decode cX10_firstDifference 25 = .ok (.iload_n 2, 1) := by decide +kernel
theorem dX10_firstDifference_26 : decode cX10_firstDifference 26 = .ok (.invokevirtual 334, 3) := by decide +kernel
theorem dX10_firstDifference_29 : decode cX10_firstDifference 29 = .ok (.iconst 0, 1) := by decide +kernel
theorem dX10_firstDifference_30 : decode cX10_firstDifference 30 = .ok (.istore 4, 2) := by decide +kernel
theorem dX10_firstDifference_32 : decode cX10_firstDifference 32 = .ok (.iload 4, 2) := by decide +kernel
theorem dX10_firstDifference_34 : decode cX10_firstDifference 34 = .ok (.iconst 3, 1) := by decide +kernel
theorem dX10_firstDifference_35 : decode cX10_firstDifference 35 = .ok (.iload_n 2, 1) := by decide +kernel
theorem dX10_firstDifference_36 : decode cX10_firstDifference 36 = .ok (.imul, 1) := by decide +kernel
theorem dX10_firstDifference_37 : decode cX10_firstDifference 37 = .ok (.if_icmp .gt 99, 3) := by decide +kernel
theorem dX10_firstDifference_40 : decode cX10_firstDifference 40 = .ok (.iconst 0, 1) := by decide +kernel
theorem dX10_firstDifference_41 : decode cX10_firstDifference 41 = .ok (.istore 5, 2) := by decide +kernel
theorem dX10_firstDifference_43 : decode cX10_firstDifference 43 = .ok (.iload 5, 2) := by decide +kernel
theorem dX10_firstDifference_45 : decode cX10_firstDifference 45 = .ok (.iload_n 2, 1) := by decide +kernel
theorem dX10_firstDifference_46 : decode cX10_firstDifference 46 = .ok (.if_icmp .gt 84, 3) := by decide +kernel
theorem dX10_firstDifference_49 : decode cX10_firstDifference 49 = .ok (.iload 5, 2) := by decide +kernel
theorem dX10_firstDifference_51 : decode cX10_firstDifference 51 = .ok (.iload 4, 2) := by decide +kernel
theorem dX10_firstDifference_53 : decode cX10_firstDifference 53 = .ok (.if_icmp .gt 77, 3) := by decide +kernel
theorem dX10_firstDifference_56 : decode cX10_firstDifference 56 = .ok (.iconst 0, 1) := by decide +kernel
theorem dX10_firstDifference_57 : decode cX10_firstDifference 57 = .ok (.istore 6, 2) := by decide +kernel
theorem dX10_firstDifference_59 : decode cX10_firstDifference 59 = .ok (.iload 6, 2) := by decide +kernel
theorem dX10_firstDifference_61 : decode cX10_firstDifference 61 = .ok (.iload_n 2, 1) := by decide +kernel
theorem dX10_firstDifference_62 : decode cX10_firstDifference 62 = .ok (.if_icmp .gt 62, 3) := by decide +kernel
theorem dX10_firstDifference_65 : decode cX10_firstDifference 65 = .ok (.iload 5, 2) := by decide +kernel
theorem dX10_firstDifference_67 : decode cX10_firstDifference 67 = .ok (.iload 6, 2) := by decide +kernel
theorem dX10_firstDifference_69 : decode cX10_firstDifference 69 = .ok (.iadd, 1) := by decide +kernel
theorem dX10_firstDifference_70 : decode cX10_firstDifference 70 = .ok (.iload 4, 2) := by decide +kernel
theorem dX10_firstDifference_72 : decode cX10_firstDifference 72 = .ok (.if_icmp .gt 52, 3) := by decide +kernel
theorem dX10_firstDifference_75 : decode cX10_firstDifference 75 = .ok (.iload 4, 2) := by decide +kernel
theorem dX10_firstDifference_77 : decode cX10_firstDifference 77 = .ok (.iload 5, 2) := by decide +kernel
theorem dX10_firstDifference_79 : decode cX10_firstDifference 79 = .ok (.isub, 1) := by decide +kernel
theorem dX10_firstDifference_80 : decode cX10_firstDifference 80 = .ok (.iload 6, 2) := by decide +kernel
theorem dX10_firstDifference_82 : decode cX10_firstDifference 82 = .ok (.isub, 1) := by decide +kernel
theorem dX10_firstDifference_83 : decode cX10_firstDifference 83 = .ok (.istore 7, 2) := by decide +kernel
theorem dX10_firstDifference_85 : decode cX10_firstDifference 85 = .ok (.iload 7, 2) := by decide +kernel
theorem dX10_firstDifference_87 : decode cX10_firstDifference 87 = .ok (.iload_n 2, 1) := by decide +kernel
theorem dX10_firstDifference_88 : decode cX10_firstDifference 88 = .ok (.if_icmp .gt 30, 3) := by decide +kernel
theorem dX10_firstDifference_91 : decode cX10_firstDifference 91 = .ok (.aload_n 0, 1) := by decide +kernel
theorem dX10_firstDifference_92 : decode cX10_firstDifference 92 = .ok (.iload 5, 2) := by decide +kernel
theorem dX10_firstDifference_94 : decode cX10_firstDifference 94 = .ok (.iload 6, 2) := by decide +kernel
theorem dX10_firstDifference_96 : decode cX10_firstDifference 96 = .ok (.iload 7, 2) := by decide +kernel
theorem dX10_firstDifference_98 : decode cX10_firstDifference 98 = .ok (.invokestatic 282, 3) := by decide +kernel
theorem dX10_firstDifference_101 : decode cX10_firstDifference 101 = .ok (.iload_n 3, 1) := by decide +kernel
theorem dX10_firstDifference_102 : decode cX10_firstDifference 102 = .ok (.invokevirtual 472, 3) := by decide +kernel
theorem dX10_firstDifference_105 : decode cX10_firstDifference 105 = .ok (.ifCond .eq 13, 3) := by decide +kernel
theorem dX10_firstDifference_108 : decode cX10_firstDifference 108 = .ok (.iload 5, 2) := by decide +kernel
theorem dX10_firstDifference_110 : decode cX10_firstDifference 110 = .ok (.iload 6, 2) := by decide +kernel
theorem dX10_firstDifference_112 : decode cX10_firstDifference 112 = .ok (.iload 7, 2) := by decide +kernel
theorem dX10_firstDifference_114 : decode cX10_firstDifference 114 = .ok (.invokestatic 282, 3) := by decide +kernel
theorem dX10_firstDifference_117 : decode cX10_firstDifference 117 = .ok (.ireturn, 1) := by decide +kernel
theorem dX10_firstDifference_118 : decode cX10_firstDifference 118 = .ok (.iinc 6 1, 3) := by decide +kernel
theorem dX10_firstDifference_121 : decode cX10_firstDifference 121 = .ok (.goto (-62), 3) := by decide +kernel
theorem dX10_firstDifference_124 : decode cX10_firstDifference 124 = .ok (.iinc 5 1, 3) := by decide +kernel
theorem dX10_firstDifference_127 : decode cX10_firstDifference 127 = .ok (.goto (-84), 3) := by decide +kernel
theorem dX10_firstDifference_130 : decode cX10_firstDifference 130 = .ok (.iinc 4 1, 3) := by decide +kernel
theorem dX10_firstDifference_133 : decode cX10_firstDifference 133 = .ok (.goto (-101), 3) := by decide +kernel
theorem dX10_firstDifference_136 : decode cX10_firstDifference 136 = .ok (.new 164, 3) := by decide +kernel
theorem dX10_firstDifference_139 : decode cX10_firstDifference 139 = .ok (.dup, 1) := by decide +kernel
theorem dX10_firstDifference_140 : decode cX10_firstDifference 140 = .ok (.ldc_w 476, 3) := by decide +kernel
theorem dX10_firstDifference_143 : decode cX10_firstDifference 143 = .ok (.invokespecial 168, 3) := by decide +kernel
theorem dX10_firstDifference_146 : decode cX10_firstDifference 146 = .ok (.athrow, 1) := by decide +kernel
set_option maxRecDepth 20000 in
theorem ggX10_isDifference_X5_at : GoodIn wsX10_isDifference wsX5_at := goodIn_ca (goodIn_r _ [8, 9, 31] (by decide +kernel) (by decide +kernel)) (goodIn_sub (fun _ h => List.mem_cons_of_mem _ (List.mem_append_right _ h)) (gsub_f _))
set_option maxRecDepth 20000 in
theorem gX10_isDifference_X5_at : GoodIn wsX10_isDifference (wsV RX10 286 RX5 yX5_at wsX5_at) := goodIn_app (goodIn_of _ (by decide +kernel)) ggX10_isDifference_X5_at
set_option maxRecDepth 20000 in
theorem ggX10_isDifference_X0_accepting : GoodIn wsX10_isDifference wsX0_accepting := goodIn_r _ [14, 15, 32, 33, 34] (by decide +kernel) (by decide +kernel)
set_option maxRecDepth 20000 in
theorem gX10_isDifference_X0_accepting : GoodIn wsX10_isDifference (wsV RX10 181 RX0 yX0_accepting wsX0_accepting) := goodIn_app (goodIn_of _ (by decide +kernel)) ggX10_isDifference_X0_accepting
theorem dX10_isDifference_0 : decode cX10_isDifference 0 = .ok (.aload_n 0, 1) := by decide +kernel
theorem dX10_isDifference_1 : decode cX10_isDifference 1 = .ok (.getfield 12, 3) := by decide +kernel
theorem dX10_isDifference_4 : decode cX10_isDifference 4 = .ok (.aload_n 0, 1) := by decide +kernel
theorem dX10_isDifference_5 : decode cX10_isDifference 5 = .ok (.getfield 48, 3) := by decide +kernel
theorem dX10_isDifference_8 : decode cX10_isDifference 8 = .ok (.iload_n 1, 1) := by decide +kernel
theorem dX10_isDifference_9 : decode cX10_isDifference 9 = .ok (.invokevirtual 286, 3) := by decide +kernel
theorem dX10_isDifference_12 : decode cX10_isDifference 12 = .ok (.invokevirtual 181, 3) := by decide +kernel
theorem dX10_isDifference_15 : decode cX10_isDifference 15 = .ok (.istore_n 3, 1) := by decide +kernel
theorem dX10_isDifference_16 : decode cX10_isDifference 16 = .ok (.aload_n 0, 1) := by decide +kernel
theorem dX10_isDifference_17 : decode cX10_isDifference 17 = .ok (.getfield 52, 3) := by decide +kernel
theorem dX10_isDifference_20 : decode cX10_isDifference 20 = .ok (.iload_n 1, 1) := by decide +kernel
theorem dX10_isDifference_21 : decode cX10_isDifference 21 = .ok (.invokevirtual 286, 3) := by decide +kernel
theorem dX10_isDifference_24 : decode cX10_isDifference 24 = .ok (.ifCond .eq 7, 3) := by decide +kernel
theorem dX10_isDifference_27 : decode cX10_isDifference 27 = .ok (.iconst 1, 1) := by decide +kernel
theorem dX10_isDifference_28 : decode cX10_isDifference 28 = .ok (.goto 4, 3) := by decide +kernel
theorem dX10_isDifference_31 : decode cX10_isDifference 31 = .ok (.iconst 0, 1) := by decide +kernel
theorem dX10_isDifference_32 : decode cX10_isDifference 32 = .ok (.istore 4, 2) := by decide +kernel
theorem dX10_isDifference_34 : decode cX10_isDifference 34 = .ok (.iload_n 3, 1) := by decide +kernel
theorem dX10_isDifference_35 : decode cX10_isDifference 35 = .ok (.iload_n 2, 1) := by decide +kernel
theorem dX10_isDifference_36 : decode cX10_isDifference 36 = .ok (.if_icmp .ne 13, 3) := by decide +kernel
theorem dX10_isDifference_39 : decode cX10_isDifference 39 = .ok (.iload 4, 2) := by decide +kernel
theorem dX10_isDifference_41 : decode cX10_isDifference 41 = .ok (.iload_n 2, 1) := by decide +kernel
theorem dX10_isDifference_42 : decode cX10_isDifference 42 = .ok (.if_icmp .eq 7, 3) := by decide +kernel
theorem dX10_isDifference_45 : decode cX10_isDifference 45 = .ok (.iconst 1, 1) := by decide +kernel
theorem dX10_isDifference_46 : decode cX10_isDifference 46 = .ok (.goto 4, 3) := by decide +kernel
theorem dX10_isDifference_49 : decode cX10_isDifference 49 = .ok (.iconst 0, 1) := by decide +kernel
theorem dX10_isDifference_50 : decode cX10_isDifference 50 = .ok (.ireturn, 1) := by decide +kernel
set_option maxRecDepth 20000 in
theorem ggX10_countWords_X9_countInOrder : GoodIn wsX10_countWords wsX9_countInOrder := goodIn_ca (goodIn_r _ [9, 10, 11, 12, 13, 14, 15, 16, 17, 8, 18, 19, 20, 21, 22, 23, 24, 25, 26, 27, 28, 29, 30, 31, 32, 107, 108, 109, 110, 111, 112, 113, 114, 115, 116] (by decide +kernel) (by decide +kernel)) (goodIn_sub (fun _ h => List.mem_cons_of_mem _ (List.mem_append_left _ (List.mem_append_right _ h))) (gsub_f _))
set_option maxRecDepth 20000 in
theorem gX10_countWords_X9_countInOrder : GoodIn wsX10_countWords (wsV RX10 478 RX9 yX9_countInOrder wsX9_countInOrder) := goodIn_app (goodIn_r _ [5, 6, 7, 8] (by decide +kernel) (by decide +kernel)) ggX10_countWords_X9_countInOrder
set_option maxRecDepth 20000 in
theorem ggX10_countWords_X5_fillReached : GoodIn wsX10_countWords wsX5_fillReached := goodIn_ca (goodIn_r _ [37, 38, 39, 26, 40, 41, 42, 43, 44, 45, 46, 20, 21, 22, 23, 24, 25, 27, 117, 114, 115, 116] (by decide +kernel) (by decide +kernel)) (goodIn_sub (fun _ h => List.mem_cons_of_mem _ (List.mem_append_left _ (List.mem_append_right _ h))) (gsub_f _))
set_option maxRecDepth 20000 in
theorem gX10_countWords_X5_fillReached : GoodIn wsX10_countWords (wsV RX10 278 RX5 yX5_fillReached wsX5_fillReached) := goodIn_app (goodIn_r _ [33, 34, 35, 36] (by decide +kernel) (by decide +kernel)) ggX10_countWords_X5_fillReached
set_option maxRecDepth 20000 in
theorem ggX10_countWords_X10_countJumping : GoodIn wsX10_countWords wsX10_countJumping := goodIn_ca (goodIn_ca (goodIn_r _ [50, 2, 3, 51, 44, 26, 45, 52, 53, 54, 36, 55, 38, 56, 29, 30, 22, 31, 32, 57, 58, 59, 92, 93, 94, 95, 96, 97, 98, 99, 100, 101, 102, 103, 104, 105, 106, 117, 114, 115, 116] (by decide +kernel) (by decide +kernel)) (goodIn_sub (fun _ h => List.mem_cons_of_mem _ (List.mem_append_left _ (List.mem_append_right _ h))) (gsub_f _))) (goodIn_sub (fun _ h => List.mem_cons_of_mem _ (List.mem_append_right _ h)) (gsub_f _))
set_option maxRecDepth 20000 in
theorem gX10_countWords_X10_countJumping : GoodIn wsX10_countWords (wsV RX10 482 RX10 yX10_countJumping wsX10_countJumping) := goodIn_app (goodIn_r _ [47, 48, 49, 26] (by decide +kernel) (by decide +kernel)) ggX10_countWords_X10_countJumping
set_option maxRecDepth 20000 in
theorem ggX10_countWords_X8_countAccepted : GoodIn wsX10_countWords wsX8_countAccepted := goodIn_ca (goodIn_r _ [64, 65, 66, 67, 63, 68, 69, 70, 71, 72, 73, 74, 75, 76, 77, 78, 79, 80, 81, 82, 83, 84, 85, 86, 20, 21, 22, 23, 24, 25, 26, 27, 87, 88, 89, 90, 91, 29, 30, 31, 32, 118, 119, 120, 121, 122, 114, 115, 116] (by decide +kernel) (by decide +kernel)) (goodIn_sub (fun _ h => List.mem_cons_of_mem _ (List.mem_append_left _ (List.mem_append_right _ h))) (gsub_f _))
set_option maxRecDepth 20000 in
theorem gX10_countWords_X8_countAccepted : GoodIn wsX10_countWords (wsV RX10 486 RX8 yX8_countAccepted wsX8_countAccepted) := goodIn_app (goodIn_r _ [60, 61, 62, 63] (by decide +kernel) (by decide +kernel)) ggX10_countWords_X8_countAccepted
theorem dX10_countWords_0 : decode cX10_countWords 0 = .ok (.iload_n 1, 1) := by decide +kernel
theorem dX10_countWords_1 : decode cX10_countWords 1 = .ok (.ifCond .ne 16, 3) := by decide +kernel
theorem dX10_countWords_4 : decode cX10_countWords 4 = .ok (.aload_n 0, 1) := by decide +kernel
theorem dX10_countWords_5 : decode cX10_countWords 5 = .ok (.getfield 75, 3) := by decide +kernel
theorem dX10_countWords_8 : decode cX10_countWords 8 = .ok (.aload_n 0, 1) := by decide +kernel
theorem dX10_countWords_9 : decode cX10_countWords 9 = .ok (.getfield 12, 3) := by decide +kernel
theorem dX10_countWords_12 : decode cX10_countWords 12 = .ok (.iload_n 2, 1) := by decide +kernel
theorem dX10_countWords_13 : decode cX10_countWords 13 = .ok (.invokevirtual 478, 3) := by decide +kernel
theorem dX10_countWords_16 : decode cX10_countWords 16 = .ok (.lreturn, 1) := by decide +kernel
theorem dX10_countWords_17 : decode cX10_countWords 17 = .ok (.iload_n 1, 1) := by decide +kernel
theorem dX10_countWords_18 : decode cX10_countWords 18 = .ok (.iconst 1, 1) := by decide +kernel
theorem dX10_countWords_19 : decode cX10_countWords 19 = .ok (.if_icmp .ne 23, 3) := by decide +kernel
theorem dX10_countWords_22 : decode cX10_countWords 22 = .ok (.aload_n 0, 1) := by decide +kernel
theorem dX10_countWords_23 : decode cX10_countWords 23 = .ok (.getfield 48, 3) := by decide +kernel
theorem dX10_countWords_26 : decode cX10_countWords 26 = .ok (.aload_n 0, 1) := by decide +kernel
theorem dX10_countWords_27 : decode cX10_countWords 27 = .ok (.getfield 12, 3) := by decide +kernel
theorem dX10_countWords_30 : decode cX10_countWords 30 = .ok (.iload_n 2, 1) := by decide +kernel
theorem dX10_countWords_31 : decode cX10_countWords 31 = .ok (.iload_n 2, 1) := by decide +kernel
theorem dX10_countWords_32 : decode cX10_countWords 32 = .ok (.iload_n 2, 1) := by decide +kernel
theorem dX10_countWords_33 : decode cX10_countWords 33 = .ok (.invokevirtual 278, 3) := by decide +kernel
theorem dX10_countWords_36 : decode cX10_countWords 36 = .ok (.aload_n 0, 1) := by decide +kernel
theorem dX10_countWords_37 : decode cX10_countWords 37 = .ok (.iload_n 2, 1) := by decide +kernel
theorem dX10_countWords_38 : decode cX10_countWords 38 = .ok (.invokevirtual 482, 3) := by decide +kernel
theorem dX10_countWords_41 : decode cX10_countWords 41 = .ok (.lreturn, 1) := by decide +kernel
theorem dX10_countWords_42 : decode cX10_countWords 42 = .ok (.aload_n 0, 1) := by decide +kernel
theorem dX10_countWords_43 : decode cX10_countWords 43 = .ok (.getfield 82, 3) := by decide +kernel
theorem dX10_countWords_46 : decode cX10_countWords 46 = .ok (.aload_n 0, 1) := by decide +kernel
theorem dX10_countWords_47 : decode cX10_countWords 47 = .ok (.getfield 12, 3) := by decide +kernel
theorem dX10_countWords_50 : decode cX10_countWords 50 = .ok (.iload_n 2, 1) := by decide +kernel
theorem dX10_countWords_51 : decode cX10_countWords 51 = .ok (.invokevirtual 486, 3) := by decide +kernel
theorem dX10_countWords_54 : decode cX10_countWords 54 = .ok (.lreturn, 1) := by decide +kernel
set_option maxRecDepth 20000 in
theorem ggX10_countJumping_X10_codeOf : GoodIn wsX10_countJumping wsX10_codeOf := goodIn_r _ [6] (by decide +kernel) (by decide +kernel)
set_option maxRecDepth 20000 in
theorem gX10_countJumping_X10_codeOf : GoodIn wsX10_countJumping (va_wsS RX10 282 yX10_codeOf wsX10_codeOf) := goodIn_app (goodIn_of _ (by decide +kernel)) ggX10_countJumping_X10_codeOf
set_option maxRecDepth 20000 in
theorem ggX10_countJumping_X5_at : GoodIn wsX10_countJumping wsX5_at := goodIn_ca (goodIn_r _ [11, 12, 37] (by decide +kernel) (by decide +kernel)) (goodIn_sub (fun _ h => List.mem_cons_of_mem _ (List.mem_append_left _ (List.mem_append_right _ h))) (gsub_f _))
set_option maxRecDepth 20000 in
theorem gX10_countJumping_X5_at : GoodIn wsX10_countJumping (wsV RX10 286 RX5 yX5_at wsX5_at) := goodIn_app (goodIn_of _ (by decide +kernel)) ggX10_countJumping_X5_at
set_option maxRecDepth 20000 in
theorem ggX10_countJumping_X0_accepting : GoodIn wsX10_countJumping wsX0_accepting := goodIn_r _ [17, 18, 38, 39, 40] (by decide +kernel) (by decide +kernel)
set_option maxRecDepth 20000 in
theorem gX10_countJumping_X0_accepting : GoodIn wsX10_countJumping (wsV RX10 181 RX0 yX0_accepting wsX0_accepting) := goodIn_app (goodIn_of _ (by decide +kernel)) ggX10_countJumping_X0_accepting
set_option maxRecDepth 20000 in
theorem ggX10_countJumping_X10_choose : GoodIn wsX10_countJumping wsX10_choose := goodIn_ca (goodIn_r _ [21] (by decide +kernel) (by decide +kernel)) (goodIn_sub (fun _ h => List.mem_cons_of_mem _ (List.mem_append_right _ h)) (gsub_f _))
set_option maxRecDepth 20000 in
theorem gX10_countJumping_X10_choose : GoodIn wsX10_countJumping (va_wsS RX10 489 yX10_choose wsX10_choose) := goodIn_app (goodIn_of _ (by decide +kernel)) ggX10_countJumping_X10_choose
theorem dX10_countJumping_0 : decode cX10_countJumping 0 = .ok (.lconst 0, 1) := by decide +kernel
theorem dX10_countJumping_1 : decode cX10_countJumping 1 = .ok (.lstore_n 2, 1) := by decide +kernel
theorem dX10_countJumping_2 : decode cX10_countJumping 2 = .ok (.iconst 0, 1) := by decide +kernel
theorem dX10_countJumping_3 : decode cX10_countJumping 3 = .ok (.istore 4, 2) := by decide +kernel
theorem dX10_countJumping_5 : decode cX10_countJumping 5 = .ok (.iload 4, 2) := by decide +kernel
theorem dX10_countJumping_7 : decode cX10_countJumping 7 = .ok (.iload_n 1, 1) := by decide +kernel
theorem dX10_countJumping_8 : decode cX10_countJumping 8 = .ok (.if_icmp .gt 82, 3) := by decide +kernel
theorem dX10_countJumping_11 : decode cX10_countJumping 11 = .ok (.iconst 0, 1) := by decide +kernel
theorem dX10_countJumping_12 : decode cX10_countJumping 12 = .ok (.istore 5, 2) := by decide +kernel
theorem dX10_countJumping_14 : decode cX10_countJumping 14 = .ok (.iload 4, 2) := by decide +kernel
theorem dX10_countJumping_16 : decode cX10_countJumping 16 = .ok (.iload 5, 2) := by decide +kernel
theorem dX10_countJumping_18 : decode cX10_countJumping 18 = .ok (.iadd, 1) := by decide +kernel
theorem dX10_countJumping_19 : decode cX10_countJumping 19 = .ok (.iload_n 1, 1) := by decide +kernel
theorem dX10_countJumping_20 : decode cX10_countJumping 20 = .ok (.if_icmp .gt 64, 3) := by decide +kernel
theorem dX10_countJumping_23 : decode cX10_countJumping 23 = .ok (.iload_n 1, 1) := by decide +kernel
theorem dX10_countJumping_24 : decode cX10_countJumping 24 = .ok (.iload 4, 2) := by decide +kernel
theorem dX10_countJumping_26 : decode cX10_countJumping 26 = .ok (.isub, 1) := by decide +kernel
theorem dX10_countJumping_27 : decode cX10_countJumping 27 = .ok (.iload 5, 2) := by decide +kernel
theorem dX10_countJumping_29 : decode cX10_countJumping 29 = .ok (.isub, 1) := by decide +kernel
theorem dX10_countJumping_30 : decode cX10_countJumping 30 = .ok (.istore 6, 2) := by decide +kernel
theorem dX10_countJumping_32 : decode cX10_countJumping 32 = .ok (.aload_n 0, 1) := by decide +kernel
theorem dX10_countJumping_33 : decode cX10_countJumping 33 = .ok (.getfield 12, 3) := by decide +kernel
theorem dX10_countJumping_36 : decode cX10_countJumping 36 = .ok (.aload_n 0, 1) := by decide +kernel
theorem dX10_countJumping_37 : decode cX10_countJumping 37 = .ok (.getfield 48, 3) := by decide +kernel
theorem dX10_countJumping_40 : decode cX10_countJumping 40 = .ok (.iload 4, 2) := by decide +kernel
theorem dX10_countJumping_42 : decode cX10_countJumping 42 = .ok (.iload 5, 2) := by decide +kernel
theorem dX10_countJumping_44 : decode cX10_countJumping 44 = .ok (.iload 6, 2) := by decide +kernel
theorem dX10_countJumping_46 : decode cX10_countJumping 46 = .ok (.invokestatic 282, 3) := by decide +kernel
theorem dX10_countJumping_49 : decode cX10_countJumping 49 = .ok (.invokevirtual 286, 3) := by decide +kernel
theorem dX10_countJumping_52 : decode cX10_countJumping 52 = .ok (.invokevirtual 181, 3) := by decide +kernel
theorem dX10_countJumping_55 : decode cX10_countJumping 55 = .ok (.ifCond .eq 23, 3) := by decide +kernel
theorem dX10_countJumping_58 : decode cX10_countJumping 58 = .ok (.lload_n 2, 1) := by decide +kernel
theorem dX10_countJumping_59 : decode cX10_countJumping 59 = .ok (.iload_n 1, 1) := by decide +kernel
theorem dX10_countJumping_60 : decode cX10_countJumping 60 = .ok (.iload 4, 2) := by decide +kernel
theorem dX10_countJumping_62 : decode cX10_countJumping 62 = .ok (.invokestatic 489, 3) := by decide +kernel
theorem dX10_countJumping_65 : decode cX10_countJumping 65 = .ok (.iload 5, 2) := by decide +kernel
theorem dX10_countJumping_67 : decode cX10_countJumping 67 = .ok (.iload 6, 2) := by decide +kernel
theorem dX10_countJumping_69 : decode cX10_countJumping 69 = .ok (.iadd, 1) := by decide +kernel
theorem dX10_countJumping_70 : decode cX10_countJumping 70 = .ok (.iload 5, 2) := by decide +kernel
theorem dX10_countJumping_72 : decode cX10_countJumping 72 = .ok (.invokestatic 489, 3) := by decide +kernel
theorem dX10_countJumping_75 : decode cX10_countJumping 75 = .ok (.lmul, 1) := by decide +kernel
theorem dX10_countJumping_76 : decode cX10_countJumping 76 = .ok (.ladd, 1) := by decide +kernel
theorem dX10_countJumping_77 : decode cX10_countJumping 77 = .ok (.lstore_n 2, 1) := by decide +kernel
theorem dX10_countJumping_78 : decode cX10_countJumping 78 = .ok (.iinc 5 1, 3) := by decide +kernel
theorem dX10_countJumping_81 : decode cX10_countJumping 81 = .ok (.goto (-67), 3) := by decide +kernel
theorem dX10_countJumping_84 : decode cX10_countJumping 84 = .ok (.iinc 4 1, 3) := by decide +kernel
theorem dX10_countJumping_87 : decode cX10_countJumping 87 = .ok (.goto (-82), 3) := by decide +kernel
theorem dX10_countJumping_90 : decode cX10_countJumping 90 = .ok (.lload_n 2, 1) := by decide +kernel
theorem dX10_countJumping_91 : decode cX10_countJumping 91 = .ok (.lreturn, 1) := by decide +kernel
set_option maxRecDepth 20000 in
theorem ggX10_shortestOpenLength_X5_fillReached : GoodIn wsX10_shortestOpenLength wsX5_fillReached := goodIn_ca (goodIn_r _ [8, 9, 10, 11, 12, 13, 14, 15, 16, 17, 18, 19, 20, 21, 22, 23, 24, 25, 74, 75, 76, 77] (by decide +kernel) (by decide +kernel)) (goodIn_sub (fun _ h => List.mem_cons_of_mem _ (List.mem_append_left _ (List.mem_append_right _ h))) (gsub_f _))
set_option maxRecDepth 20000 in
theorem gX10_shortestOpenLength_X5_fillReached : GoodIn wsX10_shortestOpenLength (wsV RX10 278 RX5 yX5_fillReached wsX5_fillReached) := goodIn_app (goodIn_r _ [4, 5, 6, 7] (by decide +kernel) (by decide +kernel)) ggX10_shortestOpenLength_X5_fillReached
set_option maxRecDepth 20000 in
theorem ggX10_shortestOpenLength_X10_countJumping : GoodIn wsX10_shortestOpenLength wsX10_countJumping := goodIn_ca (goodIn_ca (goodIn_r _ [29, 2, 1, 30, 16, 11, 17, 31, 32, 33, 7, 34, 9, 35, 36, 37, 21, 38, 39, 40, 41, 42, 59, 60, 61, 62, 63, 64, 65, 66, 67, 68, 69, 70, 71, 72, 73, 74, 75, 76, 77] (by decide +kernel) (by decide +kernel)) (goodIn_sub (fun _ h => List.mem_cons_of_mem _ (List.mem_append_left _ (List.mem_append_right _ h))) (gsub_f _))) (goodIn_sub (fun _ h => List.mem_cons_of_mem _ (List.mem_append_right _ h)) (gsub_f _))
set_option maxRecDepth 20000 in
theorem gX10_shortestOpenLength_X10_countJumping : GoodIn wsX10_shortestOpenLength (wsV RX10 482 RX10 yX10_countJumping wsX10_countJumping) := goodIn_app (goodIn_r _ [26, 27, 28, 11] (by decide +kernel) (by decide +kernel)) ggX10_shortestOpenLength_X10_countJumping
set_option maxRecDepth 20000 in
theorem ggX10_shortestOpenLength_X9_countInOrder : GoodIn wsX10_shortestOpenLength wsX9_countInOrder := goodIn_ca (goodIn_r _ [47, 48, 49, 50, 51, 52, 53, 54, 55, 46, 56, 57, 19, 20, 21, 22, 23, 24, 11, 25, 58, 36, 37, 38, 39, 78, 79, 80, 81, 82, 83, 84, 75, 76, 77] (by decide +kernel) (by decide +kernel)) (goodIn_sub (fun _ h => List.mem_cons_of_mem _ (List.mem_append_left _ (List.mem_append_right _ h))) (gsub_f _))
set_option maxRecDepth 20000 in
theorem gX10_shortestOpenLength_X9_countInOrder : GoodIn wsX10_shortestOpenLength (wsV RX10 478 RX9 yX9_countInOrder wsX9_countInOrder) := goodIn_app (goodIn_r _ [43, 44, 45, 46] (by decide +kernel) (by decide +kernel)) ggX10_shortestOpenLength_X9_countInOrder
theorem dX10_shortestOpenLength_0 : decode cX10_shortestOpenLength 0 = .ok (.aload_n 0, 1) := by decide +kernel
theorem dX10_shortestOpenLength_1 : decode cX10_shortestOpenLength 1 = .ok (.getfield 48, 3) := by decide +kernel
theorem dX10_shortestOpenLength_4 : decode cX10_shortestOpenLength 4 = .ok (.aload_n 0, 1) := by decide +kernel
theorem dX10_shortestOpenLength_5 : decode cX10_shortestOpenLength 5 = .ok (.getfield 12, 3) := by decide +kernel
theorem dX10_shortestOpenLength_8 : decode cX10_shortestOpenLength 8 = .ok (.iload_n 1, 1) := by decide +kernel
theorem dX10_shortestOpenLength_9 : decode cX10_shortestOpenLength 9 = .ok (.iload_n 1, 1) := by decide +kernel
theorem dX10_shortestOpenLength_10 : decode cX10_shortestOpenLength 10 = .ok (.iload_n 1, 1) := by decide +kernel
theorem dX10_shortestOpenLength_11 : decode cX10_shortestOpenLength 11 = .ok (.invokevirtual 278, 3) := by decide +kernel
theorem dX10_shortestOpenLength_14 : decode cX10_shortestOpenLength 14 = .ok (.iconst 0, 1) := by decide +kernel
theorem dX10_shortestOpenLength_15 : decode cX10_shortestOpenLength 15 = .ok (.istore_n 2, 1) := by decide +kernel
theorem dX10_shortestOpenLength_16 : decode cX10_shortestOpenLength 16 = .ok (.iload_n 2, 1) := by decide +kernel
theorem dX10_shortestOpenLength_17 : decode cX10_shortestOpenLength 17 = .ok (.iload_n 1, 1) := by decide +kernel
theorem dX10_shortestOpenLength_18 : decode cX10_shortestOpenLength 18 = .ok (.if_icmp .gt 32, 3) := by decide +kernel
theorem dX10_shortestOpenLength_21 : decode cX10_shortestOpenLength 21 = .ok (.aload_n 0, 1) := by decide +kernel
theorem dX10_shortestOpenLength_22 : decode cX10_shortestOpenLength 22 = .ok (.iload_n 2, 1) := by decide +kernel
theorem dX10_shortestOpenLength_23 : decode cX10_shortestOpenLength 23 = .ok (.invokevirtual 482, 3) := by decide +kernel
theorem dX10_shortestOpenLength_26 : decode cX10_shortestOpenLength 26 = .ok (.aload_n 0, 1) := by decide +kernel
theorem dX10_shortestOpenLength_27 : decode cX10_shortestOpenLength 27 = .ok (.getfield 75, 3) := by decide +kernel
theorem dX10_shortestOpenLength_30 : decode cX10_shortestOpenLength 30 = .ok (.aload_n 0, 1) := by decide +kernel
theorem dX10_shortestOpenLength_31 : decode cX10_shortestOpenLength 31 = .ok (.getfield 12, 3) := by decide +kernel
theorem dX10_shortestOpenLength_34 : decode cX10_shortestOpenLength 34 = .ok (.iload_n 2, 1) := by decide +kernel
theorem dX10_shortestOpenLength_35 : decode cX10_shortestOpenLength 35 = .ok (.invokevirtual 478, 3) := by decide +kernel
theorem dX10_shortestOpenLength_38 : decode cX10_shortestOpenLength 38 = .ok (.lcmp, 1) := by decide +kernel
theorem dX10_shortestOpenLength_39 : decode cX10_shortestOpenLength 39 = .ok (.ifCond .eq 5, 3) := by decide +kernel
theorem dX10_shortestOpenLength_42 : decode cX10_shortestOpenLength 42 = .ok (.iload_n 2, 1) := by decide +kernel
theorem dX10_shortestOpenLength_43 : decode cX10_shortestOpenLength 43 = .ok (.ireturn, 1) := by decide +kernel
theorem dX10_shortestOpenLength_44 : decode cX10_shortestOpenLength 44 = .ok (.iinc 2 1, 3) := by decide +kernel
theorem dX10_shortestOpenLength_47 : decode cX10_shortestOpenLength 47 = .ok (.goto (-31), 3) := by decide +kernel
theorem dX10_shortestOpenLength_50 : decode cX10_shortestOpenLength 50 = .ok (.iconst (-1), 1) := by decide +kernel
theorem dX10_shortestOpenLength_51 : decode cX10_shortestOpenLength 51 = .ok (.ireturn, 1) := by decide +kernel
