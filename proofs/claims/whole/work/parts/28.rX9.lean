theorem dX9_init_0 : decode cX9_init 0 = .ok (.aload_n 0, 1) := by decide +kernel
theorem dX9_init_1 : decode cX9_init 1 = .ok (.invokespecial 3, 3) := by decide +kernel
theorem dX9_init_4 : decode cX9_init 4 = .ok (.aload_n 0, 1) := by decide +kernel
theorem dX9_init_5 : decode cX9_init 5 = .ok (.bipush 8, 2) := by decide +kernel
theorem dX9_init_7 : decode cX9_init 7 = .ok (.newarray .int, 2) := by decide +kernel
theorem dX9_init_9 : decode cX9_init 9 = .ok (.putfield 9, 3) := by decide +kernel
theorem dX9_init_12 : decode cX9_init 12 = .ok (.aload_n 0, 1) := by decide +kernel
theorem dX9_init_13 : decode cX9_init 13 = .ok (.iconst 3, 1) := by decide +kernel
theorem dX9_init_14 : decode cX9_init 14 = .ok (.newarray .int, 2) := by decide +kernel
theorem dX9_init_16 : decode cX9_init 16 = .ok (.putfield 15, 3) := by decide +kernel
theorem dX9_init_19 : decode cX9_init 19 = .ok (.aload_n 0, 1) := by decide +kernel
theorem dX9_init_20 : decode cX9_init 20 = .ok (.iconst 0, 1) := by decide +kernel
theorem dX9_init_21 : decode cX9_init 21 = .ok (.putfield 18, 3) := by decide +kernel
theorem dX9_init_24 : decode cX9_init 24 = .ok (.aload_n 0, 1) := by decide +kernel
theorem dX9_init_25 : decode cX9_init 25 = .ok (.iconst 0, 1) := by decide +kernel
theorem dX9_init_26 : decode cX9_init 26 = .ok (.putfield 22, 3) := by decide +kernel
theorem dX9_init_29 : decode cX9_init 29 = .ok (.aload_n 0, 1) := by decide +kernel
theorem dX9_init_30 : decode cX9_init 30 = .ok (.iconst 0, 1) := by decide +kernel
theorem dX9_init_31 : decode cX9_init 31 = .ok (.putfield 25, 3) := by decide +kernel
theorem dX9_init_34 : decode cX9_init 34 = .ok (.aload_n 0, 1) := by decide +kernel
theorem dX9_init_35 : decode cX9_init 35 = .ok (.bipush 32, 2) := by decide +kernel
theorem dX9_init_37 : decode cX9_init 37 = .ok (.newarray .long, 2) := by decide +kernel
theorem dX9_init_39 : decode cX9_init 39 = .ok (.putfield 28, 3) := by decide +kernel
theorem dX9_init_42 : decode cX9_init 42 = .ok (.aload_n 0, 1) := by decide +kernel
theorem dX9_init_43 : decode cX9_init 43 = .ok (.bipush 32, 2) := by decide +kernel
theorem dX9_init_45 : decode cX9_init 45 = .ok (.newarray .long, 2) := by decide +kernel
theorem dX9_init_47 : decode cX9_init 47 = .ok (.putfield 32, 3) := by decide +kernel
theorem dX9_init_50 : decode cX9_init 50 = .ok (.return_, 1) := by decide +kernel
set_option maxRecDepth 20000 in
theorem ggX9_countRuns_X9_clearRow : GoodIn wsX9_countRuns wsX9_clearRow := goodIn_ca (goodIn_r _ [10] (by decide +kernel) (by decide +kernel)) (goodIn_sub (fun _ h => List.mem_cons_of_mem _ (List.mem_append_right _ h)) (by decide +kernel))
set_option maxRecDepth 20000 in
theorem gX9_countRuns_X9_clearRow : GoodIn wsX9_countRuns (va_wsS RX9 35 yX9_clearRow wsX9_clearRow) := goodIn_app (goodIn_of _ (by decide +kernel)) ggX9_countRuns_X9_clearRow
set_option maxRecDepth 20000 in
theorem ggX9_countRuns_X0_targetsOf : GoodIn wsX9_countRuns wsX0_targetsOf := goodIn_ca (goodIn_r _ [15, 16, 17, 18, 19, 20, 21, 34, 35, 36] (by decide +kernel) (by decide +kernel)) (goodIn_sub (fun _ h => List.mem_cons_of_mem _ (List.mem_append_right _ h)) (by decide +kernel))
set_option maxRecDepth 20000 in
theorem gX9_countRuns_X0_targetsOf : GoodIn wsX9_countRuns (wsV RX9 39 RX0 yX0_targetsOf wsX0_targetsOf) := goodIn_app (goodIn_of _ (by decide +kernel)) ggX9_countRuns_X0_targetsOf
set_option maxRecDepth 20000 in
theorem ggX9_countRuns_X0_accepting : GoodIn wsX9_countRuns wsX0_accepting := goodIn_r _ [25, 26, 34, 35, 36] (by decide +kernel) (by decide +kernel)
set_option maxRecDepth 20000 in
theorem gX9_countRuns_X0_accepting : GoodIn wsX9_countRuns (wsV RX9 51 RX0 yX0_accepting wsX0_accepting) := goodIn_app (goodIn_of _ (by decide +kernel)) ggX9_countRuns_X0_accepting
theorem dX9_countRuns_0 : decode cX9_countRuns 0 = .ok (.aload_n 0, 1) := by decide +kernel
theorem dX9_countRuns_1 : decode cX9_countRuns 1 = .ok (.getfield 28, 3) := by decide +kernel
theorem dX9_countRuns_4 : decode cX9_countRuns 4 = .ok (.invokestatic 35, 3) := by decide +kernel
theorem dX9_countRuns_7 : decode cX9_countRuns 7 = .ok (.aload_n 0, 1) := by decide +kernel
theorem dX9_countRuns_8 : decode cX9_countRuns 8 = .ok (.getfield 28, 3) := by decide +kernel
theorem dX9_countRuns_11 : decode cX9_countRuns 11 = .ok (.iconst 0, 1) := by decide +kernel
theorem dX9_countRuns_12 : decode cX9_countRuns 12 = .ok (.lconst 1, 1) := by decide +kernel
theorem dX9_countRuns_13 : decode cX9_countRuns 13 = .ok (.lastore, 1) := by decide +kernel
theorem dX9_countRuns_14 : decode cX9_countRuns 14 = .ok (.iconst 0, 1) := by decide +kernel
theorem dX9_countRuns_15 : decode cX9_countRuns 15 = .ok (.istore 4, 2) := by decide +kernel
theorem dX9_countRuns_17 : decode cX9_countRuns 17 = .ok (.iload 4, 2) := by decide +kernel
theorem dX9_countRuns_19 : decode cX9_countRuns 19 = .ok (.iload_n 3, 1) := by decide +kernel
theorem dX9_countRuns_20 : decode cX9_countRuns 20 = .ok (.if_icmp .ge 111, 3) := by decide +kernel
theorem dX9_countRuns_23 : decode cX9_countRuns 23 = .ok (.iload 4, 2) := by decide +kernel
theorem dX9_countRuns_25 : decode cX9_countRuns 25 = .ok (.aload_n 2, 1) := by decide +kernel
theorem dX9_countRuns_26 : decode cX9_countRuns 26 = .ok (.arraylength, 1) := by decide +kernel
theorem dX9_countRuns_27 : decode cX9_countRuns 27 = .ok (.if_icmp .ge 104, 3) := by decide +kernel
theorem dX9_countRuns_30 : decode cX9_countRuns 30 = .ok (.aload_n 0, 1) := by decide +kernel
theorem dX9_countRuns_31 : decode cX9_countRuns 31 = .ok (.getfield 32, 3) := by decide +kernel
theorem dX9_countRuns_34 : decode cX9_countRuns 34 = .ok (.invokestatic 35, 3) := by decide +kernel
theorem dX9_countRuns_37 : decode cX9_countRuns 37 = .ok (.iconst 0, 1) := by decide +kernel
theorem dX9_countRuns_38 : decode cX9_countRuns 38 = .ok (.istore 5, 2) := by decide +kernel
theorem dX9_countRuns_40 : decode cX9_countRuns 40 = .ok (.iload 5, 2) := by decide +kernel
theorem dX9_countRuns_42 : decode cX9_countRuns 42 = .ok (.iconst 5, 1) := by decide +kernel
theorem dX9_countRuns_43 : decode cX9_countRuns 43 = .ok (.if_icmp .ge 67, 3) := by decide +kernel
theorem dX9_countRuns_46 : decode cX9_countRuns 46 = .ok (.aload_n 1, 1) := by decide +kernel
theorem dX9_countRuns_47 : decode cX9_countRuns 47 = .ok (.iload 5, 2) := by decide +kernel
theorem dX9_countRuns_49 : decode cX9_countRuns 49 = .ok (.aload_n 2, 1) := by decide +kernel
theorem dX9_countRuns_50 : decode cX9_countRuns 50 = .ok (.iload 4, 2) := by decide +kernel
theorem dX9_countRuns_52 : decode cX9_countRuns 52 = .ok (.iaload, 1) := by decide +kernel
theorem dX9_countRuns_53 : decode cX9_countRuns 53 = .ok (.invokevirtual 39, 3) := by decide +kernel
theorem dX9_countRuns_56 : decode cX9_countRuns 56 = .ok (.istore 6, 2) := by decide +kernel
theorem dX9_countRuns_58 : decode cX9_countRuns 58 = .ok (.iconst 0, 1) := by decide +kernel
theorem dX9_countRuns_59 : decode cX9_countRuns 59 = .ok (.istore 7, 2) := by decide +kernel
theorem dX9_countRuns_61 : decode cX9_countRuns 61 = .ok (.iload 7, 2) := by decide +kernel
theorem dX9_countRuns_63 : decode cX9_countRuns 63 = .ok (.iconst 5, 1) := by decide +kernel
theorem dX9_countRuns_64 : decode cX9_countRuns 64 = .ok (.if_icmp .ge 40, 3) := by decide +kernel
theorem dX9_countRuns_67 : decode cX9_countRuns 67 = .ok (.aload_n 0, 1) := by decide +kernel
theorem dX9_countRuns_68 : decode cX9_countRuns 68 = .ok (.getfield 32, 3) := by decide +kernel
theorem dX9_countRuns_71 : decode cX9_countRuns 71 = .ok (.iload 7, 2) := by decide +kernel
theorem dX9_countRuns_73 : decode cX9_countRuns 73 = .ok (.dup2, 1) := by decide +kernel
theorem dX9_countRuns_74 : decode cX9_countRuns 74 = .ok (.laload, 1) := by decide +kernel
theorem dX9_countRuns_75 : decode cX9_countRuns 75 = .ok (.iload 6, 2) := by decide +kernel
theorem dX9_countRuns_77 : decode cX9_countRuns 77 = .ok (.iload 7, 2) := by decide +kernel
theorem dX9_countRuns_79 : decode cX9_countRuns 79 = .ok (.ishr, 1) := by decide +kernel
theorem dX9_countRuns_80 : decode cX9_countRuns 80 = .ok (.iconst 1, 1) := by decide +kernel
theorem dX9_countRuns_81 : decode cX9_countRuns 81 = .ok (.iand, 1) := by decide +kernel
theorem dX9_countRuns_82 : decode cX9_countRuns 82 = .ok (.ifCond .eq 13, 3) := by decide +kernel
theorem dX9_countRuns_85 : decode cX9_countRuns 85 = .ok (.aload_n 0, 1) := by decide +kernel
theorem dX9_countRuns_86 : decode cX9_countRuns 86 = .ok (.getfield 28, 3) := by decide +kernel
theorem dX9_countRuns_89 : decode cX9_countRuns 89 = .ok (.iload 5, 2) := by decide +kernel
theorem dX9_countRuns_91 : decode cX9_countRuns 91 = .ok (.laload, 1) := by decide +kernel
theorem dX9_countRuns_92 : decode cX9_countRuns 92 = .ok (.goto 4, 3) := by decide +kernel
theorem dX9_countRuns_95 : decode cX9_countRuns 95 = .ok (.lconst 0, 1) := by decide +kernel
theorem dX9_countRuns_96 : decode cX9_countRuns 96 = .ok (.ladd, 1) := by decide +kernel
theorem dX9_countRuns_97 : decode cX9_countRuns 97 = .ok (.lastore, 1) := by decide +kernel
theorem dX9_countRuns_98 : decode cX9_countRuns 98 = .ok (.iinc 7 1, 3) := by decide +kernel
theorem dX9_countRuns_101 : decode cX9_countRuns 101 = .ok (.goto (-40), 3) := by decide +kernel
theorem dX9_countRuns_104 : decode cX9_countRuns 104 = .ok (.iinc 5 1, 3) := by decide +kernel
theorem dX9_countRuns_107 : decode cX9_countRuns 107 = .ok (.goto (-67), 3) := by decide +kernel
theorem dX9_countRuns_110 : decode cX9_countRuns 110 = .ok (.aload_n 0, 1) := by decide +kernel
theorem dX9_countRuns_111 : decode cX9_countRuns 111 = .ok (.getfield 32, 3) := by decide +kernel
theorem dX9_countRuns_114 : decode cX9_countRuns 114 = .ok (.iconst 0, 1) := by decide +kernel
theorem dX9_countRuns_115 : decode cX9_countRuns 115 = .ok (.aload_n 0, 1) := by decide +kernel
theorem dX9_countRuns_116 : decode cX9_countRuns 116 = .ok (.getfield 28, 3) := by decide +kernel
theorem dX9_countRuns_119 : decode cX9_countRuns 119 = .ok (.iconst 0, 1) := by decide +kernel
theorem dX9_countRuns_120 : decode cX9_countRuns 120 = .ok (.bipush 32, 2) := by decide +kernel
theorem dX9_countRuns_122 : decode cX9_countRuns 122 = .ok (.invokestatic 45, 3) := by decide +kernel
theorem dX9_countRuns_125 : decode cX9_countRuns 125 = .ok (.iinc 4 1, 3) := by decide +kernel
theorem dX9_countRuns_128 : decode cX9_countRuns 128 = .ok (.goto (-111), 3) := by decide +kernel
theorem dX9_countRuns_131 : decode cX9_countRuns 131 = .ok (.lconst 0, 1) := by decide +kernel
theorem dX9_countRuns_132 : decode cX9_countRuns 132 = .ok (.lstore 4, 2) := by decide +kernel
theorem dX9_countRuns_134 : decode cX9_countRuns 134 = .ok (.iconst 0, 1) := by decide +kernel
theorem dX9_countRuns_135 : decode cX9_countRuns 135 = .ok (.istore 6, 2) := by decide +kernel
theorem dX9_countRuns_137 : decode cX9_countRuns 137 = .ok (.iload 6, 2) := by decide +kernel
theorem dX9_countRuns_139 : decode cX9_countRuns 139 = .ok (.iconst 5, 1) := by decide +kernel
theorem dX9_countRuns_140 : decode cX9_countRuns 140 = .ok (.if_icmp .ge 36, 3) := by decide +kernel
theorem dX9_countRuns_143 : decode cX9_countRuns 143 = .ok (.lload 4, 2) := by decide +kernel
theorem dX9_countRuns_145 : decode cX9_countRuns 145 = .ok (.aload_n 1, 1) := by decide +kernel
theorem dX9_countRuns_146 : decode cX9_countRuns 146 = .ok (.iconst 1, 1) := by decide +kernel
theorem dX9_countRuns_147 : decode cX9_countRuns 147 = .ok (.iload 6, 2) := by decide +kernel
theorem dX9_countRuns_149 : decode cX9_countRuns 149 = .ok (.ishl, 1) := by decide +kernel
theorem dX9_countRuns_150 : decode cX9_countRuns 150 = .ok (.invokevirtual 51, 3) := by decide +kernel
theorem dX9_countRuns_153 : decode cX9_countRuns 153 = .ok (.ifCond .eq 13, 3) := by decide +kernel
theorem dX9_countRuns_156 : decode cX9_countRuns 156 = .ok (.aload_n 0, 1) := by decide +kernel
theorem dX9_countRuns_157 : decode cX9_countRuns 157 = .ok (.getfield 28, 3) := by decide +kernel
theorem dX9_countRuns_160 : decode cX9_countRuns 160 = .ok (.iload 6, 2) := by decide +kernel
theorem dX9_countRuns_162 : decode cX9_countRuns 162 = .ok (.laload, 1) := by decide +kernel
theorem dX9_countRuns_163 : decode cX9_countRuns 163 = .ok (.goto 4, 3) := by decide +kernel
theorem dX9_countRuns_166 : decode cX9_countRuns 166 = .ok (.lconst 0, 1) := by decide +kernel
theorem dX9_countRuns_167 : decode cX9_countRuns 167 = .ok (.ladd, 1) := by decide +kernel
theorem dX9_countRuns_168 : decode cX9_countRuns 168 = .ok (.lstore 4, 2) := by decide +kernel
theorem dX9_countRuns_170 : decode cX9_countRuns 170 = .ok (.iinc 6 1, 3) := by decide +kernel
theorem dX9_countRuns_173 : decode cX9_countRuns 173 = .ok (.goto (-36), 3) := by decide +kernel
theorem dX9_countRuns_176 : decode cX9_countRuns 176 = .ok (.lload 4, 2) := by decide +kernel
theorem dX9_countRuns_178 : decode cX9_countRuns 178 = .ok (.lreturn, 1) := by decide +kernel
set_option maxRecDepth 20000 in
theorem ggX9_countInOrder_X9_clearRow : GoodIn wsX9_countInOrder wsX9_clearRow := goodIn_ca (goodIn_r _ [10] (by decide +kernel) (by decide +kernel)) (goodIn_sub (fun _ h => List.mem_cons_of_mem _ (List.mem_append_right _ h)) (by decide +kernel))
set_option maxRecDepth 20000 in
theorem gX9_countInOrder_X9_clearRow : GoodIn wsX9_countInOrder (va_wsS RX9 35 yX9_clearRow wsX9_clearRow) := goodIn_app (goodIn_of _ (by decide +kernel)) ggX9_countInOrder_X9_clearRow
set_option maxRecDepth 20000 in
theorem ggX9_countInOrder_X0_step : GoodIn wsX9_countInOrder wsX0_step := goodIn_ca (goodIn_r _ [15, 16, 17, 18, 19, 32, 33, 34] (by decide +kernel) (by decide +kernel)) (goodIn_sub (fun _ h => List.mem_cons_of_mem _ (List.mem_append_right _ h)) (by decide +kernel))
set_option maxRecDepth 20000 in
theorem gX9_countInOrder_X0_step : GoodIn wsX9_countInOrder (wsV RX9 55 RX0 yX0_step wsX0_step) := goodIn_app (goodIn_of _ (by decide +kernel)) ggX9_countInOrder_X0_step
set_option maxRecDepth 20000 in
theorem ggX9_countInOrder_X0_accepting : GoodIn wsX9_countInOrder wsX0_accepting := goodIn_r _ [23, 24, 32, 33, 34] (by decide +kernel) (by decide +kernel)
set_option maxRecDepth 20000 in
theorem gX9_countInOrder_X0_accepting : GoodIn wsX9_countInOrder (wsV RX9 51 RX0 yX0_accepting wsX0_accepting) := goodIn_app (goodIn_of _ (by decide +kernel)) ggX9_countInOrder_X0_accepting
theorem dX9_countInOrder_0 : decode cX9_countInOrder 0 = .ok (.aload_n 0, 1) := by decide +kernel
theorem dX9_countInOrder_1 : decode cX9_countInOrder 1 = .ok (.getfield 28, 3) := by decide +kernel
theorem dX9_countInOrder_4 : decode cX9_countInOrder 4 = .ok (.invokestatic 35, 3) := by decide +kernel
theorem dX9_countInOrder_7 : decode cX9_countInOrder 7 = .ok (.aload_n 0, 1) := by decide +kernel
theorem dX9_countInOrder_8 : decode cX9_countInOrder 8 = .ok (.getfield 28, 3) := by decide +kernel
theorem dX9_countInOrder_11 : decode cX9_countInOrder 11 = .ok (.iconst 1, 1) := by decide +kernel
theorem dX9_countInOrder_12 : decode cX9_countInOrder 12 = .ok (.lconst 1, 1) := by decide +kernel
theorem dX9_countInOrder_13 : decode cX9_countInOrder 13 = .ok (.lastore, 1) := by decide +kernel
theorem dX9_countInOrder_14 : decode cX9_countInOrder 14 = .ok (.iconst 0, 1) := by decide +kernel
theorem dX9_countInOrder_15 : decode cX9_countInOrder 15 = .ok (.istore_n 3, 1) := by decide +kernel
theorem dX9_countInOrder_16 : decode cX9_countInOrder 16 = .ok (.iload_n 3, 1) := by decide +kernel
theorem dX9_countInOrder_17 : decode cX9_countInOrder 17 = .ok (.iload_n 2, 1) := by decide +kernel
theorem dX9_countInOrder_18 : decode cX9_countInOrder 18 = .ok (.if_icmp .ge 88, 3) := by decide +kernel
theorem dX9_countInOrder_21 : decode cX9_countInOrder 21 = .ok (.aload_n 0, 1) := by decide +kernel
theorem dX9_countInOrder_22 : decode cX9_countInOrder 22 = .ok (.getfield 32, 3) := by decide +kernel
theorem dX9_countInOrder_25 : decode cX9_countInOrder 25 = .ok (.invokestatic 35, 3) := by decide +kernel
theorem dX9_countInOrder_28 : decode cX9_countInOrder 28 = .ok (.iconst 0, 1) := by decide +kernel
theorem dX9_countInOrder_29 : decode cX9_countInOrder 29 = .ok (.istore 4, 2) := by decide +kernel
theorem dX9_countInOrder_31 : decode cX9_countInOrder 31 = .ok (.iload 4, 2) := by decide +kernel
theorem dX9_countInOrder_33 : decode cX9_countInOrder 33 = .ok (.bipush 32, 2) := by decide +kernel
theorem dX9_countInOrder_35 : decode cX9_countInOrder 35 = .ok (.if_icmp .ge 50, 3) := by decide +kernel
theorem dX9_countInOrder_38 : decode cX9_countInOrder 38 = .ok (.iconst 0, 1) := by decide +kernel
theorem dX9_countInOrder_39 : decode cX9_countInOrder 39 = .ok (.istore 5, 2) := by decide +kernel
theorem dX9_countInOrder_41 : decode cX9_countInOrder 41 = .ok (.iload 5, 2) := by decide +kernel
theorem dX9_countInOrder_43 : decode cX9_countInOrder 43 = .ok (.iconst 3, 1) := by decide +kernel
theorem dX9_countInOrder_44 : decode cX9_countInOrder 44 = .ok (.if_icmp .ge 35, 3) := by decide +kernel
theorem dX9_countInOrder_47 : decode cX9_countInOrder 47 = .ok (.aload_n 0, 1) := by decide +kernel
theorem dX9_countInOrder_48 : decode cX9_countInOrder 48 = .ok (.getfield 32, 3) := by decide +kernel
theorem dX9_countInOrder_51 : decode cX9_countInOrder 51 = .ok (.aload_n 1, 1) := by decide +kernel
theorem dX9_countInOrder_52 : decode cX9_countInOrder 52 = .ok (.iload 5, 2) := by decide +kernel
theorem dX9_countInOrder_54 : decode cX9_countInOrder 54 = .ok (.iload 4, 2) := by decide +kernel
theorem dX9_countInOrder_56 : decode cX9_countInOrder 56 = .ok (.invokevirtual 55, 3) := by decide +kernel
theorem dX9_countInOrder_59 : decode cX9_countInOrder 59 = .ok (.bipush 31, 2) := by decide +kernel
theorem dX9_countInOrder_61 : decode cX9_countInOrder 61 = .ok (.iand, 1) := by decide +kernel
theorem dX9_countInOrder_62 : decode cX9_countInOrder 62 = .ok (.dup2, 1) := by decide +kernel
theorem dX9_countInOrder_63 : decode cX9_countInOrder 63 = .ok (.laload, 1) := by decide +kernel
theorem dX9_countInOrder_64 : decode cX9_countInOrder 64 = .ok (.aload_n 0, 1) := by decide +kernel
theorem dX9_countInOrder_65 : decode cX9_countInOrder 65 = .ok (.getfield 28, 3) := by decide +kernel
theorem dX9_countInOrder_68 : decode cX9_countInOrder 68 = .ok (.iload 4, 2) := by decide +kernel
theorem dX9_countInOrder_70 : decode cX9_countInOrder 70 = .ok (.laload, 1) := by decide +kernel
theorem dX9_countInOrder_71 : decode cX9_countInOrder 71 = .ok (.ladd, 1) := by decide +kernel
theorem dX9_countInOrder_72 : decode cX9_countInOrder 72 = .ok (.lastore, 1) := by decide +kernel
theorem dX9_countInOrder_73 : decode cX9_countInOrder 73 = .ok (.iinc 5 1, 3) := by decide +kernel
theorem dX9_countInOrder_76 : decode cX9_countInOrder 76 = .ok (.goto (-35), 3) := by decide +kernel
theorem dX9_countInOrder_79 : decode cX9_countInOrder 79 = .ok (.iinc 4 1, 3) := by decide +kernel
theorem dX9_countInOrder_82 : decode cX9_countInOrder 82 = .ok (.goto (-51), 3) := by decide +kernel
theorem dX9_countInOrder_85 : decode cX9_countInOrder 85 = .ok (.aload_n 0, 1) := by decide +kernel
theorem dX9_countInOrder_86 : decode cX9_countInOrder 86 = .ok (.getfield 32, 3) := by decide +kernel
theorem dX9_countInOrder_89 : decode cX9_countInOrder 89 = .ok (.iconst 0, 1) := by decide +kernel
theorem dX9_countInOrder_90 : decode cX9_countInOrder 90 = .ok (.aload_n 0, 1) := by decide +kernel
theorem dX9_countInOrder_91 : decode cX9_countInOrder 91 = .ok (.getfield 28, 3) := by decide +kernel
theorem dX9_countInOrder_94 : decode cX9_countInOrder 94 = .ok (.iconst 0, 1) := by decide +kernel
theorem dX9_countInOrder_95 : decode cX9_countInOrder 95 = .ok (.bipush 32, 2) := by decide +kernel
theorem dX9_countInOrder_97 : decode cX9_countInOrder 97 = .ok (.invokestatic 45, 3) := by decide +kernel
theorem dX9_countInOrder_100 : decode cX9_countInOrder 100 = .ok (.iinc 3 1, 3) := by decide +kernel
theorem dX9_countInOrder_103 : decode cX9_countInOrder 103 = .ok (.goto (-87), 3) := by decide +kernel
theorem dX9_countInOrder_106 : decode cX9_countInOrder 106 = .ok (.lconst 0, 1) := by decide +kernel
theorem dX9_countInOrder_107 : decode cX9_countInOrder 107 = .ok (.lstore_n 3, 1) := by decide +kernel
theorem dX9_countInOrder_108 : decode cX9_countInOrder 108 = .ok (.iconst 0, 1) := by decide +kernel
theorem dX9_countInOrder_109 : decode cX9_countInOrder 109 = .ok (.istore 5, 2) := by decide +kernel
theorem dX9_countInOrder_111 : decode cX9_countInOrder 111 = .ok (.iload 5, 2) := by decide +kernel
theorem dX9_countInOrder_113 : decode cX9_countInOrder 113 = .ok (.bipush 32, 2) := by decide +kernel
theorem dX9_countInOrder_115 : decode cX9_countInOrder 115 = .ok (.if_icmp .ge 32, 3) := by decide +kernel
theorem dX9_countInOrder_118 : decode cX9_countInOrder 118 = .ok (.lload_n 3, 1) := by decide +kernel
theorem dX9_countInOrder_119 : decode cX9_countInOrder 119 = .ok (.aload_n 1, 1) := by decide +kernel
theorem dX9_countInOrder_120 : decode cX9_countInOrder 120 = .ok (.iload 5, 2) := by decide +kernel
theorem dX9_countInOrder_122 : decode cX9_countInOrder 122 = .ok (.invokevirtual 51, 3) := by decide +kernel
theorem dX9_countInOrder_125 : decode cX9_countInOrder 125 = .ok (.ifCond .eq 13, 3) := by decide +kernel
theorem dX9_countInOrder_128 : decode cX9_countInOrder 128 = .ok (.aload_n 0, 1) := by decide +kernel
theorem dX9_countInOrder_129 : decode cX9_countInOrder 129 = .ok (.getfield 28, 3) := by decide +kernel
theorem dX9_countInOrder_132 : decode cX9_countInOrder 132 = .ok (.iload 5, 2) := by decide +kernel
theorem dX9_countInOrder_134 : decode cX9_countInOrder 134 = .ok (.laload, 1) := by decide +kernel
theorem dX9_countInOrder_135 : decode cX9_countInOrder 135 = .ok (.goto 4, 3) := by decide +kernel
theorem dX9_countInOrder_138 : decode cX9_countInOrder 138 = .ok (.lconst 0, 1) := by decide +kernel
theorem dX9_countInOrder_139 : decode cX9_countInOrder 139 = .ok (.ladd, 1) := by decide +kernel
theorem dX9_countInOrder_140 : decode cX9_countInOrder 140 = .ok (.lstore_n 3, 1) := by decide +kernel
theorem dX9_countInOrder_141 : decode cX9_countInOrder 141 = .ok (.iinc 5 1, 3) := by decide +kernel
theorem dX9_countInOrder_144 : decode cX9_countInOrder 144 = .ok (.goto (-33), 3) := by decide +kernel
theorem dX9_countInOrder_147 : decode cX9_countInOrder 147 = .ok (.lload_n 3, 1) := by decide +kernel
theorem dX9_countInOrder_148 : decode cX9_countInOrder 148 = .ok (.lreturn, 1) := by decide +kernel
set_option maxRecDepth 20000 in
theorem ggX9_countArrangements_X9_findArrangement : GoodIn wsX9_countArrangements wsX9_findArrangement := goodIn_ca (goodIn_r _ [6, 7, 8, 1, 9, 10, 11, 12, 13, 14, 15, 5, 16, 17, 18, 19, 20, 21, 22, 23, 24, 25, 26, 27, 28, 29, 30, 31, 32, 33, 34, 35, 36, 37, 38] (by decide +kernel) (by decide +kernel)) (goodIn_sub (fun _ h => List.mem_cons_of_mem _ (List.mem_append_right _ h)) (by decide +kernel))
set_option maxRecDepth 20000 in
theorem gX9_countArrangements_X9_findArrangement : GoodIn wsX9_countArrangements (wsV RX9 58 RX9 yX9_findArrangement wsX9_findArrangement) := goodIn_app (goodIn_of _ (by decide +kernel)) ggX9_countArrangements_X9_findArrangement
theorem dX9_countArrangements_0 : decode cX9_countArrangements 0 = .ok (.aload_n 0, 1) := by decide +kernel
theorem dX9_countArrangements_1 : decode cX9_countArrangements 1 = .ok (.aload_n 1, 1) := by decide +kernel
theorem dX9_countArrangements_2 : decode cX9_countArrangements 2 = .ok (.aload_n 2, 1) := by decide +kernel
theorem dX9_countArrangements_3 : decode cX9_countArrangements 3 = .ok (.iload_n 3, 1) := by decide +kernel
theorem dX9_countArrangements_4 : decode cX9_countArrangements 4 = .ok (.iconst (-1), 1) := by decide +kernel
theorem dX9_countArrangements_5 : decode cX9_countArrangements 5 = .ok (.invokevirtual 58, 3) := by decide +kernel
theorem dX9_countArrangements_8 : decode cX9_countArrangements 8 = .ok (.pop, 1) := by decide +kernel
theorem dX9_countArrangements_9 : decode cX9_countArrangements 9 = .ok (.aload_n 0, 1) := by decide +kernel
theorem dX9_countArrangements_10 : decode cX9_countArrangements 10 = .ok (.getfield 22, 3) := by decide +kernel
theorem dX9_countArrangements_13 : decode cX9_countArrangements 13 = .ok (.i2l, 1) := by decide +kernel
theorem dX9_countArrangements_14 : decode cX9_countArrangements 14 = .ok (.lreturn, 1) := by decide +kernel
set_option maxRecDepth 20000 in
theorem ggX9_findArrangement_X10_isLetter : GoodIn wsX9_findArrangement wsX10_isLetter := goodIn_r _ [7] (by decide +kernel) (by decide +kernel)
set_option maxRecDepth 20000 in
theorem gX9_findArrangement_X10_isLetter_n62 : GoodIn wsX9_findArrangement (wsX10_isLetter) := ggX9_findArrangement_X10_isLetter
set_option maxRecDepth 20000 in
theorem ggX9_findArrangement_X9_arrange : GoodIn wsX9_findArrangement wsX9_arrange := goodIn_ca (goodIn_r _ [12, 2, 3, 4, 1, 13, 14, 15, 16, 17, 18, 19, 20, 21, 22, 23, 24, 5, 6, 7, 8, 9, 10, 11, 25, 26, 27, 28, 29, 30, 31, 32, 33, 34] (by decide +kernel) (by decide +kernel)) (goodIn_sub (fun _ h => List.mem_cons_of_mem _ (List.mem_append_right _ h)) (by decide +kernel))
set_option maxRecDepth 20000 in
theorem gX9_findArrangement_X9_arrange : GoodIn wsX9_findArrangement (wsV RX9 65 RX9 yX9_arrange wsX9_arrange) := goodIn_app (goodIn_of _ (by decide +kernel)) ggX9_findArrangement_X9_arrange
theorem dX9_findArrangement_0 : decode cX9_findArrangement 0 = .ok (.iconst 0, 1) := by decide +kernel
theorem dX9_findArrangement_1 : decode cX9_findArrangement 1 = .ok (.istore 5, 2) := by decide +kernel
theorem dX9_findArrangement_3 : decode cX9_findArrangement 3 = .ok (.iload 5, 2) := by decide +kernel
theorem dX9_findArrangement_5 : decode cX9_findArrangement 5 = .ok (.iconst 3, 1) := by decide +kernel
theorem dX9_findArrangement_6 : decode cX9_findArrangement 6 = .ok (.if_icmp .ge 17, 3) := by decide +kernel
theorem dX9_findArrangement_9 : decode cX9_findArrangement 9 = .ok (.aload_n 0, 1) := by decide +kernel
theorem dX9_findArrangement_10 : decode cX9_findArrangement 10 = .ok (.getfield 15, 3) := by decide +kernel
theorem dX9_findArrangement_13 : decode cX9_findArrangement 13 = .ok (.iload 5, 2) := by decide +kernel
theorem dX9_findArrangement_15 : decode cX9_findArrangement 15 = .ok (.iconst 0, 1) := by decide +kernel
theorem dX9_findArrangement_16 : decode cX9_findArrangement 16 = .ok (.iastore, 1) := by decide +kernel
theorem dX9_findArrangement_17 : decode cX9_findArrangement 17 = .ok (.iinc 5 1, 3) := by decide +kernel
theorem dX9_findArrangement_20 : decode cX9_findArrangement 20 = .ok (.goto (-17), 3) := by decide +kernel
theorem dX9_findArrangement_23 : decode cX9_findArrangement 23 = .ok (.iconst 0, 1) := by decide +kernel
theorem dX9_findArrangement_24 : decode cX9_findArrangement 24 = .ok (.istore 5, 2) := by decide +kernel
theorem dX9_findArrangement_26 : decode cX9_findArrangement 26 = .ok (.iload 5, 2) := by decide +kernel
theorem dX9_findArrangement_28 : decode cX9_findArrangement 28 = .ok (.iload_n 3, 1) := by decide +kernel
theorem dX9_findArrangement_29 : decode cX9_findArrangement 29 = .ok (.if_icmp .ge 39, 3) := by decide +kernel
theorem dX9_findArrangement_32 : decode cX9_findArrangement 32 = .ok (.iload 5, 2) := by decide +kernel
theorem dX9_findArrangement_34 : decode cX9_findArrangement 34 = .ok (.aload_n 2, 1) := by decide +kernel
theorem dX9_findArrangement_35 : decode cX9_findArrangement 35 = .ok (.arraylength, 1) := by decide +kernel
theorem dX9_findArrangement_36 : decode cX9_findArrangement 36 = .ok (.if_icmp .ge 32, 3) := by decide +kernel
theorem dX9_findArrangement_39 : decode cX9_findArrangement 39 = .ok (.aload_n 2, 1) := by decide +kernel
theorem dX9_findArrangement_40 : decode cX9_findArrangement 40 = .ok (.iload 5, 2) := by decide +kernel
theorem dX9_findArrangement_42 : decode cX9_findArrangement 42 = .ok (.iaload, 1) := by decide +kernel
theorem dX9_findArrangement_43 : decode cX9_findArrangement 43 = .ok (.invokestatic 62, 3) := by decide +kernel
theorem dX9_findArrangement_46 : decode cX9_findArrangement 46 = .ok (.ifCond .eq 16, 3) := by decide +kernel
theorem dX9_findArrangement_49 : decode cX9_findArrangement 49 = .ok (.aload_n 0, 1) := by decide +kernel
theorem dX9_findArrangement_50 : decode cX9_findArrangement 50 = .ok (.getfield 15, 3) := by decide +kernel
theorem dX9_findArrangement_53 : decode cX9_findArrangement 53 = .ok (.aload_n 2, 1) := by decide +kernel
theorem dX9_findArrangement_54 : decode cX9_findArrangement 54 = .ok (.iload 5, 2) := by decide +kernel
theorem dX9_findArrangement_56 : decode cX9_findArrangement 56 = .ok (.iaload, 1) := by decide +kernel
theorem dX9_findArrangement_57 : decode cX9_findArrangement 57 = .ok (.dup2, 1) := by decide +kernel
theorem dX9_findArrangement_58 : decode cX9_findArrangement 58 = .ok (.iaload, 1) := by decide +kernel
theorem dX9_findArrangement_59 : decode cX9_findArrangement 59 = .ok (.iconst 1, 1) := by decide +kernel
theorem dX9_findArrangement_60 : decode cX9_findArrangement 60 = .ok (.iadd, 1) := by decide +kernel
theorem dX9_findArrangement_61 : decode cX9_findArrangement 61 = .ok (.iastore, 1) := by decide +kernel
theorem dX9_findArrangement_62 : decode cX9_findArrangement 62 = .ok (.iinc 5 1, 3) := by decide +kernel
theorem dX9_findArrangement_65 : decode cX9_findArrangement 65 = .ok (.goto (-39), 3) := by decide +kernel
theorem dX9_findArrangement_68 : decode cX9_findArrangement 68 = .ok (.aload_n 0, 1) := by decide +kernel
theorem dX9_findArrangement_69 : decode cX9_findArrangement 69 = .ok (.iload_n 3, 1) := by decide +kernel
theorem dX9_findArrangement_70 : decode cX9_findArrangement 70 = .ok (.putfield 18, 3) := by decide +kernel
theorem dX9_findArrangement_73 : decode cX9_findArrangement 73 = .ok (.aload_n 0, 1) := by decide +kernel
theorem dX9_findArrangement_74 : decode cX9_findArrangement 74 = .ok (.iconst 0, 1) := by decide +kernel
theorem dX9_findArrangement_75 : decode cX9_findArrangement 75 = .ok (.putfield 22, 3) := by decide +kernel
theorem dX9_findArrangement_78 : decode cX9_findArrangement 78 = .ok (.aload_n 0, 1) := by decide +kernel
theorem dX9_findArrangement_79 : decode cX9_findArrangement 79 = .ok (.iload 4, 2) := by decide +kernel
theorem dX9_findArrangement_81 : decode cX9_findArrangement 81 = .ok (.putfield 25, 3) := by decide +kernel
theorem dX9_findArrangement_84 : decode cX9_findArrangement 84 = .ok (.aload_n 0, 1) := by decide +kernel
theorem dX9_findArrangement_85 : decode cX9_findArrangement 85 = .ok (.aload_n 1, 1) := by decide +kernel
theorem dX9_findArrangement_86 : decode cX9_findArrangement 86 = .ok (.iconst 0, 1) := by decide +kernel
theorem dX9_findArrangement_87 : decode cX9_findArrangement 87 = .ok (.iconst 1, 1) := by decide +kernel
theorem dX9_findArrangement_88 : decode cX9_findArrangement 88 = .ok (.invokevirtual 65, 3) := by decide +kernel
theorem dX9_findArrangement_91 : decode cX9_findArrangement 91 = .ok (.ireturn, 1) := by decide +kernel
set_option maxRecDepth 20000 in
theorem ggX9_arrange_X0_accepting : GoodIn wsX9_arrange wsX0_accepting := goodIn_r _ [10, 11, 31, 32, 33] (by decide +kernel) (by decide +kernel)
set_option maxRecDepth 20000 in
theorem gX9_arrange_X0_accepting : GoodIn wsX9_arrange (wsV RX9 51 RX0 yX0_accepting wsX0_accepting) := goodIn_app (goodIn_of _ (by decide +kernel)) ggX9_arrange_X0_accepting
set_option maxRecDepth 20000 in
theorem ggX9_arrange_X0_step : GoodIn wsX9_arrange wsX0_step := goodIn_ca (goodIn_r _ [15, 16, 17, 18, 19, 31, 32, 33] (by decide +kernel) (by decide +kernel)) (goodIn_sub (fun _ h => List.mem_cons_of_mem _ (List.mem_append_right _ h)) (by decide +kernel))
set_option maxRecDepth 20000 in
theorem gX9_arrange_X0_step : GoodIn wsX9_arrange (wsV RX9 55 RX0 yX0_step wsX0_step) := goodIn_app (goodIn_of _ (by decide +kernel)) ggX9_arrange_X0_step
set_option maxRecDepth 20000 in
theorem ggX9_arrange_X9_arrange : GoodIn wsX9_arrange wsX9_arrange := goodIn_ca (goodIn_r _ [0, 1, 2, 3, 4, 5, 6, 7, 8, 9, 10, 11, 12, 13, 14, 15, 16, 17, 18, 19, 20, 21, 22, 23, 24, 25, 26, 27, 28, 29, 30, 31, 32, 33] (by decide +kernel) (by decide +kernel)) (goodIn_sub (fun _ h => List.mem_cons_of_mem _ (List.mem_append_right _ h)) (by decide +kernel))
set_option maxRecDepth 20000 in
theorem gX9_arrange_X9_arrange : GoodIn wsX9_arrange (wsV RX9 65 RX9 yX9_arrange wsX9_arrange) := goodIn_app (goodIn_of _ (by decide +kernel)) ggX9_arrange_X9_arrange
theorem dX9_arrange_0 : decode cX9_arrange 0 = .ok (.iload_n 2, 1) := by decide +kernel
theorem dX9_arrange_1 : decode cX9_arrange 1 = .ok (.aload_n 0, 1) := by decide +kernel
theorem dX9_arrange_2 : decode cX9_arrange 2 = .ok (.getfield 18, 3) := by decide +kernel
theorem dX9_arrange_5 : decode cX9_arrange 5 = .ok (.if_icmp .ge 9, 3) := by decide +kernel
theorem dX9_arrange_8 : decode cX9_arrange 8 = .ok (.iload_n 2, 1) := by decide +kernel
theorem dX9_arrange_9 : decode cX9_arrange 9 = .ok (.bipush 8, 2) := by decide +kernel
theorem dX9_arrange_11 : decode cX9_arrange 11 = .ok (.if_icmp .lt 42, 3) := by decide +kernel
theorem dX9_arrange_14 : decode cX9_arrange 14 = .ok (.aload_n 1, 1) := by decide +kernel
theorem dX9_arrange_15 : decode cX9_arrange 15 = .ok (.iload_n 3, 1) := by decide +kernel
theorem dX9_arrange_16 : decode cX9_arrange 16 = .ok (.invokevirtual 51, 3) := by decide +kernel
theorem dX9_arrange_19 : decode cX9_arrange 19 = .ok (.ifCond .ne 5, 3) := by decide +kernel
theorem dX9_arrange_22 : decode cX9_arrange 22 = .ok (.iconst 0, 1) := by decide +kernel
theorem dX9_arrange_23 : decode cX9_arrange 23 = .ok (.ireturn, 1) := by decide +kernel
theorem dX9_arrange_24 : decode cX9_arrange 24 = .ok (.aload_n 0, 1) := by decide +kernel
theorem dX9_arrange_25 : decode cX9_arrange 25 = .ok (.dup, 1) := by decide +kernel
theorem dX9_arrange_26 : decode cX9_arrange 26 = .ok (.getfield 22, 3) := by decide +kernel
theorem dX9_arrange_29 : decode cX9_arrange 29 = .ok (.iconst 1, 1) := by decide +kernel
theorem dX9_arrange_30 : decode cX9_arrange 30 = .ok (.iadd, 1) := by decide +kernel
theorem dX9_arrange_31 : decode cX9_arrange 31 = .ok (.putfield 22, 3) := by decide +kernel
theorem dX9_arrange_34 : decode cX9_arrange 34 = .ok (.aload_n 0, 1) := by decide +kernel
theorem dX9_arrange_35 : decode cX9_arrange 35 = .ok (.getfield 22, 3) := by decide +kernel
theorem dX9_arrange_38 : decode cX9_arrange 38 = .ok (.iconst 1, 1) := by decide +kernel
theorem dX9_arrange_39 : decode cX9_arrange 39 = .ok (.isub, 1) := by decide +kernel
theorem dX9_arrange_40 : decode cX9_arrange 40 = .ok (.aload_n 0, 1) := by decide +kernel
theorem dX9_arrange_41 : decode cX9_arrange 41 = .ok (.getfield 25, 3) := by decide +kernel
theorem dX9_arrange_44 : decode cX9_arrange 44 = .ok (.if_icmp .ne 7, 3) := by decide +kernel
theorem dX9_arrange_47 : decode cX9_arrange 47 = .ok (.iconst 1, 1) := by decide +kernel
theorem dX9_arrange_48 : decode cX9_arrange 48 = .ok (.goto 4, 3) := by decide +kernel
theorem dX9_arrange_51 : decode cX9_arrange 51 = .ok (.iconst 0, 1) := by decide +kernel
theorem dX9_arrange_52 : decode cX9_arrange 52 = .ok (.ireturn, 1) := by decide +kernel
theorem dX9_arrange_53 : decode cX9_arrange 53 = .ok (.iconst 0, 1) := by decide +kernel
theorem dX9_arrange_54 : decode cX9_arrange 54 = .ok (.istore 4, 2) := by decide +kernel
theorem dX9_arrange_56 : decode cX9_arrange 56 = .ok (.iload 4, 2) := by decide +kernel
theorem dX9_arrange_58 : decode cX9_arrange 58 = .ok (.iconst 3, 1) := by decide +kernel
theorem dX9_arrange_59 : decode cX9_arrange 59 = .ok (.if_icmp .ge 78, 3) := by decide +kernel
theorem dX9_arrange_62 : decode cX9_arrange 62 = .ok (.aload_n 1, 1) := by decide +kernel
theorem dX9_arrange_63 : decode cX9_arrange 63 = .ok (.iload 4, 2) := by decide +kernel
theorem dX9_arrange_65 : decode cX9_arrange 65 = .ok (.iload_n 3, 1) := by decide +kernel
theorem dX9_arrange_66 : decode cX9_arrange 66 = .ok (.invokevirtual 55, 3) := by decide +kernel
theorem dX9_arrange_69 : decode cX9_arrange 69 = .ok (.istore 5, 2) := by decide +kernel
theorem dX9_arrange_71 : decode cX9_arrange 71 = .ok (.aload_n 0, 1) := by decide +kernel
theorem dX9_arrange_72 : decode cX9_arrange 72 = .ok (.getfield 15, 3) := by decide +kernel
theorem dX9_arrange_75 : decode cX9_arrange 75 = .ok (.iload 4, 2) := by decide +kernel
theorem dX9_arrange_77 : decode cX9_arrange 77 = .ok (.iaload, 1) := by decide +kernel
theorem dX9_arrange_78 : decode cX9_arrange 78 = .ok (.ifCond .le 53, 3) := by decide +kernel
theorem dX9_arrange_81 : decode cX9_arrange 81 = .ok (.iload 5, 2) := by decide +kernel
theorem dX9_arrange_83 : decode cX9_arrange 83 = .ok (.ifCond .eq 48, 3) := by decide +kernel
theorem dX9_arrange_86 : decode cX9_arrange 86 = .ok (.aload_n 0, 1) := by decide +kernel
theorem dX9_arrange_87 : decode cX9_arrange 87 = .ok (.getfield 9, 3) := by decide +kernel
theorem dX9_arrange_90 : decode cX9_arrange 90 = .ok (.iload_n 2, 1) := by decide +kernel
theorem dX9_arrange_91 : decode cX9_arrange 91 = .ok (.iload 4, 2) := by decide +kernel
theorem dX9_arrange_93 : decode cX9_arrange 93 = .ok (.iastore, 1) := by decide +kernel
theorem dX9_arrange_94 : decode cX9_arrange 94 = .ok (.aload_n 0, 1) := by decide +kernel
theorem dX9_arrange_95 : decode cX9_arrange 95 = .ok (.getfield 15, 3) := by decide +kernel
theorem dX9_arrange_98 : decode cX9_arrange 98 = .ok (.iload 4, 2) := by decide +kernel
theorem dX9_arrange_100 : decode cX9_arrange 100 = .ok (.dup2, 1) := by decide +kernel
theorem dX9_arrange_101 : decode cX9_arrange 101 = .ok (.iaload, 1) := by decide +kernel
theorem dX9_arrange_102 : decode cX9_arrange 102 = .ok (.iconst 1, 1) := by decide +kernel
theorem dX9_arrange_103 : decode cX9_arrange 103 = .ok (.isub, 1) := by decide +kernel
theorem dX9_arrange_104 : decode cX9_arrange 104 = .ok (.iastore, 1) := by decide +kernel
theorem dX9_arrange_105 : decode cX9_arrange 105 = .ok (.aload_n 0, 1) := by decide +kernel
theorem dX9_arrange_106 : decode cX9_arrange 106 = .ok (.aload_n 1, 1) := by decide +kernel
theorem dX9_arrange_107 : decode cX9_arrange 107 = .ok (.iload_n 2, 1) := by decide +kernel
theorem dX9_arrange_108 : decode cX9_arrange 108 = .ok (.iconst 1, 1) := by decide +kernel
theorem dX9_arrange_109 : decode cX9_arrange 109 = .ok (.iadd, 1) := by decide +kernel
theorem dX9_arrange_110 : decode cX9_arrange 110 = .ok (.iload 5, 2) := by decide +kernel
theorem dX9_arrange_112 : decode cX9_arrange 112 = .ok (.invokevirtual 65, 3) := by decide +kernel
theorem dX9_arrange_115 : decode cX9_arrange 115 = .ok (.ifCond .eq 5, 3) := by decide +kernel
theorem dX9_arrange_118 : decode cX9_arrange 118 = .ok (.iconst 1, 1) := by decide +kernel
theorem dX9_arrange_119 : decode cX9_arrange 119 = .ok (.ireturn, 1) := by decide +kernel
theorem dX9_arrange_120 : decode cX9_arrange 120 = .ok (.aload_n 0, 1) := by decide +kernel
theorem dX9_arrange_121 : decode cX9_arrange 121 = .ok (.getfield 15, 3) := by decide +kernel
theorem dX9_arrange_124 : decode cX9_arrange 124 = .ok (.iload 4, 2) := by decide +kernel
theorem dX9_arrange_126 : decode cX9_arrange 126 = .ok (.dup2, 1) := by decide +kernel
theorem dX9_arrange_127 : decode cX9_arrange 127 = .ok (.iaload, 1) := by decide +kernel
theorem dX9_arrange_128 : decode cX9_arrange 128 = .ok (.iconst 1, 1) := by decide +kernel
theorem dX9_arrange_129 : decode cX9_arrange 129 = .ok (.iadd, 1) := by decide +kernel
theorem dX9_arrange_130 : decode cX9_arrange 130 = .ok (.iastore, 1) := by decide +kernel
theorem dX9_arrange_131 : decode cX9_arrange 131 = .ok (.iinc 4 1, 3) := by decide +kernel
theorem dX9_arrange_134 : decode cX9_arrange 134 = .ok (.goto (-78), 3) := by decide +kernel
theorem dX9_arrange_137 : decode cX9_arrange 137 = .ok (.iconst 0, 1) := by decide +kernel
theorem dX9_arrange_138 : decode cX9_arrange 138 = .ok (.ireturn, 1) := by decide +kernel
set_option maxRecDepth 20000 in
theorem ggX9_findOpenWord_X9_open : GoodIn wsX9_findOpenWord wsX9_open := goodIn_ca (goodIn_r _ [6, 1, 7, 8, 9, 10, 11, 12, 13, 14, 15, 16, 17, 18, 19, 20, 21, 22, 23, 24, 25, 26, 27, 28, 29, 2, 3, 4, 5, 30, 31, 32, 33, 34, 35, 36, 37, 38, 39, 40] (by decide +kernel) (by decide +kernel)) (goodIn_sub (fun _ h => List.mem_cons_of_mem _ (List.mem_append_right _ h)) (by decide +kernel))
set_option maxRecDepth 20000 in
theorem gX9_findOpenWord_X9_open : GoodIn wsX9_findOpenWord (wsV RX9 69 RX9 yX9_open wsX9_open) := goodIn_app (goodIn_of _ (by decide +kernel)) ggX9_findOpenWord_X9_open
theorem dX9_findOpenWord_0 : decode cX9_findOpenWord 0 = .ok (.aload_n 0, 1) := by decide +kernel
theorem dX9_findOpenWord_1 : decode cX9_findOpenWord 1 = .ok (.iload_n 3, 1) := by decide +kernel
theorem dX9_findOpenWord_2 : decode cX9_findOpenWord 2 = .ok (.putfield 18, 3) := by decide +kernel
theorem dX9_findOpenWord_5 : decode cX9_findOpenWord 5 = .ok (.aload_n 0, 1) := by decide +kernel
theorem dX9_findOpenWord_6 : decode cX9_findOpenWord 6 = .ok (.aload_n 1, 1) := by decide +kernel
theorem dX9_findOpenWord_7 : decode cX9_findOpenWord 7 = .ok (.aload_n 2, 1) := by decide +kernel
theorem dX9_findOpenWord_8 : decode cX9_findOpenWord 8 = .ok (.iconst 0, 1) := by decide +kernel
theorem dX9_findOpenWord_9 : decode cX9_findOpenWord 9 = .ok (.iconst 1, 1) := by decide +kernel
theorem dX9_findOpenWord_10 : decode cX9_findOpenWord 10 = .ok (.iconst 0, 1) := by decide +kernel
theorem dX9_findOpenWord_11 : decode cX9_findOpenWord 11 = .ok (.invokevirtual 69, 3) := by decide +kernel
theorem dX9_findOpenWord_14 : decode cX9_findOpenWord 14 = .ok (.ireturn, 1) := by decide +kernel
set_option maxRecDepth 20000 in
theorem ggX9_open_X5_at : GoodIn wsX9_open wsX5_at := goodIn_ca (goodIn_r _ [7, 8, 36] (by decide +kernel) (by decide +kernel)) (goodIn_sub (fun _ h => List.mem_cons_of_mem _ (List.mem_append_right _ h)) (by decide +kernel))
set_option maxRecDepth 20000 in
theorem gX9_open_X5_at : GoodIn wsX9_open (wsV RX9 73 RX5 yX5_at wsX5_at) := goodIn_app (goodIn_of _ (by decide +kernel)) ggX9_open_X5_at
set_option maxRecDepth 20000 in
theorem ggX9_open_X0_accepting : GoodIn wsX9_open wsX0_accepting := goodIn_r _ [13, 14, 37, 38, 39] (by decide +kernel) (by decide +kernel)
set_option maxRecDepth 20000 in
theorem gX9_open_X0_accepting : GoodIn wsX9_open (wsV RX9 51 RX0 yX0_accepting wsX0_accepting) := goodIn_app (goodIn_of _ (by decide +kernel)) ggX9_open_X0_accepting
set_option maxRecDepth 20000 in
theorem ggX9_open_X0_step : GoodIn wsX9_open wsX0_step := goodIn_ca (goodIn_r _ [18, 19, 20, 21, 22, 37, 38, 39] (by decide +kernel) (by decide +kernel)) (goodIn_sub (fun _ h => List.mem_cons_of_mem _ (List.mem_append_right _ h)) (by decide +kernel))
set_option maxRecDepth 20000 in
theorem gX9_open_X0_step : GoodIn wsX9_open (wsV RX9 55 RX0 yX0_step wsX0_step) := goodIn_app (goodIn_of _ (by decide +kernel)) ggX9_open_X0_step
set_option maxRecDepth 20000 in
theorem ggX9_open_X10_weightOf : GoodIn wsX9_open wsX10_weightOf := goodIn_r _ [24] (by decide +kernel) (by decide +kernel)
set_option maxRecDepth 20000 in
theorem gX9_open_X10_weightOf_n79 : GoodIn wsX9_open (wsX10_weightOf) := ggX9_open_X10_weightOf
set_option maxRecDepth 20000 in
theorem ggX9_open_X9_open : GoodIn wsX9_open wsX9_open := goodIn_ca (goodIn_r _ [0, 1, 2, 3, 4, 5, 6, 7, 8, 9, 10, 11, 12, 13, 14, 15, 16, 17, 18, 19, 20, 21, 22, 23, 24, 25, 26, 27, 28, 29, 30, 31, 32, 33, 34, 35, 36, 37, 38, 39] (by decide +kernel) (by decide +kernel)) (goodIn_sub (fun _ h => List.mem_cons_of_mem _ (List.mem_append_right _ h)) (by decide +kernel))
set_option maxRecDepth 20000 in
theorem gX9_open_X9_open : GoodIn wsX9_open (wsV RX9 69 RX9 yX9_open wsX9_open) := goodIn_app (goodIn_of _ (by decide +kernel)) ggX9_open_X9_open
theorem dX9_open_0 : decode cX9_open 0 = .ok (.iload_n 3, 1) := by decide +kernel
theorem dX9_open_1 : decode cX9_open 1 = .ok (.aload_n 0, 1) := by decide +kernel
theorem dX9_open_2 : decode cX9_open 2 = .ok (.getfield 18, 3) := by decide +kernel
theorem dX9_open_5 : decode cX9_open 5 = .ok (.if_icmp .ge 9, 3) := by decide +kernel
theorem dX9_open_8 : decode cX9_open 8 = .ok (.iload_n 3, 1) := by decide +kernel
theorem dX9_open_9 : decode cX9_open 9 = .ok (.bipush 8, 2) := by decide +kernel
theorem dX9_open_11 : decode cX9_open 11 = .ok (.if_icmp .lt 31, 3) := by decide +kernel
theorem dX9_open_14 : decode cX9_open 14 = .ok (.aload_n 1, 1) := by decide +kernel
theorem dX9_open_15 : decode cX9_open 15 = .ok (.aload_n 2, 1) := by decide +kernel
theorem dX9_open_16 : decode cX9_open 16 = .ok (.iload 5, 2) := by decide +kernel
theorem dX9_open_18 : decode cX9_open 18 = .ok (.invokevirtual 73, 3) := by decide +kernel
theorem dX9_open_21 : decode cX9_open 21 = .ok (.invokevirtual 51, 3) := by decide +kernel
theorem dX9_open_24 : decode cX9_open 24 = .ok (.ifCond .eq 16, 3) := by decide +kernel
theorem dX9_open_27 : decode cX9_open 27 = .ok (.aload_n 1, 1) := by decide +kernel
theorem dX9_open_28 : decode cX9_open 28 = .ok (.iload 4, 2) := by decide +kernel
theorem dX9_open_30 : decode cX9_open 30 = .ok (.invokevirtual 51, 3) := by decide +kernel
theorem dX9_open_33 : decode cX9_open 33 = .ok (.ifCond .ne 7, 3) := by decide +kernel
theorem dX9_open_36 : decode cX9_open 36 = .ok (.iconst 1, 1) := by decide +kernel
theorem dX9_open_37 : decode cX9_open 37 = .ok (.goto 4, 3) := by decide +kernel
theorem dX9_open_40 : decode cX9_open 40 = .ok (.iconst 0, 1) := by decide +kernel
theorem dX9_open_41 : decode cX9_open 41 = .ok (.ireturn, 1) := by decide +kernel
theorem dX9_open_42 : decode cX9_open 42 = .ok (.iconst 0, 1) := by decide +kernel
theorem dX9_open_43 : decode cX9_open 43 = .ok (.istore 6, 2) := by decide +kernel
theorem dX9_open_45 : decode cX9_open 45 = .ok (.iload 6, 2) := by decide +kernel
theorem dX9_open_47 : decode cX9_open 47 = .ok (.iconst 3, 1) := by decide +kernel
theorem dX9_open_48 : decode cX9_open 48 = .ok (.if_icmp .ge 51, 3) := by decide +kernel
theorem dX9_open_51 : decode cX9_open 51 = .ok (.aload_n 0, 1) := by decide +kernel
theorem dX9_open_52 : decode cX9_open 52 = .ok (.getfield 9, 3) := by decide +kernel
theorem dX9_open_55 : decode cX9_open 55 = .ok (.iload_n 3, 1) := by decide +kernel
theorem dX9_open_56 : decode cX9_open 56 = .ok (.iload 6, 2) := by decide +kernel
theorem dX9_open_58 : decode cX9_open 58 = .ok (.iastore, 1) := by decide +kernel
theorem dX9_open_59 : decode cX9_open 59 = .ok (.aload_n 1, 1) := by decide +kernel
theorem dX9_open_60 : decode cX9_open 60 = .ok (.iload 6, 2) := by decide +kernel
theorem dX9_open_62 : decode cX9_open 62 = .ok (.iload 4, 2) := by decide +kernel
theorem dX9_open_64 : decode cX9_open 64 = .ok (.invokevirtual 55, 3) := by decide +kernel
theorem dX9_open_67 : decode cX9_open 67 = .ok (.istore 7, 2) := by decide +kernel
theorem dX9_open_69 : decode cX9_open 69 = .ok (.aload_n 0, 1) := by decide +kernel
theorem dX9_open_70 : decode cX9_open 70 = .ok (.aload_n 1, 1) := by decide +kernel
theorem dX9_open_71 : decode cX9_open 71 = .ok (.aload_n 2, 1) := by decide +kernel
theorem dX9_open_72 : decode cX9_open 72 = .ok (.iload_n 3, 1) := by decide +kernel
theorem dX9_open_73 : decode cX9_open 73 = .ok (.iconst 1, 1) := by decide +kernel
theorem dX9_open_74 : decode cX9_open 74 = .ok (.iadd, 1) := by decide +kernel
theorem dX9_open_75 : decode cX9_open 75 = .ok (.iload 7, 2) := by decide +kernel
theorem dX9_open_77 : decode cX9_open 77 = .ok (.iload 5, 2) := by decide +kernel
theorem dX9_open_79 : decode cX9_open 79 = .ok (.iload 6, 2) := by decide +kernel
theorem dX9_open_81 : decode cX9_open 81 = .ok (.invokestatic 79, 3) := by decide +kernel
theorem dX9_open_84 : decode cX9_open 84 = .ok (.iadd, 1) := by decide +kernel
theorem dX9_open_85 : decode cX9_open 85 = .ok (.invokevirtual 69, 3) := by decide +kernel
theorem dX9_open_88 : decode cX9_open 88 = .ok (.ifCond .eq 5, 3) := by decide +kernel
theorem dX9_open_91 : decode cX9_open 91 = .ok (.iconst 1, 1) := by decide +kernel
theorem dX9_open_92 : decode cX9_open 92 = .ok (.ireturn, 1) := by decide +kernel
theorem dX9_open_93 : decode cX9_open 93 = .ok (.iinc 6 1, 3) := by decide +kernel
theorem dX9_open_96 : decode cX9_open 96 = .ok (.goto (-51), 3) := by decide +kernel
theorem dX9_open_99 : decode cX9_open 99 = .ok (.iconst 0, 1) := by decide +kernel
theorem dX9_open_100 : decode cX9_open 100 = .ok (.ireturn, 1) := by decide +kernel
theorem dX9_clearRow_0 : decode cX9_clearRow 0 = .ok (.iconst 0, 1) := by decide +kernel
theorem dX9_clearRow_1 : decode cX9_clearRow 1 = .ok (.istore_n 1, 1) := by decide +kernel
theorem dX9_clearRow_2 : decode cX9_clearRow 2 = .ok (.iload_n 1, 1) := by decide +kernel
theorem dX9_clearRow_3 : decode cX9_clearRow 3 = .ok (.aload_n 0, 1) := by decide +kernel
theorem dX9_clearRow_4 : decode cX9_clearRow 4 = .ok (.arraylength, 1) := by decide +kernel
theorem dX9_clearRow_5 : decode cX9_clearRow 5 = .ok (.if_icmp .ge 13, 3) := by decide +kernel
theorem dX9_clearRow_8 : decode cX9_clearRow 8 = .ok (.aload_n 0, 1) := by decide +kernel
theorem dX9_clearRow_9 : decode cX9_clearRow 9 = .ok (.iload_n 1, 1) := by decide +kernel
theorem dX9_clearRow_10 : decode cX9_clearRow 10 = .ok (.lconst 0, 1) := by decide +kernel
theorem dX9_clearRow_11 : decode cX9_clearRow 11 = .ok (.lastore, 1) := by decide +kernel
theorem dX9_clearRow_12 : decode cX9_clearRow 12 = .ok (.iinc 1 1, 3) := by decide +kernel
theorem dX9_clearRow_15 : decode cX9_clearRow 15 = .ok (.goto (-13), 3) := by decide +kernel
theorem dX9_clearRow_18 : decode cX9_clearRow 18 = .ok (.return_, 1) := by decide +kernel
