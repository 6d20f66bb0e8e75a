theorem dX5_init_0 : decode cX5_init 0 = .ok (.aload_n 0, 1) := by decide +kernel
theorem dX5_init_1 : decode cX5_init 1 = .ok (.invokespecial 3, 3) := by decide +kernel
theorem dX5_init_4 : decode cX5_init 4 = .ok (.aload_n 0, 1) := by decide +kernel
theorem dX5_init_5 : decode cX5_init 5 = .ok (.sipush 1000, 3) := by decide +kernel
theorem dX5_init_8 : decode cX5_init 8 = .ok (.newarray .int, 2) := by decide +kernel
theorem dX5_init_10 : decode cX5_init 10 = .ok (.putfield 9, 3) := by decide +kernel
theorem dX5_init_13 : decode cX5_init 13 = .ok (.return_, 1) := by decide +kernel
theorem dX5_at_0 : decode cX5_at 0 = .ok (.iload_n 1, 1) := by decide +kernel
theorem dX5_at_1 : decode cX5_at 1 = .ok (.ifCond .lt 19, 3) := by decide +kernel
theorem dX5_at_4 : decode cX5_at 4 = .ok (.iload_n 1, 1) := by decide +kernel
theorem dX5_at_5 : decode cX5_at 5 = .ok (.sipush 1000, 3) := by decide +kernel
theorem dX5_at_8 : decode cX5_at 8 = .ok (.if_icmp .ge 12, 3) := by decide +kernel
theorem dX5_at_11 : decode cX5_at 11 = .ok (.aload_n 0, 1) := by decide +kernel
theorem dX5_at_12 : decode cX5_at 12 = .ok (.getfield 9, 3) := by decide +kernel
theorem dX5_at_15 : decode cX5_at 15 = .ok (.iload_n 1, 1) := by decide +kernel
theorem dX5_at_16 : decode cX5_at 16 = .ok (.iaload, 1) := by decide +kernel
theorem dX5_at_17 : decode cX5_at 17 = .ok (.goto 4, 3) := by decide +kernel
theorem dX5_at_20 : decode cX5_at 20 = .ok (.iconst 0, 1) := by decide +kernel
theorem dX5_at_21 : decode cX5_at 21 = .ok (.ireturn, 1) := by decide +kernel
set_option maxRecDepth 20000 in
theorem ggX5_fillReached_X10_areDigits : GoodIn wsX5_fillReached wsX10_areDigits := goodIn_r _ [4, 5, 6, 3, 7] (by decide +kernel) (by decide +kernel)
set_option maxRecDepth 20000 in
theorem gX5_fillReached_X10_areDigits_n15 : GoodIn wsX5_fillReached (wsX10_areDigits) := ggX5_fillReached_X10_areDigits
set_option maxRecDepth 20000 in
theorem ggX5_fillReached_X10_codeOf : GoodIn wsX5_fillReached wsX10_codeOf := goodIn_r _ [9] (by decide +kernel) (by decide +kernel)
set_option maxRecDepth 20000 in
theorem gX5_fillReached_X10_codeOf_n19 : GoodIn wsX5_fillReached (wsX10_codeOf) := ggX5_fillReached_X10_codeOf
set_option maxRecDepth 20000 in
theorem ggX5_fillReached_X0_step : GoodIn wsX5_fillReached wsX0_step := goodIn_ca (goodIn_r _ [14, 15, 16, 3, 17, 19, 20, 21] (by decide +kernel) (by decide +kernel)) (goodIn_sub (fun _ h => List.mem_cons_of_mem _ (List.mem_append_right _ h)) (by decide +kernel))
set_option maxRecDepth 20000 in
theorem gX5_fillReached_X0_step : GoodIn wsX5_fillReached (wsV RX5 23 RX0 yX0_step wsX0_step) := goodIn_app (goodIn_of _ (by decide +kernel)) ggX5_fillReached_X0_step
theorem dX5_fillReached_0 : decode cX5_fillReached 0 = .ok (.iload_n 2, 1) := by decide +kernel
theorem dX5_fillReached_1 : decode cX5_fillReached 1 = .ok (.iload_n 3, 1) := by decide +kernel
theorem dX5_fillReached_2 : decode cX5_fillReached 2 = .ok (.iload 4, 2) := by decide +kernel
theorem dX5_fillReached_4 : decode cX5_fillReached 4 = .ok (.invokestatic 15, 3) := by decide +kernel
theorem dX5_fillReached_7 : decode cX5_fillReached 7 = .ok (.ifCond .ne 4, 3) := by decide +kernel
theorem dX5_fillReached_10 : decode cX5_fillReached 10 = .ok (.return_, 1) := by decide +kernel
theorem dX5_fillReached_11 : decode cX5_fillReached 11 = .ok (.iconst 0, 1) := by decide +kernel
theorem dX5_fillReached_12 : decode cX5_fillReached 12 = .ok (.istore 5, 2) := by decide +kernel
theorem dX5_fillReached_14 : decode cX5_fillReached 14 = .ok (.iload 5, 2) := by decide +kernel
theorem dX5_fillReached_16 : decode cX5_fillReached 16 = .ok (.iload_n 2, 1) := by decide +kernel
theorem dX5_fillReached_17 : decode cX5_fillReached 17 = .ok (.if_icmp .gt 158, 3) := by decide +kernel
theorem dX5_fillReached_20 : decode cX5_fillReached 20 = .ok (.iconst 0, 1) := by decide +kernel
theorem dX5_fillReached_21 : decode cX5_fillReached 21 = .ok (.istore 6, 2) := by decide +kernel
theorem dX5_fillReached_23 : decode cX5_fillReached 23 = .ok (.iload 6, 2) := by decide +kernel
theorem dX5_fillReached_25 : decode cX5_fillReached 25 = .ok (.iload_n 3, 1) := by decide +kernel
theorem dX5_fillReached_26 : decode cX5_fillReached 26 = .ok (.if_icmp .gt 143, 3) := by decide +kernel
theorem dX5_fillReached_29 : decode cX5_fillReached 29 = .ok (.iconst 0, 1) := by decide +kernel
theorem dX5_fillReached_30 : decode cX5_fillReached 30 = .ok (.istore 7, 2) := by decide +kernel
theorem dX5_fillReached_32 : decode cX5_fillReached 32 = .ok (.iload 7, 2) := by decide +kernel
theorem dX5_fillReached_34 : decode cX5_fillReached 34 = .ok (.iload 4, 2) := by decide +kernel
theorem dX5_fillReached_36 : decode cX5_fillReached 36 = .ok (.if_icmp .gt 127, 3) := by decide +kernel
theorem dX5_fillReached_39 : decode cX5_fillReached 39 = .ok (.iload 5, 2) := by decide +kernel
theorem dX5_fillReached_41 : decode cX5_fillReached 41 = .ok (.iload 6, 2) := by decide +kernel
theorem dX5_fillReached_43 : decode cX5_fillReached 43 = .ok (.iload 7, 2) := by decide +kernel
theorem dX5_fillReached_45 : decode cX5_fillReached 45 = .ok (.invokestatic 19, 3) := by decide +kernel
theorem dX5_fillReached_48 : decode cX5_fillReached 48 = .ok (.istore 8, 2) := by decide +kernel
theorem dX5_fillReached_50 : decode cX5_fillReached 50 = .ok (.iload 8, 2) := by decide +kernel
theorem dX5_fillReached_52 : decode cX5_fillReached 52 = .ok (.ifCond .ne 7, 3) := by decide +kernel
theorem dX5_fillReached_55 : decode cX5_fillReached 55 = .ok (.iconst 1, 1) := by decide +kernel
theorem dX5_fillReached_56 : decode cX5_fillReached 56 = .ok (.goto 4, 3) := by decide +kernel
theorem dX5_fillReached_59 : decode cX5_fillReached 59 = .ok (.iconst 0, 1) := by decide +kernel
theorem dX5_fillReached_60 : decode cX5_fillReached 60 = .ok (.istore 9, 2) := by decide +kernel
theorem dX5_fillReached_62 : decode cX5_fillReached 62 = .ok (.iload 9, 2) := by decide +kernel
theorem dX5_fillReached_64 : decode cX5_fillReached 64 = .ok (.iload 5, 2) := by decide +kernel
theorem dX5_fillReached_66 : decode cX5_fillReached 66 = .ok (.ifCond .le 21, 3) := by decide +kernel
theorem dX5_fillReached_69 : decode cX5_fillReached 69 = .ok (.aload_n 1, 1) := by decide +kernel
theorem dX5_fillReached_70 : decode cX5_fillReached 70 = .ok (.iconst 0, 1) := by decide +kernel
theorem dX5_fillReached_71 : decode cX5_fillReached 71 = .ok (.aload_n 0, 1) := by decide +kernel
theorem dX5_fillReached_72 : decode cX5_fillReached 72 = .ok (.getfield 9, 3) := by decide +kernel
theorem dX5_fillReached_75 : decode cX5_fillReached 75 = .ok (.iload 8, 2) := by decide +kernel
theorem dX5_fillReached_77 : decode cX5_fillReached 77 = .ok (.bipush 100, 2) := by decide +kernel
theorem dX5_fillReached_79 : decode cX5_fillReached 79 = .ok (.isub, 1) := by decide +kernel
theorem dX5_fillReached_80 : decode cX5_fillReached 80 = .ok (.iaload, 1) := by decide +kernel
theorem dX5_fillReached_81 : decode cX5_fillReached 81 = .ok (.invokevirtual 23, 3) := by decide +kernel
theorem dX5_fillReached_84 : decode cX5_fillReached 84 = .ok (.goto 4, 3) := by decide +kernel
theorem dX5_fillReached_87 : decode cX5_fillReached 87 = .ok (.iconst 0, 1) := by decide +kernel
theorem dX5_fillReached_88 : decode cX5_fillReached 88 = .ok (.ior, 1) := by decide +kernel
theorem dX5_fillReached_89 : decode cX5_fillReached 89 = .ok (.istore 9, 2) := by decide +kernel
theorem dX5_fillReached_91 : decode cX5_fillReached 91 = .ok (.iload 9, 2) := by decide +kernel
theorem dX5_fillReached_93 : decode cX5_fillReached 93 = .ok (.iload 6, 2) := by decide +kernel
theorem dX5_fillReached_95 : decode cX5_fillReached 95 = .ok (.ifCond .le 21, 3) := by decide +kernel
theorem dX5_fillReached_98 : decode cX5_fillReached 98 = .ok (.aload_n 1, 1) := by decide +kernel
theorem dX5_fillReached_99 : decode cX5_fillReached 99 = .ok (.iconst 1, 1) := by decide +kernel
theorem dX5_fillReached_100 : decode cX5_fillReached 100 = .ok (.aload_n 0, 1) := by decide +kernel
theorem dX5_fillReached_101 : decode cX5_fillReached 101 = .ok (.getfield 9, 3) := by decide +kernel
theorem dX5_fillReached_104 : decode cX5_fillReached 104 = .ok (.iload 8, 2) := by decide +kernel
theorem dX5_fillReached_106 : decode cX5_fillReached 106 = .ok (.bipush 10, 2) := by decide +kernel
theorem dX5_fillReached_108 : decode cX5_fillReached 108 = .ok (.isub, 1) := by decide +kernel
theorem dX5_fillReached_109 : decode cX5_fillReached 109 = .ok (.iaload, 1) := by decide +kernel
theorem dX5_fillReached_110 : decode cX5_fillReached 110 = .ok (.invokevirtual 23, 3) := by decide +kernel
theorem dX5_fillReached_113 : decode cX5_fillReached 113 = .ok (.goto 4, 3) := by decide +kernel
theorem dX5_fillReached_116 : decode cX5_fillReached 116 = .ok (.iconst 0, 1) := by decide +kernel
theorem dX5_fillReached_117 : decode cX5_fillReached 117 = .ok (.ior, 1) := by decide +kernel
theorem dX5_fillReached_118 : decode cX5_fillReached 118 = .ok (.istore 9, 2) := by decide +kernel
theorem dX5_fillReached_120 : decode cX5_fillReached 120 = .ok (.iload 9, 2) := by decide +kernel
theorem dX5_fillReached_122 : decode cX5_fillReached 122 = .ok (.iload 7, 2) := by decide +kernel
theorem dX5_fillReached_124 : decode cX5_fillReached 124 = .ok (.ifCond .le 20, 3) := by decide +kernel
theorem dX5_fillReached_127 : decode cX5_fillReached 127 = .ok (.aload_n 1, 1) := by decide +kernel
theorem dX5_fillReached_128 : decode cX5_fillReached 128 = .ok (.iconst 2, 1) := by decide +kernel
theorem dX5_fillReached_129 : decode cX5_fillReached 129 = .ok (.aload_n 0, 1) := by decide +kernel
theorem dX5_fillReached_130 : decode cX5_fillReached 130 = .ok (.getfield 9, 3) := by decide +kernel
theorem dX5_fillReached_133 : decode cX5_fillReached 133 = .ok (.iload 8, 2) := by decide +kernel
theorem dX5_fillReached_135 : decode cX5_fillReached 135 = .ok (.iconst 1, 1) := by decide +kernel
theorem dX5_fillReached_136 : decode cX5_fillReached 136 = .ok (.isub, 1) := by decide +kernel
theorem dX5_fillReached_137 : decode cX5_fillReached 137 = .ok (.iaload, 1) := by decide +kernel
theorem dX5_fillReached_138 : decode cX5_fillReached 138 = .ok (.invokevirtual 23, 3) := by decide +kernel
theorem dX5_fillReached_141 : decode cX5_fillReached 141 = .ok (.goto 4, 3) := by decide +kernel
theorem dX5_fillReached_144 : decode cX5_fillReached 144 = .ok (.iconst 0, 1) := by decide +kernel
theorem dX5_fillReached_145 : decode cX5_fillReached 145 = .ok (.ior, 1) := by decide +kernel
theorem dX5_fillReached_146 : decode cX5_fillReached 146 = .ok (.istore 9, 2) := by decide +kernel
theorem dX5_fillReached_148 : decode cX5_fillReached 148 = .ok (.aload_n 0, 1) := by decide +kernel
theorem dX5_fillReached_149 : decode cX5_fillReached 149 = .ok (.getfield 9, 3) := by decide +kernel
theorem dX5_fillReached_152 : decode cX5_fillReached 152 = .ok (.iload 8, 2) := by decide +kernel
theorem dX5_fillReached_154 : decode cX5_fillReached 154 = .ok (.iload 9, 2) := by decide +kernel
theorem dX5_fillReached_156 : decode cX5_fillReached 156 = .ok (.iastore, 1) := by decide +kernel
theorem dX5_fillReached_157 : decode cX5_fillReached 157 = .ok (.iinc 7 1, 3) := by decide +kernel
theorem dX5_fillReached_160 : decode cX5_fillReached 160 = .ok (.goto (-128), 3) := by decide +kernel
theorem dX5_fillReached_163 : decode cX5_fillReached 163 = .ok (.iinc 6 1, 3) := by decide +kernel
theorem dX5_fillReached_166 : decode cX5_fillReached 166 = .ok (.goto (-143), 3) := by decide +kernel
theorem dX5_fillReached_169 : decode cX5_fillReached 169 = .ok (.iinc 5 1, 3) := by decide +kernel
theorem dX5_fillReached_172 : decode cX5_fillReached 172 = .ok (.goto (-158), 3) := by decide +kernel
theorem dX5_fillReached_175 : decode cX5_fillReached 175 = .ok (.return_, 1) := by decide +kernel
set_option maxRecDepth 20000 in
theorem ggX5_fillMembers_X10_areDigits : GoodIn wsX5_fillMembers wsX10_areDigits := goodIn_r _ [3, 4, 5, 2, 6] (by decide +kernel) (by decide +kernel)
set_option maxRecDepth 20000 in
theorem gX5_fillMembers_X10_areDigits_n15 : GoodIn wsX5_fillMembers (wsX10_areDigits) := ggX5_fillMembers_X10_areDigits
set_option maxRecDepth 20000 in
theorem ggX5_fillMembers_X10_codeOf : GoodIn wsX5_fillMembers wsX10_codeOf := goodIn_r _ [8] (by decide +kernel) (by decide +kernel)
set_option maxRecDepth 20000 in
theorem gX5_fillMembers_X10_codeOf_n19 : GoodIn wsX5_fillMembers (wsX10_codeOf) := ggX5_fillMembers_X10_codeOf
set_option maxRecDepth 20000 in
theorem ggX5_fillMembers_X5_empty : GoodIn wsX5_fillMembers wsX5_empty := goodIn_ca (goodIn_r _ [13, 14, 57] (by decide +kernel) (by decide +kernel)) (goodIn_sub (fun _ h => List.mem_cons_of_mem _ (List.mem_append_right _ h)) (by decide +kernel))
set_option maxRecDepth 20000 in
theorem gX5_fillMembers_X5_empty : GoodIn wsX5_fillMembers (wsV RX5 29 RX5 yX5_empty wsX5_empty) := goodIn_app (goodIn_of _ (by decide +kernel)) ggX5_fillMembers_X5_empty
set_option maxRecDepth 20000 in
theorem ggX5_fillMembers_X3_linearCount : GoodIn wsX5_fillMembers wsX3_linearCount := goodIn_ca (goodIn_r _ [19, 20, 21, 2, 22, 58] (by decide +kernel) (by decide +kernel)) (goodIn_sub (fun _ h => List.mem_cons_of_mem _ (List.mem_append_right _ h)) (by decide +kernel))
set_option maxRecDepth 20000 in
theorem gX5_fillMembers_X3_linearCount : GoodIn wsX5_fillMembers (wsV RX5 33 RX3 yX3_linearCount wsX3_linearCount) := goodIn_app (goodIn_of _ (by decide +kernel)) ggX5_fillMembers_X3_linearCount
set_option maxRecDepth 20000 in
theorem ggX5_fillMembers_X3_base : GoodIn wsX5_fillMembers wsX3_base := goodIn_ca (goodIn_r _ [26, 20, 27, 28, 29, 18, 30, 21, 2, 22, 31, 32, 33, 58] (by decide +kernel) (by decide +kernel)) (goodIn_sub (fun _ h => List.mem_cons_of_mem _ (List.mem_append_right _ h)) (by decide +kernel))
set_option maxRecDepth 20000 in
theorem gX5_fillMembers_X3_base : GoodIn wsX5_fillMembers (wsV RX5 39 RX3 yX3_base wsX3_base) := goodIn_app (goodIn_of _ (by decide +kernel)) ggX5_fillMembers_X3_base
set_option maxRecDepth 20000 in
theorem ggX5_fillMembers_X5_mark : GoodIn wsX5_fillMembers wsX5_mark := goodIn_ca (goodIn_r _ [37, 14, 57] (by decide +kernel) (by decide +kernel)) (goodIn_sub (fun _ h => List.mem_cons_of_mem _ (List.mem_append_right _ h)) (by decide +kernel))
set_option maxRecDepth 20000 in
theorem gX5_fillMembers_X5_mark : GoodIn wsX5_fillMembers (wsV RX5 42 RX5 yX5_mark wsX5_mark) := goodIn_app (goodIn_of _ (by decide +kernel)) ggX5_fillMembers_X5_mark
set_option maxRecDepth 20000 in
theorem ggX5_fillMembers_X3_periodCount : GoodIn wsX5_fillMembers wsX3_periodCount := goodIn_ca (goodIn_r _ [41, 20, 27, 28, 29, 18, 30, 21, 2, 22, 31, 32, 33, 58] (by decide +kernel) (by decide +kernel)) (goodIn_sub (fun _ h => List.mem_cons_of_mem _ (List.mem_append_right _ h)) (by decide +kernel))
set_option maxRecDepth 20000 in
theorem gX5_fillMembers_X3_periodCount : GoodIn wsX5_fillMembers (wsV RX5 46 RX3 yX3_periodCount wsX3_periodCount) := goodIn_app (goodIn_of _ (by decide +kernel)) ggX5_fillMembers_X3_periodCount
set_option maxRecDepth 20000 in
theorem ggX5_fillMembers_X3_period : GoodIn wsX5_fillMembers wsX3_period := goodIn_ca (goodIn_r _ [45, 20, 46, 39, 40, 18, 41, 27, 28, 29, 30, 21, 2, 22, 31, 32, 33, 58] (by decide +kernel) (by decide +kernel)) (goodIn_sub (fun _ h => List.mem_cons_of_mem _ (List.mem_append_right _ h)) (by decide +kernel))
set_option maxRecDepth 20000 in
theorem gX5_fillMembers_X3_period : GoodIn wsX5_fillMembers (wsV RX5 49 RX3 yX3_period wsX3_period) := goodIn_app (goodIn_of _ (by decide +kernel)) ggX5_fillMembers_X3_period
set_option maxRecDepth 20000 in
theorem ggX5_fillMembers_X5_spread : GoodIn wsX5_fillMembers wsX5_spread := goodIn_ca (goodIn_r _ [50, 14, 51, 2, 52, 53, 54, 55, 56, 7, 8, 57] (by decide +kernel) (by decide +kernel)) (goodIn_sub (fun _ h => List.mem_cons_of_mem _ (List.mem_append_right _ h)) (by decide +kernel))
set_option maxRecDepth 20000 in
theorem gX5_fillMembers_X5_spread : GoodIn wsX5_fillMembers (wsV RX5 52 RX5 yX5_spread wsX5_spread) := goodIn_app (goodIn_of _ (by decide +kernel)) ggX5_fillMembers_X5_spread
theorem dX5_fillMembers_0 : decode cX5_fillMembers 0 = .ok (.iload_n 3, 1) := by decide +kernel
theorem dX5_fillMembers_1 : decode cX5_fillMembers 1 = .ok (.iload 4, 2) := by decide +kernel
theorem dX5_fillMembers_3 : decode cX5_fillMembers 3 = .ok (.iload 5, 2) := by decide +kernel
theorem dX5_fillMembers_5 : decode cX5_fillMembers 5 = .ok (.invokestatic 15, 3) := by decide +kernel
theorem dX5_fillMembers_8 : decode cX5_fillMembers 8 = .ok (.ifCond .ne 4, 3) := by decide +kernel
theorem dX5_fillMembers_11 : decode cX5_fillMembers 11 = .ok (.return_, 1) := by decide +kernel
theorem dX5_fillMembers_12 : decode cX5_fillMembers 12 = .ok (.iload_n 3, 1) := by decide +kernel
theorem dX5_fillMembers_13 : decode cX5_fillMembers 13 = .ok (.iload 4, 2) := by decide +kernel
theorem dX5_fillMembers_15 : decode cX5_fillMembers 15 = .ok (.iload 5, 2) := by decide +kernel
theorem dX5_fillMembers_17 : decode cX5_fillMembers 17 = .ok (.invokestatic 19, 3) := by decide +kernel
theorem dX5_fillMembers_20 : decode cX5_fillMembers 20 = .ok (.istore 6, 2) := by decide +kernel
theorem dX5_fillMembers_22 : decode cX5_fillMembers 22 = .ok (.aload_n 0, 1) := by decide +kernel
theorem dX5_fillMembers_23 : decode cX5_fillMembers 23 = .ok (.iload 6, 2) := by decide +kernel
theorem dX5_fillMembers_25 : decode cX5_fillMembers 25 = .ok (.invokevirtual 29, 3) := by decide +kernel
theorem dX5_fillMembers_28 : decode cX5_fillMembers 28 = .ok (.aload_n 1, 1) := by decide +kernel
theorem dX5_fillMembers_29 : decode cX5_fillMembers 29 = .ok (.iload_n 2, 1) := by decide +kernel
theorem dX5_fillMembers_30 : decode cX5_fillMembers 30 = .ok (.invokevirtual 33, 3) := by decide +kernel
theorem dX5_fillMembers_33 : decode cX5_fillMembers 33 = .ok (.istore 7, 2) := by decide +kernel
theorem dX5_fillMembers_35 : decode cX5_fillMembers 35 = .ok (.iconst 0, 1) := by decide +kernel
theorem dX5_fillMembers_36 : decode cX5_fillMembers 36 = .ok (.istore 8, 2) := by decide +kernel
theorem dX5_fillMembers_38 : decode cX5_fillMembers 38 = .ok (.iload 8, 2) := by decide +kernel
theorem dX5_fillMembers_40 : decode cX5_fillMembers 40 = .ok (.iload 7, 2) := by decide +kernel
theorem dX5_fillMembers_42 : decode cX5_fillMembers 42 = .ok (.if_icmp .ge 80, 3) := by decide +kernel
theorem dX5_fillMembers_45 : decode cX5_fillMembers 45 = .ok (.iload 8, 2) := by decide +kernel
theorem dX5_fillMembers_47 : decode cX5_fillMembers 47 = .ok (.iconst 4, 1) := by decide +kernel
theorem dX5_fillMembers_48 : decode cX5_fillMembers 48 = .ok (.if_icmp .ge 74, 3) := by decide +kernel
theorem dX5_fillMembers_51 : decode cX5_fillMembers 51 = .ok (.aload_n 0, 1) := by decide +kernel
theorem dX5_fillMembers_52 : decode cX5_fillMembers 52 = .ok (.aload_n 1, 1) := by decide +kernel
theorem dX5_fillMembers_53 : decode cX5_fillMembers 53 = .ok (.iload_n 2, 1) := by decide +kernel
theorem dX5_fillMembers_54 : decode cX5_fillMembers 54 = .ok (.iload 8, 2) := by decide +kernel
theorem dX5_fillMembers_56 : decode cX5_fillMembers 56 = .ok (.invokevirtual 39, 3) := by decide +kernel
theorem dX5_fillMembers_59 : decode cX5_fillMembers 59 = .ok (.iconst 1, 1) := by decide +kernel
theorem dX5_fillMembers_60 : decode cX5_fillMembers 60 = .ok (.iload 8, 2) := by decide +kernel
theorem dX5_fillMembers_62 : decode cX5_fillMembers 62 = .ok (.ishl, 1) := by decide +kernel
theorem dX5_fillMembers_63 : decode cX5_fillMembers 63 = .ok (.invokevirtual 42, 3) := by decide +kernel
theorem dX5_fillMembers_66 : decode cX5_fillMembers 66 = .ok (.aload_n 1, 1) := by decide +kernel
theorem dX5_fillMembers_67 : decode cX5_fillMembers 67 = .ok (.iload_n 2, 1) := by decide +kernel
theorem dX5_fillMembers_68 : decode cX5_fillMembers 68 = .ok (.iload 8, 2) := by decide +kernel
theorem dX5_fillMembers_70 : decode cX5_fillMembers 70 = .ok (.invokevirtual 46, 3) := by decide +kernel
theorem dX5_fillMembers_73 : decode cX5_fillMembers 73 = .ok (.istore 9, 2) := by decide +kernel
theorem dX5_fillMembers_75 : decode cX5_fillMembers 75 = .ok (.iconst 0, 1) := by decide +kernel
theorem dX5_fillMembers_76 : decode cX5_fillMembers 76 = .ok (.istore 10, 2) := by decide +kernel
theorem dX5_fillMembers_78 : decode cX5_fillMembers 78 = .ok (.iload 10, 2) := by decide +kernel
theorem dX5_fillMembers_80 : decode cX5_fillMembers 80 = .ok (.iload 9, 2) := by decide +kernel
theorem dX5_fillMembers_82 : decode cX5_fillMembers 82 = .ok (.if_icmp .ge 34, 3) := by decide +kernel
theorem dX5_fillMembers_85 : decode cX5_fillMembers 85 = .ok (.iload 10, 2) := by decide +kernel
theorem dX5_fillMembers_87 : decode cX5_fillMembers 87 = .ok (.iconst 3, 1) := by decide +kernel
theorem dX5_fillMembers_88 : decode cX5_fillMembers 88 = .ok (.if_icmp .ge 28, 3) := by decide +kernel
theorem dX5_fillMembers_91 : decode cX5_fillMembers 91 = .ok (.aload_n 0, 1) := by decide +kernel
theorem dX5_fillMembers_92 : decode cX5_fillMembers 92 = .ok (.aload_n 1, 1) := by decide +kernel
theorem dX5_fillMembers_93 : decode cX5_fillMembers 93 = .ok (.iload_n 2, 1) := by decide +kernel
theorem dX5_fillMembers_94 : decode cX5_fillMembers 94 = .ok (.iload 8, 2) := by decide +kernel
theorem dX5_fillMembers_96 : decode cX5_fillMembers 96 = .ok (.iload 10, 2) := by decide +kernel
theorem dX5_fillMembers_98 : decode cX5_fillMembers 98 = .ok (.invokevirtual 49, 3) := by decide +kernel
theorem dX5_fillMembers_101 : decode cX5_fillMembers 101 = .ok (.iconst 1, 1) := by decide +kernel
theorem dX5_fillMembers_102 : decode cX5_fillMembers 102 = .ok (.iload 8, 2) := by decide +kernel
theorem dX5_fillMembers_104 : decode cX5_fillMembers 104 = .ok (.ishl, 1) := by decide +kernel
theorem dX5_fillMembers_105 : decode cX5_fillMembers 105 = .ok (.iload 6, 2) := by decide +kernel
theorem dX5_fillMembers_107 : decode cX5_fillMembers 107 = .ok (.invokevirtual 52, 3) := by decide +kernel
theorem dX5_fillMembers_110 : decode cX5_fillMembers 110 = .ok (.iinc 10 1, 3) := by decide +kernel
theorem dX5_fillMembers_113 : decode cX5_fillMembers 113 = .ok (.goto (-35), 3) := by decide +kernel
theorem dX5_fillMembers_116 : decode cX5_fillMembers 116 = .ok (.iinc 8 1, 3) := by decide +kernel
theorem dX5_fillMembers_119 : decode cX5_fillMembers 119 = .ok (.goto (-81), 3) := by decide +kernel
theorem dX5_fillMembers_122 : decode cX5_fillMembers 122 = .ok (.return_, 1) := by decide +kernel
set_option maxRecDepth 20000 in
theorem ggX5_countMeeting_X10_codeOf : GoodIn wsX5_countMeeting wsX10_codeOf := goodIn_r _ [3] (by decide +kernel) (by decide +kernel)
set_option maxRecDepth 20000 in
theorem gX5_countMeeting_X10_codeOf_n19 : GoodIn wsX5_countMeeting (wsX10_codeOf) := ggX5_countMeeting_X10_codeOf
set_option maxRecDepth 20000 in
theorem ggX5_countMeeting_X5_at : GoodIn wsX5_countMeeting wsX5_at := goodIn_ca (goodIn_r _ [8, 9, 10] (by decide +kernel) (by decide +kernel)) (goodIn_sub (fun _ h => List.mem_cons_of_mem _ (List.mem_append_right _ h)) (by decide +kernel))
set_option maxRecDepth 20000 in
theorem gX5_countMeeting_X5_at : GoodIn wsX5_countMeeting (wsV RX5 56 RX5 yX5_at wsX5_at) := goodIn_app (goodIn_of _ (by decide +kernel)) ggX5_countMeeting_X5_at
theorem dX5_countMeeting_0 : decode cX5_countMeeting 0 = .ok (.iconst 0, 1) := by decide +kernel
theorem dX5_countMeeting_1 : decode cX5_countMeeting 1 = .ok (.istore_n 3, 1) := by decide +kernel
theorem dX5_countMeeting_2 : decode cX5_countMeeting 2 = .ok (.iconst 0, 1) := by decide +kernel
theorem dX5_countMeeting_3 : decode cX5_countMeeting 3 = .ok (.istore 4, 2) := by decide +kernel
theorem dX5_countMeeting_5 : decode cX5_countMeeting 5 = .ok (.iload 4, 2) := by decide +kernel
theorem dX5_countMeeting_7 : decode cX5_countMeeting 7 = .ok (.iload_n 2, 1) := by decide +kernel
theorem dX5_countMeeting_8 : decode cX5_countMeeting 8 = .ok (.if_icmp .gt 65, 3) := by decide +kernel
theorem dX5_countMeeting_11 : decode cX5_countMeeting 11 = .ok (.iconst 0, 1) := by decide +kernel
theorem dX5_countMeeting_12 : decode cX5_countMeeting 12 = .ok (.istore 5, 2) := by decide +kernel
theorem dX5_countMeeting_14 : decode cX5_countMeeting 14 = .ok (.iload 5, 2) := by decide +kernel
theorem dX5_countMeeting_16 : decode cX5_countMeeting 16 = .ok (.iload_n 2, 1) := by decide +kernel
theorem dX5_countMeeting_17 : decode cX5_countMeeting 17 = .ok (.if_icmp .gt 50, 3) := by decide +kernel
theorem dX5_countMeeting_20 : decode cX5_countMeeting 20 = .ok (.iconst 0, 1) := by decide +kernel
theorem dX5_countMeeting_21 : decode cX5_countMeeting 21 = .ok (.istore 6, 2) := by decide +kernel
theorem dX5_countMeeting_23 : decode cX5_countMeeting 23 = .ok (.iload 6, 2) := by decide +kernel
theorem dX5_countMeeting_25 : decode cX5_countMeeting 25 = .ok (.iload_n 2, 1) := by decide +kernel
theorem dX5_countMeeting_26 : decode cX5_countMeeting 26 = .ok (.if_icmp .gt 35, 3) := by decide +kernel
theorem dX5_countMeeting_29 : decode cX5_countMeeting 29 = .ok (.iload_n 3, 1) := by decide +kernel
theorem dX5_countMeeting_30 : decode cX5_countMeeting 30 = .ok (.aload_n 0, 1) := by decide +kernel
theorem dX5_countMeeting_31 : decode cX5_countMeeting 31 = .ok (.iload 4, 2) := by decide +kernel
theorem dX5_countMeeting_33 : decode cX5_countMeeting 33 = .ok (.iload 5, 2) := by decide +kernel
theorem dX5_countMeeting_35 : decode cX5_countMeeting 35 = .ok (.iload 6, 2) := by decide +kernel
theorem dX5_countMeeting_37 : decode cX5_countMeeting 37 = .ok (.invokestatic 19, 3) := by decide +kernel
theorem dX5_countMeeting_40 : decode cX5_countMeeting 40 = .ok (.invokevirtual 56, 3) := by decide +kernel
theorem dX5_countMeeting_43 : decode cX5_countMeeting 43 = .ok (.iload_n 1, 1) := by decide +kernel
theorem dX5_countMeeting_44 : decode cX5_countMeeting 44 = .ok (.iand, 1) := by decide +kernel
theorem dX5_countMeeting_45 : decode cX5_countMeeting 45 = .ok (.ifCond .eq 7, 3) := by decide +kernel
theorem dX5_countMeeting_48 : decode cX5_countMeeting 48 = .ok (.iconst 1, 1) := by decide +kernel
theorem dX5_countMeeting_49 : decode cX5_countMeeting 49 = .ok (.goto 4, 3) := by decide +kernel
theorem dX5_countMeeting_52 : decode cX5_countMeeting 52 = .ok (.iconst 0, 1) := by decide +kernel
theorem dX5_countMeeting_53 : decode cX5_countMeeting 53 = .ok (.iadd, 1) := by decide +kernel
theorem dX5_countMeeting_54 : decode cX5_countMeeting 54 = .ok (.istore_n 3, 1) := by decide +kernel
theorem dX5_countMeeting_55 : decode cX5_countMeeting 55 = .ok (.iinc 6 1, 3) := by decide +kernel
theorem dX5_countMeeting_58 : decode cX5_countMeeting 58 = .ok (.goto (-35), 3) := by decide +kernel
theorem dX5_countMeeting_61 : decode cX5_countMeeting 61 = .ok (.iinc 5 1, 3) := by decide +kernel
theorem dX5_countMeeting_64 : decode cX5_countMeeting 64 = .ok (.goto (-50), 3) := by decide +kernel
theorem dX5_countMeeting_67 : decode cX5_countMeeting 67 = .ok (.iinc 4 1, 3) := by decide +kernel
theorem dX5_countMeeting_70 : decode cX5_countMeeting 70 = .ok (.goto (-65), 3) := by decide +kernel
theorem dX5_countMeeting_73 : decode cX5_countMeeting 73 = .ok (.iload_n 3, 1) := by decide +kernel
theorem dX5_countMeeting_74 : decode cX5_countMeeting 74 = .ok (.ireturn, 1) := by decide +kernel
theorem dX5_empty_0 : decode cX5_empty 0 = .ok (.iconst 0, 1) := by decide +kernel
theorem dX5_empty_1 : decode cX5_empty 1 = .ok (.istore_n 2, 1) := by decide +kernel
theorem dX5_empty_2 : decode cX5_empty 2 = .ok (.iload_n 2, 1) := by decide +kernel
theorem dX5_empty_3 : decode cX5_empty 3 = .ok (.sipush 1000, 3) := by decide +kernel
theorem dX5_empty_6 : decode cX5_empty 6 = .ok (.if_icmp .ge 21, 3) := by decide +kernel
theorem dX5_empty_9 : decode cX5_empty 9 = .ok (.iload_n 2, 1) := by decide +kernel
theorem dX5_empty_10 : decode cX5_empty 10 = .ok (.iload_n 1, 1) := by decide +kernel
theorem dX5_empty_11 : decode cX5_empty 11 = .ok (.if_icmp .gt 16, 3) := by decide +kernel
theorem dX5_empty_14 : decode cX5_empty 14 = .ok (.aload_n 0, 1) := by decide +kernel
theorem dX5_empty_15 : decode cX5_empty 15 = .ok (.getfield 9, 3) := by decide +kernel
theorem dX5_empty_18 : decode cX5_empty 18 = .ok (.iload_n 2, 1) := by decide +kernel
theorem dX5_empty_19 : decode cX5_empty 19 = .ok (.iconst 0, 1) := by decide +kernel
theorem dX5_empty_20 : decode cX5_empty 20 = .ok (.iastore, 1) := by decide +kernel
theorem dX5_empty_21 : decode cX5_empty 21 = .ok (.iinc 2 1, 3) := by decide +kernel
theorem dX5_empty_24 : decode cX5_empty 24 = .ok (.goto (-22), 3) := by decide +kernel
theorem dX5_empty_27 : decode cX5_empty 27 = .ok (.return_, 1) := by decide +kernel
theorem dX5_mark_0 : decode cX5_mark 0 = .ok (.iload_n 1, 1) := by decide +kernel
theorem dX5_mark_1 : decode cX5_mark 1 = .ok (.ifCond .lt 20, 3) := by decide +kernel
theorem dX5_mark_4 : decode cX5_mark 4 = .ok (.iload_n 1, 1) := by decide +kernel
theorem dX5_mark_5 : decode cX5_mark 5 = .ok (.sipush 1000, 3) := by decide +kernel
theorem dX5_mark_8 : decode cX5_mark 8 = .ok (.if_icmp .ge 13, 3) := by decide +kernel
theorem dX5_mark_11 : decode cX5_mark 11 = .ok (.aload_n 0, 1) := by decide +kernel
theorem dX5_mark_12 : decode cX5_mark 12 = .ok (.getfield 9, 3) := by decide +kernel
theorem dX5_mark_15 : decode cX5_mark 15 = .ok (.iload_n 1, 1) := by decide +kernel
theorem dX5_mark_16 : decode cX5_mark 16 = .ok (.dup2, 1) := by decide +kernel
theorem dX5_mark_17 : decode cX5_mark 17 = .ok (.iaload, 1) := by decide +kernel
theorem dX5_mark_18 : decode cX5_mark 18 = .ok (.iload_n 2, 1) := by decide +kernel
theorem dX5_mark_19 : decode cX5_mark 19 = .ok (.ior, 1) := by decide +kernel
theorem dX5_mark_20 : decode cX5_mark 20 = .ok (.iastore, 1) := by decide +kernel
theorem dX5_mark_21 : decode cX5_mark 21 = .ok (.return_, 1) := by decide +kernel
set_option maxRecDepth 20000 in
theorem ggX5_spread_X10_firstOf : GoodIn wsX5_spread wsX10_firstOf := goodIn_r _ [4] (by decide +kernel) (by decide +kernel)
set_option maxRecDepth 20000 in
theorem gX5_spread_X10_firstOf_n59 : GoodIn wsX5_spread (wsX10_firstOf) := ggX5_spread_X10_firstOf
set_option maxRecDepth 20000 in
theorem ggX5_spread_X10_secondOf : GoodIn wsX5_spread wsX10_secondOf := goodIn_r _ [6] (by decide +kernel) (by decide +kernel)
set_option maxRecDepth 20000 in
theorem gX5_spread_X10_secondOf_n62 : GoodIn wsX5_spread (wsX10_secondOf) := ggX5_spread_X10_secondOf
set_option maxRecDepth 20000 in
theorem ggX5_spread_X10_thirdOf : GoodIn wsX5_spread wsX10_thirdOf := goodIn_r _ [8] (by decide +kernel) (by decide +kernel)
set_option maxRecDepth 20000 in
theorem gX5_spread_X10_thirdOf_n65 : GoodIn wsX5_spread (wsX10_thirdOf) := ggX5_spread_X10_thirdOf
set_option maxRecDepth 20000 in
theorem ggX5_spread_X10_codeOf : GoodIn wsX5_spread wsX10_codeOf := goodIn_r _ [10] (by decide +kernel) (by decide +kernel)
set_option maxRecDepth 20000 in
theorem gX5_spread_X10_codeOf_n19 : GoodIn wsX5_spread (wsX10_codeOf) := ggX5_spread_X10_codeOf
theorem dX5_spread_0 : decode cX5_spread 0 = .ok (.iload_n 1, 1) := by decide +kernel
theorem dX5_spread_1 : decode cX5_spread 1 = .ok (.ifCond .lt 21, 3) := by decide +kernel
theorem dX5_spread_4 : decode cX5_spread 4 = .ok (.iload_n 1, 1) := by decide +kernel
theorem dX5_spread_5 : decode cX5_spread 5 = .ok (.sipush 1000, 3) := by decide +kernel
theorem dX5_spread_8 : decode cX5_spread 8 = .ok (.if_icmp .ge 14, 3) := by decide +kernel
theorem dX5_spread_11 : decode cX5_spread 11 = .ok (.iload_n 3, 1) := by decide +kernel
theorem dX5_spread_12 : decode cX5_spread 12 = .ok (.ifCond .lt 10, 3) := by decide +kernel
theorem dX5_spread_15 : decode cX5_spread 15 = .ok (.iload_n 3, 1) := by decide +kernel
theorem dX5_spread_16 : decode cX5_spread 16 = .ok (.sipush 1000, 3) := by decide +kernel
theorem dX5_spread_19 : decode cX5_spread 19 = .ok (.if_icmp .lt 4, 3) := by decide +kernel
theorem dX5_spread_22 : decode cX5_spread 22 = .ok (.return_, 1) := by decide +kernel
theorem dX5_spread_23 : decode cX5_spread 23 = .ok (.iload_n 3, 1) := by decide +kernel
theorem dX5_spread_24 : decode cX5_spread 24 = .ok (.invokestatic 59, 3) := by decide +kernel
theorem dX5_spread_27 : decode cX5_spread 27 = .ok (.istore 4, 2) := by decide +kernel
theorem dX5_spread_29 : decode cX5_spread 29 = .ok (.iload_n 3, 1) := by decide +kernel
theorem dX5_spread_30 : decode cX5_spread 30 = .ok (.invokestatic 62, 3) := by decide +kernel
theorem dX5_spread_33 : decode cX5_spread 33 = .ok (.istore 5, 2) := by decide +kernel
theorem dX5_spread_35 : decode cX5_spread 35 = .ok (.iload_n 3, 1) := by decide +kernel
theorem dX5_spread_36 : decode cX5_spread 36 = .ok (.invokestatic 65, 3) := by decide +kernel
theorem dX5_spread_39 : decode cX5_spread 39 = .ok (.istore 6, 2) := by decide +kernel
theorem dX5_spread_41 : decode cX5_spread 41 = .ok (.iload_n 1, 1) := by decide +kernel
theorem dX5_spread_42 : decode cX5_spread 42 = .ok (.invokestatic 59, 3) := by decide +kernel
theorem dX5_spread_45 : decode cX5_spread 45 = .ok (.istore 7, 2) := by decide +kernel
theorem dX5_spread_47 : decode cX5_spread 47 = .ok (.iload 7, 2) := by decide +kernel
theorem dX5_spread_49 : decode cX5_spread 49 = .ok (.iload 4, 2) := by decide +kernel
theorem dX5_spread_51 : decode cX5_spread 51 = .ok (.if_icmp .gt 79, 3) := by decide +kernel
theorem dX5_spread_54 : decode cX5_spread 54 = .ok (.iload_n 1, 1) := by decide +kernel
theorem dX5_spread_55 : decode cX5_spread 55 = .ok (.invokestatic 62, 3) := by decide +kernel
theorem dX5_spread_58 : decode cX5_spread 58 = .ok (.istore 8, 2) := by decide +kernel
theorem dX5_spread_60 : decode cX5_spread 60 = .ok (.iload 8, 2) := by decide +kernel
theorem dX5_spread_62 : decode cX5_spread 62 = .ok (.iload 5, 2) := by decide +kernel
theorem dX5_spread_64 : decode cX5_spread 64 = .ok (.if_icmp .gt 60, 3) := by decide +kernel
theorem dX5_spread_67 : decode cX5_spread 67 = .ok (.iload_n 1, 1) := by decide +kernel
theorem dX5_spread_68 : decode cX5_spread 68 = .ok (.invokestatic 65, 3) := by decide +kernel
theorem dX5_spread_71 : decode cX5_spread 71 = .ok (.istore 9, 2) := by decide +kernel
theorem dX5_spread_73 : decode cX5_spread 73 = .ok (.iload 9, 2) := by decide +kernel
theorem dX5_spread_75 : decode cX5_spread 75 = .ok (.iload 6, 2) := by decide +kernel
theorem dX5_spread_77 : decode cX5_spread 77 = .ok (.if_icmp .gt 41, 3) := by decide +kernel
theorem dX5_spread_80 : decode cX5_spread 80 = .ok (.iload 7, 2) := by decide +kernel
theorem dX5_spread_82 : decode cX5_spread 82 = .ok (.iload 8, 2) := by decide +kernel
theorem dX5_spread_84 : decode cX5_spread 84 = .ok (.iload 9, 2) := by decide +kernel
theorem dX5_spread_86 : decode cX5_spread 86 = .ok (.invokestatic 19, 3) := by decide +kernel
theorem dX5_spread_89 : decode cX5_spread 89 = .ok (.istore 10, 2) := by decide +kernel
theorem dX5_spread_91 : decode cX5_spread 91 = .ok (.aload_n 0, 1) := by decide +kernel
theorem dX5_spread_92 : decode cX5_spread 92 = .ok (.getfield 9, 3) := by decide +kernel
theorem dX5_spread_95 : decode cX5_spread 95 = .ok (.iload 10, 2) := by decide +kernel
theorem dX5_spread_97 : decode cX5_spread 97 = .ok (.dup2, 1) := by decide +kernel
theorem dX5_spread_98 : decode cX5_spread 98 = .ok (.iaload, 1) := by decide +kernel
theorem dX5_spread_99 : decode cX5_spread 99 = .ok (.aload_n 0, 1) := by decide +kernel
theorem dX5_spread_100 : decode cX5_spread 100 = .ok (.getfield 9, 3) := by decide +kernel
theorem dX5_spread_103 : decode cX5_spread 103 = .ok (.iload 10, 2) := by decide +kernel
theorem dX5_spread_105 : decode cX5_spread 105 = .ok (.iload_n 1, 1) := by decide +kernel
theorem dX5_spread_106 : decode cX5_spread 106 = .ok (.isub, 1) := by decide +kernel
theorem dX5_spread_107 : decode cX5_spread 107 = .ok (.iaload, 1) := by decide +kernel
theorem dX5_spread_108 : decode cX5_spread 108 = .ok (.iload_n 2, 1) := by decide +kernel
theorem dX5_spread_109 : decode cX5_spread 109 = .ok (.iand, 1) := by decide +kernel
theorem dX5_spread_110 : decode cX5_spread 110 = .ok (.ior, 1) := by decide +kernel
theorem dX5_spread_111 : decode cX5_spread 111 = .ok (.iastore, 1) := by decide +kernel
theorem dX5_spread_112 : decode cX5_spread 112 = .ok (.iinc 9 1, 3) := by decide +kernel
theorem dX5_spread_115 : decode cX5_spread 115 = .ok (.goto (-42), 3) := by decide +kernel
theorem dX5_spread_118 : decode cX5_spread 118 = .ok (.iinc 8 1, 3) := by decide +kernel
theorem dX5_spread_121 : decode cX5_spread 121 = .ok (.goto (-61), 3) := by decide +kernel
theorem dX5_spread_124 : decode cX5_spread 124 = .ok (.iinc 7 1, 3) := by decide +kernel
theorem dX5_spread_127 : decode cX5_spread 127 = .ok (.goto (-80), 3) := by decide +kernel
theorem dX5_spread_130 : decode cX5_spread 130 = .ok (.return_, 1) := by decide +kernel
