theorem dX6_init_0 : decode cX6_init 0 = .ok (.aload_n 0, 1) := by decide +kernel
theorem dX6_init_1 : decode cX6_init 1 = .ok (.invokespecial 3, 3) := by decide +kernel
theorem dX6_init_4 : decode cX6_init 4 = .ok (.aload_n 0, 1) := by decide +kernel
theorem dX6_init_5 : decode cX6_init 5 = .ok (.iconst 0, 1) := by decide +kernel
theorem dX6_init_6 : decode cX6_init 6 = .ok (.putfield 9, 3) := by decide +kernel
theorem dX6_init_9 : decode cX6_init 9 = .ok (.return_, 1) := by decide +kernel
set_option maxRecDepth 20000 in
theorem ggX6_gather_X4_clear : GoodIn wsX6_gather wsX4_clear := goodIn_r _ [6, 7, 50, 51] (by decide +kernel) (by decide +kernel)
set_option maxRecDepth 20000 in
theorem gX6_gather_X4_clear : GoodIn wsX6_gather (wsV RX6 15 RX4 yX4_clear wsX4_clear) := goodIn_app (goodIn_of _ (by decide +kernel)) ggX6_gather_X4_clear
set_option maxRecDepth 20000 in
theorem ggX6_gather_X0_useful : GoodIn wsX6_gather wsX0_useful := goodIn_ca (goodIn_r _ [12, 13, 14, 15, 16, 11, 17, 18, 19, 20, 21, 22, 23, 24, 25, 26, 52, 53, 54] (by decide +kernel) (by decide +kernel)) (goodIn_sub (fun _ h => List.mem_cons_of_mem _ (List.mem_append_right _ h)) (by decide +kernel))
set_option maxRecDepth 20000 in
theorem gX6_gather_X0_useful : GoodIn wsX6_gather (wsV RX6 20 RX0 yX0_useful wsX0_useful) := goodIn_app (goodIn_of _ (by decide +kernel)) ggX6_gather_X0_useful
set_option maxRecDepth 20000 in
theorem ggX6_gather_X6_walk : GoodIn wsX6_gather wsX6_walk := goodIn_ca (goodIn_r _ [31, 1, 32, 33, 34, 11, 35, 26, 36, 20, 37, 19, 21, 38, 39, 40, 41, 42, 5, 43, 7, 44, 45, 46, 47, 48, 27, 28, 29, 30, 49, 52, 53, 54, 50, 51] (by decide +kernel) (by decide +kernel)) (goodIn_sub (fun _ h => List.mem_cons_of_mem _ (List.mem_append_right _ h)) (by decide +kernel))
set_option maxRecDepth 20000 in
theorem gX6_gather_X6_walk : GoodIn wsX6_gather (wsV RX6 26 RX6 yX6_walk wsX6_walk) := goodIn_app (goodIn_of _ (by decide +kernel)) ggX6_gather_X6_walk
theorem dX6_gather_0 : decode cX6_gather 0 = .ok (.aload_n 2, 1) := by decide +kernel
theorem dX6_gather_1 : decode cX6_gather 1 = .ok (.invokevirtual 15, 3) := by decide +kernel
theorem dX6_gather_4 : decode cX6_gather 4 = .ok (.aload_n 1, 1) := by decide +kernel
theorem dX6_gather_5 : decode cX6_gather 5 = .ok (.invokevirtual 20, 3) := by decide +kernel
theorem dX6_gather_8 : decode cX6_gather 8 = .ok (.istore_n 3, 1) := by decide +kernel
theorem dX6_gather_9 : decode cX6_gather 9 = .ok (.iconst 0, 1) := by decide +kernel
theorem dX6_gather_10 : decode cX6_gather 10 = .ok (.istore 4, 2) := by decide +kernel
theorem dX6_gather_12 : decode cX6_gather 12 = .ok (.iload 4, 2) := by decide +kernel
theorem dX6_gather_14 : decode cX6_gather 14 = .ok (.iconst 5, 1) := by decide +kernel
theorem dX6_gather_15 : decode cX6_gather 15 = .ok (.if_icmp .ge 45, 3) := by decide +kernel
theorem dX6_gather_18 : decode cX6_gather 18 = .ok (.iload_n 3, 1) := by decide +kernel
theorem dX6_gather_19 : decode cX6_gather 19 = .ok (.iload 4, 2) := by decide +kernel
theorem dX6_gather_21 : decode cX6_gather 21 = .ok (.ishr, 1) := by decide +kernel
theorem dX6_gather_22 : decode cX6_gather 22 = .ok (.iconst 1, 1) := by decide +kernel
theorem dX6_gather_23 : decode cX6_gather 23 = .ok (.iand, 1) := by decide +kernel
theorem dX6_gather_24 : decode cX6_gather 24 = .ok (.ifCond .eq 30, 3) := by decide +kernel
theorem dX6_gather_27 : decode cX6_gather 27 = .ok (.aload_n 0, 1) := by decide +kernel
theorem dX6_gather_28 : decode cX6_gather 28 = .ok (.iload 4, 2) := by decide +kernel
theorem dX6_gather_30 : decode cX6_gather 30 = .ok (.putfield 9, 3) := by decide +kernel
theorem dX6_gather_33 : decode cX6_gather 33 = .ok (.iload_n 3, 1) := by decide +kernel
theorem dX6_gather_34 : decode cX6_gather 34 = .ok (.bipush (-2), 2) := by decide +kernel
theorem dX6_gather_36 : decode cX6_gather 36 = .ok (.iload 4, 2) := by decide +kernel
theorem dX6_gather_38 : decode cX6_gather 38 = .ok (.ishl, 1) := by decide +kernel
theorem dX6_gather_39 : decode cX6_gather 39 = .ok (.iand, 1) := by decide +kernel
theorem dX6_gather_40 : decode cX6_gather 40 = .ok (.istore 5, 2) := by decide +kernel
theorem dX6_gather_42 : decode cX6_gather 42 = .ok (.aload_n 0, 1) := by decide +kernel
theorem dX6_gather_43 : decode cX6_gather 43 = .ok (.aload_n 1, 1) := by decide +kernel
theorem dX6_gather_44 : decode cX6_gather 44 = .ok (.aload_n 2, 1) := by decide +kernel
theorem dX6_gather_45 : decode cX6_gather 45 = .ok (.iload 4, 2) := by decide +kernel
theorem dX6_gather_47 : decode cX6_gather 47 = .ok (.iload 5, 2) := by decide +kernel
theorem dX6_gather_49 : decode cX6_gather 49 = .ok (.iconst 0, 1) := by decide +kernel
theorem dX6_gather_50 : decode cX6_gather 50 = .ok (.iconst 0, 1) := by decide +kernel
theorem dX6_gather_51 : decode cX6_gather 51 = .ok (.invokevirtual 26, 3) := by decide +kernel
theorem dX6_gather_54 : decode cX6_gather 54 = .ok (.iinc 4 1, 3) := by decide +kernel
theorem dX6_gather_57 : decode cX6_gather 57 = .ok (.goto (-45), 3) := by decide +kernel
theorem dX6_gather_60 : decode cX6_gather 60 = .ok (.return_, 1) := by decide +kernel
set_option maxRecDepth 20000 in
theorem ggX6_walk_X0_targetsOf : GoodIn wsX6_walk wsX0_targetsOf := goodIn_ca (goodIn_r _ [6, 7, 8, 9, 10, 11, 12, 31, 32, 33] (by decide +kernel) (by decide +kernel)) (goodIn_sub (fun _ h => List.mem_cons_of_mem _ (List.mem_append_right _ h)) (by decide +kernel))
set_option maxRecDepth 20000 in
theorem gX6_walk_X0_targetsOf : GoodIn wsX6_walk (wsV RX6 30 RX0 yX0_targetsOf wsX0_targetsOf) := goodIn_app (goodIn_of _ (by decide +kernel)) ggX6_walk_X0_targetsOf
set_option maxRecDepth 20000 in
theorem ggX6_walk_X10_weightOf : GoodIn wsX6_walk wsX10_weightOf := goodIn_r _ [14] (by decide +kernel) (by decide +kernel)
set_option maxRecDepth 20000 in
theorem gX6_walk_X10_weightOf_n34 : GoodIn wsX6_walk (wsX10_weightOf) := ggX6_walk_X10_weightOf
set_option maxRecDepth 20000 in
theorem ggX6_walk_X4_insert : GoodIn wsX6_walk wsX4_insert := goodIn_ca (goodIn_r _ [19, 20, 21, 22, 23, 24, 18, 25, 34, 35] (by decide +kernel) (by decide +kernel)) (goodIn_sub (fun _ h => List.mem_cons_of_mem _ (List.mem_append_right _ h)) (by decide +kernel))
set_option maxRecDepth 20000 in
theorem gX6_walk_X4_insert : GoodIn wsX6_walk (wsV RX6 38 RX4 yX4_insert wsX4_insert) := goodIn_app (goodIn_of _ (by decide +kernel)) ggX6_walk_X4_insert
set_option maxRecDepth 20000 in
theorem ggX6_walk_X6_walk : GoodIn wsX6_walk wsX6_walk := goodIn_ca (goodIn_r _ [0, 1, 2, 3, 4, 5, 6, 7, 8, 9, 10, 11, 12, 13, 14, 15, 16, 17, 18, 19, 20, 21, 22, 23, 24, 25, 26, 27, 28, 29, 30, 31, 32, 33, 34, 35] (by decide +kernel) (by decide +kernel)) (goodIn_sub (fun _ h => List.mem_cons_of_mem _ (List.mem_append_right _ h)) (by decide +kernel))
set_option maxRecDepth 20000 in
theorem gX6_walk_X6_walk : GoodIn wsX6_walk (wsV RX6 26 RX6 yX6_walk wsX6_walk) := goodIn_app (goodIn_of _ (by decide +kernel)) ggX6_walk_X6_walk
theorem dX6_walk_0 : decode cX6_walk 0 = .ok (.iload 6, 2) := by decide +kernel
theorem dX6_walk_2 : decode cX6_walk 2 = .ok (.iconst 5, 1) := by decide +kernel
theorem dX6_walk_3 : decode cX6_walk 3 = .ok (.if_icmp .lt 4, 3) := by decide +kernel
theorem dX6_walk_6 : decode cX6_walk 6 = .ok (.return_, 1) := by decide +kernel
theorem dX6_walk_7 : decode cX6_walk 7 = .ok (.iconst 0, 1) := by decide +kernel
theorem dX6_walk_8 : decode cX6_walk 8 = .ok (.istore 7, 2) := by decide +kernel
theorem dX6_walk_10 : decode cX6_walk 10 = .ok (.iload 7, 2) := by decide +kernel
theorem dX6_walk_12 : decode cX6_walk 12 = .ok (.iconst 3, 1) := by decide +kernel
theorem dX6_walk_13 : decode cX6_walk 13 = .ok (.if_icmp .ge 102, 3) := by decide +kernel
theorem dX6_walk_16 : decode cX6_walk 16 = .ok (.aload_n 1, 1) := by decide +kernel
theorem dX6_walk_17 : decode cX6_walk 17 = .ok (.iload_n 3, 1) := by decide +kernel
theorem dX6_walk_18 : decode cX6_walk 18 = .ok (.iload 7, 2) := by decide +kernel
theorem dX6_walk_20 : decode cX6_walk 20 = .ok (.invokevirtual 30, 3) := by decide +kernel
theorem dX6_walk_23 : decode cX6_walk 23 = .ok (.istore 8, 2) := by decide +kernel
theorem dX6_walk_25 : decode cX6_walk 25 = .ok (.iload 5, 2) := by decide +kernel
theorem dX6_walk_27 : decode cX6_walk 27 = .ok (.iload 7, 2) := by decide +kernel
theorem dX6_walk_29 : decode cX6_walk 29 = .ok (.invokestatic 34, 3) := by decide +kernel
theorem dX6_walk_32 : decode cX6_walk 32 = .ok (.iadd, 1) := by decide +kernel
theorem dX6_walk_33 : decode cX6_walk 33 = .ok (.istore 9, 2) := by decide +kernel
theorem dX6_walk_35 : decode cX6_walk 35 = .ok (.iload 8, 2) := by decide +kernel
theorem dX6_walk_37 : decode cX6_walk 37 = .ok (.aload_n 0, 1) := by decide +kernel
theorem dX6_walk_38 : decode cX6_walk 38 = .ok (.getfield 9, 3) := by decide +kernel
theorem dX6_walk_41 : decode cX6_walk 41 = .ok (.ishr, 1) := by decide +kernel
theorem dX6_walk_42 : decode cX6_walk 42 = .ok (.iconst 1, 1) := by decide +kernel
theorem dX6_walk_43 : decode cX6_walk 43 = .ok (.iand, 1) := by decide +kernel
theorem dX6_walk_44 : decode cX6_walk 44 = .ok (.ifCond .eq 9, 3) := by decide +kernel
theorem dX6_walk_47 : decode cX6_walk 47 = .ok (.aload_n 2, 1) := by decide +kernel
theorem dX6_walk_48 : decode cX6_walk 48 = .ok (.iload 9, 2) := by decide +kernel
theorem dX6_walk_50 : decode cX6_walk 50 = .ok (.invokevirtual 38, 3) := by decide +kernel
theorem dX6_walk_53 : decode cX6_walk 53 = .ok (.aload_n 0, 1) := by decide +kernel
theorem dX6_walk_54 : decode cX6_walk 54 = .ok (.getfield 9, 3) := by decide +kernel
theorem dX6_walk_57 : decode cX6_walk 57 = .ok (.iconst 1, 1) := by decide +kernel
theorem dX6_walk_58 : decode cX6_walk 58 = .ok (.iadd, 1) := by decide +kernel
theorem dX6_walk_59 : decode cX6_walk 59 = .ok (.istore 10, 2) := by decide +kernel
theorem dX6_walk_61 : decode cX6_walk 61 = .ok (.iload 10, 2) := by decide +kernel
theorem dX6_walk_63 : decode cX6_walk 63 = .ok (.iconst 5, 1) := by decide +kernel
theorem dX6_walk_64 : decode cX6_walk 64 = .ok (.if_icmp .ge 45, 3) := by decide +kernel
theorem dX6_walk_67 : decode cX6_walk 67 = .ok (.iload 8, 2) := by decide +kernel
theorem dX6_walk_69 : decode cX6_walk 69 = .ok (.iload 4, 2) := by decide +kernel
theorem dX6_walk_71 : decode cX6_walk 71 = .ok (.iand, 1) := by decide +kernel
theorem dX6_walk_72 : decode cX6_walk 72 = .ok (.iconst 1, 1) := by decide +kernel
theorem dX6_walk_73 : decode cX6_walk 73 = .ok (.iload 10, 2) := by decide +kernel
theorem dX6_walk_75 : decode cX6_walk 75 = .ok (.ishl, 1) := by decide +kernel
theorem dX6_walk_76 : decode cX6_walk 76 = .ok (.iand, 1) := by decide +kernel
theorem dX6_walk_77 : decode cX6_walk 77 = .ok (.ifCond .eq 26, 3) := by decide +kernel
theorem dX6_walk_80 : decode cX6_walk 80 = .ok (.aload_n 0, 1) := by decide +kernel
theorem dX6_walk_81 : decode cX6_walk 81 = .ok (.aload_n 1, 1) := by decide +kernel
theorem dX6_walk_82 : decode cX6_walk 82 = .ok (.aload_n 2, 1) := by decide +kernel
theorem dX6_walk_83 : decode cX6_walk 83 = .ok (.iload 10, 2) := by decide +kernel
theorem dX6_walk_85 : decode cX6_walk 85 = .ok (.iload 4, 2) := by decide +kernel
theorem dX6_walk_87 : decode cX6_walk 87 = .ok (.iconst 1, 1) := by decide +kernel
theorem dX6_walk_88 : decode cX6_walk 88 = .ok (.iload 10, 2) := by decide +kernel
theorem dX6_walk_90 : decode cX6_walk 90 = .ok (.ishl, 1) := by decide +kernel
theorem dX6_walk_91 : decode cX6_walk 91 = .ok (.iconst (-1), 1) := by decide +kernel
theorem dX6_walk_92 : decode cX6_walk 92 = .ok (.ixor, 1) := by decide +kernel
theorem dX6_walk_93 : decode cX6_walk 93 = .ok (.iand, 1) := by decide +kernel
theorem dX6_walk_94 : decode cX6_walk 94 = .ok (.iload 9, 2) := by decide +kernel
theorem dX6_walk_96 : decode cX6_walk 96 = .ok (.iload 6, 2) := by decide +kernel
theorem dX6_walk_98 : decode cX6_walk 98 = .ok (.iconst 1, 1) := by decide +kernel
theorem dX6_walk_99 : decode cX6_walk 99 = .ok (.iadd, 1) := by decide +kernel
theorem dX6_walk_100 : decode cX6_walk 100 = .ok (.invokevirtual 26, 3) := by decide +kernel
theorem dX6_walk_103 : decode cX6_walk 103 = .ok (.iinc 10 1, 3) := by decide +kernel
theorem dX6_walk_106 : decode cX6_walk 106 = .ok (.goto (-45), 3) := by decide +kernel
theorem dX6_walk_109 : decode cX6_walk 109 = .ok (.iinc 7 1, 3) := by decide +kernel
theorem dX6_walk_112 : decode cX6_walk 112 = .ok (.goto (-102), 3) := by decide +kernel
theorem dX6_walk_115 : decode cX6_walk 115 = .ok (.return_, 1) := by decide +kernel
