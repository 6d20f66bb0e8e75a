theorem dX2_init_0 : decode cX2_init 0 = .ok (.aload_n 0, 1) := by decide +kernel
theorem dX2_init_1 : decode cX2_init 1 = .ok (.invokespecial 3, 3) := by decide +kernel
theorem dX2_init_4 : decode cX2_init 4 = .ok (.aload_n 0, 1) := by decide +kernel
theorem dX2_init_5 : decode cX2_init 5 = .ok (.sipush 2048, 3) := by decide +kernel
theorem dX2_init_8 : decode cX2_init 8 = .ok (.newarray .int, 2) := by decide +kernel
theorem dX2_init_10 : decode cX2_init 10 = .ok (.putfield 11, 3) := by decide +kernel
theorem dX2_init_13 : decode cX2_init 13 = .ok (.aload_n 0, 1) := by decide +kernel
theorem dX2_init_14 : decode cX2_init 14 = .ok (.sipush 256, 3) := by decide +kernel
theorem dX2_init_17 : decode cX2_init 17 = .ok (.newarray .int, 2) := by decide +kernel
theorem dX2_init_19 : decode cX2_init 19 = .ok (.putfield 15, 3) := by decide +kernel
theorem dX2_init_22 : decode cX2_init 22 = .ok (.aload_n 0, 1) := by decide +kernel
theorem dX2_init_23 : decode cX2_init 23 = .ok (.bipush 8, 2) := by decide +kernel
theorem dX2_init_25 : decode cX2_init 25 = .ok (.newarray .int, 2) := by decide +kernel
theorem dX2_init_27 : decode cX2_init 27 = .ok (.putfield 18, 3) := by decide +kernel
theorem dX2_init_30 : decode cX2_init 30 = .ok (.aload_n 0, 1) := by decide +kernel
theorem dX2_init_31 : decode cX2_init 31 = .ok (.bipush 8, 2) := by decide +kernel
theorem dX2_init_33 : decode cX2_init 33 = .ok (.newarray .int, 2) := by decide +kernel
theorem dX2_init_35 : decode cX2_init 35 = .ok (.putfield 21, 3) := by decide +kernel
theorem dX2_init_38 : decode cX2_init 38 = .ok (.aload_n 0, 1) := by decide +kernel
theorem dX2_init_39 : decode cX2_init 39 = .ok (.iconst 0, 1) := by decide +kernel
theorem dX2_init_40 : decode cX2_init 40 = .ok (.putfield 24, 3) := by decide +kernel
theorem dX2_init_43 : decode cX2_init 43 = .ok (.aload_n 0, 1) := by decide +kernel
theorem dX2_init_44 : decode cX2_init 44 = .ok (.bipush 8, 2) := by decide +kernel
theorem dX2_init_46 : decode cX2_init 46 = .ok (.newarray .int, 2) := by decide +kernel
theorem dX2_init_48 : decode cX2_init 48 = .ok (.putfield 28, 3) := by decide +kernel
theorem dX2_init_51 : decode cX2_init 51 = .ok (.aload_n 0, 1) := by decide +kernel
theorem dX2_init_52 : decode cX2_init 52 = .ok (.bipush 63, 2) := by decide +kernel
theorem dX2_init_54 : decode cX2_init 54 = .ok (.putfield 31, 3) := by decide +kernel
theorem dX2_init_57 : decode cX2_init 57 = .ok (.return_, 1) := by decide +kernel
set_option maxRecDepth 20000 in
theorem ggX2_find_X2_fillStates : GoodIn wsX2_find wsX2_fillStates := goodIn_ca (goodIn_r _ [12, 13, 2, 3, 14, 15, 16, 17, 18, 19, 20, 21, 22, 86, 87, 88, 89, 90, 91, 92, 93, 94, 95] (by decide +kernel) (by decide +kernel)) (goodIn_sub (fun _ h => List.mem_cons_of_mem _ (List.mem_append_right _ h)) (by decide +kernel))
set_option maxRecDepth 20000 in
theorem gX2_find_X2_fillStates : GoodIn wsX2_find (wsV RX2 40 RX2 yX2_fillStates wsX2_fillStates) := goodIn_app (goodIn_of _ (by decide +kernel)) ggX2_find_X2_fillStates
set_option maxRecDepth 20000 in
theorem ggX2_find_X2_packFinals : GoodIn wsX2_find wsX2_packFinals := goodIn_ca (goodIn_r _ [26, 27, 28, 29, 17, 30, 31, 32, 33, 34, 11, 35, 36, 37, 38, 39, 93, 94, 95, 86, 87, 88, 89, 90, 91, 92] (by decide +kernel) (by decide +kernel)) (goodIn_sub (fun _ h => List.mem_cons_of_mem _ (List.mem_append_right _ h)) (by decide +kernel))
set_option maxRecDepth 20000 in
theorem gX2_find_X2_packFinals : GoodIn wsX2_find (wsV RX2 44 RX2 yX2_packFinals wsX2_packFinals) := goodIn_app (goodIn_of _ (by decide +kernel)) ggX2_find_X2_packFinals
set_option maxRecDepth 20000 in
theorem ggX2_find_X2_fillSet : GoodIn wsX2_find wsX2_fillSet := goodIn_ca (goodIn_r _ [43, 13, 2, 44, 45, 46, 47, 11, 48, 3, 49, 50, 51, 52, 36, 37, 38, 39, 53, 54, 55, 17, 56, 57, 58, 21, 59, 20, 22, 60, 61, 62, 63, 64, 65, 66, 67, 68, 69, 70, 71, 72, 73, 74, 75, 76, 32, 33, 34, 35, 86, 87, 88, 89, 90, 91, 92, 93, 94, 95] (by decide +kernel) (by decide +kernel)) (goodIn_sub (fun _ h => List.mem_cons_of_mem _ (List.mem_append_right _ h)) (by decide +kernel))
set_option maxRecDepth 20000 in
theorem gX2_find_X2_fillSet : GoodIn wsX2_find (wsV RX2 47 RX2 yX2_fillSet wsX2_fillSet) := goodIn_app (goodIn_of _ (by decide +kernel)) ggX2_find_X2_fillSet
set_option maxRecDepth 20000 in
theorem ggX2_find_X2_costsAt : GoodIn wsX2_find wsX2_costsAt := goodIn_ca (goodIn_r _ [52, 36, 37, 38, 11, 39, 86, 87, 88, 89, 90, 91, 92] (by decide +kernel) (by decide +kernel)) (goodIn_sub (fun _ h => List.mem_cons_of_mem _ (List.mem_append_right _ h)) (by decide +kernel))
set_option maxRecDepth 20000 in
theorem gX2_find_X2_costsAt : GoodIn wsX2_find (wsV RX2 50 RX2 yX2_costsAt wsX2_costsAt) := goodIn_app (goodIn_of _ (by decide +kernel)) ggX2_find_X2_costsAt
set_option maxRecDepth 20000 in
theorem ggX2_find_X2_costOf : GoodIn wsX2_find wsX2_costOf := goodIn_r _ [69] (by decide +kernel) (by decide +kernel)
set_option maxRecDepth 20000 in
theorem gX2_find_X2_costOf : GoodIn wsX2_find (va_wsS RX2 54 yX2_costOf wsX2_costOf) := goodIn_app (goodIn_of _ (by decide +kernel)) ggX2_find_X2_costOf
set_option maxRecDepth 20000 in
theorem ggX2_find_X2_trace : GoodIn wsX2_find wsX2_trace := goodIn_ca (goodIn_r _ [80, 1, 2, 81, 3, 74, 75, 65, 76, 82, 83, 84, 11, 85, 14, 15, 16, 17, 18, 19, 20, 21, 22, 49, 50, 51, 52, 36, 37, 38, 39, 60, 61, 62, 63, 64, 66, 67, 68, 69, 86, 87, 88, 89, 90, 91, 92, 93, 94, 95] (by decide +kernel) (by decide +kernel)) (goodIn_sub (fun _ h => List.mem_cons_of_mem _ (List.mem_append_right _ h)) (by decide +kernel))
set_option maxRecDepth 20000 in
theorem gX2_find_X2_trace : GoodIn wsX2_find (wsV RX2 57 RX2 yX2_trace wsX2_trace) := goodIn_app (goodIn_of _ (by decide +kernel)) ggX2_find_X2_trace
theorem dX2_find_0 : decode cX2_find 0 = .ok (.aload_n 0, 1) := by decide +kernel
theorem dX2_find_1 : decode cX2_find 1 = .ok (.bipush 63, 2) := by decide +kernel
theorem dX2_find_3 : decode cX2_find 3 = .ok (.putfield 31, 3) := by decide +kernel
theorem dX2_find_6 : decode cX2_find 6 = .ok (.iload_n 3, 1) := by decide +kernel
theorem dX2_find_7 : decode cX2_find 7 = .ok (.ifCond .lt 15, 3) := by decide +kernel
theorem dX2_find_10 : decode cX2_find 10 = .ok (.iload_n 3, 1) := by decide +kernel
theorem dX2_find_11 : decode cX2_find 11 = .ok (.bipush 8, 2) := by decide +kernel
theorem dX2_find_13 : decode cX2_find 13 = .ok (.if_icmp .gt 9, 3) := by decide +kernel
theorem dX2_find_16 : decode cX2_find 16 = .ok (.iload_n 3, 1) := by decide +kernel
theorem dX2_find_17 : decode cX2_find 17 = .ok (.aload_n 2, 1) := by decide +kernel
theorem dX2_find_18 : decode cX2_find 18 = .ok (.arraylength, 1) := by decide +kernel
theorem dX2_find_19 : decode cX2_find 19 = .ok (.if_icmp .le 4, 3) := by decide +kernel
theorem dX2_find_22 : decode cX2_find 22 = .ok (.return_, 1) := by decide +kernel
theorem dX2_find_23 : decode cX2_find 23 = .ok (.aload_n 0, 1) := by decide +kernel
theorem dX2_find_24 : decode cX2_find 24 = .ok (.iload_n 3, 1) := by decide +kernel
theorem dX2_find_25 : decode cX2_find 25 = .ok (.putfield 24, 3) := by decide +kernel
theorem dX2_find_28 : decode cX2_find 28 = .ok (.aload_n 2, 1) := by decide +kernel
theorem dX2_find_29 : decode cX2_find 29 = .ok (.iconst 0, 1) := by decide +kernel
theorem dX2_find_30 : decode cX2_find 30 = .ok (.aload_n 0, 1) := by decide +kernel
theorem dX2_find_31 : decode cX2_find 31 = .ok (.getfield 21, 3) := by decide +kernel
theorem dX2_find_34 : decode cX2_find 34 = .ok (.iconst 0, 1) := by decide +kernel
theorem dX2_find_35 : decode cX2_find 35 = .ok (.iload_n 3, 1) := by decide +kernel
theorem dX2_find_36 : decode cX2_find 36 = .ok (.invokestatic 34, 3) := by decide +kernel
theorem dX2_find_39 : decode cX2_find 39 = .ok (.iconst 1, 1) := by decide +kernel
theorem dX2_find_40 : decode cX2_find 40 = .ok (.iload_n 3, 1) := by decide +kernel
theorem dX2_find_41 : decode cX2_find 41 = .ok (.ishl, 1) := by decide +kernel
theorem dX2_find_42 : decode cX2_find 42 = .ok (.iconst 1, 1) := by decide +kernel
theorem dX2_find_43 : decode cX2_find 43 = .ok (.isub, 1) := by decide +kernel
theorem dX2_find_44 : decode cX2_find 44 = .ok (.istore 4, 2) := by decide +kernel
theorem dX2_find_46 : decode cX2_find 46 = .ok (.aload_n 0, 1) := by decide +kernel
theorem dX2_find_47 : decode cX2_find 47 = .ok (.aload_n 1, 1) := by decide +kernel
theorem dX2_find_48 : decode cX2_find 48 = .ok (.iload 4, 2) := by decide +kernel
theorem dX2_find_50 : decode cX2_find 50 = .ok (.invokevirtual 40, 3) := by decide +kernel
theorem dX2_find_53 : decode cX2_find 53 = .ok (.aload_n 0, 1) := by decide +kernel
theorem dX2_find_54 : decode cX2_find 54 = .ok (.aload_n 1, 1) := by decide +kernel
theorem dX2_find_55 : decode cX2_find 55 = .ok (.iload 4, 2) := by decide +kernel
theorem dX2_find_57 : decode cX2_find 57 = .ok (.invokevirtual 44, 3) := by decide +kernel
theorem dX2_find_60 : decode cX2_find 60 = .ok (.iload 4, 2) := by decide +kernel
theorem dX2_find_62 : decode cX2_find 62 = .ok (.iconst 1, 1) := by decide +kernel
theorem dX2_find_63 : decode cX2_find 63 = .ok (.isub, 1) := by decide +kernel
theorem dX2_find_64 : decode cX2_find 64 = .ok (.istore 5, 2) := by decide +kernel
theorem dX2_find_66 : decode cX2_find 66 = .ok (.iload 5, 2) := by decide +kernel
theorem dX2_find_68 : decode cX2_find 68 = .ok (.ifCond .lt 16, 3) := by decide +kernel
theorem dX2_find_71 : decode cX2_find 71 = .ok (.aload_n 0, 1) := by decide +kernel
theorem dX2_find_72 : decode cX2_find 72 = .ok (.aload_n 1, 1) := by decide +kernel
theorem dX2_find_73 : decode cX2_find 73 = .ok (.iload 5, 2) := by decide +kernel
theorem dX2_find_75 : decode cX2_find 75 = .ok (.invokevirtual 47, 3) := by decide +kernel
theorem dX2_find_78 : decode cX2_find 78 = .ok (.iinc 5 (-1), 3) := by decide +kernel
theorem dX2_find_81 : decode cX2_find 81 = .ok (.goto (-15), 3) := by decide +kernel
theorem dX2_find_84 : decode cX2_find 84 = .ok (.aload_n 0, 1) := by decide +kernel
theorem dX2_find_85 : decode cX2_find 85 = .ok (.aload_n 0, 1) := by decide +kernel
theorem dX2_find_86 : decode cX2_find 86 = .ok (.iconst 0, 1) := by decide +kernel
theorem dX2_find_87 : decode cX2_find 87 = .ok (.iconst 0, 1) := by decide +kernel
theorem dX2_find_88 : decode cX2_find 88 = .ok (.invokevirtual 50, 3) := by decide +kernel
theorem dX2_find_91 : decode cX2_find 91 = .ok (.iconst 0, 1) := by decide +kernel
theorem dX2_find_92 : decode cX2_find 92 = .ok (.invokestatic 54, 3) := by decide +kernel
theorem dX2_find_95 : decode cX2_find 95 = .ok (.putfield 31, 3) := by decide +kernel
theorem dX2_find_98 : decode cX2_find 98 = .ok (.aload_n 0, 1) := by decide +kernel
theorem dX2_find_99 : decode cX2_find 99 = .ok (.getfield 31, 3) := by decide +kernel
theorem dX2_find_102 : decode cX2_find 102 = .ok (.bipush 63, 2) := by decide +kernel
theorem dX2_find_104 : decode cX2_find 104 = .ok (.if_icmp .ge 8, 3) := by decide +kernel
theorem dX2_find_107 : decode cX2_find 107 = .ok (.aload_n 0, 1) := by decide +kernel
theorem dX2_find_108 : decode cX2_find 108 = .ok (.aload_n 1, 1) := by decide +kernel
theorem dX2_find_109 : decode cX2_find 109 = .ok (.invokevirtual 57, 3) := by decide +kernel
theorem dX2_find_112 : decode cX2_find 112 = .ok (.return_, 1) := by decide +kernel
set_option maxRecDepth 20000 in
theorem ggX2_fillStates_X0_step : GoodIn wsX2_fillStates wsX0_step := goodIn_ca (goodIn_r _ [8, 9, 10, 11, 12, 20, 21, 22] (by decide +kernel) (by decide +kernel)) (goodIn_sub (fun _ h => List.mem_cons_of_mem _ (List.mem_append_right _ h)) (by decide +kernel))
set_option maxRecDepth 20000 in
theorem gX2_fillStates_X0_step : GoodIn wsX2_fillStates (wsV RX2 61 RX0 yX0_step wsX0_step) := goodIn_app (goodIn_of _ (by decide +kernel)) ggX2_fillStates_X0_step
theorem dX2_fillStates_0 : decode cX2_fillStates 0 = .ok (.aload_n 0, 1) := by decide +kernel
theorem dX2_fillStates_1 : decode cX2_fillStates 1 = .ok (.getfield 15, 3) := by decide +kernel
theorem dX2_fillStates_4 : decode cX2_fillStates 4 = .ok (.iconst 0, 1) := by decide +kernel
theorem dX2_fillStates_5 : decode cX2_fillStates 5 = .ok (.iconst 1, 1) := by decide +kernel
theorem dX2_fillStates_6 : decode cX2_fillStates 6 = .ok (.iastore, 1) := by decide +kernel
theorem dX2_fillStates_7 : decode cX2_fillStates 7 = .ok (.iconst 1, 1) := by decide +kernel
theorem dX2_fillStates_8 : decode cX2_fillStates 8 = .ok (.istore_n 3, 1) := by decide +kernel
theorem dX2_fillStates_9 : decode cX2_fillStates 9 = .ok (.iload_n 3, 1) := by decide +kernel
theorem dX2_fillStates_10 : decode cX2_fillStates 10 = .ok (.iload_n 2, 1) := by decide +kernel
theorem dX2_fillStates_11 : decode cX2_fillStates 11 = .ok (.if_icmp .gt 90, 3) := by decide +kernel
theorem dX2_fillStates_14 : decode cX2_fillStates 14 = .ok (.iload_n 3, 1) := by decide +kernel
theorem dX2_fillStates_15 : decode cX2_fillStates 15 = .ok (.sipush 256, 3) := by decide +kernel
theorem dX2_fillStates_18 : decode cX2_fillStates 18 = .ok (.if_icmp .ge 83, 3) := by decide +kernel
theorem dX2_fillStates_21 : decode cX2_fillStates 21 = .ok (.iconst 0, 1) := by decide +kernel
theorem dX2_fillStates_22 : decode cX2_fillStates 22 = .ok (.istore 4, 2) := by decide +kernel
theorem dX2_fillStates_24 : decode cX2_fillStates 24 = .ok (.iconst 0, 1) := by decide +kernel
theorem dX2_fillStates_25 : decode cX2_fillStates 25 = .ok (.istore 5, 2) := by decide +kernel
theorem dX2_fillStates_27 : decode cX2_fillStates 27 = .ok (.iload 5, 2) := by decide +kernel
theorem dX2_fillStates_29 : decode cX2_fillStates 29 = .ok (.aload_n 0, 1) := by decide +kernel
theorem dX2_fillStates_30 : decode cX2_fillStates 30 = .ok (.getfield 24, 3) := by decide +kernel
theorem dX2_fillStates_33 : decode cX2_fillStates 33 = .ok (.if_icmp .ge 54, 3) := by decide +kernel
theorem dX2_fillStates_36 : decode cX2_fillStates 36 = .ok (.iload 5, 2) := by decide +kernel
theorem dX2_fillStates_38 : decode cX2_fillStates 38 = .ok (.bipush 8, 2) := by decide +kernel
theorem dX2_fillStates_40 : decode cX2_fillStates 40 = .ok (.if_icmp .ge 47, 3) := by decide +kernel
theorem dX2_fillStates_43 : decode cX2_fillStates 43 = .ok (.iload_n 3, 1) := by decide +kernel
theorem dX2_fillStates_44 : decode cX2_fillStates 44 = .ok (.iload 5, 2) := by decide +kernel
theorem dX2_fillStates_46 : decode cX2_fillStates 46 = .ok (.ishr, 1) := by decide +kernel
theorem dX2_fillStates_47 : decode cX2_fillStates 47 = .ok (.iconst 1, 1) := by decide +kernel
theorem dX2_fillStates_48 : decode cX2_fillStates 48 = .ok (.iand, 1) := by decide +kernel
theorem dX2_fillStates_49 : decode cX2_fillStates 49 = .ok (.ifCond .eq 32, 3) := by decide +kernel
theorem dX2_fillStates_52 : decode cX2_fillStates 52 = .ok (.iload 4, 2) := by decide +kernel
theorem dX2_fillStates_54 : decode cX2_fillStates 54 = .ok (.aload_n 1, 1) := by decide +kernel
theorem dX2_fillStates_55 : decode cX2_fillStates 55 = .ok (.aload_n 0, 1) := by decide +kernel
theorem dX2_fillStates_56 : decode cX2_fillStates 56 = .ok (.getfield 21, 3) := by decide +kernel
theorem dX2_fillStates_59 : decode cX2_fillStates 59 = .ok (.iload 5, 2) := by decide +kernel
theorem dX2_fillStates_61 : decode cX2_fillStates 61 = .ok (.iaload, 1) := by decide +kernel
theorem dX2_fillStates_62 : decode cX2_fillStates 62 = .ok (.aload_n 0, 1) := by decide +kernel
theorem dX2_fillStates_63 : decode cX2_fillStates 63 = .ok (.getfield 15, 3) := by decide +kernel
theorem dX2_fillStates_66 : decode cX2_fillStates 66 = .ok (.iload_n 3, 1) := by decide +kernel
theorem dX2_fillStates_67 : decode cX2_fillStates 67 = .ok (.iconst 1, 1) := by decide +kernel
theorem dX2_fillStates_68 : decode cX2_fillStates 68 = .ok (.iload 5, 2) := by decide +kernel
theorem dX2_fillStates_70 : decode cX2_fillStates 70 = .ok (.ishl, 1) := by decide +kernel
theorem dX2_fillStates_71 : decode cX2_fillStates 71 = .ok (.iconst (-1), 1) := by decide +kernel
theorem dX2_fillStates_72 : decode cX2_fillStates 72 = .ok (.ixor, 1) := by decide +kernel
theorem dX2_fillStates_73 : decode cX2_fillStates 73 = .ok (.iand, 1) := by decide +kernel
theorem dX2_fillStates_74 : decode cX2_fillStates 74 = .ok (.iaload, 1) := by decide +kernel
theorem dX2_fillStates_75 : decode cX2_fillStates 75 = .ok (.invokevirtual 61, 3) := by decide +kernel
theorem dX2_fillStates_78 : decode cX2_fillStates 78 = .ok (.ior, 1) := by decide +kernel
theorem dX2_fillStates_79 : decode cX2_fillStates 79 = .ok (.istore 4, 2) := by decide +kernel
theorem dX2_fillStates_81 : decode cX2_fillStates 81 = .ok (.iinc 5 1, 3) := by decide +kernel
theorem dX2_fillStates_84 : decode cX2_fillStates 84 = .ok (.goto (-57), 3) := by decide +kernel
theorem dX2_fillStates_87 : decode cX2_fillStates 87 = .ok (.aload_n 0, 1) := by decide +kernel
theorem dX2_fillStates_88 : decode cX2_fillStates 88 = .ok (.getfield 15, 3) := by decide +kernel
theorem dX2_fillStates_91 : decode cX2_fillStates 91 = .ok (.iload_n 3, 1) := by decide +kernel
theorem dX2_fillStates_92 : decode cX2_fillStates 92 = .ok (.iload 4, 2) := by decide +kernel
theorem dX2_fillStates_94 : decode cX2_fillStates 94 = .ok (.iastore, 1) := by decide +kernel
theorem dX2_fillStates_95 : decode cX2_fillStates 95 = .ok (.iinc 3 1, 3) := by decide +kernel
theorem dX2_fillStates_98 : decode cX2_fillStates 98 = .ok (.goto (-89), 3) := by decide +kernel
theorem dX2_fillStates_101 : decode cX2_fillStates 101 = .ok (.return_, 1) := by decide +kernel
set_option maxRecDepth 20000 in
theorem ggX2_packFinals_X0_accepting : GoodIn wsX2_packFinals wsX0_accepting := goodIn_r _ [5, 6, 16, 17, 18] (by decide +kernel) (by decide +kernel)
set_option maxRecDepth 20000 in
theorem gX2_packFinals_X0_accepting : GoodIn wsX2_packFinals (wsV RX2 66 RX0 yX0_accepting wsX0_accepting) := goodIn_app (goodIn_of _ (by decide +kernel)) ggX2_packFinals_X0_accepting
set_option maxRecDepth 20000 in
theorem ggX2_packFinals_X2_putCosts : GoodIn wsX2_packFinals wsX2_putCosts := goodIn_ca (goodIn_r _ [11, 12, 13, 14, 10, 15, 19, 20, 21, 22, 23, 24, 25] (by decide +kernel) (by decide +kernel)) (goodIn_sub (fun _ h => List.mem_cons_of_mem _ (List.mem_append_right _ h)) (by decide +kernel))
set_option maxRecDepth 20000 in
theorem gX2_packFinals_X2_putCosts : GoodIn wsX2_packFinals (wsV RX2 70 RX2 yX2_putCosts wsX2_putCosts) := goodIn_app (goodIn_of _ (by decide +kernel)) ggX2_packFinals_X2_putCosts
theorem dX2_packFinals_0 : decode cX2_packFinals 0 = .ok (.iconst 0, 1) := by decide +kernel
theorem dX2_packFinals_1 : decode cX2_packFinals 1 = .ok (.istore_n 3, 1) := by decide +kernel
theorem dX2_packFinals_2 : decode cX2_packFinals 2 = .ok (.iconst 0, 1) := by decide +kernel
theorem dX2_packFinals_3 : decode cX2_packFinals 3 = .ok (.istore 4, 2) := by decide +kernel
theorem dX2_packFinals_5 : decode cX2_packFinals 5 = .ok (.iload 4, 2) := by decide +kernel
theorem dX2_packFinals_7 : decode cX2_packFinals 7 = .ok (.iconst 5, 1) := by decide +kernel
theorem dX2_packFinals_8 : decode cX2_packFinals 8 = .ok (.if_icmp .ge 35, 3) := by decide +kernel
theorem dX2_packFinals_11 : decode cX2_packFinals 11 = .ok (.iload_n 3, 1) := by decide +kernel
theorem dX2_packFinals_12 : decode cX2_packFinals 12 = .ok (.aload_n 1, 1) := by decide +kernel
theorem dX2_packFinals_13 : decode cX2_packFinals 13 = .ok (.iconst 1, 1) := by decide +kernel
theorem dX2_packFinals_14 : decode cX2_packFinals 14 = .ok (.iload 4, 2) := by decide +kernel
theorem dX2_packFinals_16 : decode cX2_packFinals 16 = .ok (.ishl, 1) := by decide +kernel
theorem dX2_packFinals_17 : decode cX2_packFinals 17 = .ok (.invokevirtual 66, 3) := by decide +kernel
theorem dX2_packFinals_20 : decode cX2_packFinals 20 = .ok (.ifCond .eq 7, 3) := by decide +kernel
theorem dX2_packFinals_23 : decode cX2_packFinals 23 = .ok (.iconst 0, 1) := by decide +kernel
theorem dX2_packFinals_24 : decode cX2_packFinals 24 = .ok (.goto 5, 3) := by decide +kernel
theorem dX2_packFinals_27 : decode cX2_packFinals 27 = .ok (.bipush 63, 2) := by decide +kernel
theorem dX2_packFinals_29 : decode cX2_packFinals 29 = .ok (.bipush 6, 2) := by decide +kernel
theorem dX2_packFinals_31 : decode cX2_packFinals 31 = .ok (.iload 4, 2) := by decide +kernel
theorem dX2_packFinals_33 : decode cX2_packFinals 33 = .ok (.imul, 1) := by decide +kernel
theorem dX2_packFinals_34 : decode cX2_packFinals 34 = .ok (.ishl, 1) := by decide +kernel
theorem dX2_packFinals_35 : decode cX2_packFinals 35 = .ok (.ior, 1) := by decide +kernel
theorem dX2_packFinals_36 : decode cX2_packFinals 36 = .ok (.istore_n 3, 1) := by decide +kernel
theorem dX2_packFinals_37 : decode cX2_packFinals 37 = .ok (.iinc 4 1, 3) := by decide +kernel
theorem dX2_packFinals_40 : decode cX2_packFinals 40 = .ok (.goto (-35), 3) := by decide +kernel
theorem dX2_packFinals_43 : decode cX2_packFinals 43 = .ok (.iconst 0, 1) := by decide +kernel
theorem dX2_packFinals_44 : decode cX2_packFinals 44 = .ok (.istore 4, 2) := by decide +kernel
theorem dX2_packFinals_46 : decode cX2_packFinals 46 = .ok (.iload 4, 2) := by decide +kernel
theorem dX2_packFinals_48 : decode cX2_packFinals 48 = .ok (.bipush 8, 2) := by decide +kernel
theorem dX2_packFinals_50 : decode cX2_packFinals 50 = .ok (.if_icmp .ge 17, 3) := by decide +kernel
theorem dX2_packFinals_53 : decode cX2_packFinals 53 = .ok (.aload_n 0, 1) := by decide +kernel
theorem dX2_packFinals_54 : decode cX2_packFinals 54 = .ok (.iload_n 2, 1) := by decide +kernel
theorem dX2_packFinals_55 : decode cX2_packFinals 55 = .ok (.iload 4, 2) := by decide +kernel
theorem dX2_packFinals_57 : decode cX2_packFinals 57 = .ok (.iload_n 3, 1) := by decide +kernel
theorem dX2_packFinals_58 : decode cX2_packFinals 58 = .ok (.invokevirtual 70, 3) := by decide +kernel
theorem dX2_packFinals_61 : decode cX2_packFinals 61 = .ok (.iinc 4 1, 3) := by decide +kernel
theorem dX2_packFinals_64 : decode cX2_packFinals 64 = .ok (.goto (-18), 3) := by decide +kernel
theorem dX2_packFinals_67 : decode cX2_packFinals 67 = .ok (.return_, 1) := by decide +kernel
set_option maxRecDepth 20000 in
theorem ggX2_fillSet_X2_costsBefore : GoodIn wsX2_fillSet wsX2_costsBefore := goodIn_ca (goodIn_r _ [8, 9, 10, 11, 12, 7, 13, 14, 15, 16, 17, 18, 19, 20, 21, 22, 23, 24, 25, 26, 27, 28, 29, 30, 31, 32, 33, 34, 35, 36, 37, 38, 50, 51, 52, 53, 54, 55, 56, 57, 58, 59] (by decide +kernel) (by decide +kernel)) (goodIn_sub (fun _ h => List.mem_cons_of_mem _ (List.mem_append_right _ h)) (by decide +kernel))
set_option maxRecDepth 20000 in
theorem gX2_fillSet_X2_costsBefore : GoodIn wsX2_fillSet (wsV RX2 74 RX2 yX2_costsBefore wsX2_costsBefore) := goodIn_app (goodIn_of _ (by decide +kernel)) ggX2_fillSet_X2_costsBefore
set_option maxRecDepth 20000 in
theorem ggX2_fillSet_X2_costsFrom : GoodIn wsX2_fillSet wsX2_costsFrom := goodIn_ca (goodIn_r _ [42, 2, 43, 44, 34, 45, 3, 32, 33, 35, 36, 37, 7, 38, 50, 51, 52, 53, 54, 55, 56] (by decide +kernel) (by decide +kernel)) (goodIn_sub (fun _ h => List.mem_cons_of_mem _ (List.mem_append_right _ h)) (by decide +kernel))
set_option maxRecDepth 20000 in
theorem gX2_fillSet_X2_costsFrom : GoodIn wsX2_fillSet (wsV RX2 78 RX2 yX2_costsFrom wsX2_costsFrom) := goodIn_app (goodIn_of _ (by decide +kernel)) ggX2_fillSet_X2_costsFrom
set_option maxRecDepth 20000 in
theorem ggX2_fillSet_X2_putCosts : GoodIn wsX2_fillSet wsX2_putCosts := goodIn_ca (goodIn_r _ [49, 14, 15, 16, 7, 17, 50, 51, 52, 53, 54, 55, 56] (by decide +kernel) (by decide +kernel)) (goodIn_sub (fun _ h => List.mem_cons_of_mem _ (List.mem_append_right _ h)) (by decide +kernel))
set_option maxRecDepth 20000 in
theorem gX2_fillSet_X2_putCosts : GoodIn wsX2_fillSet (wsV RX2 70 RX2 yX2_putCosts wsX2_putCosts) := goodIn_app (goodIn_of _ (by decide +kernel)) ggX2_fillSet_X2_putCosts
theorem dX2_fillSet_0 : decode cX2_fillSet 0 = .ok (.iload_n 2, 1) := by decide +kernel
theorem dX2_fillSet_1 : decode cX2_fillSet 1 = .ok (.ifCond .lt 19, 3) := by decide +kernel
theorem dX2_fillSet_4 : decode cX2_fillSet 4 = .ok (.iload_n 2, 1) := by decide +kernel
theorem dX2_fillSet_5 : decode cX2_fillSet 5 = .ok (.sipush 256, 3) := by decide +kernel
theorem dX2_fillSet_8 : decode cX2_fillSet 8 = .ok (.if_icmp .ge 12, 3) := by decide +kernel
theorem dX2_fillSet_11 : decode cX2_fillSet 11 = .ok (.aload_n 0, 1) := by decide +kernel
theorem dX2_fillSet_12 : decode cX2_fillSet 12 = .ok (.getfield 15, 3) := by decide +kernel
theorem dX2_fillSet_15 : decode cX2_fillSet 15 = .ok (.iload_n 2, 1) := by decide +kernel
theorem dX2_fillSet_16 : decode cX2_fillSet 16 = .ok (.iaload, 1) := by decide +kernel
theorem dX2_fillSet_17 : decode cX2_fillSet 17 = .ok (.goto 4, 3) := by decide +kernel
theorem dX2_fillSet_20 : decode cX2_fillSet 20 = .ok (.iconst 0, 1) := by decide +kernel
theorem dX2_fillSet_21 : decode cX2_fillSet 21 = .ok (.istore_n 3, 1) := by decide +kernel
theorem dX2_fillSet_22 : decode cX2_fillSet 22 = .ok (.iconst 0, 1) := by decide +kernel
theorem dX2_fillSet_23 : decode cX2_fillSet 23 = .ok (.istore 4, 2) := by decide +kernel
theorem dX2_fillSet_25 : decode cX2_fillSet 25 = .ok (.iload 4, 2) := by decide +kernel
theorem dX2_fillSet_27 : decode cX2_fillSet 27 = .ok (.aload_n 0, 1) := by decide +kernel
theorem dX2_fillSet_28 : decode cX2_fillSet 28 = .ok (.getfield 24, 3) := by decide +kernel
theorem dX2_fillSet_31 : decode cX2_fillSet 31 = .ok (.if_icmp .ge 41, 3) := by decide +kernel
theorem dX2_fillSet_34 : decode cX2_fillSet 34 = .ok (.iload 4, 2) := by decide +kernel
theorem dX2_fillSet_36 : decode cX2_fillSet 36 = .ok (.bipush 8, 2) := by decide +kernel
theorem dX2_fillSet_38 : decode cX2_fillSet 38 = .ok (.if_icmp .ge 34, 3) := by decide +kernel
theorem dX2_fillSet_41 : decode cX2_fillSet 41 = .ok (.iload_n 2, 1) := by decide +kernel
theorem dX2_fillSet_42 : decode cX2_fillSet 42 = .ok (.iload 4, 2) := by decide +kernel
theorem dX2_fillSet_44 : decode cX2_fillSet 44 = .ok (.ishr, 1) := by decide +kernel
theorem dX2_fillSet_45 : decode cX2_fillSet 45 = .ok (.iconst 1, 1) := by decide +kernel
theorem dX2_fillSet_46 : decode cX2_fillSet 46 = .ok (.iand, 1) := by decide +kernel
theorem dX2_fillSet_47 : decode cX2_fillSet 47 = .ok (.ifCond .ne 19, 3) := by decide +kernel
theorem dX2_fillSet_50 : decode cX2_fillSet 50 = .ok (.aload_n 0, 1) := by decide +kernel
theorem dX2_fillSet_51 : decode cX2_fillSet 51 = .ok (.getfield 18, 3) := by decide +kernel
theorem dX2_fillSet_54 : decode cX2_fillSet 54 = .ok (.iload 4, 2) := by decide +kernel
theorem dX2_fillSet_56 : decode cX2_fillSet 56 = .ok (.aload_n 0, 1) := by decide +kernel
theorem dX2_fillSet_57 : decode cX2_fillSet 57 = .ok (.aload_n 1, 1) := by decide +kernel
theorem dX2_fillSet_58 : decode cX2_fillSet 58 = .ok (.iload_n 2, 1) := by decide +kernel
theorem dX2_fillSet_59 : decode cX2_fillSet 59 = .ok (.iload 4, 2) := by decide +kernel
theorem dX2_fillSet_61 : decode cX2_fillSet 61 = .ok (.iload_n 3, 1) := by decide +kernel
theorem dX2_fillSet_62 : decode cX2_fillSet 62 = .ok (.invokevirtual 74, 3) := by decide +kernel
theorem dX2_fillSet_65 : decode cX2_fillSet 65 = .ok (.iastore, 1) := by decide +kernel
theorem dX2_fillSet_66 : decode cX2_fillSet 66 = .ok (.iinc 4 1, 3) := by decide +kernel
theorem dX2_fillSet_69 : decode cX2_fillSet 69 = .ok (.goto (-44), 3) := by decide +kernel
theorem dX2_fillSet_72 : decode cX2_fillSet 72 = .ok (.iconst 0, 1) := by decide +kernel
theorem dX2_fillSet_73 : decode cX2_fillSet 73 = .ok (.istore 4, 2) := by decide +kernel
theorem dX2_fillSet_75 : decode cX2_fillSet 75 = .ok (.iload 4, 2) := by decide +kernel
theorem dX2_fillSet_77 : decode cX2_fillSet 77 = .ok (.aload_n 0, 1) := by decide +kernel
theorem dX2_fillSet_78 : decode cX2_fillSet 78 = .ok (.getfield 24, 3) := by decide +kernel
theorem dX2_fillSet_81 : decode cX2_fillSet 81 = .ok (.if_icmp .ge 42, 3) := by decide +kernel
theorem dX2_fillSet_84 : decode cX2_fillSet 84 = .ok (.iload_n 2, 1) := by decide +kernel
theorem dX2_fillSet_85 : decode cX2_fillSet 85 = .ok (.iload 4, 2) := by decide +kernel
theorem dX2_fillSet_87 : decode cX2_fillSet 87 = .ok (.ishr, 1) := by decide +kernel
theorem dX2_fillSet_88 : decode cX2_fillSet 88 = .ok (.iconst 1, 1) := by decide +kernel
theorem dX2_fillSet_89 : decode cX2_fillSet 89 = .ok (.iand, 1) := by decide +kernel
theorem dX2_fillSet_90 : decode cX2_fillSet 90 = .ok (.ifCond .ne 12, 3) := by decide +kernel
theorem dX2_fillSet_93 : decode cX2_fillSet 93 = .ok (.iload_n 2, 1) := by decide +kernel
theorem dX2_fillSet_94 : decode cX2_fillSet 94 = .ok (.ifCond .ne 23, 3) := by decide +kernel
theorem dX2_fillSet_97 : decode cX2_fillSet 97 = .ok (.iload 4, 2) := by decide +kernel
theorem dX2_fillSet_99 : decode cX2_fillSet 99 = .ok (.ifCond .ne 18, 3) := by decide +kernel
theorem dX2_fillSet_102 : decode cX2_fillSet 102 = .ok (.aload_n 0, 1) := by decide +kernel
theorem dX2_fillSet_103 : decode cX2_fillSet 103 = .ok (.iload_n 2, 1) := by decide +kernel
theorem dX2_fillSet_104 : decode cX2_fillSet 104 = .ok (.iload 4, 2) := by decide +kernel
theorem dX2_fillSet_106 : decode cX2_fillSet 106 = .ok (.aload_n 0, 1) := by decide +kernel
theorem dX2_fillSet_107 : decode cX2_fillSet 107 = .ok (.iload_n 2, 1) := by decide +kernel
theorem dX2_fillSet_108 : decode cX2_fillSet 108 = .ok (.iload 4, 2) := by decide +kernel
theorem dX2_fillSet_110 : decode cX2_fillSet 110 = .ok (.iload_n 3, 1) := by decide +kernel
theorem dX2_fillSet_111 : decode cX2_fillSet 111 = .ok (.invokevirtual 78, 3) := by decide +kernel
theorem dX2_fillSet_114 : decode cX2_fillSet 114 = .ok (.invokevirtual 70, 3) := by decide +kernel
theorem dX2_fillSet_117 : decode cX2_fillSet 117 = .ok (.iinc 4 1, 3) := by decide +kernel
theorem dX2_fillSet_120 : decode cX2_fillSet 120 = .ok (.goto (-45), 3) := by decide +kernel
theorem dX2_fillSet_123 : decode cX2_fillSet 123 = .ok (.return_, 1) := by decide +kernel
set_option maxRecDepth 20000 in
theorem ggX2_costsBefore_X2_costsAt : GoodIn wsX2_costsBefore wsX2_costsAt := goodIn_ca (goodIn_r _ [6, 7, 8, 9, 5, 10, 32, 33, 34, 35, 36, 37, 38] (by decide +kernel) (by decide +kernel)) (goodIn_sub (fun _ h => List.mem_cons_of_mem _ (List.mem_append_right _ h)) (by decide +kernel))
set_option maxRecDepth 20000 in
theorem gX2_costsBefore_X2_costsAt : GoodIn wsX2_costsBefore (wsV RX2 50 RX2 yX2_costsAt wsX2_costsAt) := goodIn_app (goodIn_of _ (by decide +kernel)) ggX2_costsBefore_X2_costsAt
set_option maxRecDepth 20000 in
theorem ggX2_costsBefore_X0_targetsOf : GoodIn wsX2_costsBefore wsX0_targetsOf := goodIn_ca (goodIn_r _ [15, 16, 17, 18, 19, 20, 21, 39, 40, 41] (by decide +kernel) (by decide +kernel)) (goodIn_sub (fun _ h => List.mem_cons_of_mem _ (List.mem_append_right _ h)) (by decide +kernel))
set_option maxRecDepth 20000 in
theorem gX2_costsBefore_X0_targetsOf : GoodIn wsX2_costsBefore (wsV RX2 82 RX0 yX0_targetsOf wsX0_targetsOf) := goodIn_app (goodIn_of _ (by decide +kernel)) ggX2_costsBefore_X0_targetsOf
set_option maxRecDepth 20000 in
theorem ggX2_costsBefore_X2_leastOf : GoodIn wsX2_costsBefore wsX2_leastOf := goodIn_r _ [24, 25, 26, 27, 28, 29, 30, 5, 31] (by decide +kernel) (by decide +kernel)
set_option maxRecDepth 20000 in
theorem gX2_costsBefore_X2_leastOf : GoodIn wsX2_costsBefore (va_wsS RX2 85 yX2_leastOf wsX2_leastOf) := goodIn_app (goodIn_of _ (by decide +kernel)) ggX2_costsBefore_X2_leastOf
theorem dX2_costsBefore_0 : decode cX2_costsBefore 0 = .ok (.aload_n 0, 1) := by decide +kernel
theorem dX2_costsBefore_1 : decode cX2_costsBefore 1 = .ok (.iload_n 2, 1) := by decide +kernel
theorem dX2_costsBefore_2 : decode cX2_costsBefore 2 = .ok (.iconst 1, 1) := by decide +kernel
theorem dX2_costsBefore_3 : decode cX2_costsBefore 3 = .ok (.iload_n 3, 1) := by decide +kernel
theorem dX2_costsBefore_4 : decode cX2_costsBefore 4 = .ok (.ishl, 1) := by decide +kernel
theorem dX2_costsBefore_5 : decode cX2_costsBefore 5 = .ok (.ior, 1) := by decide +kernel
theorem dX2_costsBefore_6 : decode cX2_costsBefore 6 = .ok (.iload_n 3, 1) := by decide +kernel
theorem dX2_costsBefore_7 : decode cX2_costsBefore 7 = .ok (.invokevirtual 50, 3) := by decide +kernel
theorem dX2_costsBefore_10 : decode cX2_costsBefore 10 = .ok (.istore 5, 2) := by decide +kernel
theorem dX2_costsBefore_12 : decode cX2_costsBefore 12 = .ok (.iconst 0, 1) := by decide +kernel
theorem dX2_costsBefore_13 : decode cX2_costsBefore 13 = .ok (.istore 6, 2) := by decide +kernel
theorem dX2_costsBefore_15 : decode cX2_costsBefore 15 = .ok (.iconst 0, 1) := by decide +kernel
theorem dX2_costsBefore_16 : decode cX2_costsBefore 16 = .ok (.istore 7, 2) := by decide +kernel
theorem dX2_costsBefore_18 : decode cX2_costsBefore 18 = .ok (.iload 7, 2) := by decide +kernel
theorem dX2_costsBefore_20 : decode cX2_costsBefore 20 = .ok (.iconst 5, 1) := by decide +kernel
theorem dX2_costsBefore_21 : decode cX2_costsBefore 21 = .ok (.if_icmp .ge 55, 3) := by decide +kernel
theorem dX2_costsBefore_24 : decode cX2_costsBefore 24 = .ok (.iload 4, 2) := by decide +kernel
theorem dX2_costsBefore_26 : decode cX2_costsBefore 26 = .ok (.iload 7, 2) := by decide +kernel
theorem dX2_costsBefore_28 : decode cX2_costsBefore 28 = .ok (.ishr, 1) := by decide +kernel
theorem dX2_costsBefore_29 : decode cX2_costsBefore 29 = .ok (.iconst 1, 1) := by decide +kernel
theorem dX2_costsBefore_30 : decode cX2_costsBefore 30 = .ok (.iand, 1) := by decide +kernel
theorem dX2_costsBefore_31 : decode cX2_costsBefore 31 = .ok (.ifCond .eq 18, 3) := by decide +kernel
theorem dX2_costsBefore_34 : decode cX2_costsBefore 34 = .ok (.aload_n 1, 1) := by decide +kernel
theorem dX2_costsBefore_35 : decode cX2_costsBefore 35 = .ok (.iload 7, 2) := by decide +kernel
theorem dX2_costsBefore_37 : decode cX2_costsBefore 37 = .ok (.aload_n 0, 1) := by decide +kernel
theorem dX2_costsBefore_38 : decode cX2_costsBefore 38 = .ok (.getfield 21, 3) := by decide +kernel
theorem dX2_costsBefore_41 : decode cX2_costsBefore 41 = .ok (.iload_n 3, 1) := by decide +kernel
theorem dX2_costsBefore_42 : decode cX2_costsBefore 42 = .ok (.iaload, 1) := by decide +kernel
theorem dX2_costsBefore_43 : decode cX2_costsBefore 43 = .ok (.invokevirtual 82, 3) := by decide +kernel
theorem dX2_costsBefore_46 : decode cX2_costsBefore 46 = .ok (.goto 4, 3) := by decide +kernel
theorem dX2_costsBefore_49 : decode cX2_costsBefore 49 = .ok (.iconst 0, 1) := by decide +kernel
theorem dX2_costsBefore_50 : decode cX2_costsBefore 50 = .ok (.istore 8, 2) := by decide +kernel
theorem dX2_costsBefore_52 : decode cX2_costsBefore 52 = .ok (.iload 6, 2) := by decide +kernel
theorem dX2_costsBefore_54 : decode cX2_costsBefore 54 = .ok (.iload 5, 2) := by decide +kernel
theorem dX2_costsBefore_56 : decode cX2_costsBefore 56 = .ok (.iload 8, 2) := by decide +kernel
theorem dX2_costsBefore_58 : decode cX2_costsBefore 58 = .ok (.invokestatic 85, 3) := by decide +kernel
theorem dX2_costsBefore_61 : decode cX2_costsBefore 61 = .ok (.bipush 6, 2) := by decide +kernel
theorem dX2_costsBefore_63 : decode cX2_costsBefore 63 = .ok (.iload 7, 2) := by decide +kernel
theorem dX2_costsBefore_65 : decode cX2_costsBefore 65 = .ok (.imul, 1) := by decide +kernel
theorem dX2_costsBefore_66 : decode cX2_costsBefore 66 = .ok (.ishl, 1) := by decide +kernel
theorem dX2_costsBefore_67 : decode cX2_costsBefore 67 = .ok (.ior, 1) := by decide +kernel
theorem dX2_costsBefore_68 : decode cX2_costsBefore 68 = .ok (.istore 6, 2) := by decide +kernel
theorem dX2_costsBefore_70 : decode cX2_costsBefore 70 = .ok (.iinc 7 1, 3) := by decide +kernel
theorem dX2_costsBefore_73 : decode cX2_costsBefore 73 = .ok (.goto (-55), 3) := by decide +kernel
theorem dX2_costsBefore_76 : decode cX2_costsBefore 76 = .ok (.iload 6, 2) := by decide +kernel
theorem dX2_costsBefore_78 : decode cX2_costsBefore 78 = .ok (.ireturn, 1) := by decide +kernel
set_option maxRecDepth 20000 in
theorem ggX2_costsFrom_X2_costOf : GoodIn wsX2_costsFrom wsX2_costOf := goodIn_r _ [13] (by decide +kernel) (by decide +kernel)
set_option maxRecDepth 20000 in
theorem gX2_costsFrom_X2_costOf : GoodIn wsX2_costsFrom (va_wsS RX2 54 yX2_costOf wsX2_costOf) := goodIn_app (goodIn_of _ (by decide +kernel)) ggX2_costsFrom_X2_costOf
theorem dX2_costsFrom_0 : decode cX2_costsFrom 0 = .ok (.iconst 0, 1) := by decide +kernel
theorem dX2_costsFrom_1 : decode cX2_costsFrom 1 = .ok (.istore 4, 2) := by decide +kernel
theorem dX2_costsFrom_3 : decode cX2_costsFrom 3 = .ok (.iconst 0, 1) := by decide +kernel
theorem dX2_costsFrom_4 : decode cX2_costsFrom 4 = .ok (.istore 5, 2) := by decide +kernel
theorem dX2_costsFrom_6 : decode cX2_costsFrom 6 = .ok (.iload 5, 2) := by decide +kernel
theorem dX2_costsFrom_8 : decode cX2_costsFrom 8 = .ok (.iconst 5, 1) := by decide +kernel
theorem dX2_costsFrom_9 : decode cX2_costsFrom 9 = .ok (.if_icmp .ge 96, 3) := by decide +kernel
theorem dX2_costsFrom_12 : decode cX2_costsFrom 12 = .ok (.bipush 63, 2) := by decide +kernel
theorem dX2_costsFrom_14 : decode cX2_costsFrom 14 = .ok (.istore 6, 2) := by decide +kernel
theorem dX2_costsFrom_16 : decode cX2_costsFrom 16 = .ok (.iload_n 3, 1) := by decide +kernel
theorem dX2_costsFrom_17 : decode cX2_costsFrom 17 = .ok (.iload 5, 2) := by decide +kernel
theorem dX2_costsFrom_19 : decode cX2_costsFrom 19 = .ok (.ishr, 1) := by decide +kernel
theorem dX2_costsFrom_20 : decode cX2_costsFrom 20 = .ok (.iconst 1, 1) := by decide +kernel
theorem dX2_costsFrom_21 : decode cX2_costsFrom 21 = .ok (.iand, 1) := by decide +kernel
theorem dX2_costsFrom_22 : decode cX2_costsFrom 22 = .ok (.ifCond .eq 64, 3) := by decide +kernel
theorem dX2_costsFrom_25 : decode cX2_costsFrom 25 = .ok (.iconst 0, 1) := by decide +kernel
theorem dX2_costsFrom_26 : decode cX2_costsFrom 26 = .ok (.istore 7, 2) := by decide +kernel
theorem dX2_costsFrom_28 : decode cX2_costsFrom 28 = .ok (.iload 7, 2) := by decide +kernel
theorem dX2_costsFrom_30 : decode cX2_costsFrom 30 = .ok (.aload_n 0, 1) := by decide +kernel
theorem dX2_costsFrom_31 : decode cX2_costsFrom 31 = .ok (.getfield 24, 3) := by decide +kernel
theorem dX2_costsFrom_34 : decode cX2_costsFrom 34 = .ok (.if_icmp .ge 52, 3) := by decide +kernel
theorem dX2_costsFrom_37 : decode cX2_costsFrom 37 = .ok (.iload 7, 2) := by decide +kernel
theorem dX2_costsFrom_39 : decode cX2_costsFrom 39 = .ok (.bipush 8, 2) := by decide +kernel
theorem dX2_costsFrom_41 : decode cX2_costsFrom 41 = .ok (.if_icmp .ge 45, 3) := by decide +kernel
theorem dX2_costsFrom_44 : decode cX2_costsFrom 44 = .ok (.iload_n 1, 1) := by decide +kernel
theorem dX2_costsFrom_45 : decode cX2_costsFrom 45 = .ok (.iload 7, 2) := by decide +kernel
theorem dX2_costsFrom_47 : decode cX2_costsFrom 47 = .ok (.ishr, 1) := by decide +kernel
theorem dX2_costsFrom_48 : decode cX2_costsFrom 48 = .ok (.iconst 1, 1) := by decide +kernel
theorem dX2_costsFrom_49 : decode cX2_costsFrom 49 = .ok (.iand, 1) := by decide +kernel
theorem dX2_costsFrom_50 : decode cX2_costsFrom 50 = .ok (.ifCond .ne 30, 3) := by decide +kernel
theorem dX2_costsFrom_53 : decode cX2_costsFrom 53 = .ok (.iload 6, 2) := by decide +kernel
theorem dX2_costsFrom_55 : decode cX2_costsFrom 55 = .ok (.iload_n 2, 1) := by decide +kernel
theorem dX2_costsFrom_56 : decode cX2_costsFrom 56 = .ok (.iload 7, 2) := by decide +kernel
theorem dX2_costsFrom_58 : decode cX2_costsFrom 58 = .ok (.isub, 1) := by decide +kernel
theorem dX2_costsFrom_59 : decode cX2_costsFrom 59 = .ok (.invokestatic 88, 3) := by decide +kernel
theorem dX2_costsFrom_62 : decode cX2_costsFrom 62 = .ok (.aload_n 0, 1) := by decide +kernel
theorem dX2_costsFrom_63 : decode cX2_costsFrom 63 = .ok (.getfield 18, 3) := by decide +kernel
theorem dX2_costsFrom_66 : decode cX2_costsFrom 66 = .ok (.iload 7, 2) := by decide +kernel
theorem dX2_costsFrom_68 : decode cX2_costsFrom 68 = .ok (.iaload, 1) := by decide +kernel
theorem dX2_costsFrom_69 : decode cX2_costsFrom 69 = .ok (.iload 5, 2) := by decide +kernel
theorem dX2_costsFrom_71 : decode cX2_costsFrom 71 = .ok (.invokestatic 54, 3) := by decide +kernel
theorem dX2_costsFrom_74 : decode cX2_costsFrom 74 = .ok (.iadd, 1) := by decide +kernel
theorem dX2_costsFrom_75 : decode cX2_costsFrom 75 = .ok (.invokestatic 94, 3) := by decide +kernel
theorem dX2_costsFrom_78 : decode cX2_costsFrom 78 = .ok (.istore 6, 2) := by decide +kernel
theorem dX2_costsFrom_80 : decode cX2_costsFrom 80 = .ok (.iinc 7 1, 3) := by decide +kernel
theorem dX2_costsFrom_83 : decode cX2_costsFrom 83 = .ok (.goto (-55), 3) := by decide +kernel
theorem dX2_costsFrom_86 : decode cX2_costsFrom 86 = .ok (.iload 4, 2) := by decide +kernel
theorem dX2_costsFrom_88 : decode cX2_costsFrom 88 = .ok (.iload 6, 2) := by decide +kernel
theorem dX2_costsFrom_90 : decode cX2_costsFrom 90 = .ok (.bipush 6, 2) := by decide +kernel
theorem dX2_costsFrom_92 : decode cX2_costsFrom 92 = .ok (.iload 5, 2) := by decide +kernel
theorem dX2_costsFrom_94 : decode cX2_costsFrom 94 = .ok (.imul, 1) := by decide +kernel
theorem dX2_costsFrom_95 : decode cX2_costsFrom 95 = .ok (.ishl, 1) := by decide +kernel
theorem dX2_costsFrom_96 : decode cX2_costsFrom 96 = .ok (.ior, 1) := by decide +kernel
theorem dX2_costsFrom_97 : decode cX2_costsFrom 97 = .ok (.istore 4, 2) := by decide +kernel
theorem dX2_costsFrom_99 : decode cX2_costsFrom 99 = .ok (.iinc 5 1, 3) := by decide +kernel
theorem dX2_costsFrom_102 : decode cX2_costsFrom 102 = .ok (.goto (-96), 3) := by decide +kernel
theorem dX2_costsFrom_105 : decode cX2_costsFrom 105 = .ok (.iload 4, 2) := by decide +kernel
theorem dX2_costsFrom_107 : decode cX2_costsFrom 107 = .ok (.ireturn, 1) := by decide +kernel
set_option maxRecDepth 20000 in
theorem ggX2_trace_X2_nextPosition : GoodIn wsX2_trace wsX2_nextPosition := goodIn_ca (goodIn_r _ [13, 2, 4, 5, 6, 7, 8, 14, 15, 16, 17, 18, 19, 20, 21, 22, 23, 24, 25, 12, 26, 27, 28, 29, 30, 31, 32, 33, 34, 35, 36, 37, 38, 39, 40, 41, 42, 43, 44, 45, 46, 47, 48, 49] (by decide +kernel) (by decide +kernel)) (goodIn_sub (fun _ h => List.mem_cons_of_mem _ (List.mem_append_right _ h)) (by decide +kernel))
set_option maxRecDepth 20000 in
theorem gX2_trace_X2_nextPosition : GoodIn wsX2_trace (wsV RX2 97 RX2 yX2_nextPosition wsX2_nextPosition) := goodIn_app (goodIn_of _ (by decide +kernel)) ggX2_trace_X2_nextPosition
set_option maxRecDepth 20000 in
theorem ggX2_trace_X0_step : GoodIn wsX2_trace wsX0_step := goodIn_ca (goodIn_r _ [18, 19, 20, 21, 22, 47, 48, 49] (by decide +kernel) (by decide +kernel)) (goodIn_sub (fun _ h => List.mem_cons_of_mem _ (List.mem_append_right _ h)) (by decide +kernel))
set_option maxRecDepth 20000 in
theorem gX2_trace_X0_step : GoodIn wsX2_trace (wsV RX2 61 RX0 yX0_step wsX0_step) := goodIn_app (goodIn_of _ (by decide +kernel)) ggX2_trace_X0_step
theorem dX2_trace_0 : decode cX2_trace 0 = .ok (.iconst 0, 1) := by decide +kernel
theorem dX2_trace_1 : decode cX2_trace 1 = .ok (.istore_n 2, 1) := by decide +kernel
theorem dX2_trace_2 : decode cX2_trace 2 = .ok (.iconst 0, 1) := by decide +kernel
theorem dX2_trace_3 : decode cX2_trace 3 = .ok (.istore_n 3, 1) := by decide +kernel
theorem dX2_trace_4 : decode cX2_trace 4 = .ok (.iconst 1, 1) := by decide +kernel
theorem dX2_trace_5 : decode cX2_trace 5 = .ok (.istore 4, 2) := by decide +kernel
theorem dX2_trace_7 : decode cX2_trace 7 = .ok (.aload_n 0, 1) := by decide +kernel
theorem dX2_trace_8 : decode cX2_trace 8 = .ok (.getfield 31, 3) := by decide +kernel
theorem dX2_trace_11 : decode cX2_trace 11 = .ok (.istore 5, 2) := by decide +kernel
theorem dX2_trace_13 : decode cX2_trace 13 = .ok (.iconst 0, 1) := by decide +kernel
theorem dX2_trace_14 : decode cX2_trace 14 = .ok (.istore 6, 2) := by decide +kernel
theorem dX2_trace_16 : decode cX2_trace 16 = .ok (.iload 6, 2) := by decide +kernel
theorem dX2_trace_18 : decode cX2_trace 18 = .ok (.aload_n 0, 1) := by decide +kernel
theorem dX2_trace_19 : decode cX2_trace 19 = .ok (.getfield 24, 3) := by decide +kernel
theorem dX2_trace_22 : decode cX2_trace 22 = .ok (.if_icmp .ge 75, 3) := by decide +kernel
theorem dX2_trace_25 : decode cX2_trace 25 = .ok (.iload 6, 2) := by decide +kernel
theorem dX2_trace_27 : decode cX2_trace 27 = .ok (.bipush 8, 2) := by decide +kernel
theorem dX2_trace_29 : decode cX2_trace 29 = .ok (.if_icmp .ge 68, 3) := by decide +kernel
theorem dX2_trace_32 : decode cX2_trace 32 = .ok (.aload_n 0, 1) := by decide +kernel
theorem dX2_trace_33 : decode cX2_trace 33 = .ok (.aload_n 1, 1) := by decide +kernel
theorem dX2_trace_34 : decode cX2_trace 34 = .ok (.iload_n 2, 1) := by decide +kernel
theorem dX2_trace_35 : decode cX2_trace 35 = .ok (.iload_n 3, 1) := by decide +kernel
theorem dX2_trace_36 : decode cX2_trace 36 = .ok (.iload 4, 2) := by decide +kernel
theorem dX2_trace_38 : decode cX2_trace 38 = .ok (.iload 5, 2) := by decide +kernel
theorem dX2_trace_40 : decode cX2_trace 40 = .ok (.invokevirtual 97, 3) := by decide +kernel
theorem dX2_trace_43 : decode cX2_trace 43 = .ok (.istore 7, 2) := by decide +kernel
theorem dX2_trace_45 : decode cX2_trace 45 = .ok (.aload_n 0, 1) := by decide +kernel
theorem dX2_trace_46 : decode cX2_trace 46 = .ok (.getfield 28, 3) := by decide +kernel
theorem dX2_trace_49 : decode cX2_trace 49 = .ok (.iload 6, 2) := by decide +kernel
theorem dX2_trace_51 : decode cX2_trace 51 = .ok (.iload 7, 2) := by decide +kernel
theorem dX2_trace_53 : decode cX2_trace 53 = .ok (.iastore, 1) := by decide +kernel
theorem dX2_trace_54 : decode cX2_trace 54 = .ok (.aload_n 1, 1) := by decide +kernel
theorem dX2_trace_55 : decode cX2_trace 55 = .ok (.aload_n 0, 1) := by decide +kernel
theorem dX2_trace_56 : decode cX2_trace 56 = .ok (.getfield 21, 3) := by decide +kernel
theorem dX2_trace_59 : decode cX2_trace 59 = .ok (.iload 7, 2) := by decide +kernel
theorem dX2_trace_61 : decode cX2_trace 61 = .ok (.iaload, 1) := by decide +kernel
theorem dX2_trace_62 : decode cX2_trace 62 = .ok (.iload 4, 2) := by decide +kernel
theorem dX2_trace_64 : decode cX2_trace 64 = .ok (.invokevirtual 61, 3) := by decide +kernel
theorem dX2_trace_67 : decode cX2_trace 67 = .ok (.istore 4, 2) := by decide +kernel
theorem dX2_trace_69 : decode cX2_trace 69 = .ok (.iload 5, 2) := by decide +kernel
theorem dX2_trace_71 : decode cX2_trace 71 = .ok (.iload_n 3, 1) := by decide +kernel
theorem dX2_trace_72 : decode cX2_trace 72 = .ok (.iload 7, 2) := by decide +kernel
theorem dX2_trace_74 : decode cX2_trace 74 = .ok (.isub, 1) := by decide +kernel
theorem dX2_trace_75 : decode cX2_trace 75 = .ok (.invokestatic 88, 3) := by decide +kernel
theorem dX2_trace_78 : decode cX2_trace 78 = .ok (.isub, 1) := by decide +kernel
theorem dX2_trace_79 : decode cX2_trace 79 = .ok (.istore 5, 2) := by decide +kernel
theorem dX2_trace_81 : decode cX2_trace 81 = .ok (.iload_n 2, 1) := by decide +kernel
theorem dX2_trace_82 : decode cX2_trace 82 = .ok (.iconst 1, 1) := by decide +kernel
theorem dX2_trace_83 : decode cX2_trace 83 = .ok (.iload 7, 2) := by decide +kernel
theorem dX2_trace_85 : decode cX2_trace 85 = .ok (.ishl, 1) := by decide +kernel
theorem dX2_trace_86 : decode cX2_trace 86 = .ok (.ior, 1) := by decide +kernel
theorem dX2_trace_87 : decode cX2_trace 87 = .ok (.istore_n 2, 1) := by decide +kernel
theorem dX2_trace_88 : decode cX2_trace 88 = .ok (.iload 7, 2) := by decide +kernel
theorem dX2_trace_90 : decode cX2_trace 90 = .ok (.istore_n 3, 1) := by decide +kernel
theorem dX2_trace_91 : decode cX2_trace 91 = .ok (.iinc 6 1, 3) := by decide +kernel
theorem dX2_trace_94 : decode cX2_trace 94 = .ok (.goto (-78), 3) := by decide +kernel
theorem dX2_trace_97 : decode cX2_trace 97 = .ok (.return_, 1) := by decide +kernel
set_option maxRecDepth 20000 in
theorem ggX2_nextPosition_X0_step : GoodIn wsX2_nextPosition wsX0_step := goodIn_ca (goodIn_r _ [11, 12, 13, 14, 15, 41, 42, 43] (by decide +kernel) (by decide +kernel)) (goodIn_sub (fun _ h => List.mem_cons_of_mem _ (List.mem_append_right _ h)) (by decide +kernel))
set_option maxRecDepth 20000 in
theorem gX2_nextPosition_X0_step : GoodIn wsX2_nextPosition (wsV RX2 61 RX0 yX0_step wsX0_step) := goodIn_app (goodIn_of _ (by decide +kernel)) ggX2_nextPosition_X0_step
set_option maxRecDepth 20000 in
theorem ggX2_nextPosition_X2_costsAt : GoodIn wsX2_nextPosition wsX2_costsAt := goodIn_ca (goodIn_r _ [20, 21, 22, 23, 19, 24, 34, 35, 36, 37, 38, 39, 40] (by decide +kernel) (by decide +kernel)) (goodIn_sub (fun _ h => List.mem_cons_of_mem _ (List.mem_append_right _ h)) (by decide +kernel))
set_option maxRecDepth 20000 in
theorem gX2_nextPosition_X2_costsAt : GoodIn wsX2_nextPosition (wsV RX2 50 RX2 yX2_costsAt wsX2_costsAt) := goodIn_app (goodIn_of _ (by decide +kernel)) ggX2_nextPosition_X2_costsAt
set_option maxRecDepth 20000 in
theorem ggX2_nextPosition_X2_leastOf : GoodIn wsX2_nextPosition wsX2_leastOf := goodIn_r _ [27, 28, 29, 5, 30, 31, 32, 19, 33] (by decide +kernel) (by decide +kernel)
set_option maxRecDepth 20000 in
theorem gX2_nextPosition_X2_leastOf : GoodIn wsX2_nextPosition (va_wsS RX2 85 yX2_leastOf wsX2_leastOf) := goodIn_app (goodIn_of _ (by decide +kernel)) ggX2_nextPosition_X2_leastOf
theorem dX2_nextPosition_0 : decode cX2_nextPosition 0 = .ok (.iconst 0, 1) := by decide +kernel
theorem dX2_nextPosition_1 : decode cX2_nextPosition 1 = .ok (.istore 6, 2) := by decide +kernel
theorem dX2_nextPosition_3 : decode cX2_nextPosition 3 = .ok (.iload 6, 2) := by decide +kernel
theorem dX2_nextPosition_5 : decode cX2_nextPosition 5 = .ok (.aload_n 0, 1) := by decide +kernel
theorem dX2_nextPosition_6 : decode cX2_nextPosition 6 = .ok (.getfield 24, 3) := by decide +kernel
theorem dX2_nextPosition_9 : decode cX2_nextPosition 9 = .ok (.if_icmp .ge 73, 3) := by decide +kernel
theorem dX2_nextPosition_12 : decode cX2_nextPosition 12 = .ok (.iload 6, 2) := by decide +kernel
theorem dX2_nextPosition_14 : decode cX2_nextPosition 14 = .ok (.bipush 8, 2) := by decide +kernel
theorem dX2_nextPosition_16 : decode cX2_nextPosition 16 = .ok (.if_icmp .ge 66, 3) := by decide +kernel
theorem dX2_nextPosition_19 : decode cX2_nextPosition 19 = .ok (.iload_n 2, 1) := by decide +kernel
theorem dX2_nextPosition_20 : decode cX2_nextPosition 20 = .ok (.iload 6, 2) := by decide +kernel
theorem dX2_nextPosition_22 : decode cX2_nextPosition 22 = .ok (.ishr, 1) := by decide +kernel
theorem dX2_nextPosition_23 : decode cX2_nextPosition 23 = .ok (.iconst 1, 1) := by decide +kernel
theorem dX2_nextPosition_24 : decode cX2_nextPosition 24 = .ok (.iand, 1) := by decide +kernel
theorem dX2_nextPosition_25 : decode cX2_nextPosition 25 = .ok (.ifCond .ne 51, 3) := by decide +kernel
theorem dX2_nextPosition_28 : decode cX2_nextPosition 28 = .ok (.aload_n 1, 1) := by decide +kernel
theorem dX2_nextPosition_29 : decode cX2_nextPosition 29 = .ok (.aload_n 0, 1) := by decide +kernel
theorem dX2_nextPosition_30 : decode cX2_nextPosition 30 = .ok (.getfield 21, 3) := by decide +kernel
theorem dX2_nextPosition_33 : decode cX2_nextPosition 33 = .ok (.iload 6, 2) := by decide +kernel
theorem dX2_nextPosition_35 : decode cX2_nextPosition 35 = .ok (.iaload, 1) := by decide +kernel
theorem dX2_nextPosition_36 : decode cX2_nextPosition 36 = .ok (.iload 4, 2) := by decide +kernel
theorem dX2_nextPosition_38 : decode cX2_nextPosition 38 = .ok (.invokevirtual 61, 3) := by decide +kernel
theorem dX2_nextPosition_41 : decode cX2_nextPosition 41 = .ok (.istore 7, 2) := by decide +kernel
theorem dX2_nextPosition_43 : decode cX2_nextPosition 43 = .ok (.iload_n 3, 1) := by decide +kernel
theorem dX2_nextPosition_44 : decode cX2_nextPosition 44 = .ok (.iload 6, 2) := by decide +kernel
theorem dX2_nextPosition_46 : decode cX2_nextPosition 46 = .ok (.isub, 1) := by decide +kernel
theorem dX2_nextPosition_47 : decode cX2_nextPosition 47 = .ok (.invokestatic 88, 3) := by decide +kernel
theorem dX2_nextPosition_50 : decode cX2_nextPosition 50 = .ok (.aload_n 0, 1) := by decide +kernel
theorem dX2_nextPosition_51 : decode cX2_nextPosition 51 = .ok (.iload_n 2, 1) := by decide +kernel
theorem dX2_nextPosition_52 : decode cX2_nextPosition 52 = .ok (.iconst 1, 1) := by decide +kernel
theorem dX2_nextPosition_53 : decode cX2_nextPosition 53 = .ok (.iload 6, 2) := by decide +kernel
theorem dX2_nextPosition_55 : decode cX2_nextPosition 55 = .ok (.ishl, 1) := by decide +kernel
theorem dX2_nextPosition_56 : decode cX2_nextPosition 56 = .ok (.ior, 1) := by decide +kernel
theorem dX2_nextPosition_57 : decode cX2_nextPosition 57 = .ok (.iload 6, 2) := by decide +kernel
theorem dX2_nextPosition_59 : decode cX2_nextPosition 59 = .ok (.invokevirtual 50, 3) := by decide +kernel
theorem dX2_nextPosition_62 : decode cX2_nextPosition 62 = .ok (.iload 7, 2) := by decide +kernel
theorem dX2_nextPosition_64 : decode cX2_nextPosition 64 = .ok (.invokestatic 85, 3) := by decide +kernel
theorem dX2_nextPosition_67 : decode cX2_nextPosition 67 = .ok (.iadd, 1) := by decide +kernel
theorem dX2_nextPosition_68 : decode cX2_nextPosition 68 = .ok (.iload 5, 2) := by decide +kernel
theorem dX2_nextPosition_70 : decode cX2_nextPosition 70 = .ok (.if_icmp .ne 6, 3) := by decide +kernel
theorem dX2_nextPosition_73 : decode cX2_nextPosition 73 = .ok (.iload 6, 2) := by decide +kernel
theorem dX2_nextPosition_75 : decode cX2_nextPosition 75 = .ok (.ireturn, 1) := by decide +kernel
theorem dX2_nextPosition_76 : decode cX2_nextPosition 76 = .ok (.iinc 6 1, 3) := by decide +kernel
theorem dX2_nextPosition_79 : decode cX2_nextPosition 79 = .ok (.goto (-76), 3) := by decide +kernel
theorem dX2_nextPosition_82 : decode cX2_nextPosition 82 = .ok (.iconst 0, 1) := by decide +kernel
theorem dX2_nextPosition_83 : decode cX2_nextPosition 83 = .ok (.ireturn, 1) := by decide +kernel
set_option maxRecDepth 20000 in
theorem ggX2_costsAt_X2_isPlace : GoodIn wsX2_costsAt wsX2_isPlace := goodIn_r _ [5] (by decide +kernel) (by decide +kernel)
set_option maxRecDepth 20000 in
theorem gX2_costsAt_X2_isPlace : GoodIn wsX2_costsAt (va_wsS RX2 101 yX2_isPlace wsX2_isPlace) := goodIn_app (goodIn_of _ (by decide +kernel)) ggX2_costsAt_X2_isPlace
theorem dX2_costsAt_0 : decode cX2_costsAt 0 = .ok (.iload_n 1, 1) := by decide +kernel
theorem dX2_costsAt_1 : decode cX2_costsAt 1 = .ok (.iload_n 2, 1) := by decide +kernel
theorem dX2_costsAt_2 : decode cX2_costsAt 2 = .ok (.invokestatic 101, 3) := by decide +kernel
theorem dX2_costsAt_5 : decode cX2_costsAt 5 = .ok (.ifCond .eq 17, 3) := by decide +kernel
theorem dX2_costsAt_8 : decode cX2_costsAt 8 = .ok (.aload_n 0, 1) := by decide +kernel
theorem dX2_costsAt_9 : decode cX2_costsAt 9 = .ok (.getfield 11, 3) := by decide +kernel
theorem dX2_costsAt_12 : decode cX2_costsAt 12 = .ok (.iload_n 1, 1) := by decide +kernel
theorem dX2_costsAt_13 : decode cX2_costsAt 13 = .ok (.bipush 8, 2) := by decide +kernel
theorem dX2_costsAt_15 : decode cX2_costsAt 15 = .ok (.imul, 1) := by decide +kernel
theorem dX2_costsAt_16 : decode cX2_costsAt 16 = .ok (.iload_n 2, 1) := by decide +kernel
theorem dX2_costsAt_17 : decode cX2_costsAt 17 = .ok (.iadd, 1) := by decide +kernel
theorem dX2_costsAt_18 : decode cX2_costsAt 18 = .ok (.iaload, 1) := by decide +kernel
theorem dX2_costsAt_19 : decode cX2_costsAt 19 = .ok (.goto 4, 3) := by decide +kernel
theorem dX2_costsAt_22 : decode cX2_costsAt 22 = .ok (.iconst (-1), 1) := by decide +kernel
theorem dX2_costsAt_23 : decode cX2_costsAt 23 = .ok (.ireturn, 1) := by decide +kernel
set_option maxRecDepth 20000 in
theorem ggX2_putCosts_X2_isPlace : GoodIn wsX2_putCosts wsX2_isPlace := goodIn_r _ [5] (by decide +kernel) (by decide +kernel)
set_option maxRecDepth 20000 in
theorem gX2_putCosts_X2_isPlace : GoodIn wsX2_putCosts (va_wsS RX2 101 yX2_isPlace wsX2_isPlace) := goodIn_app (goodIn_of _ (by decide +kernel)) ggX2_putCosts_X2_isPlace
theorem dX2_putCosts_0 : decode cX2_putCosts 0 = .ok (.iload_n 1, 1) := by decide +kernel
theorem dX2_putCosts_1 : decode cX2_putCosts 1 = .ok (.iload_n 2, 1) := by decide +kernel
theorem dX2_putCosts_2 : decode cX2_putCosts 2 = .ok (.invokestatic 101, 3) := by decide +kernel
theorem dX2_putCosts_5 : decode cX2_putCosts 5 = .ok (.ifCond .eq 15, 3) := by decide +kernel
theorem dX2_putCosts_8 : decode cX2_putCosts 8 = .ok (.aload_n 0, 1) := by decide +kernel
theorem dX2_putCosts_9 : decode cX2_putCosts 9 = .ok (.getfield 11, 3) := by decide +kernel
theorem dX2_putCosts_12 : decode cX2_putCosts 12 = .ok (.iload_n 1, 1) := by decide +kernel
theorem dX2_putCosts_13 : decode cX2_putCosts 13 = .ok (.bipush 8, 2) := by decide +kernel
theorem dX2_putCosts_15 : decode cX2_putCosts 15 = .ok (.imul, 1) := by decide +kernel
theorem dX2_putCosts_16 : decode cX2_putCosts 16 = .ok (.iload_n 2, 1) := by decide +kernel
theorem dX2_putCosts_17 : decode cX2_putCosts 17 = .ok (.iadd, 1) := by decide +kernel
theorem dX2_putCosts_18 : decode cX2_putCosts 18 = .ok (.iload_n 3, 1) := by decide +kernel
theorem dX2_putCosts_19 : decode cX2_putCosts 19 = .ok (.iastore, 1) := by decide +kernel
theorem dX2_putCosts_20 : decode cX2_putCosts 20 = .ok (.return_, 1) := by decide +kernel
theorem dX2_isPlace_0 : decode cX2_isPlace 0 = .ok (.iload_n 0, 1) := by decide +kernel
theorem dX2_isPlace_1 : decode cX2_isPlace 1 = .ok (.ifCond .lt 24, 3) := by decide +kernel
theorem dX2_isPlace_4 : decode cX2_isPlace 4 = .ok (.iload_n 0, 1) := by decide +kernel
theorem dX2_isPlace_5 : decode cX2_isPlace 5 = .ok (.sipush 256, 3) := by decide +kernel
theorem dX2_isPlace_8 : decode cX2_isPlace 8 = .ok (.if_icmp .ge 17, 3) := by decide +kernel
theorem dX2_isPlace_11 : decode cX2_isPlace 11 = .ok (.iload_n 1, 1) := by decide +kernel
theorem dX2_isPlace_12 : decode cX2_isPlace 12 = .ok (.ifCond .lt 13, 3) := by decide +kernel
theorem dX2_isPlace_15 : decode cX2_isPlace 15 = .ok (.iload_n 1, 1) := by decide +kernel
theorem dX2_isPlace_16 : decode cX2_isPlace 16 = .ok (.bipush 8, 2) := by decide +kernel
theorem dX2_isPlace_18 : decode cX2_isPlace 18 = .ok (.if_icmp .ge 7, 3) := by decide +kernel
theorem dX2_isPlace_21 : decode cX2_isPlace 21 = .ok (.iconst 1, 1) := by decide +kernel
theorem dX2_isPlace_22 : decode cX2_isPlace 22 = .ok (.goto 4, 3) := by decide +kernel
theorem dX2_isPlace_25 : decode cX2_isPlace 25 = .ok (.iconst 0, 1) := by decide +kernel
theorem dX2_isPlace_26 : decode cX2_isPlace 26 = .ok (.ireturn, 1) := by decide +kernel
theorem dX2_costOf_0 : decode cX2_costOf 0 = .ok (.iload_n 0, 1) := by decide +kernel
theorem dX2_costOf_1 : decode cX2_costOf 1 = .ok (.bipush 6, 2) := by decide +kernel
theorem dX2_costOf_3 : decode cX2_costOf 3 = .ok (.iload_n 1, 1) := by decide +kernel
theorem dX2_costOf_4 : decode cX2_costOf 4 = .ok (.imul, 1) := by decide +kernel
theorem dX2_costOf_5 : decode cX2_costOf 5 = .ok (.ishr, 1) := by decide +kernel
theorem dX2_costOf_6 : decode cX2_costOf 6 = .ok (.bipush 63, 2) := by decide +kernel
theorem dX2_costOf_8 : decode cX2_costOf 8 = .ok (.iand, 1) := by decide +kernel
theorem dX2_costOf_9 : decode cX2_costOf 9 = .ok (.ireturn, 1) := by decide +kernel
set_option maxRecDepth 20000 in
theorem ggX2_leastOf_X2_costOf : GoodIn wsX2_leastOf wsX2_costOf := goodIn_r _ [8] (by decide +kernel) (by decide +kernel)
set_option maxRecDepth 20000 in
theorem gX2_leastOf_X2_costOf : GoodIn wsX2_leastOf (va_wsS RX2 54 yX2_costOf wsX2_costOf) := goodIn_app (goodIn_of _ (by decide +kernel)) ggX2_leastOf_X2_costOf
theorem dX2_leastOf_0 : decode cX2_leastOf 0 = .ok (.bipush 63, 2) := by decide +kernel
theorem dX2_leastOf_2 : decode cX2_leastOf 2 = .ok (.istore_n 2, 1) := by decide +kernel
theorem dX2_leastOf_3 : decode cX2_leastOf 3 = .ok (.iconst 0, 1) := by decide +kernel
theorem dX2_leastOf_4 : decode cX2_leastOf 4 = .ok (.istore_n 3, 1) := by decide +kernel
theorem dX2_leastOf_5 : decode cX2_leastOf 5 = .ok (.iload_n 3, 1) := by decide +kernel
theorem dX2_leastOf_6 : decode cX2_leastOf 6 = .ok (.iconst 5, 1) := by decide +kernel
theorem dX2_leastOf_7 : decode cX2_leastOf 7 = .ok (.if_icmp .ge 27, 3) := by decide +kernel
theorem dX2_leastOf_10 : decode cX2_leastOf 10 = .ok (.iload_n 1, 1) := by decide +kernel
theorem dX2_leastOf_11 : decode cX2_leastOf 11 = .ok (.iload_n 3, 1) := by decide +kernel
theorem dX2_leastOf_12 : decode cX2_leastOf 12 = .ok (.ishr, 1) := by decide +kernel
theorem dX2_leastOf_13 : decode cX2_leastOf 13 = .ok (.iconst 1, 1) := by decide +kernel
theorem dX2_leastOf_14 : decode cX2_leastOf 14 = .ok (.iand, 1) := by decide +kernel
theorem dX2_leastOf_15 : decode cX2_leastOf 15 = .ok (.ifCond .eq 13, 3) := by decide +kernel
theorem dX2_leastOf_18 : decode cX2_leastOf 18 = .ok (.iload_n 2, 1) := by decide +kernel
theorem dX2_leastOf_19 : decode cX2_leastOf 19 = .ok (.iload_n 0, 1) := by decide +kernel
theorem dX2_leastOf_20 : decode cX2_leastOf 20 = .ok (.iload_n 3, 1) := by decide +kernel
theorem dX2_leastOf_21 : decode cX2_leastOf 21 = .ok (.invokestatic 54, 3) := by decide +kernel
theorem dX2_leastOf_24 : decode cX2_leastOf 24 = .ok (.invokestatic 94, 3) := by decide +kernel
theorem dX2_leastOf_27 : decode cX2_leastOf 27 = .ok (.istore_n 2, 1) := by decide +kernel
theorem dX2_leastOf_28 : decode cX2_leastOf 28 = .ok (.iinc 3 1, 3) := by decide +kernel
theorem dX2_leastOf_31 : decode cX2_leastOf 31 = .ok (.goto (-26), 3) := by decide +kernel
theorem dX2_leastOf_34 : decode cX2_leastOf 34 = .ok (.iload_n 2, 1) := by decide +kernel
theorem dX2_leastOf_35 : decode cX2_leastOf 35 = .ok (.ireturn, 1) := by decide +kernel
