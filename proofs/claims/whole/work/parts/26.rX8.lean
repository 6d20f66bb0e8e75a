theorem dX8_init_0 : decode cX8_init 0 = .ok (.aload_n 0, 1) := by decide +kernel
theorem dX8_init_1 : decode cX8_init 1 = .ok (.invokespecial 3, 3) := by decide +kernel
theorem dX8_init_4 : decode cX8_init 4 = .ok (.aload_n 0, 1) := by decide +kernel
theorem dX8_init_5 : decode cX8_init 5 = .ok (.iconst 1, 1) := by decide +kernel
theorem dX8_init_6 : decode cX8_init 6 = .ok (.putfield 9, 3) := by decide +kernel
theorem dX8_init_9 : decode cX8_init 9 = .ok (.aload_n 0, 1) := by decide +kernel
theorem dX8_init_10 : decode cX8_init 10 = .ok (.iconst 0, 1) := by decide +kernel
theorem dX8_init_11 : decode cX8_init 11 = .ok (.putfield 15, 3) := by decide +kernel
theorem dX8_init_14 : decode cX8_init 14 = .ok (.aload_n 0, 1) := by decide +kernel
theorem dX8_init_15 : decode cX8_init 15 = .ok (.iconst 0, 1) := by decide +kernel
theorem dX8_init_16 : decode cX8_init 16 = .ok (.putfield 18, 3) := by decide +kernel
theorem dX8_init_19 : decode cX8_init 19 = .ok (.aload_n 0, 1) := by decide +kernel
theorem dX8_init_20 : decode cX8_init 20 = .ok (.iconst 0, 1) := by decide +kernel
theorem dX8_init_21 : decode cX8_init 21 = .ok (.putfield 21, 3) := by decide +kernel
theorem dX8_init_24 : decode cX8_init 24 = .ok (.aload_n 0, 1) := by decide +kernel
theorem dX8_init_25 : decode cX8_init 25 = .ok (.iconst 0, 1) := by decide +kernel
theorem dX8_init_26 : decode cX8_init 26 = .ok (.putfield 24, 3) := by decide +kernel
theorem dX8_init_29 : decode cX8_init 29 = .ok (.return_, 1) := by decide +kernel
set_option maxRecDepth 20000 in
theorem ggX8_read_X8_begin : GoodIn wsX8_read wsX8_begin := goodIn_r _ [5, 6, 7, 8, 9, 10, 28, 29, 30, 31, 32] (by decide +kernel) (by decide +kernel)
set_option maxRecDepth 20000 in
theorem gX8_read_X8_begin : GoodIn wsX8_read (wsV RX8 28 RX8 yX8_begin wsX8_begin) := goodIn_app (goodIn_of _ (by decide +kernel)) ggX8_read_X8_begin
set_option maxRecDepth 20000 in
theorem ggX8_read_X8_meet : GoodIn wsX8_read wsX8_meet := goodIn_ca (goodIn_r _ [14, 6, 7, 8, 10, 9, 15, 16, 17, 18, 19, 20, 21, 22, 23, 28, 29, 30, 31, 32, 33, 34, 35] (by decide +kernel) (by decide +kernel)) (goodIn_sub (fun _ h => List.mem_cons_of_mem _ (List.mem_append_right _ h)) (by decide +kernel))
set_option maxRecDepth 20000 in
theorem gX8_read_X8_meet : GoodIn wsX8_read (wsV RX8 31 RX8 yX8_meet wsX8_meet) := goodIn_app (goodIn_of _ (by decide +kernel)) ggX8_read_X8_meet
set_option maxRecDepth 20000 in
theorem ggX8_read_X8_finish : GoodIn wsX8_read wsX8_finish := goodIn_ca (goodIn_r _ [27, 8, 7, 11, 12, 13, 4, 14, 6, 10, 9, 15, 16, 17, 18, 19, 20, 21, 22, 23, 28, 29, 30, 31, 32, 33, 34, 35] (by decide +kernel) (by decide +kernel)) (goodIn_sub (fun _ h => List.mem_cons_of_mem _ (List.mem_append_right _ h)) (by decide +kernel))
set_option maxRecDepth 20000 in
theorem gX8_read_X8_finish : GoodIn wsX8_read (wsV RX8 35 RX8 yX8_finish wsX8_finish) := goodIn_app (goodIn_of _ (by decide +kernel)) ggX8_read_X8_finish
theorem dX8_read_0 : decode cX8_read 0 = .ok (.aload_n 0, 1) := by decide +kernel
theorem dX8_read_1 : decode cX8_read 1 = .ok (.invokevirtual 28, 3) := by decide +kernel
theorem dX8_read_4 : decode cX8_read 4 = .ok (.iconst 0, 1) := by decide +kernel
theorem dX8_read_5 : decode cX8_read 5 = .ok (.istore 4, 2) := by decide +kernel
theorem dX8_read_7 : decode cX8_read 7 = .ok (.iload 4, 2) := by decide +kernel
theorem dX8_read_9 : decode cX8_read 9 = .ok (.iload_n 3, 1) := by decide +kernel
theorem dX8_read_10 : decode cX8_read 10 = .ok (.if_icmp .ge 25, 3) := by decide +kernel
theorem dX8_read_13 : decode cX8_read 13 = .ok (.iload 4, 2) := by decide +kernel
theorem dX8_read_15 : decode cX8_read 15 = .ok (.aload_n 2, 1) := by decide +kernel
theorem dX8_read_16 : decode cX8_read 16 = .ok (.arraylength, 1) := by decide +kernel
theorem dX8_read_17 : decode cX8_read 17 = .ok (.if_icmp .ge 18, 3) := by decide +kernel
theorem dX8_read_20 : decode cX8_read 20 = .ok (.aload_n 0, 1) := by decide +kernel
theorem dX8_read_21 : decode cX8_read 21 = .ok (.aload_n 1, 1) := by decide +kernel
theorem dX8_read_22 : decode cX8_read 22 = .ok (.aload_n 2, 1) := by decide +kernel
theorem dX8_read_23 : decode cX8_read 23 = .ok (.iload 4, 2) := by decide +kernel
theorem dX8_read_25 : decode cX8_read 25 = .ok (.iaload, 1) := by decide +kernel
theorem dX8_read_26 : decode cX8_read 26 = .ok (.invokevirtual 31, 3) := by decide +kernel
theorem dX8_read_29 : decode cX8_read 29 = .ok (.iinc 4 1, 3) := by decide +kernel
theorem dX8_read_32 : decode cX8_read 32 = .ok (.goto (-25), 3) := by decide +kernel
theorem dX8_read_35 : decode cX8_read 35 = .ok (.aload_n 0, 1) := by decide +kernel
theorem dX8_read_36 : decode cX8_read 36 = .ok (.aload_n 1, 1) := by decide +kernel
theorem dX8_read_37 : decode cX8_read 37 = .ok (.iload_n 3, 1) := by decide +kernel
theorem dX8_read_38 : decode cX8_read 38 = .ok (.invokevirtual 35, 3) := by decide +kernel
theorem dX8_read_41 : decode cX8_read 41 = .ok (.return_, 1) := by decide +kernel
set_option maxRecDepth 20000 in
theorem ggX8_accepted_X0_accepting : GoodIn wsX8_accepted wsX0_accepting := goodIn_r _ [7, 8, 14, 15, 16] (by decide +kernel) (by decide +kernel)
set_option maxRecDepth 20000 in
theorem gX8_accepted_X0_accepting : GoodIn wsX8_accepted (wsV RX8 38 RX0 yX0_accepting wsX0_accepting) := goodIn_app (goodIn_of _ (by decide +kernel)) ggX8_accepted_X0_accepting
theorem dX8_accepted_0 : decode cX8_accepted 0 = .ok (.aload_n 0, 1) := by decide +kernel
theorem dX8_accepted_1 : decode cX8_accepted 1 = .ok (.getfield 18, 3) := by decide +kernel
theorem dX8_accepted_4 : decode cX8_accepted 4 = .ok (.ifCond .ne 18, 3) := by decide +kernel
theorem dX8_accepted_7 : decode cX8_accepted 7 = .ok (.aload_n 1, 1) := by decide +kernel
theorem dX8_accepted_8 : decode cX8_accepted 8 = .ok (.aload_n 0, 1) := by decide +kernel
theorem dX8_accepted_9 : decode cX8_accepted 9 = .ok (.getfield 9, 3) := by decide +kernel
theorem dX8_accepted_12 : decode cX8_accepted 12 = .ok (.invokevirtual 38, 3) := by decide +kernel
theorem dX8_accepted_15 : decode cX8_accepted 15 = .ok (.ifCond .eq 7, 3) := by decide +kernel
theorem dX8_accepted_18 : decode cX8_accepted 18 = .ok (.iconst 1, 1) := by decide +kernel
theorem dX8_accepted_19 : decode cX8_accepted 19 = .ok (.goto 4, 3) := by decide +kernel
theorem dX8_accepted_22 : decode cX8_accepted 22 = .ok (.iconst 0, 1) := by decide +kernel
theorem dX8_accepted_23 : decode cX8_accepted 23 = .ok (.ireturn, 1) := by decide +kernel
set_option maxRecDepth 20000 in
theorem ggX8_countAccepted_X8_begin : GoodIn wsX8_countAccepted wsX8_begin := goodIn_r _ [5, 6, 7, 8, 9, 10, 41, 42, 43, 44, 45] (by decide +kernel) (by decide +kernel)
set_option maxRecDepth 20000 in
theorem gX8_countAccepted_X8_begin : GoodIn wsX8_countAccepted (wsV RX8 28 RX8 yX8_begin wsX8_begin) := goodIn_app (goodIn_of _ (by decide +kernel)) ggX8_countAccepted_X8_begin
set_option maxRecDepth 20000 in
theorem ggX8_countAccepted_X8_countFrom : GoodIn wsX8_countAccepted wsX8_countFrom := goodIn_ca (goodIn_r _ [14, 6, 7, 8, 15, 16, 17, 4, 18, 19, 20, 21, 22, 10, 9, 23, 24, 25, 26, 27, 28, 29, 30, 31, 32, 33, 34, 35, 36, 37, 38, 39, 40, 11, 12, 13, 41, 42, 43, 44, 45, 46, 47, 48] (by decide +kernel) (by decide +kernel)) (goodIn_sub (fun _ h => List.mem_cons_of_mem _ (List.mem_append_right _ h)) (by decide +kernel))
set_option maxRecDepth 20000 in
theorem gX8_countAccepted_X8_countFrom : GoodIn wsX8_countAccepted (wsV RX8 44 RX8 yX8_countFrom wsX8_countFrom) := goodIn_app (goodIn_of _ (by decide +kernel)) ggX8_countAccepted_X8_countFrom
theorem dX8_countAccepted_0 : decode cX8_countAccepted 0 = .ok (.aload_n 0, 1) := by decide +kernel
theorem dX8_countAccepted_1 : decode cX8_countAccepted 1 = .ok (.invokevirtual 28, 3) := by decide +kernel
theorem dX8_countAccepted_4 : decode cX8_countAccepted 4 = .ok (.aload_n 0, 1) := by decide +kernel
theorem dX8_countAccepted_5 : decode cX8_countAccepted 5 = .ok (.aload_n 1, 1) := by decide +kernel
theorem dX8_countAccepted_6 : decode cX8_countAccepted 6 = .ok (.iconst 0, 1) := by decide +kernel
theorem dX8_countAccepted_7 : decode cX8_countAccepted 7 = .ok (.iload_n 2, 1) := by decide +kernel
theorem dX8_countAccepted_8 : decode cX8_countAccepted 8 = .ok (.invokevirtual 44, 3) := by decide +kernel
theorem dX8_countAccepted_11 : decode cX8_countAccepted 11 = .ok (.lreturn, 1) := by decide +kernel
set_option maxRecDepth 20000 in
theorem ggX8_countFrom_X8_finish : GoodIn wsX8_countFrom wsX8_finish := goodIn_ca (goodIn_r _ [8, 3, 2, 9, 10, 11, 7, 12, 1, 13, 14, 15, 16, 17, 18, 19, 20, 21, 22, 23, 36, 37, 38, 39, 40, 41, 42, 43] (by decide +kernel) (by decide +kernel)) (goodIn_sub (fun _ h => List.mem_cons_of_mem _ (List.mem_append_right _ h)) (by decide +kernel))
set_option maxRecDepth 20000 in
theorem gX8_countFrom_X8_finish : GoodIn wsX8_countFrom (wsV RX8 35 RX8 yX8_finish wsX8_finish) := goodIn_app (goodIn_of _ (by decide +kernel)) ggX8_countFrom_X8_finish
set_option maxRecDepth 20000 in
theorem ggX8_countFrom_X8_accepted : GoodIn wsX8_countFrom wsX8_accepted := goodIn_r _ [27, 3, 1, 28, 29, 30, 18, 31, 32, 36, 37, 38, 39, 40, 41, 42, 43] (by decide +kernel) (by decide +kernel)
set_option maxRecDepth 20000 in
theorem gX8_countFrom_X8_accepted : GoodIn wsX8_countFrom (wsV RX8 48 RX8 yX8_accepted wsX8_accepted) := goodIn_app (goodIn_of _ (by decide +kernel)) ggX8_countFrom_X8_accepted
set_option maxRecDepth 20000 in
theorem ggX8_countFrom_X8_meet : GoodIn wsX8_countFrom wsX8_meet := goodIn_ca (goodIn_r _ [12, 1, 2, 3, 13, 14, 15, 16, 17, 18, 19, 20, 21, 22, 23, 36, 37, 38, 39, 40, 41, 42, 43] (by decide +kernel) (by decide +kernel)) (goodIn_sub (fun _ h => List.mem_cons_of_mem _ (List.mem_append_right _ h)) (by decide +kernel))
set_option maxRecDepth 20000 in
theorem gX8_countFrom_X8_meet : GoodIn wsX8_countFrom (wsV RX8 31 RX8 yX8_meet wsX8_meet) := goodIn_app (goodIn_of _ (by decide +kernel)) ggX8_countFrom_X8_meet
set_option maxRecDepth 20000 in
theorem ggX8_countFrom_X8_countFrom : GoodIn wsX8_countFrom wsX8_countFrom := goodIn_ca (goodIn_r _ [0, 1, 2, 3, 4, 5, 6, 7, 8, 9, 10, 11, 12, 13, 14, 15, 16, 17, 18, 19, 20, 21, 22, 23, 24, 25, 26, 27, 28, 29, 30, 31, 32, 33, 34, 35, 36, 37, 38, 39, 40, 41, 42, 43] (by decide +kernel) (by decide +kernel)) (goodIn_sub (fun _ h => List.mem_cons_of_mem _ (List.mem_append_right _ h)) (by decide +kernel))
set_option maxRecDepth 20000 in
theorem gX8_countFrom_X8_countFrom : GoodIn wsX8_countFrom (wsV RX8 44 RX8 yX8_countFrom wsX8_countFrom) := goodIn_app (goodIn_of _ (by decide +kernel)) ggX8_countFrom_X8_countFrom
theorem dX8_countFrom_0 : decode cX8_countFrom 0 = .ok (.aload_n 0, 1) := by decide +kernel
theorem dX8_countFrom_1 : decode cX8_countFrom 1 = .ok (.getfield 9, 3) := by decide +kernel
theorem dX8_countFrom_4 : decode cX8_countFrom 4 = .ok (.istore 4, 2) := by decide +kernel
theorem dX8_countFrom_6 : decode cX8_countFrom 6 = .ok (.aload_n 0, 1) := by decide +kernel
theorem dX8_countFrom_7 : decode cX8_countFrom 7 = .ok (.getfield 15, 3) := by decide +kernel
theorem dX8_countFrom_10 : decode cX8_countFrom 10 = .ok (.istore 5, 2) := by decide +kernel
theorem dX8_countFrom_12 : decode cX8_countFrom 12 = .ok (.aload_n 0, 1) := by decide +kernel
theorem dX8_countFrom_13 : decode cX8_countFrom 13 = .ok (.getfield 18, 3) := by decide +kernel
theorem dX8_countFrom_16 : decode cX8_countFrom 16 = .ok (.istore 6, 2) := by decide +kernel
theorem dX8_countFrom_18 : decode cX8_countFrom 18 = .ok (.lconst 0, 1) := by decide +kernel
theorem dX8_countFrom_19 : decode cX8_countFrom 19 = .ok (.lstore 7, 2) := by decide +kernel
theorem dX8_countFrom_21 : decode cX8_countFrom 21 = .ok (.iload_n 2, 1) := by decide +kernel
theorem dX8_countFrom_22 : decode cX8_countFrom 22 = .ok (.iload_n 3, 1) := by decide +kernel
theorem dX8_countFrom_23 : decode cX8_countFrom 23 = .ok (.if_icmp .ge 9, 3) := by decide +kernel
theorem dX8_countFrom_26 : decode cX8_countFrom 26 = .ok (.iload_n 2, 1) := by decide +kernel
theorem dX8_countFrom_27 : decode cX8_countFrom 27 = .ok (.bipush 8, 2) := by decide +kernel
theorem dX8_countFrom_29 : decode cX8_countFrom 29 = .ok (.if_icmp .lt 27, 3) := by decide +kernel
theorem dX8_countFrom_32 : decode cX8_countFrom 32 = .ok (.aload_n 0, 1) := by decide +kernel
theorem dX8_countFrom_33 : decode cX8_countFrom 33 = .ok (.aload_n 1, 1) := by decide +kernel
theorem dX8_countFrom_34 : decode cX8_countFrom 34 = .ok (.iload_n 3, 1) := by decide +kernel
theorem dX8_countFrom_35 : decode cX8_countFrom 35 = .ok (.invokevirtual 35, 3) := by decide +kernel
theorem dX8_countFrom_38 : decode cX8_countFrom 38 = .ok (.aload_n 0, 1) := by decide +kernel
theorem dX8_countFrom_39 : decode cX8_countFrom 39 = .ok (.aload_n 1, 1) := by decide +kernel
theorem dX8_countFrom_40 : decode cX8_countFrom 40 = .ok (.invokevirtual 48, 3) := by decide +kernel
theorem dX8_countFrom_43 : decode cX8_countFrom 43 = .ok (.ifCond .eq 7, 3) := by decide +kernel
theorem dX8_countFrom_46 : decode cX8_countFrom 46 = .ok (.lconst 1, 1) := by decide +kernel
theorem dX8_countFrom_47 : decode cX8_countFrom 47 = .ok (.goto 4, 3) := by decide +kernel
theorem dX8_countFrom_50 : decode cX8_countFrom 50 = .ok (.lconst 0, 1) := by decide +kernel
theorem dX8_countFrom_51 : decode cX8_countFrom 51 = .ok (.lstore 7, 2) := by decide +kernel
theorem dX8_countFrom_53 : decode cX8_countFrom 53 = .ok (.goto 57, 3) := by decide +kernel
theorem dX8_countFrom_56 : decode cX8_countFrom 56 = .ok (.iconst 0, 1) := by decide +kernel
theorem dX8_countFrom_57 : decode cX8_countFrom 57 = .ok (.istore 9, 2) := by decide +kernel
theorem dX8_countFrom_59 : decode cX8_countFrom 59 = .ok (.iload 9, 2) := by decide +kernel
theorem dX8_countFrom_61 : decode cX8_countFrom 61 = .ok (.iconst 3, 1) := by decide +kernel
theorem dX8_countFrom_62 : decode cX8_countFrom 62 = .ok (.if_icmp .ge 48, 3) := by decide +kernel
theorem dX8_countFrom_65 : decode cX8_countFrom 65 = .ok (.aload_n 0, 1) := by decide +kernel
theorem dX8_countFrom_66 : decode cX8_countFrom 66 = .ok (.aload_n 1, 1) := by decide +kernel
theorem dX8_countFrom_67 : decode cX8_countFrom 67 = .ok (.iload 9, 2) := by decide +kernel
theorem dX8_countFrom_69 : decode cX8_countFrom 69 = .ok (.invokevirtual 31, 3) := by decide +kernel
theorem dX8_countFrom_72 : decode cX8_countFrom 72 = .ok (.lload 7, 2) := by decide +kernel
theorem dX8_countFrom_74 : decode cX8_countFrom 74 = .ok (.aload_n 0, 1) := by decide +kernel
theorem dX8_countFrom_75 : decode cX8_countFrom 75 = .ok (.aload_n 1, 1) := by decide +kernel
theorem dX8_countFrom_76 : decode cX8_countFrom 76 = .ok (.iload_n 2, 1) := by decide +kernel
theorem dX8_countFrom_77 : decode cX8_countFrom 77 = .ok (.iconst 1, 1) := by decide +kernel
theorem dX8_countFrom_78 : decode cX8_countFrom 78 = .ok (.iadd, 1) := by decide +kernel
theorem dX8_countFrom_79 : decode cX8_countFrom 79 = .ok (.iload_n 3, 1) := by decide +kernel
theorem dX8_countFrom_80 : decode cX8_countFrom 80 = .ok (.invokevirtual 44, 3) := by decide +kernel
theorem dX8_countFrom_83 : decode cX8_countFrom 83 = .ok (.ladd, 1) := by decide +kernel
theorem dX8_countFrom_84 : decode cX8_countFrom 84 = .ok (.lstore 7, 2) := by decide +kernel
theorem dX8_countFrom_86 : decode cX8_countFrom 86 = .ok (.aload_n 0, 1) := by decide +kernel
theorem dX8_countFrom_87 : decode cX8_countFrom 87 = .ok (.iload 4, 2) := by decide +kernel
theorem dX8_countFrom_89 : decode cX8_countFrom 89 = .ok (.putfield 9, 3) := by decide +kernel
theorem dX8_countFrom_92 : decode cX8_countFrom 92 = .ok (.aload_n 0, 1) := by decide +kernel
theorem dX8_countFrom_93 : decode cX8_countFrom 93 = .ok (.iload 5, 2) := by decide +kernel
theorem dX8_countFrom_95 : decode cX8_countFrom 95 = .ok (.putfield 15, 3) := by decide +kernel
theorem dX8_countFrom_98 : decode cX8_countFrom 98 = .ok (.aload_n 0, 1) := by decide +kernel
theorem dX8_countFrom_99 : decode cX8_countFrom 99 = .ok (.iload 6, 2) := by decide +kernel
theorem dX8_countFrom_101 : decode cX8_countFrom 101 = .ok (.putfield 18, 3) := by decide +kernel
theorem dX8_countFrom_104 : decode cX8_countFrom 104 = .ok (.iinc 9 1, 3) := by decide +kernel
theorem dX8_countFrom_107 : decode cX8_countFrom 107 = .ok (.goto (-48), 3) := by decide +kernel
theorem dX8_countFrom_110 : decode cX8_countFrom 110 = .ok (.lload 7, 2) := by decide +kernel
theorem dX8_countFrom_112 : decode cX8_countFrom 112 = .ok (.lreturn, 1) := by decide +kernel
theorem dX8_begin_0 : decode cX8_begin 0 = .ok (.aload_n 0, 1) := by decide +kernel
theorem dX8_begin_1 : decode cX8_begin 1 = .ok (.iconst 1, 1) := by decide +kernel
theorem dX8_begin_2 : decode cX8_begin 2 = .ok (.putfield 9, 3) := by decide +kernel
theorem dX8_begin_5 : decode cX8_begin 5 = .ok (.aload_n 0, 1) := by decide +kernel
theorem dX8_begin_6 : decode cX8_begin 6 = .ok (.iconst 0, 1) := by decide +kernel
theorem dX8_begin_7 : decode cX8_begin 7 = .ok (.putfield 15, 3) := by decide +kernel
theorem dX8_begin_10 : decode cX8_begin 10 = .ok (.aload_n 0, 1) := by decide +kernel
theorem dX8_begin_11 : decode cX8_begin 11 = .ok (.iconst 0, 1) := by decide +kernel
theorem dX8_begin_12 : decode cX8_begin 12 = .ok (.putfield 18, 3) := by decide +kernel
theorem dX8_begin_15 : decode cX8_begin 15 = .ok (.aload_n 0, 1) := by decide +kernel
theorem dX8_begin_16 : decode cX8_begin 16 = .ok (.iconst 0, 1) := by decide +kernel
theorem dX8_begin_17 : decode cX8_begin 17 = .ok (.putfield 21, 3) := by decide +kernel
theorem dX8_begin_20 : decode cX8_begin 20 = .ok (.aload_n 0, 1) := by decide +kernel
theorem dX8_begin_21 : decode cX8_begin 21 = .ok (.iconst 0, 1) := by decide +kernel
theorem dX8_begin_22 : decode cX8_begin 22 = .ok (.putfield 24, 3) := by decide +kernel
theorem dX8_begin_25 : decode cX8_begin 25 = .ok (.return_, 1) := by decide +kernel
set_option maxRecDepth 20000 in
theorem ggX8_meet_X0_step : GoodIn wsX8_meet wsX0_step := goodIn_ca (goodIn_r _ [10, 11, 12, 13, 14, 20, 21, 22] (by decide +kernel) (by decide +kernel)) (goodIn_sub (fun _ h => List.mem_cons_of_mem _ (List.mem_append_right _ h)) (by decide +kernel))
set_option maxRecDepth 20000 in
theorem gX8_meet_X0_step : GoodIn wsX8_meet (wsV RX8 52 RX0 yX0_step wsX0_step) := goodIn_app (goodIn_of _ (by decide +kernel)) ggX8_meet_X0_step
theorem dX8_meet_0 : decode cX8_meet 0 = .ok (.aload_n 1, 1) := by decide +kernel
theorem dX8_meet_1 : decode cX8_meet 1 = .ok (.iload_n 2, 1) := by decide +kernel
theorem dX8_meet_2 : decode cX8_meet 2 = .ok (.aload_n 0, 1) := by decide +kernel
theorem dX8_meet_3 : decode cX8_meet 3 = .ok (.getfield 9, 3) := by decide +kernel
theorem dX8_meet_6 : decode cX8_meet 6 = .ok (.invokevirtual 52, 3) := by decide +kernel
theorem dX8_meet_9 : decode cX8_meet 9 = .ok (.istore_n 3, 1) := by decide +kernel
theorem dX8_meet_10 : decode cX8_meet 10 = .ok (.iload_n 3, 1) := by decide +kernel
theorem dX8_meet_11 : decode cX8_meet 11 = .ok (.ifCond .ne 36, 3) := by decide +kernel
theorem dX8_meet_14 : decode cX8_meet 14 = .ok (.aload_n 0, 1) := by decide +kernel
theorem dX8_meet_15 : decode cX8_meet 15 = .ok (.dup, 1) := by decide +kernel
theorem dX8_meet_16 : decode cX8_meet 16 = .ok (.getfield 15, 3) := by decide +kernel
theorem dX8_meet_19 : decode cX8_meet 19 = .ok (.iload_n 2, 1) := by decide +kernel
theorem dX8_meet_20 : decode cX8_meet 20 = .ok (.iconst 2, 1) := by decide +kernel
theorem dX8_meet_21 : decode cX8_meet 21 = .ok (.aload_n 0, 1) := by decide +kernel
theorem dX8_meet_22 : decode cX8_meet 22 = .ok (.getfield 18, 3) := by decide +kernel
theorem dX8_meet_25 : decode cX8_meet 25 = .ok (.imul, 1) := by decide +kernel
theorem dX8_meet_26 : decode cX8_meet 26 = .ok (.ishl, 1) := by decide +kernel
theorem dX8_meet_27 : decode cX8_meet 27 = .ok (.ior, 1) := by decide +kernel
theorem dX8_meet_28 : decode cX8_meet 28 = .ok (.putfield 15, 3) := by decide +kernel
theorem dX8_meet_31 : decode cX8_meet 31 = .ok (.aload_n 0, 1) := by decide +kernel
theorem dX8_meet_32 : decode cX8_meet 32 = .ok (.dup, 1) := by decide +kernel
theorem dX8_meet_33 : decode cX8_meet 33 = .ok (.getfield 18, 3) := by decide +kernel
theorem dX8_meet_36 : decode cX8_meet 36 = .ok (.iconst 1, 1) := by decide +kernel
theorem dX8_meet_37 : decode cX8_meet 37 = .ok (.iadd, 1) := by decide +kernel
theorem dX8_meet_38 : decode cX8_meet 38 = .ok (.putfield 18, 3) := by decide +kernel
theorem dX8_meet_41 : decode cX8_meet 41 = .ok (.aload_n 0, 1) := by decide +kernel
theorem dX8_meet_42 : decode cX8_meet 42 = .ok (.iconst 1, 1) := by decide +kernel
theorem dX8_meet_43 : decode cX8_meet 43 = .ok (.putfield 24, 3) := by decide +kernel
theorem dX8_meet_46 : decode cX8_meet 46 = .ok (.return_, 1) := by decide +kernel
theorem dX8_meet_47 : decode cX8_meet 47 = .ok (.aload_n 0, 1) := by decide +kernel
theorem dX8_meet_48 : decode cX8_meet 48 = .ok (.dup, 1) := by decide +kernel
theorem dX8_meet_49 : decode cX8_meet 49 = .ok (.getfield 21, 3) := by decide +kernel
theorem dX8_meet_52 : decode cX8_meet 52 = .ok (.aload_n 0, 1) := by decide +kernel
theorem dX8_meet_53 : decode cX8_meet 53 = .ok (.getfield 24, 3) := by decide +kernel
theorem dX8_meet_56 : decode cX8_meet 56 = .ok (.ifCond .eq 7, 3) := by decide +kernel
theorem dX8_meet_59 : decode cX8_meet 59 = .ok (.iconst 1, 1) := by decide +kernel
theorem dX8_meet_60 : decode cX8_meet 60 = .ok (.goto 4, 3) := by decide +kernel
theorem dX8_meet_63 : decode cX8_meet 63 = .ok (.iconst 0, 1) := by decide +kernel
theorem dX8_meet_64 : decode cX8_meet 64 = .ok (.iadd, 1) := by decide +kernel
theorem dX8_meet_65 : decode cX8_meet 65 = .ok (.putfield 21, 3) := by decide +kernel
theorem dX8_meet_68 : decode cX8_meet 68 = .ok (.aload_n 0, 1) := by decide +kernel
theorem dX8_meet_69 : decode cX8_meet 69 = .ok (.iconst 0, 1) := by decide +kernel
theorem dX8_meet_70 : decode cX8_meet 70 = .ok (.putfield 24, 3) := by decide +kernel
theorem dX8_meet_73 : decode cX8_meet 73 = .ok (.aload_n 0, 1) := by decide +kernel
theorem dX8_meet_74 : decode cX8_meet 74 = .ok (.iload_n 3, 1) := by decide +kernel
theorem dX8_meet_75 : decode cX8_meet 75 = .ok (.putfield 9, 3) := by decide +kernel
theorem dX8_meet_78 : decode cX8_meet 78 = .ok (.return_, 1) := by decide +kernel
set_option maxRecDepth 20000 in
theorem ggX8_finish_X8_meet : GoodIn wsX8_finish wsX8_meet := goodIn_ca (goodIn_r _ [7, 8, 2, 1, 9, 10, 11, 12, 13, 14, 15, 16, 17, 18, 19, 20, 21, 22, 23, 24, 25, 26, 27] (by decide +kernel) (by decide +kernel)) (goodIn_sub (fun _ h => List.mem_cons_of_mem _ (List.mem_append_right _ h)) (by decide +kernel))
set_option maxRecDepth 20000 in
theorem gX8_finish_X8_meet : GoodIn wsX8_finish (wsV RX8 31 RX8 yX8_meet wsX8_meet) := goodIn_app (goodIn_of _ (by decide +kernel)) ggX8_finish_X8_meet
theorem dX8_finish_0 : decode cX8_finish 0 = .ok (.iload_n 2, 1) := by decide +kernel
theorem dX8_finish_1 : decode cX8_finish 1 = .ok (.istore_n 3, 1) := by decide +kernel
theorem dX8_finish_2 : decode cX8_finish 2 = .ok (.iconst 0, 1) := by decide +kernel
theorem dX8_finish_3 : decode cX8_finish 3 = .ok (.istore 4, 2) := by decide +kernel
theorem dX8_finish_5 : decode cX8_finish 5 = .ok (.iload 4, 2) := by decide +kernel
theorem dX8_finish_7 : decode cX8_finish 7 = .ok (.bipush 8, 2) := by decide +kernel
theorem dX8_finish_9 : decode cX8_finish 9 = .ok (.if_icmp .ge 81, 3) := by decide +kernel
theorem dX8_finish_12 : decode cX8_finish 12 = .ok (.aload_n 0, 1) := by decide +kernel
theorem dX8_finish_13 : decode cX8_finish 13 = .ok (.getfield 18, 3) := by decide +kernel
theorem dX8_finish_16 : decode cX8_finish 16 = .ok (.ifCond .le 74, 3) := by decide +kernel
theorem dX8_finish_19 : decode cX8_finish 19 = .ok (.aload_n 0, 1) := by decide +kernel
theorem dX8_finish_20 : decode cX8_finish 20 = .ok (.getfield 18, 3) := by decide +kernel
theorem dX8_finish_23 : decode cX8_finish 23 = .ok (.iload_n 3, 1) := by decide +kernel
theorem dX8_finish_24 : decode cX8_finish 24 = .ok (.if_icmp .ge 66, 3) := by decide +kernel
theorem dX8_finish_27 : decode cX8_finish 27 = .ok (.aload_n 0, 1) := by decide +kernel
theorem dX8_finish_28 : decode cX8_finish 28 = .ok (.getfield 18, 3) := by decide +kernel
theorem dX8_finish_31 : decode cX8_finish 31 = .ok (.istore_n 3, 1) := by decide +kernel
theorem dX8_finish_32 : decode cX8_finish 32 = .ok (.aload_n 0, 1) := by decide +kernel
theorem dX8_finish_33 : decode cX8_finish 33 = .ok (.getfield 15, 3) := by decide +kernel
theorem dX8_finish_36 : decode cX8_finish 36 = .ok (.istore 5, 2) := by decide +kernel
theorem dX8_finish_38 : decode cX8_finish 38 = .ok (.aload_n 0, 1) := by decide +kernel
theorem dX8_finish_39 : decode cX8_finish 39 = .ok (.iconst 0, 1) := by decide +kernel
theorem dX8_finish_40 : decode cX8_finish 40 = .ok (.putfield 15, 3) := by decide +kernel
theorem dX8_finish_43 : decode cX8_finish 43 = .ok (.aload_n 0, 1) := by decide +kernel
theorem dX8_finish_44 : decode cX8_finish 44 = .ok (.iconst 0, 1) := by decide +kernel
theorem dX8_finish_45 : decode cX8_finish 45 = .ok (.putfield 18, 3) := by decide +kernel
theorem dX8_finish_48 : decode cX8_finish 48 = .ok (.iconst 0, 1) := by decide +kernel
theorem dX8_finish_49 : decode cX8_finish 49 = .ok (.istore 6, 2) := by decide +kernel
theorem dX8_finish_51 : decode cX8_finish 51 = .ok (.iload 6, 2) := by decide +kernel
theorem dX8_finish_53 : decode cX8_finish 53 = .ok (.iload_n 3, 1) := by decide +kernel
theorem dX8_finish_54 : decode cX8_finish 54 = .ok (.if_icmp .ge 30, 3) := by decide +kernel
theorem dX8_finish_57 : decode cX8_finish 57 = .ok (.iload 6, 2) := by decide +kernel
theorem dX8_finish_59 : decode cX8_finish 59 = .ok (.bipush 8, 2) := by decide +kernel
theorem dX8_finish_61 : decode cX8_finish 61 = .ok (.if_icmp .ge 23, 3) := by decide +kernel
theorem dX8_finish_64 : decode cX8_finish 64 = .ok (.aload_n 0, 1) := by decide +kernel
theorem dX8_finish_65 : decode cX8_finish 65 = .ok (.aload_n 1, 1) := by decide +kernel
theorem dX8_finish_66 : decode cX8_finish 66 = .ok (.iload 5, 2) := by decide +kernel
theorem dX8_finish_68 : decode cX8_finish 68 = .ok (.iconst 2, 1) := by decide +kernel
theorem dX8_finish_69 : decode cX8_finish 69 = .ok (.iload 6, 2) := by decide +kernel
theorem dX8_finish_71 : decode cX8_finish 71 = .ok (.imul, 1) := by decide +kernel
theorem dX8_finish_72 : decode cX8_finish 72 = .ok (.ishr, 1) := by decide +kernel
theorem dX8_finish_73 : decode cX8_finish 73 = .ok (.iconst 3, 1) := by decide +kernel
theorem dX8_finish_74 : decode cX8_finish 74 = .ok (.iand, 1) := by decide +kernel
theorem dX8_finish_75 : decode cX8_finish 75 = .ok (.invokevirtual 31, 3) := by decide +kernel
theorem dX8_finish_78 : decode cX8_finish 78 = .ok (.iinc 6 1, 3) := by decide +kernel
theorem dX8_finish_81 : decode cX8_finish 81 = .ok (.goto (-30), 3) := by decide +kernel
theorem dX8_finish_84 : decode cX8_finish 84 = .ok (.iinc 4 1, 3) := by decide +kernel
theorem dX8_finish_87 : decode cX8_finish 87 = .ok (.goto (-82), 3) := by decide +kernel
theorem dX8_finish_90 : decode cX8_finish 90 = .ok (.return_, 1) := by decide +kernel
