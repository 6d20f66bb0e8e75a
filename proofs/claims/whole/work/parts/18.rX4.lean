theorem dX4_init_0 : decode cX4_init 0 = .ok (.aload_n 0, 1) := by decide +kernel
theorem dX4_init_1 : decode cX4_init 1 = .ok (.invokespecial 1, 3) := by decide +kernel
theorem dX4_init_4 : decode cX4_init 4 = .ok (.aload_n 0, 1) := by decide +kernel
theorem dX4_init_5 : decode cX4_init 5 = .ok (.bipush 56, 2) := by decide +kernel
theorem dX4_init_7 : decode cX4_init 7 = .ok (.newarray .int, 2) := by decide +kernel
theorem dX4_init_9 : decode cX4_init 9 = .ok (.putfield 9, 3) := by decide +kernel
theorem dX4_init_12 : decode cX4_init 12 = .ok (.aload_n 0, 1) := by decide +kernel
theorem dX4_init_13 : decode cX4_init 13 = .ok (.iconst 0, 1) := by decide +kernel
theorem dX4_init_14 : decode cX4_init 14 = .ok (.putfield 13, 3) := by decide +kernel
theorem dX4_init_17 : decode cX4_init 17 = .ok (.return_, 1) := by decide +kernel
theorem dX4_clear_0 : decode cX4_clear 0 = .ok (.aload_n 0, 1) := by decide +kernel
theorem dX4_clear_1 : decode cX4_clear 1 = .ok (.iconst 0, 1) := by decide +kernel
theorem dX4_clear_2 : decode cX4_clear 2 = .ok (.putfield 13, 3) := by decide +kernel
theorem dX4_clear_5 : decode cX4_clear 5 = .ok (.return_, 1) := by decide +kernel
theorem dX4_at_0 : decode cX4_at 0 = .ok (.iload_n 1, 1) := by decide +kernel
theorem dX4_at_1 : decode cX4_at 1 = .ok (.ifCond .lt 26, 3) := by decide +kernel
theorem dX4_at_4 : decode cX4_at 4 = .ok (.iload_n 1, 1) := by decide +kernel
theorem dX4_at_5 : decode cX4_at 5 = .ok (.aload_n 0, 1) := by decide +kernel
theorem dX4_at_6 : decode cX4_at 6 = .ok (.getfield 13, 3) := by decide +kernel
theorem dX4_at_9 : decode cX4_at 9 = .ok (.if_icmp .ge 18, 3) := by decide +kernel
theorem dX4_at_12 : decode cX4_at 12 = .ok (.iload_n 1, 1) := by decide +kernel
theorem dX4_at_13 : decode cX4_at 13 = .ok (.bipush 56, 2) := by decide +kernel
theorem dX4_at_15 : decode cX4_at 15 = .ok (.if_icmp .ge 12, 3) := by decide +kernel
theorem dX4_at_18 : decode cX4_at 18 = .ok (.aload_n 0, 1) := by decide +kernel
theorem dX4_at_19 : decode cX4_at 19 = .ok (.getfield 9, 3) := by decide +kernel
theorem dX4_at_22 : decode cX4_at 22 = .ok (.iload_n 1, 1) := by decide +kernel
theorem dX4_at_23 : decode cX4_at 23 = .ok (.iaload, 1) := by decide +kernel
theorem dX4_at_24 : decode cX4_at 24 = .ok (.goto 4, 3) := by decide +kernel
theorem dX4_at_27 : decode cX4_at 27 = .ok (.iconst (-1), 1) := by decide +kernel
theorem dX4_at_28 : decode cX4_at 28 = .ok (.ireturn, 1) := by decide +kernel
theorem dX4_holds_0 : decode cX4_holds 0 = .ok (.iconst 0, 1) := by decide +kernel
theorem dX4_holds_1 : decode cX4_holds 1 = .ok (.istore_n 2, 1) := by decide +kernel
theorem dX4_holds_2 : decode cX4_holds 2 = .ok (.iload_n 2, 1) := by decide +kernel
theorem dX4_holds_3 : decode cX4_holds 3 = .ok (.aload_n 0, 1) := by decide +kernel
theorem dX4_holds_4 : decode cX4_holds 4 = .ok (.getfield 13, 3) := by decide +kernel
theorem dX4_holds_7 : decode cX4_holds 7 = .ok (.if_icmp .ge 27, 3) := by decide +kernel
theorem dX4_holds_10 : decode cX4_holds 10 = .ok (.iload_n 2, 1) := by decide +kernel
theorem dX4_holds_11 : decode cX4_holds 11 = .ok (.bipush 56, 2) := by decide +kernel
theorem dX4_holds_13 : decode cX4_holds 13 = .ok (.if_icmp .ge 21, 3) := by decide +kernel
theorem dX4_holds_16 : decode cX4_holds 16 = .ok (.aload_n 0, 1) := by decide +kernel
theorem dX4_holds_17 : decode cX4_holds 17 = .ok (.getfield 9, 3) := by decide +kernel
theorem dX4_holds_20 : decode cX4_holds 20 = .ok (.iload_n 2, 1) := by decide +kernel
theorem dX4_holds_21 : decode cX4_holds 21 = .ok (.iaload, 1) := by decide +kernel
theorem dX4_holds_22 : decode cX4_holds 22 = .ok (.iload_n 1, 1) := by decide +kernel
theorem dX4_holds_23 : decode cX4_holds 23 = .ok (.if_icmp .ne 5, 3) := by decide +kernel
theorem dX4_holds_26 : decode cX4_holds 26 = .ok (.iconst 1, 1) := by decide +kernel
theorem dX4_holds_27 : decode cX4_holds 27 = .ok (.ireturn, 1) := by decide +kernel
theorem dX4_holds_28 : decode cX4_holds 28 = .ok (.iinc 2 1, 3) := by decide +kernel
theorem dX4_holds_31 : decode cX4_holds 31 = .ok (.goto (-29), 3) := by decide +kernel
theorem dX4_holds_34 : decode cX4_holds 34 = .ok (.iconst 0, 1) := by decide +kernel
theorem dX4_holds_35 : decode cX4_holds 35 = .ok (.ireturn, 1) := by decide +kernel
set_option maxRecDepth 20000 in
theorem ggX4_insert_X4_holds : GoodIn wsX4_insert wsX4_holds := goodIn_ca (goodIn_r _ [7, 1, 2, 8, 9] (by decide +kernel) (by decide +kernel)) (goodIn_sub (fun _ h => List.mem_cons_of_mem _ (List.mem_append_right _ h)) (by decide +kernel))
set_option maxRecDepth 20000 in
theorem gX4_insert_X4_holds : GoodIn wsX4_insert (wsV RX4 17 RX4 yX4_holds wsX4_holds) := goodIn_app (goodIn_of _ (by decide +kernel)) ggX4_insert_X4_holds
theorem dX4_insert_0 : decode cX4_insert 0 = .ok (.aload_n 0, 1) := by decide +kernel
theorem dX4_insert_1 : decode cX4_insert 1 = .ok (.iload_n 1, 1) := by decide +kernel
theorem dX4_insert_2 : decode cX4_insert 2 = .ok (.invokevirtual 17, 3) := by decide +kernel
theorem dX4_insert_5 : decode cX4_insert 5 = .ok (.ifCond .ne 19, 3) := by decide +kernel
theorem dX4_insert_8 : decode cX4_insert 8 = .ok (.aload_n 0, 1) := by decide +kernel
theorem dX4_insert_9 : decode cX4_insert 9 = .ok (.getfield 13, 3) := by decide +kernel
theorem dX4_insert_12 : decode cX4_insert 12 = .ok (.ifCond .lt 12, 3) := by decide +kernel
theorem dX4_insert_15 : decode cX4_insert 15 = .ok (.aload_n 0, 1) := by decide +kernel
theorem dX4_insert_16 : decode cX4_insert 16 = .ok (.getfield 13, 3) := by decide +kernel
theorem dX4_insert_19 : decode cX4_insert 19 = .ok (.bipush 56, 2) := by decide +kernel
theorem dX4_insert_21 : decode cX4_insert 21 = .ok (.if_icmp .lt 4, 3) := by decide +kernel
theorem dX4_insert_24 : decode cX4_insert 24 = .ok (.return_, 1) := by decide +kernel
theorem dX4_insert_25 : decode cX4_insert 25 = .ok (.aload_n 0, 1) := by decide +kernel
theorem dX4_insert_26 : decode cX4_insert 26 = .ok (.getfield 13, 3) := by decide +kernel
theorem dX4_insert_29 : decode cX4_insert 29 = .ok (.istore_n 2, 1) := by decide +kernel
theorem dX4_insert_30 : decode cX4_insert 30 = .ok (.iload_n 2, 1) := by decide +kernel
theorem dX4_insert_31 : decode cX4_insert 31 = .ok (.ifCond .le 35, 3) := by decide +kernel
theorem dX4_insert_34 : decode cX4_insert 34 = .ok (.aload_n 0, 1) := by decide +kernel
theorem dX4_insert_35 : decode cX4_insert 35 = .ok (.getfield 9, 3) := by decide +kernel
theorem dX4_insert_38 : decode cX4_insert 38 = .ok (.iload_n 2, 1) := by decide +kernel
theorem dX4_insert_39 : decode cX4_insert 39 = .ok (.iconst 1, 1) := by decide +kernel
theorem dX4_insert_40 : decode cX4_insert 40 = .ok (.isub, 1) := by decide +kernel
theorem dX4_insert_41 : decode cX4_insert 41 = .ok (.iaload, 1) := by decide +kernel
theorem dX4_insert_42 : decode cX4_insert 42 = .ok (.iload_n 1, 1) := by decide +kernel
theorem dX4_insert_43 : decode cX4_insert 43 = .ok (.if_icmp .le 23, 3) := by decide +kernel
theorem dX4_insert_46 : decode cX4_insert 46 = .ok (.aload_n 0, 1) := by decide +kernel
theorem dX4_insert_47 : decode cX4_insert 47 = .ok (.getfield 9, 3) := by decide +kernel
theorem dX4_insert_50 : decode cX4_insert 50 = .ok (.iload_n 2, 1) := by decide +kernel
theorem dX4_insert_51 : decode cX4_insert 51 = .ok (.aload_n 0, 1) := by decide +kernel
theorem dX4_insert_52 : decode cX4_insert 52 = .ok (.getfield 9, 3) := by decide +kernel
theorem dX4_insert_55 : decode cX4_insert 55 = .ok (.iload_n 2, 1) := by decide +kernel
theorem dX4_insert_56 : decode cX4_insert 56 = .ok (.iconst 1, 1) := by decide +kernel
theorem dX4_insert_57 : decode cX4_insert 57 = .ok (.isub, 1) := by decide +kernel
theorem dX4_insert_58 : decode cX4_insert 58 = .ok (.iaload, 1) := by decide +kernel
theorem dX4_insert_59 : decode cX4_insert 59 = .ok (.iastore, 1) := by decide +kernel
theorem dX4_insert_60 : decode cX4_insert 60 = .ok (.iinc 2 (-1), 3) := by decide +kernel
theorem dX4_insert_63 : decode cX4_insert 63 = .ok (.goto (-33), 3) := by decide +kernel
theorem dX4_insert_66 : decode cX4_insert 66 = .ok (.aload_n 0, 1) := by decide +kernel
theorem dX4_insert_67 : decode cX4_insert 67 = .ok (.getfield 9, 3) := by decide +kernel
theorem dX4_insert_70 : decode cX4_insert 70 = .ok (.iload_n 2, 1) := by decide +kernel
theorem dX4_insert_71 : decode cX4_insert 71 = .ok (.iload_n 1, 1) := by decide +kernel
theorem dX4_insert_72 : decode cX4_insert 72 = .ok (.iastore, 1) := by decide +kernel
theorem dX4_insert_73 : decode cX4_insert 73 = .ok (.aload_n 0, 1) := by decide +kernel
theorem dX4_insert_74 : decode cX4_insert 74 = .ok (.dup, 1) := by decide +kernel
theorem dX4_insert_75 : decode cX4_insert 75 = .ok (.getfield 13, 3) := by decide +kernel
theorem dX4_insert_78 : decode cX4_insert 78 = .ok (.iconst 1, 1) := by decide +kernel
theorem dX4_insert_79 : decode cX4_insert 79 = .ok (.iadd, 1) := by decide +kernel
theorem dX4_insert_80 : decode cX4_insert 80 = .ok (.putfield 13, 3) := by decide +kernel
theorem dX4_insert_83 : decode cX4_insert 83 = .ok (.return_, 1) := by decide +kernel
set_option maxRecDepth 20000 in
theorem ggX4_hasBelow_X10_firstOf : GoodIn wsX4_hasBelow wsX10_firstOf := goodIn_r _ [5] (by decide +kernel) (by decide +kernel)
set_option maxRecDepth 20000 in
theorem gX4_hasBelow_X10_firstOf_n21 : GoodIn wsX4_hasBelow (wsX10_firstOf) := ggX4_hasBelow_X10_firstOf
set_option maxRecDepth 20000 in
theorem ggX4_hasBelow_X10_secondOf : GoodIn wsX4_hasBelow wsX10_secondOf := goodIn_r _ [7] (by decide +kernel) (by decide +kernel)
set_option maxRecDepth 20000 in
theorem gX4_hasBelow_X10_secondOf_n27 : GoodIn wsX4_hasBelow (wsX10_secondOf) := ggX4_hasBelow_X10_secondOf
set_option maxRecDepth 20000 in
theorem ggX4_hasBelow_X10_thirdOf : GoodIn wsX4_hasBelow wsX10_thirdOf := goodIn_r _ [9] (by decide +kernel) (by decide +kernel)
set_option maxRecDepth 20000 in
theorem gX4_hasBelow_X10_thirdOf_n30 : GoodIn wsX4_hasBelow (wsX10_thirdOf) := ggX4_hasBelow_X10_thirdOf
theorem dX4_hasBelow_0 : decode cX4_hasBelow 0 = .ok (.iconst 0, 1) := by decide +kernel
theorem dX4_hasBelow_1 : decode cX4_hasBelow 1 = .ok (.istore_n 2, 1) := by decide +kernel
theorem dX4_hasBelow_2 : decode cX4_hasBelow 2 = .ok (.iload_n 2, 1) := by decide +kernel
theorem dX4_hasBelow_3 : decode cX4_hasBelow 3 = .ok (.aload_n 0, 1) := by decide +kernel
theorem dX4_hasBelow_4 : decode cX4_hasBelow 4 = .ok (.getfield 13, 3) := by decide +kernel
theorem dX4_hasBelow_7 : decode cX4_hasBelow 7 = .ok (.if_icmp .ge 65, 3) := by decide +kernel
theorem dX4_hasBelow_10 : decode cX4_hasBelow 10 = .ok (.iload_n 2, 1) := by decide +kernel
theorem dX4_hasBelow_11 : decode cX4_hasBelow 11 = .ok (.bipush 56, 2) := by decide +kernel
theorem dX4_hasBelow_13 : decode cX4_hasBelow 13 = .ok (.if_icmp .ge 59, 3) := by decide +kernel
theorem dX4_hasBelow_16 : decode cX4_hasBelow 16 = .ok (.aload_n 0, 1) := by decide +kernel
theorem dX4_hasBelow_17 : decode cX4_hasBelow 17 = .ok (.getfield 9, 3) := by decide +kernel
theorem dX4_hasBelow_20 : decode cX4_hasBelow 20 = .ok (.iload_n 2, 1) := by decide +kernel
theorem dX4_hasBelow_21 : decode cX4_hasBelow 21 = .ok (.iaload, 1) := by decide +kernel
theorem dX4_hasBelow_22 : decode cX4_hasBelow 22 = .ok (.invokestatic 21, 3) := by decide +kernel
theorem dX4_hasBelow_25 : decode cX4_hasBelow 25 = .ok (.iload_n 1, 1) := by decide +kernel
theorem dX4_hasBelow_26 : decode cX4_hasBelow 26 = .ok (.invokestatic 21, 3) := by decide +kernel
theorem dX4_hasBelow_29 : decode cX4_hasBelow 29 = .ok (.if_icmp .gt 37, 3) := by decide +kernel
theorem dX4_hasBelow_32 : decode cX4_hasBelow 32 = .ok (.aload_n 0, 1) := by decide +kernel
theorem dX4_hasBelow_33 : decode cX4_hasBelow 33 = .ok (.getfield 9, 3) := by decide +kernel
theorem dX4_hasBelow_36 : decode cX4_hasBelow 36 = .ok (.iload_n 2, 1) := by decide +kernel
theorem dX4_hasBelow_37 : decode cX4_hasBelow 37 = .ok (.iaload, 1) := by decide +kernel
theorem dX4_hasBelow_38 : decode cX4_hasBelow 38 = .ok (.invokestatic 27, 3) := by decide +kernel
theorem dX4_hasBelow_41 : decode cX4_hasBelow 41 = .ok (.iload_n 1, 1) := by decide +kernel
theorem dX4_hasBelow_42 : decode cX4_hasBelow 42 = .ok (.invokestatic 27, 3) := by decide +kernel
theorem dX4_hasBelow_45 : decode cX4_hasBelow 45 = .ok (.if_icmp .gt 21, 3) := by decide +kernel
theorem dX4_hasBelow_48 : decode cX4_hasBelow 48 = .ok (.aload_n 0, 1) := by decide +kernel
theorem dX4_hasBelow_49 : decode cX4_hasBelow 49 = .ok (.getfield 9, 3) := by decide +kernel
theorem dX4_hasBelow_52 : decode cX4_hasBelow 52 = .ok (.iload_n 2, 1) := by decide +kernel
theorem dX4_hasBelow_53 : decode cX4_hasBelow 53 = .ok (.iaload, 1) := by decide +kernel
theorem dX4_hasBelow_54 : decode cX4_hasBelow 54 = .ok (.invokestatic 30, 3) := by decide +kernel
theorem dX4_hasBelow_57 : decode cX4_hasBelow 57 = .ok (.iload_n 1, 1) := by decide +kernel
theorem dX4_hasBelow_58 : decode cX4_hasBelow 58 = .ok (.invokestatic 30, 3) := by decide +kernel
theorem dX4_hasBelow_61 : decode cX4_hasBelow 61 = .ok (.if_icmp .gt 5, 3) := by decide +kernel
theorem dX4_hasBelow_64 : decode cX4_hasBelow 64 = .ok (.iconst 1, 1) := by decide +kernel
theorem dX4_hasBelow_65 : decode cX4_hasBelow 65 = .ok (.ireturn, 1) := by decide +kernel
theorem dX4_hasBelow_66 : decode cX4_hasBelow 66 = .ok (.iinc 2 1, 3) := by decide +kernel
theorem dX4_hasBelow_69 : decode cX4_hasBelow 69 = .ok (.goto (-67), 3) := by decide +kernel
theorem dX4_hasBelow_72 : decode cX4_hasBelow 72 = .ok (.iconst 0, 1) := by decide +kernel
theorem dX4_hasBelow_73 : decode cX4_hasBelow 73 = .ok (.ireturn, 1) := by decide +kernel
set_option maxRecDepth 20000 in
theorem ggX4_sumOfNumbers_X10_firstOf : GoodIn wsX4_sumOfNumbers wsX10_firstOf := goodIn_r _ [5] (by decide +kernel) (by decide +kernel)
set_option maxRecDepth 20000 in
theorem gX4_sumOfNumbers_X10_firstOf_n21 : GoodIn wsX4_sumOfNumbers (wsX10_firstOf) := ggX4_sumOfNumbers_X10_firstOf
set_option maxRecDepth 20000 in
theorem ggX4_sumOfNumbers_X10_secondOf : GoodIn wsX4_sumOfNumbers wsX10_secondOf := goodIn_r _ [7] (by decide +kernel) (by decide +kernel)
set_option maxRecDepth 20000 in
theorem gX4_sumOfNumbers_X10_secondOf_n27 : GoodIn wsX4_sumOfNumbers (wsX10_secondOf) := ggX4_sumOfNumbers_X10_secondOf
set_option maxRecDepth 20000 in
theorem ggX4_sumOfNumbers_X10_thirdOf : GoodIn wsX4_sumOfNumbers wsX10_thirdOf := goodIn_r _ [9] (by decide +kernel) (by decide +kernel)
set_option maxRecDepth 20000 in
theorem gX4_sumOfNumbers_X10_thirdOf_n30 : GoodIn wsX4_sumOfNumbers (wsX10_thirdOf) := ggX4_sumOfNumbers_X10_thirdOf
theorem dX4_sumOfNumbers_0 : decode cX4_sumOfNumbers 0 = .ok (.iconst 0, 1) := by decide +kernel
theorem dX4_sumOfNumbers_1 : decode cX4_sumOfNumbers 1 = .ok (.istore_n 1, 1) := by decide +kernel
theorem dX4_sumOfNumbers_2 : decode cX4_sumOfNumbers 2 = .ok (.iconst 0, 1) := by decide +kernel
theorem dX4_sumOfNumbers_3 : decode cX4_sumOfNumbers 3 = .ok (.istore_n 2, 1) := by decide +kernel
theorem dX4_sumOfNumbers_4 : decode cX4_sumOfNumbers 4 = .ok (.iload_n 2, 1) := by decide +kernel
theorem dX4_sumOfNumbers_5 : decode cX4_sumOfNumbers 5 = .ok (.aload_n 0, 1) := by decide +kernel
theorem dX4_sumOfNumbers_6 : decode cX4_sumOfNumbers 6 = .ok (.getfield 13, 3) := by decide +kernel
theorem dX4_sumOfNumbers_9 : decode cX4_sumOfNumbers 9 = .ok (.if_icmp .ge 47, 3) := by decide +kernel
theorem dX4_sumOfNumbers_12 : decode cX4_sumOfNumbers 12 = .ok (.iload_n 2, 1) := by decide +kernel
theorem dX4_sumOfNumbers_13 : decode cX4_sumOfNumbers 13 = .ok (.bipush 56, 2) := by decide +kernel
theorem dX4_sumOfNumbers_15 : decode cX4_sumOfNumbers 15 = .ok (.if_icmp .ge 41, 3) := by decide +kernel
theorem dX4_sumOfNumbers_18 : decode cX4_sumOfNumbers 18 = .ok (.iload_n 1, 1) := by decide +kernel
theorem dX4_sumOfNumbers_19 : decode cX4_sumOfNumbers 19 = .ok (.aload_n 0, 1) := by decide +kernel
theorem dX4_sumOfNumbers_20 : decode cX4_sumOfNumbers 20 = .ok (.getfield 9, 3) := by decide +kernel
theorem dX4_sumOfNumbers_23 : decode cX4_sumOfNumbers 23 = .ok (.iload_n 2, 1) := by decide +kernel
theorem dX4_sumOfNumbers_24 : decode cX4_sumOfNumbers 24 = .ok (.iaload, 1) := by decide +kernel
theorem dX4_sumOfNumbers_25 : decode cX4_sumOfNumbers 25 = .ok (.invokestatic 21, 3) := by decide +kernel
theorem dX4_sumOfNumbers_28 : decode cX4_sumOfNumbers 28 = .ok (.aload_n 0, 1) := by decide +kernel
theorem dX4_sumOfNumbers_29 : decode cX4_sumOfNumbers 29 = .ok (.getfield 9, 3) := by decide +kernel
theorem dX4_sumOfNumbers_32 : decode cX4_sumOfNumbers 32 = .ok (.iload_n 2, 1) := by decide +kernel
theorem dX4_sumOfNumbers_33 : decode cX4_sumOfNumbers 33 = .ok (.iaload, 1) := by decide +kernel
theorem dX4_sumOfNumbers_34 : decode cX4_sumOfNumbers 34 = .ok (.invokestatic 27, 3) := by decide +kernel
theorem dX4_sumOfNumbers_37 : decode cX4_sumOfNumbers 37 = .ok (.iadd, 1) := by decide +kernel
theorem dX4_sumOfNumbers_38 : decode cX4_sumOfNumbers 38 = .ok (.aload_n 0, 1) := by decide +kernel
theorem dX4_sumOfNumbers_39 : decode cX4_sumOfNumbers 39 = .ok (.getfield 9, 3) := by decide +kernel
theorem dX4_sumOfNumbers_42 : decode cX4_sumOfNumbers 42 = .ok (.iload_n 2, 1) := by decide +kernel
theorem dX4_sumOfNumbers_43 : decode cX4_sumOfNumbers 43 = .ok (.iaload, 1) := by decide +kernel
theorem dX4_sumOfNumbers_44 : decode cX4_sumOfNumbers 44 = .ok (.invokestatic 30, 3) := by decide +kernel
theorem dX4_sumOfNumbers_47 : decode cX4_sumOfNumbers 47 = .ok (.iadd, 1) := by decide +kernel
theorem dX4_sumOfNumbers_48 : decode cX4_sumOfNumbers 48 = .ok (.iadd, 1) := by decide +kernel
theorem dX4_sumOfNumbers_49 : decode cX4_sumOfNumbers 49 = .ok (.istore_n 1, 1) := by decide +kernel
theorem dX4_sumOfNumbers_50 : decode cX4_sumOfNumbers 50 = .ok (.iinc 2 1, 3) := by decide +kernel
theorem dX4_sumOfNumbers_53 : decode cX4_sumOfNumbers 53 = .ok (.goto (-49), 3) := by decide +kernel
theorem dX4_sumOfNumbers_56 : decode cX4_sumOfNumbers 56 = .ok (.iload_n 1, 1) := by decide +kernel
theorem dX4_sumOfNumbers_57 : decode cX4_sumOfNumbers 57 = .ok (.ireturn, 1) := by decide +kernel
