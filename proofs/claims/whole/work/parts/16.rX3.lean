theorem dX3_init_0 : decode cX3_init 0 = .ok (.aload_n 0, 1) := by decide +kernel
theorem dX3_init_1 : decode cX3_init 1 = .ok (.invokespecial 3, 3) := by decide +kernel
theorem dX3_init_4 : decode cX3_init 4 = .ok (.aload_n 0, 1) := by decide +kernel
theorem dX3_init_5 : decode cX3_init 5 = .ok (.bipush 42, 2) := by decide +kernel
theorem dX3_init_7 : decode cX3_init 7 = .ok (.newarray .int, 2) := by decide +kernel
theorem dX3_init_9 : decode cX3_init 9 = .ok (.putfield 11, 3) := by decide +kernel
theorem dX3_init_12 : decode cX3_init 12 = .ok (.return_, 1) := by decide +kernel
set_option maxRecDepth 20000 in
theorem ggX3_linearCount_X10_isSet : GoodIn wsX3_linearCount wsX10_isSet := goodIn_r _ [4] (by decide +kernel) (by decide +kernel)
set_option maxRecDepth 20000 in
theorem gX3_linearCount_X10_isSet_n15 : GoodIn wsX3_linearCount (wsX10_isSet) := ggX3_linearCount_X10_isSet
theorem dX3_linearCount_0 : decode cX3_linearCount 0 = .ok (.iload_n 1, 1) := by decide +kernel
theorem dX3_linearCount_1 : decode cX3_linearCount 1 = .ok (.invokestatic 15, 3) := by decide +kernel
theorem dX3_linearCount_4 : decode cX3_linearCount 4 = .ok (.ifCond .eq 15, 3) := by decide +kernel
theorem dX3_linearCount_7 : decode cX3_linearCount 7 = .ok (.aload_n 0, 1) := by decide +kernel
theorem dX3_linearCount_8 : decode cX3_linearCount 8 = .ok (.getfield 11, 3) := by decide +kernel
theorem dX3_linearCount_11 : decode cX3_linearCount 11 = .ok (.iload_n 1, 1) := by decide +kernel
theorem dX3_linearCount_12 : decode cX3_linearCount 12 = .ok (.bipush 21, 2) := by decide +kernel
theorem dX3_linearCount_14 : decode cX3_linearCount 14 = .ok (.imul, 1) := by decide +kernel
theorem dX3_linearCount_15 : decode cX3_linearCount 15 = .ok (.iaload, 1) := by decide +kernel
theorem dX3_linearCount_16 : decode cX3_linearCount 16 = .ok (.goto 4, 3) := by decide +kernel
theorem dX3_linearCount_19 : decode cX3_linearCount 19 = .ok (.iconst 0, 1) := by decide +kernel
theorem dX3_linearCount_20 : decode cX3_linearCount 20 = .ok (.ireturn, 1) := by decide +kernel
set_option maxRecDepth 20000 in
theorem ggX3_hasLinear_X10_isSet : GoodIn wsX3_hasLinear wsX10_isSet := goodIn_r _ [4] (by decide +kernel) (by decide +kernel)
set_option maxRecDepth 20000 in
theorem gX3_hasLinear_X10_isSet_n15 : GoodIn wsX3_hasLinear (wsX10_isSet) := ggX3_hasLinear_X10_isSet
theorem dX3_hasLinear_0 : decode cX3_hasLinear 0 = .ok (.iload_n 1, 1) := by decide +kernel
theorem dX3_hasLinear_1 : decode cX3_hasLinear 1 = .ok (.invokestatic 15, 3) := by decide +kernel
theorem dX3_hasLinear_4 : decode cX3_hasLinear 4 = .ok (.ifCond .eq 29, 3) := by decide +kernel
theorem dX3_hasLinear_7 : decode cX3_hasLinear 7 = .ok (.iload_n 2, 1) := by decide +kernel
theorem dX3_hasLinear_8 : decode cX3_hasLinear 8 = .ok (.ifCond .lt 25, 3) := by decide +kernel
theorem dX3_hasLinear_11 : decode cX3_hasLinear 11 = .ok (.iload_n 2, 1) := by decide +kernel
theorem dX3_hasLinear_12 : decode cX3_hasLinear 12 = .ok (.iconst 4, 1) := by decide +kernel
theorem dX3_hasLinear_13 : decode cX3_hasLinear 13 = .ok (.if_icmp .ge 20, 3) := by decide +kernel
theorem dX3_hasLinear_16 : decode cX3_hasLinear 16 = .ok (.iload_n 2, 1) := by decide +kernel
theorem dX3_hasLinear_17 : decode cX3_hasLinear 17 = .ok (.aload_n 0, 1) := by decide +kernel
theorem dX3_hasLinear_18 : decode cX3_hasLinear 18 = .ok (.getfield 11, 3) := by decide +kernel
theorem dX3_hasLinear_21 : decode cX3_hasLinear 21 = .ok (.iload_n 1, 1) := by decide +kernel
theorem dX3_hasLinear_22 : decode cX3_hasLinear 22 = .ok (.bipush 21, 2) := by decide +kernel
theorem dX3_hasLinear_24 : decode cX3_hasLinear 24 = .ok (.imul, 1) := by decide +kernel
theorem dX3_hasLinear_25 : decode cX3_hasLinear 25 = .ok (.iaload, 1) := by decide +kernel
theorem dX3_hasLinear_26 : decode cX3_hasLinear 26 = .ok (.if_icmp .ge 7, 3) := by decide +kernel
theorem dX3_hasLinear_29 : decode cX3_hasLinear 29 = .ok (.iconst 1, 1) := by decide +kernel
theorem dX3_hasLinear_30 : decode cX3_hasLinear 30 = .ok (.goto 4, 3) := by decide +kernel
theorem dX3_hasLinear_33 : decode cX3_hasLinear 33 = .ok (.iconst 0, 1) := by decide +kernel
theorem dX3_hasLinear_34 : decode cX3_hasLinear 34 = .ok (.ireturn, 1) := by decide +kernel
set_option maxRecDepth 20000 in
theorem ggX3_base_X3_hasLinear : GoodIn wsX3_base wsX3_hasLinear := goodIn_ca (goodIn_r _ [6, 1, 7, 8, 9, 13] (by decide +kernel) (by decide +kernel)) (goodIn_sub (fun _ h => List.mem_cons_of_mem _ (List.mem_append_right _ h)) (by decide +kernel))
set_option maxRecDepth 20000 in
theorem gX3_base_X3_hasLinear : GoodIn wsX3_base (wsV RX3 19 RX3 yX3_hasLinear wsX3_hasLinear) := goodIn_app (goodIn_of _ (by decide +kernel)) ggX3_base_X3_hasLinear
set_option maxRecDepth 20000 in
theorem ggX3_base_X3_placeOf : GoodIn wsX3_base wsX3_placeOf := goodIn_r _ [12] (by decide +kernel) (by decide +kernel)
set_option maxRecDepth 20000 in
theorem gX3_base_X3_placeOf : GoodIn wsX3_base (va_wsS RX3 23 yX3_placeOf wsX3_placeOf) := goodIn_app (goodIn_of _ (by decide +kernel)) ggX3_base_X3_placeOf
theorem dX3_base_0 : decode cX3_base 0 = .ok (.aload_n 0, 1) := by decide +kernel
theorem dX3_base_1 : decode cX3_base 1 = .ok (.iload_n 1, 1) := by decide +kernel
theorem dX3_base_2 : decode cX3_base 2 = .ok (.iload_n 2, 1) := by decide +kernel
theorem dX3_base_3 : decode cX3_base 3 = .ok (.invokevirtual 19, 3) := by decide +kernel
theorem dX3_base_6 : decode cX3_base 6 = .ok (.ifCond .eq 16, 3) := by decide +kernel
theorem dX3_base_9 : decode cX3_base 9 = .ok (.aload_n 0, 1) := by decide +kernel
theorem dX3_base_10 : decode cX3_base 10 = .ok (.getfield 11, 3) := by decide +kernel
theorem dX3_base_13 : decode cX3_base 13 = .ok (.iload_n 1, 1) := by decide +kernel
theorem dX3_base_14 : decode cX3_base 14 = .ok (.iload_n 2, 1) := by decide +kernel
theorem dX3_base_15 : decode cX3_base 15 = .ok (.invokestatic 23, 3) := by decide +kernel
theorem dX3_base_18 : decode cX3_base 18 = .ok (.iaload, 1) := by decide +kernel
theorem dX3_base_19 : decode cX3_base 19 = .ok (.goto 4, 3) := by decide +kernel
theorem dX3_base_22 : decode cX3_base 22 = .ok (.iconst 0, 1) := by decide +kernel
theorem dX3_base_23 : decode cX3_base 23 = .ok (.ireturn, 1) := by decide +kernel
set_option maxRecDepth 20000 in
theorem ggX3_periodCount_X3_hasLinear : GoodIn wsX3_periodCount wsX3_hasLinear := goodIn_ca (goodIn_r _ [6, 1, 7, 8, 9, 13] (by decide +kernel) (by decide +kernel)) (goodIn_sub (fun _ h => List.mem_cons_of_mem _ (List.mem_append_right _ h)) (by decide +kernel))
set_option maxRecDepth 20000 in
theorem gX3_periodCount_X3_hasLinear : GoodIn wsX3_periodCount (wsV RX3 19 RX3 yX3_hasLinear wsX3_hasLinear) := goodIn_app (goodIn_of _ (by decide +kernel)) ggX3_periodCount_X3_hasLinear
set_option maxRecDepth 20000 in
theorem ggX3_periodCount_X3_placeOf : GoodIn wsX3_periodCount wsX3_placeOf := goodIn_r _ [12] (by decide +kernel) (by decide +kernel)
set_option maxRecDepth 20000 in
theorem gX3_periodCount_X3_placeOf : GoodIn wsX3_periodCount (va_wsS RX3 23 yX3_placeOf wsX3_placeOf) := goodIn_app (goodIn_of _ (by decide +kernel)) ggX3_periodCount_X3_placeOf
theorem dX3_periodCount_0 : decode cX3_periodCount 0 = .ok (.aload_n 0, 1) := by decide +kernel
theorem dX3_periodCount_1 : decode cX3_periodCount 1 = .ok (.iload_n 1, 1) := by decide +kernel
theorem dX3_periodCount_2 : decode cX3_periodCount 2 = .ok (.iload_n 2, 1) := by decide +kernel
theorem dX3_periodCount_3 : decode cX3_periodCount 3 = .ok (.invokevirtual 19, 3) := by decide +kernel
theorem dX3_periodCount_6 : decode cX3_periodCount 6 = .ok (.ifCond .eq 18, 3) := by decide +kernel
theorem dX3_periodCount_9 : decode cX3_periodCount 9 = .ok (.aload_n 0, 1) := by decide +kernel
theorem dX3_periodCount_10 : decode cX3_periodCount 10 = .ok (.getfield 11, 3) := by decide +kernel
theorem dX3_periodCount_13 : decode cX3_periodCount 13 = .ok (.iload_n 1, 1) := by decide +kernel
theorem dX3_periodCount_14 : decode cX3_periodCount 14 = .ok (.iload_n 2, 1) := by decide +kernel
theorem dX3_periodCount_15 : decode cX3_periodCount 15 = .ok (.invokestatic 23, 3) := by decide +kernel
theorem dX3_periodCount_18 : decode cX3_periodCount 18 = .ok (.iconst 1, 1) := by decide +kernel
theorem dX3_periodCount_19 : decode cX3_periodCount 19 = .ok (.iadd, 1) := by decide +kernel
theorem dX3_periodCount_20 : decode cX3_periodCount 20 = .ok (.iaload, 1) := by decide +kernel
theorem dX3_periodCount_21 : decode cX3_periodCount 21 = .ok (.goto 4, 3) := by decide +kernel
theorem dX3_periodCount_24 : decode cX3_periodCount 24 = .ok (.iconst 0, 1) := by decide +kernel
theorem dX3_periodCount_25 : decode cX3_periodCount 25 = .ok (.ireturn, 1) := by decide +kernel
set_option maxRecDepth 20000 in
theorem ggX3_period_X3_periodCount : GoodIn wsX3_period wsX3_periodCount := goodIn_ca (goodIn_r _ [6, 1, 7, 8, 9, 5, 10, 11, 12, 13, 14, 15, 16, 17] (by decide +kernel) (by decide +kernel)) (goodIn_sub (fun _ h => List.mem_cons_of_mem _ (List.mem_append_right _ h)) (by decide +kernel))
set_option maxRecDepth 20000 in
theorem gX3_period_X3_periodCount : GoodIn wsX3_period (wsV RX3 27 RX3 yX3_periodCount wsX3_periodCount) := goodIn_app (goodIn_of _ (by decide +kernel)) ggX3_period_X3_periodCount
set_option maxRecDepth 20000 in
theorem ggX3_period_X3_placeOf : GoodIn wsX3_period wsX3_placeOf := goodIn_r _ [16] (by decide +kernel) (by decide +kernel)
set_option maxRecDepth 20000 in
theorem gX3_period_X3_placeOf : GoodIn wsX3_period (va_wsS RX3 23 yX3_placeOf wsX3_placeOf) := goodIn_app (goodIn_of _ (by decide +kernel)) ggX3_period_X3_placeOf
theorem dX3_period_0 : decode cX3_period 0 = .ok (.iload_n 3, 1) := by decide +kernel
theorem dX3_period_1 : decode cX3_period 1 = .ok (.ifCond .lt 22, 3) := by decide +kernel
theorem dX3_period_4 : decode cX3_period 4 = .ok (.iload_n 3, 1) := by decide +kernel
theorem dX3_period_5 : decode cX3_period 5 = .ok (.iconst 3, 1) := by decide +kernel
theorem dX3_period_6 : decode cX3_period 6 = .ok (.if_icmp .ge 17, 3) := by decide +kernel
theorem dX3_period_9 : decode cX3_period 9 = .ok (.iload_n 3, 1) := by decide +kernel
theorem dX3_period_10 : decode cX3_period 10 = .ok (.aload_n 0, 1) := by decide +kernel
theorem dX3_period_11 : decode cX3_period 11 = .ok (.iload_n 1, 1) := by decide +kernel
theorem dX3_period_12 : decode cX3_period 12 = .ok (.iload_n 2, 1) := by decide +kernel
theorem dX3_period_13 : decode cX3_period 13 = .ok (.invokevirtual 27, 3) := by decide +kernel
theorem dX3_period_16 : decode cX3_period 16 = .ok (.if_icmp .ge 7, 3) := by decide +kernel
theorem dX3_period_19 : decode cX3_period 19 = .ok (.iconst 1, 1) := by decide +kernel
theorem dX3_period_20 : decode cX3_period 20 = .ok (.goto 4, 3) := by decide +kernel
theorem dX3_period_23 : decode cX3_period 23 = .ok (.iconst 0, 1) := by decide +kernel
theorem dX3_period_24 : decode cX3_period 24 = .ok (.istore 4, 2) := by decide +kernel
theorem dX3_period_26 : decode cX3_period 26 = .ok (.iload 4, 2) := by decide +kernel
theorem dX3_period_28 : decode cX3_period 28 = .ok (.ifCond .eq 20, 3) := by decide +kernel
theorem dX3_period_31 : decode cX3_period 31 = .ok (.aload_n 0, 1) := by decide +kernel
theorem dX3_period_32 : decode cX3_period 32 = .ok (.getfield 11, 3) := by decide +kernel
theorem dX3_period_35 : decode cX3_period 35 = .ok (.iload_n 1, 1) := by decide +kernel
theorem dX3_period_36 : decode cX3_period 36 = .ok (.iload_n 2, 1) := by decide +kernel
theorem dX3_period_37 : decode cX3_period 37 = .ok (.invokestatic 23, 3) := by decide +kernel
theorem dX3_period_40 : decode cX3_period 40 = .ok (.iconst 2, 1) := by decide +kernel
theorem dX3_period_41 : decode cX3_period 41 = .ok (.iadd, 1) := by decide +kernel
theorem dX3_period_42 : decode cX3_period 42 = .ok (.iload_n 3, 1) := by decide +kernel
theorem dX3_period_43 : decode cX3_period 43 = .ok (.iadd, 1) := by decide +kernel
theorem dX3_period_44 : decode cX3_period 44 = .ok (.iaload, 1) := by decide +kernel
theorem dX3_period_45 : decode cX3_period 45 = .ok (.goto 4, 3) := by decide +kernel
theorem dX3_period_48 : decode cX3_period 48 = .ok (.iconst 0, 1) := by decide +kernel
theorem dX3_period_49 : decode cX3_period 49 = .ok (.ireturn, 1) := by decide +kernel
set_option maxRecDepth 20000 in
theorem ggX3_addLinear_X3_linearCount : GoodIn wsX3_addLinear wsX3_linearCount := goodIn_ca (goodIn_r _ [6, 1, 7, 8, 9, 13] (by decide +kernel) (by decide +kernel)) (goodIn_sub (fun _ h => List.mem_cons_of_mem _ (List.mem_append_right _ h)) (by decide +kernel))
set_option maxRecDepth 20000 in
theorem gX3_addLinear_X3_linearCount : GoodIn wsX3_addLinear (wsV RX3 30 RX3 yX3_linearCount wsX3_linearCount) := goodIn_app (goodIn_of _ (by decide +kernel)) ggX3_addLinear_X3_linearCount
set_option maxRecDepth 20000 in
theorem ggX3_addLinear_X10_isSet : GoodIn wsX3_addLinear wsX10_isSet := goodIn_r _ [9] (by decide +kernel) (by decide +kernel)
set_option maxRecDepth 20000 in
theorem gX3_addLinear_X10_isSet_n15 : GoodIn wsX3_addLinear (wsX10_isSet) := ggX3_addLinear_X10_isSet
set_option maxRecDepth 20000 in
theorem ggX3_addLinear_X3_placeOf : GoodIn wsX3_addLinear wsX3_placeOf := goodIn_r _ [12] (by decide +kernel) (by decide +kernel)
set_option maxRecDepth 20000 in
theorem gX3_addLinear_X3_placeOf : GoodIn wsX3_addLinear (va_wsS RX3 23 yX3_placeOf wsX3_placeOf) := goodIn_app (goodIn_of _ (by decide +kernel)) ggX3_addLinear_X3_placeOf
theorem dX3_addLinear_0 : decode cX3_addLinear 0 = .ok (.aload_n 0, 1) := by decide +kernel
theorem dX3_addLinear_1 : decode cX3_addLinear 1 = .ok (.iload_n 1, 1) := by decide +kernel
theorem dX3_addLinear_2 : decode cX3_addLinear 2 = .ok (.invokevirtual 30, 3) := by decide +kernel
theorem dX3_addLinear_5 : decode cX3_addLinear 5 = .ok (.istore_n 3, 1) := by decide +kernel
theorem dX3_addLinear_6 : decode cX3_addLinear 6 = .ok (.iload_n 1, 1) := by decide +kernel
theorem dX3_addLinear_7 : decode cX3_addLinear 7 = .ok (.invokestatic 15, 3) := by decide +kernel
theorem dX3_addLinear_10 : decode cX3_addLinear 10 = .ok (.ifCond .eq 48, 3) := by decide +kernel
theorem dX3_addLinear_13 : decode cX3_addLinear 13 = .ok (.iload_n 3, 1) := by decide +kernel
theorem dX3_addLinear_14 : decode cX3_addLinear 14 = .ok (.ifCond .lt 44, 3) := by decide +kernel
theorem dX3_addLinear_17 : decode cX3_addLinear 17 = .ok (.iload_n 3, 1) := by decide +kernel
theorem dX3_addLinear_18 : decode cX3_addLinear 18 = .ok (.iconst 4, 1) := by decide +kernel
theorem dX3_addLinear_19 : decode cX3_addLinear 19 = .ok (.if_icmp .ge 39, 3) := by decide +kernel
theorem dX3_addLinear_22 : decode cX3_addLinear 22 = .ok (.aload_n 0, 1) := by decide +kernel
theorem dX3_addLinear_23 : decode cX3_addLinear 23 = .ok (.getfield 11, 3) := by decide +kernel
theorem dX3_addLinear_26 : decode cX3_addLinear 26 = .ok (.iload_n 1, 1) := by decide +kernel
theorem dX3_addLinear_27 : decode cX3_addLinear 27 = .ok (.bipush 21, 2) := by decide +kernel
theorem dX3_addLinear_29 : decode cX3_addLinear 29 = .ok (.imul, 1) := by decide +kernel
theorem dX3_addLinear_30 : decode cX3_addLinear 30 = .ok (.iload_n 3, 1) := by decide +kernel
theorem dX3_addLinear_31 : decode cX3_addLinear 31 = .ok (.iconst 1, 1) := by decide +kernel
theorem dX3_addLinear_32 : decode cX3_addLinear 32 = .ok (.iadd, 1) := by decide +kernel
theorem dX3_addLinear_33 : decode cX3_addLinear 33 = .ok (.iastore, 1) := by decide +kernel
theorem dX3_addLinear_34 : decode cX3_addLinear 34 = .ok (.aload_n 0, 1) := by decide +kernel
theorem dX3_addLinear_35 : decode cX3_addLinear 35 = .ok (.getfield 11, 3) := by decide +kernel
theorem dX3_addLinear_38 : decode cX3_addLinear 38 = .ok (.iload_n 1, 1) := by decide +kernel
theorem dX3_addLinear_39 : decode cX3_addLinear 39 = .ok (.iload_n 3, 1) := by decide +kernel
theorem dX3_addLinear_40 : decode cX3_addLinear 40 = .ok (.invokestatic 23, 3) := by decide +kernel
theorem dX3_addLinear_43 : decode cX3_addLinear 43 = .ok (.iload_n 2, 1) := by decide +kernel
theorem dX3_addLinear_44 : decode cX3_addLinear 44 = .ok (.iastore, 1) := by decide +kernel
theorem dX3_addLinear_45 : decode cX3_addLinear 45 = .ok (.aload_n 0, 1) := by decide +kernel
theorem dX3_addLinear_46 : decode cX3_addLinear 46 = .ok (.getfield 11, 3) := by decide +kernel
theorem dX3_addLinear_49 : decode cX3_addLinear 49 = .ok (.iload_n 1, 1) := by decide +kernel
theorem dX3_addLinear_50 : decode cX3_addLinear 50 = .ok (.iload_n 3, 1) := by decide +kernel
theorem dX3_addLinear_51 : decode cX3_addLinear 51 = .ok (.invokestatic 23, 3) := by decide +kernel
theorem dX3_addLinear_54 : decode cX3_addLinear 54 = .ok (.iconst 1, 1) := by decide +kernel
theorem dX3_addLinear_55 : decode cX3_addLinear 55 = .ok (.iadd, 1) := by decide +kernel
theorem dX3_addLinear_56 : decode cX3_addLinear 56 = .ok (.iconst 0, 1) := by decide +kernel
theorem dX3_addLinear_57 : decode cX3_addLinear 57 = .ok (.iastore, 1) := by decide +kernel
theorem dX3_addLinear_58 : decode cX3_addLinear 58 = .ok (.iload_n 3, 1) := by decide +kernel
theorem dX3_addLinear_59 : decode cX3_addLinear 59 = .ok (.ireturn, 1) := by decide +kernel
set_option maxRecDepth 20000 in
theorem ggX3_putPeriod_X3_periodCount : GoodIn wsX3_putPeriod wsX3_periodCount := goodIn_ca (goodIn_r _ [6, 1, 7, 8, 9, 5, 10, 11, 12, 13, 14, 15, 16, 17] (by decide +kernel) (by decide +kernel)) (goodIn_sub (fun _ h => List.mem_cons_of_mem _ (List.mem_append_right _ h)) (by decide +kernel))
set_option maxRecDepth 20000 in
theorem gX3_putPeriod_X3_periodCount : GoodIn wsX3_putPeriod (wsV RX3 27 RX3 yX3_periodCount wsX3_periodCount) := goodIn_app (goodIn_of _ (by decide +kernel)) ggX3_putPeriod_X3_periodCount
set_option maxRecDepth 20000 in
theorem ggX3_putPeriod_X3_hasLinear : GoodIn wsX3_putPeriod wsX3_hasLinear := goodIn_ca (goodIn_r _ [10, 1, 11, 12, 13, 17] (by decide +kernel) (by decide +kernel)) (goodIn_sub (fun _ h => List.mem_cons_of_mem _ (List.mem_append_right _ h)) (by decide +kernel))
set_option maxRecDepth 20000 in
theorem gX3_putPeriod_X3_hasLinear : GoodIn wsX3_putPeriod (wsV RX3 19 RX3 yX3_hasLinear wsX3_hasLinear) := goodIn_app (goodIn_of _ (by decide +kernel)) ggX3_putPeriod_X3_hasLinear
set_option maxRecDepth 20000 in
theorem ggX3_putPeriod_X3_placeOf : GoodIn wsX3_putPeriod wsX3_placeOf := goodIn_r _ [16] (by decide +kernel) (by decide +kernel)
set_option maxRecDepth 20000 in
theorem gX3_putPeriod_X3_placeOf : GoodIn wsX3_putPeriod (va_wsS RX3 23 yX3_placeOf wsX3_placeOf) := goodIn_app (goodIn_of _ (by decide +kernel)) ggX3_putPeriod_X3_placeOf
theorem dX3_putPeriod_0 : decode cX3_putPeriod 0 = .ok (.aload_n 0, 1) := by decide +kernel
theorem dX3_putPeriod_1 : decode cX3_putPeriod 1 = .ok (.iload_n 1, 1) := by decide +kernel
theorem dX3_putPeriod_2 : decode cX3_putPeriod 2 = .ok (.iload_n 2, 1) := by decide +kernel
theorem dX3_putPeriod_3 : decode cX3_putPeriod 3 = .ok (.invokevirtual 27, 3) := by decide +kernel
theorem dX3_putPeriod_6 : decode cX3_putPeriod 6 = .ok (.istore 4, 2) := by decide +kernel
theorem dX3_putPeriod_8 : decode cX3_putPeriod 8 = .ok (.aload_n 0, 1) := by decide +kernel
theorem dX3_putPeriod_9 : decode cX3_putPeriod 9 = .ok (.iload_n 1, 1) := by decide +kernel
theorem dX3_putPeriod_10 : decode cX3_putPeriod 10 = .ok (.iload_n 2, 1) := by decide +kernel
theorem dX3_putPeriod_11 : decode cX3_putPeriod 11 = .ok (.invokevirtual 19, 3) := by decide +kernel
theorem dX3_putPeriod_14 : decode cX3_putPeriod 14 = .ok (.ifCond .eq 14, 3) := by decide +kernel
theorem dX3_putPeriod_17 : decode cX3_putPeriod 17 = .ok (.iload 4, 2) := by decide +kernel
theorem dX3_putPeriod_19 : decode cX3_putPeriod 19 = .ok (.ifCond .lt 9, 3) := by decide +kernel
theorem dX3_putPeriod_22 : decode cX3_putPeriod 22 = .ok (.iload 4, 2) := by decide +kernel
theorem dX3_putPeriod_24 : decode cX3_putPeriod 24 = .ok (.iconst 3, 1) := by decide +kernel
theorem dX3_putPeriod_25 : decode cX3_putPeriod 25 = .ok (.if_icmp .lt 6, 3) := by decide +kernel
theorem dX3_putPeriod_28 : decode cX3_putPeriod 28 = .ok (.iload 4, 2) := by decide +kernel
theorem dX3_putPeriod_30 : decode cX3_putPeriod 30 = .ok (.ireturn, 1) := by decide +kernel
theorem dX3_putPeriod_31 : decode cX3_putPeriod 31 = .ok (.aload_n 0, 1) := by decide +kernel
theorem dX3_putPeriod_32 : decode cX3_putPeriod 32 = .ok (.getfield 11, 3) := by decide +kernel
theorem dX3_putPeriod_35 : decode cX3_putPeriod 35 = .ok (.iload_n 1, 1) := by decide +kernel
theorem dX3_putPeriod_36 : decode cX3_putPeriod 36 = .ok (.iload_n 2, 1) := by decide +kernel
theorem dX3_putPeriod_37 : decode cX3_putPeriod 37 = .ok (.invokestatic 23, 3) := by decide +kernel
theorem dX3_putPeriod_40 : decode cX3_putPeriod 40 = .ok (.iconst 2, 1) := by decide +kernel
theorem dX3_putPeriod_41 : decode cX3_putPeriod 41 = .ok (.iadd, 1) := by decide +kernel
theorem dX3_putPeriod_42 : decode cX3_putPeriod 42 = .ok (.iload 4, 2) := by decide +kernel
theorem dX3_putPeriod_44 : decode cX3_putPeriod 44 = .ok (.iadd, 1) := by decide +kernel
theorem dX3_putPeriod_45 : decode cX3_putPeriod 45 = .ok (.iload_n 3, 1) := by decide +kernel
theorem dX3_putPeriod_46 : decode cX3_putPeriod 46 = .ok (.iastore, 1) := by decide +kernel
theorem dX3_putPeriod_47 : decode cX3_putPeriod 47 = .ok (.aload_n 0, 1) := by decide +kernel
theorem dX3_putPeriod_48 : decode cX3_putPeriod 48 = .ok (.getfield 11, 3) := by decide +kernel
theorem dX3_putPeriod_51 : decode cX3_putPeriod 51 = .ok (.iload_n 1, 1) := by decide +kernel
theorem dX3_putPeriod_52 : decode cX3_putPeriod 52 = .ok (.iload_n 2, 1) := by decide +kernel
theorem dX3_putPeriod_53 : decode cX3_putPeriod 53 = .ok (.invokestatic 23, 3) := by decide +kernel
theorem dX3_putPeriod_56 : decode cX3_putPeriod 56 = .ok (.iconst 1, 1) := by decide +kernel
theorem dX3_putPeriod_57 : decode cX3_putPeriod 57 = .ok (.iadd, 1) := by decide +kernel
theorem dX3_putPeriod_58 : decode cX3_putPeriod 58 = .ok (.iload 4, 2) := by decide +kernel
theorem dX3_putPeriod_60 : decode cX3_putPeriod 60 = .ok (.iconst 1, 1) := by decide +kernel
theorem dX3_putPeriod_61 : decode cX3_putPeriod 61 = .ok (.iadd, 1) := by decide +kernel
theorem dX3_putPeriod_62 : decode cX3_putPeriod 62 = .ok (.iastore, 1) := by decide +kernel
theorem dX3_putPeriod_63 : decode cX3_putPeriod 63 = .ok (.iload 4, 2) := by decide +kernel
theorem dX3_putPeriod_65 : decode cX3_putPeriod 65 = .ok (.iconst 1, 1) := by decide +kernel
theorem dX3_putPeriod_66 : decode cX3_putPeriod 66 = .ok (.iadd, 1) := by decide +kernel
theorem dX3_putPeriod_67 : decode cX3_putPeriod 67 = .ok (.ireturn, 1) := by decide +kernel
set_option maxRecDepth 20000 in
theorem ggX3_wipe_X3_linearCount : GoodIn wsX3_wipe wsX3_linearCount := goodIn_ca (goodIn_r _ [6, 1, 7, 8, 9, 10] (by decide +kernel) (by decide +kernel)) (goodIn_sub (fun _ h => List.mem_cons_of_mem _ (List.mem_append_right _ h)) (by decide +kernel))
set_option maxRecDepth 20000 in
theorem gX3_wipe_X3_linearCount : GoodIn wsX3_wipe (wsV RX3 30 RX3 yX3_linearCount wsX3_linearCount) := goodIn_app (goodIn_of _ (by decide +kernel)) ggX3_wipe_X3_linearCount
set_option maxRecDepth 20000 in
theorem ggX3_wipe_X10_isSet : GoodIn wsX3_wipe wsX10_isSet := goodIn_r _ [9] (by decide +kernel) (by decide +kernel)
set_option maxRecDepth 20000 in
theorem gX3_wipe_X10_isSet_n15 : GoodIn wsX3_wipe (wsX10_isSet) := ggX3_wipe_X10_isSet
theorem dX3_wipe_0 : decode cX3_wipe 0 = .ok (.aload_n 0, 1) := by decide +kernel
theorem dX3_wipe_1 : decode cX3_wipe 1 = .ok (.iload_n 1, 1) := by decide +kernel
theorem dX3_wipe_2 : decode cX3_wipe 2 = .ok (.invokevirtual 30, 3) := by decide +kernel
theorem dX3_wipe_5 : decode cX3_wipe 5 = .ok (.istore_n 2, 1) := by decide +kernel
theorem dX3_wipe_6 : decode cX3_wipe 6 = .ok (.iload_n 1, 1) := by decide +kernel
theorem dX3_wipe_7 : decode cX3_wipe 7 = .ok (.invokestatic 15, 3) := by decide +kernel
theorem dX3_wipe_10 : decode cX3_wipe 10 = .ok (.ifCond .eq 13, 3) := by decide +kernel
theorem dX3_wipe_13 : decode cX3_wipe 13 = .ok (.aload_n 0, 1) := by decide +kernel
theorem dX3_wipe_14 : decode cX3_wipe 14 = .ok (.getfield 11, 3) := by decide +kernel
theorem dX3_wipe_17 : decode cX3_wipe 17 = .ok (.iload_n 1, 1) := by decide +kernel
theorem dX3_wipe_18 : decode cX3_wipe 18 = .ok (.bipush 21, 2) := by decide +kernel
theorem dX3_wipe_20 : decode cX3_wipe 20 = .ok (.imul, 1) := by decide +kernel
theorem dX3_wipe_21 : decode cX3_wipe 21 = .ok (.iconst 0, 1) := by decide +kernel
theorem dX3_wipe_22 : decode cX3_wipe 22 = .ok (.iastore, 1) := by decide +kernel
theorem dX3_wipe_23 : decode cX3_wipe 23 = .ok (.iload_n 2, 1) := by decide +kernel
theorem dX3_wipe_24 : decode cX3_wipe 24 = .ok (.ireturn, 1) := by decide +kernel
theorem dX3_writeTo_0 : decode cX3_writeTo 0 = .ok (.iload_n 2, 1) := by decide +kernel
theorem dX3_writeTo_1 : decode cX3_writeTo 1 = .ok (.ifCond .lt 24, 3) := by decide +kernel
theorem dX3_writeTo_4 : decode cX3_writeTo 4 = .ok (.iload_n 2, 1) := by decide +kernel
theorem dX3_writeTo_5 : decode cX3_writeTo 5 = .ok (.aload_n 1, 1) := by decide +kernel
theorem dX3_writeTo_6 : decode cX3_writeTo 6 = .ok (.arraylength, 1) := by decide +kernel
theorem dX3_writeTo_7 : decode cX3_writeTo 7 = .ok (.bipush 42, 2) := by decide +kernel
theorem dX3_writeTo_9 : decode cX3_writeTo 9 = .ok (.isub, 1) := by decide +kernel
theorem dX3_writeTo_10 : decode cX3_writeTo 10 = .ok (.if_icmp .gt 15, 3) := by decide +kernel
theorem dX3_writeTo_13 : decode cX3_writeTo 13 = .ok (.aload_n 0, 1) := by decide +kernel
theorem dX3_writeTo_14 : decode cX3_writeTo 14 = .ok (.getfield 11, 3) := by decide +kernel
theorem dX3_writeTo_17 : decode cX3_writeTo 17 = .ok (.iconst 0, 1) := by decide +kernel
theorem dX3_writeTo_18 : decode cX3_writeTo 18 = .ok (.aload_n 1, 1) := by decide +kernel
theorem dX3_writeTo_19 : decode cX3_writeTo 19 = .ok (.iload_n 2, 1) := by decide +kernel
theorem dX3_writeTo_20 : decode cX3_writeTo 20 = .ok (.bipush 42, 2) := by decide +kernel
theorem dX3_writeTo_22 : decode cX3_writeTo 22 = .ok (.invokestatic 34, 3) := by decide +kernel
theorem dX3_writeTo_25 : decode cX3_writeTo 25 = .ok (.return_, 1) := by decide +kernel
theorem dX3_readFrom_0 : decode cX3_readFrom 0 = .ok (.iload_n 2, 1) := by decide +kernel
theorem dX3_readFrom_1 : decode cX3_readFrom 1 = .ok (.ifCond .lt 24, 3) := by decide +kernel
theorem dX3_readFrom_4 : decode cX3_readFrom 4 = .ok (.iload_n 2, 1) := by decide +kernel
theorem dX3_readFrom_5 : decode cX3_readFrom 5 = .ok (.aload_n 1, 1) := by decide +kernel
theorem dX3_readFrom_6 : decode cX3_readFrom 6 = .ok (.arraylength, 1) := by decide +kernel
theorem dX3_readFrom_7 : decode cX3_readFrom 7 = .ok (.bipush 42, 2) := by decide +kernel
theorem dX3_readFrom_9 : decode cX3_readFrom 9 = .ok (.isub, 1) := by decide +kernel
theorem dX3_readFrom_10 : decode cX3_readFrom 10 = .ok (.if_icmp .gt 15, 3) := by decide +kernel
theorem dX3_readFrom_13 : decode cX3_readFrom 13 = .ok (.aload_n 1, 1) := by decide +kernel
theorem dX3_readFrom_14 : decode cX3_readFrom 14 = .ok (.iload_n 2, 1) := by decide +kernel
theorem dX3_readFrom_15 : decode cX3_readFrom 15 = .ok (.aload_n 0, 1) := by decide +kernel
theorem dX3_readFrom_16 : decode cX3_readFrom 16 = .ok (.getfield 11, 3) := by decide +kernel
theorem dX3_readFrom_19 : decode cX3_readFrom 19 = .ok (.iconst 0, 1) := by decide +kernel
theorem dX3_readFrom_20 : decode cX3_readFrom 20 = .ok (.bipush 42, 2) := by decide +kernel
theorem dX3_readFrom_22 : decode cX3_readFrom 22 = .ok (.invokestatic 34, 3) := by decide +kernel
theorem dX3_readFrom_25 : decode cX3_readFrom 25 = .ok (.return_, 1) := by decide +kernel
theorem dX3_placeOf_0 : decode cX3_placeOf 0 = .ok (.iload_n 0, 1) := by decide +kernel
theorem dX3_placeOf_1 : decode cX3_placeOf 1 = .ok (.bipush 21, 2) := by decide +kernel
theorem dX3_placeOf_3 : decode cX3_placeOf 3 = .ok (.imul, 1) := by decide +kernel
theorem dX3_placeOf_4 : decode cX3_placeOf 4 = .ok (.iconst 1, 1) := by decide +kernel
theorem dX3_placeOf_5 : decode cX3_placeOf 5 = .ok (.iadd, 1) := by decide +kernel
theorem dX3_placeOf_6 : decode cX3_placeOf 6 = .ok (.iload_n 1, 1) := by decide +kernel
theorem dX3_placeOf_7 : decode cX3_placeOf 7 = .ok (.iconst 5, 1) := by decide +kernel
theorem dX3_placeOf_8 : decode cX3_placeOf 8 = .ok (.imul, 1) := by decide +kernel
theorem dX3_placeOf_9 : decode cX3_placeOf 9 = .ok (.iadd, 1) := by decide +kernel
theorem dX3_placeOf_10 : decode cX3_placeOf 10 = .ok (.ireturn, 1) := by decide +kernel
