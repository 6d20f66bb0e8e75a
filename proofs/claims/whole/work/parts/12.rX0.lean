theorem dX0_init_0 : decode cX0_init 0 = .ok (.aload_n 0, 1) := by decide +kernel
theorem dX0_init_1 : decode cX0_init 1 = .ok (.invokespecial 3, 3) := by decide +kernel
theorem dX0_init_4 : decode cX0_init 4 = .ok (.aload_n 0, 1) := by decide +kernel
theorem dX0_init_5 : decode cX0_init 5 = .ok (.bipush 15, 2) := by decide +kernel
theorem dX0_init_7 : decode cX0_init 7 = .ok (.newarray .int, 2) := by decide +kernel
theorem dX0_init_9 : decode cX0_init 9 = .ok (.putfield 9, 3) := by decide +kernel
theorem dX0_init_12 : decode cX0_init 12 = .ok (.aload_n 0, 1) := by decide +kernel
theorem dX0_init_13 : decode cX0_init 13 = .ok (.bipush 96, 2) := by decide +kernel
theorem dX0_init_15 : decode cX0_init 15 = .ok (.newarray .int, 2) := by decide +kernel
theorem dX0_init_17 : decode cX0_init 17 = .ok (.putfield 15, 3) := by decide +kernel
theorem dX0_init_20 : decode cX0_init 20 = .ok (.aload_n 0, 1) := by decide +kernel
theorem dX0_init_21 : decode cX0_init 21 = .ok (.iconst 0, 1) := by decide +kernel
theorem dX0_init_22 : decode cX0_init 22 = .ok (.putfield 18, 3) := by decide +kernel
theorem dX0_init_25 : decode cX0_init 25 = .ok (.return_, 1) := by decide +kernel
theorem dX0_accepting_0 : decode cX0_accepting 0 = .ok (.iload_n 1, 1) := by decide +kernel
theorem dX0_accepting_1 : decode cX0_accepting 1 = .ok (.aload_n 0, 1) := by decide +kernel
theorem dX0_accepting_2 : decode cX0_accepting 2 = .ok (.getfield 18, 3) := by decide +kernel
theorem dX0_accepting_5 : decode cX0_accepting 5 = .ok (.iand, 1) := by decide +kernel
theorem dX0_accepting_6 : decode cX0_accepting 6 = .ok (.ifCond .eq 7, 3) := by decide +kernel
theorem dX0_accepting_9 : decode cX0_accepting 9 = .ok (.iconst 1, 1) := by decide +kernel
theorem dX0_accepting_10 : decode cX0_accepting 10 = .ok (.goto 4, 3) := by decide +kernel
theorem dX0_accepting_13 : decode cX0_accepting 13 = .ok (.iconst 0, 1) := by decide +kernel
theorem dX0_accepting_14 : decode cX0_accepting 14 = .ok (.ireturn, 1) := by decide +kernel
set_option maxRecDepth 20000 in
theorem ggX0_targetsOf_X10_isState : GoodIn wsX0_targetsOf wsX10_isState := goodIn_r _ [4] (by decide +kernel) (by decide +kernel)
set_option maxRecDepth 20000 in
theorem gX0_targetsOf_X10_isState_n22 : GoodIn wsX0_targetsOf (wsX10_isState) := ggX0_targetsOf_X10_isState
set_option maxRecDepth 20000 in
theorem ggX0_targetsOf_X10_isLetter : GoodIn wsX0_targetsOf wsX10_isLetter := goodIn_r _ [6] (by decide +kernel) (by decide +kernel)
set_option maxRecDepth 20000 in
theorem gX0_targetsOf_X10_isLetter_n26 : GoodIn wsX0_targetsOf (wsX10_isLetter) := ggX0_targetsOf_X10_isLetter
theorem dX0_targetsOf_0 : decode cX0_targetsOf 0 = .ok (.iload_n 1, 1) := by decide +kernel
theorem dX0_targetsOf_1 : decode cX0_targetsOf 1 = .ok (.invokestatic 22, 3) := by decide +kernel
theorem dX0_targetsOf_4 : decode cX0_targetsOf 4 = .ok (.ifCond .eq 23, 3) := by decide +kernel
theorem dX0_targetsOf_7 : decode cX0_targetsOf 7 = .ok (.iload_n 2, 1) := by decide +kernel
theorem dX0_targetsOf_8 : decode cX0_targetsOf 8 = .ok (.invokestatic 26, 3) := by decide +kernel
theorem dX0_targetsOf_11 : decode cX0_targetsOf 11 = .ok (.ifCond .eq 16, 3) := by decide +kernel
theorem dX0_targetsOf_14 : decode cX0_targetsOf 14 = .ok (.aload_n 0, 1) := by decide +kernel
theorem dX0_targetsOf_15 : decode cX0_targetsOf 15 = .ok (.getfield 9, 3) := by decide +kernel
theorem dX0_targetsOf_18 : decode cX0_targetsOf 18 = .ok (.iload_n 1, 1) := by decide +kernel
theorem dX0_targetsOf_19 : decode cX0_targetsOf 19 = .ok (.iconst 3, 1) := by decide +kernel
theorem dX0_targetsOf_20 : decode cX0_targetsOf 20 = .ok (.imul, 1) := by decide +kernel
theorem dX0_targetsOf_21 : decode cX0_targetsOf 21 = .ok (.iload_n 2, 1) := by decide +kernel
theorem dX0_targetsOf_22 : decode cX0_targetsOf 22 = .ok (.iadd, 1) := by decide +kernel
theorem dX0_targetsOf_23 : decode cX0_targetsOf 23 = .ok (.iaload, 1) := by decide +kernel
theorem dX0_targetsOf_24 : decode cX0_targetsOf 24 = .ok (.goto 4, 3) := by decide +kernel
theorem dX0_targetsOf_27 : decode cX0_targetsOf 27 = .ok (.iconst 0, 1) := by decide +kernel
theorem dX0_targetsOf_28 : decode cX0_targetsOf 28 = .ok (.ireturn, 1) := by decide +kernel
set_option maxRecDepth 20000 in
theorem ggX0_step_X10_isLetter : GoodIn wsX0_step wsX10_isLetter := goodIn_r _ [4] (by decide +kernel) (by decide +kernel)
set_option maxRecDepth 20000 in
theorem gX0_step_X10_isLetter_n26 : GoodIn wsX0_step (wsX10_isLetter) := ggX0_step_X10_isLetter
theorem dX0_step_0 : decode cX0_step 0 = .ok (.iload_n 1, 1) := by decide +kernel
theorem dX0_step_1 : decode cX0_step 1 = .ok (.invokestatic 26, 3) := by decide +kernel
theorem dX0_step_4 : decode cX0_step 4 = .ok (.ifCond .eq 20, 3) := by decide +kernel
theorem dX0_step_7 : decode cX0_step 7 = .ok (.aload_n 0, 1) := by decide +kernel
theorem dX0_step_8 : decode cX0_step 8 = .ok (.getfield 15, 3) := by decide +kernel
theorem dX0_step_11 : decode cX0_step 11 = .ok (.iload_n 1, 1) := by decide +kernel
theorem dX0_step_12 : decode cX0_step 12 = .ok (.bipush 32, 2) := by decide +kernel
theorem dX0_step_14 : decode cX0_step 14 = .ok (.imul, 1) := by decide +kernel
theorem dX0_step_15 : decode cX0_step 15 = .ok (.iload_n 2, 1) := by decide +kernel
theorem dX0_step_16 : decode cX0_step 16 = .ok (.bipush 31, 2) := by decide +kernel
theorem dX0_step_18 : decode cX0_step 18 = .ok (.iand, 1) := by decide +kernel
theorem dX0_step_19 : decode cX0_step 19 = .ok (.iadd, 1) := by decide +kernel
theorem dX0_step_20 : decode cX0_step 20 = .ok (.iaload, 1) := by decide +kernel
theorem dX0_step_21 : decode cX0_step 21 = .ok (.goto 4, 3) := by decide +kernel
theorem dX0_step_24 : decode cX0_step 24 = .ok (.iconst 0, 1) := by decide +kernel
theorem dX0_step_25 : decode cX0_step 25 = .ok (.ireturn, 1) := by decide +kernel
set_option maxRecDepth 20000 in
theorem ggX0_statesAfter_X0_step : GoodIn wsX0_statesAfter wsX0_step := goodIn_ca (goodIn_r _ [5, 6, 7, 8, 9, 10, 11, 12] (by decide +kernel) (by decide +kernel)) (goodIn_sub (fun _ h => List.mem_cons_of_mem _ (List.mem_append_right _ h)) (by decide +kernel))
set_option maxRecDepth 20000 in
theorem gX0_statesAfter_X0_step : GoodIn wsX0_statesAfter (wsV RX0 29 RX0 yX0_step wsX0_step) := goodIn_app (goodIn_of _ (by decide +kernel)) ggX0_statesAfter_X0_step
theorem dX0_statesAfter_0 : decode cX0_statesAfter 0 = .ok (.iconst 1, 1) := by decide +kernel
theorem dX0_statesAfter_1 : decode cX0_statesAfter 1 = .ok (.istore_n 3, 1) := by decide +kernel
theorem dX0_statesAfter_2 : decode cX0_statesAfter 2 = .ok (.iconst 0, 1) := by decide +kernel
theorem dX0_statesAfter_3 : decode cX0_statesAfter 3 = .ok (.istore 4, 2) := by decide +kernel
theorem dX0_statesAfter_5 : decode cX0_statesAfter 5 = .ok (.iload 4, 2) := by decide +kernel
theorem dX0_statesAfter_7 : decode cX0_statesAfter 7 = .ok (.iload_n 2, 1) := by decide +kernel
theorem dX0_statesAfter_8 : decode cX0_statesAfter 8 = .ok (.if_icmp .ge 26, 3) := by decide +kernel
theorem dX0_statesAfter_11 : decode cX0_statesAfter 11 = .ok (.iload 4, 2) := by decide +kernel
theorem dX0_statesAfter_13 : decode cX0_statesAfter 13 = .ok (.aload_n 1, 1) := by decide +kernel
theorem dX0_statesAfter_14 : decode cX0_statesAfter 14 = .ok (.arraylength, 1) := by decide +kernel
theorem dX0_statesAfter_15 : decode cX0_statesAfter 15 = .ok (.if_icmp .ge 19, 3) := by decide +kernel
theorem dX0_statesAfter_18 : decode cX0_statesAfter 18 = .ok (.aload_n 0, 1) := by decide +kernel
theorem dX0_statesAfter_19 : decode cX0_statesAfter 19 = .ok (.aload_n 1, 1) := by decide +kernel
theorem dX0_statesAfter_20 : decode cX0_statesAfter 20 = .ok (.iload 4, 2) := by decide +kernel
theorem dX0_statesAfter_22 : decode cX0_statesAfter 22 = .ok (.iaload, 1) := by decide +kernel
theorem dX0_statesAfter_23 : decode cX0_statesAfter 23 = .ok (.iload_n 3, 1) := by decide +kernel
theorem dX0_statesAfter_24 : decode cX0_statesAfter 24 = .ok (.invokevirtual 29, 3) := by decide +kernel
theorem dX0_statesAfter_27 : decode cX0_statesAfter 27 = .ok (.istore_n 3, 1) := by decide +kernel
theorem dX0_statesAfter_28 : decode cX0_statesAfter 28 = .ok (.iinc 4 1, 3) := by decide +kernel
theorem dX0_statesAfter_31 : decode cX0_statesAfter 31 = .ok (.goto (-26), 3) := by decide +kernel
theorem dX0_statesAfter_34 : decode cX0_statesAfter 34 = .ok (.iload_n 3, 1) := by decide +kernel
theorem dX0_statesAfter_35 : decode cX0_statesAfter 35 = .ok (.ireturn, 1) := by decide +kernel
set_option maxRecDepth 20000 in
theorem ggX0_has_X10_isState : GoodIn wsX0_has wsX10_isState := goodIn_r _ [3] (by decide +kernel) (by decide +kernel)
set_option maxRecDepth 20000 in
theorem gX0_has_X10_isState_n22 : GoodIn wsX0_has (wsX10_isState) := ggX0_has_X10_isState
set_option maxRecDepth 20000 in
theorem ggX0_has_X0_targetsOf : GoodIn wsX0_has wsX0_targetsOf := goodIn_ca (goodIn_r _ [8, 9, 1, 2, 3, 10, 11, 12, 13, 14] (by decide +kernel) (by decide +kernel)) (goodIn_sub (fun _ h => List.mem_cons_of_mem _ (List.mem_append_right _ h)) (by decide +kernel))
set_option maxRecDepth 20000 in
theorem gX0_has_X0_targetsOf : GoodIn wsX0_has (wsV RX0 33 RX0 yX0_targetsOf wsX0_targetsOf) := goodIn_app (goodIn_of _ (by decide +kernel)) ggX0_has_X0_targetsOf
theorem dX0_has_0 : decode cX0_has 0 = .ok (.iload_n 3, 1) := by decide +kernel
theorem dX0_has_1 : decode cX0_has 1 = .ok (.invokestatic 22, 3) := by decide +kernel
theorem dX0_has_4 : decode cX0_has 4 = .ok (.ifCond .eq 20, 3) := by decide +kernel
theorem dX0_has_7 : decode cX0_has 7 = .ok (.aload_n 0, 1) := by decide +kernel
theorem dX0_has_8 : decode cX0_has 8 = .ok (.iload_n 1, 1) := by decide +kernel
theorem dX0_has_9 : decode cX0_has 9 = .ok (.iload_n 2, 1) := by decide +kernel
theorem dX0_has_10 : decode cX0_has 10 = .ok (.invokevirtual 33, 3) := by decide +kernel
theorem dX0_has_13 : decode cX0_has 13 = .ok (.iload_n 3, 1) := by decide +kernel
theorem dX0_has_14 : decode cX0_has 14 = .ok (.ishr, 1) := by decide +kernel
theorem dX0_has_15 : decode cX0_has 15 = .ok (.iconst 1, 1) := by decide +kernel
theorem dX0_has_16 : decode cX0_has 16 = .ok (.iand, 1) := by decide +kernel
theorem dX0_has_17 : decode cX0_has 17 = .ok (.ifCond .eq 7, 3) := by decide +kernel
theorem dX0_has_20 : decode cX0_has 20 = .ok (.iconst 1, 1) := by decide +kernel
theorem dX0_has_21 : decode cX0_has 21 = .ok (.goto 4, 3) := by decide +kernel
theorem dX0_has_24 : decode cX0_has 24 = .ok (.iconst 0, 1) := by decide +kernel
theorem dX0_has_25 : decode cX0_has 25 = .ok (.ireturn, 1) := by decide +kernel
set_option maxRecDepth 20000 in
theorem ggX0_put_X10_isTransition : GoodIn wsX0_put wsX10_isTransition := goodIn_r _ [4, 5, 6, 3, 7, 8, 9, 10] (by decide +kernel) (by decide +kernel)
set_option maxRecDepth 20000 in
theorem gX0_put_X10_isTransition_n36 : GoodIn wsX0_put (wsX10_isTransition) := ggX0_put_X10_isTransition
theorem dX0_put_0 : decode cX0_put 0 = .ok (.iload_n 1, 1) := by decide +kernel
theorem dX0_put_1 : decode cX0_put 1 = .ok (.iload_n 2, 1) := by decide +kernel
theorem dX0_put_2 : decode cX0_put 2 = .ok (.iload_n 3, 1) := by decide +kernel
theorem dX0_put_3 : decode cX0_put 3 = .ok (.invokestatic 36, 3) := by decide +kernel
theorem dX0_put_6 : decode cX0_put 6 = .ok (.ifCond .eq 19, 3) := by decide +kernel
theorem dX0_put_9 : decode cX0_put 9 = .ok (.aload_n 0, 1) := by decide +kernel
theorem dX0_put_10 : decode cX0_put 10 = .ok (.getfield 9, 3) := by decide +kernel
theorem dX0_put_13 : decode cX0_put 13 = .ok (.iload_n 1, 1) := by decide +kernel
theorem dX0_put_14 : decode cX0_put 14 = .ok (.iconst 3, 1) := by decide +kernel
theorem dX0_put_15 : decode cX0_put 15 = .ok (.imul, 1) := by decide +kernel
theorem dX0_put_16 : decode cX0_put 16 = .ok (.iload_n 2, 1) := by decide +kernel
theorem dX0_put_17 : decode cX0_put 17 = .ok (.iadd, 1) := by decide +kernel
theorem dX0_put_18 : decode cX0_put 18 = .ok (.dup2, 1) := by decide +kernel
theorem dX0_put_19 : decode cX0_put 19 = .ok (.iaload, 1) := by decide +kernel
theorem dX0_put_20 : decode cX0_put 20 = .ok (.iconst 1, 1) := by decide +kernel
theorem dX0_put_21 : decode cX0_put 21 = .ok (.iload_n 3, 1) := by decide +kernel
theorem dX0_put_22 : decode cX0_put 22 = .ok (.ishl, 1) := by decide +kernel
theorem dX0_put_23 : decode cX0_put 23 = .ok (.ior, 1) := by decide +kernel
theorem dX0_put_24 : decode cX0_put 24 = .ok (.iastore, 1) := by decide +kernel
theorem dX0_put_25 : decode cX0_put 25 = .ok (.return_, 1) := by decide +kernel
set_option maxRecDepth 20000 in
theorem ggX0_drop_X10_isTransition : GoodIn wsX0_drop wsX10_isTransition := goodIn_r _ [4, 5, 6, 3, 7, 8, 9, 10] (by decide +kernel) (by decide +kernel)
set_option maxRecDepth 20000 in
theorem gX0_drop_X10_isTransition_n36 : GoodIn wsX0_drop (wsX10_isTransition) := ggX0_drop_X10_isTransition
theorem dX0_drop_0 : decode cX0_drop 0 = .ok (.iload_n 1, 1) := by decide +kernel
theorem dX0_drop_1 : decode cX0_drop 1 = .ok (.iload_n 2, 1) := by decide +kernel
theorem dX0_drop_2 : decode cX0_drop 2 = .ok (.iload_n 3, 1) := by decide +kernel
theorem dX0_drop_3 : decode cX0_drop 3 = .ok (.invokestatic 36, 3) := by decide +kernel
theorem dX0_drop_6 : decode cX0_drop 6 = .ok (.ifCond .eq 21, 3) := by decide +kernel
theorem dX0_drop_9 : decode cX0_drop 9 = .ok (.aload_n 0, 1) := by decide +kernel
theorem dX0_drop_10 : decode cX0_drop 10 = .ok (.getfield 9, 3) := by decide +kernel
theorem dX0_drop_13 : decode cX0_drop 13 = .ok (.iload_n 1, 1) := by decide +kernel
theorem dX0_drop_14 : decode cX0_drop 14 = .ok (.iconst 3, 1) := by decide +kernel
theorem dX0_drop_15 : decode cX0_drop 15 = .ok (.imul, 1) := by decide +kernel
theorem dX0_drop_16 : decode cX0_drop 16 = .ok (.iload_n 2, 1) := by decide +kernel
theorem dX0_drop_17 : decode cX0_drop 17 = .ok (.iadd, 1) := by decide +kernel
theorem dX0_drop_18 : decode cX0_drop 18 = .ok (.dup2, 1) := by decide +kernel
theorem dX0_drop_19 : decode cX0_drop 19 = .ok (.iaload, 1) := by decide +kernel
theorem dX0_drop_20 : decode cX0_drop 20 = .ok (.iconst 1, 1) := by decide +kernel
theorem dX0_drop_21 : decode cX0_drop 21 = .ok (.iload_n 3, 1) := by decide +kernel
theorem dX0_drop_22 : decode cX0_drop 22 = .ok (.ishl, 1) := by decide +kernel
theorem dX0_drop_23 : decode cX0_drop 23 = .ok (.iconst (-1), 1) := by decide +kernel
theorem dX0_drop_24 : decode cX0_drop 24 = .ok (.ixor, 1) := by decide +kernel
theorem dX0_drop_25 : decode cX0_drop 25 = .ok (.iand, 1) := by decide +kernel
theorem dX0_drop_26 : decode cX0_drop 26 = .ok (.iastore, 1) := by decide +kernel
theorem dX0_drop_27 : decode cX0_drop 27 = .ok (.return_, 1) := by decide +kernel
set_option maxRecDepth 20000 in
theorem ggX0_markFinal_X10_isState : GoodIn wsX0_markFinal wsX10_isState := goodIn_r _ [4] (by decide +kernel) (by decide +kernel)
set_option maxRecDepth 20000 in
theorem gX0_markFinal_X10_isState_n22 : GoodIn wsX0_markFinal (wsX10_isState) := ggX0_markFinal_X10_isState
theorem dX0_markFinal_0 : decode cX0_markFinal 0 = .ok (.iload_n 1, 1) := by decide +kernel
theorem dX0_markFinal_1 : decode cX0_markFinal 1 = .ok (.invokestatic 22, 3) := by decide +kernel
theorem dX0_markFinal_4 : decode cX0_markFinal 4 = .ok (.ifCond .eq 32, 3) := by decide +kernel
theorem dX0_markFinal_7 : decode cX0_markFinal 7 = .ok (.aload_n 0, 1) := by decide +kernel
theorem dX0_markFinal_8 : decode cX0_markFinal 8 = .ok (.iload_n 2, 1) := by decide +kernel
theorem dX0_markFinal_9 : decode cX0_markFinal 9 = .ok (.ifCond .eq 14, 3) := by decide +kernel
theorem dX0_markFinal_12 : decode cX0_markFinal 12 = .ok (.aload_n 0, 1) := by decide +kernel
theorem dX0_markFinal_13 : decode cX0_markFinal 13 = .ok (.getfield 18, 3) := by decide +kernel
theorem dX0_markFinal_16 : decode cX0_markFinal 16 = .ok (.iconst 1, 1) := by decide +kernel
theorem dX0_markFinal_17 : decode cX0_markFinal 17 = .ok (.iload_n 1, 1) := by decide +kernel
theorem dX0_markFinal_18 : decode cX0_markFinal 18 = .ok (.ishl, 1) := by decide +kernel
theorem dX0_markFinal_19 : decode cX0_markFinal 19 = .ok (.ior, 1) := by decide +kernel
theorem dX0_markFinal_20 : decode cX0_markFinal 20 = .ok (.goto 13, 3) := by decide +kernel
theorem dX0_markFinal_23 : decode cX0_markFinal 23 = .ok (.aload_n 0, 1) := by decide +kernel
theorem dX0_markFinal_24 : decode cX0_markFinal 24 = .ok (.getfield 18, 3) := by decide +kernel
theorem dX0_markFinal_27 : decode cX0_markFinal 27 = .ok (.iconst 1, 1) := by decide +kernel
theorem dX0_markFinal_28 : decode cX0_markFinal 28 = .ok (.iload_n 1, 1) := by decide +kernel
theorem dX0_markFinal_29 : decode cX0_markFinal 29 = .ok (.ishl, 1) := by decide +kernel
theorem dX0_markFinal_30 : decode cX0_markFinal 30 = .ok (.iconst (-1), 1) := by decide +kernel
theorem dX0_markFinal_31 : decode cX0_markFinal 31 = .ok (.ixor, 1) := by decide +kernel
theorem dX0_markFinal_32 : decode cX0_markFinal 32 = .ok (.iand, 1) := by decide +kernel
theorem dX0_markFinal_33 : decode cX0_markFinal 33 = .ok (.putfield 18, 3) := by decide +kernel
theorem dX0_markFinal_36 : decode cX0_markFinal 36 = .ok (.return_, 1) := by decide +kernel
theorem dX0_wipe_0 : decode cX0_wipe 0 = .ok (.iconst 0, 1) := by decide +kernel
theorem dX0_wipe_1 : decode cX0_wipe 1 = .ok (.istore_n 1, 1) := by decide +kernel
theorem dX0_wipe_2 : decode cX0_wipe 2 = .ok (.iload_n 1, 1) := by decide +kernel
theorem dX0_wipe_3 : decode cX0_wipe 3 = .ok (.bipush 15, 2) := by decide +kernel
theorem dX0_wipe_5 : decode cX0_wipe 5 = .ok (.if_icmp .ge 16, 3) := by decide +kernel
theorem dX0_wipe_8 : decode cX0_wipe 8 = .ok (.aload_n 0, 1) := by decide +kernel
theorem dX0_wipe_9 : decode cX0_wipe 9 = .ok (.getfield 9, 3) := by decide +kernel
theorem dX0_wipe_12 : decode cX0_wipe 12 = .ok (.iload_n 1, 1) := by decide +kernel
theorem dX0_wipe_13 : decode cX0_wipe 13 = .ok (.iconst 0, 1) := by decide +kernel
theorem dX0_wipe_14 : decode cX0_wipe 14 = .ok (.iastore, 1) := by decide +kernel
theorem dX0_wipe_15 : decode cX0_wipe 15 = .ok (.iinc 1 1, 3) := by decide +kernel
theorem dX0_wipe_18 : decode cX0_wipe 18 = .ok (.goto (-16), 3) := by decide +kernel
theorem dX0_wipe_21 : decode cX0_wipe 21 = .ok (.aload_n 0, 1) := by decide +kernel
theorem dX0_wipe_22 : decode cX0_wipe 22 = .ok (.iconst 0, 1) := by decide +kernel
theorem dX0_wipe_23 : decode cX0_wipe 23 = .ok (.putfield 18, 3) := by decide +kernel
theorem dX0_wipe_26 : decode cX0_wipe 26 = .ok (.return_, 1) := by decide +kernel
set_option maxRecDepth 20000 in
theorem ggX0_size_J6_bitCount_0f7a4 : GoodIn wsX0_size wsJ6_bitCount_0f7a4 := goodIn_r _ [5, 6, 7, 8] (by decide +kernel) (by decide +kernel)
set_option maxRecDepth 20000 in
theorem gX0_size_J6_bitCount_0f7a4 : GoodIn wsX0_size (va_wsS RX0 40 yJ6_bitCount_0f7a4 wsJ6_bitCount_0f7a4) := goodIn_app (goodIn_of _ (by decide +kernel)) ggX0_size_J6_bitCount_0f7a4
theorem dX0_size_0 : decode cX0_size 0 = .ok (.iconst 0, 1) := by decide +kernel
theorem dX0_size_1 : decode cX0_size 1 = .ok (.istore_n 1, 1) := by decide +kernel
theorem dX0_size_2 : decode cX0_size 2 = .ok (.iconst 0, 1) := by decide +kernel
theorem dX0_size_3 : decode cX0_size 3 = .ok (.istore_n 2, 1) := by decide +kernel
theorem dX0_size_4 : decode cX0_size 4 = .ok (.iload_n 2, 1) := by decide +kernel
theorem dX0_size_5 : decode cX0_size 5 = .ok (.bipush 15, 2) := by decide +kernel
theorem dX0_size_7 : decode cX0_size 7 = .ok (.if_icmp .ge 21, 3) := by decide +kernel
theorem dX0_size_10 : decode cX0_size 10 = .ok (.iload_n 1, 1) := by decide +kernel
theorem dX0_size_11 : decode cX0_size 11 = .ok (.aload_n 0, 1) := by decide +kernel
theorem dX0_size_12 : decode cX0_size 12 = .ok (.getfield 9, 3) := by decide +kernel
theorem dX0_size_15 : decode cX0_size 15 = .ok (.iload_n 2, 1) := by decide +kernel
theorem dX0_size_16 : decode cX0_size 16 = .ok (.iaload, 1) := by decide +kernel
theorem dX0_size_17 : decode cX0_size 17 = .ok (.invokestatic 40, 3) := by decide +kernel
theorem dX0_size_20 : decode cX0_size 20 = .ok (.iadd, 1) := by decide +kernel
theorem dX0_size_21 : decode cX0_size 21 = .ok (.istore_n 1, 1) := by decide +kernel
theorem dX0_size_22 : decode cX0_size 22 = .ok (.iinc 2 1, 3) := by decide +kernel
theorem dX0_size_25 : decode cX0_size 25 = .ok (.goto (-21), 3) := by decide +kernel
theorem dX0_size_28 : decode cX0_size 28 = .ok (.iload_n 1, 1) := by decide +kernel
theorem dX0_size_29 : decode cX0_size 29 = .ok (.ireturn, 1) := by decide +kernel
set_option maxRecDepth 20000 in
theorem ggX0_sizeWith_J6_bitCount_0f7a4 : GoodIn wsX0_sizeWith wsJ6_bitCount_0f7a4 := goodIn_r _ [5, 6, 7, 8] (by decide +kernel) (by decide +kernel)
set_option maxRecDepth 20000 in
theorem gX0_sizeWith_J6_bitCount_0f7a4 : GoodIn wsX0_sizeWith (va_wsS RX0 40 yJ6_bitCount_0f7a4 wsJ6_bitCount_0f7a4) := goodIn_app (goodIn_of _ (by decide +kernel)) ggX0_sizeWith_J6_bitCount_0f7a4
theorem dX0_sizeWith_0 : decode cX0_sizeWith 0 = .ok (.iconst 0, 1) := by decide +kernel
theorem dX0_sizeWith_1 : decode cX0_sizeWith 1 = .ok (.istore_n 2, 1) := by decide +kernel
theorem dX0_sizeWith_2 : decode cX0_sizeWith 2 = .ok (.iconst 0, 1) := by decide +kernel
theorem dX0_sizeWith_3 : decode cX0_sizeWith 3 = .ok (.istore_n 3, 1) := by decide +kernel
theorem dX0_sizeWith_4 : decode cX0_sizeWith 4 = .ok (.iload_n 3, 1) := by decide +kernel
theorem dX0_sizeWith_5 : decode cX0_sizeWith 5 = .ok (.bipush 15, 2) := by decide +kernel
theorem dX0_sizeWith_7 : decode cX0_sizeWith 7 = .ok (.if_icmp .ge 31, 3) := by decide +kernel
theorem dX0_sizeWith_10 : decode cX0_sizeWith 10 = .ok (.iload_n 3, 1) := by decide +kernel
theorem dX0_sizeWith_11 : decode cX0_sizeWith 11 = .ok (.aload_n 1, 1) := by decide +kernel
theorem dX0_sizeWith_12 : decode cX0_sizeWith 12 = .ok (.arraylength, 1) := by decide +kernel
theorem dX0_sizeWith_13 : decode cX0_sizeWith 13 = .ok (.if_icmp .ge 25, 3) := by decide +kernel
theorem dX0_sizeWith_16 : decode cX0_sizeWith 16 = .ok (.iload_n 2, 1) := by decide +kernel
theorem dX0_sizeWith_17 : decode cX0_sizeWith 17 = .ok (.aload_n 0, 1) := by decide +kernel
theorem dX0_sizeWith_18 : decode cX0_sizeWith 18 = .ok (.getfield 9, 3) := by decide +kernel
theorem dX0_sizeWith_21 : decode cX0_sizeWith 21 = .ok (.iload_n 3, 1) := by decide +kernel
theorem dX0_sizeWith_22 : decode cX0_sizeWith 22 = .ok (.iaload, 1) := by decide +kernel
theorem dX0_sizeWith_23 : decode cX0_sizeWith 23 = .ok (.aload_n 1, 1) := by decide +kernel
theorem dX0_sizeWith_24 : decode cX0_sizeWith 24 = .ok (.iload_n 3, 1) := by decide +kernel
theorem dX0_sizeWith_25 : decode cX0_sizeWith 25 = .ok (.iaload, 1) := by decide +kernel
theorem dX0_sizeWith_26 : decode cX0_sizeWith 26 = .ok (.ior, 1) := by decide +kernel
theorem dX0_sizeWith_27 : decode cX0_sizeWith 27 = .ok (.invokestatic 40, 3) := by decide +kernel
theorem dX0_sizeWith_30 : decode cX0_sizeWith 30 = .ok (.iadd, 1) := by decide +kernel
theorem dX0_sizeWith_31 : decode cX0_sizeWith 31 = .ok (.istore_n 2, 1) := by decide +kernel
theorem dX0_sizeWith_32 : decode cX0_sizeWith 32 = .ok (.iinc 3 1, 3) := by decide +kernel
theorem dX0_sizeWith_35 : decode cX0_sizeWith 35 = .ok (.goto (-31), 3) := by decide +kernel
theorem dX0_sizeWith_38 : decode cX0_sizeWith 38 = .ok (.iload_n 2, 1) := by decide +kernel
theorem dX0_sizeWith_39 : decode cX0_sizeWith 39 = .ok (.ireturn, 1) := by decide +kernel
theorem dX0_merge_0 : decode cX0_merge 0 = .ok (.iconst 0, 1) := by decide +kernel
theorem dX0_merge_1 : decode cX0_merge 1 = .ok (.istore_n 3, 1) := by decide +kernel
theorem dX0_merge_2 : decode cX0_merge 2 = .ok (.iload_n 3, 1) := by decide +kernel
theorem dX0_merge_3 : decode cX0_merge 3 = .ok (.bipush 15, 2) := by decide +kernel
theorem dX0_merge_5 : decode cX0_merge 5 = .ok (.if_icmp .ge 27, 3) := by decide +kernel
theorem dX0_merge_8 : decode cX0_merge 8 = .ok (.iload_n 3, 1) := by decide +kernel
theorem dX0_merge_9 : decode cX0_merge 9 = .ok (.aload_n 1, 1) := by decide +kernel
theorem dX0_merge_10 : decode cX0_merge 10 = .ok (.arraylength, 1) := by decide +kernel
theorem dX0_merge_11 : decode cX0_merge 11 = .ok (.if_icmp .ge 21, 3) := by decide +kernel
theorem dX0_merge_14 : decode cX0_merge 14 = .ok (.aload_n 0, 1) := by decide +kernel
theorem dX0_merge_15 : decode cX0_merge 15 = .ok (.getfield 9, 3) := by decide +kernel
theorem dX0_merge_18 : decode cX0_merge 18 = .ok (.iload_n 3, 1) := by decide +kernel
theorem dX0_merge_19 : decode cX0_merge 19 = .ok (.dup2, 1) := by decide +kernel
theorem dX0_merge_20 : decode cX0_merge 20 = .ok (.iaload, 1) := by decide +kernel
theorem dX0_merge_21 : decode cX0_merge 21 = .ok (.aload_n 1, 1) := by decide +kernel
theorem dX0_merge_22 : decode cX0_merge 22 = .ok (.iload_n 3, 1) := by decide +kernel
theorem dX0_merge_23 : decode cX0_merge 23 = .ok (.iaload, 1) := by decide +kernel
theorem dX0_merge_24 : decode cX0_merge 24 = .ok (.ior, 1) := by decide +kernel
theorem dX0_merge_25 : decode cX0_merge 25 = .ok (.iastore, 1) := by decide +kernel
theorem dX0_merge_26 : decode cX0_merge 26 = .ok (.iinc 3 1, 3) := by decide +kernel
theorem dX0_merge_29 : decode cX0_merge 29 = .ok (.goto (-27), 3) := by decide +kernel
theorem dX0_merge_32 : decode cX0_merge 32 = .ok (.aload_n 0, 1) := by decide +kernel
theorem dX0_merge_33 : decode cX0_merge 33 = .ok (.dup, 1) := by decide +kernel
theorem dX0_merge_34 : decode cX0_merge 34 = .ok (.getfield 18, 3) := by decide +kernel
theorem dX0_merge_37 : decode cX0_merge 37 = .ok (.iload_n 2, 1) := by decide +kernel
theorem dX0_merge_38 : decode cX0_merge 38 = .ok (.ior, 1) := by decide +kernel
theorem dX0_merge_39 : decode cX0_merge 39 = .ok (.putfield 18, 3) := by decide +kernel
theorem dX0_merge_42 : decode cX0_merge 42 = .ok (.return_, 1) := by decide +kernel
set_option maxRecDepth 20000 in
theorem ggX0_codeAt_X0_has : GoodIn wsX0_codeAt wsX0_has := goodIn_ca (goodIn_r _ [5, 6, 7, 8, 9, 10, 11, 4, 12, 13, 14, 15, 18, 19, 20] (by decide +kernel) (by decide +kernel)) (goodIn_sub (fun _ h => List.mem_cons_of_mem _ (List.mem_append_right _ h)) (by decide +kernel))
set_option maxRecDepth 20000 in
theorem gX0_codeAt_X0_has : GoodIn wsX0_codeAt (wsV RX0 46 RX0 yX0_has wsX0_has) := goodIn_app (goodIn_of _ (by decide +kernel)) ggX0_codeAt_X0_has
set_option maxRecDepth 20000 in
theorem ggX0_codeAt_X10_codeOf : GoodIn wsX0_codeAt wsX10_codeOf := goodIn_r _ [17] (by decide +kernel) (by decide +kernel)
set_option maxRecDepth 20000 in
theorem gX0_codeAt_X10_codeOf_n49 : GoodIn wsX0_codeAt (wsX10_codeOf) := ggX0_codeAt_X10_codeOf
theorem dX0_codeAt_0 : decode cX0_codeAt 0 = .ok (.iload_n 1, 1) := by decide +kernel
theorem dX0_codeAt_1 : decode cX0_codeAt 1 = .ok (.istore_n 2, 1) := by decide +kernel
theorem dX0_codeAt_2 : decode cX0_codeAt 2 = .ok (.iconst 0, 1) := by decide +kernel
theorem dX0_codeAt_3 : decode cX0_codeAt 3 = .ok (.istore_n 3, 1) := by decide +kernel
theorem dX0_codeAt_4 : decode cX0_codeAt 4 = .ok (.iload_n 3, 1) := by decide +kernel
theorem dX0_codeAt_5 : decode cX0_codeAt 5 = .ok (.iconst 5, 1) := by decide +kernel
theorem dX0_codeAt_6 : decode cX0_codeAt 6 = .ok (.if_icmp .ge 67, 3) := by decide +kernel
theorem dX0_codeAt_9 : decode cX0_codeAt 9 = .ok (.iconst 0, 1) := by decide +kernel
theorem dX0_codeAt_10 : decode cX0_codeAt 10 = .ok (.istore 4, 2) := by decide +kernel
theorem dX0_codeAt_12 : decode cX0_codeAt 12 = .ok (.iload 4, 2) := by decide +kernel
theorem dX0_codeAt_14 : decode cX0_codeAt 14 = .ok (.iconst 3, 1) := by decide +kernel
theorem dX0_codeAt_15 : decode cX0_codeAt 15 = .ok (.if_icmp .ge 52, 3) := by decide +kernel
theorem dX0_codeAt_18 : decode cX0_codeAt 18 = .ok (.iconst 0, 1) := by decide +kernel
theorem dX0_codeAt_19 : decode cX0_codeAt 19 = .ok (.istore 5, 2) := by decide +kernel
theorem dX0_codeAt_21 : decode cX0_codeAt 21 = .ok (.iload 5, 2) := by decide +kernel
theorem dX0_codeAt_23 : decode cX0_codeAt 23 = .ok (.iconst 5, 1) := by decide +kernel
theorem dX0_codeAt_24 : decode cX0_codeAt 24 = .ok (.if_icmp .ge 37, 3) := by decide +kernel
theorem dX0_codeAt_27 : decode cX0_codeAt 27 = .ok (.aload_n 0, 1) := by decide +kernel
theorem dX0_codeAt_28 : decode cX0_codeAt 28 = .ok (.iload_n 3, 1) := by decide +kernel
theorem dX0_codeAt_29 : decode cX0_codeAt 29 = .ok (.iload 4, 2) := by decide +kernel
theorem dX0_codeAt_31 : decode cX0_codeAt 31 = .ok (.iload 5, 2) := by decide +kernel
theorem dX0_codeAt_33 : decode cX0_codeAt 33 = .ok (.invokevirtual 46, 3) := by decide +kernel
theorem dX0_codeAt_36 : decode cX0_codeAt 36 = .ok (.ifCond .eq 19, 3) := by decide +kernel
theorem dX0_codeAt_39 : decode cX0_codeAt 39 = .ok (.iload_n 2, 1) := by decide +kernel
theorem dX0_codeAt_40 : decode cX0_codeAt 40 = .ok (.ifCond .ne 12, 3) := by decide +kernel
theorem dX0_codeAt_43 : decode cX0_codeAt 43 = .ok (.iload_n 3, 1) := by decide +kernel
theorem dX0_codeAt_44 : decode cX0_codeAt 44 = .ok (.iload 4, 2) := by decide +kernel
theorem dX0_codeAt_46 : decode cX0_codeAt 46 = .ok (.iload 5, 2) := by decide +kernel
theorem dX0_codeAt_48 : decode cX0_codeAt 48 = .ok (.invokestatic 49, 3) := by decide +kernel
theorem dX0_codeAt_51 : decode cX0_codeAt 51 = .ok (.ireturn, 1) := by decide +kernel
theorem dX0_codeAt_52 : decode cX0_codeAt 52 = .ok (.iinc 2 (-1), 3) := by decide +kernel
theorem dX0_codeAt_55 : decode cX0_codeAt 55 = .ok (.iinc 5 1, 3) := by decide +kernel
theorem dX0_codeAt_58 : decode cX0_codeAt 58 = .ok (.goto (-37), 3) := by decide +kernel
theorem dX0_codeAt_61 : decode cX0_codeAt 61 = .ok (.iinc 4 1, 3) := by decide +kernel
theorem dX0_codeAt_64 : decode cX0_codeAt 64 = .ok (.goto (-52), 3) := by decide +kernel
theorem dX0_codeAt_67 : decode cX0_codeAt 67 = .ok (.iinc 3 1, 3) := by decide +kernel
theorem dX0_codeAt_70 : decode cX0_codeAt 70 = .ok (.goto (-66), 3) := by decide +kernel
theorem dX0_codeAt_73 : decode cX0_codeAt 73 = .ok (.iconst (-1), 1) := by decide +kernel
theorem dX0_codeAt_74 : decode cX0_codeAt 74 = .ok (.ireturn, 1) := by decide +kernel
theorem dX0_hasSingleTargets_0 : decode cX0_hasSingleTargets 0 = .ok (.iconst 0, 1) := by decide +kernel
theorem dX0_hasSingleTargets_1 : decode cX0_hasSingleTargets 1 = .ok (.istore_n 1, 1) := by decide +kernel
theorem dX0_hasSingleTargets_2 : decode cX0_hasSingleTargets 2 = .ok (.iload_n 1, 1) := by decide +kernel
theorem dX0_hasSingleTargets_3 : decode cX0_hasSingleTargets 3 = .ok (.bipush 15, 2) := by decide +kernel
theorem dX0_hasSingleTargets_5 : decode cX0_hasSingleTargets 5 = .ok (.if_icmp .ge 29, 3) := by decide +kernel
theorem dX0_hasSingleTargets_8 : decode cX0_hasSingleTargets 8 = .ok (.aload_n 0, 1) := by decide +kernel
theorem dX0_hasSingleTargets_9 : decode cX0_hasSingleTargets 9 = .ok (.getfield 9, 3) := by decide +kernel
theorem dX0_hasSingleTargets_12 : decode cX0_hasSingleTargets 12 = .ok (.iload_n 1, 1) := by decide +kernel
theorem dX0_hasSingleTargets_13 : decode cX0_hasSingleTargets 13 = .ok (.iaload, 1) := by decide +kernel
theorem dX0_hasSingleTargets_14 : decode cX0_hasSingleTargets 14 = .ok (.aload_n 0, 1) := by decide +kernel
theorem dX0_hasSingleTargets_15 : decode cX0_hasSingleTargets 15 = .ok (.getfield 9, 3) := by decide +kernel
theorem dX0_hasSingleTargets_18 : decode cX0_hasSingleTargets 18 = .ok (.iload_n 1, 1) := by decide +kernel
theorem dX0_hasSingleTargets_19 : decode cX0_hasSingleTargets 19 = .ok (.iaload, 1) := by decide +kernel
theorem dX0_hasSingleTargets_20 : decode cX0_hasSingleTargets 20 = .ok (.iconst 1, 1) := by decide +kernel
theorem dX0_hasSingleTargets_21 : decode cX0_hasSingleTargets 21 = .ok (.isub, 1) := by decide +kernel
theorem dX0_hasSingleTargets_22 : decode cX0_hasSingleTargets 22 = .ok (.iand, 1) := by decide +kernel
theorem dX0_hasSingleTargets_23 : decode cX0_hasSingleTargets 23 = .ok (.ifCond .eq 5, 3) := by decide +kernel
theorem dX0_hasSingleTargets_26 : decode cX0_hasSingleTargets 26 = .ok (.iconst 0, 1) := by decide +kernel
theorem dX0_hasSingleTargets_27 : decode cX0_hasSingleTargets 27 = .ok (.ireturn, 1) := by decide +kernel
theorem dX0_hasSingleTargets_28 : decode cX0_hasSingleTargets 28 = .ok (.iinc 1 1, 3) := by decide +kernel
theorem dX0_hasSingleTargets_31 : decode cX0_hasSingleTargets 31 = .ok (.goto (-29), 3) := by decide +kernel
theorem dX0_hasSingleTargets_34 : decode cX0_hasSingleTargets 34 = .ok (.iconst 1, 1) := by decide +kernel
theorem dX0_hasSingleTargets_35 : decode cX0_hasSingleTargets 35 = .ok (.ireturn, 1) := by decide +kernel
set_option maxRecDepth 20000 in
theorem ggX0_useful_X0_step : GoodIn wsX0_useful wsX0_step := goodIn_ca (goodIn_r _ [6, 7, 8, 9, 10, 16, 17, 18] (by decide +kernel) (by decide +kernel)) (goodIn_sub (fun _ h => List.mem_cons_of_mem _ (List.mem_append_right _ h)) (by decide +kernel))
set_option maxRecDepth 20000 in
theorem gX0_useful_X0_step : GoodIn wsX0_useful (wsV RX0 29 RX0 yX0_step wsX0_step) := goodIn_app (goodIn_of _ (by decide +kernel)) ggX0_useful_X0_step
set_option maxRecDepth 20000 in
theorem ggX0_useful_X0_statesBefore : GoodIn wsX0_useful wsX0_statesBefore := goodIn_ca (goodIn_r _ [14, 15, 16, 17, 18] (by decide +kernel) (by decide +kernel)) (goodIn_sub (fun _ h => List.mem_cons_of_mem _ (List.mem_append_right _ h)) (by decide +kernel))
set_option maxRecDepth 20000 in
theorem gX0_useful_X0_statesBefore : GoodIn wsX0_useful (wsV RX0 53 RX0 yX0_statesBefore wsX0_statesBefore) := goodIn_app (goodIn_of _ (by decide +kernel)) ggX0_useful_X0_statesBefore
theorem dX0_useful_0 : decode cX0_useful 0 = .ok (.iconst 1, 1) := by decide +kernel
theorem dX0_useful_1 : decode cX0_useful 1 = .ok (.istore_n 1, 1) := by decide +kernel
theorem dX0_useful_2 : decode cX0_useful 2 = .ok (.aload_n 0, 1) := by decide +kernel
theorem dX0_useful_3 : decode cX0_useful 3 = .ok (.getfield 18, 3) := by decide +kernel
theorem dX0_useful_6 : decode cX0_useful 6 = .ok (.istore_n 2, 1) := by decide +kernel
theorem dX0_useful_7 : decode cX0_useful 7 = .ok (.iconst 1, 1) := by decide +kernel
theorem dX0_useful_8 : decode cX0_useful 8 = .ok (.istore_n 3, 1) := by decide +kernel
theorem dX0_useful_9 : decode cX0_useful 9 = .ok (.iload_n 3, 1) := by decide +kernel
theorem dX0_useful_10 : decode cX0_useful 10 = .ok (.iconst 5, 1) := by decide +kernel
theorem dX0_useful_11 : decode cX0_useful 11 = .ok (.if_icmp .ge 40, 3) := by decide +kernel
theorem dX0_useful_14 : decode cX0_useful 14 = .ok (.iload_n 1, 1) := by decide +kernel
theorem dX0_useful_15 : decode cX0_useful 15 = .ok (.aload_n 0, 1) := by decide +kernel
theorem dX0_useful_16 : decode cX0_useful 16 = .ok (.iconst 0, 1) := by decide +kernel
theorem dX0_useful_17 : decode cX0_useful 17 = .ok (.iload_n 1, 1) := by decide +kernel
theorem dX0_useful_18 : decode cX0_useful 18 = .ok (.invokevirtual 29, 3) := by decide +kernel
theorem dX0_useful_21 : decode cX0_useful 21 = .ok (.aload_n 0, 1) := by decide +kernel
theorem dX0_useful_22 : decode cX0_useful 22 = .ok (.iconst 1, 1) := by decide +kernel
theorem dX0_useful_23 : decode cX0_useful 23 = .ok (.iload_n 1, 1) := by decide +kernel
theorem dX0_useful_24 : decode cX0_useful 24 = .ok (.invokevirtual 29, 3) := by decide +kernel
theorem dX0_useful_27 : decode cX0_useful 27 = .ok (.ior, 1) := by decide +kernel
theorem dX0_useful_28 : decode cX0_useful 28 = .ok (.aload_n 0, 1) := by decide +kernel
theorem dX0_useful_29 : decode cX0_useful 29 = .ok (.iconst 2, 1) := by decide +kernel
theorem dX0_useful_30 : decode cX0_useful 30 = .ok (.iload_n 1, 1) := by decide +kernel
theorem dX0_useful_31 : decode cX0_useful 31 = .ok (.invokevirtual 29, 3) := by decide +kernel
theorem dX0_useful_34 : decode cX0_useful 34 = .ok (.ior, 1) := by decide +kernel
theorem dX0_useful_35 : decode cX0_useful 35 = .ok (.ior, 1) := by decide +kernel
theorem dX0_useful_36 : decode cX0_useful 36 = .ok (.istore_n 1, 1) := by decide +kernel
theorem dX0_useful_37 : decode cX0_useful 37 = .ok (.iload_n 2, 1) := by decide +kernel
theorem dX0_useful_38 : decode cX0_useful 38 = .ok (.aload_n 0, 1) := by decide +kernel
theorem dX0_useful_39 : decode cX0_useful 39 = .ok (.iload_n 2, 1) := by decide +kernel
theorem dX0_useful_40 : decode cX0_useful 40 = .ok (.invokevirtual 53, 3) := by decide +kernel
theorem dX0_useful_43 : decode cX0_useful 43 = .ok (.ior, 1) := by decide +kernel
theorem dX0_useful_44 : decode cX0_useful 44 = .ok (.istore_n 2, 1) := by decide +kernel
theorem dX0_useful_45 : decode cX0_useful 45 = .ok (.iinc 3 1, 3) := by decide +kernel
theorem dX0_useful_48 : decode cX0_useful 48 = .ok (.goto (-39), 3) := by decide +kernel
theorem dX0_useful_51 : decode cX0_useful 51 = .ok (.iload_n 1, 1) := by decide +kernel
theorem dX0_useful_52 : decode cX0_useful 52 = .ok (.iload_n 2, 1) := by decide +kernel
theorem dX0_useful_53 : decode cX0_useful 53 = .ok (.iand, 1) := by decide +kernel
theorem dX0_useful_54 : decode cX0_useful 54 = .ok (.ireturn, 1) := by decide +kernel
theorem dX0_statesBefore_0 : decode cX0_statesBefore 0 = .ok (.iconst 0, 1) := by decide +kernel
theorem dX0_statesBefore_1 : decode cX0_statesBefore 1 = .ok (.istore_n 2, 1) := by decide +kernel
theorem dX0_statesBefore_2 : decode cX0_statesBefore 2 = .ok (.iconst 0, 1) := by decide +kernel
theorem dX0_statesBefore_3 : decode cX0_statesBefore 3 = .ok (.istore_n 3, 1) := by decide +kernel
theorem dX0_statesBefore_4 : decode cX0_statesBefore 4 = .ok (.iload_n 3, 1) := by decide +kernel
theorem dX0_statesBefore_5 : decode cX0_statesBefore 5 = .ok (.bipush 15, 2) := by decide +kernel
theorem dX0_statesBefore_7 : decode cX0_statesBefore 7 = .ok (.if_icmp .ge 28, 3) := by decide +kernel
theorem dX0_statesBefore_10 : decode cX0_statesBefore 10 = .ok (.aload_n 0, 1) := by decide +kernel
theorem dX0_statesBefore_11 : decode cX0_statesBefore 11 = .ok (.getfield 9, 3) := by decide +kernel
theorem dX0_statesBefore_14 : decode cX0_statesBefore 14 = .ok (.iload_n 3, 1) := by decide +kernel
theorem dX0_statesBefore_15 : decode cX0_statesBefore 15 = .ok (.iaload, 1) := by decide +kernel
theorem dX0_statesBefore_16 : decode cX0_statesBefore 16 = .ok (.iload_n 1, 1) := by decide +kernel
theorem dX0_statesBefore_17 : decode cX0_statesBefore 17 = .ok (.iand, 1) := by decide +kernel
theorem dX0_statesBefore_18 : decode cX0_statesBefore 18 = .ok (.ifCond .eq 11, 3) := by decide +kernel
theorem dX0_statesBefore_21 : decode cX0_statesBefore 21 = .ok (.iload_n 2, 1) := by decide +kernel
theorem dX0_statesBefore_22 : decode cX0_statesBefore 22 = .ok (.iconst 1, 1) := by decide +kernel
theorem dX0_statesBefore_23 : decode cX0_statesBefore 23 = .ok (.iload_n 3, 1) := by decide +kernel
theorem dX0_statesBefore_24 : decode cX0_statesBefore 24 = .ok (.iconst 3, 1) := by decide +kernel
theorem dX0_statesBefore_25 : decode cX0_statesBefore 25 = .ok (.idiv, 1) := by decide +kernel
theorem dX0_statesBefore_26 : decode cX0_statesBefore 26 = .ok (.ishl, 1) := by decide +kernel
theorem dX0_statesBefore_27 : decode cX0_statesBefore 27 = .ok (.ior, 1) := by decide +kernel
theorem dX0_statesBefore_28 : decode cX0_statesBefore 28 = .ok (.istore_n 2, 1) := by decide +kernel
theorem dX0_statesBefore_29 : decode cX0_statesBefore 29 = .ok (.iinc 3 1, 3) := by decide +kernel
theorem dX0_statesBefore_32 : decode cX0_statesBefore 32 = .ok (.goto (-28), 3) := by decide +kernel
theorem dX0_statesBefore_35 : decode cX0_statesBefore 35 = .ok (.iload_n 2, 1) := by decide +kernel
theorem dX0_statesBefore_36 : decode cX0_statesBefore 36 = .ok (.ireturn, 1) := by decide +kernel
theorem dX0_rebuild_0 : decode cX0_rebuild 0 = .ok (.iconst 0, 1) := by decide +kernel
theorem dX0_rebuild_1 : decode cX0_rebuild 1 = .ok (.istore_n 1, 1) := by decide +kernel
theorem dX0_rebuild_2 : decode cX0_rebuild 2 = .ok (.iload_n 1, 1) := by decide +kernel
theorem dX0_rebuild_3 : decode cX0_rebuild 3 = .ok (.iconst 3, 1) := by decide +kernel
theorem dX0_rebuild_4 : decode cX0_rebuild 4 = .ok (.if_icmp .ge 91, 3) := by decide +kernel
theorem dX0_rebuild_7 : decode cX0_rebuild 7 = .ok (.iload_n 1, 1) := by decide +kernel
theorem dX0_rebuild_8 : decode cX0_rebuild 8 = .ok (.bipush 32, 2) := by decide +kernel
theorem dX0_rebuild_10 : decode cX0_rebuild 10 = .ok (.imul, 1) := by decide +kernel
theorem dX0_rebuild_11 : decode cX0_rebuild 11 = .ok (.istore_n 2, 1) := by decide +kernel
theorem dX0_rebuild_12 : decode cX0_rebuild 12 = .ok (.aload_n 0, 1) := by decide +kernel
theorem dX0_rebuild_13 : decode cX0_rebuild 13 = .ok (.getfield 15, 3) := by decide +kernel
theorem dX0_rebuild_16 : decode cX0_rebuild 16 = .ok (.iload_n 2, 1) := by decide +kernel
theorem dX0_rebuild_17 : decode cX0_rebuild 17 = .ok (.iconst 0, 1) := by decide +kernel
theorem dX0_rebuild_18 : decode cX0_rebuild 18 = .ok (.iastore, 1) := by decide +kernel
theorem dX0_rebuild_19 : decode cX0_rebuild 19 = .ok (.iconst 0, 1) := by decide +kernel
theorem dX0_rebuild_20 : decode cX0_rebuild 20 = .ok (.istore_n 3, 1) := by decide +kernel
theorem dX0_rebuild_21 : decode cX0_rebuild 21 = .ok (.iload_n 3, 1) := by decide +kernel
theorem dX0_rebuild_22 : decode cX0_rebuild 22 = .ok (.iconst 5, 1) := by decide +kernel
theorem dX0_rebuild_23 : decode cX0_rebuild 23 = .ok (.if_icmp .ge 66, 3) := by decide +kernel
theorem dX0_rebuild_26 : decode cX0_rebuild 26 = .ok (.iconst 1, 1) := by decide +kernel
theorem dX0_rebuild_27 : decode cX0_rebuild 27 = .ok (.iload_n 3, 1) := by decide +kernel
theorem dX0_rebuild_28 : decode cX0_rebuild 28 = .ok (.ishl, 1) := by decide +kernel
theorem dX0_rebuild_29 : decode cX0_rebuild 29 = .ok (.istore 4, 2) := by decide +kernel
theorem dX0_rebuild_31 : decode cX0_rebuild 31 = .ok (.aload_n 0, 1) := by decide +kernel
theorem dX0_rebuild_32 : decode cX0_rebuild 32 = .ok (.getfield 9, 3) := by decide +kernel
theorem dX0_rebuild_35 : decode cX0_rebuild 35 = .ok (.iload_n 3, 1) := by decide +kernel
theorem dX0_rebuild_36 : decode cX0_rebuild 36 = .ok (.iconst 3, 1) := by decide +kernel
theorem dX0_rebuild_37 : decode cX0_rebuild 37 = .ok (.imul, 1) := by decide +kernel
theorem dX0_rebuild_38 : decode cX0_rebuild 38 = .ok (.iload_n 1, 1) := by decide +kernel
theorem dX0_rebuild_39 : decode cX0_rebuild 39 = .ok (.iadd, 1) := by decide +kernel
theorem dX0_rebuild_40 : decode cX0_rebuild 40 = .ok (.iaload, 1) := by decide +kernel
theorem dX0_rebuild_41 : decode cX0_rebuild 41 = .ok (.istore 5, 2) := by decide +kernel
theorem dX0_rebuild_43 : decode cX0_rebuild 43 = .ok (.iconst 0, 1) := by decide +kernel
theorem dX0_rebuild_44 : decode cX0_rebuild 44 = .ok (.istore 6, 2) := by decide +kernel
theorem dX0_rebuild_46 : decode cX0_rebuild 46 = .ok (.iload 6, 2) := by decide +kernel
theorem dX0_rebuild_48 : decode cX0_rebuild 48 = .ok (.iload 4, 2) := by decide +kernel
theorem dX0_rebuild_50 : decode cX0_rebuild 50 = .ok (.if_icmp .ge 33, 3) := by decide +kernel
theorem dX0_rebuild_53 : decode cX0_rebuild 53 = .ok (.aload_n 0, 1) := by decide +kernel
theorem dX0_rebuild_54 : decode cX0_rebuild 54 = .ok (.getfield 15, 3) := by decide +kernel
theorem dX0_rebuild_57 : decode cX0_rebuild 57 = .ok (.iload_n 2, 1) := by decide +kernel
theorem dX0_rebuild_58 : decode cX0_rebuild 58 = .ok (.iload 4, 2) := by decide +kernel
theorem dX0_rebuild_60 : decode cX0_rebuild 60 = .ok (.iadd, 1) := by decide +kernel
theorem dX0_rebuild_61 : decode cX0_rebuild 61 = .ok (.iload 6, 2) := by decide +kernel
theorem dX0_rebuild_63 : decode cX0_rebuild 63 = .ok (.iadd, 1) := by decide +kernel
theorem dX0_rebuild_64 : decode cX0_rebuild 64 = .ok (.aload_n 0, 1) := by decide +kernel
theorem dX0_rebuild_65 : decode cX0_rebuild 65 = .ok (.getfield 15, 3) := by decide +kernel
theorem dX0_rebuild_68 : decode cX0_rebuild 68 = .ok (.iload_n 2, 1) := by decide +kernel
theorem dX0_rebuild_69 : decode cX0_rebuild 69 = .ok (.iload 6, 2) := by decide +kernel
theorem dX0_rebuild_71 : decode cX0_rebuild 71 = .ok (.iadd, 1) := by decide +kernel
theorem dX0_rebuild_72 : decode cX0_rebuild 72 = .ok (.iaload, 1) := by decide +kernel
theorem dX0_rebuild_73 : decode cX0_rebuild 73 = .ok (.iload 5, 2) := by decide +kernel
theorem dX0_rebuild_75 : decode cX0_rebuild 75 = .ok (.ior, 1) := by decide +kernel
theorem dX0_rebuild_76 : decode cX0_rebuild 76 = .ok (.iastore, 1) := by decide +kernel
theorem dX0_rebuild_77 : decode cX0_rebuild 77 = .ok (.iinc 6 1, 3) := by decide +kernel
theorem dX0_rebuild_80 : decode cX0_rebuild 80 = .ok (.goto (-34), 3) := by decide +kernel
theorem dX0_rebuild_83 : decode cX0_rebuild 83 = .ok (.iinc 3 1, 3) := by decide +kernel
theorem dX0_rebuild_86 : decode cX0_rebuild 86 = .ok (.goto (-65), 3) := by decide +kernel
theorem dX0_rebuild_89 : decode cX0_rebuild 89 = .ok (.iinc 1 1, 3) := by decide +kernel
theorem dX0_rebuild_92 : decode cX0_rebuild 92 = .ok (.goto (-90), 3) := by decide +kernel
theorem dX0_rebuild_95 : decode cX0_rebuild 95 = .ok (.return_, 1) := by decide +kernel
theorem dX0_writeTo_0 : decode cX0_writeTo 0 = .ok (.aload_n 1, 1) := by decide +kernel
theorem dX0_writeTo_1 : decode cX0_writeTo 1 = .ok (.arraylength, 1) := by decide +kernel
theorem dX0_writeTo_2 : decode cX0_writeTo 2 = .ok (.bipush 16, 2) := by decide +kernel
theorem dX0_writeTo_4 : decode cX0_writeTo 4 = .ok (.if_icmp .lt 23, 3) := by decide +kernel
theorem dX0_writeTo_7 : decode cX0_writeTo 7 = .ok (.aload_n 0, 1) := by decide +kernel
theorem dX0_writeTo_8 : decode cX0_writeTo 8 = .ok (.getfield 9, 3) := by decide +kernel
theorem dX0_writeTo_11 : decode cX0_writeTo 11 = .ok (.iconst 0, 1) := by decide +kernel
theorem dX0_writeTo_12 : decode cX0_writeTo 12 = .ok (.aload_n 1, 1) := by decide +kernel
theorem dX0_writeTo_13 : decode cX0_writeTo 13 = .ok (.iconst 0, 1) := by decide +kernel
theorem dX0_writeTo_14 : decode cX0_writeTo 14 = .ok (.bipush 15, 2) := by decide +kernel
theorem dX0_writeTo_16 : decode cX0_writeTo 16 = .ok (.invokestatic 56, 3) := by decide +kernel
theorem dX0_writeTo_19 : decode cX0_writeTo 19 = .ok (.aload_n 1, 1) := by decide +kernel
theorem dX0_writeTo_20 : decode cX0_writeTo 20 = .ok (.bipush 15, 2) := by decide +kernel
theorem dX0_writeTo_22 : decode cX0_writeTo 22 = .ok (.aload_n 0, 1) := by decide +kernel
theorem dX0_writeTo_23 : decode cX0_writeTo 23 = .ok (.getfield 18, 3) := by decide +kernel
theorem dX0_writeTo_26 : decode cX0_writeTo 26 = .ok (.iastore, 1) := by decide +kernel
theorem dX0_writeTo_27 : decode cX0_writeTo 27 = .ok (.return_, 1) := by decide +kernel
theorem dX0_readFrom_0 : decode cX0_readFrom 0 = .ok (.aload_n 1, 1) := by decide +kernel
theorem dX0_readFrom_1 : decode cX0_readFrom 1 = .ok (.arraylength, 1) := by decide +kernel
theorem dX0_readFrom_2 : decode cX0_readFrom 2 = .ok (.bipush 16, 2) := by decide +kernel
theorem dX0_readFrom_4 : decode cX0_readFrom 4 = .ok (.if_icmp .lt 23, 3) := by decide +kernel
theorem dX0_readFrom_7 : decode cX0_readFrom 7 = .ok (.aload_n 1, 1) := by decide +kernel
theorem dX0_readFrom_8 : decode cX0_readFrom 8 = .ok (.iconst 0, 1) := by decide +kernel
theorem dX0_readFrom_9 : decode cX0_readFrom 9 = .ok (.aload_n 0, 1) := by decide +kernel
theorem dX0_readFrom_10 : decode cX0_readFrom 10 = .ok (.getfield 9, 3) := by decide +kernel
theorem dX0_readFrom_13 : decode cX0_readFrom 13 = .ok (.iconst 0, 1) := by decide +kernel
theorem dX0_readFrom_14 : decode cX0_readFrom 14 = .ok (.bipush 15, 2) := by decide +kernel
theorem dX0_readFrom_16 : decode cX0_readFrom 16 = .ok (.invokestatic 56, 3) := by decide +kernel
theorem dX0_readFrom_19 : decode cX0_readFrom 19 = .ok (.aload_n 0, 1) := by decide +kernel
theorem dX0_readFrom_20 : decode cX0_readFrom 20 = .ok (.aload_n 1, 1) := by decide +kernel
theorem dX0_readFrom_21 : decode cX0_readFrom 21 = .ok (.bipush 15, 2) := by decide +kernel
theorem dX0_readFrom_23 : decode cX0_readFrom 23 = .ok (.iaload, 1) := by decide +kernel
theorem dX0_readFrom_24 : decode cX0_readFrom 24 = .ok (.putfield 18, 3) := by decide +kernel
theorem dX0_readFrom_27 : decode cX0_readFrom 27 = .ok (.return_, 1) := by decide +kernel
