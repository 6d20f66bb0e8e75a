theorem dX1_init_0 : decode cX1_init 0 = .ok (.aload_n 0, 1) := by decide +kernel
theorem dX1_init_1 : decode cX1_init 1 = .ok (.invokespecial 3, 3) := by decide +kernel
theorem dX1_init_4 : decode cX1_init 4 = .ok (.aload_n 0, 1) := by decide +kernel
theorem dX1_init_5 : decode cX1_init 5 = .ok (.bipush 40, 2) := by decide +kernel
theorem dX1_init_7 : decode cX1_init 7 = .ok (.newarray .int, 2) := by decide +kernel
theorem dX1_init_9 : decode cX1_init 9 = .ok (.putfield 11, 3) := by decide +kernel
theorem dX1_init_12 : decode cX1_init 12 = .ok (.aload_n 0, 1) := by decide +kernel
theorem dX1_init_13 : decode cX1_init 13 = .ok (.iconst 0, 1) := by decide +kernel
theorem dX1_init_14 : decode cX1_init 14 = .ok (.putfield 15, 3) := by decide +kernel
theorem dX1_init_17 : decode cX1_init 17 = .ok (.aload_n 0, 1) := by decide +kernel
theorem dX1_init_18 : decode cX1_init 18 = .ok (.iconst (-1), 1) := by decide +kernel
theorem dX1_init_19 : decode cX1_init 19 = .ok (.putfield 19, 3) := by decide +kernel
theorem dX1_init_22 : decode cX1_init 22 = .ok (.aload_n 0, 1) := by decide +kernel
theorem dX1_init_23 : decode cX1_init 23 = .ok (.bipush 15, 2) := by decide +kernel
theorem dX1_init_25 : decode cX1_init 25 = .ok (.newarray .int, 2) := by decide +kernel
theorem dX1_init_27 : decode cX1_init 27 = .ok (.putfield 22, 3) := by decide +kernel
theorem dX1_init_30 : decode cX1_init 30 = .ok (.aload_n 0, 1) := by decide +kernel
theorem dX1_init_31 : decode cX1_init 31 = .ok (.iconst 0, 1) := by decide +kernel
theorem dX1_init_32 : decode cX1_init 32 = .ok (.putfield 25, 3) := by decide +kernel
theorem dX1_init_35 : decode cX1_init 35 = .ok (.return_, 1) := by decide +kernel
theorem dX1_isFull_0 : decode cX1_isFull 0 = .ok (.aload_n 0, 1) := by decide +kernel
theorem dX1_isFull_1 : decode cX1_isFull 1 = .ok (.getfield 15, 3) := by decide +kernel
theorem dX1_isFull_4 : decode cX1_isFull 4 = .ok (.ifCond .lt 12, 3) := by decide +kernel
theorem dX1_isFull_7 : decode cX1_isFull 7 = .ok (.aload_n 0, 1) := by decide +kernel
theorem dX1_isFull_8 : decode cX1_isFull 8 = .ok (.getfield 15, 3) := by decide +kernel
theorem dX1_isFull_11 : decode cX1_isFull 11 = .ok (.bipush 40, 2) := by decide +kernel
theorem dX1_isFull_13 : decode cX1_isFull 13 = .ok (.if_icmp .lt 7, 3) := by decide +kernel
theorem dX1_isFull_16 : decode cX1_isFull 16 = .ok (.iconst 1, 1) := by decide +kernel
theorem dX1_isFull_17 : decode cX1_isFull 17 = .ok (.goto 4, 3) := by decide +kernel
theorem dX1_isFull_20 : decode cX1_isFull 20 = .ok (.iconst 0, 1) := by decide +kernel
theorem dX1_isFull_21 : decode cX1_isFull 21 = .ok (.ireturn, 1) := by decide +kernel
set_option maxRecDepth 20000 in
theorem ggX1_append_X1_isFull : GoodIn wsX1_append wsX1_isFull := goodIn_r _ [7, 2, 8, 9, 10, 11, 12] (by decide +kernel) (by decide +kernel)
set_option maxRecDepth 20000 in
theorem gX1_append_X1_isFull : GoodIn wsX1_append (wsV RX1 28 RX1 yX1_isFull wsX1_isFull) := goodIn_app (goodIn_of _ (by decide +kernel)) ggX1_append_X1_isFull
theorem dX1_append_0 : decode cX1_append 0 = .ok (.aload_n 0, 1) := by decide +kernel
theorem dX1_append_1 : decode cX1_append 1 = .ok (.invokevirtual 28, 3) := by decide +kernel
theorem dX1_append_4 : decode cX1_append 4 = .ok (.ifCond .ne 23, 3) := by decide +kernel
theorem dX1_append_7 : decode cX1_append 7 = .ok (.aload_n 0, 1) := by decide +kernel
theorem dX1_append_8 : decode cX1_append 8 = .ok (.getfield 11, 3) := by decide +kernel
theorem dX1_append_11 : decode cX1_append 11 = .ok (.aload_n 0, 1) := by decide +kernel
theorem dX1_append_12 : decode cX1_append 12 = .ok (.getfield 15, 3) := by decide +kernel
theorem dX1_append_15 : decode cX1_append 15 = .ok (.iload_n 1, 1) := by decide +kernel
theorem dX1_append_16 : decode cX1_append 16 = .ok (.iastore, 1) := by decide +kernel
theorem dX1_append_17 : decode cX1_append 17 = .ok (.aload_n 0, 1) := by decide +kernel
theorem dX1_append_18 : decode cX1_append 18 = .ok (.dup, 1) := by decide +kernel
theorem dX1_append_19 : decode cX1_append 19 = .ok (.getfield 15, 3) := by decide +kernel
theorem dX1_append_22 : decode cX1_append 22 = .ok (.iconst 1, 1) := by decide +kernel
theorem dX1_append_23 : decode cX1_append 23 = .ok (.iadd, 1) := by decide +kernel
theorem dX1_append_24 : decode cX1_append 24 = .ok (.putfield 15, 3) := by decide +kernel
theorem dX1_append_27 : decode cX1_append 27 = .ok (.aload_n 0, 1) := by decide +kernel
theorem dX1_append_28 : decode cX1_append 28 = .ok (.getfield 15, 3) := by decide +kernel
theorem dX1_append_31 : decode cX1_append 31 = .ok (.ireturn, 1) := by decide +kernel
set_option maxRecDepth 20000 in
theorem ggX1_read_X1_findFault : GoodIn wsX1_read wsX1_findFault := goodIn_ca (goodIn_r _ [7, 2, 8, 9, 10, 6, 11, 12, 13, 14, 15, 16, 31, 32, 33, 34, 35] (by decide +kernel) (by decide +kernel)) (goodIn_sub (fun _ h => List.mem_cons_of_mem _ (List.mem_append_right _ h)) (by decide +kernel))
set_option maxRecDepth 20000 in
theorem gX1_read_X1_findFault : GoodIn wsX1_read (wsV RX1 32 RX1 yX1_findFault wsX1_findFault) := goodIn_app (goodIn_of _ (by decide +kernel)) ggX1_read_X1_findFault
set_option maxRecDepth 20000 in
theorem ggX1_read_X1_gatherItems : GoodIn wsX1_read wsX1_gatherItems := goodIn_ca (goodIn_r _ [20, 21, 22, 2, 8, 12, 13, 14, 15, 16, 23, 24, 25, 6, 26, 27, 28, 29, 30, 31, 32, 33, 34, 35] (by decide +kernel) (by decide +kernel)) (goodIn_sub (fun _ h => List.mem_cons_of_mem _ (List.mem_append_right _ h)) (by decide +kernel))
set_option maxRecDepth 20000 in
theorem gX1_read_X1_gatherItems : GoodIn wsX1_read (wsV RX1 36 RX1 yX1_gatherItems wsX1_gatherItems) := goodIn_app (goodIn_of _ (by decide +kernel)) ggX1_read_X1_gatherItems
theorem dX1_read_0 : decode cX1_read 0 = .ok (.aload_n 0, 1) := by decide +kernel
theorem dX1_read_1 : decode cX1_read 1 = .ok (.aload_n 0, 1) := by decide +kernel
theorem dX1_read_2 : decode cX1_read 2 = .ok (.invokevirtual 32, 3) := by decide +kernel
theorem dX1_read_5 : decode cX1_read 5 = .ok (.putfield 19, 3) := by decide +kernel
theorem dX1_read_8 : decode cX1_read 8 = .ok (.aload_n 0, 1) := by decide +kernel
theorem dX1_read_9 : decode cX1_read 9 = .ok (.getfield 19, 3) := by decide +kernel
theorem dX1_read_12 : decode cX1_read 12 = .ok (.ifCond .ge 7, 3) := by decide +kernel
theorem dX1_read_15 : decode cX1_read 15 = .ok (.aload_n 0, 1) := by decide +kernel
theorem dX1_read_16 : decode cX1_read 16 = .ok (.invokevirtual 36, 3) := by decide +kernel
theorem dX1_read_19 : decode cX1_read 19 = .ok (.aload_n 0, 1) := by decide +kernel
theorem dX1_read_20 : decode cX1_read 20 = .ok (.iconst 0, 1) := by decide +kernel
theorem dX1_read_21 : decode cX1_read 21 = .ok (.putfield 15, 3) := by decide +kernel
theorem dX1_read_24 : decode cX1_read 24 = .ok (.return_, 1) := by decide +kernel
set_option maxRecDepth 20000 in
theorem ggX1_findFault_X1_stageAfter : GoodIn wsX1_findFault wsX1_stageAfter := goodIn_r _ [6, 7, 8, 9, 10, 11] (by decide +kernel) (by decide +kernel)
set_option maxRecDepth 20000 in
theorem gX1_findFault_X1_stageAfter : GoodIn wsX1_findFault (va_wsS RX1 39 yX1_stageAfter wsX1_stageAfter) := goodIn_app (goodIn_of _ (by decide +kernel)) ggX1_findFault_X1_stageAfter
theorem dX1_findFault_0 : decode cX1_findFault 0 = .ok (.iconst 0, 1) := by decide +kernel
theorem dX1_findFault_1 : decode cX1_findFault 1 = .ok (.istore_n 1, 1) := by decide +kernel
theorem dX1_findFault_2 : decode cX1_findFault 2 = .ok (.iconst 0, 1) := by decide +kernel
theorem dX1_findFault_3 : decode cX1_findFault 3 = .ok (.istore_n 2, 1) := by decide +kernel
theorem dX1_findFault_4 : decode cX1_findFault 4 = .ok (.iload_n 2, 1) := by decide +kernel
theorem dX1_findFault_5 : decode cX1_findFault 5 = .ok (.aload_n 0, 1) := by decide +kernel
theorem dX1_findFault_6 : decode cX1_findFault 6 = .ok (.getfield 15, 3) := by decide +kernel
theorem dX1_findFault_9 : decode cX1_findFault 9 = .ok (.if_icmp .ge 33, 3) := by decide +kernel
theorem dX1_findFault_12 : decode cX1_findFault 12 = .ok (.iload_n 2, 1) := by decide +kernel
theorem dX1_findFault_13 : decode cX1_findFault 13 = .ok (.bipush 40, 2) := by decide +kernel
theorem dX1_findFault_15 : decode cX1_findFault 15 = .ok (.if_icmp .ge 27, 3) := by decide +kernel
theorem dX1_findFault_18 : decode cX1_findFault 18 = .ok (.iload_n 1, 1) := by decide +kernel
theorem dX1_findFault_19 : decode cX1_findFault 19 = .ok (.aload_n 0, 1) := by decide +kernel
theorem dX1_findFault_20 : decode cX1_findFault 20 = .ok (.getfield 11, 3) := by decide +kernel
theorem dX1_findFault_23 : decode cX1_findFault 23 = .ok (.iload_n 2, 1) := by decide +kernel
theorem dX1_findFault_24 : decode cX1_findFault 24 = .ok (.iaload, 1) := by decide +kernel
theorem dX1_findFault_25 : decode cX1_findFault 25 = .ok (.invokestatic 39, 3) := by decide +kernel
theorem dX1_findFault_28 : decode cX1_findFault 28 = .ok (.istore_n 1, 1) := by decide +kernel
theorem dX1_findFault_29 : decode cX1_findFault 29 = .ok (.iload_n 1, 1) := by decide +kernel
theorem dX1_findFault_30 : decode cX1_findFault 30 = .ok (.iconst 5, 1) := by decide +kernel
theorem dX1_findFault_31 : decode cX1_findFault 31 = .ok (.if_icmp .ne 5, 3) := by decide +kernel
theorem dX1_findFault_34 : decode cX1_findFault 34 = .ok (.iload_n 2, 1) := by decide +kernel
theorem dX1_findFault_35 : decode cX1_findFault 35 = .ok (.ireturn, 1) := by decide +kernel
theorem dX1_findFault_36 : decode cX1_findFault 36 = .ok (.iinc 2 1, 3) := by decide +kernel
theorem dX1_findFault_39 : decode cX1_findFault 39 = .ok (.goto (-35), 3) := by decide +kernel
theorem dX1_findFault_42 : decode cX1_findFault 42 = .ok (.iload_n 1, 1) := by decide +kernel
theorem dX1_findFault_43 : decode cX1_findFault 43 = .ok (.iconst 4, 1) := by decide +kernel
theorem dX1_findFault_44 : decode cX1_findFault 44 = .ok (.if_icmp .ne 7, 3) := by decide +kernel
theorem dX1_findFault_47 : decode cX1_findFault 47 = .ok (.iconst (-1), 1) := by decide +kernel
theorem dX1_findFault_48 : decode cX1_findFault 48 = .ok (.goto 7, 3) := by decide +kernel
theorem dX1_findFault_51 : decode cX1_findFault 51 = .ok (.aload_n 0, 1) := by decide +kernel
theorem dX1_findFault_52 : decode cX1_findFault 52 = .ok (.getfield 15, 3) := by decide +kernel
theorem dX1_findFault_55 : decode cX1_findFault 55 = .ok (.ireturn, 1) := by decide +kernel
set_option maxRecDepth 20000 in
theorem ggX1_stageAfter_X10_isState : GoodIn wsX1_stageAfter wsX10_isState := goodIn_r _ [3] (by decide +kernel) (by decide +kernel)
set_option maxRecDepth 20000 in
theorem gX1_stageAfter_X10_isState_n43 : GoodIn wsX1_stageAfter (wsX10_isState) := ggX1_stageAfter_X10_isState
set_option maxRecDepth 20000 in
theorem ggX1_stageAfter_X10_isLetter : GoodIn wsX1_stageAfter wsX10_isLetter := goodIn_r _ [5] (by decide +kernel) (by decide +kernel)
set_option maxRecDepth 20000 in
theorem gX1_stageAfter_X10_isLetter_n47 : GoodIn wsX1_stageAfter (wsX10_isLetter) := ggX1_stageAfter_X10_isLetter
theorem dX1_stageAfter_0 : decode cX1_stageAfter 0 = .ok (.iload_n 1, 1) := by decide +kernel
theorem dX1_stageAfter_1 : decode cX1_stageAfter 1 = .ok (.bipush 48, 2) := by decide +kernel
theorem dX1_stageAfter_3 : decode cX1_stageAfter 3 = .ok (.isub, 1) := by decide +kernel
theorem dX1_stageAfter_4 : decode cX1_stageAfter 4 = .ok (.invokestatic 43, 3) := by decide +kernel
theorem dX1_stageAfter_7 : decode cX1_stageAfter 7 = .ok (.istore_n 2, 1) := by decide +kernel
theorem dX1_stageAfter_8 : decode cX1_stageAfter 8 = .ok (.iload_n 0, 1) := by decide +kernel
theorem dX1_stageAfter_9 : decode cX1_stageAfter 9 = .ok (.tableswitch 77 0 3 #[31, 51, 67, 67], 31) := by decide +kernel
theorem dX1_stageAfter_40 : decode cX1_stageAfter 40 = .ok (.iload_n 2, 1) := by decide +kernel
theorem dX1_stageAfter_41 : decode cX1_stageAfter 41 = .ok (.ifCond .eq 7, 3) := by decide +kernel
theorem dX1_stageAfter_44 : decode cX1_stageAfter 44 = .ok (.iconst 1, 1) := by decide +kernel
theorem dX1_stageAfter_45 : decode cX1_stageAfter 45 = .ok (.goto 14, 3) := by decide +kernel
theorem dX1_stageAfter_48 : decode cX1_stageAfter 48 = .ok (.iload_n 1, 1) := by decide +kernel
theorem dX1_stageAfter_49 : decode cX1_stageAfter 49 = .ok (.bipush 33, 2) := by decide +kernel
theorem dX1_stageAfter_51 : decode cX1_stageAfter 51 = .ok (.if_icmp .ne 7, 3) := by decide +kernel
theorem dX1_stageAfter_54 : decode cX1_stageAfter 54 = .ok (.iconst 3, 1) := by decide +kernel
theorem dX1_stageAfter_55 : decode cX1_stageAfter 55 = .ok (.goto 4, 3) := by decide +kernel
theorem dX1_stageAfter_58 : decode cX1_stageAfter 58 = .ok (.iconst 5, 1) := by decide +kernel
theorem dX1_stageAfter_59 : decode cX1_stageAfter 59 = .ok (.ireturn, 1) := by decide +kernel
theorem dX1_stageAfter_60 : decode cX1_stageAfter 60 = .ok (.iload_n 1, 1) := by decide +kernel
theorem dX1_stageAfter_61 : decode cX1_stageAfter 61 = .ok (.bipush 97, 2) := by decide +kernel
theorem dX1_stageAfter_63 : decode cX1_stageAfter 63 = .ok (.isub, 1) := by decide +kernel
theorem dX1_stageAfter_64 : decode cX1_stageAfter 64 = .ok (.invokestatic 47, 3) := by decide +kernel
theorem dX1_stageAfter_67 : decode cX1_stageAfter 67 = .ok (.ifCond .eq 7, 3) := by decide +kernel
theorem dX1_stageAfter_70 : decode cX1_stageAfter 70 = .ok (.iconst 2, 1) := by decide +kernel
theorem dX1_stageAfter_71 : decode cX1_stageAfter 71 = .ok (.goto 4, 3) := by decide +kernel
theorem dX1_stageAfter_74 : decode cX1_stageAfter 74 = .ok (.iconst 5, 1) := by decide +kernel
theorem dX1_stageAfter_75 : decode cX1_stageAfter 75 = .ok (.ireturn, 1) := by decide +kernel
theorem dX1_stageAfter_76 : decode cX1_stageAfter 76 = .ok (.iload_n 2, 1) := by decide +kernel
theorem dX1_stageAfter_77 : decode cX1_stageAfter 77 = .ok (.ifCond .eq 7, 3) := by decide +kernel
theorem dX1_stageAfter_80 : decode cX1_stageAfter 80 = .ok (.iconst 4, 1) := by decide +kernel
theorem dX1_stageAfter_81 : decode cX1_stageAfter 81 = .ok (.goto 4, 3) := by decide +kernel
theorem dX1_stageAfter_84 : decode cX1_stageAfter 84 = .ok (.iconst 5, 1) := by decide +kernel
theorem dX1_stageAfter_85 : decode cX1_stageAfter 85 = .ok (.ireturn, 1) := by decide +kernel
theorem dX1_stageAfter_86 : decode cX1_stageAfter 86 = .ok (.iload_n 1, 1) := by decide +kernel
theorem dX1_stageAfter_87 : decode cX1_stageAfter 87 = .ok (.bipush 44, 2) := by decide +kernel
theorem dX1_stageAfter_89 : decode cX1_stageAfter 89 = .ok (.if_icmp .ne 7, 3) := by decide +kernel
theorem dX1_stageAfter_92 : decode cX1_stageAfter 92 = .ok (.iconst 0, 1) := by decide +kernel
theorem dX1_stageAfter_93 : decode cX1_stageAfter 93 = .ok (.goto 4, 3) := by decide +kernel
theorem dX1_stageAfter_96 : decode cX1_stageAfter 96 = .ok (.iconst 5, 1) := by decide +kernel
theorem dX1_stageAfter_97 : decode cX1_stageAfter 97 = .ok (.ireturn, 1) := by decide +kernel
set_option maxRecDepth 20000 in
theorem ggX1_gatherItems_X10_isState : GoodIn wsX1_gatherItems wsX10_isState := goodIn_r _ [7] (by decide +kernel) (by decide +kernel)
set_option maxRecDepth 20000 in
theorem gX1_gatherItems_X10_isState_n43 : GoodIn wsX1_gatherItems (wsX10_isState) := ggX1_gatherItems_X10_isState
set_option maxRecDepth 20000 in
theorem ggX1_gatherItems_X10_isLetter : GoodIn wsX1_gatherItems wsX10_isLetter := goodIn_r _ [9] (by decide +kernel) (by decide +kernel)
set_option maxRecDepth 20000 in
theorem gX1_gatherItems_X10_isLetter_n47 : GoodIn wsX1_gatherItems (wsX10_isLetter) := ggX1_gatherItems_X10_isLetter
set_option maxRecDepth 20000 in
theorem ggX1_gatherItems_X1_wantTransition : GoodIn wsX1_gatherItems wsX1_wantTransition := goodIn_ca (goodIn_r _ [14, 1, 15, 6, 16, 17, 5, 7, 18, 8, 9, 19, 20, 21, 22, 23] (by decide +kernel) (by decide +kernel)) (goodIn_sub (fun _ h => List.mem_cons_of_mem _ (List.mem_append_right _ h)) (by decide +kernel))
set_option maxRecDepth 20000 in
theorem gX1_gatherItems_X1_wantTransition : GoodIn wsX1_gatherItems (wsV RX1 50 RX1 yX1_wantTransition wsX1_wantTransition) := goodIn_app (goodIn_of _ (by decide +kernel)) ggX1_gatherItems_X1_wantTransition
theorem dX1_gatherItems_0 : decode cX1_gatherItems 0 = .ok (.iconst 0, 1) := by decide +kernel
theorem dX1_gatherItems_1 : decode cX1_gatherItems 1 = .ok (.istore_n 1, 1) := by decide +kernel
theorem dX1_gatherItems_2 : decode cX1_gatherItems 2 = .ok (.iload_n 1, 1) := by decide +kernel
theorem dX1_gatherItems_3 : decode cX1_gatherItems 3 = .ok (.bipush 15, 2) := by decide +kernel
theorem dX1_gatherItems_5 : decode cX1_gatherItems 5 = .ok (.if_icmp .ge 16, 3) := by decide +kernel
theorem dX1_gatherItems_8 : decode cX1_gatherItems 8 = .ok (.aload_n 0, 1) := by decide +kernel
theorem dX1_gatherItems_9 : decode cX1_gatherItems 9 = .ok (.getfield 22, 3) := by decide +kernel
theorem dX1_gatherItems_12 : decode cX1_gatherItems 12 = .ok (.iload_n 1, 1) := by decide +kernel
theorem dX1_gatherItems_13 : decode cX1_gatherItems 13 = .ok (.iconst 0, 1) := by decide +kernel
theorem dX1_gatherItems_14 : decode cX1_gatherItems 14 = .ok (.iastore, 1) := by decide +kernel
theorem dX1_gatherItems_15 : decode cX1_gatherItems 15 = .ok (.iinc 1 1, 3) := by decide +kernel
theorem dX1_gatherItems_18 : decode cX1_gatherItems 18 = .ok (.goto (-16), 3) := by decide +kernel
theorem dX1_gatherItems_21 : decode cX1_gatherItems 21 = .ok (.aload_n 0, 1) := by decide +kernel
theorem dX1_gatherItems_22 : decode cX1_gatherItems 22 = .ok (.iconst 0, 1) := by decide +kernel
theorem dX1_gatherItems_23 : decode cX1_gatherItems 23 = .ok (.putfield 25, 3) := by decide +kernel
theorem dX1_gatherItems_26 : decode cX1_gatherItems 26 = .ok (.iconst 1, 1) := by decide +kernel
theorem dX1_gatherItems_27 : decode cX1_gatherItems 27 = .ok (.istore_n 1, 1) := by decide +kernel
theorem dX1_gatherItems_28 : decode cX1_gatherItems 28 = .ok (.iload_n 1, 1) := by decide +kernel
theorem dX1_gatherItems_29 : decode cX1_gatherItems 29 = .ok (.aload_n 0, 1) := by decide +kernel
theorem dX1_gatherItems_30 : decode cX1_gatherItems 30 = .ok (.getfield 15, 3) := by decide +kernel
theorem dX1_gatherItems_33 : decode cX1_gatherItems 33 = .ok (.if_icmp .ge 108, 3) := by decide +kernel
theorem dX1_gatherItems_36 : decode cX1_gatherItems 36 = .ok (.iload_n 1, 1) := by decide +kernel
theorem dX1_gatherItems_37 : decode cX1_gatherItems 37 = .ok (.bipush 40, 2) := by decide +kernel
theorem dX1_gatherItems_39 : decode cX1_gatherItems 39 = .ok (.if_icmp .ge 102, 3) := by decide +kernel
theorem dX1_gatherItems_42 : decode cX1_gatherItems 42 = .ok (.aload_n 0, 1) := by decide +kernel
theorem dX1_gatherItems_43 : decode cX1_gatherItems 43 = .ok (.getfield 11, 3) := by decide +kernel
theorem dX1_gatherItems_46 : decode cX1_gatherItems 46 = .ok (.iload_n 1, 1) := by decide +kernel
theorem dX1_gatherItems_47 : decode cX1_gatherItems 47 = .ok (.iaload, 1) := by decide +kernel
theorem dX1_gatherItems_48 : decode cX1_gatherItems 48 = .ok (.bipush 48, 2) := by decide +kernel
theorem dX1_gatherItems_50 : decode cX1_gatherItems 50 = .ok (.isub, 1) := by decide +kernel
theorem dX1_gatherItems_51 : decode cX1_gatherItems 51 = .ok (.istore_n 2, 1) := by decide +kernel
theorem dX1_gatherItems_52 : decode cX1_gatherItems 52 = .ok (.aload_n 0, 1) := by decide +kernel
theorem dX1_gatherItems_53 : decode cX1_gatherItems 53 = .ok (.getfield 11, 3) := by decide +kernel
theorem dX1_gatherItems_56 : decode cX1_gatherItems 56 = .ok (.iload_n 1, 1) := by decide +kernel
theorem dX1_gatherItems_57 : decode cX1_gatherItems 57 = .ok (.iconst 1, 1) := by decide +kernel
theorem dX1_gatherItems_58 : decode cX1_gatherItems 58 = .ok (.isub, 1) := by decide +kernel
theorem dX1_gatherItems_59 : decode cX1_gatherItems 59 = .ok (.iaload, 1) := by decide +kernel
theorem dX1_gatherItems_60 : decode cX1_gatherItems 60 = .ok (.bipush 97, 2) := by decide +kernel
theorem dX1_gatherItems_62 : decode cX1_gatherItems 62 = .ok (.isub, 1) := by decide +kernel
theorem dX1_gatherItems_63 : decode cX1_gatherItems 63 = .ok (.istore_n 3, 1) := by decide +kernel
theorem dX1_gatherItems_64 : decode cX1_gatherItems 64 = .ok (.iload_n 2, 1) := by decide +kernel
theorem dX1_gatherItems_65 : decode cX1_gatherItems 65 = .ok (.invokestatic 43, 3) := by decide +kernel
theorem dX1_gatherItems_68 : decode cX1_gatherItems 68 = .ok (.ifCond .eq 31, 3) := by decide +kernel
theorem dX1_gatherItems_71 : decode cX1_gatherItems 71 = .ok (.aload_n 0, 1) := by decide +kernel
theorem dX1_gatherItems_72 : decode cX1_gatherItems 72 = .ok (.getfield 11, 3) := by decide +kernel
theorem dX1_gatherItems_75 : decode cX1_gatherItems 75 = .ok (.iload_n 1, 1) := by decide +kernel
theorem dX1_gatherItems_76 : decode cX1_gatherItems 76 = .ok (.iconst 1, 1) := by decide +kernel
theorem dX1_gatherItems_77 : decode cX1_gatherItems 77 = .ok (.isub, 1) := by decide +kernel
theorem dX1_gatherItems_78 : decode cX1_gatherItems 78 = .ok (.iaload, 1) := by decide +kernel
theorem dX1_gatherItems_79 : decode cX1_gatherItems 79 = .ok (.bipush 33, 2) := by decide +kernel
theorem dX1_gatherItems_81 : decode cX1_gatherItems 81 = .ok (.if_icmp .ne 18, 3) := by decide +kernel
theorem dX1_gatherItems_84 : decode cX1_gatherItems 84 = .ok (.aload_n 0, 1) := by decide +kernel
theorem dX1_gatherItems_85 : decode cX1_gatherItems 85 = .ok (.dup, 1) := by decide +kernel
theorem dX1_gatherItems_86 : decode cX1_gatherItems 86 = .ok (.getfield 25, 3) := by decide +kernel
theorem dX1_gatherItems_89 : decode cX1_gatherItems 89 = .ok (.iconst 1, 1) := by decide +kernel
theorem dX1_gatherItems_90 : decode cX1_gatherItems 90 = .ok (.iload_n 2, 1) := by decide +kernel
theorem dX1_gatherItems_91 : decode cX1_gatherItems 91 = .ok (.ishl, 1) := by decide +kernel
theorem dX1_gatherItems_92 : decode cX1_gatherItems 92 = .ok (.ior, 1) := by decide +kernel
theorem dX1_gatherItems_93 : decode cX1_gatherItems 93 = .ok (.putfield 25, 3) := by decide +kernel
theorem dX1_gatherItems_96 : decode cX1_gatherItems 96 = .ok (.goto 39, 3) := by decide +kernel
theorem dX1_gatherItems_99 : decode cX1_gatherItems 99 = .ok (.iload_n 2, 1) := by decide +kernel
theorem dX1_gatherItems_100 : decode cX1_gatherItems 100 = .ok (.invokestatic 43, 3) := by decide +kernel
theorem dX1_gatherItems_103 : decode cX1_gatherItems 103 = .ok (.ifCond .eq 32, 3) := by decide +kernel
theorem dX1_gatherItems_106 : decode cX1_gatherItems 106 = .ok (.iload_n 3, 1) := by decide +kernel
theorem dX1_gatherItems_107 : decode cX1_gatherItems 107 = .ok (.invokestatic 47, 3) := by decide +kernel
theorem dX1_gatherItems_110 : decode cX1_gatherItems 110 = .ok (.ifCond .eq 25, 3) := by decide +kernel
theorem dX1_gatherItems_113 : decode cX1_gatherItems 113 = .ok (.iload_n 1, 1) := by decide +kernel
theorem dX1_gatherItems_114 : decode cX1_gatherItems 114 = .ok (.iconst 2, 1) := by decide +kernel
theorem dX1_gatherItems_115 : decode cX1_gatherItems 115 = .ok (.if_icmp .lt 20, 3) := by decide +kernel
theorem dX1_gatherItems_118 : decode cX1_gatherItems 118 = .ok (.aload_n 0, 1) := by decide +kernel
theorem dX1_gatherItems_119 : decode cX1_gatherItems 119 = .ok (.aload_n 0, 1) := by decide +kernel
theorem dX1_gatherItems_120 : decode cX1_gatherItems 120 = .ok (.getfield 11, 3) := by decide +kernel
theorem dX1_gatherItems_123 : decode cX1_gatherItems 123 = .ok (.iload_n 1, 1) := by decide +kernel
theorem dX1_gatherItems_124 : decode cX1_gatherItems 124 = .ok (.iconst 2, 1) := by decide +kernel
theorem dX1_gatherItems_125 : decode cX1_gatherItems 125 = .ok (.isub, 1) := by decide +kernel
theorem dX1_gatherItems_126 : decode cX1_gatherItems 126 = .ok (.iaload, 1) := by decide +kernel
theorem dX1_gatherItems_127 : decode cX1_gatherItems 127 = .ok (.bipush 48, 2) := by decide +kernel
theorem dX1_gatherItems_129 : decode cX1_gatherItems 129 = .ok (.isub, 1) := by decide +kernel
theorem dX1_gatherItems_130 : decode cX1_gatherItems 130 = .ok (.iload_n 3, 1) := by decide +kernel
theorem dX1_gatherItems_131 : decode cX1_gatherItems 131 = .ok (.iload_n 2, 1) := by decide +kernel
theorem dX1_gatherItems_132 : decode cX1_gatherItems 132 = .ok (.invokevirtual 50, 3) := by decide +kernel
theorem dX1_gatherItems_135 : decode cX1_gatherItems 135 = .ok (.iinc 1 1, 3) := by decide +kernel
theorem dX1_gatherItems_138 : decode cX1_gatherItems 138 = .ok (.goto (-110), 3) := by decide +kernel
theorem dX1_gatherItems_141 : decode cX1_gatherItems 141 = .ok (.return_, 1) := by decide +kernel
set_option maxRecDepth 20000 in
theorem ggX1_wantTransition_X10_isTransition : GoodIn wsX1_wantTransition wsX10_isTransition := goodIn_r _ [4, 5, 6, 3, 7, 8, 9, 10] (by decide +kernel) (by decide +kernel)
set_option maxRecDepth 20000 in
theorem gX1_wantTransition_X10_isTransition_n54 : GoodIn wsX1_wantTransition (wsX10_isTransition) := ggX1_wantTransition_X10_isTransition
theorem dX1_wantTransition_0 : decode cX1_wantTransition 0 = .ok (.iload_n 1, 1) := by decide +kernel
theorem dX1_wantTransition_1 : decode cX1_wantTransition 1 = .ok (.iload_n 2, 1) := by decide +kernel
theorem dX1_wantTransition_2 : decode cX1_wantTransition 2 = .ok (.iload_n 3, 1) := by decide +kernel
theorem dX1_wantTransition_3 : decode cX1_wantTransition 3 = .ok (.invokestatic 54, 3) := by decide +kernel
theorem dX1_wantTransition_6 : decode cX1_wantTransition 6 = .ok (.ifCond .eq 19, 3) := by decide +kernel
theorem dX1_wantTransition_9 : decode cX1_wantTransition 9 = .ok (.aload_n 0, 1) := by decide +kernel
theorem dX1_wantTransition_10 : decode cX1_wantTransition 10 = .ok (.getfield 22, 3) := by decide +kernel
theorem dX1_wantTransition_13 : decode cX1_wantTransition 13 = .ok (.iload_n 1, 1) := by decide +kernel
theorem dX1_wantTransition_14 : decode cX1_wantTransition 14 = .ok (.iconst 3, 1) := by decide +kernel
theorem dX1_wantTransition_15 : decode cX1_wantTransition 15 = .ok (.imul, 1) := by decide +kernel
theorem dX1_wantTransition_16 : decode cX1_wantTransition 16 = .ok (.iload_n 2, 1) := by decide +kernel
theorem dX1_wantTransition_17 : decode cX1_wantTransition 17 = .ok (.iadd, 1) := by decide +kernel
theorem dX1_wantTransition_18 : decode cX1_wantTransition 18 = .ok (.dup2, 1) := by decide +kernel
theorem dX1_wantTransition_19 : decode cX1_wantTransition 19 = .ok (.iaload, 1) := by decide +kernel
theorem dX1_wantTransition_20 : decode cX1_wantTransition 20 = .ok (.iconst 1, 1) := by decide +kernel
theorem dX1_wantTransition_21 : decode cX1_wantTransition 21 = .ok (.iload_n 3, 1) := by decide +kernel
theorem dX1_wantTransition_22 : decode cX1_wantTransition 22 = .ok (.ishl, 1) := by decide +kernel
theorem dX1_wantTransition_23 : decode cX1_wantTransition 23 = .ok (.ior, 1) := by decide +kernel
theorem dX1_wantTransition_24 : decode cX1_wantTransition 24 = .ok (.iastore, 1) := by decide +kernel
theorem dX1_wantTransition_25 : decode cX1_wantTransition 25 = .ok (.return_, 1) := by decide +kernel
