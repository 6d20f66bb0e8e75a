theorem dX7_init_0 : decode cX7_init 0 = .ok (.aload_n 0, 1) := by decide +kernel
theorem dX7_init_1 : decode cX7_init 1 = .ok (.invokespecial 7, 3) := by decide +kernel
theorem dX7_init_4 : decode cX7_init 4 = .ok (.aload_n 0, 1) := by decide +kernel
theorem dX7_init_5 : decode cX7_init 5 = .ok (.bipush 8, 2) := by decide +kernel
theorem dX7_init_7 : decode cX7_init 7 = .ok (.bipush 58, 2) := by decide +kernel
theorem dX7_init_9 : decode cX7_init 9 = .ok (.multianewarray 13 2, 4) := by decide +kernel
theorem dX7_init_13 : decode cX7_init 13 = .ok (.putfield 15, 3) := by decide +kernel
theorem dX7_init_16 : decode cX7_init 16 = .ok (.aload_n 0, 1) := by decide +kernel
theorem dX7_init_17 : decode cX7_init 17 = .ok (.bipush 58, 2) := by decide +kernel
theorem dX7_init_19 : decode cX7_init 19 = .ok (.newarray .int, 2) := by decide +kernel
theorem dX7_init_21 : decode cX7_init 21 = .ok (.putfield 18, 3) := by decide +kernel
theorem dX7_init_24 : decode cX7_init 24 = .ok (.aload_n 0, 1) := by decide +kernel
theorem dX7_init_25 : decode cX7_init 25 = .ok (.iconst 0, 1) := by decide +kernel
theorem dX7_init_26 : decode cX7_init 26 = .ok (.putfield 22, 3) := by decide +kernel
theorem dX7_init_29 : decode cX7_init 29 = .ok (.aload_n 0, 1) := by decide +kernel
theorem dX7_init_30 : decode cX7_init 30 = .ok (.iconst 0, 1) := by decide +kernel
theorem dX7_init_31 : decode cX7_init 31 = .ok (.putfield 26, 3) := by decide +kernel
theorem dX7_init_34 : decode cX7_init 34 = .ok (.aload_n 0, 1) := by decide +kernel
theorem dX7_init_35 : decode cX7_init 35 = .ok (.iconst 0, 1) := by decide +kernel
theorem dX7_init_36 : decode cX7_init 36 = .ok (.putfield 29, 3) := by decide +kernel
theorem dX7_init_39 : decode cX7_init 39 = .ok (.return_, 1) := by decide +kernel
set_option maxRecDepth 20000 in
theorem ggX7_push_X7_write : GoodIn wsX7_push wsX7_write := goodIn_ca (goodIn_r _ [7, 8, 9, 10, 11, 12, 13, 14, 15, 16, 17, 18, 19, 20, 21, 22, 23, 24, 25, 31, 32, 33, 34] (by decide +kernel) (by decide +kernel)) (goodIn_sub (fun _ h => List.mem_cons_of_mem _ (List.mem_append_right _ h)) (by decide +kernel))
set_option maxRecDepth 20000 in
theorem gX7_push_X7_write : GoodIn wsX7_push (va_wsS RX7 33 yX7_write wsX7_write) := goodIn_app (goodIn_of _ (by decide +kernel)) ggX7_push_X7_write
theorem dX7_push_0 : decode cX7_push 0 = .ok (.aload_n 0, 1) := by decide +kernel
theorem dX7_push_1 : decode cX7_push 1 = .ok (.getfield 15, 3) := by decide +kernel
theorem dX7_push_4 : decode cX7_push 4 = .ok (.aload_n 0, 1) := by decide +kernel
theorem dX7_push_5 : decode cX7_push 5 = .ok (.getfield 22, 3) := by decide +kernel
theorem dX7_push_8 : decode cX7_push 8 = .ok (.bipush 7, 2) := by decide +kernel
theorem dX7_push_10 : decode cX7_push 10 = .ok (.iand, 1) := by decide +kernel
theorem dX7_push_11 : decode cX7_push 11 = .ok (.aaload, 1) := by decide +kernel
theorem dX7_push_12 : decode cX7_push 12 = .ok (.aload_n 1, 1) := by decide +kernel
theorem dX7_push_13 : decode cX7_push 13 = .ok (.aload_n 2, 1) := by decide +kernel
theorem dX7_push_14 : decode cX7_push 14 = .ok (.invokestatic 33, 3) := by decide +kernel
theorem dX7_push_17 : decode cX7_push 17 = .ok (.aload_n 0, 1) := by decide +kernel
theorem dX7_push_18 : decode cX7_push 18 = .ok (.aload_n 0, 1) := by decide +kernel
theorem dX7_push_19 : decode cX7_push 19 = .ok (.getfield 22, 3) := by decide +kernel
theorem dX7_push_22 : decode cX7_push 22 = .ok (.iconst 1, 1) := by decide +kernel
theorem dX7_push_23 : decode cX7_push 23 = .ok (.iadd, 1) := by decide +kernel
theorem dX7_push_24 : decode cX7_push 24 = .ok (.bipush 7, 2) := by decide +kernel
theorem dX7_push_26 : decode cX7_push 26 = .ok (.iand, 1) := by decide +kernel
theorem dX7_push_27 : decode cX7_push 27 = .ok (.putfield 22, 3) := by decide +kernel
theorem dX7_push_30 : decode cX7_push 30 = .ok (.aload_n 0, 1) := by decide +kernel
theorem dX7_push_31 : decode cX7_push 31 = .ok (.aload_n 0, 1) := by decide +kernel
theorem dX7_push_32 : decode cX7_push 32 = .ok (.getfield 26, 3) := by decide +kernel
theorem dX7_push_35 : decode cX7_push 35 = .ok (.bipush 8, 2) := by decide +kernel
theorem dX7_push_37 : decode cX7_push 37 = .ok (.if_icmp .ge 12, 3) := by decide +kernel
theorem dX7_push_40 : decode cX7_push 40 = .ok (.aload_n 0, 1) := by decide +kernel
theorem dX7_push_41 : decode cX7_push 41 = .ok (.getfield 26, 3) := by decide +kernel
theorem dX7_push_44 : decode cX7_push 44 = .ok (.iconst 1, 1) := by decide +kernel
theorem dX7_push_45 : decode cX7_push 45 = .ok (.iadd, 1) := by decide +kernel
theorem dX7_push_46 : decode cX7_push 46 = .ok (.goto 5, 3) := by decide +kernel
theorem dX7_push_49 : decode cX7_push 49 = .ok (.bipush 8, 2) := by decide +kernel
theorem dX7_push_51 : decode cX7_push 51 = .ok (.putfield 26, 3) := by decide +kernel
theorem dX7_push_54 : decode cX7_push 54 = .ok (.return_, 1) := by decide +kernel
set_option maxRecDepth 20000 in
theorem ggX7_pop_X7_read : GoodIn wsX7_pop wsX7_read := goodIn_ca (goodIn_r _ [7, 8, 9, 10, 11, 12, 13, 14, 15, 16, 17, 18, 19, 20, 21, 22, 23, 24, 25, 31, 32, 33, 34] (by decide +kernel) (by decide +kernel)) (goodIn_sub (fun _ h => List.mem_cons_of_mem _ (List.mem_append_right _ h)) (by decide +kernel))
set_option maxRecDepth 20000 in
theorem gX7_pop_X7_read : GoodIn wsX7_pop (va_wsS RX7 37 yX7_read wsX7_read) := goodIn_app (goodIn_of _ (by decide +kernel)) ggX7_pop_X7_read
theorem dX7_pop_0 : decode cX7_pop 0 = .ok (.aload_n 0, 1) := by decide +kernel
theorem dX7_pop_1 : decode cX7_pop 1 = .ok (.getfield 26, 3) := by decide +kernel
theorem dX7_pop_4 : decode cX7_pop 4 = .ok (.ifCond .le 40, 3) := by decide +kernel
theorem dX7_pop_7 : decode cX7_pop 7 = .ok (.aload_n 0, 1) := by decide +kernel
theorem dX7_pop_8 : decode cX7_pop 8 = .ok (.aload_n 0, 1) := by decide +kernel
theorem dX7_pop_9 : decode cX7_pop 9 = .ok (.getfield 22, 3) := by decide +kernel
theorem dX7_pop_12 : decode cX7_pop 12 = .ok (.iconst 1, 1) := by decide +kernel
theorem dX7_pop_13 : decode cX7_pop 13 = .ok (.isub, 1) := by decide +kernel
theorem dX7_pop_14 : decode cX7_pop 14 = .ok (.bipush 7, 2) := by decide +kernel
theorem dX7_pop_16 : decode cX7_pop 16 = .ok (.iand, 1) := by decide +kernel
theorem dX7_pop_17 : decode cX7_pop 17 = .ok (.putfield 22, 3) := by decide +kernel
theorem dX7_pop_20 : decode cX7_pop 20 = .ok (.aload_n 0, 1) := by decide +kernel
theorem dX7_pop_21 : decode cX7_pop 21 = .ok (.dup, 1) := by decide +kernel
theorem dX7_pop_22 : decode cX7_pop 22 = .ok (.getfield 26, 3) := by decide +kernel
theorem dX7_pop_25 : decode cX7_pop 25 = .ok (.iconst 1, 1) := by decide +kernel
theorem dX7_pop_26 : decode cX7_pop 26 = .ok (.isub, 1) := by decide +kernel
theorem dX7_pop_27 : decode cX7_pop 27 = .ok (.putfield 26, 3) := by decide +kernel
theorem dX7_pop_30 : decode cX7_pop 30 = .ok (.aload_n 0, 1) := by decide +kernel
theorem dX7_pop_31 : decode cX7_pop 31 = .ok (.getfield 15, 3) := by decide +kernel
theorem dX7_pop_34 : decode cX7_pop 34 = .ok (.aload_n 0, 1) := by decide +kernel
theorem dX7_pop_35 : decode cX7_pop 35 = .ok (.getfield 22, 3) := by decide +kernel
theorem dX7_pop_38 : decode cX7_pop 38 = .ok (.aaload, 1) := by decide +kernel
theorem dX7_pop_39 : decode cX7_pop 39 = .ok (.aload_n 1, 1) := by decide +kernel
theorem dX7_pop_40 : decode cX7_pop 40 = .ok (.aload_n 2, 1) := by decide +kernel
theorem dX7_pop_41 : decode cX7_pop 41 = .ok (.invokestatic 37, 3) := by decide +kernel
theorem dX7_pop_44 : decode cX7_pop 44 = .ok (.return_, 1) := by decide +kernel
set_option maxRecDepth 20000 in
theorem ggX7_keep_X7_write : GoodIn wsX7_keep wsX7_write := goodIn_ca (goodIn_r _ [6, 7, 8, 9, 10, 11, 12, 13, 14, 15, 16, 17, 18, 19, 20, 21, 22, 23, 24, 30, 31, 32, 33] (by decide +kernel) (by decide +kernel)) (goodIn_sub (fun _ h => List.mem_cons_of_mem _ (List.mem_append_right _ h)) (by decide +kernel))
set_option maxRecDepth 20000 in
theorem gX7_keep_X7_write : GoodIn wsX7_keep (va_wsS RX7 33 yX7_write wsX7_write) := goodIn_app (goodIn_of _ (by decide +kernel)) ggX7_keep_X7_write
theorem dX7_keep_0 : decode cX7_keep 0 = .ok (.aload_n 0, 1) := by decide +kernel
theorem dX7_keep_1 : decode cX7_keep 1 = .ok (.getfield 18, 3) := by decide +kernel
theorem dX7_keep_4 : decode cX7_keep 4 = .ok (.aload_n 1, 1) := by decide +kernel
theorem dX7_keep_5 : decode cX7_keep 5 = .ok (.aload_n 2, 1) := by decide +kernel
theorem dX7_keep_6 : decode cX7_keep 6 = .ok (.invokestatic 33, 3) := by decide +kernel
theorem dX7_keep_9 : decode cX7_keep 9 = .ok (.aload_n 0, 1) := by decide +kernel
theorem dX7_keep_10 : decode cX7_keep 10 = .ok (.iconst 1, 1) := by decide +kernel
theorem dX7_keep_11 : decode cX7_keep 11 = .ok (.putfield 29, 3) := by decide +kernel
theorem dX7_keep_14 : decode cX7_keep 14 = .ok (.return_, 1) := by decide +kernel
set_option maxRecDepth 20000 in
theorem ggX7_recall_X7_read : GoodIn wsX7_recall wsX7_read := goodIn_ca (goodIn_r _ [6, 7, 8, 9, 10, 11, 12, 13, 14, 15, 16, 17, 18, 19, 20, 21, 22, 23, 24, 30, 31, 32, 33] (by decide +kernel) (by decide +kernel)) (goodIn_sub (fun _ h => List.mem_cons_of_mem _ (List.mem_append_right _ h)) (by decide +kernel))
set_option maxRecDepth 20000 in
theorem gX7_recall_X7_read : GoodIn wsX7_recall (va_wsS RX7 37 yX7_read wsX7_read) := goodIn_app (goodIn_of _ (by decide +kernel)) ggX7_recall_X7_read
theorem dX7_recall_0 : decode cX7_recall 0 = .ok (.aload_n 0, 1) := by decide +kernel
theorem dX7_recall_1 : decode cX7_recall 1 = .ok (.getfield 29, 3) := by decide +kernel
theorem dX7_recall_4 : decode cX7_recall 4 = .ok (.ifCond .eq 12, 3) := by decide +kernel
theorem dX7_recall_7 : decode cX7_recall 7 = .ok (.aload_n 0, 1) := by decide +kernel
theorem dX7_recall_8 : decode cX7_recall 8 = .ok (.getfield 18, 3) := by decide +kernel
theorem dX7_recall_11 : decode cX7_recall 11 = .ok (.aload_n 1, 1) := by decide +kernel
theorem dX7_recall_12 : decode cX7_recall 12 = .ok (.aload_n 2, 1) := by decide +kernel
theorem dX7_recall_13 : decode cX7_recall 13 = .ok (.invokestatic 37, 3) := by decide +kernel
theorem dX7_recall_16 : decode cX7_recall 16 = .ok (.return_, 1) := by decide +kernel
set_option maxRecDepth 20000 in
theorem ggX7_write_X0_writeTo : GoodIn wsX7_write wsX0_writeTo := goodIn_ca (goodIn_r _ [5, 6, 7, 8, 9, 10, 11, 19, 20, 21] (by decide +kernel) (by decide +kernel)) (goodIn_sub (fun _ h => List.mem_cons_of_mem _ (List.mem_append_right _ h)) (by decide +kernel))
set_option maxRecDepth 20000 in
theorem gX7_write_X0_writeTo : GoodIn wsX7_write (wsV RX7 40 RX0 yX0_writeTo wsX0_writeTo) := goodIn_app (goodIn_of _ (by decide +kernel)) ggX7_write_X0_writeTo
set_option maxRecDepth 20000 in
theorem ggX7_write_X3_writeTo : GoodIn wsX7_write wsX3_writeTo := goodIn_r _ [16, 17, 18, 8, 9, 10, 22] (by decide +kernel) (by decide +kernel)
set_option maxRecDepth 20000 in
theorem gX7_write_X3_writeTo : GoodIn wsX7_write (wsV RX7 44 RX3 yX3_writeTo wsX3_writeTo) := goodIn_app (goodIn_of _ (by decide +kernel)) ggX7_write_X3_writeTo
theorem dX7_write_0 : decode cX7_write 0 = .ok (.aload_n 1, 1) := by decide +kernel
theorem dX7_write_1 : decode cX7_write 1 = .ok (.aload_n 0, 1) := by decide +kernel
theorem dX7_write_2 : decode cX7_write 2 = .ok (.invokevirtual 40, 3) := by decide +kernel
theorem dX7_write_5 : decode cX7_write 5 = .ok (.aload_n 2, 1) := by decide +kernel
theorem dX7_write_6 : decode cX7_write 6 = .ok (.aload_n 0, 1) := by decide +kernel
theorem dX7_write_7 : decode cX7_write 7 = .ok (.bipush 16, 2) := by decide +kernel
theorem dX7_write_9 : decode cX7_write 9 = .ok (.invokevirtual 44, 3) := by decide +kernel
theorem dX7_write_12 : decode cX7_write 12 = .ok (.return_, 1) := by decide +kernel
set_option maxRecDepth 20000 in
theorem ggX7_read_X0_readFrom : GoodIn wsX7_read wsX0_readFrom := goodIn_ca (goodIn_r _ [5, 6, 7, 8, 9, 10, 11, 19, 20, 21] (by decide +kernel) (by decide +kernel)) (goodIn_sub (fun _ h => List.mem_cons_of_mem _ (List.mem_append_right _ h)) (by decide +kernel))
set_option maxRecDepth 20000 in
theorem gX7_read_X0_readFrom : GoodIn wsX7_read (wsV RX7 47 RX0 yX0_readFrom wsX0_readFrom) := goodIn_app (goodIn_of _ (by decide +kernel)) ggX7_read_X0_readFrom
set_option maxRecDepth 20000 in
theorem ggX7_read_X3_readFrom : GoodIn wsX7_read wsX3_readFrom := goodIn_r _ [16, 17, 18, 8, 9, 10, 22] (by decide +kernel) (by decide +kernel)
set_option maxRecDepth 20000 in
theorem gX7_read_X3_readFrom : GoodIn wsX7_read (wsV RX7 50 RX3 yX3_readFrom wsX3_readFrom) := goodIn_app (goodIn_of _ (by decide +kernel)) ggX7_read_X3_readFrom
theorem dX7_read_0 : decode cX7_read 0 = .ok (.aload_n 1, 1) := by decide +kernel
theorem dX7_read_1 : decode cX7_read 1 = .ok (.aload_n 0, 1) := by decide +kernel
theorem dX7_read_2 : decode cX7_read 2 = .ok (.invokevirtual 47, 3) := by decide +kernel
theorem dX7_read_5 : decode cX7_read 5 = .ok (.aload_n 2, 1) := by decide +kernel
theorem dX7_read_6 : decode cX7_read 6 = .ok (.aload_n 0, 1) := by decide +kernel
theorem dX7_read_7 : decode cX7_read 7 = .ok (.bipush 16, 2) := by decide +kernel
theorem dX7_read_9 : decode cX7_read 9 = .ok (.invokevirtual 50, 3) := by decide +kernel
theorem dX7_read_12 : decode cX7_read 12 = .ok (.return_, 1) := by decide +kernel
