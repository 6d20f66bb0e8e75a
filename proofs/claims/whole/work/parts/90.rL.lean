set_option maxRecDepth 20000 in
theorem ggL_appendCharacter_X10_appendCharacter : GoodIn wsL_appendCharacter wsX10_appendCharacter := goodIn_ca (goodIn_ca (goodIn_ca (goodIn_r _ [6, 7, 8, 9, 10, 11, 12, 13, 14, 15, 16, 17, 18, 19, 20, 21, 22, 23, 24, 25, 26, 27, 28, 29, 30, 31, 32, 33, 34, 35, 36, 37, 38, 39, 40, 41, 42, 43] (by decide +kernel) (by decide +kernel)) (goodIn_sub (fun _ h => List.mem_cons_of_mem _ (List.mem_append_left _ (List.mem_append_right _ h))) (by decide +kernel))) (goodIn_sub (fun _ h => List.mem_cons_of_mem _ (List.mem_append_right _ h)) (by decide +kernel))) (goodIn_sub (fun _ h => List.mem_cons_of_mem _ (List.mem_append_left _ (List.mem_append_left _ (List.mem_append_right _ h)))) (by decide +kernel))
set_option maxRecDepth 20000 in
theorem gL_appendCharacter_X10_appendCharacter : GoodIn wsL_appendCharacter (wsV RL 7 RX10 yX10_appendCharacter wsX10_appendCharacter) := goodIn_app (goodIn_of _ (by decide +kernel)) ggL_appendCharacter_X10_appendCharacter
theorem dL_appendCharacter_0 : decode cL_appendCharacter 0 = .ok (.aload_n 2, 1) := by decide +kernel
theorem dL_appendCharacter_1 : decode cL_appendCharacter 1 = .ok (.iconst 0, 1) := by decide +kernel
theorem dL_appendCharacter_2 : decode cL_appendCharacter 2 = .ok (.aload_n 0, 1) := by decide +kernel
theorem dL_appendCharacter_3 : decode cL_appendCharacter 3 = .ok (.iload_n 1, 1) := by decide +kernel
theorem dL_appendCharacter_4 : decode cL_appendCharacter 4 = .ok (.invokevirtual 7, 3) := by decide +kernel
theorem dL_appendCharacter_7 : decode cL_appendCharacter 7 = .ok (.i2l, 1) := by decide +kernel
theorem dL_appendCharacter_8 : decode cL_appendCharacter 8 = .ok (.lastore, 1) := by decide +kernel
theorem dL_appendCharacter_9 : decode cL_appendCharacter 9 = .ok (.goto 9, 3) := by decide +kernel
theorem dL_appendCharacter_12 : decode cL_appendCharacter 12 = .ok (.astore_n 3, 1) := by decide +kernel
theorem dL_appendCharacter_13 : decode cL_appendCharacter 13 = .ok (.iconst 1, 1) := by decide +kernel
theorem dL_appendCharacter_14 : decode cL_appendCharacter 14 = .ok (.ireturn, 1) := by decide +kernel
theorem dL_appendCharacter_15 : decode cL_appendCharacter 15 = .ok (.astore_n 3, 1) := by decide +kernel
theorem dL_appendCharacter_16 : decode cL_appendCharacter 16 = .ok (.iconst 2, 1) := by decide +kernel
theorem dL_appendCharacter_17 : decode cL_appendCharacter 17 = .ok (.ireturn, 1) := by decide +kernel
theorem dL_appendCharacter_18 : decode cL_appendCharacter 18 = .ok (.iconst 0, 1) := by decide +kernel
theorem dL_appendCharacter_19 : decode cL_appendCharacter 19 = .ok (.ireturn, 1) := by decide +kernel
set_option maxRecDepth 20000 in
theorem ggL_addText_X10_addText : GoodIn wsL_addText wsX10_addText := goodIn_ca (goodIn_ca (goodIn_ca (goodIn_r _ [6, 7, 8, 9, 10, 11, 12, 13, 14, 15, 16, 17, 18, 19, 20, 21, 22, 23, 24, 25, 26, 27, 28, 29, 30, 31, 5, 32, 33, 34, 35, 36, 37, 38, 39, 40, 41, 42, 43, 44, 45, 46, 47, 48, 49, 50, 51, 52, 53, 54, 55, 56, 57, 58, 59, 60, 61, 62, 63, 64, 65, 66, 67, 68, 69, 70, 71, 72, 73, 74, 75, 76, 77, 78, 79, 80, 81, 82, 83, 84, 85, 86, 87, 88, 89, 90, 91, 92, 93, 94, 95, 96, 97, 98, 99, 100, 101, 102, 103, 104, 105, 106, 107, 108, 109, 110, 111, 112, 113, 114, 115, 116, 117, 118, 119, 120, 121, 122, 123, 124, 125, 126, 127, 128, 129, 130, 131, 132, 133, 134, 135, 136, 137, 138, 139, 140, 141] (by decide +kernel) (by decide +kernel)) (goodIn_sub (fun _ h => List.mem_cons_of_mem _ (List.mem_append_left _ (List.mem_append_right _ h))) (by decide +kernel))) (goodIn_sub (fun _ h => List.mem_cons_of_mem _ (List.mem_append_right _ h)) (by decide +kernel))) (goodIn_sub (fun _ h => List.mem_cons_of_mem _ (List.mem_append_left _ (List.mem_append_left _ (List.mem_append_right _ h)))) (by decide +kernel))
set_option maxRecDepth 20000 in
theorem gL_addText_X10_addText : GoodIn wsL_addText (wsV RL 17 RX10 yX10_addText wsX10_addText) := goodIn_app (goodIn_of _ (by decide +kernel)) ggL_addText_X10_addText
theorem dL_addText_0 : decode cL_addText 0 = .ok (.aload_n 1, 1) := by decide +kernel
theorem dL_addText_1 : decode cL_addText 1 = .ok (.iconst 0, 1) := by decide +kernel
theorem dL_addText_2 : decode cL_addText 2 = .ok (.aload_n 0, 1) := by decide +kernel
theorem dL_addText_3 : decode cL_addText 3 = .ok (.invokevirtual 17, 3) := by decide +kernel
theorem dL_addText_6 : decode cL_addText 6 = .ok (.i2l, 1) := by decide +kernel
theorem dL_addText_7 : decode cL_addText 7 = .ok (.lastore, 1) := by decide +kernel
theorem dL_addText_8 : decode cL_addText 8 = .ok (.goto 9, 3) := by decide +kernel
theorem dL_addText_11 : decode cL_addText 11 = .ok (.astore_n 2, 1) := by decide +kernel
theorem dL_addText_12 : decode cL_addText 12 = .ok (.iconst 1, 1) := by decide +kernel
theorem dL_addText_13 : decode cL_addText 13 = .ok (.ireturn, 1) := by decide +kernel
theorem dL_addText_14 : decode cL_addText 14 = .ok (.astore_n 2, 1) := by decide +kernel
theorem dL_addText_15 : decode cL_addText 15 = .ok (.iconst 2, 1) := by decide +kernel
theorem dL_addText_16 : decode cL_addText 16 = .ok (.ireturn, 1) := by decide +kernel
theorem dL_addText_17 : decode cL_addText 17 = .ok (.iconst 0, 1) := by decide +kernel
theorem dL_addText_18 : decode cL_addText 18 = .ok (.ireturn, 1) := by decide +kernel
set_option maxRecDepth 20000 in
theorem ggL_addTransition_X10_addTransition : GoodIn wsL_addTransition wsX10_addTransition := goodIn_ca (goodIn_ca (goodIn_ca (goodIn_r _ [6, 7, 8, 9, 10, 11, 5, 12, 13, 14, 15, 16, 17, 18, 19, 20, 21, 22, 23, 24, 25, 26, 27, 28, 29, 30, 31, 32, 33, 34, 35, 36, 37, 38, 39, 40, 41, 42, 43, 44, 45, 46, 47, 48, 49, 50, 51, 52, 53, 54, 55, 56, 57, 58, 59, 60, 61, 62, 63, 64, 65, 66, 67, 68, 69, 70, 71, 72, 73, 74, 75, 76, 77, 78, 79, 80, 81, 82, 83, 84, 85, 86, 87, 88, 89, 90, 91, 92, 93, 94, 95, 96, 97, 98, 99, 100, 101, 102, 103, 104, 105, 106, 107, 108, 109, 110, 111, 112, 113, 114, 115] (by decide +kernel) (by decide +kernel)) (goodIn_sub (fun _ h => List.mem_cons_of_mem _ (List.mem_append_left _ (List.mem_append_right _ h))) (by decide +kernel))) (goodIn_sub (fun _ h => List.mem_cons_of_mem _ (List.mem_append_right _ h)) (by decide +kernel))) (goodIn_sub (fun _ h => List.mem_cons_of_mem _ (List.mem_append_left _ (List.mem_append_left _ (List.mem_append_right _ h)))) (by decide +kernel))
set_option maxRecDepth 20000 in
theorem gL_addTransition_X10_addTransition : GoodIn wsL_addTransition (wsV RL 21 RX10 yX10_addTransition wsX10_addTransition) := goodIn_app (goodIn_of _ (by decide +kernel)) ggL_addTransition_X10_addTransition
theorem dL_addTransition_0 : decode cL_addTransition 0 = .ok (.aload 4, 2) := by decide +kernel
theorem dL_addTransition_2 : decode cL_addTransition 2 = .ok (.iconst 0, 1) := by decide +kernel
theorem dL_addTransition_3 : decode cL_addTransition 3 = .ok (.aload_n 0, 1) := by decide +kernel
theorem dL_addTransition_4 : decode cL_addTransition 4 = .ok (.iload_n 1, 1) := by decide +kernel
theorem dL_addTransition_5 : decode cL_addTransition 5 = .ok (.iload_n 2, 1) := by decide +kernel
theorem dL_addTransition_6 : decode cL_addTransition 6 = .ok (.iload_n 3, 1) := by decide +kernel
theorem dL_addTransition_7 : decode cL_addTransition 7 = .ok (.invokevirtual 21, 3) := by decide +kernel
theorem dL_addTransition_10 : decode cL_addTransition 10 = .ok (.ifCond .eq 7, 3) := by decide +kernel
theorem dL_addTransition_13 : decode cL_addTransition 13 = .ok (.lconst 1, 1) := by decide +kernel
theorem dL_addTransition_14 : decode cL_addTransition 14 = .ok (.goto 4, 3) := by decide +kernel
theorem dL_addTransition_17 : decode cL_addTransition 17 = .ok (.lconst 0, 1) := by decide +kernel
theorem dL_addTransition_18 : decode cL_addTransition 18 = .ok (.lastore, 1) := by decide +kernel
theorem dL_addTransition_19 : decode cL_addTransition 19 = .ok (.goto 11, 3) := by decide +kernel
theorem dL_addTransition_22 : decode cL_addTransition 22 = .ok (.astore 5, 2) := by decide +kernel
theorem dL_addTransition_24 : decode cL_addTransition 24 = .ok (.iconst 1, 1) := by decide +kernel
theorem dL_addTransition_25 : decode cL_addTransition 25 = .ok (.ireturn, 1) := by decide +kernel
theorem dL_addTransition_26 : decode cL_addTransition 26 = .ok (.astore 5, 2) := by decide +kernel
theorem dL_addTransition_28 : decode cL_addTransition 28 = .ok (.iconst 2, 1) := by decide +kernel
theorem dL_addTransition_29 : decode cL_addTransition 29 = .ok (.ireturn, 1) := by decide +kernel
theorem dL_addTransition_30 : decode cL_addTransition 30 = .ok (.iconst 0, 1) := by decide +kernel
theorem dL_addTransition_31 : decode cL_addTransition 31 = .ok (.ireturn, 1) := by decide +kernel
set_option maxRecDepth 20000 in
theorem ggL_removeTransition_X10_removeTransition : GoodIn wsL_removeTransition wsX10_removeTransition := goodIn_ca (goodIn_ca (goodIn_ca (goodIn_r _ [6, 7, 8, 9, 10, 11, 5, 12, 13, 14, 15, 16, 17, 18, 19, 20, 21, 22, 23, 24, 25, 26, 27, 28, 29, 30, 31, 32, 33, 34, 35, 36, 37, 38, 39, 40, 41, 42, 43, 44, 45, 46, 47, 48, 49, 50, 51, 52, 53, 54, 55, 56, 57, 58, 59, 60, 61, 62, 63, 64, 65, 66, 67, 68, 69, 70, 71, 72, 73, 74, 75, 76, 77, 78, 79, 80, 81, 82, 83, 84, 85, 86, 87, 88, 89, 90, 91, 92, 93, 94, 95, 96, 97, 98, 99, 100, 101, 102, 103, 104] (by decide +kernel) (by decide +kernel)) (goodIn_sub (fun _ h => List.mem_cons_of_mem _ (List.mem_append_left _ (List.mem_append_left _ (List.mem_append_right _ h)))) (by decide +kernel))) (goodIn_sub (fun _ h => List.mem_cons_of_mem _ (List.mem_append_left _ (List.mem_append_right _ h))) (by decide +kernel))) (goodIn_sub (fun _ h => List.mem_cons_of_mem _ (List.mem_append_right _ h)) (by decide +kernel))
set_option maxRecDepth 20000 in
theorem gL_removeTransition_X10_removeTransition : GoodIn wsL_removeTransition (wsV RL 27 RX10 yX10_removeTransition wsX10_removeTransition) := goodIn_app (goodIn_of _ (by decide +kernel)) ggL_removeTransition_X10_removeTransition
theorem dL_removeTransition_0 : decode cL_removeTransition 0 = .ok (.aload_n 0, 1) := by decide +kernel
theorem dL_removeTransition_1 : decode cL_removeTransition 1 = .ok (.iload_n 1, 1) := by decide +kernel
theorem dL_removeTransition_2 : decode cL_removeTransition 2 = .ok (.iload_n 2, 1) := by decide +kernel
theorem dL_removeTransition_3 : decode cL_removeTransition 3 = .ok (.iload_n 3, 1) := by decide +kernel
theorem dL_removeTransition_4 : decode cL_removeTransition 4 = .ok (.invokevirtual 27, 3) := by decide +kernel
theorem dL_removeTransition_7 : decode cL_removeTransition 7 = .ok (.goto 11, 3) := by decide +kernel
theorem dL_removeTransition_10 : decode cL_removeTransition 10 = .ok (.astore 4, 2) := by decide +kernel
theorem dL_removeTransition_12 : decode cL_removeTransition 12 = .ok (.iconst 1, 1) := by decide +kernel
theorem dL_removeTransition_13 : decode cL_removeTransition 13 = .ok (.ireturn, 1) := by decide +kernel
theorem dL_removeTransition_14 : decode cL_removeTransition 14 = .ok (.astore 4, 2) := by decide +kernel
theorem dL_removeTransition_16 : decode cL_removeTransition 16 = .ok (.iconst 2, 1) := by decide +kernel
theorem dL_removeTransition_17 : decode cL_removeTransition 17 = .ok (.ireturn, 1) := by decide +kernel
theorem dL_removeTransition_18 : decode cL_removeTransition 18 = .ok (.iconst 0, 1) := by decide +kernel
theorem dL_removeTransition_19 : decode cL_removeTransition 19 = .ok (.ireturn, 1) := by decide +kernel
set_option maxRecDepth 20000 in
theorem ggL_setFinal_X10_setFinal : GoodIn wsL_setFinal wsX10_setFinal := goodIn_ca (goodIn_ca (goodIn_r _ [6, 7, 8, 9, 10, 11, 5, 12, 13, 14, 15, 16, 17, 18, 19, 20, 21, 22, 23, 24, 25, 26, 27, 28, 29, 30, 31, 32, 33, 34, 35, 36, 37, 38, 39, 40, 41, 42, 43, 44, 45, 46, 47, 48, 49, 50, 51, 52, 53, 54, 55, 56, 57, 58, 59, 60, 61, 62, 63, 64, 65, 66, 67, 68, 69, 70, 71, 72, 73, 74, 75, 76, 77, 78, 79, 80, 81, 82, 83, 84, 85, 86, 87, 88, 89] (by decide +kernel) (by decide +kernel)) (goodIn_sub (fun _ h => List.mem_cons_of_mem _ (List.mem_append_right _ h)) (by decide +kernel))) (goodIn_sub (fun _ h => List.mem_cons_of_mem _ (List.mem_append_left _ (List.mem_append_right _ h))) (by decide +kernel))
set_option maxRecDepth 20000 in
theorem gL_setFinal_X10_setFinal : GoodIn wsL_setFinal (wsV RL 33 RX10 yX10_setFinal wsX10_setFinal) := goodIn_app (goodIn_of _ (by decide +kernel)) ggL_setFinal_X10_setFinal
theorem dL_setFinal_0 : decode cL_setFinal 0 = .ok (.aload_n 3, 1) := by decide +kernel
theorem dL_setFinal_1 : decode cL_setFinal 1 = .ok (.iconst 0, 1) := by decide +kernel
theorem dL_setFinal_2 : decode cL_setFinal 2 = .ok (.aload_n 0, 1) := by decide +kernel
theorem dL_setFinal_3 : decode cL_setFinal 3 = .ok (.iload_n 1, 1) := by decide +kernel
theorem dL_setFinal_4 : decode cL_setFinal 4 = .ok (.iload_n 2, 1) := by decide +kernel
theorem dL_setFinal_5 : decode cL_setFinal 5 = .ok (.invokevirtual 33, 3) := by decide +kernel
theorem dL_setFinal_8 : decode cL_setFinal 8 = .ok (.ifCond .eq 7, 3) := by decide +kernel
theorem dL_setFinal_11 : decode cL_setFinal 11 = .ok (.lconst 1, 1) := by decide +kernel
theorem dL_setFinal_12 : decode cL_setFinal 12 = .ok (.goto 4, 3) := by decide +kernel
theorem dL_setFinal_15 : decode cL_setFinal 15 = .ok (.lconst 0, 1) := by decide +kernel
theorem dL_setFinal_16 : decode cL_setFinal 16 = .ok (.lastore, 1) := by decide +kernel
theorem dL_setFinal_17 : decode cL_setFinal 17 = .ok (.goto 7, 3) := by decide +kernel
theorem dL_setFinal_20 : decode cL_setFinal 20 = .ok (.astore 4, 2) := by decide +kernel
theorem dL_setFinal_22 : decode cL_setFinal 22 = .ok (.iconst 1, 1) := by decide +kernel
theorem dL_setFinal_23 : decode cL_setFinal 23 = .ok (.ireturn, 1) := by decide +kernel
theorem dL_setFinal_24 : decode cL_setFinal 24 = .ok (.iconst 0, 1) := by decide +kernel
theorem dL_setFinal_25 : decode cL_setFinal 25 = .ok (.ireturn, 1) := by decide +kernel
set_option maxRecDepth 20000 in
theorem ggL_transition_X10_transition : GoodIn wsL_transition wsX10_transition := goodIn_ca (goodIn_ca (goodIn_r _ [6, 7, 8, 9, 10, 11, 12, 13, 14, 15, 16, 17, 18, 19, 20, 21, 22, 23, 24, 25, 26, 27, 28, 29, 30, 31, 5, 32, 33, 34, 35, 36, 37, 38, 39, 40, 41, 42, 43, 44, 45, 46, 47, 48, 49, 50, 51, 52, 53, 54, 55, 56, 57, 58] (by decide +kernel) (by decide +kernel)) (goodIn_sub (fun _ h => List.mem_cons_of_mem _ (List.mem_append_right _ h)) (by decide +kernel))) (goodIn_sub (fun _ h => List.mem_cons_of_mem _ (List.mem_append_left _ (List.mem_append_right _ h))) (by decide +kernel))
set_option maxRecDepth 20000 in
theorem gL_transition_X10_transition : GoodIn wsL_transition (wsV RL 37 RX10 yX10_transition wsX10_transition) := goodIn_app (goodIn_of _ (by decide +kernel)) ggL_transition_X10_transition
theorem dL_transition_0 : decode cL_transition 0 = .ok (.aload_n 2, 1) := by decide +kernel
theorem dL_transition_1 : decode cL_transition 1 = .ok (.iconst 0, 1) := by decide +kernel
theorem dL_transition_2 : decode cL_transition 2 = .ok (.aload_n 0, 1) := by decide +kernel
theorem dL_transition_3 : decode cL_transition 3 = .ok (.iload_n 1, 1) := by decide +kernel
theorem dL_transition_4 : decode cL_transition 4 = .ok (.invokevirtual 37, 3) := by decide +kernel
theorem dL_transition_7 : decode cL_transition 7 = .ok (.i2l, 1) := by decide +kernel
theorem dL_transition_8 : decode cL_transition 8 = .ok (.lastore, 1) := by decide +kernel
theorem dL_transition_9 : decode cL_transition 9 = .ok (.goto 6, 3) := by decide +kernel
theorem dL_transition_12 : decode cL_transition 12 = .ok (.astore_n 3, 1) := by decide +kernel
theorem dL_transition_13 : decode cL_transition 13 = .ok (.iconst 1, 1) := by decide +kernel
theorem dL_transition_14 : decode cL_transition 14 = .ok (.ireturn, 1) := by decide +kernel
theorem dL_transition_15 : decode cL_transition 15 = .ok (.iconst 0, 1) := by decide +kernel
theorem dL_transition_16 : decode cL_transition 16 = .ok (.ireturn, 1) := by decide +kernel
set_option maxRecDepth 20000 in
theorem ggL_appendLetter_X10_appendLetter : GoodIn wsL_appendLetter wsX10_appendLetter := goodIn_ca (goodIn_ca (goodIn_ca (goodIn_r _ [6, 7, 8, 9, 10, 11, 12, 13, 14, 15, 5, 16, 17, 18, 19, 20, 21, 22, 23, 24, 25, 26, 27, 28, 29, 30, 31] (by decide +kernel) (by decide +kernel)) (goodIn_sub (fun _ h => List.mem_cons_of_mem _ (List.mem_append_left _ (List.mem_append_right _ h))) (by decide +kernel))) (goodIn_sub (fun _ h => List.mem_cons_of_mem _ (List.mem_append_right _ h)) (by decide +kernel))) (goodIn_sub (fun _ h => List.mem_cons_of_mem _ (List.mem_append_left _ (List.mem_append_left _ (List.mem_append_right _ h)))) (by decide +kernel))
set_option maxRecDepth 20000 in
theorem gL_appendLetter_X10_appendLetter : GoodIn wsL_appendLetter (wsV RL 40 RX10 yX10_appendLetter wsX10_appendLetter) := goodIn_app (goodIn_of _ (by decide +kernel)) ggL_appendLetter_X10_appendLetter
theorem dL_appendLetter_0 : decode cL_appendLetter 0 = .ok (.aload_n 2, 1) := by decide +kernel
theorem dL_appendLetter_1 : decode cL_appendLetter 1 = .ok (.iconst 0, 1) := by decide +kernel
theorem dL_appendLetter_2 : decode cL_appendLetter 2 = .ok (.aload_n 0, 1) := by decide +kernel
theorem dL_appendLetter_3 : decode cL_appendLetter 3 = .ok (.iload_n 1, 1) := by decide +kernel
theorem dL_appendLetter_4 : decode cL_appendLetter 4 = .ok (.invokevirtual 40, 3) := by decide +kernel
theorem dL_appendLetter_7 : decode cL_appendLetter 7 = .ok (.i2l, 1) := by decide +kernel
theorem dL_appendLetter_8 : decode cL_appendLetter 8 = .ok (.lastore, 1) := by decide +kernel
theorem dL_appendLetter_9 : decode cL_appendLetter 9 = .ok (.goto 9, 3) := by decide +kernel
theorem dL_appendLetter_12 : decode cL_appendLetter 12 = .ok (.astore_n 3, 1) := by decide +kernel
theorem dL_appendLetter_13 : decode cL_appendLetter 13 = .ok (.iconst 1, 1) := by decide +kernel
theorem dL_appendLetter_14 : decode cL_appendLetter 14 = .ok (.ireturn, 1) := by decide +kernel
theorem dL_appendLetter_15 : decode cL_appendLetter 15 = .ok (.astore_n 3, 1) := by decide +kernel
theorem dL_appendLetter_16 : decode cL_appendLetter 16 = .ok (.iconst 2, 1) := by decide +kernel
theorem dL_appendLetter_17 : decode cL_appendLetter 17 = .ok (.ireturn, 1) := by decide +kernel
theorem dL_appendLetter_18 : decode cL_appendLetter 18 = .ok (.iconst 0, 1) := by decide +kernel
theorem dL_appendLetter_19 : decode cL_appendLetter 19 = .ok (.ireturn, 1) := by decide +kernel
set_option maxRecDepth 20000 in
theorem ggL_letterAt_X10_letterAt : GoodIn wsL_letterAt wsX10_letterAt := goodIn_ca (goodIn_ca (goodIn_r _ [6, 7, 8, 9, 10, 11, 12, 5, 13, 14, 15, 16, 17, 18, 19, 20, 21, 22, 23, 24, 25, 26, 27, 28, 29] (by decide +kernel) (by decide +kernel)) (goodIn_sub (fun _ h => List.mem_cons_of_mem _ (List.mem_append_right _ h)) (by decide +kernel))) (goodIn_sub (fun _ h => List.mem_cons_of_mem _ (List.mem_append_left _ (List.mem_append_right _ h))) (by decide +kernel))
set_option maxRecDepth 20000 in
theorem gL_letterAt_X10_letterAt : GoodIn wsL_letterAt (wsV RL 43 RX10 yX10_letterAt wsX10_letterAt) := goodIn_app (goodIn_of _ (by decide +kernel)) ggL_letterAt_X10_letterAt
theorem dL_letterAt_0 : decode cL_letterAt 0 = .ok (.aload_n 2, 1) := by decide +kernel
theorem dL_letterAt_1 : decode cL_letterAt 1 = .ok (.iconst 0, 1) := by decide +kernel
theorem dL_letterAt_2 : decode cL_letterAt 2 = .ok (.aload_n 0, 1) := by decide +kernel
theorem dL_letterAt_3 : decode cL_letterAt 3 = .ok (.iload_n 1, 1) := by decide +kernel
theorem dL_letterAt_4 : decode cL_letterAt 4 = .ok (.invokevirtual 43, 3) := by decide +kernel
theorem dL_letterAt_7 : decode cL_letterAt 7 = .ok (.i2l, 1) := by decide +kernel
theorem dL_letterAt_8 : decode cL_letterAt 8 = .ok (.lastore, 1) := by decide +kernel
theorem dL_letterAt_9 : decode cL_letterAt 9 = .ok (.goto 6, 3) := by decide +kernel
theorem dL_letterAt_12 : decode cL_letterAt 12 = .ok (.astore_n 3, 1) := by decide +kernel
theorem dL_letterAt_13 : decode cL_letterAt 13 = .ok (.iconst 1, 1) := by decide +kernel
theorem dL_letterAt_14 : decode cL_letterAt 14 = .ok (.ireturn, 1) := by decide +kernel
theorem dL_letterAt_15 : decode cL_letterAt 15 = .ok (.iconst 0, 1) := by decide +kernel
theorem dL_letterAt_16 : decode cL_letterAt 16 = .ok (.ireturn, 1) := by decide +kernel
set_option maxRecDepth 20000 in
theorem ggL_accepts_X10_accepts : GoodIn wsL_accepts wsX10_accepts := goodIn_ca (goodIn_ca (goodIn_ca (goodIn_r _ [6, 7, 8, 9, 10, 11, 12, 5, 13, 14, 15, 16, 17, 18, 19, 20, 21, 22, 23, 24, 25, 26, 27, 28, 29, 30, 31, 32, 33, 34, 35, 36, 37, 38, 39, 40, 41, 42, 43, 44, 45, 46, 47, 48, 49, 50, 51, 52, 53, 54, 55, 56, 57, 58, 59, 60, 61, 62, 63, 64, 65, 66, 67, 68, 69, 70, 71, 72, 73, 74, 75, 76, 77, 78, 79, 80, 81, 82, 83, 84, 85, 86, 87, 88, 89, 90, 91, 92, 93, 94, 95, 96, 97, 98, 99, 100, 101, 102, 103, 104, 105, 106, 107, 108, 109, 110, 111, 112, 113, 114, 115, 116, 117, 118, 119, 120, 121, 122, 123, 124, 125, 126, 127, 128, 129, 130, 131, 132, 133, 134] (by decide +kernel) (by decide +kernel)) (goodIn_sub (fun _ h => List.mem_cons_of_mem _ (List.mem_append_left _ (List.mem_append_right _ h))) (by decide +kernel))) (goodIn_sub (fun _ h => List.mem_cons_of_mem _ (List.mem_append_right _ h)) (by decide +kernel))) (goodIn_sub (fun _ h => List.mem_cons_of_mem _ (List.mem_append_left _ (List.mem_append_left _ (List.mem_append_right _ h)))) (by decide +kernel))
set_option maxRecDepth 20000 in
theorem gL_accepts_X10_accepts : GoodIn wsL_accepts (wsV RL 46 RX10 yX10_accepts wsX10_accepts) := goodIn_app (goodIn_of _ (by decide +kernel)) ggL_accepts_X10_accepts
theorem dL_accepts_0 : decode cL_accepts 0 = .ok (.aload_n 2, 1) := by decide +kernel
theorem dL_accepts_1 : decode cL_accepts 1 = .ok (.iconst 0, 1) := by decide +kernel
theorem dL_accepts_2 : decode cL_accepts 2 = .ok (.aload_n 0, 1) := by decide +kernel
theorem dL_accepts_3 : decode cL_accepts 3 = .ok (.iload_n 1, 1) := by decide +kernel
theorem dL_accepts_4 : decode cL_accepts 4 = .ok (.invokevirtual 46, 3) := by decide +kernel
theorem dL_accepts_7 : decode cL_accepts 7 = .ok (.ifCond .eq 7, 3) := by decide +kernel
theorem dL_accepts_10 : decode cL_accepts 10 = .ok (.lconst 1, 1) := by decide +kernel
theorem dL_accepts_11 : decode cL_accepts 11 = .ok (.goto 4, 3) := by decide +kernel
theorem dL_accepts_14 : decode cL_accepts 14 = .ok (.lconst 0, 1) := by decide +kernel
theorem dL_accepts_15 : decode cL_accepts 15 = .ok (.lastore, 1) := by decide +kernel
theorem dL_accepts_16 : decode cL_accepts 16 = .ok (.goto 9, 3) := by decide +kernel
theorem dL_accepts_19 : decode cL_accepts 19 = .ok (.astore_n 3, 1) := by decide +kernel
theorem dL_accepts_20 : decode cL_accepts 20 = .ok (.iconst 1, 1) := by decide +kernel
theorem dL_accepts_21 : decode cL_accepts 21 = .ok (.ireturn, 1) := by decide +kernel
theorem dL_accepts_22 : decode cL_accepts 22 = .ok (.astore_n 3, 1) := by decide +kernel
theorem dL_accepts_23 : decode cL_accepts 23 = .ok (.iconst 2, 1) := by decide +kernel
theorem dL_accepts_24 : decode cL_accepts 24 = .ok (.ireturn, 1) := by decide +kernel
theorem dL_accepts_25 : decode cL_accepts 25 = .ok (.iconst 0, 1) := by decide +kernel
theorem dL_accepts_26 : decode cL_accepts 26 = .ok (.ireturn, 1) := by decide +kernel
set_option maxRecDepth 20000 in
theorem ggL_takeArrangement_X10_takeArrangement : GoodIn wsL_takeArrangement wsX10_takeArrangement := goodIn_ca (goodIn_ca (goodIn_ca (goodIn_r _ [6, 7, 8, 9, 10, 11, 12, 13, 14, 15, 16, 17, 18, 19, 20, 21, 22, 23, 24, 5, 25, 26, 27, 28, 29, 30, 31, 32, 33, 34, 35, 36, 37, 38, 39, 40, 41, 42, 43, 44, 45, 46, 47, 48, 49, 50, 51, 52, 53, 54, 55, 56, 57, 58, 59, 60, 61, 62, 63, 64, 65, 66, 67, 68, 69, 70, 71, 72, 73, 74, 75, 76] (by decide +kernel) (by decide +kernel)) (goodIn_sub (fun _ h => List.mem_cons_of_mem _ (List.mem_append_left _ (List.mem_append_right _ h))) (by decide +kernel))) (goodIn_sub (fun _ h => List.mem_cons_of_mem _ (List.mem_append_right _ h)) (by decide +kernel))) (goodIn_sub (fun _ h => List.mem_cons_of_mem _ (List.mem_append_left _ (List.mem_append_left _ (List.mem_append_right _ h)))) (by decide +kernel))
set_option maxRecDepth 20000 in
theorem gL_takeArrangement_X10_takeArrangement : GoodIn wsL_takeArrangement (wsV RL 52 RX10 yX10_takeArrangement wsX10_takeArrangement) := goodIn_app (goodIn_of _ (by decide +kernel)) ggL_takeArrangement_X10_takeArrangement
theorem dL_takeArrangement_0 : decode cL_takeArrangement 0 = .ok (.aload_n 2, 1) := by decide +kernel
theorem dL_takeArrangement_1 : decode cL_takeArrangement 1 = .ok (.iconst 0, 1) := by decide +kernel
theorem dL_takeArrangement_2 : decode cL_takeArrangement 2 = .ok (.aload_n 0, 1) := by decide +kernel
theorem dL_takeArrangement_3 : decode cL_takeArrangement 3 = .ok (.iload_n 1, 1) := by decide +kernel
theorem dL_takeArrangement_4 : decode cL_takeArrangement 4 = .ok (.invokevirtual 52, 3) := by decide +kernel
theorem dL_takeArrangement_7 : decode cL_takeArrangement 7 = .ok (.i2l, 1) := by decide +kernel
theorem dL_takeArrangement_8 : decode cL_takeArrangement 8 = .ok (.lastore, 1) := by decide +kernel
theorem dL_takeArrangement_9 : decode cL_takeArrangement 9 = .ok (.goto 9, 3) := by decide +kernel
theorem dL_takeArrangement_12 : decode cL_takeArrangement 12 = .ok (.astore_n 3, 1) := by decide +kernel
theorem dL_takeArrangement_13 : decode cL_takeArrangement 13 = .ok (.iconst 1, 1) := by decide +kernel
theorem dL_takeArrangement_14 : decode cL_takeArrangement 14 = .ok (.ireturn, 1) := by decide +kernel
theorem dL_takeArrangement_15 : decode cL_takeArrangement 15 = .ok (.astore_n 3, 1) := by decide +kernel
theorem dL_takeArrangement_16 : decode cL_takeArrangement 16 = .ok (.iconst 2, 1) := by decide +kernel
theorem dL_takeArrangement_17 : decode cL_takeArrangement 17 = .ok (.ireturn, 1) := by decide +kernel
theorem dL_takeArrangement_18 : decode cL_takeArrangement 18 = .ok (.iconst 0, 1) := by decide +kernel
theorem dL_takeArrangement_19 : decode cL_takeArrangement 19 = .ok (.ireturn, 1) := by decide +kernel
set_option maxRecDepth 20000 in
theorem ggL_oneWayJumps_X10_oneWayJumps : GoodIn wsL_oneWayJumps wsX10_oneWayJumps := goodIn_ca (goodIn_ca (goodIn_r _ [6, 7, 8, 9, 10, 11, 12, 13, 14, 5, 15, 16, 17, 18, 19, 20, 21, 22, 23, 24, 25, 26, 27, 28, 29, 30, 31, 32, 33, 34, 35, 36, 37, 38, 39, 40, 41, 42, 43, 44, 45, 46, 47, 48, 49, 50, 51, 52, 53, 54, 55, 56, 57, 58, 59, 60, 61, 62, 63, 64, 65, 66, 67, 68, 69, 70, 71, 72, 73, 74, 75] (by decide +kernel) (by decide +kernel)) (goodIn_sub (fun _ h => List.mem_cons_of_mem _ (List.mem_append_right _ h)) (by decide +kernel))) (goodIn_sub (fun _ h => List.mem_cons_of_mem _ (List.mem_append_left _ (List.mem_append_right _ h))) (by decide +kernel))
set_option maxRecDepth 20000 in
theorem gL_oneWayJumps_X10_oneWayJumps : GoodIn wsL_oneWayJumps (wsV RL 55 RX10 yX10_oneWayJumps wsX10_oneWayJumps) := goodIn_app (goodIn_of _ (by decide +kernel)) ggL_oneWayJumps_X10_oneWayJumps
theorem dL_oneWayJumps_0 : decode cL_oneWayJumps 0 = .ok (.aload_n 1, 1) := by decide +kernel
theorem dL_oneWayJumps_1 : decode cL_oneWayJumps 1 = .ok (.iconst 0, 1) := by decide +kernel
theorem dL_oneWayJumps_2 : decode cL_oneWayJumps 2 = .ok (.aload_n 0, 1) := by decide +kernel
theorem dL_oneWayJumps_3 : decode cL_oneWayJumps 3 = .ok (.invokevirtual 55, 3) := by decide +kernel
theorem dL_oneWayJumps_6 : decode cL_oneWayJumps 6 = .ok (.i2l, 1) := by decide +kernel
theorem dL_oneWayJumps_7 : decode cL_oneWayJumps 7 = .ok (.lastore, 1) := by decide +kernel
theorem dL_oneWayJumps_8 : decode cL_oneWayJumps 8 = .ok (.goto 6, 3) := by decide +kernel
theorem dL_oneWayJumps_11 : decode cL_oneWayJumps 11 = .ok (.astore_n 2, 1) := by decide +kernel
theorem dL_oneWayJumps_12 : decode cL_oneWayJumps 12 = .ok (.iconst 1, 1) := by decide +kernel
theorem dL_oneWayJumps_13 : decode cL_oneWayJumps 13 = .ok (.ireturn, 1) := by decide +kernel
theorem dL_oneWayJumps_14 : decode cL_oneWayJumps 14 = .ok (.iconst 0, 1) := by decide +kernel
theorem dL_oneWayJumps_15 : decode cL_oneWayJumps 15 = .ok (.ireturn, 1) := by decide +kernel
set_option maxRecDepth 20000 in
theorem ggL_oneWayRest_X10_oneWayRest : GoodIn wsL_oneWayRest wsX10_oneWayRest := goodIn_ca (goodIn_ca (goodIn_r _ [6, 7, 8, 9, 10, 11, 12, 13, 14, 5, 15, 16, 17, 18, 19, 20, 21, 22, 23, 24, 25, 26, 27, 28, 29, 30, 31, 32, 33, 34, 35, 36, 37, 38, 39, 40, 41, 42, 43, 44, 45, 46, 47, 48, 49, 50, 51, 52, 53, 54, 55, 56, 57, 58, 59, 60, 61, 62, 63, 64, 65, 66, 67, 68, 69, 70, 71, 72, 73, 74, 75] (by decide +kernel) (by decide +kernel)) (goodIn_sub (fun _ h => List.mem_cons_of_mem _ (List.mem_append_right _ h)) (by decide +kernel))) (goodIn_sub (fun _ h => List.mem_cons_of_mem _ (List.mem_append_left _ (List.mem_append_right _ h))) (by decide +kernel))
set_option maxRecDepth 20000 in
theorem gL_oneWayRest_X10_oneWayRest : GoodIn wsL_oneWayRest (wsV RL 58 RX10 yX10_oneWayRest wsX10_oneWayRest) := goodIn_app (goodIn_of _ (by decide +kernel)) ggL_oneWayRest_X10_oneWayRest
theorem dL_oneWayRest_0 : decode cL_oneWayRest 0 = .ok (.aload_n 1, 1) := by decide +kernel
theorem dL_oneWayRest_1 : decode cL_oneWayRest 1 = .ok (.iconst 0, 1) := by decide +kernel
theorem dL_oneWayRest_2 : decode cL_oneWayRest 2 = .ok (.aload_n 0, 1) := by decide +kernel
theorem dL_oneWayRest_3 : decode cL_oneWayRest 3 = .ok (.invokevirtual 58, 3) := by decide +kernel
theorem dL_oneWayRest_6 : decode cL_oneWayRest 6 = .ok (.i2l, 1) := by decide +kernel
theorem dL_oneWayRest_7 : decode cL_oneWayRest 7 = .ok (.lastore, 1) := by decide +kernel
theorem dL_oneWayRest_8 : decode cL_oneWayRest 8 = .ok (.goto 6, 3) := by decide +kernel
theorem dL_oneWayRest_11 : decode cL_oneWayRest 11 = .ok (.astore_n 2, 1) := by decide +kernel
theorem dL_oneWayRest_12 : decode cL_oneWayRest 12 = .ok (.iconst 1, 1) := by decide +kernel
theorem dL_oneWayRest_13 : decode cL_oneWayRest 13 = .ok (.ireturn, 1) := by decide +kernel
theorem dL_oneWayRest_14 : decode cL_oneWayRest 14 = .ok (.iconst 0, 1) := by decide +kernel
theorem dL_oneWayRest_15 : decode cL_oneWayRest 15 = .ok (.ireturn, 1) := by decide +kernel
set_option maxRecDepth 20000 in
theorem ggL_orderCost_X10_orderCost : GoodIn wsL_orderCost wsX10_orderCost := goodIn_ca (goodIn_ca (goodIn_r _ [6, 7, 8, 9, 10, 11, 12, 13, 5, 14, 15, 16, 17, 18, 19, 20, 21, 22, 23, 24, 25, 26, 27, 28, 29, 30, 31, 32, 33, 34, 35, 36, 37, 38, 39, 40, 41, 42, 43, 44, 45, 46, 47, 48, 49, 50, 51, 52, 53, 54, 55, 56, 57, 58, 59, 60, 61, 62, 63, 64, 65, 66, 67, 68, 69, 70, 71, 72, 73, 74, 75, 76, 77, 78, 79, 80, 81, 82, 83, 84, 85, 86, 87, 88, 89, 90, 91, 92, 93, 94, 95, 96, 97, 98, 99, 100, 101, 102, 103, 104, 105, 106, 107, 108, 109, 110, 111, 112, 113, 114, 115, 116, 117, 118, 119, 120, 121, 122, 123, 124, 125, 126, 127, 128, 129, 130, 131] (by decide +kernel) (by decide +kernel)) (goodIn_sub (fun _ h => List.mem_cons_of_mem _ (List.mem_append_right _ h)) (by decide +kernel))) (goodIn_sub (fun _ h => List.mem_cons_of_mem _ (List.mem_append_left _ (List.mem_append_right _ h))) (by decide +kernel))
set_option maxRecDepth 20000 in
theorem gL_orderCost_X10_orderCost : GoodIn wsL_orderCost (wsV RL 61 RX10 yX10_orderCost wsX10_orderCost) := goodIn_app (goodIn_of _ (by decide +kernel)) ggL_orderCost_X10_orderCost
theorem dL_orderCost_0 : decode cL_orderCost 0 = .ok (.aload_n 1, 1) := by decide +kernel
theorem dL_orderCost_1 : decode cL_orderCost 1 = .ok (.iconst 0, 1) := by decide +kernel
theorem dL_orderCost_2 : decode cL_orderCost 2 = .ok (.aload_n 0, 1) := by decide +kernel
theorem dL_orderCost_3 : decode cL_orderCost 3 = .ok (.invokevirtual 61, 3) := by decide +kernel
theorem dL_orderCost_6 : decode cL_orderCost 6 = .ok (.i2l, 1) := by decide +kernel
theorem dL_orderCost_7 : decode cL_orderCost 7 = .ok (.lastore, 1) := by decide +kernel
theorem dL_orderCost_8 : decode cL_orderCost 8 = .ok (.goto 6, 3) := by decide +kernel
theorem dL_orderCost_11 : decode cL_orderCost 11 = .ok (.astore_n 2, 1) := by decide +kernel
theorem dL_orderCost_12 : decode cL_orderCost 12 = .ok (.iconst 1, 1) := by decide +kernel
theorem dL_orderCost_13 : decode cL_orderCost 13 = .ok (.ireturn, 1) := by decide +kernel
theorem dL_orderCost_14 : decode cL_orderCost 14 = .ok (.iconst 0, 1) := by decide +kernel
theorem dL_orderCost_15 : decode cL_orderCost 15 = .ok (.ireturn, 1) := by decide +kernel
set_option maxRecDepth 20000 in
theorem ggL_orderPosition_X10_orderPosition : GoodIn wsL_orderPosition wsX10_orderPosition := goodIn_ca (goodIn_ca (goodIn_ca (goodIn_r _ [6, 7, 8, 9, 10, 11, 12, 13, 14, 15, 5, 16, 17, 18, 19, 20, 21, 22, 23, 24, 25, 26, 27, 28, 29, 30, 31, 32, 33, 34, 35, 36, 37, 38, 39, 40, 41, 42, 43, 44, 45, 46, 47, 48, 49, 50, 51, 52, 53, 54, 55, 56, 57, 58, 59, 60, 61, 62, 63, 64, 65, 66, 67, 68, 69, 70, 71, 72, 73, 74, 75, 76, 77, 78, 79, 80, 81, 82, 83, 84, 85, 86, 87, 88, 89, 90, 91, 92, 93, 94, 95, 96, 97, 98, 99, 100, 101, 102, 103, 104, 105, 106, 107, 108, 109, 110, 111, 112, 113, 114, 115, 116, 117, 118, 119, 120, 121, 122, 123, 124, 125, 126, 127, 128, 129, 130, 131, 132, 133, 134, 135, 136, 137, 138] (by decide +kernel) (by decide +kernel)) (goodIn_sub (fun _ h => List.mem_cons_of_mem _ (List.mem_append_left _ (List.mem_append_right _ h))) (by decide +kernel))) (goodIn_sub (fun _ h => List.mem_cons_of_mem _ (List.mem_append_right _ h)) (by decide +kernel))) (goodIn_sub (fun _ h => List.mem_cons_of_mem _ (List.mem_append_left _ (List.mem_append_left _ (List.mem_append_right _ h)))) (by decide +kernel))
set_option maxRecDepth 20000 in
theorem gL_orderPosition_X10_orderPosition : GoodIn wsL_orderPosition (wsV RL 64 RX10 yX10_orderPosition wsX10_orderPosition) := goodIn_app (goodIn_of _ (by decide +kernel)) ggL_orderPosition_X10_orderPosition
theorem dL_orderPosition_0 : decode cL_orderPosition 0 = .ok (.aload_n 2, 1) := by decide +kernel
theorem dL_orderPosition_1 : decode cL_orderPosition 1 = .ok (.iconst 0, 1) := by decide +kernel
theorem dL_orderPosition_2 : decode cL_orderPosition 2 = .ok (.aload_n 0, 1) := by decide +kernel
theorem dL_orderPosition_3 : decode cL_orderPosition 3 = .ok (.iload_n 1, 1) := by decide +kernel
theorem dL_orderPosition_4 : decode cL_orderPosition 4 = .ok (.invokevirtual 64, 3) := by decide +kernel
theorem dL_orderPosition_7 : decode cL_orderPosition 7 = .ok (.i2l, 1) := by decide +kernel
theorem dL_orderPosition_8 : decode cL_orderPosition 8 = .ok (.lastore, 1) := by decide +kernel
theorem dL_orderPosition_9 : decode cL_orderPosition 9 = .ok (.goto 9, 3) := by decide +kernel
theorem dL_orderPosition_12 : decode cL_orderPosition 12 = .ok (.astore_n 3, 1) := by decide +kernel
theorem dL_orderPosition_13 : decode cL_orderPosition 13 = .ok (.iconst 1, 1) := by decide +kernel
theorem dL_orderPosition_14 : decode cL_orderPosition 14 = .ok (.ireturn, 1) := by decide +kernel
theorem dL_orderPosition_15 : decode cL_orderPosition 15 = .ok (.astore_n 3, 1) := by decide +kernel
theorem dL_orderPosition_16 : decode cL_orderPosition 16 = .ok (.iconst 2, 1) := by decide +kernel
theorem dL_orderPosition_17 : decode cL_orderPosition 17 = .ok (.ireturn, 1) := by decide +kernel
theorem dL_orderPosition_18 : decode cL_orderPosition 18 = .ok (.iconst 0, 1) := by decide +kernel
theorem dL_orderPosition_19 : decode cL_orderPosition 19 = .ok (.ireturn, 1) := by decide +kernel
set_option maxRecDepth 20000 in
theorem ggL_reaches_X10_reaches : GoodIn wsL_reaches wsX10_reaches := goodIn_ca (goodIn_ca (goodIn_r _ [6, 7, 8, 9, 10, 5, 11, 12, 13, 14, 15, 16, 17, 18, 19, 20, 21, 22, 23, 24, 25, 26, 27, 28, 29, 30, 31, 32, 33, 34, 35, 36, 37, 38, 39, 40, 41, 42, 43, 44, 45, 46, 47, 48, 49, 50, 51, 52, 53, 54, 55, 56, 57, 58, 59, 60, 61, 62, 63, 64] (by decide +kernel) (by decide +kernel)) (goodIn_sub (fun _ h => List.mem_cons_of_mem _ (List.mem_append_right _ h)) (by decide +kernel))) (goodIn_sub (fun _ h => List.mem_cons_of_mem _ (List.mem_append_left _ (List.mem_append_right _ h))) (by decide +kernel))
set_option maxRecDepth 20000 in
theorem gL_reaches_X10_reaches : GoodIn wsL_reaches (wsV RL 67 RX10 yX10_reaches wsX10_reaches) := goodIn_app (goodIn_of _ (by decide +kernel)) ggL_reaches_X10_reaches
theorem dL_reaches_0 : decode cL_reaches 0 = .ok (.aload 4, 2) := by decide +kernel
theorem dL_reaches_2 : decode cL_reaches 2 = .ok (.iconst 0, 1) := by decide +kernel
theorem dL_reaches_3 : decode cL_reaches 3 = .ok (.aload_n 0, 1) := by decide +kernel
theorem dL_reaches_4 : decode cL_reaches 4 = .ok (.iload_n 1, 1) := by decide +kernel
theorem dL_reaches_5 : decode cL_reaches 5 = .ok (.iload_n 2, 1) := by decide +kernel
theorem dL_reaches_6 : decode cL_reaches 6 = .ok (.iload_n 3, 1) := by decide +kernel
theorem dL_reaches_7 : decode cL_reaches 7 = .ok (.invokevirtual 67, 3) := by decide +kernel
theorem dL_reaches_10 : decode cL_reaches 10 = .ok (.ifCond .eq 7, 3) := by decide +kernel
theorem dL_reaches_13 : decode cL_reaches 13 = .ok (.lconst 1, 1) := by decide +kernel
theorem dL_reaches_14 : decode cL_reaches 14 = .ok (.goto 4, 3) := by decide +kernel
theorem dL_reaches_17 : decode cL_reaches 17 = .ok (.lconst 0, 1) := by decide +kernel
theorem dL_reaches_18 : decode cL_reaches 18 = .ok (.lastore, 1) := by decide +kernel
theorem dL_reaches_19 : decode cL_reaches 19 = .ok (.goto 7, 3) := by decide +kernel
theorem dL_reaches_22 : decode cL_reaches 22 = .ok (.astore 5, 2) := by decide +kernel
theorem dL_reaches_24 : decode cL_reaches 24 = .ok (.iconst 1, 1) := by decide +kernel
theorem dL_reaches_25 : decode cL_reaches 25 = .ok (.ireturn, 1) := by decide +kernel
theorem dL_reaches_26 : decode cL_reaches 26 = .ok (.iconst 0, 1) := by decide +kernel
theorem dL_reaches_27 : decode cL_reaches 27 = .ok (.ireturn, 1) := by decide +kernel
set_option maxRecDepth 20000 in
theorem ggL_minimal_X10_minimal : GoodIn wsL_minimal wsX10_minimal := goodIn_ca (goodIn_ca (goodIn_r _ [6, 7, 8, 9, 10, 11, 12, 13, 5, 14, 15, 16, 17, 18, 19, 20, 21, 22, 23, 24, 25, 26, 27, 28, 29, 30, 31, 32, 33, 34, 35, 36, 37, 38, 39, 40, 41, 42, 43, 44, 45, 46, 47, 48, 49, 50, 51, 52, 53, 54, 55, 56, 57, 58, 59, 60, 61, 62, 63, 64, 65, 66, 67, 68, 69, 70, 71, 72, 73, 74, 75, 76, 77, 78, 79, 80, 81, 82, 83, 84, 85, 86, 87, 88, 89, 90, 91, 92, 93, 94, 95, 96, 97] (by decide +kernel) (by decide +kernel)) (goodIn_sub (fun _ h => List.mem_cons_of_mem _ (List.mem_append_right _ h)) (by decide +kernel))) (goodIn_sub (fun _ h => List.mem_cons_of_mem _ (List.mem_append_left _ (List.mem_append_right _ h))) (by decide +kernel))
set_option maxRecDepth 20000 in
theorem gL_minimal_X10_minimal : GoodIn wsL_minimal (wsV RL 70 RX10 yX10_minimal wsX10_minimal) := goodIn_app (goodIn_of _ (by decide +kernel)) ggL_minimal_X10_minimal
theorem dL_minimal_0 : decode cL_minimal 0 = .ok (.aload_n 2, 1) := by decide +kernel
theorem dL_minimal_1 : decode cL_minimal 1 = .ok (.iconst 0, 1) := by decide +kernel
theorem dL_minimal_2 : decode cL_minimal 2 = .ok (.aload_n 0, 1) := by decide +kernel
theorem dL_minimal_3 : decode cL_minimal 3 = .ok (.iload_n 1, 1) := by decide +kernel
theorem dL_minimal_4 : decode cL_minimal 4 = .ok (.invokevirtual 70, 3) := by decide +kernel
theorem dL_minimal_7 : decode cL_minimal 7 = .ok (.i2l, 1) := by decide +kernel
theorem dL_minimal_8 : decode cL_minimal 8 = .ok (.lastore, 1) := by decide +kernel
theorem dL_minimal_9 : decode cL_minimal 9 = .ok (.goto 6, 3) := by decide +kernel
theorem dL_minimal_12 : decode cL_minimal 12 = .ok (.astore_n 3, 1) := by decide +kernel
theorem dL_minimal_13 : decode cL_minimal 13 = .ok (.iconst 1, 1) := by decide +kernel
theorem dL_minimal_14 : decode cL_minimal 14 = .ok (.ireturn, 1) := by decide +kernel
theorem dL_minimal_15 : decode cL_minimal 15 = .ok (.iconst 0, 1) := by decide +kernel
theorem dL_minimal_16 : decode cL_minimal 16 = .ok (.ireturn, 1) := by decide +kernel
set_option maxRecDepth 20000 in
theorem ggL_cycle_X10_cycle : GoodIn wsL_cycle wsX10_cycle := goodIn_ca (goodIn_ca (goodIn_r _ [6, 7, 8, 9, 10, 11, 12, 13, 14, 15, 16, 17, 18, 19, 20, 21, 22, 23, 24, 25, 26, 27, 28, 29, 30, 31, 32, 33, 34, 35, 36, 5, 37, 38, 39, 40, 41, 42, 43, 44, 45, 46, 47, 48, 49, 50, 51, 52, 53, 54, 55, 56, 57, 58, 59, 60, 61, 62, 63, 64, 65, 66, 67, 68, 69, 70, 71, 72, 73, 74, 75, 76, 77, 78, 79, 80, 81, 82, 83, 84, 85, 86, 87, 88] (by decide +kernel) (by decide +kernel)) (goodIn_sub (fun _ h => List.mem_cons_of_mem _ (List.mem_append_right _ h)) (by decide +kernel))) (goodIn_sub (fun _ h => List.mem_cons_of_mem _ (List.mem_append_left _ (List.mem_append_right _ h))) (by decide +kernel))
set_option maxRecDepth 20000 in
theorem gL_cycle_X10_cycle : GoodIn wsL_cycle (wsV RL 73 RX10 yX10_cycle wsX10_cycle) := goodIn_app (goodIn_of _ (by decide +kernel)) ggL_cycle_X10_cycle
theorem dL_cycle_0 : decode cL_cycle 0 = .ok (.aload_n 2, 1) := by decide +kernel
theorem dL_cycle_1 : decode cL_cycle 1 = .ok (.iconst 0, 1) := by decide +kernel
theorem dL_cycle_2 : decode cL_cycle 2 = .ok (.aload_n 0, 1) := by decide +kernel
theorem dL_cycle_3 : decode cL_cycle 3 = .ok (.iload_n 1, 1) := by decide +kernel
theorem dL_cycle_4 : decode cL_cycle 4 = .ok (.invokevirtual 73, 3) := by decide +kernel
theorem dL_cycle_7 : decode cL_cycle 7 = .ok (.i2l, 1) := by decide +kernel
theorem dL_cycle_8 : decode cL_cycle 8 = .ok (.lastore, 1) := by decide +kernel
theorem dL_cycle_9 : decode cL_cycle 9 = .ok (.goto 6, 3) := by decide +kernel
theorem dL_cycle_12 : decode cL_cycle 12 = .ok (.astore_n 3, 1) := by decide +kernel
theorem dL_cycle_13 : decode cL_cycle 13 = .ok (.iconst 1, 1) := by decide +kernel
theorem dL_cycle_14 : decode cL_cycle 14 = .ok (.ireturn, 1) := by decide +kernel
theorem dL_cycle_15 : decode cL_cycle 15 = .ok (.iconst 0, 1) := by decide +kernel
theorem dL_cycle_16 : decode cL_cycle 16 = .ok (.ireturn, 1) := by decide +kernel
set_option maxRecDepth 20000 in
theorem ggL_addLinearSet_X10_addLinearSet : GoodIn wsL_addLinearSet wsX10_addLinearSet := goodIn_ca (goodIn_ca (goodIn_ca (goodIn_ca (goodIn_r _ [6, 7, 8, 9, 10, 11, 5, 12, 13, 14, 15, 16, 17, 18, 19, 20, 21, 22, 23, 24, 25, 26, 27, 28, 29, 30, 31, 32, 33, 34, 35, 36, 37, 38, 39, 40, 41, 42, 43, 44, 45, 46, 47, 48, 49, 50, 51, 52, 53, 54, 55, 56, 57, 58, 59, 60, 61, 62, 63, 64, 65, 66, 67, 68, 69, 70, 71, 72, 73, 74, 75, 76, 77, 78, 79, 80, 81, 82, 83, 84, 85, 86, 87, 88, 89, 90, 91, 92, 93, 94, 95, 96, 97, 98, 99, 100, 101, 102] (by decide +kernel) (by decide +kernel)) (goodIn_sub (fun _ h => List.mem_cons_of_mem _ (List.mem_append_left _ (List.mem_append_left _ (List.mem_append_right _ h)))) (by decide +kernel))) (goodIn_sub (fun _ h => List.mem_cons_of_mem _ (List.mem_append_left _ (List.mem_append_right _ h))) (by decide +kernel))) (goodIn_sub (fun _ h => List.mem_cons_of_mem _ (List.mem_append_right _ h)) (by decide +kernel))) (goodIn_sub (fun _ h => List.mem_cons_of_mem _ (List.mem_append_left _ (List.mem_append_left _ (List.mem_append_left _ (List.mem_append_right _ h))))) (by decide +kernel))
set_option maxRecDepth 20000 in
theorem gL_addLinearSet_X10_addLinearSet : GoodIn wsL_addLinearSet (wsV RL 76 RX10 yX10_addLinearSet wsX10_addLinearSet) := goodIn_app (goodIn_of _ (by decide +kernel)) ggL_addLinearSet_X10_addLinearSet
theorem dL_addLinearSet_0 : decode cL_addLinearSet 0 = .ok (.aload 5, 2) := by decide +kernel
theorem dL_addLinearSet_2 : decode cL_addLinearSet 2 = .ok (.iconst 0, 1) := by decide +kernel
theorem dL_addLinearSet_3 : decode cL_addLinearSet 3 = .ok (.aload_n 0, 1) := by decide +kernel
theorem dL_addLinearSet_4 : decode cL_addLinearSet 4 = .ok (.iload_n 1, 1) := by decide +kernel
theorem dL_addLinearSet_5 : decode cL_addLinearSet 5 = .ok (.iload_n 2, 1) := by decide +kernel
theorem dL_addLinearSet_6 : decode cL_addLinearSet 6 = .ok (.iload_n 3, 1) := by decide +kernel
theorem dL_addLinearSet_7 : decode cL_addLinearSet 7 = .ok (.iload 4, 2) := by decide +kernel
theorem dL_addLinearSet_9 : decode cL_addLinearSet 9 = .ok (.invokevirtual 76, 3) := by decide +kernel
theorem dL_addLinearSet_12 : decode cL_addLinearSet 12 = .ok (.i2l, 1) := by decide +kernel
theorem dL_addLinearSet_13 : decode cL_addLinearSet 13 = .ok (.lastore, 1) := by decide +kernel
theorem dL_addLinearSet_14 : decode cL_addLinearSet 14 = .ok (.goto 15, 3) := by decide +kernel
theorem dL_addLinearSet_17 : decode cL_addLinearSet 17 = .ok (.astore 6, 2) := by decide +kernel
theorem dL_addLinearSet_19 : decode cL_addLinearSet 19 = .ok (.iconst 1, 1) := by decide +kernel
theorem dL_addLinearSet_20 : decode cL_addLinearSet 20 = .ok (.ireturn, 1) := by decide +kernel
theorem dL_addLinearSet_21 : decode cL_addLinearSet 21 = .ok (.astore 6, 2) := by decide +kernel
theorem dL_addLinearSet_23 : decode cL_addLinearSet 23 = .ok (.iconst 2, 1) := by decide +kernel
theorem dL_addLinearSet_24 : decode cL_addLinearSet 24 = .ok (.ireturn, 1) := by decide +kernel
theorem dL_addLinearSet_25 : decode cL_addLinearSet 25 = .ok (.astore 6, 2) := by decide +kernel
theorem dL_addLinearSet_27 : decode cL_addLinearSet 27 = .ok (.iconst 3, 1) := by decide +kernel
theorem dL_addLinearSet_28 : decode cL_addLinearSet 28 = .ok (.ireturn, 1) := by decide +kernel
theorem dL_addLinearSet_29 : decode cL_addLinearSet 29 = .ok (.iconst 0, 1) := by decide +kernel
theorem dL_addLinearSet_30 : decode cL_addLinearSet 30 = .ok (.ireturn, 1) := by decide +kernel
set_option maxRecDepth 20000 in
theorem ggL_addPeriod_X10_addPeriod : GoodIn wsL_addPeriod wsX10_addPeriod := goodIn_ca (goodIn_ca (goodIn_ca (goodIn_ca (goodIn_r _ [6, 7, 8, 9, 10, 11, 12, 13, 14, 5, 15, 16, 17, 18, 19, 20, 21, 22, 23, 24, 25, 26, 27, 28, 29, 30, 31, 32, 33, 34, 35, 36, 37, 38, 39, 40, 41, 42, 43, 44, 45, 46, 47, 48, 49, 50, 51, 52, 53, 54, 55, 56, 57, 58, 59, 60, 61, 62, 63, 64, 65, 66, 67, 68, 69, 70, 71, 72, 73, 74, 75, 76, 77, 78, 79, 80, 81, 82, 83, 84, 85, 86, 87, 88, 89, 90, 91, 92, 93, 94, 95, 96, 97, 98, 99, 100, 101, 102, 103, 104, 105, 106, 107, 108] (by decide +kernel) (by decide +kernel)) (goodIn_sub (fun _ h => List.mem_cons_of_mem _ (List.mem_append_left _ (List.mem_append_left _ (List.mem_append_right _ h)))) (by decide +kernel))) (goodIn_sub (fun _ h => List.mem_cons_of_mem _ (List.mem_append_left _ (List.mem_append_right _ h))) (by decide +kernel))) (goodIn_sub (fun _ h => List.mem_cons_of_mem _ (List.mem_append_right _ h)) (by decide +kernel))) (goodIn_sub (fun _ h => List.mem_cons_of_mem _ (List.mem_append_left _ (List.mem_append_left _ (List.mem_append_left _ (List.mem_append_right _ h))))) (by decide +kernel))
set_option maxRecDepth 20000 in
theorem gL_addPeriod_X10_addPeriod : GoodIn wsL_addPeriod (wsV RL 80 RX10 yX10_addPeriod wsX10_addPeriod) := goodIn_app (goodIn_of _ (by decide +kernel)) ggL_addPeriod_X10_addPeriod
theorem dL_addPeriod_0 : decode cL_addPeriod 0 = .ok (.aload 6, 2) := by decide +kernel
theorem dL_addPeriod_2 : decode cL_addPeriod 2 = .ok (.iconst 0, 1) := by decide +kernel
theorem dL_addPeriod_3 : decode cL_addPeriod 3 = .ok (.aload_n 0, 1) := by decide +kernel
theorem dL_addPeriod_4 : decode cL_addPeriod 4 = .ok (.iload_n 1, 1) := by decide +kernel
theorem dL_addPeriod_5 : decode cL_addPeriod 5 = .ok (.iload_n 2, 1) := by decide +kernel
theorem dL_addPeriod_6 : decode cL_addPeriod 6 = .ok (.iload_n 3, 1) := by decide +kernel
theorem dL_addPeriod_7 : decode cL_addPeriod 7 = .ok (.iload 4, 2) := by decide +kernel
theorem dL_addPeriod_9 : decode cL_addPeriod 9 = .ok (.iload 5, 2) := by decide +kernel
theorem dL_addPeriod_11 : decode cL_addPeriod 11 = .ok (.invokevirtual 80, 3) := by decide +kernel
theorem dL_addPeriod_14 : decode cL_addPeriod 14 = .ok (.i2l, 1) := by decide +kernel
theorem dL_addPeriod_15 : decode cL_addPeriod 15 = .ok (.lastore, 1) := by decide +kernel
theorem dL_addPeriod_16 : decode cL_addPeriod 16 = .ok (.goto 15, 3) := by decide +kernel
theorem dL_addPeriod_19 : decode cL_addPeriod 19 = .ok (.astore 7, 2) := by decide +kernel
theorem dL_addPeriod_21 : decode cL_addPeriod 21 = .ok (.iconst 1, 1) := by decide +kernel
theorem dL_addPeriod_22 : decode cL_addPeriod 22 = .ok (.ireturn, 1) := by decide +kernel
theorem dL_addPeriod_23 : decode cL_addPeriod 23 = .ok (.astore 7, 2) := by decide +kernel
theorem dL_addPeriod_25 : decode cL_addPeriod 25 = .ok (.iconst 2, 1) := by decide +kernel
theorem dL_addPeriod_26 : decode cL_addPeriod 26 = .ok (.ireturn, 1) := by decide +kernel
theorem dL_addPeriod_27 : decode cL_addPeriod 27 = .ok (.astore 7, 2) := by decide +kernel
theorem dL_addPeriod_29 : decode cL_addPeriod 29 = .ok (.iconst 3, 1) := by decide +kernel
theorem dL_addPeriod_30 : decode cL_addPeriod 30 = .ok (.ireturn, 1) := by decide +kernel
theorem dL_addPeriod_31 : decode cL_addPeriod 31 = .ok (.iconst 0, 1) := by decide +kernel
theorem dL_addPeriod_32 : decode cL_addPeriod 32 = .ok (.ireturn, 1) := by decide +kernel
set_option maxRecDepth 20000 in
theorem ggL_clearSet_X10_clearSet : GoodIn wsL_clearSet wsX10_clearSet := goodIn_ca (goodIn_ca (goodIn_r _ [6, 7, 8, 9, 5, 10, 11, 12, 13, 14, 15, 16, 17, 18, 19, 20, 21, 22, 23, 24, 25, 26, 27, 28, 29, 30, 31, 32, 33, 34, 35, 36, 37, 38, 39, 40, 41, 42, 43, 44, 45, 46, 47, 48, 49, 50, 51, 52, 53, 54, 55, 56, 57, 58, 59, 60, 61, 62, 63, 64, 65, 66, 67, 68, 69, 70, 71, 72, 73, 74, 75, 76, 77, 78, 79, 80, 81, 82] (by decide +kernel) (by decide +kernel)) (goodIn_sub (fun _ h => List.mem_cons_of_mem _ (List.mem_append_right _ h)) (by decide +kernel))) (goodIn_sub (fun _ h => List.mem_cons_of_mem _ (List.mem_append_left _ (List.mem_append_right _ h))) (by decide +kernel))
set_option maxRecDepth 20000 in
theorem gL_clearSet_X10_clearSet : GoodIn wsL_clearSet (wsV RL 84 RX10 yX10_clearSet wsX10_clearSet) := goodIn_app (goodIn_of _ (by decide +kernel)) ggL_clearSet_X10_clearSet
theorem dL_clearSet_0 : decode cL_clearSet 0 = .ok (.aload_n 2, 1) := by decide +kernel
theorem dL_clearSet_1 : decode cL_clearSet 1 = .ok (.iconst 0, 1) := by decide +kernel
theorem dL_clearSet_2 : decode cL_clearSet 2 = .ok (.aload_n 0, 1) := by decide +kernel
theorem dL_clearSet_3 : decode cL_clearSet 3 = .ok (.iload_n 1, 1) := by decide +kernel
theorem dL_clearSet_4 : decode cL_clearSet 4 = .ok (.invokevirtual 84, 3) := by decide +kernel
theorem dL_clearSet_7 : decode cL_clearSet 7 = .ok (.i2l, 1) := by decide +kernel
theorem dL_clearSet_8 : decode cL_clearSet 8 = .ok (.lastore, 1) := by decide +kernel
theorem dL_clearSet_9 : decode cL_clearSet 9 = .ok (.goto 6, 3) := by decide +kernel
theorem dL_clearSet_12 : decode cL_clearSet 12 = .ok (.astore_n 3, 1) := by decide +kernel
theorem dL_clearSet_13 : decode cL_clearSet 13 = .ok (.iconst 1, 1) := by decide +kernel
theorem dL_clearSet_14 : decode cL_clearSet 14 = .ok (.ireturn, 1) := by decide +kernel
theorem dL_clearSet_15 : decode cL_clearSet 15 = .ok (.iconst 0, 1) := by decide +kernel
theorem dL_clearSet_16 : decode cL_clearSet 16 = .ok (.ireturn, 1) := by decide +kernel
set_option maxRecDepth 20000 in
theorem ggL_contains_X10_contains : GoodIn wsL_contains wsX10_contains := goodIn_ca (goodIn_ca (goodIn_ca (goodIn_r _ [6, 7, 8, 9, 10, 5, 11, 12, 13, 14, 15, 16, 17, 18, 19, 20, 21, 22, 23, 24, 25, 26, 27, 28, 29, 30, 31, 32, 33, 34, 35, 36, 37, 38, 39, 40, 41, 42, 43, 44, 45, 46, 47, 48, 49, 50, 51, 52, 53, 54, 55, 56, 57, 58, 59, 60, 61, 62, 63, 64, 65, 66, 67, 68, 69, 70, 71, 72, 73, 74, 75, 76, 77, 78, 79, 80, 81, 82, 83, 84, 85, 86, 87, 88, 89, 90, 91, 92, 93, 94, 95, 96, 97, 98, 99, 100, 101, 102] (by decide +kernel) (by decide +kernel)) (goodIn_sub (fun _ h => List.mem_cons_of_mem _ (List.mem_append_left _ (List.mem_append_right _ h))) (by decide +kernel))) (goodIn_sub (fun _ h => List.mem_cons_of_mem _ (List.mem_append_right _ h)) (by decide +kernel))) (goodIn_sub (fun _ h => List.mem_cons_of_mem _ (List.mem_append_left _ (List.mem_append_left _ (List.mem_append_right _ h)))) (by decide +kernel))
set_option maxRecDepth 20000 in
theorem gL_contains_X10_contains : GoodIn wsL_contains (wsV RL 87 RX10 yX10_contains wsX10_contains) := goodIn_app (goodIn_of _ (by decide +kernel)) ggL_contains_X10_contains
theorem dL_contains_0 : decode cL_contains 0 = .ok (.aload 5, 2) := by decide +kernel
theorem dL_contains_2 : decode cL_contains 2 = .ok (.iconst 0, 1) := by decide +kernel
theorem dL_contains_3 : decode cL_contains 3 = .ok (.aload_n 0, 1) := by decide +kernel
theorem dL_contains_4 : decode cL_contains 4 = .ok (.iload_n 1, 1) := by decide +kernel
theorem dL_contains_5 : decode cL_contains 5 = .ok (.iload_n 2, 1) := by decide +kernel
theorem dL_contains_6 : decode cL_contains 6 = .ok (.iload_n 3, 1) := by decide +kernel
theorem dL_contains_7 : decode cL_contains 7 = .ok (.iload 4, 2) := by decide +kernel
theorem dL_contains_9 : decode cL_contains 9 = .ok (.invokevirtual 87, 3) := by decide +kernel
theorem dL_contains_12 : decode cL_contains 12 = .ok (.ifCond .eq 7, 3) := by decide +kernel
theorem dL_contains_15 : decode cL_contains 15 = .ok (.lconst 1, 1) := by decide +kernel
theorem dL_contains_16 : decode cL_contains 16 = .ok (.goto 4, 3) := by decide +kernel
theorem dL_contains_19 : decode cL_contains 19 = .ok (.lconst 0, 1) := by decide +kernel
theorem dL_contains_20 : decode cL_contains 20 = .ok (.lastore, 1) := by decide +kernel
theorem dL_contains_21 : decode cL_contains 21 = .ok (.goto 11, 3) := by decide +kernel
theorem dL_contains_24 : decode cL_contains 24 = .ok (.astore 6, 2) := by decide +kernel
theorem dL_contains_26 : decode cL_contains 26 = .ok (.iconst 1, 1) := by decide +kernel
theorem dL_contains_27 : decode cL_contains 27 = .ok (.ireturn, 1) := by decide +kernel
theorem dL_contains_28 : decode cL_contains 28 = .ok (.astore 6, 2) := by decide +kernel
theorem dL_contains_30 : decode cL_contains 30 = .ok (.iconst 2, 1) := by decide +kernel
theorem dL_contains_31 : decode cL_contains 31 = .ok (.ireturn, 1) := by decide +kernel
theorem dL_contains_32 : decode cL_contains 32 = .ok (.iconst 0, 1) := by decide +kernel
theorem dL_contains_33 : decode cL_contains 33 = .ok (.ireturn, 1) := by decide +kernel
set_option maxRecDepth 20000 in
theorem ggL_elements_X10_elements : GoodIn wsL_elements wsX10_elements := goodIn_ca (goodIn_ca (goodIn_ca (goodIn_r _ [6, 7, 8, 9, 10, 5, 11, 12, 13, 14, 15, 16, 17, 18, 19, 20, 21, 22, 23, 24, 25, 26, 27, 28, 29, 30, 31, 32, 33, 34, 35, 36, 37, 38, 39, 40, 41, 42, 43, 44, 45, 46, 47, 48, 49, 50, 51, 52, 53, 54, 55, 56, 57, 58, 59, 60, 61, 62, 63, 64, 65, 66, 67, 68, 69, 70, 71, 72, 73, 74, 75, 76, 77, 78, 79, 80, 81, 82, 83, 84, 85, 86, 87, 88, 89, 90, 91, 92, 93, 94, 95, 96, 97, 98, 99, 100, 101, 102, 103, 104] (by decide +kernel) (by decide +kernel)) (goodIn_sub (fun _ h => List.mem_cons_of_mem _ (List.mem_append_left _ (List.mem_append_right _ h))) (by decide +kernel))) (goodIn_sub (fun _ h => List.mem_cons_of_mem _ (List.mem_append_right _ h)) (by decide +kernel))) (goodIn_sub (fun _ h => List.mem_cons_of_mem _ (List.mem_append_left _ (List.mem_append_left _ (List.mem_append_right _ h)))) (by decide +kernel))
set_option maxRecDepth 20000 in
theorem gL_elements_X10_elements : GoodIn wsL_elements (wsV RL 91 RX10 yX10_elements wsX10_elements) := goodIn_app (goodIn_of _ (by decide +kernel)) ggL_elements_X10_elements
theorem dL_elements_0 : decode cL_elements 0 = .ok (.aload_n 3, 1) := by decide +kernel
theorem dL_elements_1 : decode cL_elements 1 = .ok (.iconst 0, 1) := by decide +kernel
theorem dL_elements_2 : decode cL_elements 2 = .ok (.aload_n 0, 1) := by decide +kernel
theorem dL_elements_3 : decode cL_elements 3 = .ok (.iload_n 1, 1) := by decide +kernel
theorem dL_elements_4 : decode cL_elements 4 = .ok (.iload_n 2, 1) := by decide +kernel
theorem dL_elements_5 : decode cL_elements 5 = .ok (.invokevirtual 91, 3) := by decide +kernel
theorem dL_elements_8 : decode cL_elements 8 = .ok (.i2l, 1) := by decide +kernel
theorem dL_elements_9 : decode cL_elements 9 = .ok (.lastore, 1) := by decide +kernel
theorem dL_elements_10 : decode cL_elements 10 = .ok (.goto 11, 3) := by decide +kernel
theorem dL_elements_13 : decode cL_elements 13 = .ok (.astore 4, 2) := by decide +kernel
theorem dL_elements_15 : decode cL_elements 15 = .ok (.iconst 1, 1) := by decide +kernel
theorem dL_elements_16 : decode cL_elements 16 = .ok (.ireturn, 1) := by decide +kernel
theorem dL_elements_17 : decode cL_elements 17 = .ok (.astore 4, 2) := by decide +kernel
theorem dL_elements_19 : decode cL_elements 19 = .ok (.iconst 2, 1) := by decide +kernel
theorem dL_elements_20 : decode cL_elements 20 = .ok (.ireturn, 1) := by decide +kernel
theorem dL_elements_21 : decode cL_elements 21 = .ok (.iconst 0, 1) := by decide +kernel
theorem dL_elements_22 : decode cL_elements 22 = .ok (.ireturn, 1) := by decide +kernel
set_option maxRecDepth 20000 in
theorem ggL_reachedCounts_X10_reachedCounts : GoodIn wsL_reachedCounts wsX10_reachedCounts := goodIn_ca (goodIn_ca (goodIn_r _ [6, 7, 8, 9, 10, 11, 5, 12, 13, 14, 15, 16, 17, 18, 19, 20, 21, 22, 23, 24, 25, 26, 27, 28, 29, 30, 31, 32, 33, 34, 35, 36, 37, 38, 39, 40, 41, 42, 43, 44, 45, 46, 47, 48, 49, 50, 51, 52, 53, 54, 55, 56, 57, 58, 59, 60, 61, 62] (by decide +kernel) (by decide +kernel)) (goodIn_sub (fun _ h => List.mem_cons_of_mem _ (List.mem_append_right _ h)) (by decide +kernel))) (goodIn_sub (fun _ h => List.mem_cons_of_mem _ (List.mem_append_left _ (List.mem_append_right _ h))) (by decide +kernel))
set_option maxRecDepth 20000 in
theorem gL_reachedCounts_X10_reachedCounts : GoodIn wsL_reachedCounts (wsV RL 95 RX10 yX10_reachedCounts wsX10_reachedCounts) := goodIn_app (goodIn_of _ (by decide +kernel)) ggL_reachedCounts_X10_reachedCounts
theorem dL_reachedCounts_0 : decode cL_reachedCounts 0 = .ok (.aload_n 2, 1) := by decide +kernel
theorem dL_reachedCounts_1 : decode cL_reachedCounts 1 = .ok (.iconst 0, 1) := by decide +kernel
theorem dL_reachedCounts_2 : decode cL_reachedCounts 2 = .ok (.aload_n 0, 1) := by decide +kernel
theorem dL_reachedCounts_3 : decode cL_reachedCounts 3 = .ok (.iload_n 1, 1) := by decide +kernel
theorem dL_reachedCounts_4 : decode cL_reachedCounts 4 = .ok (.invokevirtual 95, 3) := by decide +kernel
theorem dL_reachedCounts_7 : decode cL_reachedCounts 7 = .ok (.i2l, 1) := by decide +kernel
theorem dL_reachedCounts_8 : decode cL_reachedCounts 8 = .ok (.lastore, 1) := by decide +kernel
theorem dL_reachedCounts_9 : decode cL_reachedCounts 9 = .ok (.goto 6, 3) := by decide +kernel
theorem dL_reachedCounts_12 : decode cL_reachedCounts 12 = .ok (.astore_n 3, 1) := by decide +kernel
theorem dL_reachedCounts_13 : decode cL_reachedCounts 13 = .ok (.iconst 1, 1) := by decide +kernel
theorem dL_reachedCounts_14 : decode cL_reachedCounts 14 = .ok (.ireturn, 1) := by decide +kernel
theorem dL_reachedCounts_15 : decode cL_reachedCounts 15 = .ok (.iconst 0, 1) := by decide +kernel
theorem dL_reachedCounts_16 : decode cL_reachedCounts 16 = .ok (.ireturn, 1) := by decide +kernel
set_option maxRecDepth 20000 in
theorem ggL_firstMissing_X10_firstMissing : GoodIn wsL_firstMissing wsX10_firstMissing := goodIn_ca (goodIn_ca (goodIn_ca (goodIn_ca (goodIn_r _ [6, 7, 8, 5, 9, 10, 11, 12, 13, 14, 15, 16, 17, 18, 19, 20, 21, 22, 23, 24, 25, 26, 27, 28, 29, 30, 31, 32, 33, 34, 35, 36, 37, 38, 39, 40, 41, 42, 43, 44, 45, 46, 47, 48, 49, 50, 51, 52, 53, 54, 55, 56, 57, 58, 59, 60, 61, 62, 63, 64, 65, 66, 67, 68, 69, 70, 71, 72, 73, 74, 75, 76, 77, 78, 79, 80, 81, 82, 83, 84, 85, 86, 87, 88, 89, 90, 91, 92, 93, 94, 95, 96, 97, 98, 99, 100, 101, 102, 103, 104, 105, 106, 107, 108, 109, 110, 111, 112, 113, 114, 115, 116, 117, 118, 119, 120, 121, 122, 123, 124, 125, 126, 127, 128, 129, 130, 131, 132, 133] (by decide +kernel) (by decide +kernel)) (goodIn_sub (fun _ h => List.mem_cons_of_mem _ (List.mem_append_left _ (List.mem_append_left _ (List.mem_append_right _ h)))) (by decide +kernel))) (goodIn_sub (fun _ h => List.mem_cons_of_mem _ (List.mem_append_left _ (List.mem_append_right _ h))) (by decide +kernel))) (goodIn_sub (fun _ h => List.mem_cons_of_mem _ (List.mem_append_right _ h)) (by decide +kernel))) (goodIn_sub (fun _ h => List.mem_cons_of_mem _ (List.mem_append_left _ (List.mem_append_left _ (List.mem_append_left _ (List.mem_append_right _ h))))) (by decide +kernel))
set_option maxRecDepth 20000 in
theorem gL_firstMissing_X10_firstMissing : GoodIn wsL_firstMissing (wsV RL 98 RX10 yX10_firstMissing wsX10_firstMissing) := goodIn_app (goodIn_of _ (by decide +kernel)) ggL_firstMissing_X10_firstMissing
theorem dL_firstMissing_0 : decode cL_firstMissing 0 = .ok (.aload_n 3, 1) := by decide +kernel
theorem dL_firstMissing_1 : decode cL_firstMissing 1 = .ok (.iconst 0, 1) := by decide +kernel
theorem dL_firstMissing_2 : decode cL_firstMissing 2 = .ok (.aload_n 0, 1) := by decide +kernel
theorem dL_firstMissing_3 : decode cL_firstMissing 3 = .ok (.iload_n 1, 1) := by decide +kernel
theorem dL_firstMissing_4 : decode cL_firstMissing 4 = .ok (.iload_n 2, 1) := by decide +kernel
theorem dL_firstMissing_5 : decode cL_firstMissing 5 = .ok (.invokevirtual 98, 3) := by decide +kernel
theorem dL_firstMissing_8 : decode cL_firstMissing 8 = .ok (.i2l, 1) := by decide +kernel
theorem dL_firstMissing_9 : decode cL_firstMissing 9 = .ok (.lastore, 1) := by decide +kernel
theorem dL_firstMissing_10 : decode cL_firstMissing 10 = .ok (.goto 15, 3) := by decide +kernel
theorem dL_firstMissing_13 : decode cL_firstMissing 13 = .ok (.astore 4, 2) := by decide +kernel
theorem dL_firstMissing_15 : decode cL_firstMissing 15 = .ok (.iconst 1, 1) := by decide +kernel
theorem dL_firstMissing_16 : decode cL_firstMissing 16 = .ok (.ireturn, 1) := by decide +kernel
theorem dL_firstMissing_17 : decode cL_firstMissing 17 = .ok (.astore 4, 2) := by decide +kernel
theorem dL_firstMissing_19 : decode cL_firstMissing 19 = .ok (.iconst 2, 1) := by decide +kernel
theorem dL_firstMissing_20 : decode cL_firstMissing 20 = .ok (.ireturn, 1) := by decide +kernel
theorem dL_firstMissing_21 : decode cL_firstMissing 21 = .ok (.astore 4, 2) := by decide +kernel
theorem dL_firstMissing_23 : decode cL_firstMissing 23 = .ok (.iconst 3, 1) := by decide +kernel
theorem dL_firstMissing_24 : decode cL_firstMissing 24 = .ok (.ireturn, 1) := by decide +kernel
theorem dL_firstMissing_25 : decode cL_firstMissing 25 = .ok (.iconst 0, 1) := by decide +kernel
theorem dL_firstMissing_26 : decode cL_firstMissing 26 = .ok (.ireturn, 1) := by decide +kernel
set_option maxRecDepth 20000 in
theorem ggL_firstExtra_X10_firstExtra : GoodIn wsL_firstExtra wsX10_firstExtra := goodIn_ca (goodIn_ca (goodIn_ca (goodIn_ca (goodIn_r _ [6, 7, 8, 5, 9, 10, 11, 12, 13, 14, 15, 16, 17, 18, 19, 20, 21, 22, 23, 24, 25, 26, 27, 28, 29, 30, 31, 32, 33, 34, 35, 36, 37, 38, 39, 40, 41, 42, 43, 44, 45, 46, 47, 48, 49, 50, 51, 52, 53, 54, 55, 56, 57, 58, 59, 60, 61, 62, 63, 64, 65, 66, 67, 68, 69, 70, 71, 72, 73, 74, 75, 76, 77, 78, 79, 80, 81, 82, 83, 84, 85, 86, 87, 88, 89, 90, 91, 92, 93, 94, 95, 96, 97, 98, 99, 100, 101, 102, 103, 104, 105, 106, 107, 108, 109, 110, 111, 112, 113, 114, 115, 116, 117, 118, 119, 120, 121, 122, 123, 124, 125, 126, 127, 128, 129, 130, 131, 132, 133] (by decide +kernel) (by decide +kernel)) (goodIn_sub (fun _ h => List.mem_cons_of_mem _ (List.mem_append_left _ (List.mem_append_left _ (List.mem_append_right _ h)))) (by decide +kernel))) (goodIn_sub (fun _ h => List.mem_cons_of_mem _ (List.mem_append_left _ (List.mem_append_right _ h))) (by decide +kernel))) (goodIn_sub (fun _ h => List.mem_cons_of_mem _ (List.mem_append_right _ h)) (by decide +kernel))) (goodIn_sub (fun _ h => List.mem_cons_of_mem _ (List.mem_append_left _ (List.mem_append_left _ (List.mem_append_left _ (List.mem_append_right _ h))))) (by decide +kernel))
set_option maxRecDepth 20000 in
theorem gL_firstExtra_X10_firstExtra : GoodIn wsL_firstExtra (wsV RL 101 RX10 yX10_firstExtra wsX10_firstExtra) := goodIn_app (goodIn_of _ (by decide +kernel)) ggL_firstExtra_X10_firstExtra
theorem dL_firstExtra_0 : decode cL_firstExtra 0 = .ok (.aload_n 3, 1) := by decide +kernel
theorem dL_firstExtra_1 : decode cL_firstExtra 1 = .ok (.iconst 0, 1) := by decide +kernel
theorem dL_firstExtra_2 : decode cL_firstExtra 2 = .ok (.aload_n 0, 1) := by decide +kernel
theorem dL_firstExtra_3 : decode cL_firstExtra 3 = .ok (.iload_n 1, 1) := by decide +kernel
theorem dL_firstExtra_4 : decode cL_firstExtra 4 = .ok (.iload_n 2, 1) := by decide +kernel
theorem dL_firstExtra_5 : decode cL_firstExtra 5 = .ok (.invokevirtual 101, 3) := by decide +kernel
theorem dL_firstExtra_8 : decode cL_firstExtra 8 = .ok (.i2l, 1) := by decide +kernel
theorem dL_firstExtra_9 : decode cL_firstExtra 9 = .ok (.lastore, 1) := by decide +kernel
theorem dL_firstExtra_10 : decode cL_firstExtra 10 = .ok (.goto 15, 3) := by decide +kernel
theorem dL_firstExtra_13 : decode cL_firstExtra 13 = .ok (.astore 4, 2) := by decide +kernel
theorem dL_firstExtra_15 : decode cL_firstExtra 15 = .ok (.iconst 1, 1) := by decide +kernel
theorem dL_firstExtra_16 : decode cL_firstExtra 16 = .ok (.ireturn, 1) := by decide +kernel
theorem dL_firstExtra_17 : decode cL_firstExtra 17 = .ok (.astore 4, 2) := by decide +kernel
theorem dL_firstExtra_19 : decode cL_firstExtra 19 = .ok (.iconst 2, 1) := by decide +kernel
theorem dL_firstExtra_20 : decode cL_firstExtra 20 = .ok (.ireturn, 1) := by decide +kernel
theorem dL_firstExtra_21 : decode cL_firstExtra 21 = .ok (.astore 4, 2) := by decide +kernel
theorem dL_firstExtra_23 : decode cL_firstExtra 23 = .ok (.iconst 3, 1) := by decide +kernel
theorem dL_firstExtra_24 : decode cL_firstExtra 24 = .ok (.ireturn, 1) := by decide +kernel
theorem dL_firstExtra_25 : decode cL_firstExtra 25 = .ok (.iconst 0, 1) := by decide +kernel
theorem dL_firstExtra_26 : decode cL_firstExtra 26 = .ok (.ireturn, 1) := by decide +kernel
set_option maxRecDepth 20000 in
theorem ggL_hasCyclePeriods_X10_hasCyclePeriods : GoodIn wsL_hasCyclePeriods wsX10_hasCyclePeriods := goodIn_ca (goodIn_ca (goodIn_r _ [6, 7, 8, 9, 10, 11, 12, 13, 5, 14, 15, 16, 17, 18, 19, 20, 21, 22, 23, 24, 25, 26, 27, 28, 29, 30, 31, 32, 33, 34, 35, 36, 37, 38, 39, 40, 41, 42, 43, 44, 45, 46, 47, 48, 49, 50, 51, 52, 53, 54, 55, 56, 57, 58, 59, 60, 61, 62, 63, 64, 65, 66, 67, 68, 69, 70, 71, 72, 73, 74, 75, 76, 77, 78, 79, 80, 81, 82, 83, 84, 85, 86, 87, 88, 89, 90, 91, 92, 93, 94, 95, 96, 97, 98, 99, 100, 101, 102, 103, 104, 105, 106, 107, 108, 109, 110, 111, 112, 113, 114, 115] (by decide +kernel) (by decide +kernel)) (goodIn_sub (fun _ h => List.mem_cons_of_mem _ (List.mem_append_right _ h)) (by decide +kernel))) (goodIn_sub (fun _ h => List.mem_cons_of_mem _ (List.mem_append_left _ (List.mem_append_right _ h))) (by decide +kernel))
set_option maxRecDepth 20000 in
theorem gL_hasCyclePeriods_X10_hasCyclePeriods : GoodIn wsL_hasCyclePeriods (wsV RL 104 RX10 yX10_hasCyclePeriods wsX10_hasCyclePeriods) := goodIn_app (goodIn_of _ (by decide +kernel)) ggL_hasCyclePeriods_X10_hasCyclePeriods
theorem dL_hasCyclePeriods_0 : decode cL_hasCyclePeriods 0 = .ok (.aload_n 3, 1) := by decide +kernel
theorem dL_hasCyclePeriods_1 : decode cL_hasCyclePeriods 1 = .ok (.iconst 0, 1) := by decide +kernel
theorem dL_hasCyclePeriods_2 : decode cL_hasCyclePeriods 2 = .ok (.aload_n 0, 1) := by decide +kernel
theorem dL_hasCyclePeriods_3 : decode cL_hasCyclePeriods 3 = .ok (.iload_n 1, 1) := by decide +kernel
theorem dL_hasCyclePeriods_4 : decode cL_hasCyclePeriods 4 = .ok (.iload_n 2, 1) := by decide +kernel
theorem dL_hasCyclePeriods_5 : decode cL_hasCyclePeriods 5 = .ok (.invokevirtual 104, 3) := by decide +kernel
theorem dL_hasCyclePeriods_8 : decode cL_hasCyclePeriods 8 = .ok (.ifCond .eq 7, 3) := by decide +kernel
theorem dL_hasCyclePeriods_11 : decode cL_hasCyclePeriods 11 = .ok (.lconst 1, 1) := by decide +kernel
theorem dL_hasCyclePeriods_12 : decode cL_hasCyclePeriods 12 = .ok (.goto 4, 3) := by decide +kernel
theorem dL_hasCyclePeriods_15 : decode cL_hasCyclePeriods 15 = .ok (.lconst 0, 1) := by decide +kernel
theorem dL_hasCyclePeriods_16 : decode cL_hasCyclePeriods 16 = .ok (.lastore, 1) := by decide +kernel
theorem dL_hasCyclePeriods_17 : decode cL_hasCyclePeriods 17 = .ok (.goto 7, 3) := by decide +kernel
theorem dL_hasCyclePeriods_20 : decode cL_hasCyclePeriods 20 = .ok (.astore 4, 2) := by decide +kernel
theorem dL_hasCyclePeriods_22 : decode cL_hasCyclePeriods 22 = .ok (.iconst 1, 1) := by decide +kernel
theorem dL_hasCyclePeriods_23 : decode cL_hasCyclePeriods 23 = .ok (.ireturn, 1) := by decide +kernel
theorem dL_hasCyclePeriods_24 : decode cL_hasCyclePeriods 24 = .ok (.iconst 0, 1) := by decide +kernel
theorem dL_hasCyclePeriods_25 : decode cL_hasCyclePeriods 25 = .ok (.ireturn, 1) := by decide +kernel
set_option maxRecDepth 20000 in
theorem ggL_acceptedWords_X10_acceptedWords : GoodIn wsL_acceptedWords wsX10_acceptedWords := goodIn_ca (goodIn_ca (goodIn_ca (goodIn_ca (goodIn_r _ [6, 7, 8, 5, 9, 10, 11, 12, 13, 14, 15, 16, 17, 18, 19, 20, 21, 22, 23, 24, 25, 26, 27, 28, 29, 30, 31, 32, 33, 34, 35, 36, 37, 38, 39, 40, 41, 42, 43, 44, 45, 46, 47, 48, 49, 50, 51, 52, 53, 54, 55, 56, 57, 58, 59, 60, 61, 62, 63, 64, 65, 66, 67, 68, 69, 70, 71, 72, 73, 74, 75, 76, 77, 78, 79, 80, 81, 82, 83, 84, 85, 86, 87, 88, 89, 90, 91, 92, 93, 94, 95, 96, 97, 98, 99, 100, 101, 102, 103, 104, 105, 106, 107, 108, 109, 110, 111, 112, 113, 114, 115, 116, 117, 118, 119, 120, 121, 122, 123, 124, 125, 126, 127, 128, 129, 130, 131, 132, 133, 134, 135, 136, 137, 138, 139, 140, 141, 142, 143, 144, 145, 146, 147, 148, 149, 150, 151, 152, 153, 154] (by decide +kernel) (by decide +kernel)) (goodIn_sub (fun _ h => List.mem_cons_of_mem _ (List.mem_append_left _ (List.mem_append_left _ (List.mem_append_right _ h)))) (by decide +kernel))) (goodIn_sub (fun _ h => List.mem_cons_of_mem _ (List.mem_append_left _ (List.mem_append_right _ h))) (by decide +kernel))) (goodIn_sub (fun _ h => List.mem_cons_of_mem _ (List.mem_append_left _ (List.mem_append_left _ (List.mem_append_left _ (List.mem_append_right _ h))))) (by decide +kernel))) (goodIn_sub (fun _ h => List.mem_cons_of_mem _ (List.mem_append_right _ h)) (by decide +kernel))
set_option maxRecDepth 20000 in
theorem gL_acceptedWords_X10_acceptedWords : GoodIn wsL_acceptedWords (wsV RL 108 RX10 yX10_acceptedWords wsX10_acceptedWords) := goodIn_app (goodIn_of _ (by decide +kernel)) ggL_acceptedWords_X10_acceptedWords
theorem dL_acceptedWords_0 : decode cL_acceptedWords 0 = .ok (.aload_n 3, 1) := by decide +kernel
theorem dL_acceptedWords_1 : decode cL_acceptedWords 1 = .ok (.iconst 0, 1) := by decide +kernel
theorem dL_acceptedWords_2 : decode cL_acceptedWords 2 = .ok (.aload_n 0, 1) := by decide +kernel
theorem dL_acceptedWords_3 : decode cL_acceptedWords 3 = .ok (.iload_n 1, 1) := by decide +kernel
theorem dL_acceptedWords_4 : decode cL_acceptedWords 4 = .ok (.iload_n 2, 1) := by decide +kernel
theorem dL_acceptedWords_5 : decode cL_acceptedWords 5 = .ok (.invokevirtual 108, 3) := by decide +kernel
theorem dL_acceptedWords_8 : decode cL_acceptedWords 8 = .ok (.lastore, 1) := by decide +kernel
theorem dL_acceptedWords_9 : decode cL_acceptedWords 9 = .ok (.goto 11, 3) := by decide +kernel
theorem dL_acceptedWords_12 : decode cL_acceptedWords 12 = .ok (.astore 4, 2) := by decide +kernel
theorem dL_acceptedWords_14 : decode cL_acceptedWords 14 = .ok (.iconst 1, 1) := by decide +kernel
theorem dL_acceptedWords_15 : decode cL_acceptedWords 15 = .ok (.ireturn, 1) := by decide +kernel
theorem dL_acceptedWords_16 : decode cL_acceptedWords 16 = .ok (.astore 4, 2) := by decide +kernel
theorem dL_acceptedWords_18 : decode cL_acceptedWords 18 = .ok (.iconst 2, 1) := by decide +kernel
theorem dL_acceptedWords_19 : decode cL_acceptedWords 19 = .ok (.ireturn, 1) := by decide +kernel
theorem dL_acceptedWords_20 : decode cL_acceptedWords 20 = .ok (.iconst 0, 1) := by decide +kernel
theorem dL_acceptedWords_21 : decode cL_acceptedWords 21 = .ok (.ireturn, 1) := by decide +kernel
set_option maxRecDepth 20000 in
theorem ggL_isClosed_X10_isClosed : GoodIn wsL_isClosed wsX10_isClosed := goodIn_ca (goodIn_ca (goodIn_ca (goodIn_r _ [6, 7, 8, 5, 9, 10, 11, 12, 13, 14, 15, 16, 17, 18, 19, 20, 21, 22, 23, 24, 25, 26, 27, 28, 29, 30, 31, 32, 33, 34, 35, 36, 37, 38, 39, 40, 41, 42, 43, 44, 45, 46, 47, 48, 49, 50, 51, 52, 53, 54, 55, 56, 57, 58, 59, 60, 61, 62, 63, 64, 65, 66, 67, 68, 69, 70, 71, 72, 73, 74, 75, 76, 77, 78, 79, 80, 81, 82, 83, 84, 85, 86, 87, 88, 89, 90, 91, 92, 93, 94, 95, 96, 97, 98] (by decide +kernel) (by decide +kernel)) (goodIn_sub (fun _ h => List.mem_cons_of_mem _ (List.mem_append_left _ (List.mem_append_right _ h))) (by decide +kernel))) (goodIn_sub (fun _ h => List.mem_cons_of_mem _ (List.mem_append_left _ (List.mem_append_left _ (List.mem_append_right _ h)))) (by decide +kernel))) (goodIn_sub (fun _ h => List.mem_cons_of_mem _ (List.mem_append_right _ h)) (by decide +kernel))
set_option maxRecDepth 20000 in
theorem gL_isClosed_X10_isClosed : GoodIn wsL_isClosed (wsV RL 112 RX10 yX10_isClosed wsX10_isClosed) := goodIn_app (goodIn_of _ (by decide +kernel)) ggL_isClosed_X10_isClosed
theorem dL_isClosed_0 : decode cL_isClosed 0 = .ok (.aload_n 2, 1) := by decide +kernel
theorem dL_isClosed_1 : decode cL_isClosed 1 = .ok (.iconst 0, 1) := by decide +kernel
theorem dL_isClosed_2 : decode cL_isClosed 2 = .ok (.aload_n 0, 1) := by decide +kernel
theorem dL_isClosed_3 : decode cL_isClosed 3 = .ok (.iload_n 1, 1) := by decide +kernel
theorem dL_isClosed_4 : decode cL_isClosed 4 = .ok (.invokevirtual 112, 3) := by decide +kernel
theorem dL_isClosed_7 : decode cL_isClosed 7 = .ok (.ifCond .eq 7, 3) := by decide +kernel
theorem dL_isClosed_10 : decode cL_isClosed 10 = .ok (.lconst 1, 1) := by decide +kernel
theorem dL_isClosed_11 : decode cL_isClosed 11 = .ok (.goto 4, 3) := by decide +kernel
theorem dL_isClosed_14 : decode cL_isClosed 14 = .ok (.lconst 0, 1) := by decide +kernel
theorem dL_isClosed_15 : decode cL_isClosed 15 = .ok (.lastore, 1) := by decide +kernel
theorem dL_isClosed_16 : decode cL_isClosed 16 = .ok (.goto 6, 3) := by decide +kernel
theorem dL_isClosed_19 : decode cL_isClosed 19 = .ok (.astore_n 3, 1) := by decide +kernel
theorem dL_isClosed_20 : decode cL_isClosed 20 = .ok (.iconst 1, 1) := by decide +kernel
theorem dL_isClosed_21 : decode cL_isClosed 21 = .ok (.ireturn, 1) := by decide +kernel
theorem dL_isClosed_22 : decode cL_isClosed 22 = .ok (.iconst 0, 1) := by decide +kernel
theorem dL_isClosed_23 : decode cL_isClosed 23 = .ok (.ireturn, 1) := by decide +kernel
set_option maxRecDepth 20000 in
theorem ggL_takeOpenWord_X10_takeOpenWord : GoodIn wsL_takeOpenWord wsX10_takeOpenWord := goodIn_ca (goodIn_ca (goodIn_ca (goodIn_ca (goodIn_r _ [6, 7, 8, 9, 10, 11, 12, 13, 14, 5, 15, 16, 17, 18, 19, 20, 21, 22, 23, 24, 25, 26, 27, 28, 29, 30, 31, 32, 33, 34, 35, 36, 37, 38, 39, 40, 41, 42, 43, 44, 45, 46, 47, 48, 49, 50, 51, 52, 53, 54, 55, 56, 57, 58, 59, 60, 61, 62, 63, 64, 65, 66, 67, 68, 69, 70, 71, 72, 73, 74, 75, 76, 77, 78, 79, 80, 81, 82, 83, 84, 85, 86, 87, 88, 89, 90, 91, 92, 93, 94, 95, 96, 97, 98, 99, 100, 101, 102, 103, 104, 105, 106, 107, 108, 109, 110, 111, 112, 113, 114, 115, 116, 117, 118, 119, 120, 121, 122] (by decide +kernel) (by decide +kernel)) (goodIn_sub (fun _ h => List.mem_cons_of_mem _ (List.mem_append_left _ (List.mem_append_left _ (List.mem_append_right _ h)))) (by decide +kernel))) (goodIn_sub (fun _ h => List.mem_cons_of_mem _ (List.mem_append_left _ (List.mem_append_right _ h))) (by decide +kernel))) (goodIn_sub (fun _ h => List.mem_cons_of_mem _ (List.mem_append_left _ (List.mem_append_left _ (List.mem_append_left _ (List.mem_append_right _ h))))) (by decide +kernel))) (goodIn_sub (fun _ h => List.mem_cons_of_mem _ (List.mem_append_right _ h)) (by decide +kernel))
set_option maxRecDepth 20000 in
theorem gL_takeOpenWord_X10_takeOpenWord : GoodIn wsL_takeOpenWord (wsV RL 115 RX10 yX10_takeOpenWord wsX10_takeOpenWord) := goodIn_app (goodIn_of _ (by decide +kernel)) ggL_takeOpenWord_X10_takeOpenWord
theorem dL_takeOpenWord_0 : decode cL_takeOpenWord 0 = .ok (.aload_n 2, 1) := by decide +kernel
theorem dL_takeOpenWord_1 : decode cL_takeOpenWord 1 = .ok (.iconst 0, 1) := by decide +kernel
theorem dL_takeOpenWord_2 : decode cL_takeOpenWord 2 = .ok (.aload_n 0, 1) := by decide +kernel
theorem dL_takeOpenWord_3 : decode cL_takeOpenWord 3 = .ok (.iload_n 1, 1) := by decide +kernel
theorem dL_takeOpenWord_4 : decode cL_takeOpenWord 4 = .ok (.invokevirtual 115, 3) := by decide +kernel
theorem dL_takeOpenWord_7 : decode cL_takeOpenWord 7 = .ok (.i2l, 1) := by decide +kernel
theorem dL_takeOpenWord_8 : decode cL_takeOpenWord 8 = .ok (.lastore, 1) := by decide +kernel
theorem dL_takeOpenWord_9 : decode cL_takeOpenWord 9 = .ok (.goto 9, 3) := by decide +kernel
theorem dL_takeOpenWord_12 : decode cL_takeOpenWord 12 = .ok (.astore_n 3, 1) := by decide +kernel
theorem dL_takeOpenWord_13 : decode cL_takeOpenWord 13 = .ok (.iconst 1, 1) := by decide +kernel
theorem dL_takeOpenWord_14 : decode cL_takeOpenWord 14 = .ok (.ireturn, 1) := by decide +kernel
theorem dL_takeOpenWord_15 : decode cL_takeOpenWord 15 = .ok (.astore_n 3, 1) := by decide +kernel
theorem dL_takeOpenWord_16 : decode cL_takeOpenWord 16 = .ok (.iconst 2, 1) := by decide +kernel
theorem dL_takeOpenWord_17 : decode cL_takeOpenWord 17 = .ok (.ireturn, 1) := by decide +kernel
theorem dL_takeOpenWord_18 : decode cL_takeOpenWord 18 = .ok (.iconst 0, 1) := by decide +kernel
theorem dL_takeOpenWord_19 : decode cL_takeOpenWord 19 = .ok (.ireturn, 1) := by decide +kernel
set_option maxRecDepth 20000 in
theorem ggL_density_X10_density : GoodIn wsL_density wsX10_density := goodIn_ca (goodIn_ca (goodIn_ca (goodIn_ca (goodIn_r _ [6, 7, 8, 9, 5, 10, 11, 12, 13, 14, 15, 16, 17, 18, 19, 20, 21, 22, 23, 24, 25, 26, 27, 28, 29, 30, 31, 32, 33, 34, 35, 36, 37, 38, 39, 40, 41, 42, 43, 44, 45, 46, 47, 48, 49, 50, 51, 52, 53, 54, 55, 56, 57, 58, 59, 60, 61, 62, 63, 64, 65, 66, 67, 68, 69, 70, 71, 72, 73, 74, 75, 76, 77, 78, 79, 80, 81, 82, 83, 84, 85, 86, 87, 88, 89, 90, 91, 92, 93, 94, 95, 96, 97, 98, 99, 100, 101, 102, 103, 104, 105, 106, 107, 108, 109, 110, 111, 112, 113, 114, 115, 116, 117, 118, 119, 120, 121, 122, 123, 124, 125, 126, 127, 128, 129, 130, 131, 132, 133, 134, 135, 136, 137, 138, 139, 140, 141, 142, 143, 144, 145, 146, 147, 148, 149, 150, 151, 152, 153, 154, 155] (by decide +kernel) (by decide +kernel)) (goodIn_sub (fun _ h => List.mem_cons_of_mem _ (List.mem_append_left _ (List.mem_append_left _ (List.mem_append_right _ h)))) (by decide +kernel))) (goodIn_sub (fun _ h => List.mem_cons_of_mem _ (List.mem_append_left _ (List.mem_append_right _ h))) (by decide +kernel))) (goodIn_sub (fun _ h => List.mem_cons_of_mem _ (List.mem_append_left _ (List.mem_append_left _ (List.mem_append_left _ (List.mem_append_right _ h))))) (by decide +kernel))) (goodIn_sub (fun _ h => List.mem_cons_of_mem _ (List.mem_append_right _ h)) (by decide +kernel))
set_option maxRecDepth 20000 in
theorem gL_density_X10_density : GoodIn wsL_density (wsV RL 118 RX10 yX10_density wsX10_density) := goodIn_app (goodIn_of _ (by decide +kernel)) ggL_density_X10_density
theorem dL_density_0 : decode cL_density 0 = .ok (.aload_n 3, 1) := by decide +kernel
theorem dL_density_1 : decode cL_density 1 = .ok (.iconst 0, 1) := by decide +kernel
theorem dL_density_2 : decode cL_density 2 = .ok (.aload_n 0, 1) := by decide +kernel
theorem dL_density_3 : decode cL_density 3 = .ok (.iload_n 1, 1) := by decide +kernel
theorem dL_density_4 : decode cL_density 4 = .ok (.iload_n 2, 1) := by decide +kernel
theorem dL_density_5 : decode cL_density 5 = .ok (.invokevirtual 118, 3) := by decide +kernel
theorem dL_density_8 : decode cL_density 8 = .ok (.dastore, 1) := by decide +kernel
theorem dL_density_9 : decode cL_density 9 = .ok (.goto 11, 3) := by decide +kernel
theorem dL_density_12 : decode cL_density 12 = .ok (.astore 4, 2) := by decide +kernel
theorem dL_density_14 : decode cL_density 14 = .ok (.iconst 1, 1) := by decide +kernel
theorem dL_density_15 : decode cL_density 15 = .ok (.ireturn, 1) := by decide +kernel
theorem dL_density_16 : decode cL_density 16 = .ok (.astore 4, 2) := by decide +kernel
theorem dL_density_18 : decode cL_density 18 = .ok (.iconst 2, 1) := by decide +kernel
theorem dL_density_19 : decode cL_density 19 = .ok (.ireturn, 1) := by decide +kernel
theorem dL_density_20 : decode cL_density 20 = .ok (.iconst 0, 1) := by decide +kernel
theorem dL_density_21 : decode cL_density 21 = .ok (.ireturn, 1) := by decide +kernel
set_option maxRecDepth 20000 in
theorem ggL_averageMinimum_X10_averageMinimum : GoodIn wsL_averageMinimum wsX10_averageMinimum := goodIn_ca (goodIn_ca (goodIn_r _ [6, 7, 8, 9, 10, 11, 12, 13, 5, 14, 15, 16, 17, 18, 19, 20, 21, 22, 23, 24, 25, 26, 27, 28, 29, 30, 31, 32, 33, 34, 35, 36, 37, 38, 39, 40, 41, 42, 43, 44, 45, 46, 47, 48, 49, 50, 51, 52, 53, 54, 55, 56, 57, 58, 59, 60, 61, 62, 63, 64, 65, 66, 67, 68, 69, 70, 71, 72, 73, 74, 75, 76, 77, 78, 79, 80, 81, 82, 83, 84, 85, 86, 87, 88, 89, 90, 91, 92, 93, 94, 95, 96, 97] (by decide +kernel) (by decide +kernel)) (goodIn_sub (fun _ h => List.mem_cons_of_mem _ (List.mem_append_right _ h)) (by decide +kernel))) (goodIn_sub (fun _ h => List.mem_cons_of_mem _ (List.mem_append_left _ (List.mem_append_right _ h))) (by decide +kernel))
set_option maxRecDepth 20000 in
theorem gL_averageMinimum_X10_averageMinimum : GoodIn wsL_averageMinimum (wsV RL 122 RX10 yX10_averageMinimum wsX10_averageMinimum) := goodIn_app (goodIn_of _ (by decide +kernel)) ggL_averageMinimum_X10_averageMinimum
theorem dL_averageMinimum_0 : decode cL_averageMinimum 0 = .ok (.aload_n 1, 1) := by decide +kernel
theorem dL_averageMinimum_1 : decode cL_averageMinimum 1 = .ok (.iconst 0, 1) := by decide +kernel
theorem dL_averageMinimum_2 : decode cL_averageMinimum 2 = .ok (.aload_n 0, 1) := by decide +kernel
theorem dL_averageMinimum_3 : decode cL_averageMinimum 3 = .ok (.invokevirtual 122, 3) := by decide +kernel
theorem dL_averageMinimum_6 : decode cL_averageMinimum 6 = .ok (.f2d, 1) := by decide +kernel
theorem dL_averageMinimum_7 : decode cL_averageMinimum 7 = .ok (.dastore, 1) := by decide +kernel
theorem dL_averageMinimum_8 : decode cL_averageMinimum 8 = .ok (.goto 6, 3) := by decide +kernel
theorem dL_averageMinimum_11 : decode cL_averageMinimum 11 = .ok (.astore_n 2, 1) := by decide +kernel
theorem dL_averageMinimum_12 : decode cL_averageMinimum 12 = .ok (.iconst 1, 1) := by decide +kernel
theorem dL_averageMinimum_13 : decode cL_averageMinimum 13 = .ok (.ireturn, 1) := by decide +kernel
theorem dL_averageMinimum_14 : decode cL_averageMinimum 14 = .ok (.iconst 0, 1) := by decide +kernel
theorem dL_averageMinimum_15 : decode cL_averageMinimum 15 = .ok (.ireturn, 1) := by decide +kernel
set_option maxRecDepth 20000 in
theorem ggL_undo_X10_undo : GoodIn wsL_undo wsX10_undo := goodIn_ca (goodIn_ca (goodIn_r _ [6, 7, 8, 9, 10, 11, 12, 13, 14, 15, 16, 17, 18, 19, 20, 21, 22, 23, 24, 25, 26, 27, 28, 29, 30, 31, 32, 33, 34, 35, 36, 37, 38, 39, 40, 41, 42, 43, 44, 5, 45, 46, 47, 48, 49, 50, 51, 52, 53, 54, 55, 56, 57, 58, 59, 60, 61, 62, 63, 64, 65, 66, 67, 68, 69, 70, 71, 72, 73, 74, 75] (by decide +kernel) (by decide +kernel)) (goodIn_sub (fun _ h => List.mem_cons_of_mem _ (List.mem_append_right _ h)) (by decide +kernel))) (goodIn_sub (fun _ h => List.mem_cons_of_mem _ (List.mem_append_left _ (List.mem_append_right _ h))) (by decide +kernel))
set_option maxRecDepth 20000 in
theorem gL_undo_X10_undo : GoodIn wsL_undo (wsV RL 128 RX10 yX10_undo wsX10_undo) := goodIn_app (goodIn_of _ (by decide +kernel)) ggL_undo_X10_undo
theorem dL_undo_0 : decode cL_undo 0 = .ok (.aload_n 1, 1) := by decide +kernel
theorem dL_undo_1 : decode cL_undo 1 = .ok (.iconst 0, 1) := by decide +kernel
theorem dL_undo_2 : decode cL_undo 2 = .ok (.aload_n 0, 1) := by decide +kernel
theorem dL_undo_3 : decode cL_undo 3 = .ok (.invokevirtual 128, 3) := by decide +kernel
theorem dL_undo_6 : decode cL_undo 6 = .ok (.i2l, 1) := by decide +kernel
theorem dL_undo_7 : decode cL_undo 7 = .ok (.lastore, 1) := by decide +kernel
theorem dL_undo_8 : decode cL_undo 8 = .ok (.goto 6, 3) := by decide +kernel
theorem dL_undo_11 : decode cL_undo 11 = .ok (.astore_n 2, 1) := by decide +kernel
theorem dL_undo_12 : decode cL_undo 12 = .ok (.iconst 1, 1) := by decide +kernel
theorem dL_undo_13 : decode cL_undo 13 = .ok (.ireturn, 1) := by decide +kernel
theorem dL_undo_14 : decode cL_undo 14 = .ok (.iconst 0, 1) := by decide +kernel
theorem dL_undo_15 : decode cL_undo 15 = .ok (.ireturn, 1) := by decide +kernel
set_option maxRecDepth 20000 in
theorem ggL_restore_X10_restore : GoodIn wsL_restore wsX10_restore := goodIn_ca (goodIn_ca (goodIn_r _ [6, 7, 8, 9, 10, 11, 12, 13, 14, 15, 5, 16, 17, 18, 19, 20, 21, 22, 23, 24, 25, 26, 27, 28, 29, 30, 31, 32, 33, 34, 35, 36, 37, 38, 39, 40, 41, 42, 43, 44, 45, 46, 47, 48, 49, 50, 51, 52, 53, 54, 55, 56, 57, 58, 59, 60, 61, 62, 63, 64, 65, 66, 67, 68, 69, 70, 71, 72, 73, 74, 75, 76, 77, 78, 79, 80, 81, 82, 83, 84, 85, 86, 87, 88, 89, 90, 91, 92, 93, 94, 95, 96] (by decide +kernel) (by decide +kernel)) (goodIn_sub (fun _ h => List.mem_cons_of_mem _ (List.mem_append_left _ (List.mem_append_right _ h))) (by decide +kernel))) (goodIn_sub (fun _ h => List.mem_cons_of_mem _ (List.mem_append_right _ h)) (by decide +kernel))
set_option maxRecDepth 20000 in
theorem gL_restore_X10_restore : GoodIn wsL_restore (wsV RL 131 RX10 yX10_restore wsX10_restore) := goodIn_app (goodIn_of _ (by decide +kernel)) ggL_restore_X10_restore
theorem dL_restore_0 : decode cL_restore 0 = .ok (.aload_n 0, 1) := by decide +kernel
theorem dL_restore_1 : decode cL_restore 1 = .ok (.invokevirtual 131, 3) := by decide +kernel
theorem dL_restore_4 : decode cL_restore 4 = .ok (.goto 6, 3) := by decide +kernel
theorem dL_restore_7 : decode cL_restore 7 = .ok (.astore_n 1, 1) := by decide +kernel
theorem dL_restore_8 : decode cL_restore 8 = .ok (.iconst 1, 1) := by decide +kernel
theorem dL_restore_9 : decode cL_restore 9 = .ok (.ireturn, 1) := by decide +kernel
theorem dL_restore_10 : decode cL_restore 10 = .ok (.iconst 0, 1) := by decide +kernel
theorem dL_restore_11 : decode cL_restore 11 = .ok (.ireturn, 1) := by decide +kernel
set_option maxRecDepth 20000 in
theorem ggL_law_X10_init : GoodIn wsL_law wsX10_init := goodIn_r _ [10, 11, 12, 13, 14, 15, 16, 17, 18, 19, 20, 21, 22, 23, 24, 25, 26, 27, 28, 29, 30, 31, 32, 33, 34, 35, 36, 37, 38, 39, 40, 41, 42, 43, 44, 45, 46, 47, 48, 49, 50, 51, 52, 53, 54, 55, 56, 57, 58, 59, 60, 61, 62, 63, 64, 65, 66, 67, 68, 69, 70, 71, 72, 73, 74, 75, 76, 77, 78, 79, 80, 81, 82, 83, 84, 85, 86, 87, 88, 89, 90, 91, 92, 93, 94, 95, 96, 97, 98, 99, 100, 101, 102, 103, 104, 105, 106, 107, 6, 108, 109, 110, 111, 112, 113, 114, 115, 116, 117, 118, 119, 120, 121, 122, 123, 124, 125, 126, 127, 1370, 1371, 1372, 1325, 1326, 1327, 1328, 1329, 1330, 1331, 1332, 1333, 1334, 1335, 1336, 1337, 1338, 1339, 1373, 1374, 1375, 1376, 1377, 1378, 1379, 1380, 1381, 1382, 1383, 1384, 1385, 1386, 1387, 1388, 1389, 1390, 1391, 1392, 1393, 1394, 1395, 1396, 1397, 1398, 1399, 1400, 1401, 1402, 1403, 1404, 1405, 1406] (by decide +kernel) (by decide +kernel)
set_option maxRecDepth 20000 in
theorem gL_law_X10_init : GoodIn wsL_law (wsX10_init) := ggL_law_X10_init
set_option maxRecDepth 20000 in
theorem ggL_law_X11_init : GoodIn wsL_law wsX11_init := goodIn_r _ [130, 131, 12, 13, 132, 30, 133, 134, 135, 136, 137, 138, 139, 140, 141, 142, 143, 144, 145, 146, 147, 148, 149, 150, 151, 6, 152, 153, 154, 155, 156, 157, 158, 159, 160, 161, 162, 1340, 1341, 1342, 1343, 1344, 1345, 1346, 1347, 1348, 1349, 1350, 1351, 1352, 1353, 1354, 1355, 1356, 1357, 1358, 1359, 1360, 1361, 1362, 1363, 1364, 1365, 1366, 1367, 1368, 1369] (by decide +kernel) (by decide +kernel)
set_option maxRecDepth 20000 in
theorem gL_law_X11_init : GoodIn wsL_law (wsX11_init) := ggL_law_X11_init
set_option maxRecDepth 20000 in
theorem ggL_law_L_appendCharacter : GoodIn wsL_law wsL_appendCharacter := goodIn_ca (goodIn_ca (goodIn_ca (goodIn_r _ [166, 167, 168, 169, 170, 2, 171, 172, 173, 174, 175, 29, 176, 177, 178, 28, 179, 83, 180, 181, 182, 183, 82, 184, 1325, 1326, 1327, 1328, 1329, 1330, 1331, 1332, 1333, 1334, 1335, 1336, 1337, 1338, 1339, 1379, 1380, 1381, 1382, 1383] (by decide +kernel) (by decide +kernel)) (goodIn_sub (fun _ h => List.mem_append_left _ (List.mem_append_left _ (List.mem_append_left _ (List.mem_append_left _ (List.mem_append_left _ (List.mem_append_left _ (List.mem_append_left _ (List.mem_append_right _ h)))))))) (by decide +kernel))) (goodIn_sub (fun _ h => List.mem_append_left _ (List.mem_append_left _ (List.mem_append_left _ (List.mem_append_left _ (List.mem_append_left _ (List.mem_append_left _ (List.mem_append_right _ h))))))) (by decide +kernel))) (goodIn_sub (fun _ h => List.mem_append_left _ (List.mem_append_left _ (List.mem_append_left _ (List.mem_append_left _ (List.mem_append_left _ (List.mem_append_right _ h)))))) (by decide +kernel))
set_option maxRecDepth 20000 in
theorem gL_law_L_appendCharacter : GoodIn wsL_law (va_wsS RL 138 yL_appendCharacter wsL_appendCharacter) := goodIn_app (goodIn_of _ (by decide +kernel)) ggL_law_L_appendCharacter
set_option maxRecDepth 20000 in
theorem ggL_law_X11_appendCharacter : GoodIn wsL_law wsX11_appendCharacter := goodIn_ca (goodIn_r _ [188, 132, 139, 138, 189, 190, 5, 191, 192, 193, 194, 195, 1340, 1341, 1342, 1343, 1344, 1345, 1346, 1347, 1348, 1349, 1350, 1351, 1352, 1353, 1354, 1355, 1356, 1357, 1358, 1359, 1360, 1361, 1362, 1363, 1364, 1365, 1366, 1367, 1368, 1369] (by decide +kernel) (by decide +kernel)) (goodIn_sub (fun _ h => List.mem_append_left _ (List.mem_append_left _ (List.mem_append_left _ (List.mem_append_left _ (List.mem_append_left _ (List.mem_append_left _ (List.mem_append_left _ (List.mem_append_right _ h)))))))) (by decide +kernel))
set_option maxRecDepth 20000 in
theorem gL_law_X11_appendCharacter : GoodIn wsL_law (wsV RL 143 RX11 yX11_appendCharacter wsX11_appendCharacter) := goodIn_app (goodIn_of _ (by decide +kernel)) ggL_law_X11_appendCharacter
set_option maxRecDepth 20000 in
theorem ggL_law_X11_thrown : GoodIn wsL_law wsX11_thrown := goodIn_r _ [199, 132, 1340, 1341, 1342, 1343, 1344, 1345, 1346, 1347, 1348, 1349, 1350, 1351, 1352, 1353, 1354, 1355, 1356, 1357, 1358, 1359, 1360, 1361, 1362, 1363, 1364, 1365, 1366, 1367, 1368, 1369] (by decide +kernel) (by decide +kernel)
set_option maxRecDepth 20000 in
theorem gL_law_X11_thrown : GoodIn wsL_law (wsV RL 144 RX11 yX11_thrown wsX11_thrown) := goodIn_app (goodIn_of _ (by decide +kernel)) ggL_law_X11_thrown
set_option maxRecDepth 20000 in
theorem ggL_law_X10_faultPosition : GoodIn wsL_law wsX10_faultPosition := goodIn_r _ [203, 29, 204, 1325, 1326, 1327, 1328, 1329, 1330, 1331, 1332, 1333, 1334, 1335, 1336, 1337, 1338, 1339, 1379, 1380, 1381, 1382, 1383] (by decide +kernel) (by decide +kernel)
set_option maxRecDepth 20000 in
theorem gL_law_X10_faultPosition : GoodIn wsL_law (wsV RL 147 RX10 yX10_faultPosition wsX10_faultPosition) := goodIn_app (goodIn_of _ (by decide +kernel)) ggL_law_X10_faultPosition
set_option maxRecDepth 20000 in
theorem ggL_law_X11_faultPosition : GoodIn wsL_law wsX11_faultPosition := goodIn_r _ [208, 141, 1340, 1341, 1342, 1343, 1344, 1345, 1346, 1347, 1348, 1349, 1350, 1351, 1352, 1353, 1354, 1355, 1356, 1357, 1358, 1359, 1360, 1361, 1362, 1363, 1364, 1365, 1366, 1367, 1368, 1369] (by decide +kernel) (by decide +kernel)
set_option maxRecDepth 20000 in
theorem gL_law_X11_faultPosition : GoodIn wsL_law (wsV RL 150 RX11 yX11_faultPosition wsX11_faultPosition) := goodIn_app (goodIn_of _ (by decide +kernel)) ggL_law_X11_faultPosition
set_option maxRecDepth 20000 in
theorem ggL_law_L_addText : GoodIn wsL_law wsL_addText := goodIn_ca (goodIn_ca (goodIn_ca (goodIn_r _ [211, 167, 212, 213, 214, 2, 215, 172, 173, 174, 175, 29, 204, 17, 216, 217, 218, 219, 220, 28, 221, 84, 83, 222, 223, 224, 225, 82, 226, 227, 228, 229, 230, 231, 232, 233, 234, 235, 236, 85, 86, 237, 238, 239, 240, 241, 242, 243, 244, 245, 246, 247, 16, 248, 63, 249, 250, 251, 252, 253, 254, 255, 256, 257, 258, 259, 25, 21, 260, 261, 262, 24, 263, 74, 76, 77, 264, 265, 266, 267, 268, 269, 270, 271, 272, 273, 274, 65, 275, 276, 277, 20, 278, 69, 279, 280, 281, 282, 283, 284, 285, 286, 287, 59, 288, 289, 290, 291, 64, 292, 293, 294, 295, 1325, 1326, 1327, 1328, 1329, 1330, 1331, 1332, 1333, 1334, 1335, 1336, 1337, 1338, 1339, 1379, 1380, 1381, 1382, 1383, 1370, 1371, 1372, 1374, 1375, 1376, 1377, 1378, 1373] (by decide +kernel) (by decide +kernel)) (goodIn_sub (fun _ h => List.mem_append_left _ (List.mem_append_left _ (List.mem_append_left _ (List.mem_append_left _ (List.mem_append_left _ (List.mem_append_left _ (List.mem_append_left _ (List.mem_append_right _ h)))))))) (by decide +kernel))) (goodIn_sub (fun _ h => List.mem_append_left _ (List.mem_append_left _ (List.mem_append_left _ (List.mem_append_left _ (List.mem_append_left _ (List.mem_append_left _ (List.mem_append_right _ h))))))) (by decide +kernel))) (goodIn_sub (fun _ h => List.mem_append_left _ (List.mem_append_left _ (List.mem_append_left _ (List.mem_append_left _ (List.mem_append_left _ (List.mem_append_right _ h)))))) (by decide +kernel))
set_option maxRecDepth 20000 in
theorem gL_law_L_addText : GoodIn wsL_law (va_wsS RL 151 yL_addText wsL_addText) := goodIn_app (goodIn_of _ (by decide +kernel)) ggL_law_L_addText
set_option maxRecDepth 20000 in
theorem ggL_law_X11_addText : GoodIn wsL_law wsX11_addText := goodIn_ca (goodIn_r _ [299, 132, 140, 141, 142, 133, 139, 300, 301, 302, 5, 303, 138, 304, 305, 306, 307, 189, 190, 191, 192, 193, 194, 195, 308, 309, 310, 311, 312, 313, 314, 136, 135, 1340, 1341, 1342, 1343, 1344, 1345, 1346, 1347, 1348, 1349, 1350, 1351, 1352, 1353, 1354, 1355, 1356, 1357, 1358, 1359, 1360, 1361, 1362, 1363, 1364, 1365, 1366, 1367, 1368, 1369] (by decide +kernel) (by decide +kernel)) (goodIn_sub (fun _ h => List.mem_append_left _ (List.mem_append_left _ (List.mem_append_left _ (List.mem_append_left _ (List.mem_append_left _ (List.mem_append_left _ (List.mem_append_left _ (List.mem_append_right _ h)))))))) (by decide +kernel))
set_option maxRecDepth 20000 in
theorem gL_law_X11_addText : GoodIn wsL_law (wsV RL 154 RX11 yX11_addText wsX11_addText) := goodIn_app (goodIn_of _ (by decide +kernel)) ggL_law_X11_addText
set_option maxRecDepth 20000 in
theorem ggL_law_L_addTransition : GoodIn wsL_law wsL_addTransition := goodIn_ca (goodIn_ca (goodIn_ca (goodIn_r _ [317, 318, 319, 320, 321, 2, 322, 174, 175, 17, 323, 324, 325, 326, 327, 328, 241, 242, 243, 229, 230, 244, 231, 232, 329, 330, 331, 16, 332, 333, 334, 335, 336, 63, 292, 293, 294, 295, 249, 250, 251, 252, 253, 254, 255, 256, 257, 258, 259, 25, 21, 260, 261, 262, 24, 263, 74, 76, 77, 264, 265, 266, 267, 268, 269, 270, 271, 272, 273, 274, 65, 275, 276, 277, 20, 278, 69, 279, 337, 338, 339, 340, 284, 285, 286, 287, 59, 288, 289, 290, 291, 64, 1325, 1326, 1327, 1328, 1329, 1330, 1331, 1332, 1333, 1334, 1335, 1336, 1337, 1338, 1339, 1370, 1371, 1372, 1374, 1375, 1376, 1377, 1378, 1373] (by decide +kernel) (by decide +kernel)) (goodIn_sub (fun _ h => List.mem_append_left _ (List.mem_append_left _ (List.mem_append_left _ (List.mem_append_left _ (List.mem_append_left _ (List.mem_append_left _ (List.mem_append_left _ (List.mem_append_right _ h)))))))) (by decide +kernel))) (goodIn_sub (fun _ h => List.mem_append_left _ (List.mem_append_left _ (List.mem_append_left _ (List.mem_append_left _ (List.mem_append_left _ (List.mem_append_right _ h)))))) (by decide +kernel))) (goodIn_sub (fun _ h => List.mem_append_left _ (List.mem_append_left _ (List.mem_append_left _ (List.mem_append_left _ (List.mem_append_right _ h))))) (by decide +kernel))
set_option maxRecDepth 20000 in
theorem gL_law_L_addTransition : GoodIn wsL_law (va_wsS RL 155 yL_addTransition wsL_addTransition) := goodIn_app (goodIn_of _ (by decide +kernel)) ggL_law_L_addTransition
set_option maxRecDepth 20000 in
theorem ggL_law_X11_addTransition : GoodIn wsL_law wsX11_addTransition := goodIn_ca (goodIn_r _ [344, 132, 133, 345, 346, 5, 347, 189, 190, 191, 348, 349, 350, 192, 193, 194, 195, 351, 352, 353, 354, 355, 356, 357, 358, 359, 360, 361, 308, 309, 310, 311, 312, 313, 314, 136, 135, 1340, 1341, 1342, 1343, 1344, 1345, 1346, 1347, 1348, 1349, 1350, 1351, 1352, 1353, 1354, 1355, 1356, 1357, 1358, 1359, 1360, 1361, 1362, 1363, 1364, 1365, 1366, 1367, 1368, 1369] (by decide +kernel) (by decide +kernel)) (goodIn_sub (fun _ h => List.mem_append_left _ (List.mem_append_left _ (List.mem_append_left _ (List.mem_append_left _ (List.mem_append_left _ (List.mem_append_left _ (List.mem_append_left _ (List.mem_append_right _ h)))))))) (by decide +kernel))
set_option maxRecDepth 20000 in
theorem gL_law_X11_addTransition : GoodIn wsL_law (wsV RL 158 RX11 yX11_addTransition wsX11_addTransition) := goodIn_app (goodIn_of _ (by decide +kernel)) ggL_law_X11_addTransition
set_option maxRecDepth 20000 in
theorem ggL_law_L_removeTransition : GoodIn wsL_law wsL_removeTransition := goodIn_ca (goodIn_ca (goodIn_ca (goodIn_r _ [364, 318, 365, 366, 367, 2, 368, 369, 370, 17, 323, 324, 325, 326, 327, 328, 241, 242, 243, 229, 230, 244, 231, 232, 329, 330, 331, 16, 332, 333, 334, 335, 336, 63, 256, 257, 258, 259, 25, 21, 260, 261, 262, 24, 263, 74, 76, 77, 264, 265, 266, 267, 268, 269, 270, 271, 272, 273, 274, 65, 275, 276, 277, 20, 278, 69, 279, 371, 372, 373, 374, 284, 285, 286, 287, 59, 288, 289, 290, 291, 64, 1325, 1326, 1327, 1328, 1329, 1330, 1331, 1332, 1333, 1334, 1335, 1336, 1337, 1338, 1339, 1370, 1371, 1372, 1374, 1375, 1376, 1377, 1378, 1373] (by decide +kernel) (by decide +kernel)) (goodIn_sub (fun _ h => List.mem_append_left _ (List.mem_append_left _ (List.mem_append_left _ (List.mem_append_right _ h)))) (by decide +kernel))) (goodIn_sub (fun _ h => List.mem_append_left _ (List.mem_append_left _ (List.mem_append_left _ (List.mem_append_left _ (List.mem_append_right _ h))))) (by decide +kernel))) (goodIn_sub (fun _ h => List.mem_append_left _ (List.mem_append_left _ (List.mem_append_left _ (List.mem_append_left _ (List.mem_append_left _ (List.mem_append_left _ (List.mem_append_left _ (List.mem_append_right _ h)))))))) (by decide +kernel))
set_option maxRecDepth 20000 in
theorem gL_law_L_removeTransition : GoodIn wsL_law (va_wsS RL 159 yL_removeTransition wsL_removeTransition) := goodIn_app (goodIn_of _ (by decide +kernel)) ggL_law_L_removeTransition
set_option maxRecDepth 20000 in
theorem ggL_law_X11_removeTransition : GoodIn wsL_law wsX11_removeTransition := goodIn_ca (goodIn_r _ [378, 132, 133, 345, 346, 5, 347, 189, 190, 191, 348, 349, 350, 351, 352, 353, 354, 355, 356, 357, 311, 312, 313, 314, 136, 135, 1340, 1341, 1342, 1343, 1344, 1345, 1346, 1347, 1348, 1349, 1350, 1351, 1352, 1353, 1354, 1355, 1356, 1357, 1358, 1359, 1360, 1361, 1362, 1363, 1364, 1365, 1366, 1367, 1368, 1369] (by decide +kernel) (by decide +kernel)) (goodIn_sub (fun _ h => List.mem_append_left _ (List.mem_append_left _ (List.mem_append_left _ (List.mem_append_left _ (List.mem_append_left _ (List.mem_append_left _ (List.mem_append_left _ (List.mem_append_right _ h)))))))) (by decide +kernel))
set_option maxRecDepth 20000 in
theorem gL_law_X11_removeTransition : GoodIn wsL_law (wsV RL 162 RX11 yX11_removeTransition wsX11_removeTransition) := goodIn_app (goodIn_of _ (by decide +kernel)) ggL_law_X11_removeTransition
set_option maxRecDepth 20000 in
theorem ggL_law_L_setFinal : GoodIn wsL_law wsL_setFinal := goodIn_ca (goodIn_ca (goodIn_r _ [381, 318, 382, 383, 384, 2, 385, 326, 327, 17, 243, 229, 230, 386, 387, 388, 16, 389, 65, 256, 257, 258, 259, 25, 21, 260, 261, 262, 24, 263, 74, 76, 77, 264, 265, 266, 267, 268, 269, 270, 63, 271, 272, 273, 274, 275, 276, 277, 20, 278, 69, 279, 390, 391, 392, 393, 284, 285, 286, 287, 59, 288, 289, 290, 291, 64, 1325, 1326, 1327, 1328, 1329, 1330, 1331, 1332, 1333, 1334, 1335, 1336, 1337, 1338, 1339, 1370, 1371, 1372, 1374, 1375, 1376, 1377, 1378, 1373] (by decide +kernel) (by decide +kernel)) (goodIn_sub (fun _ h => List.mem_append_left _ (List.mem_append_left _ (List.mem_append_left _ (List.mem_append_left _ (List.mem_append_left _ (List.mem_append_left _ (List.mem_append_left _ (List.mem_append_right _ h)))))))) (by decide +kernel))) (goodIn_sub (fun _ h => List.mem_append_left _ (List.mem_append_left _ (List.mem_append_left _ (List.mem_append_left _ (List.mem_append_right _ h))))) (by decide +kernel))
set_option maxRecDepth 20000 in
theorem gL_law_L_setFinal : GoodIn wsL_law (va_wsS RL 163 yL_setFinal wsL_setFinal) := goodIn_app (goodIn_of _ (by decide +kernel)) ggL_law_L_setFinal
set_option maxRecDepth 20000 in
theorem ggL_law_X11_setFinal : GoodIn wsL_law wsX11_setFinal := goodIn_ca (goodIn_r _ [397, 132, 133, 345, 346, 5, 347, 189, 190, 191, 192, 193, 194, 195, 355, 356, 357, 311, 312, 313, 314, 136, 135, 1340, 1341, 1342, 1343, 1344, 1345, 1346, 1347, 1348, 1349, 1350, 1351, 1352, 1353, 1354, 1355, 1356, 1357, 1358, 1359, 1360, 1361, 1362, 1363, 1364, 1365, 1366, 1367, 1368, 1369] (by decide +kernel) (by decide +kernel)) (goodIn_sub (fun _ h => List.mem_append_left _ (List.mem_append_left _ (List.mem_append_left _ (List.mem_append_left _ (List.mem_append_left _ (List.mem_append_left _ (List.mem_append_left _ (List.mem_append_right _ h)))))))) (by decide +kernel))
set_option maxRecDepth 20000 in
theorem gL_law_X11_setFinal : GoodIn wsL_law (wsV RL 166 RX11 yX11_setFinal wsX11_setFinal) := goodIn_app (goodIn_of _ (by decide +kernel)) ggL_law_X11_setFinal
set_option maxRecDepth 20000 in
theorem ggL_law_X10_clearAutomaton : GoodIn wsL_law wsX10_clearAutomaton := goodIn_ca (goodIn_r _ [401, 17, 256, 257, 258, 2, 259, 25, 21, 260, 261, 262, 24, 263, 74, 76, 77, 264, 265, 266, 267, 268, 269, 16, 270, 63, 271, 272, 273, 274, 65, 275, 276, 277, 20, 278, 69, 279, 402, 403, 404, 405, 284, 285, 286, 287, 59, 288, 289, 290, 291, 64, 1325, 1326, 1327, 1328, 1329, 1330, 1331, 1332, 1333, 1334, 1335, 1336, 1337, 1338, 1339, 1374, 1375, 1376, 1377, 1378, 1370, 1371, 1372, 1373] (by decide +kernel) (by decide +kernel)) (goodIn_sub (fun _ h => List.mem_append_left _ (List.mem_append_left _ (List.mem_append_left _ (List.mem_append_left _ (List.mem_append_left _ (List.mem_append_left _ (List.mem_append_left _ (List.mem_append_right _ h)))))))) (by decide +kernel))
set_option maxRecDepth 20000 in
theorem gL_law_X10_clearAutomaton : GoodIn wsL_law (wsV RL 167 RX10 yX10_clearAutomaton wsX10_clearAutomaton) := goodIn_app (goodIn_of _ (by decide +kernel)) ggL_law_X10_clearAutomaton
set_option maxRecDepth 20000 in
theorem ggL_law_X11_clearAutomaton : GoodIn wsL_law wsX11_clearAutomaton := goodIn_ca (goodIn_r _ [409, 133, 311, 312, 313, 5, 314, 136, 135, 1340, 1341, 1342, 1343, 1344, 1345, 1346, 1347, 1348, 1349, 1350, 1351, 1352, 1353, 1354, 1355, 1356, 1357, 1358, 1359, 1360, 1361, 1362, 1363, 1364, 1365, 1366, 1367, 1368, 1369] (by decide +kernel) (by decide +kernel)) (goodIn_sub (fun _ h => List.mem_append_left _ (List.mem_append_left _ (List.mem_append_left _ (List.mem_append_left _ (List.mem_append_left _ (List.mem_append_left _ (List.mem_append_left _ (List.mem_append_right _ h)))))))) (by decide +kernel))
set_option maxRecDepth 20000 in
theorem gL_law_X11_clearAutomaton : GoodIn wsL_law (wsV RL 170 RX11 yX11_clearAutomaton wsX11_clearAutomaton) := goodIn_app (goodIn_of _ (by decide +kernel)) ggL_law_X11_clearAutomaton
set_option maxRecDepth 20000 in
theorem ggL_law_X10_transitionCount : GoodIn wsL_law wsX10_transitionCount := goodIn_ca (goodIn_r _ [413, 17, 292, 293, 294, 16, 295, 63, 249, 250, 251, 252, 253, 254, 255, 1325, 1326, 1327, 1328, 1329, 1330, 1331, 1332, 1333, 1334, 1335, 1336, 1337, 1338, 1339, 1370, 1371, 1372] (by decide +kernel) (by decide +kernel)) (goodIn_sub (fun _ h => List.mem_append_left _ (List.mem_append_left _ (List.mem_append_left _ (List.mem_append_left _ (List.mem_append_left _ (List.mem_append_left _ (List.mem_append_left _ (List.mem_append_right _ h)))))))) (by decide +kernel))
set_option maxRecDepth 20000 in
theorem gL_law_X10_transitionCount : GoodIn wsL_law (wsV RL 171 RX10 yX10_transitionCount wsX10_transitionCount) := goodIn_app (goodIn_of _ (by decide +kernel)) ggL_law_X10_transitionCount
set_option maxRecDepth 20000 in
theorem ggL_law_X11_transitionCount : GoodIn wsL_law wsX11_transitionCount := goodIn_ca (goodIn_r _ [361, 133, 308, 309, 5, 310, 1340, 1341, 1342, 1343, 1344, 1345, 1346, 1347, 1348, 1349, 1350, 1351, 1352, 1353, 1354, 1355, 1356, 1357, 1358, 1359, 1360, 1361, 1362, 1363, 1364, 1365, 1366, 1367, 1368, 1369] (by decide +kernel) (by decide +kernel)) (goodIn_sub (fun _ h => List.mem_append_left _ (List.mem_append_left _ (List.mem_append_left _ (List.mem_append_left _ (List.mem_append_left _ (List.mem_append_left _ (List.mem_append_left _ (List.mem_append_right _ h)))))))) (by decide +kernel))
set_option maxRecDepth 20000 in
theorem gL_law_X11_transitionCount : GoodIn wsL_law (wsV RL 174 RX11 yX11_transitionCount wsX11_transitionCount) := goodIn_app (goodIn_of _ (by decide +kernel)) ggL_law_X11_transitionCount
set_option maxRecDepth 20000 in
theorem ggL_law_L_transition : GoodIn wsL_law wsL_transition := goodIn_ca (goodIn_ca (goodIn_r _ [417, 318, 418, 419, 420, 2, 421, 326, 327, 17, 292, 293, 294, 16, 295, 63, 249, 250, 251, 252, 253, 254, 255, 422, 423, 424, 425, 426, 330, 331, 332, 229, 230, 333, 334, 335, 336, 231, 232, 427, 428, 1325, 1326, 1327, 1328, 1329, 1330, 1331, 1332, 1333, 1334, 1335, 1336, 1337, 1338, 1339, 1370, 1371, 1372] (by decide +kernel) (by decide +kernel)) (goodIn_sub (fun _ h => List.mem_append_left _ (List.mem_append_left _ (List.mem_append_left _ (List.mem_append_left _ (List.mem_append_left _ (List.mem_append_left _ (List.mem_append_left _ (List.mem_append_right _ h)))))))) (by decide +kernel))) (goodIn_sub (fun _ h => List.mem_append_left _ (List.mem_append_left _ (List.mem_append_left _ (List.mem_append_left _ (List.mem_append_right _ h))))) (by decide +kernel))
set_option maxRecDepth 20000 in
theorem gL_law_L_transition : GoodIn wsL_law (va_wsS RL 175 yL_transition wsL_transition) := goodIn_app (goodIn_of _ (by decide +kernel)) ggL_law_L_transition
set_option maxRecDepth 20000 in
theorem ggL_law_X11_transition : GoodIn wsL_law wsX11_transition := goodIn_ca (goodIn_r _ [432, 132, 133, 355, 356, 5, 357, 192, 193, 194, 195, 1340, 1341, 1342, 1343, 1344, 1345, 1346, 1347, 1348, 1349, 1350, 1351, 1352, 1353, 1354, 1355, 1356, 1357, 1358, 1359, 1360, 1361, 1362, 1363, 1364, 1365, 1366, 1367, 1368, 1369] (by decide +kernel) (by decide +kernel)) (goodIn_sub (fun _ h => List.mem_append_left _ (List.mem_append_left _ (List.mem_append_left _ (List.mem_append_left _ (List.mem_append_left _ (List.mem_append_left _ (List.mem_append_left _ (List.mem_append_right _ h)))))))) (by decide +kernel))
set_option maxRecDepth 20000 in
theorem gL_law_X11_transition : GoodIn wsL_law (wsV RL 177 RX11 yX11_transition wsX11_transition) := goodIn_app (goodIn_of _ (by decide +kernel)) ggL_law_X11_transition
set_option maxRecDepth 20000 in
theorem ggL_law_X10_isDeterministic : GoodIn wsL_law wsX10_isDeterministic := goodIn_ca (goodIn_r _ [436, 17, 437, 438, 439, 16, 440, 63, 1325, 1326, 1327, 1328, 1329, 1330, 1331, 1332, 1333, 1334, 1335, 1336, 1337, 1338, 1339, 1370, 1371, 1372] (by decide +kernel) (by decide +kernel)) (goodIn_sub (fun _ h => List.mem_append_left _ (List.mem_append_left _ (List.mem_append_left _ (List.mem_append_left _ (List.mem_append_left _ (List.mem_append_left _ (List.mem_append_left _ (List.mem_append_right _ h)))))))) (by decide +kernel))
set_option maxRecDepth 20000 in
theorem gL_law_X10_isDeterministic : GoodIn wsL_law (wsV RL 178 RX10 yX10_isDeterministic wsX10_isDeterministic) := goodIn_app (goodIn_of _ (by decide +kernel)) ggL_law_X10_isDeterministic
set_option maxRecDepth 20000 in
theorem ggL_law_X11_isDeterministic : GoodIn wsL_law wsX11_isDeterministic := goodIn_ca (goodIn_r _ [444, 133, 308, 309, 5, 310, 1340, 1341, 1342, 1343, 1344, 1345, 1346, 1347, 1348, 1349, 1350, 1351, 1352, 1353, 1354, 1355, 1356, 1357, 1358, 1359, 1360, 1361, 1362, 1363, 1364, 1365, 1366, 1367, 1368, 1369] (by decide +kernel) (by decide +kernel)) (goodIn_sub (fun _ h => List.mem_append_left _ (List.mem_append_left _ (List.mem_append_left _ (List.mem_append_left _ (List.mem_append_left _ (List.mem_append_left _ (List.mem_append_left _ (List.mem_append_right _ h)))))))) (by decide +kernel))
set_option maxRecDepth 20000 in
theorem gL_law_X11_isDeterministic : GoodIn wsL_law (wsV RL 182 RX11 yX11_isDeterministic wsX11_isDeterministic) := goodIn_app (goodIn_of _ (by decide +kernel)) ggL_law_X11_isDeterministic
set_option maxRecDepth 20000 in
theorem ggL_law_X10_usefulStates : GoodIn wsL_law wsX10_usefulStates := goodIn_ca (goodIn_r _ [448, 17, 449, 450, 451, 16, 452, 65, 453, 454, 455, 456, 64, 231, 2, 232, 457, 458, 459, 460, 63, 1325, 1326, 1327, 1328, 1329, 1330, 1331, 1332, 1333, 1334, 1335, 1336, 1337, 1338, 1339, 1370, 1371, 1372] (by decide +kernel) (by decide +kernel)) (goodIn_sub (fun _ h => List.mem_append_left _ (List.mem_append_left _ (List.mem_append_left _ (List.mem_append_left _ (List.mem_append_left _ (List.mem_append_left _ (List.mem_append_left _ (List.mem_append_right _ h)))))))) (by decide +kernel))
set_option maxRecDepth 20000 in
theorem gL_law_X10_usefulStates : GoodIn wsL_law (wsV RL 183 RX10 yX10_usefulStates wsX10_usefulStates) := goodIn_app (goodIn_of _ (by decide +kernel)) ggL_law_X10_usefulStates
set_option maxRecDepth 20000 in
theorem ggL_law_X11_usefulStates : GoodIn wsL_law wsX11_usefulStates := goodIn_ca (goodIn_r _ [464, 133, 465, 466, 467, 5, 468, 355, 356, 357, 351, 352, 353, 354, 1340, 1341, 1342, 1343, 1344, 1345, 1346, 1347, 1348, 1349, 1350, 1351, 1352, 1353, 1354, 1355, 1356, 1357, 1358, 1359, 1360, 1361, 1362, 1363, 1364, 1365, 1366, 1367, 1368, 1369] (by decide +kernel) (by decide +kernel)) (goodIn_sub (fun _ h => List.mem_append_left _ (List.mem_append_left _ (List.mem_append_left _ (List.mem_append_left _ (List.mem_append_left _ (List.mem_append_left _ (List.mem_append_left _ (List.mem_append_right _ h)))))))) (by decide +kernel))
set_option maxRecDepth 20000 in
theorem gL_law_X11_usefulStates : GoodIn wsL_law (wsV RL 186 RX11 yX11_usefulStates wsX11_usefulStates) := goodIn_app (goodIn_of _ (by decide +kernel)) ggL_law_X11_usefulStates
set_option maxRecDepth 20000 in
theorem ggL_law_L_appendLetter : GoodIn wsL_law wsL_appendLetter := goodIn_ca (goodIn_ca (goodIn_ca (goodIn_r _ [471, 167, 472, 473, 474, 2, 475, 172, 173, 174, 175, 32, 31, 59, 244, 231, 232, 1325, 1326, 1327, 1328, 1329, 1330, 1331, 1332, 1333, 1334, 1335, 1336, 1337, 1338, 1339] (by decide +kernel) (by decide +kernel)) (goodIn_sub (fun _ h => List.mem_append_left _ (List.mem_append_left _ (List.mem_append_left _ (List.mem_append_left _ (List.mem_append_left _ (List.mem_append_left _ (List.mem_append_left _ (List.mem_append_right _ h)))))))) (by decide +kernel))) (goodIn_sub (fun _ h => List.mem_append_left _ (List.mem_append_left _ (List.mem_append_left _ (List.mem_append_left _ (List.mem_append_left _ (List.mem_append_left _ (List.mem_append_right _ h))))))) (by decide +kernel))) (goodIn_sub (fun _ h => List.mem_append_left _ (List.mem_append_left _ (List.mem_append_left _ (List.mem_append_left _ (List.mem_append_left _ (List.mem_append_right _ h)))))) (by decide +kernel))
set_option maxRecDepth 20000 in
theorem gL_law_L_appendLetter : GoodIn wsL_law (va_wsS RL 187 yL_appendLetter wsL_appendLetter) := goodIn_app (goodIn_of _ (by decide +kernel)) ggL_law_L_appendLetter
set_option maxRecDepth 20000 in
theorem ggL_law_X11_appendLetter : GoodIn wsL_law wsX11_appendLetter := goodIn_ca (goodIn_r _ [479, 132, 145, 143, 348, 349, 5, 350, 189, 190, 191, 192, 193, 194, 195, 1340, 1341, 1342, 1343, 1344, 1345, 1346, 1347, 1348, 1349, 1350, 1351, 1352, 1353, 1354, 1355, 1356, 1357, 1358, 1359, 1360, 1361, 1362, 1363, 1364, 1365, 1366, 1367, 1368, 1369] (by decide +kernel) (by decide +kernel)) (goodIn_sub (fun _ h => List.mem_append_left _ (List.mem_append_left _ (List.mem_append_left _ (List.mem_append_left _ (List.mem_append_left _ (List.mem_append_left _ (List.mem_append_left _ (List.mem_append_right _ h)))))))) (by decide +kernel))
set_option maxRecDepth 20000 in
theorem gL_law_X11_appendLetter : GoodIn wsL_law (wsV RL 189 RX11 yX11_appendLetter wsX11_appendLetter) := goodIn_app (goodIn_of _ (by decide +kernel)) ggL_law_X11_appendLetter
set_option maxRecDepth 20000 in
theorem ggL_law_X10_clearWord : GoodIn wsL_law wsX10_clearWord := goodIn_r _ [483, 32, 59, 1325, 1326, 1327, 1328, 1329, 1330, 1331, 1332, 1333, 1334, 1335, 1336, 1337, 1338, 1339] (by decide +kernel) (by decide +kernel)
set_option maxRecDepth 20000 in
theorem gL_law_X10_clearWord : GoodIn wsL_law (wsV RL 190 RX10 yX10_clearWord wsX10_clearWord) := goodIn_app (goodIn_of _ (by decide +kernel)) ggL_law_X10_clearWord
set_option maxRecDepth 20000 in
theorem ggL_law_X11_clearWord : GoodIn wsL_law wsX11_clearWord := goodIn_r _ [487, 145, 1340, 1341, 1342, 1343, 1344, 1345, 1346, 1347, 1348, 1349, 1350, 1351, 1352, 1353, 1354, 1355, 1356, 1357, 1358, 1359, 1360, 1361, 1362, 1363, 1364, 1365, 1366, 1367, 1368, 1369] (by decide +kernel) (by decide +kernel)
set_option maxRecDepth 20000 in
theorem gL_law_X11_clearWord : GoodIn wsL_law (wsV RL 193 RX11 yX11_clearWord wsX11_clearWord) := goodIn_app (goodIn_of _ (by decide +kernel)) ggL_law_X11_clearWord
set_option maxRecDepth 20000 in
theorem ggL_law_X10_wordLength : GoodIn wsL_law wsX10_wordLength := goodIn_r _ [491, 32, 1325, 1326, 1327, 1328, 1329, 1330, 1331, 1332, 1333, 1334, 1335, 1336, 1337, 1338, 1339] (by decide +kernel) (by decide +kernel)
set_option maxRecDepth 20000 in
theorem gL_law_X10_wordLength : GoodIn wsL_law (wsV RL 194 RX10 yX10_wordLength wsX10_wordLength) := goodIn_app (goodIn_of _ (by decide +kernel)) ggL_law_X10_wordLength
set_option maxRecDepth 20000 in
theorem ggL_law_X11_wordLength : GoodIn wsL_law wsX11_wordLength := goodIn_r _ [495, 145, 1340, 1341, 1342, 1343, 1344, 1345, 1346, 1347, 1348, 1349, 1350, 1351, 1352, 1353, 1354, 1355, 1356, 1357, 1358, 1359, 1360, 1361, 1362, 1363, 1364, 1365, 1366, 1367, 1368, 1369] (by decide +kernel) (by decide +kernel)
set_option maxRecDepth 20000 in
theorem gL_law_X11_wordLength : GoodIn wsL_law (wsV RL 197 RX11 yX11_wordLength wsX11_wordLength) := goodIn_app (goodIn_of _ (by decide +kernel)) ggL_law_X11_wordLength
set_option maxRecDepth 20000 in
theorem ggL_law_L_letterAt : GoodIn wsL_law wsL_letterAt := goodIn_ca (goodIn_ca (goodIn_r _ [498, 318, 499, 500, 501, 2, 502, 326, 327, 31, 503, 504, 505, 506, 32, 1325, 1326, 1327, 1328, 1329, 1330, 1331, 1332, 1333, 1334, 1335, 1336, 1337, 1338, 1339] (by decide +kernel) (by decide +kernel)) (goodIn_sub (fun _ h => List.mem_append_left _ (List.mem_append_left _ (List.mem_append_left _ (List.mem_append_left _ (List.mem_append_left _ (List.mem_append_left _ (List.mem_append_left _ (List.mem_append_right _ h)))))))) (by decide +kernel))) (goodIn_sub (fun _ h => List.mem_append_left _ (List.mem_append_left _ (List.mem_append_left _ (List.mem_append_left _ (List.mem_append_right _ h))))) (by decide +kernel))
set_option maxRecDepth 20000 in
theorem gL_law_L_letterAt : GoodIn wsL_law (va_wsS RL 198 yL_letterAt wsL_letterAt) := goodIn_app (goodIn_of _ (by decide +kernel)) ggL_law_L_letterAt
set_option maxRecDepth 20000 in
theorem ggL_law_X11_letterAt : GoodIn wsL_law wsX11_letterAt := goodIn_ca (goodIn_r _ [510, 132, 145, 143, 189, 190, 5, 191, 192, 193, 194, 195, 1340, 1341, 1342, 1343, 1344, 1345, 1346, 1347, 1348, 1349, 1350, 1351, 1352, 1353, 1354, 1355, 1356, 1357, 1358, 1359, 1360, 1361, 1362, 1363, 1364, 1365, 1366, 1367, 1368, 1369] (by decide +kernel) (by decide +kernel)) (goodIn_sub (fun _ h => List.mem_append_left _ (List.mem_append_left _ (List.mem_append_left _ (List.mem_append_left _ (List.mem_append_left _ (List.mem_append_left _ (List.mem_append_left _ (List.mem_append_right _ h)))))))) (by decide +kernel))
set_option maxRecDepth 20000 in
theorem gL_law_X11_letterAt : GoodIn wsL_law (wsV RL 200 RX11 yX11_letterAt wsX11_letterAt) := goodIn_app (goodIn_of _ (by decide +kernel)) ggL_law_X11_letterAt
set_option maxRecDepth 20000 in
theorem ggL_law_L_accepts : GoodIn wsL_law wsL_accepts := goodIn_ca (goodIn_ca (goodIn_ca (goodIn_r _ [513, 167, 514, 515, 516, 2, 517, 17, 31, 32, 54, 518, 519, 520, 172, 173, 521, 522, 523, 524, 525, 526, 527, 528, 529, 530, 437, 438, 439, 16, 440, 63, 531, 532, 533, 534, 453, 454, 455, 456, 64, 231, 232, 386, 387, 388, 389, 65, 535, 536, 537, 538, 36, 539, 540, 541, 542, 543, 544, 545, 546, 547, 548, 549, 550, 551, 552, 553, 35, 554, 90, 555, 556, 557, 558, 559, 427, 428, 560, 561, 562, 563, 564, 565, 566, 567, 53, 568, 569, 570, 571, 572, 113, 114, 115, 116, 117, 573, 574, 575, 576, 577, 578, 579, 580, 581, 582, 583, 584, 585, 586, 1325, 1326, 1327, 1328, 1329, 1330, 1331, 1332, 1333, 1334, 1335, 1336, 1337, 1338, 1339, 1370, 1371, 1372, 1384, 1395, 1396, 1397, 1398, 1399] (by decide +kernel) (by decide +kernel)) (goodIn_sub (fun _ h => List.mem_append_left _ (List.mem_append_left _ (List.mem_append_left _ (List.mem_append_left _ (List.mem_append_left _ (List.mem_append_left _ (List.mem_append_left _ (List.mem_append_right _ h)))))))) (by decide +kernel))) (goodIn_sub (fun _ h => List.mem_append_left _ (List.mem_append_left _ (List.mem_append_left _ (List.mem_append_left _ (List.mem_append_left _ (List.mem_append_left _ (List.mem_append_right _ h))))))) (by decide +kernel))) (goodIn_sub (fun _ h => List.mem_append_left _ (List.mem_append_left _ (List.mem_append_right _ h))) (by decide +kernel))
set_option maxRecDepth 20000 in
theorem gL_law_L_accepts : GoodIn wsL_law (va_wsS RL 201 yL_accepts wsL_accepts) := goodIn_app (goodIn_of _ (by decide +kernel)) ggL_law_L_accepts
set_option maxRecDepth 20000 in
theorem ggL_law_X11_accepts : GoodIn wsL_law wsX11_accepts := goodIn_ca (goodIn_ca (goodIn_r _ [590, 132, 143, 145, 189, 190, 5, 191, 192, 193, 194, 195, 591, 592, 593, 594, 595, 442, 443, 444, 133, 308, 309, 310, 596, 597, 598, 599, 146, 600, 601, 602, 603, 604, 605, 606, 355, 356, 357, 351, 352, 353, 354, 607, 608, 609, 610, 150, 151, 611, 612, 613, 614, 615, 616, 617, 618, 147, 619, 620, 621, 622, 623, 624, 625, 626, 149, 148, 627, 628, 629, 1340, 1341, 1342, 1343, 1344, 1345, 1346, 1347, 1348, 1349, 1350, 1351, 1352, 1353, 1354, 1355, 1356, 1357, 1358, 1359, 1360, 1361, 1362, 1363, 1364, 1365, 1366, 1367, 1368, 1369] (by decide +kernel) (by decide +kernel)) (goodIn_sub (fun _ h => List.mem_append_left _ (List.mem_append_left _ (List.mem_append_left _ (List.mem_append_left _ (List.mem_append_left _ (List.mem_append_left _ (List.mem_append_left _ (List.mem_append_right _ h)))))))) (by decide +kernel))) (goodIn_sub (fun _ h => List.mem_append_left _ (List.mem_append_right _ h)) (by decide +kernel))
set_option maxRecDepth 20000 in
theorem gL_law_X11_accepts : GoodIn wsL_law (wsV RL 203 RX11 yX11_accepts wsX11_accepts) := goodIn_app (goodIn_of _ (by decide +kernel)) ggL_law_X11_accepts
set_option maxRecDepth 20000 in
theorem ggL_law_X10_runCount : GoodIn wsL_law wsX10_runCount := goodIn_ca (goodIn_r _ [633, 50, 17, 31, 32, 634, 635, 636, 49, 637, 108, 109, 638, 272, 273, 274, 639, 640, 641, 642, 334, 335, 16, 336, 63, 229, 2, 230, 231, 232, 643, 387, 388, 389, 65, 1325, 1326, 1327, 1328, 1329, 1330, 1331, 1332, 1333, 1334, 1335, 1336, 1337, 1338, 1339, 1388, 1389, 1390, 1391, 1392, 1393, 1394, 1370, 1371, 1372] (by decide +kernel) (by decide +kernel)) (goodIn_sub (fun _ h => List.mem_append_left _ (List.mem_append_left _ (List.mem_append_left _ (List.mem_append_left _ (List.mem_append_left _ (List.mem_append_left _ (List.mem_append_left _ (List.mem_append_right _ h)))))))) (by decide +kernel))
set_option maxRecDepth 20000 in
theorem gL_law_X10_runCount : GoodIn wsL_law (wsV RL 204 RX10 yX10_runCount wsX10_runCount) := goodIn_app (goodIn_of _ (by decide +kernel)) ggL_law_X10_runCount
set_option maxRecDepth 20000 in
theorem ggL_law_X11_runCount : GoodIn wsL_law wsX11_runCount := goodIn_ca (goodIn_r _ [647, 152, 145, 153, 143, 133, 351, 352, 353, 5, 354, 355, 356, 357, 1340, 1341, 1342, 1343, 1344, 1345, 1346, 1347, 1348, 1349, 1350, 1351, 1352, 1353, 1354, 1355, 1356, 1357, 1358, 1359, 1360, 1361, 1362, 1363, 1364, 1365, 1366, 1367, 1368, 1369] (by decide +kernel) (by decide +kernel)) (goodIn_sub (fun _ h => List.mem_append_left _ (List.mem_append_left _ (List.mem_append_left _ (List.mem_append_left _ (List.mem_append_left _ (List.mem_append_left _ (List.mem_append_left _ (List.mem_append_right _ h)))))))) (by decide +kernel))
set_option maxRecDepth 20000 in
theorem gL_law_X11_runCount : GoodIn wsL_law (wsV RL 208 RX11 yX11_runCount wsX11_runCount) := goodIn_app (goodIn_of _ (by decide +kernel)) ggL_law_X11_runCount
set_option maxRecDepth 20000 in
theorem ggL_law_X10_acceptedArrangements : GoodIn wsL_law wsX10_acceptedArrangements := goodIn_ca (goodIn_r _ [651, 50, 17, 31, 32, 652, 653, 654, 49, 655, 106, 656, 657, 658, 659, 104, 105, 107, 231, 2, 232, 660, 661, 662, 663, 103, 643, 387, 388, 16, 389, 65, 664, 454, 455, 456, 64, 1325, 1326, 1327, 1328, 1329, 1330, 1331, 1332, 1333, 1334, 1335, 1336, 1337, 1338, 1339, 1388, 1389, 1390, 1391, 1392, 1393, 1394, 1370, 1371, 1372] (by decide +kernel) (by decide +kernel)) (goodIn_sub (fun _ h => List.mem_append_left _ (List.mem_append_left _ (List.mem_append_left _ (List.mem_append_left _ (List.mem_append_left _ (List.mem_append_left _ (List.mem_append_left _ (List.mem_append_right _ h)))))))) (by decide +kernel))
set_option maxRecDepth 20000 in
theorem gL_law_X10_acceptedArrangements : GoodIn wsL_law (wsV RL 209 RX10 yX10_acceptedArrangements wsX10_acceptedArrangements) := goodIn_app (goodIn_of _ (by decide +kernel)) ggL_law_X10_acceptedArrangements
set_option maxRecDepth 20000 in
theorem ggL_law_X11_acceptedArrangements : GoodIn wsL_law wsX11_acceptedArrangements := goodIn_ca (goodIn_r _ [668, 669, 670, 671, 672, 5, 673, 154, 145, 143, 155, 156, 674, 675, 676, 677, 133, 144, 603, 604, 605, 606, 355, 356, 357, 351, 352, 353, 354, 1340, 1341, 1342, 1343, 1344, 1345, 1346, 1347, 1348, 1349, 1350, 1351, 1352, 1353, 1354, 1355, 1356, 1357, 1358, 1359, 1360, 1361, 1362, 1363, 1364, 1365, 1366, 1367, 1368, 1369] (by decide +kernel) (by decide +kernel)) (goodIn_sub (fun _ h => List.mem_append_left _ (List.mem_append_left _ (List.mem_append_left _ (List.mem_append_left _ (List.mem_append_left _ (List.mem_append_left _ (List.mem_append_left _ (List.mem_append_right _ h)))))))) (by decide +kernel))
set_option maxRecDepth 20000 in
theorem gL_law_X11_acceptedArrangements : GoodIn wsL_law (wsV RL 212 RX11 yX11_acceptedArrangements wsX11_acceptedArrangements) := goodIn_app (goodIn_of _ (by decide +kernel)) ggL_law_X11_acceptedArrangements
set_option maxRecDepth 20000 in
theorem ggL_law_L_takeArrangement : GoodIn wsL_law wsL_takeArrangement := goodIn_ca (goodIn_ca (goodIn_ca (goodIn_r _ [680, 167, 681, 682, 683, 2, 684, 172, 173, 369, 370, 50, 17, 31, 32, 685, 657, 658, 49, 659, 104, 105, 106, 107, 231, 232, 660, 661, 662, 663, 103, 643, 387, 388, 16, 389, 65, 664, 454, 455, 456, 64, 686, 687, 688, 689, 690, 691, 272, 273, 274, 59, 1325, 1326, 1327, 1328, 1329, 1330, 1331, 1332, 1333, 1334, 1335, 1336, 1337, 1338, 1339, 1388, 1389, 1390, 1391, 1392, 1393, 1394, 1370, 1371, 1372] (by decide +kernel) (by decide +kernel)) (goodIn_sub (fun _ h => List.mem_append_left _ (List.mem_append_left _ (List.mem_append_left _ (List.mem_append_left _ (List.mem_append_left _ (List.mem_append_left _ (List.mem_append_left _ (List.mem_append_right _ h)))))))) (by decide +kernel))) (goodIn_sub (fun _ h => List.mem_append_left _ (List.mem_append_left _ (List.mem_append_left _ (List.mem_append_left _ (List.mem_append_left _ (List.mem_append_left _ (List.mem_append_right _ h))))))) (by decide +kernel))) (goodIn_sub (fun _ h => List.mem_append_left _ (List.mem_append_left _ (List.mem_append_left _ (List.mem_append_right _ h)))) (by decide +kernel))
set_option maxRecDepth 20000 in
theorem gL_law_L_takeArrangement : GoodIn wsL_law (va_wsS RL 213 yL_takeArrangement wsL_takeArrangement) := goodIn_app (goodIn_of _ (by decide +kernel)) ggL_law_L_takeArrangement
set_option maxRecDepth 20000 in
theorem ggL_law_X11_takeArrangement : GoodIn wsL_law wsX11_takeArrangement := goodIn_ca (goodIn_r _ [695, 132, 156, 145, 143, 144, 192, 193, 194, 5, 195, 670, 671, 672, 673, 154, 155, 674, 675, 676, 677, 133, 603, 604, 605, 606, 355, 356, 357, 351, 352, 353, 354, 1340, 1341, 1342, 1343, 1344, 1345, 1346, 1347, 1348, 1349, 1350, 1351, 1352, 1353, 1354, 1355, 1356, 1357, 1358, 1359, 1360, 1361, 1362, 1363, 1364, 1365, 1366, 1367, 1368, 1369] (by decide +kernel) (by decide +kernel)) (goodIn_sub (fun _ h => List.mem_append_left _ (List.mem_append_left _ (List.mem_append_left _ (List.mem_append_left _ (List.mem_append_left _ (List.mem_append_left _ (List.mem_append_left _ (List.mem_append_right _ h)))))))) (by decide +kernel))
set_option maxRecDepth 20000 in
theorem gL_law_X11_takeArrangement : GoodIn wsL_law (wsV RL 215 RX11 yX11_takeArrangement wsX11_takeArrangement) := goodIn_app (goodIn_of _ (by decide +kernel)) ggL_law_X11_takeArrangement
set_option maxRecDepth 20000 in
theorem ggL_law_L_oneWayJumps : GoodIn wsL_law wsL_oneWayJumps := goodIn_ca (goodIn_ca (goodIn_r _ [698, 699, 700, 701, 702, 2, 703, 54, 17, 31, 32, 704, 525, 526, 527, 528, 529, 530, 437, 438, 439, 16, 440, 63, 565, 566, 567, 53, 568, 569, 570, 571, 572, 113, 114, 115, 116, 117, 573, 574, 575, 576, 577, 454, 455, 456, 64, 231, 232, 578, 579, 580, 581, 1325, 1326, 1327, 1328, 1329, 1330, 1331, 1332, 1333, 1334, 1335, 1336, 1337, 1338, 1339, 1395, 1396, 1397, 1398, 1399, 1370, 1371, 1372] (by decide +kernel) (by decide +kernel)) (goodIn_sub (fun _ h => List.mem_append_left _ (List.mem_append_left _ (List.mem_append_left _ (List.mem_append_left _ (List.mem_append_left _ (List.mem_append_left _ (List.mem_append_left _ (List.mem_append_right _ h)))))))) (by decide +kernel))) (goodIn_sub (fun _ h => List.mem_append_left _ (List.mem_append_left _ (List.mem_append_right _ h))) (by decide +kernel))
set_option maxRecDepth 20000 in
theorem gL_law_L_oneWayJumps : GoodIn wsL_law (va_wsS RL 216 yL_oneWayJumps wsL_oneWayJumps) := goodIn_app (goodIn_of _ (by decide +kernel)) ggL_law_L_oneWayJumps
set_option maxRecDepth 20000 in
theorem ggL_law_X11_oneWayJumps : GoodIn wsL_law wsX11_oneWayJumps := goodIn_ca (goodIn_ca (goodIn_r _ [708, 132, 143, 145, 149, 595, 442, 443, 5, 444, 133, 308, 309, 310, 192, 193, 194, 195, 623, 624, 625, 626, 150, 151, 148, 351, 352, 353, 354, 627, 628, 629, 1340, 1341, 1342, 1343, 1344, 1345, 1346, 1347, 1348, 1349, 1350, 1351, 1352, 1353, 1354, 1355, 1356, 1357, 1358, 1359, 1360, 1361, 1362, 1363, 1364, 1365, 1366, 1367, 1368, 1369] (by decide +kernel) (by decide +kernel)) (goodIn_sub (fun _ h => List.mem_append_left _ (List.mem_append_left _ (List.mem_append_left _ (List.mem_append_left _ (List.mem_append_left _ (List.mem_append_left _ (List.mem_append_left _ (List.mem_append_right _ h)))))))) (by decide +kernel))) (goodIn_sub (fun _ h => List.mem_append_left _ (List.mem_append_right _ h)) (by decide +kernel))
set_option maxRecDepth 20000 in
theorem gL_law_X11_oneWayJumps : GoodIn wsL_law (wsV RL 218 RX11 yX11_oneWayJumps wsX11_oneWayJumps) := goodIn_app (goodIn_of _ (by decide +kernel)) ggL_law_X11_oneWayJumps
set_option maxRecDepth 20000 in
theorem ggL_law_L_oneWayRest : GoodIn wsL_law wsL_oneWayRest := goodIn_ca (goodIn_ca (goodIn_r _ [711, 699, 712, 713, 714, 2, 715, 54, 17, 31, 32, 716, 525, 526, 527, 528, 529, 530, 437, 438, 439, 16, 440, 63, 565, 566, 567, 53, 568, 569, 570, 571, 572, 113, 114, 115, 116, 117, 573, 574, 575, 576, 577, 454, 455, 456, 64, 231, 232, 578, 579, 580, 581, 1325, 1326, 1327, 1328, 1329, 1330, 1331, 1332, 1333, 1334, 1335, 1336, 1337, 1338, 1339, 1395, 1396, 1397, 1398, 1399, 1370, 1371, 1372] (by decide +kernel) (by decide +kernel)) (goodIn_sub (fun _ h => List.mem_append_left _ (List.mem_append_left _ (List.mem_append_left _ (List.mem_append_left _ (List.mem_append_left _ (List.mem_append_left _ (List.mem_append_left _ (List.mem_append_right _ h)))))))) (by decide +kernel))) (goodIn_sub (fun _ h => List.mem_append_left _ (List.mem_append_left _ (List.mem_append_right _ h))) (by decide +kernel))
set_option maxRecDepth 20000 in
theorem gL_law_L_oneWayRest : GoodIn wsL_law (va_wsS RL 219 yL_oneWayRest wsL_oneWayRest) := goodIn_app (goodIn_of _ (by decide +kernel)) ggL_law_L_oneWayRest
set_option maxRecDepth 20000 in
theorem ggL_law_X11_oneWayRest : GoodIn wsL_law wsX11_oneWayRest := goodIn_ca (goodIn_ca (goodIn_r _ [720, 132, 143, 145, 150, 595, 442, 443, 5, 444, 133, 308, 309, 310, 192, 193, 194, 195, 623, 624, 625, 626, 149, 151, 148, 351, 352, 353, 354, 627, 628, 629, 1340, 1341, 1342, 1343, 1344, 1345, 1346, 1347, 1348, 1349, 1350, 1351, 1352, 1353, 1354, 1355, 1356, 1357, 1358, 1359, 1360, 1361, 1362, 1363, 1364, 1365, 1366, 1367, 1368, 1369] (by decide +kernel) (by decide +kernel)) (goodIn_sub (fun _ h => List.mem_append_left _ (List.mem_append_left _ (List.mem_append_left _ (List.mem_append_left _ (List.mem_append_left _ (List.mem_append_left _ (List.mem_append_left _ (List.mem_append_right _ h)))))))) (by decide +kernel))) (goodIn_sub (fun _ h => List.mem_append_left _ (List.mem_append_right _ h)) (by decide +kernel))
set_option maxRecDepth 20000 in
theorem gL_law_X11_oneWayRest : GoodIn wsL_law (wsV RL 221 RX11 yX11_oneWayRest wsX11_oneWayRest) := goodIn_app (goodIn_of _ (by decide +kernel)) ggL_law_X11_oneWayRest
set_option maxRecDepth 20000 in
theorem ggL_law_L_orderCost : GoodIn wsL_law wsL_orderCost := goodIn_ca (goodIn_ca (goodIn_r _ [723, 724, 725, 726, 727, 2, 728, 369, 370, 58, 729, 730, 731, 732, 733, 59, 17, 31, 32, 734, 735, 736, 57, 737, 127, 125, 124, 738, 272, 273, 274, 739, 740, 741, 742, 122, 743, 454, 455, 16, 456, 64, 231, 232, 744, 745, 746, 747, 748, 387, 388, 389, 65, 749, 750, 751, 752, 121, 753, 754, 755, 756, 757, 758, 759, 123, 760, 761, 762, 763, 764, 765, 766, 767, 768, 334, 335, 336, 63, 229, 230, 769, 770, 771, 772, 773, 774, 775, 776, 777, 778, 779, 780, 781, 782, 783, 784, 785, 786, 787, 788, 789, 126, 790, 791, 792, 793, 1325, 1326, 1327, 1328, 1329, 1330, 1331, 1332, 1333, 1334, 1335, 1336, 1337, 1338, 1339, 1400, 1401, 1402, 1403, 1404, 1405, 1406, 1370, 1371, 1372] (by decide +kernel) (by decide +kernel)) (goodIn_sub (fun _ h => List.mem_append_left _ (List.mem_append_left _ (List.mem_append_left _ (List.mem_append_left _ (List.mem_append_left _ (List.mem_append_left _ (List.mem_append_left _ (List.mem_append_right _ h)))))))) (by decide +kernel))) (goodIn_sub (fun _ h => List.mem_append_left _ (List.mem_append_left _ (List.mem_append_left _ (List.mem_append_right _ h)))) (by decide +kernel))
set_option maxRecDepth 20000 in
theorem gL_law_L_orderCost : GoodIn wsL_law (va_wsS RL 222 yL_orderCost wsL_orderCost) := goodIn_app (goodIn_of _ (by decide +kernel)) ggL_law_L_orderCost
set_option maxRecDepth 20000 in
theorem ggL_law_X11_orderCost : GoodIn wsL_law wsX11_orderCost := goodIn_ca (goodIn_r _ [797, 132, 798, 799, 800, 801, 5, 802, 145, 133, 143, 803, 773, 774, 775, 355, 356, 357, 804, 805, 806, 807, 808, 784, 785, 157, 351, 352, 353, 354, 809, 810, 811, 812, 813, 814, 815, 816, 192, 193, 194, 195, 1340, 1341, 1342, 1343, 1344, 1345, 1346, 1347, 1348, 1349, 1350, 1351, 1352, 1353, 1354, 1355, 1356, 1357, 1358, 1359, 1360, 1361, 1362, 1363, 1364, 1365, 1366, 1367, 1368, 1369] (by decide +kernel) (by decide +kernel)) (goodIn_sub (fun _ h => List.mem_append_left _ (List.mem_append_left _ (List.mem_append_left _ (List.mem_append_left _ (List.mem_append_left _ (List.mem_append_left _ (List.mem_append_left _ (List.mem_append_right _ h)))))))) (by decide +kernel))
set_option maxRecDepth 20000 in
theorem gL_law_X11_orderCost : GoodIn wsL_law (wsV RL 224 RX11 yX11_orderCost wsX11_orderCost) := goodIn_app (goodIn_of _ (by decide +kernel)) ggL_law_X11_orderCost
set_option maxRecDepth 20000 in
theorem ggL_law_L_orderPosition : GoodIn wsL_law wsL_orderPosition := goodIn_ca (goodIn_ca (goodIn_ca (goodIn_r _ [819, 318, 820, 821, 822, 2, 823, 326, 327, 369, 370, 58, 824, 503, 504, 505, 506, 32, 730, 731, 732, 733, 59, 17, 31, 729, 734, 735, 736, 57, 737, 127, 125, 124, 738, 272, 273, 274, 739, 740, 741, 742, 122, 743, 454, 455, 16, 456, 64, 231, 232, 744, 745, 746, 747, 748, 387, 388, 389, 65, 749, 750, 751, 752, 121, 753, 754, 755, 756, 757, 758, 759, 123, 760, 761, 762, 763, 764, 765, 766, 767, 768, 334, 335, 336, 63, 229, 230, 769, 770, 771, 772, 773, 774, 775, 776, 777, 778, 779, 780, 781, 782, 783, 784, 785, 786, 787, 788, 789, 126, 790, 791, 792, 793, 1325, 1326, 1327, 1328, 1329, 1330, 1331, 1332, 1333, 1334, 1335, 1336, 1337, 1338, 1339, 1400, 1401, 1402, 1403, 1404, 1405, 1406, 1370, 1371, 1372] (by decide +kernel) (by decide +kernel)) (goodIn_sub (fun _ h => List.mem_append_left _ (List.mem_append_left _ (List.mem_append_left _ (List.mem_append_left _ (List.mem_append_left _ (List.mem_append_left _ (List.mem_append_left _ (List.mem_append_right _ h)))))))) (by decide +kernel))) (goodIn_sub (fun _ h => List.mem_append_left _ (List.mem_append_left _ (List.mem_append_left _ (List.mem_append_left _ (List.mem_append_right _ h))))) (by decide +kernel))) (goodIn_sub (fun _ h => List.mem_append_left _ (List.mem_append_left _ (List.mem_append_left _ (List.mem_append_right _ h)))) (by decide +kernel))
set_option maxRecDepth 20000 in
theorem gL_law_L_orderPosition : GoodIn wsL_law (va_wsS RL 225 yL_orderPosition wsL_orderPosition) := goodIn_app (goodIn_of _ (by decide +kernel)) ggL_law_L_orderPosition
set_option maxRecDepth 20000 in
theorem ggL_law_X11_orderPosition : GoodIn wsL_law wsX11_orderPosition := goodIn_ca (goodIn_r _ [828, 132, 145, 798, 808, 784, 774, 785, 143, 158, 189, 190, 5, 191, 192, 193, 194, 195, 799, 800, 801, 802, 133, 803, 773, 775, 355, 356, 357, 804, 805, 806, 807, 157, 351, 352, 353, 354, 809, 810, 811, 812, 813, 814, 815, 816, 603, 604, 605, 606, 1340, 1341, 1342, 1343, 1344, 1345, 1346, 1347, 1348, 1349, 1350, 1351, 1352, 1353, 1354, 1355, 1356, 1357, 1358, 1359, 1360, 1361, 1362, 1363, 1364, 1365, 1366, 1367, 1368, 1369] (by decide +kernel) (by decide +kernel)) (goodIn_sub (fun _ h => List.mem_append_left _ (List.mem_append_left _ (List.mem_append_left _ (List.mem_append_left _ (List.mem_append_left _ (List.mem_append_left _ (List.mem_append_left _ (List.mem_append_right _ h)))))))) (by decide +kernel))
set_option maxRecDepth 20000 in
theorem gL_law_X11_orderPosition : GoodIn wsL_law (wsV RL 227 RX11 yX11_orderPosition wsX11_orderPosition) := goodIn_app (goodIn_of _ (by decide +kernel)) ggL_law_X11_orderPosition
set_option maxRecDepth 20000 in
theorem ggL_law_L_reaches : GoodIn wsL_law wsL_reaches := goodIn_ca (goodIn_ca (goodIn_r _ [831, 167, 832, 833, 834, 2, 835, 36, 17, 836, 837, 838, 172, 173, 839, 555, 556, 557, 558, 559, 551, 552, 553, 35, 554, 90, 427, 428, 560, 454, 455, 16, 456, 64, 231, 232, 840, 561, 562, 563, 564, 386, 387, 388, 389, 65, 1325, 1326, 1327, 1328, 1329, 1330, 1331, 1332, 1333, 1334, 1335, 1336, 1337, 1338, 1339, 1384, 1370, 1371, 1372] (by decide +kernel) (by decide +kernel)) (goodIn_sub (fun _ h => List.mem_append_left _ (List.mem_append_left _ (List.mem_append_left _ (List.mem_append_left _ (List.mem_append_left _ (List.mem_append_left _ (List.mem_append_left _ (List.mem_append_right _ h)))))))) (by decide +kernel))) (goodIn_sub (fun _ h => List.mem_append_left _ (List.mem_append_left _ (List.mem_append_left _ (List.mem_append_left _ (List.mem_append_left _ (List.mem_append_left _ (List.mem_append_right _ h))))))) (by decide +kernel))
set_option maxRecDepth 20000 in
theorem gL_law_L_reaches : GoodIn wsL_law (va_wsS RL 228 yL_reaches wsL_reaches) := goodIn_app (goodIn_of _ (by decide +kernel)) ggL_law_L_reaches
set_option maxRecDepth 20000 in
theorem ggL_law_X11_reaches : GoodIn wsL_law wsX11_reaches := goodIn_ca (goodIn_r _ [844, 132, 189, 190, 5, 191, 192, 193, 194, 195, 596, 597, 598, 599, 146, 600, 601, 602, 603, 604, 605, 606, 355, 356, 357, 351, 352, 353, 354, 133, 619, 620, 621, 622, 1340, 1341, 1342, 1343, 1344, 1345, 1346, 1347, 1348, 1349, 1350, 1351, 1352, 1353, 1354, 1355, 1356, 1357, 1358, 1359, 1360, 1361, 1362, 1363, 1364, 1365, 1366, 1367, 1368, 1369] (by decide +kernel) (by decide +kernel)) (goodIn_sub (fun _ h => List.mem_append_left _ (List.mem_append_left _ (List.mem_append_left _ (List.mem_append_left _ (List.mem_append_left _ (List.mem_append_left _ (List.mem_append_left _ (List.mem_append_right _ h)))))))) (by decide +kernel))
set_option maxRecDepth 20000 in
theorem gL_law_X11_reaches : GoodIn wsL_law (wsV RL 230 RX11 yX11_reaches wsX11_reaches) := goodIn_app (goodIn_of _ (by decide +kernel)) ggL_law_X11_reaches
set_option maxRecDepth 20000 in
theorem ggL_law_X10_minimalCount : GoodIn wsL_law wsX10_minimalCount := goodIn_ca (goodIn_r _ [848, 41, 849, 850, 851, 852, 2, 853, 36, 17, 551, 552, 553, 35, 554, 90, 555, 556, 557, 558, 559, 427, 428, 560, 454, 455, 16, 456, 64, 231, 232, 854, 855, 856, 40, 857, 95, 840, 561, 562, 563, 564, 386, 387, 388, 389, 65, 858, 859, 860, 861, 94, 543, 544, 546, 547, 549, 550, 862, 863, 864, 865, 866, 867, 868, 869, 1325, 1326, 1327, 1328, 1329, 1330, 1331, 1332, 1333, 1334, 1335, 1336, 1337, 1338, 1339, 1385, 1386, 1384, 1370, 1371, 1372] (by decide +kernel) (by decide +kernel)) (goodIn_sub (fun _ h => List.mem_append_left _ (List.mem_append_left _ (List.mem_append_left _ (List.mem_append_left _ (List.mem_append_left _ (List.mem_append_left _ (List.mem_append_left _ (List.mem_append_right _ h)))))))) (by decide +kernel))
set_option maxRecDepth 20000 in
theorem gL_law_X10_minimalCount : GoodIn wsL_law (wsV RL 231 RX10 yX10_minimalCount wsX10_minimalCount) := goodIn_app (goodIn_of _ (by decide +kernel)) ggL_law_X10_minimalCount
set_option maxRecDepth 20000 in
theorem ggL_law_X11_minimalCount : GoodIn wsL_law wsX11_minimalCount := goodIn_ca (goodIn_r _ [873, 874, 875, 876, 5, 877, 160, 596, 597, 598, 599, 146, 600, 601, 602, 603, 604, 605, 606, 355, 356, 357, 351, 352, 353, 354, 133, 878, 879, 880, 881, 619, 620, 621, 622, 882, 883, 884, 885, 1340, 1341, 1342, 1343, 1344, 1345, 1346, 1347, 1348, 1349, 1350, 1351, 1352, 1353, 1354, 1355, 1356, 1357, 1358, 1359, 1360, 1361, 1362, 1363, 1364, 1365, 1366, 1367, 1368, 1369] (by decide +kernel) (by decide +kernel)) (goodIn_sub (fun _ h => List.mem_append_left _ (List.mem_append_left _ (List.mem_append_left _ (List.mem_append_left _ (List.mem_append_left _ (List.mem_append_left _ (List.mem_append_left _ (List.mem_append_right _ h)))))))) (by decide +kernel))
set_option maxRecDepth 20000 in
theorem gL_law_X11_minimalCount : GoodIn wsL_law (wsV RL 234 RX11 yX11_minimalCount wsX11_minimalCount) := goodIn_app (goodIn_of _ (by decide +kernel)) ggL_law_X11_minimalCount
set_option maxRecDepth 20000 in
theorem ggL_law_L_minimal : GoodIn wsL_law wsL_minimal := goodIn_ca (goodIn_ca (goodIn_r _ [888, 318, 889, 890, 891, 2, 892, 326, 327, 41, 849, 850, 851, 852, 853, 36, 17, 551, 552, 553, 35, 554, 90, 555, 556, 557, 558, 559, 427, 428, 560, 454, 455, 16, 456, 64, 231, 232, 854, 855, 856, 40, 857, 95, 840, 561, 562, 563, 564, 386, 387, 388, 389, 65, 858, 859, 860, 861, 94, 543, 544, 546, 547, 549, 550, 862, 863, 864, 865, 866, 867, 868, 869, 893, 894, 895, 896, 1325, 1326, 1327, 1328, 1329, 1330, 1331, 1332, 1333, 1334, 1335, 1336, 1337, 1338, 1339, 1385, 1386, 1384, 1370, 1371, 1372] (by decide +kernel) (by decide +kernel)) (goodIn_sub (fun _ h => List.mem_append_left _ (List.mem_append_left _ (List.mem_append_left _ (List.mem_append_left _ (List.mem_append_left _ (List.mem_append_left _ (List.mem_append_left _ (List.mem_append_right _ h)))))))) (by decide +kernel))) (goodIn_sub (fun _ h => List.mem_append_left _ (List.mem_append_left _ (List.mem_append_left _ (List.mem_append_left _ (List.mem_append_right _ h))))) (by decide +kernel))
set_option maxRecDepth 20000 in
theorem gL_law_L_minimal : GoodIn wsL_law (va_wsS RL 235 yL_minimal wsL_minimal) := goodIn_app (goodIn_of _ (by decide +kernel)) ggL_law_L_minimal
set_option maxRecDepth 20000 in
theorem ggL_law_X11_minimal : GoodIn wsL_law wsX11_minimal := goodIn_ca (goodIn_r _ [900, 132, 874, 875, 876, 5, 877, 160, 596, 597, 598, 599, 146, 600, 601, 602, 603, 604, 605, 606, 355, 356, 357, 351, 352, 353, 354, 133, 878, 879, 880, 881, 619, 620, 621, 622, 901, 902, 903, 904, 192, 193, 194, 195, 1340, 1341, 1342, 1343, 1344, 1345, 1346, 1347, 1348, 1349, 1350, 1351, 1352, 1353, 1354, 1355, 1356, 1357, 1358, 1359, 1360, 1361, 1362, 1363, 1364, 1365, 1366, 1367, 1368, 1369] (by decide +kernel) (by decide +kernel)) (goodIn_sub (fun _ h => List.mem_append_left _ (List.mem_append_left _ (List.mem_append_left _ (List.mem_append_left _ (List.mem_append_left _ (List.mem_append_left _ (List.mem_append_left _ (List.mem_append_right _ h)))))))) (by decide +kernel))
set_option maxRecDepth 20000 in
theorem gL_law_X11_minimal : GoodIn wsL_law (wsV RL 237 RX11 yX11_minimal wsX11_minimal) := goodIn_app (goodIn_of _ (by decide +kernel)) ggL_law_X11_minimal
set_option maxRecDepth 20000 in
theorem ggL_law_X10_cycleCount : GoodIn wsL_law wsX10_cycleCount := goodIn_ca (goodIn_r _ [908, 46, 17, 42, 849, 909, 910, 911, 45, 912, 99, 913, 855, 856, 40, 857, 95, 914, 450, 451, 16, 452, 65, 453, 454, 455, 456, 64, 231, 2, 232, 457, 458, 459, 460, 63, 915, 916, 917, 918, 919, 334, 335, 336, 229, 230, 540, 541, 920, 863, 864, 865, 94, 866, 867, 868, 869, 1325, 1326, 1327, 1328, 1329, 1330, 1331, 1332, 1333, 1334, 1335, 1336, 1337, 1338, 1339, 1385, 1386, 1387, 1370, 1371, 1372] (by decide +kernel) (by decide +kernel)) (goodIn_sub (fun _ h => List.mem_append_left _ (List.mem_append_left _ (List.mem_append_left _ (List.mem_append_left _ (List.mem_append_left _ (List.mem_append_left _ (List.mem_append_left _ (List.mem_append_right _ h)))))))) (by decide +kernel))
set_option maxRecDepth 20000 in
theorem gL_law_X10_cycleCount : GoodIn wsL_law (wsV RL 238 RX10 yX10_cycleCount wsX10_cycleCount) := goodIn_app (goodIn_of _ (by decide +kernel)) ggL_law_X10_cycleCount
set_option maxRecDepth 20000 in
theorem ggL_law_X11_cycleCount : GoodIn wsL_law wsX11_cycleCount := goodIn_ca (goodIn_r _ [924, 925, 926, 927, 5, 928, 160, 161, 929, 462, 463, 464, 133, 465, 466, 467, 468, 355, 356, 357, 351, 352, 353, 354, 930, 931, 932, 933, 882, 883, 884, 885, 1340, 1341, 1342, 1343, 1344, 1345, 1346, 1347, 1348, 1349, 1350, 1351, 1352, 1353, 1354, 1355, 1356, 1357, 1358, 1359, 1360, 1361, 1362, 1363, 1364, 1365, 1366, 1367, 1368, 1369] (by decide +kernel) (by decide +kernel)) (goodIn_sub (fun _ h => List.mem_append_left _ (List.mem_append_left _ (List.mem_append_left _ (List.mem_append_left _ (List.mem_append_left _ (List.mem_append_left _ (List.mem_append_left _ (List.mem_append_right _ h)))))))) (by decide +kernel))
set_option maxRecDepth 20000 in
theorem gL_law_X11_cycleCount : GoodIn wsL_law (wsV RL 241 RX11 yX11_cycleCount wsX11_cycleCount) := goodIn_app (goodIn_of _ (by decide +kernel)) ggL_law_X11_cycleCount
set_option maxRecDepth 20000 in
theorem ggL_law_L_cycle : GoodIn wsL_law wsL_cycle := goodIn_ca (goodIn_ca (goodIn_r _ [936, 318, 937, 938, 939, 2, 940, 326, 327, 46, 17, 42, 849, 909, 910, 911, 45, 912, 99, 913, 855, 856, 40, 857, 95, 914, 450, 451, 16, 452, 65, 453, 454, 455, 456, 64, 231, 232, 457, 458, 459, 460, 63, 915, 916, 917, 918, 919, 334, 335, 336, 229, 230, 540, 541, 920, 863, 864, 865, 94, 866, 867, 868, 869, 893, 894, 895, 896, 1325, 1326, 1327, 1328, 1329, 1330, 1331, 1332, 1333, 1334, 1335, 1336, 1337, 1338, 1339, 1385, 1386, 1387, 1370, 1371, 1372] (by decide +kernel) (by decide +kernel)) (goodIn_sub (fun _ h => List.mem_append_left _ (List.mem_append_left _ (List.mem_append_left _ (List.mem_append_left _ (List.mem_append_left _ (List.mem_append_left _ (List.mem_append_left _ (List.mem_append_right _ h)))))))) (by decide +kernel))) (goodIn_sub (fun _ h => List.mem_append_left _ (List.mem_append_left _ (List.mem_append_left _ (List.mem_append_left _ (List.mem_append_right _ h))))) (by decide +kernel))
set_option maxRecDepth 20000 in
theorem gL_law_L_cycle : GoodIn wsL_law (va_wsS RL 242 yL_cycle wsL_cycle) := goodIn_app (goodIn_of _ (by decide +kernel)) ggL_law_L_cycle
set_option maxRecDepth 20000 in
theorem ggL_law_X11_cycle : GoodIn wsL_law wsX11_cycle := goodIn_ca (goodIn_r _ [944, 132, 925, 926, 927, 5, 928, 160, 161, 929, 462, 463, 464, 133, 465, 466, 467, 468, 355, 356, 357, 351, 352, 353, 354, 930, 931, 932, 933, 901, 902, 903, 904, 192, 193, 194, 195, 1340, 1341, 1342, 1343, 1344, 1345, 1346, 1347, 1348, 1349, 1350, 1351, 1352, 1353, 1354, 1355, 1356, 1357, 1358, 1359, 1360, 1361, 1362, 1363, 1364, 1365, 1366, 1367, 1368, 1369] (by decide +kernel) (by decide +kernel)) (goodIn_sub (fun _ h => List.mem_append_left _ (List.mem_append_left _ (List.mem_append_left _ (List.mem_append_left _ (List.mem_append_left _ (List.mem_append_left _ (List.mem_append_left _ (List.mem_append_right _ h)))))))) (by decide +kernel))
set_option maxRecDepth 20000 in
theorem gL_law_X11_cycle : GoodIn wsL_law (wsV RL 244 RX11 yX11_cycle wsX11_cycle) := goodIn_app (goodIn_of _ (by decide +kernel)) ggL_law_X11_cycle
set_option maxRecDepth 20000 in
theorem ggL_law_L_addLinearSet : GoodIn wsL_law wsL_addLinearSet := goodIn_ca (goodIn_ca (goodIn_ca (goodIn_ca (goodIn_r _ [947, 318, 948, 949, 950, 2, 951, 174, 175, 21, 952, 953, 954, 326, 327, 955, 956, 957, 836, 837, 838, 172, 173, 839, 555, 556, 557, 558, 559, 958, 959, 960, 20, 961, 69, 256, 257, 258, 259, 25, 17, 260, 261, 262, 24, 263, 74, 76, 77, 264, 265, 266, 267, 268, 269, 16, 270, 63, 271, 272, 273, 274, 65, 275, 276, 277, 278, 279, 840, 427, 428, 962, 963, 964, 965, 966, 967, 968, 969, 1325, 1326, 1327, 1328, 1329, 1330, 1331, 1332, 1333, 1334, 1335, 1336, 1337, 1338, 1339, 1373, 1374, 1375, 1376, 1377, 1378, 1370, 1371, 1372] (by decide +kernel) (by decide +kernel)) (goodIn_sub (fun _ h => List.mem_append_left _ (List.mem_append_left _ (List.mem_append_left _ (List.mem_append_left _ (List.mem_append_left _ (List.mem_append_left _ (List.mem_append_left _ (List.mem_append_right _ h)))))))) (by decide +kernel))) (goodIn_sub (fun _ h => List.mem_append_left _ (List.mem_append_left _ (List.mem_append_left _ (List.mem_append_left _ (List.mem_append_left _ (List.mem_append_right _ h)))))) (by decide +kernel))) (goodIn_sub (fun _ h => List.mem_append_left _ (List.mem_append_left _ (List.mem_append_left _ (List.mem_append_left _ (List.mem_append_right _ h))))) (by decide +kernel))) (goodIn_sub (fun _ h => List.mem_append_left _ (List.mem_append_left _ (List.mem_append_left _ (List.mem_append_left _ (List.mem_append_left _ (List.mem_append_left _ (List.mem_append_right _ h))))))) (by decide +kernel))
set_option maxRecDepth 20000 in
theorem gL_law_L_addLinearSet : GoodIn wsL_law (va_wsS RL 245 yL_addLinearSet wsL_addLinearSet) := goodIn_app (goodIn_of _ (by decide +kernel)) ggL_law_L_addLinearSet
set_option maxRecDepth 20000 in
theorem ggL_law_X11_addLinearSet : GoodIn wsL_law wsX11_addLinearSet := goodIn_ca (goodIn_r _ [973, 132, 133, 974, 975, 5, 976, 189, 190, 191, 192, 193, 194, 195, 977, 978, 979, 311, 312, 313, 314, 136, 135, 1340, 1341, 1342, 1343, 1344, 1345, 1346, 1347, 1348, 1349, 1350, 1351, 1352, 1353, 1354, 1355, 1356, 1357, 1358, 1359, 1360, 1361, 1362, 1363, 1364, 1365, 1366, 1367, 1368, 1369] (by decide +kernel) (by decide +kernel)) (goodIn_sub (fun _ h => List.mem_append_left _ (List.mem_append_left _ (List.mem_append_left _ (List.mem_append_left _ (List.mem_append_left _ (List.mem_append_left _ (List.mem_append_left _ (List.mem_append_right _ h)))))))) (by decide +kernel))
set_option maxRecDepth 20000 in
theorem gL_law_X11_addLinearSet : GoodIn wsL_law (wsV RL 248 RX11 yX11_addLinearSet wsX11_addLinearSet) := goodIn_app (goodIn_of _ (by decide +kernel)) ggL_law_X11_addLinearSet
set_option maxRecDepth 20000 in
theorem ggL_law_L_addPeriod : GoodIn wsL_law wsL_addPeriod := goodIn_ca (goodIn_ca (goodIn_ca (goodIn_ca (goodIn_r _ [982, 318, 983, 984, 985, 2, 986, 172, 173, 174, 175, 21, 987, 988, 989, 990, 326, 327, 991, 992, 993, 20, 994, 966, 959, 960, 961, 69, 956, 957, 839, 555, 556, 557, 558, 559, 840, 427, 428, 995, 996, 997, 998, 999, 967, 968, 969, 256, 257, 258, 259, 25, 17, 260, 261, 262, 24, 263, 74, 76, 77, 264, 265, 266, 267, 268, 269, 16, 270, 63, 271, 272, 273, 274, 65, 275, 276, 277, 278, 279, 1000, 1001, 1002, 1003, 1004, 1325, 1326, 1327, 1328, 1329, 1330, 1331, 1332, 1333, 1334, 1335, 1336, 1337, 1338, 1339, 1373, 1374, 1375, 1376, 1377, 1378, 1370, 1371, 1372] (by decide +kernel) (by decide +kernel)) (goodIn_sub (fun _ h => List.mem_append_left _ (List.mem_append_left _ (List.mem_append_left _ (List.mem_append_left _ (List.mem_append_left _ (List.mem_append_left _ (List.mem_append_left _ (List.mem_append_right _ h)))))))) (by decide +kernel))) (goodIn_sub (fun _ h => List.mem_append_left _ (List.mem_append_left _ (List.mem_append_left _ (List.mem_append_left _ (List.mem_append_left _ (List.mem_append_left _ (List.mem_append_right _ h))))))) (by decide +kernel))) (goodIn_sub (fun _ h => List.mem_append_left _ (List.mem_append_left _ (List.mem_append_left _ (List.mem_append_left _ (List.mem_append_left _ (List.mem_append_right _ h)))))) (by decide +kernel))) (goodIn_sub (fun _ h => List.mem_append_left _ (List.mem_append_left _ (List.mem_append_left _ (List.mem_append_left _ (List.mem_append_right _ h))))) (by decide +kernel))
set_option maxRecDepth 20000 in
theorem gL_law_L_addPeriod : GoodIn wsL_law (va_wsS RL 249 yL_addPeriod wsL_addPeriod) := goodIn_app (goodIn_of _ (by decide +kernel)) ggL_law_L_addPeriod
set_option maxRecDepth 20000 in
theorem ggL_law_X11_addPeriod : GoodIn wsL_law wsX11_addPeriod := goodIn_ca (goodIn_r _ [1008, 132, 133, 1009, 1010, 1011, 5, 1012, 974, 975, 976, 189, 190, 191, 192, 193, 194, 195, 977, 978, 979, 311, 312, 313, 314, 136, 135, 1340, 1341, 1342, 1343, 1344, 1345, 1346, 1347, 1348, 1349, 1350, 1351, 1352, 1353, 1354, 1355, 1356, 1357, 1358, 1359, 1360, 1361, 1362, 1363, 1364, 1365, 1366, 1367, 1368, 1369] (by decide +kernel) (by decide +kernel)) (goodIn_sub (fun _ h => List.mem_append_left _ (List.mem_append_left _ (List.mem_append_left _ (List.mem_append_left _ (List.mem_append_left _ (List.mem_append_left _ (List.mem_append_left _ (List.mem_append_right _ h)))))))) (by decide +kernel))
set_option maxRecDepth 20000 in
theorem gL_law_X11_addPeriod : GoodIn wsL_law (wsV RL 252 RX11 yX11_addPeriod wsX11_addPeriod) := goodIn_app (goodIn_of _ (by decide +kernel)) ggL_law_X11_addPeriod
set_option maxRecDepth 20000 in
theorem ggL_law_L_clearSet : GoodIn wsL_law wsL_clearSet := goodIn_ca (goodIn_ca (goodIn_r _ [1015, 318, 1016, 1017, 1018, 2, 1019, 21, 952, 953, 954, 326, 327, 955, 956, 957, 256, 257, 258, 259, 25, 17, 260, 261, 262, 24, 263, 74, 76, 77, 264, 265, 266, 267, 268, 269, 16, 270, 63, 271, 272, 273, 274, 65, 275, 276, 277, 20, 278, 69, 279, 1020, 1021, 1022, 1023, 966, 959, 960, 961, 1325, 1326, 1327, 1328, 1329, 1330, 1331, 1332, 1333, 1334, 1335, 1336, 1337, 1338, 1339, 1374, 1375, 1376, 1377, 1378, 1370, 1371, 1372, 1373] (by decide +kernel) (by decide +kernel)) (goodIn_sub (fun _ h => List.mem_append_left _ (List.mem_append_left _ (List.mem_append_left _ (List.mem_append_left _ (List.mem_append_left _ (List.mem_append_left _ (List.mem_append_left _ (List.mem_append_right _ h)))))))) (by decide +kernel))) (goodIn_sub (fun _ h => List.mem_append_left _ (List.mem_append_left _ (List.mem_append_left _ (List.mem_append_left _ (List.mem_append_right _ h))))) (by decide +kernel))
set_option maxRecDepth 20000 in
theorem gL_law_L_clearSet : GoodIn wsL_law (va_wsS RL 253 yL_clearSet wsL_clearSet) := goodIn_app (goodIn_of _ (by decide +kernel)) ggL_law_L_clearSet
set_option maxRecDepth 20000 in
theorem ggL_law_X11_clearSet : GoodIn wsL_law wsX11_clearSet := goodIn_ca (goodIn_r _ [1027, 132, 133, 974, 975, 5, 976, 189, 190, 191, 192, 193, 194, 195, 311, 312, 313, 314, 136, 135, 1340, 1341, 1342, 1343, 1344, 1345, 1346, 1347, 1348, 1349, 1350, 1351, 1352, 1353, 1354, 1355, 1356, 1357, 1358, 1359, 1360, 1361, 1362, 1363, 1364, 1365, 1366, 1367, 1368, 1369] (by decide +kernel) (by decide +kernel)) (goodIn_sub (fun _ h => List.mem_append_left _ (List.mem_append_left _ (List.mem_append_left _ (List.mem_append_left _ (List.mem_append_left _ (List.mem_append_left _ (List.mem_append_left _ (List.mem_append_right _ h)))))))) (by decide +kernel))
set_option maxRecDepth 20000 in
theorem gL_law_X11_clearSet : GoodIn wsL_law (wsV RL 255 RX11 yX11_clearSet wsX11_clearSet) := goodIn_app (goodIn_of _ (by decide +kernel)) ggL_law_X11_clearSet
set_option maxRecDepth 20000 in
theorem ggL_law_L_contains : GoodIn wsL_law wsL_contains := goodIn_ca (goodIn_ca (goodIn_ca (goodIn_r _ [1030, 318, 1031, 1032, 1033, 2, 1034, 37, 21, 952, 953, 954, 326, 327, 955, 956, 957, 836, 837, 838, 172, 173, 839, 555, 556, 557, 558, 559, 1035, 1036, 1037, 35, 1038, 427, 428, 1039, 1040, 1041, 1042, 90, 1043, 959, 960, 20, 961, 69, 1044, 1045, 1046, 1047, 999, 992, 993, 994, 966, 967, 968, 969, 1048, 1049, 1050, 1051, 1052, 996, 997, 998, 1053, 1054, 1055, 1056, 1004, 1057, 1058, 1059, 1060, 543, 544, 546, 547, 549, 550, 840, 561, 562, 563, 564, 1325, 1326, 1327, 1328, 1329, 1330, 1331, 1332, 1333, 1334, 1335, 1336, 1337, 1338, 1339, 1384, 1373] (by decide +kernel) (by decide +kernel)) (goodIn_sub (fun _ h => List.mem_append_left _ (List.mem_append_left _ (List.mem_append_left _ (List.mem_append_left _ (List.mem_append_left _ (List.mem_append_left _ (List.mem_append_left _ (List.mem_append_right _ h)))))))) (by decide +kernel))) (goodIn_sub (fun _ h => List.mem_append_left _ (List.mem_append_left _ (List.mem_append_left _ (List.mem_append_left _ (List.mem_append_right _ h))))) (by decide +kernel))) (goodIn_sub (fun _ h => List.mem_append_left _ (List.mem_append_left _ (List.mem_append_left _ (List.mem_append_left _ (List.mem_append_left _ (List.mem_append_left _ (List.mem_append_right _ h))))))) (by decide +kernel))
set_option maxRecDepth 20000 in
theorem gL_law_L_contains : GoodIn wsL_law (va_wsS RL 256 yL_contains wsL_contains) := goodIn_app (goodIn_of _ (by decide +kernel)) ggL_law_L_contains
set_option maxRecDepth 20000 in
theorem ggL_law_X11_contains : GoodIn wsL_law wsX11_contains := goodIn_ca (goodIn_r _ [1064, 132, 974, 975, 5, 976, 189, 190, 191, 192, 193, 194, 195, 977, 978, 979, 1065, 1066, 1067, 1068, 133, 1069, 1070, 1071, 1072, 1340, 1341, 1342, 1343, 1344, 1345, 1346, 1347, 1348, 1349, 1350, 1351, 1352, 1353, 1354, 1355, 1356, 1357, 1358, 1359, 1360, 1361, 1362, 1363, 1364, 1365, 1366, 1367, 1368, 1369] (by decide +kernel) (by decide +kernel)) (goodIn_sub (fun _ h => List.mem_append_left _ (List.mem_append_left _ (List.mem_append_left _ (List.mem_append_left _ (List.mem_append_left _ (List.mem_append_left _ (List.mem_append_left _ (List.mem_append_right _ h)))))))) (by decide +kernel))
set_option maxRecDepth 20000 in
theorem gL_law_X11_contains : GoodIn wsL_law (wsV RL 258 RX11 yX11_contains wsX11_contains) := goodIn_app (goodIn_of _ (by decide +kernel)) ggL_law_X11_contains
set_option maxRecDepth 20000 in
theorem ggL_law_L_elements : GoodIn wsL_law wsL_elements := goodIn_ca (goodIn_ca (goodIn_ca (goodIn_r _ [1075, 318, 1076, 1077, 1078, 2, 1079, 37, 21, 952, 953, 954, 326, 327, 955, 956, 957, 1080, 1081, 1082, 172, 173, 1035, 1036, 1037, 35, 1038, 555, 556, 557, 558, 559, 427, 428, 1039, 1040, 1041, 1042, 90, 1043, 959, 960, 20, 961, 69, 1044, 1045, 1046, 1047, 999, 992, 993, 994, 966, 967, 968, 969, 1048, 1049, 1050, 1051, 1052, 996, 997, 998, 1053, 1054, 1055, 1056, 1004, 1057, 1058, 1059, 1060, 543, 544, 546, 547, 549, 550, 1083, 1084, 1085, 1086, 1087, 562, 563, 564, 1325, 1326, 1327, 1328, 1329, 1330, 1331, 1332, 1333, 1334, 1335, 1336, 1337, 1338, 1339, 1384, 1373] (by decide +kernel) (by decide +kernel)) (goodIn_sub (fun _ h => List.mem_append_left _ (List.mem_append_left _ (List.mem_append_left _ (List.mem_append_left _ (List.mem_append_left _ (List.mem_append_left _ (List.mem_append_left _ (List.mem_append_right _ h)))))))) (by decide +kernel))) (goodIn_sub (fun _ h => List.mem_append_left _ (List.mem_append_left _ (List.mem_append_left _ (List.mem_append_left _ (List.mem_append_right _ h))))) (by decide +kernel))) (goodIn_sub (fun _ h => List.mem_append_left _ (List.mem_append_left _ (List.mem_append_left _ (List.mem_append_left _ (List.mem_append_left _ (List.mem_append_left _ (List.mem_append_right _ h))))))) (by decide +kernel))
set_option maxRecDepth 20000 in
theorem gL_law_L_elements : GoodIn wsL_law (va_wsS RL 259 yL_elements wsL_elements) := goodIn_app (goodIn_of _ (by decide +kernel)) ggL_law_L_elements
set_option maxRecDepth 20000 in
theorem ggL_law_X11_elements : GoodIn wsL_law wsX11_elements := goodIn_ca (goodIn_r _ [1091, 132, 974, 975, 5, 976, 189, 190, 191, 192, 193, 194, 195, 1065, 1066, 1067, 1068, 133, 1069, 1070, 1071, 1072, 1340, 1341, 1342, 1343, 1344, 1345, 1346, 1347, 1348, 1349, 1350, 1351, 1352, 1353, 1354, 1355, 1356, 1357, 1358, 1359, 1360, 1361, 1362, 1363, 1364, 1365, 1366, 1367, 1368, 1369] (by decide +kernel) (by decide +kernel)) (goodIn_sub (fun _ h => List.mem_append_left _ (List.mem_append_left _ (List.mem_append_left _ (List.mem_append_left _ (List.mem_append_left _ (List.mem_append_left _ (List.mem_append_left _ (List.mem_append_right _ h)))))))) (by decide +kernel))
set_option maxRecDepth 20000 in
theorem gL_law_X11_elements : GoodIn wsL_law (wsV RL 262 RX11 yX11_elements wsX11_elements) := goodIn_app (goodIn_of _ (by decide +kernel)) ggL_law_X11_elements
set_option maxRecDepth 20000 in
theorem ggL_law_L_reachedCounts : GoodIn wsL_law wsL_reachedCounts := goodIn_ca (goodIn_ca (goodIn_r _ [1094, 167, 1095, 1096, 1097, 2, 1098, 36, 17, 1099, 1080, 1081, 1082, 172, 173, 551, 552, 553, 35, 554, 90, 555, 556, 557, 558, 559, 427, 428, 560, 454, 455, 16, 456, 64, 231, 232, 1083, 1084, 1085, 1086, 1087, 562, 563, 564, 1325, 1326, 1327, 1328, 1329, 1330, 1331, 1332, 1333, 1334, 1335, 1336, 1337, 1338, 1339, 1370, 1371, 1372, 1384] (by decide +kernel) (by decide +kernel)) (goodIn_sub (fun _ h => List.mem_append_left _ (List.mem_append_left _ (List.mem_append_left _ (List.mem_append_left _ (List.mem_append_left _ (List.mem_append_left _ (List.mem_append_left _ (List.mem_append_right _ h)))))))) (by decide +kernel))) (goodIn_sub (fun _ h => List.mem_append_left _ (List.mem_append_left _ (List.mem_append_left _ (List.mem_append_left _ (List.mem_append_left _ (List.mem_append_left _ (List.mem_append_right _ h))))))) (by decide +kernel))
set_option maxRecDepth 20000 in
theorem gL_law_L_reachedCounts : GoodIn wsL_law (va_wsS RL 263 yL_reachedCounts wsL_reachedCounts) := goodIn_app (goodIn_of _ (by decide +kernel)) ggL_law_L_reachedCounts
set_option maxRecDepth 20000 in
theorem ggL_law_X11_reachedCounts : GoodIn wsL_law wsX11_reachedCounts := goodIn_ca (goodIn_r _ [1103, 132, 189, 190, 5, 191, 192, 193, 194, 195, 596, 597, 598, 599, 146, 600, 601, 602, 603, 604, 605, 606, 355, 356, 357, 351, 352, 353, 354, 133, 619, 620, 621, 622, 1340, 1341, 1342, 1343, 1344, 1345, 1346, 1347, 1348, 1349, 1350, 1351, 1352, 1353, 1354, 1355, 1356, 1357, 1358, 1359, 1360, 1361, 1362, 1363, 1364, 1365, 1366, 1367, 1368, 1369] (by decide +kernel) (by decide +kernel)) (goodIn_sub (fun _ h => List.mem_append_left _ (List.mem_append_left _ (List.mem_append_left _ (List.mem_append_left _ (List.mem_append_left _ (List.mem_append_left _ (List.mem_append_left _ (List.mem_append_right _ h)))))))) (by decide +kernel))
set_option maxRecDepth 20000 in
theorem gL_law_X11_reachedCounts : GoodIn wsL_law (wsV RL 265 RX11 yX11_reachedCounts wsX11_reachedCounts) := goodIn_app (goodIn_of _ (by decide +kernel)) ggL_law_X11_reachedCounts
set_option maxRecDepth 20000 in
theorem ggL_law_L_firstMissing : GoodIn wsL_law wsL_firstMissing := goodIn_ca (goodIn_ca (goodIn_ca (goodIn_ca (goodIn_r _ [1106, 318, 1107, 1108, 1109, 2, 1110, 952, 953, 954, 326, 327, 955, 956, 957, 1080, 1081, 1082, 172, 173, 1111, 1112, 1113, 1114, 369, 370, 36, 17, 37, 21, 551, 552, 553, 35, 554, 90, 555, 556, 557, 558, 559, 427, 428, 560, 454, 455, 16, 456, 64, 231, 232, 1035, 1036, 1037, 1038, 1039, 1040, 1041, 1042, 1043, 959, 960, 20, 961, 69, 1044, 1045, 1046, 1047, 999, 992, 993, 994, 966, 967, 968, 969, 1048, 1049, 1050, 1051, 1052, 996, 997, 998, 1053, 1054, 1055, 1056, 1004, 1057, 1058, 1059, 1060, 543, 544, 546, 547, 549, 550, 840, 1115, 1116, 1117, 1118, 561, 562, 563, 564, 386, 387, 388, 389, 65, 1325, 1326, 1327, 1328, 1329, 1330, 1331, 1332, 1333, 1334, 1335, 1336, 1337, 1338, 1339, 1384, 1370, 1371, 1372, 1373] (by decide +kernel) (by decide +kernel)) (goodIn_sub (fun _ h => List.mem_append_left _ (List.mem_append_left _ (List.mem_append_left _ (List.mem_append_left _ (List.mem_append_left _ (List.mem_append_left _ (List.mem_append_left _ (List.mem_append_right _ h)))))))) (by decide +kernel))) (goodIn_sub (fun _ h => List.mem_append_left _ (List.mem_append_left _ (List.mem_append_left _ (List.mem_append_left _ (List.mem_append_right _ h))))) (by decide +kernel))) (goodIn_sub (fun _ h => List.mem_append_left _ (List.mem_append_left _ (List.mem_append_left _ (List.mem_append_left _ (List.mem_append_left _ (List.mem_append_left _ (List.mem_append_right _ h))))))) (by decide +kernel))) (goodIn_sub (fun _ h => List.mem_append_left _ (List.mem_append_left _ (List.mem_append_left _ (List.mem_append_right _ h)))) (by decide +kernel))
set_option maxRecDepth 20000 in
theorem gL_law_L_firstMissing : GoodIn wsL_law (va_wsS RL 266 yL_firstMissing wsL_firstMissing) := goodIn_app (goodIn_of _ (by decide +kernel)) ggL_law_L_firstMissing
set_option maxRecDepth 20000 in
theorem ggL_law_X11_firstMissing : GoodIn wsL_law wsX11_firstMissing := goodIn_ca (goodIn_r _ [1122, 1123, 1124, 1125, 5, 1126, 132, 974, 975, 976, 189, 190, 191, 192, 193, 194, 195, 596, 597, 598, 599, 146, 600, 601, 602, 603, 604, 605, 606, 355, 356, 357, 351, 352, 353, 354, 133, 619, 620, 621, 622, 1065, 1066, 1067, 1068, 1069, 1070, 1071, 1072, 1340, 1341, 1342, 1343, 1344, 1345, 1346, 1347, 1348, 1349, 1350, 1351, 1352, 1353, 1354, 1355, 1356, 1357, 1358, 1359, 1360, 1361, 1362, 1363, 1364, 1365, 1366, 1367, 1368, 1369] (by decide +kernel) (by decide +kernel)) (goodIn_sub (fun _ h => List.mem_append_left _ (List.mem_append_left _ (List.mem_append_left _ (List.mem_append_left _ (List.mem_append_left _ (List.mem_append_left _ (List.mem_append_left _ (List.mem_append_right _ h)))))))) (by decide +kernel))
set_option maxRecDepth 20000 in
theorem gL_law_X11_firstMissing : GoodIn wsL_law (wsV RL 268 RX11 yX11_firstMissing wsX11_firstMissing) := goodIn_app (goodIn_of _ (by decide +kernel)) ggL_law_X11_firstMissing
set_option maxRecDepth 20000 in
theorem ggL_law_L_firstExtra : GoodIn wsL_law wsL_firstExtra := goodIn_ca (goodIn_ca (goodIn_ca (goodIn_ca (goodIn_r _ [1129, 318, 1130, 1131, 1132, 2, 1133, 952, 953, 954, 326, 327, 955, 956, 957, 1080, 1081, 1082, 172, 173, 1111, 1112, 1113, 1114, 369, 370, 36, 17, 37, 21, 551, 552, 553, 35, 554, 90, 555, 556, 557, 558, 559, 427, 428, 560, 454, 455, 16, 456, 64, 231, 232, 1035, 1036, 1037, 1038, 1039, 1040, 1041, 1042, 1043, 959, 960, 20, 961, 69, 1044, 1045, 1046, 1047, 999, 992, 993, 994, 966, 967, 968, 969, 1048, 1049, 1050, 1051, 1052, 996, 997, 998, 1053, 1054, 1055, 1056, 1004, 1057, 1058, 1059, 1060, 543, 544, 546, 547, 549, 550, 840, 1115, 1116, 1117, 1118, 561, 562, 563, 564, 386, 387, 388, 389, 65, 1325, 1326, 1327, 1328, 1329, 1330, 1331, 1332, 1333, 1334, 1335, 1336, 1337, 1338, 1339, 1384, 1370, 1371, 1372, 1373] (by decide +kernel) (by decide +kernel)) (goodIn_sub (fun _ h => List.mem_append_left _ (List.mem_append_left _ (List.mem_append_left _ (List.mem_append_left _ (List.mem_append_left _ (List.mem_append_left _ (List.mem_append_left _ (List.mem_append_right _ h)))))))) (by decide +kernel))) (goodIn_sub (fun _ h => List.mem_append_left _ (List.mem_append_left _ (List.mem_append_left _ (List.mem_append_left _ (List.mem_append_right _ h))))) (by decide +kernel))) (goodIn_sub (fun _ h => List.mem_append_left _ (List.mem_append_left _ (List.mem_append_left _ (List.mem_append_left _ (List.mem_append_left _ (List.mem_append_left _ (List.mem_append_right _ h))))))) (by decide +kernel))) (goodIn_sub (fun _ h => List.mem_append_left _ (List.mem_append_left _ (List.mem_append_left _ (List.mem_append_right _ h)))) (by decide +kernel))
set_option maxRecDepth 20000 in
theorem gL_law_L_firstExtra : GoodIn wsL_law (va_wsS RL 269 yL_firstExtra wsL_firstExtra) := goodIn_app (goodIn_of _ (by decide +kernel)) ggL_law_L_firstExtra
set_option maxRecDepth 20000 in
theorem ggL_law_X11_firstExtra : GoodIn wsL_law wsX11_firstExtra := goodIn_ca (goodIn_r _ [1137, 1123, 1124, 1125, 5, 1126, 132, 974, 975, 976, 189, 190, 191, 192, 193, 194, 195, 596, 597, 598, 599, 146, 600, 601, 602, 603, 604, 605, 606, 355, 356, 357, 351, 352, 353, 354, 133, 619, 620, 621, 622, 1065, 1066, 1067, 1068, 1069, 1070, 1071, 1072, 1340, 1341, 1342, 1343, 1344, 1345, 1346, 1347, 1348, 1349, 1350, 1351, 1352, 1353, 1354, 1355, 1356, 1357, 1358, 1359, 1360, 1361, 1362, 1363, 1364, 1365, 1366, 1367, 1368, 1369] (by decide +kernel) (by decide +kernel)) (goodIn_sub (fun _ h => List.mem_append_left _ (List.mem_append_left _ (List.mem_append_left _ (List.mem_append_left _ (List.mem_append_left _ (List.mem_append_left _ (List.mem_append_left _ (List.mem_append_right _ h)))))))) (by decide +kernel))
set_option maxRecDepth 20000 in
theorem gL_law_X11_firstExtra : GoodIn wsL_law (wsV RL 271 RX11 yX11_firstExtra wsX11_firstExtra) := goodIn_app (goodIn_of _ (by decide +kernel)) ggL_law_X11_firstExtra
set_option maxRecDepth 20000 in
theorem ggL_law_L_hasCyclePeriods : GoodIn wsL_law wsL_hasCyclePeriods := goodIn_ca (goodIn_ca (goodIn_r _ [1140, 318, 1141, 1142, 1143, 2, 1144, 46, 17, 42, 21, 987, 988, 989, 990, 326, 327, 991, 992, 993, 20, 994, 966, 959, 960, 961, 69, 956, 957, 909, 910, 911, 45, 912, 99, 913, 855, 856, 40, 857, 95, 914, 450, 451, 16, 452, 65, 453, 454, 455, 456, 64, 231, 232, 457, 458, 459, 460, 63, 915, 916, 917, 918, 919, 334, 335, 336, 229, 230, 540, 541, 920, 863, 864, 865, 94, 866, 867, 868, 869, 995, 996, 997, 998, 999, 967, 968, 969, 1145, 1054, 1055, 1056, 1004, 1146, 1325, 1326, 1327, 1328, 1329, 1330, 1331, 1332, 1333, 1334, 1335, 1336, 1337, 1338, 1339, 1373, 1387, 1385, 1386, 1370, 1371, 1372] (by decide +kernel) (by decide +kernel)) (goodIn_sub (fun _ h => List.mem_append_left _ (List.mem_append_left _ (List.mem_append_left _ (List.mem_append_left _ (List.mem_append_left _ (List.mem_append_left _ (List.mem_append_left _ (List.mem_append_right _ h)))))))) (by decide +kernel))) (goodIn_sub (fun _ h => List.mem_append_left _ (List.mem_append_left _ (List.mem_append_left _ (List.mem_append_left _ (List.mem_append_right _ h))))) (by decide +kernel))
set_option maxRecDepth 20000 in
theorem gL_law_L_hasCyclePeriods : GoodIn wsL_law (va_wsS RL 272 yL_hasCyclePeriods wsL_hasCyclePeriods) := goodIn_app (goodIn_of _ (by decide +kernel)) ggL_law_L_hasCyclePeriods
set_option maxRecDepth 20000 in
theorem ggL_law_X11_hasCyclePeriods : GoodIn wsL_law wsX11_hasCyclePeriods := goodIn_ca (goodIn_r _ [1150, 132, 133, 160, 1009, 1010, 1011, 5, 1012, 974, 975, 976, 189, 190, 191, 192, 193, 194, 195, 925, 926, 927, 928, 161, 929, 462, 463, 464, 465, 466, 467, 468, 355, 356, 357, 351, 352, 353, 354, 930, 931, 932, 933, 1340, 1341, 1342, 1343, 1344, 1345, 1346, 1347, 1348, 1349, 1350, 1351, 1352, 1353, 1354, 1355, 1356, 1357, 1358, 1359, 1360, 1361, 1362, 1363, 1364, 1365, 1366, 1367, 1368, 1369] (by decide +kernel) (by decide +kernel)) (goodIn_sub (fun _ h => List.mem_append_left _ (List.mem_append_left _ (List.mem_append_left _ (List.mem_append_left _ (List.mem_append_left _ (List.mem_append_left _ (List.mem_append_left _ (List.mem_append_right _ h)))))))) (by decide +kernel))
set_option maxRecDepth 20000 in
theorem gL_law_X11_hasCyclePeriods : GoodIn wsL_law (wsV RL 274 RX11 yX11_hasCyclePeriods wsX11_hasCyclePeriods) := goodIn_app (goodIn_of _ (by decide +kernel)) ggL_law_X11_hasCyclePeriods
set_option maxRecDepth 20000 in
theorem ggL_law_L_acceptedWords : GoodIn wsL_law wsL_acceptedWords := goodIn_ca (goodIn_ca (goodIn_ca (goodIn_ca (goodIn_r _ [1153, 167, 1154, 1155, 1156, 2, 1157, 518, 519, 520, 172, 173, 1158, 1159, 1160, 521, 522, 523, 524, 525, 526, 527, 528, 529, 530, 17, 437, 438, 439, 16, 440, 63, 1161, 1162, 1163, 1164, 50, 36, 54, 1165, 1166, 1167, 49, 1168, 108, 109, 638, 272, 273, 274, 639, 640, 641, 664, 454, 455, 456, 64, 231, 232, 643, 387, 388, 389, 65, 551, 552, 553, 35, 554, 90, 555, 556, 557, 558, 559, 427, 428, 560, 1169, 1170, 1171, 1172, 840, 561, 562, 563, 564, 386, 1173, 1174, 1175, 1176, 1177, 1178, 53, 1179, 569, 570, 571, 572, 113, 114, 115, 116, 117, 1180, 1181, 1182, 1183, 578, 579, 580, 581, 573, 574, 575, 576, 577, 1184, 583, 584, 585, 586, 1325, 1326, 1327, 1328, 1329, 1330, 1331, 1332, 1333, 1334, 1335, 1336, 1337, 1338, 1339, 1370, 1371, 1372, 1388, 1389, 1390, 1391, 1392, 1393, 1394, 1384, 1395, 1396, 1397, 1398, 1399] (by decide +kernel) (by decide +kernel)) (goodIn_sub (fun _ h => List.mem_append_left _ (List.mem_append_left _ (List.mem_append_left _ (List.mem_append_left _ (List.mem_append_left _ (List.mem_append_left _ (List.mem_append_left _ (List.mem_append_right _ h)))))))) (by decide +kernel))) (goodIn_sub (fun _ h => List.mem_append_left _ (List.mem_append_left _ (List.mem_append_left _ (List.mem_append_left _ (List.mem_append_left _ (List.mem_append_left _ (List.mem_append_right _ h))))))) (by decide +kernel))) (goodIn_sub (fun _ h => List.mem_append_left _ (List.mem_append_left _ (List.mem_append_right _ h))) (by decide +kernel))) (goodIn_sub (fun _ h => List.mem_append_left _ (List.mem_append_right _ h)) (by decide +kernel))
set_option maxRecDepth 20000 in
theorem gL_law_L_acceptedWords : GoodIn wsL_law (va_wsS RL 275 yL_acceptedWords wsL_acceptedWords) := goodIn_app (goodIn_of _ (by decide +kernel)) ggL_law_L_acceptedWords
set_option maxRecDepth 20000 in
theorem ggL_law_X11_acceptedWords : GoodIn wsL_law wsX11_acceptedWords := goodIn_ca (goodIn_ca (goodIn_r _ [1188, 132, 189, 190, 5, 191, 192, 193, 194, 195, 591, 592, 593, 594, 595, 442, 443, 444, 133, 308, 309, 310, 1189, 1190, 1191, 1192, 144, 596, 597, 598, 599, 146, 600, 601, 602, 603, 604, 605, 606, 355, 356, 357, 351, 352, 353, 354, 1193, 1194, 1195, 1196, 1197, 1198, 1199, 607, 608, 609, 610, 150, 151, 611, 612, 613, 614, 615, 616, 617, 618, 147, 619, 620, 621, 622, 623, 624, 625, 626, 149, 148, 627, 628, 629, 1340, 1341, 1342, 1343, 1344, 1345, 1346, 1347, 1348, 1349, 1350, 1351, 1352, 1353, 1354, 1355, 1356, 1357, 1358, 1359, 1360, 1361, 1362, 1363, 1364, 1365, 1366, 1367, 1368, 1369] (by decide +kernel) (by decide +kernel)) (goodIn_sub (fun _ h => List.mem_append_left _ (List.mem_append_left _ (List.mem_append_left _ (List.mem_append_left _ (List.mem_append_left _ (List.mem_append_left _ (List.mem_append_left _ (List.mem_append_right _ h)))))))) (by decide +kernel))) (goodIn_sub (fun _ h => List.mem_append_left _ (List.mem_append_right _ h)) (by decide +kernel))
set_option maxRecDepth 20000 in
theorem gL_law_X11_acceptedWords : GoodIn wsL_law (wsV RL 277 RX11 yX11_acceptedWords wsX11_acceptedWords) := goodIn_app (goodIn_of _ (by decide +kernel)) ggL_law_X11_acceptedWords
set_option maxRecDepth 20000 in
theorem ggL_law_L_isClosed : GoodIn wsL_law wsL_isClosed := goodIn_ca (goodIn_ca (goodIn_ca (goodIn_r _ [1202, 167, 1203, 1204, 1205, 2, 1206, 1158, 1159, 1160, 172, 173, 1207, 1208, 1209, 1210, 36, 17, 50, 551, 552, 553, 35, 554, 90, 555, 556, 557, 558, 559, 427, 428, 560, 454, 455, 16, 456, 64, 231, 232, 1169, 1170, 1171, 1172, 840, 561, 562, 563, 564, 386, 387, 388, 389, 65, 1173, 1174, 1175, 1165, 1166, 1167, 49, 1168, 108, 109, 638, 272, 273, 274, 639, 640, 641, 664, 643, 1325, 1326, 1327, 1328, 1329, 1330, 1331, 1332, 1333, 1334, 1335, 1336, 1337, 1338, 1339, 1384, 1370, 1371, 1372, 1388, 1389, 1390, 1391, 1392, 1393, 1394] (by decide +kernel) (by decide +kernel)) (goodIn_sub (fun _ h => List.mem_append_left _ (List.mem_append_left _ (List.mem_append_left _ (List.mem_append_left _ (List.mem_append_left _ (List.mem_append_left _ (List.mem_append_left _ (List.mem_append_right _ h)))))))) (by decide +kernel))) (goodIn_sub (fun _ h => List.mem_append_left _ (List.mem_append_left _ (List.mem_append_left _ (List.mem_append_left _ (List.mem_append_left _ (List.mem_append_left _ (List.mem_append_right _ h))))))) (by decide +kernel))) (goodIn_sub (fun _ h => List.mem_append_left _ (List.mem_append_right _ h)) (by decide +kernel))
set_option maxRecDepth 20000 in
theorem gL_law_L_isClosed : GoodIn wsL_law (va_wsS RL 278 yL_isClosed wsL_isClosed) := goodIn_app (goodIn_of _ (by decide +kernel)) ggL_law_L_isClosed
set_option maxRecDepth 20000 in
theorem ggL_law_X11_isClosed : GoodIn wsL_law wsX11_isClosed := goodIn_ca (goodIn_r _ [1214, 132, 189, 190, 5, 191, 1215, 1216, 1217, 1218, 144, 162, 596, 597, 598, 599, 146, 600, 601, 602, 603, 604, 605, 606, 355, 356, 357, 351, 352, 353, 354, 133, 1193, 1194, 1195, 1196, 1197, 1198, 1199, 615, 616, 617, 618, 147, 619, 620, 621, 622, 611, 612, 613, 614, 192, 193, 194, 195, 1340, 1341, 1342, 1343, 1344, 1345, 1346, 1347, 1348, 1349, 1350, 1351, 1352, 1353, 1354, 1355, 1356, 1357, 1358, 1359, 1360, 1361, 1362, 1363, 1364, 1365, 1366, 1367, 1368, 1369] (by decide +kernel) (by decide +kernel)) (goodIn_sub (fun _ h => List.mem_append_left _ (List.mem_append_left _ (List.mem_append_left _ (List.mem_append_left _ (List.mem_append_left _ (List.mem_append_left _ (List.mem_append_left _ (List.mem_append_right _ h)))))))) (by decide +kernel))
set_option maxRecDepth 20000 in
theorem gL_law_X11_isClosed : GoodIn wsL_law (wsV RL 280 RX11 yX11_isClosed wsX11_isClosed) := goodIn_app (goodIn_of _ (by decide +kernel)) ggL_law_X11_isClosed
set_option maxRecDepth 20000 in
theorem ggL_law_L_takeOpenWord : GoodIn wsL_law wsL_takeOpenWord := goodIn_ca (goodIn_ca (goodIn_ca (goodIn_ca (goodIn_r _ [1221, 167, 1222, 1223, 1224, 2, 1225, 369, 370, 50, 17, 36, 32, 1158, 1159, 1160, 172, 173, 1207, 1208, 1209, 1210, 551, 552, 553, 35, 554, 90, 555, 556, 557, 558, 559, 427, 428, 560, 454, 455, 16, 456, 64, 231, 232, 1169, 1170, 1171, 1172, 840, 561, 562, 563, 564, 386, 387, 388, 389, 65, 1173, 1174, 1175, 1165, 1166, 1167, 49, 1168, 108, 109, 638, 272, 273, 274, 639, 640, 641, 664, 643, 1226, 1227, 1228, 1229, 105, 1230, 1231, 1232, 1233, 103, 1234, 540, 541, 686, 687, 688, 689, 690, 31, 691, 59, 1325, 1326, 1327, 1328, 1329, 1330, 1331, 1332, 1333, 1334, 1335, 1336, 1337, 1338, 1339, 1384, 1370, 1371, 1372, 1388, 1389, 1390, 1391, 1392, 1393, 1394] (by decide +kernel) (by decide +kernel)) (goodIn_sub (fun _ h => List.mem_append_left _ (List.mem_append_left _ (List.mem_append_left _ (List.mem_append_left _ (List.mem_append_left _ (List.mem_append_left _ (List.mem_append_left _ (List.mem_append_right _ h)))))))) (by decide +kernel))) (goodIn_sub (fun _ h => List.mem_append_left _ (List.mem_append_left _ (List.mem_append_left _ (List.mem_append_right _ h)))) (by decide +kernel))) (goodIn_sub (fun _ h => List.mem_append_left _ (List.mem_append_left _ (List.mem_append_left _ (List.mem_append_left _ (List.mem_append_left _ (List.mem_append_left _ (List.mem_append_right _ h))))))) (by decide +kernel))) (goodIn_sub (fun _ h => List.mem_append_left _ (List.mem_append_right _ h)) (by decide +kernel))
set_option maxRecDepth 20000 in
theorem gL_law_L_takeOpenWord : GoodIn wsL_law (va_wsS RL 281 yL_takeOpenWord wsL_takeOpenWord) := goodIn_app (goodIn_of _ (by decide +kernel)) ggL_law_L_takeOpenWord
set_option maxRecDepth 20000 in
theorem ggL_law_X11_takeOpenWord : GoodIn wsL_law wsX11_takeOpenWord := goodIn_ca (goodIn_r _ [1238, 132, 162, 145, 143, 144, 189, 190, 5, 191, 192, 193, 194, 195, 1215, 1216, 1217, 1218, 596, 597, 598, 599, 146, 600, 601, 602, 603, 604, 605, 606, 355, 356, 357, 351, 352, 353, 354, 133, 1193, 1194, 1195, 1196, 1197, 1198, 1199, 615, 616, 617, 618, 147, 619, 620, 621, 622, 611, 612, 613, 614, 1340, 1341, 1342, 1343, 1344, 1345, 1346, 1347, 1348, 1349, 1350, 1351, 1352, 1353, 1354, 1355, 1356, 1357, 1358, 1359, 1360, 1361, 1362, 1363, 1364, 1365, 1366, 1367, 1368, 1369] (by decide +kernel) (by decide +kernel)) (goodIn_sub (fun _ h => List.mem_append_left _ (List.mem_append_left _ (List.mem_append_left _ (List.mem_append_left _ (List.mem_append_left _ (List.mem_append_left _ (List.mem_append_left _ (List.mem_append_right _ h)))))))) (by decide +kernel))
set_option maxRecDepth 20000 in
theorem gL_law_X11_takeOpenWord : GoodIn wsL_law (wsV RL 283 RX11 yX11_takeOpenWord wsX11_takeOpenWord) := goodIn_app (goodIn_of _ (by decide +kernel)) ggL_law_X11_takeOpenWord
set_option maxRecDepth 20000 in
theorem ggL_law_L_density : GoodIn wsL_law wsL_density := goodIn_ca (goodIn_ca (goodIn_ca (goodIn_ca (goodIn_r _ [1241, 167, 1242, 1243, 1244, 2, 1245, 1246, 518, 519, 520, 172, 173, 1158, 1159, 1160, 521, 522, 523, 524, 525, 526, 527, 528, 529, 530, 17, 437, 438, 439, 16, 440, 63, 1161, 1162, 1163, 1164, 50, 36, 54, 1165, 1166, 1167, 49, 1168, 108, 109, 638, 272, 273, 274, 639, 640, 641, 664, 454, 455, 456, 64, 231, 232, 643, 387, 388, 389, 65, 551, 552, 553, 35, 554, 90, 555, 556, 557, 558, 559, 427, 428, 560, 1169, 1170, 1171, 1172, 840, 561, 562, 563, 564, 386, 1173, 1174, 1175, 1176, 1177, 1178, 53, 1179, 569, 570, 571, 572, 113, 114, 115, 116, 117, 1180, 1181, 1182, 1183, 578, 579, 580, 581, 573, 574, 575, 576, 577, 1184, 583, 584, 585, 586, 1325, 1326, 1327, 1328, 1329, 1330, 1331, 1332, 1333, 1334, 1335, 1336, 1337, 1338, 1339, 1370, 1371, 1372, 1388, 1389, 1390, 1391, 1392, 1393, 1394, 1384, 1395, 1396, 1397, 1398, 1399] (by decide +kernel) (by decide +kernel)) (goodIn_sub (fun _ h => List.mem_append_left _ (List.mem_append_left _ (List.mem_append_left _ (List.mem_append_left _ (List.mem_append_left _ (List.mem_append_left _ (List.mem_append_left _ (List.mem_append_right _ h)))))))) (by decide +kernel))) (goodIn_sub (fun _ h => List.mem_append_left _ (List.mem_append_left _ (List.mem_append_left _ (List.mem_append_left _ (List.mem_append_left _ (List.mem_append_left _ (List.mem_append_right _ h))))))) (by decide +kernel))) (goodIn_sub (fun _ h => List.mem_append_left _ (List.mem_append_left _ (List.mem_append_right _ h))) (by decide +kernel))) (goodIn_sub (fun _ h => List.mem_append_left _ (List.mem_append_right _ h)) (by decide +kernel))
set_option maxRecDepth 20000 in
theorem gL_law_L_density : GoodIn wsL_law (va_wsS RL 284 yL_density wsL_density) := goodIn_app (goodIn_of _ (by decide +kernel)) ggL_law_L_density
set_option maxRecDepth 20000 in
theorem ggL_law_X11_density : GoodIn wsL_law wsX11_density := goodIn_ca (goodIn_ca (goodIn_r _ [1250, 132, 189, 190, 5, 191, 192, 193, 194, 195, 591, 592, 593, 594, 595, 442, 443, 444, 133, 308, 309, 310, 1189, 1190, 1191, 1192, 144, 596, 597, 598, 599, 146, 600, 601, 602, 603, 604, 605, 606, 355, 356, 357, 351, 352, 353, 354, 1193, 1194, 1195, 1196, 1197, 1198, 1199, 607, 608, 609, 610, 150, 151, 611, 612, 613, 614, 615, 616, 617, 618, 147, 619, 620, 621, 622, 623, 624, 625, 626, 149, 148, 627, 628, 629, 1340, 1341, 1342, 1343, 1344, 1345, 1346, 1347, 1348, 1349, 1350, 1351, 1352, 1353, 1354, 1355, 1356, 1357, 1358, 1359, 1360, 1361, 1362, 1363, 1364, 1365, 1366, 1367, 1368, 1369] (by decide +kernel) (by decide +kernel)) (goodIn_sub (fun _ h => List.mem_append_left _ (List.mem_append_left _ (List.mem_append_left _ (List.mem_append_left _ (List.mem_append_left _ (List.mem_append_left _ (List.mem_append_left _ (List.mem_append_right _ h)))))))) (by decide +kernel))) (goodIn_sub (fun _ h => List.mem_append_left _ (List.mem_append_right _ h)) (by decide +kernel))
set_option maxRecDepth 20000 in
theorem gL_law_X11_density : GoodIn wsL_law (wsV RL 287 RX11 yX11_density wsX11_density) := goodIn_app (goodIn_of _ (by decide +kernel)) ggL_law_X11_density
set_option maxRecDepth 20000 in
theorem ggL_law_L_averageMinimum : GoodIn wsL_law wsL_averageMinimum := goodIn_ca (goodIn_ca (goodIn_r _ [1253, 1254, 1255, 1256, 1257, 2, 1258, 1259, 1260, 41, 849, 850, 851, 852, 853, 36, 17, 551, 552, 553, 35, 554, 90, 555, 556, 557, 558, 559, 427, 428, 560, 454, 455, 16, 456, 64, 231, 232, 854, 855, 856, 40, 857, 95, 840, 561, 562, 563, 564, 386, 387, 388, 389, 65, 858, 859, 860, 861, 94, 543, 544, 546, 547, 549, 550, 862, 863, 864, 865, 866, 867, 868, 869, 1261, 1262, 1263, 1264, 1325, 1326, 1327, 1328, 1329, 1330, 1331, 1332, 1333, 1334, 1335, 1336, 1337, 1338, 1339, 1385, 1386, 1384, 1370, 1371, 1372] (by decide +kernel) (by decide +kernel)) (goodIn_sub (fun _ h => List.mem_append_left _ (List.mem_append_left _ (List.mem_append_left _ (List.mem_append_left _ (List.mem_append_left _ (List.mem_append_left _ (List.mem_append_left _ (List.mem_append_right _ h)))))))) (by decide +kernel))) (goodIn_sub (fun _ h => List.mem_append_right _ h) (by decide +kernel))
set_option maxRecDepth 20000 in
theorem gL_law_L_averageMinimum : GoodIn wsL_law (va_wsS RL 288 yL_averageMinimum wsL_averageMinimum) := goodIn_app (goodIn_of _ (by decide +kernel)) ggL_law_L_averageMinimum
set_option maxRecDepth 20000 in
theorem ggL_law_X11_averageMinimum : GoodIn wsL_law wsX11_averageMinimum := goodIn_ca (goodIn_r _ [1268, 132, 160, 874, 875, 876, 5, 877, 596, 597, 598, 599, 146, 600, 601, 602, 603, 604, 605, 606, 355, 356, 357, 351, 352, 353, 354, 133, 878, 879, 880, 881, 619, 620, 621, 622, 192, 193, 194, 195, 1340, 1341, 1342, 1343, 1344, 1345, 1346, 1347, 1348, 1349, 1350, 1351, 1352, 1353, 1354, 1355, 1356, 1357, 1358, 1359, 1360, 1361, 1362, 1363, 1364, 1365, 1366, 1367, 1368, 1369] (by decide +kernel) (by decide +kernel)) (goodIn_sub (fun _ h => List.mem_append_left _ (List.mem_append_left _ (List.mem_append_left _ (List.mem_append_left _ (List.mem_append_left _ (List.mem_append_left _ (List.mem_append_left _ (List.mem_append_right _ h)))))))) (by decide +kernel))
set_option maxRecDepth 20000 in
theorem gL_law_X11_averageMinimum : GoodIn wsL_law (wsV RL 291 RX11 yX11_averageMinimum wsX11_averageMinimum) := goodIn_app (goodIn_of _ (by decide +kernel)) ggL_law_X11_averageMinimum
set_option maxRecDepth 20000 in
theorem ggL_law_L_undo : GoodIn wsL_law wsL_undo := goodIn_ca (goodIn_ca (goodIn_r _ [1271, 1272, 1273, 1274, 1275, 2, 1276, 174, 175, 25, 1277, 17, 21, 1278, 1279, 1280, 24, 1281, 77, 76, 74, 1282, 1283, 1284, 1285, 1286, 1287, 16, 1288, 63, 271, 272, 273, 274, 65, 1289, 1290, 1291, 20, 1292, 69, 279, 284, 285, 286, 287, 59, 288, 289, 290, 291, 64, 1325, 1326, 1327, 1328, 1329, 1330, 1331, 1332, 1333, 1334, 1335, 1336, 1337, 1338, 1339, 1374, 1375, 1376, 1377, 1378, 1370, 1371, 1372, 1373] (by decide +kernel) (by decide +kernel)) (goodIn_sub (fun _ h => List.mem_append_left _ (List.mem_append_left _ (List.mem_append_left _ (List.mem_append_left _ (List.mem_append_left _ (List.mem_append_left _ (List.mem_append_left _ (List.mem_append_right _ h)))))))) (by decide +kernel))) (goodIn_sub (fun _ h => List.mem_append_left _ (List.mem_append_left _ (List.mem_append_left _ (List.mem_append_left _ (List.mem_append_left _ (List.mem_append_right _ h)))))) (by decide +kernel))
set_option maxRecDepth 20000 in
theorem gL_law_L_undo : GoodIn wsL_law (va_wsS RL 292 yL_undo wsL_undo) := goodIn_app (goodIn_of _ (by decide +kernel)) ggL_law_L_undo
set_option maxRecDepth 20000 in
theorem ggL_law_X11_undo : GoodIn wsL_law wsX11_undo := goodIn_ca (goodIn_r _ [1296, 132, 136, 133, 135, 192, 193, 194, 5, 195, 1340, 1341, 1342, 1343, 1344, 1345, 1346, 1347, 1348, 1349, 1350, 1351, 1352, 1353, 1354, 1355, 1356, 1357, 1358, 1359, 1360, 1361, 1362, 1363, 1364, 1365, 1366, 1367, 1368, 1369] (by decide +kernel) (by decide +kernel)) (goodIn_sub (fun _ h => List.mem_append_left _ (List.mem_append_left _ (List.mem_append_left _ (List.mem_append_left _ (List.mem_append_left _ (List.mem_append_left _ (List.mem_append_left _ (List.mem_append_right _ h)))))))) (by decide +kernel))
set_option maxRecDepth 20000 in
theorem gL_law_X11_undo : GoodIn wsL_law (wsV RL 294 RX11 yX11_undo wsX11_undo) := goodIn_app (goodIn_of _ (by decide +kernel)) ggL_law_X11_undo
set_option maxRecDepth 20000 in
theorem ggL_law_X10_save : GoodIn wsL_law wsX10_save := goodIn_ca (goodIn_r _ [1300, 25, 17, 21, 1301, 1302, 1303, 24, 1304, 75, 78, 264, 265, 266, 267, 268, 269, 16, 270, 63, 271, 272, 273, 274, 65, 275, 276, 277, 20, 278, 69, 279, 1325, 1326, 1327, 1328, 1329, 1330, 1331, 1332, 1333, 1334, 1335, 1336, 1337, 1338, 1339, 1374, 1375, 1376, 1377, 1378, 1370, 1371, 1372, 1373] (by decide +kernel) (by decide +kernel)) (goodIn_sub (fun _ h => List.mem_append_left _ (List.mem_append_left _ (List.mem_append_left _ (List.mem_append_left _ (List.mem_append_left _ (List.mem_append_left _ (List.mem_append_left _ (List.mem_append_right _ h)))))))) (by decide +kernel))
set_option maxRecDepth 20000 in
theorem gL_law_X10_save : GoodIn wsL_law (wsV RL 295 RX10 yX10_save wsX10_save) := goodIn_app (goodIn_of _ (by decide +kernel)) ggL_law_X10_save
set_option maxRecDepth 20000 in
theorem ggL_law_X11_save : GoodIn wsL_law wsX11_save := goodIn_ca (goodIn_r _ [1308, 137, 134, 133, 1340, 1341, 1342, 1343, 1344, 1345, 1346, 1347, 1348, 1349, 1350, 1351, 1352, 1353, 1354, 1355, 1356, 1357, 1358, 1359, 1360, 1361, 1362, 1363, 1364, 1365, 1366, 1367, 1368, 1369] (by decide +kernel) (by decide +kernel)) (goodIn_sub (fun _ h => List.mem_append_left _ (List.mem_append_left _ (List.mem_append_left _ (List.mem_append_left _ (List.mem_append_left _ (List.mem_append_left _ (List.mem_append_left _ (List.mem_append_right _ h)))))))) (by decide +kernel))
set_option maxRecDepth 20000 in
theorem gL_law_X11_save : GoodIn wsL_law (wsV RL 298 RX11 yX11_save wsX11_save) := goodIn_app (goodIn_of _ (by decide +kernel)) ggL_law_X11_save
set_option maxRecDepth 20000 in
theorem ggL_law_L_restore : GoodIn wsL_law wsL_restore := goodIn_ca (goodIn_ca (goodIn_r _ [1311, 1272, 1312, 1313, 1314, 2, 1315, 174, 175, 25, 1316, 17, 21, 256, 257, 258, 259, 260, 261, 262, 24, 263, 74, 76, 77, 264, 265, 266, 267, 268, 269, 16, 270, 63, 271, 272, 273, 274, 65, 275, 276, 277, 20, 278, 69, 279, 1317, 1318, 1319, 1320, 78, 75, 1282, 1283, 1284, 1285, 1286, 1287, 1288, 1289, 1290, 1291, 1292, 284, 285, 286, 287, 59, 288, 289, 290, 291, 64, 1325, 1326, 1327, 1328, 1329, 1330, 1331, 1332, 1333, 1334, 1335, 1336, 1337, 1338, 1339, 1374, 1375, 1376, 1377, 1378, 1370, 1371, 1372, 1373] (by decide +kernel) (by decide +kernel)) (goodIn_sub (fun _ h => List.mem_append_left _ (List.mem_append_left _ (List.mem_append_left _ (List.mem_append_left _ (List.mem_append_left _ (List.mem_append_right _ h)))))) (by decide +kernel))) (goodIn_sub (fun _ h => List.mem_append_left _ (List.mem_append_left _ (List.mem_append_left _ (List.mem_append_left _ (List.mem_append_left _ (List.mem_append_left _ (List.mem_append_left _ (List.mem_append_right _ h)))))))) (by decide +kernel))
set_option maxRecDepth 20000 in
theorem gL_law_L_restore : GoodIn wsL_law (va_wsS RL 299 yL_restore wsL_restore) := goodIn_app (goodIn_of _ (by decide +kernel)) ggL_law_L_restore
set_option maxRecDepth 20000 in
theorem ggL_law_X11_restore : GoodIn wsL_law wsX11_restore := goodIn_ca (goodIn_r _ [1324, 132, 137, 133, 134, 311, 312, 313, 5, 314, 136, 135, 1340, 1341, 1342, 1343, 1344, 1345, 1346, 1347, 1348, 1349, 1350, 1351, 1352, 1353, 1354, 1355, 1356, 1357, 1358, 1359, 1360, 1361, 1362, 1363, 1364, 1365, 1366, 1367, 1368, 1369] (by decide +kernel) (by decide +kernel)) (goodIn_sub (fun _ h => List.mem_append_left _ (List.mem_append_left _ (List.mem_append_left _ (List.mem_append_left _ (List.mem_append_left _ (List.mem_append_left _ (List.mem_append_left _ (List.mem_append_right _ h)))))))) (by decide +kernel))
set_option maxRecDepth 20000 in
theorem gL_law_X11_restore : GoodIn wsL_law (wsV RL 302 RX11 yX11_restore wsX11_restore) := goodIn_app (goodIn_of _ (by decide +kernel)) ggL_law_X11_restore
theorem dL_law_0 : decode cL_law 0 = .ok (.new 8, 3) := by decide +kernel
theorem dL_law_3 : decode cL_law 3 = .ok (.dup, 1) := by decide +kernel
theorem dL_law_4 : decode cL_law 4 = .ok (.invokespecial 134, 3) := by decide +kernel
theorem dL_law_7 : decode cL_law 7 = .ok (.astore_n 1, 1) := by decide +kernel
theorem dL_law_8 : decode cL_law 8 = .ok (.new 135, 3) := by decide +kernel
theorem dL_law_11 : decode cL_law 11 = .ok (.dup, 1) := by decide +kernel
theorem dL_law_12 : decode cL_law 12 = .ok (.invokespecial 137, 3) := by decide +kernel
theorem dL_law_15 : decode cL_law 15 = .ok (.astore_n 2, 1) := by decide +kernel
theorem dL_law_16 : decode cL_law 16 = .ok (.iconst 1, 1) := by decide +kernel
theorem dL_law_17 : decode cL_law 17 = .ok (.newarray .long, 2) := by decide +kernel
theorem dL_law_19 : decode cL_law 19 = .ok (.astore_n 3, 1) := by decide +kernel
theorem dL_law_20 : decode cL_law 20 = .ok (.iconst 1, 1) := by decide +kernel
theorem dL_law_21 : decode cL_law 21 = .ok (.newarray .double, 2) := by decide +kernel
theorem dL_law_23 : decode cL_law 23 = .ok (.astore 4, 2) := by decide +kernel
theorem dL_law_25 : decode cL_law 25 = .ok (.iconst 0, 1) := by decide +kernel
theorem dL_law_26 : decode cL_law 26 = .ok (.istore 5, 2) := by decide +kernel
theorem dL_law_28 : decode cL_law 28 = .ok (.iload 5, 2) := by decide +kernel
theorem dL_law_30 : decode cL_law 30 = .ok (.aload_n 0, 1) := by decide +kernel
theorem dL_law_31 : decode cL_law 31 = .ok (.arraylength, 1) := by decide +kernel
theorem dL_law_32 : decode cL_law 32 = .ok (.bipush 6, 2) := by decide +kernel
theorem dL_law_34 : decode cL_law 34 = .ok (.isub, 1) := by decide +kernel
theorem dL_law_35 : decode cL_law 35 = .ok (.if_icmp .gt 2472, 3) := by decide +kernel
theorem dL_law_38 : decode cL_law 38 = .ok (.aload_n 0, 1) := by decide +kernel
theorem dL_law_39 : decode cL_law 39 = .ok (.iload 5, 2) := by decide +kernel
theorem dL_law_41 : decode cL_law 41 = .ok (.iaload, 1) := by decide +kernel
theorem dL_law_42 : decode cL_law 42 = .ok (.bipush 63, 2) := by decide +kernel
theorem dL_law_44 : decode cL_law 44 = .ok (.iand, 1) := by decide +kernel
theorem dL_law_45 : decode cL_law 45 = .ok (.tableswitch 2456 0 44 #[195, 251, 264, 308, 395, 455, 546, 557, 570, 626, 639, 652, 708, 721, 734, 790, 853, 867, 881, 937, 981, 1025, 1069, 1125, 1212, 1225, 1281, 1294, 1350, 1442, 1546, 1602, 1701, 1769, 1825, 1893, 1961, 2036, 2103, 2166, 2222, 2311, 2377, 2421, 2432], 195) := by decide +kernel
theorem dL_law_240 : decode cL_law 240 = .ok (.aload_n 1, 1) := by decide +kernel
theorem dL_law_241 : decode cL_law 241 = .ok (.aload_n 0, 1) := by decide +kernel
theorem dL_law_242 : decode cL_law 242 = .ok (.iload 5, 2) := by decide +kernel
theorem dL_law_244 : decode cL_law 244 = .ok (.iconst 1, 1) := by decide +kernel
theorem dL_law_245 : decode cL_law 245 = .ok (.iadd, 1) := by decide +kernel
theorem dL_law_246 : decode cL_law 246 = .ok (.iaload, 1) := by decide +kernel
theorem dL_law_247 : decode cL_law 247 = .ok (.aload_n 3, 1) := by decide +kernel
theorem dL_law_248 : decode cL_law 248 = .ok (.invokestatic 138, 3) := by decide +kernel
theorem dL_law_251 : decode cL_law 251 = .ok (.istore 6, 2) := by decide +kernel
theorem dL_law_253 : decode cL_law 253 = .ok (.aload_n 2, 1) := by decide +kernel
theorem dL_law_254 : decode cL_law 254 = .ok (.aload_n 0, 1) := by decide +kernel
theorem dL_law_255 : decode cL_law 255 = .ok (.iload 5, 2) := by decide +kernel
theorem dL_law_257 : decode cL_law 257 = .ok (.iconst 1, 1) := by decide +kernel
theorem dL_law_258 : decode cL_law 258 = .ok (.iadd, 1) := by decide +kernel
theorem dL_law_259 : decode cL_law 259 = .ok (.iaload, 1) := by decide +kernel
theorem dL_law_260 : decode cL_law 260 = .ok (.invokevirtual 143, 3) := by decide +kernel
theorem dL_law_263 : decode cL_law 263 = .ok (.istore 7, 2) := by decide +kernel
theorem dL_law_265 : decode cL_law 265 = .ok (.aload_n 2, 1) := by decide +kernel
theorem dL_law_266 : decode cL_law 266 = .ok (.invokevirtual 144, 3) := by decide +kernel
theorem dL_law_269 : decode cL_law 269 = .ok (.iload 6, 2) := by decide +kernel
theorem dL_law_271 : decode cL_law 271 = .ok (.if_icmp .eq 5, 3) := by decide +kernel
theorem dL_law_274 : decode cL_law 274 = .ok (.iconst 0, 1) := by decide +kernel
theorem dL_law_275 : decode cL_law 275 = .ok (.ireturn, 1) := by decide +kernel
theorem dL_law_276 : decode cL_law 276 = .ok (.iload 6, 2) := by decide +kernel
theorem dL_law_278 : decode cL_law 278 = .ok (.ifCond .ne 15, 3) := by decide +kernel
theorem dL_law_281 : decode cL_law 281 = .ok (.aload_n 3, 1) := by decide +kernel
theorem dL_law_282 : decode cL_law 282 = .ok (.iconst 0, 1) := by decide +kernel
theorem dL_law_283 : decode cL_law 283 = .ok (.laload, 1) := by decide +kernel
theorem dL_law_284 : decode cL_law 284 = .ok (.iload 7, 2) := by decide +kernel
theorem dL_law_286 : decode cL_law 286 = .ok (.i2l, 1) := by decide +kernel
theorem dL_law_287 : decode cL_law 287 = .ok (.lcmp, 1) := by decide +kernel
theorem dL_law_288 : decode cL_law 288 = .ok (.ifCond .eq 5, 3) := by decide +kernel
theorem dL_law_291 : decode cL_law 291 = .ok (.iconst 0, 1) := by decide +kernel
theorem dL_law_292 : decode cL_law 292 = .ok (.ireturn, 1) := by decide +kernel
theorem dL_law_293 : decode cL_law 293 = .ok (.goto 2208, 3) := by decide +kernel
theorem dL_law_296 : decode cL_law 296 = .ok (.aload_n 1, 1) := by decide +kernel
theorem dL_law_297 : decode cL_law 297 = .ok (.invokevirtual 147, 3) := by decide +kernel
theorem dL_law_300 : decode cL_law 300 = .ok (.aload_n 2, 1) := by decide +kernel
theorem dL_law_301 : decode cL_law 301 = .ok (.invokevirtual 150, 3) := by decide +kernel
theorem dL_law_304 : decode cL_law 304 = .ok (.if_icmp .eq 2197, 3) := by decide +kernel
theorem dL_law_307 : decode cL_law 307 = .ok (.iconst 0, 1) := by decide +kernel
theorem dL_law_308 : decode cL_law 308 = .ok (.ireturn, 1) := by decide +kernel
theorem dL_law_309 : decode cL_law 309 = .ok (.aload_n 1, 1) := by decide +kernel
theorem dL_law_310 : decode cL_law 310 = .ok (.aload_n 3, 1) := by decide +kernel
theorem dL_law_311 : decode cL_law 311 = .ok (.invokestatic 151, 3) := by decide +kernel
theorem dL_law_314 : decode cL_law 314 = .ok (.istore 6, 2) := by decide +kernel
theorem dL_law_316 : decode cL_law 316 = .ok (.aload_n 2, 1) := by decide +kernel
theorem dL_law_317 : decode cL_law 317 = .ok (.invokevirtual 154, 3) := by decide +kernel
theorem dL_law_320 : decode cL_law 320 = .ok (.istore 7, 2) := by decide +kernel
theorem dL_law_322 : decode cL_law 322 = .ok (.aload_n 2, 1) := by decide +kernel
theorem dL_law_323 : decode cL_law 323 = .ok (.invokevirtual 144, 3) := by decide +kernel
theorem dL_law_326 : decode cL_law 326 = .ok (.iload 6, 2) := by decide +kernel
theorem dL_law_328 : decode cL_law 328 = .ok (.if_icmp .eq 5, 3) := by decide +kernel
theorem dL_law_331 : decode cL_law 331 = .ok (.iconst 0, 1) := by decide +kernel
theorem dL_law_332 : decode cL_law 332 = .ok (.ireturn, 1) := by decide +kernel
theorem dL_law_333 : decode cL_law 333 = .ok (.iload 6, 2) := by decide +kernel
theorem dL_law_335 : decode cL_law 335 = .ok (.ifCond .ne 15, 3) := by decide +kernel
theorem dL_law_338 : decode cL_law 338 = .ok (.aload_n 3, 1) := by decide +kernel
theorem dL_law_339 : decode cL_law 339 = .ok (.iconst 0, 1) := by decide +kernel
theorem dL_law_340 : decode cL_law 340 = .ok (.laload, 1) := by decide +kernel
theorem dL_law_341 : decode cL_law 341 = .ok (.iload 7, 2) := by decide +kernel
theorem dL_law_343 : decode cL_law 343 = .ok (.i2l, 1) := by decide +kernel
theorem dL_law_344 : decode cL_law 344 = .ok (.lcmp, 1) := by decide +kernel
theorem dL_law_345 : decode cL_law 345 = .ok (.ifCond .eq 5, 3) := by decide +kernel
theorem dL_law_348 : decode cL_law 348 = .ok (.iconst 0, 1) := by decide +kernel
theorem dL_law_349 : decode cL_law 349 = .ok (.ireturn, 1) := by decide +kernel
theorem dL_law_350 : decode cL_law 350 = .ok (.goto 2151, 3) := by decide +kernel
theorem dL_law_353 : decode cL_law 353 = .ok (.aload_n 1, 1) := by decide +kernel
theorem dL_law_354 : decode cL_law 354 = .ok (.aload_n 0, 1) := by decide +kernel
theorem dL_law_355 : decode cL_law 355 = .ok (.iload 5, 2) := by decide +kernel
theorem dL_law_357 : decode cL_law 357 = .ok (.iconst 1, 1) := by decide +kernel
theorem dL_law_358 : decode cL_law 358 = .ok (.iadd, 1) := by decide +kernel
theorem dL_law_359 : decode cL_law 359 = .ok (.iaload, 1) := by decide +kernel
theorem dL_law_360 : decode cL_law 360 = .ok (.aload_n 0, 1) := by decide +kernel
theorem dL_law_361 : decode cL_law 361 = .ok (.iload 5, 2) := by decide +kernel
theorem dL_law_363 : decode cL_law 363 = .ok (.iconst 2, 1) := by decide +kernel
theorem dL_law_364 : decode cL_law 364 = .ok (.iadd, 1) := by decide +kernel
theorem dL_law_365 : decode cL_law 365 = .ok (.iaload, 1) := by decide +kernel
theorem dL_law_366 : decode cL_law 366 = .ok (.aload_n 0, 1) := by decide +kernel
theorem dL_law_367 : decode cL_law 367 = .ok (.iload 5, 2) := by decide +kernel
theorem dL_law_369 : decode cL_law 369 = .ok (.iconst 3, 1) := by decide +kernel
theorem dL_law_370 : decode cL_law 370 = .ok (.iadd, 1) := by decide +kernel
theorem dL_law_371 : decode cL_law 371 = .ok (.iaload, 1) := by decide +kernel
theorem dL_law_372 : decode cL_law 372 = .ok (.aload_n 3, 1) := by decide +kernel
theorem dL_law_373 : decode cL_law 373 = .ok (.invokestatic 155, 3) := by decide +kernel
theorem dL_law_376 : decode cL_law 376 = .ok (.istore 6, 2) := by decide +kernel
theorem dL_law_378 : decode cL_law 378 = .ok (.aload_n 2, 1) := by decide +kernel
theorem dL_law_379 : decode cL_law 379 = .ok (.aload_n 0, 1) := by decide +kernel
theorem dL_law_380 : decode cL_law 380 = .ok (.iload 5, 2) := by decide +kernel
theorem dL_law_382 : decode cL_law 382 = .ok (.iconst 1, 1) := by decide +kernel
theorem dL_law_383 : decode cL_law 383 = .ok (.iadd, 1) := by decide +kernel
theorem dL_law_384 : decode cL_law 384 = .ok (.iaload, 1) := by decide +kernel
theorem dL_law_385 : decode cL_law 385 = .ok (.aload_n 0, 1) := by decide +kernel
theorem dL_law_386 : decode cL_law 386 = .ok (.iload 5, 2) := by decide +kernel
theorem dL_law_388 : decode cL_law 388 = .ok (.iconst 2, 1) := by decide +kernel
theorem dL_law_389 : decode cL_law 389 = .ok (.iadd, 1) := by decide +kernel
theorem dL_law_390 : decode cL_law 390 = .ok (.iaload, 1) := by decide +kernel
theorem dL_law_391 : decode cL_law 391 = .ok (.aload_n 0, 1) := by decide +kernel
theorem dL_law_392 : decode cL_law 392 = .ok (.iload 5, 2) := by decide +kernel
theorem dL_law_394 : decode cL_law 394 = .ok (.iconst 3, 1) := by decide +kernel
theorem dL_law_395 : decode cL_law 395 = .ok (.iadd, 1) := by decide +kernel
theorem dL_law_396 : decode cL_law 396 = .ok (.iaload, 1) := by decide +kernel
theorem dL_law_397 : decode cL_law 397 = .ok (.invokevirtual 158, 3) := by decide +kernel
theorem dL_law_400 : decode cL_law 400 = .ok (.istore 7, 2) := by decide +kernel
theorem dL_law_402 : decode cL_law 402 = .ok (.aload_n 2, 1) := by decide +kernel
theorem dL_law_403 : decode cL_law 403 = .ok (.invokevirtual 144, 3) := by decide +kernel
theorem dL_law_406 : decode cL_law 406 = .ok (.iload 6, 2) := by decide +kernel
theorem dL_law_408 : decode cL_law 408 = .ok (.if_icmp .eq 5, 3) := by decide +kernel
theorem dL_law_411 : decode cL_law 411 = .ok (.iconst 0, 1) := by decide +kernel
theorem dL_law_412 : decode cL_law 412 = .ok (.ireturn, 1) := by decide +kernel
theorem dL_law_413 : decode cL_law 413 = .ok (.iload 6, 2) := by decide +kernel
theorem dL_law_415 : decode cL_law 415 = .ok (.ifCond .ne 22, 3) := by decide +kernel
theorem dL_law_418 : decode cL_law 418 = .ok (.aload_n 3, 1) := by decide +kernel
theorem dL_law_419 : decode cL_law 419 = .ok (.iconst 0, 1) := by decide +kernel
theorem dL_law_420 : decode cL_law 420 = .ok (.laload, 1) := by decide +kernel
theorem dL_law_421 : decode cL_law 421 = .ok (.iload 7, 2) := by decide +kernel
theorem dL_law_423 : decode cL_law 423 = .ok (.ifCond .eq 7, 3) := by decide +kernel
theorem dL_law_426 : decode cL_law 426 = .ok (.lconst 1, 1) := by decide +kernel
theorem dL_law_427 : decode cL_law 427 = .ok (.goto 4, 3) := by decide +kernel
theorem dL_law_430 : decode cL_law 430 = .ok (.lconst 0, 1) := by decide +kernel
theorem dL_law_431 : decode cL_law 431 = .ok (.lcmp, 1) := by decide +kernel
theorem dL_law_432 : decode cL_law 432 = .ok (.ifCond .eq 5, 3) := by decide +kernel
theorem dL_law_435 : decode cL_law 435 = .ok (.iconst 0, 1) := by decide +kernel
theorem dL_law_436 : decode cL_law 436 = .ok (.ireturn, 1) := by decide +kernel
theorem dL_law_437 : decode cL_law 437 = .ok (.goto 2064, 3) := by decide +kernel
theorem dL_law_440 : decode cL_law 440 = .ok (.aload_n 1, 1) := by decide +kernel
theorem dL_law_441 : decode cL_law 441 = .ok (.aload_n 0, 1) := by decide +kernel
theorem dL_law_442 : decode cL_law 442 = .ok (.iload 5, 2) := by decide +kernel
theorem dL_law_444 : decode cL_law 444 = .ok (.iconst 1, 1) := by decide +kernel
theorem dL_law_445 : decode cL_law 445 = .ok (.iadd, 1) := by decide +kernel
theorem dL_law_446 : decode cL_law 446 = .ok (.iaload, 1) := by decide +kernel
theorem dL_law_447 : decode cL_law 447 = .ok (.aload_n 0, 1) := by decide +kernel
theorem dL_law_448 : decode cL_law 448 = .ok (.iload 5, 2) := by decide +kernel
theorem dL_law_450 : decode cL_law 450 = .ok (.iconst 2, 1) := by decide +kernel
theorem dL_law_451 : decode cL_law 451 = .ok (.iadd, 1) := by decide +kernel
theorem dL_law_452 : decode cL_law 452 = .ok (.iaload, 1) := by decide +kernel
theorem dL_law_453 : decode cL_law 453 = .ok (.aload_n 0, 1) := by decide +kernel
theorem dL_law_454 : decode cL_law 454 = .ok (.iload 5, 2) := by decide +kernel
theorem dL_law_456 : decode cL_law 456 = .ok (.iconst 3, 1) := by decide +kernel
theorem dL_law_457 : decode cL_law 457 = .ok (.iadd, 1) := by decide +kernel
theorem dL_law_458 : decode cL_law 458 = .ok (.iaload, 1) := by decide +kernel
theorem dL_law_459 : decode cL_law 459 = .ok (.invokestatic 159, 3) := by decide +kernel
theorem dL_law_462 : decode cL_law 462 = .ok (.istore 6, 2) := by decide +kernel
theorem dL_law_464 : decode cL_law 464 = .ok (.aload_n 2, 1) := by decide +kernel
theorem dL_law_465 : decode cL_law 465 = .ok (.aload_n 0, 1) := by decide +kernel
theorem dL_law_466 : decode cL_law 466 = .ok (.iload 5, 2) := by decide +kernel
theorem dL_law_468 : decode cL_law 468 = .ok (.iconst 1, 1) := by decide +kernel
theorem dL_law_469 : decode cL_law 469 = .ok (.iadd, 1) := by decide +kernel
theorem dL_law_470 : decode cL_law 470 = .ok (.iaload, 1) := by decide +kernel
theorem dL_law_471 : decode cL_law 471 = .ok (.aload_n 0, 1) := by decide +kernel
theorem dL_law_472 : decode cL_law 472 = .ok (.iload 5, 2) := by decide +kernel
theorem dL_law_474 : decode cL_law 474 = .ok (.iconst 2, 1) := by decide +kernel
theorem dL_law_475 : decode cL_law 475 = .ok (.iadd, 1) := by decide +kernel
theorem dL_law_476 : decode cL_law 476 = .ok (.iaload, 1) := by decide +kernel
theorem dL_law_477 : decode cL_law 477 = .ok (.aload_n 0, 1) := by decide +kernel
theorem dL_law_478 : decode cL_law 478 = .ok (.iload 5, 2) := by decide +kernel
theorem dL_law_480 : decode cL_law 480 = .ok (.iconst 3, 1) := by decide +kernel
theorem dL_law_481 : decode cL_law 481 = .ok (.iadd, 1) := by decide +kernel
theorem dL_law_482 : decode cL_law 482 = .ok (.iaload, 1) := by decide +kernel
theorem dL_law_483 : decode cL_law 483 = .ok (.invokevirtual 162, 3) := by decide +kernel
theorem dL_law_486 : decode cL_law 486 = .ok (.aload_n 2, 1) := by decide +kernel
theorem dL_law_487 : decode cL_law 487 = .ok (.invokevirtual 144, 3) := by decide +kernel
theorem dL_law_490 : decode cL_law 490 = .ok (.iload 6, 2) := by decide +kernel
theorem dL_law_492 : decode cL_law 492 = .ok (.if_icmp .eq 5, 3) := by decide +kernel
theorem dL_law_495 : decode cL_law 495 = .ok (.iconst 0, 1) := by decide +kernel
theorem dL_law_496 : decode cL_law 496 = .ok (.ireturn, 1) := by decide +kernel
theorem dL_law_497 : decode cL_law 497 = .ok (.goto 2004, 3) := by decide +kernel
theorem dL_law_500 : decode cL_law 500 = .ok (.aload_n 1, 1) := by decide +kernel
theorem dL_law_501 : decode cL_law 501 = .ok (.aload_n 0, 1) := by decide +kernel
theorem dL_law_502 : decode cL_law 502 = .ok (.iload 5, 2) := by decide +kernel
theorem dL_law_504 : decode cL_law 504 = .ok (.iconst 1, 1) := by decide +kernel
theorem dL_law_505 : decode cL_law 505 = .ok (.iadd, 1) := by decide +kernel
theorem dL_law_506 : decode cL_law 506 = .ok (.iaload, 1) := by decide +kernel
theorem dL_law_507 : decode cL_law 507 = .ok (.aload_n 0, 1) := by decide +kernel
theorem dL_law_508 : decode cL_law 508 = .ok (.iload 5, 2) := by decide +kernel
theorem dL_law_510 : decode cL_law 510 = .ok (.iconst 2, 1) := by decide +kernel
theorem dL_law_511 : decode cL_law 511 = .ok (.iadd, 1) := by decide +kernel
theorem dL_law_512 : decode cL_law 512 = .ok (.iaload, 1) := by decide +kernel
theorem dL_law_513 : decode cL_law 513 = .ok (.ifCond .eq 7, 3) := by decide +kernel
theorem dL_law_516 : decode cL_law 516 = .ok (.iconst 1, 1) := by decide +kernel
theorem dL_law_517 : decode cL_law 517 = .ok (.goto 4, 3) := by decide +kernel
theorem dL_law_520 : decode cL_law 520 = .ok (.iconst 0, 1) := by decide +kernel
theorem dL_law_521 : decode cL_law 521 = .ok (.aload_n 3, 1) := by decide +kernel
theorem dL_law_522 : decode cL_law 522 = .ok (.invokestatic 163, 3) := by decide +kernel
theorem dL_law_525 : decode cL_law 525 = .ok (.istore 6, 2) := by decide +kernel
theorem dL_law_527 : decode cL_law 527 = .ok (.aload_n 2, 1) := by decide +kernel
theorem dL_law_528 : decode cL_law 528 = .ok (.aload_n 0, 1) := by decide +kernel
theorem dL_law_529 : decode cL_law 529 = .ok (.iload 5, 2) := by decide +kernel
theorem dL_law_531 : decode cL_law 531 = .ok (.iconst 1, 1) := by decide +kernel
theorem dL_law_532 : decode cL_law 532 = .ok (.iadd, 1) := by decide +kernel
theorem dL_law_533 : decode cL_law 533 = .ok (.iaload, 1) := by decide +kernel
theorem dL_law_534 : decode cL_law 534 = .ok (.aload_n 0, 1) := by decide +kernel
theorem dL_law_535 : decode cL_law 535 = .ok (.iload 5, 2) := by decide +kernel
theorem dL_law_537 : decode cL_law 537 = .ok (.iconst 2, 1) := by decide +kernel
theorem dL_law_538 : decode cL_law 538 = .ok (.iadd, 1) := by decide +kernel
theorem dL_law_539 : decode cL_law 539 = .ok (.iaload, 1) := by decide +kernel
theorem dL_law_540 : decode cL_law 540 = .ok (.ifCond .eq 7, 3) := by decide +kernel
theorem dL_law_543 : decode cL_law 543 = .ok (.iconst 1, 1) := by decide +kernel
theorem dL_law_544 : decode cL_law 544 = .ok (.goto 4, 3) := by decide +kernel
theorem dL_law_547 : decode cL_law 547 = .ok (.iconst 0, 1) := by decide +kernel
theorem dL_law_548 : decode cL_law 548 = .ok (.invokevirtual 166, 3) := by decide +kernel
theorem dL_law_551 : decode cL_law 551 = .ok (.istore 7, 2) := by decide +kernel
theorem dL_law_553 : decode cL_law 553 = .ok (.aload_n 2, 1) := by decide +kernel
theorem dL_law_554 : decode cL_law 554 = .ok (.invokevirtual 144, 3) := by decide +kernel
theorem dL_law_557 : decode cL_law 557 = .ok (.iload 6, 2) := by decide +kernel
theorem dL_law_559 : decode cL_law 559 = .ok (.if_icmp .eq 5, 3) := by decide +kernel
theorem dL_law_562 : decode cL_law 562 = .ok (.iconst 0, 1) := by decide +kernel
theorem dL_law_563 : decode cL_law 563 = .ok (.ireturn, 1) := by decide +kernel
theorem dL_law_564 : decode cL_law 564 = .ok (.iload 6, 2) := by decide +kernel
theorem dL_law_566 : decode cL_law 566 = .ok (.ifCond .ne 22, 3) := by decide +kernel
theorem dL_law_569 : decode cL_law 569 = .ok (.aload_n 3, 1) := by decide +kernel
theorem dL_law_570 : decode cL_law 570 = .ok (.iconst 0, 1) := by decide +kernel
theorem dL_law_571 : decode cL_law 571 = .ok (.laload, 1) := by decide +kernel
theorem dL_law_572 : decode cL_law 572 = .ok (.iload 7, 2) := by decide +kernel
theorem dL_law_574 : decode cL_law 574 = .ok (.ifCond .eq 7, 3) := by decide +kernel
theorem dL_law_577 : decode cL_law 577 = .ok (.lconst 1, 1) := by decide +kernel
theorem dL_law_578 : decode cL_law 578 = .ok (.goto 4, 3) := by decide +kernel
theorem dL_law_581 : decode cL_law 581 = .ok (.lconst 0, 1) := by decide +kernel
theorem dL_law_582 : decode cL_law 582 = .ok (.lcmp, 1) := by decide +kernel
theorem dL_law_583 : decode cL_law 583 = .ok (.ifCond .eq 5, 3) := by decide +kernel
theorem dL_law_586 : decode cL_law 586 = .ok (.iconst 0, 1) := by decide +kernel
theorem dL_law_587 : decode cL_law 587 = .ok (.ireturn, 1) := by decide +kernel
theorem dL_law_588 : decode cL_law 588 = .ok (.goto 1913, 3) := by decide +kernel
theorem dL_law_591 : decode cL_law 591 = .ok (.aload_n 1, 1) := by decide +kernel
theorem dL_law_592 : decode cL_law 592 = .ok (.invokevirtual 167, 3) := by decide +kernel
theorem dL_law_595 : decode cL_law 595 = .ok (.aload_n 2, 1) := by decide +kernel
theorem dL_law_596 : decode cL_law 596 = .ok (.invokevirtual 170, 3) := by decide +kernel
theorem dL_law_599 : decode cL_law 599 = .ok (.goto 1902, 3) := by decide +kernel
theorem dL_law_602 : decode cL_law 602 = .ok (.aload_n 1, 1) := by decide +kernel
theorem dL_law_603 : decode cL_law 603 = .ok (.invokevirtual 171, 3) := by decide +kernel
theorem dL_law_606 : decode cL_law 606 = .ok (.aload_n 2, 1) := by decide +kernel
theorem dL_law_607 : decode cL_law 607 = .ok (.invokevirtual 174, 3) := by decide +kernel
theorem dL_law_610 : decode cL_law 610 = .ok (.if_icmp .eq 1891, 3) := by decide +kernel
theorem dL_law_613 : decode cL_law 613 = .ok (.iconst 0, 1) := by decide +kernel
theorem dL_law_614 : decode cL_law 614 = .ok (.ireturn, 1) := by decide +kernel
theorem dL_law_615 : decode cL_law 615 = .ok (.aload_n 1, 1) := by decide +kernel
theorem dL_law_616 : decode cL_law 616 = .ok (.aload_n 0, 1) := by decide +kernel
theorem dL_law_617 : decode cL_law 617 = .ok (.iload 5, 2) := by decide +kernel
theorem dL_law_619 : decode cL_law 619 = .ok (.iconst 1, 1) := by decide +kernel
theorem dL_law_620 : decode cL_law 620 = .ok (.iadd, 1) := by decide +kernel
theorem dL_law_621 : decode cL_law 621 = .ok (.iaload, 1) := by decide +kernel
theorem dL_law_622 : decode cL_law 622 = .ok (.aload_n 3, 1) := by decide +kernel
theorem dL_law_623 : decode cL_law 623 = .ok (.invokestatic 175, 3) := by decide +kernel
theorem dL_law_626 : decode cL_law 626 = .ok (.istore 6, 2) := by decide +kernel
theorem dL_law_628 : decode cL_law 628 = .ok (.aload_n 2, 1) := by decide +kernel
theorem dL_law_629 : decode cL_law 629 = .ok (.aload_n 0, 1) := by decide +kernel
theorem dL_law_630 : decode cL_law 630 = .ok (.iload 5, 2) := by decide +kernel
theorem dL_law_632 : decode cL_law 632 = .ok (.iconst 1, 1) := by decide +kernel
theorem dL_law_633 : decode cL_law 633 = .ok (.iadd, 1) := by decide +kernel
theorem dL_law_634 : decode cL_law 634 = .ok (.iaload, 1) := by decide +kernel
theorem dL_law_635 : decode cL_law 635 = .ok (.invokevirtual 177, 3) := by decide +kernel
theorem dL_law_638 : decode cL_law 638 = .ok (.istore 7, 2) := by decide +kernel
theorem dL_law_640 : decode cL_law 640 = .ok (.aload_n 2, 1) := by decide +kernel
theorem dL_law_641 : decode cL_law 641 = .ok (.invokevirtual 144, 3) := by decide +kernel
theorem dL_law_644 : decode cL_law 644 = .ok (.iload 6, 2) := by decide +kernel
theorem dL_law_646 : decode cL_law 646 = .ok (.if_icmp .eq 5, 3) := by decide +kernel
theorem dL_law_649 : decode cL_law 649 = .ok (.iconst 0, 1) := by decide +kernel
theorem dL_law_650 : decode cL_law 650 = .ok (.ireturn, 1) := by decide +kernel
theorem dL_law_651 : decode cL_law 651 = .ok (.iload 6, 2) := by decide +kernel
theorem dL_law_653 : decode cL_law 653 = .ok (.ifCond .ne 15, 3) := by decide +kernel
theorem dL_law_656 : decode cL_law 656 = .ok (.aload_n 3, 1) := by decide +kernel
theorem dL_law_657 : decode cL_law 657 = .ok (.iconst 0, 1) := by decide +kernel
theorem dL_law_658 : decode cL_law 658 = .ok (.laload, 1) := by decide +kernel
theorem dL_law_659 : decode cL_law 659 = .ok (.iload 7, 2) := by decide +kernel
theorem dL_law_661 : decode cL_law 661 = .ok (.i2l, 1) := by decide +kernel
theorem dL_law_662 : decode cL_law 662 = .ok (.lcmp, 1) := by decide +kernel
theorem dL_law_663 : decode cL_law 663 = .ok (.ifCond .eq 5, 3) := by decide +kernel
theorem dL_law_666 : decode cL_law 666 = .ok (.iconst 0, 1) := by decide +kernel
theorem dL_law_667 : decode cL_law 667 = .ok (.ireturn, 1) := by decide +kernel
theorem dL_law_668 : decode cL_law 668 = .ok (.goto 1833, 3) := by decide +kernel
theorem dL_law_671 : decode cL_law 671 = .ok (.aload_n 1, 1) := by decide +kernel
theorem dL_law_672 : decode cL_law 672 = .ok (.invokevirtual 178, 3) := by decide +kernel
theorem dL_law_675 : decode cL_law 675 = .ok (.aload_n 2, 1) := by decide +kernel
theorem dL_law_676 : decode cL_law 676 = .ok (.invokevirtual 182, 3) := by decide +kernel
theorem dL_law_679 : decode cL_law 679 = .ok (.if_icmp .eq 1822, 3) := by decide +kernel
theorem dL_law_682 : decode cL_law 682 = .ok (.iconst 0, 1) := by decide +kernel
theorem dL_law_683 : decode cL_law 683 = .ok (.ireturn, 1) := by decide +kernel
theorem dL_law_684 : decode cL_law 684 = .ok (.aload_n 1, 1) := by decide +kernel
theorem dL_law_685 : decode cL_law 685 = .ok (.invokevirtual 183, 3) := by decide +kernel
theorem dL_law_688 : decode cL_law 688 = .ok (.aload_n 2, 1) := by decide +kernel
theorem dL_law_689 : decode cL_law 689 = .ok (.invokevirtual 186, 3) := by decide +kernel
theorem dL_law_692 : decode cL_law 692 = .ok (.if_icmp .eq 1809, 3) := by decide +kernel
theorem dL_law_695 : decode cL_law 695 = .ok (.iconst 0, 1) := by decide +kernel
theorem dL_law_696 : decode cL_law 696 = .ok (.ireturn, 1) := by decide +kernel
theorem dL_law_697 : decode cL_law 697 = .ok (.aload_n 1, 1) := by decide +kernel
theorem dL_law_698 : decode cL_law 698 = .ok (.aload_n 0, 1) := by decide +kernel
theorem dL_law_699 : decode cL_law 699 = .ok (.iload 5, 2) := by decide +kernel
theorem dL_law_701 : decode cL_law 701 = .ok (.iconst 1, 1) := by decide +kernel
theorem dL_law_702 : decode cL_law 702 = .ok (.iadd, 1) := by decide +kernel
theorem dL_law_703 : decode cL_law 703 = .ok (.iaload, 1) := by decide +kernel
theorem dL_law_704 : decode cL_law 704 = .ok (.aload_n 3, 1) := by decide +kernel
theorem dL_law_705 : decode cL_law 705 = .ok (.invokestatic 187, 3) := by decide +kernel
theorem dL_law_708 : decode cL_law 708 = .ok (.istore 6, 2) := by decide +kernel
theorem dL_law_710 : decode cL_law 710 = .ok (.aload_n 2, 1) := by decide +kernel
theorem dL_law_711 : decode cL_law 711 = .ok (.aload_n 0, 1) := by decide +kernel
theorem dL_law_712 : decode cL_law 712 = .ok (.iload 5, 2) := by decide +kernel
theorem dL_law_714 : decode cL_law 714 = .ok (.iconst 1, 1) := by decide +kernel
theorem dL_law_715 : decode cL_law 715 = .ok (.iadd, 1) := by decide +kernel
theorem dL_law_716 : decode cL_law 716 = .ok (.iaload, 1) := by decide +kernel
theorem dL_law_717 : decode cL_law 717 = .ok (.invokevirtual 189, 3) := by decide +kernel
theorem dL_law_720 : decode cL_law 720 = .ok (.istore 7, 2) := by decide +kernel
theorem dL_law_722 : decode cL_law 722 = .ok (.aload_n 2, 1) := by decide +kernel
theorem dL_law_723 : decode cL_law 723 = .ok (.invokevirtual 144, 3) := by decide +kernel
theorem dL_law_726 : decode cL_law 726 = .ok (.iload 6, 2) := by decide +kernel
theorem dL_law_728 : decode cL_law 728 = .ok (.if_icmp .eq 5, 3) := by decide +kernel
theorem dL_law_731 : decode cL_law 731 = .ok (.iconst 0, 1) := by decide +kernel
theorem dL_law_732 : decode cL_law 732 = .ok (.ireturn, 1) := by decide +kernel
theorem dL_law_733 : decode cL_law 733 = .ok (.iload 6, 2) := by decide +kernel
theorem dL_law_735 : decode cL_law 735 = .ok (.ifCond .ne 15, 3) := by decide +kernel
theorem dL_law_738 : decode cL_law 738 = .ok (.aload_n 3, 1) := by decide +kernel
theorem dL_law_739 : decode cL_law 739 = .ok (.iconst 0, 1) := by decide +kernel
theorem dL_law_740 : decode cL_law 740 = .ok (.laload, 1) := by decide +kernel
theorem dL_law_741 : decode cL_law 741 = .ok (.iload 7, 2) := by decide +kernel
theorem dL_law_743 : decode cL_law 743 = .ok (.i2l, 1) := by decide +kernel
theorem dL_law_744 : decode cL_law 744 = .ok (.lcmp, 1) := by decide +kernel
theorem dL_law_745 : decode cL_law 745 = .ok (.ifCond .eq 5, 3) := by decide +kernel
theorem dL_law_748 : decode cL_law 748 = .ok (.iconst 0, 1) := by decide +kernel
theorem dL_law_749 : decode cL_law 749 = .ok (.ireturn, 1) := by decide +kernel
theorem dL_law_750 : decode cL_law 750 = .ok (.goto 1751, 3) := by decide +kernel
theorem dL_law_753 : decode cL_law 753 = .ok (.aload_n 1, 1) := by decide +kernel
theorem dL_law_754 : decode cL_law 754 = .ok (.invokevirtual 190, 3) := by decide +kernel
theorem dL_law_757 : decode cL_law 757 = .ok (.aload_n 2, 1) := by decide +kernel
theorem dL_law_758 : decode cL_law 758 = .ok (.invokevirtual 193, 3) := by decide +kernel
theorem dL_law_761 : decode cL_law 761 = .ok (.if_icmp .eq 1740, 3) := by decide +kernel
theorem dL_law_764 : decode cL_law 764 = .ok (.iconst 0, 1) := by decide +kernel
theorem dL_law_765 : decode cL_law 765 = .ok (.ireturn, 1) := by decide +kernel
theorem dL_law_766 : decode cL_law 766 = .ok (.aload_n 1, 1) := by decide +kernel
theorem dL_law_767 : decode cL_law 767 = .ok (.invokevirtual 194, 3) := by decide +kernel
theorem dL_law_770 : decode cL_law 770 = .ok (.aload_n 2, 1) := by decide +kernel
theorem dL_law_771 : decode cL_law 771 = .ok (.invokevirtual 197, 3) := by decide +kernel
theorem dL_law_774 : decode cL_law 774 = .ok (.if_icmp .eq 1727, 3) := by decide +kernel
theorem dL_law_777 : decode cL_law 777 = .ok (.iconst 0, 1) := by decide +kernel
theorem dL_law_778 : decode cL_law 778 = .ok (.ireturn, 1) := by decide +kernel
theorem dL_law_779 : decode cL_law 779 = .ok (.aload_n 1, 1) := by decide +kernel
theorem dL_law_780 : decode cL_law 780 = .ok (.aload_n 0, 1) := by decide +kernel
theorem dL_law_781 : decode cL_law 781 = .ok (.iload 5, 2) := by decide +kernel
theorem dL_law_783 : decode cL_law 783 = .ok (.iconst 1, 1) := by decide +kernel
theorem dL_law_784 : decode cL_law 784 = .ok (.iadd, 1) := by decide +kernel
theorem dL_law_785 : decode cL_law 785 = .ok (.iaload, 1) := by decide +kernel
theorem dL_law_786 : decode cL_law 786 = .ok (.aload_n 3, 1) := by decide +kernel
theorem dL_law_787 : decode cL_law 787 = .ok (.invokestatic 198, 3) := by decide +kernel
theorem dL_law_790 : decode cL_law 790 = .ok (.istore 6, 2) := by decide +kernel
theorem dL_law_792 : decode cL_law 792 = .ok (.aload_n 2, 1) := by decide +kernel
theorem dL_law_793 : decode cL_law 793 = .ok (.aload_n 0, 1) := by decide +kernel
theorem dL_law_794 : decode cL_law 794 = .ok (.iload 5, 2) := by decide +kernel
theorem dL_law_796 : decode cL_law 796 = .ok (.iconst 1, 1) := by decide +kernel
theorem dL_law_797 : decode cL_law 797 = .ok (.iadd, 1) := by decide +kernel
theorem dL_law_798 : decode cL_law 798 = .ok (.iaload, 1) := by decide +kernel
theorem dL_law_799 : decode cL_law 799 = .ok (.invokevirtual 200, 3) := by decide +kernel
theorem dL_law_802 : decode cL_law 802 = .ok (.istore 7, 2) := by decide +kernel
theorem dL_law_804 : decode cL_law 804 = .ok (.aload_n 2, 1) := by decide +kernel
theorem dL_law_805 : decode cL_law 805 = .ok (.invokevirtual 144, 3) := by decide +kernel
theorem dL_law_808 : decode cL_law 808 = .ok (.iload 6, 2) := by decide +kernel
theorem dL_law_810 : decode cL_law 810 = .ok (.if_icmp .eq 5, 3) := by decide +kernel
theorem dL_law_813 : decode cL_law 813 = .ok (.iconst 0, 1) := by decide +kernel
theorem dL_law_814 : decode cL_law 814 = .ok (.ireturn, 1) := by decide +kernel
theorem dL_law_815 : decode cL_law 815 = .ok (.iload 6, 2) := by decide +kernel
theorem dL_law_817 : decode cL_law 817 = .ok (.ifCond .ne 15, 3) := by decide +kernel
theorem dL_law_820 : decode cL_law 820 = .ok (.aload_n 3, 1) := by decide +kernel
theorem dL_law_821 : decode cL_law 821 = .ok (.iconst 0, 1) := by decide +kernel
theorem dL_law_822 : decode cL_law 822 = .ok (.laload, 1) := by decide +kernel
theorem dL_law_823 : decode cL_law 823 = .ok (.iload 7, 2) := by decide +kernel
theorem dL_law_825 : decode cL_law 825 = .ok (.i2l, 1) := by decide +kernel
theorem dL_law_826 : decode cL_law 826 = .ok (.lcmp, 1) := by decide +kernel
theorem dL_law_827 : decode cL_law 827 = .ok (.ifCond .eq 5, 3) := by decide +kernel
theorem dL_law_830 : decode cL_law 830 = .ok (.iconst 0, 1) := by decide +kernel
theorem dL_law_831 : decode cL_law 831 = .ok (.ireturn, 1) := by decide +kernel
theorem dL_law_832 : decode cL_law 832 = .ok (.goto 1669, 3) := by decide +kernel
theorem dL_law_835 : decode cL_law 835 = .ok (.aload_n 1, 1) := by decide +kernel
theorem dL_law_836 : decode cL_law 836 = .ok (.aload_n 0, 1) := by decide +kernel
theorem dL_law_837 : decode cL_law 837 = .ok (.iload 5, 2) := by decide +kernel
theorem dL_law_839 : decode cL_law 839 = .ok (.iconst 1, 1) := by decide +kernel
theorem dL_law_840 : decode cL_law 840 = .ok (.iadd, 1) := by decide +kernel
theorem dL_law_841 : decode cL_law 841 = .ok (.iaload, 1) := by decide +kernel
theorem dL_law_842 : decode cL_law 842 = .ok (.aload_n 3, 1) := by decide +kernel
theorem dL_law_843 : decode cL_law 843 = .ok (.invokestatic 201, 3) := by decide +kernel
theorem dL_law_846 : decode cL_law 846 = .ok (.istore 6, 2) := by decide +kernel
theorem dL_law_848 : decode cL_law 848 = .ok (.aload_n 2, 1) := by decide +kernel
theorem dL_law_849 : decode cL_law 849 = .ok (.aload_n 0, 1) := by decide +kernel
theorem dL_law_850 : decode cL_law 850 = .ok (.iload 5, 2) := by decide +kernel
theorem dL_law_852 : decode cL_law 852 = .ok (.iconst 1, 1) := by decide +kernel
theorem dL_law_853 : decode cL_law 853 = .ok (.iadd, 1) := by decide +kernel
theorem dL_law_854 : decode cL_law 854 = .ok (.iaload, 1) := by decide +kernel
theorem dL_law_855 : decode cL_law 855 = .ok (.invokevirtual 203, 3) := by decide +kernel
theorem dL_law_858 : decode cL_law 858 = .ok (.istore 7, 2) := by decide +kernel
theorem dL_law_860 : decode cL_law 860 = .ok (.aload_n 2, 1) := by decide +kernel
theorem dL_law_861 : decode cL_law 861 = .ok (.invokevirtual 144, 3) := by decide +kernel
theorem dL_law_864 : decode cL_law 864 = .ok (.iload 6, 2) := by decide +kernel
theorem dL_law_866 : decode cL_law 866 = .ok (.if_icmp .eq 5, 3) := by decide +kernel
theorem dL_law_869 : decode cL_law 869 = .ok (.iconst 0, 1) := by decide +kernel
theorem dL_law_870 : decode cL_law 870 = .ok (.ireturn, 1) := by decide +kernel
theorem dL_law_871 : decode cL_law 871 = .ok (.iload 6, 2) := by decide +kernel
theorem dL_law_873 : decode cL_law 873 = .ok (.ifCond .ne 22, 3) := by decide +kernel
theorem dL_law_876 : decode cL_law 876 = .ok (.aload_n 3, 1) := by decide +kernel
theorem dL_law_877 : decode cL_law 877 = .ok (.iconst 0, 1) := by decide +kernel
theorem dL_law_878 : decode cL_law 878 = .ok (.laload, 1) := by decide +kernel
theorem dL_law_879 : decode cL_law 879 = .ok (.iload 7, 2) := by decide +kernel
theorem dL_law_881 : decode cL_law 881 = .ok (.ifCond .eq 7, 3) := by decide +kernel
theorem dL_law_884 : decode cL_law 884 = .ok (.lconst 1, 1) := by decide +kernel
theorem dL_law_885 : decode cL_law 885 = .ok (.goto 4, 3) := by decide +kernel
theorem dL_law_888 : decode cL_law 888 = .ok (.lconst 0, 1) := by decide +kernel
theorem dL_law_889 : decode cL_law 889 = .ok (.lcmp, 1) := by decide +kernel
theorem dL_law_890 : decode cL_law 890 = .ok (.ifCond .eq 5, 3) := by decide +kernel
theorem dL_law_893 : decode cL_law 893 = .ok (.iconst 0, 1) := by decide +kernel
theorem dL_law_894 : decode cL_law 894 = .ok (.ireturn, 1) := by decide +kernel
theorem dL_law_895 : decode cL_law 895 = .ok (.goto 1606, 3) := by decide +kernel
theorem dL_law_898 : decode cL_law 898 = .ok (.aload_n 1, 1) := by decide +kernel
theorem dL_law_899 : decode cL_law 899 = .ok (.invokevirtual 204, 3) := by decide +kernel
theorem dL_law_902 : decode cL_law 902 = .ok (.aload_n 2, 1) := by decide +kernel
theorem dL_law_903 : decode cL_law 903 = .ok (.invokevirtual 208, 3) := by decide +kernel
theorem dL_law_906 : decode cL_law 906 = .ok (.lcmp, 1) := by decide +kernel
theorem dL_law_907 : decode cL_law 907 = .ok (.ifCond .eq 1594, 3) := by decide +kernel
theorem dL_law_910 : decode cL_law 910 = .ok (.iconst 0, 1) := by decide +kernel
theorem dL_law_911 : decode cL_law 911 = .ok (.ireturn, 1) := by decide +kernel
theorem dL_law_912 : decode cL_law 912 = .ok (.aload_n 1, 1) := by decide +kernel
theorem dL_law_913 : decode cL_law 913 = .ok (.invokevirtual 209, 3) := by decide +kernel
theorem dL_law_916 : decode cL_law 916 = .ok (.aload_n 2, 1) := by decide +kernel
theorem dL_law_917 : decode cL_law 917 = .ok (.invokevirtual 212, 3) := by decide +kernel
theorem dL_law_920 : decode cL_law 920 = .ok (.lcmp, 1) := by decide +kernel
theorem dL_law_921 : decode cL_law 921 = .ok (.ifCond .eq 1580, 3) := by decide +kernel
theorem dL_law_924 : decode cL_law 924 = .ok (.iconst 0, 1) := by decide +kernel
theorem dL_law_925 : decode cL_law 925 = .ok (.ireturn, 1) := by decide +kernel
theorem dL_law_926 : decode cL_law 926 = .ok (.aload_n 1, 1) := by decide +kernel
theorem dL_law_927 : decode cL_law 927 = .ok (.aload_n 0, 1) := by decide +kernel
theorem dL_law_928 : decode cL_law 928 = .ok (.iload 5, 2) := by decide +kernel
theorem dL_law_930 : decode cL_law 930 = .ok (.iconst 1, 1) := by decide +kernel
theorem dL_law_931 : decode cL_law 931 = .ok (.iadd, 1) := by decide +kernel
theorem dL_law_932 : decode cL_law 932 = .ok (.iaload, 1) := by decide +kernel
theorem dL_law_933 : decode cL_law 933 = .ok (.aload_n 3, 1) := by decide +kernel
theorem dL_law_934 : decode cL_law 934 = .ok (.invokestatic 213, 3) := by decide +kernel
theorem dL_law_937 : decode cL_law 937 = .ok (.istore 6, 2) := by decide +kernel
theorem dL_law_939 : decode cL_law 939 = .ok (.aload_n 2, 1) := by decide +kernel
theorem dL_law_940 : decode cL_law 940 = .ok (.aload_n 0, 1) := by decide +kernel
theorem dL_law_941 : decode cL_law 941 = .ok (.iload 5, 2) := by decide +kernel
theorem dL_law_943 : decode cL_law 943 = .ok (.iconst 1, 1) := by decide +kernel
theorem dL_law_944 : decode cL_law 944 = .ok (.iadd, 1) := by decide +kernel
theorem dL_law_945 : decode cL_law 945 = .ok (.iaload, 1) := by decide +kernel
theorem dL_law_946 : decode cL_law 946 = .ok (.invokevirtual 215, 3) := by decide +kernel
theorem dL_law_949 : decode cL_law 949 = .ok (.istore 7, 2) := by decide +kernel
theorem dL_law_951 : decode cL_law 951 = .ok (.aload_n 2, 1) := by decide +kernel
theorem dL_law_952 : decode cL_law 952 = .ok (.invokevirtual 144, 3) := by decide +kernel
theorem dL_law_955 : decode cL_law 955 = .ok (.iload 6, 2) := by decide +kernel
theorem dL_law_957 : decode cL_law 957 = .ok (.if_icmp .eq 5, 3) := by decide +kernel
theorem dL_law_960 : decode cL_law 960 = .ok (.iconst 0, 1) := by decide +kernel
theorem dL_law_961 : decode cL_law 961 = .ok (.ireturn, 1) := by decide +kernel
theorem dL_law_962 : decode cL_law 962 = .ok (.iload 6, 2) := by decide +kernel
theorem dL_law_964 : decode cL_law 964 = .ok (.ifCond .ne 15, 3) := by decide +kernel
theorem dL_law_967 : decode cL_law 967 = .ok (.aload_n 3, 1) := by decide +kernel
theorem dL_law_968 : decode cL_law 968 = .ok (.iconst 0, 1) := by decide +kernel
theorem dL_law_969 : decode cL_law 969 = .ok (.laload, 1) := by decide +kernel
theorem dL_law_970 : decode cL_law 970 = .ok (.iload 7, 2) := by decide +kernel
theorem dL_law_972 : decode cL_law 972 = .ok (.i2l, 1) := by decide +kernel
theorem dL_law_973 : decode cL_law 973 = .ok (.lcmp, 1) := by decide +kernel
theorem dL_law_974 : decode cL_law 974 = .ok (.ifCond .eq 5, 3) := by decide +kernel
theorem dL_law_977 : decode cL_law 977 = .ok (.iconst 0, 1) := by decide +kernel
theorem dL_law_978 : decode cL_law 978 = .ok (.ireturn, 1) := by decide +kernel
theorem dL_law_979 : decode cL_law 979 = .ok (.goto 1522, 3) := by decide +kernel
theorem dL_law_982 : decode cL_law 982 = .ok (.aload_n 1, 1) := by decide +kernel
theorem dL_law_983 : decode cL_law 983 = .ok (.aload_n 3, 1) := by decide +kernel
theorem dL_law_984 : decode cL_law 984 = .ok (.invokestatic 216, 3) := by decide +kernel
theorem dL_law_987 : decode cL_law 987 = .ok (.istore 6, 2) := by decide +kernel
theorem dL_law_989 : decode cL_law 989 = .ok (.aload_n 2, 1) := by decide +kernel
theorem dL_law_990 : decode cL_law 990 = .ok (.invokevirtual 218, 3) := by decide +kernel
theorem dL_law_993 : decode cL_law 993 = .ok (.istore 7, 2) := by decide +kernel
theorem dL_law_995 : decode cL_law 995 = .ok (.aload_n 2, 1) := by decide +kernel
theorem dL_law_996 : decode cL_law 996 = .ok (.invokevirtual 144, 3) := by decide +kernel
theorem dL_law_999 : decode cL_law 999 = .ok (.iload 6, 2) := by decide +kernel
theorem dL_law_1001 : decode cL_law 1001 = .ok (.if_icmp .eq 5, 3) := by decide +kernel
theorem dL_law_1004 : decode cL_law 1004 = .ok (.iconst 0, 1) := by decide +kernel
theorem dL_law_1005 : decode cL_law 1005 = .ok (.ireturn, 1) := by decide +kernel
theorem dL_law_1006 : decode cL_law 1006 = .ok (.iload 6, 2) := by decide +kernel
theorem dL_law_1008 : decode cL_law 1008 = .ok (.ifCond .ne 15, 3) := by decide +kernel
theorem dL_law_1011 : decode cL_law 1011 = .ok (.aload_n 3, 1) := by decide +kernel
theorem dL_law_1012 : decode cL_law 1012 = .ok (.iconst 0, 1) := by decide +kernel
theorem dL_law_1013 : decode cL_law 1013 = .ok (.laload, 1) := by decide +kernel
theorem dL_law_1014 : decode cL_law 1014 = .ok (.iload 7, 2) := by decide +kernel
theorem dL_law_1016 : decode cL_law 1016 = .ok (.i2l, 1) := by decide +kernel
theorem dL_law_1017 : decode cL_law 1017 = .ok (.lcmp, 1) := by decide +kernel
theorem dL_law_1018 : decode cL_law 1018 = .ok (.ifCond .eq 5, 3) := by decide +kernel
theorem dL_law_1021 : decode cL_law 1021 = .ok (.iconst 0, 1) := by decide +kernel
theorem dL_law_1022 : decode cL_law 1022 = .ok (.ireturn, 1) := by decide +kernel
theorem dL_law_1023 : decode cL_law 1023 = .ok (.goto 1478, 3) := by decide +kernel
theorem dL_law_1026 : decode cL_law 1026 = .ok (.aload_n 1, 1) := by decide +kernel
theorem dL_law_1027 : decode cL_law 1027 = .ok (.aload_n 3, 1) := by decide +kernel
theorem dL_law_1028 : decode cL_law 1028 = .ok (.invokestatic 219, 3) := by decide +kernel
theorem dL_law_1031 : decode cL_law 1031 = .ok (.istore 6, 2) := by decide +kernel
theorem dL_law_1033 : decode cL_law 1033 = .ok (.aload_n 2, 1) := by decide +kernel
theorem dL_law_1034 : decode cL_law 1034 = .ok (.invokevirtual 221, 3) := by decide +kernel
theorem dL_law_1037 : decode cL_law 1037 = .ok (.istore 7, 2) := by decide +kernel
theorem dL_law_1039 : decode cL_law 1039 = .ok (.aload_n 2, 1) := by decide +kernel
theorem dL_law_1040 : decode cL_law 1040 = .ok (.invokevirtual 144, 3) := by decide +kernel
theorem dL_law_1043 : decode cL_law 1043 = .ok (.iload 6, 2) := by decide +kernel
theorem dL_law_1045 : decode cL_law 1045 = .ok (.if_icmp .eq 5, 3) := by decide +kernel
theorem dL_law_1048 : decode cL_law 1048 = .ok (.iconst 0, 1) := by decide +kernel
theorem dL_law_1049 : decode cL_law 1049 = .ok (.ireturn, 1) := by decide +kernel
theorem dL_law_1050 : decode cL_law 1050 = .ok (.iload 6, 2) := by decide +kernel
theorem dL_law_1052 : decode cL_law 1052 = .ok (.ifCond .ne 15, 3) := by decide +kernel
theorem dL_law_1055 : decode cL_law 1055 = .ok (.aload_n 3, 1) := by decide +kernel
theorem dL_law_1056 : decode cL_law 1056 = .ok (.iconst 0, 1) := by decide +kernel
theorem dL_law_1057 : decode cL_law 1057 = .ok (.laload, 1) := by decide +kernel
theorem dL_law_1058 : decode cL_law 1058 = .ok (.iload 7, 2) := by decide +kernel
theorem dL_law_1060 : decode cL_law 1060 = .ok (.i2l, 1) := by decide +kernel
theorem dL_law_1061 : decode cL_law 1061 = .ok (.lcmp, 1) := by decide +kernel
theorem dL_law_1062 : decode cL_law 1062 = .ok (.ifCond .eq 5, 3) := by decide +kernel
theorem dL_law_1065 : decode cL_law 1065 = .ok (.iconst 0, 1) := by decide +kernel
theorem dL_law_1066 : decode cL_law 1066 = .ok (.ireturn, 1) := by decide +kernel
theorem dL_law_1067 : decode cL_law 1067 = .ok (.goto 1434, 3) := by decide +kernel
theorem dL_law_1070 : decode cL_law 1070 = .ok (.aload_n 1, 1) := by decide +kernel
theorem dL_law_1071 : decode cL_law 1071 = .ok (.aload_n 3, 1) := by decide +kernel
theorem dL_law_1072 : decode cL_law 1072 = .ok (.invokestatic 222, 3) := by decide +kernel
theorem dL_law_1075 : decode cL_law 1075 = .ok (.istore 6, 2) := by decide +kernel
theorem dL_law_1077 : decode cL_law 1077 = .ok (.aload_n 2, 1) := by decide +kernel
theorem dL_law_1078 : decode cL_law 1078 = .ok (.invokevirtual 224, 3) := by decide +kernel
theorem dL_law_1081 : decode cL_law 1081 = .ok (.istore 7, 2) := by decide +kernel
theorem dL_law_1083 : decode cL_law 1083 = .ok (.aload_n 2, 1) := by decide +kernel
theorem dL_law_1084 : decode cL_law 1084 = .ok (.invokevirtual 144, 3) := by decide +kernel
theorem dL_law_1087 : decode cL_law 1087 = .ok (.iload 6, 2) := by decide +kernel
theorem dL_law_1089 : decode cL_law 1089 = .ok (.if_icmp .eq 5, 3) := by decide +kernel
theorem dL_law_1092 : decode cL_law 1092 = .ok (.iconst 0, 1) := by decide +kernel
theorem dL_law_1093 : decode cL_law 1093 = .ok (.ireturn, 1) := by decide +kernel
theorem dL_law_1094 : decode cL_law 1094 = .ok (.iload 6, 2) := by decide +kernel
theorem dL_law_1096 : decode cL_law 1096 = .ok (.ifCond .ne 15, 3) := by decide +kernel
theorem dL_law_1099 : decode cL_law 1099 = .ok (.aload_n 3, 1) := by decide +kernel
theorem dL_law_1100 : decode cL_law 1100 = .ok (.iconst 0, 1) := by decide +kernel
theorem dL_law_1101 : decode cL_law 1101 = .ok (.laload, 1) := by decide +kernel
theorem dL_law_1102 : decode cL_law 1102 = .ok (.iload 7, 2) := by decide +kernel
theorem dL_law_1104 : decode cL_law 1104 = .ok (.i2l, 1) := by decide +kernel
theorem dL_law_1105 : decode cL_law 1105 = .ok (.lcmp, 1) := by decide +kernel
theorem dL_law_1106 : decode cL_law 1106 = .ok (.ifCond .eq 5, 3) := by decide +kernel
theorem dL_law_1109 : decode cL_law 1109 = .ok (.iconst 0, 1) := by decide +kernel
theorem dL_law_1110 : decode cL_law 1110 = .ok (.ireturn, 1) := by decide +kernel
theorem dL_law_1111 : decode cL_law 1111 = .ok (.goto 1390, 3) := by decide +kernel
theorem dL_law_1114 : decode cL_law 1114 = .ok (.aload_n 1, 1) := by decide +kernel
theorem dL_law_1115 : decode cL_law 1115 = .ok (.aload_n 0, 1) := by decide +kernel
theorem dL_law_1116 : decode cL_law 1116 = .ok (.iload 5, 2) := by decide +kernel
theorem dL_law_1118 : decode cL_law 1118 = .ok (.iconst 1, 1) := by decide +kernel
theorem dL_law_1119 : decode cL_law 1119 = .ok (.iadd, 1) := by decide +kernel
theorem dL_law_1120 : decode cL_law 1120 = .ok (.iaload, 1) := by decide +kernel
theorem dL_law_1121 : decode cL_law 1121 = .ok (.aload_n 3, 1) := by decide +kernel
theorem dL_law_1122 : decode cL_law 1122 = .ok (.invokestatic 225, 3) := by decide +kernel
theorem dL_law_1125 : decode cL_law 1125 = .ok (.istore 6, 2) := by decide +kernel
theorem dL_law_1127 : decode cL_law 1127 = .ok (.aload_n 2, 1) := by decide +kernel
theorem dL_law_1128 : decode cL_law 1128 = .ok (.aload_n 0, 1) := by decide +kernel
theorem dL_law_1129 : decode cL_law 1129 = .ok (.iload 5, 2) := by decide +kernel
theorem dL_law_1131 : decode cL_law 1131 = .ok (.iconst 1, 1) := by decide +kernel
theorem dL_law_1132 : decode cL_law 1132 = .ok (.iadd, 1) := by decide +kernel
theorem dL_law_1133 : decode cL_law 1133 = .ok (.iaload, 1) := by decide +kernel
theorem dL_law_1134 : decode cL_law 1134 = .ok (.invokevirtual 227, 3) := by decide +kernel
theorem dL_law_1137 : decode cL_law 1137 = .ok (.istore 7, 2) := by decide +kernel
theorem dL_law_1139 : decode cL_law 1139 = .ok (.aload_n 2, 1) := by decide +kernel
theorem dL_law_1140 : decode cL_law 1140 = .ok (.invokevirtual 144, 3) := by decide +kernel
theorem dL_law_1143 : decode cL_law 1143 = .ok (.iload 6, 2) := by decide +kernel
theorem dL_law_1145 : decode cL_law 1145 = .ok (.if_icmp .eq 5, 3) := by decide +kernel
theorem dL_law_1148 : decode cL_law 1148 = .ok (.iconst 0, 1) := by decide +kernel
theorem dL_law_1149 : decode cL_law 1149 = .ok (.ireturn, 1) := by decide +kernel
theorem dL_law_1150 : decode cL_law 1150 = .ok (.iload 6, 2) := by decide +kernel
theorem dL_law_1152 : decode cL_law 1152 = .ok (.ifCond .ne 15, 3) := by decide +kernel
theorem dL_law_1155 : decode cL_law 1155 = .ok (.aload_n 3, 1) := by decide +kernel
theorem dL_law_1156 : decode cL_law 1156 = .ok (.iconst 0, 1) := by decide +kernel
theorem dL_law_1157 : decode cL_law 1157 = .ok (.laload, 1) := by decide +kernel
theorem dL_law_1158 : decode cL_law 1158 = .ok (.iload 7, 2) := by decide +kernel
theorem dL_law_1160 : decode cL_law 1160 = .ok (.i2l, 1) := by decide +kernel
theorem dL_law_1161 : decode cL_law 1161 = .ok (.lcmp, 1) := by decide +kernel
theorem dL_law_1162 : decode cL_law 1162 = .ok (.ifCond .eq 5, 3) := by decide +kernel
theorem dL_law_1165 : decode cL_law 1165 = .ok (.iconst 0, 1) := by decide +kernel
theorem dL_law_1166 : decode cL_law 1166 = .ok (.ireturn, 1) := by decide +kernel
theorem dL_law_1167 : decode cL_law 1167 = .ok (.goto 1334, 3) := by decide +kernel
theorem dL_law_1170 : decode cL_law 1170 = .ok (.aload_n 1, 1) := by decide +kernel
theorem dL_law_1171 : decode cL_law 1171 = .ok (.aload_n 0, 1) := by decide +kernel
theorem dL_law_1172 : decode cL_law 1172 = .ok (.iload 5, 2) := by decide +kernel
theorem dL_law_1174 : decode cL_law 1174 = .ok (.iconst 1, 1) := by decide +kernel
theorem dL_law_1175 : decode cL_law 1175 = .ok (.iadd, 1) := by decide +kernel
theorem dL_law_1176 : decode cL_law 1176 = .ok (.iaload, 1) := by decide +kernel
theorem dL_law_1177 : decode cL_law 1177 = .ok (.aload_n 0, 1) := by decide +kernel
theorem dL_law_1178 : decode cL_law 1178 = .ok (.iload 5, 2) := by decide +kernel
theorem dL_law_1180 : decode cL_law 1180 = .ok (.iconst 2, 1) := by decide +kernel
theorem dL_law_1181 : decode cL_law 1181 = .ok (.iadd, 1) := by decide +kernel
theorem dL_law_1182 : decode cL_law 1182 = .ok (.iaload, 1) := by decide +kernel
theorem dL_law_1183 : decode cL_law 1183 = .ok (.aload_n 0, 1) := by decide +kernel
theorem dL_law_1184 : decode cL_law 1184 = .ok (.iload 5, 2) := by decide +kernel
theorem dL_law_1186 : decode cL_law 1186 = .ok (.iconst 3, 1) := by decide +kernel
theorem dL_law_1187 : decode cL_law 1187 = .ok (.iadd, 1) := by decide +kernel
theorem dL_law_1188 : decode cL_law 1188 = .ok (.iaload, 1) := by decide +kernel
theorem dL_law_1189 : decode cL_law 1189 = .ok (.aload_n 3, 1) := by decide +kernel
theorem dL_law_1190 : decode cL_law 1190 = .ok (.invokestatic 228, 3) := by decide +kernel
theorem dL_law_1193 : decode cL_law 1193 = .ok (.istore 6, 2) := by decide +kernel
theorem dL_law_1195 : decode cL_law 1195 = .ok (.aload_n 2, 1) := by decide +kernel
theorem dL_law_1196 : decode cL_law 1196 = .ok (.aload_n 0, 1) := by decide +kernel
theorem dL_law_1197 : decode cL_law 1197 = .ok (.iload 5, 2) := by decide +kernel
theorem dL_law_1199 : decode cL_law 1199 = .ok (.iconst 1, 1) := by decide +kernel
theorem dL_law_1200 : decode cL_law 1200 = .ok (.iadd, 1) := by decide +kernel
theorem dL_law_1201 : decode cL_law 1201 = .ok (.iaload, 1) := by decide +kernel
theorem dL_law_1202 : decode cL_law 1202 = .ok (.aload_n 0, 1) := by decide +kernel
theorem dL_law_1203 : decode cL_law 1203 = .ok (.iload 5, 2) := by decide +kernel
theorem dL_law_1205 : decode cL_law 1205 = .ok (.iconst 2, 1) := by decide +kernel
theorem dL_law_1206 : decode cL_law 1206 = .ok (.iadd, 1) := by decide +kernel
theorem dL_law_1207 : decode cL_law 1207 = .ok (.iaload, 1) := by decide +kernel
theorem dL_law_1208 : decode cL_law 1208 = .ok (.aload_n 0, 1) := by decide +kernel
theorem dL_law_1209 : decode cL_law 1209 = .ok (.iload 5, 2) := by decide +kernel
theorem dL_law_1211 : decode cL_law 1211 = .ok (.iconst 3, 1) := by decide +kernel
theorem dL_law_1212 : decode cL_law 1212 = .ok (.iadd, 1) := by decide +kernel
theorem dL_law_1213 : decode cL_law 1213 = .ok (.iaload, 1) := by decide +kernel
theorem dL_law_1214 : decode cL_law 1214 = .ok (.invokevirtual 230, 3) := by decide +kernel
theorem dL_law_1217 : decode cL_law 1217 = .ok (.istore 7, 2) := by decide +kernel
theorem dL_law_1219 : decode cL_law 1219 = .ok (.aload_n 2, 1) := by decide +kernel
theorem dL_law_1220 : decode cL_law 1220 = .ok (.invokevirtual 144, 3) := by decide +kernel
theorem dL_law_1223 : decode cL_law 1223 = .ok (.iload 6, 2) := by decide +kernel
theorem dL_law_1225 : decode cL_law 1225 = .ok (.if_icmp .eq 5, 3) := by decide +kernel
theorem dL_law_1228 : decode cL_law 1228 = .ok (.iconst 0, 1) := by decide +kernel
theorem dL_law_1229 : decode cL_law 1229 = .ok (.ireturn, 1) := by decide +kernel
theorem dL_law_1230 : decode cL_law 1230 = .ok (.iload 6, 2) := by decide +kernel
theorem dL_law_1232 : decode cL_law 1232 = .ok (.ifCond .ne 22, 3) := by decide +kernel
theorem dL_law_1235 : decode cL_law 1235 = .ok (.aload_n 3, 1) := by decide +kernel
theorem dL_law_1236 : decode cL_law 1236 = .ok (.iconst 0, 1) := by decide +kernel
theorem dL_law_1237 : decode cL_law 1237 = .ok (.laload, 1) := by decide +kernel
theorem dL_law_1238 : decode cL_law 1238 = .ok (.iload 7, 2) := by decide +kernel
theorem dL_law_1240 : decode cL_law 1240 = .ok (.ifCond .eq 7, 3) := by decide +kernel
theorem dL_law_1243 : decode cL_law 1243 = .ok (.lconst 1, 1) := by decide +kernel
theorem dL_law_1244 : decode cL_law 1244 = .ok (.goto 4, 3) := by decide +kernel
theorem dL_law_1247 : decode cL_law 1247 = .ok (.lconst 0, 1) := by decide +kernel
theorem dL_law_1248 : decode cL_law 1248 = .ok (.lcmp, 1) := by decide +kernel
theorem dL_law_1249 : decode cL_law 1249 = .ok (.ifCond .eq 5, 3) := by decide +kernel
theorem dL_law_1252 : decode cL_law 1252 = .ok (.iconst 0, 1) := by decide +kernel
theorem dL_law_1253 : decode cL_law 1253 = .ok (.ireturn, 1) := by decide +kernel
theorem dL_law_1254 : decode cL_law 1254 = .ok (.goto 1247, 3) := by decide +kernel
theorem dL_law_1257 : decode cL_law 1257 = .ok (.aload_n 1, 1) := by decide +kernel
theorem dL_law_1258 : decode cL_law 1258 = .ok (.invokevirtual 231, 3) := by decide +kernel
theorem dL_law_1261 : decode cL_law 1261 = .ok (.aload_n 2, 1) := by decide +kernel
theorem dL_law_1262 : decode cL_law 1262 = .ok (.invokevirtual 234, 3) := by decide +kernel
theorem dL_law_1265 : decode cL_law 1265 = .ok (.if_icmp .eq 1236, 3) := by decide +kernel
theorem dL_law_1268 : decode cL_law 1268 = .ok (.iconst 0, 1) := by decide +kernel
theorem dL_law_1269 : decode cL_law 1269 = .ok (.ireturn, 1) := by decide +kernel
theorem dL_law_1270 : decode cL_law 1270 = .ok (.aload_n 1, 1) := by decide +kernel
theorem dL_law_1271 : decode cL_law 1271 = .ok (.aload_n 0, 1) := by decide +kernel
theorem dL_law_1272 : decode cL_law 1272 = .ok (.iload 5, 2) := by decide +kernel
theorem dL_law_1274 : decode cL_law 1274 = .ok (.iconst 1, 1) := by decide +kernel
theorem dL_law_1275 : decode cL_law 1275 = .ok (.iadd, 1) := by decide +kernel
theorem dL_law_1276 : decode cL_law 1276 = .ok (.iaload, 1) := by decide +kernel
theorem dL_law_1277 : decode cL_law 1277 = .ok (.aload_n 3, 1) := by decide +kernel
theorem dL_law_1278 : decode cL_law 1278 = .ok (.invokestatic 235, 3) := by decide +kernel
theorem dL_law_1281 : decode cL_law 1281 = .ok (.istore 6, 2) := by decide +kernel
theorem dL_law_1283 : decode cL_law 1283 = .ok (.aload_n 2, 1) := by decide +kernel
theorem dL_law_1284 : decode cL_law 1284 = .ok (.aload_n 0, 1) := by decide +kernel
theorem dL_law_1285 : decode cL_law 1285 = .ok (.iload 5, 2) := by decide +kernel
theorem dL_law_1287 : decode cL_law 1287 = .ok (.iconst 1, 1) := by decide +kernel
theorem dL_law_1288 : decode cL_law 1288 = .ok (.iadd, 1) := by decide +kernel
theorem dL_law_1289 : decode cL_law 1289 = .ok (.iaload, 1) := by decide +kernel
theorem dL_law_1290 : decode cL_law 1290 = .ok (.invokevirtual 237, 3) := by decide +kernel
theorem dL_law_1293 : decode cL_law 1293 = .ok (.istore 7, 2) := by decide +kernel
theorem dL_law_1295 : decode cL_law 1295 = .ok (.aload_n 2, 1) := by decide +kernel
theorem dL_law_1296 : decode cL_law 1296 = .ok (.invokevirtual 144, 3) := by decide +kernel
theorem dL_law_1299 : decode cL_law 1299 = .ok (.iload 6, 2) := by decide +kernel
theorem dL_law_1301 : decode cL_law 1301 = .ok (.if_icmp .eq 5, 3) := by decide +kernel
theorem dL_law_1304 : decode cL_law 1304 = .ok (.iconst 0, 1) := by decide +kernel
theorem dL_law_1305 : decode cL_law 1305 = .ok (.ireturn, 1) := by decide +kernel
theorem dL_law_1306 : decode cL_law 1306 = .ok (.iload 6, 2) := by decide +kernel
theorem dL_law_1308 : decode cL_law 1308 = .ok (.ifCond .ne 15, 3) := by decide +kernel
theorem dL_law_1311 : decode cL_law 1311 = .ok (.aload_n 3, 1) := by decide +kernel
theorem dL_law_1312 : decode cL_law 1312 = .ok (.iconst 0, 1) := by decide +kernel
theorem dL_law_1313 : decode cL_law 1313 = .ok (.laload, 1) := by decide +kernel
theorem dL_law_1314 : decode cL_law 1314 = .ok (.iload 7, 2) := by decide +kernel
theorem dL_law_1316 : decode cL_law 1316 = .ok (.i2l, 1) := by decide +kernel
theorem dL_law_1317 : decode cL_law 1317 = .ok (.lcmp, 1) := by decide +kernel
theorem dL_law_1318 : decode cL_law 1318 = .ok (.ifCond .eq 5, 3) := by decide +kernel
theorem dL_law_1321 : decode cL_law 1321 = .ok (.iconst 0, 1) := by decide +kernel
theorem dL_law_1322 : decode cL_law 1322 = .ok (.ireturn, 1) := by decide +kernel
theorem dL_law_1323 : decode cL_law 1323 = .ok (.goto 1178, 3) := by decide +kernel
theorem dL_law_1326 : decode cL_law 1326 = .ok (.aload_n 1, 1) := by decide +kernel
theorem dL_law_1327 : decode cL_law 1327 = .ok (.invokevirtual 238, 3) := by decide +kernel
theorem dL_law_1330 : decode cL_law 1330 = .ok (.aload_n 2, 1) := by decide +kernel
theorem dL_law_1331 : decode cL_law 1331 = .ok (.invokevirtual 241, 3) := by decide +kernel
theorem dL_law_1334 : decode cL_law 1334 = .ok (.if_icmp .eq 1167, 3) := by decide +kernel
theorem dL_law_1337 : decode cL_law 1337 = .ok (.iconst 0, 1) := by decide +kernel
theorem dL_law_1338 : decode cL_law 1338 = .ok (.ireturn, 1) := by decide +kernel
theorem dL_law_1339 : decode cL_law 1339 = .ok (.aload_n 1, 1) := by decide +kernel
theorem dL_law_1340 : decode cL_law 1340 = .ok (.aload_n 0, 1) := by decide +kernel
theorem dL_law_1341 : decode cL_law 1341 = .ok (.iload 5, 2) := by decide +kernel
theorem dL_law_1343 : decode cL_law 1343 = .ok (.iconst 1, 1) := by decide +kernel
theorem dL_law_1344 : decode cL_law 1344 = .ok (.iadd, 1) := by decide +kernel
theorem dL_law_1345 : decode cL_law 1345 = .ok (.iaload, 1) := by decide +kernel
theorem dL_law_1346 : decode cL_law 1346 = .ok (.aload_n 3, 1) := by decide +kernel
theorem dL_law_1347 : decode cL_law 1347 = .ok (.invokestatic 242, 3) := by decide +kernel
theorem dL_law_1350 : decode cL_law 1350 = .ok (.istore 6, 2) := by decide +kernel
theorem dL_law_1352 : decode cL_law 1352 = .ok (.aload_n 2, 1) := by decide +kernel
theorem dL_law_1353 : decode cL_law 1353 = .ok (.aload_n 0, 1) := by decide +kernel
theorem dL_law_1354 : decode cL_law 1354 = .ok (.iload 5, 2) := by decide +kernel
theorem dL_law_1356 : decode cL_law 1356 = .ok (.iconst 1, 1) := by decide +kernel
theorem dL_law_1357 : decode cL_law 1357 = .ok (.iadd, 1) := by decide +kernel
theorem dL_law_1358 : decode cL_law 1358 = .ok (.iaload, 1) := by decide +kernel
theorem dL_law_1359 : decode cL_law 1359 = .ok (.invokevirtual 244, 3) := by decide +kernel
theorem dL_law_1362 : decode cL_law 1362 = .ok (.istore 7, 2) := by decide +kernel
theorem dL_law_1364 : decode cL_law 1364 = .ok (.aload_n 2, 1) := by decide +kernel
theorem dL_law_1365 : decode cL_law 1365 = .ok (.invokevirtual 144, 3) := by decide +kernel
theorem dL_law_1368 : decode cL_law 1368 = .ok (.iload 6, 2) := by decide +kernel
theorem dL_law_1370 : decode cL_law 1370 = .ok (.if_icmp .eq 5, 3) := by decide +kernel
theorem dL_law_1373 : decode cL_law 1373 = .ok (.iconst 0, 1) := by decide +kernel
theorem dL_law_1374 : decode cL_law 1374 = .ok (.ireturn, 1) := by decide +kernel
theorem dL_law_1375 : decode cL_law 1375 = .ok (.iload 6, 2) := by decide +kernel
theorem dL_law_1377 : decode cL_law 1377 = .ok (.ifCond .ne 15, 3) := by decide +kernel
theorem dL_law_1380 : decode cL_law 1380 = .ok (.aload_n 3, 1) := by decide +kernel
theorem dL_law_1381 : decode cL_law 1381 = .ok (.iconst 0, 1) := by decide +kernel
theorem dL_law_1382 : decode cL_law 1382 = .ok (.laload, 1) := by decide +kernel
theorem dL_law_1383 : decode cL_law 1383 = .ok (.iload 7, 2) := by decide +kernel
theorem dL_law_1385 : decode cL_law 1385 = .ok (.i2l, 1) := by decide +kernel
theorem dL_law_1386 : decode cL_law 1386 = .ok (.lcmp, 1) := by decide +kernel
theorem dL_law_1387 : decode cL_law 1387 = .ok (.ifCond .eq 5, 3) := by decide +kernel
theorem dL_law_1390 : decode cL_law 1390 = .ok (.iconst 0, 1) := by decide +kernel
theorem dL_law_1391 : decode cL_law 1391 = .ok (.ireturn, 1) := by decide +kernel
theorem dL_law_1392 : decode cL_law 1392 = .ok (.goto 1109, 3) := by decide +kernel
theorem dL_law_1395 : decode cL_law 1395 = .ok (.aload_n 1, 1) := by decide +kernel
theorem dL_law_1396 : decode cL_law 1396 = .ok (.aload_n 0, 1) := by decide +kernel
theorem dL_law_1397 : decode cL_law 1397 = .ok (.iload 5, 2) := by decide +kernel
theorem dL_law_1399 : decode cL_law 1399 = .ok (.iconst 1, 1) := by decide +kernel
theorem dL_law_1400 : decode cL_law 1400 = .ok (.iadd, 1) := by decide +kernel
theorem dL_law_1401 : decode cL_law 1401 = .ok (.iaload, 1) := by decide +kernel
theorem dL_law_1402 : decode cL_law 1402 = .ok (.aload_n 0, 1) := by decide +kernel
theorem dL_law_1403 : decode cL_law 1403 = .ok (.iload 5, 2) := by decide +kernel
theorem dL_law_1405 : decode cL_law 1405 = .ok (.iconst 2, 1) := by decide +kernel
theorem dL_law_1406 : decode cL_law 1406 = .ok (.iadd, 1) := by decide +kernel
theorem dL_law_1407 : decode cL_law 1407 = .ok (.iaload, 1) := by decide +kernel
theorem dL_law_1408 : decode cL_law 1408 = .ok (.aload_n 0, 1) := by decide +kernel
theorem dL_law_1409 : decode cL_law 1409 = .ok (.iload 5, 2) := by decide +kernel
theorem dL_law_1411 : decode cL_law 1411 = .ok (.iconst 3, 1) := by decide +kernel
theorem dL_law_1412 : decode cL_law 1412 = .ok (.iadd, 1) := by decide +kernel
theorem dL_law_1413 : decode cL_law 1413 = .ok (.iaload, 1) := by decide +kernel
theorem dL_law_1414 : decode cL_law 1414 = .ok (.aload_n 0, 1) := by decide +kernel
theorem dL_law_1415 : decode cL_law 1415 = .ok (.iload 5, 2) := by decide +kernel
theorem dL_law_1417 : decode cL_law 1417 = .ok (.iconst 4, 1) := by decide +kernel
theorem dL_law_1418 : decode cL_law 1418 = .ok (.iadd, 1) := by decide +kernel
theorem dL_law_1419 : decode cL_law 1419 = .ok (.iaload, 1) := by decide +kernel
theorem dL_law_1420 : decode cL_law 1420 = .ok (.aload_n 3, 1) := by decide +kernel
theorem dL_law_1421 : decode cL_law 1421 = .ok (.invokestatic 245, 3) := by decide +kernel
theorem dL_law_1424 : decode cL_law 1424 = .ok (.istore 6, 2) := by decide +kernel
theorem dL_law_1426 : decode cL_law 1426 = .ok (.aload_n 2, 1) := by decide +kernel
theorem dL_law_1427 : decode cL_law 1427 = .ok (.aload_n 0, 1) := by decide +kernel
theorem dL_law_1428 : decode cL_law 1428 = .ok (.iload 5, 2) := by decide +kernel
theorem dL_law_1430 : decode cL_law 1430 = .ok (.iconst 1, 1) := by decide +kernel
theorem dL_law_1431 : decode cL_law 1431 = .ok (.iadd, 1) := by decide +kernel
theorem dL_law_1432 : decode cL_law 1432 = .ok (.iaload, 1) := by decide +kernel
theorem dL_law_1433 : decode cL_law 1433 = .ok (.aload_n 0, 1) := by decide +kernel
theorem dL_law_1434 : decode cL_law 1434 = .ok (.iload 5, 2) := by decide +kernel
theorem dL_law_1436 : decode cL_law 1436 = .ok (.iconst 2, 1) := by decide +kernel
theorem dL_law_1437 : decode cL_law 1437 = .ok (.iadd, 1) := by decide +kernel
theorem dL_law_1438 : decode cL_law 1438 = .ok (.iaload, 1) := by decide +kernel
theorem dL_law_1439 : decode cL_law 1439 = .ok (.aload_n 0, 1) := by decide +kernel
theorem dL_law_1440 : decode cL_law 1440 = .ok (.iload 5, 2) := by decide +kernel
theorem dL_law_1442 : decode cL_law 1442 = .ok (.iconst 3, 1) := by decide +kernel
theorem dL_law_1443 : decode cL_law 1443 = .ok (.iadd, 1) := by decide +kernel
theorem dL_law_1444 : decode cL_law 1444 = .ok (.iaload, 1) := by decide +kernel
theorem dL_law_1445 : decode cL_law 1445 = .ok (.aload_n 0, 1) := by decide +kernel
theorem dL_law_1446 : decode cL_law 1446 = .ok (.iload 5, 2) := by decide +kernel
theorem dL_law_1448 : decode cL_law 1448 = .ok (.iconst 4, 1) := by decide +kernel
theorem dL_law_1449 : decode cL_law 1449 = .ok (.iadd, 1) := by decide +kernel
theorem dL_law_1450 : decode cL_law 1450 = .ok (.iaload, 1) := by decide +kernel
theorem dL_law_1451 : decode cL_law 1451 = .ok (.invokevirtual 248, 3) := by decide +kernel
theorem dL_law_1454 : decode cL_law 1454 = .ok (.istore 7, 2) := by decide +kernel
theorem dL_law_1456 : decode cL_law 1456 = .ok (.aload_n 2, 1) := by decide +kernel
theorem dL_law_1457 : decode cL_law 1457 = .ok (.invokevirtual 144, 3) := by decide +kernel
theorem dL_law_1460 : decode cL_law 1460 = .ok (.iload 6, 2) := by decide +kernel
theorem dL_law_1462 : decode cL_law 1462 = .ok (.if_icmp .eq 5, 3) := by decide +kernel
theorem dL_law_1465 : decode cL_law 1465 = .ok (.iconst 0, 1) := by decide +kernel
theorem dL_law_1466 : decode cL_law 1466 = .ok (.ireturn, 1) := by decide +kernel
theorem dL_law_1467 : decode cL_law 1467 = .ok (.iload 6, 2) := by decide +kernel
theorem dL_law_1469 : decode cL_law 1469 = .ok (.ifCond .ne 15, 3) := by decide +kernel
theorem dL_law_1472 : decode cL_law 1472 = .ok (.aload_n 3, 1) := by decide +kernel
theorem dL_law_1473 : decode cL_law 1473 = .ok (.iconst 0, 1) := by decide +kernel
theorem dL_law_1474 : decode cL_law 1474 = .ok (.laload, 1) := by decide +kernel
theorem dL_law_1475 : decode cL_law 1475 = .ok (.iload 7, 2) := by decide +kernel
theorem dL_law_1477 : decode cL_law 1477 = .ok (.i2l, 1) := by decide +kernel
theorem dL_law_1478 : decode cL_law 1478 = .ok (.lcmp, 1) := by decide +kernel
theorem dL_law_1479 : decode cL_law 1479 = .ok (.ifCond .eq 5, 3) := by decide +kernel
theorem dL_law_1482 : decode cL_law 1482 = .ok (.iconst 0, 1) := by decide +kernel
theorem dL_law_1483 : decode cL_law 1483 = .ok (.ireturn, 1) := by decide +kernel
theorem dL_law_1484 : decode cL_law 1484 = .ok (.goto 1017, 3) := by decide +kernel
theorem dL_law_1487 : decode cL_law 1487 = .ok (.aload_n 1, 1) := by decide +kernel
theorem dL_law_1488 : decode cL_law 1488 = .ok (.aload_n 0, 1) := by decide +kernel
theorem dL_law_1489 : decode cL_law 1489 = .ok (.iload 5, 2) := by decide +kernel
theorem dL_law_1491 : decode cL_law 1491 = .ok (.iconst 1, 1) := by decide +kernel
theorem dL_law_1492 : decode cL_law 1492 = .ok (.iadd, 1) := by decide +kernel
theorem dL_law_1493 : decode cL_law 1493 = .ok (.iaload, 1) := by decide +kernel
theorem dL_law_1494 : decode cL_law 1494 = .ok (.aload_n 0, 1) := by decide +kernel
theorem dL_law_1495 : decode cL_law 1495 = .ok (.iload 5, 2) := by decide +kernel
theorem dL_law_1497 : decode cL_law 1497 = .ok (.iconst 2, 1) := by decide +kernel
theorem dL_law_1498 : decode cL_law 1498 = .ok (.iadd, 1) := by decide +kernel
theorem dL_law_1499 : decode cL_law 1499 = .ok (.iaload, 1) := by decide +kernel
theorem dL_law_1500 : decode cL_law 1500 = .ok (.aload_n 0, 1) := by decide +kernel
theorem dL_law_1501 : decode cL_law 1501 = .ok (.iload 5, 2) := by decide +kernel
theorem dL_law_1503 : decode cL_law 1503 = .ok (.iconst 3, 1) := by decide +kernel
theorem dL_law_1504 : decode cL_law 1504 = .ok (.iadd, 1) := by decide +kernel
theorem dL_law_1505 : decode cL_law 1505 = .ok (.iaload, 1) := by decide +kernel
theorem dL_law_1506 : decode cL_law 1506 = .ok (.aload_n 0, 1) := by decide +kernel
theorem dL_law_1507 : decode cL_law 1507 = .ok (.iload 5, 2) := by decide +kernel
theorem dL_law_1509 : decode cL_law 1509 = .ok (.iconst 4, 1) := by decide +kernel
theorem dL_law_1510 : decode cL_law 1510 = .ok (.iadd, 1) := by decide +kernel
theorem dL_law_1511 : decode cL_law 1511 = .ok (.iaload, 1) := by decide +kernel
theorem dL_law_1512 : decode cL_law 1512 = .ok (.aload_n 0, 1) := by decide +kernel
theorem dL_law_1513 : decode cL_law 1513 = .ok (.iload 5, 2) := by decide +kernel
theorem dL_law_1515 : decode cL_law 1515 = .ok (.iconst 5, 1) := by decide +kernel
theorem dL_law_1516 : decode cL_law 1516 = .ok (.iadd, 1) := by decide +kernel
theorem dL_law_1517 : decode cL_law 1517 = .ok (.iaload, 1) := by decide +kernel
theorem dL_law_1518 : decode cL_law 1518 = .ok (.aload_n 3, 1) := by decide +kernel
theorem dL_law_1519 : decode cL_law 1519 = .ok (.invokestatic 249, 3) := by decide +kernel
theorem dL_law_1522 : decode cL_law 1522 = .ok (.istore 6, 2) := by decide +kernel
theorem dL_law_1524 : decode cL_law 1524 = .ok (.aload_n 2, 1) := by decide +kernel
theorem dL_law_1525 : decode cL_law 1525 = .ok (.aload_n 0, 1) := by decide +kernel
theorem dL_law_1526 : decode cL_law 1526 = .ok (.iload 5, 2) := by decide +kernel
theorem dL_law_1528 : decode cL_law 1528 = .ok (.iconst 1, 1) := by decide +kernel
theorem dL_law_1529 : decode cL_law 1529 = .ok (.iadd, 1) := by decide +kernel
theorem dL_law_1530 : decode cL_law 1530 = .ok (.iaload, 1) := by decide +kernel
theorem dL_law_1531 : decode cL_law 1531 = .ok (.aload_n 0, 1) := by decide +kernel
theorem dL_law_1532 : decode cL_law 1532 = .ok (.iload 5, 2) := by decide +kernel
theorem dL_law_1534 : decode cL_law 1534 = .ok (.iconst 2, 1) := by decide +kernel
theorem dL_law_1535 : decode cL_law 1535 = .ok (.iadd, 1) := by decide +kernel
theorem dL_law_1536 : decode cL_law 1536 = .ok (.iaload, 1) := by decide +kernel
theorem dL_law_1537 : decode cL_law 1537 = .ok (.aload_n 0, 1) := by decide +kernel
theorem dL_law_1538 : decode cL_law 1538 = .ok (.iload 5, 2) := by decide +kernel
theorem dL_law_1540 : decode cL_law 1540 = .ok (.iconst 3, 1) := by decide +kernel
theorem dL_law_1541 : decode cL_law 1541 = .ok (.iadd, 1) := by decide +kernel
theorem dL_law_1542 : decode cL_law 1542 = .ok (.iaload, 1) := by decide +kernel
theorem dL_law_1543 : decode cL_law 1543 = .ok (.aload_n 0, 1) := by decide +kernel
theorem dL_law_1544 : decode cL_law 1544 = .ok (.iload 5, 2) := by decide +kernel
theorem dL_law_1546 : decode cL_law 1546 = .ok (.iconst 4, 1) := by decide +kernel
theorem dL_law_1547 : decode cL_law 1547 = .ok (.iadd, 1) := by decide +kernel
theorem dL_law_1548 : decode cL_law 1548 = .ok (.iaload, 1) := by decide +kernel
theorem dL_law_1549 : decode cL_law 1549 = .ok (.aload_n 0, 1) := by decide +kernel
theorem dL_law_1550 : decode cL_law 1550 = .ok (.iload 5, 2) := by decide +kernel
theorem dL_law_1552 : decode cL_law 1552 = .ok (.iconst 5, 1) := by decide +kernel
theorem dL_law_1553 : decode cL_law 1553 = .ok (.iadd, 1) := by decide +kernel
theorem dL_law_1554 : decode cL_law 1554 = .ok (.iaload, 1) := by decide +kernel
theorem dL_law_1555 : decode cL_law 1555 = .ok (.invokevirtual 252, 3) := by decide +kernel
theorem dL_law_1558 : decode cL_law 1558 = .ok (.istore 7, 2) := by decide +kernel
theorem dL_law_1560 : decode cL_law 1560 = .ok (.aload_n 2, 1) := by decide +kernel
theorem dL_law_1561 : decode cL_law 1561 = .ok (.invokevirtual 144, 3) := by decide +kernel
theorem dL_law_1564 : decode cL_law 1564 = .ok (.iload 6, 2) := by decide +kernel
theorem dL_law_1566 : decode cL_law 1566 = .ok (.if_icmp .eq 5, 3) := by decide +kernel
theorem dL_law_1569 : decode cL_law 1569 = .ok (.iconst 0, 1) := by decide +kernel
theorem dL_law_1570 : decode cL_law 1570 = .ok (.ireturn, 1) := by decide +kernel
theorem dL_law_1571 : decode cL_law 1571 = .ok (.iload 6, 2) := by decide +kernel
theorem dL_law_1573 : decode cL_law 1573 = .ok (.ifCond .ne 15, 3) := by decide +kernel
theorem dL_law_1576 : decode cL_law 1576 = .ok (.aload_n 3, 1) := by decide +kernel
theorem dL_law_1577 : decode cL_law 1577 = .ok (.iconst 0, 1) := by decide +kernel
theorem dL_law_1578 : decode cL_law 1578 = .ok (.laload, 1) := by decide +kernel
theorem dL_law_1579 : decode cL_law 1579 = .ok (.iload 7, 2) := by decide +kernel
theorem dL_law_1581 : decode cL_law 1581 = .ok (.i2l, 1) := by decide +kernel
theorem dL_law_1582 : decode cL_law 1582 = .ok (.lcmp, 1) := by decide +kernel
theorem dL_law_1583 : decode cL_law 1583 = .ok (.ifCond .eq 5, 3) := by decide +kernel
theorem dL_law_1586 : decode cL_law 1586 = .ok (.iconst 0, 1) := by decide +kernel
theorem dL_law_1587 : decode cL_law 1587 = .ok (.ireturn, 1) := by decide +kernel
theorem dL_law_1588 : decode cL_law 1588 = .ok (.goto 913, 3) := by decide +kernel
theorem dL_law_1591 : decode cL_law 1591 = .ok (.aload_n 1, 1) := by decide +kernel
theorem dL_law_1592 : decode cL_law 1592 = .ok (.aload_n 0, 1) := by decide +kernel
theorem dL_law_1593 : decode cL_law 1593 = .ok (.iload 5, 2) := by decide +kernel
theorem dL_law_1595 : decode cL_law 1595 = .ok (.iconst 1, 1) := by decide +kernel
theorem dL_law_1596 : decode cL_law 1596 = .ok (.iadd, 1) := by decide +kernel
theorem dL_law_1597 : decode cL_law 1597 = .ok (.iaload, 1) := by decide +kernel
theorem dL_law_1598 : decode cL_law 1598 = .ok (.aload_n 3, 1) := by decide +kernel
theorem dL_law_1599 : decode cL_law 1599 = .ok (.invokestatic 253, 3) := by decide +kernel
theorem dL_law_1602 : decode cL_law 1602 = .ok (.istore 6, 2) := by decide +kernel
theorem dL_law_1604 : decode cL_law 1604 = .ok (.aload_n 2, 1) := by decide +kernel
theorem dL_law_1605 : decode cL_law 1605 = .ok (.aload_n 0, 1) := by decide +kernel
theorem dL_law_1606 : decode cL_law 1606 = .ok (.iload 5, 2) := by decide +kernel
theorem dL_law_1608 : decode cL_law 1608 = .ok (.iconst 1, 1) := by decide +kernel
theorem dL_law_1609 : decode cL_law 1609 = .ok (.iadd, 1) := by decide +kernel
theorem dL_law_1610 : decode cL_law 1610 = .ok (.iaload, 1) := by decide +kernel
theorem dL_law_1611 : decode cL_law 1611 = .ok (.invokevirtual 255, 3) := by decide +kernel
theorem dL_law_1614 : decode cL_law 1614 = .ok (.istore 7, 2) := by decide +kernel
theorem dL_law_1616 : decode cL_law 1616 = .ok (.aload_n 2, 1) := by decide +kernel
theorem dL_law_1617 : decode cL_law 1617 = .ok (.invokevirtual 144, 3) := by decide +kernel
theorem dL_law_1620 : decode cL_law 1620 = .ok (.iload 6, 2) := by decide +kernel
theorem dL_law_1622 : decode cL_law 1622 = .ok (.if_icmp .eq 5, 3) := by decide +kernel
theorem dL_law_1625 : decode cL_law 1625 = .ok (.iconst 0, 1) := by decide +kernel
theorem dL_law_1626 : decode cL_law 1626 = .ok (.ireturn, 1) := by decide +kernel
theorem dL_law_1627 : decode cL_law 1627 = .ok (.iload 6, 2) := by decide +kernel
theorem dL_law_1629 : decode cL_law 1629 = .ok (.ifCond .ne 15, 3) := by decide +kernel
theorem dL_law_1632 : decode cL_law 1632 = .ok (.aload_n 3, 1) := by decide +kernel
theorem dL_law_1633 : decode cL_law 1633 = .ok (.iconst 0, 1) := by decide +kernel
theorem dL_law_1634 : decode cL_law 1634 = .ok (.laload, 1) := by decide +kernel
theorem dL_law_1635 : decode cL_law 1635 = .ok (.iload 7, 2) := by decide +kernel
theorem dL_law_1637 : decode cL_law 1637 = .ok (.i2l, 1) := by decide +kernel
theorem dL_law_1638 : decode cL_law 1638 = .ok (.lcmp, 1) := by decide +kernel
theorem dL_law_1639 : decode cL_law 1639 = .ok (.ifCond .eq 5, 3) := by decide +kernel
theorem dL_law_1642 : decode cL_law 1642 = .ok (.iconst 0, 1) := by decide +kernel
theorem dL_law_1643 : decode cL_law 1643 = .ok (.ireturn, 1) := by decide +kernel
theorem dL_law_1644 : decode cL_law 1644 = .ok (.goto 857, 3) := by decide +kernel
theorem dL_law_1647 : decode cL_law 1647 = .ok (.aload_n 1, 1) := by decide +kernel
theorem dL_law_1648 : decode cL_law 1648 = .ok (.aload_n 0, 1) := by decide +kernel
theorem dL_law_1649 : decode cL_law 1649 = .ok (.iload 5, 2) := by decide +kernel
theorem dL_law_1651 : decode cL_law 1651 = .ok (.iconst 1, 1) := by decide +kernel
theorem dL_law_1652 : decode cL_law 1652 = .ok (.iadd, 1) := by decide +kernel
theorem dL_law_1653 : decode cL_law 1653 = .ok (.iaload, 1) := by decide +kernel
theorem dL_law_1654 : decode cL_law 1654 = .ok (.aload_n 0, 1) := by decide +kernel
theorem dL_law_1655 : decode cL_law 1655 = .ok (.iload 5, 2) := by decide +kernel
theorem dL_law_1657 : decode cL_law 1657 = .ok (.iconst 2, 1) := by decide +kernel
theorem dL_law_1658 : decode cL_law 1658 = .ok (.iadd, 1) := by decide +kernel
theorem dL_law_1659 : decode cL_law 1659 = .ok (.iaload, 1) := by decide +kernel
theorem dL_law_1660 : decode cL_law 1660 = .ok (.aload_n 0, 1) := by decide +kernel
theorem dL_law_1661 : decode cL_law 1661 = .ok (.iload 5, 2) := by decide +kernel
theorem dL_law_1663 : decode cL_law 1663 = .ok (.iconst 3, 1) := by decide +kernel
theorem dL_law_1664 : decode cL_law 1664 = .ok (.iadd, 1) := by decide +kernel
theorem dL_law_1665 : decode cL_law 1665 = .ok (.iaload, 1) := by decide +kernel
theorem dL_law_1666 : decode cL_law 1666 = .ok (.aload_n 0, 1) := by decide +kernel
theorem dL_law_1667 : decode cL_law 1667 = .ok (.iload 5, 2) := by decide +kernel
theorem dL_law_1669 : decode cL_law 1669 = .ok (.iconst 4, 1) := by decide +kernel
theorem dL_law_1670 : decode cL_law 1670 = .ok (.iadd, 1) := by decide +kernel
theorem dL_law_1671 : decode cL_law 1671 = .ok (.iaload, 1) := by decide +kernel
theorem dL_law_1672 : decode cL_law 1672 = .ok (.aload_n 3, 1) := by decide +kernel
theorem dL_law_1673 : decode cL_law 1673 = .ok (.invokestatic 256, 3) := by decide +kernel
theorem dL_law_1676 : decode cL_law 1676 = .ok (.istore 6, 2) := by decide +kernel
theorem dL_law_1678 : decode cL_law 1678 = .ok (.aload_n 2, 1) := by decide +kernel
theorem dL_law_1679 : decode cL_law 1679 = .ok (.aload_n 0, 1) := by decide +kernel
theorem dL_law_1680 : decode cL_law 1680 = .ok (.iload 5, 2) := by decide +kernel
theorem dL_law_1682 : decode cL_law 1682 = .ok (.iconst 1, 1) := by decide +kernel
theorem dL_law_1683 : decode cL_law 1683 = .ok (.iadd, 1) := by decide +kernel
theorem dL_law_1684 : decode cL_law 1684 = .ok (.iaload, 1) := by decide +kernel
theorem dL_law_1685 : decode cL_law 1685 = .ok (.aload_n 0, 1) := by decide +kernel
theorem dL_law_1686 : decode cL_law 1686 = .ok (.iload 5, 2) := by decide +kernel
theorem dL_law_1688 : decode cL_law 1688 = .ok (.iconst 2, 1) := by decide +kernel
theorem dL_law_1689 : decode cL_law 1689 = .ok (.iadd, 1) := by decide +kernel
theorem dL_law_1690 : decode cL_law 1690 = .ok (.iaload, 1) := by decide +kernel
theorem dL_law_1691 : decode cL_law 1691 = .ok (.aload_n 0, 1) := by decide +kernel
theorem dL_law_1692 : decode cL_law 1692 = .ok (.iload 5, 2) := by decide +kernel
theorem dL_law_1694 : decode cL_law 1694 = .ok (.iconst 3, 1) := by decide +kernel
theorem dL_law_1695 : decode cL_law 1695 = .ok (.iadd, 1) := by decide +kernel
theorem dL_law_1696 : decode cL_law 1696 = .ok (.iaload, 1) := by decide +kernel
theorem dL_law_1697 : decode cL_law 1697 = .ok (.aload_n 0, 1) := by decide +kernel
theorem dL_law_1698 : decode cL_law 1698 = .ok (.iload 5, 2) := by decide +kernel
theorem dL_law_1700 : decode cL_law 1700 = .ok (.iconst 4, 1) := by decide +kernel
theorem dL_law_1701 : decode cL_law 1701 = .ok (.iadd, 1) := by decide +kernel
theorem dL_law_1702 : decode cL_law 1702 = .ok (.iaload, 1) := by decide +kernel
theorem dL_law_1703 : decode cL_law 1703 = .ok (.invokevirtual 258, 3) := by decide +kernel
theorem dL_law_1706 : decode cL_law 1706 = .ok (.istore 7, 2) := by decide +kernel
theorem dL_law_1708 : decode cL_law 1708 = .ok (.aload_n 2, 1) := by decide +kernel
theorem dL_law_1709 : decode cL_law 1709 = .ok (.invokevirtual 144, 3) := by decide +kernel
theorem dL_law_1712 : decode cL_law 1712 = .ok (.iload 6, 2) := by decide +kernel
theorem dL_law_1714 : decode cL_law 1714 = .ok (.if_icmp .eq 5, 3) := by decide +kernel
theorem dL_law_1717 : decode cL_law 1717 = .ok (.iconst 0, 1) := by decide +kernel
theorem dL_law_1718 : decode cL_law 1718 = .ok (.ireturn, 1) := by decide +kernel
theorem dL_law_1719 : decode cL_law 1719 = .ok (.iload 6, 2) := by decide +kernel
theorem dL_law_1721 : decode cL_law 1721 = .ok (.ifCond .ne 22, 3) := by decide +kernel
theorem dL_law_1724 : decode cL_law 1724 = .ok (.aload_n 3, 1) := by decide +kernel
theorem dL_law_1725 : decode cL_law 1725 = .ok (.iconst 0, 1) := by decide +kernel
theorem dL_law_1726 : decode cL_law 1726 = .ok (.laload, 1) := by decide +kernel
theorem dL_law_1727 : decode cL_law 1727 = .ok (.iload 7, 2) := by decide +kernel
theorem dL_law_1729 : decode cL_law 1729 = .ok (.ifCond .eq 7, 3) := by decide +kernel
theorem dL_law_1732 : decode cL_law 1732 = .ok (.lconst 1, 1) := by decide +kernel
theorem dL_law_1733 : decode cL_law 1733 = .ok (.goto 4, 3) := by decide +kernel
theorem dL_law_1736 : decode cL_law 1736 = .ok (.lconst 0, 1) := by decide +kernel
theorem dL_law_1737 : decode cL_law 1737 = .ok (.lcmp, 1) := by decide +kernel
theorem dL_law_1738 : decode cL_law 1738 = .ok (.ifCond .eq 5, 3) := by decide +kernel
theorem dL_law_1741 : decode cL_law 1741 = .ok (.iconst 0, 1) := by decide +kernel
theorem dL_law_1742 : decode cL_law 1742 = .ok (.ireturn, 1) := by decide +kernel
theorem dL_law_1743 : decode cL_law 1743 = .ok (.goto 758, 3) := by decide +kernel
theorem dL_law_1746 : decode cL_law 1746 = .ok (.aload_n 1, 1) := by decide +kernel
theorem dL_law_1747 : decode cL_law 1747 = .ok (.aload_n 0, 1) := by decide +kernel
theorem dL_law_1748 : decode cL_law 1748 = .ok (.iload 5, 2) := by decide +kernel
theorem dL_law_1750 : decode cL_law 1750 = .ok (.iconst 1, 1) := by decide +kernel
theorem dL_law_1751 : decode cL_law 1751 = .ok (.iadd, 1) := by decide +kernel
theorem dL_law_1752 : decode cL_law 1752 = .ok (.iaload, 1) := by decide +kernel
theorem dL_law_1753 : decode cL_law 1753 = .ok (.aload_n 0, 1) := by decide +kernel
theorem dL_law_1754 : decode cL_law 1754 = .ok (.iload 5, 2) := by decide +kernel
theorem dL_law_1756 : decode cL_law 1756 = .ok (.iconst 2, 1) := by decide +kernel
theorem dL_law_1757 : decode cL_law 1757 = .ok (.iadd, 1) := by decide +kernel
theorem dL_law_1758 : decode cL_law 1758 = .ok (.iaload, 1) := by decide +kernel
theorem dL_law_1759 : decode cL_law 1759 = .ok (.aload_n 3, 1) := by decide +kernel
theorem dL_law_1760 : decode cL_law 1760 = .ok (.invokestatic 259, 3) := by decide +kernel
theorem dL_law_1763 : decode cL_law 1763 = .ok (.istore 6, 2) := by decide +kernel
theorem dL_law_1765 : decode cL_law 1765 = .ok (.aload_n 2, 1) := by decide +kernel
theorem dL_law_1766 : decode cL_law 1766 = .ok (.aload_n 0, 1) := by decide +kernel
theorem dL_law_1767 : decode cL_law 1767 = .ok (.iload 5, 2) := by decide +kernel
theorem dL_law_1769 : decode cL_law 1769 = .ok (.iconst 1, 1) := by decide +kernel
theorem dL_law_1770 : decode cL_law 1770 = .ok (.iadd, 1) := by decide +kernel
theorem dL_law_1771 : decode cL_law 1771 = .ok (.iaload, 1) := by decide +kernel
theorem dL_law_1772 : decode cL_law 1772 = .ok (.aload_n 0, 1) := by decide +kernel
theorem dL_law_1773 : decode cL_law 1773 = .ok (.iload 5, 2) := by decide +kernel
theorem dL_law_1775 : decode cL_law 1775 = .ok (.iconst 2, 1) := by decide +kernel
theorem dL_law_1776 : decode cL_law 1776 = .ok (.iadd, 1) := by decide +kernel
theorem dL_law_1777 : decode cL_law 1777 = .ok (.iaload, 1) := by decide +kernel
theorem dL_law_1778 : decode cL_law 1778 = .ok (.invokevirtual 262, 3) := by decide +kernel
theorem dL_law_1781 : decode cL_law 1781 = .ok (.istore 7, 2) := by decide +kernel
theorem dL_law_1783 : decode cL_law 1783 = .ok (.aload_n 2, 1) := by decide +kernel
theorem dL_law_1784 : decode cL_law 1784 = .ok (.invokevirtual 144, 3) := by decide +kernel
theorem dL_law_1787 : decode cL_law 1787 = .ok (.iload 6, 2) := by decide +kernel
theorem dL_law_1789 : decode cL_law 1789 = .ok (.if_icmp .eq 5, 3) := by decide +kernel
theorem dL_law_1792 : decode cL_law 1792 = .ok (.iconst 0, 1) := by decide +kernel
theorem dL_law_1793 : decode cL_law 1793 = .ok (.ireturn, 1) := by decide +kernel
theorem dL_law_1794 : decode cL_law 1794 = .ok (.iload 6, 2) := by decide +kernel
theorem dL_law_1796 : decode cL_law 1796 = .ok (.ifCond .ne 15, 3) := by decide +kernel
theorem dL_law_1799 : decode cL_law 1799 = .ok (.aload_n 3, 1) := by decide +kernel
theorem dL_law_1800 : decode cL_law 1800 = .ok (.iconst 0, 1) := by decide +kernel
theorem dL_law_1801 : decode cL_law 1801 = .ok (.laload, 1) := by decide +kernel
theorem dL_law_1802 : decode cL_law 1802 = .ok (.iload 7, 2) := by decide +kernel
theorem dL_law_1804 : decode cL_law 1804 = .ok (.i2l, 1) := by decide +kernel
theorem dL_law_1805 : decode cL_law 1805 = .ok (.lcmp, 1) := by decide +kernel
theorem dL_law_1806 : decode cL_law 1806 = .ok (.ifCond .eq 5, 3) := by decide +kernel
theorem dL_law_1809 : decode cL_law 1809 = .ok (.iconst 0, 1) := by decide +kernel
theorem dL_law_1810 : decode cL_law 1810 = .ok (.ireturn, 1) := by decide +kernel
theorem dL_law_1811 : decode cL_law 1811 = .ok (.goto 690, 3) := by decide +kernel
theorem dL_law_1814 : decode cL_law 1814 = .ok (.aload_n 1, 1) := by decide +kernel
theorem dL_law_1815 : decode cL_law 1815 = .ok (.aload_n 0, 1) := by decide +kernel
theorem dL_law_1816 : decode cL_law 1816 = .ok (.iload 5, 2) := by decide +kernel
theorem dL_law_1818 : decode cL_law 1818 = .ok (.iconst 1, 1) := by decide +kernel
theorem dL_law_1819 : decode cL_law 1819 = .ok (.iadd, 1) := by decide +kernel
theorem dL_law_1820 : decode cL_law 1820 = .ok (.iaload, 1) := by decide +kernel
theorem dL_law_1821 : decode cL_law 1821 = .ok (.aload_n 3, 1) := by decide +kernel
theorem dL_law_1822 : decode cL_law 1822 = .ok (.invokestatic 263, 3) := by decide +kernel
theorem dL_law_1825 : decode cL_law 1825 = .ok (.istore 6, 2) := by decide +kernel
theorem dL_law_1827 : decode cL_law 1827 = .ok (.aload_n 2, 1) := by decide +kernel
theorem dL_law_1828 : decode cL_law 1828 = .ok (.aload_n 0, 1) := by decide +kernel
theorem dL_law_1829 : decode cL_law 1829 = .ok (.iload 5, 2) := by decide +kernel
theorem dL_law_1831 : decode cL_law 1831 = .ok (.iconst 1, 1) := by decide +kernel
theorem dL_law_1832 : decode cL_law 1832 = .ok (.iadd, 1) := by decide +kernel
theorem dL_law_1833 : decode cL_law 1833 = .ok (.iaload, 1) := by decide +kernel
theorem dL_law_1834 : decode cL_law 1834 = .ok (.invokevirtual 265, 3) := by decide +kernel
theorem dL_law_1837 : decode cL_law 1837 = .ok (.istore 7, 2) := by decide +kernel
theorem dL_law_1839 : decode cL_law 1839 = .ok (.aload_n 2, 1) := by decide +kernel
theorem dL_law_1840 : decode cL_law 1840 = .ok (.invokevirtual 144, 3) := by decide +kernel
theorem dL_law_1843 : decode cL_law 1843 = .ok (.iload 6, 2) := by decide +kernel
theorem dL_law_1845 : decode cL_law 1845 = .ok (.if_icmp .eq 5, 3) := by decide +kernel
theorem dL_law_1848 : decode cL_law 1848 = .ok (.iconst 0, 1) := by decide +kernel
theorem dL_law_1849 : decode cL_law 1849 = .ok (.ireturn, 1) := by decide +kernel
theorem dL_law_1850 : decode cL_law 1850 = .ok (.iload 6, 2) := by decide +kernel
theorem dL_law_1852 : decode cL_law 1852 = .ok (.ifCond .ne 15, 3) := by decide +kernel
theorem dL_law_1855 : decode cL_law 1855 = .ok (.aload_n 3, 1) := by decide +kernel
theorem dL_law_1856 : decode cL_law 1856 = .ok (.iconst 0, 1) := by decide +kernel
theorem dL_law_1857 : decode cL_law 1857 = .ok (.laload, 1) := by decide +kernel
theorem dL_law_1858 : decode cL_law 1858 = .ok (.iload 7, 2) := by decide +kernel
theorem dL_law_1860 : decode cL_law 1860 = .ok (.i2l, 1) := by decide +kernel
theorem dL_law_1861 : decode cL_law 1861 = .ok (.lcmp, 1) := by decide +kernel
theorem dL_law_1862 : decode cL_law 1862 = .ok (.ifCond .eq 5, 3) := by decide +kernel
theorem dL_law_1865 : decode cL_law 1865 = .ok (.iconst 0, 1) := by decide +kernel
theorem dL_law_1866 : decode cL_law 1866 = .ok (.ireturn, 1) := by decide +kernel
theorem dL_law_1867 : decode cL_law 1867 = .ok (.goto 634, 3) := by decide +kernel
theorem dL_law_1870 : decode cL_law 1870 = .ok (.aload_n 1, 1) := by decide +kernel
theorem dL_law_1871 : decode cL_law 1871 = .ok (.aload_n 0, 1) := by decide +kernel
theorem dL_law_1872 : decode cL_law 1872 = .ok (.iload 5, 2) := by decide +kernel
theorem dL_law_1874 : decode cL_law 1874 = .ok (.iconst 1, 1) := by decide +kernel
theorem dL_law_1875 : decode cL_law 1875 = .ok (.iadd, 1) := by decide +kernel
theorem dL_law_1876 : decode cL_law 1876 = .ok (.iaload, 1) := by decide +kernel
theorem dL_law_1877 : decode cL_law 1877 = .ok (.aload_n 0, 1) := by decide +kernel
theorem dL_law_1878 : decode cL_law 1878 = .ok (.iload 5, 2) := by decide +kernel
theorem dL_law_1880 : decode cL_law 1880 = .ok (.iconst 2, 1) := by decide +kernel
theorem dL_law_1881 : decode cL_law 1881 = .ok (.iadd, 1) := by decide +kernel
theorem dL_law_1882 : decode cL_law 1882 = .ok (.iaload, 1) := by decide +kernel
theorem dL_law_1883 : decode cL_law 1883 = .ok (.aload_n 3, 1) := by decide +kernel
theorem dL_law_1884 : decode cL_law 1884 = .ok (.invokestatic 266, 3) := by decide +kernel
theorem dL_law_1887 : decode cL_law 1887 = .ok (.istore 6, 2) := by decide +kernel
theorem dL_law_1889 : decode cL_law 1889 = .ok (.aload_n 2, 1) := by decide +kernel
theorem dL_law_1890 : decode cL_law 1890 = .ok (.aload_n 0, 1) := by decide +kernel
theorem dL_law_1891 : decode cL_law 1891 = .ok (.iload 5, 2) := by decide +kernel
theorem dL_law_1893 : decode cL_law 1893 = .ok (.iconst 1, 1) := by decide +kernel
theorem dL_law_1894 : decode cL_law 1894 = .ok (.iadd, 1) := by decide +kernel
theorem dL_law_1895 : decode cL_law 1895 = .ok (.iaload, 1) := by decide +kernel
theorem dL_law_1896 : decode cL_law 1896 = .ok (.aload_n 0, 1) := by decide +kernel
theorem dL_law_1897 : decode cL_law 1897 = .ok (.iload 5, 2) := by decide +kernel
theorem dL_law_1899 : decode cL_law 1899 = .ok (.iconst 2, 1) := by decide +kernel
theorem dL_law_1900 : decode cL_law 1900 = .ok (.iadd, 1) := by decide +kernel
theorem dL_law_1901 : decode cL_law 1901 = .ok (.iaload, 1) := by decide +kernel
theorem dL_law_1902 : decode cL_law 1902 = .ok (.invokevirtual 268, 3) := by decide +kernel
theorem dL_law_1905 : decode cL_law 1905 = .ok (.istore 7, 2) := by decide +kernel
theorem dL_law_1907 : decode cL_law 1907 = .ok (.aload_n 2, 1) := by decide +kernel
theorem dL_law_1908 : decode cL_law 1908 = .ok (.invokevirtual 144, 3) := by decide +kernel
theorem dL_law_1911 : decode cL_law 1911 = .ok (.iload 6, 2) := by decide +kernel
theorem dL_law_1913 : decode cL_law 1913 = .ok (.if_icmp .eq 5, 3) := by decide +kernel
theorem dL_law_1916 : decode cL_law 1916 = .ok (.iconst 0, 1) := by decide +kernel
theorem dL_law_1917 : decode cL_law 1917 = .ok (.ireturn, 1) := by decide +kernel
theorem dL_law_1918 : decode cL_law 1918 = .ok (.iload 6, 2) := by decide +kernel
theorem dL_law_1920 : decode cL_law 1920 = .ok (.ifCond .ne 15, 3) := by decide +kernel
theorem dL_law_1923 : decode cL_law 1923 = .ok (.aload_n 3, 1) := by decide +kernel
theorem dL_law_1924 : decode cL_law 1924 = .ok (.iconst 0, 1) := by decide +kernel
theorem dL_law_1925 : decode cL_law 1925 = .ok (.laload, 1) := by decide +kernel
theorem dL_law_1926 : decode cL_law 1926 = .ok (.iload 7, 2) := by decide +kernel
theorem dL_law_1928 : decode cL_law 1928 = .ok (.i2l, 1) := by decide +kernel
theorem dL_law_1929 : decode cL_law 1929 = .ok (.lcmp, 1) := by decide +kernel
theorem dL_law_1930 : decode cL_law 1930 = .ok (.ifCond .eq 5, 3) := by decide +kernel
theorem dL_law_1933 : decode cL_law 1933 = .ok (.iconst 0, 1) := by decide +kernel
theorem dL_law_1934 : decode cL_law 1934 = .ok (.ireturn, 1) := by decide +kernel
theorem dL_law_1935 : decode cL_law 1935 = .ok (.goto 566, 3) := by decide +kernel
theorem dL_law_1938 : decode cL_law 1938 = .ok (.aload_n 1, 1) := by decide +kernel
theorem dL_law_1939 : decode cL_law 1939 = .ok (.aload_n 0, 1) := by decide +kernel
theorem dL_law_1940 : decode cL_law 1940 = .ok (.iload 5, 2) := by decide +kernel
theorem dL_law_1942 : decode cL_law 1942 = .ok (.iconst 1, 1) := by decide +kernel
theorem dL_law_1943 : decode cL_law 1943 = .ok (.iadd, 1) := by decide +kernel
theorem dL_law_1944 : decode cL_law 1944 = .ok (.iaload, 1) := by decide +kernel
theorem dL_law_1945 : decode cL_law 1945 = .ok (.aload_n 0, 1) := by decide +kernel
theorem dL_law_1946 : decode cL_law 1946 = .ok (.iload 5, 2) := by decide +kernel
theorem dL_law_1948 : decode cL_law 1948 = .ok (.iconst 2, 1) := by decide +kernel
theorem dL_law_1949 : decode cL_law 1949 = .ok (.iadd, 1) := by decide +kernel
theorem dL_law_1950 : decode cL_law 1950 = .ok (.iaload, 1) := by decide +kernel
theorem dL_law_1951 : decode cL_law 1951 = .ok (.aload_n 3, 1) := by decide +kernel
theorem dL_law_1952 : decode cL_law 1952 = .ok (.invokestatic 269, 3) := by decide +kernel
theorem dL_law_1955 : decode cL_law 1955 = .ok (.istore 6, 2) := by decide +kernel
theorem dL_law_1957 : decode cL_law 1957 = .ok (.aload_n 2, 1) := by decide +kernel
theorem dL_law_1958 : decode cL_law 1958 = .ok (.aload_n 0, 1) := by decide +kernel
theorem dL_law_1959 : decode cL_law 1959 = .ok (.iload 5, 2) := by decide +kernel
theorem dL_law_1961 : decode cL_law 1961 = .ok (.iconst 1, 1) := by decide +kernel
theorem dL_law_1962 : decode cL_law 1962 = .ok (.iadd, 1) := by decide +kernel
theorem dL_law_1963 : decode cL_law 1963 = .ok (.iaload, 1) := by decide +kernel
theorem dL_law_1964 : decode cL_law 1964 = .ok (.aload_n 0, 1) := by decide +kernel
theorem dL_law_1965 : decode cL_law 1965 = .ok (.iload 5, 2) := by decide +kernel
theorem dL_law_1967 : decode cL_law 1967 = .ok (.iconst 2, 1) := by decide +kernel
theorem dL_law_1968 : decode cL_law 1968 = .ok (.iadd, 1) := by decide +kernel
theorem dL_law_1969 : decode cL_law 1969 = .ok (.iaload, 1) := by decide +kernel
theorem dL_law_1970 : decode cL_law 1970 = .ok (.invokevirtual 271, 3) := by decide +kernel
theorem dL_law_1973 : decode cL_law 1973 = .ok (.istore 7, 2) := by decide +kernel
theorem dL_law_1975 : decode cL_law 1975 = .ok (.aload_n 2, 1) := by decide +kernel
theorem dL_law_1976 : decode cL_law 1976 = .ok (.invokevirtual 144, 3) := by decide +kernel
theorem dL_law_1979 : decode cL_law 1979 = .ok (.iload 6, 2) := by decide +kernel
theorem dL_law_1981 : decode cL_law 1981 = .ok (.if_icmp .eq 5, 3) := by decide +kernel
theorem dL_law_1984 : decode cL_law 1984 = .ok (.iconst 0, 1) := by decide +kernel
theorem dL_law_1985 : decode cL_law 1985 = .ok (.ireturn, 1) := by decide +kernel
theorem dL_law_1986 : decode cL_law 1986 = .ok (.iload 6, 2) := by decide +kernel
theorem dL_law_1988 : decode cL_law 1988 = .ok (.ifCond .ne 15, 3) := by decide +kernel
theorem dL_law_1991 : decode cL_law 1991 = .ok (.aload_n 3, 1) := by decide +kernel
theorem dL_law_1992 : decode cL_law 1992 = .ok (.iconst 0, 1) := by decide +kernel
theorem dL_law_1993 : decode cL_law 1993 = .ok (.laload, 1) := by decide +kernel
theorem dL_law_1994 : decode cL_law 1994 = .ok (.iload 7, 2) := by decide +kernel
theorem dL_law_1996 : decode cL_law 1996 = .ok (.i2l, 1) := by decide +kernel
theorem dL_law_1997 : decode cL_law 1997 = .ok (.lcmp, 1) := by decide +kernel
theorem dL_law_1998 : decode cL_law 1998 = .ok (.ifCond .eq 5, 3) := by decide +kernel
theorem dL_law_2001 : decode cL_law 2001 = .ok (.iconst 0, 1) := by decide +kernel
theorem dL_law_2002 : decode cL_law 2002 = .ok (.ireturn, 1) := by decide +kernel
theorem dL_law_2003 : decode cL_law 2003 = .ok (.goto 498, 3) := by decide +kernel
theorem dL_law_2006 : decode cL_law 2006 = .ok (.aload_n 1, 1) := by decide +kernel
theorem dL_law_2007 : decode cL_law 2007 = .ok (.aload_n 0, 1) := by decide +kernel
theorem dL_law_2008 : decode cL_law 2008 = .ok (.iload 5, 2) := by decide +kernel
theorem dL_law_2010 : decode cL_law 2010 = .ok (.iconst 1, 1) := by decide +kernel
theorem dL_law_2011 : decode cL_law 2011 = .ok (.iadd, 1) := by decide +kernel
theorem dL_law_2012 : decode cL_law 2012 = .ok (.iaload, 1) := by decide +kernel
theorem dL_law_2013 : decode cL_law 2013 = .ok (.aload_n 0, 1) := by decide +kernel
theorem dL_law_2014 : decode cL_law 2014 = .ok (.iload 5, 2) := by decide +kernel
theorem dL_law_2016 : decode cL_law 2016 = .ok (.iconst 2, 1) := by decide +kernel
theorem dL_law_2017 : decode cL_law 2017 = .ok (.iadd, 1) := by decide +kernel
theorem dL_law_2018 : decode cL_law 2018 = .ok (.iaload, 1) := by decide +kernel
theorem dL_law_2019 : decode cL_law 2019 = .ok (.aload_n 3, 1) := by decide +kernel
theorem dL_law_2020 : decode cL_law 2020 = .ok (.invokestatic 272, 3) := by decide +kernel
theorem dL_law_2023 : decode cL_law 2023 = .ok (.istore 6, 2) := by decide +kernel
theorem dL_law_2025 : decode cL_law 2025 = .ok (.aload_n 2, 1) := by decide +kernel
theorem dL_law_2026 : decode cL_law 2026 = .ok (.aload_n 0, 1) := by decide +kernel
theorem dL_law_2027 : decode cL_law 2027 = .ok (.iload 5, 2) := by decide +kernel
theorem dL_law_2029 : decode cL_law 2029 = .ok (.iconst 1, 1) := by decide +kernel
theorem dL_law_2030 : decode cL_law 2030 = .ok (.iadd, 1) := by decide +kernel
theorem dL_law_2031 : decode cL_law 2031 = .ok (.iaload, 1) := by decide +kernel
theorem dL_law_2032 : decode cL_law 2032 = .ok (.aload_n 0, 1) := by decide +kernel
theorem dL_law_2033 : decode cL_law 2033 = .ok (.iload 5, 2) := by decide +kernel
theorem dL_law_2035 : decode cL_law 2035 = .ok (.iconst 2, 1) := by decide +kernel
theorem dL_law_2036 : decode cL_law 2036 = .ok (.iadd, 1) := by decide +kernel
theorem dL_law_2037 : decode cL_law 2037 = .ok (.iaload, 1) := by decide +kernel
theorem dL_law_2038 : decode cL_law 2038 = .ok (.invokevirtual 274, 3) := by decide +kernel
theorem dL_law_2041 : decode cL_law 2041 = .ok (.istore 7, 2) := by decide +kernel
theorem dL_law_2043 : decode cL_law 2043 = .ok (.aload_n 2, 1) := by decide +kernel
theorem dL_law_2044 : decode cL_law 2044 = .ok (.invokevirtual 144, 3) := by decide +kernel
theorem dL_law_2047 : decode cL_law 2047 = .ok (.iload 6, 2) := by decide +kernel
theorem dL_law_2049 : decode cL_law 2049 = .ok (.if_icmp .eq 5, 3) := by decide +kernel
theorem dL_law_2052 : decode cL_law 2052 = .ok (.iconst 0, 1) := by decide +kernel
theorem dL_law_2053 : decode cL_law 2053 = .ok (.ireturn, 1) := by decide +kernel
theorem dL_law_2054 : decode cL_law 2054 = .ok (.iload 6, 2) := by decide +kernel
theorem dL_law_2056 : decode cL_law 2056 = .ok (.ifCond .ne 22, 3) := by decide +kernel
theorem dL_law_2059 : decode cL_law 2059 = .ok (.aload_n 3, 1) := by decide +kernel
theorem dL_law_2060 : decode cL_law 2060 = .ok (.iconst 0, 1) := by decide +kernel
theorem dL_law_2061 : decode cL_law 2061 = .ok (.laload, 1) := by decide +kernel
theorem dL_law_2062 : decode cL_law 2062 = .ok (.iload 7, 2) := by decide +kernel
theorem dL_law_2064 : decode cL_law 2064 = .ok (.ifCond .eq 7, 3) := by decide +kernel
theorem dL_law_2067 : decode cL_law 2067 = .ok (.lconst 1, 1) := by decide +kernel
theorem dL_law_2068 : decode cL_law 2068 = .ok (.goto 4, 3) := by decide +kernel
theorem dL_law_2071 : decode cL_law 2071 = .ok (.lconst 0, 1) := by decide +kernel
theorem dL_law_2072 : decode cL_law 2072 = .ok (.lcmp, 1) := by decide +kernel
theorem dL_law_2073 : decode cL_law 2073 = .ok (.ifCond .eq 5, 3) := by decide +kernel
theorem dL_law_2076 : decode cL_law 2076 = .ok (.iconst 0, 1) := by decide +kernel
theorem dL_law_2077 : decode cL_law 2077 = .ok (.ireturn, 1) := by decide +kernel
theorem dL_law_2078 : decode cL_law 2078 = .ok (.goto 423, 3) := by decide +kernel
theorem dL_law_2081 : decode cL_law 2081 = .ok (.aload_n 1, 1) := by decide +kernel
theorem dL_law_2082 : decode cL_law 2082 = .ok (.aload_n 0, 1) := by decide +kernel
theorem dL_law_2083 : decode cL_law 2083 = .ok (.iload 5, 2) := by decide +kernel
theorem dL_law_2085 : decode cL_law 2085 = .ok (.iconst 1, 1) := by decide +kernel
theorem dL_law_2086 : decode cL_law 2086 = .ok (.iadd, 1) := by decide +kernel
theorem dL_law_2087 : decode cL_law 2087 = .ok (.iaload, 1) := by decide +kernel
theorem dL_law_2088 : decode cL_law 2088 = .ok (.aload_n 0, 1) := by decide +kernel
theorem dL_law_2089 : decode cL_law 2089 = .ok (.iload 5, 2) := by decide +kernel
theorem dL_law_2091 : decode cL_law 2091 = .ok (.iconst 2, 1) := by decide +kernel
theorem dL_law_2092 : decode cL_law 2092 = .ok (.iadd, 1) := by decide +kernel
theorem dL_law_2093 : decode cL_law 2093 = .ok (.iaload, 1) := by decide +kernel
theorem dL_law_2094 : decode cL_law 2094 = .ok (.aload_n 3, 1) := by decide +kernel
theorem dL_law_2095 : decode cL_law 2095 = .ok (.invokestatic 275, 3) := by decide +kernel
theorem dL_law_2098 : decode cL_law 2098 = .ok (.istore 6, 2) := by decide +kernel
theorem dL_law_2100 : decode cL_law 2100 = .ok (.aload_n 2, 1) := by decide +kernel
theorem dL_law_2101 : decode cL_law 2101 = .ok (.aload_n 0, 1) := by decide +kernel
theorem dL_law_2102 : decode cL_law 2102 = .ok (.iload 5, 2) := by decide +kernel
theorem dL_law_2104 : decode cL_law 2104 = .ok (.iconst 1, 1) := by decide +kernel
theorem dL_law_2105 : decode cL_law 2105 = .ok (.iadd, 1) := by decide +kernel
theorem dL_law_2106 : decode cL_law 2106 = .ok (.iaload, 1) := by decide +kernel
theorem dL_law_2107 : decode cL_law 2107 = .ok (.aload_n 0, 1) := by decide +kernel
theorem dL_law_2108 : decode cL_law 2108 = .ok (.iload 5, 2) := by decide +kernel
theorem dL_law_2110 : decode cL_law 2110 = .ok (.iconst 2, 1) := by decide +kernel
theorem dL_law_2111 : decode cL_law 2111 = .ok (.iadd, 1) := by decide +kernel
theorem dL_law_2112 : decode cL_law 2112 = .ok (.iaload, 1) := by decide +kernel
theorem dL_law_2113 : decode cL_law 2113 = .ok (.invokevirtual 277, 3) := by decide +kernel
theorem dL_law_2116 : decode cL_law 2116 = .ok (.lstore 7, 2) := by decide +kernel
theorem dL_law_2118 : decode cL_law 2118 = .ok (.aload_n 2, 1) := by decide +kernel
theorem dL_law_2119 : decode cL_law 2119 = .ok (.invokevirtual 144, 3) := by decide +kernel
theorem dL_law_2122 : decode cL_law 2122 = .ok (.iload 6, 2) := by decide +kernel
theorem dL_law_2124 : decode cL_law 2124 = .ok (.if_icmp .eq 5, 3) := by decide +kernel
theorem dL_law_2127 : decode cL_law 2127 = .ok (.iconst 0, 1) := by decide +kernel
theorem dL_law_2128 : decode cL_law 2128 = .ok (.ireturn, 1) := by decide +kernel
theorem dL_law_2129 : decode cL_law 2129 = .ok (.iload 6, 2) := by decide +kernel
theorem dL_law_2131 : decode cL_law 2131 = .ok (.ifCond .ne 14, 3) := by decide +kernel
theorem dL_law_2134 : decode cL_law 2134 = .ok (.aload_n 3, 1) := by decide +kernel
theorem dL_law_2135 : decode cL_law 2135 = .ok (.iconst 0, 1) := by decide +kernel
theorem dL_law_2136 : decode cL_law 2136 = .ok (.laload, 1) := by decide +kernel
theorem dL_law_2137 : decode cL_law 2137 = .ok (.lload 7, 2) := by decide +kernel
theorem dL_law_2139 : decode cL_law 2139 = .ok (.lcmp, 1) := by decide +kernel
theorem dL_law_2140 : decode cL_law 2140 = .ok (.ifCond .eq 5, 3) := by decide +kernel
theorem dL_law_2143 : decode cL_law 2143 = .ok (.iconst 0, 1) := by decide +kernel
theorem dL_law_2144 : decode cL_law 2144 = .ok (.ireturn, 1) := by decide +kernel
theorem dL_law_2145 : decode cL_law 2145 = .ok (.goto 356, 3) := by decide +kernel
theorem dL_law_2148 : decode cL_law 2148 = .ok (.aload_n 1, 1) := by decide +kernel
theorem dL_law_2149 : decode cL_law 2149 = .ok (.aload_n 0, 1) := by decide +kernel
theorem dL_law_2150 : decode cL_law 2150 = .ok (.iload 5, 2) := by decide +kernel
theorem dL_law_2152 : decode cL_law 2152 = .ok (.iconst 1, 1) := by decide +kernel
theorem dL_law_2153 : decode cL_law 2153 = .ok (.iadd, 1) := by decide +kernel
theorem dL_law_2154 : decode cL_law 2154 = .ok (.iaload, 1) := by decide +kernel
theorem dL_law_2155 : decode cL_law 2155 = .ok (.aload_n 3, 1) := by decide +kernel
theorem dL_law_2156 : decode cL_law 2156 = .ok (.invokestatic 278, 3) := by decide +kernel
theorem dL_law_2159 : decode cL_law 2159 = .ok (.istore 6, 2) := by decide +kernel
theorem dL_law_2161 : decode cL_law 2161 = .ok (.aload_n 2, 1) := by decide +kernel
theorem dL_law_2162 : decode cL_law 2162 = .ok (.aload_n 0, 1) := by decide +kernel
theorem dL_law_2163 : decode cL_law 2163 = .ok (.iload 5, 2) := by decide +kernel
theorem dL_law_2165 : decode cL_law 2165 = .ok (.iconst 1, 1) := by decide +kernel
theorem dL_law_2166 : decode cL_law 2166 = .ok (.iadd, 1) := by decide +kernel
theorem dL_law_2167 : decode cL_law 2167 = .ok (.iaload, 1) := by decide +kernel
theorem dL_law_2168 : decode cL_law 2168 = .ok (.invokevirtual 280, 3) := by decide +kernel
theorem dL_law_2171 : decode cL_law 2171 = .ok (.istore 7, 2) := by decide +kernel
theorem dL_law_2173 : decode cL_law 2173 = .ok (.aload_n 2, 1) := by decide +kernel
theorem dL_law_2174 : decode cL_law 2174 = .ok (.invokevirtual 144, 3) := by decide +kernel
theorem dL_law_2177 : decode cL_law 2177 = .ok (.iload 6, 2) := by decide +kernel
theorem dL_law_2179 : decode cL_law 2179 = .ok (.if_icmp .eq 5, 3) := by decide +kernel
theorem dL_law_2182 : decode cL_law 2182 = .ok (.iconst 0, 1) := by decide +kernel
theorem dL_law_2183 : decode cL_law 2183 = .ok (.ireturn, 1) := by decide +kernel
theorem dL_law_2184 : decode cL_law 2184 = .ok (.iload 6, 2) := by decide +kernel
theorem dL_law_2186 : decode cL_law 2186 = .ok (.ifCond .ne 22, 3) := by decide +kernel
theorem dL_law_2189 : decode cL_law 2189 = .ok (.aload_n 3, 1) := by decide +kernel
theorem dL_law_2190 : decode cL_law 2190 = .ok (.iconst 0, 1) := by decide +kernel
theorem dL_law_2191 : decode cL_law 2191 = .ok (.laload, 1) := by decide +kernel
theorem dL_law_2192 : decode cL_law 2192 = .ok (.iload 7, 2) := by decide +kernel
theorem dL_law_2194 : decode cL_law 2194 = .ok (.ifCond .eq 7, 3) := by decide +kernel
theorem dL_law_2197 : decode cL_law 2197 = .ok (.lconst 1, 1) := by decide +kernel
theorem dL_law_2198 : decode cL_law 2198 = .ok (.goto 4, 3) := by decide +kernel
theorem dL_law_2201 : decode cL_law 2201 = .ok (.lconst 0, 1) := by decide +kernel
theorem dL_law_2202 : decode cL_law 2202 = .ok (.lcmp, 1) := by decide +kernel
theorem dL_law_2203 : decode cL_law 2203 = .ok (.ifCond .eq 5, 3) := by decide +kernel
theorem dL_law_2206 : decode cL_law 2206 = .ok (.iconst 0, 1) := by decide +kernel
theorem dL_law_2207 : decode cL_law 2207 = .ok (.ireturn, 1) := by decide +kernel
theorem dL_law_2208 : decode cL_law 2208 = .ok (.goto 293, 3) := by decide +kernel
theorem dL_law_2211 : decode cL_law 2211 = .ok (.aload_n 1, 1) := by decide +kernel
theorem dL_law_2212 : decode cL_law 2212 = .ok (.aload_n 0, 1) := by decide +kernel
theorem dL_law_2213 : decode cL_law 2213 = .ok (.iload 5, 2) := by decide +kernel
theorem dL_law_2215 : decode cL_law 2215 = .ok (.iconst 1, 1) := by decide +kernel
theorem dL_law_2216 : decode cL_law 2216 = .ok (.iadd, 1) := by decide +kernel
theorem dL_law_2217 : decode cL_law 2217 = .ok (.iaload, 1) := by decide +kernel
theorem dL_law_2218 : decode cL_law 2218 = .ok (.aload_n 3, 1) := by decide +kernel
theorem dL_law_2219 : decode cL_law 2219 = .ok (.invokestatic 281, 3) := by decide +kernel
theorem dL_law_2222 : decode cL_law 2222 = .ok (.istore 6, 2) := by decide +kernel
theorem dL_law_2224 : decode cL_law 2224 = .ok (.aload_n 2, 1) := by decide +kernel
theorem dL_law_2225 : decode cL_law 2225 = .ok (.aload_n 0, 1) := by decide +kernel
theorem dL_law_2226 : decode cL_law 2226 = .ok (.iload 5, 2) := by decide +kernel
theorem dL_law_2228 : decode cL_law 2228 = .ok (.iconst 1, 1) := by decide +kernel
theorem dL_law_2229 : decode cL_law 2229 = .ok (.iadd, 1) := by decide +kernel
theorem dL_law_2230 : decode cL_law 2230 = .ok (.iaload, 1) := by decide +kernel
theorem dL_law_2231 : decode cL_law 2231 = .ok (.invokevirtual 283, 3) := by decide +kernel
theorem dL_law_2234 : decode cL_law 2234 = .ok (.istore 7, 2) := by decide +kernel
theorem dL_law_2236 : decode cL_law 2236 = .ok (.aload_n 2, 1) := by decide +kernel
theorem dL_law_2237 : decode cL_law 2237 = .ok (.invokevirtual 144, 3) := by decide +kernel
theorem dL_law_2240 : decode cL_law 2240 = .ok (.iload 6, 2) := by decide +kernel
theorem dL_law_2242 : decode cL_law 2242 = .ok (.if_icmp .eq 5, 3) := by decide +kernel
theorem dL_law_2245 : decode cL_law 2245 = .ok (.iconst 0, 1) := by decide +kernel
theorem dL_law_2246 : decode cL_law 2246 = .ok (.ireturn, 1) := by decide +kernel
theorem dL_law_2247 : decode cL_law 2247 = .ok (.iload 6, 2) := by decide +kernel
theorem dL_law_2249 : decode cL_law 2249 = .ok (.ifCond .ne 15, 3) := by decide +kernel
theorem dL_law_2252 : decode cL_law 2252 = .ok (.aload_n 3, 1) := by decide +kernel
theorem dL_law_2253 : decode cL_law 2253 = .ok (.iconst 0, 1) := by decide +kernel
theorem dL_law_2254 : decode cL_law 2254 = .ok (.laload, 1) := by decide +kernel
theorem dL_law_2255 : decode cL_law 2255 = .ok (.iload 7, 2) := by decide +kernel
theorem dL_law_2257 : decode cL_law 2257 = .ok (.i2l, 1) := by decide +kernel
theorem dL_law_2258 : decode cL_law 2258 = .ok (.lcmp, 1) := by decide +kernel
theorem dL_law_2259 : decode cL_law 2259 = .ok (.ifCond .eq 5, 3) := by decide +kernel
theorem dL_law_2262 : decode cL_law 2262 = .ok (.iconst 0, 1) := by decide +kernel
theorem dL_law_2263 : decode cL_law 2263 = .ok (.ireturn, 1) := by decide +kernel
theorem dL_law_2264 : decode cL_law 2264 = .ok (.goto 237, 3) := by decide +kernel
theorem dL_law_2267 : decode cL_law 2267 = .ok (.aload_n 1, 1) := by decide +kernel
theorem dL_law_2268 : decode cL_law 2268 = .ok (.aload_n 0, 1) := by decide +kernel
theorem dL_law_2269 : decode cL_law 2269 = .ok (.iload 5, 2) := by decide +kernel
theorem dL_law_2271 : decode cL_law 2271 = .ok (.iconst 1, 1) := by decide +kernel
theorem dL_law_2272 : decode cL_law 2272 = .ok (.iadd, 1) := by decide +kernel
theorem dL_law_2273 : decode cL_law 2273 = .ok (.iaload, 1) := by decide +kernel
theorem dL_law_2274 : decode cL_law 2274 = .ok (.aload_n 0, 1) := by decide +kernel
theorem dL_law_2275 : decode cL_law 2275 = .ok (.iload 5, 2) := by decide +kernel
theorem dL_law_2277 : decode cL_law 2277 = .ok (.iconst 2, 1) := by decide +kernel
theorem dL_law_2278 : decode cL_law 2278 = .ok (.iadd, 1) := by decide +kernel
theorem dL_law_2279 : decode cL_law 2279 = .ok (.iaload, 1) := by decide +kernel
theorem dL_law_2280 : decode cL_law 2280 = .ok (.aload 4, 2) := by decide +kernel
theorem dL_law_2282 : decode cL_law 2282 = .ok (.invokestatic 284, 3) := by decide +kernel
theorem dL_law_2285 : decode cL_law 2285 = .ok (.istore 6, 2) := by decide +kernel
theorem dL_law_2287 : decode cL_law 2287 = .ok (.aload_n 2, 1) := by decide +kernel
theorem dL_law_2288 : decode cL_law 2288 = .ok (.aload_n 0, 1) := by decide +kernel
theorem dL_law_2289 : decode cL_law 2289 = .ok (.iload 5, 2) := by decide +kernel
theorem dL_law_2291 : decode cL_law 2291 = .ok (.iconst 1, 1) := by decide +kernel
theorem dL_law_2292 : decode cL_law 2292 = .ok (.iadd, 1) := by decide +kernel
theorem dL_law_2293 : decode cL_law 2293 = .ok (.iaload, 1) := by decide +kernel
theorem dL_law_2294 : decode cL_law 2294 = .ok (.aload_n 0, 1) := by decide +kernel
theorem dL_law_2295 : decode cL_law 2295 = .ok (.iload 5, 2) := by decide +kernel
theorem dL_law_2297 : decode cL_law 2297 = .ok (.iconst 2, 1) := by decide +kernel
theorem dL_law_2298 : decode cL_law 2298 = .ok (.iadd, 1) := by decide +kernel
theorem dL_law_2299 : decode cL_law 2299 = .ok (.iaload, 1) := by decide +kernel
theorem dL_law_2300 : decode cL_law 2300 = .ok (.invokevirtual 287, 3) := by decide +kernel
theorem dL_law_2303 : decode cL_law 2303 = .ok (.dstore 7, 2) := by decide +kernel
theorem dL_law_2305 : decode cL_law 2305 = .ok (.aload_n 2, 1) := by decide +kernel
theorem dL_law_2306 : decode cL_law 2306 = .ok (.invokevirtual 144, 3) := by decide +kernel
theorem dL_law_2309 : decode cL_law 2309 = .ok (.iload 6, 2) := by decide +kernel
theorem dL_law_2311 : decode cL_law 2311 = .ok (.if_icmp .eq 5, 3) := by decide +kernel
theorem dL_law_2314 : decode cL_law 2314 = .ok (.iconst 0, 1) := by decide +kernel
theorem dL_law_2315 : decode cL_law 2315 = .ok (.ireturn, 1) := by decide +kernel
theorem dL_law_2316 : decode cL_law 2316 = .ok (.iload 6, 2) := by decide +kernel
theorem dL_law_2318 : decode cL_law 2318 = .ok (.ifCond .ne 35, 3) := by decide +kernel
theorem dL_law_2321 : decode cL_law 2321 = .ok (.aload 4, 2) := by decide +kernel
theorem dL_law_2323 : decode cL_law 2323 = .ok (.iconst 0, 1) := by decide +kernel
theorem dL_law_2324 : decode cL_law 2324 = .ok (.daload, 1) := by decide +kernel
theorem dL_law_2325 : decode cL_law 2325 = .ok (.dload 7, 2) := by decide +kernel
theorem dL_law_2327 : decode cL_law 2327 = .ok (.dcmp .l, 1) := by decide +kernel
theorem dL_law_2328 : decode cL_law 2328 = .ok (.ifCond .eq 25, 3) := by decide +kernel
theorem dL_law_2331 : decode cL_law 2331 = .ok (.aload 4, 2) := by decide +kernel
theorem dL_law_2333 : decode cL_law 2333 = .ok (.iconst 0, 1) := by decide +kernel
theorem dL_law_2334 : decode cL_law 2334 = .ok (.daload, 1) := by decide +kernel
theorem dL_law_2335 : decode cL_law 2335 = .ok (.aload 4, 2) := by decide +kernel
theorem dL_law_2337 : decode cL_law 2337 = .ok (.iconst 0, 1) := by decide +kernel
theorem dL_law_2338 : decode cL_law 2338 = .ok (.daload, 1) := by decide +kernel
theorem dL_law_2339 : decode cL_law 2339 = .ok (.dcmp .l, 1) := by decide +kernel
theorem dL_law_2340 : decode cL_law 2340 = .ok (.ifCond .eq 11, 3) := by decide +kernel
theorem dL_law_2343 : decode cL_law 2343 = .ok (.dload 7, 2) := by decide +kernel
theorem dL_law_2345 : decode cL_law 2345 = .ok (.dload 7, 2) := by decide +kernel
theorem dL_law_2347 : decode cL_law 2347 = .ok (.dcmp .l, 1) := by decide +kernel
theorem dL_law_2348 : decode cL_law 2348 = .ok (.ifCond .ne 5, 3) := by decide +kernel
theorem dL_law_2351 : decode cL_law 2351 = .ok (.iconst 0, 1) := by decide +kernel
theorem dL_law_2352 : decode cL_law 2352 = .ok (.ireturn, 1) := by decide +kernel
theorem dL_law_2353 : decode cL_law 2353 = .ok (.goto 148, 3) := by decide +kernel
theorem dL_law_2356 : decode cL_law 2356 = .ok (.aload_n 1, 1) := by decide +kernel
theorem dL_law_2357 : decode cL_law 2357 = .ok (.aload 4, 2) := by decide +kernel
theorem dL_law_2359 : decode cL_law 2359 = .ok (.invokestatic 288, 3) := by decide +kernel
theorem dL_law_2362 : decode cL_law 2362 = .ok (.istore 6, 2) := by decide +kernel
theorem dL_law_2364 : decode cL_law 2364 = .ok (.aload_n 2, 1) := by decide +kernel
theorem dL_law_2365 : decode cL_law 2365 = .ok (.invokevirtual 291, 3) := by decide +kernel
theorem dL_law_2368 : decode cL_law 2368 = .ok (.fstore 7, 2) := by decide +kernel
theorem dL_law_2370 : decode cL_law 2370 = .ok (.aload_n 2, 1) := by decide +kernel
theorem dL_law_2371 : decode cL_law 2371 = .ok (.invokevirtual 144, 3) := by decide +kernel
theorem dL_law_2374 : decode cL_law 2374 = .ok (.iload 6, 2) := by decide +kernel
theorem dL_law_2376 : decode cL_law 2376 = .ok (.if_icmp .eq 5, 3) := by decide +kernel
theorem dL_law_2379 : decode cL_law 2379 = .ok (.iconst 0, 1) := by decide +kernel
theorem dL_law_2380 : decode cL_law 2380 = .ok (.ireturn, 1) := by decide +kernel
theorem dL_law_2381 : decode cL_law 2381 = .ok (.iload 6, 2) := by decide +kernel
theorem dL_law_2383 : decode cL_law 2383 = .ok (.ifCond .ne 36, 3) := by decide +kernel
theorem dL_law_2386 : decode cL_law 2386 = .ok (.aload 4, 2) := by decide +kernel
theorem dL_law_2388 : decode cL_law 2388 = .ok (.iconst 0, 1) := by decide +kernel
theorem dL_law_2389 : decode cL_law 2389 = .ok (.daload, 1) := by decide +kernel
theorem dL_law_2390 : decode cL_law 2390 = .ok (.fload 7, 2) := by decide +kernel
theorem dL_law_2392 : decode cL_law 2392 = .ok (.f2d, 1) := by decide +kernel
theorem dL_law_2393 : decode cL_law 2393 = .ok (.dcmp .l, 1) := by decide +kernel
theorem dL_law_2394 : decode cL_law 2394 = .ok (.ifCond .eq 25, 3) := by decide +kernel
theorem dL_law_2397 : decode cL_law 2397 = .ok (.aload 4, 2) := by decide +kernel
theorem dL_law_2399 : decode cL_law 2399 = .ok (.iconst 0, 1) := by decide +kernel
theorem dL_law_2400 : decode cL_law 2400 = .ok (.daload, 1) := by decide +kernel
theorem dL_law_2401 : decode cL_law 2401 = .ok (.aload 4, 2) := by decide +kernel
theorem dL_law_2403 : decode cL_law 2403 = .ok (.iconst 0, 1) := by decide +kernel
theorem dL_law_2404 : decode cL_law 2404 = .ok (.daload, 1) := by decide +kernel
theorem dL_law_2405 : decode cL_law 2405 = .ok (.dcmp .l, 1) := by decide +kernel
theorem dL_law_2406 : decode cL_law 2406 = .ok (.ifCond .eq 11, 3) := by decide +kernel
theorem dL_law_2409 : decode cL_law 2409 = .ok (.fload 7, 2) := by decide +kernel
theorem dL_law_2411 : decode cL_law 2411 = .ok (.fload 7, 2) := by decide +kernel
theorem dL_law_2413 : decode cL_law 2413 = .ok (.fcmp .l, 1) := by decide +kernel
theorem dL_law_2414 : decode cL_law 2414 = .ok (.ifCond .ne 5, 3) := by decide +kernel
theorem dL_law_2417 : decode cL_law 2417 = .ok (.iconst 0, 1) := by decide +kernel
theorem dL_law_2418 : decode cL_law 2418 = .ok (.ireturn, 1) := by decide +kernel
theorem dL_law_2419 : decode cL_law 2419 = .ok (.goto 82, 3) := by decide +kernel
theorem dL_law_2422 : decode cL_law 2422 = .ok (.aload_n 1, 1) := by decide +kernel
theorem dL_law_2423 : decode cL_law 2423 = .ok (.aload_n 3, 1) := by decide +kernel
theorem dL_law_2424 : decode cL_law 2424 = .ok (.invokestatic 292, 3) := by decide +kernel
theorem dL_law_2427 : decode cL_law 2427 = .ok (.istore 6, 2) := by decide +kernel
theorem dL_law_2429 : decode cL_law 2429 = .ok (.aload_n 2, 1) := by decide +kernel
theorem dL_law_2430 : decode cL_law 2430 = .ok (.invokevirtual 294, 3) := by decide +kernel
theorem dL_law_2433 : decode cL_law 2433 = .ok (.istore 7, 2) := by decide +kernel
theorem dL_law_2435 : decode cL_law 2435 = .ok (.aload_n 2, 1) := by decide +kernel
theorem dL_law_2436 : decode cL_law 2436 = .ok (.invokevirtual 144, 3) := by decide +kernel
theorem dL_law_2439 : decode cL_law 2439 = .ok (.iload 6, 2) := by decide +kernel
theorem dL_law_2441 : decode cL_law 2441 = .ok (.if_icmp .eq 5, 3) := by decide +kernel
theorem dL_law_2444 : decode cL_law 2444 = .ok (.iconst 0, 1) := by decide +kernel
theorem dL_law_2445 : decode cL_law 2445 = .ok (.ireturn, 1) := by decide +kernel
theorem dL_law_2446 : decode cL_law 2446 = .ok (.iload 6, 2) := by decide +kernel
theorem dL_law_2448 : decode cL_law 2448 = .ok (.ifCond .ne 15, 3) := by decide +kernel
theorem dL_law_2451 : decode cL_law 2451 = .ok (.aload_n 3, 1) := by decide +kernel
theorem dL_law_2452 : decode cL_law 2452 = .ok (.iconst 0, 1) := by decide +kernel
theorem dL_law_2453 : decode cL_law 2453 = .ok (.laload, 1) := by decide +kernel
theorem dL_law_2454 : decode cL_law 2454 = .ok (.iload 7, 2) := by decide +kernel
theorem dL_law_2456 : decode cL_law 2456 = .ok (.i2l, 1) := by decide +kernel
theorem dL_law_2457 : decode cL_law 2457 = .ok (.lcmp, 1) := by decide +kernel
theorem dL_law_2458 : decode cL_law 2458 = .ok (.ifCond .eq 5, 3) := by decide +kernel
theorem dL_law_2461 : decode cL_law 2461 = .ok (.iconst 0, 1) := by decide +kernel
theorem dL_law_2462 : decode cL_law 2462 = .ok (.ireturn, 1) := by decide +kernel
theorem dL_law_2463 : decode cL_law 2463 = .ok (.goto 38, 3) := by decide +kernel
theorem dL_law_2466 : decode cL_law 2466 = .ok (.aload_n 1, 1) := by decide +kernel
theorem dL_law_2467 : decode cL_law 2467 = .ok (.invokevirtual 295, 3) := by decide +kernel
theorem dL_law_2470 : decode cL_law 2470 = .ok (.aload_n 2, 1) := by decide +kernel
theorem dL_law_2471 : decode cL_law 2471 = .ok (.invokevirtual 298, 3) := by decide +kernel
theorem dL_law_2474 : decode cL_law 2474 = .ok (.goto 27, 3) := by decide +kernel
theorem dL_law_2477 : decode cL_law 2477 = .ok (.aload_n 1, 1) := by decide +kernel
theorem dL_law_2478 : decode cL_law 2478 = .ok (.invokestatic 299, 3) := by decide +kernel
theorem dL_law_2481 : decode cL_law 2481 = .ok (.istore 6, 2) := by decide +kernel
theorem dL_law_2483 : decode cL_law 2483 = .ok (.aload_n 2, 1) := by decide +kernel
theorem dL_law_2484 : decode cL_law 2484 = .ok (.invokevirtual 302, 3) := by decide +kernel
theorem dL_law_2487 : decode cL_law 2487 = .ok (.aload_n 2, 1) := by decide +kernel
theorem dL_law_2488 : decode cL_law 2488 = .ok (.invokevirtual 144, 3) := by decide +kernel
theorem dL_law_2491 : decode cL_law 2491 = .ok (.iload 6, 2) := by decide +kernel
theorem dL_law_2493 : decode cL_law 2493 = .ok (.if_icmp .eq 5, 3) := by decide +kernel
theorem dL_law_2496 : decode cL_law 2496 = .ok (.iconst 0, 1) := by decide +kernel
theorem dL_law_2497 : decode cL_law 2497 = .ok (.ireturn, 1) := by decide +kernel
theorem dL_law_2498 : decode cL_law 2498 = .ok (.goto 3, 3) := by decide +kernel
theorem dL_law_2501 : decode cL_law 2501 = .ok (.iinc 5 6, 3) := by decide +kernel
theorem dL_law_2504 : decode cL_law 2504 = .ok (.goto (-2476), 3) := by decide +kernel
theorem dL_law_2507 : decode cL_law 2507 = .ok (.iconst 1, 1) := by decide +kernel
theorem dL_law_2508 : decode cL_law 2508 = .ok (.ireturn, 1) := by decide +kernel
