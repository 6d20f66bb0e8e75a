set_option maxRecDepth 20000 in
theorem ggL_appendCharacter_X10_appendCharacter : GoodIn wsL_appendCharacter wsX10_appendCharacter := goodIn_ca (goodIn_ca (goodIn_ca (goodIn_r _ [6, 7, 8, 9, 10, 11, 12, 13, 14, 15, 16, 17, 18, 19, 20, 21, 22, 23, 24, 25, 26, 27, 28, 29, 30, 31, 32, 33, 34, 35, 36, 37, 38, 39, 40, 41, 42, 43] (by decide +kernel) (by decide +kernel)) (goodIn_sub (fun _ h => List.mem_cons_of_mem _ (List.mem_append_left _ (List.mem_append_right _ h))) (gsub_f _))) (goodIn_sub (fun _ h => List.mem_cons_of_mem _ (List.mem_append_right _ h)) (gsub_f _))) (goodIn_sub (fun _ h => List.mem_cons_of_mem _ (List.mem_append_left _ (List.mem_append_left _ (List.mem_append_right _ h)))) (gsub_f _))
set_option maxRecDepth 20000 in
theorem gL_appendCharacter_X10_appendCharacter : GoodIn wsL_appendCharacter (wsV RL 7 RX10 yX10_appendCharacter wsX10_appendCharacter) := goodIn_app (goodIn_of _ (by decide +kernel)) ggL_appendCharacter_X10_appendCharacter
theorem dL_appendCharacter_0 : decode cL_appendCharacter 0 = .ok (.aload_n 2, 1) := by decide +kernel
theorem dL_appendCharacter_1 : decode cL_appendCharacter 1 = .ok (.iconst 0, 1) := by decide +kernel
theorem dL_appendCharacter_2 : decode cL_appendCharacter 2 = .ok (.aload_n 0, 1) := by decide +kernel
theorem dL_appendCharacter_3 : decode cL_appendCharacter 3 = .ok (.iload_n 1, 1) := by decide +kernel
theorem dL_appendCharacter_4 : decode cL_appendCharacter 4 = .ok (.invokevirtual 7, 3) := by decide +kernel
theorem dL_appendCharacter_7 : decode cL_appendCharacter 7 = .ok (.i2l, 1) := by decide +kernel
theorem dL_appendCharacter_8 : decode cL_appendCharacter 8 = .ok (.lastore, 1) := by decide +kernel
theorem dL_appendCharacter_9 : decode cL_appendCharacter 9 = .ok (.goto 9, 3) := by decide +kernel
theorem dL_appendCharacter_12 : decode cL_appendCharacter 12 = .ok (.astore_n 3, 1) := by decide +kernel
theorem dL_appendCharacter_13 : decode cL_appendCharacter 13 = .ok (.iconst 1, 1) := by decide +kernel
theorem dL_appendCharacter_14 : decode cL_appendCharacter 14 = .ok (.ireturn, 1) := by decide +kernel
theorem dL_appendCharacter_15 : decode cL_appendCharacter 15 = .ok (.astore_n 3, 1) := by decide +kernel
theorem dL_appendCharacter_16 : decode cL_appendCharacter 16 = .ok (.iconst 2, 1) := by decide +kernel
theorem dL_appendCharacter_17 : decode cL_appendCharacter 17 = .ok (.ireturn, 1) := by decide +kernel
theorem dL_appendCharacter_18 : decode cL_appendCharacter 18 = .ok (.iconst 0, 1) := by decide +kernel
theorem dL_appendCharacter_19 : decode cL_appendCharacter 19 = .ok (.ireturn, 1) := by decide +kernel
set_option maxRecDepth 20000 in
theorem ggL_addText_X10_addText : GoodIn wsL_addText wsX10_addText := goodIn_ca (goodIn_ca (goodIn_ca (goodIn_r _ [6, 7, 8, 9, 10, 11, 12, 13, 14, 15, 16, 17, 18, 19, 20, 21, 22, 23, 24, 25, 26, 27, 28, 29, 30, 31, 5, 32, 33, 34, 35, 36, 37, 38, 39, 40, 41, 42, 43, 44, 45, 46, 47, 48, 49, 50, 51, 52, 53, 54, 55, 56, 57, 58, 59, 60, 61, 62, 63, 64, 65, 66, 67, 68, 69, 70, 71, 72, 73, 74, 75, 76, 77, 78, 79, 80, 81, 82, 83, 84, 85, 86, 87, 88, 89, 90, 91, 92, 93, 94, 95, 96, 97, 98, 99, 100, 101, 102, 103, 104, 105, 106, 107, 108, 109, 110, 111, 112, 113, 114, 115, 116, 117, 118, 119, 120, 121, 122, 123, 124, 125, 126, 127, 128, 129, 130, 131, 132, 133, 134, 135, 136, 137, 138, 139, 140, 141] (by decide +kernel) (by decide +kernel)) (goodIn_sub (fun _ h => List.mem_cons_of_mem _ (List.mem_append_left _ (List.mem_append_right _ h))) (gsub_f _))) (goodIn_sub (fun _ h => List.mem_cons_of_mem _ (List.mem_append_right _ h)) (gsub_f _))) (goodIn_sub (fun _ h => List.mem_cons_of_mem _ (List.mem_append_left _ (List.mem_append_left _ (List.mem_append_right _ h)))) (gsub_f _))
set_option maxRecDepth 20000 in
theorem gL_addText_X10_addText : GoodIn wsL_addText (wsV RL 17 RX10 yX10_addText wsX10_addText) := goodIn_app (goodIn_r _ [2, 3, 4, 5] (by decide +kernel) (by decide +kernel)) ggL_addText_X10_addText
theorem dL_addText_0 : decode cL_addText 0 = .ok (.aload_n 1, 1) := by decide +kernel
theorem dL_addText_1 : decode cL_addText 1 = .ok (.iconst 0, 1) := by decide +kernel
theorem dL_addText_2 : decode cL_addText 2 = .ok (.aload_n 0, 1) := by decide +kernel
theorem dL_addText_3 : decode cL_addText 3 = .ok (.invokevirtual 17, 3) := by decide +kernel
theorem dL_addText_6 : decode cL_addText 6 = .ok (.i2l, 1) := by decide +kernel
theorem dL_addText_7 : decode cL_addText 7 = .ok (.lastore, 1) := by decide +kernel
theorem dL_addText_8 : decode cL_addText 8 = .ok (.goto 9, 3) := by decide +kernel
theorem dL_addText_11 : decode cL_addText 11 = .ok (.astore_n 2, 1) := by decide +kernel
theorem dL_addText_12 : decode cL_addText 12 = .ok (.iconst 1, 1) := by decide +kernel
theorem dL_addText_13 : decode cL_addText 13 = .ok (.ireturn, 1) := by decide +kernel
theorem dL_addText_14 : decode cL_addText 14 = .ok (.astore_n 2, 1) := by decide +kernel
theorem dL_addText_15 : decode cL_addText 15 = .ok (.iconst 2, 1) := by decide +kernel
theorem dL_addText_16 : decode cL_addText 16 = .ok (.ireturn, 1) := by decide +kernel
theorem dL_addText_17 : decode cL_addText 17 = .ok (.iconst 0, 1) := by decide +kernel
theorem dL_addText_18 : decode cL_addText 18 = .ok (.ireturn, 1) := by decide +kernel
set_option maxRecDepth 20000 in
theorem ggL_addTransition_X10_addTransition : GoodIn wsL_addTransition wsX10_addTransition := goodIn_ca (goodIn_ca (goodIn_ca (goodIn_r _ [6, 7, 8, 9, 10, 11, 5, 12, 13, 14, 15, 16, 17, 18, 19, 20, 21, 22, 23, 24, 25, 26, 27, 28, 29, 30, 31, 32, 33, 34, 35, 36, 37, 38, 39, 40, 41, 42, 43, 44, 45, 46, 47, 48, 49, 50, 51, 52, 53, 54, 55, 56, 57, 58, 59, 60, 61, 62, 63, 64, 65, 66, 67, 68, 69, 70, 71, 72, 73, 74, 75, 76, 77, 78, 79, 80, 81, 82, 83, 84, 85, 86, 87, 88, 89, 90, 91, 92, 93, 94, 95, 96, 97, 98, 99, 100, 101, 102, 103, 104, 105, 106, 107, 108, 109, 110, 111, 112, 113, 114, 115] (by decide +kernel) (by decide +kernel)) (goodIn_sub (fun _ h => List.mem_cons_of_mem _ (List.mem_append_left _ (List.mem_append_right _ h))) (gsub_f _))) (goodIn_sub (fun _ h => List.mem_cons_of_mem _ (List.mem_append_right _ h)) (gsub_f _))) (goodIn_sub (fun _ h => List.mem_cons_of_mem _ (List.mem_append_left _ (List.mem_append_left _ (List.mem_append_right _ h)))) (gsub_f _))
set_option maxRecDepth 20000 in
theorem gL_addTransition_X10_addTransition : GoodIn wsL_addTransition (wsV RL 21 RX10 yX10_addTransition wsX10_addTransition) := goodIn_app (goodIn_r _ [2, 3, 4, 5] (by decide +kernel) (by decide +kernel)) ggL_addTransition_X10_addTransition
theorem dL_addTransition_0 : decode cL_addTransition 0 = .ok (.aload 4, 2) := by decide +kernel
theorem dL_addTransition_2 : decode cL_addTransition 2 = .ok (.iconst 0, 1) := by decide +kernel
theorem dL_addTransition_3 : decode cL_addTransition 3 = .ok (.aload_n 0, 1) := by decide +kernel
theorem dL_addTransition_4 : decode cL_addTransition 4 = .ok (.iload_n 1, 1) := by decide +kernel
theorem dL_addTransition_5 : decode cL_addTransition 5 = .ok (.iload_n 2, 1) := by decide +kernel
theorem dL_addTransition_6 : decode cL_addTransition 6 = .ok (.iload_n 3, 1) := by decide +kernel
theorem dL_addTransition_7 : decode cL_addTransition 7 = .ok (.invokevirtual 21, 3) := by decide +kernel
theorem dL_addTransition_10 : decode cL_addTransition 10 = .ok (.ifCond .eq 7, 3) := by decide +kernel
theorem dL_addTransition_13 : decode cL_addTransition 13 = .ok (.lconst 1, 1) := by decide +kernel
theorem dL_addTransition_14 : decode cL_addTransition 14 = .ok (.goto 4, 3) := by decide +kernel
theorem dL_addTransition_17 : decode cL_addTransition 17 = .ok (.lconst 0, 1) := by decide +kernel
theorem dL_addTransition_18 : decode cL_addTransition 18 = .ok (.lastore, 1) := by decide +kernel
theorem dL_addTransition_19 : decode cL_addTransition 19 = .ok (.goto 11, 3) := by decide +kernel
theorem dL_addTransition_22 : decode cL_addTransition 22 = .ok (.astore 5, 2) := by decide +kernel
theorem dL_addTransition_24 : decode cL_addTransition 24 = .ok (.iconst 1, 1) := by decide +kernel
theorem dL_addTransition_25 : decode cL_addTransition 25 = .ok (.ireturn, 1) := by decide +kernel
theorem dL_addTransition_26 : decode cL_addTransition 26 = .ok (.astore 5, 2) := by decide +kernel
theorem dL_addTransition_28 : decode cL_addTransition 28 = .ok (.iconst 2, 1) := by decide +kernel
theorem dL_addTransition_29 : decode cL_addTransition 29 = .ok (.ireturn, 1) := by decide +kernel
theorem dL_addTransition_30 : decode cL_addTransition 30 = .ok (.iconst 0, 1) := by decide +kernel
theorem dL_addTransition_31 : decode cL_addTransition 31 = .ok (.ireturn, 1) := by decide +kernel
set_option maxRecDepth 20000 in
theorem ggL_removeTransition_X10_removeTransition : GoodIn wsL_removeTransition wsX10_removeTransition := goodIn_ca (goodIn_ca (goodIn_ca (goodIn_r _ [6, 7, 8, 9, 10, 11, 5, 12, 13, 14, 15, 16, 17, 18, 19, 20, 21, 22, 23, 24, 25, 26, 27, 28, 29, 30, 31, 32, 33, 34, 35, 36, 37, 38, 39, 40, 41, 42, 43, 44, 45, 46, 47, 48, 49, 50, 51, 52, 53, 54, 55, 56, 57, 58, 59, 60, 61, 62, 63, 64, 65, 66, 67, 68, 69, 70, 71, 72, 73, 74, 75, 76, 77, 78, 79, 80, 81, 82, 83, 84, 85, 86, 87, 88, 89, 90, 91, 92, 93, 94, 95, 96, 97, 98, 99, 100, 101, 102, 103, 104] (by decide +kernel) (by decide +kernel)) (goodIn_sub (fun _ h => List.mem_cons_of_mem _ (List.mem_append_left _ (List.mem_append_left _ (List.mem_append_right _ h)))) (gsub_f _))) (goodIn_sub (fun _ h => List.mem_cons_of_mem _ (List.mem_append_left _ (List.mem_append_right _ h))) (gsub_f _))) (goodIn_sub (fun _ h => List.mem_cons_of_mem _ (List.mem_append_right _ h)) (gsub_f _))
set_option maxRecDepth 20000 in
theorem gL_removeTransition_X10_removeTransition : GoodIn wsL_removeTransition (wsV RL 27 RX10 yX10_removeTransition wsX10_removeTransition) := goodIn_app (goodIn_r _ [2, 3, 4, 5] (by decide +kernel) (by decide +kernel)) ggL_removeTransition_X10_removeTransition
theorem dL_removeTransition_0 : decode cL_removeTransition 0 = .ok (.aload_n 0, 1) := by decide +kernel
theorem dL_removeTransition_1 : decode cL_removeTransition 1 = .ok (.iload_n 1, 1) := by decide +kernel
theorem dL_removeTransition_2 : decode cL_removeTransition 2 = .ok (.iload_n 2, 1) := by decide +kernel
theorem dL_removeTransition_3 : decode cL_removeTransition 3 = .ok (.iload_n 3, 1) := by decide +kernel
theorem dL_removeTransition_4 : decode cL_removeTransition 4 = .ok (.invokevirtual 27, 3) := by decide +kernel
theorem dL_removeTransition_7 : decode cL_removeTransition 7 = .ok (.goto 11, 3) := by decide +kernel
theorem dL_removeTransition_10 : decode cL_removeTransition 10 = .ok (.astore 4, 2) := by decide +kernel
theorem dL_removeTransition_12 : decode cL_removeTransition 12 = .ok (.iconst 1, 1) := by decide +kernel
theorem dL_removeTransition_13 : decode cL_removeTransition 13 = .ok (.ireturn, 1) := by decide +kernel
theorem dL_removeTransition_14 : decode cL_removeTransition 14 = .ok (.astore 4, 2) := by decide +kernel
theorem dL_removeTransition_16 : decode cL_removeTransition 16 = .ok (.iconst 2, 1) := by decide +kernel
theorem dL_removeTransition_17 : decode cL_removeTransition 17 = .ok (.ireturn, 1) := by decide +kernel
theorem dL_removeTransition_18 : decode cL_removeTransition 18 = .ok (.iconst 0, 1) := by decide +kernel
theorem dL_removeTransition_19 : decode cL_removeTransition 19 = .ok (.ireturn, 1) := by decide +kernel
set_option maxRecDepth 20000 in
theorem ggL_setFinal_X10_setFinal : GoodIn wsL_setFinal wsX10_setFinal := goodIn_ca (goodIn_ca (goodIn_r _ [6, 7, 8, 9, 10, 11, 5, 12, 13, 14, 15, 16, 17, 18, 19, 20, 21, 22, 23, 24, 25, 26, 27, 28, 29, 30, 31, 32, 33, 34, 35, 36, 37, 38, 39, 40, 41, 42, 43, 44, 45, 46, 47, 48, 49, 50, 51, 52, 53, 54, 55, 56, 57, 58, 59, 60, 61, 62, 63, 64, 65, 66, 67, 68, 69, 70, 71, 72, 73, 74, 75, 76, 77, 78, 79, 80, 81, 82, 83, 84, 85, 86, 87, 88, 89] (by decide +kernel) (by decide +kernel)) (goodIn_sub (fun _ h => List.mem_cons_of_mem _ (List.mem_append_right _ h)) (gsub_f _))) (goodIn_sub (fun _ h => List.mem_cons_of_mem _ (List.mem_append_left _ (List.mem_append_right _ h))) (gsub_f _))
set_option maxRecDepth 20000 in
theorem gL_setFinal_X10_setFinal : GoodIn wsL_setFinal (wsV RL 33 RX10 yX10_setFinal wsX10_setFinal) := goodIn_app (goodIn_r _ [2, 3, 4, 5] (by decide +kernel) (by decide +kernel)) ggL_setFinal_X10_setFinal
theorem dL_setFinal_0 : decode cL_setFinal 0 = .ok (.aload_n 3, 1) := by decide +kernel
theorem dL_setFinal_1 : decode cL_setFinal 1 = .ok (.iconst 0, 1) := by decide +kernel
theorem dL_setFinal_2 : decode cL_setFinal 2 = .ok (.aload_n 0, 1) := by decide +kernel
theorem dL_setFinal_3 : decode cL_setFinal 3 = .ok (.iload_n 1, 1) := by decide +kernel
theorem dL_setFinal_4 : decode cL_setFinal 4 = .ok (.iload_n 2, 1) := by decide +kernel
theorem dL_setFinal_5 : decode cL_setFinal 5 = .ok (.invokevirtual 33, 3) := by decide +kernel
theorem dL_setFinal_8 : decode cL_setFinal 8 = .ok (.ifCond .eq 7, 3) := by decide +kernel
theorem dL_setFinal_11 : decode cL_setFinal 11 = .ok (.lconst 1, 1) := by decide +kernel
theorem dL_setFinal_12 : decode cL_setFinal 12 = .ok (.goto 4, 3) := by decide +kernel
theorem dL_setFinal_15 : decode cL_setFinal 15 = .ok (.lconst 0, 1) := by decide +kernel
theorem dL_setFinal_16 : decode cL_setFinal 16 = .ok (.lastore, 1) := by decide +kernel
theorem dL_setFinal_17 : decode cL_setFinal 17 = .ok (.goto 7, 3) := by decide +kernel
theorem dL_setFinal_20 : decode cL_setFinal 20 = .ok (.astore 4, 2) := by decide +kernel
theorem dL_setFinal_22 : decode cL_setFinal 22 = .ok (.iconst 1, 1) := by decide +kernel
theorem dL_setFinal_23 : decode cL_setFinal 23 = .ok (.ireturn, 1) := by decide +kernel
theorem dL_setFinal_24 : decode cL_setFinal 24 = .ok (.iconst 0, 1) := by decide +kernel
theorem dL_setFinal_25 : decode cL_setFinal 25 = .ok (.ireturn, 1) := by decide +kernel
set_option maxRecDepth 20000 in
theorem ggL_transition_X10_transition : GoodIn wsL_transition wsX10_transition := goodIn_ca (goodIn_ca (goodIn_r _ [6, 7, 8, 9, 10, 11, 12, 13, 14, 15, 16, 17, 18, 19, 20, 21, 22, 23, 24, 25, 26, 27, 28, 29, 30, 31, 5, 32, 33, 34, 35, 36, 37, 38, 39, 40, 41, 42, 43, 44, 45, 46, 47, 48, 49, 50, 51, 52, 53, 54, 55, 56, 57, 58] (by decide +kernel) (by decide +kernel)) (goodIn_sub (fun _ h => List.mem_cons_of_mem _ (List.mem_append_right _ h)) (gsub_f _))) (goodIn_sub (fun _ h => List.mem_cons_of_mem _ (List.mem_append_left _ (List.mem_append_right _ h))) (gsub_f _))
set_option maxRecDepth 20000 in
theorem gL_transition_X10_transition : GoodIn wsL_transition (wsV RL 37 RX10 yX10_transition wsX10_transition) := goodIn_app (goodIn_r _ [2, 3, 4, 5] (by decide +kernel) (by decide +kernel)) ggL_transition_X10_transition
theorem dL_transition_0 : decode cL_transition 0 = .ok (.aload_n 2, 1) := by decide +kernel
theorem dL_transition_1 : decode cL_transition 1 = .ok (.iconst 0, 1) := by decide +kernel
theorem dL_transition_2 : decode cL_transition 2 = .ok (.aload_n 0, 1) := by decide +kernel
theorem dL_transition_3 : decode cL_transition 3 = .ok (.iload_n 1, 1) := by decide +kernel
theorem dL_transition_4 : decode cL_transition 4 = .ok (.invokevirtual 37, 3) := by decide +kernel
theorem dL_transition_7 : decode cL_transition 7 = .ok (.i2l, 1) := by decide +kernel
theorem dL_transition_8 : decode cL_transition 8 = .ok (.lastore, 1) := by decide +kernel
theorem dL_transition_9 : decode cL_transition 9 = .ok (.goto 6, 3) := by decide +kernel
theorem dL_transition_12 : decode cL_transition 12 = .ok (.astore_n 3, 1) := by decide +kernel
theorem dL_transition_13 : decode cL_transition 13 = .ok (.iconst 1, 1) := by decide +kernel
theorem dL_transition_14 : decode cL_transition 14 = .ok (.ireturn, 1) := by decide +kernel
theorem dL_transition_15 : decode cL_transition 15 = .ok (.iconst 0, 1) := by decide +kernel
theorem dL_transition_16 : decode cL_transition 16 = .ok (.ireturn, 1) := by decide +kernel
set_option maxRecDepth 20000 in
theorem ggL_appendLetter_X10_appendLetter : GoodIn wsL_appendLetter wsX10_appendLetter := goodIn_ca (goodIn_ca (goodIn_ca (goodIn_r _ [6, 7, 8, 9, 10, 11, 12, 13, 14, 15, 5, 16, 17, 18, 19, 20, 21, 22, 23, 24, 25, 26, 27, 28, 29, 30, 31] (by decide +kernel) (by decide +kernel)) (goodIn_sub (fun _ h => List.mem_cons_of_mem _ (List.mem_append_left _ (List.mem_append_right _ h))) (gsub_f _))) (goodIn_sub (fun _ h => List.mem_cons_of_mem _ (List.mem_append_right _ h)) (gsub_f _))) (goodIn_sub (fun _ h => List.mem_cons_of_mem _ (List.mem_append_left _ (List.mem_append_left _ (List.mem_append_right _ h)))) (gsub_f _))
set_option maxRecDepth 20000 in
theorem gL_appendLetter_X10_appendLetter : GoodIn wsL_appendLetter (wsV RL 40 RX10 yX10_appendLetter wsX10_appendLetter) := goodIn_app (goodIn_of _ (by decide +kernel)) ggL_appendLetter_X10_appendLetter
theorem dL_appendLetter_0 : decode cL_appendLetter 0 = .ok (.aload_n 2, 1) := by decide +kernel
theorem dL_appendLetter_1 : decode cL_appendLetter 1 = .ok (.iconst 0, 1) := by decide +kernel
theorem dL_appendLetter_2 : decode cL_appendLetter 2 = .ok (.aload_n 0, 1) := by decide +kernel
theorem dL_appendLetter_3 : decode cL_appendLetter 3 = .ok (.iload_n 1, 1) := by decide +kernel
theorem dL_appendLetter_4 : decode cL_appendLetter 4 = .ok (.invokevirtual 40, 3) := by decide +kernel
theorem dL_appendLetter_7 : decode cL_appendLetter 7 = .ok (.i2l, 1) := by decide +kernel
theorem dL_appendLetter_8 : decode cL_appendLetter 8 = .ok (.lastore, 1) := by decide +kernel
theorem dL_appendLetter_9 : decode cL_appendLetter 9 = .ok (.goto 9, 3) := by decide +kernel
theorem dL_appendLetter_12 : decode cL_appendLetter 12 = .ok (.astore_n 3, 1) := by decide +kernel
theorem dL_appendLetter_13 : decode cL_appendLetter 13 = .ok (.iconst 1, 1) := by decide +kernel
theorem dL_appendLetter_14 : decode cL_appendLetter 14 = .ok (.ireturn, 1) := by decide +kernel
theorem dL_appendLetter_15 : decode cL_appendLetter 15 = .ok (.astore_n 3, 1) := by decide +kernel
theorem dL_appendLetter_16 : decode cL_appendLetter 16 = .ok (.iconst 2, 1) := by decide +kernel
theorem dL_appendLetter_17 : decode cL_appendLetter 17 = .ok (.ireturn, 1) := by decide +kernel
theorem dL_appendLetter_18 : decode cL_appendLetter 18 = .ok (.iconst 0, 1) := by decide +kernel
theorem dL_appendLetter_19 : decode cL_appendLetter 19 = .ok (.ireturn, 1) := by decide +kernel
set_option maxRecDepth 20000 in
theorem ggL_letterAt_X10_letterAt : GoodIn wsL_letterAt wsX10_letterAt := goodIn_ca (goodIn_ca (goodIn_r _ [6, 7, 8, 9, 10, 11, 12, 5, 13, 14, 15, 16, 17, 18, 19, 20, 21, 22, 23, 24, 25, 26, 27, 28, 29] (by decide +kernel) (by decide +kernel)) (goodIn_sub (fun _ h => List.mem_cons_of_mem _ (List.mem_append_right _ h)) (gsub_f _))) (goodIn_sub (fun _ h => List.mem_cons_of_mem _ (List.mem_append_left _ (List.mem_append_right _ h))) (gsub_f _))
set_option maxRecDepth 20000 in
theorem gL_letterAt_X10_letterAt : GoodIn wsL_letterAt (wsV RL 43 RX10 yX10_letterAt wsX10_letterAt) := goodIn_app (goodIn_of _ (by decide +kernel)) ggL_letterAt_X10_letterAt
theorem dL_letterAt_0 : decode cL_letterAt 0 = .ok (.aload_n 2, 1) := by decide +kernel
theorem dL_letterAt_1 : decode cL_letterAt 1 = .ok (.iconst 0, 1) := by decide +kernel
theorem dL_letterAt_2 : decode cL_letterAt 2 = .ok (.aload_n 0, 1) := by decide +kernel
theorem dL_letterAt_3 : decode cL_letterAt 3 = .ok (.iload_n 1, 1) := by decide +kernel
theorem dL_letterAt_4 : decode cL_letterAt 4 = .ok (.invokevirtual 43, 3) := by decide +kernel
theorem dL_letterAt_7 : decode cL_letterAt 7 = .ok (.i2l, 1) := by decide +kernel
theorem dL_letterAt_8 : decode cL_letterAt 8 = .ok (.lastore, 1) := by decide +kernel
theorem dL_letterAt_9 : decode cL_letterAt 9 = .ok (.goto 6, 3) := by decide +kernel
theorem dL_letterAt_12 : decode cL_letterAt 12 = .ok (.astore_n 3, 1) := by decide +kernel
theorem dL_letterAt_13 : decode cL_letterAt 13 = .ok (.iconst 1, 1) := by decide +kernel
theorem dL_letterAt_14 : decode cL_letterAt 14 = .ok (.ireturn, 1) := by decide +kernel
theorem dL_letterAt_15 : decode cL_letterAt 15 = .ok (.iconst 0, 1) := by decide +kernel
theorem dL_letterAt_16 : decode cL_letterAt 16 = .ok (.ireturn, 1) := by decide +kernel
set_option maxRecDepth 20000 in
theorem ggL_accepts_X10_accepts : GoodIn wsL_accepts wsX10_accepts := goodIn_ca (goodIn_ca (goodIn_ca (goodIn_r _ [6, 7, 8, 9, 10, 11, 12, 5, 13, 14, 15, 16, 17, 18, 19, 20, 21, 22, 23, 24, 25, 26, 27, 28, 29, 30, 31, 32, 33, 34, 35, 36, 37, 38, 39, 40, 41, 42, 43, 44, 45, 46, 47, 48, 49, 50, 51, 52, 53, 54, 55, 56, 57, 58, 59, 60, 61, 62, 63, 64, 65, 66, 67, 68, 69, 70, 71, 72, 73, 74, 75, 76, 77, 78, 79, 80, 81, 82, 83, 84, 85, 86, 87, 88, 89, 90, 91, 92, 93, 94, 95, 96, 97, 98, 99, 100, 101, 102, 103, 104, 105, 106, 107, 108, 109, 110, 111, 112, 113, 114, 115, 116, 117, 118, 119, 120, 121, 122, 123, 124, 125, 126, 127, 128, 129, 130, 131, 132, 133, 134] (by decide +kernel) (by decide +kernel)) (goodIn_sub (fun _ h => List.mem_cons_of_mem _ (List.mem_append_left _ (List.mem_append_right _ h))) (gsub_f _))) (goodIn_sub (fun _ h => List.mem_cons_of_mem _ (List.mem_append_right _ h)) (gsub_f _))) (goodIn_sub (fun _ h => List.mem_cons_of_mem _ (List.mem_append_left _ (List.mem_append_left _ (List.mem_append_right _ h)))) (gsub_f _))
set_option maxRecDepth 20000 in
theorem gL_accepts_X10_accepts : GoodIn wsL_accepts (wsV RL 46 RX10 yX10_accepts wsX10_accepts) := goodIn_app (goodIn_r _ [2, 3, 4, 5] (by decide +kernel) (by decide +kernel)) ggL_accepts_X10_accepts
theorem dL_accepts_0 : decode cL_accepts 0 = .ok (.aload_n 2, 1) := by decide +kernel
theorem dL_accepts_1 : decode cL_accepts 1 = .ok (.iconst 0, 1) := by decide +kernel
theorem dL_accepts_2 : decode cL_accepts 2 = .ok (.aload_n 0, 1) := by decide +kernel
theorem dL_accepts_3 : decode cL_accepts 3 = .ok (.iload_n 1, 1) := by decide +kernel
theorem dL_accepts_4 : decode cL_accepts 4 = .ok (.invokevirtual 46, 3) := by decide +kernel
theorem dL_accepts_7 : decode cL_accepts 7 = .ok (.ifCond .eq 7, 3) := by decide +kernel
theorem dL_accepts_10 : decode cL_accepts 10 = .ok (.lconst 1, 1) := by decide +kernel
theorem dL_accepts_11 : decode cL_accepts 11 = .ok (.goto 4, 3) := by decide +kernel
theorem dL_accepts_14 : decode cL_accepts 14 = .ok (.lconst 0, 1) := by decide +kernel
theorem dL_accepts_15 : decode cL_accepts 15 = .ok (.lastore, 1) := by decide +kernel
theorem dL_accepts_16 : decode cL_accepts 16 = .ok (.goto 9, 3) := by decide +kernel
theorem dL_accepts_19 : decode cL_accepts 19 = .ok (.astore_n 3, 1) := by decide +kernel
theorem dL_accepts_20 : decode cL_accepts 20 = .ok (.iconst 1, 1) := by decide +kernel
theorem dL_accepts_21 : decode cL_accepts 21 = .ok (.ireturn, 1) := by decide +kernel
theorem dL_accepts_22 : decode cL_accepts 22 = .ok (.astore_n 3, 1) := by decide +kernel
theorem dL_accepts_23 : decode cL_accepts 23 = .ok (.iconst 2, 1) := by decide +kernel
theorem dL_accepts_24 : decode cL_accepts 24 = .ok (.ireturn, 1) := by decide +kernel
theorem dL_accepts_25 : decode cL_accepts 25 = .ok (.iconst 0, 1) := by decide +kernel
theorem dL_accepts_26 : decode cL_accepts 26 = .ok (.ireturn, 1) := by decide +kernel
set_option maxRecDepth 20000 in
theorem ggL_takeArrangement_X10_takeArrangement : GoodIn wsL_takeArrangement wsX10_takeArrangement := goodIn_ca (goodIn_ca (goodIn_ca (goodIn_r _ [6, 7, 8, 9, 10, 11, 12, 13, 14, 15, 16, 17, 18, 19, 20, 21, 22, 23, 24, 5, 25, 26, 27, 28, 29, 30, 31, 32, 33, 34, 35, 36, 37, 38, 39, 40, 41, 42, 43, 44, 45, 46, 47, 48, 49, 50, 51, 52, 53, 54, 55, 56, 57, 58, 59, 60, 61, 62, 63, 64, 65, 66, 67, 68, 69, 70, 71, 72, 73, 74, 75, 76] (by decide +kernel) (by decide +kernel)) (goodIn_sub (fun _ h => List.mem_cons_of_mem _ (List.mem_append_left _ (List.mem_append_right _ h))) (gsub_f _))) (goodIn_sub (fun _ h => List.mem_cons_of_mem _ (List.mem_append_right _ h)) (gsub_f _))) (goodIn_sub (fun _ h => List.mem_cons_of_mem _ (List.mem_append_left _ (List.mem_append_left _ (List.mem_append_right _ h)))) (gsub_f _))
set_option maxRecDepth 20000 in
theorem gL_takeArrangement_X10_takeArrangement : GoodIn wsL_takeArrangement (wsV RL 52 RX10 yX10_takeArrangement wsX10_takeArrangement) := goodIn_app (goodIn_r _ [2, 3, 4, 5] (by decide +kernel) (by decide +kernel)) ggL_takeArrangement_X10_takeArrangement
theorem dL_takeArrangement_0 : decode cL_takeArrangement 0 = .ok (.aload_n 2, 1) := by decide +kernel
theorem dL_takeArrangement_1 : decode cL_takeArrangement 1 = .ok (.iconst 0, 1) := by decide +kernel
theorem dL_takeArrangement_2 : decode cL_takeArrangement 2 = .ok (.aload_n 0, 1) := by decide +kernel
theorem dL_takeArrangement_3 : decode cL_takeArrangement 3 = .ok (.iload_n 1, 1) := by decide +kernel
theorem dL_takeArrangement_4 : decode cL_takeArrangement 4 = .ok (.invokevirtual 52, 3) := by decide +kernel
theorem dL_takeArrangement_7 : decode cL_takeArrangement 7 = .ok (.i2l, 1) := by decide +kernel
theorem dL_takeArrangement_8 : decode cL_takeArrangement 8 = .ok (.lastore, 1) := by decide +kernel
theorem dL_takeArrangement_9 : decode cL_takeArrangement 9 = .ok (.goto 9, 3) := by decide +kernel
theorem dL_takeArrangement_12 : decode cL_takeArrangement 12 = .ok (.astore_n 3, 1) := by decide +kernel
theorem dL_takeArrangement_13 : decode cL_takeArrangement 13 = .ok (.iconst 1, 1) := by decide +kernel
theorem dL_takeArrangement_14 : decode cL_takeArrangement 14 = .ok (.ireturn, 1) := by decide +kernel
theorem dL_takeArrangement_15 : decode cL_takeArrangement 15 = .ok (.astore_n 3, 1) := by decide +kernel
theorem dL_takeArrangement_16 : decode cL_takeArrangement 16 = .ok (.iconst 2, 1) := by decide +kernel
theorem dL_takeArrangement_17 : decode cL_takeArrangement 17 = .ok (.ireturn, 1) := by decide +kernel
theorem dL_takeArrangement_18 : decode cL_takeArrangement 18 = .ok (.iconst 0, 1) := by decide +kernel
theorem dL_takeArrangement_19 : decode cL_takeArrangement 19 = .ok (.ireturn, 1) := by decide +kernel
set_option maxRecDepth 20000 in
theorem ggL_oneWayJumps_X10_oneWayJumps : GoodIn wsL_oneWayJumps wsX10_oneWayJumps := goodIn_ca (goodIn_ca (goodIn_r _ [6, 7, 8, 9, 10, 11, 12, 13, 14, 5, 15, 16, 17, 18, 19, 20, 21, 22, 23, 24, 25, 26, 27, 28, 29, 30, 31, 32, 33, 34, 35, 36, 37, 38, 39, 40, 41, 42, 43, 44, 45, 46, 47, 48, 49, 50, 51, 52, 53, 54, 55, 56, 57, 58, 59, 60, 61, 62, 63, 64, 65, 66, 67, 68, 69, 70, 71, 72, 73, 74, 75] (by decide +kernel) (by decide +kernel)) (goodIn_sub (fun _ h => List.mem_cons_of_mem _ (List.mem_append_right _ h)) (gsub_f _))) (goodIn_sub (fun _ h => List.mem_cons_of_mem _ (List.mem_append_left _ (List.mem_append_right _ h))) (gsub_f _))
set_option maxRecDepth 20000 in
theorem gL_oneWayJumps_X10_oneWayJumps : GoodIn wsL_oneWayJumps (wsV RL 55 RX10 yX10_oneWayJumps wsX10_oneWayJumps) := goodIn_app (goodIn_r _ [2, 3, 4, 5] (by decide +kernel) (by decide +kernel)) ggL_oneWayJumps_X10_oneWayJumps
theorem dL_oneWayJumps_0 : decode cL_oneWayJumps 0 = .ok (.aload_n 1, 1) := by decide +kernel
theorem dL_oneWayJumps_1 : decode cL_oneWayJumps 1 = .ok (.iconst 0, 1) := by decide +kernel
theorem dL_oneWayJumps_2 : decode cL_oneWayJumps 2 = .ok (.aload_n 0, 1) := by decide +kernel
theorem dL_oneWayJumps_3 : decode cL_oneWayJumps 3 = .ok (.invokevirtual 55, 3) := by decide +kernel
theorem dL_oneWayJumps_6 : decode cL_oneWayJumps 6 = .ok (.i2l, 1) := by decide +kernel
theorem dL_oneWayJumps_7 : decode cL_oneWayJumps 7 = .ok (.lastore, 1) := by decide +kernel
theorem dL_oneWayJumps_8 : decode cL_oneWayJumps 8 = .ok (.goto 6, 3) := by decide +kernel
theorem dL_oneWayJumps_11 : decode cL_oneWayJumps 11 = .ok (.astore_n 2, 1) := by decide +kernel
theorem dL_oneWayJumps_12 : decode cL_oneWayJumps 12 = .ok (.iconst 1, 1) := by decide +kernel
theorem dL_oneWayJumps_13 : decode cL_oneWayJumps 13 = .ok (.ireturn, 1) := by decide +kernel
theorem dL_oneWayJumps_14 : decode cL_oneWayJumps 14 = .ok (.iconst 0, 1) := by decide +kernel
theorem dL_oneWayJumps_15 : decode cL_oneWayJumps 15 = .ok (.ireturn, 1) := by decide +kernel
set_option maxRecDepth 20000 in
theorem ggL_oneWayRest_X10_oneWayRest : GoodIn wsL_oneWayRest wsX10_oneWayRest := goodIn_ca (goodIn_ca (goodIn_r _ [6, 7, 8, 9, 10, 11, 12, 13, 14, 5, 15, 16, 17, 18, 19, 20, 21, 22, 23, 24, 25, 26, 27, 28, 29, 30, 31, 32, 33, 34, 35, 36, 37, 38, 39, 40, 41, 42, 43, 44, 45, 46, 47, 48, 49, 50, 51, 52, 53, 54, 55, 56, 57, 58, 59, 60, 61, 62, 63, 64, 65, 66, 67, 68, 69, 70, 71, 72, 73, 74, 75] (by decide +kernel) (by decide +kernel)) (goodIn_sub (fun _ h => List.mem_cons_of_mem _ (List.mem_append_right _ h)) (gsub_f _))) (goodIn_sub (fun _ h => List.mem_cons_of_mem _ (List.mem_append_left _ (List.mem_append_right _ h))) (gsub_f _))
set_option maxRecDepth 20000 in
theorem gL_oneWayRest_X10_oneWayRest : GoodIn wsL_oneWayRest (wsV RL 58 RX10 yX10_oneWayRest wsX10_oneWayRest) := goodIn_app (goodIn_r _ [2, 3, 4, 5] (by decide +kernel) (by decide +kernel)) ggL_oneWayRest_X10_oneWayRest
theorem dL_oneWayRest_0 : decode cL_oneWayRest 0 = .ok (.aload_n 1, 1) := by decide +kernel
theorem dL_oneWayRest_1 : decode cL_oneWayRest 1 = .ok (.iconst 0, 1) := by decide +kernel
theorem dL_oneWayRest_2 : decode cL_oneWayRest 2 = .ok (.aload_n 0, 1) := by decide +kernel
theorem dL_oneWayRest_3 : decode cL_oneWayRest 3 = .ok (.invokevirtual 58, 3) := by decide +kernel
theorem dL_oneWayRest_6 : decode cL_oneWayRest 6 = .ok (.i2l, 1) := by decide +kernel
theorem dL_oneWayRest_7 : decode cL_oneWayRest 7 = .ok (.lastore, 1) := by decide +kernel
theorem dL_oneWayRest_8 : decode cL_oneWayRest 8 = .ok (.goto 6, 3) := by decide +kernel
theorem dL_oneWayRest_11 : decode cL_oneWayRest 11 = .ok (.astore_n 2, 1) := by decide +kernel
theorem dL_oneWayRest_12 : decode cL_oneWayRest 12 = .ok (.iconst 1, 1) := by decide +kernel
theorem dL_oneWayRest_13 : decode cL_oneWayRest 13 = .ok (.ireturn, 1) := by decide +kernel
theorem dL_oneWayRest_14 : decode cL_oneWayRest 14 = .ok (.iconst 0, 1) := by decide +kernel
theorem dL_oneWayRest_15 : decode cL_oneWayRest 15 = .ok (.ireturn, 1) := by decide +kernel
set_option maxRecDepth 20000 in
theorem ggL_orderCost_X10_orderCost : GoodIn wsL_orderCost wsX10_orderCost := goodIn_ca (goodIn_ca (goodIn_r _ [6, 7, 8, 9, 10, 11, 12, 13, 5, 14, 15, 16, 17, 18, 19, 20, 21, 22, 23, 24, 25, 26, 27, 28, 29, 30, 31, 32, 33, 34, 35, 36, 37, 38, 39, 40, 41, 42, 43, 44, 45, 46, 47, 48, 49, 50, 51, 52, 53, 54, 55, 56, 57, 58, 59, 60, 61, 62, 63, 64, 65, 66, 67, 68, 69, 70, 71, 72, 73, 74, 75, 76, 77, 78, 79, 80, 81, 82, 83, 84, 85, 86, 87, 88, 89, 90, 91, 92, 93, 94, 95, 96, 97, 98, 99, 100, 101, 102, 103, 104, 105, 106, 107, 108, 109, 110, 111, 112, 113, 114, 115, 116, 117, 118, 119, 120, 121, 122, 123, 124, 125, 126, 127, 128, 129, 130, 131] (by decide +kernel) (by decide +kernel)) (goodIn_sub (fun _ h => List.mem_cons_of_mem _ (List.mem_append_right _ h)) (gsub_f _))) (goodIn_sub (fun _ h => List.mem_cons_of_mem _ (List.mem_append_left _ (List.mem_append_right _ h))) (gsub_f _))
set_option maxRecDepth 20000 in
theorem gL_orderCost_X10_orderCost : GoodIn wsL_orderCost (wsV RL 61 RX10 yX10_orderCost wsX10_orderCost) := goodIn_app (goodIn_r _ [2, 3, 4, 5] (by decide +kernel) (by decide +kernel)) ggL_orderCost_X10_orderCost
theorem dL_orderCost_0 : decode cL_orderCost 0 = .ok (.aload_n 1, 1) := by decide +kernel
theorem dL_orderCost_1 : decode cL_orderCost 1 = .ok (.iconst 0, 1) := by decide +kernel
theorem dL_orderCost_2 : decode cL_orderCost 2 = .ok (.aload_n 0, 1) := by decide +kernel
theorem dL_orderCost_3 : decode cL_orderCost 3 = .ok (.invokevirtual 61, 3) := by decide +kernel
theorem dL_orderCost_6 : decode cL_orderCost 6 = .ok (.i2l, 1) := by decide +kernel
theorem dL_orderCost_7 : decode cL_orderCost 7 = .ok (.lastore, 1) := by decide +kernel
theorem dL_orderCost_8 : decode cL_orderCost 8 = .ok (.goto 6, 3) := by decide +kernel
theorem dL_orderCost_11 : decode cL_orderCost 11 = .ok (.astore_n 2, 1) := by decide +kernel
theorem dL_orderCost_12 : decode cL_orderCost 12 = .ok (.iconst 1, 1) := by decide +kernel
theorem dL_orderCost_13 : decode cL_orderCost 13 = .ok (.ireturn, 1) := by decide +kernel
theorem dL_orderCost_14 : decode cL_orderCost 14 = .ok (.iconst 0, 1) := by decide +kernel
theorem dL_orderCost_15 : decode cL_orderCost 15 = .ok (.ireturn, 1) := by decide +kernel
set_option maxRecDepth 20000 in
theorem ggL_orderPosition_X10_orderPosition : GoodIn wsL_orderPosition wsX10_orderPosition := goodIn_ca (goodIn_ca (goodIn_ca (goodIn_r _ [6, 7, 8, 9, 10, 11, 12, 13, 14, 15, 5, 16, 17, 18, 19, 20, 21, 22, 23, 24, 25, 26, 27, 28, 29, 30, 31, 32, 33, 34, 35, 36, 37, 38, 39, 40, 41, 42, 43, 44, 45, 46, 47, 48, 49, 50, 51, 52, 53, 54, 55, 56, 57, 58, 59, 60, 61, 62, 63, 64, 65, 66, 67, 68, 69, 70, 71, 72, 73, 74, 75, 76, 77, 78, 79, 80, 81, 82, 83, 84, 85, 86, 87, 88, 89, 90, 91, 92, 93, 94, 95, 96, 97, 98, 99, 100, 101, 102, 103, 104, 105, 106, 107, 108, 109, 110, 111, 112, 113, 114, 115, 116, 117, 118, 119, 120, 121, 122, 123, 124, 125, 126, 127, 128, 129, 130, 131, 132, 133, 134, 135, 136, 137, 138] (by decide +kernel) (by decide +kernel)) (goodIn_sub (fun _ h => List.mem_cons_of_mem _ (List.mem_append_left _ (List.mem_append_right _ h))) (gsub_f _))) (goodIn_sub (fun _ h => List.mem_cons_of_mem _ (List.mem_append_right _ h)) (gsub_f _))) (goodIn_sub (fun _ h => List.mem_cons_of_mem _ (List.mem_append_left _ (List.mem_append_left _ (List.mem_append_right _ h)))) (gsub_f _))
set_option maxRecDepth 20000 in
theorem gL_orderPosition_X10_orderPosition : GoodIn wsL_orderPosition (wsV RL 64 RX10 yX10_orderPosition wsX10_orderPosition) := goodIn_app (goodIn_r _ [2, 3, 4, 5] (by decide +kernel) (by decide +kernel)) ggL_orderPosition_X10_orderPosition
theorem dL_orderPosition_0 : decode cL_orderPosition 0 = .ok (.aload_n 2, 1) := by decide +kernel
theorem dL_orderPosition_1 : decode cL_orderPosition 1 = .ok (.iconst 0, 1) := by decide +kernel
theorem dL_orderPosition_2 : decode cL_orderPosition 2 = .ok (.aload_n 0, 1) := by decide +kernel
theorem dL_orderPosition_3 : decode cL_orderPosition 3 = .ok (.iload_n 1, 1) := by decide +kernel
theorem dL_orderPosition_4 : decode cL_orderPosition 4 = .ok (.invokevirtual 64, 3) := by decide +kernel
theorem dL_orderPosition_7 : decode cL_orderPosition 7 = .ok (.i2l, 1) := by decide +kernel
theorem dL_orderPosition_8 : decode cL_orderPosition 8 = .ok (.lastore, 1) := by decide +kernel
theorem dL_orderPosition_9 : decode cL_orderPosition 9 = .ok (.goto 9, 3) := by decide +kernel
theorem dL_orderPosition_12 : decode cL_orderPosition 12 = .ok (.astore_n 3, 1) := by decide +kernel
theorem dL_orderPosition_13 : decode cL_orderPosition 13 = .ok (.iconst 1, 1) := by decide +kernel
theorem dL_orderPosition_14 : decode cL_orderPosition 14 = .ok (.ireturn, 1) := by decide +kernel
theorem dL_orderPosition_15 : decode cL_orderPosition 15 = .ok (.astore_n 3, 1) := by decide +kernel
theorem dL_orderPosition_16 : decode cL_orderPosition 16 = .ok (.iconst 2, 1) := by decide +kernel
theorem dL_orderPosition_17 : decode cL_orderPosition 17 = .ok (.ireturn, 1) := by decide +kernel
theorem dL_orderPosition_18 : decode cL_orderPosition 18 = .ok (.iconst 0, 1) := by decide +kernel
theorem dL_orderPosition_19 : decode cL_orderPosition 19 = .ok (.ireturn, 1) := by decide +kernel
set_option maxRecDepth 20000 in
theorem ggL_reaches_X10_reaches : GoodIn wsL_reaches wsX10_reaches := goodIn_ca (goodIn_ca (goodIn_r _ [6, 7, 8, 9, 10, 5, 11, 12, 13, 14, 15, 16, 17, 18, 19, 20, 21, 22, 23, 24, 25, 26, 27, 28, 29, 30, 31, 32, 33, 34, 35, 36, 37, 38, 39, 40, 41, 42, 43, 44, 45, 46, 47, 48, 49, 50, 51, 52, 53, 54, 55, 56, 57, 58, 59, 60, 61, 62, 63, 64] (by decide +kernel) (by decide +kernel)) (goodIn_sub (fun _ h => List.mem_cons_of_mem _ (List.mem_append_right _ h)) (gsub_f _))) (goodIn_sub (fun _ h => List.mem_cons_of_mem _ (List.mem_append_left _ (List.mem_append_right _ h))) (gsub_f _))
set_option maxRecDepth 20000 in
theorem gL_reaches_X10_reaches : GoodIn wsL_reaches (wsV RL 67 RX10 yX10_reaches wsX10_reaches) := goodIn_app (goodIn_r _ [2, 3, 4, 5] (by decide +kernel) (by decide +kernel)) ggL_reaches_X10_reaches
theorem dL_reaches_0 : decode cL_reaches 0 = .ok (.aload 4, 2) := by decide +kernel
theorem dL_reaches_2 : decode cL_reaches 2 = .ok (.iconst 0, 1) := by decide +kernel
theorem dL_reaches_3 : decode cL_reaches 3 = .ok (.aload_n 0, 1) := by decide +kernel
theorem dL_reaches_4 : decode cL_reaches 4 = .ok (.iload_n 1, 1) := by decide +kernel
theorem dL_reaches_5 : decode cL_reaches 5 = .ok (.iload_n 2, 1) := by decide +kernel
theorem dL_reaches_6 : decode cL_reaches 6 = .ok (.iload_n 3, 1) := by decide +kernel
theorem dL_reaches_7 : decode cL_reaches 7 = .ok (.invokevirtual 67, 3) := by decide +kernel
theorem dL_reaches_10 : decode cL_reaches 10 = .ok (.ifCond .eq 7, 3) := by decide +kernel
theorem dL_reaches_13 : decode cL_reaches 13 = .ok (.lconst 1, 1) := by decide +kernel
theorem dL_reaches_14 : decode cL_reaches 14 = .ok (.goto 4, 3) := by decide +kernel
theorem dL_reaches_17 : decode cL_reaches 17 = .ok (.lconst 0, 1) := by decide +kernel
theorem dL_reaches_18 : decode cL_reaches 18 = .ok (.lastore, 1) := by decide +kernel
theorem dL_reaches_19 : decode cL_reaches 19 = .ok (.goto 7, 3) := by decide +kernel
theorem dL_reaches_22 : decode cL_reaches 22 = .ok (.astore 5, 2) := by decide +kernel
theorem dL_reaches_24 : decode cL_reaches 24 = .ok (.iconst 1, 1) := by decide +kernel
theorem dL_reaches_25 : decode cL_reaches 25 = .ok (.ireturn, 1) := by decide +kernel
theorem dL_reaches_26 : decode cL_reaches 26 = .ok (.iconst 0, 1) := by decide +kernel
theorem dL_reaches_27 : decode cL_reaches 27 = .ok (.ireturn, 1) := by decide +kernel
set_option maxRecDepth 20000 in
theorem ggL_minimal_X10_minimal : GoodIn wsL_minimal wsX10_minimal := goodIn_ca (goodIn_ca (goodIn_r _ [6, 7, 8, 9, 10, 11, 12, 13, 5, 14, 15, 16, 17, 18, 19, 20, 21, 22, 23, 24, 25, 26, 27, 28, 29, 30, 31, 32, 33, 34, 35, 36, 37, 38, 39, 40, 41, 42, 43, 44, 45, 46, 47, 48, 49, 50, 51, 52, 53, 54, 55, 56, 57, 58, 59, 60, 61, 62, 63, 64, 65, 66, 67, 68, 69, 70, 71, 72, 73, 74, 75, 76, 77, 78, 79, 80, 81, 82, 83, 84, 85, 86, 87, 88, 89, 90, 91, 92, 93, 94, 95, 96, 97] (by decide +kernel) (by decide +kernel)) (goodIn_sub (fun _ h => List.mem_cons_of_mem _ (List.mem_append_right _ h)) (gsub_f _))) (goodIn_sub (fun _ h => List.mem_cons_of_mem _ (List.mem_append_left _ (List.mem_append_right _ h))) (gsub_f _))
set_option maxRecDepth 20000 in
theorem gL_minimal_X10_minimal : GoodIn wsL_minimal (wsV RL 70 RX10 yX10_minimal wsX10_minimal) := goodIn_app (goodIn_r _ [2, 3, 4, 5] (by decide +kernel) (by decide +kernel)) ggL_minimal_X10_minimal
theorem dL_minimal_0 : decode cL_minimal 0 = .ok (.aload_n 2, 1) := by decide +kernel
theorem dL_minimal_1 : decode cL_minimal 1 = .ok (.iconst 0, 1) := by decide +kernel
theorem dL_minimal_2 : decode cL_minimal 2 = .ok (.aload_n 0, 1) := by decide +kernel
theorem dL_minimal_3 : decode cL_minimal 3 = .ok (.iload_n 1, 1) := by decide +kernel
theorem dL_minimal_4 : decode cL_minimal 4 = .ok (.invokevirtual 70, 3) := by decide +kernel
theorem dL_minimal_7 : decode cL_minimal 7 = .ok (.i2l, 1) := by decide +kernel
theorem dL_minimal_8 : decode cL_minimal 8 = .ok (.lastore, 1) := by decide +kernel
theorem dL_minimal_9 : decode cL_minimal 9 = .ok (.goto 6, 3) := by decide +kernel
theorem dL_minimal_12 : decode cL_minimal 12 = .ok (.astore_n 3, 1) := by decide +kernel
theorem dL_minimal_13 : decode cL_minimal 13 = .ok (.iconst 1, 1) := by decide +kernel
theorem dL_minimal_14 : decode cL_minimal 14 = .ok (.ireturn, 1) := by decide +kernel
theorem dL_minimal_15 : decode cL_minimal 15 = .ok (.iconst 0, 1) := by decide +kernel
theorem dL_minimal_16 : decode cL_minimal 16 = .ok (.ireturn, 1) := by decide +kernel
set_option maxRecDepth 20000 in
theorem ggL_cycle_X10_cycle : GoodIn wsL_cycle wsX10_cycle := goodIn_ca (goodIn_ca (goodIn_r _ [6, 7, 8, 9, 10, 11, 12, 13, 14, 15, 16, 17, 18, 19, 20, 21, 22, 23, 24, 25, 26, 27, 28, 29, 30, 31, 32, 33, 34, 35, 36, 5, 37, 38, 39, 40, 41, 42, 43, 44, 45, 46, 47, 48, 49, 50, 51, 52, 53, 54, 55, 56, 57, 58, 59, 60, 61, 62, 63, 64, 65, 66, 67, 68, 69, 70, 71, 72, 73, 74, 75, 76, 77, 78, 79, 80, 81, 82, 83, 84, 85, 86, 87, 88] (by decide +kernel) (by decide +kernel)) (goodIn_sub (fun _ h => List.mem_cons_of_mem _ (List.mem_append_right _ h)) (gsub_f _))) (goodIn_sub (fun _ h => List.mem_cons_of_mem _ (List.mem_append_left _ (List.mem_append_right _ h))) (gsub_f _))
set_option maxRecDepth 20000 in
theorem gL_cycle_X10_cycle : GoodIn wsL_cycle (wsV RL 73 RX10 yX10_cycle wsX10_cycle) := goodIn_app (goodIn_r _ [2, 3, 4, 5] (by decide +kernel) (by decide +kernel)) ggL_cycle_X10_cycle
theorem dL_cycle_0 : decode cL_cycle 0 = .ok (.aload_n 2, 1) := by decide +kernel
theorem dL_cycle_1 : decode cL_cycle 1 = .ok (.iconst 0, 1) := by decide +kernel
theorem dL_cycle_2 : decode cL_cycle 2 = .ok (.aload_n 0, 1) := by decide +kernel
theorem dL_cycle_3 : decode cL_cycle 3 = .ok (.iload_n 1, 1) := by decide +kernel
theorem dL_cycle_4 : decode cL_cycle 4 = .ok (.invokevirtual 73, 3) := by decide +kernel
theorem dL_cycle_7 : decode cL_cycle 7 = .ok (.i2l, 1) := by decide +kernel
theorem dL_cycle_8 : decode cL_cycle 8 = .ok (.lastore, 1) := by decide +kernel
theorem dL_cycle_9 : decode cL_cycle 9 = .ok (.goto 6, 3) := by decide +kernel
theorem dL_cycle_12 : decode cL_cycle 12 = .ok (.astore_n 3, 1) := by decide +kernel
theorem dL_cycle_13 : decode cL_cycle 13 = .ok (.iconst 1, 1) := by decide +kernel
theorem dL_cycle_14 : decode cL_cycle 14 = .ok (.ireturn, 1) := by decide +kernel
theorem dL_cycle_15 : decode cL_cycle 15 = .ok (.iconst 0, 1) := by decide +kernel
theorem dL_cycle_16 : decode cL_cycle 16 = .ok (.ireturn, 1) := by decide +kernel
set_option maxRecDepth 20000 in
theorem ggL_addLinearSet_X10_addLinearSet : GoodIn wsL_addLinearSet wsX10_addLinearSet := goodIn_ca (goodIn_ca (goodIn_ca (goodIn_ca (goodIn_r _ [6, 7, 8, 9, 10, 11, 5, 12, 13, 14, 15, 16, 17, 18, 19, 20, 21, 22, 23, 24, 25, 26, 27, 28, 29, 30, 31, 32, 33, 34, 35, 36, 37, 38, 39, 40, 41, 42, 43, 44, 45, 46, 47, 48, 49, 50, 51, 52, 53, 54, 55, 56, 57, 58, 59, 60, 61, 62, 63, 64, 65, 66, 67, 68, 69, 70, 71, 72, 73, 74, 75, 76, 77, 78, 79, 80, 81, 82, 83, 84, 85, 86, 87, 88, 89, 90, 91, 92, 93, 94, 95, 96, 97, 98, 99, 100, 101, 102] (by decide +kernel) (by decide +kernel)) (goodIn_sub (fun _ h => List.mem_cons_of_mem _ (List.mem_append_left _ (List.mem_append_left _ (List.mem_append_right _ h)))) (gsub_f _))) (goodIn_sub (fun _ h => List.mem_cons_of_mem _ (List.mem_append_left _ (List.mem_append_right _ h))) (gsub_f _))) (goodIn_sub (fun _ h => List.mem_cons_of_mem _ (List.mem_append_right _ h)) (gsub_f _))) (goodIn_sub (fun _ h => List.mem_cons_of_mem _ (List.mem_append_left _ (List.mem_append_left _ (List.mem_append_left _ (List.mem_append_right _ h))))) (gsub_f _))
set_option maxRecDepth 20000 in
theorem gL_addLinearSet_X10_addLinearSet : GoodIn wsL_addLinearSet (wsV RL 76 RX10 yX10_addLinearSet wsX10_addLinearSet) := goodIn_app (goodIn_r _ [2, 3, 4, 5] (by decide +kernel) (by decide +kernel)) ggL_addLinearSet_X10_addLinearSet
theorem dL_addLinearSet_0 : decode cL_addLinearSet 0 = .ok (.aload 5, 2) := by decide +kernel
theorem dL_addLinearSet_2 : decode cL_addLinearSet 2 = .ok (.iconst 0, 1) := by decide +kernel
theorem dL_addLinearSet_3 : decode cL_addLinearSet 3 = .ok (.aload_n 0, 1) := by decide +kernel
theorem dL_addLinearSet_4 : decode cL_addLinearSet 4 = .ok (.iload_n 1, 1) := by decide +kernel
theorem dL_addLinearSet_5 : decode cL_addLinearSet 5 = .ok (.iload_n 2, 1) := by decide +kernel
theorem dL_addLinearSet_6 : decode cL_addLinearSet 6 = .ok (.iload_n 3, 1) := by decide +kernel
theorem dL_addLinearSet_7 : decode cL_addLinearSet 7 = .ok (.iload 4, 2) := by decide +kernel
theorem dL_addLinearSet_9 : decode cL_addLinearSet 9 = .ok (.invokevirtual 76, 3) := by decide +kernel
theorem dL_addLinearSet_12 : decode cL_addLinearSet 12 = .ok (.i2l, 1) := by decide +kernel
theorem dL_addLinearSet_13 : decode cL_addLinearSet 13 = .ok (.lastore, 1) := by decide +kernel
theorem dL_addLinearSet_14 : decode cL_addLinearSet 14 = .ok (.goto 15, 3) := by decide +kernel
theorem dL_addLinearSet_17 : decode cL_addLinearSet 17 = .ok (.astore 6, 2) := by decide +kernel
theorem dL_addLinearSet_19 : decode cL_addLinearSet 19 = .ok (.iconst 1, 1) := by decide +kernel
theorem dL_addLinearSet_20 : decode cL_addLinearSet 20 = .ok (.ireturn, 1) := by decide +kernel
theorem dL_addLinearSet_21 : decode cL_addLinearSet 21 = .ok (.astore 6, 2) := by decide +kernel
theorem dL_addLinearSet_23 : decode cL_addLinearSet 23 = .ok (.iconst 2, 1) := by decide +kernel
theorem dL_addLinearSet_24 : decode cL_addLinearSet 24 = .ok (.ireturn, 1) := by decide +kernel
theorem dL_addLinearSet_25 : decode cL_addLinearSet 25 = .ok (.astore 6, 2) := by decide +kernel
theorem dL_addLinearSet_27 : decode cL_addLinearSet 27 = .ok (.iconst 3, 1) := by decide +kernel
theorem dL_addLinearSet_28 : decode cL_addLinearSet 28 = .ok (.ireturn, 1) := by decide +kernel
theorem dL_addLinearSet_29 : decode cL_addLinearSet 29 = .ok (.iconst 0, 1) := by decide +kernel
theorem dL_addLinearSet_30 : decode cL_addLinearSet 30 = .ok (.ireturn, 1) := by decide +kernel
set_option maxRecDepth 20000 in
theorem ggL_addPeriod_X10_addPeriod : GoodIn wsL_addPeriod wsX10_addPeriod := goodIn_ca (goodIn_ca (goodIn_ca (goodIn_ca (goodIn_r _ [6, 7, 8, 9, 10, 11, 12, 13, 14, 5, 15, 16, 17, 18, 19, 20, 21, 22, 23, 24, 25, 26, 27, 28, 29, 30, 31, 32, 33, 34, 35, 36, 37, 38, 39, 40, 41, 42, 43, 44, 45, 46, 47, 48, 49, 50, 51, 52, 53, 54, 55, 56, 57, 58, 59, 60, 61, 62, 63, 64, 65, 66, 67, 68, 69, 70, 71, 72, 73, 74, 75, 76, 77, 78, 79, 80, 81, 82, 83, 84, 85, 86, 87, 88, 89, 90, 91, 92, 93, 94, 95, 96, 97, 98, 99, 100, 101, 102, 103, 104] (by decide +kernel) (by decide +kernel)) (goodIn_sub (fun _ h => List.mem_cons_of_mem _ (List.mem_append_left _ (List.mem_append_left _ (List.mem_append_right _ h)))) (gsub_f _))) (goodIn_sub (fun _ h => List.mem_cons_of_mem _ (List.mem_append_left _ (List.mem_append_right _ h))) (gsub_f _))) (goodIn_sub (fun _ h => List.mem_cons_of_mem _ (List.mem_append_right _ h)) (gsub_f _))) (goodIn_sub (fun _ h => List.mem_cons_of_mem _ (List.mem_append_left _ (List.mem_append_left _ (List.mem_append_left _ (List.mem_append_right _ h))))) (gsub_f _))
set_option maxRecDepth 20000 in
theorem gL_addPeriod_X10_addPeriod : GoodIn wsL_addPeriod (wsV RL 80 RX10 yX10_addPeriod wsX10_addPeriod) := goodIn_app (goodIn_r _ [2, 3, 4, 5] (by decide +kernel) (by decide +kernel)) ggL_addPeriod_X10_addPeriod
theorem dL_addPeriod_0 : decode cL_addPeriod 0 = .ok (.aload 6, 2) := by decide +kernel
theorem dL_addPeriod_2 : decode cL_addPeriod 2 = .ok (.iconst 0, 1) := by decide +kernel
theorem dL_addPeriod_3 : decode cL_addPeriod 3 = .ok (.aload_n 0, 1) := by decide +kernel
theorem dL_addPeriod_4 : decode cL_addPeriod 4 = .ok (.iload_n 1, 1) := by decide +kernel
theorem dL_addPeriod_5 : decode cL_addPeriod 5 = .ok (.iload_n 2, 1) := by decide +kernel
theorem dL_addPeriod_6 : decode cL_addPeriod 6 = .ok (.iload_n 3, 1) := by decide +kernel
theorem dL_addPeriod_7 : decode cL_addPeriod 7 = .ok (.iload 4, 2) := by decide +kernel
theorem dL_addPeriod_9 : decode cL_addPeriod 9 = .ok (.iload 5, 2) := by decide +kernel
theorem dL_addPeriod_11 : decode cL_addPeriod 11 = .ok (.invokevirtual 80, 3) := by decide +kernel
theorem dL_addPeriod_14 : decode cL_addPeriod 14 = .ok (.i2l, 1) := by decide +kernel
theorem dL_addPeriod_15 : decode cL_addPeriod 15 = .ok (.lastore, 1) := by decide +kernel
theorem dL_addPeriod_16 : decode cL_addPeriod 16 = .ok (.goto 15, 3) := by decide +kernel
theorem dL_addPeriod_19 : decode cL_addPeriod 19 = .ok (.astore 7, 2) := by decide +kernel
theorem dL_addPeriod_21 : decode cL_addPeriod 21 = .ok (.iconst 1, 1) := by decide +kernel
theorem dL_addPeriod_22 : decode cL_addPeriod 22 = .ok (.ireturn, 1) := by decide +kernel
theorem dL_addPeriod_23 : decode cL_addPeriod 23 = .ok (.astore 7, 2) := by decide +kernel
theorem dL_addPeriod_25 : decode cL_addPeriod 25 = .ok (.iconst 2, 1) := by decide +kernel
theorem dL_addPeriod_26 : decode cL_addPeriod 26 = .ok (.ireturn, 1) := by decide +kernel
theorem dL_addPeriod_27 : decode cL_addPeriod 27 = .ok (.astore 7, 2) := by decide +kernel
theorem dL_addPeriod_29 : decode cL_addPeriod 29 = .ok (.iconst 3, 1) := by decide +kernel
theorem dL_addPeriod_30 : decode cL_addPeriod 30 = .ok (.ireturn, 1) := by decide +kernel
theorem dL_addPeriod_31 : decode cL_addPeriod 31 = .ok (.iconst 0, 1) := by decide +kernel
theorem dL_addPeriod_32 : decode cL_addPeriod 32 = .ok (.ireturn, 1) := by decide +kernel
set_option maxRecDepth 20000 in
theorem ggL_clearSet_X10_clearSet : GoodIn wsL_clearSet wsX10_clearSet := goodIn_ca (goodIn_ca (goodIn_r _ [6, 7, 8, 9, 5, 10, 11, 12, 13, 14, 15, 16, 17, 18, 19, 20, 21, 22, 23, 24, 25, 26, 27, 28, 29, 30, 31, 32, 33, 34, 35, 36, 37, 38, 39, 40, 41, 42, 43, 44, 45, 46, 47, 48, 49, 50, 51, 52, 53, 54, 55, 56, 57, 58, 59, 60, 61, 62, 63, 64, 65, 66, 67, 68, 69, 70, 71, 72, 73, 74, 75, 76, 77, 78, 79, 80, 81, 82] (by decide +kernel) (by decide +kernel)) (goodIn_sub (fun _ h => List.mem_cons_of_mem _ (List.mem_append_right _ h)) (gsub_f _))) (goodIn_sub (fun _ h => List.mem_cons_of_mem _ (List.mem_append_left _ (List.mem_append_right _ h))) (gsub_f _))
set_option maxRecDepth 20000 in
theorem gL_clearSet_X10_clearSet : GoodIn wsL_clearSet (wsV RL 84 RX10 yX10_clearSet wsX10_clearSet) := goodIn_app (goodIn_r _ [2, 3, 4, 5] (by decide +kernel) (by decide +kernel)) ggL_clearSet_X10_clearSet
theorem dL_clearSet_0 : decode cL_clearSet 0 = .ok (.aload_n 2, 1) := by decide +kernel
theorem dL_clearSet_1 : decode cL_clearSet 1 = .ok (.iconst 0, 1) := by decide +kernel
theorem dL_clearSet_2 : decode cL_clearSet 2 = .ok (.aload_n 0, 1) := by decide +kernel
theorem dL_clearSet_3 : decode cL_clearSet 3 = .ok (.iload_n 1, 1) := by decide +kernel
theorem dL_clearSet_4 : decode cL_clearSet 4 = .ok (.invokevirtual 84, 3) := by decide +kernel
theorem dL_clearSet_7 : decode cL_clearSet 7 = .ok (.i2l, 1) := by decide +kernel
theorem dL_clearSet_8 : decode cL_clearSet 8 = .ok (.lastore, 1) := by decide +kernel
theorem dL_clearSet_9 : decode cL_clearSet 9 = .ok (.goto 6, 3) := by decide +kernel
theorem dL_clearSet_12 : decode cL_clearSet 12 = .ok (.astore_n 3, 1) := by decide +kernel
theorem dL_clearSet_13 : decode cL_clearSet 13 = .ok (.iconst 1, 1) := by decide +kernel
theorem dL_clearSet_14 : decode cL_clearSet 14 = .ok (.ireturn, 1) := by decide +kernel
theorem dL_clearSet_15 : decode cL_clearSet 15 = .ok (.iconst 0, 1) := by decide +kernel
theorem dL_clearSet_16 : decode cL_clearSet 16 = .ok (.ireturn, 1) := by decide +kernel
set_option maxRecDepth 20000 in
theorem ggL_contains_X10_contains : GoodIn wsL_contains wsX10_contains := goodIn_ca (goodIn_ca (goodIn_ca (goodIn_r _ [6, 7, 8, 9, 10, 5, 11, 12, 13, 14, 15, 16, 17, 18, 19, 20, 21, 22, 23, 24, 25, 26, 27, 28, 29, 30, 31, 32, 33, 34, 35, 36, 37, 38, 39, 40, 41, 42, 43, 44, 45, 46, 47, 48, 49, 50, 51, 52, 53, 54, 55, 56, 57, 58, 59, 60, 61, 62, 63, 64, 65, 66, 67, 68, 69, 70, 71, 72, 73, 74, 75, 76, 77, 78, 79, 80, 81, 82, 83, 84, 85, 86, 87, 88, 89, 90, 91, 92, 93, 94, 95, 96, 97, 98, 99, 100, 101] (by decide +kernel) (by decide +kernel)) (goodIn_sub (fun _ h => List.mem_cons_of_mem _ (List.mem_append_left _ (List.mem_append_right _ h))) (gsub_f _))) (goodIn_sub (fun _ h => List.mem_cons_of_mem _ (List.mem_append_right _ h)) (gsub_f _))) (goodIn_sub (fun _ h => List.mem_cons_of_mem _ (List.mem_append_left _ (List.mem_append_left _ (List.mem_append_right _ h)))) (gsub_f _))
set_option maxRecDepth 20000 in
theorem gL_contains_X10_contains : GoodIn wsL_contains (wsV RL 87 RX10 yX10_contains wsX10_contains) := goodIn_app (goodIn_r _ [2, 3, 4, 5] (by decide +kernel) (by decide +kernel)) ggL_contains_X10_contains
theorem dL_contains_0 : decode cL_contains 0 = .ok (.aload 5, 2) := by decide +kernel
theorem dL_contains_2 : decode cL_contains 2 = .ok (.iconst 0, 1) := by decide +kernel
theorem dL_contains_3 : decode cL_contains 3 = .ok (.aload_n 0, 1) := by decide +kernel
theorem dL_contains_4 : decode cL_contains 4 = .ok (.iload_n 1, 1) := by decide +kernel
theorem dL_contains_5 : decode cL_contains 5 = .ok (.iload_n 2, 1) := by decide +kernel
theorem dL_contains_6 : decode cL_contains 6 = .ok (.iload_n 3, 1) := by decide +kernel
theorem dL_contains_7 : decode cL_contains 7 = .ok (.iload 4, 2) := by decide +kernel
theorem dL_contains_9 : decode cL_contains 9 = .ok (.invokevirtual 87, 3) := by decide +kernel
theorem dL_contains_12 : decode cL_contains 12 = .ok (.ifCond .eq 7, 3) := by decide +kernel
theorem dL_contains_15 : decode cL_contains 15 = .ok (.lconst 1, 1) := by decide +kernel
theorem dL_contains_16 : decode cL_contains 16 = .ok (.goto 4, 3) := by decide +kernel
theorem dL_contains_19 : decode cL_contains 19 = .ok (.lconst 0, 1) := by decide +kernel
theorem dL_contains_20 : decode cL_contains 20 = .ok (.lastore, 1) := by decide +kernel
theorem dL_contains_21 : decode cL_contains 21 = .ok (.goto 11, 3) := by decide +kernel
theorem dL_contains_24 : decode cL_contains 24 = .ok (.astore 6, 2) := by decide +kernel
theorem dL_contains_26 : decode cL_contains 26 = .ok (.iconst 1, 1) := by decide +kernel
theorem dL_contains_27 : decode cL_contains 27 = .ok (.ireturn, 1) := by decide +kernel
theorem dL_contains_28 : decode cL_contains 28 = .ok (.astore 6, 2) := by decide +kernel
theorem dL_contains_30 : decode cL_contains 30 = .ok (.iconst 2, 1) := by decide +kernel
theorem dL_contains_31 : decode cL_contains 31 = .ok (.ireturn, 1) := by decide +kernel
theorem dL_contains_32 : decode cL_contains 32 = .ok (.iconst 0, 1) := by decide +kernel
theorem dL_contains_33 : decode cL_contains 33 = .ok (.ireturn, 1) := by decide +kernel
set_option maxRecDepth 20000 in
theorem ggL_elements_X10_elements : GoodIn wsL_elements wsX10_elements := goodIn_ca (goodIn_ca (goodIn_ca (goodIn_r _ [6, 7, 8, 9, 10, 5, 11, 12, 13, 14, 15, 16, 17, 18, 19, 20, 21, 22, 23, 24, 25, 26, 27, 28, 29, 30, 31, 32, 33, 34, 35, 36, 37, 38, 39, 40, 41, 42, 43, 44, 45, 46, 47, 48, 49, 50, 51, 52, 53, 54, 55, 56, 57, 58, 59, 60, 61, 62, 63, 64, 65, 66, 67, 68, 69, 70, 71, 72, 73, 74, 75, 76, 77, 78, 79, 80, 81, 82, 83, 84, 85, 86, 87, 88, 89, 90, 91, 92, 93, 94, 95, 96, 97, 98, 99, 100, 101, 102, 103] (by decide +kernel) (by decide +kernel)) (goodIn_sub (fun _ h => List.mem_cons_of_mem _ (List.mem_append_left _ (List.mem_append_right _ h))) (gsub_f _))) (goodIn_sub (fun _ h => List.mem_cons_of_mem _ (List.mem_append_right _ h)) (gsub_f _))) (goodIn_sub (fun _ h => List.mem_cons_of_mem _ (List.mem_append_left _ (List.mem_append_left _ (List.mem_append_right _ h)))) (gsub_f _))
set_option maxRecDepth 20000 in
theorem gL_elements_X10_elements : GoodIn wsL_elements (wsV RL 91 RX10 yX10_elements wsX10_elements) := goodIn_app (goodIn_r _ [2, 3, 4, 5] (by decide +kernel) (by decide +kernel)) ggL_elements_X10_elements
theorem dL_elements_0 : decode cL_elements 0 = .ok (.aload_n 3, 1) := by decide +kernel
theorem dL_elements_1 : decode cL_elements 1 = .ok (.iconst 0, 1) := by decide +kernel
theorem dL_elements_2 : decode cL_elements 2 = .ok (.aload_n 0, 1) := by decide +kernel
theorem dL_elements_3 : decode cL_elements 3 = .ok (.iload_n 1, 1) := by decide +kernel
theorem dL_elements_4 : decode cL_elements 4 = .ok (.iload_n 2, 1) := by decide +kernel
theorem dL_elements_5 : decode cL_elements 5 = .ok (.invokevirtual 91, 3) := by decide +kernel
theorem dL_elements_8 : decode cL_elements 8 = .ok (.i2l, 1) := by decide +kernel
theorem dL_elements_9 : decode cL_elements 9 = .ok (.lastore, 1) := by decide +kernel
theorem dL_elements_10 : decode cL_elements 10 = .ok (.goto 11, 3) := by decide +kernel
theorem dL_elements_13 : decode cL_elements 13 = .ok (.astore 4, 2) := by decide +kernel
theorem dL_elements_15 : decode cL_elements 15 = .ok (.iconst 1, 1) := by decide +kernel
theorem dL_elements_16 : decode cL_elements 16 = .ok (.ireturn, 1) := by decide +kernel
theorem dL_elements_17 : decode cL_elements 17 = .ok (.astore 4, 2) := by decide +kernel
theorem dL_elements_19 : decode cL_elements 19 = .ok (.iconst 2, 1) := by decide +kernel
theorem dL_elements_20 : decode cL_elements 20 = .ok (.ireturn, 1) := by decide +kernel
theorem dL_elements_21 : decode cL_elements 21 = .ok (.iconst 0, 1) := by decide +kernel
theorem dL_elements_22 : decode cL_elements 22 = .ok (.ireturn, 1) := by decide +kernel
set_option maxRecDepth 20000 in
theorem ggL_reachedCounts_X10_reachedCounts : GoodIn wsL_reachedCounts wsX10_reachedCounts := goodIn_ca (goodIn_ca (goodIn_r _ [6, 7, 8, 9, 10, 11, 5, 12, 13, 14, 15, 16, 17, 18, 19, 20, 21, 22, 23, 24, 25, 26, 27, 28, 29, 30, 31, 32, 33, 34, 35, 36, 37, 38, 39, 40, 41, 42, 43, 44, 45, 46, 47, 48, 49, 50, 51, 52, 53, 54, 55, 56, 57, 58, 59, 60, 61, 62] (by decide +kernel) (by decide +kernel)) (goodIn_sub (fun _ h => List.mem_cons_of_mem _ (List.mem_append_right _ h)) (gsub_f _))) (goodIn_sub (fun _ h => List.mem_cons_of_mem _ (List.mem_append_left _ (List.mem_append_right _ h))) (gsub_f _))
set_option maxRecDepth 20000 in
theorem gL_reachedCounts_X10_reachedCounts : GoodIn wsL_reachedCounts (wsV RL 95 RX10 yX10_reachedCounts wsX10_reachedCounts) := goodIn_app (goodIn_r _ [2, 3, 4, 5] (by decide +kernel) (by decide +kernel)) ggL_reachedCounts_X10_reachedCounts
theorem dL_reachedCounts_0 : decode cL_reachedCounts 0 = .ok (.aload_n 2, 1) := by decide +kernel
theorem dL_reachedCounts_1 : decode cL_reachedCounts 1 = .ok (.iconst 0, 1) := by decide +kernel
theorem dL_reachedCounts_2 : decode cL_reachedCounts 2 = .ok (.aload_n 0, 1) := by decide +kernel
theorem dL_reachedCounts_3 : decode cL_reachedCounts 3 = .ok (.iload_n 1, 1) := by decide +kernel
theorem dL_reachedCounts_4 : decode cL_reachedCounts 4 = .ok (.invokevirtual 95, 3) := by decide +kernel
theorem dL_reachedCounts_7 : decode cL_reachedCounts 7 = .ok (.i2l, 1) := by decide +kernel
theorem dL_reachedCounts_8 : decode cL_reachedCounts 8 = .ok (.lastore, 1) := by decide +kernel
theorem dL_reachedCounts_9 : decode cL_reachedCounts 9 = .ok (.goto 6, 3) := by decide +kernel
theorem dL_reachedCounts_12 : decode cL_reachedCounts 12 = .ok (.astore_n 3, 1) := by decide +kernel
theorem dL_reachedCounts_13 : decode cL_reachedCounts 13 = .ok (.iconst 1, 1) := by decide +kernel
theorem dL_reachedCounts_14 : decode cL_reachedCounts 14 = .ok (.ireturn, 1) := by decide +kernel
theorem dL_reachedCounts_15 : decode cL_reachedCounts 15 = .ok (.iconst 0, 1) := by decide +kernel
theorem dL_reachedCounts_16 : decode cL_reachedCounts 16 = .ok (.ireturn, 1) := by decide +kernel
set_option maxRecDepth 20000 in
theorem ggL_firstMissing_X10_firstMissing : GoodIn wsL_firstMissing wsX10_firstMissing := goodIn_ca (goodIn_ca (goodIn_ca (goodIn_ca (goodIn_r _ [6, 7, 8, 5, 9, 10, 11, 12, 13, 14, 15, 16, 17, 18, 19, 20, 21, 22, 23, 24, 25, 26, 27, 28, 29, 30, 31, 32, 33, 34, 35, 36, 37, 38, 39, 40, 41, 42, 43, 44, 45, 46, 47, 48, 49, 50, 51, 52, 53, 54, 55, 56, 57, 58, 59, 60, 61, 62, 63, 64, 65, 66, 67, 68, 69, 70, 71, 72, 73, 74, 75, 76, 77, 78, 79, 80, 81, 82, 83, 84, 85, 86, 87, 88, 89, 90, 91, 92, 93, 94, 95, 96, 97, 98, 99, 100, 101, 102, 103, 104, 105, 106, 107, 108, 109, 110, 111, 112, 113, 114, 115, 116, 117, 118, 119, 120, 121, 122, 123, 124, 125, 126, 127, 128, 129, 130, 131, 132] (by decide +kernel) (by decide +kernel)) (goodIn_sub (fun _ h => List.mem_cons_of_mem _ (List.mem_append_left _ (List.mem_append_left _ (List.mem_append_right _ h)))) (gsub_f _))) (goodIn_sub (fun _ h => List.mem_cons_of_mem _ (List.mem_append_left _ (List.mem_append_right _ h))) (gsub_f _))) (goodIn_sub (fun _ h => List.mem_cons_of_mem _ (List.mem_append_right _ h)) (gsub_f _))) (goodIn_sub (fun _ h => List.mem_cons_of_mem _ (List.mem_append_left _ (List.mem_append_left _ (List.mem_append_left _ (List.mem_append_right _ h))))) (gsub_f _))
set_option maxRecDepth 20000 in
theorem gL_firstMissing_X10_firstMissing : GoodIn wsL_firstMissing (wsV RL 98 RX10 yX10_firstMissing wsX10_firstMissing) := goodIn_app (goodIn_r _ [2, 3, 4, 5] (by decide +kernel) (by decide +kernel)) ggL_firstMissing_X10_firstMissing
theorem dL_firstMissing_0 : decode cL_firstMissing 0 = .ok (.aload_n 3, 1) := by decide +kernel
theorem dL_firstMissing_1 : decode cL_firstMissing 1 = .ok (.iconst 0, 1) := by decide +kernel
theorem dL_firstMissing_2 : decode cL_firstMissing 2 = .ok (.aload_n 0, 1) := by decide +kernel
theorem dL_firstMissing_3 : decode cL_firstMissing 3 = .ok (.iload_n 1, 1) := by decide +kernel
theorem dL_firstMissing_4 : decode cL_firstMissing 4 = .ok (.iload_n 2, 1) := by decide +kernel
theorem dL_firstMissing_5 : decode cL_firstMissing 5 = .ok (.invokevirtual 98, 3) := by decide +kernel
theorem dL_firstMissing_8 : decode cL_firstMissing 8 = .ok (.i2l, 1) := by decide +kernel
theorem dL_firstMissing_9 : decode cL_firstMissing 9 = .ok (.lastore, 1) := by decide +kernel
theorem dL_firstMissing_10 : decode cL_firstMissing 10 = .ok (.goto 15, 3) := by decide +kernel
theorem dL_firstMissing_13 : decode cL_firstMissing 13 = .ok (.astore 4, 2) := by decide +kernel
theorem dL_firstMissing_15 : decode cL_firstMissing 15 = .ok (.iconst 1, 1) := by decide +kernel
theorem dL_firstMissing_16 : decode cL_firstMissing 16 = .ok (.ireturn, 1) := by decide +kernel
theorem dL_firstMissing_17 : decode cL_firstMissing 17 = .ok (.astore 4, 2) := by decide +kernel
theorem dL_firstMissing_19 : decode cL_firstMissing 19 = .ok (.iconst 2, 1) := by decide +kernel
theorem dL_firstMissing_20 : decode cL_firstMissing 20 = .ok (.ireturn, 1) := by decide +kernel
theorem dL_firstMissing_21 : decode cL_firstMissing 21 = .ok (.astore 4, 2) := by decide +kernel
theorem dL_firstMissing_23 : decode cL_firstMissing 23 = .ok (.iconst 3, 1) := by decide +kernel
theorem dL_firstMissing_24 : decode cL_firstMissing 24 = .ok (.ireturn, 1) := by decide +kernel
theorem dL_firstMissing_25 : decode cL_firstMissing 25 = .ok (.iconst 0, 1) := by decide +kernel
theorem dL_firstMissing_26 : decode cL_firstMissing 26 = .ok (.ireturn, 1) := by decide +kernel
set_option maxRecDepth 20000 in
theorem ggL_firstExtra_X10_firstExtra : GoodIn wsL_firstExtra wsX10_firstExtra := goodIn_ca (goodIn_ca (goodIn_ca (goodIn_ca (goodIn_r _ [6, 7, 8, 5, 9, 10, 11, 12, 13, 14, 15, 16, 17, 18, 19, 20, 21, 22, 23, 24, 25, 26, 27, 28, 29, 30, 31, 32, 33, 34, 35, 36, 37, 38, 39, 40, 41, 42, 43, 44, 45, 46, 47, 48, 49, 50, 51, 52, 53, 54, 55, 56, 57, 58, 59, 60, 61, 62, 63, 64, 65, 66, 67, 68, 69, 70, 71, 72, 73, 74, 75, 76, 77, 78, 79, 80, 81, 82, 83, 84, 85, 86, 87, 88, 89, 90, 91, 92, 93, 94, 95, 96, 97, 98, 99, 100, 101, 102, 103, 104, 105, 106, 107, 108, 109, 110, 111, 112, 113, 114, 115, 116, 117, 118, 119, 120, 121, 122, 123, 124, 125, 126, 127, 128, 129, 130, 131, 132] (by decide +kernel) (by decide +kernel)) (goodIn_sub (fun _ h => List.mem_cons_of_mem _ (List.mem_append_left _ (List.mem_append_left _ (List.mem_append_right _ h)))) (gsub_f _))) (goodIn_sub (fun _ h => List.mem_cons_of_mem _ (List.mem_append_left _ (List.mem_append_right _ h))) (gsub_f _))) (goodIn_sub (fun _ h => List.mem_cons_of_mem _ (List.mem_append_right _ h)) (gsub_f _))) (goodIn_sub (fun _ h => List.mem_cons_of_mem _ (List.mem_append_left _ (List.mem_append_left _ (List.mem_append_left _ (List.mem_append_right _ h))))) (gsub_f _))
set_option maxRecDepth 20000 in
theorem gL_firstExtra_X10_firstExtra : GoodIn wsL_firstExtra (wsV RL 101 RX10 yX10_firstExtra wsX10_firstExtra) := goodIn_app (goodIn_r _ [2, 3, 4, 5] (by decide +kernel) (by decide +kernel)) ggL_firstExtra_X10_firstExtra
theorem dL_firstExtra_0 : decode cL_firstExtra 0 = .ok (.aload_n 3, 1) := by decide +kernel
theorem dL_firstExtra_1 : decode cL_firstExtra 1 = .ok (.iconst 0, 1) := by decide +kernel
theorem dL_firstExtra_2 : decode cL_firstExtra 2 = .ok (.aload_n 0, 1) := by decide +kernel
theorem dL_firstExtra_3 : decode cL_firstExtra 3 = .ok (.iload_n 1, 1) := by decide +kernel
theorem dL_firstExtra_4 : decode cL_firstExtra 4 = .ok (.iload_n 2, 1) := by decide +kernel
theorem dL_firstExtra_5 : decode cL_firstExtra 5 = .ok (.invokevirtual 101, 3) := by decide +kernel
theorem dL_firstExtra_8 : decode cL_firstExtra 8 = .ok (.i2l, 1) := by decide +kernel
theorem dL_firstExtra_9 : decode cL_firstExtra 9 = .ok (.lastore, 1) := by decide +kernel
theorem dL_firstExtra_10 : decode cL_firstExtra 10 = .ok (.goto 15, 3) := by decide +kernel
theorem dL_firstExtra_13 : decode cL_firstExtra 13 = .ok (.astore 4, 2) := by decide +kernel
theorem dL_firstExtra_15 : decode cL_firstExtra 15 = .ok (.iconst 1, 1) := by decide +kernel
theorem dL_firstExtra_16 : decode cL_firstExtra 16 = .ok (.ireturn, 1) := by decide +kernel
theorem dL_firstExtra_17 : decode cL_firstExtra 17 = .ok (.astore 4, 2) := by decide +kernel
theorem dL_firstExtra_19 : decode cL_firstExtra 19 = .ok (.iconst 2, 1) := by decide +kernel
theorem dL_firstExtra_20 : decode cL_firstExtra 20 = .ok (.ireturn, 1) := by decide +kernel
theorem dL_firstExtra_21 : decode cL_firstExtra 21 = .ok (.astore 4, 2) := by decide +kernel
theorem dL_firstExtra_23 : decode cL_firstExtra 23 = .ok (.iconst 3, 1) := by decide +kernel
theorem dL_firstExtra_24 : decode cL_firstExtra 24 = .ok (.ireturn, 1) := by decide +kernel
theorem dL_firstExtra_25 : decode cL_firstExtra 25 = .ok (.iconst 0, 1) := by decide +kernel
theorem dL_firstExtra_26 : decode cL_firstExtra 26 = .ok (.ireturn, 1) := by decide +kernel
set_option maxRecDepth 20000 in
theorem ggL_hasCyclePeriods_X10_hasCyclePeriods : GoodIn wsL_hasCyclePeriods wsX10_hasCyclePeriods := goodIn_ca (goodIn_ca (goodIn_r _ [6, 7, 8, 9, 10, 11, 12, 13, 5, 14, 15, 16, 17, 18, 19, 20, 21, 22, 23, 24, 25, 26, 27, 28, 29, 30, 31, 32, 33, 34, 35, 36, 37, 38, 39, 40, 41, 42, 43, 44, 45, 46, 47, 48, 49, 50, 51, 52, 53, 54, 55, 56, 57, 58, 59, 60, 61, 62, 63, 64, 65, 66, 67, 68, 69, 70, 71, 72, 73, 74, 75, 76, 77, 78, 79, 80, 81, 82, 83, 84, 85, 86, 87, 88, 89, 90, 91, 92, 93, 94, 95, 96, 97, 98, 99, 100, 101, 102, 103, 104, 105, 106, 107, 108, 109, 110, 111] (by decide +kernel) (by decide +kernel)) (goodIn_sub (fun _ h => List.mem_cons_of_mem _ (List.mem_append_right _ h)) (gsub_f _))) (goodIn_sub (fun _ h => List.mem_cons_of_mem _ (List.mem_append_left _ (List.mem_append_right _ h))) (gsub_f _))
set_option maxRecDepth 20000 in
theorem gL_hasCyclePeriods_X10_hasCyclePeriods : GoodIn wsL_hasCyclePeriods (wsV RL 104 RX10 yX10_hasCyclePeriods wsX10_hasCyclePeriods) := goodIn_app (goodIn_r _ [2, 3, 4, 5] (by decide +kernel) (by decide +kernel)) ggL_hasCyclePeriods_X10_hasCyclePeriods
theorem dL_hasCyclePeriods_0 : decode cL_hasCyclePeriods 0 = .ok (.aload_n 3, 1) := by decide +kernel
theorem dL_hasCyclePeriods_1 : decode cL_hasCyclePeriods 1 = .ok (.iconst 0, 1) := by decide +kernel
theorem dL_hasCyclePeriods_2 : decode cL_hasCyclePeriods 2 = .ok (.aload_n 0, 1) := by decide +kernel
theorem dL_hasCyclePeriods_3 : decode cL_hasCyclePeriods 3 = .ok (.iload_n 1, 1) := by decide +kernel
theorem dL_hasCyclePeriods_4 : decode cL_hasCyclePeriods 4 = .ok (.iload_n 2, 1) := by decide +kernel
theorem dL_hasCyclePeriods_5 : decode cL_hasCyclePeriods 5 = .ok (.invokevirtual 104, 3) := by decide +kernel
theorem dL_hasCyclePeriods_8 : decode cL_hasCyclePeriods 8 = .ok (.ifCond .eq 7, 3) := by decide +kernel
theorem dL_hasCyclePeriods_11 : decode cL_hasCyclePeriods 11 = .ok (.lconst 1, 1) := by decide +kernel
theorem dL_hasCyclePeriods_12 : decode cL_hasCyclePeriods 12 = .ok (.goto 4, 3) := by decide +kernel
theorem dL_hasCyclePeriods_15 : decode cL_hasCyclePeriods 15 = .ok (.lconst 0, 1) := by decide +kernel
theorem dL_hasCyclePeriods_16 : decode cL_hasCyclePeriods 16 = .ok (.lastore, 1) := by decide +kernel
theorem dL_hasCyclePeriods_17 : decode cL_hasCyclePeriods 17 = .ok (.goto 7, 3) := by decide +kernel
theorem dL_hasCyclePeriods_20 : decode cL_hasCyclePeriods 20 = .ok (.astore 4, 2) := by decide +kernel
theorem dL_hasCyclePeriods_22 : decode cL_hasCyclePeriods 22 = .ok (.iconst 1, 1) := by decide +kernel
theorem dL_hasCyclePeriods_23 : decode cL_hasCyclePeriods 23 = .ok (.ireturn, 1) := by decide +kernel
theorem dL_hasCyclePeriods_24 : decode cL_hasCyclePeriods 24 = .ok (.iconst 0, 1) := by decide +kernel
theorem dL_hasCyclePeriods_25 : decode cL_hasCyclePeriods 25 = .ok (.ireturn, 1) := by decide +kernel
set_option maxRecDepth 20000 in
theorem ggL_acceptedWords_X10_acceptedWords : GoodIn wsL_acceptedWords wsX10_acceptedWords := goodIn_ca (goodIn_ca (goodIn_ca (goodIn_ca (goodIn_r _ [6, 7, 8, 5, 9, 10, 11, 12, 13, 14, 15, 16, 17, 18, 19, 20, 21, 22, 23, 24, 25, 26, 27, 28, 29, 30, 31, 32, 33, 34, 35, 36, 37, 38, 39, 40, 41, 42, 43, 44, 45, 46, 47, 48, 49, 50, 51, 52, 53, 54, 55, 56, 57, 58, 59, 60, 61, 62, 63, 64, 65, 66, 67, 68, 69, 70, 71, 72, 73, 74, 75, 76, 77, 78, 79, 80, 81, 82, 83, 84, 85, 86, 87, 88, 89, 90, 91, 92, 93, 94, 95, 96, 97, 98, 99, 100, 101, 102, 103, 104, 105, 106, 107, 108, 109, 110, 111, 112, 113, 114, 115, 116, 117, 118, 119, 120, 121, 122, 123, 124, 125, 126, 127, 128, 129, 130, 131, 132, 133, 134, 135, 136, 137, 138, 139, 140, 141, 142, 143, 144, 145, 146, 147, 148, 149, 150, 151, 152, 153, 154] (by decide +kernel) (by decide +kernel)) (goodIn_sub (fun _ h => List.mem_cons_of_mem _ (List.mem_append_left _ (List.mem_append_left _ (List.mem_append_right _ h)))) (gsub_f _))) (goodIn_sub (fun _ h => List.mem_cons_of_mem _ (List.mem_append_left _ (List.mem_append_right _ h))) (gsub_f _))) (goodIn_sub (fun _ h => List.mem_cons_of_mem _ (List.mem_append_left _ (List.mem_append_left _ (List.mem_append_left _ (List.mem_append_right _ h))))) (gsub_f _))) (goodIn_sub (fun _ h => List.mem_cons_of_mem _ (List.mem_append_right _ h)) (gsub_f _))
set_option maxRecDepth 20000 in
theorem gL_acceptedWords_X10_acceptedWords : GoodIn wsL_acceptedWords (wsV RL 108 RX10 yX10_acceptedWords wsX10_acceptedWords) := goodIn_app (goodIn_r _ [2, 3, 4, 5] (by decide +kernel) (by decide +kernel)) ggL_acceptedWords_X10_acceptedWords
theorem dL_acceptedWords_0 : decode cL_acceptedWords 0 = .ok (.aload_n 3, 1) := by decide +kernel
theorem dL_acceptedWords_1 : decode cL_acceptedWords 1 = .ok (.iconst 0, 1) := by decide +kernel
theorem dL_acceptedWords_2 : decode cL_acceptedWords 2 = .ok (.aload_n 0, 1) := by decide +kernel
theorem dL_acceptedWords_3 : decode cL_acceptedWords 3 = .ok (.iload_n 1, 1) := by decide +kernel
theorem dL_acceptedWords_4 : decode cL_acceptedWords 4 = .ok (.iload_n 2, 1) := by decide +kernel
theorem dL_acceptedWords_5 : decode cL_acceptedWords 5 = .ok (.invokevirtual 108, 3) := by decide +kernel
theorem dL_acceptedWords_8 : decode cL_acceptedWords 8 = .ok (.lastore, 1) := by decide +kernel
theorem dL_acceptedWords_9 : decode cL_acceptedWords 9 = .ok (.goto 11, 3) := by decide +kernel
theorem dL_acceptedWords_12 : decode cL_acceptedWords 12 = .ok (.astore 4, 2) := by decide +kernel
theorem dL_acceptedWords_14 : decode cL_acceptedWords 14 = .ok (.iconst 1, 1) := by decide +kernel
theorem dL_acceptedWords_15 : decode cL_acceptedWords 15 = .ok (.ireturn, 1) := by decide +kernel
theorem dL_acceptedWords_16 : decode cL_acceptedWords 16 = .ok (.astore 4, 2) := by decide +kernel
theorem dL_acceptedWords_18 : decode cL_acceptedWords 18 = .ok (.iconst 2, 1) := by decide +kernel
theorem dL_acceptedWords_19 : decode cL_acceptedWords 19 = .ok (.ireturn, 1) := by decide +kernel
theorem dL_acceptedWords_20 : decode cL_acceptedWords 20 = .ok (.iconst 0, 1) := by decide +kernel
theorem dL_acceptedWords_21 : decode cL_acceptedWords 21 = .ok (.ireturn, 1) := by decide +kernel
set_option maxRecDepth 20000 in
theorem ggL_isClosed_X10_isClosed : GoodIn wsL_isClosed wsX10_isClosed := goodIn_ca (goodIn_ca (goodIn_ca (goodIn_r _ [6, 7, 8, 5, 9, 10, 11, 12, 13, 14, 15, 16, 17, 18, 19, 20, 21, 22, 23, 24, 25, 26, 27, 28, 29, 30, 31, 32, 33, 34, 35, 36, 37, 38, 39, 40, 41, 42, 43, 44, 45, 46, 47, 48, 49, 50, 51, 52, 53, 54, 55, 56, 57, 58, 59, 60, 61, 62, 63, 64, 65, 66, 67, 68, 69, 70, 71, 72, 73, 74, 75, 76, 77, 78, 79, 80, 81, 82, 83, 84, 85, 86, 87, 88, 89, 90, 91, 92, 93, 94, 95, 96, 97, 98] (by decide +kernel) (by decide +kernel)) (goodIn_sub (fun _ h => List.mem_cons_of_mem _ (List.mem_append_left _ (List.mem_append_right _ h))) (gsub_f _))) (goodIn_sub (fun _ h => List.mem_cons_of_mem _ (List.mem_append_left _ (List.mem_append_left _ (List.mem_append_right _ h)))) (gsub_f _))) (goodIn_sub (fun _ h => List.mem_cons_of_mem _ (List.mem_append_right _ h)) (gsub_f _))
set_option maxRecDepth 20000 in
theorem gL_isClosed_X10_isClosed : GoodIn wsL_isClosed (wsV RL 112 RX10 yX10_isClosed wsX10_isClosed) := goodIn_app (goodIn_r _ [2, 3, 4, 5] (by decide +kernel) (by decide +kernel)) ggL_isClosed_X10_isClosed
theorem dL_isClosed_0 : decode cL_isClosed 0 = .ok (.aload_n 2, 1) := by decide +kernel
theorem dL_isClosed_1 : decode cL_isClosed 1 = .ok (.iconst 0, 1) := by decide +kernel
theorem dL_isClosed_2 : decode cL_isClosed 2 = .ok (.aload_n 0, 1) := by decide +kernel
theorem dL_isClosed_3 : decode cL_isClosed 3 = .ok (.iload_n 1, 1) := by decide +kernel
theorem dL_isClosed_4 : decode cL_isClosed 4 = .ok (.invokevirtual 112, 3) := by decide +kernel
theorem dL_isClosed_7 : decode cL_isClosed 7 = .ok (.ifCond .eq 7, 3) := by decide +kernel
theorem dL_isClosed_10 : decode cL_isClosed 10 = .ok (.lconst 1, 1) := by decide +kernel
theorem dL_isClosed_11 : decode cL_isClosed 11 = .ok (.goto 4, 3) := by decide +kernel
theorem dL_isClosed_14 : decode cL_isClosed 14 = .ok (.lconst 0, 1) := by decide +kernel
theorem dL_isClosed_15 : decode cL_isClosed 15 = .ok (.lastore, 1) := by decide +kernel
theorem dL_isClosed_16 : decode cL_isClosed 16 = .ok (.goto 6, 3) := by decide +kernel
theorem dL_isClosed_19 : decode cL_isClosed 19 = .ok (.astore_n 3, 1) := by decide +kernel
theorem dL_isClosed_20 : decode cL_isClosed 20 = .ok (.iconst 1, 1) := by decide +kernel
theorem dL_isClosed_21 : decode cL_isClosed 21 = .ok (.ireturn, 1) := by decide +kernel
theorem dL_isClosed_22 : decode cL_isClosed 22 = .ok (.iconst 0, 1) := by decide +kernel
theorem dL_isClosed_23 : decode cL_isClosed 23 = .ok (.ireturn, 1) := by decide +kernel
set_option maxRecDepth 20000 in
theorem ggL_takeOpenWord_X10_takeOpenWord : GoodIn wsL_takeOpenWord wsX10_takeOpenWord := goodIn_ca (goodIn_ca (goodIn_ca (goodIn_ca (goodIn_r _ [6, 7, 8, 9, 10, 11, 12, 13, 14, 5, 15, 16, 17, 18, 19, 20, 21, 22, 23, 24, 25, 26, 27, 28, 29, 30, 31, 32, 33, 34, 35, 36, 37, 38, 39, 40, 41, 42, 43, 44, 45, 46, 47, 48, 49, 50, 51, 52, 53, 54, 55, 56, 57, 58, 59, 60, 61, 62, 63, 64, 65, 66, 67, 68, 69, 70, 71, 72, 73, 74, 75, 76, 77, 78, 79, 80, 81, 82, 83, 84, 85, 86, 87, 88, 89, 90, 91, 92, 93, 94, 95, 96, 97, 98, 99, 100, 101, 102, 103, 104, 105, 106, 107, 108, 109, 110, 111, 112, 113, 114, 115, 116, 117, 118, 119, 120, 121, 122] (by decide +kernel) (by decide +kernel)) (goodIn_sub (fun _ h => List.mem_cons_of_mem _ (List.mem_append_left _ (List.mem_append_left _ (List.mem_append_right _ h)))) (gsub_f _))) (goodIn_sub (fun _ h => List.mem_cons_of_mem _ (List.mem_append_left _ (List.mem_append_right _ h))) (gsub_f _))) (goodIn_sub (fun _ h => List.mem_cons_of_mem _ (List.mem_append_left _ (List.mem_append_left _ (List.mem_append_left _ (List.mem_append_right _ h))))) (gsub_f _))) (goodIn_sub (fun _ h => List.mem_cons_of_mem _ (List.mem_append_right _ h)) (gsub_f _))
set_option maxRecDepth 20000 in
theorem gL_takeOpenWord_X10_takeOpenWord : GoodIn wsL_takeOpenWord (wsV RL 115 RX10 yX10_takeOpenWord wsX10_takeOpenWord) := goodIn_app (goodIn_r _ [2, 3, 4, 5] (by decide +kernel) (by decide +kernel)) ggL_takeOpenWord_X10_takeOpenWord
theorem dL_takeOpenWord_0 : decode cL_takeOpenWord 0 = .ok (.aload_n 2, 1) := by decide +kernel
theorem dL_takeOpenWord_1 : decode cL_takeOpenWord 1 = .ok (.iconst 0, 1) := by decide +kernel
theorem dL_takeOpenWord_2 : decode cL_takeOpenWord 2 = .ok (.aload_n 0, 1) := by decide +kernel
theorem dL_takeOpenWord_3 : decode cL_takeOpenWord 3 = .ok (.iload_n 1, 1) := by decide +kernel
theorem dL_takeOpenWord_4 : decode cL_takeOpenWord 4 = .ok (.invokevirtual 115, 3) := by decide +kernel
theorem dL_takeOpenWord_7 : decode cL_takeOpenWord 7 = .ok (.i2l, 1) := by decide +kernel
theorem dL_takeOpenWord_8 : decode cL_takeOpenWord 8 = .ok (.lastore, 1) := by decide +kernel
theorem dL_takeOpenWord_9 : decode cL_takeOpenWord 9 = .ok (.goto 9, 3) := by decide +kernel
theorem dL_takeOpenWord_12 : decode cL_takeOpenWord 12 = .ok (.astore_n 3, 1) := by decide +kernel
theorem dL_takeOpenWord_13 : decode cL_takeOpenWord 13 = .ok (.iconst 1, 1) := by decide +kernel
theorem dL_takeOpenWord_14 : decode cL_takeOpenWord 14 = .ok (.ireturn, 1) := by decide +kernel
theorem dL_takeOpenWord_15 : decode cL_takeOpenWord 15 = .ok (.astore_n 3, 1) := by decide +kernel
theorem dL_takeOpenWord_16 : decode cL_takeOpenWord 16 = .ok (.iconst 2, 1) := by decide +kernel
theorem dL_takeOpenWord_17 : decode cL_takeOpenWord 17 = .ok (.ireturn, 1) := by decide +kernel
theorem dL_takeOpenWord_18 : decode cL_takeOpenWord 18 = .ok (.iconst 0, 1) := by decide +kernel
theorem dL_takeOpenWord_19 : decode cL_takeOpenWord 19 = .ok (.ireturn, 1) := by decide +kernel
set_option maxRecDepth 20000 in
theorem ggL_density_X10_density : GoodIn wsL_density wsX10_density := goodIn_ca (goodIn_ca (goodIn_ca (goodIn_ca (goodIn_r _ [6, 7, 8, 9, 5, 10, 11, 12, 13, 14, 15, 16, 17, 18, 19, 20, 21, 22, 23, 24, 25, 26, 27, 28, 29, 30, 31, 32, 33, 34, 35, 36, 37, 38, 39, 40, 41, 42, 43, 44, 45, 46, 47, 48, 49, 50, 51, 52, 53, 54, 55, 56, 57, 58, 59, 60, 61, 62, 63, 64, 65, 66, 67, 68, 69, 70, 71, 72, 73, 74, 75, 76, 77, 78, 79, 80, 81, 82, 83, 84, 85, 86, 87, 88, 89, 90, 91, 92, 93, 94, 95, 96, 97, 98, 99, 100, 101, 102, 103, 104, 105, 106, 107, 108, 109, 110, 111, 112, 113, 114, 115, 116, 117, 118, 119, 120, 121, 122, 123, 124, 125, 126, 127, 128, 129, 130, 131, 132, 133, 134, 135, 136, 137, 138, 139, 140, 141, 142, 143, 144, 145, 146, 147, 148, 149, 150, 151, 152, 153, 154, 155] (by decide +kernel) (by decide +kernel)) (goodIn_sub (fun _ h => List.mem_cons_of_mem _ (List.mem_append_left _ (List.mem_append_left _ (List.mem_append_right _ h)))) (gsub_f _))) (goodIn_sub (fun _ h => List.mem_cons_of_mem _ (List.mem_append_left _ (List.mem_append_right _ h))) (gsub_f _))) (goodIn_sub (fun _ h => List.mem_cons_of_mem _ (List.mem_append_left _ (List.mem_append_left _ (List.mem_append_left _ (List.mem_append_right _ h))))) (gsub_f _))) (goodIn_sub (fun _ h => List.mem_cons_of_mem _ (List.mem_append_right _ h)) (gsub_f _))
set_option maxRecDepth 20000 in
theorem gL_density_X10_density : GoodIn wsL_density (wsV RL 118 RX10 yX10_density wsX10_density) := goodIn_app (goodIn_r _ [2, 3, 4, 5] (by decide +kernel) (by decide +kernel)) ggL_density_X10_density
theorem dL_density_0 : decode cL_density 0 = .ok (.aload_n 3, 1) := by decide +kernel
theorem dL_density_1 : decode cL_density 1 = .ok (.iconst 0, 1) := by decide +kernel
theorem dL_density_2 : decode cL_density 2 = .ok (.aload_n 0, 1) := by decide +kernel
theorem dL_density_3 : decode cL_density 3 = .ok (.iload_n 1, 1) := by decide +kernel
theorem dL_density_4 : decode cL_density 4 = .ok (.iload_n 2, 1) := by decide +kernel
theorem dL_density_5 : decode cL_density 5 = .ok (.invokevirtual 118, 3) := by decide +kernel
theorem dL_density_8 : decode cL_density 8 = .ok (.dastore, 1) := by decide +kernel
theorem dL_density_9 : decode cL_density 9 = .ok (.goto 11, 3) := by decide +kernel
theorem dL_density_12 : decode cL_density 12 = .ok (.astore 4, 2) := by decide +kernel
theorem dL_density_14 : decode cL_density 14 = .ok (.iconst 1, 1) := by decide +kernel
theorem dL_density_15 : decode cL_density 15 = .ok (.ireturn, 1) := by decide +kernel
theorem dL_density_16 : decode cL_density 16 = .ok (.astore 4, 2) := by decide +kernel
theorem dL_density_18 : decode cL_density 18 = .ok (.iconst 2, 1) := by decide +kernel
theorem dL_density_19 : decode cL_density 19 = .ok (.ireturn, 1) := by decide +kernel
theorem dL_density_20 : decode cL_density 20 = .ok (.iconst 0, 1) := by decide +kernel
theorem dL_density_21 : decode cL_density 21 = .ok (.ireturn, 1) := by decide +kernel
set_option maxRecDepth 20000 in
theorem ggL_averageMinimum_X10_averageMinimum : GoodIn wsL_averageMinimum wsX10_averageMinimum := goodIn_ca (goodIn_ca (goodIn_r _ [6, 7, 8, 9, 10, 11, 12, 13, 5, 14, 15, 16, 17, 18, 19, 20, 21, 22, 23, 24, 25, 26, 27, 28, 29, 30, 31, 32, 33, 34, 35, 36, 37, 38, 39, 40, 41, 42, 43, 44, 45, 46, 47, 48, 49, 50, 51, 52, 53, 54, 55, 56, 57, 58, 59, 60, 61, 62, 63, 64, 65, 66, 67, 68, 69, 70, 71, 72, 73, 74, 75, 76, 77, 78, 79, 80, 81, 82, 83, 84, 85, 86, 87, 88, 89, 90, 91, 92, 93, 94, 95, 96, 97] (by decide +kernel) (by decide +kernel)) (goodIn_sub (fun _ h => List.mem_cons_of_mem _ (List.mem_append_right _ h)) (gsub_f _))) (goodIn_sub (fun _ h => List.mem_cons_of_mem _ (List.mem_append_left _ (List.mem_append_right _ h))) (gsub_f _))
set_option maxRecDepth 20000 in
theorem gL_averageMinimum_X10_averageMinimum : GoodIn wsL_averageMinimum (wsV RL 122 RX10 yX10_averageMinimum wsX10_averageMinimum) := goodIn_app (goodIn_r _ [2, 3, 4, 5] (by decide +kernel) (by decide +kernel)) ggL_averageMinimum_X10_averageMinimum
theorem dL_averageMinimum_0 : decode cL_averageMinimum 0 = .ok (.aload_n 1, 1) := by decide +kernel
theorem dL_averageMinimum_1 : decode cL_averageMinimum 1 = .ok (.iconst 0, 1) := by decide +kernel
theorem dL_averageMinimum_2 : decode cL_averageMinimum 2 = .ok (.aload_n 0, 1) := by decide +kernel
theorem dL_averageMinimum_3 : decode cL_averageMinimum 3 = .ok (.invokevirtual 122, 3) := by decide +kernel
theorem dL_averageMinimum_6 : decode cL_averageMinimum 6 = .ok (.f2d, 1) := by decide +kernel
theorem dL_averageMinimum_7 : decode cL_averageMinimum 7 = .ok (.dastore, 1) := by decide +kernel
theorem dL_averageMinimum_8 : decode cL_averageMinimum 8 = .ok (.goto 6, 3) := by decide +kernel
theorem dL_averageMinimum_11 : decode cL_averageMinimum 11 = .ok (.astore_n 2, 1) := by decide +kernel
theorem dL_averageMinimum_12 : decode cL_averageMinimum 12 = .ok (.iconst 1, 1) := by decide +kernel
theorem dL_averageMinimum_13 : decode cL_averageMinimum 13 = .ok (.ireturn, 1) := by decide +kernel
theorem dL_averageMinimum_14 : decode cL_averageMinimum 14 = .ok (.iconst 0, 1) := by decide +kernel
theorem dL_averageMinimum_15 : decode cL_averageMinimum 15 = .ok (.ireturn, 1) := by decide +kernel
set_option maxRecDepth 20000 in
theorem ggL_undo_X10_undo : GoodIn wsL_undo wsX10_undo := goodIn_ca (goodIn_ca (goodIn_r _ [6, 7, 8, 9, 10, 11, 12, 13, 14, 15, 16, 17, 18, 19, 20, 21, 22, 23, 24, 25, 26, 27, 28, 29, 30, 31, 32, 33, 34, 35, 36, 37, 38, 39, 40, 41, 42, 43, 44, 5, 45, 46, 47, 48, 49, 50, 51, 52, 53, 54, 55, 56, 57, 58, 59, 60, 61, 62, 63, 64, 65, 66, 67, 68, 69, 70, 71, 72, 73, 74, 75] (by decide +kernel) (by decide +kernel)) (goodIn_sub (fun _ h => List.mem_cons_of_mem _ (List.mem_append_right _ h)) (gsub_f _))) (goodIn_sub (fun _ h => List.mem_cons_of_mem _ (List.mem_append_left _ (List.mem_append_right _ h))) (gsub_f _))
set_option maxRecDepth 20000 in
theorem gL_undo_X10_undo : GoodIn wsL_undo (wsV RL 128 RX10 yX10_undo wsX10_undo) := goodIn_app (goodIn_r _ [2, 3, 4, 5] (by decide +kernel) (by decide +kernel)) ggL_undo_X10_undo
theorem dL_undo_0 : decode cL_undo 0 = .ok (.aload_n 1, 1) := by decide +kernel
theorem dL_undo_1 : decode cL_undo 1 = .ok (.iconst 0, 1) := by decide +kernel
theorem dL_undo_2 : decode cL_undo 2 = .ok (.aload_n 0, 1) := by decide +kernel
theorem dL_undo_3 : decode cL_undo 3 = .ok (.invokevirtual 128, 3) := by decide +kernel
theorem dL_undo_6 : decode cL_undo 6 = .ok (.i2l, 1) := by decide +kernel
theorem dL_undo_7 : decode cL_undo 7 = .ok (.lastore, 1) := by decide +kernel
theorem dL_undo_8 : decode cL_undo 8 = .ok (.goto 6, 3) := by decide +kernel
theorem dL_undo_11 : decode cL_undo 11 = .ok (.astore_n 2, 1) := by decide +kernel
theorem dL_undo_12 : decode cL_undo 12 = .ok (.iconst 1, 1) := by decide +kernel
theorem dL_undo_13 : decode cL_undo 13 = .ok (.ireturn, 1) := by decide +kernel
theorem dL_undo_14 : decode cL_undo 14 = .ok (.iconst 0, 1) := by decide +kernel
theorem dL_undo_15 : decode cL_undo 15 = .ok (.ireturn, 1) := by decide +kernel
set_option maxRecDepth 20000 in
theorem ggL_restore_X10_restore : GoodIn wsL_restore wsX10_restore := goodIn_ca (goodIn_ca (goodIn_r _ [6, 7, 8, 9, 10, 11, 12, 13, 14, 15, 5, 16, 17, 18, 19, 20, 21, 22, 23, 24, 25, 26, 27, 28, 29, 30, 31, 32, 33, 34, 35, 36, 37, 38, 39, 40, 41, 42, 43, 44, 45, 46, 47, 48, 49, 50, 51, 52, 53, 54, 55, 56, 57, 58, 59, 60, 61, 62, 63, 64, 65, 66, 67, 68, 69, 70, 71, 72, 73, 74, 75, 76, 77, 78, 79, 80, 81, 82, 83, 84, 85, 86, 87, 88, 89, 90, 91, 92, 93, 94, 95, 96] (by decide +kernel) (by decide +kernel)) (goodIn_sub (fun _ h => List.mem_cons_of_mem _ (List.mem_append_left _ (List.mem_append_right _ h))) (gsub_f _))) (goodIn_sub (fun _ h => List.mem_cons_of_mem _ (List.mem_append_right _ h)) (gsub_f _))
set_option maxRecDepth 20000 in
theorem gL_restore_X10_restore : GoodIn wsL_restore (wsV RL 131 RX10 yX10_restore wsX10_restore) := goodIn_app (goodIn_r _ [2, 3, 4, 5] (by decide +kernel) (by decide +kernel)) ggL_restore_X10_restore
theorem dL_restore_0 : decode cL_restore 0 = .ok (.aload_n 0, 1) := by decide +kernel
theorem dL_restore_1 : decode cL_restore 1 = .ok (.invokevirtual 131, 3) := by decide +kernel
theorem dL_restore_4 : decode cL_restore 4 = .ok (.goto 6, 3) := by decide +kernel
theorem dL_restore_7 : decode cL_restore 7 = .ok (.astore_n 1, 1) := by decide +kernel
theorem dL_restore_8 : decode cL_restore 8 = .ok (.iconst 1, 1) := by decide +kernel
theorem dL_restore_9 : decode cL_restore 9 = .ok (.ireturn, 1) := by decide +kernel
theorem dL_restore_10 : decode cL_restore 10 = .ok (.iconst 0, 1) := by decide +kernel
theorem dL_restore_11 : decode cL_restore 11 = .ok (.ireturn, 1) := by decide +kernel
