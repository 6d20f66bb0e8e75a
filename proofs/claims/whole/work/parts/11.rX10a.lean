theorem dX10_isState_0 : decode cX10_isState 0 = .ok (.iload_n 0, 1) := by decide +kernel
theorem dX10_isState_1 : decode cX10_isState 1 = .ok (.ifCond .lt 12, 3) := by decide +kernel
theorem dX10_isState_4 : decode cX10_isState 4 = .ok (.iload_n 0, 1) := by decide +kernel
theorem dX10_isState_5 : decode cX10_isState 5 = .ok (.iconst 5, 1) := by decide +kernel
theorem dX10_isState_6 : decode cX10_isState 6 = .ok (.if_icmp .ge 7, 3) := by decide +kernel
theorem dX10_isState_9 : decode cX10_isState 9 = .ok (.iconst 1, 1) := by decide +kernel
theorem dX10_isState_10 : decode cX10_isState 10 = .ok (.goto 4, 3) := by decide +kernel
theorem dX10_isState_13 : decode cX10_isState 13 = .ok (.iconst 0, 1) := by decide +kernel
theorem dX10_isState_14 : decode cX10_isState 14 = .ok (.ireturn, 1) := by decide +kernel
theorem dX10_isLetter_0 : decode cX10_isLetter 0 = .ok (.iload_n 0, 1) := by decide +kernel
theorem dX10_isLetter_1 : decode cX10_isLetter 1 = .ok (.ifCond .lt 12, 3) := by decide +kernel
theorem dX10_isLetter_4 : decode cX10_isLetter 4 = .ok (.iload_n 0, 1) := by decide +kernel
theorem dX10_isLetter_5 : decode cX10_isLetter 5 = .ok (.iconst 3, 1) := by decide +kernel
theorem dX10_isLetter_6 : decode cX10_isLetter 6 = .ok (.if_icmp .ge 7, 3) := by decide +kernel
theorem dX10_isLetter_9 : decode cX10_isLetter 9 = .ok (.iconst 1, 1) := by decide +kernel
theorem dX10_isLetter_10 : decode cX10_isLetter 10 = .ok (.goto 4, 3) := by decide +kernel
theorem dX10_isLetter_13 : decode cX10_isLetter 13 = .ok (.iconst 0, 1) := by decide +kernel
theorem dX10_isLetter_14 : decode cX10_isLetter 14 = .ok (.ireturn, 1) := by decide +kernel
set_option maxRecDepth 20000 in
theorem ggX10_isTransition_X10_isState : GoodIn wsX10_isTransition wsX10_isState := goodIn_r _ [4] (by decide +kernel) (by decide +kernel)
set_option maxRecDepth 20000 in
theorem gX10_isTransition_X10_isState : GoodIn wsX10_isTransition (va_wsS RX10 172 yX10_isState wsX10_isState) := goodIn_app (goodIn_of _ (by decide +kernel)) ggX10_isTransition_X10_isState
set_option maxRecDepth 20000 in
theorem ggX10_isTransition_X10_isLetter : GoodIn wsX10_isTransition wsX10_isLetter := goodIn_r _ [7] (by decide +kernel) (by decide +kernel)
set_option maxRecDepth 20000 in
theorem gX10_isTransition_X10_isLetter : GoodIn wsX10_isTransition (va_wsS RX10 202 yX10_isLetter wsX10_isLetter) := goodIn_app (goodIn_of _ (by decide +kernel)) ggX10_isTransition_X10_isLetter
theorem dX10_isTransition_0 : decode cX10_isTransition 0 = .ok (.iload_n 0, 1) := by decide +kernel
theorem dX10_isTransition_1 : decode cX10_isTransition 1 = .ok (.invokestatic 172, 3) := by decide +kernel
theorem dX10_isTransition_4 : decode cX10_isTransition 4 = .ok (.ifCond .eq 21, 3) := by decide +kernel
theorem dX10_isTransition_7 : decode cX10_isTransition 7 = .ok (.iload_n 1, 1) := by decide +kernel
theorem dX10_isTransition_8 : decode cX10_isTransition 8 = .ok (.invokestatic 202, 3) := by decide +kernel
theorem dX10_isTransition_11 : decode cX10_isTransition 11 = .ok (.ifCond .eq 14, 3) := by decide +kernel
theorem dX10_isTransition_14 : decode cX10_isTransition 14 = .ok (.iload_n 2, 1) := by decide +kernel
theorem dX10_isTransition_15 : decode cX10_isTransition 15 = .ok (.invokestatic 172, 3) := by decide +kernel
theorem dX10_isTransition_18 : decode cX10_isTransition 18 = .ok (.ifCond .eq 7, 3) := by decide +kernel
theorem dX10_isTransition_21 : decode cX10_isTransition 21 = .ok (.iconst 1, 1) := by decide +kernel
theorem dX10_isTransition_22 : decode cX10_isTransition 22 = .ok (.goto 4, 3) := by decide +kernel
theorem dX10_isTransition_25 : decode cX10_isTransition 25 = .ok (.iconst 0, 1) := by decide +kernel
theorem dX10_isTransition_26 : decode cX10_isTransition 26 = .ok (.ireturn, 1) := by decide +kernel
theorem dX10_isSet_0 : decode cX10_isSet 0 = .ok (.iload_n 0, 1) := by decide +kernel
theorem dX10_isSet_1 : decode cX10_isSet 1 = .ok (.ifCond .lt 12, 3) := by decide +kernel
theorem dX10_isSet_4 : decode cX10_isSet 4 = .ok (.iload_n 0, 1) := by decide +kernel
theorem dX10_isSet_5 : decode cX10_isSet 5 = .ok (.iconst 2, 1) := by decide +kernel
theorem dX10_isSet_6 : decode cX10_isSet 6 = .ok (.if_icmp .ge 7, 3) := by decide +kernel
theorem dX10_isSet_9 : decode cX10_isSet 9 = .ok (.iconst 1, 1) := by decide +kernel
theorem dX10_isSet_10 : decode cX10_isSet 10 = .ok (.goto 4, 3) := by decide +kernel
theorem dX10_isSet_13 : decode cX10_isSet 13 = .ok (.iconst 0, 1) := by decide +kernel
theorem dX10_isSet_14 : decode cX10_isSet 14 = .ok (.ireturn, 1) := by decide +kernel
theorem dX10_isDigit_0 : decode cX10_isDigit 0 = .ok (.iload_n 0, 1) := by decide +kernel
theorem dX10_isDigit_1 : decode cX10_isDigit 1 = .ok (.ifCond .lt 13, 3) := by decide +kernel
theorem dX10_isDigit_4 : decode cX10_isDigit 4 = .ok (.iload_n 0, 1) := by decide +kernel
theorem dX10_isDigit_5 : decode cX10_isDigit 5 = .ok (.bipush 9, 2) := by decide +kernel
theorem dX10_isDigit_7 : decode cX10_isDigit 7 = .ok (.if_icmp .gt 7, 3) := by decide +kernel
theorem dX10_isDigit_10 : decode cX10_isDigit 10 = .ok (.iconst 1, 1) := by decide +kernel
theorem dX10_isDigit_11 : decode cX10_isDigit 11 = .ok (.goto 4, 3) := by decide +kernel
theorem dX10_isDigit_14 : decode cX10_isDigit 14 = .ok (.iconst 0, 1) := by decide +kernel
theorem dX10_isDigit_15 : decode cX10_isDigit 15 = .ok (.ireturn, 1) := by decide +kernel
set_option maxRecDepth 20000 in
theorem ggX10_areDigits_X10_isDigit : GoodIn wsX10_areDigits wsX10_isDigit := goodIn_r _ [4] (by decide +kernel) (by decide +kernel)
set_option maxRecDepth 20000 in
theorem gX10_areDigits_X10_isDigit : GoodIn wsX10_areDigits (va_wsS RX10 401 yX10_isDigit wsX10_isDigit) := goodIn_app (goodIn_of _ (by decide +kernel)) ggX10_areDigits_X10_isDigit
theorem dX10_areDigits_0 : decode cX10_areDigits 0 = .ok (.iload_n 0, 1) := by decide +kernel
theorem dX10_areDigits_1 : decode cX10_areDigits 1 = .ok (.invokestatic 401, 3) := by decide +kernel
theorem dX10_areDigits_4 : decode cX10_areDigits 4 = .ok (.ifCond .eq 21, 3) := by decide +kernel
theorem dX10_areDigits_7 : decode cX10_areDigits 7 = .ok (.iload_n 1, 1) := by decide +kernel
theorem dX10_areDigits_8 : decode cX10_areDigits 8 = .ok (.invokestatic 401, 3) := by decide +kernel
theorem dX10_areDigits_11 : decode cX10_areDigits 11 = .ok (.ifCond .eq 14, 3) := by decide +kernel
theorem dX10_areDigits_14 : decode cX10_areDigits 14 = .ok (.iload_n 2, 1) := by decide +kernel
theorem dX10_areDigits_15 : decode cX10_areDigits 15 = .ok (.invokestatic 401, 3) := by decide +kernel
theorem dX10_areDigits_18 : decode cX10_areDigits 18 = .ok (.ifCond .eq 7, 3) := by decide +kernel
theorem dX10_areDigits_21 : decode cX10_areDigits 21 = .ok (.iconst 1, 1) := by decide +kernel
theorem dX10_areDigits_22 : decode cX10_areDigits 22 = .ok (.goto 4, 3) := by decide +kernel
theorem dX10_areDigits_25 : decode cX10_areDigits 25 = .ok (.iconst 0, 1) := by decide +kernel
theorem dX10_areDigits_26 : decode cX10_areDigits 26 = .ok (.ireturn, 1) := by decide +kernel
theorem dX10_codeOf_0 : decode cX10_codeOf 0 = .ok (.bipush 100, 2) := by decide +kernel
theorem dX10_codeOf_2 : decode cX10_codeOf 2 = .ok (.iload_n 0, 1) := by decide +kernel
theorem dX10_codeOf_3 : decode cX10_codeOf 3 = .ok (.imul, 1) := by decide +kernel
theorem dX10_codeOf_4 : decode cX10_codeOf 4 = .ok (.bipush 10, 2) := by decide +kernel
theorem dX10_codeOf_6 : decode cX10_codeOf 6 = .ok (.iload_n 1, 1) := by decide +kernel
theorem dX10_codeOf_7 : decode cX10_codeOf 7 = .ok (.imul, 1) := by decide +kernel
theorem dX10_codeOf_8 : decode cX10_codeOf 8 = .ok (.iadd, 1) := by decide +kernel
theorem dX10_codeOf_9 : decode cX10_codeOf 9 = .ok (.iload_n 2, 1) := by decide +kernel
theorem dX10_codeOf_10 : decode cX10_codeOf 10 = .ok (.iadd, 1) := by decide +kernel
theorem dX10_codeOf_11 : decode cX10_codeOf 11 = .ok (.ireturn, 1) := by decide +kernel
theorem dX10_weightOf_0 : decode cX10_weightOf 0 = .ok (.iload_n 0, 1) := by decide +kernel
theorem dX10_weightOf_1 : decode cX10_weightOf 1 = .ok (.ifCond .ne 8, 3) := by decide +kernel
theorem dX10_weightOf_4 : decode cX10_weightOf 4 = .ok (.bipush 100, 2) := by decide +kernel
theorem dX10_weightOf_6 : decode cX10_weightOf 6 = .ok (.goto 14, 3) := by decide +kernel
theorem dX10_weightOf_9 : decode cX10_weightOf 9 = .ok (.iload_n 0, 1) := by decide +kernel
theorem dX10_weightOf_10 : decode cX10_weightOf 10 = .ok (.iconst 1, 1) := by decide +kernel
theorem dX10_weightOf_11 : decode cX10_weightOf 11 = .ok (.if_icmp .ne 8, 3) := by decide +kernel
theorem dX10_weightOf_14 : decode cX10_weightOf 14 = .ok (.bipush 10, 2) := by decide +kernel
theorem dX10_weightOf_16 : decode cX10_weightOf 16 = .ok (.goto 4, 3) := by decide +kernel
theorem dX10_weightOf_19 : decode cX10_weightOf 19 = .ok (.iconst 1, 1) := by decide +kernel
theorem dX10_weightOf_20 : decode cX10_weightOf 20 = .ok (.ireturn, 1) := by decide +kernel
theorem dX10_firstOf_0 : decode cX10_firstOf 0 = .ok (.iload_n 0, 1) := by decide +kernel
theorem dX10_firstOf_1 : decode cX10_firstOf 1 = .ok (.bipush 100, 2) := by decide +kernel
theorem dX10_firstOf_3 : decode cX10_firstOf 3 = .ok (.idiv, 1) := by decide +kernel
theorem dX10_firstOf_4 : decode cX10_firstOf 4 = .ok (.ireturn, 1) := by decide +kernel
theorem dX10_secondOf_0 : decode cX10_secondOf 0 = .ok (.iload_n 0, 1) := by decide +kernel
theorem dX10_secondOf_1 : decode cX10_secondOf 1 = .ok (.bipush 10, 2) := by decide +kernel
theorem dX10_secondOf_3 : decode cX10_secondOf 3 = .ok (.idiv, 1) := by decide +kernel
theorem dX10_secondOf_4 : decode cX10_secondOf 4 = .ok (.bipush 10, 2) := by decide +kernel
theorem dX10_secondOf_6 : decode cX10_secondOf 6 = .ok (.irem, 1) := by decide +kernel
theorem dX10_secondOf_7 : decode cX10_secondOf 7 = .ok (.ireturn, 1) := by decide +kernel
theorem dX10_thirdOf_0 : decode cX10_thirdOf 0 = .ok (.iload_n 0, 1) := by decide +kernel
theorem dX10_thirdOf_1 : decode cX10_thirdOf 1 = .ok (.bipush 10, 2) := by decide +kernel
theorem dX10_thirdOf_3 : decode cX10_thirdOf 3 = .ok (.irem, 1) := by decide +kernel
theorem dX10_thirdOf_4 : decode cX10_thirdOf 4 = .ok (.ireturn, 1) := by decide +kernel
theorem dX10_choose_0 : decode cX10_choose 0 = .ok (.lconst 1, 1) := by decide +kernel
theorem dX10_choose_1 : decode cX10_choose 1 = .ok (.lstore_n 2, 1) := by decide +kernel
theorem dX10_choose_2 : decode cX10_choose 2 = .ok (.iconst 1, 1) := by decide +kernel
theorem dX10_choose_3 : decode cX10_choose 3 = .ok (.istore 4, 2) := by decide +kernel
theorem dX10_choose_5 : decode cX10_choose 5 = .ok (.iload 4, 2) := by decide +kernel
theorem dX10_choose_7 : decode cX10_choose 7 = .ok (.iload_n 1, 1) := by decide +kernel
theorem dX10_choose_8 : decode cX10_choose 8 = .ok (.if_icmp .gt 23, 3) := by decide +kernel
theorem dX10_choose_11 : decode cX10_choose 11 = .ok (.lload_n 2, 1) := by decide +kernel
theorem dX10_choose_12 : decode cX10_choose 12 = .ok (.iload_n 0, 1) := by decide +kernel
theorem dX10_choose_13 : decode cX10_choose 13 = .ok (.iload_n 1, 1) := by decide +kernel
theorem dX10_choose_14 : decode cX10_choose 14 = .ok (.isub, 1) := by decide +kernel
theorem dX10_choose_15 : decode cX10_choose 15 = .ok (.iload 4, 2) := by decide +kernel
theorem dX10_choose_17 : decode cX10_choose 17 = .ok (.iadd, 1) := by decide +kernel
theorem dX10_choose_18 : decode cX10_choose 18 = .ok (.i2l, 1) := by decide +kernel
theorem dX10_choose_19 : decode cX10_choose 19 = .ok (.lmul, 1) := by decide +kernel
theorem dX10_choose_20 : decode cX10_choose 20 = .ok (.iload 4, 2) := by decide +kernel
theorem dX10_choose_22 : decode cX10_choose 22 = .ok (.i2l, 1) := by decide +kernel
theorem dX10_choose_23 : decode cX10_choose 23 = .ok (.ldiv, 1) := by decide +kernel
theorem dX10_choose_24 : decode cX10_choose 24 = .ok (.lstore_n 2, 1) := by decide +kernel
theorem dX10_choose_25 : decode cX10_choose 25 = .ok (.iinc 4 1, 3) := by decide +kernel
theorem dX10_choose_28 : decode cX10_choose 28 = .ok (.goto (-23), 3) := by decide +kernel
theorem dX10_choose_31 : decode cX10_choose 31 = .ok (.lload_n 2, 1) := by decide +kernel
theorem dX10_choose_32 : decode cX10_choose 32 = .ok (.lreturn, 1) := by decide +kernel
