/-! decode rows -/
theorem d_L_make_0 : decode c_L_make 0 = .ok (.aload_n 2, 1) := by decide +kernel
theorem d_L_make_1 : decode c_L_make 1 = .ok (.iconst 0, 1) := by decide +kernel
theorem d_L_make_2 : decode c_L_make 2 = .ok (.aload_n 0, 1) := by decide +kernel
theorem d_L_make_3 : decode c_L_make 3 = .ok (.iload_n 1, 1) := by decide +kernel
theorem d_L_make_4 : decode c_L_make 4 = .ok (.invokevirtual 7, 3) := by decide +kernel
theorem d_L_make_7 : decode c_L_make 7 = .ok (.i2l, 1) := by decide +kernel
theorem d_L_make_8 : decode c_L_make 8 = .ok (.lastore, 1) := by decide +kernel
theorem d_L_make_9 : decode c_L_make 9 = .ok (.goto 9, 3) := by decide +kernel
theorem d_L_make_12 : decode c_L_make 12 = .ok (.astore_n 3, 1) := by decide +kernel
theorem d_L_make_13 : decode c_L_make 13 = .ok (.iconst 1, 1) := by decide +kernel
theorem d_L_make_14 : decode c_L_make 14 = .ok (.ireturn, 1) := by decide +kernel
theorem d_L_make_15 : decode c_L_make 15 = .ok (.astore_n 3, 1) := by decide +kernel
theorem d_L_make_16 : decode c_L_make 16 = .ok (.iconst 2, 1) := by decide +kernel
theorem d_L_make_17 : decode c_L_make 17 = .ok (.ireturn, 1) := by decide +kernel
theorem d_L_make_18 : decode c_L_make 18 = .ok (.iconst 0, 1) := by decide +kernel
theorem d_L_make_19 : decode c_L_make 19 = .ok (.ireturn, 1) := by decide +kernel
theorem d_L_drop_0 : decode c_L_drop 0 = .ok (.aload_n 3, 1) := by decide +kernel
theorem d_L_drop_1 : decode c_L_drop 1 = .ok (.iconst 0, 1) := by decide +kernel
theorem d_L_drop_2 : decode c_L_drop 2 = .ok (.aload_n 0, 1) := by decide +kernel
theorem d_L_drop_3 : decode c_L_drop 3 = .ok (.iload_n 1, 1) := by decide +kernel
theorem d_L_drop_4 : decode c_L_drop 4 = .ok (.iload_n 2, 1) := by decide +kernel
theorem d_L_drop_5 : decode c_L_drop 5 = .ok (.invokevirtual 17, 3) := by decide +kernel
theorem d_L_drop_8 : decode c_L_drop 8 = .ok (.i2l, 1) := by decide +kernel
theorem d_L_drop_9 : decode c_L_drop 9 = .ok (.lastore, 1) := by decide +kernel
theorem d_L_drop_10 : decode c_L_drop 10 = .ok (.goto 15, 3) := by decide +kernel
theorem d_L_drop_13 : decode c_L_drop 13 = .ok (.astore 4, 2) := by decide +kernel
theorem d_L_drop_15 : decode c_L_drop 15 = .ok (.iconst 1, 1) := by decide +kernel
theorem d_L_drop_16 : decode c_L_drop 16 = .ok (.ireturn, 1) := by decide +kernel
theorem d_L_drop_17 : decode c_L_drop 17 = .ok (.astore 4, 2) := by decide +kernel
theorem d_L_drop_19 : decode c_L_drop 19 = .ok (.iconst 2, 1) := by decide +kernel
theorem d_L_drop_20 : decode c_L_drop 20 = .ok (.ireturn, 1) := by decide +kernel
theorem d_L_drop_21 : decode c_L_drop 21 = .ok (.astore 4, 2) := by decide +kernel
theorem d_L_drop_23 : decode c_L_drop 23 = .ok (.iconst 3, 1) := by decide +kernel
theorem d_L_drop_24 : decode c_L_drop 24 = .ok (.ireturn, 1) := by decide +kernel
theorem d_L_drop_25 : decode c_L_drop 25 = .ok (.iconst 0, 1) := by decide +kernel
theorem d_L_drop_26 : decode c_L_drop 26 = .ok (.ireturn, 1) := by decide +kernel
theorem d_L_serves_0 : decode c_L_serves 0 = .ok (.aload_n 0, 1) := by decide +kernel
theorem d_L_serves_1 : decode c_L_serves 1 = .ok (.iload_n 1, 1) := by decide +kernel
theorem d_L_serves_2 : decode c_L_serves 2 = .ok (.iload_n 2, 1) := by decide +kernel
theorem d_L_serves_3 : decode c_L_serves 3 = .ok (.invokevirtual 23, 3) := by decide +kernel
theorem d_L_serves_6 : decode c_L_serves 6 = .ok (.goto 9, 3) := by decide +kernel
theorem d_L_serves_9 : decode c_L_serves 9 = .ok (.astore_n 3, 1) := by decide +kernel
theorem d_L_serves_10 : decode c_L_serves 10 = .ok (.iconst 1, 1) := by decide +kernel
theorem d_L_serves_11 : decode c_L_serves 11 = .ok (.ireturn, 1) := by decide +kernel
theorem d_L_serves_12 : decode c_L_serves 12 = .ok (.astore_n 3, 1) := by decide +kernel
theorem d_L_serves_13 : decode c_L_serves 13 = .ok (.iconst 2, 1) := by decide +kernel
theorem d_L_serves_14 : decode c_L_serves 14 = .ok (.ireturn, 1) := by decide +kernel
theorem d_L_serves_15 : decode c_L_serves 15 = .ok (.iconst 0, 1) := by decide +kernel
theorem d_L_serves_16 : decode c_L_serves 16 = .ok (.ireturn, 1) := by decide +kernel
theorem d_L_answers_0 : decode c_L_answers 0 = .ok (.aload_n 0, 1) := by decide +kernel
theorem d_L_answers_1 : decode c_L_answers 1 = .ok (.iload_n 1, 1) := by decide +kernel
theorem d_L_answers_2 : decode c_L_answers 2 = .ok (.iload_n 2, 1) := by decide +kernel
theorem d_L_answers_3 : decode c_L_answers 3 = .ok (.iload_n 3, 1) := by decide +kernel
theorem d_L_answers_4 : decode c_L_answers 4 = .ok (.invokevirtual 27, 3) := by decide +kernel
theorem d_L_answers_7 : decode c_L_answers 7 = .ok (.goto 11, 3) := by decide +kernel
theorem d_L_answers_10 : decode c_L_answers 10 = .ok (.astore 4, 2) := by decide +kernel
theorem d_L_answers_12 : decode c_L_answers 12 = .ok (.iconst 1, 1) := by decide +kernel
theorem d_L_answers_13 : decode c_L_answers 13 = .ok (.ireturn, 1) := by decide +kernel
theorem d_L_answers_14 : decode c_L_answers 14 = .ok (.astore 4, 2) := by decide +kernel
theorem d_L_answers_16 : decode c_L_answers 16 = .ok (.iconst 2, 1) := by decide +kernel
theorem d_L_answers_17 : decode c_L_answers 17 = .ok (.ireturn, 1) := by decide +kernel
theorem d_L_answers_18 : decode c_L_answers 18 = .ok (.iconst 0, 1) := by decide +kernel
theorem d_L_answers_19 : decode c_L_answers 19 = .ok (.ireturn, 1) := by decide +kernel
theorem d_L_fails_0 : decode c_L_fails 0 = .ok (.aload_n 3, 1) := by decide +kernel
theorem d_L_fails_1 : decode c_L_fails 1 = .ok (.iconst 0, 1) := by decide +kernel
theorem d_L_fails_2 : decode c_L_fails 2 = .ok (.aload_n 0, 1) := by decide +kernel
theorem d_L_fails_3 : decode c_L_fails 3 = .ok (.iload_n 1, 1) := by decide +kernel
theorem d_L_fails_4 : decode c_L_fails 4 = .ok (.iload_n 2, 1) := by decide +kernel
theorem d_L_fails_5 : decode c_L_fails 5 = .ok (.invokevirtual 31, 3) := by decide +kernel
theorem d_L_fails_8 : decode c_L_fails 8 = .ok (.i2l, 1) := by decide +kernel
theorem d_L_fails_9 : decode c_L_fails 9 = .ok (.lastore, 1) := by decide +kernel
theorem d_L_fails_10 : decode c_L_fails 10 = .ok (.goto 11, 3) := by decide +kernel
theorem d_L_fails_13 : decode c_L_fails 13 = .ok (.astore 4, 2) := by decide +kernel
theorem d_L_fails_15 : decode c_L_fails 15 = .ok (.iconst 1, 1) := by decide +kernel
theorem d_L_fails_16 : decode c_L_fails 16 = .ok (.ireturn, 1) := by decide +kernel
theorem d_L_fails_17 : decode c_L_fails 17 = .ok (.astore 4, 2) := by decide +kernel
theorem d_L_fails_19 : decode c_L_fails 19 = .ok (.iconst 2, 1) := by decide +kernel
theorem d_L_fails_20 : decode c_L_fails 20 = .ok (.ireturn, 1) := by decide +kernel
theorem d_L_fails_21 : decode c_L_fails 21 = .ok (.iconst 0, 1) := by decide +kernel
theorem d_L_fails_22 : decode c_L_fails 22 = .ok (.ireturn, 1) := by decide +kernel
theorem d_L_call_0 : decode c_L_call 0 = .ok (.aload 4, 2) := by decide +kernel
theorem d_L_call_2 : decode c_L_call 2 = .ok (.iconst 0, 1) := by decide +kernel
theorem d_L_call_3 : decode c_L_call 3 = .ok (.aload_n 0, 1) := by decide +kernel
theorem d_L_call_4 : decode c_L_call 4 = .ok (.iload_n 1, 1) := by decide +kernel
theorem d_L_call_5 : decode c_L_call 5 = .ok (.iload_n 2, 1) := by decide +kernel
theorem d_L_call_6 : decode c_L_call 6 = .ok (.iload_n 3, 1) := by decide +kernel
theorem d_L_call_7 : decode c_L_call 7 = .ok (.invokevirtual 34, 3) := by decide +kernel
theorem d_L_call_10 : decode c_L_call 10 = .ok (.lastore, 1) := by decide +kernel
theorem d_L_call_11 : decode c_L_call 11 = .ok (.goto 19, 3) := by decide +kernel
theorem d_L_call_14 : decode c_L_call 14 = .ok (.astore 5, 2) := by decide +kernel
theorem d_L_call_16 : decode c_L_call 16 = .ok (.iconst 1, 1) := by decide +kernel
theorem d_L_call_17 : decode c_L_call 17 = .ok (.ireturn, 1) := by decide +kernel
theorem d_L_call_18 : decode c_L_call 18 = .ok (.astore 5, 2) := by decide +kernel
theorem d_L_call_20 : decode c_L_call 20 = .ok (.iconst 2, 1) := by decide +kernel
theorem d_L_call_21 : decode c_L_call 21 = .ok (.ireturn, 1) := by decide +kernel
theorem d_L_call_22 : decode c_L_call 22 = .ok (.astore 5, 2) := by decide +kernel
theorem d_L_call_24 : decode c_L_call 24 = .ok (.iconst 3, 1) := by decide +kernel
theorem d_L_call_25 : decode c_L_call 25 = .ok (.ireturn, 1) := by decide +kernel
theorem d_L_call_26 : decode c_L_call 26 = .ok (.astore 5, 2) := by decide +kernel
theorem d_L_call_28 : decode c_L_call 28 = .ok (.iconst 4, 1) := by decide +kernel
theorem d_L_call_29 : decode c_L_call 29 = .ok (.ireturn, 1) := by decide +kernel
theorem d_L_call_30 : decode c_L_call 30 = .ok (.iconst 0, 1) := by decide +kernel
theorem d_L_call_31 : decode c_L_call 31 = .ok (.ireturn, 1) := by decide +kernel
theorem d_L_again_0 : decode c_L_again 0 = .ok (.aload 4, 2) := by decide +kernel
theorem d_L_again_2 : decode c_L_again 2 = .ok (.iconst 0, 1) := by decide +kernel
theorem d_L_again_3 : decode c_L_again 3 = .ok (.aload_n 0, 1) := by decide +kernel
theorem d_L_again_4 : decode c_L_again 4 = .ok (.iload_n 1, 1) := by decide +kernel
theorem d_L_again_5 : decode c_L_again 5 = .ok (.iload_n 2, 1) := by decide +kernel
theorem d_L_again_6 : decode c_L_again 6 = .ok (.iload_n 3, 1) := by decide +kernel
theorem d_L_again_7 : decode c_L_again 7 = .ok (.invokevirtual 40, 3) := by decide +kernel
theorem d_L_again_10 : decode c_L_again 10 = .ok (.lastore, 1) := by decide +kernel
theorem d_L_again_11 : decode c_L_again 11 = .ok (.goto 15, 3) := by decide +kernel
theorem d_L_again_14 : decode c_L_again 14 = .ok (.astore 5, 2) := by decide +kernel
theorem d_L_again_16 : decode c_L_again 16 = .ok (.iconst 1, 1) := by decide +kernel
theorem d_L_again_17 : decode c_L_again 17 = .ok (.ireturn, 1) := by decide +kernel
theorem d_L_again_18 : decode c_L_again 18 = .ok (.astore 5, 2) := by decide +kernel
theorem d_L_again_20 : decode c_L_again 20 = .ok (.iconst 2, 1) := by decide +kernel
theorem d_L_again_21 : decode c_L_again 21 = .ok (.ireturn, 1) := by decide +kernel
theorem d_L_again_22 : decode c_L_again 22 = .ok (.astore 5, 2) := by decide +kernel
theorem d_L_again_24 : decode c_L_again 24 = .ok (.iconst 3, 1) := by decide +kernel
theorem d_L_again_25 : decode c_L_again 25 = .ok (.ireturn, 1) := by decide +kernel
theorem d_L_again_26 : decode c_L_again 26 = .ok (.iconst 0, 1) := by decide +kernel
theorem d_L_again_27 : decode c_L_again 27 = .ok (.ireturn, 1) := by decide +kernel
theorem d_L_collect_0 : decode c_L_collect 0 = .ok (.aload_n 2, 1) := by decide +kernel
theorem d_L_collect_1 : decode c_L_collect 1 = .ok (.iconst 0, 1) := by decide +kernel
theorem d_L_collect_2 : decode c_L_collect 2 = .ok (.aload_n 0, 1) := by decide +kernel
theorem d_L_collect_3 : decode c_L_collect 3 = .ok (.iload_n 1, 1) := by decide +kernel
theorem d_L_collect_4 : decode c_L_collect 4 = .ok (.invokevirtual 43, 3) := by decide +kernel
theorem d_L_collect_7 : decode c_L_collect 7 = .ok (.i2l, 1) := by decide +kernel
theorem d_L_collect_8 : decode c_L_collect 8 = .ok (.lastore, 1) := by decide +kernel
theorem d_L_collect_9 : decode c_L_collect 9 = .ok (.goto 9, 3) := by decide +kernel
theorem d_L_collect_12 : decode c_L_collect 12 = .ok (.astore_n 3, 1) := by decide +kernel
theorem d_L_collect_13 : decode c_L_collect 13 = .ok (.iconst 1, 1) := by decide +kernel
theorem d_L_collect_14 : decode c_L_collect 14 = .ok (.ireturn, 1) := by decide +kernel
theorem d_L_collect_15 : decode c_L_collect 15 = .ok (.astore_n 3, 1) := by decide +kernel
theorem d_L_collect_16 : decode c_L_collect 16 = .ok (.iconst 2, 1) := by decide +kernel
theorem d_L_collect_17 : decode c_L_collect 17 = .ok (.ireturn, 1) := by decide +kernel
theorem d_L_collect_18 : decode c_L_collect 18 = .ok (.iconst 0, 1) := by decide +kernel
theorem d_L_collect_19 : decode c_L_collect 19 = .ok (.ireturn, 1) := by decide +kernel
theorem d_L_back_0 : decode c_L_back 0 = .ok (.aload_n 1, 1) := by decide +kernel
theorem d_L_back_1 : decode c_L_back 1 = .ok (.iconst 0, 1) := by decide +kernel
theorem d_L_back_2 : decode c_L_back 2 = .ok (.aload_n 0, 1) := by decide +kernel
theorem d_L_back_3 : decode c_L_back 3 = .ok (.invokevirtual 46, 3) := by decide +kernel
theorem d_L_back_6 : decode c_L_back 6 = .ok (.i2l, 1) := by decide +kernel
theorem d_L_back_7 : decode c_L_back 7 = .ok (.lastore, 1) := by decide +kernel
theorem d_L_back_8 : decode c_L_back 8 = .ok (.goto 6, 3) := by decide +kernel
theorem d_L_back_11 : decode c_L_back 11 = .ok (.astore_n 2, 1) := by decide +kernel
theorem d_L_back_12 : decode c_L_back 12 = .ok (.iconst 1, 1) := by decide +kernel
theorem d_L_back_13 : decode c_L_back 13 = .ok (.ireturn, 1) := by decide +kernel
theorem d_L_back_14 : decode c_L_back 14 = .ok (.iconst 0, 1) := by decide +kernel
theorem d_L_back_15 : decode c_L_back 15 = .ok (.ireturn, 1) := by decide +kernel
theorem d_L_told_0 : decode c_L_told 0 = .ok (.aload_n 2, 1) := by decide +kernel
theorem d_L_told_1 : decode c_L_told 1 = .ok (.iconst 0, 1) := by decide +kernel
theorem d_L_told_2 : decode c_L_told 2 = .ok (.aload_n 0, 1) := by decide +kernel
theorem d_L_told_3 : decode c_L_told 3 = .ok (.iload_n 1, 1) := by decide +kernel
theorem d_L_told_4 : decode c_L_told 4 = .ok (.invokevirtual 50, 3) := by decide +kernel
theorem d_L_told_7 : decode c_L_told 7 = .ok (.i2l, 1) := by decide +kernel
theorem d_L_told_8 : decode c_L_told 8 = .ok (.lastore, 1) := by decide +kernel
theorem d_L_told_9 : decode c_L_told 9 = .ok (.goto 6, 3) := by decide +kernel
theorem d_L_told_12 : decode c_L_told 12 = .ok (.astore_n 3, 1) := by decide +kernel
theorem d_L_told_13 : decode c_L_told 13 = .ok (.iconst 1, 1) := by decide +kernel
theorem d_L_told_14 : decode c_L_told 14 = .ok (.ireturn, 1) := by decide +kernel
theorem d_L_told_15 : decode c_L_told 15 = .ok (.iconst 0, 1) := by decide +kernel
theorem d_L_told_16 : decode c_L_told 16 = .ok (.ireturn, 1) := by decide +kernel
theorem d_L_worth_0 : decode c_L_worth 0 = .ok (.aload_n 2, 1) := by decide +kernel
theorem d_L_worth_1 : decode c_L_worth 1 = .ok (.iconst 0, 1) := by decide +kernel
theorem d_L_worth_2 : decode c_L_worth 2 = .ok (.aload_n 0, 1) := by decide +kernel
theorem d_L_worth_3 : decode c_L_worth 3 = .ok (.iload_n 1, 1) := by decide +kernel
theorem d_L_worth_4 : decode c_L_worth 4 = .ok (.invokevirtual 53, 3) := by decide +kernel
theorem d_L_worth_7 : decode c_L_worth 7 = .ok (.lastore, 1) := by decide +kernel
theorem d_L_worth_8 : decode c_L_worth 8 = .ok (.goto 6, 3) := by decide +kernel
theorem d_L_worth_11 : decode c_L_worth 11 = .ok (.astore_n 3, 1) := by decide +kernel
theorem d_L_worth_12 : decode c_L_worth 12 = .ok (.iconst 1, 1) := by decide +kernel
theorem d_L_worth_13 : decode c_L_worth 13 = .ok (.ireturn, 1) := by decide +kernel
theorem d_L_worth_14 : decode c_L_worth 14 = .ok (.iconst 0, 1) := by decide +kernel
theorem d_L_worth_15 : decode c_L_worth 15 = .ok (.ireturn, 1) := by decide +kernel
theorem d_L_uses_0 : decode c_L_uses 0 = .ok (.aload_n 3, 1) := by decide +kernel
theorem d_L_uses_1 : decode c_L_uses 1 = .ok (.iconst 0, 1) := by decide +kernel
theorem d_L_uses_2 : decode c_L_uses 2 = .ok (.aload_n 0, 1) := by decide +kernel
theorem d_L_uses_3 : decode c_L_uses 3 = .ok (.iload_n 1, 1) := by decide +kernel
theorem d_L_uses_4 : decode c_L_uses 4 = .ok (.iload_n 2, 1) := by decide +kernel
theorem d_L_uses_5 : decode c_L_uses 5 = .ok (.invokevirtual 57, 3) := by decide +kernel
theorem d_L_uses_8 : decode c_L_uses 8 = .ok (.i2l, 1) := by decide +kernel
theorem d_L_uses_9 : decode c_L_uses 9 = .ok (.lastore, 1) := by decide +kernel
theorem d_L_uses_10 : decode c_L_uses 10 = .ok (.goto 11, 3) := by decide +kernel
theorem d_L_uses_13 : decode c_L_uses 13 = .ok (.astore 4, 2) := by decide +kernel
theorem d_L_uses_15 : decode c_L_uses 15 = .ok (.iconst 1, 1) := by decide +kernel
theorem d_L_uses_16 : decode c_L_uses 16 = .ok (.ireturn, 1) := by decide +kernel
theorem d_L_uses_17 : decode c_L_uses 17 = .ok (.astore 4, 2) := by decide +kernel
theorem d_L_uses_19 : decode c_L_uses 19 = .ok (.iconst 2, 1) := by decide +kernel
theorem d_L_uses_20 : decode c_L_uses 20 = .ok (.ireturn, 1) := by decide +kernel
theorem d_L_uses_21 : decode c_L_uses 21 = .ok (.iconst 0, 1) := by decide +kernel
theorem d_L_uses_22 : decode c_L_uses 22 = .ok (.ireturn, 1) := by decide +kernel
theorem d_L_numbers_0 : decode c_L_numbers 0 = .ok (.aload_n 3, 1) := by decide +kernel
theorem d_L_numbers_1 : decode c_L_numbers 1 = .ok (.iconst 0, 1) := by decide +kernel
theorem d_L_numbers_2 : decode c_L_numbers 2 = .ok (.aload_n 0, 1) := by decide +kernel
theorem d_L_numbers_3 : decode c_L_numbers 3 = .ok (.iload_n 1, 1) := by decide +kernel
theorem d_L_numbers_4 : decode c_L_numbers 4 = .ok (.iload_n 2, 1) := by decide +kernel
theorem d_L_numbers_5 : decode c_L_numbers 5 = .ok (.invokevirtual 60, 3) := by decide +kernel
theorem d_L_numbers_8 : decode c_L_numbers 8 = .ok (.i2l, 1) := by decide +kernel
theorem d_L_numbers_9 : decode c_L_numbers 9 = .ok (.lastore, 1) := by decide +kernel
theorem d_L_numbers_10 : decode c_L_numbers 10 = .ok (.goto 7, 3) := by decide +kernel
theorem d_L_numbers_13 : decode c_L_numbers 13 = .ok (.astore 4, 2) := by decide +kernel
theorem d_L_numbers_15 : decode c_L_numbers 15 = .ok (.iconst 1, 1) := by decide +kernel
theorem d_L_numbers_16 : decode c_L_numbers 16 = .ok (.ireturn, 1) := by decide +kernel
theorem d_L_numbers_17 : decode c_L_numbers 17 = .ok (.iconst 0, 1) := by decide +kernel
theorem d_L_numbers_18 : decode c_L_numbers 18 = .ok (.ireturn, 1) := by decide +kernel
theorem d_L_law_0 : decode code 0 = .ok (.new 8, 3) := by decide +kernel
theorem d_L_law_3 : decode code 3 = .ok (.dup, 1) := by decide +kernel
theorem d_L_law_4 : decode code 4 = .ok (.invokespecial 63, 3) := by decide +kernel
theorem d_L_law_7 : decode code 7 = .ok (.astore_n 1, 1) := by decide +kernel
theorem d_L_law_8 : decode code 8 = .ok (.new 64, 3) := by decide +kernel
theorem d_L_law_11 : decode code 11 = .ok (.dup, 1) := by decide +kernel
theorem d_L_law_12 : decode code 12 = .ok (.invokespecial 66, 3) := by decide +kernel
theorem d_L_law_15 : decode code 15 = .ok (.astore_n 2, 1) := by decide +kernel
theorem d_L_law_16 : decode code 16 = .ok (.iconst 1, 1) := by decide +kernel
theorem d_L_law_17 : decode code 17 = .ok (.newarray .long, 2) := by decide +kernel
theorem d_L_law_19 : decode code 19 = .ok (.astore_n 3, 1) := by decide +kernel
theorem d_L_law_20 : decode code 20 = .ok (.iconst 0, 1) := by decide +kernel
theorem d_L_law_21 : decode code 21 = .ok (.istore 4, 2) := by decide +kernel
theorem d_L_law_23 : decode code 23 = .ok (.iload 4, 2) := by decide +kernel
theorem d_L_law_25 : decode code 25 = .ok (.aload_n 0, 1) := by decide +kernel
theorem d_L_law_26 : decode code 26 = .ok (.arraylength, 1) := by decide +kernel
theorem d_L_law_27 : decode code 27 = .ok (.iconst 4, 1) := by decide +kernel
theorem d_L_law_28 : decode code 28 = .ok (.isub, 1) := by decide +kernel
theorem d_L_law_29 : decode code 29 = .ok (.if_icmp .gt 933, 3) := by decide +kernel
theorem d_L_law_32 : decode code 32 = .ok (.aload_n 0, 1) := by decide +kernel
theorem d_L_law_33 : decode code 33 = .ok (.iload 4, 2) := by decide +kernel
theorem d_L_law_35 : decode code 35 = .ok (.iaload, 1) := by decide +kernel
theorem d_L_law_36 : decode code 36 = .ok (.bipush 15, 2) := by decide +kernel
theorem d_L_law_38 : decode code 38 = .ok (.iand, 1) := by decide +kernel
theorem d_L_law_39 : decode code 39 = .ok (.tableswitch 917 0 14 #[73, 129, 197, 245, 305, 373, 452, 531, 587, 601, 645, 701, 756, 824, 892], 73) := by decide +kernel
theorem d_L_law_112 : decode code 112 = .ok (.aload_n 1, 1) := by decide +kernel
theorem d_L_law_113 : decode code 113 = .ok (.aload_n 0, 1) := by decide +kernel
theorem d_L_law_114 : decode code 114 = .ok (.iload 4, 2) := by decide +kernel
theorem d_L_law_116 : decode code 116 = .ok (.iconst 1, 1) := by decide +kernel
theorem d_L_law_117 : decode code 117 = .ok (.iadd, 1) := by decide +kernel
theorem d_L_law_118 : decode code 118 = .ok (.iaload, 1) := by decide +kernel
theorem d_L_law_119 : decode code 119 = .ok (.aload_n 3, 1) := by decide +kernel
theorem d_L_law_120 : decode code 120 = .ok (.invokestatic 67, 3) := by decide +kernel
theorem d_L_law_123 : decode code 123 = .ok (.istore 5, 2) := by decide +kernel
theorem d_L_law_125 : decode code 125 = .ok (.aload_n 2, 1) := by decide +kernel
theorem d_L_law_126 : decode code 126 = .ok (.aload_n 0, 1) := by decide +kernel
theorem d_L_law_127 : decode code 127 = .ok (.iload 4, 2) := by decide +kernel
theorem d_L_law_129 : decode code 129 = .ok (.iconst 1, 1) := by decide +kernel
theorem d_L_law_130 : decode code 130 = .ok (.iadd, 1) := by decide +kernel
theorem d_L_law_131 : decode code 131 = .ok (.iaload, 1) := by decide +kernel
theorem d_L_law_132 : decode code 132 = .ok (.invokevirtual 72, 3) := by decide +kernel
theorem d_L_law_135 : decode code 135 = .ok (.istore 6, 2) := by decide +kernel
theorem d_L_law_137 : decode code 137 = .ok (.aload_n 2, 1) := by decide +kernel
theorem d_L_law_138 : decode code 138 = .ok (.invokevirtual 73, 3) := by decide +kernel
theorem d_L_law_141 : decode code 141 = .ok (.iload 5, 2) := by decide +kernel
theorem d_L_law_143 : decode code 143 = .ok (.if_icmp .eq 5, 3) := by decide +kernel
theorem d_L_law_146 : decode code 146 = .ok (.iconst 0, 1) := by decide +kernel
theorem d_L_law_147 : decode code 147 = .ok (.ireturn, 1) := by decide +kernel
theorem d_L_law_148 : decode code 148 = .ok (.iload 5, 2) := by decide +kernel
theorem d_L_law_150 : decode code 150 = .ok (.ifCond .ne 15, 3) := by decide +kernel
theorem d_L_law_153 : decode code 153 = .ok (.aload_n 3, 1) := by decide +kernel
theorem d_L_law_154 : decode code 154 = .ok (.iconst 0, 1) := by decide +kernel
theorem d_L_law_155 : decode code 155 = .ok (.laload, 1) := by decide +kernel
theorem d_L_law_156 : decode code 156 = .ok (.iload 6, 2) := by decide +kernel
theorem d_L_law_158 : decode code 158 = .ok (.i2l, 1) := by decide +kernel
theorem d_L_law_159 : decode code 159 = .ok (.lcmp, 1) := by decide +kernel
theorem d_L_law_160 : decode code 160 = .ok (.ifCond .eq 5, 3) := by decide +kernel
theorem d_L_law_163 : decode code 163 = .ok (.iconst 0, 1) := by decide +kernel
theorem d_L_law_164 : decode code 164 = .ok (.ireturn, 1) := by decide +kernel
theorem d_L_law_165 : decode code 165 = .ok (.goto 791, 3) := by decide +kernel
theorem d_L_law_168 : decode code 168 = .ok (.aload_n 1, 1) := by decide +kernel
theorem d_L_law_169 : decode code 169 = .ok (.aload_n 0, 1) := by decide +kernel
theorem d_L_law_170 : decode code 170 = .ok (.iload 4, 2) := by decide +kernel
theorem d_L_law_172 : decode code 172 = .ok (.iconst 1, 1) := by decide +kernel
theorem d_L_law_173 : decode code 173 = .ok (.iadd, 1) := by decide +kernel
theorem d_L_law_174 : decode code 174 = .ok (.iaload, 1) := by decide +kernel
theorem d_L_law_175 : decode code 175 = .ok (.aload_n 0, 1) := by decide +kernel
theorem d_L_law_176 : decode code 176 = .ok (.iload 4, 2) := by decide +kernel
theorem d_L_law_178 : decode code 178 = .ok (.iconst 2, 1) := by decide +kernel
theorem d_L_law_179 : decode code 179 = .ok (.iadd, 1) := by decide +kernel
theorem d_L_law_180 : decode code 180 = .ok (.iaload, 1) := by decide +kernel
theorem d_L_law_181 : decode code 181 = .ok (.aload_n 3, 1) := by decide +kernel
theorem d_L_law_182 : decode code 182 = .ok (.invokestatic 76, 3) := by decide +kernel
theorem d_L_law_185 : decode code 185 = .ok (.istore 5, 2) := by decide +kernel
theorem d_L_law_187 : decode code 187 = .ok (.aload_n 2, 1) := by decide +kernel
theorem d_L_law_188 : decode code 188 = .ok (.aload_n 0, 1) := by decide +kernel
theorem d_L_law_189 : decode code 189 = .ok (.iload 4, 2) := by decide +kernel
theorem d_L_law_191 : decode code 191 = .ok (.iconst 1, 1) := by decide +kernel
theorem d_L_law_192 : decode code 192 = .ok (.iadd, 1) := by decide +kernel
theorem d_L_law_193 : decode code 193 = .ok (.iaload, 1) := by decide +kernel
theorem d_L_law_194 : decode code 194 = .ok (.aload_n 0, 1) := by decide +kernel
theorem d_L_law_195 : decode code 195 = .ok (.iload 4, 2) := by decide +kernel
theorem d_L_law_197 : decode code 197 = .ok (.iconst 2, 1) := by decide +kernel
theorem d_L_law_198 : decode code 198 = .ok (.iadd, 1) := by decide +kernel
theorem d_L_law_199 : decode code 199 = .ok (.iaload, 1) := by decide +kernel
theorem d_L_law_200 : decode code 200 = .ok (.invokevirtual 79, 3) := by decide +kernel
theorem d_L_law_203 : decode code 203 = .ok (.istore 6, 2) := by decide +kernel
theorem d_L_law_205 : decode code 205 = .ok (.aload_n 2, 1) := by decide +kernel
theorem d_L_law_206 : decode code 206 = .ok (.invokevirtual 73, 3) := by decide +kernel
theorem d_L_law_209 : decode code 209 = .ok (.iload 5, 2) := by decide +kernel
theorem d_L_law_211 : decode code 211 = .ok (.if_icmp .eq 5, 3) := by decide +kernel
theorem d_L_law_214 : decode code 214 = .ok (.iconst 0, 1) := by decide +kernel
theorem d_L_law_215 : decode code 215 = .ok (.ireturn, 1) := by decide +kernel
theorem d_L_law_216 : decode code 216 = .ok (.iload 5, 2) := by decide +kernel
theorem d_L_law_218 : decode code 218 = .ok (.ifCond .ne 15, 3) := by decide +kernel
theorem d_L_law_221 : decode code 221 = .ok (.aload_n 3, 1) := by decide +kernel
theorem d_L_law_222 : decode code 222 = .ok (.iconst 0, 1) := by decide +kernel
theorem d_L_law_223 : decode code 223 = .ok (.laload, 1) := by decide +kernel
theorem d_L_law_224 : decode code 224 = .ok (.iload 6, 2) := by decide +kernel
theorem d_L_law_226 : decode code 226 = .ok (.i2l, 1) := by decide +kernel
theorem d_L_law_227 : decode code 227 = .ok (.lcmp, 1) := by decide +kernel
theorem d_L_law_228 : decode code 228 = .ok (.ifCond .eq 5, 3) := by decide +kernel
theorem d_L_law_231 : decode code 231 = .ok (.iconst 0, 1) := by decide +kernel
theorem d_L_law_232 : decode code 232 = .ok (.ireturn, 1) := by decide +kernel
theorem d_L_law_233 : decode code 233 = .ok (.goto 723, 3) := by decide +kernel
theorem d_L_law_236 : decode code 236 = .ok (.aload_n 1, 1) := by decide +kernel
theorem d_L_law_237 : decode code 237 = .ok (.aload_n 0, 1) := by decide +kernel
theorem d_L_law_238 : decode code 238 = .ok (.iload 4, 2) := by decide +kernel
theorem d_L_law_240 : decode code 240 = .ok (.iconst 1, 1) := by decide +kernel
theorem d_L_law_241 : decode code 241 = .ok (.iadd, 1) := by decide +kernel
theorem d_L_law_242 : decode code 242 = .ok (.iaload, 1) := by decide +kernel
theorem d_L_law_243 : decode code 243 = .ok (.aload_n 0, 1) := by decide +kernel
theorem d_L_law_244 : decode code 244 = .ok (.iload 4, 2) := by decide +kernel
theorem d_L_law_246 : decode code 246 = .ok (.iconst 2, 1) := by decide +kernel
theorem d_L_law_247 : decode code 247 = .ok (.iadd, 1) := by decide +kernel
theorem d_L_law_248 : decode code 248 = .ok (.iaload, 1) := by decide +kernel
theorem d_L_law_249 : decode code 249 = .ok (.invokestatic 80, 3) := by decide +kernel
theorem d_L_law_252 : decode code 252 = .ok (.istore 5, 2) := by decide +kernel
theorem d_L_law_254 : decode code 254 = .ok (.aload_n 2, 1) := by decide +kernel
theorem d_L_law_255 : decode code 255 = .ok (.aload_n 0, 1) := by decide +kernel
theorem d_L_law_256 : decode code 256 = .ok (.iload 4, 2) := by decide +kernel
theorem d_L_law_258 : decode code 258 = .ok (.iconst 1, 1) := by decide +kernel
theorem d_L_law_259 : decode code 259 = .ok (.iadd, 1) := by decide +kernel
theorem d_L_law_260 : decode code 260 = .ok (.iaload, 1) := by decide +kernel
theorem d_L_law_261 : decode code 261 = .ok (.aload_n 0, 1) := by decide +kernel
theorem d_L_law_262 : decode code 262 = .ok (.iload 4, 2) := by decide +kernel
theorem d_L_law_264 : decode code 264 = .ok (.iconst 2, 1) := by decide +kernel
theorem d_L_law_265 : decode code 265 = .ok (.iadd, 1) := by decide +kernel
theorem d_L_law_266 : decode code 266 = .ok (.iaload, 1) := by decide +kernel
theorem d_L_law_267 : decode code 267 = .ok (.invokevirtual 83, 3) := by decide +kernel
theorem d_L_law_270 : decode code 270 = .ok (.aload_n 2, 1) := by decide +kernel
theorem d_L_law_271 : decode code 271 = .ok (.invokevirtual 73, 3) := by decide +kernel
theorem d_L_law_274 : decode code 274 = .ok (.iload 5, 2) := by decide +kernel
theorem d_L_law_276 : decode code 276 = .ok (.if_icmp .eq 5, 3) := by decide +kernel
theorem d_L_law_279 : decode code 279 = .ok (.iconst 0, 1) := by decide +kernel
theorem d_L_law_280 : decode code 280 = .ok (.ireturn, 1) := by decide +kernel
theorem d_L_law_281 : decode code 281 = .ok (.goto 675, 3) := by decide +kernel
theorem d_L_law_284 : decode code 284 = .ok (.aload_n 1, 1) := by decide +kernel
theorem d_L_law_285 : decode code 285 = .ok (.aload_n 0, 1) := by decide +kernel
theorem d_L_law_286 : decode code 286 = .ok (.iload 4, 2) := by decide +kernel
theorem d_L_law_288 : decode code 288 = .ok (.iconst 1, 1) := by decide +kernel
theorem d_L_law_289 : decode code 289 = .ok (.iadd, 1) := by decide +kernel
theorem d_L_law_290 : decode code 290 = .ok (.iaload, 1) := by decide +kernel
theorem d_L_law_291 : decode code 291 = .ok (.aload_n 0, 1) := by decide +kernel
theorem d_L_law_292 : decode code 292 = .ok (.iload 4, 2) := by decide +kernel
theorem d_L_law_294 : decode code 294 = .ok (.iconst 2, 1) := by decide +kernel
theorem d_L_law_295 : decode code 295 = .ok (.iadd, 1) := by decide +kernel
theorem d_L_law_296 : decode code 296 = .ok (.iaload, 1) := by decide +kernel
theorem d_L_law_297 : decode code 297 = .ok (.aload_n 0, 1) := by decide +kernel
theorem d_L_law_298 : decode code 298 = .ok (.iload 4, 2) := by decide +kernel
theorem d_L_law_300 : decode code 300 = .ok (.iconst 3, 1) := by decide +kernel
theorem d_L_law_301 : decode code 301 = .ok (.iadd, 1) := by decide +kernel
theorem d_L_law_302 : decode code 302 = .ok (.iaload, 1) := by decide +kernel
theorem d_L_law_303 : decode code 303 = .ok (.invokestatic 84, 3) := by decide +kernel
theorem d_L_law_306 : decode code 306 = .ok (.istore 5, 2) := by decide +kernel
theorem d_L_law_308 : decode code 308 = .ok (.aload_n 2, 1) := by decide +kernel
theorem d_L_law_309 : decode code 309 = .ok (.aload_n 0, 1) := by decide +kernel
theorem d_L_law_310 : decode code 310 = .ok (.iload 4, 2) := by decide +kernel
theorem d_L_law_312 : decode code 312 = .ok (.iconst 1, 1) := by decide +kernel
theorem d_L_law_313 : decode code 313 = .ok (.iadd, 1) := by decide +kernel
theorem d_L_law_314 : decode code 314 = .ok (.iaload, 1) := by decide +kernel
theorem d_L_law_315 : decode code 315 = .ok (.aload_n 0, 1) := by decide +kernel
theorem d_L_law_316 : decode code 316 = .ok (.iload 4, 2) := by decide +kernel
theorem d_L_law_318 : decode code 318 = .ok (.iconst 2, 1) := by decide +kernel
theorem d_L_law_319 : decode code 319 = .ok (.iadd, 1) := by decide +kernel
theorem d_L_law_320 : decode code 320 = .ok (.iaload, 1) := by decide +kernel
theorem d_L_law_321 : decode code 321 = .ok (.aload_n 0, 1) := by decide +kernel
theorem d_L_law_322 : decode code 322 = .ok (.iload 4, 2) := by decide +kernel
theorem d_L_law_324 : decode code 324 = .ok (.iconst 3, 1) := by decide +kernel
theorem d_L_law_325 : decode code 325 = .ok (.iadd, 1) := by decide +kernel
theorem d_L_law_326 : decode code 326 = .ok (.iaload, 1) := by decide +kernel
theorem d_L_law_327 : decode code 327 = .ok (.invokevirtual 87, 3) := by decide +kernel
theorem d_L_law_330 : decode code 330 = .ok (.aload_n 2, 1) := by decide +kernel
theorem d_L_law_331 : decode code 331 = .ok (.invokevirtual 73, 3) := by decide +kernel
theorem d_L_law_334 : decode code 334 = .ok (.iload 5, 2) := by decide +kernel
theorem d_L_law_336 : decode code 336 = .ok (.if_icmp .eq 5, 3) := by decide +kernel
theorem d_L_law_339 : decode code 339 = .ok (.iconst 0, 1) := by decide +kernel
theorem d_L_law_340 : decode code 340 = .ok (.ireturn, 1) := by decide +kernel
theorem d_L_law_341 : decode code 341 = .ok (.goto 615, 3) := by decide +kernel
theorem d_L_law_344 : decode code 344 = .ok (.aload_n 1, 1) := by decide +kernel
theorem d_L_law_345 : decode code 345 = .ok (.aload_n 0, 1) := by decide +kernel
theorem d_L_law_346 : decode code 346 = .ok (.iload 4, 2) := by decide +kernel
theorem d_L_law_348 : decode code 348 = .ok (.iconst 1, 1) := by decide +kernel
theorem d_L_law_349 : decode code 349 = .ok (.iadd, 1) := by decide +kernel
theorem d_L_law_350 : decode code 350 = .ok (.iaload, 1) := by decide +kernel
theorem d_L_law_351 : decode code 351 = .ok (.aload_n 0, 1) := by decide +kernel
theorem d_L_law_352 : decode code 352 = .ok (.iload 4, 2) := by decide +kernel
theorem d_L_law_354 : decode code 354 = .ok (.iconst 2, 1) := by decide +kernel
theorem d_L_law_355 : decode code 355 = .ok (.iadd, 1) := by decide +kernel
theorem d_L_law_356 : decode code 356 = .ok (.iaload, 1) := by decide +kernel
theorem d_L_law_357 : decode code 357 = .ok (.aload_n 3, 1) := by decide +kernel
theorem d_L_law_358 : decode code 358 = .ok (.invokestatic 88, 3) := by decide +kernel
theorem d_L_law_361 : decode code 361 = .ok (.istore 5, 2) := by decide +kernel
theorem d_L_law_363 : decode code 363 = .ok (.aload_n 2, 1) := by decide +kernel
theorem d_L_law_364 : decode code 364 = .ok (.aload_n 0, 1) := by decide +kernel
theorem d_L_law_365 : decode code 365 = .ok (.iload 4, 2) := by decide +kernel
theorem d_L_law_367 : decode code 367 = .ok (.iconst 1, 1) := by decide +kernel
theorem d_L_law_368 : decode code 368 = .ok (.iadd, 1) := by decide +kernel
theorem d_L_law_369 : decode code 369 = .ok (.iaload, 1) := by decide +kernel
theorem d_L_law_370 : decode code 370 = .ok (.aload_n 0, 1) := by decide +kernel
theorem d_L_law_371 : decode code 371 = .ok (.iload 4, 2) := by decide +kernel
theorem d_L_law_373 : decode code 373 = .ok (.iconst 2, 1) := by decide +kernel
theorem d_L_law_374 : decode code 374 = .ok (.iadd, 1) := by decide +kernel
theorem d_L_law_375 : decode code 375 = .ok (.iaload, 1) := by decide +kernel
theorem d_L_law_376 : decode code 376 = .ok (.invokevirtual 90, 3) := by decide +kernel
theorem d_L_law_379 : decode code 379 = .ok (.istore 6, 2) := by decide +kernel
theorem d_L_law_381 : decode code 381 = .ok (.aload_n 2, 1) := by decide +kernel
theorem d_L_law_382 : decode code 382 = .ok (.invokevirtual 73, 3) := by decide +kernel
theorem d_L_law_385 : decode code 385 = .ok (.iload 5, 2) := by decide +kernel
theorem d_L_law_387 : decode code 387 = .ok (.if_icmp .eq 5, 3) := by decide +kernel
theorem d_L_law_390 : decode code 390 = .ok (.iconst 0, 1) := by decide +kernel
theorem d_L_law_391 : decode code 391 = .ok (.ireturn, 1) := by decide +kernel
theorem d_L_law_392 : decode code 392 = .ok (.iload 5, 2) := by decide +kernel
theorem d_L_law_394 : decode code 394 = .ok (.ifCond .ne 15, 3) := by decide +kernel
theorem d_L_law_397 : decode code 397 = .ok (.aload_n 3, 1) := by decide +kernel
theorem d_L_law_398 : decode code 398 = .ok (.iconst 0, 1) := by decide +kernel
theorem d_L_law_399 : decode code 399 = .ok (.laload, 1) := by decide +kernel
theorem d_L_law_400 : decode code 400 = .ok (.iload 6, 2) := by decide +kernel
theorem d_L_law_402 : decode code 402 = .ok (.i2l, 1) := by decide +kernel
theorem d_L_law_403 : decode code 403 = .ok (.lcmp, 1) := by decide +kernel
theorem d_L_law_404 : decode code 404 = .ok (.ifCond .eq 5, 3) := by decide +kernel
theorem d_L_law_407 : decode code 407 = .ok (.iconst 0, 1) := by decide +kernel
theorem d_L_law_408 : decode code 408 = .ok (.ireturn, 1) := by decide +kernel
theorem d_L_law_409 : decode code 409 = .ok (.goto 547, 3) := by decide +kernel
theorem d_L_law_412 : decode code 412 = .ok (.aload_n 1, 1) := by decide +kernel
theorem d_L_law_413 : decode code 413 = .ok (.aload_n 0, 1) := by decide +kernel
theorem d_L_law_414 : decode code 414 = .ok (.iload 4, 2) := by decide +kernel
theorem d_L_law_416 : decode code 416 = .ok (.iconst 1, 1) := by decide +kernel
theorem d_L_law_417 : decode code 417 = .ok (.iadd, 1) := by decide +kernel
theorem d_L_law_418 : decode code 418 = .ok (.iaload, 1) := by decide +kernel
theorem d_L_law_419 : decode code 419 = .ok (.aload_n 0, 1) := by decide +kernel
theorem d_L_law_420 : decode code 420 = .ok (.iload 4, 2) := by decide +kernel
theorem d_L_law_422 : decode code 422 = .ok (.iconst 2, 1) := by decide +kernel
theorem d_L_law_423 : decode code 423 = .ok (.iadd, 1) := by decide +kernel
theorem d_L_law_424 : decode code 424 = .ok (.iaload, 1) := by decide +kernel
theorem d_L_law_425 : decode code 425 = .ok (.aload_n 0, 1) := by decide +kernel
theorem d_L_law_426 : decode code 426 = .ok (.iload 4, 2) := by decide +kernel
theorem d_L_law_428 : decode code 428 = .ok (.iconst 3, 1) := by decide +kernel
theorem d_L_law_429 : decode code 429 = .ok (.iadd, 1) := by decide +kernel
theorem d_L_law_430 : decode code 430 = .ok (.iaload, 1) := by decide +kernel
theorem d_L_law_431 : decode code 431 = .ok (.aload_n 3, 1) := by decide +kernel
theorem d_L_law_432 : decode code 432 = .ok (.invokestatic 91, 3) := by decide +kernel
theorem d_L_law_435 : decode code 435 = .ok (.istore 5, 2) := by decide +kernel
theorem d_L_law_437 : decode code 437 = .ok (.aload_n 2, 1) := by decide +kernel
theorem d_L_law_438 : decode code 438 = .ok (.aload_n 0, 1) := by decide +kernel
theorem d_L_law_439 : decode code 439 = .ok (.iload 4, 2) := by decide +kernel
theorem d_L_law_441 : decode code 441 = .ok (.iconst 1, 1) := by decide +kernel
theorem d_L_law_442 : decode code 442 = .ok (.iadd, 1) := by decide +kernel
theorem d_L_law_443 : decode code 443 = .ok (.iaload, 1) := by decide +kernel
theorem d_L_law_444 : decode code 444 = .ok (.aload_n 0, 1) := by decide +kernel
theorem d_L_law_445 : decode code 445 = .ok (.iload 4, 2) := by decide +kernel
theorem d_L_law_447 : decode code 447 = .ok (.iconst 2, 1) := by decide +kernel
theorem d_L_law_448 : decode code 448 = .ok (.iadd, 1) := by decide +kernel
theorem d_L_law_449 : decode code 449 = .ok (.iaload, 1) := by decide +kernel
theorem d_L_law_450 : decode code 450 = .ok (.aload_n 0, 1) := by decide +kernel
theorem d_L_law_451 : decode code 451 = .ok (.iload 4, 2) := by decide +kernel
theorem d_L_law_453 : decode code 453 = .ok (.iconst 3, 1) := by decide +kernel
theorem d_L_law_454 : decode code 454 = .ok (.iadd, 1) := by decide +kernel
theorem d_L_law_455 : decode code 455 = .ok (.iaload, 1) := by decide +kernel
theorem d_L_law_456 : decode code 456 = .ok (.invokevirtual 94, 3) := by decide +kernel
theorem d_L_law_459 : decode code 459 = .ok (.lstore 6, 2) := by decide +kernel
theorem d_L_law_461 : decode code 461 = .ok (.aload_n 2, 1) := by decide +kernel
theorem d_L_law_462 : decode code 462 = .ok (.invokevirtual 73, 3) := by decide +kernel
theorem d_L_law_465 : decode code 465 = .ok (.iload 5, 2) := by decide +kernel
theorem d_L_law_467 : decode code 467 = .ok (.if_icmp .eq 5, 3) := by decide +kernel
theorem d_L_law_470 : decode code 470 = .ok (.iconst 0, 1) := by decide +kernel
theorem d_L_law_471 : decode code 471 = .ok (.ireturn, 1) := by decide +kernel
theorem d_L_law_472 : decode code 472 = .ok (.iload 5, 2) := by decide +kernel
theorem d_L_law_474 : decode code 474 = .ok (.ifCond .ne 14, 3) := by decide +kernel
theorem d_L_law_477 : decode code 477 = .ok (.aload_n 3, 1) := by decide +kernel
theorem d_L_law_478 : decode code 478 = .ok (.iconst 0, 1) := by decide +kernel
theorem d_L_law_479 : decode code 479 = .ok (.laload, 1) := by decide +kernel
theorem d_L_law_480 : decode code 480 = .ok (.lload 6, 2) := by decide +kernel
theorem d_L_law_482 : decode code 482 = .ok (.lcmp, 1) := by decide +kernel
theorem d_L_law_483 : decode code 483 = .ok (.ifCond .eq 5, 3) := by decide +kernel
theorem d_L_law_486 : decode code 486 = .ok (.iconst 0, 1) := by decide +kernel
theorem d_L_law_487 : decode code 487 = .ok (.ireturn, 1) := by decide +kernel
theorem d_L_law_488 : decode code 488 = .ok (.goto 468, 3) := by decide +kernel
theorem d_L_law_491 : decode code 491 = .ok (.aload_n 1, 1) := by decide +kernel
theorem d_L_law_492 : decode code 492 = .ok (.aload_n 0, 1) := by decide +kernel
theorem d_L_law_493 : decode code 493 = .ok (.iload 4, 2) := by decide +kernel
theorem d_L_law_495 : decode code 495 = .ok (.iconst 1, 1) := by decide +kernel
theorem d_L_law_496 : decode code 496 = .ok (.iadd, 1) := by decide +kernel
theorem d_L_law_497 : decode code 497 = .ok (.iaload, 1) := by decide +kernel
theorem d_L_law_498 : decode code 498 = .ok (.aload_n 0, 1) := by decide +kernel
theorem d_L_law_499 : decode code 499 = .ok (.iload 4, 2) := by decide +kernel
theorem d_L_law_501 : decode code 501 = .ok (.iconst 2, 1) := by decide +kernel
theorem d_L_law_502 : decode code 502 = .ok (.iadd, 1) := by decide +kernel
theorem d_L_law_503 : decode code 503 = .ok (.iaload, 1) := by decide +kernel
theorem d_L_law_504 : decode code 504 = .ok (.aload_n 0, 1) := by decide +kernel
theorem d_L_law_505 : decode code 505 = .ok (.iload 4, 2) := by decide +kernel
theorem d_L_law_507 : decode code 507 = .ok (.iconst 3, 1) := by decide +kernel
theorem d_L_law_508 : decode code 508 = .ok (.iadd, 1) := by decide +kernel
theorem d_L_law_509 : decode code 509 = .ok (.iaload, 1) := by decide +kernel
theorem d_L_law_510 : decode code 510 = .ok (.aload_n 3, 1) := by decide +kernel
theorem d_L_law_511 : decode code 511 = .ok (.invokestatic 95, 3) := by decide +kernel
theorem d_L_law_514 : decode code 514 = .ok (.istore 5, 2) := by decide +kernel
theorem d_L_law_516 : decode code 516 = .ok (.aload_n 2, 1) := by decide +kernel
theorem d_L_law_517 : decode code 517 = .ok (.aload_n 0, 1) := by decide +kernel
theorem d_L_law_518 : decode code 518 = .ok (.iload 4, 2) := by decide +kernel
theorem d_L_law_520 : decode code 520 = .ok (.iconst 1, 1) := by decide +kernel
theorem d_L_law_521 : decode code 521 = .ok (.iadd, 1) := by decide +kernel
theorem d_L_law_522 : decode code 522 = .ok (.iaload, 1) := by decide +kernel
theorem d_L_law_523 : decode code 523 = .ok (.aload_n 0, 1) := by decide +kernel
theorem d_L_law_524 : decode code 524 = .ok (.iload 4, 2) := by decide +kernel
theorem d_L_law_526 : decode code 526 = .ok (.iconst 2, 1) := by decide +kernel
theorem d_L_law_527 : decode code 527 = .ok (.iadd, 1) := by decide +kernel
theorem d_L_law_528 : decode code 528 = .ok (.iaload, 1) := by decide +kernel
theorem d_L_law_529 : decode code 529 = .ok (.aload_n 0, 1) := by decide +kernel
theorem d_L_law_530 : decode code 530 = .ok (.iload 4, 2) := by decide +kernel
theorem d_L_law_532 : decode code 532 = .ok (.iconst 3, 1) := by decide +kernel
theorem d_L_law_533 : decode code 533 = .ok (.iadd, 1) := by decide +kernel
theorem d_L_law_534 : decode code 534 = .ok (.iaload, 1) := by decide +kernel
theorem d_L_law_535 : decode code 535 = .ok (.invokevirtual 97, 3) := by decide +kernel
theorem d_L_law_538 : decode code 538 = .ok (.lstore 6, 2) := by decide +kernel
theorem d_L_law_540 : decode code 540 = .ok (.aload_n 2, 1) := by decide +kernel
theorem d_L_law_541 : decode code 541 = .ok (.invokevirtual 73, 3) := by decide +kernel
theorem d_L_law_544 : decode code 544 = .ok (.iload 5, 2) := by decide +kernel
theorem d_L_law_546 : decode code 546 = .ok (.if_icmp .eq 5, 3) := by decide +kernel
theorem d_L_law_549 : decode code 549 = .ok (.iconst 0, 1) := by decide +kernel
theorem d_L_law_550 : decode code 550 = .ok (.ireturn, 1) := by decide +kernel
theorem d_L_law_551 : decode code 551 = .ok (.iload 5, 2) := by decide +kernel
theorem d_L_law_553 : decode code 553 = .ok (.ifCond .ne 14, 3) := by decide +kernel
theorem d_L_law_556 : decode code 556 = .ok (.aload_n 3, 1) := by decide +kernel
theorem d_L_law_557 : decode code 557 = .ok (.iconst 0, 1) := by decide +kernel
theorem d_L_law_558 : decode code 558 = .ok (.laload, 1) := by decide +kernel
theorem d_L_law_559 : decode code 559 = .ok (.lload 6, 2) := by decide +kernel
theorem d_L_law_561 : decode code 561 = .ok (.lcmp, 1) := by decide +kernel
theorem d_L_law_562 : decode code 562 = .ok (.ifCond .eq 5, 3) := by decide +kernel
theorem d_L_law_565 : decode code 565 = .ok (.iconst 0, 1) := by decide +kernel
theorem d_L_law_566 : decode code 566 = .ok (.ireturn, 1) := by decide +kernel
theorem d_L_law_567 : decode code 567 = .ok (.goto 389, 3) := by decide +kernel
theorem d_L_law_570 : decode code 570 = .ok (.aload_n 1, 1) := by decide +kernel
theorem d_L_law_571 : decode code 571 = .ok (.aload_n 0, 1) := by decide +kernel
theorem d_L_law_572 : decode code 572 = .ok (.iload 4, 2) := by decide +kernel
theorem d_L_law_574 : decode code 574 = .ok (.iconst 1, 1) := by decide +kernel
theorem d_L_law_575 : decode code 575 = .ok (.iadd, 1) := by decide +kernel
theorem d_L_law_576 : decode code 576 = .ok (.iaload, 1) := by decide +kernel
theorem d_L_law_577 : decode code 577 = .ok (.aload_n 3, 1) := by decide +kernel
theorem d_L_law_578 : decode code 578 = .ok (.invokestatic 98, 3) := by decide +kernel
theorem d_L_law_581 : decode code 581 = .ok (.istore 5, 2) := by decide +kernel
theorem d_L_law_583 : decode code 583 = .ok (.aload_n 2, 1) := by decide +kernel
theorem d_L_law_584 : decode code 584 = .ok (.aload_n 0, 1) := by decide +kernel
theorem d_L_law_585 : decode code 585 = .ok (.iload 4, 2) := by decide +kernel
theorem d_L_law_587 : decode code 587 = .ok (.iconst 1, 1) := by decide +kernel
theorem d_L_law_588 : decode code 588 = .ok (.iadd, 1) := by decide +kernel
theorem d_L_law_589 : decode code 589 = .ok (.iaload, 1) := by decide +kernel
theorem d_L_law_590 : decode code 590 = .ok (.invokevirtual 100, 3) := by decide +kernel
theorem d_L_law_593 : decode code 593 = .ok (.istore 6, 2) := by decide +kernel
theorem d_L_law_595 : decode code 595 = .ok (.aload_n 2, 1) := by decide +kernel
theorem d_L_law_596 : decode code 596 = .ok (.invokevirtual 73, 3) := by decide +kernel
theorem d_L_law_599 : decode code 599 = .ok (.iload 5, 2) := by decide +kernel
theorem d_L_law_601 : decode code 601 = .ok (.if_icmp .eq 5, 3) := by decide +kernel
theorem d_L_law_604 : decode code 604 = .ok (.iconst 0, 1) := by decide +kernel
theorem d_L_law_605 : decode code 605 = .ok (.ireturn, 1) := by decide +kernel
theorem d_L_law_606 : decode code 606 = .ok (.iload 5, 2) := by decide +kernel
theorem d_L_law_608 : decode code 608 = .ok (.ifCond .ne 15, 3) := by decide +kernel
theorem d_L_law_611 : decode code 611 = .ok (.aload_n 3, 1) := by decide +kernel
theorem d_L_law_612 : decode code 612 = .ok (.iconst 0, 1) := by decide +kernel
theorem d_L_law_613 : decode code 613 = .ok (.laload, 1) := by decide +kernel
theorem d_L_law_614 : decode code 614 = .ok (.iload 6, 2) := by decide +kernel
theorem d_L_law_616 : decode code 616 = .ok (.i2l, 1) := by decide +kernel
theorem d_L_law_617 : decode code 617 = .ok (.lcmp, 1) := by decide +kernel
theorem d_L_law_618 : decode code 618 = .ok (.ifCond .eq 5, 3) := by decide +kernel
theorem d_L_law_621 : decode code 621 = .ok (.iconst 0, 1) := by decide +kernel
theorem d_L_law_622 : decode code 622 = .ok (.ireturn, 1) := by decide +kernel
theorem d_L_law_623 : decode code 623 = .ok (.goto 333, 3) := by decide +kernel
theorem d_L_law_626 : decode code 626 = .ok (.aload_n 1, 1) := by decide +kernel
theorem d_L_law_627 : decode code 627 = .ok (.invokevirtual 101, 3) := by decide +kernel
theorem d_L_law_630 : decode code 630 = .ok (.aload_n 2, 1) := by decide +kernel
theorem d_L_law_631 : decode code 631 = .ok (.invokevirtual 105, 3) := by decide +kernel
theorem d_L_law_634 : decode code 634 = .ok (.lcmp, 1) := by decide +kernel
theorem d_L_law_635 : decode code 635 = .ok (.ifCond .eq 321, 3) := by decide +kernel
theorem d_L_law_638 : decode code 638 = .ok (.iconst 0, 1) := by decide +kernel
theorem d_L_law_639 : decode code 639 = .ok (.ireturn, 1) := by decide +kernel
theorem d_L_law_640 : decode code 640 = .ok (.aload_n 1, 1) := by decide +kernel
theorem d_L_law_641 : decode code 641 = .ok (.aload_n 3, 1) := by decide +kernel
theorem d_L_law_642 : decode code 642 = .ok (.invokestatic 106, 3) := by decide +kernel
theorem d_L_law_645 : decode code 645 = .ok (.istore 5, 2) := by decide +kernel
theorem d_L_law_647 : decode code 647 = .ok (.aload_n 2, 1) := by decide +kernel
theorem d_L_law_648 : decode code 648 = .ok (.invokevirtual 109, 3) := by decide +kernel
theorem d_L_law_651 : decode code 651 = .ok (.istore 6, 2) := by decide +kernel
theorem d_L_law_653 : decode code 653 = .ok (.aload_n 2, 1) := by decide +kernel
theorem d_L_law_654 : decode code 654 = .ok (.invokevirtual 73, 3) := by decide +kernel
theorem d_L_law_657 : decode code 657 = .ok (.iload 5, 2) := by decide +kernel
theorem d_L_law_659 : decode code 659 = .ok (.if_icmp .eq 5, 3) := by decide +kernel
theorem d_L_law_662 : decode code 662 = .ok (.iconst 0, 1) := by decide +kernel
theorem d_L_law_663 : decode code 663 = .ok (.ireturn, 1) := by decide +kernel
theorem d_L_law_664 : decode code 664 = .ok (.iload 5, 2) := by decide +kernel
theorem d_L_law_666 : decode code 666 = .ok (.ifCond .ne 15, 3) := by decide +kernel
theorem d_L_law_669 : decode code 669 = .ok (.aload_n 3, 1) := by decide +kernel
theorem d_L_law_670 : decode code 670 = .ok (.iconst 0, 1) := by decide +kernel
theorem d_L_law_671 : decode code 671 = .ok (.laload, 1) := by decide +kernel
theorem d_L_law_672 : decode code 672 = .ok (.iload 6, 2) := by decide +kernel
theorem d_L_law_674 : decode code 674 = .ok (.i2l, 1) := by decide +kernel
theorem d_L_law_675 : decode code 675 = .ok (.lcmp, 1) := by decide +kernel
theorem d_L_law_676 : decode code 676 = .ok (.ifCond .eq 5, 3) := by decide +kernel
theorem d_L_law_679 : decode code 679 = .ok (.iconst 0, 1) := by decide +kernel
theorem d_L_law_680 : decode code 680 = .ok (.ireturn, 1) := by decide +kernel
theorem d_L_law_681 : decode code 681 = .ok (.goto 275, 3) := by decide +kernel
theorem d_L_law_684 : decode code 684 = .ok (.aload_n 1, 1) := by decide +kernel
theorem d_L_law_685 : decode code 685 = .ok (.aload_n 0, 1) := by decide +kernel
theorem d_L_law_686 : decode code 686 = .ok (.iload 4, 2) := by decide +kernel
theorem d_L_law_688 : decode code 688 = .ok (.iconst 1, 1) := by decide +kernel
theorem d_L_law_689 : decode code 689 = .ok (.iadd, 1) := by decide +kernel
theorem d_L_law_690 : decode code 690 = .ok (.iaload, 1) := by decide +kernel
theorem d_L_law_691 : decode code 691 = .ok (.aload_n 3, 1) := by decide +kernel
theorem d_L_law_692 : decode code 692 = .ok (.invokestatic 110, 3) := by decide +kernel
theorem d_L_law_695 : decode code 695 = .ok (.istore 5, 2) := by decide +kernel
theorem d_L_law_697 : decode code 697 = .ok (.aload_n 2, 1) := by decide +kernel
theorem d_L_law_698 : decode code 698 = .ok (.aload_n 0, 1) := by decide +kernel
theorem d_L_law_699 : decode code 699 = .ok (.iload 4, 2) := by decide +kernel
theorem d_L_law_701 : decode code 701 = .ok (.iconst 1, 1) := by decide +kernel
theorem d_L_law_702 : decode code 702 = .ok (.iadd, 1) := by decide +kernel
theorem d_L_law_703 : decode code 703 = .ok (.iaload, 1) := by decide +kernel
theorem d_L_law_704 : decode code 704 = .ok (.invokevirtual 112, 3) := by decide +kernel
theorem d_L_law_707 : decode code 707 = .ok (.istore 6, 2) := by decide +kernel
theorem d_L_law_709 : decode code 709 = .ok (.aload_n 2, 1) := by decide +kernel
theorem d_L_law_710 : decode code 710 = .ok (.invokevirtual 73, 3) := by decide +kernel
theorem d_L_law_713 : decode code 713 = .ok (.iload 5, 2) := by decide +kernel
theorem d_L_law_715 : decode code 715 = .ok (.if_icmp .eq 5, 3) := by decide +kernel
theorem d_L_law_718 : decode code 718 = .ok (.iconst 0, 1) := by decide +kernel
theorem d_L_law_719 : decode code 719 = .ok (.ireturn, 1) := by decide +kernel
theorem d_L_law_720 : decode code 720 = .ok (.iload 5, 2) := by decide +kernel
theorem d_L_law_722 : decode code 722 = .ok (.ifCond .ne 15, 3) := by decide +kernel
theorem d_L_law_725 : decode code 725 = .ok (.aload_n 3, 1) := by decide +kernel
theorem d_L_law_726 : decode code 726 = .ok (.iconst 0, 1) := by decide +kernel
theorem d_L_law_727 : decode code 727 = .ok (.laload, 1) := by decide +kernel
theorem d_L_law_728 : decode code 728 = .ok (.iload 6, 2) := by decide +kernel
theorem d_L_law_730 : decode code 730 = .ok (.i2l, 1) := by decide +kernel
theorem d_L_law_731 : decode code 731 = .ok (.lcmp, 1) := by decide +kernel
theorem d_L_law_732 : decode code 732 = .ok (.ifCond .eq 5, 3) := by decide +kernel
theorem d_L_law_735 : decode code 735 = .ok (.iconst 0, 1) := by decide +kernel
theorem d_L_law_736 : decode code 736 = .ok (.ireturn, 1) := by decide +kernel
theorem d_L_law_737 : decode code 737 = .ok (.goto 219, 3) := by decide +kernel
theorem d_L_law_740 : decode code 740 = .ok (.aload_n 1, 1) := by decide +kernel
theorem d_L_law_741 : decode code 741 = .ok (.aload_n 0, 1) := by decide +kernel
theorem d_L_law_742 : decode code 742 = .ok (.iload 4, 2) := by decide +kernel
theorem d_L_law_744 : decode code 744 = .ok (.iconst 1, 1) := by decide +kernel
theorem d_L_law_745 : decode code 745 = .ok (.iadd, 1) := by decide +kernel
theorem d_L_law_746 : decode code 746 = .ok (.iaload, 1) := by decide +kernel
theorem d_L_law_747 : decode code 747 = .ok (.aload_n 3, 1) := by decide +kernel
theorem d_L_law_748 : decode code 748 = .ok (.invokestatic 113, 3) := by decide +kernel
theorem d_L_law_751 : decode code 751 = .ok (.istore 5, 2) := by decide +kernel
theorem d_L_law_753 : decode code 753 = .ok (.aload_n 2, 1) := by decide +kernel
theorem d_L_law_754 : decode code 754 = .ok (.aload_n 0, 1) := by decide +kernel
theorem d_L_law_755 : decode code 755 = .ok (.iload 4, 2) := by decide +kernel
theorem d_L_law_757 : decode code 757 = .ok (.iconst 1, 1) := by decide +kernel
theorem d_L_law_758 : decode code 758 = .ok (.iadd, 1) := by decide +kernel
theorem d_L_law_759 : decode code 759 = .ok (.iaload, 1) := by decide +kernel
theorem d_L_law_760 : decode code 760 = .ok (.invokevirtual 115, 3) := by decide +kernel
theorem d_L_law_763 : decode code 763 = .ok (.lstore 6, 2) := by decide +kernel
theorem d_L_law_765 : decode code 765 = .ok (.aload_n 2, 1) := by decide +kernel
theorem d_L_law_766 : decode code 766 = .ok (.invokevirtual 73, 3) := by decide +kernel
theorem d_L_law_769 : decode code 769 = .ok (.iload 5, 2) := by decide +kernel
theorem d_L_law_771 : decode code 771 = .ok (.if_icmp .eq 5, 3) := by decide +kernel
theorem d_L_law_774 : decode code 774 = .ok (.iconst 0, 1) := by decide +kernel
theorem d_L_law_775 : decode code 775 = .ok (.ireturn, 1) := by decide +kernel
theorem d_L_law_776 : decode code 776 = .ok (.iload 5, 2) := by decide +kernel
theorem d_L_law_778 : decode code 778 = .ok (.ifCond .ne 14, 3) := by decide +kernel
theorem d_L_law_781 : decode code 781 = .ok (.aload_n 3, 1) := by decide +kernel
theorem d_L_law_782 : decode code 782 = .ok (.iconst 0, 1) := by decide +kernel
theorem d_L_law_783 : decode code 783 = .ok (.laload, 1) := by decide +kernel
theorem d_L_law_784 : decode code 784 = .ok (.lload 6, 2) := by decide +kernel
theorem d_L_law_786 : decode code 786 = .ok (.lcmp, 1) := by decide +kernel
theorem d_L_law_787 : decode code 787 = .ok (.ifCond .eq 5, 3) := by decide +kernel
theorem d_L_law_790 : decode code 790 = .ok (.iconst 0, 1) := by decide +kernel
theorem d_L_law_791 : decode code 791 = .ok (.ireturn, 1) := by decide +kernel
theorem d_L_law_792 : decode code 792 = .ok (.goto 164, 3) := by decide +kernel
theorem d_L_law_795 : decode code 795 = .ok (.aload_n 1, 1) := by decide +kernel
theorem d_L_law_796 : decode code 796 = .ok (.aload_n 0, 1) := by decide +kernel
theorem d_L_law_797 : decode code 797 = .ok (.iload 4, 2) := by decide +kernel
theorem d_L_law_799 : decode code 799 = .ok (.iconst 1, 1) := by decide +kernel
theorem d_L_law_800 : decode code 800 = .ok (.iadd, 1) := by decide +kernel
theorem d_L_law_801 : decode code 801 = .ok (.iaload, 1) := by decide +kernel
theorem d_L_law_802 : decode code 802 = .ok (.aload_n 0, 1) := by decide +kernel
theorem d_L_law_803 : decode code 803 = .ok (.iload 4, 2) := by decide +kernel
theorem d_L_law_805 : decode code 805 = .ok (.iconst 2, 1) := by decide +kernel
theorem d_L_law_806 : decode code 806 = .ok (.iadd, 1) := by decide +kernel
theorem d_L_law_807 : decode code 807 = .ok (.iaload, 1) := by decide +kernel
theorem d_L_law_808 : decode code 808 = .ok (.aload_n 3, 1) := by decide +kernel
theorem d_L_law_809 : decode code 809 = .ok (.invokestatic 116, 3) := by decide +kernel
theorem d_L_law_812 : decode code 812 = .ok (.istore 5, 2) := by decide +kernel
theorem d_L_law_814 : decode code 814 = .ok (.aload_n 2, 1) := by decide +kernel
theorem d_L_law_815 : decode code 815 = .ok (.aload_n 0, 1) := by decide +kernel
theorem d_L_law_816 : decode code 816 = .ok (.iload 4, 2) := by decide +kernel
theorem d_L_law_818 : decode code 818 = .ok (.iconst 1, 1) := by decide +kernel
theorem d_L_law_819 : decode code 819 = .ok (.iadd, 1) := by decide +kernel
theorem d_L_law_820 : decode code 820 = .ok (.iaload, 1) := by decide +kernel
theorem d_L_law_821 : decode code 821 = .ok (.aload_n 0, 1) := by decide +kernel
theorem d_L_law_822 : decode code 822 = .ok (.iload 4, 2) := by decide +kernel
theorem d_L_law_824 : decode code 824 = .ok (.iconst 2, 1) := by decide +kernel
theorem d_L_law_825 : decode code 825 = .ok (.iadd, 1) := by decide +kernel
theorem d_L_law_826 : decode code 826 = .ok (.iaload, 1) := by decide +kernel
theorem d_L_law_827 : decode code 827 = .ok (.invokevirtual 118, 3) := by decide +kernel
theorem d_L_law_830 : decode code 830 = .ok (.istore 6, 2) := by decide +kernel
theorem d_L_law_832 : decode code 832 = .ok (.aload_n 2, 1) := by decide +kernel
theorem d_L_law_833 : decode code 833 = .ok (.invokevirtual 73, 3) := by decide +kernel
theorem d_L_law_836 : decode code 836 = .ok (.iload 5, 2) := by decide +kernel
theorem d_L_law_838 : decode code 838 = .ok (.if_icmp .eq 5, 3) := by decide +kernel
theorem d_L_law_841 : decode code 841 = .ok (.iconst 0, 1) := by decide +kernel
theorem d_L_law_842 : decode code 842 = .ok (.ireturn, 1) := by decide +kernel
theorem d_L_law_843 : decode code 843 = .ok (.iload 5, 2) := by decide +kernel
theorem d_L_law_845 : decode code 845 = .ok (.ifCond .ne 15, 3) := by decide +kernel
theorem d_L_law_848 : decode code 848 = .ok (.aload_n 3, 1) := by decide +kernel
theorem d_L_law_849 : decode code 849 = .ok (.iconst 0, 1) := by decide +kernel
theorem d_L_law_850 : decode code 850 = .ok (.laload, 1) := by decide +kernel
theorem d_L_law_851 : decode code 851 = .ok (.iload 6, 2) := by decide +kernel
theorem d_L_law_853 : decode code 853 = .ok (.i2l, 1) := by decide +kernel
theorem d_L_law_854 : decode code 854 = .ok (.lcmp, 1) := by decide +kernel
theorem d_L_law_855 : decode code 855 = .ok (.ifCond .eq 5, 3) := by decide +kernel
theorem d_L_law_858 : decode code 858 = .ok (.iconst 0, 1) := by decide +kernel
theorem d_L_law_859 : decode code 859 = .ok (.ireturn, 1) := by decide +kernel
theorem d_L_law_860 : decode code 860 = .ok (.goto 96, 3) := by decide +kernel
theorem d_L_law_863 : decode code 863 = .ok (.aload_n 1, 1) := by decide +kernel
theorem d_L_law_864 : decode code 864 = .ok (.aload_n 0, 1) := by decide +kernel
theorem d_L_law_865 : decode code 865 = .ok (.iload 4, 2) := by decide +kernel
theorem d_L_law_867 : decode code 867 = .ok (.iconst 1, 1) := by decide +kernel
theorem d_L_law_868 : decode code 868 = .ok (.iadd, 1) := by decide +kernel
theorem d_L_law_869 : decode code 869 = .ok (.iaload, 1) := by decide +kernel
theorem d_L_law_870 : decode code 870 = .ok (.aload_n 0, 1) := by decide +kernel
theorem d_L_law_871 : decode code 871 = .ok (.iload 4, 2) := by decide +kernel
theorem d_L_law_873 : decode code 873 = .ok (.iconst 2, 1) := by decide +kernel
theorem d_L_law_874 : decode code 874 = .ok (.iadd, 1) := by decide +kernel
theorem d_L_law_875 : decode code 875 = .ok (.iaload, 1) := by decide +kernel
theorem d_L_law_876 : decode code 876 = .ok (.aload_n 3, 1) := by decide +kernel
theorem d_L_law_877 : decode code 877 = .ok (.invokestatic 119, 3) := by decide +kernel
theorem d_L_law_880 : decode code 880 = .ok (.istore 5, 2) := by decide +kernel
theorem d_L_law_882 : decode code 882 = .ok (.aload_n 2, 1) := by decide +kernel
theorem d_L_law_883 : decode code 883 = .ok (.aload_n 0, 1) := by decide +kernel
theorem d_L_law_884 : decode code 884 = .ok (.iload 4, 2) := by decide +kernel
theorem d_L_law_886 : decode code 886 = .ok (.iconst 1, 1) := by decide +kernel
theorem d_L_law_887 : decode code 887 = .ok (.iadd, 1) := by decide +kernel
theorem d_L_law_888 : decode code 888 = .ok (.iaload, 1) := by decide +kernel
theorem d_L_law_889 : decode code 889 = .ok (.aload_n 0, 1) := by decide +kernel
theorem d_L_law_890 : decode code 890 = .ok (.iload 4, 2) := by decide +kernel
theorem d_L_law_892 : decode code 892 = .ok (.iconst 2, 1) := by decide +kernel
theorem d_L_law_893 : decode code 893 = .ok (.iadd, 1) := by decide +kernel
theorem d_L_law_894 : decode code 894 = .ok (.iaload, 1) := by decide +kernel
theorem d_L_law_895 : decode code 895 = .ok (.invokevirtual 121, 3) := by decide +kernel
theorem d_L_law_898 : decode code 898 = .ok (.istore 6, 2) := by decide +kernel
theorem d_L_law_900 : decode code 900 = .ok (.aload_n 2, 1) := by decide +kernel
theorem d_L_law_901 : decode code 901 = .ok (.invokevirtual 73, 3) := by decide +kernel
theorem d_L_law_904 : decode code 904 = .ok (.iload 5, 2) := by decide +kernel
theorem d_L_law_906 : decode code 906 = .ok (.if_icmp .eq 5, 3) := by decide +kernel
theorem d_L_law_909 : decode code 909 = .ok (.iconst 0, 1) := by decide +kernel
theorem d_L_law_910 : decode code 910 = .ok (.ireturn, 1) := by decide +kernel
theorem d_L_law_911 : decode code 911 = .ok (.iload 5, 2) := by decide +kernel
theorem d_L_law_913 : decode code 913 = .ok (.ifCond .ne 15, 3) := by decide +kernel
theorem d_L_law_916 : decode code 916 = .ok (.aload_n 3, 1) := by decide +kernel
theorem d_L_law_917 : decode code 917 = .ok (.iconst 0, 1) := by decide +kernel
theorem d_L_law_918 : decode code 918 = .ok (.laload, 1) := by decide +kernel
theorem d_L_law_919 : decode code 919 = .ok (.iload 6, 2) := by decide +kernel
theorem d_L_law_921 : decode code 921 = .ok (.i2l, 1) := by decide +kernel
theorem d_L_law_922 : decode code 922 = .ok (.lcmp, 1) := by decide +kernel
theorem d_L_law_923 : decode code 923 = .ok (.ifCond .eq 5, 3) := by decide +kernel
theorem d_L_law_926 : decode code 926 = .ok (.iconst 0, 1) := by decide +kernel
theorem d_L_law_927 : decode code 927 = .ok (.ireturn, 1) := by decide +kernel
theorem d_L_law_928 : decode code 928 = .ok (.goto 28, 3) := by decide +kernel
theorem d_L_law_931 : decode code 931 = .ok (.aload_n 1, 1) := by decide +kernel
theorem d_L_law_932 : decode code 932 = .ok (.aload_n 0, 1) := by decide +kernel
theorem d_L_law_933 : decode code 933 = .ok (.iload 4, 2) := by decide +kernel
theorem d_L_law_935 : decode code 935 = .ok (.iconst 1, 1) := by decide +kernel
theorem d_L_law_936 : decode code 936 = .ok (.iadd, 1) := by decide +kernel
theorem d_L_law_937 : decode code 937 = .ok (.iaload, 1) := by decide +kernel
theorem d_L_law_938 : decode code 938 = .ok (.invokevirtual 122, 3) := by decide +kernel
theorem d_L_law_941 : decode code 941 = .ok (.aload_n 2, 1) := by decide +kernel
theorem d_L_law_942 : decode code 942 = .ok (.aload_n 0, 1) := by decide +kernel
theorem d_L_law_943 : decode code 943 = .ok (.iload 4, 2) := by decide +kernel
theorem d_L_law_945 : decode code 945 = .ok (.iconst 1, 1) := by decide +kernel
theorem d_L_law_946 : decode code 946 = .ok (.iadd, 1) := by decide +kernel
theorem d_L_law_947 : decode code 947 = .ok (.iaload, 1) := by decide +kernel
theorem d_L_law_948 : decode code 948 = .ok (.invokevirtual 125, 3) := by decide +kernel
theorem d_L_law_951 : decode code 951 = .ok (.if_icmp .eq 5, 3) := by decide +kernel
theorem d_L_law_954 : decode code 954 = .ok (.iconst 0, 1) := by decide +kernel
theorem d_L_law_955 : decode code 955 = .ok (.ireturn, 1) := by decide +kernel
theorem d_L_law_956 : decode code 956 = .ok (.iinc 4 4, 3) := by decide +kernel
theorem d_L_law_959 : decode code 959 = .ok (.goto (-936), 3) := by decide +kernel
theorem d_L_law_962 : decode code 962 = .ok (.iconst 1, 1) := by decide +kernel
theorem d_L_law_963 : decode code 963 = .ok (.ireturn, 1) := by decide +kernel
