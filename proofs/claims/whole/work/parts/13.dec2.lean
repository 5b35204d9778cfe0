/-! decode rows -/
theorem d_D_init_0 : decode c_D_init 0 = .ok (.aload_n 0, 1) := by decide +kernel
theorem d_D_init_1 : decode c_D_init 1 = .ok (.invokespecial 1, 3) := by decide +kernel
theorem d_D_init_4 : decode c_D_init 4 = .ok (.aload_n 0, 1) := by decide +kernel
theorem d_D_init_5 : decode c_D_init 5 = .ok (.new 7, 3) := by decide +kernel
theorem d_D_init_8 : decode c_D_init 8 = .ok (.dup, 1) := by decide +kernel
theorem d_D_init_9 : decode c_D_init 9 = .ok (.invokespecial 9, 3) := by decide +kernel
theorem d_D_init_12 : decode c_D_init 12 = .ok (.putfield 10, 3) := by decide +kernel
theorem d_D_init_15 : decode c_D_init 15 = .ok (.aload_n 0, 1) := by decide +kernel
theorem d_D_init_16 : decode c_D_init 16 = .ok (.new 16, 3) := by decide +kernel
theorem d_D_init_19 : decode c_D_init 19 = .ok (.dup, 1) := by decide +kernel
theorem d_D_init_20 : decode c_D_init 20 = .ok (.invokespecial 18, 3) := by decide +kernel
theorem d_D_init_23 : decode c_D_init 23 = .ok (.putfield 19, 3) := by decide +kernel
theorem d_D_init_26 : decode c_D_init 26 = .ok (.aload_n 0, 1) := by decide +kernel
theorem d_D_init_27 : decode c_D_init 27 = .ok (.new 16, 3) := by decide +kernel
theorem d_D_init_30 : decode c_D_init 30 = .ok (.dup, 1) := by decide +kernel
theorem d_D_init_31 : decode c_D_init 31 = .ok (.invokespecial 18, 3) := by decide +kernel
theorem d_D_init_34 : decode c_D_init 34 = .ok (.putfield 23, 3) := by decide +kernel
theorem d_D_init_37 : decode c_D_init 37 = .ok (.return_, 1) := by decide +kernel
theorem d_D_make_0 : decode c_D_make 0 = .ok (.iload_n 1, 1) := by decide +kernel
theorem d_D_make_1 : decode c_D_make 1 = .ok (.invokestatic 26, 3) := by decide +kernel
theorem d_D_make_4 : decode c_D_make 4 = .ok (.aload_n 0, 1) := by decide +kernel
theorem d_D_make_5 : decode c_D_make 5 = .ok (.getfield 19, 3) := by decide +kernel
theorem d_D_make_8 : decode c_D_make 8 = .ok (.iload_n 1, 1) := by decide +kernel
theorem d_D_make_9 : decode c_D_make 9 = .ok (.invokevirtual 30, 3) := by decide +kernel
theorem d_D_make_12 : decode c_D_make 12 = .ok (.bipush 9, 2) := by decide +kernel
theorem d_D_make_14 : decode c_D_make 14 = .ok (.if_icmp .lt 13, 3) := by decide +kernel
theorem d_D_make_17 : decode c_D_make 17 = .ok (.new 34, 3) := by decide +kernel
theorem d_D_make_20 : decode c_D_make 20 = .ok (.dup, 1) := by decide +kernel
theorem d_D_make_21 : decode c_D_make 21 = .ok (.ldc 36, 2) := by decide +kernel
theorem d_D_make_23 : decode c_D_make 23 = .ok (.invokespecial 38, 3) := by decide +kernel
theorem d_D_make_26 : decode c_D_make 26 = .ok (.athrow, 1) := by decide +kernel
theorem d_D_make_27 : decode c_D_make 27 = .ok (.aload_n 0, 1) := by decide +kernel
theorem d_D_make_28 : decode c_D_make 28 = .ok (.invokevirtual 41, 3) := by decide +kernel
theorem d_D_make_31 : decode c_D_make 31 = .ok (.aload_n 0, 1) := by decide +kernel
theorem d_D_make_32 : decode c_D_make 32 = .ok (.iconst 0, 1) := by decide +kernel
theorem d_D_make_33 : decode c_D_make 33 = .ok (.iload_n 1, 1) := by decide +kernel
theorem d_D_make_34 : decode c_D_make 34 = .ok (.iconst 0, 1) := by decide +kernel
theorem d_D_make_35 : decode c_D_make 35 = .ok (.iconst 0, 1) := by decide +kernel
theorem d_D_make_36 : decode c_D_make 36 = .ok (.invokevirtual 44, 3) := by decide +kernel
theorem d_D_make_39 : decode c_D_make 39 = .ok (.l2i, 1) := by decide +kernel
theorem d_D_make_40 : decode c_D_make 40 = .ok (.ireturn, 1) := by decide +kernel
theorem d_D_drop_0 : decode c_D_drop 0 = .ok (.iload_n 1, 1) := by decide +kernel
theorem d_D_drop_1 : decode c_D_drop 1 = .ok (.invokestatic 26, 3) := by decide +kernel
theorem d_D_drop_4 : decode c_D_drop 4 = .ok (.aload_n 0, 1) := by decide +kernel
theorem d_D_drop_5 : decode c_D_drop 5 = .ok (.getfield 19, 3) := by decide +kernel
theorem d_D_drop_8 : decode c_D_drop 8 = .ok (.iload_n 1, 1) := by decide +kernel
theorem d_D_drop_9 : decode c_D_drop 9 = .ok (.iload_n 2, 1) := by decide +kernel
theorem d_D_drop_10 : decode c_D_drop 10 = .ok (.invokestatic 48, 3) := by decide +kernel
theorem d_D_drop_13 : decode c_D_drop 13 = .ok (.aload_n 0, 1) := by decide +kernel
theorem d_D_drop_14 : decode c_D_drop 14 = .ok (.invokevirtual 41, 3) := by decide +kernel
theorem d_D_drop_17 : decode c_D_drop 17 = .ok (.aload_n 0, 1) := by decide +kernel
theorem d_D_drop_18 : decode c_D_drop 18 = .ok (.iconst 1, 1) := by decide +kernel
theorem d_D_drop_19 : decode c_D_drop 19 = .ok (.iload_n 1, 1) := by decide +kernel
theorem d_D_drop_20 : decode c_D_drop 20 = .ok (.iload_n 2, 1) := by decide +kernel
theorem d_D_drop_21 : decode c_D_drop 21 = .ok (.iconst 0, 1) := by decide +kernel
theorem d_D_drop_22 : decode c_D_drop 22 = .ok (.invokevirtual 44, 3) := by decide +kernel
theorem d_D_drop_25 : decode c_D_drop 25 = .ok (.l2i, 1) := by decide +kernel
theorem d_D_drop_26 : decode c_D_drop 26 = .ok (.ireturn, 1) := by decide +kernel
theorem d_D_serves_0 : decode c_D_serves 0 = .ok (.iload_n 1, 1) := by decide +kernel
theorem d_D_serves_1 : decode c_D_serves 1 = .ok (.invokestatic 52, 3) := by decide +kernel
theorem d_D_serves_4 : decode c_D_serves 4 = .ok (.iload_n 2, 1) := by decide +kernel
theorem d_D_serves_5 : decode c_D_serves 5 = .ok (.invokestatic 26, 3) := by decide +kernel
theorem d_D_serves_8 : decode c_D_serves 8 = .ok (.aload_n 0, 1) := by decide +kernel
theorem d_D_serves_9 : decode c_D_serves 9 = .ok (.invokevirtual 41, 3) := by decide +kernel
theorem d_D_serves_12 : decode c_D_serves 12 = .ok (.aload_n 0, 1) := by decide +kernel
theorem d_D_serves_13 : decode c_D_serves 13 = .ok (.iconst 2, 1) := by decide +kernel
theorem d_D_serves_14 : decode c_D_serves 14 = .ok (.iload_n 1, 1) := by decide +kernel
theorem d_D_serves_15 : decode c_D_serves 15 = .ok (.iload_n 2, 1) := by decide +kernel
theorem d_D_serves_16 : decode c_D_serves 16 = .ok (.iconst 0, 1) := by decide +kernel
theorem d_D_serves_17 : decode c_D_serves 17 = .ok (.invokevirtual 44, 3) := by decide +kernel
theorem d_D_serves_20 : decode c_D_serves 20 = .ok (.pop2, 1) := by decide +kernel
theorem d_D_serves_21 : decode c_D_serves 21 = .ok (.return_, 1) := by decide +kernel
theorem d_D_answers_0 : decode c_D_answers 0 = .ok (.iload_n 1, 1) := by decide +kernel
theorem d_D_answers_1 : decode c_D_answers 1 = .ok (.invokestatic 52, 3) := by decide +kernel
theorem d_D_answers_4 : decode c_D_answers 4 = .ok (.iload_n 2, 1) := by decide +kernel
theorem d_D_answers_5 : decode c_D_answers 5 = .ok (.invokestatic 55, 3) := by decide +kernel
theorem d_D_answers_8 : decode c_D_answers 8 = .ok (.iload_n 3, 1) := by decide +kernel
theorem d_D_answers_9 : decode c_D_answers 9 = .ok (.invokestatic 55, 3) := by decide +kernel
theorem d_D_answers_12 : decode c_D_answers 12 = .ok (.aload_n 0, 1) := by decide +kernel
theorem d_D_answers_13 : decode c_D_answers 13 = .ok (.invokevirtual 41, 3) := by decide +kernel
theorem d_D_answers_16 : decode c_D_answers 16 = .ok (.aload_n 0, 1) := by decide +kernel
theorem d_D_answers_17 : decode c_D_answers 17 = .ok (.iconst 3, 1) := by decide +kernel
theorem d_D_answers_18 : decode c_D_answers 18 = .ok (.iload_n 1, 1) := by decide +kernel
theorem d_D_answers_19 : decode c_D_answers 19 = .ok (.iload_n 2, 1) := by decide +kernel
theorem d_D_answers_20 : decode c_D_answers 20 = .ok (.iload_n 3, 1) := by decide +kernel
theorem d_D_answers_21 : decode c_D_answers 21 = .ok (.invokevirtual 44, 3) := by decide +kernel
theorem d_D_answers_24 : decode c_D_answers 24 = .ok (.pop2, 1) := by decide +kernel
theorem d_D_answers_25 : decode c_D_answers 25 = .ok (.return_, 1) := by decide +kernel
theorem d_D_fails_0 : decode c_D_fails 0 = .ok (.iload_n 1, 1) := by decide +kernel
theorem d_D_fails_1 : decode c_D_fails 1 = .ok (.invokestatic 52, 3) := by decide +kernel
theorem d_D_fails_4 : decode c_D_fails 4 = .ok (.iload_n 2, 1) := by decide +kernel
theorem d_D_fails_5 : decode c_D_fails 5 = .ok (.iconst 4, 1) := by decide +kernel
theorem d_D_fails_6 : decode c_D_fails 6 = .ok (.invokestatic 58, 3) := by decide +kernel
theorem d_D_fails_9 : decode c_D_fails 9 = .ok (.aload_n 0, 1) := by decide +kernel
theorem d_D_fails_10 : decode c_D_fails 10 = .ok (.invokevirtual 41, 3) := by decide +kernel
theorem d_D_fails_13 : decode c_D_fails 13 = .ok (.aload_n 0, 1) := by decide +kernel
theorem d_D_fails_14 : decode c_D_fails 14 = .ok (.iconst 4, 1) := by decide +kernel
theorem d_D_fails_15 : decode c_D_fails 15 = .ok (.iload_n 1, 1) := by decide +kernel
theorem d_D_fails_16 : decode c_D_fails 16 = .ok (.iload_n 2, 1) := by decide +kernel
theorem d_D_fails_17 : decode c_D_fails 17 = .ok (.iconst 0, 1) := by decide +kernel
theorem d_D_fails_18 : decode c_D_fails 18 = .ok (.invokevirtual 44, 3) := by decide +kernel
theorem d_D_fails_21 : decode c_D_fails 21 = .ok (.l2i, 1) := by decide +kernel
theorem d_D_fails_22 : decode c_D_fails 22 = .ok (.ireturn, 1) := by decide +kernel
theorem d_D_call_0 : decode c_D_call 0 = .ok (.iload_n 1, 1) := by decide +kernel
theorem d_D_call_1 : decode c_D_call 1 = .ok (.invokestatic 52, 3) := by decide +kernel
theorem d_D_call_4 : decode c_D_call 4 = .ok (.iload_n 3, 1) := by decide +kernel
theorem d_D_call_5 : decode c_D_call 5 = .ok (.invokestatic 55, 3) := by decide +kernel
theorem d_D_call_8 : decode c_D_call 8 = .ok (.aload_n 0, 1) := by decide +kernel
theorem d_D_call_9 : decode c_D_call 9 = .ok (.getfield 19, 3) := by decide +kernel
theorem d_D_call_12 : decode c_D_call 12 = .ok (.aload_n 0, 1) := by decide +kernel
theorem d_D_call_13 : decode c_D_call 13 = .ok (.getfield 19, 3) := by decide +kernel
theorem d_D_call_16 : decode c_D_call 16 = .ok (.iload_n 1, 1) := by decide +kernel
theorem d_D_call_17 : decode c_D_call 17 = .ok (.invokevirtual 62, 3) := by decide +kernel
theorem d_D_call_20 : decode c_D_call 20 = .ok (.iload_n 2, 1) := by decide +kernel
theorem d_D_call_21 : decode c_D_call 21 = .ok (.invokestatic 48, 3) := by decide +kernel
theorem d_D_call_24 : decode c_D_call 24 = .ok (.aload_n 0, 1) := by decide +kernel
theorem d_D_call_25 : decode c_D_call 25 = .ok (.invokevirtual 41, 3) := by decide +kernel
theorem d_D_call_28 : decode c_D_call 28 = .ok (.aload_n 0, 1) := by decide +kernel
theorem d_D_call_29 : decode c_D_call 29 = .ok (.getfield 19, 3) := by decide +kernel
theorem d_D_call_32 : decode c_D_call 32 = .ok (.iload_n 1, 1) := by decide +kernel
theorem d_D_call_33 : decode c_D_call 33 = .ok (.invokevirtual 65, 3) := by decide +kernel
theorem d_D_call_36 : decode c_D_call 36 = .ok (.istore 4, 2) := by decide +kernel
theorem d_D_call_38 : decode c_D_call 38 = .ok (.aload_n 0, 1) := by decide +kernel
theorem d_D_call_39 : decode c_D_call 39 = .ok (.iconst 5, 1) := by decide +kernel
theorem d_D_call_40 : decode c_D_call 40 = .ok (.iload_n 1, 1) := by decide +kernel
theorem d_D_call_41 : decode c_D_call 41 = .ok (.iload_n 2, 1) := by decide +kernel
theorem d_D_call_42 : decode c_D_call 42 = .ok (.iload_n 3, 1) := by decide +kernel
theorem d_D_call_43 : decode c_D_call 43 = .ok (.invokevirtual 44, 3) := by decide +kernel
theorem d_D_call_46 : decode c_D_call 46 = .ok (.lstore 5, 2) := by decide +kernel
theorem d_D_call_48 : decode c_D_call 48 = .ok (.iload 4, 2) := by decide +kernel
theorem d_D_call_50 : decode c_D_call 50 = .ok (.ifCond .eq 13, 3) := by decide +kernel
theorem d_D_call_53 : decode c_D_call 53 = .ok (.new 69, 3) := by decide +kernel
theorem d_D_call_56 : decode c_D_call 56 = .ok (.dup, 1) := by decide +kernel
theorem d_D_call_57 : decode c_D_call 57 = .ok (.ldc 71, 2) := by decide +kernel
theorem d_D_call_59 : decode c_D_call 59 = .ok (.invokespecial 73, 3) := by decide +kernel
theorem d_D_call_62 : decode c_D_call 62 = .ok (.athrow, 1) := by decide +kernel
theorem d_D_call_63 : decode c_D_call 63 = .ok (.lload 5, 2) := by decide +kernel
theorem d_D_call_65 : decode c_D_call 65 = .ok (.lreturn, 1) := by decide +kernel
theorem d_D_again_0 : decode c_D_again 0 = .ok (.iload_n 1, 1) := by decide +kernel
theorem d_D_again_1 : decode c_D_again 1 = .ok (.invokestatic 52, 3) := by decide +kernel
theorem d_D_again_4 : decode c_D_again 4 = .ok (.iload_n 3, 1) := by decide +kernel
theorem d_D_again_5 : decode c_D_again 5 = .ok (.invokestatic 55, 3) := by decide +kernel
theorem d_D_again_8 : decode c_D_again 8 = .ok (.aload_n 0, 1) := by decide +kernel
theorem d_D_again_9 : decode c_D_again 9 = .ok (.getfield 10, 3) := by decide +kernel
theorem d_D_again_12 : decode c_D_again 12 = .ok (.aload_n 0, 1) := by decide +kernel
theorem d_D_again_13 : decode c_D_again 13 = .ok (.getfield 23, 3) := by decide +kernel
theorem d_D_again_16 : decode c_D_again 16 = .ok (.invokevirtual 74, 3) := by decide +kernel
theorem d_D_again_19 : decode c_D_again 19 = .ok (.aload_n 0, 1) := by decide +kernel
theorem d_D_again_20 : decode c_D_again 20 = .ok (.getfield 23, 3) := by decide +kernel
theorem d_D_again_23 : decode c_D_again 23 = .ok (.aload_n 0, 1) := by decide +kernel
theorem d_D_again_24 : decode c_D_again 24 = .ok (.getfield 23, 3) := by decide +kernel
theorem d_D_again_27 : decode c_D_again 27 = .ok (.iload_n 1, 1) := by decide +kernel
theorem d_D_again_28 : decode c_D_again 28 = .ok (.invokevirtual 62, 3) := by decide +kernel
theorem d_D_again_31 : decode c_D_again 31 = .ok (.iload_n 2, 1) := by decide +kernel
theorem d_D_again_32 : decode c_D_again 32 = .ok (.invokestatic 48, 3) := by decide +kernel
theorem d_D_again_35 : decode c_D_again 35 = .ok (.aload_n 0, 1) := by decide +kernel
theorem d_D_again_36 : decode c_D_again 36 = .ok (.getfield 23, 3) := by decide +kernel
theorem d_D_again_39 : decode c_D_again 39 = .ok (.iload_n 1, 1) := by decide +kernel
theorem d_D_again_40 : decode c_D_again 40 = .ok (.invokevirtual 65, 3) := by decide +kernel
theorem d_D_again_43 : decode c_D_again 43 = .ok (.ifCond .eq 13, 3) := by decide +kernel
theorem d_D_again_46 : decode c_D_again 46 = .ok (.new 69, 3) := by decide +kernel
theorem d_D_again_49 : decode c_D_again 49 = .ok (.dup, 1) := by decide +kernel
theorem d_D_again_50 : decode c_D_again 50 = .ok (.ldc 78, 2) := by decide +kernel
theorem d_D_again_52 : decode c_D_again 52 = .ok (.invokespecial 73, 3) := by decide +kernel
theorem d_D_again_55 : decode c_D_again 55 = .ok (.athrow, 1) := by decide +kernel
theorem d_D_again_56 : decode c_D_again 56 = .ok (.aload_n 0, 1) := by decide +kernel
theorem d_D_again_57 : decode c_D_again 57 = .ok (.getfield 23, 3) := by decide +kernel
theorem d_D_again_60 : decode c_D_again 60 = .ok (.iload_n 1, 1) := by decide +kernel
theorem d_D_again_61 : decode c_D_again 61 = .ok (.iload_n 2, 1) := by decide +kernel
theorem d_D_again_62 : decode c_D_again 62 = .ok (.iload_n 3, 1) := by decide +kernel
theorem d_D_again_63 : decode c_D_again 63 = .ok (.invokevirtual 80, 3) := by decide +kernel
theorem d_D_again_66 : decode c_D_again 66 = .ok (.lreturn, 1) := by decide +kernel
theorem d_D_collect_0 : decode c_D_collect 0 = .ok (.iload_n 1, 1) := by decide +kernel
theorem d_D_collect_1 : decode c_D_collect 1 = .ok (.sipush 256, 3) := by decide +kernel
theorem d_D_collect_4 : decode c_D_collect 4 = .ok (.invokestatic 58, 3) := by decide +kernel
theorem d_D_collect_7 : decode c_D_collect 7 = .ok (.aload_n 0, 1) := by decide +kernel
theorem d_D_collect_8 : decode c_D_collect 8 = .ok (.invokevirtual 41, 3) := by decide +kernel
theorem d_D_collect_11 : decode c_D_collect 11 = .ok (.aload_n 0, 1) := by decide +kernel
theorem d_D_collect_12 : decode c_D_collect 12 = .ok (.bipush 6, 2) := by decide +kernel
theorem d_D_collect_14 : decode c_D_collect 14 = .ok (.iload_n 1, 1) := by decide +kernel
theorem d_D_collect_15 : decode c_D_collect 15 = .ok (.iconst 0, 1) := by decide +kernel
theorem d_D_collect_16 : decode c_D_collect 16 = .ok (.iconst 0, 1) := by decide +kernel
theorem d_D_collect_17 : decode c_D_collect 17 = .ok (.invokevirtual 44, 3) := by decide +kernel
theorem d_D_collect_20 : decode c_D_collect 20 = .ok (.l2i, 1) := by decide +kernel
theorem d_D_collect_21 : decode c_D_collect 21 = .ok (.ireturn, 1) := by decide +kernel
theorem d_D_sums_0 : decode c_D_sums 0 = .ok (.aload_n 0, 1) := by decide +kernel
theorem d_D_sums_1 : decode c_D_sums 1 = .ok (.getfield 19, 3) := by decide +kernel
theorem d_D_sums_4 : decode c_D_sums 4 = .ok (.invokevirtual 84, 3) := by decide +kernel
theorem d_D_sums_7 : decode c_D_sums 7 = .ok (.lreturn, 1) := by decide +kernel
theorem d_D_back_0 : decode c_D_back 0 = .ok (.aload_n 0, 1) := by decide +kernel
theorem d_D_back_1 : decode c_D_back 1 = .ok (.getfield 10, 3) := by decide +kernel
theorem d_D_back_4 : decode c_D_back 4 = .ok (.invokevirtual 88, 3) := by decide +kernel
theorem d_D_back_7 : decode c_D_back 7 = .ok (.ifCond .ne 13, 3) := by decide +kernel
theorem d_D_back_10 : decode c_D_back 10 = .ok (.new 69, 3) := by decide +kernel
theorem d_D_back_13 : decode c_D_back 13 = .ok (.dup, 1) := by decide +kernel
theorem d_D_back_14 : decode c_D_back 14 = .ok (.ldc 92, 2) := by decide +kernel
theorem d_D_back_16 : decode c_D_back 16 = .ok (.invokespecial 73, 3) := by decide +kernel
theorem d_D_back_19 : decode c_D_back 19 = .ok (.athrow, 1) := by decide +kernel
theorem d_D_back_20 : decode c_D_back 20 = .ok (.aload_n 0, 1) := by decide +kernel
theorem d_D_back_21 : decode c_D_back 21 = .ok (.getfield 10, 3) := by decide +kernel
theorem d_D_back_24 : decode c_D_back 24 = .ok (.invokevirtual 94, 3) := by decide +kernel
theorem d_D_back_27 : decode c_D_back 27 = .ok (.aload_n 0, 1) := by decide +kernel
theorem d_D_back_28 : decode c_D_back 28 = .ok (.getfield 10, 3) := by decide +kernel
theorem d_D_back_31 : decode c_D_back 31 = .ok (.aload_n 0, 1) := by decide +kernel
theorem d_D_back_32 : decode c_D_back 32 = .ok (.getfield 19, 3) := by decide +kernel
theorem d_D_back_35 : decode c_D_back 35 = .ok (.invokevirtual 74, 3) := by decide +kernel
theorem d_D_back_38 : decode c_D_back 38 = .ok (.aload_n 0, 1) := by decide +kernel
theorem d_D_back_39 : decode c_D_back 39 = .ok (.getfield 10, 3) := by decide +kernel
theorem d_D_back_42 : decode c_D_back 42 = .ok (.invokevirtual 88, 3) := by decide +kernel
theorem d_D_back_45 : decode c_D_back 45 = .ok (.ireturn, 1) := by decide +kernel
theorem d_D_told_0 : decode c_D_told 0 = .ok (.iload_n 1, 1) := by decide +kernel
theorem d_D_told_1 : decode c_D_told 1 = .ok (.tableswitch 63 0 3 #[31, 39, 47, 55], 31) := by decide +kernel
theorem d_D_told_32 : decode c_D_told 32 = .ok (.aload_n 0, 1) := by decide +kernel
theorem d_D_told_33 : decode c_D_told 33 = .ok (.getfield 19, 3) := by decide +kernel
theorem d_D_told_36 : decode c_D_told 36 = .ok (.getfield 97, 3) := by decide +kernel
theorem d_D_told_39 : decode c_D_told 39 = .ok (.ireturn, 1) := by decide +kernel
theorem d_D_told_40 : decode c_D_told 40 = .ok (.aload_n 0, 1) := by decide +kernel
theorem d_D_told_41 : decode c_D_told 41 = .ok (.getfield 19, 3) := by decide +kernel
theorem d_D_told_44 : decode c_D_told 44 = .ok (.getfield 101, 3) := by decide +kernel
theorem d_D_told_47 : decode c_D_told 47 = .ok (.ireturn, 1) := by decide +kernel
theorem d_D_told_48 : decode c_D_told 48 = .ok (.aload_n 0, 1) := by decide +kernel
theorem d_D_told_49 : decode c_D_told 49 = .ok (.getfield 19, 3) := by decide +kernel
theorem d_D_told_52 : decode c_D_told 52 = .ok (.getfield 104, 3) := by decide +kernel
theorem d_D_told_55 : decode c_D_told 55 = .ok (.ireturn, 1) := by decide +kernel
theorem d_D_told_56 : decode c_D_told 56 = .ok (.aload_n 0, 1) := by decide +kernel
theorem d_D_told_57 : decode c_D_told 57 = .ok (.getfield 19, 3) := by decide +kernel
theorem d_D_told_60 : decode c_D_told 60 = .ok (.getfield 107, 3) := by decide +kernel
theorem d_D_told_63 : decode c_D_told 63 = .ok (.ireturn, 1) := by decide +kernel
theorem d_D_told_64 : decode c_D_told 64 = .ok (.new 110, 3) := by decide +kernel
theorem d_D_told_67 : decode c_D_told 67 = .ok (.dup, 1) := by decide +kernel
theorem d_D_told_68 : decode c_D_told 68 = .ok (.ldc 112, 2) := by decide +kernel
theorem d_D_told_70 : decode c_D_told 70 = .ok (.invokespecial 114, 3) := by decide +kernel
theorem d_D_told_73 : decode c_D_told 73 = .ok (.athrow, 1) := by decide +kernel
theorem d_D_worth_0 : decode c_D_worth 0 = .ok (.iload_n 1, 1) := by decide +kernel
theorem d_D_worth_1 : decode c_D_worth 1 = .ok (.invokestatic 52, 3) := by decide +kernel
theorem d_D_worth_4 : decode c_D_worth 4 = .ok (.aload_n 0, 1) := by decide +kernel
theorem d_D_worth_5 : decode c_D_worth 5 = .ok (.getfield 19, 3) := by decide +kernel
theorem d_D_worth_8 : decode c_D_worth 8 = .ok (.iload_n 1, 1) := by decide +kernel
theorem d_D_worth_9 : decode c_D_worth 9 = .ok (.invokevirtual 115, 3) := by decide +kernel
theorem d_D_worth_12 : decode c_D_worth 12 = .ok (.lreturn, 1) := by decide +kernel
theorem d_D_uses_0 : decode c_D_uses 0 = .ok (.iload_n 1, 1) := by decide +kernel
theorem d_D_uses_1 : decode c_D_uses 1 = .ok (.invokestatic 26, 3) := by decide +kernel
theorem d_D_uses_4 : decode c_D_uses 4 = .ok (.aload_n 0, 1) := by decide +kernel
theorem d_D_uses_5 : decode c_D_uses 5 = .ok (.getfield 19, 3) := by decide +kernel
theorem d_D_uses_8 : decode c_D_uses 8 = .ok (.iload_n 1, 1) := by decide +kernel
theorem d_D_uses_9 : decode c_D_uses 9 = .ok (.iload_n 2, 1) := by decide +kernel
theorem d_D_uses_10 : decode c_D_uses 10 = .ok (.invokestatic 48, 3) := by decide +kernel
theorem d_D_uses_13 : decode c_D_uses 13 = .ok (.aload_n 0, 1) := by decide +kernel
theorem d_D_uses_14 : decode c_D_uses 14 = .ok (.getfield 19, 3) := by decide +kernel
theorem d_D_uses_17 : decode c_D_uses 17 = .ok (.iload_n 1, 1) := by decide +kernel
theorem d_D_uses_18 : decode c_D_uses 18 = .ok (.iload_n 2, 1) := by decide +kernel
theorem d_D_uses_19 : decode c_D_uses 19 = .ok (.invokevirtual 119, 3) := by decide +kernel
theorem d_D_uses_22 : decode c_D_uses 22 = .ok (.ireturn, 1) := by decide +kernel
theorem d_D_numbers_0 : decode c_D_numbers 0 = .ok (.iload_n 1, 1) := by decide +kernel
theorem d_D_numbers_1 : decode c_D_numbers 1 = .ok (.invokestatic 26, 3) := by decide +kernel
theorem d_D_numbers_4 : decode c_D_numbers 4 = .ok (.iload_n 2, 1) := by decide +kernel
theorem d_D_numbers_5 : decode c_D_numbers 5 = .ok (.iconst 2, 1) := by decide +kernel
theorem d_D_numbers_6 : decode c_D_numbers 6 = .ok (.invokestatic 58, 3) := by decide +kernel
theorem d_D_numbers_9 : decode c_D_numbers 9 = .ok (.iload_n 2, 1) := by decide +kernel
theorem d_D_numbers_10 : decode c_D_numbers 10 = .ok (.ifCond .ne 14, 3) := by decide +kernel
theorem d_D_numbers_13 : decode c_D_numbers 13 = .ok (.aload_n 0, 1) := by decide +kernel
theorem d_D_numbers_14 : decode c_D_numbers 14 = .ok (.getfield 19, 3) := by decide +kernel
theorem d_D_numbers_17 : decode c_D_numbers 17 = .ok (.iload_n 1, 1) := by decide +kernel
theorem d_D_numbers_18 : decode c_D_numbers 18 = .ok (.invokevirtual 30, 3) := by decide +kernel
theorem d_D_numbers_21 : decode c_D_numbers 21 = .ok (.goto 11, 3) := by decide +kernel
theorem d_D_numbers_24 : decode c_D_numbers 24 = .ok (.aload_n 0, 1) := by decide +kernel
theorem d_D_numbers_25 : decode c_D_numbers 25 = .ok (.getfield 19, 3) := by decide +kernel
theorem d_D_numbers_28 : decode c_D_numbers 28 = .ok (.iload_n 1, 1) := by decide +kernel
theorem d_D_numbers_29 : decode c_D_numbers 29 = .ok (.invokevirtual 123, 3) := by decide +kernel
theorem d_D_numbers_32 : decode c_D_numbers 32 = .ok (.ireturn, 1) := by decide +kernel
theorem d_D_count_0 : decode c_D_count 0 = .ok (.iload_n 1, 1) := by decide +kernel
theorem d_D_count_1 : decode c_D_count 1 = .ok (.tableswitch 63 0 3 #[31, 39, 47, 55], 31) := by decide +kernel
theorem d_D_count_32 : decode c_D_count 32 = .ok (.aload_n 0, 1) := by decide +kernel
theorem d_D_count_33 : decode c_D_count 33 = .ok (.getfield 10, 3) := by decide +kernel
theorem d_D_count_36 : decode c_D_count 36 = .ok (.invokevirtual 88, 3) := by decide +kernel
theorem d_D_count_39 : decode c_D_count 39 = .ok (.ireturn, 1) := by decide +kernel
theorem d_D_count_40 : decode c_D_count 40 = .ok (.aload_n 0, 1) := by decide +kernel
theorem d_D_count_41 : decode c_D_count 41 = .ok (.getfield 19, 3) := by decide +kernel
theorem d_D_count_44 : decode c_D_count 44 = .ok (.invokevirtual 126, 3) := by decide +kernel
theorem d_D_count_47 : decode c_D_count 47 = .ok (.ireturn, 1) := by decide +kernel
theorem d_D_count_48 : decode c_D_count 48 = .ok (.aload_n 0, 1) := by decide +kernel
theorem d_D_count_49 : decode c_D_count 49 = .ok (.getfield 19, 3) := by decide +kernel
theorem d_D_count_52 : decode c_D_count 52 = .ok (.getfield 129, 3) := by decide +kernel
theorem d_D_count_55 : decode c_D_count 55 = .ok (.ireturn, 1) := by decide +kernel
theorem d_D_count_56 : decode c_D_count 56 = .ok (.aload_n 0, 1) := by decide +kernel
theorem d_D_count_57 : decode c_D_count 57 = .ok (.getfield 19, 3) := by decide +kernel
theorem d_D_count_60 : decode c_D_count 60 = .ok (.getfield 132, 3) := by decide +kernel
theorem d_D_count_63 : decode c_D_count 63 = .ok (.ireturn, 1) := by decide +kernel
theorem d_D_count_64 : decode c_D_count 64 = .ok (.iconst (-1), 1) := by decide +kernel
theorem d_D_count_65 : decode c_D_count 65 = .ok (.ireturn, 1) := by decide +kernel
theorem d_D_doAndKeep_0 : decode c_D_doAndKeep 0 = .ok (.aload_n 0, 1) := by decide +kernel
theorem d_D_doAndKeep_1 : decode c_D_doAndKeep 1 = .ok (.getfield 10, 3) := by decide +kernel
theorem d_D_doAndKeep_4 : decode c_D_doAndKeep 4 = .ok (.iload_n 1, 1) := by decide +kernel
theorem d_D_doAndKeep_5 : decode c_D_doAndKeep 5 = .ok (.iload_n 2, 1) := by decide +kernel
theorem d_D_doAndKeep_6 : decode c_D_doAndKeep 6 = .ok (.iload_n 3, 1) := by decide +kernel
theorem d_D_doAndKeep_7 : decode c_D_doAndKeep 7 = .ok (.iload 4, 2) := by decide +kernel
theorem d_D_doAndKeep_9 : decode c_D_doAndKeep 9 = .ok (.invokevirtual 135, 3) := by decide +kernel
theorem d_D_doAndKeep_12 : decode c_D_doAndKeep 12 = .ok (.aload_n 0, 1) := by decide +kernel
theorem d_D_doAndKeep_13 : decode c_D_doAndKeep 13 = .ok (.getfield 19, 3) := by decide +kernel
theorem d_D_doAndKeep_16 : decode c_D_doAndKeep 16 = .ok (.iload_n 1, 1) := by decide +kernel
theorem d_D_doAndKeep_17 : decode c_D_doAndKeep 17 = .ok (.iload_n 2, 1) := by decide +kernel
theorem d_D_doAndKeep_18 : decode c_D_doAndKeep 18 = .ok (.iload_n 3, 1) := by decide +kernel
theorem d_D_doAndKeep_19 : decode c_D_doAndKeep 19 = .ok (.iload 4, 2) := by decide +kernel
theorem d_D_doAndKeep_21 : decode c_D_doAndKeep 21 = .ok (.invokevirtual 139, 3) := by decide +kernel
theorem d_D_doAndKeep_24 : decode c_D_doAndKeep 24 = .ok (.lreturn, 1) := by decide +kernel
theorem d_D_requireRoomForAct_0 : decode c_D_requireRoomForAct 0 = .ok (.aload_n 0, 1) := by decide +kernel
theorem d_D_requireRoomForAct_1 : decode c_D_requireRoomForAct 1 = .ok (.getfield 10, 3) := by decide +kernel
theorem d_D_requireRoomForAct_4 : decode c_D_requireRoomForAct 4 = .ok (.invokevirtual 88, 3) := by decide +kernel
theorem d_D_requireRoomForAct_7 : decode c_D_requireRoomForAct 7 = .ok (.bipush 60, 2) := by decide +kernel
theorem d_D_requireRoomForAct_9 : decode c_D_requireRoomForAct 9 = .ok (.if_icmp .lt 13, 3) := by decide +kernel
theorem d_D_requireRoomForAct_12 : decode c_D_requireRoomForAct 12 = .ok (.new 34, 3) := by decide +kernel
theorem d_D_requireRoomForAct_15 : decode c_D_requireRoomForAct 15 = .ok (.dup, 1) := by decide +kernel
theorem d_D_requireRoomForAct_16 : decode c_D_requireRoomForAct 16 = .ok (.ldc 142, 2) := by decide +kernel
theorem d_D_requireRoomForAct_18 : decode c_D_requireRoomForAct 18 = .ok (.invokespecial 38, 3) := by decide +kernel
theorem d_D_requireRoomForAct_21 : decode c_D_requireRoomForAct 21 = .ok (.athrow, 1) := by decide +kernel
theorem d_D_requireRoomForAct_22 : decode c_D_requireRoomForAct 22 = .ok (.return_, 1) := by decide +kernel
theorem d_D_requireKind_0 : decode c_D_requireKind 0 = .ok (.iload_n 0, 1) := by decide +kernel
theorem d_D_requireKind_1 : decode c_D_requireKind 1 = .ok (.iconst 5, 1) := by decide +kernel
theorem d_D_requireKind_2 : decode c_D_requireKind 2 = .ok (.invokestatic 58, 3) := by decide +kernel
theorem d_D_requireKind_5 : decode c_D_requireKind 5 = .ok (.return_, 1) := by decide +kernel
theorem d_D_requirePart_0 : decode c_D_requirePart 0 = .ok (.iload_n 0, 1) := by decide +kernel
theorem d_D_requirePart_1 : decode c_D_requirePart 1 = .ok (.bipush 6, 2) := by decide +kernel
theorem d_D_requirePart_3 : decode c_D_requirePart 3 = .ok (.invokestatic 58, 3) := by decide +kernel
theorem d_D_requirePart_6 : decode c_D_requirePart 6 = .ok (.return_, 1) := by decide +kernel
theorem d_D_requireBelow_0 : decode c_D_requireBelow 0 = .ok (.iload_n 0, 1) := by decide +kernel
theorem d_D_requireBelow_1 : decode c_D_requireBelow 1 = .ok (.ifCond .lt 8, 3) := by decide +kernel
theorem d_D_requireBelow_4 : decode c_D_requireBelow 4 = .ok (.iload_n 0, 1) := by decide +kernel
theorem d_D_requireBelow_5 : decode c_D_requireBelow 5 = .ok (.iload_n 1, 1) := by decide +kernel
theorem d_D_requireBelow_6 : decode c_D_requireBelow 6 = .ok (.if_icmp .lt 13, 3) := by decide +kernel
theorem d_D_requireBelow_9 : decode c_D_requireBelow 9 = .ok (.new 110, 3) := by decide +kernel
theorem d_D_requireBelow_12 : decode c_D_requireBelow 12 = .ok (.dup, 1) := by decide +kernel
theorem d_D_requireBelow_13 : decode c_D_requireBelow 13 = .ok (.ldc 144, 2) := by decide +kernel
theorem d_D_requireBelow_15 : decode c_D_requireBelow 15 = .ok (.invokespecial 114, 3) := by decide +kernel
theorem d_D_requireBelow_18 : decode c_D_requireBelow 18 = .ok (.athrow, 1) := by decide +kernel
theorem d_D_requireBelow_19 : decode c_D_requireBelow 19 = .ok (.return_, 1) := by decide +kernel
theorem d_D_requireAmount_0 : decode c_D_requireAmount 0 = .ok (.iload_n 0, 1) := by decide +kernel
theorem d_D_requireAmount_1 : decode c_D_requireAmount 1 = .ok (.ldc 146, 2) := by decide +kernel
theorem d_D_requireAmount_3 : decode c_D_requireAmount 3 = .ok (.if_icmp .lt 9, 3) := by decide +kernel
theorem d_D_requireAmount_6 : decode c_D_requireAmount 6 = .ok (.iload_n 0, 1) := by decide +kernel
theorem d_D_requireAmount_7 : decode c_D_requireAmount 7 = .ok (.ldc 147, 2) := by decide +kernel
theorem d_D_requireAmount_9 : decode c_D_requireAmount 9 = .ok (.if_icmp .le 13, 3) := by decide +kernel
theorem d_D_requireAmount_12 : decode c_D_requireAmount 12 = .ok (.new 110, 3) := by decide +kernel
theorem d_D_requireAmount_15 : decode c_D_requireAmount 15 = .ok (.dup, 1) := by decide +kernel
theorem d_D_requireAmount_16 : decode c_D_requireAmount 16 = .ok (.ldc 148, 2) := by decide +kernel
theorem d_D_requireAmount_18 : decode c_D_requireAmount 18 = .ok (.invokespecial 114, 3) := by decide +kernel
theorem d_D_requireAmount_21 : decode c_D_requireAmount 21 = .ok (.athrow, 1) := by decide +kernel
theorem d_D_requireAmount_22 : decode c_D_requireAmount 22 = .ok (.return_, 1) := by decide +kernel
theorem d_D_requireThing_0 : decode c_D_requireThing 0 = .ok (.aload_n 0, 1) := by decide +kernel
theorem d_D_requireThing_1 : decode c_D_requireThing 1 = .ok (.iload_n 1, 1) := by decide +kernel
theorem d_D_requireThing_2 : decode c_D_requireThing 2 = .ok (.iload_n 2, 1) := by decide +kernel
theorem d_D_requireThing_3 : decode c_D_requireThing 3 = .ok (.invokevirtual 150, 3) := by decide +kernel
theorem d_D_requireThing_6 : decode c_D_requireThing 6 = .ok (.ifCond .ne 13, 3) := by decide +kernel
theorem d_D_requireThing_9 : decode c_D_requireThing 9 = .ok (.new 154, 3) := by decide +kernel
theorem d_D_requireThing_12 : decode c_D_requireThing 12 = .ok (.dup, 1) := by decide +kernel
theorem d_D_requireThing_13 : decode c_D_requireThing 13 = .ok (.ldc 156, 2) := by decide +kernel
theorem d_D_requireThing_15 : decode c_D_requireThing 15 = .ok (.invokespecial 158, 3) := by decide +kernel
theorem d_D_requireThing_18 : decode c_D_requireThing 18 = .ok (.athrow, 1) := by decide +kernel
theorem d_D_requireThing_19 : decode c_D_requireThing 19 = .ok (.return_, 1) := by decide +kernel
