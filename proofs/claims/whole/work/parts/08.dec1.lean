/-! decode rows -/
theorem d_H_init_0 : decode c_H_init 0 = .ok (.aload_n 0, 1) := by decide +kernel
theorem d_H_init_1 : decode c_H_init 1 = .ok (.invokespecial 3, 3) := by decide +kernel
theorem d_H_init_4 : decode c_H_init 4 = .ok (.aload_n 0, 1) := by decide +kernel
theorem d_H_init_5 : decode c_H_init 5 = .ok (.iconst 5, 1) := by decide +kernel
theorem d_H_init_6 : decode c_H_init 6 = .ok (.newarray .int, 2) := by decide +kernel
theorem d_H_init_8 : decode c_H_init 8 = .ok (.putfield 9, 3) := by decide +kernel
theorem d_H_init_11 : decode c_H_init 11 = .ok (.aload_n 0, 1) := by decide +kernel
theorem d_H_init_12 : decode c_H_init 12 = .ok (.bipush 45, 2) := by decide +kernel
theorem d_H_init_14 : decode c_H_init 14 = .ok (.newarray .boolean, 2) := by decide +kernel
theorem d_H_init_16 : decode c_H_init 16 = .ok (.putfield 15, 3) := by decide +kernel
theorem d_H_init_19 : decode c_H_init 19 = .ok (.aload_n 0, 1) := by decide +kernel
theorem d_H_init_20 : decode c_H_init 20 = .ok (.bipush 45, 2) := by decide +kernel
theorem d_H_init_22 : decode c_H_init 22 = .ok (.newarray .int, 2) := by decide +kernel
theorem d_H_init_24 : decode c_H_init 24 = .ok (.putfield 19, 3) := by decide +kernel
theorem d_H_init_27 : decode c_H_init 27 = .ok (.aload_n 0, 1) := by decide +kernel
theorem d_H_init_28 : decode c_H_init 28 = .ok (.bipush 6, 2) := by decide +kernel
theorem d_H_init_30 : decode c_H_init 30 = .ok (.newarray .int, 2) := by decide +kernel
theorem d_H_init_32 : decode c_H_init 32 = .ok (.putfield 22, 3) := by decide +kernel
theorem d_H_init_35 : decode c_H_init 35 = .ok (.aload_n 0, 1) := by decide +kernel
theorem d_H_init_36 : decode c_H_init 36 = .ok (.bipush 6, 2) := by decide +kernel
theorem d_H_init_38 : decode c_H_init 38 = .ok (.newarray .int, 2) := by decide +kernel
theorem d_H_init_40 : decode c_H_init 40 = .ok (.putfield 25, 3) := by decide +kernel
theorem d_H_init_43 : decode c_H_init 43 = .ok (.aload_n 0, 1) := by decide +kernel
theorem d_H_init_44 : decode c_H_init 44 = .ok (.bipush 6, 2) := by decide +kernel
theorem d_H_init_46 : decode c_H_init 46 = .ok (.newarray .int, 2) := by decide +kernel
theorem d_H_init_48 : decode c_H_init 48 = .ok (.putfield 28, 3) := by decide +kernel
theorem d_H_init_51 : decode c_H_init 51 = .ok (.aload_n 0, 1) := by decide +kernel
theorem d_H_init_52 : decode c_H_init 52 = .ok (.bipush 6, 2) := by decide +kernel
theorem d_H_init_54 : decode c_H_init 54 = .ok (.newarray .int, 2) := by decide +kernel
theorem d_H_init_56 : decode c_H_init 56 = .ok (.putfield 31, 3) := by decide +kernel
theorem d_H_init_59 : decode c_H_init 59 = .ok (.aload_n 0, 1) := by decide +kernel
theorem d_H_init_60 : decode c_H_init 60 = .ok (.bipush 6, 2) := by decide +kernel
theorem d_H_init_62 : decode c_H_init 62 = .ok (.newarray .long, 2) := by decide +kernel
theorem d_H_init_64 : decode c_H_init 64 = .ok (.putfield 34, 3) := by decide +kernel
theorem d_H_init_67 : decode c_H_init 67 = .ok (.aload_n 0, 1) := by decide +kernel
theorem d_H_init_68 : decode c_H_init 68 = .ok (.invokevirtual 38, 3) := by decide +kernel
theorem d_H_init_71 : decode c_H_init 71 = .ok (.return_, 1) := by decide +kernel
theorem d_H_clear_0 : decode c_H_clear 0 = .ok (.aload_n 0, 1) := by decide +kernel
theorem d_H_clear_1 : decode c_H_clear 1 = .ok (.invokevirtual 41, 3) := by decide +kernel
theorem d_H_clear_4 : decode c_H_clear 4 = .ok (.aload_n 0, 1) := by decide +kernel
theorem d_H_clear_5 : decode c_H_clear 5 = .ok (.invokevirtual 44, 3) := by decide +kernel
theorem d_H_clear_8 : decode c_H_clear 8 = .ok (.aload_n 0, 1) := by decide +kernel
theorem d_H_clear_9 : decode c_H_clear 9 = .ok (.iconst 0, 1) := by decide +kernel
theorem d_H_clear_10 : decode c_H_clear 10 = .ok (.putfield 47, 3) := by decide +kernel
theorem d_H_clear_13 : decode c_H_clear 13 = .ok (.aload_n 0, 1) := by decide +kernel
theorem d_H_clear_14 : decode c_H_clear 14 = .ok (.iconst 0, 1) := by decide +kernel
theorem d_H_clear_15 : decode c_H_clear 15 = .ok (.putfield 51, 3) := by decide +kernel
theorem d_H_clear_18 : decode c_H_clear 18 = .ok (.aload_n 0, 1) := by decide +kernel
theorem d_H_clear_19 : decode c_H_clear 19 = .ok (.iconst (-1), 1) := by decide +kernel
theorem d_H_clear_20 : decode c_H_clear 20 = .ok (.putfield 54, 3) := by decide +kernel
theorem d_H_clear_23 : decode c_H_clear 23 = .ok (.aload_n 0, 1) := by decide +kernel
theorem d_H_clear_24 : decode c_H_clear 24 = .ok (.iconst (-1), 1) := by decide +kernel
theorem d_H_clear_25 : decode c_H_clear 25 = .ok (.putfield 57, 3) := by decide +kernel
theorem d_H_clear_28 : decode c_H_clear 28 = .ok (.aload_n 0, 1) := by decide +kernel
theorem d_H_clear_29 : decode c_H_clear 29 = .ok (.iconst 0, 1) := by decide +kernel
theorem d_H_clear_30 : decode c_H_clear 30 = .ok (.putfield 60, 3) := by decide +kernel
theorem d_H_clear_33 : decode c_H_clear 33 = .ok (.aload_n 0, 1) := by decide +kernel
theorem d_H_clear_34 : decode c_H_clear 34 = .ok (.iconst 0, 1) := by decide +kernel
theorem d_H_clear_35 : decode c_H_clear 35 = .ok (.putfield 63, 3) := by decide +kernel
theorem d_H_clear_38 : decode c_H_clear 38 = .ok (.aload_n 0, 1) := by decide +kernel
theorem d_H_clear_39 : decode c_H_clear 39 = .ok (.iconst 1, 1) := by decide +kernel
theorem d_H_clear_40 : decode c_H_clear 40 = .ok (.putfield 66, 3) := by decide +kernel
theorem d_H_clear_43 : decode c_H_clear 43 = .ok (.aload_n 0, 1) := by decide +kernel
theorem d_H_clear_44 : decode c_H_clear 44 = .ok (.iconst 0, 1) := by decide +kernel
theorem d_H_clear_45 : decode c_H_clear 45 = .ok (.putfield 69, 3) := by decide +kernel
theorem d_H_clear_48 : decode c_H_clear 48 = .ok (.return_, 1) := by decide +kernel
theorem d_H_clearThings_0 : decode c_H_clearThings 0 = .ok (.iconst 0, 1) := by decide +kernel
theorem d_H_clearThings_1 : decode c_H_clearThings 1 = .ok (.istore_n 1, 1) := by decide +kernel
theorem d_H_clearThings_2 : decode c_H_clearThings 2 = .ok (.iload_n 1, 1) := by decide +kernel
theorem d_H_clearThings_3 : decode c_H_clearThings 3 = .ok (.iconst 5, 1) := by decide +kernel
theorem d_H_clearThings_4 : decode c_H_clearThings 4 = .ok (.if_icmp .ge 16, 3) := by decide +kernel
theorem d_H_clearThings_7 : decode c_H_clearThings 7 = .ok (.aload_n 0, 1) := by decide +kernel
theorem d_H_clearThings_8 : decode c_H_clearThings 8 = .ok (.getfield 9, 3) := by decide +kernel
theorem d_H_clearThings_11 : decode c_H_clearThings 11 = .ok (.iload_n 1, 1) := by decide +kernel
theorem d_H_clearThings_12 : decode c_H_clearThings 12 = .ok (.iconst 0, 1) := by decide +kernel
theorem d_H_clearThings_13 : decode c_H_clearThings 13 = .ok (.iastore, 1) := by decide +kernel
theorem d_H_clearThings_14 : decode c_H_clearThings 14 = .ok (.iinc 1 1, 3) := by decide +kernel
theorem d_H_clearThings_17 : decode c_H_clearThings 17 = .ok (.goto (-15), 3) := by decide +kernel
theorem d_H_clearThings_20 : decode c_H_clearThings 20 = .ok (.iconst 0, 1) := by decide +kernel
theorem d_H_clearThings_21 : decode c_H_clearThings 21 = .ok (.istore_n 1, 1) := by decide +kernel
theorem d_H_clearThings_22 : decode c_H_clearThings 22 = .ok (.iload_n 1, 1) := by decide +kernel
theorem d_H_clearThings_23 : decode c_H_clearThings 23 = .ok (.bipush 45, 2) := by decide +kernel
theorem d_H_clearThings_25 : decode c_H_clearThings 25 = .ok (.if_icmp .ge 23, 3) := by decide +kernel
theorem d_H_clearThings_28 : decode c_H_clearThings 28 = .ok (.aload_n 0, 1) := by decide +kernel
theorem d_H_clearThings_29 : decode c_H_clearThings 29 = .ok (.getfield 15, 3) := by decide +kernel
theorem d_H_clearThings_32 : decode c_H_clearThings 32 = .ok (.iload_n 1, 1) := by decide +kernel
theorem d_H_clearThings_33 : decode c_H_clearThings 33 = .ok (.iconst 0, 1) := by decide +kernel
theorem d_H_clearThings_34 : decode c_H_clearThings 34 = .ok (.bastore, 1) := by decide +kernel
theorem d_H_clearThings_35 : decode c_H_clearThings 35 = .ok (.aload_n 0, 1) := by decide +kernel
theorem d_H_clearThings_36 : decode c_H_clearThings 36 = .ok (.getfield 19, 3) := by decide +kernel
theorem d_H_clearThings_39 : decode c_H_clearThings 39 = .ok (.iload_n 1, 1) := by decide +kernel
theorem d_H_clearThings_40 : decode c_H_clearThings 40 = .ok (.iconst 0, 1) := by decide +kernel
theorem d_H_clearThings_41 : decode c_H_clearThings 41 = .ok (.iastore, 1) := by decide +kernel
theorem d_H_clearThings_42 : decode c_H_clearThings 42 = .ok (.iinc 1 1, 3) := by decide +kernel
theorem d_H_clearThings_45 : decode c_H_clearThings 45 = .ok (.goto (-23), 3) := by decide +kernel
theorem d_H_clearThings_48 : decode c_H_clearThings 48 = .ok (.return_, 1) := by decide +kernel
theorem d_H_clearParts_0 : decode c_H_clearParts 0 = .ok (.iconst 0, 1) := by decide +kernel
theorem d_H_clearParts_1 : decode c_H_clearParts 1 = .ok (.istore_n 1, 1) := by decide +kernel
theorem d_H_clearParts_2 : decode c_H_clearParts 2 = .ok (.iload_n 1, 1) := by decide +kernel
theorem d_H_clearParts_3 : decode c_H_clearParts 3 = .ok (.bipush 6, 2) := by decide +kernel
theorem d_H_clearParts_5 : decode c_H_clearParts 5 = .ok (.if_icmp .ge 46, 3) := by decide +kernel
theorem d_H_clearParts_8 : decode c_H_clearParts 8 = .ok (.aload_n 0, 1) := by decide +kernel
theorem d_H_clearParts_9 : decode c_H_clearParts 9 = .ok (.getfield 22, 3) := by decide +kernel
theorem d_H_clearParts_12 : decode c_H_clearParts 12 = .ok (.iload_n 1, 1) := by decide +kernel
theorem d_H_clearParts_13 : decode c_H_clearParts 13 = .ok (.iload_n 1, 1) := by decide +kernel
theorem d_H_clearParts_14 : decode c_H_clearParts 14 = .ok (.iconst 5, 1) := by decide +kernel
theorem d_H_clearParts_15 : decode c_H_clearParts 15 = .ok (.irem, 1) := by decide +kernel
theorem d_H_clearParts_16 : decode c_H_clearParts 16 = .ok (.iastore, 1) := by decide +kernel
theorem d_H_clearParts_17 : decode c_H_clearParts 17 = .ok (.aload_n 0, 1) := by decide +kernel
theorem d_H_clearParts_18 : decode c_H_clearParts 18 = .ok (.getfield 25, 3) := by decide +kernel
theorem d_H_clearParts_21 : decode c_H_clearParts 21 = .ok (.iload_n 1, 1) := by decide +kernel
theorem d_H_clearParts_22 : decode c_H_clearParts 22 = .ok (.iconst 0, 1) := by decide +kernel
theorem d_H_clearParts_23 : decode c_H_clearParts 23 = .ok (.iastore, 1) := by decide +kernel
theorem d_H_clearParts_24 : decode c_H_clearParts 24 = .ok (.aload_n 0, 1) := by decide +kernel
theorem d_H_clearParts_25 : decode c_H_clearParts 25 = .ok (.getfield 28, 3) := by decide +kernel
theorem d_H_clearParts_28 : decode c_H_clearParts 28 = .ok (.iload_n 1, 1) := by decide +kernel
theorem d_H_clearParts_29 : decode c_H_clearParts 29 = .ok (.iconst 0, 1) := by decide +kernel
theorem d_H_clearParts_30 : decode c_H_clearParts 30 = .ok (.iastore, 1) := by decide +kernel
theorem d_H_clearParts_31 : decode c_H_clearParts 31 = .ok (.aload_n 0, 1) := by decide +kernel
theorem d_H_clearParts_32 : decode c_H_clearParts 32 = .ok (.getfield 31, 3) := by decide +kernel
theorem d_H_clearParts_35 : decode c_H_clearParts 35 = .ok (.iload_n 1, 1) := by decide +kernel
theorem d_H_clearParts_36 : decode c_H_clearParts 36 = .ok (.iconst 0, 1) := by decide +kernel
theorem d_H_clearParts_37 : decode c_H_clearParts 37 = .ok (.iastore, 1) := by decide +kernel
theorem d_H_clearParts_38 : decode c_H_clearParts 38 = .ok (.aload_n 0, 1) := by decide +kernel
theorem d_H_clearParts_39 : decode c_H_clearParts 39 = .ok (.getfield 34, 3) := by decide +kernel
theorem d_H_clearParts_42 : decode c_H_clearParts 42 = .ok (.iload_n 1, 1) := by decide +kernel
theorem d_H_clearParts_43 : decode c_H_clearParts 43 = .ok (.lconst 0, 1) := by decide +kernel
theorem d_H_clearParts_44 : decode c_H_clearParts 44 = .ok (.lastore, 1) := by decide +kernel
theorem d_H_clearParts_45 : decode c_H_clearParts 45 = .ok (.iinc 1 1, 3) := by decide +kernel
theorem d_H_clearParts_48 : decode c_H_clearParts 48 = .ok (.goto (-46), 3) := by decide +kernel
theorem d_H_clearParts_51 : decode c_H_clearParts 51 = .ok (.return_, 1) := by decide +kernel
theorem d_H_perform_0 : decode c_H_perform 0 = .ok (.iload_n 1, 1) := by decide +kernel
theorem d_H_perform_1 : decode c_H_perform 1 = .ok (.tableswitch 100 0 6 #[43, 50, 58, 66, 76, 84, 93], 43) := by decide +kernel
theorem d_H_perform_44 : decode c_H_perform 44 = .ok (.aload_n 0, 1) := by decide +kernel
theorem d_H_perform_45 : decode c_H_perform 45 = .ok (.iload_n 2, 1) := by decide +kernel
theorem d_H_perform_46 : decode c_H_perform 46 = .ok (.invokevirtual 72, 3) := by decide +kernel
theorem d_H_perform_49 : decode c_H_perform 49 = .ok (.i2l, 1) := by decide +kernel
theorem d_H_perform_50 : decode c_H_perform 50 = .ok (.lreturn, 1) := by decide +kernel
theorem d_H_perform_51 : decode c_H_perform 51 = .ok (.aload_n 0, 1) := by decide +kernel
theorem d_H_perform_52 : decode c_H_perform 52 = .ok (.iload_n 2, 1) := by decide +kernel
theorem d_H_perform_53 : decode c_H_perform 53 = .ok (.iload_n 3, 1) := by decide +kernel
theorem d_H_perform_54 : decode c_H_perform 54 = .ok (.invokevirtual 76, 3) := by decide +kernel
theorem d_H_perform_57 : decode c_H_perform 57 = .ok (.i2l, 1) := by decide +kernel
theorem d_H_perform_58 : decode c_H_perform 58 = .ok (.lreturn, 1) := by decide +kernel
theorem d_H_perform_59 : decode c_H_perform 59 = .ok (.aload_n 0, 1) := by decide +kernel
theorem d_H_perform_60 : decode c_H_perform 60 = .ok (.iload_n 2, 1) := by decide +kernel
theorem d_H_perform_61 : decode c_H_perform 61 = .ok (.iload_n 3, 1) := by decide +kernel
theorem d_H_perform_62 : decode c_H_perform 62 = .ok (.invokevirtual 80, 3) := by decide +kernel
theorem d_H_perform_65 : decode c_H_perform 65 = .ok (.i2l, 1) := by decide +kernel
theorem d_H_perform_66 : decode c_H_perform 66 = .ok (.lreturn, 1) := by decide +kernel
theorem d_H_perform_67 : decode c_H_perform 67 = .ok (.aload_n 0, 1) := by decide +kernel
theorem d_H_perform_68 : decode c_H_perform 68 = .ok (.iload_n 2, 1) := by decide +kernel
theorem d_H_perform_69 : decode c_H_perform 69 = .ok (.iload_n 3, 1) := by decide +kernel
theorem d_H_perform_70 : decode c_H_perform 70 = .ok (.iload 4, 2) := by decide +kernel
theorem d_H_perform_72 : decode c_H_perform 72 = .ok (.invokevirtual 83, 3) := by decide +kernel
theorem d_H_perform_75 : decode c_H_perform 75 = .ok (.i2l, 1) := by decide +kernel
theorem d_H_perform_76 : decode c_H_perform 76 = .ok (.lreturn, 1) := by decide +kernel
theorem d_H_perform_77 : decode c_H_perform 77 = .ok (.aload_n 0, 1) := by decide +kernel
theorem d_H_perform_78 : decode c_H_perform 78 = .ok (.iload_n 2, 1) := by decide +kernel
theorem d_H_perform_79 : decode c_H_perform 79 = .ok (.iload_n 3, 1) := by decide +kernel
theorem d_H_perform_80 : decode c_H_perform 80 = .ok (.invokevirtual 87, 3) := by decide +kernel
theorem d_H_perform_83 : decode c_H_perform 83 = .ok (.i2l, 1) := by decide +kernel
theorem d_H_perform_84 : decode c_H_perform 84 = .ok (.lreturn, 1) := by decide +kernel
theorem d_H_perform_85 : decode c_H_perform 85 = .ok (.aload_n 0, 1) := by decide +kernel
theorem d_H_perform_86 : decode c_H_perform 86 = .ok (.iload_n 2, 1) := by decide +kernel
theorem d_H_perform_87 : decode c_H_perform 87 = .ok (.iload_n 3, 1) := by decide +kernel
theorem d_H_perform_88 : decode c_H_perform 88 = .ok (.iload 4, 2) := by decide +kernel
theorem d_H_perform_90 : decode c_H_perform 90 = .ok (.invokevirtual 90, 3) := by decide +kernel
theorem d_H_perform_93 : decode c_H_perform 93 = .ok (.lreturn, 1) := by decide +kernel
theorem d_H_perform_94 : decode c_H_perform 94 = .ok (.aload_n 0, 1) := by decide +kernel
theorem d_H_perform_95 : decode c_H_perform 95 = .ok (.iload_n 2, 1) := by decide +kernel
theorem d_H_perform_96 : decode c_H_perform 96 = .ok (.invokevirtual 94, 3) := by decide +kernel
theorem d_H_perform_99 : decode c_H_perform 99 = .ok (.i2l, 1) := by decide +kernel
theorem d_H_perform_100 : decode c_H_perform 100 = .ok (.lreturn, 1) := by decide +kernel
theorem d_H_perform_101 : decode c_H_perform 101 = .ok (.lconst 0, 1) := by decide +kernel
theorem d_H_perform_102 : decode c_H_perform 102 = .ok (.lreturn, 1) := by decide +kernel
theorem d_H_addThing_0 : decode c_H_addThing 0 = .ok (.aload_n 0, 1) := by decide +kernel
theorem d_H_addThing_1 : decode c_H_addThing 1 = .ok (.getfield 9, 3) := by decide +kernel
theorem d_H_addThing_4 : decode c_H_addThing 4 = .ok (.iload_n 1, 1) := by decide +kernel
theorem d_H_addThing_5 : decode c_H_addThing 5 = .ok (.dup2, 1) := by decide +kernel
theorem d_H_addThing_6 : decode c_H_addThing 6 = .ok (.iaload, 1) := by decide +kernel
theorem d_H_addThing_7 : decode c_H_addThing 7 = .ok (.iconst 1, 1) := by decide +kernel
theorem d_H_addThing_8 : decode c_H_addThing 8 = .ok (.iadd, 1) := by decide +kernel
theorem d_H_addThing_9 : decode c_H_addThing 9 = .ok (.iastore, 1) := by decide +kernel
theorem d_H_addThing_10 : decode c_H_addThing 10 = .ok (.aload_n 0, 1) := by decide +kernel
theorem d_H_addThing_11 : decode c_H_addThing 11 = .ok (.getfield 15, 3) := by decide +kernel
theorem d_H_addThing_14 : decode c_H_addThing 14 = .ok (.iload_n 1, 1) := by decide +kernel
theorem d_H_addThing_15 : decode c_H_addThing 15 = .ok (.aload_n 0, 1) := by decide +kernel
theorem d_H_addThing_16 : decode c_H_addThing 16 = .ok (.getfield 9, 3) := by decide +kernel
theorem d_H_addThing_19 : decode c_H_addThing 19 = .ok (.iload_n 1, 1) := by decide +kernel
theorem d_H_addThing_20 : decode c_H_addThing 20 = .ok (.iaload, 1) := by decide +kernel
theorem d_H_addThing_21 : decode c_H_addThing 21 = .ok (.invokestatic 97, 3) := by decide +kernel
theorem d_H_addThing_24 : decode c_H_addThing 24 = .ok (.iconst 1, 1) := by decide +kernel
theorem d_H_addThing_25 : decode c_H_addThing 25 = .ok (.bastore, 1) := by decide +kernel
theorem d_H_addThing_26 : decode c_H_addThing 26 = .ok (.aload_n 0, 1) := by decide +kernel
theorem d_H_addThing_27 : decode c_H_addThing 27 = .ok (.getfield 9, 3) := by decide +kernel
theorem d_H_addThing_30 : decode c_H_addThing 30 = .ok (.iload_n 1, 1) := by decide +kernel
theorem d_H_addThing_31 : decode c_H_addThing 31 = .ok (.iaload, 1) := by decide +kernel
theorem d_H_addThing_32 : decode c_H_addThing 32 = .ok (.ireturn, 1) := by decide +kernel
theorem d_H_removeThing_0 : decode c_H_removeThing 0 = .ok (.aload_n 0, 1) := by decide +kernel
theorem d_H_removeThing_1 : decode c_H_removeThing 1 = .ok (.getfield 15, 3) := by decide +kernel
theorem d_H_removeThing_4 : decode c_H_removeThing 4 = .ok (.iload_n 1, 1) := by decide +kernel
theorem d_H_removeThing_5 : decode c_H_removeThing 5 = .ok (.iload_n 2, 1) := by decide +kernel
theorem d_H_removeThing_6 : decode c_H_removeThing 6 = .ok (.invokestatic 97, 3) := by decide +kernel
theorem d_H_removeThing_9 : decode c_H_removeThing 9 = .ok (.iconst 0, 1) := by decide +kernel
theorem d_H_removeThing_10 : decode c_H_removeThing 10 = .ok (.bastore, 1) := by decide +kernel
theorem d_H_removeThing_11 : decode c_H_removeThing 11 = .ok (.aload_n 0, 1) := by decide +kernel
theorem d_H_removeThing_12 : decode c_H_removeThing 12 = .ok (.getfield 19, 3) := by decide +kernel
theorem d_H_removeThing_15 : decode c_H_removeThing 15 = .ok (.iload_n 1, 1) := by decide +kernel
theorem d_H_removeThing_16 : decode c_H_removeThing 16 = .ok (.iload_n 2, 1) := by decide +kernel
theorem d_H_removeThing_17 : decode c_H_removeThing 17 = .ok (.invokestatic 97, 3) := by decide +kernel
theorem d_H_removeThing_20 : decode c_H_removeThing 20 = .ok (.iaload, 1) := by decide +kernel
theorem d_H_removeThing_21 : decode c_H_removeThing 21 = .ok (.ireturn, 1) := by decide +kernel
theorem d_H_setKind_0 : decode c_H_setKind 0 = .ok (.aload_n 0, 1) := by decide +kernel
theorem d_H_setKind_1 : decode c_H_setKind 1 = .ok (.getfield 22, 3) := by decide +kernel
theorem d_H_setKind_4 : decode c_H_setKind 4 = .ok (.iload_n 1, 1) := by decide +kernel
theorem d_H_setKind_5 : decode c_H_setKind 5 = .ok (.iaload, 1) := by decide +kernel
theorem d_H_setKind_6 : decode c_H_setKind 6 = .ok (.istore_n 3, 1) := by decide +kernel
theorem d_H_setKind_7 : decode c_H_setKind 7 = .ok (.aload_n 0, 1) := by decide +kernel
theorem d_H_setKind_8 : decode c_H_setKind 8 = .ok (.getfield 22, 3) := by decide +kernel
theorem d_H_setKind_11 : decode c_H_setKind 11 = .ok (.iload_n 1, 1) := by decide +kernel
theorem d_H_setKind_12 : decode c_H_setKind 12 = .ok (.iload_n 2, 1) := by decide +kernel
theorem d_H_setKind_13 : decode c_H_setKind 13 = .ok (.iastore, 1) := by decide +kernel
theorem d_H_setKind_14 : decode c_H_setKind 14 = .ok (.iload_n 3, 1) := by decide +kernel
theorem d_H_setKind_15 : decode c_H_setKind 15 = .ok (.ireturn, 1) := by decide +kernel
theorem d_H_setAnswer_0 : decode c_H_setAnswer 0 = .ok (.aload_n 0, 1) := by decide +kernel
theorem d_H_setAnswer_1 : decode c_H_setAnswer 1 = .ok (.getfield 25, 3) := by decide +kernel
theorem d_H_setAnswer_4 : decode c_H_setAnswer 4 = .ok (.iload_n 1, 1) := by decide +kernel
theorem d_H_setAnswer_5 : decode c_H_setAnswer 5 = .ok (.iload_n 2, 1) := by decide +kernel
theorem d_H_setAnswer_6 : decode c_H_setAnswer 6 = .ok (.iastore, 1) := by decide +kernel
theorem d_H_setAnswer_7 : decode c_H_setAnswer 7 = .ok (.aload_n 0, 1) := by decide +kernel
theorem d_H_setAnswer_8 : decode c_H_setAnswer 8 = .ok (.getfield 28, 3) := by decide +kernel
theorem d_H_setAnswer_11 : decode c_H_setAnswer 11 = .ok (.iload_n 1, 1) := by decide +kernel
theorem d_H_setAnswer_12 : decode c_H_setAnswer 12 = .ok (.iload_n 3, 1) := by decide +kernel
theorem d_H_setAnswer_13 : decode c_H_setAnswer 13 = .ok (.iastore, 1) := by decide +kernel
theorem d_H_setAnswer_14 : decode c_H_setAnswer 14 = .ok (.iconst 0, 1) := by decide +kernel
theorem d_H_setAnswer_15 : decode c_H_setAnswer 15 = .ok (.ireturn, 1) := by decide +kernel
theorem d_H_setWay_0 : decode c_H_setWay 0 = .ok (.aload_n 0, 1) := by decide +kernel
theorem d_H_setWay_1 : decode c_H_setWay 1 = .ok (.getfield 31, 3) := by decide +kernel
theorem d_H_setWay_4 : decode c_H_setWay 4 = .ok (.iload_n 1, 1) := by decide +kernel
theorem d_H_setWay_5 : decode c_H_setWay 5 = .ok (.iaload, 1) := by decide +kernel
theorem d_H_setWay_6 : decode c_H_setWay 6 = .ok (.istore_n 3, 1) := by decide +kernel
theorem d_H_setWay_7 : decode c_H_setWay 7 = .ok (.aload_n 0, 1) := by decide +kernel
theorem d_H_setWay_8 : decode c_H_setWay 8 = .ok (.getfield 31, 3) := by decide +kernel
theorem d_H_setWay_11 : decode c_H_setWay 11 = .ok (.iload_n 1, 1) := by decide +kernel
theorem d_H_setWay_12 : decode c_H_setWay 12 = .ok (.iload_n 2, 1) := by decide +kernel
theorem d_H_setWay_13 : decode c_H_setWay 13 = .ok (.iastore, 1) := by decide +kernel
theorem d_H_setWay_14 : decode c_H_setWay 14 = .ok (.iload_n 3, 1) := by decide +kernel
theorem d_H_setWay_15 : decode c_H_setWay 15 = .ok (.ireturn, 1) := by decide +kernel
theorem d_H_answerCall_0 : decode c_H_answerCall 0 = .ok (.aload_n 0, 1) := by decide +kernel
theorem d_H_answerCall_1 : decode c_H_answerCall 1 = .ok (.iload_n 1, 1) := by decide +kernel
theorem d_H_answerCall_2 : decode c_H_answerCall 2 = .ok (.invokevirtual 100, 3) := by decide +kernel
theorem d_H_answerCall_5 : decode c_H_answerCall 5 = .ok (.ifCond .eq 11, 3) := by decide +kernel
theorem d_H_answerCall_8 : decode c_H_answerCall 8 = .ok (.aload_n 0, 1) := by decide +kernel
theorem d_H_answerCall_9 : decode c_H_answerCall 9 = .ok (.iload_n 1, 1) := by decide +kernel
theorem d_H_answerCall_10 : decode c_H_answerCall 10 = .ok (.iload_n 2, 1) := by decide +kernel
theorem d_H_answerCall_11 : decode c_H_answerCall 11 = .ok (.invokevirtual 104, 3) := by decide +kernel
theorem d_H_answerCall_14 : decode c_H_answerCall 14 = .ok (.lconst 0, 1) := by decide +kernel
theorem d_H_answerCall_15 : decode c_H_answerCall 15 = .ok (.lreturn, 1) := by decide +kernel
theorem d_H_answerCall_16 : decode c_H_answerCall 16 = .ok (.aload_n 0, 1) := by decide +kernel
theorem d_H_answerCall_17 : decode c_H_answerCall 17 = .ok (.iload_n 1, 1) := by decide +kernel
theorem d_H_answerCall_18 : decode c_H_answerCall 18 = .ok (.iload_n 2, 1) := by decide +kernel
theorem d_H_answerCall_19 : decode c_H_answerCall 19 = .ok (.iload_n 3, 1) := by decide +kernel
theorem d_H_answerCall_20 : decode c_H_answerCall 20 = .ok (.invokevirtual 108, 3) := by decide +kernel
theorem d_H_answerCall_23 : decode c_H_answerCall 23 = .ok (.lstore 4, 2) := by decide +kernel
theorem d_H_answerCall_25 : decode c_H_answerCall 25 = .ok (.aload_n 0, 1) := by decide +kernel
theorem d_H_answerCall_26 : decode c_H_answerCall 26 = .ok (.getfield 19, 3) := by decide +kernel
theorem d_H_answerCall_29 : decode c_H_answerCall 29 = .ok (.aload_n 0, 1) := by decide +kernel
theorem d_H_answerCall_30 : decode c_H_answerCall 30 = .ok (.getfield 22, 3) := by decide +kernel
theorem d_H_answerCall_33 : decode c_H_answerCall 33 = .ok (.iload_n 1, 1) := by decide +kernel
theorem d_H_answerCall_34 : decode c_H_answerCall 34 = .ok (.iaload, 1) := by decide +kernel
theorem d_H_answerCall_35 : decode c_H_answerCall 35 = .ok (.iload_n 2, 1) := by decide +kernel
theorem d_H_answerCall_36 : decode c_H_answerCall 36 = .ok (.invokestatic 97, 3) := by decide +kernel
theorem d_H_answerCall_39 : decode c_H_answerCall 39 = .ok (.dup2, 1) := by decide +kernel
theorem d_H_answerCall_40 : decode c_H_answerCall 40 = .ok (.iaload, 1) := by decide +kernel
theorem d_H_answerCall_41 : decode c_H_answerCall 41 = .ok (.iconst 1, 1) := by decide +kernel
theorem d_H_answerCall_42 : decode c_H_answerCall 42 = .ok (.iadd, 1) := by decide +kernel
theorem d_H_answerCall_43 : decode c_H_answerCall 43 = .ok (.iastore, 1) := by decide +kernel
theorem d_H_answerCall_44 : decode c_H_answerCall 44 = .ok (.aload_n 0, 1) := by decide +kernel
theorem d_H_answerCall_45 : decode c_H_answerCall 45 = .ok (.getfield 34, 3) := by decide +kernel
theorem d_H_answerCall_48 : decode c_H_answerCall 48 = .ok (.iload_n 1, 1) := by decide +kernel
theorem d_H_answerCall_49 : decode c_H_answerCall 49 = .ok (.dup2, 1) := by decide +kernel
theorem d_H_answerCall_50 : decode c_H_answerCall 50 = .ok (.laload, 1) := by decide +kernel
theorem d_H_answerCall_51 : decode c_H_answerCall 51 = .ok (.iload_n 3, 1) := by decide +kernel
theorem d_H_answerCall_52 : decode c_H_answerCall 52 = .ok (.i2l, 1) := by decide +kernel
theorem d_H_answerCall_53 : decode c_H_answerCall 53 = .ok (.ladd, 1) := by decide +kernel
theorem d_H_answerCall_54 : decode c_H_answerCall 54 = .ok (.lastore, 1) := by decide +kernel
theorem d_H_answerCall_55 : decode c_H_answerCall 55 = .ok (.aload_n 0, 1) := by decide +kernel
theorem d_H_answerCall_56 : decode c_H_answerCall 56 = .ok (.dup, 1) := by decide +kernel
theorem d_H_answerCall_57 : decode c_H_answerCall 57 = .ok (.getfield 60, 3) := by decide +kernel
theorem d_H_answerCall_60 : decode c_H_answerCall 60 = .ok (.iconst 1, 1) := by decide +kernel
theorem d_H_answerCall_61 : decode c_H_answerCall 61 = .ok (.iadd, 1) := by decide +kernel
theorem d_H_answerCall_62 : decode c_H_answerCall 62 = .ok (.putfield 60, 3) := by decide +kernel
theorem d_H_answerCall_65 : decode c_H_answerCall 65 = .ok (.lload 4, 2) := by decide +kernel
theorem d_H_answerCall_67 : decode c_H_answerCall 67 = .ok (.lreturn, 1) := by decide +kernel
theorem d_H_tellFailure_0 : decode c_H_tellFailure 0 = .ok (.aload_n 0, 1) := by decide +kernel
theorem d_H_tellFailure_1 : decode c_H_tellFailure 1 = .ok (.dup, 1) := by decide +kernel
theorem d_H_tellFailure_2 : decode c_H_tellFailure 2 = .ok (.getfield 47, 3) := by decide +kernel
theorem d_H_tellFailure_5 : decode c_H_tellFailure 5 = .ok (.iconst 1, 1) := by decide +kernel
theorem d_H_tellFailure_6 : decode c_H_tellFailure 6 = .ok (.iadd, 1) := by decide +kernel
theorem d_H_tellFailure_7 : decode c_H_tellFailure 7 = .ok (.putfield 47, 3) := by decide +kernel
theorem d_H_tellFailure_10 : decode c_H_tellFailure 10 = .ok (.aload_n 0, 1) := by decide +kernel
theorem d_H_tellFailure_11 : decode c_H_tellFailure 11 = .ok (.aload_n 0, 1) := by decide +kernel
theorem d_H_tellFailure_12 : decode c_H_tellFailure 12 = .ok (.getfield 31, 3) := by decide +kernel
theorem d_H_tellFailure_15 : decode c_H_tellFailure 15 = .ok (.iload_n 1, 1) := by decide +kernel
theorem d_H_tellFailure_16 : decode c_H_tellFailure 16 = .ok (.iaload, 1) := by decide +kernel
theorem d_H_tellFailure_17 : decode c_H_tellFailure 17 = .ok (.putfield 51, 3) := by decide +kernel
theorem d_H_tellFailure_20 : decode c_H_tellFailure 20 = .ok (.aload_n 0, 1) := by decide +kernel
theorem d_H_tellFailure_21 : decode c_H_tellFailure 21 = .ok (.iload_n 1, 1) := by decide +kernel
theorem d_H_tellFailure_22 : decode c_H_tellFailure 22 = .ok (.putfield 54, 3) := by decide +kernel
theorem d_H_tellFailure_25 : decode c_H_tellFailure 25 = .ok (.aload_n 0, 1) := by decide +kernel
theorem d_H_tellFailure_26 : decode c_H_tellFailure 26 = .ok (.iload_n 2, 1) := by decide +kernel
theorem d_H_tellFailure_27 : decode c_H_tellFailure 27 = .ok (.putfield 57, 3) := by decide +kernel
theorem d_H_tellFailure_30 : decode c_H_tellFailure 30 = .ok (.return_, 1) := by decide +kernel
theorem d_H_addByte_0 : decode c_H_addByte 0 = .ok (.aload_n 0, 1) := by decide +kernel
theorem d_H_addByte_1 : decode c_H_addByte 1 = .ok (.aload_n 0, 1) := by decide +kernel
theorem d_H_addByte_2 : decode c_H_addByte 2 = .ok (.getfield 66, 3) := by decide +kernel
theorem d_H_addByte_5 : decode c_H_addByte 5 = .ok (.iload_n 1, 1) := by decide +kernel
theorem d_H_addByte_6 : decode c_H_addByte 6 = .ok (.iadd, 1) := by decide +kernel
theorem d_H_addByte_7 : decode c_H_addByte 7 = .ok (.ldc 111, 2) := by decide +kernel
theorem d_H_addByte_9 : decode c_H_addByte 9 = .ok (.irem, 1) := by decide +kernel
theorem d_H_addByte_10 : decode c_H_addByte 10 = .ok (.putfield 66, 3) := by decide +kernel
theorem d_H_addByte_13 : decode c_H_addByte 13 = .ok (.aload_n 0, 1) := by decide +kernel
theorem d_H_addByte_14 : decode c_H_addByte 14 = .ok (.aload_n 0, 1) := by decide +kernel
theorem d_H_addByte_15 : decode c_H_addByte 15 = .ok (.getfield 69, 3) := by decide +kernel
theorem d_H_addByte_18 : decode c_H_addByte 18 = .ok (.aload_n 0, 1) := by decide +kernel
theorem d_H_addByte_19 : decode c_H_addByte 19 = .ok (.getfield 66, 3) := by decide +kernel
theorem d_H_addByte_22 : decode c_H_addByte 22 = .ok (.iadd, 1) := by decide +kernel
theorem d_H_addByte_23 : decode c_H_addByte 23 = .ok (.ldc 111, 2) := by decide +kernel
theorem d_H_addByte_25 : decode c_H_addByte 25 = .ok (.irem, 1) := by decide +kernel
theorem d_H_addByte_26 : decode c_H_addByte 26 = .ok (.putfield 69, 3) := by decide +kernel
theorem d_H_addByte_29 : decode c_H_addByte 29 = .ok (.aload_n 0, 1) := by decide +kernel
theorem d_H_addByte_30 : decode c_H_addByte 30 = .ok (.dup, 1) := by decide +kernel
theorem d_H_addByte_31 : decode c_H_addByte 31 = .ok (.getfield 63, 3) := by decide +kernel
theorem d_H_addByte_34 : decode c_H_addByte 34 = .ok (.iconst 1, 1) := by decide +kernel
theorem d_H_addByte_35 : decode c_H_addByte 35 = .ok (.iadd, 1) := by decide +kernel
theorem d_H_addByte_36 : decode c_H_addByte 36 = .ok (.putfield 63, 3) := by decide +kernel
theorem d_H_addByte_39 : decode c_H_addByte 39 = .ok (.aload_n 0, 1) := by decide +kernel
theorem d_H_addByte_40 : decode c_H_addByte 40 = .ok (.getfield 63, 3) := by decide +kernel
theorem d_H_addByte_43 : decode c_H_addByte 43 = .ok (.ireturn, 1) := by decide +kernel
theorem d_H_answerOf_0 : decode c_H_answerOf 0 = .ok (.aload_n 0, 1) := by decide +kernel
theorem d_H_answerOf_1 : decode c_H_answerOf 1 = .ok (.getfield 25, 3) := by decide +kernel
theorem d_H_answerOf_4 : decode c_H_answerOf 4 = .ok (.iload_n 1, 1) := by decide +kernel
theorem d_H_answerOf_5 : decode c_H_answerOf 5 = .ok (.iaload, 1) := by decide +kernel
theorem d_H_answerOf_6 : decode c_H_answerOf 6 = .ok (.i2l, 1) := by decide +kernel
theorem d_H_answerOf_7 : decode c_H_answerOf 7 = .ok (.aload_n 0, 1) := by decide +kernel
theorem d_H_answerOf_8 : decode c_H_answerOf 8 = .ok (.getfield 28, 3) := by decide +kernel
theorem d_H_answerOf_11 : decode c_H_answerOf 11 = .ok (.iload_n 1, 1) := by decide +kernel
theorem d_H_answerOf_12 : decode c_H_answerOf 12 = .ok (.iaload, 1) := by decide +kernel
theorem d_H_answerOf_13 : decode c_H_answerOf 13 = .ok (.i2l, 1) := by decide +kernel
theorem d_H_answerOf_14 : decode c_H_answerOf 14 = .ok (.iload_n 3, 1) := by decide +kernel
theorem d_H_answerOf_15 : decode c_H_answerOf 15 = .ok (.i2l, 1) := by decide +kernel
theorem d_H_answerOf_16 : decode c_H_answerOf 16 = .ok (.lmul, 1) := by decide +kernel
theorem d_H_answerOf_17 : decode c_H_answerOf 17 = .ok (.ladd, 1) := by decide +kernel
theorem d_H_answerOf_18 : decode c_H_answerOf 18 = .ok (.iload_n 2, 1) := by decide +kernel
theorem d_H_answerOf_19 : decode c_H_answerOf 19 = .ok (.i2l, 1) := by decide +kernel
theorem d_H_answerOf_20 : decode c_H_answerOf 20 = .ok (.ladd, 1) := by decide +kernel
theorem d_H_answerOf_21 : decode c_H_answerOf 21 = .ok (.aload_n 0, 1) := by decide +kernel
theorem d_H_answerOf_22 : decode c_H_answerOf 22 = .ok (.getfield 34, 3) := by decide +kernel
theorem d_H_answerOf_25 : decode c_H_answerOf 25 = .ok (.iload_n 1, 1) := by decide +kernel
theorem d_H_answerOf_26 : decode c_H_answerOf 26 = .ok (.laload, 1) := by decide +kernel
theorem d_H_answerOf_27 : decode c_H_answerOf 27 = .ok (.ladd, 1) := by decide +kernel
theorem d_H_answerOf_28 : decode c_H_answerOf 28 = .ok (.lreturn, 1) := by decide +kernel
theorem d_H_isFailing_0 : decode c_H_isFailing 0 = .ok (.aload_n 0, 1) := by decide +kernel
theorem d_H_isFailing_1 : decode c_H_isFailing 1 = .ok (.getfield 31, 3) := by decide +kernel
theorem d_H_isFailing_4 : decode c_H_isFailing 4 = .ok (.iload_n 1, 1) := by decide +kernel
theorem d_H_isFailing_5 : decode c_H_isFailing 5 = .ok (.iaload, 1) := by decide +kernel
theorem d_H_isFailing_6 : decode c_H_isFailing 6 = .ok (.ifCond .eq 7, 3) := by decide +kernel
theorem d_H_isFailing_9 : decode c_H_isFailing 9 = .ok (.iconst 1, 1) := by decide +kernel
theorem d_H_isFailing_10 : decode c_H_isFailing 10 = .ok (.goto 4, 3) := by decide +kernel
theorem d_H_isFailing_13 : decode c_H_isFailing 13 = .ok (.iconst 0, 1) := by decide +kernel
theorem d_H_isFailing_14 : decode c_H_isFailing 14 = .ok (.ireturn, 1) := by decide +kernel
theorem d_H_kindOf_0 : decode c_H_kindOf 0 = .ok (.aload_n 0, 1) := by decide +kernel
theorem d_H_kindOf_1 : decode c_H_kindOf 1 = .ok (.getfield 22, 3) := by decide +kernel
theorem d_H_kindOf_4 : decode c_H_kindOf 4 = .ok (.iload_n 1, 1) := by decide +kernel
theorem d_H_kindOf_5 : decode c_H_kindOf 5 = .ok (.iaload, 1) := by decide +kernel
theorem d_H_kindOf_6 : decode c_H_kindOf 6 = .ok (.ireturn, 1) := by decide +kernel
theorem d_H_worthOf_0 : decode c_H_worthOf 0 = .ok (.aload_n 0, 1) := by decide +kernel
theorem d_H_worthOf_1 : decode c_H_worthOf 1 = .ok (.getfield 34, 3) := by decide +kernel
theorem d_H_worthOf_4 : decode c_H_worthOf 4 = .ok (.iload_n 1, 1) := by decide +kernel
theorem d_H_worthOf_5 : decode c_H_worthOf 5 = .ok (.laload, 1) := by decide +kernel
theorem d_H_worthOf_6 : decode c_H_worthOf 6 = .ok (.lreturn, 1) := by decide +kernel
theorem d_H_hasThing_0 : decode c_H_hasThing 0 = .ok (.iload_n 2, 1) := by decide +kernel
theorem d_H_hasThing_1 : decode c_H_hasThing 1 = .ok (.iconst 1, 1) := by decide +kernel
theorem d_H_hasThing_2 : decode c_H_hasThing 2 = .ok (.if_icmp .lt 26, 3) := by decide +kernel
theorem d_H_hasThing_5 : decode c_H_hasThing 5 = .ok (.iload_n 2, 1) := by decide +kernel
theorem d_H_hasThing_6 : decode c_H_hasThing 6 = .ok (.bipush 9, 2) := by decide +kernel
theorem d_H_hasThing_8 : decode c_H_hasThing 8 = .ok (.if_icmp .gt 20, 3) := by decide +kernel
theorem d_H_hasThing_11 : decode c_H_hasThing 11 = .ok (.aload_n 0, 1) := by decide +kernel
theorem d_H_hasThing_12 : decode c_H_hasThing 12 = .ok (.getfield 15, 3) := by decide +kernel
theorem d_H_hasThing_15 : decode c_H_hasThing 15 = .ok (.iload_n 1, 1) := by decide +kernel
theorem d_H_hasThing_16 : decode c_H_hasThing 16 = .ok (.iload_n 2, 1) := by decide +kernel
theorem d_H_hasThing_17 : decode c_H_hasThing 17 = .ok (.invokestatic 97, 3) := by decide +kernel
theorem d_H_hasThing_20 : decode c_H_hasThing 20 = .ok (.baload, 1) := by decide +kernel
theorem d_H_hasThing_21 : decode c_H_hasThing 21 = .ok (.ifCond .eq 7, 3) := by decide +kernel
theorem d_H_hasThing_24 : decode c_H_hasThing 24 = .ok (.iconst 1, 1) := by decide +kernel
theorem d_H_hasThing_25 : decode c_H_hasThing 25 = .ok (.goto 4, 3) := by decide +kernel
theorem d_H_hasThing_28 : decode c_H_hasThing 28 = .ok (.iconst 0, 1) := by decide +kernel
theorem d_H_hasThing_29 : decode c_H_hasThing 29 = .ok (.ireturn, 1) := by decide +kernel
theorem d_H_usesOf_0 : decode c_H_usesOf 0 = .ok (.aload_n 0, 1) := by decide +kernel
theorem d_H_usesOf_1 : decode c_H_usesOf 1 = .ok (.getfield 19, 3) := by decide +kernel
theorem d_H_usesOf_4 : decode c_H_usesOf 4 = .ok (.iload_n 1, 1) := by decide +kernel
theorem d_H_usesOf_5 : decode c_H_usesOf 5 = .ok (.iload_n 2, 1) := by decide +kernel
theorem d_H_usesOf_6 : decode c_H_usesOf 6 = .ok (.invokestatic 97, 3) := by decide +kernel
theorem d_H_usesOf_9 : decode c_H_usesOf 9 = .ok (.iaload, 1) := by decide +kernel
theorem d_H_usesOf_10 : decode c_H_usesOf 10 = .ok (.ireturn, 1) := by decide +kernel
theorem d_H_madeOf_0 : decode c_H_madeOf 0 = .ok (.aload_n 0, 1) := by decide +kernel
theorem d_H_madeOf_1 : decode c_H_madeOf 1 = .ok (.getfield 9, 3) := by decide +kernel
theorem d_H_madeOf_4 : decode c_H_madeOf 4 = .ok (.iload_n 1, 1) := by decide +kernel
theorem d_H_madeOf_5 : decode c_H_madeOf 5 = .ok (.iaload, 1) := by decide +kernel
theorem d_H_madeOf_6 : decode c_H_madeOf 6 = .ok (.ireturn, 1) := by decide +kernel
theorem d_H_thereOf_0 : decode c_H_thereOf 0 = .ok (.iconst 0, 1) := by decide +kernel
theorem d_H_thereOf_1 : decode c_H_thereOf 1 = .ok (.istore_n 2, 1) := by decide +kernel
theorem d_H_thereOf_2 : decode c_H_thereOf 2 = .ok (.iconst 1, 1) := by decide +kernel
theorem d_H_thereOf_3 : decode c_H_thereOf 3 = .ok (.istore_n 3, 1) := by decide +kernel
theorem d_H_thereOf_4 : decode c_H_thereOf 4 = .ok (.iload_n 3, 1) := by decide +kernel
theorem d_H_thereOf_5 : decode c_H_thereOf 5 = .ok (.aload_n 0, 1) := by decide +kernel
theorem d_H_thereOf_6 : decode c_H_thereOf 6 = .ok (.getfield 9, 3) := by decide +kernel
theorem d_H_thereOf_9 : decode c_H_thereOf 9 = .ok (.iload_n 1, 1) := by decide +kernel
theorem d_H_thereOf_10 : decode c_H_thereOf 10 = .ok (.iaload, 1) := by decide +kernel
theorem d_H_thereOf_11 : decode c_H_thereOf 11 = .ok (.if_icmp .gt 25, 3) := by decide +kernel
theorem d_H_thereOf_14 : decode c_H_thereOf 14 = .ok (.aload_n 0, 1) := by decide +kernel
theorem d_H_thereOf_15 : decode c_H_thereOf 15 = .ok (.getfield 15, 3) := by decide +kernel
theorem d_H_thereOf_18 : decode c_H_thereOf 18 = .ok (.iload_n 1, 1) := by decide +kernel
theorem d_H_thereOf_19 : decode c_H_thereOf 19 = .ok (.iload_n 3, 1) := by decide +kernel
theorem d_H_thereOf_20 : decode c_H_thereOf 20 = .ok (.invokestatic 97, 3) := by decide +kernel
theorem d_H_thereOf_23 : decode c_H_thereOf 23 = .ok (.baload, 1) := by decide +kernel
theorem d_H_thereOf_24 : decode c_H_thereOf 24 = .ok (.ifCond .eq 6, 3) := by decide +kernel
theorem d_H_thereOf_27 : decode c_H_thereOf 27 = .ok (.iinc 2 1, 3) := by decide +kernel
theorem d_H_thereOf_30 : decode c_H_thereOf 30 = .ok (.iinc 3 1, 3) := by decide +kernel
theorem d_H_thereOf_33 : decode c_H_thereOf 33 = .ok (.goto (-29), 3) := by decide +kernel
theorem d_H_thereOf_36 : decode c_H_thereOf 36 = .ok (.iload_n 2, 1) := by decide +kernel
theorem d_H_thereOf_37 : decode c_H_thereOf 37 = .ok (.ireturn, 1) := by decide +kernel
theorem d_H_thereOfAll_0 : decode c_H_thereOfAll 0 = .ok (.iconst 0, 1) := by decide +kernel
theorem d_H_thereOfAll_1 : decode c_H_thereOfAll 1 = .ok (.istore_n 1, 1) := by decide +kernel
theorem d_H_thereOfAll_2 : decode c_H_thereOfAll 2 = .ok (.iconst 0, 1) := by decide +kernel
theorem d_H_thereOfAll_3 : decode c_H_thereOfAll 3 = .ok (.istore_n 2, 1) := by decide +kernel
theorem d_H_thereOfAll_4 : decode c_H_thereOfAll 4 = .ok (.iload_n 2, 1) := by decide +kernel
theorem d_H_thereOfAll_5 : decode c_H_thereOfAll 5 = .ok (.iconst 5, 1) := by decide +kernel
theorem d_H_thereOfAll_6 : decode c_H_thereOfAll 6 = .ok (.if_icmp .ge 17, 3) := by decide +kernel
theorem d_H_thereOfAll_9 : decode c_H_thereOfAll 9 = .ok (.iload_n 1, 1) := by decide +kernel
theorem d_H_thereOfAll_10 : decode c_H_thereOfAll 10 = .ok (.aload_n 0, 1) := by decide +kernel
theorem d_H_thereOfAll_11 : decode c_H_thereOfAll 11 = .ok (.iload_n 2, 1) := by decide +kernel
theorem d_H_thereOfAll_12 : decode c_H_thereOfAll 12 = .ok (.invokevirtual 112, 3) := by decide +kernel
theorem d_H_thereOfAll_15 : decode c_H_thereOfAll 15 = .ok (.iadd, 1) := by decide +kernel
theorem d_H_thereOfAll_16 : decode c_H_thereOfAll 16 = .ok (.istore_n 1, 1) := by decide +kernel
theorem d_H_thereOfAll_17 : decode c_H_thereOfAll 17 = .ok (.iinc 2 1, 3) := by decide +kernel
theorem d_H_thereOfAll_20 : decode c_H_thereOfAll 20 = .ok (.goto (-16), 3) := by decide +kernel
theorem d_H_thereOfAll_23 : decode c_H_thereOfAll 23 = .ok (.iload_n 1, 1) := by decide +kernel
theorem d_H_thereOfAll_24 : decode c_H_thereOfAll 24 = .ok (.ireturn, 1) := by decide +kernel
theorem d_H_bothSums_0 : decode c_H_bothSums 0 = .ok (.aload_n 0, 1) := by decide +kernel
theorem d_H_bothSums_1 : decode c_H_bothSums 1 = .ok (.getfield 69, 3) := by decide +kernel
theorem d_H_bothSums_4 : decode c_H_bothSums 4 = .ok (.i2l, 1) := by decide +kernel
theorem d_H_bothSums_5 : decode c_H_bothSums 5 = .ok (.ldc2_w 115, 3) := by decide +kernel
theorem d_H_bothSums_8 : decode c_H_bothSums 8 = .ok (.lmul, 1) := by decide +kernel
theorem d_H_bothSums_9 : decode c_H_bothSums 9 = .ok (.aload_n 0, 1) := by decide +kernel
theorem d_H_bothSums_10 : decode c_H_bothSums 10 = .ok (.getfield 66, 3) := by decide +kernel
theorem d_H_bothSums_13 : decode c_H_bothSums 13 = .ok (.i2l, 1) := by decide +kernel
theorem d_H_bothSums_14 : decode c_H_bothSums 14 = .ok (.ladd, 1) := by decide +kernel
theorem d_H_bothSums_15 : decode c_H_bothSums 15 = .ok (.lreturn, 1) := by decide +kernel
theorem d_H_slotOf_0 : decode c_H_slotOf 0 = .ok (.iload_n 0, 1) := by decide +kernel
theorem d_H_slotOf_1 : decode c_H_slotOf 1 = .ok (.bipush 9, 2) := by decide +kernel
theorem d_H_slotOf_3 : decode c_H_slotOf 3 = .ok (.imul, 1) := by decide +kernel
theorem d_H_slotOf_4 : decode c_H_slotOf 4 = .ok (.iload_n 1, 1) := by decide +kernel
theorem d_H_slotOf_5 : decode c_H_slotOf 5 = .ok (.iadd, 1) := by decide +kernel
theorem d_H_slotOf_6 : decode c_H_slotOf 6 = .ok (.iconst 1, 1) := by decide +kernel
theorem d_H_slotOf_7 : decode c_H_slotOf 7 = .ok (.isub, 1) := by decide +kernel
theorem d_H_slotOf_8 : decode c_H_slotOf 8 = .ok (.ireturn, 1) := by decide +kernel
theorem d_A_init_0 : decode c_A_init 0 = .ok (.aload_n 0, 1) := by decide +kernel
theorem d_A_init_1 : decode c_A_init 1 = .ok (.invokespecial 3, 3) := by decide +kernel
theorem d_A_init_4 : decode c_A_init 4 = .ok (.aload_n 0, 1) := by decide +kernel
theorem d_A_init_5 : decode c_A_init 5 = .ok (.bipush 60, 2) := by decide +kernel
theorem d_A_init_7 : decode c_A_init 7 = .ok (.newarray .int, 2) := by decide +kernel
theorem d_A_init_9 : decode c_A_init 9 = .ok (.putfield 9, 3) := by decide +kernel
theorem d_A_init_12 : decode c_A_init 12 = .ok (.aload_n 0, 1) := by decide +kernel
theorem d_A_init_13 : decode c_A_init 13 = .ok (.bipush 60, 2) := by decide +kernel
theorem d_A_init_15 : decode c_A_init 15 = .ok (.newarray .int, 2) := by decide +kernel
theorem d_A_init_17 : decode c_A_init 17 = .ok (.putfield 15, 3) := by decide +kernel
theorem d_A_init_20 : decode c_A_init 20 = .ok (.aload_n 0, 1) := by decide +kernel
theorem d_A_init_21 : decode c_A_init 21 = .ok (.bipush 60, 2) := by decide +kernel
theorem d_A_init_23 : decode c_A_init 23 = .ok (.newarray .int, 2) := by decide +kernel
theorem d_A_init_25 : decode c_A_init 25 = .ok (.putfield 18, 3) := by decide +kernel
theorem d_A_init_28 : decode c_A_init 28 = .ok (.aload_n 0, 1) := by decide +kernel
theorem d_A_init_29 : decode c_A_init 29 = .ok (.bipush 60, 2) := by decide +kernel
theorem d_A_init_31 : decode c_A_init 31 = .ok (.newarray .int, 2) := by decide +kernel
theorem d_A_init_33 : decode c_A_init 33 = .ok (.putfield 21, 3) := by decide +kernel
theorem d_A_init_36 : decode c_A_init 36 = .ok (.return_, 1) := by decide +kernel
theorem d_A_size_0 : decode c_A_size 0 = .ok (.aload_n 0, 1) := by decide +kernel
theorem d_A_size_1 : decode c_A_size 1 = .ok (.getfield 24, 3) := by decide +kernel
theorem d_A_size_4 : decode c_A_size 4 = .ok (.ireturn, 1) := by decide +kernel
theorem d_A_keep_0 : decode c_A_keep 0 = .ok (.aload_n 0, 1) := by decide +kernel
theorem d_A_keep_1 : decode c_A_keep 1 = .ok (.getfield 24, 3) := by decide +kernel
theorem d_A_keep_4 : decode c_A_keep 4 = .ok (.bipush 60, 2) := by decide +kernel
theorem d_A_keep_6 : decode c_A_keep 6 = .ok (.if_icmp .lt 4, 3) := by decide +kernel
theorem d_A_keep_9 : decode c_A_keep 9 = .ok (.return_, 1) := by decide +kernel
theorem d_A_keep_10 : decode c_A_keep 10 = .ok (.aload_n 0, 1) := by decide +kernel
theorem d_A_keep_11 : decode c_A_keep 11 = .ok (.getfield 9, 3) := by decide +kernel
theorem d_A_keep_14 : decode c_A_keep 14 = .ok (.aload_n 0, 1) := by decide +kernel
theorem d_A_keep_15 : decode c_A_keep 15 = .ok (.getfield 24, 3) := by decide +kernel
theorem d_A_keep_18 : decode c_A_keep 18 = .ok (.iload_n 1, 1) := by decide +kernel
theorem d_A_keep_19 : decode c_A_keep 19 = .ok (.iastore, 1) := by decide +kernel
theorem d_A_keep_20 : decode c_A_keep 20 = .ok (.aload_n 0, 1) := by decide +kernel
theorem d_A_keep_21 : decode c_A_keep 21 = .ok (.getfield 15, 3) := by decide +kernel
theorem d_A_keep_24 : decode c_A_keep 24 = .ok (.aload_n 0, 1) := by decide +kernel
theorem d_A_keep_25 : decode c_A_keep 25 = .ok (.getfield 24, 3) := by decide +kernel
theorem d_A_keep_28 : decode c_A_keep 28 = .ok (.iload_n 2, 1) := by decide +kernel
theorem d_A_keep_29 : decode c_A_keep 29 = .ok (.iastore, 1) := by decide +kernel
theorem d_A_keep_30 : decode c_A_keep 30 = .ok (.aload_n 0, 1) := by decide +kernel
theorem d_A_keep_31 : decode c_A_keep 31 = .ok (.getfield 18, 3) := by decide +kernel
theorem d_A_keep_34 : decode c_A_keep 34 = .ok (.aload_n 0, 1) := by decide +kernel
theorem d_A_keep_35 : decode c_A_keep 35 = .ok (.getfield 24, 3) := by decide +kernel
theorem d_A_keep_38 : decode c_A_keep 38 = .ok (.iload_n 3, 1) := by decide +kernel
theorem d_A_keep_39 : decode c_A_keep 39 = .ok (.iastore, 1) := by decide +kernel
theorem d_A_keep_40 : decode c_A_keep 40 = .ok (.aload_n 0, 1) := by decide +kernel
theorem d_A_keep_41 : decode c_A_keep 41 = .ok (.getfield 21, 3) := by decide +kernel
theorem d_A_keep_44 : decode c_A_keep 44 = .ok (.aload_n 0, 1) := by decide +kernel
theorem d_A_keep_45 : decode c_A_keep 45 = .ok (.getfield 24, 3) := by decide +kernel
theorem d_A_keep_48 : decode c_A_keep 48 = .ok (.iload 4, 2) := by decide +kernel
theorem d_A_keep_50 : decode c_A_keep 50 = .ok (.iastore, 1) := by decide +kernel
theorem d_A_keep_51 : decode c_A_keep 51 = .ok (.aload_n 0, 1) := by decide +kernel
theorem d_A_keep_52 : decode c_A_keep 52 = .ok (.dup, 1) := by decide +kernel
theorem d_A_keep_53 : decode c_A_keep 53 = .ok (.getfield 24, 3) := by decide +kernel
theorem d_A_keep_56 : decode c_A_keep 56 = .ok (.iconst 1, 1) := by decide +kernel
theorem d_A_keep_57 : decode c_A_keep 57 = .ok (.iadd, 1) := by decide +kernel
theorem d_A_keep_58 : decode c_A_keep 58 = .ok (.putfield 24, 3) := by decide +kernel
theorem d_A_keep_61 : decode c_A_keep 61 = .ok (.return_, 1) := by decide +kernel
theorem d_A_removeLatest_0 : decode c_A_removeLatest 0 = .ok (.aload_n 0, 1) := by decide +kernel
theorem d_A_removeLatest_1 : decode c_A_removeLatest 1 = .ok (.getfield 24, 3) := by decide +kernel
theorem d_A_removeLatest_4 : decode c_A_removeLatest 4 = .ok (.ifCond .le 13, 3) := by decide +kernel
theorem d_A_removeLatest_7 : decode c_A_removeLatest 7 = .ok (.aload_n 0, 1) := by decide +kernel
theorem d_A_removeLatest_8 : decode c_A_removeLatest 8 = .ok (.dup, 1) := by decide +kernel
theorem d_A_removeLatest_9 : decode c_A_removeLatest 9 = .ok (.getfield 24, 3) := by decide +kernel
theorem d_A_removeLatest_12 : decode c_A_removeLatest 12 = .ok (.iconst 1, 1) := by decide +kernel
theorem d_A_removeLatest_13 : decode c_A_removeLatest 13 = .ok (.isub, 1) := by decide +kernel
theorem d_A_removeLatest_14 : decode c_A_removeLatest 14 = .ok (.putfield 24, 3) := by decide +kernel
theorem d_A_removeLatest_17 : decode c_A_removeLatest 17 = .ok (.return_, 1) := by decide +kernel
theorem d_A_doAllOn_0 : decode c_A_doAllOn 0 = .ok (.aload_n 1, 1) := by decide +kernel
theorem d_A_doAllOn_1 : decode c_A_doAllOn 1 = .ok (.invokevirtual 28, 3) := by decide +kernel
theorem d_A_doAllOn_4 : decode c_A_doAllOn 4 = .ok (.iconst 0, 1) := by decide +kernel
theorem d_A_doAllOn_5 : decode c_A_doAllOn 5 = .ok (.istore_n 2, 1) := by decide +kernel
theorem d_A_doAllOn_6 : decode c_A_doAllOn 6 = .ok (.iload_n 2, 1) := by decide +kernel
theorem d_A_doAllOn_7 : decode c_A_doAllOn 7 = .ok (.aload_n 0, 1) := by decide +kernel
theorem d_A_doAllOn_8 : decode c_A_doAllOn 8 = .ok (.getfield 24, 3) := by decide +kernel
theorem d_A_doAllOn_11 : decode c_A_doAllOn 11 = .ok (.if_icmp .ge 38, 3) := by decide +kernel
theorem d_A_doAllOn_14 : decode c_A_doAllOn 14 = .ok (.aload_n 1, 1) := by decide +kernel
theorem d_A_doAllOn_15 : decode c_A_doAllOn 15 = .ok (.aload_n 0, 1) := by decide +kernel
theorem d_A_doAllOn_16 : decode c_A_doAllOn 16 = .ok (.getfield 9, 3) := by decide +kernel
theorem d_A_doAllOn_19 : decode c_A_doAllOn 19 = .ok (.iload_n 2, 1) := by decide +kernel
theorem d_A_doAllOn_20 : decode c_A_doAllOn 20 = .ok (.iaload, 1) := by decide +kernel
theorem d_A_doAllOn_21 : decode c_A_doAllOn 21 = .ok (.aload_n 0, 1) := by decide +kernel
theorem d_A_doAllOn_22 : decode c_A_doAllOn 22 = .ok (.getfield 15, 3) := by decide +kernel
theorem d_A_doAllOn_25 : decode c_A_doAllOn 25 = .ok (.iload_n 2, 1) := by decide +kernel
theorem d_A_doAllOn_26 : decode c_A_doAllOn 26 = .ok (.iaload, 1) := by decide +kernel
theorem d_A_doAllOn_27 : decode c_A_doAllOn 27 = .ok (.aload_n 0, 1) := by decide +kernel
theorem d_A_doAllOn_28 : decode c_A_doAllOn 28 = .ok (.getfield 18, 3) := by decide +kernel
theorem d_A_doAllOn_31 : decode c_A_doAllOn 31 = .ok (.iload_n 2, 1) := by decide +kernel
theorem d_A_doAllOn_32 : decode c_A_doAllOn 32 = .ok (.iaload, 1) := by decide +kernel
theorem d_A_doAllOn_33 : decode c_A_doAllOn 33 = .ok (.aload_n 0, 1) := by decide +kernel
theorem d_A_doAllOn_34 : decode c_A_doAllOn 34 = .ok (.getfield 21, 3) := by decide +kernel
theorem d_A_doAllOn_37 : decode c_A_doAllOn 37 = .ok (.iload_n 2, 1) := by decide +kernel
theorem d_A_doAllOn_38 : decode c_A_doAllOn 38 = .ok (.iaload, 1) := by decide +kernel
theorem d_A_doAllOn_39 : decode c_A_doAllOn 39 = .ok (.invokevirtual 33, 3) := by decide +kernel
theorem d_A_doAllOn_42 : decode c_A_doAllOn 42 = .ok (.pop2, 1) := by decide +kernel
theorem d_A_doAllOn_43 : decode c_A_doAllOn 43 = .ok (.iinc 2 1, 3) := by decide +kernel
theorem d_A_doAllOn_46 : decode c_A_doAllOn 46 = .ok (.goto (-40), 3) := by decide +kernel
theorem d_A_doAllOn_49 : decode c_A_doAllOn 49 = .ok (.return_, 1) := by decide +kernel
