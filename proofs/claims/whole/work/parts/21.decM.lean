/-! decode rows -/
theorem d_M_init_0 : decode c_M_init 0 = .ok (.aload_n 0, 1) := by decide +kernel
theorem d_M_init_1 : decode c_M_init 1 = .ok (.invokespecial 1, 3) := by decide +kernel
theorem d_M_init_4 : decode c_M_init 4 = .ok (.aload_n 0, 1) := by decide +kernel
theorem d_M_init_5 : decode c_M_init 5 = .ok (.iconst 0, 1) := by decide +kernel
theorem d_M_init_6 : decode c_M_init 6 = .ok (.putfield 7, 3) := by decide +kernel
theorem d_M_init_9 : decode c_M_init 9 = .ok (.aload_n 0, 1) := by decide +kernel
theorem d_M_init_10 : decode c_M_init 10 = .ok (.iconst 0, 1) := by decide +kernel
theorem d_M_init_11 : decode c_M_init 11 = .ok (.putfield 13, 3) := by decide +kernel
theorem d_M_init_14 : decode c_M_init 14 = .ok (.aload_n 0, 1) := by decide +kernel
theorem d_M_init_15 : decode c_M_init 15 = .ok (.sipush 240, 3) := by decide +kernel
theorem d_M_init_18 : decode c_M_init 18 = .ok (.newarray .int, 2) := by decide +kernel
theorem d_M_init_20 : decode c_M_init 20 = .ok (.putfield 16, 3) := by decide +kernel
theorem d_M_init_23 : decode c_M_init 23 = .ok (.aload_n 0, 1) := by decide +kernel
theorem d_M_init_24 : decode c_M_init 24 = .ok (.iconst 5, 1) := by decide +kernel
theorem d_M_init_25 : decode c_M_init 25 = .ok (.newarray .int, 2) := by decide +kernel
theorem d_M_init_27 : decode c_M_init 27 = .ok (.putfield 20, 3) := by decide +kernel
theorem d_M_init_30 : decode c_M_init 30 = .ok (.aload_n 0, 1) := by decide +kernel
theorem d_M_init_31 : decode c_M_init 31 = .ok (.bipush 50, 2) := by decide +kernel
theorem d_M_init_33 : decode c_M_init 33 = .ok (.newarray .boolean, 2) := by decide +kernel
theorem d_M_init_35 : decode c_M_init 35 = .ok (.putfield 23, 3) := by decide +kernel
theorem d_M_init_38 : decode c_M_init 38 = .ok (.aload_n 0, 1) := by decide +kernel
theorem d_M_init_39 : decode c_M_init 39 = .ok (.bipush 50, 2) := by decide +kernel
theorem d_M_init_41 : decode c_M_init 41 = .ok (.newarray .int, 2) := by decide +kernel
theorem d_M_init_43 : decode c_M_init 43 = .ok (.putfield 27, 3) := by decide +kernel
theorem d_M_init_46 : decode c_M_init 46 = .ok (.aload_n 0, 1) := by decide +kernel
theorem d_M_init_47 : decode c_M_init 47 = .ok (.bipush 6, 2) := by decide +kernel
theorem d_M_init_49 : decode c_M_init 49 = .ok (.newarray .int, 2) := by decide +kernel
theorem d_M_init_51 : decode c_M_init 51 = .ok (.putfield 30, 3) := by decide +kernel
theorem d_M_init_54 : decode c_M_init 54 = .ok (.aload_n 0, 1) := by decide +kernel
theorem d_M_init_55 : decode c_M_init 55 = .ok (.bipush 6, 2) := by decide +kernel
theorem d_M_init_57 : decode c_M_init 57 = .ok (.newarray .int, 2) := by decide +kernel
theorem d_M_init_59 : decode c_M_init 59 = .ok (.putfield 33, 3) := by decide +kernel
theorem d_M_init_62 : decode c_M_init 62 = .ok (.aload_n 0, 1) := by decide +kernel
theorem d_M_init_63 : decode c_M_init 63 = .ok (.bipush 6, 2) := by decide +kernel
theorem d_M_init_65 : decode c_M_init 65 = .ok (.newarray .int, 2) := by decide +kernel
theorem d_M_init_67 : decode c_M_init 67 = .ok (.putfield 36, 3) := by decide +kernel
theorem d_M_init_70 : decode c_M_init 70 = .ok (.aload_n 0, 1) := by decide +kernel
theorem d_M_init_71 : decode c_M_init 71 = .ok (.bipush 6, 2) := by decide +kernel
theorem d_M_init_73 : decode c_M_init 73 = .ok (.newarray .long, 2) := by decide +kernel
theorem d_M_init_75 : decode c_M_init 75 = .ok (.putfield 39, 3) := by decide +kernel
theorem d_M_init_78 : decode c_M_init 78 = .ok (.aload_n 0, 1) := by decide +kernel
theorem d_M_init_79 : decode c_M_init 79 = .ok (.bipush 6, 2) := by decide +kernel
theorem d_M_init_81 : decode c_M_init 81 = .ok (.newarray .int, 2) := by decide +kernel
theorem d_M_init_83 : decode c_M_init 83 = .ok (.putfield 43, 3) := by decide +kernel
theorem d_M_init_86 : decode c_M_init 86 = .ok (.aload_n 0, 1) := by decide +kernel
theorem d_M_init_87 : decode c_M_init 87 = .ok (.iconst 0, 1) := by decide +kernel
theorem d_M_init_88 : decode c_M_init 88 = .ok (.putfield 46, 3) := by decide +kernel
theorem d_M_init_91 : decode c_M_init 91 = .ok (.aload_n 0, 1) := by decide +kernel
theorem d_M_init_92 : decode c_M_init 92 = .ok (.iconst 0, 1) := by decide +kernel
theorem d_M_init_93 : decode c_M_init 93 = .ok (.putfield 49, 3) := by decide +kernel
theorem d_M_init_96 : decode c_M_init 96 = .ok (.aload_n 0, 1) := by decide +kernel
theorem d_M_init_97 : decode c_M_init 97 = .ok (.iconst (-1), 1) := by decide +kernel
theorem d_M_init_98 : decode c_M_init 98 = .ok (.putfield 52, 3) := by decide +kernel
theorem d_M_init_101 : decode c_M_init 101 = .ok (.aload_n 0, 1) := by decide +kernel
theorem d_M_init_102 : decode c_M_init 102 = .ok (.iconst (-1), 1) := by decide +kernel
theorem d_M_init_103 : decode c_M_init 103 = .ok (.putfield 55, 3) := by decide +kernel
theorem d_M_init_106 : decode c_M_init 106 = .ok (.aload_n 0, 1) := by decide +kernel
theorem d_M_init_107 : decode c_M_init 107 = .ok (.iconst 0, 1) := by decide +kernel
theorem d_M_init_108 : decode c_M_init 108 = .ok (.putfield 58, 3) := by decide +kernel
theorem d_M_init_111 : decode c_M_init 111 = .ok (.aload_n 0, 1) := by decide +kernel
theorem d_M_init_112 : decode c_M_init 112 = .ok (.iconst 0, 1) := by decide +kernel
theorem d_M_init_113 : decode c_M_init 113 = .ok (.putfield 61, 3) := by decide +kernel
theorem d_M_init_116 : decode c_M_init 116 = .ok (.aload_n 0, 1) := by decide +kernel
theorem d_M_init_117 : decode c_M_init 117 = .ok (.iconst 1, 1) := by decide +kernel
theorem d_M_init_118 : decode c_M_init 118 = .ok (.putfield 64, 3) := by decide +kernel
theorem d_M_init_121 : decode c_M_init 121 = .ok (.aload_n 0, 1) := by decide +kernel
theorem d_M_init_122 : decode c_M_init 122 = .ok (.iconst 0, 1) := by decide +kernel
theorem d_M_init_123 : decode c_M_init 123 = .ok (.putfield 67, 3) := by decide +kernel
theorem d_M_init_126 : decode c_M_init 126 = .ok (.aload_n 0, 1) := by decide +kernel
theorem d_M_init_127 : decode c_M_init 127 = .ok (.invokevirtual 70, 3) := by decide +kernel
theorem d_M_init_130 : decode c_M_init 130 = .ok (.return_, 1) := by decide +kernel
theorem d_M_fresh_0 : decode c_M_fresh 0 = .ok (.iconst 0, 1) := by decide +kernel
theorem d_M_fresh_1 : decode c_M_fresh 1 = .ok (.istore_n 1, 1) := by decide +kernel
theorem d_M_fresh_2 : decode c_M_fresh 2 = .ok (.iload_n 1, 1) := by decide +kernel
theorem d_M_fresh_3 : decode c_M_fresh 3 = .ok (.iconst 5, 1) := by decide +kernel
theorem d_M_fresh_4 : decode c_M_fresh 4 = .ok (.if_icmp .ge 16, 3) := by decide +kernel
theorem d_M_fresh_7 : decode c_M_fresh 7 = .ok (.aload_n 0, 1) := by decide +kernel
theorem d_M_fresh_8 : decode c_M_fresh 8 = .ok (.getfield 20, 3) := by decide +kernel
theorem d_M_fresh_11 : decode c_M_fresh 11 = .ok (.iload_n 1, 1) := by decide +kernel
theorem d_M_fresh_12 : decode c_M_fresh 12 = .ok (.iconst 0, 1) := by decide +kernel
theorem d_M_fresh_13 : decode c_M_fresh 13 = .ok (.iastore, 1) := by decide +kernel
theorem d_M_fresh_14 : decode c_M_fresh 14 = .ok (.iinc 1 1, 3) := by decide +kernel
theorem d_M_fresh_17 : decode c_M_fresh 17 = .ok (.goto (-15), 3) := by decide +kernel
theorem d_M_fresh_20 : decode c_M_fresh 20 = .ok (.iconst 0, 1) := by decide +kernel
theorem d_M_fresh_21 : decode c_M_fresh 21 = .ok (.istore_n 1, 1) := by decide +kernel
theorem d_M_fresh_22 : decode c_M_fresh 22 = .ok (.iload_n 1, 1) := by decide +kernel
theorem d_M_fresh_23 : decode c_M_fresh 23 = .ok (.bipush 50, 2) := by decide +kernel
theorem d_M_fresh_25 : decode c_M_fresh 25 = .ok (.if_icmp .ge 23, 3) := by decide +kernel
theorem d_M_fresh_28 : decode c_M_fresh 28 = .ok (.aload_n 0, 1) := by decide +kernel
theorem d_M_fresh_29 : decode c_M_fresh 29 = .ok (.getfield 23, 3) := by decide +kernel
theorem d_M_fresh_32 : decode c_M_fresh 32 = .ok (.iload_n 1, 1) := by decide +kernel
theorem d_M_fresh_33 : decode c_M_fresh 33 = .ok (.iconst 0, 1) := by decide +kernel
theorem d_M_fresh_34 : decode c_M_fresh 34 = .ok (.bastore, 1) := by decide +kernel
theorem d_M_fresh_35 : decode c_M_fresh 35 = .ok (.aload_n 0, 1) := by decide +kernel
theorem d_M_fresh_36 : decode c_M_fresh 36 = .ok (.getfield 27, 3) := by decide +kernel
theorem d_M_fresh_39 : decode c_M_fresh 39 = .ok (.iload_n 1, 1) := by decide +kernel
theorem d_M_fresh_40 : decode c_M_fresh 40 = .ok (.iconst 0, 1) := by decide +kernel
theorem d_M_fresh_41 : decode c_M_fresh 41 = .ok (.iastore, 1) := by decide +kernel
theorem d_M_fresh_42 : decode c_M_fresh 42 = .ok (.iinc 1 1, 3) := by decide +kernel
theorem d_M_fresh_45 : decode c_M_fresh 45 = .ok (.goto (-23), 3) := by decide +kernel
theorem d_M_fresh_48 : decode c_M_fresh 48 = .ok (.iconst 0, 1) := by decide +kernel
theorem d_M_fresh_49 : decode c_M_fresh 49 = .ok (.istore_n 1, 1) := by decide +kernel
theorem d_M_fresh_50 : decode c_M_fresh 50 = .ok (.iload_n 1, 1) := by decide +kernel
theorem d_M_fresh_51 : decode c_M_fresh 51 = .ok (.bipush 6, 2) := by decide +kernel
theorem d_M_fresh_53 : decode c_M_fresh 53 = .ok (.if_icmp .ge 46, 3) := by decide +kernel
theorem d_M_fresh_56 : decode c_M_fresh 56 = .ok (.aload_n 0, 1) := by decide +kernel
theorem d_M_fresh_57 : decode c_M_fresh 57 = .ok (.getfield 30, 3) := by decide +kernel
theorem d_M_fresh_60 : decode c_M_fresh 60 = .ok (.iload_n 1, 1) := by decide +kernel
theorem d_M_fresh_61 : decode c_M_fresh 61 = .ok (.iload_n 1, 1) := by decide +kernel
theorem d_M_fresh_62 : decode c_M_fresh 62 = .ok (.iconst 5, 1) := by decide +kernel
theorem d_M_fresh_63 : decode c_M_fresh 63 = .ok (.irem, 1) := by decide +kernel
theorem d_M_fresh_64 : decode c_M_fresh 64 = .ok (.iastore, 1) := by decide +kernel
theorem d_M_fresh_65 : decode c_M_fresh 65 = .ok (.aload_n 0, 1) := by decide +kernel
theorem d_M_fresh_66 : decode c_M_fresh 66 = .ok (.getfield 33, 3) := by decide +kernel
theorem d_M_fresh_69 : decode c_M_fresh 69 = .ok (.iload_n 1, 1) := by decide +kernel
theorem d_M_fresh_70 : decode c_M_fresh 70 = .ok (.iconst 0, 1) := by decide +kernel
theorem d_M_fresh_71 : decode c_M_fresh 71 = .ok (.iastore, 1) := by decide +kernel
theorem d_M_fresh_72 : decode c_M_fresh 72 = .ok (.aload_n 0, 1) := by decide +kernel
theorem d_M_fresh_73 : decode c_M_fresh 73 = .ok (.getfield 36, 3) := by decide +kernel
theorem d_M_fresh_76 : decode c_M_fresh 76 = .ok (.iload_n 1, 1) := by decide +kernel
theorem d_M_fresh_77 : decode c_M_fresh 77 = .ok (.iconst 0, 1) := by decide +kernel
theorem d_M_fresh_78 : decode c_M_fresh 78 = .ok (.iastore, 1) := by decide +kernel
theorem d_M_fresh_79 : decode c_M_fresh 79 = .ok (.aload_n 0, 1) := by decide +kernel
theorem d_M_fresh_80 : decode c_M_fresh 80 = .ok (.getfield 39, 3) := by decide +kernel
theorem d_M_fresh_83 : decode c_M_fresh 83 = .ok (.iload_n 1, 1) := by decide +kernel
theorem d_M_fresh_84 : decode c_M_fresh 84 = .ok (.lconst 0, 1) := by decide +kernel
theorem d_M_fresh_85 : decode c_M_fresh 85 = .ok (.lastore, 1) := by decide +kernel
theorem d_M_fresh_86 : decode c_M_fresh 86 = .ok (.aload_n 0, 1) := by decide +kernel
theorem d_M_fresh_87 : decode c_M_fresh 87 = .ok (.getfield 43, 3) := by decide +kernel
theorem d_M_fresh_90 : decode c_M_fresh 90 = .ok (.iload_n 1, 1) := by decide +kernel
theorem d_M_fresh_91 : decode c_M_fresh 91 = .ok (.iconst 0, 1) := by decide +kernel
theorem d_M_fresh_92 : decode c_M_fresh 92 = .ok (.iastore, 1) := by decide +kernel
theorem d_M_fresh_93 : decode c_M_fresh 93 = .ok (.iinc 1 1, 3) := by decide +kernel
theorem d_M_fresh_96 : decode c_M_fresh 96 = .ok (.goto (-46), 3) := by decide +kernel
theorem d_M_fresh_99 : decode c_M_fresh 99 = .ok (.aload_n 0, 1) := by decide +kernel
theorem d_M_fresh_100 : decode c_M_fresh 100 = .ok (.iconst 0, 1) := by decide +kernel
theorem d_M_fresh_101 : decode c_M_fresh 101 = .ok (.putfield 46, 3) := by decide +kernel
theorem d_M_fresh_104 : decode c_M_fresh 104 = .ok (.aload_n 0, 1) := by decide +kernel
theorem d_M_fresh_105 : decode c_M_fresh 105 = .ok (.iconst 0, 1) := by decide +kernel
theorem d_M_fresh_106 : decode c_M_fresh 106 = .ok (.putfield 49, 3) := by decide +kernel
theorem d_M_fresh_109 : decode c_M_fresh 109 = .ok (.aload_n 0, 1) := by decide +kernel
theorem d_M_fresh_110 : decode c_M_fresh 110 = .ok (.iconst (-1), 1) := by decide +kernel
theorem d_M_fresh_111 : decode c_M_fresh 111 = .ok (.putfield 52, 3) := by decide +kernel
theorem d_M_fresh_114 : decode c_M_fresh 114 = .ok (.aload_n 0, 1) := by decide +kernel
theorem d_M_fresh_115 : decode c_M_fresh 115 = .ok (.iconst (-1), 1) := by decide +kernel
theorem d_M_fresh_116 : decode c_M_fresh 116 = .ok (.putfield 55, 3) := by decide +kernel
theorem d_M_fresh_119 : decode c_M_fresh 119 = .ok (.aload_n 0, 1) := by decide +kernel
theorem d_M_fresh_120 : decode c_M_fresh 120 = .ok (.iconst 0, 1) := by decide +kernel
theorem d_M_fresh_121 : decode c_M_fresh 121 = .ok (.putfield 58, 3) := by decide +kernel
theorem d_M_fresh_124 : decode c_M_fresh 124 = .ok (.aload_n 0, 1) := by decide +kernel
theorem d_M_fresh_125 : decode c_M_fresh 125 = .ok (.iconst 0, 1) := by decide +kernel
theorem d_M_fresh_126 : decode c_M_fresh 126 = .ok (.putfield 61, 3) := by decide +kernel
theorem d_M_fresh_129 : decode c_M_fresh 129 = .ok (.aload_n 0, 1) := by decide +kernel
theorem d_M_fresh_130 : decode c_M_fresh 130 = .ok (.iconst 1, 1) := by decide +kernel
theorem d_M_fresh_131 : decode c_M_fresh 131 = .ok (.putfield 64, 3) := by decide +kernel
theorem d_M_fresh_134 : decode c_M_fresh 134 = .ok (.aload_n 0, 1) := by decide +kernel
theorem d_M_fresh_135 : decode c_M_fresh 135 = .ok (.iconst 0, 1) := by decide +kernel
theorem d_M_fresh_136 : decode c_M_fresh 136 = .ok (.putfield 67, 3) := by decide +kernel
theorem d_M_fresh_139 : decode c_M_fresh 139 = .ok (.return_, 1) := by decide +kernel
theorem d_M_not_0 : decode c_M_not 0 = .ok (.iload_n 0, 1) := by decide +kernel
theorem d_M_not_1 : decode c_M_not 1 = .ok (.iload_n 1, 1) := by decide +kernel
theorem d_M_not_2 : decode c_M_not 2 = .ok (.if_icmp .lt 8, 3) := by decide +kernel
theorem d_M_not_5 : decode c_M_not 5 = .ok (.iload_n 0, 1) := by decide +kernel
theorem d_M_not_6 : decode c_M_not 6 = .ok (.iload_n 2, 1) := by decide +kernel
theorem d_M_not_7 : decode c_M_not 7 = .ok (.if_icmp .le 7, 3) := by decide +kernel
theorem d_M_not_10 : decode c_M_not 10 = .ok (.iconst 1, 1) := by decide +kernel
theorem d_M_not_11 : decode c_M_not 11 = .ok (.goto 4, 3) := by decide +kernel
theorem d_M_not_14 : decode c_M_not 14 = .ok (.iconst 0, 1) := by decide +kernel
theorem d_M_not_15 : decode c_M_not 15 = .ok (.ireturn, 1) := by decide +kernel
theorem d_M_isThere_0 : decode c_M_isThere 0 = .ok (.iload_n 2, 1) := by decide +kernel
theorem d_M_isThere_1 : decode c_M_isThere 1 = .ok (.ifCond .le 27, 3) := by decide +kernel
theorem d_M_isThere_4 : decode c_M_isThere 4 = .ok (.iload_n 2, 1) := by decide +kernel
theorem d_M_isThere_5 : decode c_M_isThere 5 = .ok (.bipush 10, 2) := by decide +kernel
theorem d_M_isThere_7 : decode c_M_isThere 7 = .ok (.if_icmp .ge 21, 3) := by decide +kernel
theorem d_M_isThere_10 : decode c_M_isThere 10 = .ok (.aload_n 0, 1) := by decide +kernel
theorem d_M_isThere_11 : decode c_M_isThere 11 = .ok (.getfield 23, 3) := by decide +kernel
theorem d_M_isThere_14 : decode c_M_isThere 14 = .ok (.bipush 10, 2) := by decide +kernel
theorem d_M_isThere_16 : decode c_M_isThere 16 = .ok (.iload_n 1, 1) := by decide +kernel
theorem d_M_isThere_17 : decode c_M_isThere 17 = .ok (.imul, 1) := by decide +kernel
theorem d_M_isThere_18 : decode c_M_isThere 18 = .ok (.iload_n 2, 1) := by decide +kernel
theorem d_M_isThere_19 : decode c_M_isThere 19 = .ok (.iadd, 1) := by decide +kernel
theorem d_M_isThere_20 : decode c_M_isThere 20 = .ok (.baload, 1) := by decide +kernel
theorem d_M_isThere_21 : decode c_M_isThere 21 = .ok (.ifCond .eq 7, 3) := by decide +kernel
theorem d_M_isThere_24 : decode c_M_isThere 24 = .ok (.iconst 1, 1) := by decide +kernel
theorem d_M_isThere_25 : decode c_M_isThere 25 = .ok (.goto 4, 3) := by decide +kernel
theorem d_M_isThere_28 : decode c_M_isThere 28 = .ok (.iconst 0, 1) := by decide +kernel
theorem d_M_isThere_29 : decode c_M_isThere 29 = .ok (.ireturn, 1) := by decide +kernel
theorem d_M_keep_0 : decode c_M_keep 0 = .ok (.aload_n 0, 1) := by decide +kernel
theorem d_M_keep_1 : decode c_M_keep 1 = .ok (.getfield 16, 3) := by decide +kernel
theorem d_M_keep_4 : decode c_M_keep 4 = .ok (.iconst 4, 1) := by decide +kernel
theorem d_M_keep_5 : decode c_M_keep 5 = .ok (.aload_n 0, 1) := by decide +kernel
theorem d_M_keep_6 : decode c_M_keep 6 = .ok (.getfield 13, 3) := by decide +kernel
theorem d_M_keep_9 : decode c_M_keep 9 = .ok (.imul, 1) := by decide +kernel
theorem d_M_keep_10 : decode c_M_keep 10 = .ok (.iload_n 1, 1) := by decide +kernel
theorem d_M_keep_11 : decode c_M_keep 11 = .ok (.iastore, 1) := by decide +kernel
theorem d_M_keep_12 : decode c_M_keep 12 = .ok (.aload_n 0, 1) := by decide +kernel
theorem d_M_keep_13 : decode c_M_keep 13 = .ok (.getfield 16, 3) := by decide +kernel
theorem d_M_keep_16 : decode c_M_keep 16 = .ok (.iconst 4, 1) := by decide +kernel
theorem d_M_keep_17 : decode c_M_keep 17 = .ok (.aload_n 0, 1) := by decide +kernel
theorem d_M_keep_18 : decode c_M_keep 18 = .ok (.getfield 13, 3) := by decide +kernel
theorem d_M_keep_21 : decode c_M_keep 21 = .ok (.imul, 1) := by decide +kernel
theorem d_M_keep_22 : decode c_M_keep 22 = .ok (.iconst 1, 1) := by decide +kernel
theorem d_M_keep_23 : decode c_M_keep 23 = .ok (.iadd, 1) := by decide +kernel
theorem d_M_keep_24 : decode c_M_keep 24 = .ok (.iload_n 2, 1) := by decide +kernel
theorem d_M_keep_25 : decode c_M_keep 25 = .ok (.iastore, 1) := by decide +kernel
theorem d_M_keep_26 : decode c_M_keep 26 = .ok (.aload_n 0, 1) := by decide +kernel
theorem d_M_keep_27 : decode c_M_keep 27 = .ok (.getfield 16, 3) := by decide +kernel
theorem d_M_keep_30 : decode c_M_keep 30 = .ok (.iconst 4, 1) := by decide +kernel
theorem d_M_keep_31 : decode c_M_keep 31 = .ok (.aload_n 0, 1) := by decide +kernel
theorem d_M_keep_32 : decode c_M_keep 32 = .ok (.getfield 13, 3) := by decide +kernel
theorem d_M_keep_35 : decode c_M_keep 35 = .ok (.imul, 1) := by decide +kernel
theorem d_M_keep_36 : decode c_M_keep 36 = .ok (.iconst 2, 1) := by decide +kernel
theorem d_M_keep_37 : decode c_M_keep 37 = .ok (.iadd, 1) := by decide +kernel
theorem d_M_keep_38 : decode c_M_keep 38 = .ok (.iload_n 3, 1) := by decide +kernel
theorem d_M_keep_39 : decode c_M_keep 39 = .ok (.iastore, 1) := by decide +kernel
theorem d_M_keep_40 : decode c_M_keep 40 = .ok (.aload_n 0, 1) := by decide +kernel
theorem d_M_keep_41 : decode c_M_keep 41 = .ok (.getfield 16, 3) := by decide +kernel
theorem d_M_keep_44 : decode c_M_keep 44 = .ok (.iconst 4, 1) := by decide +kernel
theorem d_M_keep_45 : decode c_M_keep 45 = .ok (.aload_n 0, 1) := by decide +kernel
theorem d_M_keep_46 : decode c_M_keep 46 = .ok (.getfield 13, 3) := by decide +kernel
theorem d_M_keep_49 : decode c_M_keep 49 = .ok (.imul, 1) := by decide +kernel
theorem d_M_keep_50 : decode c_M_keep 50 = .ok (.iconst 3, 1) := by decide +kernel
theorem d_M_keep_51 : decode c_M_keep 51 = .ok (.iadd, 1) := by decide +kernel
theorem d_M_keep_52 : decode c_M_keep 52 = .ok (.iload 4, 2) := by decide +kernel
theorem d_M_keep_54 : decode c_M_keep 54 = .ok (.iastore, 1) := by decide +kernel
theorem d_M_keep_55 : decode c_M_keep 55 = .ok (.aload_n 0, 1) := by decide +kernel
theorem d_M_keep_56 : decode c_M_keep 56 = .ok (.dup, 1) := by decide +kernel
theorem d_M_keep_57 : decode c_M_keep 57 = .ok (.getfield 13, 3) := by decide +kernel
theorem d_M_keep_60 : decode c_M_keep 60 = .ok (.iconst 1, 1) := by decide +kernel
theorem d_M_keep_61 : decode c_M_keep 61 = .ok (.iadd, 1) := by decide +kernel
theorem d_M_keep_62 : decode c_M_keep 62 = .ok (.putfield 13, 3) := by decide +kernel
theorem d_M_keep_65 : decode c_M_keep 65 = .ok (.aload_n 0, 1) := by decide +kernel
theorem d_M_keep_66 : decode c_M_keep 66 = .ok (.iload_n 1, 1) := by decide +kernel
theorem d_M_keep_67 : decode c_M_keep 67 = .ok (.iload_n 2, 1) := by decide +kernel
theorem d_M_keep_68 : decode c_M_keep 68 = .ok (.iload_n 3, 1) := by decide +kernel
theorem d_M_keep_69 : decode c_M_keep 69 = .ok (.iload 4, 2) := by decide +kernel
theorem d_M_keep_71 : decode c_M_keep 71 = .ok (.invokevirtual 73, 3) := by decide +kernel
theorem d_M_keep_74 : decode c_M_keep 74 = .ok (.return_, 1) := by decide +kernel
theorem d_M_does_0 : decode c_M_does 0 = .ok (.iload_n 1, 1) := by decide +kernel
theorem d_M_does_1 : decode c_M_does 1 = .ok (.tableswitch 154 0 5 #[39, 90, 105, 115, 133, 143], 39) := by decide +kernel
theorem d_M_does_40 : decode c_M_does 40 = .ok (.aload_n 0, 1) := by decide +kernel
theorem d_M_does_41 : decode c_M_does 41 = .ok (.getfield 20, 3) := by decide +kernel
theorem d_M_does_44 : decode c_M_does 44 = .ok (.iload_n 2, 1) := by decide +kernel
theorem d_M_does_45 : decode c_M_does 45 = .ok (.aload_n 0, 1) := by decide +kernel
theorem d_M_does_46 : decode c_M_does 46 = .ok (.getfield 20, 3) := by decide +kernel
theorem d_M_does_49 : decode c_M_does 49 = .ok (.iload_n 2, 1) := by decide +kernel
theorem d_M_does_50 : decode c_M_does 50 = .ok (.iaload, 1) := by decide +kernel
theorem d_M_does_51 : decode c_M_does 51 = .ok (.iconst 1, 1) := by decide +kernel
theorem d_M_does_52 : decode c_M_does 52 = .ok (.iadd, 1) := by decide +kernel
theorem d_M_does_53 : decode c_M_does 53 = .ok (.iastore, 1) := by decide +kernel
theorem d_M_does_54 : decode c_M_does 54 = .ok (.aload_n 0, 1) := by decide +kernel
theorem d_M_does_55 : decode c_M_does 55 = .ok (.getfield 23, 3) := by decide +kernel
theorem d_M_does_58 : decode c_M_does 58 = .ok (.bipush 10, 2) := by decide +kernel
theorem d_M_does_60 : decode c_M_does 60 = .ok (.iload_n 2, 1) := by decide +kernel
theorem d_M_does_61 : decode c_M_does 61 = .ok (.imul, 1) := by decide +kernel
theorem d_M_does_62 : decode c_M_does 62 = .ok (.aload_n 0, 1) := by decide +kernel
theorem d_M_does_63 : decode c_M_does 63 = .ok (.getfield 20, 3) := by decide +kernel
theorem d_M_does_66 : decode c_M_does 66 = .ok (.iload_n 2, 1) := by decide +kernel
theorem d_M_does_67 : decode c_M_does 67 = .ok (.iaload, 1) := by decide +kernel
theorem d_M_does_68 : decode c_M_does 68 = .ok (.iadd, 1) := by decide +kernel
theorem d_M_does_69 : decode c_M_does 69 = .ok (.iconst 1, 1) := by decide +kernel
theorem d_M_does_70 : decode c_M_does 70 = .ok (.bastore, 1) := by decide +kernel
theorem d_M_does_71 : decode c_M_does 71 = .ok (.aload_n 0, 1) := by decide +kernel
theorem d_M_does_72 : decode c_M_does 72 = .ok (.getfield 27, 3) := by decide +kernel
theorem d_M_does_75 : decode c_M_does 75 = .ok (.bipush 10, 2) := by decide +kernel
theorem d_M_does_77 : decode c_M_does 77 = .ok (.iload_n 2, 1) := by decide +kernel
theorem d_M_does_78 : decode c_M_does 78 = .ok (.imul, 1) := by decide +kernel
theorem d_M_does_79 : decode c_M_does 79 = .ok (.aload_n 0, 1) := by decide +kernel
theorem d_M_does_80 : decode c_M_does 80 = .ok (.getfield 20, 3) := by decide +kernel
theorem d_M_does_83 : decode c_M_does 83 = .ok (.iload_n 2, 1) := by decide +kernel
theorem d_M_does_84 : decode c_M_does 84 = .ok (.iaload, 1) := by decide +kernel
theorem d_M_does_85 : decode c_M_does 85 = .ok (.iadd, 1) := by decide +kernel
theorem d_M_does_86 : decode c_M_does 86 = .ok (.iconst 0, 1) := by decide +kernel
theorem d_M_does_87 : decode c_M_does 87 = .ok (.iastore, 1) := by decide +kernel
theorem d_M_does_88 : decode c_M_does 88 = .ok (.goto 106, 3) := by decide +kernel
theorem d_M_does_91 : decode c_M_does 91 = .ok (.aload_n 0, 1) := by decide +kernel
theorem d_M_does_92 : decode c_M_does 92 = .ok (.getfield 23, 3) := by decide +kernel
theorem d_M_does_95 : decode c_M_does 95 = .ok (.bipush 10, 2) := by decide +kernel
theorem d_M_does_97 : decode c_M_does 97 = .ok (.iload_n 2, 1) := by decide +kernel
theorem d_M_does_98 : decode c_M_does 98 = .ok (.imul, 1) := by decide +kernel
theorem d_M_does_99 : decode c_M_does 99 = .ok (.iload_n 3, 1) := by decide +kernel
theorem d_M_does_100 : decode c_M_does 100 = .ok (.iadd, 1) := by decide +kernel
theorem d_M_does_101 : decode c_M_does 101 = .ok (.iconst 0, 1) := by decide +kernel
theorem d_M_does_102 : decode c_M_does 102 = .ok (.bastore, 1) := by decide +kernel
theorem d_M_does_103 : decode c_M_does 103 = .ok (.goto 91, 3) := by decide +kernel
theorem d_M_does_106 : decode c_M_does 106 = .ok (.aload_n 0, 1) := by decide +kernel
theorem d_M_does_107 : decode c_M_does 107 = .ok (.getfield 30, 3) := by decide +kernel
theorem d_M_does_110 : decode c_M_does 110 = .ok (.iload_n 2, 1) := by decide +kernel
theorem d_M_does_111 : decode c_M_does 111 = .ok (.iload_n 3, 1) := by decide +kernel
theorem d_M_does_112 : decode c_M_does 112 = .ok (.iastore, 1) := by decide +kernel
theorem d_M_does_113 : decode c_M_does 113 = .ok (.goto 81, 3) := by decide +kernel
theorem d_M_does_116 : decode c_M_does 116 = .ok (.aload_n 0, 1) := by decide +kernel
theorem d_M_does_117 : decode c_M_does 117 = .ok (.getfield 33, 3) := by decide +kernel
theorem d_M_does_120 : decode c_M_does 120 = .ok (.iload_n 2, 1) := by decide +kernel
theorem d_M_does_121 : decode c_M_does 121 = .ok (.iload_n 3, 1) := by decide +kernel
theorem d_M_does_122 : decode c_M_does 122 = .ok (.iastore, 1) := by decide +kernel
theorem d_M_does_123 : decode c_M_does 123 = .ok (.aload_n 0, 1) := by decide +kernel
theorem d_M_does_124 : decode c_M_does 124 = .ok (.getfield 36, 3) := by decide +kernel
theorem d_M_does_127 : decode c_M_does 127 = .ok (.iload_n 2, 1) := by decide +kernel
theorem d_M_does_128 : decode c_M_does 128 = .ok (.iload 4, 2) := by decide +kernel
theorem d_M_does_130 : decode c_M_does 130 = .ok (.iastore, 1) := by decide +kernel
theorem d_M_does_131 : decode c_M_does 131 = .ok (.goto 63, 3) := by decide +kernel
theorem d_M_does_134 : decode c_M_does 134 = .ok (.aload_n 0, 1) := by decide +kernel
theorem d_M_does_135 : decode c_M_does 135 = .ok (.getfield 43, 3) := by decide +kernel
theorem d_M_does_138 : decode c_M_does 138 = .ok (.iload_n 2, 1) := by decide +kernel
theorem d_M_does_139 : decode c_M_does 139 = .ok (.iload_n 3, 1) := by decide +kernel
theorem d_M_does_140 : decode c_M_does 140 = .ok (.iastore, 1) := by decide +kernel
theorem d_M_does_141 : decode c_M_does 141 = .ok (.goto 53, 3) := by decide +kernel
theorem d_M_does_144 : decode c_M_does 144 = .ok (.aload_n 0, 1) := by decide +kernel
theorem d_M_does_145 : decode c_M_does 145 = .ok (.iload_n 2, 1) := by decide +kernel
theorem d_M_does_146 : decode c_M_does 146 = .ok (.iload_n 3, 1) := by decide +kernel
theorem d_M_does_147 : decode c_M_does 147 = .ok (.iload 4, 2) := by decide +kernel
theorem d_M_does_149 : decode c_M_does 149 = .ok (.invokevirtual 77, 3) := by decide +kernel
theorem d_M_does_152 : decode c_M_does 152 = .ok (.goto 42, 3) := by decide +kernel
theorem d_M_does_155 : decode c_M_does 155 = .ok (.aload_n 0, 1) := by decide +kernel
theorem d_M_does_156 : decode c_M_does 156 = .ok (.dup, 1) := by decide +kernel
theorem d_M_does_157 : decode c_M_does 157 = .ok (.getfield 61, 3) := by decide +kernel
theorem d_M_does_160 : decode c_M_does 160 = .ok (.iconst 1, 1) := by decide +kernel
theorem d_M_does_161 : decode c_M_does 161 = .ok (.iadd, 1) := by decide +kernel
theorem d_M_does_162 : decode c_M_does 162 = .ok (.putfield 61, 3) := by decide +kernel
theorem d_M_does_165 : decode c_M_does 165 = .ok (.aload_n 0, 1) := by decide +kernel
theorem d_M_does_166 : decode c_M_does 166 = .ok (.aload_n 0, 1) := by decide +kernel
theorem d_M_does_167 : decode c_M_does 167 = .ok (.getfield 64, 3) := by decide +kernel
theorem d_M_does_170 : decode c_M_does 170 = .ok (.iload_n 2, 1) := by decide +kernel
theorem d_M_does_171 : decode c_M_does 171 = .ok (.iadd, 1) := by decide +kernel
theorem d_M_does_172 : decode c_M_does 172 = .ok (.ldc 81, 2) := by decide +kernel
theorem d_M_does_174 : decode c_M_does 174 = .ok (.irem, 1) := by decide +kernel
theorem d_M_does_175 : decode c_M_does 175 = .ok (.putfield 64, 3) := by decide +kernel
theorem d_M_does_178 : decode c_M_does 178 = .ok (.aload_n 0, 1) := by decide +kernel
theorem d_M_does_179 : decode c_M_does 179 = .ok (.aload_n 0, 1) := by decide +kernel
theorem d_M_does_180 : decode c_M_does 180 = .ok (.getfield 67, 3) := by decide +kernel
theorem d_M_does_183 : decode c_M_does 183 = .ok (.aload_n 0, 1) := by decide +kernel
theorem d_M_does_184 : decode c_M_does 184 = .ok (.getfield 64, 3) := by decide +kernel
theorem d_M_does_187 : decode c_M_does 187 = .ok (.iadd, 1) := by decide +kernel
theorem d_M_does_188 : decode c_M_does 188 = .ok (.ldc 81, 2) := by decide +kernel
theorem d_M_does_190 : decode c_M_does 190 = .ok (.irem, 1) := by decide +kernel
theorem d_M_does_191 : decode c_M_does 191 = .ok (.putfield 67, 3) := by decide +kernel
theorem d_M_does_194 : decode c_M_does 194 = .ok (.return_, 1) := by decide +kernel
theorem d_M_calls_0 : decode c_M_calls 0 = .ok (.aload_n 0, 1) := by decide +kernel
theorem d_M_calls_1 : decode c_M_calls 1 = .ok (.getfield 43, 3) := by decide +kernel
theorem d_M_calls_4 : decode c_M_calls 4 = .ok (.iload_n 1, 1) := by decide +kernel
theorem d_M_calls_5 : decode c_M_calls 5 = .ok (.iaload, 1) := by decide +kernel
theorem d_M_calls_6 : decode c_M_calls 6 = .ok (.ifCond .le 34, 3) := by decide +kernel
theorem d_M_calls_9 : decode c_M_calls 9 = .ok (.aload_n 0, 1) := by decide +kernel
theorem d_M_calls_10 : decode c_M_calls 10 = .ok (.dup, 1) := by decide +kernel
theorem d_M_calls_11 : decode c_M_calls 11 = .ok (.getfield 46, 3) := by decide +kernel
theorem d_M_calls_14 : decode c_M_calls 14 = .ok (.iconst 1, 1) := by decide +kernel
theorem d_M_calls_15 : decode c_M_calls 15 = .ok (.iadd, 1) := by decide +kernel
theorem d_M_calls_16 : decode c_M_calls 16 = .ok (.putfield 46, 3) := by decide +kernel
theorem d_M_calls_19 : decode c_M_calls 19 = .ok (.aload_n 0, 1) := by decide +kernel
theorem d_M_calls_20 : decode c_M_calls 20 = .ok (.aload_n 0, 1) := by decide +kernel
theorem d_M_calls_21 : decode c_M_calls 21 = .ok (.getfield 43, 3) := by decide +kernel
theorem d_M_calls_24 : decode c_M_calls 24 = .ok (.iload_n 1, 1) := by decide +kernel
theorem d_M_calls_25 : decode c_M_calls 25 = .ok (.iaload, 1) := by decide +kernel
theorem d_M_calls_26 : decode c_M_calls 26 = .ok (.putfield 49, 3) := by decide +kernel
theorem d_M_calls_29 : decode c_M_calls 29 = .ok (.aload_n 0, 1) := by decide +kernel
theorem d_M_calls_30 : decode c_M_calls 30 = .ok (.iload_n 1, 1) := by decide +kernel
theorem d_M_calls_31 : decode c_M_calls 31 = .ok (.putfield 52, 3) := by decide +kernel
theorem d_M_calls_34 : decode c_M_calls 34 = .ok (.aload_n 0, 1) := by decide +kernel
theorem d_M_calls_35 : decode c_M_calls 35 = .ok (.iload_n 2, 1) := by decide +kernel
theorem d_M_calls_36 : decode c_M_calls 36 = .ok (.putfield 55, 3) := by decide +kernel
theorem d_M_calls_39 : decode c_M_calls 39 = .ok (.return_, 1) := by decide +kernel
theorem d_M_calls_40 : decode c_M_calls 40 = .ok (.bipush 10, 2) := by decide +kernel
theorem d_M_calls_42 : decode c_M_calls 42 = .ok (.aload_n 0, 1) := by decide +kernel
theorem d_M_calls_43 : decode c_M_calls 43 = .ok (.getfield 30, 3) := by decide +kernel
theorem d_M_calls_46 : decode c_M_calls 46 = .ok (.iload_n 1, 1) := by decide +kernel
theorem d_M_calls_47 : decode c_M_calls 47 = .ok (.iaload, 1) := by decide +kernel
theorem d_M_calls_48 : decode c_M_calls 48 = .ok (.imul, 1) := by decide +kernel
theorem d_M_calls_49 : decode c_M_calls 49 = .ok (.iload_n 2, 1) := by decide +kernel
theorem d_M_calls_50 : decode c_M_calls 50 = .ok (.iadd, 1) := by decide +kernel
theorem d_M_calls_51 : decode c_M_calls 51 = .ok (.istore 4, 2) := by decide +kernel
theorem d_M_calls_53 : decode c_M_calls 53 = .ok (.aload_n 0, 1) := by decide +kernel
theorem d_M_calls_54 : decode c_M_calls 54 = .ok (.getfield 27, 3) := by decide +kernel
theorem d_M_calls_57 : decode c_M_calls 57 = .ok (.iload 4, 2) := by decide +kernel
theorem d_M_calls_59 : decode c_M_calls 59 = .ok (.aload_n 0, 1) := by decide +kernel
theorem d_M_calls_60 : decode c_M_calls 60 = .ok (.getfield 27, 3) := by decide +kernel
theorem d_M_calls_63 : decode c_M_calls 63 = .ok (.iload 4, 2) := by decide +kernel
theorem d_M_calls_65 : decode c_M_calls 65 = .ok (.iaload, 1) := by decide +kernel
theorem d_M_calls_66 : decode c_M_calls 66 = .ok (.iconst 1, 1) := by decide +kernel
theorem d_M_calls_67 : decode c_M_calls 67 = .ok (.iadd, 1) := by decide +kernel
theorem d_M_calls_68 : decode c_M_calls 68 = .ok (.iastore, 1) := by decide +kernel
theorem d_M_calls_69 : decode c_M_calls 69 = .ok (.aload_n 0, 1) := by decide +kernel
theorem d_M_calls_70 : decode c_M_calls 70 = .ok (.getfield 39, 3) := by decide +kernel
theorem d_M_calls_73 : decode c_M_calls 73 = .ok (.iload_n 1, 1) := by decide +kernel
theorem d_M_calls_74 : decode c_M_calls 74 = .ok (.aload_n 0, 1) := by decide +kernel
theorem d_M_calls_75 : decode c_M_calls 75 = .ok (.getfield 39, 3) := by decide +kernel
theorem d_M_calls_78 : decode c_M_calls 78 = .ok (.iload_n 1, 1) := by decide +kernel
theorem d_M_calls_79 : decode c_M_calls 79 = .ok (.laload, 1) := by decide +kernel
theorem d_M_calls_80 : decode c_M_calls 80 = .ok (.iload_n 3, 1) := by decide +kernel
theorem d_M_calls_81 : decode c_M_calls 81 = .ok (.i2l, 1) := by decide +kernel
theorem d_M_calls_82 : decode c_M_calls 82 = .ok (.ladd, 1) := by decide +kernel
theorem d_M_calls_83 : decode c_M_calls 83 = .ok (.lastore, 1) := by decide +kernel
theorem d_M_calls_84 : decode c_M_calls 84 = .ok (.aload_n 0, 1) := by decide +kernel
theorem d_M_calls_85 : decode c_M_calls 85 = .ok (.dup, 1) := by decide +kernel
theorem d_M_calls_86 : decode c_M_calls 86 = .ok (.getfield 58, 3) := by decide +kernel
theorem d_M_calls_89 : decode c_M_calls 89 = .ok (.iconst 1, 1) := by decide +kernel
theorem d_M_calls_90 : decode c_M_calls 90 = .ok (.iadd, 1) := by decide +kernel
theorem d_M_calls_91 : decode c_M_calls 91 = .ok (.putfield 58, 3) := by decide +kernel
theorem d_M_calls_94 : decode c_M_calls 94 = .ok (.return_, 1) := by decide +kernel
theorem d_M_answer_0 : decode c_M_answer 0 = .ok (.aload_n 0, 1) := by decide +kernel
theorem d_M_answer_1 : decode c_M_answer 1 = .ok (.getfield 33, 3) := by decide +kernel
theorem d_M_answer_4 : decode c_M_answer 4 = .ok (.iload_n 1, 1) := by decide +kernel
theorem d_M_answer_5 : decode c_M_answer 5 = .ok (.iaload, 1) := by decide +kernel
theorem d_M_answer_6 : decode c_M_answer 6 = .ok (.i2l, 1) := by decide +kernel
theorem d_M_answer_7 : decode c_M_answer 7 = .ok (.aload_n 0, 1) := by decide +kernel
theorem d_M_answer_8 : decode c_M_answer 8 = .ok (.getfield 36, 3) := by decide +kernel
theorem d_M_answer_11 : decode c_M_answer 11 = .ok (.iload_n 1, 1) := by decide +kernel
theorem d_M_answer_12 : decode c_M_answer 12 = .ok (.iaload, 1) := by decide +kernel
theorem d_M_answer_13 : decode c_M_answer 13 = .ok (.i2l, 1) := by decide +kernel
theorem d_M_answer_14 : decode c_M_answer 14 = .ok (.iload_n 3, 1) := by decide +kernel
theorem d_M_answer_15 : decode c_M_answer 15 = .ok (.i2l, 1) := by decide +kernel
theorem d_M_answer_16 : decode c_M_answer 16 = .ok (.lmul, 1) := by decide +kernel
theorem d_M_answer_17 : decode c_M_answer 17 = .ok (.ladd, 1) := by decide +kernel
theorem d_M_answer_18 : decode c_M_answer 18 = .ok (.iload_n 2, 1) := by decide +kernel
theorem d_M_answer_19 : decode c_M_answer 19 = .ok (.i2l, 1) := by decide +kernel
theorem d_M_answer_20 : decode c_M_answer 20 = .ok (.ladd, 1) := by decide +kernel
theorem d_M_answer_21 : decode c_M_answer 21 = .ok (.aload_n 0, 1) := by decide +kernel
theorem d_M_answer_22 : decode c_M_answer 22 = .ok (.getfield 39, 3) := by decide +kernel
theorem d_M_answer_25 : decode c_M_answer 25 = .ok (.iload_n 1, 1) := by decide +kernel
theorem d_M_answer_26 : decode c_M_answer 26 = .ok (.laload, 1) := by decide +kernel
theorem d_M_answer_27 : decode c_M_answer 27 = .ok (.ladd, 1) := by decide +kernel
theorem d_M_answer_28 : decode c_M_answer 28 = .ok (.lreturn, 1) := by decide +kernel
theorem d_M_thrown_0 : decode c_M_thrown 0 = .ok (.aload_n 0, 1) := by decide +kernel
theorem d_M_thrown_1 : decode c_M_thrown 1 = .ok (.getfield 7, 3) := by decide +kernel
theorem d_M_thrown_4 : decode c_M_thrown 4 = .ok (.ireturn, 1) := by decide +kernel
theorem d_M_make_0 : decode c_M_make 0 = .ok (.aload_n 0, 1) := by decide +kernel
theorem d_M_make_1 : decode c_M_make 1 = .ok (.iload_n 1, 1) := by decide +kernel
theorem d_M_make_2 : decode c_M_make 2 = .ok (.iconst 0, 1) := by decide +kernel
theorem d_M_make_3 : decode c_M_make 3 = .ok (.iconst 4, 1) := by decide +kernel
theorem d_M_make_4 : decode c_M_make 4 = .ok (.invokestatic 82, 3) := by decide +kernel
theorem d_M_make_7 : decode c_M_make 7 = .ok (.ifCond .eq 7, 3) := by decide +kernel
theorem d_M_make_10 : decode c_M_make 10 = .ok (.iconst 1, 1) := by decide +kernel
theorem d_M_make_11 : decode c_M_make 11 = .ok (.goto 28, 3) := by decide +kernel
theorem d_M_make_14 : decode c_M_make 14 = .ok (.aload_n 0, 1) := by decide +kernel
theorem d_M_make_15 : decode c_M_make 15 = .ok (.getfield 20, 3) := by decide +kernel
theorem d_M_make_18 : decode c_M_make 18 = .ok (.iload_n 1, 1) := by decide +kernel
theorem d_M_make_19 : decode c_M_make 19 = .ok (.iaload, 1) := by decide +kernel
theorem d_M_make_20 : decode c_M_make 20 = .ok (.bipush 9, 2) := by decide +kernel
theorem d_M_make_22 : decode c_M_make 22 = .ok (.if_icmp .eq 12, 3) := by decide +kernel
theorem d_M_make_25 : decode c_M_make 25 = .ok (.aload_n 0, 1) := by decide +kernel
theorem d_M_make_26 : decode c_M_make 26 = .ok (.getfield 13, 3) := by decide +kernel
theorem d_M_make_29 : decode c_M_make 29 = .ok (.bipush 60, 2) := by decide +kernel
theorem d_M_make_31 : decode c_M_make 31 = .ok (.if_icmp .ne 7, 3) := by decide +kernel
theorem d_M_make_34 : decode c_M_make 34 = .ok (.iconst 2, 1) := by decide +kernel
theorem d_M_make_35 : decode c_M_make 35 = .ok (.goto 4, 3) := by decide +kernel
theorem d_M_make_38 : decode c_M_make 38 = .ok (.iconst 0, 1) := by decide +kernel
theorem d_M_make_39 : decode c_M_make 39 = .ok (.putfield 7, 3) := by decide +kernel
theorem d_M_make_42 : decode c_M_make 42 = .ok (.aload_n 0, 1) := by decide +kernel
theorem d_M_make_43 : decode c_M_make 43 = .ok (.getfield 7, 3) := by decide +kernel
theorem d_M_make_46 : decode c_M_make 46 = .ok (.ifCond .eq 5, 3) := by decide +kernel
theorem d_M_make_49 : decode c_M_make 49 = .ok (.iconst 0, 1) := by decide +kernel
theorem d_M_make_50 : decode c_M_make 50 = .ok (.ireturn, 1) := by decide +kernel
theorem d_M_make_51 : decode c_M_make 51 = .ok (.aload_n 0, 1) := by decide +kernel
theorem d_M_make_52 : decode c_M_make 52 = .ok (.iconst 0, 1) := by decide +kernel
theorem d_M_make_53 : decode c_M_make 53 = .ok (.iload_n 1, 1) := by decide +kernel
theorem d_M_make_54 : decode c_M_make 54 = .ok (.iconst 0, 1) := by decide +kernel
theorem d_M_make_55 : decode c_M_make 55 = .ok (.iconst 0, 1) := by decide +kernel
theorem d_M_make_56 : decode c_M_make 56 = .ok (.invokevirtual 86, 3) := by decide +kernel
theorem d_M_make_59 : decode c_M_make 59 = .ok (.aload_n 0, 1) := by decide +kernel
theorem d_M_make_60 : decode c_M_make 60 = .ok (.getfield 20, 3) := by decide +kernel
theorem d_M_make_63 : decode c_M_make 63 = .ok (.iload_n 1, 1) := by decide +kernel
theorem d_M_make_64 : decode c_M_make 64 = .ok (.iaload, 1) := by decide +kernel
theorem d_M_make_65 : decode c_M_make 65 = .ok (.ireturn, 1) := by decide +kernel
theorem d_M_drop_0 : decode c_M_drop 0 = .ok (.aload_n 0, 1) := by decide +kernel
theorem d_M_drop_1 : decode c_M_drop 1 = .ok (.iload_n 1, 1) := by decide +kernel
theorem d_M_drop_2 : decode c_M_drop 2 = .ok (.iconst 0, 1) := by decide +kernel
theorem d_M_drop_3 : decode c_M_drop 3 = .ok (.iconst 4, 1) := by decide +kernel
theorem d_M_drop_4 : decode c_M_drop 4 = .ok (.invokestatic 82, 3) := by decide +kernel
theorem d_M_drop_7 : decode c_M_drop 7 = .ok (.ifCond .eq 7, 3) := by decide +kernel
theorem d_M_drop_10 : decode c_M_drop 10 = .ok (.iconst 2, 1) := by decide +kernel
theorem d_M_drop_11 : decode c_M_drop 11 = .ok (.goto 30, 3) := by decide +kernel
theorem d_M_drop_14 : decode c_M_drop 14 = .ok (.aload_n 0, 1) := by decide +kernel
theorem d_M_drop_15 : decode c_M_drop 15 = .ok (.iload_n 1, 1) := by decide +kernel
theorem d_M_drop_16 : decode c_M_drop 16 = .ok (.iload_n 2, 1) := by decide +kernel
theorem d_M_drop_17 : decode c_M_drop 17 = .ok (.invokevirtual 89, 3) := by decide +kernel
theorem d_M_drop_20 : decode c_M_drop 20 = .ok (.ifCond .ne 7, 3) := by decide +kernel
theorem d_M_drop_23 : decode c_M_drop 23 = .ok (.iconst 1, 1) := by decide +kernel
theorem d_M_drop_24 : decode c_M_drop 24 = .ok (.goto 17, 3) := by decide +kernel
theorem d_M_drop_27 : decode c_M_drop 27 = .ok (.aload_n 0, 1) := by decide +kernel
theorem d_M_drop_28 : decode c_M_drop 28 = .ok (.getfield 13, 3) := by decide +kernel
theorem d_M_drop_31 : decode c_M_drop 31 = .ok (.bipush 60, 2) := by decide +kernel
theorem d_M_drop_33 : decode c_M_drop 33 = .ok (.if_icmp .ne 7, 3) := by decide +kernel
theorem d_M_drop_36 : decode c_M_drop 36 = .ok (.iconst 3, 1) := by decide +kernel
theorem d_M_drop_37 : decode c_M_drop 37 = .ok (.goto 4, 3) := by decide +kernel
theorem d_M_drop_40 : decode c_M_drop 40 = .ok (.iconst 0, 1) := by decide +kernel
theorem d_M_drop_41 : decode c_M_drop 41 = .ok (.putfield 7, 3) := by decide +kernel
theorem d_M_drop_44 : decode c_M_drop 44 = .ok (.aload_n 0, 1) := by decide +kernel
theorem d_M_drop_45 : decode c_M_drop 45 = .ok (.getfield 7, 3) := by decide +kernel
theorem d_M_drop_48 : decode c_M_drop 48 = .ok (.ifCond .eq 5, 3) := by decide +kernel
theorem d_M_drop_51 : decode c_M_drop 51 = .ok (.iconst 0, 1) := by decide +kernel
theorem d_M_drop_52 : decode c_M_drop 52 = .ok (.ireturn, 1) := by decide +kernel
theorem d_M_drop_53 : decode c_M_drop 53 = .ok (.aload_n 0, 1) := by decide +kernel
theorem d_M_drop_54 : decode c_M_drop 54 = .ok (.iconst 1, 1) := by decide +kernel
theorem d_M_drop_55 : decode c_M_drop 55 = .ok (.iload_n 1, 1) := by decide +kernel
theorem d_M_drop_56 : decode c_M_drop 56 = .ok (.iload_n 2, 1) := by decide +kernel
theorem d_M_drop_57 : decode c_M_drop 57 = .ok (.iconst 0, 1) := by decide +kernel
theorem d_M_drop_58 : decode c_M_drop 58 = .ok (.invokevirtual 86, 3) := by decide +kernel
theorem d_M_drop_61 : decode c_M_drop 61 = .ok (.aload_n 0, 1) := by decide +kernel
theorem d_M_drop_62 : decode c_M_drop 62 = .ok (.getfield 27, 3) := by decide +kernel
theorem d_M_drop_65 : decode c_M_drop 65 = .ok (.bipush 10, 2) := by decide +kernel
theorem d_M_drop_67 : decode c_M_drop 67 = .ok (.iload_n 1, 1) := by decide +kernel
theorem d_M_drop_68 : decode c_M_drop 68 = .ok (.imul, 1) := by decide +kernel
theorem d_M_drop_69 : decode c_M_drop 69 = .ok (.iload_n 2, 1) := by decide +kernel
theorem d_M_drop_70 : decode c_M_drop 70 = .ok (.iadd, 1) := by decide +kernel
theorem d_M_drop_71 : decode c_M_drop 71 = .ok (.iaload, 1) := by decide +kernel
theorem d_M_drop_72 : decode c_M_drop 72 = .ok (.ireturn, 1) := by decide +kernel
theorem d_M_serves_0 : decode c_M_serves 0 = .ok (.aload_n 0, 1) := by decide +kernel
theorem d_M_serves_1 : decode c_M_serves 1 = .ok (.iload_n 1, 1) := by decide +kernel
theorem d_M_serves_2 : decode c_M_serves 2 = .ok (.iconst 0, 1) := by decide +kernel
theorem d_M_serves_3 : decode c_M_serves 3 = .ok (.iconst 5, 1) := by decide +kernel
theorem d_M_serves_4 : decode c_M_serves 4 = .ok (.invokestatic 82, 3) := by decide +kernel
theorem d_M_serves_7 : decode c_M_serves 7 = .ok (.ifCond .ne 12, 3) := by decide +kernel
theorem d_M_serves_10 : decode c_M_serves 10 = .ok (.iload_n 2, 1) := by decide +kernel
theorem d_M_serves_11 : decode c_M_serves 11 = .ok (.iconst 0, 1) := by decide +kernel
theorem d_M_serves_12 : decode c_M_serves 12 = .ok (.iconst 4, 1) := by decide +kernel
theorem d_M_serves_13 : decode c_M_serves 13 = .ok (.invokestatic 82, 3) := by decide +kernel
theorem d_M_serves_16 : decode c_M_serves 16 = .ok (.ifCond .eq 7, 3) := by decide +kernel
theorem d_M_serves_19 : decode c_M_serves 19 = .ok (.iconst 1, 1) := by decide +kernel
theorem d_M_serves_20 : decode c_M_serves 20 = .ok (.goto 17, 3) := by decide +kernel
theorem d_M_serves_23 : decode c_M_serves 23 = .ok (.aload_n 0, 1) := by decide +kernel
theorem d_M_serves_24 : decode c_M_serves 24 = .ok (.getfield 13, 3) := by decide +kernel
theorem d_M_serves_27 : decode c_M_serves 27 = .ok (.bipush 60, 2) := by decide +kernel
theorem d_M_serves_29 : decode c_M_serves 29 = .ok (.if_icmp .ne 7, 3) := by decide +kernel
theorem d_M_serves_32 : decode c_M_serves 32 = .ok (.iconst 2, 1) := by decide +kernel
theorem d_M_serves_33 : decode c_M_serves 33 = .ok (.goto 4, 3) := by decide +kernel
theorem d_M_serves_36 : decode c_M_serves 36 = .ok (.iconst 0, 1) := by decide +kernel
theorem d_M_serves_37 : decode c_M_serves 37 = .ok (.putfield 7, 3) := by decide +kernel
theorem d_M_serves_40 : decode c_M_serves 40 = .ok (.aload_n 0, 1) := by decide +kernel
theorem d_M_serves_41 : decode c_M_serves 41 = .ok (.getfield 7, 3) := by decide +kernel
theorem d_M_serves_44 : decode c_M_serves 44 = .ok (.ifCond .ne 11, 3) := by decide +kernel
theorem d_M_serves_47 : decode c_M_serves 47 = .ok (.aload_n 0, 1) := by decide +kernel
theorem d_M_serves_48 : decode c_M_serves 48 = .ok (.iconst 2, 1) := by decide +kernel
theorem d_M_serves_49 : decode c_M_serves 49 = .ok (.iload_n 1, 1) := by decide +kernel
theorem d_M_serves_50 : decode c_M_serves 50 = .ok (.iload_n 2, 1) := by decide +kernel
theorem d_M_serves_51 : decode c_M_serves 51 = .ok (.iconst 0, 1) := by decide +kernel
theorem d_M_serves_52 : decode c_M_serves 52 = .ok (.invokevirtual 86, 3) := by decide +kernel
theorem d_M_serves_55 : decode c_M_serves 55 = .ok (.return_, 1) := by decide +kernel
theorem d_M_answers_0 : decode c_M_answers 0 = .ok (.aload_n 0, 1) := by decide +kernel
theorem d_M_answers_1 : decode c_M_answers 1 = .ok (.iload_n 1, 1) := by decide +kernel
theorem d_M_answers_2 : decode c_M_answers 2 = .ok (.iconst 0, 1) := by decide +kernel
theorem d_M_answers_3 : decode c_M_answers 3 = .ok (.iconst 5, 1) := by decide +kernel
theorem d_M_answers_4 : decode c_M_answers 4 = .ok (.invokestatic 82, 3) := by decide +kernel
theorem d_M_answers_7 : decode c_M_answers 7 = .ok (.ifCond .ne 25, 3) := by decide +kernel
theorem d_M_answers_10 : decode c_M_answers 10 = .ok (.iload_n 2, 1) := by decide +kernel
theorem d_M_answers_11 : decode c_M_answers 11 = .ok (.ldc 93, 2) := by decide +kernel
theorem d_M_answers_13 : decode c_M_answers 13 = .ok (.ldc 94, 2) := by decide +kernel
theorem d_M_answers_15 : decode c_M_answers 15 = .ok (.invokestatic 82, 3) := by decide +kernel
theorem d_M_answers_18 : decode c_M_answers 18 = .ok (.ifCond .ne 14, 3) := by decide +kernel
theorem d_M_answers_21 : decode c_M_answers 21 = .ok (.iload_n 3, 1) := by decide +kernel
theorem d_M_answers_22 : decode c_M_answers 22 = .ok (.ldc 93, 2) := by decide +kernel
theorem d_M_answers_24 : decode c_M_answers 24 = .ok (.ldc 94, 2) := by decide +kernel
theorem d_M_answers_26 : decode c_M_answers 26 = .ok (.invokestatic 82, 3) := by decide +kernel
theorem d_M_answers_29 : decode c_M_answers 29 = .ok (.ifCond .eq 7, 3) := by decide +kernel
theorem d_M_answers_32 : decode c_M_answers 32 = .ok (.iconst 1, 1) := by decide +kernel
theorem d_M_answers_33 : decode c_M_answers 33 = .ok (.goto 17, 3) := by decide +kernel
theorem d_M_answers_36 : decode c_M_answers 36 = .ok (.aload_n 0, 1) := by decide +kernel
theorem d_M_answers_37 : decode c_M_answers 37 = .ok (.getfield 13, 3) := by decide +kernel
theorem d_M_answers_40 : decode c_M_answers 40 = .ok (.bipush 60, 2) := by decide +kernel
theorem d_M_answers_42 : decode c_M_answers 42 = .ok (.if_icmp .ne 7, 3) := by decide +kernel
theorem d_M_answers_45 : decode c_M_answers 45 = .ok (.iconst 2, 1) := by decide +kernel
theorem d_M_answers_46 : decode c_M_answers 46 = .ok (.goto 4, 3) := by decide +kernel
theorem d_M_answers_49 : decode c_M_answers 49 = .ok (.iconst 0, 1) := by decide +kernel
theorem d_M_answers_50 : decode c_M_answers 50 = .ok (.putfield 7, 3) := by decide +kernel
theorem d_M_answers_53 : decode c_M_answers 53 = .ok (.aload_n 0, 1) := by decide +kernel
theorem d_M_answers_54 : decode c_M_answers 54 = .ok (.getfield 7, 3) := by decide +kernel
theorem d_M_answers_57 : decode c_M_answers 57 = .ok (.ifCond .ne 11, 3) := by decide +kernel
theorem d_M_answers_60 : decode c_M_answers 60 = .ok (.aload_n 0, 1) := by decide +kernel
theorem d_M_answers_61 : decode c_M_answers 61 = .ok (.iconst 3, 1) := by decide +kernel
theorem d_M_answers_62 : decode c_M_answers 62 = .ok (.iload_n 1, 1) := by decide +kernel
theorem d_M_answers_63 : decode c_M_answers 63 = .ok (.iload_n 2, 1) := by decide +kernel
theorem d_M_answers_64 : decode c_M_answers 64 = .ok (.iload_n 3, 1) := by decide +kernel
theorem d_M_answers_65 : decode c_M_answers 65 = .ok (.invokevirtual 86, 3) := by decide +kernel
theorem d_M_answers_68 : decode c_M_answers 68 = .ok (.return_, 1) := by decide +kernel
theorem d_M_fails_0 : decode c_M_fails 0 = .ok (.aload_n 0, 1) := by decide +kernel
theorem d_M_fails_1 : decode c_M_fails 1 = .ok (.iload_n 1, 1) := by decide +kernel
theorem d_M_fails_2 : decode c_M_fails 2 = .ok (.iconst 0, 1) := by decide +kernel
theorem d_M_fails_3 : decode c_M_fails 3 = .ok (.iconst 5, 1) := by decide +kernel
theorem d_M_fails_4 : decode c_M_fails 4 = .ok (.invokestatic 82, 3) := by decide +kernel
theorem d_M_fails_7 : decode c_M_fails 7 = .ok (.ifCond .ne 12, 3) := by decide +kernel
theorem d_M_fails_10 : decode c_M_fails 10 = .ok (.iload_n 2, 1) := by decide +kernel
theorem d_M_fails_11 : decode c_M_fails 11 = .ok (.iconst 0, 1) := by decide +kernel
theorem d_M_fails_12 : decode c_M_fails 12 = .ok (.iconst 3, 1) := by decide +kernel
theorem d_M_fails_13 : decode c_M_fails 13 = .ok (.invokestatic 82, 3) := by decide +kernel
theorem d_M_fails_16 : decode c_M_fails 16 = .ok (.ifCond .eq 7, 3) := by decide +kernel
theorem d_M_fails_19 : decode c_M_fails 19 = .ok (.iconst 1, 1) := by decide +kernel
theorem d_M_fails_20 : decode c_M_fails 20 = .ok (.goto 17, 3) := by decide +kernel
theorem d_M_fails_23 : decode c_M_fails 23 = .ok (.aload_n 0, 1) := by decide +kernel
theorem d_M_fails_24 : decode c_M_fails 24 = .ok (.getfield 13, 3) := by decide +kernel
theorem d_M_fails_27 : decode c_M_fails 27 = .ok (.bipush 60, 2) := by decide +kernel
theorem d_M_fails_29 : decode c_M_fails 29 = .ok (.if_icmp .ne 7, 3) := by decide +kernel
theorem d_M_fails_32 : decode c_M_fails 32 = .ok (.iconst 2, 1) := by decide +kernel
theorem d_M_fails_33 : decode c_M_fails 33 = .ok (.goto 4, 3) := by decide +kernel
theorem d_M_fails_36 : decode c_M_fails 36 = .ok (.iconst 0, 1) := by decide +kernel
theorem d_M_fails_37 : decode c_M_fails 37 = .ok (.putfield 7, 3) := by decide +kernel
theorem d_M_fails_40 : decode c_M_fails 40 = .ok (.aload_n 0, 1) := by decide +kernel
theorem d_M_fails_41 : decode c_M_fails 41 = .ok (.getfield 7, 3) := by decide +kernel
theorem d_M_fails_44 : decode c_M_fails 44 = .ok (.ifCond .eq 5, 3) := by decide +kernel
theorem d_M_fails_47 : decode c_M_fails 47 = .ok (.iconst 0, 1) := by decide +kernel
theorem d_M_fails_48 : decode c_M_fails 48 = .ok (.ireturn, 1) := by decide +kernel
theorem d_M_fails_49 : decode c_M_fails 49 = .ok (.aload_n 0, 1) := by decide +kernel
theorem d_M_fails_50 : decode c_M_fails 50 = .ok (.getfield 43, 3) := by decide +kernel
theorem d_M_fails_53 : decode c_M_fails 53 = .ok (.iload_n 1, 1) := by decide +kernel
theorem d_M_fails_54 : decode c_M_fails 54 = .ok (.iaload, 1) := by decide +kernel
theorem d_M_fails_55 : decode c_M_fails 55 = .ok (.istore_n 3, 1) := by decide +kernel
theorem d_M_fails_56 : decode c_M_fails 56 = .ok (.aload_n 0, 1) := by decide +kernel
theorem d_M_fails_57 : decode c_M_fails 57 = .ok (.iconst 4, 1) := by decide +kernel
theorem d_M_fails_58 : decode c_M_fails 58 = .ok (.iload_n 1, 1) := by decide +kernel
theorem d_M_fails_59 : decode c_M_fails 59 = .ok (.iload_n 2, 1) := by decide +kernel
theorem d_M_fails_60 : decode c_M_fails 60 = .ok (.iconst 0, 1) := by decide +kernel
theorem d_M_fails_61 : decode c_M_fails 61 = .ok (.invokevirtual 86, 3) := by decide +kernel
theorem d_M_fails_64 : decode c_M_fails 64 = .ok (.iload_n 3, 1) := by decide +kernel
theorem d_M_fails_65 : decode c_M_fails 65 = .ok (.ireturn, 1) := by decide +kernel
theorem d_M_call_0 : decode c_M_call 0 = .ok (.aload_n 0, 1) := by decide +kernel
theorem d_M_call_1 : decode c_M_call 1 = .ok (.iload_n 1, 1) := by decide +kernel
theorem d_M_call_2 : decode c_M_call 2 = .ok (.iconst 0, 1) := by decide +kernel
theorem d_M_call_3 : decode c_M_call 3 = .ok (.iconst 5, 1) := by decide +kernel
theorem d_M_call_4 : decode c_M_call 4 = .ok (.invokestatic 82, 3) := by decide +kernel
theorem d_M_call_7 : decode c_M_call 7 = .ok (.ifCond .ne 14, 3) := by decide +kernel
theorem d_M_call_10 : decode c_M_call 10 = .ok (.iload_n 3, 1) := by decide +kernel
theorem d_M_call_11 : decode c_M_call 11 = .ok (.ldc 93, 2) := by decide +kernel
theorem d_M_call_13 : decode c_M_call 13 = .ok (.ldc 94, 2) := by decide +kernel
theorem d_M_call_15 : decode c_M_call 15 = .ok (.invokestatic 82, 3) := by decide +kernel
theorem d_M_call_18 : decode c_M_call 18 = .ok (.ifCond .eq 7, 3) := by decide +kernel
theorem d_M_call_21 : decode c_M_call 21 = .ok (.iconst 1, 1) := by decide +kernel
theorem d_M_call_22 : decode c_M_call 22 = .ok (.goto 35, 3) := by decide +kernel
theorem d_M_call_25 : decode c_M_call 25 = .ok (.aload_n 0, 1) := by decide +kernel
theorem d_M_call_26 : decode c_M_call 26 = .ok (.aload_n 0, 1) := by decide +kernel
theorem d_M_call_27 : decode c_M_call 27 = .ok (.getfield 30, 3) := by decide +kernel
theorem d_M_call_30 : decode c_M_call 30 = .ok (.iload_n 1, 1) := by decide +kernel
theorem d_M_call_31 : decode c_M_call 31 = .ok (.iaload, 1) := by decide +kernel
theorem d_M_call_32 : decode c_M_call 32 = .ok (.iload_n 2, 1) := by decide +kernel
theorem d_M_call_33 : decode c_M_call 33 = .ok (.invokevirtual 89, 3) := by decide +kernel
theorem d_M_call_36 : decode c_M_call 36 = .ok (.ifCond .ne 7, 3) := by decide +kernel
theorem d_M_call_39 : decode c_M_call 39 = .ok (.iconst 2, 1) := by decide +kernel
theorem d_M_call_40 : decode c_M_call 40 = .ok (.goto 17, 3) := by decide +kernel
theorem d_M_call_43 : decode c_M_call 43 = .ok (.aload_n 0, 1) := by decide +kernel
theorem d_M_call_44 : decode c_M_call 44 = .ok (.getfield 13, 3) := by decide +kernel
theorem d_M_call_47 : decode c_M_call 47 = .ok (.bipush 60, 2) := by decide +kernel
theorem d_M_call_49 : decode c_M_call 49 = .ok (.if_icmp .ne 7, 3) := by decide +kernel
theorem d_M_call_52 : decode c_M_call 52 = .ok (.iconst 3, 1) := by decide +kernel
theorem d_M_call_53 : decode c_M_call 53 = .ok (.goto 4, 3) := by decide +kernel
theorem d_M_call_56 : decode c_M_call 56 = .ok (.iconst 0, 1) := by decide +kernel
theorem d_M_call_57 : decode c_M_call 57 = .ok (.putfield 7, 3) := by decide +kernel
theorem d_M_call_60 : decode c_M_call 60 = .ok (.aload_n 0, 1) := by decide +kernel
theorem d_M_call_61 : decode c_M_call 61 = .ok (.getfield 7, 3) := by decide +kernel
theorem d_M_call_64 : decode c_M_call 64 = .ok (.ifCond .eq 5, 3) := by decide +kernel
theorem d_M_call_67 : decode c_M_call 67 = .ok (.lconst 0, 1) := by decide +kernel
theorem d_M_call_68 : decode c_M_call 68 = .ok (.lreturn, 1) := by decide +kernel
theorem d_M_call_69 : decode c_M_call 69 = .ok (.aload_n 0, 1) := by decide +kernel
theorem d_M_call_70 : decode c_M_call 70 = .ok (.iload_n 1, 1) := by decide +kernel
theorem d_M_call_71 : decode c_M_call 71 = .ok (.iload_n 2, 1) := by decide +kernel
theorem d_M_call_72 : decode c_M_call 72 = .ok (.iload_n 3, 1) := by decide +kernel
theorem d_M_call_73 : decode c_M_call 73 = .ok (.invokevirtual 95, 3) := by decide +kernel
theorem d_M_call_76 : decode c_M_call 76 = .ok (.lstore 4, 2) := by decide +kernel
theorem d_M_call_78 : decode c_M_call 78 = .ok (.aload_n 0, 1) := by decide +kernel
theorem d_M_call_79 : decode c_M_call 79 = .ok (.aload_n 0, 1) := by decide +kernel
theorem d_M_call_80 : decode c_M_call 80 = .ok (.getfield 43, 3) := by decide +kernel
theorem d_M_call_83 : decode c_M_call 83 = .ok (.iload_n 1, 1) := by decide +kernel
theorem d_M_call_84 : decode c_M_call 84 = .ok (.iaload, 1) := by decide +kernel
theorem d_M_call_85 : decode c_M_call 85 = .ok (.ifCond .le 7, 3) := by decide +kernel
theorem d_M_call_88 : decode c_M_call 88 = .ok (.iconst 4, 1) := by decide +kernel
theorem d_M_call_89 : decode c_M_call 89 = .ok (.goto 4, 3) := by decide +kernel
theorem d_M_call_92 : decode c_M_call 92 = .ok (.iconst 0, 1) := by decide +kernel
theorem d_M_call_93 : decode c_M_call 93 = .ok (.putfield 7, 3) := by decide +kernel
theorem d_M_call_96 : decode c_M_call 96 = .ok (.aload_n 0, 1) := by decide +kernel
theorem d_M_call_97 : decode c_M_call 97 = .ok (.iconst 5, 1) := by decide +kernel
theorem d_M_call_98 : decode c_M_call 98 = .ok (.iload_n 1, 1) := by decide +kernel
theorem d_M_call_99 : decode c_M_call 99 = .ok (.iload_n 2, 1) := by decide +kernel
theorem d_M_call_100 : decode c_M_call 100 = .ok (.iload_n 3, 1) := by decide +kernel
theorem d_M_call_101 : decode c_M_call 101 = .ok (.invokevirtual 86, 3) := by decide +kernel
theorem d_M_call_104 : decode c_M_call 104 = .ok (.aload_n 0, 1) := by decide +kernel
theorem d_M_call_105 : decode c_M_call 105 = .ok (.getfield 7, 3) := by decide +kernel
theorem d_M_call_108 : decode c_M_call 108 = .ok (.ifCond .eq 7, 3) := by decide +kernel
theorem d_M_call_111 : decode c_M_call 111 = .ok (.lconst 0, 1) := by decide +kernel
theorem d_M_call_112 : decode c_M_call 112 = .ok (.goto 5, 3) := by decide +kernel
theorem d_M_call_115 : decode c_M_call 115 = .ok (.lload 4, 2) := by decide +kernel
theorem d_M_call_117 : decode c_M_call 117 = .ok (.lreturn, 1) := by decide +kernel
theorem d_M_again_0 : decode c_M_again 0 = .ok (.aload_n 0, 1) := by decide +kernel
theorem d_M_again_1 : decode c_M_again 1 = .ok (.iload_n 1, 1) := by decide +kernel
theorem d_M_again_2 : decode c_M_again 2 = .ok (.iconst 0, 1) := by decide +kernel
theorem d_M_again_3 : decode c_M_again 3 = .ok (.iconst 5, 1) := by decide +kernel
theorem d_M_again_4 : decode c_M_again 4 = .ok (.invokestatic 82, 3) := by decide +kernel
theorem d_M_again_7 : decode c_M_again 7 = .ok (.ifCond .ne 14, 3) := by decide +kernel
theorem d_M_again_10 : decode c_M_again 10 = .ok (.iload_n 3, 1) := by decide +kernel
theorem d_M_again_11 : decode c_M_again 11 = .ok (.ldc 93, 2) := by decide +kernel
theorem d_M_again_13 : decode c_M_again 13 = .ok (.ldc 94, 2) := by decide +kernel
theorem d_M_again_15 : decode c_M_again 15 = .ok (.invokestatic 82, 3) := by decide +kernel
theorem d_M_again_18 : decode c_M_again 18 = .ok (.ifCond .eq 7, 3) := by decide +kernel
theorem d_M_again_21 : decode c_M_again 21 = .ok (.iconst 1, 1) := by decide +kernel
theorem d_M_again_22 : decode c_M_again 22 = .ok (.goto 35, 3) := by decide +kernel
theorem d_M_again_25 : decode c_M_again 25 = .ok (.aload_n 0, 1) := by decide +kernel
theorem d_M_again_26 : decode c_M_again 26 = .ok (.aload_n 0, 1) := by decide +kernel
theorem d_M_again_27 : decode c_M_again 27 = .ok (.getfield 30, 3) := by decide +kernel
theorem d_M_again_30 : decode c_M_again 30 = .ok (.iload_n 1, 1) := by decide +kernel
theorem d_M_again_31 : decode c_M_again 31 = .ok (.iaload, 1) := by decide +kernel
theorem d_M_again_32 : decode c_M_again 32 = .ok (.iload_n 2, 1) := by decide +kernel
theorem d_M_again_33 : decode c_M_again 33 = .ok (.invokevirtual 89, 3) := by decide +kernel
theorem d_M_again_36 : decode c_M_again 36 = .ok (.ifCond .ne 7, 3) := by decide +kernel
theorem d_M_again_39 : decode c_M_again 39 = .ok (.iconst 2, 1) := by decide +kernel
theorem d_M_again_40 : decode c_M_again 40 = .ok (.goto 17, 3) := by decide +kernel
theorem d_M_again_43 : decode c_M_again 43 = .ok (.aload_n 0, 1) := by decide +kernel
theorem d_M_again_44 : decode c_M_again 44 = .ok (.getfield 43, 3) := by decide +kernel
theorem d_M_again_47 : decode c_M_again 47 = .ok (.iload_n 1, 1) := by decide +kernel
theorem d_M_again_48 : decode c_M_again 48 = .ok (.iaload, 1) := by decide +kernel
theorem d_M_again_49 : decode c_M_again 49 = .ok (.ifCond .le 7, 3) := by decide +kernel
theorem d_M_again_52 : decode c_M_again 52 = .ok (.iconst 3, 1) := by decide +kernel
theorem d_M_again_53 : decode c_M_again 53 = .ok (.goto 4, 3) := by decide +kernel
theorem d_M_again_56 : decode c_M_again 56 = .ok (.iconst 0, 1) := by decide +kernel
theorem d_M_again_57 : decode c_M_again 57 = .ok (.putfield 7, 3) := by decide +kernel
theorem d_M_again_60 : decode c_M_again 60 = .ok (.aload_n 0, 1) := by decide +kernel
theorem d_M_again_61 : decode c_M_again 61 = .ok (.getfield 7, 3) := by decide +kernel
theorem d_M_again_64 : decode c_M_again 64 = .ok (.ifCond .eq 7, 3) := by decide +kernel
theorem d_M_again_67 : decode c_M_again 67 = .ok (.lconst 0, 1) := by decide +kernel
theorem d_M_again_68 : decode c_M_again 68 = .ok (.goto 10, 3) := by decide +kernel
theorem d_M_again_71 : decode c_M_again 71 = .ok (.aload_n 0, 1) := by decide +kernel
theorem d_M_again_72 : decode c_M_again 72 = .ok (.iload_n 1, 1) := by decide +kernel
theorem d_M_again_73 : decode c_M_again 73 = .ok (.iload_n 2, 1) := by decide +kernel
theorem d_M_again_74 : decode c_M_again 74 = .ok (.iload_n 3, 1) := by decide +kernel
theorem d_M_again_75 : decode c_M_again 75 = .ok (.invokevirtual 95, 3) := by decide +kernel
theorem d_M_again_78 : decode c_M_again 78 = .ok (.lreturn, 1) := by decide +kernel
theorem d_M_collect_0 : decode c_M_collect 0 = .ok (.aload_n 0, 1) := by decide +kernel
theorem d_M_collect_1 : decode c_M_collect 1 = .ok (.iload_n 1, 1) := by decide +kernel
theorem d_M_collect_2 : decode c_M_collect 2 = .ok (.iconst 0, 1) := by decide +kernel
theorem d_M_collect_3 : decode c_M_collect 3 = .ok (.sipush 255, 3) := by decide +kernel
theorem d_M_collect_6 : decode c_M_collect 6 = .ok (.invokestatic 82, 3) := by decide +kernel
theorem d_M_collect_9 : decode c_M_collect 9 = .ok (.ifCond .eq 7, 3) := by decide +kernel
theorem d_M_collect_12 : decode c_M_collect 12 = .ok (.iconst 1, 1) := by decide +kernel
theorem d_M_collect_13 : decode c_M_collect 13 = .ok (.goto 17, 3) := by decide +kernel
theorem d_M_collect_16 : decode c_M_collect 16 = .ok (.aload_n 0, 1) := by decide +kernel
theorem d_M_collect_17 : decode c_M_collect 17 = .ok (.getfield 13, 3) := by decide +kernel
theorem d_M_collect_20 : decode c_M_collect 20 = .ok (.bipush 60, 2) := by decide +kernel
theorem d_M_collect_22 : decode c_M_collect 22 = .ok (.if_icmp .ne 7, 3) := by decide +kernel
theorem d_M_collect_25 : decode c_M_collect 25 = .ok (.iconst 2, 1) := by decide +kernel
theorem d_M_collect_26 : decode c_M_collect 26 = .ok (.goto 4, 3) := by decide +kernel
theorem d_M_collect_29 : decode c_M_collect 29 = .ok (.iconst 0, 1) := by decide +kernel
theorem d_M_collect_30 : decode c_M_collect 30 = .ok (.putfield 7, 3) := by decide +kernel
theorem d_M_collect_33 : decode c_M_collect 33 = .ok (.aload_n 0, 1) := by decide +kernel
theorem d_M_collect_34 : decode c_M_collect 34 = .ok (.getfield 7, 3) := by decide +kernel
theorem d_M_collect_37 : decode c_M_collect 37 = .ok (.ifCond .eq 5, 3) := by decide +kernel
theorem d_M_collect_40 : decode c_M_collect 40 = .ok (.iconst 0, 1) := by decide +kernel
theorem d_M_collect_41 : decode c_M_collect 41 = .ok (.ireturn, 1) := by decide +kernel
theorem d_M_collect_42 : decode c_M_collect 42 = .ok (.aload_n 0, 1) := by decide +kernel
theorem d_M_collect_43 : decode c_M_collect 43 = .ok (.bipush 6, 2) := by decide +kernel
theorem d_M_collect_45 : decode c_M_collect 45 = .ok (.iload_n 1, 1) := by decide +kernel
theorem d_M_collect_46 : decode c_M_collect 46 = .ok (.iconst 0, 1) := by decide +kernel
theorem d_M_collect_47 : decode c_M_collect 47 = .ok (.iconst 0, 1) := by decide +kernel
theorem d_M_collect_48 : decode c_M_collect 48 = .ok (.invokevirtual 86, 3) := by decide +kernel
theorem d_M_collect_51 : decode c_M_collect 51 = .ok (.aload_n 0, 1) := by decide +kernel
theorem d_M_collect_52 : decode c_M_collect 52 = .ok (.getfield 61, 3) := by decide +kernel
theorem d_M_collect_55 : decode c_M_collect 55 = .ok (.ireturn, 1) := by decide +kernel
theorem d_M_sums_0 : decode c_M_sums 0 = .ok (.aload_n 0, 1) := by decide +kernel
theorem d_M_sums_1 : decode c_M_sums 1 = .ok (.iconst 0, 1) := by decide +kernel
theorem d_M_sums_2 : decode c_M_sums 2 = .ok (.putfield 7, 3) := by decide +kernel
theorem d_M_sums_5 : decode c_M_sums 5 = .ok (.aload_n 0, 1) := by decide +kernel
theorem d_M_sums_6 : decode c_M_sums 6 = .ok (.getfield 67, 3) := by decide +kernel
theorem d_M_sums_9 : decode c_M_sums 9 = .ok (.i2l, 1) := by decide +kernel
theorem d_M_sums_10 : decode c_M_sums 10 = .ok (.ldc2_w 99, 3) := by decide +kernel
theorem d_M_sums_13 : decode c_M_sums 13 = .ok (.lmul, 1) := by decide +kernel
theorem d_M_sums_14 : decode c_M_sums 14 = .ok (.aload_n 0, 1) := by decide +kernel
theorem d_M_sums_15 : decode c_M_sums 15 = .ok (.getfield 64, 3) := by decide +kernel
theorem d_M_sums_18 : decode c_M_sums 18 = .ok (.i2l, 1) := by decide +kernel
theorem d_M_sums_19 : decode c_M_sums 19 = .ok (.ladd, 1) := by decide +kernel
theorem d_M_sums_20 : decode c_M_sums 20 = .ok (.lreturn, 1) := by decide +kernel
theorem d_M_back_0 : decode c_M_back 0 = .ok (.aload_n 0, 1) := by decide +kernel
theorem d_M_back_1 : decode c_M_back 1 = .ok (.aload_n 0, 1) := by decide +kernel
theorem d_M_back_2 : decode c_M_back 2 = .ok (.getfield 13, 3) := by decide +kernel
theorem d_M_back_5 : decode c_M_back 5 = .ok (.ifCond .ne 7, 3) := by decide +kernel
theorem d_M_back_8 : decode c_M_back 8 = .ok (.iconst 1, 1) := by decide +kernel
theorem d_M_back_9 : decode c_M_back 9 = .ok (.goto 4, 3) := by decide +kernel
theorem d_M_back_12 : decode c_M_back 12 = .ok (.iconst 0, 1) := by decide +kernel
theorem d_M_back_13 : decode c_M_back 13 = .ok (.putfield 7, 3) := by decide +kernel
theorem d_M_back_16 : decode c_M_back 16 = .ok (.aload_n 0, 1) := by decide +kernel
theorem d_M_back_17 : decode c_M_back 17 = .ok (.getfield 7, 3) := by decide +kernel
theorem d_M_back_20 : decode c_M_back 20 = .ok (.ifCond .eq 5, 3) := by decide +kernel
theorem d_M_back_23 : decode c_M_back 23 = .ok (.iconst 0, 1) := by decide +kernel
theorem d_M_back_24 : decode c_M_back 24 = .ok (.ireturn, 1) := by decide +kernel
theorem d_M_back_25 : decode c_M_back 25 = .ok (.aload_n 0, 1) := by decide +kernel
theorem d_M_back_26 : decode c_M_back 26 = .ok (.dup, 1) := by decide +kernel
theorem d_M_back_27 : decode c_M_back 27 = .ok (.getfield 13, 3) := by decide +kernel
theorem d_M_back_30 : decode c_M_back 30 = .ok (.iconst 1, 1) := by decide +kernel
theorem d_M_back_31 : decode c_M_back 31 = .ok (.isub, 1) := by decide +kernel
theorem d_M_back_32 : decode c_M_back 32 = .ok (.putfield 13, 3) := by decide +kernel
theorem d_M_back_35 : decode c_M_back 35 = .ok (.aload_n 0, 1) := by decide +kernel
theorem d_M_back_36 : decode c_M_back 36 = .ok (.invokevirtual 70, 3) := by decide +kernel
theorem d_M_back_39 : decode c_M_back 39 = .ok (.iconst 0, 1) := by decide +kernel
theorem d_M_back_40 : decode c_M_back 40 = .ok (.istore_n 1, 1) := by decide +kernel
theorem d_M_back_41 : decode c_M_back 41 = .ok (.iload_n 1, 1) := by decide +kernel
theorem d_M_back_42 : decode c_M_back 42 = .ok (.aload_n 0, 1) := by decide +kernel
theorem d_M_back_43 : decode c_M_back 43 = .ok (.getfield 13, 3) := by decide +kernel
theorem d_M_back_46 : decode c_M_back 46 = .ok (.if_icmp .ge 51, 3) := by decide +kernel
theorem d_M_back_49 : decode c_M_back 49 = .ok (.aload_n 0, 1) := by decide +kernel
theorem d_M_back_50 : decode c_M_back 50 = .ok (.aload_n 0, 1) := by decide +kernel
theorem d_M_back_51 : decode c_M_back 51 = .ok (.getfield 16, 3) := by decide +kernel
theorem d_M_back_54 : decode c_M_back 54 = .ok (.iconst 4, 1) := by decide +kernel
theorem d_M_back_55 : decode c_M_back 55 = .ok (.iload_n 1, 1) := by decide +kernel
theorem d_M_back_56 : decode c_M_back 56 = .ok (.imul, 1) := by decide +kernel
theorem d_M_back_57 : decode c_M_back 57 = .ok (.iaload, 1) := by decide +kernel
theorem d_M_back_58 : decode c_M_back 58 = .ok (.aload_n 0, 1) := by decide +kernel
theorem d_M_back_59 : decode c_M_back 59 = .ok (.getfield 16, 3) := by decide +kernel
theorem d_M_back_62 : decode c_M_back 62 = .ok (.iconst 4, 1) := by decide +kernel
theorem d_M_back_63 : decode c_M_back 63 = .ok (.iload_n 1, 1) := by decide +kernel
theorem d_M_back_64 : decode c_M_back 64 = .ok (.imul, 1) := by decide +kernel
theorem d_M_back_65 : decode c_M_back 65 = .ok (.iconst 1, 1) := by decide +kernel
theorem d_M_back_66 : decode c_M_back 66 = .ok (.iadd, 1) := by decide +kernel
theorem d_M_back_67 : decode c_M_back 67 = .ok (.iaload, 1) := by decide +kernel
theorem d_M_back_68 : decode c_M_back 68 = .ok (.aload_n 0, 1) := by decide +kernel
theorem d_M_back_69 : decode c_M_back 69 = .ok (.getfield 16, 3) := by decide +kernel
theorem d_M_back_72 : decode c_M_back 72 = .ok (.iconst 4, 1) := by decide +kernel
theorem d_M_back_73 : decode c_M_back 73 = .ok (.iload_n 1, 1) := by decide +kernel
theorem d_M_back_74 : decode c_M_back 74 = .ok (.imul, 1) := by decide +kernel
theorem d_M_back_75 : decode c_M_back 75 = .ok (.iconst 2, 1) := by decide +kernel
theorem d_M_back_76 : decode c_M_back 76 = .ok (.iadd, 1) := by decide +kernel
theorem d_M_back_77 : decode c_M_back 77 = .ok (.iaload, 1) := by decide +kernel
theorem d_M_back_78 : decode c_M_back 78 = .ok (.aload_n 0, 1) := by decide +kernel
theorem d_M_back_79 : decode c_M_back 79 = .ok (.getfield 16, 3) := by decide +kernel
theorem d_M_back_82 : decode c_M_back 82 = .ok (.iconst 4, 1) := by decide +kernel
theorem d_M_back_83 : decode c_M_back 83 = .ok (.iload_n 1, 1) := by decide +kernel
theorem d_M_back_84 : decode c_M_back 84 = .ok (.imul, 1) := by decide +kernel
theorem d_M_back_85 : decode c_M_back 85 = .ok (.iconst 3, 1) := by decide +kernel
theorem d_M_back_86 : decode c_M_back 86 = .ok (.iadd, 1) := by decide +kernel
theorem d_M_back_87 : decode c_M_back 87 = .ok (.iaload, 1) := by decide +kernel
theorem d_M_back_88 : decode c_M_back 88 = .ok (.invokevirtual 73, 3) := by decide +kernel
theorem d_M_back_91 : decode c_M_back 91 = .ok (.iinc 1 1, 3) := by decide +kernel
theorem d_M_back_94 : decode c_M_back 94 = .ok (.goto (-53), 3) := by decide +kernel
theorem d_M_back_97 : decode c_M_back 97 = .ok (.aload_n 0, 1) := by decide +kernel
theorem d_M_back_98 : decode c_M_back 98 = .ok (.getfield 13, 3) := by decide +kernel
theorem d_M_back_101 : decode c_M_back 101 = .ok (.ireturn, 1) := by decide +kernel
theorem d_M_told_0 : decode c_M_told 0 = .ok (.aload_n 0, 1) := by decide +kernel
theorem d_M_told_1 : decode c_M_told 1 = .ok (.iload_n 1, 1) := by decide +kernel
theorem d_M_told_2 : decode c_M_told 2 = .ok (.iconst 0, 1) := by decide +kernel
theorem d_M_told_3 : decode c_M_told 3 = .ok (.iconst 3, 1) := by decide +kernel
theorem d_M_told_4 : decode c_M_told 4 = .ok (.invokestatic 82, 3) := by decide +kernel
theorem d_M_told_7 : decode c_M_told 7 = .ok (.ifCond .eq 7, 3) := by decide +kernel
theorem d_M_told_10 : decode c_M_told 10 = .ok (.iconst 1, 1) := by decide +kernel
theorem d_M_told_11 : decode c_M_told 11 = .ok (.goto 4, 3) := by decide +kernel
theorem d_M_told_14 : decode c_M_told 14 = .ok (.iconst 0, 1) := by decide +kernel
theorem d_M_told_15 : decode c_M_told 15 = .ok (.putfield 7, 3) := by decide +kernel
theorem d_M_told_18 : decode c_M_told 18 = .ok (.aload_n 0, 1) := by decide +kernel
theorem d_M_told_19 : decode c_M_told 19 = .ok (.getfield 7, 3) := by decide +kernel
theorem d_M_told_22 : decode c_M_told 22 = .ok (.ifCond .eq 7, 3) := by decide +kernel
theorem d_M_told_25 : decode c_M_told 25 = .ok (.iconst 0, 1) := by decide +kernel
theorem d_M_told_26 : decode c_M_told 26 = .ok (.goto 42, 3) := by decide +kernel
theorem d_M_told_29 : decode c_M_told 29 = .ok (.iload_n 1, 1) := by decide +kernel
theorem d_M_told_30 : decode c_M_told 30 = .ok (.ifCond .ne 10, 3) := by decide +kernel
theorem d_M_told_33 : decode c_M_told 33 = .ok (.aload_n 0, 1) := by decide +kernel
theorem d_M_told_34 : decode c_M_told 34 = .ok (.getfield 46, 3) := by decide +kernel
theorem d_M_told_37 : decode c_M_told 37 = .ok (.goto 31, 3) := by decide +kernel
theorem d_M_told_40 : decode c_M_told 40 = .ok (.iload_n 1, 1) := by decide +kernel
theorem d_M_told_41 : decode c_M_told 41 = .ok (.iconst 1, 1) := by decide +kernel
theorem d_M_told_42 : decode c_M_told 42 = .ok (.if_icmp .ne 10, 3) := by decide +kernel
theorem d_M_told_45 : decode c_M_told 45 = .ok (.aload_n 0, 1) := by decide +kernel
theorem d_M_told_46 : decode c_M_told 46 = .ok (.getfield 49, 3) := by decide +kernel
theorem d_M_told_49 : decode c_M_told 49 = .ok (.goto 19, 3) := by decide +kernel
theorem d_M_told_52 : decode c_M_told 52 = .ok (.iload_n 1, 1) := by decide +kernel
theorem d_M_told_53 : decode c_M_told 53 = .ok (.iconst 2, 1) := by decide +kernel
theorem d_M_told_54 : decode c_M_told 54 = .ok (.if_icmp .ne 10, 3) := by decide +kernel
theorem d_M_told_57 : decode c_M_told 57 = .ok (.aload_n 0, 1) := by decide +kernel
theorem d_M_told_58 : decode c_M_told 58 = .ok (.getfield 52, 3) := by decide +kernel
theorem d_M_told_61 : decode c_M_told 61 = .ok (.goto 7, 3) := by decide +kernel
theorem d_M_told_64 : decode c_M_told 64 = .ok (.aload_n 0, 1) := by decide +kernel
theorem d_M_told_65 : decode c_M_told 65 = .ok (.getfield 55, 3) := by decide +kernel
theorem d_M_told_68 : decode c_M_told 68 = .ok (.ireturn, 1) := by decide +kernel
theorem d_M_worth_0 : decode c_M_worth 0 = .ok (.aload_n 0, 1) := by decide +kernel
theorem d_M_worth_1 : decode c_M_worth 1 = .ok (.iload_n 1, 1) := by decide +kernel
theorem d_M_worth_2 : decode c_M_worth 2 = .ok (.iconst 0, 1) := by decide +kernel
theorem d_M_worth_3 : decode c_M_worth 3 = .ok (.iconst 5, 1) := by decide +kernel
theorem d_M_worth_4 : decode c_M_worth 4 = .ok (.invokestatic 82, 3) := by decide +kernel
theorem d_M_worth_7 : decode c_M_worth 7 = .ok (.ifCond .eq 7, 3) := by decide +kernel
theorem d_M_worth_10 : decode c_M_worth 10 = .ok (.iconst 1, 1) := by decide +kernel
theorem d_M_worth_11 : decode c_M_worth 11 = .ok (.goto 4, 3) := by decide +kernel
theorem d_M_worth_14 : decode c_M_worth 14 = .ok (.iconst 0, 1) := by decide +kernel
theorem d_M_worth_15 : decode c_M_worth 15 = .ok (.putfield 7, 3) := by decide +kernel
theorem d_M_worth_18 : decode c_M_worth 18 = .ok (.aload_n 0, 1) := by decide +kernel
theorem d_M_worth_19 : decode c_M_worth 19 = .ok (.getfield 7, 3) := by decide +kernel
theorem d_M_worth_22 : decode c_M_worth 22 = .ok (.ifCond .eq 7, 3) := by decide +kernel
theorem d_M_worth_25 : decode c_M_worth 25 = .ok (.lconst 0, 1) := by decide +kernel
theorem d_M_worth_26 : decode c_M_worth 26 = .ok (.goto 9, 3) := by decide +kernel
theorem d_M_worth_29 : decode c_M_worth 29 = .ok (.aload_n 0, 1) := by decide +kernel
theorem d_M_worth_30 : decode c_M_worth 30 = .ok (.getfield 39, 3) := by decide +kernel
theorem d_M_worth_33 : decode c_M_worth 33 = .ok (.iload_n 1, 1) := by decide +kernel
theorem d_M_worth_34 : decode c_M_worth 34 = .ok (.laload, 1) := by decide +kernel
theorem d_M_worth_35 : decode c_M_worth 35 = .ok (.lreturn, 1) := by decide +kernel
theorem d_M_uses_0 : decode c_M_uses 0 = .ok (.aload_n 0, 1) := by decide +kernel
theorem d_M_uses_1 : decode c_M_uses 1 = .ok (.iload_n 1, 1) := by decide +kernel
theorem d_M_uses_2 : decode c_M_uses 2 = .ok (.iconst 0, 1) := by decide +kernel
theorem d_M_uses_3 : decode c_M_uses 3 = .ok (.iconst 4, 1) := by decide +kernel
theorem d_M_uses_4 : decode c_M_uses 4 = .ok (.invokestatic 82, 3) := by decide +kernel
theorem d_M_uses_7 : decode c_M_uses 7 = .ok (.ifCond .eq 7, 3) := by decide +kernel
theorem d_M_uses_10 : decode c_M_uses 10 = .ok (.iconst 2, 1) := by decide +kernel
theorem d_M_uses_11 : decode c_M_uses 11 = .ok (.goto 17, 3) := by decide +kernel
theorem d_M_uses_14 : decode c_M_uses 14 = .ok (.aload_n 0, 1) := by decide +kernel
theorem d_M_uses_15 : decode c_M_uses 15 = .ok (.iload_n 1, 1) := by decide +kernel
theorem d_M_uses_16 : decode c_M_uses 16 = .ok (.iload_n 2, 1) := by decide +kernel
theorem d_M_uses_17 : decode c_M_uses 17 = .ok (.invokevirtual 89, 3) := by decide +kernel
theorem d_M_uses_20 : decode c_M_uses 20 = .ok (.ifCond .ne 7, 3) := by decide +kernel
theorem d_M_uses_23 : decode c_M_uses 23 = .ok (.iconst 1, 1) := by decide +kernel
theorem d_M_uses_24 : decode c_M_uses 24 = .ok (.goto 4, 3) := by decide +kernel
theorem d_M_uses_27 : decode c_M_uses 27 = .ok (.iconst 0, 1) := by decide +kernel
theorem d_M_uses_28 : decode c_M_uses 28 = .ok (.putfield 7, 3) := by decide +kernel
theorem d_M_uses_31 : decode c_M_uses 31 = .ok (.aload_n 0, 1) := by decide +kernel
theorem d_M_uses_32 : decode c_M_uses 32 = .ok (.getfield 7, 3) := by decide +kernel
theorem d_M_uses_35 : decode c_M_uses 35 = .ok (.ifCond .eq 7, 3) := by decide +kernel
theorem d_M_uses_38 : decode c_M_uses 38 = .ok (.iconst 0, 1) := by decide +kernel
theorem d_M_uses_39 : decode c_M_uses 39 = .ok (.goto 14, 3) := by decide +kernel
theorem d_M_uses_42 : decode c_M_uses 42 = .ok (.aload_n 0, 1) := by decide +kernel
theorem d_M_uses_43 : decode c_M_uses 43 = .ok (.getfield 27, 3) := by decide +kernel
theorem d_M_uses_46 : decode c_M_uses 46 = .ok (.bipush 10, 2) := by decide +kernel
theorem d_M_uses_48 : decode c_M_uses 48 = .ok (.iload_n 1, 1) := by decide +kernel
theorem d_M_uses_49 : decode c_M_uses 49 = .ok (.imul, 1) := by decide +kernel
theorem d_M_uses_50 : decode c_M_uses 50 = .ok (.iload_n 2, 1) := by decide +kernel
theorem d_M_uses_51 : decode c_M_uses 51 = .ok (.iadd, 1) := by decide +kernel
theorem d_M_uses_52 : decode c_M_uses 52 = .ok (.iaload, 1) := by decide +kernel
theorem d_M_uses_53 : decode c_M_uses 53 = .ok (.ireturn, 1) := by decide +kernel
theorem d_M_thingsOf_0 : decode c_M_thingsOf 0 = .ok (.iconst 0, 1) := by decide +kernel
theorem d_M_thingsOf_1 : decode c_M_thingsOf 1 = .ok (.istore_n 2, 1) := by decide +kernel
theorem d_M_thingsOf_2 : decode c_M_thingsOf 2 = .ok (.iconst 1, 1) := by decide +kernel
theorem d_M_thingsOf_3 : decode c_M_thingsOf 3 = .ok (.istore_n 3, 1) := by decide +kernel
theorem d_M_thingsOf_4 : decode c_M_thingsOf 4 = .ok (.iload_n 3, 1) := by decide +kernel
theorem d_M_thingsOf_5 : decode c_M_thingsOf 5 = .ok (.bipush 10, 2) := by decide +kernel
theorem d_M_thingsOf_7 : decode c_M_thingsOf 7 = .ok (.if_icmp .ge 31, 3) := by decide +kernel
theorem d_M_thingsOf_10 : decode c_M_thingsOf 10 = .ok (.iload_n 2, 1) := by decide +kernel
theorem d_M_thingsOf_11 : decode c_M_thingsOf 11 = .ok (.aload_n 0, 1) := by decide +kernel
theorem d_M_thingsOf_12 : decode c_M_thingsOf 12 = .ok (.getfield 23, 3) := by decide +kernel
theorem d_M_thingsOf_15 : decode c_M_thingsOf 15 = .ok (.bipush 10, 2) := by decide +kernel
theorem d_M_thingsOf_17 : decode c_M_thingsOf 17 = .ok (.iload_n 1, 1) := by decide +kernel
theorem d_M_thingsOf_18 : decode c_M_thingsOf 18 = .ok (.imul, 1) := by decide +kernel
theorem d_M_thingsOf_19 : decode c_M_thingsOf 19 = .ok (.iload_n 3, 1) := by decide +kernel
theorem d_M_thingsOf_20 : decode c_M_thingsOf 20 = .ok (.iadd, 1) := by decide +kernel
theorem d_M_thingsOf_21 : decode c_M_thingsOf 21 = .ok (.baload, 1) := by decide +kernel
theorem d_M_thingsOf_22 : decode c_M_thingsOf 22 = .ok (.ifCond .eq 7, 3) := by decide +kernel
theorem d_M_thingsOf_25 : decode c_M_thingsOf 25 = .ok (.iconst 1, 1) := by decide +kernel
theorem d_M_thingsOf_26 : decode c_M_thingsOf 26 = .ok (.goto 4, 3) := by decide +kernel
theorem d_M_thingsOf_29 : decode c_M_thingsOf 29 = .ok (.iconst 0, 1) := by decide +kernel
theorem d_M_thingsOf_30 : decode c_M_thingsOf 30 = .ok (.iadd, 1) := by decide +kernel
theorem d_M_thingsOf_31 : decode c_M_thingsOf 31 = .ok (.istore_n 2, 1) := by decide +kernel
theorem d_M_thingsOf_32 : decode c_M_thingsOf 32 = .ok (.iinc 3 1, 3) := by decide +kernel
theorem d_M_thingsOf_35 : decode c_M_thingsOf 35 = .ok (.goto (-31), 3) := by decide +kernel
theorem d_M_thingsOf_38 : decode c_M_thingsOf 38 = .ok (.iload_n 2, 1) := by decide +kernel
theorem d_M_thingsOf_39 : decode c_M_thingsOf 39 = .ok (.ireturn, 1) := by decide +kernel
theorem d_M_numbers_0 : decode c_M_numbers 0 = .ok (.aload_n 0, 1) := by decide +kernel
theorem d_M_numbers_1 : decode c_M_numbers 1 = .ok (.iload_n 1, 1) := by decide +kernel
theorem d_M_numbers_2 : decode c_M_numbers 2 = .ok (.iconst 0, 1) := by decide +kernel
theorem d_M_numbers_3 : decode c_M_numbers 3 = .ok (.iconst 4, 1) := by decide +kernel
theorem d_M_numbers_4 : decode c_M_numbers 4 = .ok (.invokestatic 82, 3) := by decide +kernel
theorem d_M_numbers_7 : decode c_M_numbers 7 = .ok (.ifCond .ne 12, 3) := by decide +kernel
theorem d_M_numbers_10 : decode c_M_numbers 10 = .ok (.iload_n 2, 1) := by decide +kernel
theorem d_M_numbers_11 : decode c_M_numbers 11 = .ok (.iconst 0, 1) := by decide +kernel
theorem d_M_numbers_12 : decode c_M_numbers 12 = .ok (.iconst 1, 1) := by decide +kernel
theorem d_M_numbers_13 : decode c_M_numbers 13 = .ok (.invokestatic 82, 3) := by decide +kernel
theorem d_M_numbers_16 : decode c_M_numbers 16 = .ok (.ifCond .eq 7, 3) := by decide +kernel
theorem d_M_numbers_19 : decode c_M_numbers 19 = .ok (.iconst 1, 1) := by decide +kernel
theorem d_M_numbers_20 : decode c_M_numbers 20 = .ok (.goto 4, 3) := by decide +kernel
theorem d_M_numbers_23 : decode c_M_numbers 23 = .ok (.iconst 0, 1) := by decide +kernel
theorem d_M_numbers_24 : decode c_M_numbers 24 = .ok (.putfield 7, 3) := by decide +kernel
theorem d_M_numbers_27 : decode c_M_numbers 27 = .ok (.aload_n 0, 1) := by decide +kernel
theorem d_M_numbers_28 : decode c_M_numbers 28 = .ok (.getfield 7, 3) := by decide +kernel
theorem d_M_numbers_31 : decode c_M_numbers 31 = .ok (.ifCond .eq 7, 3) := by decide +kernel
theorem d_M_numbers_34 : decode c_M_numbers 34 = .ok (.iconst 0, 1) := by decide +kernel
theorem d_M_numbers_35 : decode c_M_numbers 35 = .ok (.goto 21, 3) := by decide +kernel
theorem d_M_numbers_38 : decode c_M_numbers 38 = .ok (.iload_n 2, 1) := by decide +kernel
theorem d_M_numbers_39 : decode c_M_numbers 39 = .ok (.ifCond .ne 12, 3) := by decide +kernel
theorem d_M_numbers_42 : decode c_M_numbers 42 = .ok (.aload_n 0, 1) := by decide +kernel
theorem d_M_numbers_43 : decode c_M_numbers 43 = .ok (.getfield 20, 3) := by decide +kernel
theorem d_M_numbers_46 : decode c_M_numbers 46 = .ok (.iload_n 1, 1) := by decide +kernel
theorem d_M_numbers_47 : decode c_M_numbers 47 = .ok (.iaload, 1) := by decide +kernel
theorem d_M_numbers_48 : decode c_M_numbers 48 = .ok (.goto 8, 3) := by decide +kernel
theorem d_M_numbers_51 : decode c_M_numbers 51 = .ok (.aload_n 0, 1) := by decide +kernel
theorem d_M_numbers_52 : decode c_M_numbers 52 = .ok (.iload_n 1, 1) := by decide +kernel
theorem d_M_numbers_53 : decode c_M_numbers 53 = .ok (.invokevirtual 101, 3) := by decide +kernel
theorem d_M_numbers_56 : decode c_M_numbers 56 = .ok (.ireturn, 1) := by decide +kernel
theorem d_M_count_0 : decode c_M_count 0 = .ok (.aload_n 0, 1) := by decide +kernel
theorem d_M_count_1 : decode c_M_count 1 = .ok (.iconst 0, 1) := by decide +kernel
theorem d_M_count_2 : decode c_M_count 2 = .ok (.putfield 7, 3) := by decide +kernel
theorem d_M_count_5 : decode c_M_count 5 = .ok (.iconst 0, 1) := by decide +kernel
theorem d_M_count_6 : decode c_M_count 6 = .ok (.istore_n 2, 1) := by decide +kernel
theorem d_M_count_7 : decode c_M_count 7 = .ok (.iconst 0, 1) := by decide +kernel
theorem d_M_count_8 : decode c_M_count 8 = .ok (.istore_n 3, 1) := by decide +kernel
theorem d_M_count_9 : decode c_M_count 9 = .ok (.iload_n 3, 1) := by decide +kernel
theorem d_M_count_10 : decode c_M_count 10 = .ok (.iconst 5, 1) := by decide +kernel
theorem d_M_count_11 : decode c_M_count 11 = .ok (.if_icmp .ge 17, 3) := by decide +kernel
theorem d_M_count_14 : decode c_M_count 14 = .ok (.iload_n 2, 1) := by decide +kernel
theorem d_M_count_15 : decode c_M_count 15 = .ok (.aload_n 0, 1) := by decide +kernel
theorem d_M_count_16 : decode c_M_count 16 = .ok (.iload_n 3, 1) := by decide +kernel
theorem d_M_count_17 : decode c_M_count 17 = .ok (.invokevirtual 101, 3) := by decide +kernel
theorem d_M_count_20 : decode c_M_count 20 = .ok (.iadd, 1) := by decide +kernel
theorem d_M_count_21 : decode c_M_count 21 = .ok (.istore_n 2, 1) := by decide +kernel
theorem d_M_count_22 : decode c_M_count 22 = .ok (.iinc 3 1, 3) := by decide +kernel
theorem d_M_count_25 : decode c_M_count 25 = .ok (.goto (-16), 3) := by decide +kernel
theorem d_M_count_28 : decode c_M_count 28 = .ok (.iload_n 1, 1) := by decide +kernel
theorem d_M_count_29 : decode c_M_count 29 = .ok (.ifCond .ne 10, 3) := by decide +kernel
theorem d_M_count_32 : decode c_M_count 32 = .ok (.aload_n 0, 1) := by decide +kernel
theorem d_M_count_33 : decode c_M_count 33 = .ok (.getfield 13, 3) := by decide +kernel
theorem d_M_count_36 : decode c_M_count 36 = .ok (.goto 37, 3) := by decide +kernel
theorem d_M_count_39 : decode c_M_count 39 = .ok (.iload_n 1, 1) := by decide +kernel
theorem d_M_count_40 : decode c_M_count 40 = .ok (.iconst 1, 1) := by decide +kernel
theorem d_M_count_41 : decode c_M_count 41 = .ok (.if_icmp .ne 7, 3) := by decide +kernel
theorem d_M_count_44 : decode c_M_count 44 = .ok (.iload_n 2, 1) := by decide +kernel
theorem d_M_count_45 : decode c_M_count 45 = .ok (.goto 28, 3) := by decide +kernel
theorem d_M_count_48 : decode c_M_count 48 = .ok (.iload_n 1, 1) := by decide +kernel
theorem d_M_count_49 : decode c_M_count 49 = .ok (.iconst 2, 1) := by decide +kernel
theorem d_M_count_50 : decode c_M_count 50 = .ok (.if_icmp .ne 10, 3) := by decide +kernel
theorem d_M_count_53 : decode c_M_count 53 = .ok (.aload_n 0, 1) := by decide +kernel
theorem d_M_count_54 : decode c_M_count 54 = .ok (.getfield 61, 3) := by decide +kernel
theorem d_M_count_57 : decode c_M_count 57 = .ok (.goto 16, 3) := by decide +kernel
theorem d_M_count_60 : decode c_M_count 60 = .ok (.iload_n 1, 1) := by decide +kernel
theorem d_M_count_61 : decode c_M_count 61 = .ok (.iconst 3, 1) := by decide +kernel
theorem d_M_count_62 : decode c_M_count 62 = .ok (.if_icmp .ne 10, 3) := by decide +kernel
theorem d_M_count_65 : decode c_M_count 65 = .ok (.aload_n 0, 1) := by decide +kernel
theorem d_M_count_66 : decode c_M_count 66 = .ok (.getfield 58, 3) := by decide +kernel
theorem d_M_count_69 : decode c_M_count 69 = .ok (.goto 4, 3) := by decide +kernel
theorem d_M_count_72 : decode c_M_count 72 = .ok (.iconst (-1), 1) := by decide +kernel
theorem d_M_count_73 : decode c_M_count 73 = .ok (.ireturn, 1) := by decide +kernel
