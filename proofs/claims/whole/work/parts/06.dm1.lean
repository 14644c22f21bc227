theorem dX13_init_0 : decode cX13_init 0 = .ok (.aload_n 0, 1) := by decide +kernel
theorem dX13_init_1 : decode cX13_init 1 = .ok (.invokespecial 3, 3) := by decide +kernel
theorem dX13_init_4 : decode cX13_init 4 = .ok (.aload_n 0, 1) := by decide +kernel
theorem dX13_init_5 : decode cX13_init 5 = .ok (.sipush 2439, 3) := by decide +kernel
theorem dX13_init_8 : decode cX13_init 8 = .ok (.newarray .int, 2) := by decide +kernel
theorem dX13_init_10 : decode cX13_init 10 = .ok (.putfield 9, 3) := by decide +kernel
theorem dX13_init_13 : decode cX13_init 13 = .ok (.aload_n 0, 1) := by decide +kernel
theorem dX13_init_14 : decode cX13_init 14 = .ok (.sipush 2439, 3) := by decide +kernel
theorem dX13_init_17 : decode cX13_init 17 = .ok (.newarray .int, 2) := by decide +kernel
theorem dX13_init_19 : decode cX13_init 19 = .ok (.putfield 13, 3) := by decide +kernel
theorem dX13_init_22 : decode cX13_init 22 = .ok (.aload_n 0, 1) := by decide +kernel
theorem dX13_init_23 : decode cX13_init 23 = .ok (.sipush 2439, 3) := by decide +kernel
theorem dX13_init_26 : decode cX13_init 26 = .ok (.newarray .int, 2) := by decide +kernel
theorem dX13_init_28 : decode cX13_init 28 = .ok (.putfield 16, 3) := by decide +kernel
theorem dX13_init_31 : decode cX13_init 31 = .ok (.aload_n 0, 1) := by decide +kernel
theorem dX13_init_32 : decode cX13_init 32 = .ok (.sipush 19512, 3) := by decide +kernel
theorem dX13_init_35 : decode cX13_init 35 = .ok (.newarray .int, 2) := by decide +kernel
theorem dX13_init_37 : decode cX13_init 37 = .ok (.putfield 19, 3) := by decide +kernel
theorem dX13_init_40 : decode cX13_init 40 = .ok (.aload_n 0, 1) := by decide +kernel
theorem dX13_init_41 : decode cX13_init 41 = .ok (.bipush 60, 2) := by decide +kernel
theorem dX13_init_43 : decode cX13_init 43 = .ok (.newarray .char, 2) := by decide +kernel
theorem dX13_init_45 : decode cX13_init 45 = .ok (.putfield 22, 3) := by decide +kernel
theorem dX13_init_48 : decode cX13_init 48 = .ok (.aload_n 0, 1) := by decide +kernel
theorem dX13_init_49 : decode cX13_init 49 = .ok (.sipush 4000, 3) := by decide +kernel
theorem dX13_init_52 : decode cX13_init 52 = .ok (.newarray .char, 2) := by decide +kernel
theorem dX13_init_54 : decode cX13_init 54 = .ok (.putfield 26, 3) := by decide +kernel
theorem dX13_init_57 : decode cX13_init 57 = .ok (.aload_n 0, 1) := by decide +kernel
theorem dX13_init_58 : decode cX13_init 58 = .ok (.sipush 200, 3) := by decide +kernel
theorem dX13_init_61 : decode cX13_init 61 = .ok (.newarray .int, 2) := by decide +kernel
theorem dX13_init_63 : decode cX13_init 63 = .ok (.putfield 29, 3) := by decide +kernel
theorem dX13_init_66 : decode cX13_init 66 = .ok (.aload_n 0, 1) := by decide +kernel
theorem dX13_init_67 : decode cX13_init 67 = .ok (.sipush 200, 3) := by decide +kernel
theorem dX13_init_70 : decode cX13_init 70 = .ok (.newarray .boolean, 2) := by decide +kernel
theorem dX13_init_72 : decode cX13_init 72 = .ok (.putfield 32, 3) := by decide +kernel
theorem dX13_init_75 : decode cX13_init 75 = .ok (.aload_n 0, 1) := by decide +kernel
theorem dX13_init_76 : decode cX13_init 76 = .ok (.bipush 31, 2) := by decide +kernel
theorem dX13_init_78 : decode cX13_init 78 = .ok (.newarray .int, 2) := by decide +kernel
theorem dX13_init_80 : decode cX13_init 80 = .ok (.putfield 36, 3) := by decide +kernel
theorem dX13_init_83 : decode cX13_init 83 = .ok (.aload_n 0, 1) := by decide +kernel
theorem dX13_init_84 : decode cX13_init 84 = .ok (.sipush 440, 3) := by decide +kernel
theorem dX13_init_87 : decode cX13_init 87 = .ok (.newarray .char, 2) := by decide +kernel
theorem dX13_init_89 : decode cX13_init 89 = .ok (.putfield 39, 3) := by decide +kernel
theorem dX13_init_92 : decode cX13_init 92 = .ok (.aload_n 0, 1) := by decide +kernel
theorem dX13_init_93 : decode cX13_init 93 = .ok (.bipush 60, 2) := by decide +kernel
theorem dX13_init_95 : decode cX13_init 95 = .ok (.newarray .char, 2) := by decide +kernel
theorem dX13_init_97 : decode cX13_init 97 = .ok (.putfield 42, 3) := by decide +kernel
theorem dX13_init_100 : decode cX13_init 100 = .ok (.aload_n 0, 1) := by decide +kernel
theorem dX13_init_101 : decode cX13_init 101 = .ok (.iconst (-1), 1) := by decide +kernel
theorem dX13_init_102 : decode cX13_init 102 = .ok (.putfield 45, 3) := by decide +kernel
theorem dX13_init_105 : decode cX13_init 105 = .ok (.aload_n 0, 1) := by decide +kernel
theorem dX13_init_106 : decode cX13_init 106 = .ok (.iconst (-1), 1) := by decide +kernel
theorem dX13_init_107 : decode cX13_init 107 = .ok (.putfield 49, 3) := by decide +kernel
theorem dX13_init_110 : decode cX13_init 110 = .ok (.aload_n 0, 1) := by decide +kernel
theorem dX13_init_111 : decode cX13_init 111 = .ok (.sipush 180, 3) := by decide +kernel
theorem dX13_init_114 : decode cX13_init 114 = .ok (.newarray .int, 2) := by decide +kernel
theorem dX13_init_116 : decode cX13_init 116 = .ok (.putfield 52, 3) := by decide +kernel
theorem dX13_init_119 : decode cX13_init 119 = .ok (.aload_n 0, 1) := by decide +kernel
theorem dX13_init_120 : decode cX13_init 120 = .ok (.getfield 9, 3) := by decide +kernel
theorem dX13_init_123 : decode cX13_init 123 = .ok (.iconst 2, 1) := by decide +kernel
theorem dX13_init_124 : decode cX13_init 124 = .ok (.bipush 12, 2) := by decide +kernel
theorem dX13_init_126 : decode cX13_init 126 = .ok (.iastore, 1) := by decide +kernel
theorem dX13_init_127 : decode cX13_init 127 = .ok (.aload_n 0, 1) := by decide +kernel
theorem dX13_init_128 : decode cX13_init 128 = .ok (.getfield 9, 3) := by decide +kernel
theorem dX13_init_131 : decode cX13_init 131 = .ok (.iconst 3, 1) := by decide +kernel
theorem dX13_init_132 : decode cX13_init 132 = .ok (.iconst 2, 1) := by decide +kernel
theorem dX13_init_133 : decode cX13_init 133 = .ok (.iastore, 1) := by decide +kernel
theorem dX13_init_134 : decode cX13_init 134 = .ok (.aload_n 0, 1) := by decide +kernel
theorem dX13_init_135 : decode cX13_init 135 = .ok (.getfield 9, 3) := by decide +kernel
theorem dX13_init_138 : decode cX13_init 138 = .ok (.iconst 4, 1) := by decide +kernel
theorem dX13_init_139 : decode cX13_init 139 = .ok (.bipush 8, 2) := by decide +kernel
theorem dX13_init_141 : decode cX13_init 141 = .ok (.iastore, 1) := by decide +kernel
theorem dX13_init_142 : decode cX13_init 142 = .ok (.return_, 1) := by decide +kernel
theorem dX13_thrown_0 : decode cX13_thrown 0 = .ok (.aload_n 0, 1) := by decide +kernel
theorem dX13_thrown_1 : decode cX13_thrown 1 = .ok (.getfield 55, 3) := by decide +kernel
theorem dX13_thrown_4 : decode cX13_thrown 4 = .ok (.ireturn, 1) := by decide +kernel
theorem dX13_in_0 : decode cX13_in 0 = .ok (.iload_n 0, 1) := by decide +kernel
theorem dX13_in_1 : decode cX13_in 1 = .ok (.iload_n 1, 1) := by decide +kernel
theorem dX13_in_2 : decode cX13_in 2 = .ok (.if_icmp .lt 12, 3) := by decide +kernel
theorem dX13_in_5 : decode cX13_in 5 = .ok (.iload_n 0, 1) := by decide +kernel
theorem dX13_in_6 : decode cX13_in 6 = .ok (.iload_n 2, 1) := by decide +kernel
theorem dX13_in_7 : decode cX13_in 7 = .ok (.if_icmp .gt 7, 3) := by decide +kernel
theorem dX13_in_10 : decode cX13_in 10 = .ok (.iconst 1, 1) := by decide +kernel
theorem dX13_in_11 : decode cX13_in 11 = .ok (.goto 4, 3) := by decide +kernel
theorem dX13_in_14 : decode cX13_in 14 = .ok (.iconst 0, 1) := by decide +kernel
theorem dX13_in_15 : decode cX13_in 15 = .ok (.ireturn, 1) := by decide +kernel
theorem dX13_keep_0 : decode cX13_keep 0 = .ok (.aload_n 0, 1) := by decide +kernel
theorem dX13_keep_1 : decode cX13_keep 1 = .ok (.iconst 0, 1) := by decide +kernel
theorem dX13_keep_2 : decode cX13_keep 2 = .ok (.putfield 55, 3) := by decide +kernel
theorem dX13_keep_5 : decode cX13_keep 5 = .ok (.aload_n 0, 1) := by decide +kernel
theorem dX13_keep_6 : decode cX13_keep 6 = .ok (.getfield 9, 3) := by decide +kernel
theorem dX13_keep_9 : decode cX13_keep 9 = .ok (.iconst 0, 1) := by decide +kernel
theorem dX13_keep_10 : decode cX13_keep 10 = .ok (.aload_n 0, 1) := by decide +kernel
theorem dX13_keep_11 : decode cX13_keep 11 = .ok (.getfield 13, 3) := by decide +kernel
theorem dX13_keep_14 : decode cX13_keep 14 = .ok (.iconst 0, 1) := by decide +kernel
theorem dX13_keep_15 : decode cX13_keep 15 = .ok (.sipush 2439, 3) := by decide +kernel
theorem dX13_keep_18 : decode cX13_keep 18 = .ok (.invokestatic 58, 3) := by decide +kernel
theorem dX13_keep_21 : decode cX13_keep 21 = .ok (.return_, 1) := by decide +kernel
theorem dX13_ends_0 : decode cX13_ends 0 = .ok (.aload_n 0, 1) := by decide +kernel
theorem dX13_ends_1 : decode cX13_ends 1 = .ok (.getfield 55, 3) := by decide +kernel
theorem dX13_ends_4 : decode cX13_ends 4 = .ok (.ifCond .le 21, 3) := by decide +kernel
theorem dX13_ends_7 : decode cX13_ends 7 = .ok (.aload_n 0, 1) := by decide +kernel
theorem dX13_ends_8 : decode cX13_ends 8 = .ok (.getfield 13, 3) := by decide +kernel
theorem dX13_ends_11 : decode cX13_ends 11 = .ok (.iconst 0, 1) := by decide +kernel
theorem dX13_ends_12 : decode cX13_ends 12 = .ok (.aload_n 0, 1) := by decide +kernel
theorem dX13_ends_13 : decode cX13_ends 13 = .ok (.getfield 9, 3) := by decide +kernel
theorem dX13_ends_16 : decode cX13_ends 16 = .ok (.iconst 0, 1) := by decide +kernel
theorem dX13_ends_17 : decode cX13_ends 17 = .ok (.sipush 2439, 3) := by decide +kernel
theorem dX13_ends_20 : decode cX13_ends 20 = .ok (.invokestatic 58, 3) := by decide +kernel
theorem dX13_ends_23 : decode cX13_ends 23 = .ok (.iconst 0, 1) := by decide +kernel
theorem dX13_ends_24 : decode cX13_ends 24 = .ok (.ireturn, 1) := by decide +kernel
theorem dX13_ends_25 : decode cX13_ends 25 = .ok (.aload_n 0, 1) := by decide +kernel
theorem dX13_ends_26 : decode cX13_ends 26 = .ok (.getfield 64, 3) := by decide +kernel
theorem dX13_ends_29 : decode cX13_ends 29 = .ok (.bipush 8, 2) := by decide +kernel
theorem dX13_ends_31 : decode cX13_ends 31 = .ok (.if_icmp .ne 31, 3) := by decide +kernel
theorem dX13_ends_34 : decode cX13_ends 34 = .ok (.aload_n 0, 1) := by decide +kernel
theorem dX13_ends_35 : decode cX13_ends 35 = .ok (.getfield 19, 3) := by decide +kernel
theorem dX13_ends_38 : decode cX13_ends 38 = .ok (.sipush 2439, 3) := by decide +kernel
theorem dX13_ends_41 : decode cX13_ends 41 = .ok (.aload_n 0, 1) := by decide +kernel
theorem dX13_ends_42 : decode cX13_ends 42 = .ok (.getfield 19, 3) := by decide +kernel
theorem dX13_ends_45 : decode cX13_ends 45 = .ok (.iconst 0, 1) := by decide +kernel
theorem dX13_ends_46 : decode cX13_ends 46 = .ok (.sipush 17073, 3) := by decide +kernel
theorem dX13_ends_49 : decode cX13_ends 49 = .ok (.invokestatic 58, 3) := by decide +kernel
theorem dX13_ends_52 : decode cX13_ends 52 = .ok (.aload_n 0, 1) := by decide +kernel
theorem dX13_ends_53 : decode cX13_ends 53 = .ok (.dup, 1) := by decide +kernel
theorem dX13_ends_54 : decode cX13_ends 54 = .ok (.getfield 64, 3) := by decide +kernel
theorem dX13_ends_57 : decode cX13_ends 57 = .ok (.iconst 1, 1) := by decide +kernel
theorem dX13_ends_58 : decode cX13_ends 58 = .ok (.isub, 1) := by decide +kernel
theorem dX13_ends_59 : decode cX13_ends 59 = .ok (.putfield 64, 3) := by decide +kernel
theorem dX13_ends_62 : decode cX13_ends 62 = .ok (.aload_n 0, 1) := by decide +kernel
theorem dX13_ends_63 : decode cX13_ends 63 = .ok (.getfield 13, 3) := by decide +kernel
theorem dX13_ends_66 : decode cX13_ends 66 = .ok (.iconst 0, 1) := by decide +kernel
theorem dX13_ends_67 : decode cX13_ends 67 = .ok (.aload_n 0, 1) := by decide +kernel
theorem dX13_ends_68 : decode cX13_ends 68 = .ok (.getfield 19, 3) := by decide +kernel
theorem dX13_ends_71 : decode cX13_ends 71 = .ok (.sipush 2439, 3) := by decide +kernel
theorem dX13_ends_74 : decode cX13_ends 74 = .ok (.aload_n 0, 1) := by decide +kernel
theorem dX13_ends_75 : decode cX13_ends 75 = .ok (.getfield 64, 3) := by decide +kernel
theorem dX13_ends_78 : decode cX13_ends 78 = .ok (.imul, 1) := by decide +kernel
theorem dX13_ends_79 : decode cX13_ends 79 = .ok (.sipush 2439, 3) := by decide +kernel
theorem dX13_ends_82 : decode cX13_ends 82 = .ok (.invokestatic 58, 3) := by decide +kernel
theorem dX13_ends_85 : decode cX13_ends 85 = .ok (.aload_n 0, 1) := by decide +kernel
theorem dX13_ends_86 : decode cX13_ends 86 = .ok (.dup, 1) := by decide +kernel
theorem dX13_ends_87 : decode cX13_ends 87 = .ok (.getfield 64, 3) := by decide +kernel
theorem dX13_ends_90 : decode cX13_ends 90 = .ok (.iconst 1, 1) := by decide +kernel
theorem dX13_ends_91 : decode cX13_ends 91 = .ok (.iadd, 1) := by decide +kernel
theorem dX13_ends_92 : decode cX13_ends 92 = .ok (.putfield 64, 3) := by decide +kernel
theorem dX13_ends_95 : decode cX13_ends 95 = .ok (.iload_n 1, 1) := by decide +kernel
theorem dX13_ends_96 : decode cX13_ends 96 = .ok (.ireturn, 1) := by decide +kernel
theorem dX13_fails_0 : decode cX13_fails 0 = .ok (.aload_n 0, 1) := by decide +kernel
theorem dX13_fails_1 : decode cX13_fails 1 = .ok (.iload_n 1, 1) := by decide +kernel
theorem dX13_fails_2 : decode cX13_fails 2 = .ok (.putfield 55, 3) := by decide +kernel
theorem dX13_fails_5 : decode cX13_fails 5 = .ok (.iconst 0, 1) := by decide +kernel
theorem dX13_fails_6 : decode cX13_fails 6 = .ok (.ireturn, 1) := by decide +kernel
theorem dX13_isThere_0 : decode cX13_isThere 0 = .ok (.aload_n 0, 1) := by decide +kernel
theorem dX13_isThere_1 : decode cX13_isThere 1 = .ok (.iload_n 1, 1) := by decide +kernel
theorem dX13_isThere_2 : decode cX13_isThere 2 = .ok (.ifCond .eq 7, 3) := by decide +kernel
theorem dX13_isThere_5 : decode cX13_isThere 5 = .ok (.iconst 0, 1) := by decide +kernel
theorem dX13_isThere_6 : decode cX13_isThere 6 = .ok (.goto 4, 3) := by decide +kernel
theorem dX13_isThere_9 : decode cX13_isThere 9 = .ok (.iconst 1, 1) := by decide +kernel
theorem dX13_isThere_10 : decode cX13_isThere 10 = .ok (.putfield 55, 3) := by decide +kernel
theorem dX13_isThere_13 : decode cX13_isThere 13 = .ok (.iload_n 1, 1) := by decide +kernel
theorem dX13_isThere_14 : decode cX13_isThere 14 = .ok (.ireturn, 1) := by decide +kernel
theorem dX13_of_0 : decode cX13_of 0 = .ok (.aload_n 0, 1) := by decide +kernel
theorem dX13_of_1 : decode cX13_of 1 = .ok (.getfield 9, 3) := by decide +kernel
theorem dX13_of_4 : decode cX13_of 4 = .ok (.bipush 9, 2) := by decide +kernel
theorem dX13_of_6 : decode cX13_of 6 = .ok (.sipush 393, 3) := by decide +kernel
theorem dX13_of_9 : decode cX13_of 9 = .ok (.iload_n 1, 1) := by decide +kernel
theorem dX13_of_10 : decode cX13_of 10 = .ok (.imul, 1) := by decide +kernel
theorem dX13_of_11 : decode cX13_of 11 = .ok (.iadd, 1) := by decide +kernel
theorem dX13_of_12 : decode cX13_of 12 = .ok (.iload_n 2, 1) := by decide +kernel
theorem dX13_of_13 : decode cX13_of 13 = .ok (.iadd, 1) := by decide +kernel
theorem dX13_of_14 : decode cX13_of 14 = .ok (.iaload, 1) := by decide +kernel
theorem dX13_of_15 : decode cX13_of 15 = .ok (.ireturn, 1) := by decide +kernel
theorem dX13_sets_0 : decode cX13_sets 0 = .ok (.aload_n 0, 1) := by decide +kernel
theorem dX13_sets_1 : decode cX13_sets 1 = .ok (.getfield 9, 3) := by decide +kernel
theorem dX13_sets_4 : decode cX13_sets 4 = .ok (.bipush 9, 2) := by decide +kernel
theorem dX13_sets_6 : decode cX13_sets 6 = .ok (.sipush 393, 3) := by decide +kernel
theorem dX13_sets_9 : decode cX13_sets 9 = .ok (.iload_n 1, 1) := by decide +kernel
theorem dX13_sets_10 : decode cX13_sets 10 = .ok (.imul, 1) := by decide +kernel
theorem dX13_sets_11 : decode cX13_sets 11 = .ok (.iadd, 1) := by decide +kernel
theorem dX13_sets_12 : decode cX13_sets 12 = .ok (.iload_n 2, 1) := by decide +kernel
theorem dX13_sets_13 : decode cX13_sets 13 = .ok (.iadd, 1) := by decide +kernel
theorem dX13_sets_14 : decode cX13_sets 14 = .ok (.iload_n 3, 1) := by decide +kernel
theorem dX13_sets_15 : decode cX13_sets 15 = .ok (.iastore, 1) := by decide +kernel
theorem dX13_sets_16 : decode cX13_sets 16 = .ok (.return_, 1) := by decide +kernel
theorem dX13_placeOf_0 : decode cX13_placeOf 0 = .ok (.iconst (-1), 1) := by decide +kernel
theorem dX13_placeOf_1 : decode cX13_placeOf 1 = .ok (.istore_n 2, 1) := by decide +kernel
theorem dX13_placeOf_2 : decode cX13_placeOf 2 = .ok (.iconst 0, 1) := by decide +kernel
theorem dX13_placeOf_3 : decode cX13_placeOf 3 = .ok (.istore_n 3, 1) := by decide +kernel
theorem dX13_placeOf_4 : decode cX13_placeOf 4 = .ok (.iload_n 3, 1) := by decide +kernel
theorem dX13_placeOf_5 : decode cX13_placeOf 5 = .ok (.aload_n 0, 1) := by decide +kernel
theorem dX13_placeOf_6 : decode cX13_placeOf 6 = .ok (.getfield 9, 3) := by decide +kernel
theorem dX13_placeOf_9 : decode cX13_placeOf 9 = .ok (.iconst 0, 1) := by decide +kernel
theorem dX13_placeOf_10 : decode cX13_placeOf 10 = .ok (.iaload, 1) := by decide +kernel
theorem dX13_placeOf_11 : decode cX13_placeOf 11 = .ok (.if_icmp .ge 25, 3) := by decide +kernel
theorem dX13_placeOf_14 : decode cX13_placeOf 14 = .ok (.aload_n 0, 1) := by decide +kernel
theorem dX13_placeOf_15 : decode cX13_placeOf 15 = .ok (.iload_n 3, 1) := by decide +kernel
theorem dX13_placeOf_16 : decode cX13_placeOf 16 = .ok (.iconst 0, 1) := by decide +kernel
theorem dX13_placeOf_17 : decode cX13_placeOf 17 = .ok (.invokevirtual 67, 3) := by decide +kernel
theorem dX13_placeOf_20 : decode cX13_placeOf 20 = .ok (.iload_n 1, 1) := by decide +kernel
theorem dX13_placeOf_21 : decode cX13_placeOf 21 = .ok (.if_icmp .ne 7, 3) := by decide +kernel
theorem dX13_placeOf_24 : decode cX13_placeOf 24 = .ok (.iload_n 3, 1) := by decide +kernel
theorem dX13_placeOf_25 : decode cX13_placeOf 25 = .ok (.goto 4, 3) := by decide +kernel
theorem dX13_placeOf_28 : decode cX13_placeOf 28 = .ok (.iload_n 2, 1) := by decide +kernel
theorem dX13_placeOf_29 : decode cX13_placeOf 29 = .ok (.istore_n 2, 1) := by decide +kernel
theorem dX13_placeOf_30 : decode cX13_placeOf 30 = .ok (.iinc 3 1, 3) := by decide +kernel
theorem dX13_placeOf_33 : decode cX13_placeOf 33 = .ok (.goto (-29), 3) := by decide +kernel
theorem dX13_placeOf_36 : decode cX13_placeOf 36 = .ok (.iload_n 2, 1) := by decide +kernel
theorem dX13_placeOf_37 : decode cX13_placeOf 37 = .ok (.ireturn, 1) := by decide +kernel
theorem dX13_long1_0 : decode cX13_long1 0 = .ok (.aload_n 0, 1) := by decide +kernel
theorem dX13_long1_1 : decode cX13_long1 1 = .ok (.iload_n 1, 1) := by decide +kernel
theorem dX13_long1_2 : decode cX13_long1 2 = .ok (.iconst 3, 1) := by decide +kernel
theorem dX13_long1_3 : decode cX13_long1 3 = .ok (.bipush 13, 2) := by decide +kernel
theorem dX13_long1_5 : decode cX13_long1 5 = .ok (.iload_n 2, 1) := by decide +kernel
theorem dX13_long1_6 : decode cX13_long1 6 = .ok (.imul, 1) := by decide +kernel
theorem dX13_long1_7 : decode cX13_long1 7 = .ok (.iadd, 1) := by decide +kernel
theorem dX13_long1_8 : decode cX13_long1 8 = .ok (.invokevirtual 67, 3) := by decide +kernel
theorem dX13_long1_11 : decode cX13_long1 11 = .ok (.ireturn, 1) := by decide +kernel
theorem dX13_letter_0 : decode cX13_letter 0 = .ok (.aload_n 0, 1) := by decide +kernel
theorem dX13_letter_1 : decode cX13_letter 1 = .ok (.iload_n 1, 1) := by decide +kernel
theorem dX13_letter_2 : decode cX13_letter 2 = .ok (.iconst 3, 1) := by decide +kernel
theorem dX13_letter_3 : decode cX13_letter 3 = .ok (.bipush 13, 2) := by decide +kernel
theorem dX13_letter_5 : decode cX13_letter 5 = .ok (.iload_n 2, 1) := by decide +kernel
theorem dX13_letter_6 : decode cX13_letter 6 = .ok (.imul, 1) := by decide +kernel
theorem dX13_letter_7 : decode cX13_letter 7 = .ok (.iadd, 1) := by decide +kernel
theorem dX13_letter_8 : decode cX13_letter 8 = .ok (.iconst 1, 1) := by decide +kernel
theorem dX13_letter_9 : decode cX13_letter 9 = .ok (.iadd, 1) := by decide +kernel
theorem dX13_letter_10 : decode cX13_letter 10 = .ok (.iload_n 3, 1) := by decide +kernel
theorem dX13_letter_11 : decode cX13_letter 11 = .ok (.iadd, 1) := by decide +kernel
theorem dX13_letter_12 : decode cX13_letter 12 = .ok (.invokevirtual 67, 3) := by decide +kernel
theorem dX13_letter_15 : decode cX13_letter 15 = .ok (.i2c, 1) := by decide +kernel
theorem dX13_letter_16 : decode cX13_letter 16 = .ok (.ireturn, 1) := by decide +kernel
theorem dX13_isWord_0 : decode cX13_isWord 0 = .ok (.iload_n 2, 1) := by decide +kernel
theorem dX13_isWord_1 : decode cX13_isWord 1 = .ok (.iconst 0, 1) := by decide +kernel
theorem dX13_isWord_2 : decode cX13_isWord 2 = .ok (.aload_n 0, 1) := by decide +kernel
theorem dX13_isWord_3 : decode cX13_isWord 3 = .ok (.iload_n 1, 1) := by decide +kernel
theorem dX13_isWord_4 : decode cX13_isWord 4 = .ok (.iconst 2, 1) := by decide +kernel
theorem dX13_isWord_5 : decode cX13_isWord 5 = .ok (.invokevirtual 67, 3) := by decide +kernel
theorem dX13_isWord_8 : decode cX13_isWord 8 = .ok (.iconst 1, 1) := by decide +kernel
theorem dX13_isWord_9 : decode cX13_isWord 9 = .ok (.isub, 1) := by decide +kernel
theorem dX13_isWord_10 : decode cX13_isWord 10 = .ok (.invokestatic 71, 3) := by decide +kernel
theorem dX13_isWord_13 : decode cX13_isWord 13 = .ok (.ireturn, 1) := by decide +kernel
theorem dX13_type_0 : decode cX13_type 0 = .ok (.iload_n 1, 1) := by decide +kernel
theorem dX13_type_1 : decode cX13_type 1 = .ok (.bipush 97, 2) := by decide +kernel
theorem dX13_type_3 : decode cX13_type 3 = .ok (.bipush 122, 2) := by decide +kernel
theorem dX13_type_5 : decode cX13_type 5 = .ok (.invokestatic 71, 3) := by decide +kernel
theorem dX13_type_8 : decode cX13_type 8 = .ok (.ifCond .ne 9, 3) := by decide +kernel
theorem dX13_type_11 : decode cX13_type 11 = .ok (.iload_n 1, 1) := by decide +kernel
theorem dX13_type_12 : decode cX13_type 12 = .ok (.bipush 32, 2) := by decide +kernel
theorem dX13_type_14 : decode cX13_type 14 = .ok (.if_icmp .ne 7, 3) := by decide +kernel
theorem dX13_type_17 : decode cX13_type 17 = .ok (.iconst 1, 1) := by decide +kernel
theorem dX13_type_18 : decode cX13_type 18 = .ok (.goto 4, 3) := by decide +kernel
theorem dX13_type_21 : decode cX13_type 21 = .ok (.iconst 0, 1) := by decide +kernel
theorem dX13_type_22 : decode cX13_type 22 = .ok (.istore_n 2, 1) := by decide +kernel
theorem dX13_type_23 : decode cX13_type 23 = .ok (.aload_n 0, 1) := by decide +kernel
theorem dX13_type_24 : decode cX13_type 24 = .ok (.iload_n 2, 1) := by decide +kernel
theorem dX13_type_25 : decode cX13_type 25 = .ok (.ifCond .ne 7, 3) := by decide +kernel
theorem dX13_type_28 : decode cX13_type 28 = .ok (.iconst 1, 1) := by decide +kernel
theorem dX13_type_29 : decode cX13_type 29 = .ok (.goto 17, 3) := by decide +kernel
theorem dX13_type_32 : decode cX13_type 32 = .ok (.aload_n 0, 1) := by decide +kernel
theorem dX13_type_33 : decode cX13_type 33 = .ok (.getfield 75, 3) := by decide +kernel
theorem dX13_type_36 : decode cX13_type 36 = .ok (.bipush 60, 2) := by decide +kernel
theorem dX13_type_38 : decode cX13_type 38 = .ok (.if_icmp .ne 7, 3) := by decide +kernel
theorem dX13_type_41 : decode cX13_type 41 = .ok (.iconst 2, 1) := by decide +kernel
theorem dX13_type_42 : decode cX13_type 42 = .ok (.goto 4, 3) := by decide +kernel
theorem dX13_type_45 : decode cX13_type 45 = .ok (.iconst 0, 1) := by decide +kernel
theorem dX13_type_46 : decode cX13_type 46 = .ok (.putfield 55, 3) := by decide +kernel
theorem dX13_type_49 : decode cX13_type 49 = .ok (.aload_n 0, 1) := by decide +kernel
theorem dX13_type_50 : decode cX13_type 50 = .ok (.getfield 55, 3) := by decide +kernel
theorem dX13_type_53 : decode cX13_type 53 = .ok (.ifCond .le 5, 3) := by decide +kernel
theorem dX13_type_56 : decode cX13_type 56 = .ok (.iconst 0, 1) := by decide +kernel
theorem dX13_type_57 : decode cX13_type 57 = .ok (.ireturn, 1) := by decide +kernel
theorem dX13_type_58 : decode cX13_type 58 = .ok (.aload_n 0, 1) := by decide +kernel
theorem dX13_type_59 : decode cX13_type 59 = .ok (.getfield 22, 3) := by decide +kernel
theorem dX13_type_62 : decode cX13_type 62 = .ok (.aload_n 0, 1) := by decide +kernel
theorem dX13_type_63 : decode cX13_type 63 = .ok (.getfield 75, 3) := by decide +kernel
theorem dX13_type_66 : decode cX13_type 66 = .ok (.iload_n 1, 1) := by decide +kernel
theorem dX13_type_67 : decode cX13_type 67 = .ok (.castore, 1) := by decide +kernel
theorem dX13_type_68 : decode cX13_type 68 = .ok (.aload_n 0, 1) := by decide +kernel
theorem dX13_type_69 : decode cX13_type 69 = .ok (.dup, 1) := by decide +kernel
theorem dX13_type_70 : decode cX13_type 70 = .ok (.getfield 75, 3) := by decide +kernel
theorem dX13_type_73 : decode cX13_type 73 = .ok (.iconst 1, 1) := by decide +kernel
theorem dX13_type_74 : decode cX13_type 74 = .ok (.iadd, 1) := by decide +kernel
theorem dX13_type_75 : decode cX13_type 75 = .ok (.putfield 75, 3) := by decide +kernel
theorem dX13_type_78 : decode cX13_type 78 = .ok (.aload_n 0, 1) := by decide +kernel
theorem dX13_type_79 : decode cX13_type 79 = .ok (.getfield 75, 3) := by decide +kernel
theorem dX13_type_82 : decode cX13_type 82 = .ok (.ireturn, 1) := by decide +kernel
theorem dX13_clearText_0 : decode cX13_clearText 0 = .ok (.aload_n 0, 1) := by decide +kernel
theorem dX13_clearText_1 : decode cX13_clearText 1 = .ok (.iconst 0, 1) := by decide +kernel
theorem dX13_clearText_2 : decode cX13_clearText 2 = .ok (.putfield 55, 3) := by decide +kernel
theorem dX13_clearText_5 : decode cX13_clearText 5 = .ok (.aload_n 0, 1) := by decide +kernel
theorem dX13_clearText_6 : decode cX13_clearText 6 = .ok (.getfield 75, 3) := by decide +kernel
theorem dX13_clearText_9 : decode cX13_clearText 9 = .ok (.istore_n 1, 1) := by decide +kernel
theorem dX13_clearText_10 : decode cX13_clearText 10 = .ok (.aload_n 0, 1) := by decide +kernel
theorem dX13_clearText_11 : decode cX13_clearText 11 = .ok (.iconst 0, 1) := by decide +kernel
theorem dX13_clearText_12 : decode cX13_clearText 12 = .ok (.putfield 75, 3) := by decide +kernel
theorem dX13_clearText_15 : decode cX13_clearText 15 = .ok (.iload_n 1, 1) := by decide +kernel
theorem dX13_clearText_16 : decode cX13_clearText 16 = .ok (.ireturn, 1) := by decide +kernel
theorem dX13_words_0 : decode cX13_words 0 = .ok (.iconst 0, 1) := by decide +kernel
theorem dX13_words_1 : decode cX13_words 1 = .ok (.istore_n 1, 1) := by decide +kernel
theorem dX13_words_2 : decode cX13_words 2 = .ok (.iconst 0, 1) := by decide +kernel
theorem dX13_words_3 : decode cX13_words 3 = .ok (.istore_n 2, 1) := by decide +kernel
theorem dX13_words_4 : decode cX13_words 4 = .ok (.aload_n 0, 1) := by decide +kernel
theorem dX13_words_5 : decode cX13_words 5 = .ok (.getfield 75, 3) := by decide +kernel
theorem dX13_words_8 : decode cX13_words 8 = .ok (.ifCond .le 7, 3) := by decide +kernel
theorem dX13_words_11 : decode cX13_words 11 = .ok (.iconst 1, 1) := by decide +kernel
theorem dX13_words_12 : decode cX13_words 12 = .ok (.goto 4, 3) := by decide +kernel
theorem dX13_words_15 : decode cX13_words 15 = .ok (.iconst 0, 1) := by decide +kernel
theorem dX13_words_16 : decode cX13_words 16 = .ok (.istore_n 3, 1) := by decide +kernel
theorem dX13_words_17 : decode cX13_words 17 = .ok (.iconst 0, 1) := by decide +kernel
theorem dX13_words_18 : decode cX13_words 18 = .ok (.istore 4, 2) := by decide +kernel
theorem dX13_words_20 : decode cX13_words 20 = .ok (.iload 4, 2) := by decide +kernel
theorem dX13_words_22 : decode cX13_words 22 = .ok (.aload_n 0, 1) := by decide +kernel
theorem dX13_words_23 : decode cX13_words 23 = .ok (.getfield 75, 3) := by decide +kernel
theorem dX13_words_26 : decode cX13_words 26 = .ok (.if_icmp .gt 88, 3) := by decide +kernel
theorem dX13_words_29 : decode cX13_words 29 = .ok (.iload 4, 2) := by decide +kernel
theorem dX13_words_31 : decode cX13_words 31 = .ok (.aload_n 0, 1) := by decide +kernel
theorem dX13_words_32 : decode cX13_words 32 = .ok (.getfield 75, 3) := by decide +kernel
theorem dX13_words_35 : decode cX13_words 35 = .ok (.if_icmp .eq 15, 3) := by decide +kernel
theorem dX13_words_38 : decode cX13_words 38 = .ok (.aload_n 0, 1) := by decide +kernel
theorem dX13_words_39 : decode cX13_words 39 = .ok (.getfield 22, 3) := by decide +kernel
theorem dX13_words_42 : decode cX13_words 42 = .ok (.iload 4, 2) := by decide +kernel
theorem dX13_words_44 : decode cX13_words 44 = .ok (.caload, 1) := by decide +kernel
theorem dX13_words_45 : decode cX13_words 45 = .ok (.bipush 32, 2) := by decide +kernel
theorem dX13_words_47 : decode cX13_words 47 = .ok (.if_icmp .ne 7, 3) := by decide +kernel
theorem dX13_words_50 : decode cX13_words 50 = .ok (.iconst 1, 1) := by decide +kernel
theorem dX13_words_51 : decode cX13_words 51 = .ok (.goto 4, 3) := by decide +kernel
theorem dX13_words_54 : decode cX13_words 54 = .ok (.iconst 0, 1) := by decide +kernel
theorem dX13_words_55 : decode cX13_words 55 = .ok (.istore 5, 2) := by decide +kernel
theorem dX13_words_57 : decode cX13_words 57 = .ok (.iload_n 3, 1) := by decide +kernel
theorem dX13_words_58 : decode cX13_words 58 = .ok (.ifCond .eq 22, 3) := by decide +kernel
theorem dX13_words_61 : decode cX13_words 61 = .ok (.iload 5, 2) := by decide +kernel
theorem dX13_words_63 : decode cX13_words 63 = .ok (.ifCond .eq 7, 3) := by decide +kernel
theorem dX13_words_66 : decode cX13_words 66 = .ok (.iload_n 2, 1) := by decide +kernel
theorem dX13_words_67 : decode cX13_words 67 = .ok (.ifCond .eq 13, 3) := by decide +kernel
theorem dX13_words_70 : decode cX13_words 70 = .ok (.iload_n 2, 1) := by decide +kernel
theorem dX13_words_71 : decode cX13_words 71 = .ok (.bipush 12, 2) := by decide +kernel
theorem dX13_words_73 : decode cX13_words 73 = .ok (.if_icmp .gt 7, 3) := by decide +kernel
theorem dX13_words_76 : decode cX13_words 76 = .ok (.iconst 1, 1) := by decide +kernel
theorem dX13_words_77 : decode cX13_words 77 = .ok (.goto 4, 3) := by decide +kernel
theorem dX13_words_80 : decode cX13_words 80 = .ok (.iconst 0, 1) := by decide +kernel
theorem dX13_words_81 : decode cX13_words 81 = .ok (.istore_n 3, 1) := by decide +kernel
theorem dX13_words_82 : decode cX13_words 82 = .ok (.iload_n 1, 1) := by decide +kernel
theorem dX13_words_83 : decode cX13_words 83 = .ok (.iload 5, 2) := by decide +kernel
theorem dX13_words_85 : decode cX13_words 85 = .ok (.ifCond .eq 7, 3) := by decide +kernel
theorem dX13_words_88 : decode cX13_words 88 = .ok (.iconst 1, 1) := by decide +kernel
theorem dX13_words_89 : decode cX13_words 89 = .ok (.goto 4, 3) := by decide +kernel
theorem dX13_words_92 : decode cX13_words 92 = .ok (.iconst 0, 1) := by decide +kernel
theorem dX13_words_93 : decode cX13_words 93 = .ok (.iadd, 1) := by decide +kernel
theorem dX13_words_94 : decode cX13_words 94 = .ok (.istore_n 1, 1) := by decide +kernel
theorem dX13_words_95 : decode cX13_words 95 = .ok (.iload 5, 2) := by decide +kernel
theorem dX13_words_97 : decode cX13_words 97 = .ok (.ifCond .eq 7, 3) := by decide +kernel
theorem dX13_words_100 : decode cX13_words 100 = .ok (.iconst 0, 1) := by decide +kernel
theorem dX13_words_101 : decode cX13_words 101 = .ok (.goto 6, 3) := by decide +kernel
theorem dX13_words_104 : decode cX13_words 104 = .ok (.iload_n 2, 1) := by decide +kernel
theorem dX13_words_105 : decode cX13_words 105 = .ok (.iconst 1, 1) := by decide +kernel
theorem dX13_words_106 : decode cX13_words 106 = .ok (.iadd, 1) := by decide +kernel
theorem dX13_words_107 : decode cX13_words 107 = .ok (.istore_n 2, 1) := by decide +kernel
theorem dX13_words_108 : decode cX13_words 108 = .ok (.iinc 4 1, 3) := by decide +kernel
theorem dX13_words_111 : decode cX13_words 111 = .ok (.goto (-91), 3) := by decide +kernel
theorem dX13_words_114 : decode cX13_words 114 = .ok (.iload_n 3, 1) := by decide +kernel
theorem dX13_words_115 : decode cX13_words 115 = .ok (.ifCond .eq 7, 3) := by decide +kernel
theorem dX13_words_118 : decode cX13_words 118 = .ok (.iload_n 1, 1) := by decide +kernel
theorem dX13_words_119 : decode cX13_words 119 = .ok (.goto 4, 3) := by decide +kernel
theorem dX13_words_122 : decode cX13_words 122 = .ok (.iconst 0, 1) := by decide +kernel
theorem dX13_words_123 : decode cX13_words 123 = .ok (.ireturn, 1) := by decide +kernel
theorem dX13_takes_0 : decode cX13_takes 0 = .ok (.iload_n 3, 1) := by decide +kernel
theorem dX13_takes_1 : decode cX13_takes 1 = .ok (.istore 4, 2) := by decide +kernel
theorem dX13_takes_3 : decode cX13_takes 3 = .ok (.iload 4, 2) := by decide +kernel
theorem dX13_takes_5 : decode cX13_takes 5 = .ok (.aload_n 0, 1) := by decide +kernel
theorem dX13_takes_6 : decode cX13_takes 6 = .ok (.getfield 75, 3) := by decide +kernel
theorem dX13_takes_9 : decode cX13_takes 9 = .ok (.if_icmp .ge 46, 3) := by decide +kernel
theorem dX13_takes_12 : decode cX13_takes 12 = .ok (.aload_n 0, 1) := by decide +kernel
theorem dX13_takes_13 : decode cX13_takes 13 = .ok (.getfield 22, 3) := by decide +kernel
theorem dX13_takes_16 : decode cX13_takes 16 = .ok (.iload 4, 2) := by decide +kernel
theorem dX13_takes_18 : decode cX13_takes 18 = .ok (.caload, 1) := by decide +kernel
theorem dX13_takes_19 : decode cX13_takes 19 = .ok (.bipush 32, 2) := by decide +kernel
theorem dX13_takes_21 : decode cX13_takes 21 = .ok (.if_icmp .eq 34, 3) := by decide +kernel
theorem dX13_takes_24 : decode cX13_takes 24 = .ok (.aload_n 0, 1) := by decide +kernel
theorem dX13_takes_25 : decode cX13_takes 25 = .ok (.iload_n 1, 1) := by decide +kernel
theorem dX13_takes_26 : decode cX13_takes 26 = .ok (.iconst 3, 1) := by decide +kernel
theorem dX13_takes_27 : decode cX13_takes 27 = .ok (.bipush 13, 2) := by decide +kernel
theorem dX13_takes_29 : decode cX13_takes 29 = .ok (.iload_n 2, 1) := by decide +kernel
theorem dX13_takes_30 : decode cX13_takes 30 = .ok (.imul, 1) := by decide +kernel
theorem dX13_takes_31 : decode cX13_takes 31 = .ok (.iadd, 1) := by decide +kernel
theorem dX13_takes_32 : decode cX13_takes 32 = .ok (.iconst 1, 1) := by decide +kernel
theorem dX13_takes_33 : decode cX13_takes 33 = .ok (.iadd, 1) := by decide +kernel
theorem dX13_takes_34 : decode cX13_takes 34 = .ok (.iload 4, 2) := by decide +kernel
theorem dX13_takes_36 : decode cX13_takes 36 = .ok (.iadd, 1) := by decide +kernel
theorem dX13_takes_37 : decode cX13_takes 37 = .ok (.iload_n 3, 1) := by decide +kernel
theorem dX13_takes_38 : decode cX13_takes 38 = .ok (.isub, 1) := by decide +kernel
theorem dX13_takes_39 : decode cX13_takes 39 = .ok (.aload_n 0, 1) := by decide +kernel
theorem dX13_takes_40 : decode cX13_takes 40 = .ok (.getfield 22, 3) := by decide +kernel
theorem dX13_takes_43 : decode cX13_takes 43 = .ok (.iload 4, 2) := by decide +kernel
theorem dX13_takes_45 : decode cX13_takes 45 = .ok (.caload, 1) := by decide +kernel
theorem dX13_takes_46 : decode cX13_takes 46 = .ok (.invokevirtual 78, 3) := by decide +kernel
theorem dX13_takes_49 : decode cX13_takes 49 = .ok (.iinc 4 1, 3) := by decide +kernel
theorem dX13_takes_52 : decode cX13_takes 52 = .ok (.goto (-49), 3) := by decide +kernel
theorem dX13_takes_55 : decode cX13_takes 55 = .ok (.aload_n 0, 1) := by decide +kernel
theorem dX13_takes_56 : decode cX13_takes 56 = .ok (.iload_n 1, 1) := by decide +kernel
theorem dX13_takes_57 : decode cX13_takes 57 = .ok (.iconst 3, 1) := by decide +kernel
theorem dX13_takes_58 : decode cX13_takes 58 = .ok (.bipush 13, 2) := by decide +kernel
theorem dX13_takes_60 : decode cX13_takes 60 = .ok (.iload_n 2, 1) := by decide +kernel
theorem dX13_takes_61 : decode cX13_takes 61 = .ok (.imul, 1) := by decide +kernel
theorem dX13_takes_62 : decode cX13_takes 62 = .ok (.iadd, 1) := by decide +kernel
theorem dX13_takes_63 : decode cX13_takes 63 = .ok (.iload 4, 2) := by decide +kernel
theorem dX13_takes_65 : decode cX13_takes 65 = .ok (.iload_n 3, 1) := by decide +kernel
theorem dX13_takes_66 : decode cX13_takes 66 = .ok (.isub, 1) := by decide +kernel
theorem dX13_takes_67 : decode cX13_takes 67 = .ok (.invokevirtual 78, 3) := by decide +kernel
theorem dX13_takes_70 : decode cX13_takes 70 = .ok (.iload 4, 2) := by decide +kernel
theorem dX13_takes_72 : decode cX13_takes 72 = .ok (.ireturn, 1) := by decide +kernel
theorem dX13_doAddArticle_0 : decode cX13_doAddArticle 0 = .ok (.aload_n 0, 1) := by decide +kernel
theorem dX13_doAddArticle_1 : decode cX13_doAddArticle 1 = .ok (.getfield 9, 3) := by decide +kernel
theorem dX13_doAddArticle_4 : decode cX13_doAddArticle 4 = .ok (.iconst 0, 1) := by decide +kernel
theorem dX13_doAddArticle_5 : decode cX13_doAddArticle 5 = .ok (.iaload, 1) := by decide +kernel
theorem dX13_doAddArticle_6 : decode cX13_doAddArticle 6 = .ok (.istore_n 2, 1) := by decide +kernel
theorem dX13_doAddArticle_7 : decode cX13_doAddArticle 7 = .ok (.iload_n 1, 1) := by decide +kernel
theorem dX13_doAddArticle_8 : decode cX13_doAddArticle 8 = .ok (.iconst 1, 1) := by decide +kernel
theorem dX13_doAddArticle_9 : decode cX13_doAddArticle 9 = .ok (.bipush 9, 2) := by decide +kernel
theorem dX13_doAddArticle_11 : decode cX13_doAddArticle 11 = .ok (.invokestatic 71, 3) := by decide +kernel
theorem dX13_doAddArticle_14 : decode cX13_doAddArticle 14 = .ok (.ifCond .ne 9, 3) := by decide +kernel
theorem dX13_doAddArticle_17 : decode cX13_doAddArticle 17 = .ok (.aload_n 0, 1) := by decide +kernel
theorem dX13_doAddArticle_18 : decode cX13_doAddArticle 18 = .ok (.iconst 1, 1) := by decide +kernel
theorem dX13_doAddArticle_19 : decode cX13_doAddArticle 19 = .ok (.invokevirtual 82, 3) := by decide +kernel
theorem dX13_doAddArticle_22 : decode cX13_doAddArticle 22 = .ok (.ireturn, 1) := by decide +kernel
theorem dX13_doAddArticle_23 : decode cX13_doAddArticle 23 = .ok (.iload_n 2, 1) := by decide +kernel
theorem dX13_doAddArticle_24 : decode cX13_doAddArticle 24 = .ok (.bipush 6, 2) := by decide +kernel
theorem dX13_doAddArticle_26 : decode cX13_doAddArticle 26 = .ok (.if_icmp .ne 9, 3) := by decide +kernel
theorem dX13_doAddArticle_29 : decode cX13_doAddArticle 29 = .ok (.aload_n 0, 1) := by decide +kernel
theorem dX13_doAddArticle_30 : decode cX13_doAddArticle 30 = .ok (.iconst 2, 1) := by decide +kernel
theorem dX13_doAddArticle_31 : decode cX13_doAddArticle 31 = .ok (.invokevirtual 82, 3) := by decide +kernel
theorem dX13_doAddArticle_34 : decode cX13_doAddArticle 34 = .ok (.ireturn, 1) := by decide +kernel
theorem dX13_doAddArticle_35 : decode cX13_doAddArticle 35 = .ok (.aload_n 0, 1) := by decide +kernel
theorem dX13_doAddArticle_36 : decode cX13_doAddArticle 36 = .ok (.invokevirtual 86, 3) := by decide +kernel
theorem dX13_doAddArticle_39 : decode cX13_doAddArticle 39 = .ok (.istore_n 3, 1) := by decide +kernel
theorem dX13_doAddArticle_40 : decode cX13_doAddArticle 40 = .ok (.iload_n 3, 1) := by decide +kernel
theorem dX13_doAddArticle_41 : decode cX13_doAddArticle 41 = .ok (.ifCond .ne 9, 3) := by decide +kernel
theorem dX13_doAddArticle_44 : decode cX13_doAddArticle 44 = .ok (.aload_n 0, 1) := by decide +kernel
theorem dX13_doAddArticle_45 : decode cX13_doAddArticle 45 = .ok (.iconst 3, 1) := by decide +kernel
theorem dX13_doAddArticle_46 : decode cX13_doAddArticle 46 = .ok (.invokevirtual 82, 3) := by decide +kernel
theorem dX13_doAddArticle_49 : decode cX13_doAddArticle 49 = .ok (.ireturn, 1) := by decide +kernel
theorem dX13_doAddArticle_50 : decode cX13_doAddArticle 50 = .ok (.aload_n 0, 1) := by decide +kernel
theorem dX13_doAddArticle_51 : decode cX13_doAddArticle 51 = .ok (.iload_n 2, 1) := by decide +kernel
theorem dX13_doAddArticle_52 : decode cX13_doAddArticle 52 = .ok (.iconst 0, 1) := by decide +kernel
theorem dX13_doAddArticle_53 : decode cX13_doAddArticle 53 = .ok (.aload_n 0, 1) := by decide +kernel
theorem dX13_doAddArticle_54 : decode cX13_doAddArticle 54 = .ok (.getfield 9, 3) := by decide +kernel
theorem dX13_doAddArticle_57 : decode cX13_doAddArticle 57 = .ok (.iconst 1, 1) := by decide +kernel
theorem dX13_doAddArticle_58 : decode cX13_doAddArticle 58 = .ok (.iaload, 1) := by decide +kernel
theorem dX13_doAddArticle_59 : decode cX13_doAddArticle 59 = .ok (.invokevirtual 78, 3) := by decide +kernel
theorem dX13_doAddArticle_62 : decode cX13_doAddArticle 62 = .ok (.aload_n 0, 1) := by decide +kernel
theorem dX13_doAddArticle_63 : decode cX13_doAddArticle 63 = .ok (.iload_n 2, 1) := by decide +kernel
theorem dX13_doAddArticle_64 : decode cX13_doAddArticle 64 = .ok (.iconst 1, 1) := by decide +kernel
theorem dX13_doAddArticle_65 : decode cX13_doAddArticle 65 = .ok (.iload_n 1, 1) := by decide +kernel
theorem dX13_doAddArticle_66 : decode cX13_doAddArticle 66 = .ok (.invokevirtual 78, 3) := by decide +kernel
theorem dX13_doAddArticle_69 : decode cX13_doAddArticle 69 = .ok (.aload_n 0, 1) := by decide +kernel
theorem dX13_doAddArticle_70 : decode cX13_doAddArticle 70 = .ok (.iload_n 2, 1) := by decide +kernel
theorem dX13_doAddArticle_71 : decode cX13_doAddArticle 71 = .ok (.iconst 2, 1) := by decide +kernel
theorem dX13_doAddArticle_72 : decode cX13_doAddArticle 72 = .ok (.iload_n 3, 1) := by decide +kernel
theorem dX13_doAddArticle_73 : decode cX13_doAddArticle 73 = .ok (.invokevirtual 78, 3) := by decide +kernel
theorem dX13_doAddArticle_76 : decode cX13_doAddArticle 76 = .ok (.iconst 0, 1) := by decide +kernel
theorem dX13_doAddArticle_77 : decode cX13_doAddArticle 77 = .ok (.istore 4, 2) := by decide +kernel
theorem dX13_doAddArticle_79 : decode cX13_doAddArticle 79 = .ok (.iconst 0, 1) := by decide +kernel
theorem dX13_doAddArticle_80 : decode cX13_doAddArticle 80 = .ok (.istore 5, 2) := by decide +kernel
theorem dX13_doAddArticle_82 : decode cX13_doAddArticle 82 = .ok (.iload 5, 2) := by decide +kernel
theorem dX13_doAddArticle_84 : decode cX13_doAddArticle 84 = .ok (.iload_n 3, 1) := by decide +kernel
theorem dX13_doAddArticle_85 : decode cX13_doAddArticle 85 = .ok (.if_icmp .ge 22, 3) := by decide +kernel
theorem dX13_doAddArticle_88 : decode cX13_doAddArticle 88 = .ok (.aload_n 0, 1) := by decide +kernel
theorem dX13_doAddArticle_89 : decode cX13_doAddArticle 89 = .ok (.iload_n 2, 1) := by decide +kernel
theorem dX13_doAddArticle_90 : decode cX13_doAddArticle 90 = .ok (.iload 5, 2) := by decide +kernel
theorem dX13_doAddArticle_92 : decode cX13_doAddArticle 92 = .ok (.iload 4, 2) := by decide +kernel
theorem dX13_doAddArticle_94 : decode cX13_doAddArticle 94 = .ok (.invokevirtual 90, 3) := by decide +kernel
theorem dX13_doAddArticle_97 : decode cX13_doAddArticle 97 = .ok (.iconst 1, 1) := by decide +kernel
theorem dX13_doAddArticle_98 : decode cX13_doAddArticle 98 = .ok (.iadd, 1) := by decide +kernel
theorem dX13_doAddArticle_99 : decode cX13_doAddArticle 99 = .ok (.istore 4, 2) := by decide +kernel
theorem dX13_doAddArticle_101 : decode cX13_doAddArticle 101 = .ok (.iinc 5 1, 3) := by decide +kernel
theorem dX13_doAddArticle_104 : decode cX13_doAddArticle 104 = .ok (.goto (-22), 3) := by decide +kernel
theorem dX13_doAddArticle_107 : decode cX13_doAddArticle 107 = .ok (.aload_n 0, 1) := by decide +kernel
theorem dX13_doAddArticle_108 : decode cX13_doAddArticle 108 = .ok (.iconst 0, 1) := by decide +kernel
theorem dX13_doAddArticle_109 : decode cX13_doAddArticle 109 = .ok (.putfield 75, 3) := by decide +kernel
theorem dX13_doAddArticle_112 : decode cX13_doAddArticle 112 = .ok (.aload_n 0, 1) := by decide +kernel
theorem dX13_doAddArticle_113 : decode cX13_doAddArticle 113 = .ok (.getfield 9, 3) := by decide +kernel
theorem dX13_doAddArticle_116 : decode cX13_doAddArticle 116 = .ok (.iconst 0, 1) := by decide +kernel
theorem dX13_doAddArticle_117 : decode cX13_doAddArticle 117 = .ok (.dup2, 1) := by decide +kernel
theorem dX13_doAddArticle_118 : decode cX13_doAddArticle 118 = .ok (.iaload, 1) := by decide +kernel
theorem dX13_doAddArticle_119 : decode cX13_doAddArticle 119 = .ok (.iconst 1, 1) := by decide +kernel
theorem dX13_doAddArticle_120 : decode cX13_doAddArticle 120 = .ok (.iadd, 1) := by decide +kernel
theorem dX13_doAddArticle_121 : decode cX13_doAddArticle 121 = .ok (.iastore, 1) := by decide +kernel
theorem dX13_doAddArticle_122 : decode cX13_doAddArticle 122 = .ok (.aload_n 0, 1) := by decide +kernel
theorem dX13_doAddArticle_123 : decode cX13_doAddArticle 123 = .ok (.getfield 9, 3) := by decide +kernel
theorem dX13_doAddArticle_126 : decode cX13_doAddArticle 126 = .ok (.iconst 1, 1) := by decide +kernel
theorem dX13_doAddArticle_127 : decode cX13_doAddArticle 127 = .ok (.dup2, 1) := by decide +kernel
theorem dX13_doAddArticle_128 : decode cX13_doAddArticle 128 = .ok (.iaload, 1) := by decide +kernel
theorem dX13_doAddArticle_129 : decode cX13_doAddArticle 129 = .ok (.iconst 1, 1) := by decide +kernel
theorem dX13_doAddArticle_130 : decode cX13_doAddArticle 130 = .ok (.iadd, 1) := by decide +kernel
theorem dX13_doAddArticle_131 : decode cX13_doAddArticle 131 = .ok (.iastore, 1) := by decide +kernel
theorem dX13_doAddArticle_132 : decode cX13_doAddArticle 132 = .ok (.aload_n 0, 1) := by decide +kernel
theorem dX13_doAddArticle_133 : decode cX13_doAddArticle 133 = .ok (.getfield 9, 3) := by decide +kernel
theorem dX13_doAddArticle_136 : decode cX13_doAddArticle 136 = .ok (.iconst 1, 1) := by decide +kernel
theorem dX13_doAddArticle_137 : decode cX13_doAddArticle 137 = .ok (.iaload, 1) := by decide +kernel
theorem dX13_doAddArticle_138 : decode cX13_doAddArticle 138 = .ok (.iconst 1, 1) := by decide +kernel
theorem dX13_doAddArticle_139 : decode cX13_doAddArticle 139 = .ok (.isub, 1) := by decide +kernel
theorem dX13_doAddArticle_140 : decode cX13_doAddArticle 140 = .ok (.ireturn, 1) := by decide +kernel
theorem dX13_addArticle_0 : decode cX13_addArticle 0 = .ok (.aload_n 0, 1) := by decide +kernel
theorem dX13_addArticle_1 : decode cX13_addArticle 1 = .ok (.invokevirtual 94, 3) := by decide +kernel
theorem dX13_addArticle_4 : decode cX13_addArticle 4 = .ok (.aload_n 0, 1) := by decide +kernel
theorem dX13_addArticle_5 : decode cX13_addArticle 5 = .ok (.aload_n 0, 1) := by decide +kernel
theorem dX13_addArticle_6 : decode cX13_addArticle 6 = .ok (.iload_n 1, 1) := by decide +kernel
theorem dX13_addArticle_7 : decode cX13_addArticle 7 = .ok (.invokevirtual 97, 3) := by decide +kernel
theorem dX13_addArticle_10 : decode cX13_addArticle 10 = .ok (.invokevirtual 100, 3) := by decide +kernel
theorem dX13_addArticle_13 : decode cX13_addArticle 13 = .ok (.ireturn, 1) := by decide +kernel
theorem dX13_doRemoveArticle_0 : decode cX13_doRemoveArticle 0 = .ok (.aload_n 0, 1) := by decide +kernel
theorem dX13_doRemoveArticle_1 : decode cX13_doRemoveArticle 1 = .ok (.iload_n 1, 1) := by decide +kernel
theorem dX13_doRemoveArticle_2 : decode cX13_doRemoveArticle 2 = .ok (.invokevirtual 103, 3) := by decide +kernel
theorem dX13_doRemoveArticle_5 : decode cX13_doRemoveArticle 5 = .ok (.istore_n 2, 1) := by decide +kernel
theorem dX13_doRemoveArticle_6 : decode cX13_doRemoveArticle 6 = .ok (.iload_n 2, 1) := by decide +kernel
theorem dX13_doRemoveArticle_7 : decode cX13_doRemoveArticle 7 = .ok (.ifCond .ge 9, 3) := by decide +kernel
theorem dX13_doRemoveArticle_10 : decode cX13_doRemoveArticle 10 = .ok (.aload_n 0, 1) := by decide +kernel
theorem dX13_doRemoveArticle_11 : decode cX13_doRemoveArticle 11 = .ok (.iconst 1, 1) := by decide +kernel
theorem dX13_doRemoveArticle_12 : decode cX13_doRemoveArticle 12 = .ok (.invokevirtual 82, 3) := by decide +kernel
theorem dX13_doRemoveArticle_15 : decode cX13_doRemoveArticle 15 = .ok (.ireturn, 1) := by decide +kernel
theorem dX13_doRemoveArticle_16 : decode cX13_doRemoveArticle 16 = .ok (.aload_n 0, 1) := by decide +kernel
theorem dX13_doRemoveArticle_17 : decode cX13_doRemoveArticle 17 = .ok (.getfield 9, 3) := by decide +kernel
theorem dX13_doRemoveArticle_20 : decode cX13_doRemoveArticle 20 = .ok (.iconst 0, 1) := by decide +kernel
theorem dX13_doRemoveArticle_21 : decode cX13_doRemoveArticle 21 = .ok (.dup2, 1) := by decide +kernel
theorem dX13_doRemoveArticle_22 : decode cX13_doRemoveArticle 22 = .ok (.iaload, 1) := by decide +kernel
theorem dX13_doRemoveArticle_23 : decode cX13_doRemoveArticle 23 = .ok (.iconst 1, 1) := by decide +kernel
theorem dX13_doRemoveArticle_24 : decode cX13_doRemoveArticle 24 = .ok (.isub, 1) := by decide +kernel
theorem dX13_doRemoveArticle_25 : decode cX13_doRemoveArticle 25 = .ok (.iastore, 1) := by decide +kernel
theorem dX13_doRemoveArticle_26 : decode cX13_doRemoveArticle 26 = .ok (.bipush 9, 2) := by decide +kernel
theorem dX13_doRemoveArticle_28 : decode cX13_doRemoveArticle 28 = .ok (.sipush 393, 3) := by decide +kernel
theorem dX13_doRemoveArticle_31 : decode cX13_doRemoveArticle 31 = .ok (.iload_n 2, 1) := by decide +kernel
theorem dX13_doRemoveArticle_32 : decode cX13_doRemoveArticle 32 = .ok (.imul, 1) := by decide +kernel
theorem dX13_doRemoveArticle_33 : decode cX13_doRemoveArticle 33 = .ok (.iadd, 1) := by decide +kernel
theorem dX13_doRemoveArticle_34 : decode cX13_doRemoveArticle 34 = .ok (.istore_n 3, 1) := by decide +kernel
theorem dX13_doRemoveArticle_35 : decode cX13_doRemoveArticle 35 = .ok (.aload_n 0, 1) := by decide +kernel
theorem dX13_doRemoveArticle_36 : decode cX13_doRemoveArticle 36 = .ok (.getfield 9, 3) := by decide +kernel
theorem dX13_doRemoveArticle_39 : decode cX13_doRemoveArticle 39 = .ok (.iload_n 3, 1) := by decide +kernel
theorem dX13_doRemoveArticle_40 : decode cX13_doRemoveArticle 40 = .ok (.sipush 393, 3) := by decide +kernel
theorem dX13_doRemoveArticle_43 : decode cX13_doRemoveArticle 43 = .ok (.iadd, 1) := by decide +kernel
theorem dX13_doRemoveArticle_44 : decode cX13_doRemoveArticle 44 = .ok (.aload_n 0, 1) := by decide +kernel
theorem dX13_doRemoveArticle_45 : decode cX13_doRemoveArticle 45 = .ok (.getfield 9, 3) := by decide +kernel
theorem dX13_doRemoveArticle_48 : decode cX13_doRemoveArticle 48 = .ok (.iload_n 3, 1) := by decide +kernel
theorem dX13_doRemoveArticle_49 : decode cX13_doRemoveArticle 49 = .ok (.sipush 393, 3) := by decide +kernel
theorem dX13_doRemoveArticle_52 : decode cX13_doRemoveArticle 52 = .ok (.aload_n 0, 1) := by decide +kernel
theorem dX13_doRemoveArticle_53 : decode cX13_doRemoveArticle 53 = .ok (.getfield 9, 3) := by decide +kernel
theorem dX13_doRemoveArticle_56 : decode cX13_doRemoveArticle 56 = .ok (.iconst 0, 1) := by decide +kernel
theorem dX13_doRemoveArticle_57 : decode cX13_doRemoveArticle 57 = .ok (.iaload, 1) := by decide +kernel
theorem dX13_doRemoveArticle_58 : decode cX13_doRemoveArticle 58 = .ok (.iload_n 2, 1) := by decide +kernel
theorem dX13_doRemoveArticle_59 : decode cX13_doRemoveArticle 59 = .ok (.isub, 1) := by decide +kernel
theorem dX13_doRemoveArticle_60 : decode cX13_doRemoveArticle 60 = .ok (.imul, 1) := by decide +kernel
theorem dX13_doRemoveArticle_61 : decode cX13_doRemoveArticle 61 = .ok (.invokestatic 58, 3) := by decide +kernel
theorem dX13_doRemoveArticle_64 : decode cX13_doRemoveArticle 64 = .ok (.aload_n 0, 1) := by decide +kernel
theorem dX13_doRemoveArticle_65 : decode cX13_doRemoveArticle 65 = .ok (.getfield 9, 3) := by decide +kernel
theorem dX13_doRemoveArticle_68 : decode cX13_doRemoveArticle 68 = .ok (.iconst 0, 1) := by decide +kernel
theorem dX13_doRemoveArticle_69 : decode cX13_doRemoveArticle 69 = .ok (.iaload, 1) := by decide +kernel
theorem dX13_doRemoveArticle_70 : decode cX13_doRemoveArticle 70 = .ok (.ireturn, 1) := by decide +kernel
theorem dX13_removeArticle_0 : decode cX13_removeArticle 0 = .ok (.aload_n 0, 1) := by decide +kernel
theorem dX13_removeArticle_1 : decode cX13_removeArticle 1 = .ok (.invokevirtual 94, 3) := by decide +kernel
theorem dX13_removeArticle_4 : decode cX13_removeArticle 4 = .ok (.aload_n 0, 1) := by decide +kernel
theorem dX13_removeArticle_5 : decode cX13_removeArticle 5 = .ok (.aload_n 0, 1) := by decide +kernel
theorem dX13_removeArticle_6 : decode cX13_removeArticle 6 = .ok (.iload_n 1, 1) := by decide +kernel
theorem dX13_removeArticle_7 : decode cX13_removeArticle 7 = .ok (.invokevirtual 106, 3) := by decide +kernel
theorem dX13_removeArticle_10 : decode cX13_removeArticle 10 = .ok (.invokevirtual 100, 3) := by decide +kernel
theorem dX13_removeArticle_13 : decode cX13_removeArticle 13 = .ok (.ireturn, 1) := by decide +kernel
theorem dX13_doCorrect_0 : decode cX13_doCorrect 0 = .ok (.aload_n 0, 1) := by decide +kernel
theorem dX13_doCorrect_1 : decode cX13_doCorrect 1 = .ok (.iload_n 1, 1) := by decide +kernel
theorem dX13_doCorrect_2 : decode cX13_doCorrect 2 = .ok (.invokevirtual 103, 3) := by decide +kernel
theorem dX13_doCorrect_5 : decode cX13_doCorrect 5 = .ok (.istore_n 3, 1) := by decide +kernel
theorem dX13_doCorrect_6 : decode cX13_doCorrect 6 = .ok (.iload_n 3, 1) := by decide +kernel
theorem dX13_doCorrect_7 : decode cX13_doCorrect 7 = .ok (.ifCond .ge 9, 3) := by decide +kernel
theorem dX13_doCorrect_10 : decode cX13_doCorrect 10 = .ok (.aload_n 0, 1) := by decide +kernel
theorem dX13_doCorrect_11 : decode cX13_doCorrect 11 = .ok (.iconst 1, 1) := by decide +kernel
theorem dX13_doCorrect_12 : decode cX13_doCorrect 12 = .ok (.invokevirtual 82, 3) := by decide +kernel
theorem dX13_doCorrect_15 : decode cX13_doCorrect 15 = .ok (.ireturn, 1) := by decide +kernel
theorem dX13_doCorrect_16 : decode cX13_doCorrect 16 = .ok (.aload_n 0, 1) := by decide +kernel
theorem dX13_doCorrect_17 : decode cX13_doCorrect 17 = .ok (.iload_n 3, 1) := by decide +kernel
theorem dX13_doCorrect_18 : decode cX13_doCorrect 18 = .ok (.iload_n 2, 1) := by decide +kernel
theorem dX13_doCorrect_19 : decode cX13_doCorrect 19 = .ok (.invokevirtual 109, 3) := by decide +kernel
theorem dX13_doCorrect_22 : decode cX13_doCorrect 22 = .ok (.ifCond .ne 9, 3) := by decide +kernel
theorem dX13_doCorrect_25 : decode cX13_doCorrect 25 = .ok (.aload_n 0, 1) := by decide +kernel
theorem dX13_doCorrect_26 : decode cX13_doCorrect 26 = .ok (.iconst 2, 1) := by decide +kernel
theorem dX13_doCorrect_27 : decode cX13_doCorrect 27 = .ok (.invokevirtual 82, 3) := by decide +kernel
theorem dX13_doCorrect_30 : decode cX13_doCorrect 30 = .ok (.ireturn, 1) := by decide +kernel
theorem dX13_doCorrect_31 : decode cX13_doCorrect 31 = .ok (.aload_n 0, 1) := by decide +kernel
theorem dX13_doCorrect_32 : decode cX13_doCorrect 32 = .ok (.invokevirtual 86, 3) := by decide +kernel
theorem dX13_doCorrect_35 : decode cX13_doCorrect 35 = .ok (.iconst 1, 1) := by decide +kernel
theorem dX13_doCorrect_36 : decode cX13_doCorrect 36 = .ok (.if_icmp .eq 9, 3) := by decide +kernel
theorem dX13_doCorrect_39 : decode cX13_doCorrect 39 = .ok (.aload_n 0, 1) := by decide +kernel
theorem dX13_doCorrect_40 : decode cX13_doCorrect 40 = .ok (.iconst 3, 1) := by decide +kernel
theorem dX13_doCorrect_41 : decode cX13_doCorrect 41 = .ok (.invokevirtual 82, 3) := by decide +kernel
theorem dX13_doCorrect_44 : decode cX13_doCorrect 44 = .ok (.ireturn, 1) := by decide +kernel
theorem dX13_doCorrect_45 : decode cX13_doCorrect 45 = .ok (.aload_n 0, 1) := by decide +kernel
theorem dX13_doCorrect_46 : decode cX13_doCorrect 46 = .ok (.iload_n 3, 1) := by decide +kernel
theorem dX13_doCorrect_47 : decode cX13_doCorrect 47 = .ok (.iload_n 2, 1) := by decide +kernel
theorem dX13_doCorrect_48 : decode cX13_doCorrect 48 = .ok (.invokevirtual 113, 3) := by decide +kernel
theorem dX13_doCorrect_51 : decode cX13_doCorrect 51 = .ok (.istore 4, 2) := by decide +kernel
theorem dX13_doCorrect_53 : decode cX13_doCorrect 53 = .ok (.iconst 0, 1) := by decide +kernel
theorem dX13_doCorrect_54 : decode cX13_doCorrect 54 = .ok (.istore 5, 2) := by decide +kernel
theorem dX13_doCorrect_56 : decode cX13_doCorrect 56 = .ok (.iconst 0, 1) := by decide +kernel
theorem dX13_doCorrect_57 : decode cX13_doCorrect 57 = .ok (.istore 6, 2) := by decide +kernel
theorem dX13_doCorrect_59 : decode cX13_doCorrect 59 = .ok (.iload 6, 2) := by decide +kernel
theorem dX13_doCorrect_61 : decode cX13_doCorrect 61 = .ok (.aload_n 0, 1) := by decide +kernel
theorem dX13_doCorrect_62 : decode cX13_doCorrect 62 = .ok (.getfield 9, 3) := by decide +kernel
theorem dX13_doCorrect_65 : decode cX13_doCorrect 65 = .ok (.bipush 7, 2) := by decide +kernel
theorem dX13_doCorrect_67 : decode cX13_doCorrect 67 = .ok (.iaload, 1) := by decide +kernel
theorem dX13_doCorrect_68 : decode cX13_doCorrect 68 = .ok (.if_icmp .ge 31, 3) := by decide +kernel
theorem dX13_doCorrect_71 : decode cX13_doCorrect 71 = .ok (.iload 5, 2) := by decide +kernel
theorem dX13_doCorrect_73 : decode cX13_doCorrect 73 = .ok (.ifCond .ne 13, 3) := by decide +kernel
theorem dX13_doCorrect_76 : decode cX13_doCorrect 76 = .ok (.aload_n 0, 1) := by decide +kernel
theorem dX13_doCorrect_77 : decode cX13_doCorrect 77 = .ok (.iload 6, 2) := by decide +kernel
theorem dX13_doCorrect_79 : decode cX13_doCorrect 79 = .ok (.iload_n 1, 1) := by decide +kernel
theorem dX13_doCorrect_80 : decode cX13_doCorrect 80 = .ok (.invokevirtual 116, 3) := by decide +kernel
theorem dX13_doCorrect_83 : decode cX13_doCorrect 83 = .ok (.ifCond .lt 7, 3) := by decide +kernel
theorem dX13_doCorrect_86 : decode cX13_doCorrect 86 = .ok (.iconst 1, 1) := by decide +kernel
theorem dX13_doCorrect_87 : decode cX13_doCorrect 87 = .ok (.goto 4, 3) := by decide +kernel
theorem dX13_doCorrect_90 : decode cX13_doCorrect 90 = .ok (.iconst 0, 1) := by decide +kernel
theorem dX13_doCorrect_91 : decode cX13_doCorrect 91 = .ok (.istore 5, 2) := by decide +kernel
theorem dX13_doCorrect_93 : decode cX13_doCorrect 93 = .ok (.iinc 6 1, 3) := by decide +kernel
theorem dX13_doCorrect_96 : decode cX13_doCorrect 96 = .ok (.goto (-37), 3) := by decide +kernel
theorem dX13_doCorrect_99 : decode cX13_doCorrect 99 = .ok (.aload_n 0, 1) := by decide +kernel
theorem dX13_doCorrect_100 : decode cX13_doCorrect 100 = .ok (.iload_n 3, 1) := by decide +kernel
theorem dX13_doCorrect_101 : decode cX13_doCorrect 101 = .ok (.iload_n 2, 1) := by decide +kernel
theorem dX13_doCorrect_102 : decode cX13_doCorrect 102 = .ok (.iconst 0, 1) := by decide +kernel
theorem dX13_doCorrect_103 : decode cX13_doCorrect 103 = .ok (.invokevirtual 90, 3) := by decide +kernel
theorem dX13_doCorrect_106 : decode cX13_doCorrect 106 = .ok (.istore 6, 2) := by decide +kernel
theorem dX13_doCorrect_108 : decode cX13_doCorrect 108 = .ok (.aload_n 0, 1) := by decide +kernel
theorem dX13_doCorrect_109 : decode cX13_doCorrect 109 = .ok (.getfield 9, 3) := by decide +kernel
theorem dX13_doCorrect_112 : decode cX13_doCorrect 112 = .ok (.bipush 6, 2) := by decide +kernel
theorem dX13_doCorrect_114 : decode cX13_doCorrect 114 = .ok (.dup2, 1) := by decide +kernel
theorem dX13_doCorrect_115 : decode cX13_doCorrect 115 = .ok (.iaload, 1) := by decide +kernel
theorem dX13_doCorrect_116 : decode cX13_doCorrect 116 = .ok (.iload 5, 2) := by decide +kernel
theorem dX13_doCorrect_118 : decode cX13_doCorrect 118 = .ok (.ifCond .eq 7, 3) := by decide +kernel
theorem dX13_doCorrect_121 : decode cX13_doCorrect 121 = .ok (.iconst 1, 1) := by decide +kernel
theorem dX13_doCorrect_122 : decode cX13_doCorrect 122 = .ok (.goto 4, 3) := by decide +kernel
theorem dX13_doCorrect_125 : decode cX13_doCorrect 125 = .ok (.iconst 0, 1) := by decide +kernel
theorem dX13_doCorrect_126 : decode cX13_doCorrect 126 = .ok (.iadd, 1) := by decide +kernel
theorem dX13_doCorrect_127 : decode cX13_doCorrect 127 = .ok (.iastore, 1) := by decide +kernel
theorem dX13_doCorrect_128 : decode cX13_doCorrect 128 = .ok (.aload_n 0, 1) := by decide +kernel
theorem dX13_doCorrect_129 : decode cX13_doCorrect 129 = .ok (.dup, 1) := by decide +kernel
theorem dX13_doCorrect_130 : decode cX13_doCorrect 130 = .ok (.getfield 75, 3) := by decide +kernel
theorem dX13_doCorrect_133 : decode cX13_doCorrect 133 = .ok (.iload 6, 2) := by decide +kernel
theorem dX13_doCorrect_135 : decode cX13_doCorrect 135 = .ok (.isub, 1) := by decide +kernel
theorem dX13_doCorrect_136 : decode cX13_doCorrect 136 = .ok (.putfield 75, 3) := by decide +kernel
theorem dX13_doCorrect_139 : decode cX13_doCorrect 139 = .ok (.iload 4, 2) := by decide +kernel
theorem dX13_doCorrect_141 : decode cX13_doCorrect 141 = .ok (.ireturn, 1) := by decide +kernel
theorem dX13_correct_0 : decode cX13_correct 0 = .ok (.aload_n 0, 1) := by decide +kernel
theorem dX13_correct_1 : decode cX13_correct 1 = .ok (.invokevirtual 94, 3) := by decide +kernel
theorem dX13_correct_4 : decode cX13_correct 4 = .ok (.aload_n 0, 1) := by decide +kernel
theorem dX13_correct_5 : decode cX13_correct 5 = .ok (.aload_n 0, 1) := by decide +kernel
theorem dX13_correct_6 : decode cX13_correct 6 = .ok (.iload_n 1, 1) := by decide +kernel
theorem dX13_correct_7 : decode cX13_correct 7 = .ok (.iload_n 2, 1) := by decide +kernel
theorem dX13_correct_8 : decode cX13_correct 8 = .ok (.invokevirtual 119, 3) := by decide +kernel
theorem dX13_correct_11 : decode cX13_correct 11 = .ok (.invokevirtual 100, 3) := by decide +kernel
theorem dX13_correct_14 : decode cX13_correct 14 = .ok (.ireturn, 1) := by decide +kernel
theorem dX13_articleCount_0 : decode cX13_articleCount 0 = .ok (.aload_n 0, 1) := by decide +kernel
theorem dX13_articleCount_1 : decode cX13_articleCount 1 = .ok (.iconst 0, 1) := by decide +kernel
theorem dX13_articleCount_2 : decode cX13_articleCount 2 = .ok (.putfield 55, 3) := by decide +kernel
theorem dX13_articleCount_5 : decode cX13_articleCount 5 = .ok (.aload_n 0, 1) := by decide +kernel
theorem dX13_articleCount_6 : decode cX13_articleCount 6 = .ok (.getfield 9, 3) := by decide +kernel
theorem dX13_articleCount_9 : decode cX13_articleCount 9 = .ok (.iconst 0, 1) := by decide +kernel
theorem dX13_articleCount_10 : decode cX13_articleCount 10 = .ok (.iaload, 1) := by decide +kernel
theorem dX13_articleCount_11 : decode cX13_articleCount 11 = .ok (.ireturn, 1) := by decide +kernel
theorem dX13_isPosition_0 : decode cX13_isPosition 0 = .ok (.iload_n 1, 1) := by decide +kernel
theorem dX13_isPosition_1 : decode cX13_isPosition 1 = .ok (.iconst 0, 1) := by decide +kernel
theorem dX13_isPosition_2 : decode cX13_isPosition 2 = .ok (.aload_n 0, 1) := by decide +kernel
theorem dX13_isPosition_3 : decode cX13_isPosition 3 = .ok (.getfield 9, 3) := by decide +kernel
theorem dX13_isPosition_6 : decode cX13_isPosition 6 = .ok (.iconst 0, 1) := by decide +kernel
theorem dX13_isPosition_7 : decode cX13_isPosition 7 = .ok (.iaload, 1) := by decide +kernel
theorem dX13_isPosition_8 : decode cX13_isPosition 8 = .ok (.iconst 1, 1) := by decide +kernel
theorem dX13_isPosition_9 : decode cX13_isPosition 9 = .ok (.isub, 1) := by decide +kernel
theorem dX13_isPosition_10 : decode cX13_isPosition 10 = .ok (.invokestatic 71, 3) := by decide +kernel
theorem dX13_isPosition_13 : decode cX13_isPosition 13 = .ok (.ireturn, 1) := by decide +kernel
theorem dX13_article_0 : decode cX13_article 0 = .ok (.aload_n 0, 1) := by decide +kernel
theorem dX13_article_1 : decode cX13_article 1 = .ok (.aload_n 0, 1) := by decide +kernel
theorem dX13_article_2 : decode cX13_article 2 = .ok (.iload_n 1, 1) := by decide +kernel
theorem dX13_article_3 : decode cX13_article 3 = .ok (.invokevirtual 122, 3) := by decide +kernel
theorem dX13_article_6 : decode cX13_article 6 = .ok (.invokevirtual 126, 3) := by decide +kernel
theorem dX13_article_9 : decode cX13_article 9 = .ok (.ifCond .eq 12, 3) := by decide +kernel
theorem dX13_article_12 : decode cX13_article 12 = .ok (.aload_n 0, 1) := by decide +kernel
theorem dX13_article_13 : decode cX13_article 13 = .ok (.iload_n 1, 1) := by decide +kernel
theorem dX13_article_14 : decode cX13_article 14 = .ok (.iconst 0, 1) := by decide +kernel
theorem dX13_article_15 : decode cX13_article 15 = .ok (.invokevirtual 67, 3) := by decide +kernel
theorem dX13_article_18 : decode cX13_article 18 = .ok (.goto 4, 3) := by decide +kernel
theorem dX13_article_21 : decode cX13_article 21 = .ok (.iconst 0, 1) := by decide +kernel
theorem dX13_article_22 : decode cX13_article 22 = .ok (.ireturn, 1) := by decide +kernel
theorem dX13_ranked_0 : decode cX13_ranked 0 = .ok (.iconst (-1), 1) := by decide +kernel
theorem dX13_ranked_1 : decode cX13_ranked 1 = .ok (.istore_n 2, 1) := by decide +kernel
theorem dX13_ranked_2 : decode cX13_ranked 2 = .ok (.iconst 0, 1) := by decide +kernel
theorem dX13_ranked_3 : decode cX13_ranked 3 = .ok (.istore_n 3, 1) := by decide +kernel
theorem dX13_ranked_4 : decode cX13_ranked 4 = .ok (.iload_n 3, 1) := by decide +kernel
theorem dX13_ranked_5 : decode cX13_ranked 5 = .ok (.aload_n 0, 1) := by decide +kernel
theorem dX13_ranked_6 : decode cX13_ranked 6 = .ok (.getfield 9, 3) := by decide +kernel
theorem dX13_ranked_9 : decode cX13_ranked 9 = .ok (.iconst 0, 1) := by decide +kernel
theorem dX13_ranked_10 : decode cX13_ranked 10 = .ok (.iaload, 1) := by decide +kernel
theorem dX13_ranked_11 : decode cX13_ranked 11 = .ok (.if_icmp .ge 86, 3) := by decide +kernel
theorem dX13_ranked_14 : decode cX13_ranked 14 = .ok (.iconst 0, 1) := by decide +kernel
theorem dX13_ranked_15 : decode cX13_ranked 15 = .ok (.istore 4, 2) := by decide +kernel
theorem dX13_ranked_17 : decode cX13_ranked 17 = .ok (.iconst 0, 1) := by decide +kernel
theorem dX13_ranked_18 : decode cX13_ranked 18 = .ok (.istore 5, 2) := by decide +kernel
theorem dX13_ranked_20 : decode cX13_ranked 20 = .ok (.iload 5, 2) := by decide +kernel
theorem dX13_ranked_22 : decode cX13_ranked 22 = .ok (.aload_n 0, 1) := by decide +kernel
theorem dX13_ranked_23 : decode cX13_ranked 23 = .ok (.getfield 9, 3) := by decide +kernel
theorem dX13_ranked_26 : decode cX13_ranked 26 = .ok (.iconst 0, 1) := by decide +kernel
theorem dX13_ranked_27 : decode cX13_ranked 27 = .ok (.iaload, 1) := by decide +kernel
theorem dX13_ranked_28 : decode cX13_ranked 28 = .ok (.if_icmp .ge 51, 3) := by decide +kernel
theorem dX13_ranked_31 : decode cX13_ranked 31 = .ok (.aload_n 0, 1) := by decide +kernel
theorem dX13_ranked_32 : decode cX13_ranked 32 = .ok (.iload 5, 2) := by decide +kernel
theorem dX13_ranked_34 : decode cX13_ranked 34 = .ok (.iconst 1, 1) := by decide +kernel
theorem dX13_ranked_35 : decode cX13_ranked 35 = .ok (.invokevirtual 67, 3) := by decide +kernel
theorem dX13_ranked_38 : decode cX13_ranked 38 = .ok (.aload_n 0, 1) := by decide +kernel
theorem dX13_ranked_39 : decode cX13_ranked 39 = .ok (.iload_n 3, 1) := by decide +kernel
theorem dX13_ranked_40 : decode cX13_ranked 40 = .ok (.iconst 1, 1) := by decide +kernel
theorem dX13_ranked_41 : decode cX13_ranked 41 = .ok (.invokevirtual 67, 3) := by decide +kernel
theorem dX13_ranked_44 : decode cX13_ranked 44 = .ok (.isub, 1) := by decide +kernel
theorem dX13_ranked_45 : decode cX13_ranked 45 = .ok (.istore 6, 2) := by decide +kernel
theorem dX13_ranked_47 : decode cX13_ranked 47 = .ok (.iload 4, 2) := by decide +kernel
theorem dX13_ranked_49 : decode cX13_ranked 49 = .ok (.iload 6, 2) := by decide +kernel
theorem dX13_ranked_51 : decode cX13_ranked 51 = .ok (.ifCond .gt 14, 3) := by decide +kernel
theorem dX13_ranked_54 : decode cX13_ranked 54 = .ok (.iload 6, 2) := by decide +kernel
theorem dX13_ranked_56 : decode cX13_ranked 56 = .ok (.ifCond .ne 13, 3) := by decide +kernel
theorem dX13_ranked_59 : decode cX13_ranked 59 = .ok (.iload 5, 2) := by decide +kernel
theorem dX13_ranked_61 : decode cX13_ranked 61 = .ok (.iload_n 3, 1) := by decide +kernel
theorem dX13_ranked_62 : decode cX13_ranked 62 = .ok (.if_icmp .ge 7, 3) := by decide +kernel
theorem dX13_ranked_65 : decode cX13_ranked 65 = .ok (.iconst 1, 1) := by decide +kernel
theorem dX13_ranked_66 : decode cX13_ranked 66 = .ok (.goto 4, 3) := by decide +kernel
theorem dX13_ranked_69 : decode cX13_ranked 69 = .ok (.iconst 0, 1) := by decide +kernel
theorem dX13_ranked_70 : decode cX13_ranked 70 = .ok (.iadd, 1) := by decide +kernel
theorem dX13_ranked_71 : decode cX13_ranked 71 = .ok (.istore 4, 2) := by decide +kernel
theorem dX13_ranked_73 : decode cX13_ranked 73 = .ok (.iinc 5 1, 3) := by decide +kernel
theorem dX13_ranked_76 : decode cX13_ranked 76 = .ok (.goto (-56), 3) := by decide +kernel
theorem dX13_ranked_79 : decode cX13_ranked 79 = .ok (.iload 4, 2) := by decide +kernel
theorem dX13_ranked_81 : decode cX13_ranked 81 = .ok (.iload_n 1, 1) := by decide +kernel
theorem dX13_ranked_82 : decode cX13_ranked 82 = .ok (.if_icmp .ne 7, 3) := by decide +kernel
theorem dX13_ranked_85 : decode cX13_ranked 85 = .ok (.iload_n 3, 1) := by decide +kernel
theorem dX13_ranked_86 : decode cX13_ranked 86 = .ok (.goto 4, 3) := by decide +kernel
theorem dX13_ranked_89 : decode cX13_ranked 89 = .ok (.iload_n 2, 1) := by decide +kernel
theorem dX13_ranked_90 : decode cX13_ranked 90 = .ok (.istore_n 2, 1) := by decide +kernel
theorem dX13_ranked_91 : decode cX13_ranked 91 = .ok (.iinc 3 1, 3) := by decide +kernel
theorem dX13_ranked_94 : decode cX13_ranked 94 = .ok (.goto (-90), 3) := by decide +kernel
theorem dX13_ranked_97 : decode cX13_ranked 97 = .ok (.iload_n 2, 1) := by decide +kernel
theorem dX13_ranked_98 : decode cX13_ranked 98 = .ok (.ireturn, 1) := by decide +kernel
theorem dX13_articleByPriority_0 : decode cX13_articleByPriority 0 = .ok (.aload_n 0, 1) := by decide +kernel
theorem dX13_articleByPriority_1 : decode cX13_articleByPriority 1 = .ok (.aload_n 0, 1) := by decide +kernel
theorem dX13_articleByPriority_2 : decode cX13_articleByPriority 2 = .ok (.iload_n 1, 1) := by decide +kernel
theorem dX13_articleByPriority_3 : decode cX13_articleByPriority 3 = .ok (.invokevirtual 122, 3) := by decide +kernel
theorem dX13_articleByPriority_6 : decode cX13_articleByPriority 6 = .ok (.invokevirtual 126, 3) := by decide +kernel
theorem dX13_articleByPriority_9 : decode cX13_articleByPriority 9 = .ok (.ifCond .eq 16, 3) := by decide +kernel
theorem dX13_articleByPriority_12 : decode cX13_articleByPriority 12 = .ok (.aload_n 0, 1) := by decide +kernel
theorem dX13_articleByPriority_13 : decode cX13_articleByPriority 13 = .ok (.aload_n 0, 1) := by decide +kernel
theorem dX13_articleByPriority_14 : decode cX13_articleByPriority 14 = .ok (.iload_n 1, 1) := by decide +kernel
theorem dX13_articleByPriority_15 : decode cX13_articleByPriority 15 = .ok (.invokevirtual 130, 3) := by decide +kernel
theorem dX13_articleByPriority_18 : decode cX13_articleByPriority 18 = .ok (.iconst 0, 1) := by decide +kernel
theorem dX13_articleByPriority_19 : decode cX13_articleByPriority 19 = .ok (.invokevirtual 67, 3) := by decide +kernel
theorem dX13_articleByPriority_22 : decode cX13_articleByPriority 22 = .ok (.goto 4, 3) := by decide +kernel
theorem dX13_articleByPriority_25 : decode cX13_articleByPriority 25 = .ok (.iconst 0, 1) := by decide +kernel
theorem dX13_articleByPriority_26 : decode cX13_articleByPriority 26 = .ok (.ireturn, 1) := by decide +kernel
theorem dX13_priority_0 : decode cX13_priority 0 = .ok (.aload_n 0, 1) := by decide +kernel
theorem dX13_priority_1 : decode cX13_priority 1 = .ok (.iload_n 1, 1) := by decide +kernel
theorem dX13_priority_2 : decode cX13_priority 2 = .ok (.invokevirtual 103, 3) := by decide +kernel
theorem dX13_priority_5 : decode cX13_priority 5 = .ok (.istore_n 2, 1) := by decide +kernel
theorem dX13_priority_6 : decode cX13_priority 6 = .ok (.aload_n 0, 1) := by decide +kernel
theorem dX13_priority_7 : decode cX13_priority 7 = .ok (.iload_n 2, 1) := by decide +kernel
theorem dX13_priority_8 : decode cX13_priority 8 = .ok (.ifCond .lt 7, 3) := by decide +kernel
theorem dX13_priority_11 : decode cX13_priority 11 = .ok (.iconst 1, 1) := by decide +kernel
theorem dX13_priority_12 : decode cX13_priority 12 = .ok (.goto 4, 3) := by decide +kernel
theorem dX13_priority_15 : decode cX13_priority 15 = .ok (.iconst 0, 1) := by decide +kernel
theorem dX13_priority_16 : decode cX13_priority 16 = .ok (.invokevirtual 126, 3) := by decide +kernel
theorem dX13_priority_19 : decode cX13_priority 19 = .ok (.ifCond .eq 12, 3) := by decide +kernel
theorem dX13_priority_22 : decode cX13_priority 22 = .ok (.aload_n 0, 1) := by decide +kernel
theorem dX13_priority_23 : decode cX13_priority 23 = .ok (.iload_n 2, 1) := by decide +kernel
theorem dX13_priority_24 : decode cX13_priority 24 = .ok (.iconst 1, 1) := by decide +kernel
theorem dX13_priority_25 : decode cX13_priority 25 = .ok (.invokevirtual 67, 3) := by decide +kernel
theorem dX13_priority_28 : decode cX13_priority 28 = .ok (.goto 4, 3) := by decide +kernel
theorem dX13_priority_31 : decode cX13_priority 31 = .ok (.iconst 0, 1) := by decide +kernel
theorem dX13_priority_32 : decode cX13_priority 32 = .ok (.ireturn, 1) := by decide +kernel
theorem dX13_wordCount_0 : decode cX13_wordCount 0 = .ok (.aload_n 0, 1) := by decide +kernel
theorem dX13_wordCount_1 : decode cX13_wordCount 1 = .ok (.iload_n 1, 1) := by decide +kernel
theorem dX13_wordCount_2 : decode cX13_wordCount 2 = .ok (.invokevirtual 103, 3) := by decide +kernel
theorem dX13_wordCount_5 : decode cX13_wordCount 5 = .ok (.istore_n 2, 1) := by decide +kernel
theorem dX13_wordCount_6 : decode cX13_wordCount 6 = .ok (.aload_n 0, 1) := by decide +kernel
theorem dX13_wordCount_7 : decode cX13_wordCount 7 = .ok (.iload_n 2, 1) := by decide +kernel
theorem dX13_wordCount_8 : decode cX13_wordCount 8 = .ok (.ifCond .lt 7, 3) := by decide +kernel
theorem dX13_wordCount_11 : decode cX13_wordCount 11 = .ok (.iconst 1, 1) := by decide +kernel
theorem dX13_wordCount_12 : decode cX13_wordCount 12 = .ok (.goto 4, 3) := by decide +kernel
theorem dX13_wordCount_15 : decode cX13_wordCount 15 = .ok (.iconst 0, 1) := by decide +kernel
theorem dX13_wordCount_16 : decode cX13_wordCount 16 = .ok (.invokevirtual 126, 3) := by decide +kernel
theorem dX13_wordCount_19 : decode cX13_wordCount 19 = .ok (.ifCond .eq 12, 3) := by decide +kernel
theorem dX13_wordCount_22 : decode cX13_wordCount 22 = .ok (.aload_n 0, 1) := by decide +kernel
theorem dX13_wordCount_23 : decode cX13_wordCount 23 = .ok (.iload_n 2, 1) := by decide +kernel
theorem dX13_wordCount_24 : decode cX13_wordCount 24 = .ok (.iconst 2, 1) := by decide +kernel
theorem dX13_wordCount_25 : decode cX13_wordCount 25 = .ok (.invokevirtual 67, 3) := by decide +kernel
theorem dX13_wordCount_28 : decode cX13_wordCount 28 = .ok (.goto 4, 3) := by decide +kernel
theorem dX13_wordCount_31 : decode cX13_wordCount 31 = .ok (.iconst 0, 1) := by decide +kernel
theorem dX13_wordCount_32 : decode cX13_wordCount 32 = .ok (.ireturn, 1) := by decide +kernel
theorem dX13_asksWord_0 : decode cX13_asksWord 0 = .ok (.aload_n 0, 1) := by decide +kernel
theorem dX13_asksWord_1 : decode cX13_asksWord 1 = .ok (.iload_n 1, 1) := by decide +kernel
theorem dX13_asksWord_2 : decode cX13_asksWord 2 = .ok (.invokevirtual 103, 3) := by decide +kernel
theorem dX13_asksWord_5 : decode cX13_asksWord 5 = .ok (.istore_n 3, 1) := by decide +kernel
theorem dX13_asksWord_6 : decode cX13_asksWord 6 = .ok (.aload_n 0, 1) := by decide +kernel
theorem dX13_asksWord_7 : decode cX13_asksWord 7 = .ok (.iload_n 3, 1) := by decide +kernel
theorem dX13_asksWord_8 : decode cX13_asksWord 8 = .ok (.ifCond .ge 7, 3) := by decide +kernel
theorem dX13_asksWord_11 : decode cX13_asksWord 11 = .ok (.iconst 1, 1) := by decide +kernel
theorem dX13_asksWord_12 : decode cX13_asksWord 12 = .ok (.goto 17, 3) := by decide +kernel
theorem dX13_asksWord_15 : decode cX13_asksWord 15 = .ok (.aload_n 0, 1) := by decide +kernel
theorem dX13_asksWord_16 : decode cX13_asksWord 16 = .ok (.iload_n 3, 1) := by decide +kernel
theorem dX13_asksWord_17 : decode cX13_asksWord 17 = .ok (.iload_n 2, 1) := by decide +kernel
theorem dX13_asksWord_18 : decode cX13_asksWord 18 = .ok (.invokevirtual 109, 3) := by decide +kernel
theorem dX13_asksWord_21 : decode cX13_asksWord 21 = .ok (.ifCond .ne 7, 3) := by decide +kernel
theorem dX13_asksWord_24 : decode cX13_asksWord 24 = .ok (.iconst 2, 1) := by decide +kernel
theorem dX13_asksWord_25 : decode cX13_asksWord 25 = .ok (.goto 4, 3) := by decide +kernel
theorem dX13_asksWord_28 : decode cX13_asksWord 28 = .ok (.iconst 0, 1) := by decide +kernel
theorem dX13_asksWord_29 : decode cX13_asksWord 29 = .ok (.putfield 55, 3) := by decide +kernel
theorem dX13_asksWord_32 : decode cX13_asksWord 32 = .ok (.aload_n 0, 1) := by decide +kernel
theorem dX13_asksWord_33 : decode cX13_asksWord 33 = .ok (.getfield 55, 3) := by decide +kernel
theorem dX13_asksWord_36 : decode cX13_asksWord 36 = .ok (.ifCond .le 7, 3) := by decide +kernel
theorem dX13_asksWord_39 : decode cX13_asksWord 39 = .ok (.iconst (-1), 1) := by decide +kernel
theorem dX13_asksWord_40 : decode cX13_asksWord 40 = .ok (.goto 4, 3) := by decide +kernel
theorem dX13_asksWord_43 : decode cX13_asksWord 43 = .ok (.iload_n 3, 1) := by decide +kernel
theorem dX13_asksWord_44 : decode cX13_asksWord 44 = .ok (.ireturn, 1) := by decide +kernel
theorem dX13_wordLength_0 : decode cX13_wordLength 0 = .ok (.aload_n 0, 1) := by decide +kernel
theorem dX13_wordLength_1 : decode cX13_wordLength 1 = .ok (.iload_n 1, 1) := by decide +kernel
theorem dX13_wordLength_2 : decode cX13_wordLength 2 = .ok (.iload_n 2, 1) := by decide +kernel
theorem dX13_wordLength_3 : decode cX13_wordLength 3 = .ok (.invokevirtual 133, 3) := by decide +kernel
theorem dX13_wordLength_6 : decode cX13_wordLength 6 = .ok (.istore_n 3, 1) := by decide +kernel
theorem dX13_wordLength_7 : decode cX13_wordLength 7 = .ok (.iload_n 3, 1) := by decide +kernel
theorem dX13_wordLength_8 : decode cX13_wordLength 8 = .ok (.ifCond .ge 7, 3) := by decide +kernel
theorem dX13_wordLength_11 : decode cX13_wordLength 11 = .ok (.iconst 0, 1) := by decide +kernel
theorem dX13_wordLength_12 : decode cX13_wordLength 12 = .ok (.goto 9, 3) := by decide +kernel
theorem dX13_wordLength_15 : decode cX13_wordLength 15 = .ok (.aload_n 0, 1) := by decide +kernel
theorem dX13_wordLength_16 : decode cX13_wordLength 16 = .ok (.iload_n 3, 1) := by decide +kernel
theorem dX13_wordLength_17 : decode cX13_wordLength 17 = .ok (.iload_n 2, 1) := by decide +kernel
theorem dX13_wordLength_18 : decode cX13_wordLength 18 = .ok (.invokevirtual 113, 3) := by decide +kernel
theorem dX13_wordLength_21 : decode cX13_wordLength 21 = .ok (.ireturn, 1) := by decide +kernel
theorem dX13_isVowel_0 : decode cX13_isVowel 0 = .ok (.iload_n 0, 1) := by decide +kernel
theorem dX13_isVowel_1 : decode cX13_isVowel 1 = .ok (.bipush 97, 2) := by decide +kernel
theorem dX13_isVowel_3 : decode cX13_isVowel 3 = .ok (.if_icmp .eq 27, 3) := by decide +kernel
theorem dX13_isVowel_6 : decode cX13_isVowel 6 = .ok (.iload_n 0, 1) := by decide +kernel
theorem dX13_isVowel_7 : decode cX13_isVowel 7 = .ok (.bipush 101, 2) := by decide +kernel
theorem dX13_isVowel_9 : decode cX13_isVowel 9 = .ok (.if_icmp .eq 21, 3) := by decide +kernel
theorem dX13_isVowel_12 : decode cX13_isVowel 12 = .ok (.iload_n 0, 1) := by decide +kernel
theorem dX13_isVowel_13 : decode cX13_isVowel 13 = .ok (.bipush 105, 2) := by decide +kernel
theorem dX13_isVowel_15 : decode cX13_isVowel 15 = .ok (.if_icmp .eq 15, 3) := by decide +kernel
theorem dX13_isVowel_18 : decode cX13_isVowel 18 = .ok (.iload_n 0, 1) := by decide +kernel
theorem dX13_isVowel_19 : decode cX13_isVowel 19 = .ok (.bipush 111, 2) := by decide +kernel
theorem dX13_isVowel_21 : decode cX13_isVowel 21 = .ok (.if_icmp .eq 9, 3) := by decide +kernel
theorem dX13_isVowel_24 : decode cX13_isVowel 24 = .ok (.iload_n 0, 1) := by decide +kernel
theorem dX13_isVowel_25 : decode cX13_isVowel 25 = .ok (.bipush 117, 2) := by decide +kernel
theorem dX13_isVowel_27 : decode cX13_isVowel 27 = .ok (.if_icmp .ne 7, 3) := by decide +kernel
theorem dX13_isVowel_30 : decode cX13_isVowel 30 = .ok (.iconst 1, 1) := by decide +kernel
theorem dX13_isVowel_31 : decode cX13_isVowel 31 = .ok (.goto 4, 3) := by decide +kernel
theorem dX13_isVowel_34 : decode cX13_isVowel 34 = .ok (.iconst 0, 1) := by decide +kernel
theorem dX13_isVowel_35 : decode cX13_isVowel 35 = .ok (.ireturn, 1) := by decide +kernel
theorem dX13_divides_0 : decode cX13_divides 0 = .ok (.iload_n 3, 1) := by decide +kernel
theorem dX13_divides_1 : decode cX13_divides 1 = .ok (.iconst 2, 1) := by decide +kernel
theorem dX13_divides_2 : decode cX13_divides 2 = .ok (.aload_n 0, 1) := by decide +kernel
theorem dX13_divides_3 : decode cX13_divides 3 = .ok (.iload_n 1, 1) := by decide +kernel
theorem dX13_divides_4 : decode cX13_divides 4 = .ok (.iload_n 2, 1) := by decide +kernel
theorem dX13_divides_5 : decode cX13_divides 5 = .ok (.invokevirtual 113, 3) := by decide +kernel
theorem dX13_divides_8 : decode cX13_divides 8 = .ok (.iconst 2, 1) := by decide +kernel
theorem dX13_divides_9 : decode cX13_divides 9 = .ok (.isub, 1) := by decide +kernel
theorem dX13_divides_10 : decode cX13_divides 10 = .ok (.invokestatic 71, 3) := by decide +kernel
theorem dX13_divides_13 : decode cX13_divides 13 = .ok (.ifCond .eq 35, 3) := by decide +kernel
theorem dX13_divides_16 : decode cX13_divides 16 = .ok (.aload_n 0, 1) := by decide +kernel
theorem dX13_divides_17 : decode cX13_divides 17 = .ok (.iload_n 1, 1) := by decide +kernel
theorem dX13_divides_18 : decode cX13_divides 18 = .ok (.iload_n 2, 1) := by decide +kernel
theorem dX13_divides_19 : decode cX13_divides 19 = .ok (.iload_n 3, 1) := by decide +kernel
theorem dX13_divides_20 : decode cX13_divides 20 = .ok (.iconst 1, 1) := by decide +kernel
theorem dX13_divides_21 : decode cX13_divides 21 = .ok (.isub, 1) := by decide +kernel
theorem dX13_divides_22 : decode cX13_divides 22 = .ok (.invokevirtual 136, 3) := by decide +kernel
theorem dX13_divides_25 : decode cX13_divides 25 = .ok (.invokestatic 140, 3) := by decide +kernel
theorem dX13_divides_28 : decode cX13_divides 28 = .ok (.ifCond .eq 20, 3) := by decide +kernel
theorem dX13_divides_31 : decode cX13_divides 31 = .ok (.aload_n 0, 1) := by decide +kernel
theorem dX13_divides_32 : decode cX13_divides 32 = .ok (.iload_n 1, 1) := by decide +kernel
theorem dX13_divides_33 : decode cX13_divides 33 = .ok (.iload_n 2, 1) := by decide +kernel
theorem dX13_divides_34 : decode cX13_divides 34 = .ok (.iload_n 3, 1) := by decide +kernel
theorem dX13_divides_35 : decode cX13_divides 35 = .ok (.invokevirtual 136, 3) := by decide +kernel
theorem dX13_divides_38 : decode cX13_divides 38 = .ok (.invokestatic 140, 3) := by decide +kernel
theorem dX13_divides_41 : decode cX13_divides 41 = .ok (.ifCond .ne 7, 3) := by decide +kernel
theorem dX13_divides_44 : decode cX13_divides 44 = .ok (.iconst 1, 1) := by decide +kernel
theorem dX13_divides_45 : decode cX13_divides 45 = .ok (.goto 4, 3) := by decide +kernel
theorem dX13_divides_48 : decode cX13_divides 48 = .ok (.iconst 0, 1) := by decide +kernel
theorem dX13_divides_49 : decode cX13_divides 49 = .ok (.ireturn, 1) := by decide +kernel
theorem dX13_divisions_0 : decode cX13_divisions 0 = .ok (.aload_n 0, 1) := by decide +kernel
theorem dX13_divisions_1 : decode cX13_divisions 1 = .ok (.iload_n 1, 1) := by decide +kernel
theorem dX13_divisions_2 : decode cX13_divisions 2 = .ok (.iload_n 2, 1) := by decide +kernel
theorem dX13_divisions_3 : decode cX13_divisions 3 = .ok (.invokevirtual 133, 3) := by decide +kernel
theorem dX13_divisions_6 : decode cX13_divisions 6 = .ok (.istore_n 3, 1) := by decide +kernel
theorem dX13_divisions_7 : decode cX13_divisions 7 = .ok (.iconst 0, 1) := by decide +kernel
theorem dX13_divisions_8 : decode cX13_divisions 8 = .ok (.istore 4, 2) := by decide +kernel
theorem dX13_divisions_10 : decode cX13_divisions 10 = .ok (.iconst 2, 1) := by decide +kernel
theorem dX13_divisions_11 : decode cX13_divisions 11 = .ok (.istore 5, 2) := by decide +kernel
theorem dX13_divisions_13 : decode cX13_divisions 13 = .ok (.iload_n 3, 1) := by decide +kernel
theorem dX13_divisions_14 : decode cX13_divisions 14 = .ok (.ifCond .lt 37, 3) := by decide +kernel
theorem dX13_divisions_17 : decode cX13_divisions 17 = .ok (.iload 5, 2) := by decide +kernel
theorem dX13_divisions_19 : decode cX13_divisions 19 = .ok (.bipush 12, 2) := by decide +kernel
theorem dX13_divisions_21 : decode cX13_divisions 21 = .ok (.if_icmp .ge 30, 3) := by decide +kernel
theorem dX13_divisions_24 : decode cX13_divisions 24 = .ok (.iload 4, 2) := by decide +kernel
theorem dX13_divisions_26 : decode cX13_divisions 26 = .ok (.aload_n 0, 1) := by decide +kernel
theorem dX13_divisions_27 : decode cX13_divisions 27 = .ok (.iload_n 3, 1) := by decide +kernel
theorem dX13_divisions_28 : decode cX13_divisions 28 = .ok (.iload_n 2, 1) := by decide +kernel
theorem dX13_divisions_29 : decode cX13_divisions 29 = .ok (.iload 5, 2) := by decide +kernel
theorem dX13_divisions_31 : decode cX13_divisions 31 = .ok (.invokevirtual 144, 3) := by decide +kernel
theorem dX13_divisions_34 : decode cX13_divisions 34 = .ok (.ifCond .eq 7, 3) := by decide +kernel
theorem dX13_divisions_37 : decode cX13_divisions 37 = .ok (.iconst 1, 1) := by decide +kernel
theorem dX13_divisions_38 : decode cX13_divisions 38 = .ok (.goto 4, 3) := by decide +kernel
theorem dX13_divisions_41 : decode cX13_divisions 41 = .ok (.iconst 0, 1) := by decide +kernel
theorem dX13_divisions_42 : decode cX13_divisions 42 = .ok (.iadd, 1) := by decide +kernel
theorem dX13_divisions_43 : decode cX13_divisions 43 = .ok (.istore 4, 2) := by decide +kernel
theorem dX13_divisions_45 : decode cX13_divisions 45 = .ok (.iinc 5 1, 3) := by decide +kernel
theorem dX13_divisions_48 : decode cX13_divisions 48 = .ok (.goto (-35), 3) := by decide +kernel
theorem dX13_divisions_51 : decode cX13_divisions 51 = .ok (.iload 4, 2) := by decide +kernel
theorem dX13_divisions_53 : decode cX13_divisions 53 = .ok (.ireturn, 1) := by decide +kernel
theorem dX13_canDivide_0 : decode cX13_canDivide 0 = .ok (.aload_n 0, 1) := by decide +kernel
theorem dX13_canDivide_1 : decode cX13_canDivide 1 = .ok (.iload_n 1, 1) := by decide +kernel
theorem dX13_canDivide_2 : decode cX13_canDivide 2 = .ok (.iload_n 2, 1) := by decide +kernel
theorem dX13_canDivide_3 : decode cX13_canDivide 3 = .ok (.invokevirtual 133, 3) := by decide +kernel
theorem dX13_canDivide_6 : decode cX13_canDivide 6 = .ok (.istore 4, 2) := by decide +kernel
theorem dX13_canDivide_8 : decode cX13_canDivide 8 = .ok (.iload 4, 2) := by decide +kernel
theorem dX13_canDivide_10 : decode cX13_canDivide 10 = .ok (.ifCond .lt 18, 3) := by decide +kernel
theorem dX13_canDivide_13 : decode cX13_canDivide 13 = .ok (.aload_n 0, 1) := by decide +kernel
theorem dX13_canDivide_14 : decode cX13_canDivide 14 = .ok (.iload 4, 2) := by decide +kernel
theorem dX13_canDivide_16 : decode cX13_canDivide 16 = .ok (.iload_n 2, 1) := by decide +kernel
theorem dX13_canDivide_17 : decode cX13_canDivide 17 = .ok (.iload_n 3, 1) := by decide +kernel
theorem dX13_canDivide_18 : decode cX13_canDivide 18 = .ok (.invokevirtual 144, 3) := by decide +kernel
theorem dX13_canDivide_21 : decode cX13_canDivide 21 = .ok (.ifCond .eq 7, 3) := by decide +kernel
theorem dX13_canDivide_24 : decode cX13_canDivide 24 = .ok (.iconst 1, 1) := by decide +kernel
theorem dX13_canDivide_25 : decode cX13_canDivide 25 = .ok (.goto 4, 3) := by decide +kernel
theorem dX13_canDivide_28 : decode cX13_canDivide 28 = .ok (.iconst 0, 1) := by decide +kernel
theorem dX13_canDivide_29 : decode cX13_canDivide 29 = .ok (.ireturn, 1) := by decide +kernel
theorem dX13_lateCorrections_0 : decode cX13_lateCorrections 0 = .ok (.aload_n 0, 1) := by decide +kernel
theorem dX13_lateCorrections_1 : decode cX13_lateCorrections 1 = .ok (.iconst 0, 1) := by decide +kernel
theorem dX13_lateCorrections_2 : decode cX13_lateCorrections 2 = .ok (.putfield 55, 3) := by decide +kernel
theorem dX13_lateCorrections_5 : decode cX13_lateCorrections 5 = .ok (.aload_n 0, 1) := by decide +kernel
theorem dX13_lateCorrections_6 : decode cX13_lateCorrections 6 = .ok (.getfield 9, 3) := by decide +kernel
theorem dX13_lateCorrections_9 : decode cX13_lateCorrections 9 = .ok (.bipush 6, 2) := by decide +kernel
theorem dX13_lateCorrections_11 : decode cX13_lateCorrections 11 = .ok (.iaload, 1) := by decide +kernel
theorem dX13_lateCorrections_12 : decode cX13_lateCorrections 12 = .ok (.ireturn, 1) := by decide +kernel
theorem dX13_puts_0 : decode cX13_puts 0 = .ok (.aload_n 0, 1) := by decide +kernel
theorem dX13_puts_1 : decode cX13_puts 1 = .ok (.getfield 26, 3) := by decide +kernel
theorem dX13_puts_4 : decode cX13_puts 4 = .ok (.bipush 20, 2) := by decide +kernel
theorem dX13_puts_6 : decode cX13_puts 6 = .ok (.aload_n 0, 1) := by decide +kernel
theorem dX13_puts_7 : decode cX13_puts 7 = .ok (.getfield 147, 3) := by decide +kernel
theorem dX13_puts_10 : decode cX13_puts 10 = .ok (.imul, 1) := by decide +kernel
theorem dX13_puts_11 : decode cX13_puts 11 = .ok (.aload_n 0, 1) := by decide +kernel
theorem dX13_puts_12 : decode cX13_puts 12 = .ok (.getfield 29, 3) := by decide +kernel
theorem dX13_puts_15 : decode cX13_puts 15 = .ok (.aload_n 0, 1) := by decide +kernel
theorem dX13_puts_16 : decode cX13_puts 16 = .ok (.getfield 147, 3) := by decide +kernel
theorem dX13_puts_19 : decode cX13_puts 19 = .ok (.iaload, 1) := by decide +kernel
theorem dX13_puts_20 : decode cX13_puts 20 = .ok (.iadd, 1) := by decide +kernel
theorem dX13_puts_21 : decode cX13_puts 21 = .ok (.iload_n 1, 1) := by decide +kernel
theorem dX13_puts_22 : decode cX13_puts 22 = .ok (.castore, 1) := by decide +kernel
theorem dX13_puts_23 : decode cX13_puts 23 = .ok (.aload_n 0, 1) := by decide +kernel
theorem dX13_puts_24 : decode cX13_puts 24 = .ok (.getfield 29, 3) := by decide +kernel
theorem dX13_puts_27 : decode cX13_puts 27 = .ok (.aload_n 0, 1) := by decide +kernel
theorem dX13_puts_28 : decode cX13_puts 28 = .ok (.getfield 147, 3) := by decide +kernel
theorem dX13_puts_31 : decode cX13_puts 31 = .ok (.dup2, 1) := by decide +kernel
theorem dX13_puts_32 : decode cX13_puts 32 = .ok (.iaload, 1) := by decide +kernel
theorem dX13_puts_33 : decode cX13_puts 33 = .ok (.iconst 1, 1) := by decide +kernel
theorem dX13_puts_34 : decode cX13_puts 34 = .ok (.iadd, 1) := by decide +kernel
theorem dX13_puts_35 : decode cX13_puts 35 = .ok (.iastore, 1) := by decide +kernel
theorem dX13_puts_36 : decode cX13_puts 36 = .ok (.return_, 1) := by decide +kernel
theorem dX13_begins_0 : decode cX13_begins 0 = .ok (.aload_n 0, 1) := by decide +kernel
theorem dX13_begins_1 : decode cX13_begins 1 = .ok (.iload_n 1, 1) := by decide +kernel
theorem dX13_begins_2 : decode cX13_begins 2 = .ok (.putfield 147, 3) := by decide +kernel
theorem dX13_begins_5 : decode cX13_begins 5 = .ok (.aload_n 0, 1) := by decide +kernel
theorem dX13_begins_6 : decode cX13_begins 6 = .ok (.getfield 29, 3) := by decide +kernel
theorem dX13_begins_9 : decode cX13_begins 9 = .ok (.iload_n 1, 1) := by decide +kernel
theorem dX13_begins_10 : decode cX13_begins 10 = .ok (.iconst 0, 1) := by decide +kernel
theorem dX13_begins_11 : decode cX13_begins 11 = .ok (.iastore, 1) := by decide +kernel
theorem dX13_begins_12 : decode cX13_begins 12 = .ok (.aload_n 0, 1) := by decide +kernel
theorem dX13_begins_13 : decode cX13_begins 13 = .ok (.getfield 32, 3) := by decide +kernel
theorem dX13_begins_16 : decode cX13_begins 16 = .ok (.iload_n 1, 1) := by decide +kernel
theorem dX13_begins_17 : decode cX13_begins 17 = .ok (.iconst 0, 1) := by decide +kernel
theorem dX13_begins_18 : decode cX13_begins 18 = .ok (.bastore, 1) := by decide +kernel
theorem dX13_begins_19 : decode cX13_begins 19 = .ok (.return_, 1) := by decide +kernel
theorem dX13_putsPart_0 : decode cX13_putsPart 0 = .ok (.aload_n 0, 1) := by decide +kernel
theorem dX13_putsPart_1 : decode cX13_putsPart 1 = .ok (.getfield 29, 3) := by decide +kernel
theorem dX13_putsPart_4 : decode cX13_putsPart 4 = .ok (.aload_n 0, 1) := by decide +kernel
theorem dX13_putsPart_5 : decode cX13_putsPart 5 = .ok (.getfield 147, 3) := by decide +kernel
theorem dX13_putsPart_8 : decode cX13_putsPart 8 = .ok (.iaload, 1) := by decide +kernel
theorem dX13_putsPart_9 : decode cX13_putsPart 9 = .ok (.ifCond .le 9, 3) := by decide +kernel
theorem dX13_putsPart_12 : decode cX13_putsPart 12 = .ok (.aload_n 0, 1) := by decide +kernel
theorem dX13_putsPart_13 : decode cX13_putsPart 13 = .ok (.bipush 32, 2) := by decide +kernel
theorem dX13_putsPart_15 : decode cX13_putsPart 15 = .ok (.invokevirtual 150, 3) := by decide +kernel
theorem dX13_putsPart_18 : decode cX13_putsPart 18 = .ok (.iload_n 3, 1) := by decide +kernel
theorem dX13_putsPart_19 : decode cX13_putsPart 19 = .ok (.istore 5, 2) := by decide +kernel
theorem dX13_putsPart_21 : decode cX13_putsPart 21 = .ok (.iload 5, 2) := by decide +kernel
theorem dX13_putsPart_23 : decode cX13_putsPart 23 = .ok (.iload 4, 2) := by decide +kernel
theorem dX13_putsPart_25 : decode cX13_putsPart 25 = .ok (.if_icmp .ge 21, 3) := by decide +kernel
theorem dX13_putsPart_28 : decode cX13_putsPart 28 = .ok (.aload_n 0, 1) := by decide +kernel
theorem dX13_putsPart_29 : decode cX13_putsPart 29 = .ok (.aload_n 0, 1) := by decide +kernel
theorem dX13_putsPart_30 : decode cX13_putsPart 30 = .ok (.iload_n 1, 1) := by decide +kernel
theorem dX13_putsPart_31 : decode cX13_putsPart 31 = .ok (.iload_n 2, 1) := by decide +kernel
theorem dX13_putsPart_32 : decode cX13_putsPart 32 = .ok (.iload 5, 2) := by decide +kernel
theorem dX13_putsPart_34 : decode cX13_putsPart 34 = .ok (.invokevirtual 136, 3) := by decide +kernel
theorem dX13_putsPart_37 : decode cX13_putsPart 37 = .ok (.invokevirtual 150, 3) := by decide +kernel
theorem dX13_putsPart_40 : decode cX13_putsPart 40 = .ok (.iinc 5 1, 3) := by decide +kernel
theorem dX13_putsPart_43 : decode cX13_putsPart 43 = .ok (.goto (-22), 3) := by decide +kernel
theorem dX13_putsPart_46 : decode cX13_putsPart 46 = .ok (.return_, 1) := by decide +kernel
theorem dX13_setsWord_0 : decode cX13_setsWord 0 = .ok (.aload_n 0, 1) := by decide +kernel
theorem dX13_setsWord_1 : decode cX13_setsWord 1 = .ok (.iload_n 1, 1) := by decide +kernel
theorem dX13_setsWord_2 : decode cX13_setsWord 2 = .ok (.iload_n 2, 1) := by decide +kernel
theorem dX13_setsWord_3 : decode cX13_setsWord 3 = .ok (.invokevirtual 113, 3) := by decide +kernel
theorem dX13_setsWord_6 : decode cX13_setsWord 6 = .ok (.istore 4, 2) := by decide +kernel
theorem dX13_setsWord_8 : decode cX13_setsWord 8 = .ok (.iconst 0, 1) := by decide +kernel
theorem dX13_setsWord_9 : decode cX13_setsWord 9 = .ok (.istore 5, 2) := by decide +kernel
theorem dX13_setsWord_11 : decode cX13_setsWord 11 = .ok (.iload 5, 2) := by decide +kernel
theorem dX13_setsWord_13 : decode cX13_setsWord 13 = .ok (.iload 4, 2) := by decide +kernel
theorem dX13_setsWord_15 : decode cX13_setsWord 15 = .ok (.if_icmp .ge 186, 3) := by decide +kernel
theorem dX13_setsWord_18 : decode cX13_setsWord 18 = .ok (.aload_n 0, 1) := by decide +kernel
theorem dX13_setsWord_19 : decode cX13_setsWord 19 = .ok (.getfield 29, 3) := by decide +kernel
theorem dX13_setsWord_22 : decode cX13_setsWord 22 = .ok (.aload_n 0, 1) := by decide +kernel
theorem dX13_setsWord_23 : decode cX13_setsWord 23 = .ok (.getfield 147, 3) := by decide +kernel
theorem dX13_setsWord_26 : decode cX13_setsWord 26 = .ok (.iaload, 1) := by decide +kernel
theorem dX13_setsWord_27 : decode cX13_setsWord 27 = .ok (.istore 6, 2) := by decide +kernel
theorem dX13_setsWord_29 : decode cX13_setsWord 29 = .ok (.iload 6, 2) := by decide +kernel
theorem dX13_setsWord_31 : decode cX13_setsWord 31 = .ok (.ifCond .ne 7, 3) := by decide +kernel
theorem dX13_setsWord_34 : decode cX13_setsWord 34 = .ok (.iload_n 3, 1) := by decide +kernel
theorem dX13_setsWord_35 : decode cX13_setsWord 35 = .ok (.goto 9, 3) := by decide +kernel
theorem dX13_setsWord_38 : decode cX13_setsWord 38 = .ok (.iload_n 3, 1) := by decide +kernel
theorem dX13_setsWord_39 : decode cX13_setsWord 39 = .ok (.iload 6, 2) := by decide +kernel
theorem dX13_setsWord_41 : decode cX13_setsWord 41 = .ok (.isub, 1) := by decide +kernel
theorem dX13_setsWord_42 : decode cX13_setsWord 42 = .ok (.iconst 1, 1) := by decide +kernel
theorem dX13_setsWord_43 : decode cX13_setsWord 43 = .ok (.isub, 1) := by decide +kernel
theorem dX13_setsWord_44 : decode cX13_setsWord 44 = .ok (.istore 7, 2) := by decide +kernel
theorem dX13_setsWord_46 : decode cX13_setsWord 46 = .ok (.iload 4, 2) := by decide +kernel
theorem dX13_setsWord_48 : decode cX13_setsWord 48 = .ok (.iload 5, 2) := by decide +kernel
theorem dX13_setsWord_50 : decode cX13_setsWord 50 = .ok (.isub, 1) := by decide +kernel
theorem dX13_setsWord_51 : decode cX13_setsWord 51 = .ok (.iload 7, 2) := by decide +kernel
theorem dX13_setsWord_53 : decode cX13_setsWord 53 = .ok (.if_icmp .gt 8, 3) := by decide +kernel
theorem dX13_setsWord_56 : decode cX13_setsWord 56 = .ok (.iload 4, 2) := by decide +kernel
theorem dX13_setsWord_58 : decode cX13_setsWord 58 = .ok (.goto 4, 3) := by decide +kernel
theorem dX13_setsWord_61 : decode cX13_setsWord 61 = .ok (.iconst 0, 1) := by decide +kernel
theorem dX13_setsWord_62 : decode cX13_setsWord 62 = .ok (.istore 8, 2) := by decide +kernel
theorem dX13_setsWord_64 : decode cX13_setsWord 64 = .ok (.iload 5, 2) := by decide +kernel
theorem dX13_setsWord_66 : decode cX13_setsWord 66 = .ok (.iconst 1, 1) := by decide +kernel
theorem dX13_setsWord_67 : decode cX13_setsWord 67 = .ok (.iadd, 1) := by decide +kernel
theorem dX13_setsWord_68 : decode cX13_setsWord 68 = .ok (.istore 9, 2) := by decide +kernel
theorem dX13_setsWord_70 : decode cX13_setsWord 70 = .ok (.iload 8, 2) := by decide +kernel
theorem dX13_setsWord_72 : decode cX13_setsWord 72 = .ok (.iload 4, 2) := by decide +kernel
theorem dX13_setsWord_74 : decode cX13_setsWord 74 = .ok (.if_icmp .ge 48, 3) := by decide +kernel
theorem dX13_setsWord_77 : decode cX13_setsWord 77 = .ok (.iload 9, 2) := by decide +kernel
theorem dX13_setsWord_79 : decode cX13_setsWord 79 = .ok (.iload 4, 2) := by decide +kernel
theorem dX13_setsWord_81 : decode cX13_setsWord 81 = .ok (.if_icmp .ge 41, 3) := by decide +kernel
theorem dX13_setsWord_84 : decode cX13_setsWord 84 = .ok (.aload_n 0, 1) := by decide +kernel
theorem dX13_setsWord_85 : decode cX13_setsWord 85 = .ok (.iload_n 1, 1) := by decide +kernel
theorem dX13_setsWord_86 : decode cX13_setsWord 86 = .ok (.iload_n 2, 1) := by decide +kernel
theorem dX13_setsWord_87 : decode cX13_setsWord 87 = .ok (.iload 9, 2) := by decide +kernel
theorem dX13_setsWord_89 : decode cX13_setsWord 89 = .ok (.invokevirtual 144, 3) := by decide +kernel
theorem dX13_setsWord_92 : decode cX13_setsWord 92 = .ok (.ifCond .eq 20, 3) := by decide +kernel
theorem dX13_setsWord_95 : decode cX13_setsWord 95 = .ok (.iload 9, 2) := by decide +kernel
theorem dX13_setsWord_97 : decode cX13_setsWord 97 = .ok (.iload 5, 2) := by decide +kernel
theorem dX13_setsWord_99 : decode cX13_setsWord 99 = .ok (.isub, 1) := by decide +kernel
theorem dX13_setsWord_100 : decode cX13_setsWord 100 = .ok (.iconst 1, 1) := by decide +kernel
theorem dX13_setsWord_101 : decode cX13_setsWord 101 = .ok (.iadd, 1) := by decide +kernel
theorem dX13_setsWord_102 : decode cX13_setsWord 102 = .ok (.iload 7, 2) := by decide +kernel
theorem dX13_setsWord_104 : decode cX13_setsWord 104 = .ok (.if_icmp .gt 8, 3) := by decide +kernel
theorem dX13_setsWord_107 : decode cX13_setsWord 107 = .ok (.iload 9, 2) := by decide +kernel
theorem dX13_setsWord_109 : decode cX13_setsWord 109 = .ok (.goto 5, 3) := by decide +kernel
theorem dX13_setsWord_112 : decode cX13_setsWord 112 = .ok (.iload 8, 2) := by decide +kernel
theorem dX13_setsWord_114 : decode cX13_setsWord 114 = .ok (.istore 8, 2) := by decide +kernel
theorem dX13_setsWord_116 : decode cX13_setsWord 116 = .ok (.iinc 9 1, 3) := by decide +kernel
theorem dX13_setsWord_119 : decode cX13_setsWord 119 = .ok (.goto (-49), 3) := by decide +kernel
theorem dX13_setsWord_122 : decode cX13_setsWord 122 = .ok (.iload 8, 2) := by decide +kernel
theorem dX13_setsWord_124 : decode cX13_setsWord 124 = .ok (.ifCond .ne 10, 3) := by decide +kernel
theorem dX13_setsWord_127 : decode cX13_setsWord 127 = .ok (.iload 6, 2) := by decide +kernel
theorem dX13_setsWord_129 : decode cX13_setsWord 129 = .ok (.ifCond .ne 5, 3) := by decide +kernel
theorem dX13_setsWord_132 : decode cX13_setsWord 132 = .ok (.iconst 0, 1) := by decide +kernel
theorem dX13_setsWord_133 : decode cX13_setsWord 133 = .ok (.ireturn, 1) := by decide +kernel
theorem dX13_setsWord_134 : decode cX13_setsWord 134 = .ok (.iload 8, 2) := by decide +kernel
theorem dX13_setsWord_136 : decode cX13_setsWord 136 = .ok (.ifCond .le 17, 3) := by decide +kernel
theorem dX13_setsWord_139 : decode cX13_setsWord 139 = .ok (.aload_n 0, 1) := by decide +kernel
theorem dX13_setsWord_140 : decode cX13_setsWord 140 = .ok (.iload_n 1, 1) := by decide +kernel
theorem dX13_setsWord_141 : decode cX13_setsWord 141 = .ok (.iload_n 2, 1) := by decide +kernel
theorem dX13_setsWord_142 : decode cX13_setsWord 142 = .ok (.iload 5, 2) := by decide +kernel
theorem dX13_setsWord_144 : decode cX13_setsWord 144 = .ok (.iload 8, 2) := by decide +kernel
theorem dX13_setsWord_146 : decode cX13_setsWord 146 = .ok (.invokevirtual 154, 3) := by decide +kernel
theorem dX13_setsWord_149 : decode cX13_setsWord 149 = .ok (.iload 8, 2) := by decide +kernel
theorem dX13_setsWord_151 : decode cX13_setsWord 151 = .ok (.istore 5, 2) := by decide +kernel
theorem dX13_setsWord_153 : decode cX13_setsWord 153 = .ok (.iload 8, 2) := by decide +kernel
theorem dX13_setsWord_155 : decode cX13_setsWord 155 = .ok (.ifCond .le 26, 3) := by decide +kernel
theorem dX13_setsWord_158 : decode cX13_setsWord 158 = .ok (.iload 8, 2) := by decide +kernel
theorem dX13_setsWord_160 : decode cX13_setsWord 160 = .ok (.iload 4, 2) := by decide +kernel
theorem dX13_setsWord_162 : decode cX13_setsWord 162 = .ok (.if_icmp .ge 19, 3) := by decide +kernel
theorem dX13_setsWord_165 : decode cX13_setsWord 165 = .ok (.aload_n 0, 1) := by decide +kernel
theorem dX13_setsWord_166 : decode cX13_setsWord 166 = .ok (.bipush 45, 2) := by decide +kernel
theorem dX13_setsWord_168 : decode cX13_setsWord 168 = .ok (.invokevirtual 150, 3) := by decide +kernel
theorem dX13_setsWord_171 : decode cX13_setsWord 171 = .ok (.aload_n 0, 1) := by decide +kernel
theorem dX13_setsWord_172 : decode cX13_setsWord 172 = .ok (.getfield 32, 3) := by decide +kernel
theorem dX13_setsWord_175 : decode cX13_setsWord 175 = .ok (.aload_n 0, 1) := by decide +kernel
theorem dX13_setsWord_176 : decode cX13_setsWord 176 = .ok (.getfield 147, 3) := by decide +kernel
theorem dX13_setsWord_179 : decode cX13_setsWord 179 = .ok (.iconst 1, 1) := by decide +kernel
theorem dX13_setsWord_180 : decode cX13_setsWord 180 = .ok (.bastore, 1) := by decide +kernel
theorem dX13_setsWord_181 : decode cX13_setsWord 181 = .ok (.iload 8, 2) := by decide +kernel
theorem dX13_setsWord_183 : decode cX13_setsWord 183 = .ok (.iload 4, 2) := by decide +kernel
theorem dX13_setsWord_185 : decode cX13_setsWord 185 = .ok (.if_icmp .ge 13, 3) := by decide +kernel
theorem dX13_setsWord_188 : decode cX13_setsWord 188 = .ok (.aload_n 0, 1) := by decide +kernel
theorem dX13_setsWord_189 : decode cX13_setsWord 189 = .ok (.aload_n 0, 1) := by decide +kernel
theorem dX13_setsWord_190 : decode cX13_setsWord 190 = .ok (.getfield 147, 3) := by decide +kernel
theorem dX13_setsWord_193 : decode cX13_setsWord 193 = .ok (.iconst 1, 1) := by decide +kernel
theorem dX13_setsWord_194 : decode cX13_setsWord 194 = .ok (.iadd, 1) := by decide +kernel
theorem dX13_setsWord_195 : decode cX13_setsWord 195 = .ok (.invokevirtual 158, 3) := by decide +kernel
theorem dX13_setsWord_198 : decode cX13_setsWord 198 = .ok (.goto (-187), 3) := by decide +kernel
theorem dX13_setsWord_201 : decode cX13_setsWord 201 = .ok (.iconst 1, 1) := by decide +kernel
theorem dX13_setsWord_202 : decode cX13_setsWord 202 = .ok (.ireturn, 1) := by decide +kernel
theorem dX13_setsArticle_0 : decode cX13_setsArticle 0 = .ok (.aload_n 0, 1) := by decide +kernel
theorem dX13_setsArticle_1 : decode cX13_setsArticle 1 = .ok (.iconst 0, 1) := by decide +kernel
theorem dX13_setsArticle_2 : decode cX13_setsArticle 2 = .ok (.invokevirtual 158, 3) := by decide +kernel
theorem dX13_setsArticle_5 : decode cX13_setsArticle 5 = .ok (.iconst 1, 1) := by decide +kernel
theorem dX13_setsArticle_6 : decode cX13_setsArticle 6 = .ok (.istore_n 3, 1) := by decide +kernel
theorem dX13_setsArticle_7 : decode cX13_setsArticle 7 = .ok (.iconst 0, 1) := by decide +kernel
theorem dX13_setsArticle_8 : decode cX13_setsArticle 8 = .ok (.istore 4, 2) := by decide +kernel
theorem dX13_setsArticle_10 : decode cX13_setsArticle 10 = .ok (.iload 4, 2) := by decide +kernel
theorem dX13_setsArticle_12 : decode cX13_setsArticle 12 = .ok (.aload_n 0, 1) := by decide +kernel
theorem dX13_setsArticle_13 : decode cX13_setsArticle 13 = .ok (.iload_n 1, 1) := by decide +kernel
theorem dX13_setsArticle_14 : decode cX13_setsArticle 14 = .ok (.iconst 2, 1) := by decide +kernel
theorem dX13_setsArticle_15 : decode cX13_setsArticle 15 = .ok (.invokevirtual 67, 3) := by decide +kernel
theorem dX13_setsArticle_18 : decode cX13_setsArticle 18 = .ok (.if_icmp .ge 22, 3) := by decide +kernel
theorem dX13_setsArticle_21 : decode cX13_setsArticle 21 = .ok (.iload_n 3, 1) := by decide +kernel
theorem dX13_setsArticle_22 : decode cX13_setsArticle 22 = .ok (.ifCond .eq 18, 3) := by decide +kernel
theorem dX13_setsArticle_25 : decode cX13_setsArticle 25 = .ok (.aload_n 0, 1) := by decide +kernel
theorem dX13_setsArticle_26 : decode cX13_setsArticle 26 = .ok (.iload_n 1, 1) := by decide +kernel
theorem dX13_setsArticle_27 : decode cX13_setsArticle 27 = .ok (.iload 4, 2) := by decide +kernel
theorem dX13_setsArticle_29 : decode cX13_setsArticle 29 = .ok (.iload_n 2, 1) := by decide +kernel
theorem dX13_setsArticle_30 : decode cX13_setsArticle 30 = .ok (.invokevirtual 162, 3) := by decide +kernel
theorem dX13_setsArticle_33 : decode cX13_setsArticle 33 = .ok (.istore_n 3, 1) := by decide +kernel
theorem dX13_setsArticle_34 : decode cX13_setsArticle 34 = .ok (.iinc 4 1, 3) := by decide +kernel
theorem dX13_setsArticle_37 : decode cX13_setsArticle 37 = .ok (.goto (-27), 3) := by decide +kernel
theorem dX13_setsArticle_40 : decode cX13_setsArticle 40 = .ok (.iload_n 3, 1) := by decide +kernel
theorem dX13_setsArticle_41 : decode cX13_setsArticle 41 = .ok (.ifCond .eq 12, 3) := by decide +kernel
theorem dX13_setsArticle_44 : decode cX13_setsArticle 44 = .ok (.aload_n 0, 1) := by decide +kernel
theorem dX13_setsArticle_45 : decode cX13_setsArticle 45 = .ok (.getfield 147, 3) := by decide +kernel
theorem dX13_setsArticle_48 : decode cX13_setsArticle 48 = .ok (.iconst 1, 1) := by decide +kernel
theorem dX13_setsArticle_49 : decode cX13_setsArticle 49 = .ok (.iadd, 1) := by decide +kernel
theorem dX13_setsArticle_50 : decode cX13_setsArticle 50 = .ok (.goto 4, 3) := by decide +kernel
theorem dX13_setsArticle_53 : decode cX13_setsArticle 53 = .ok (.iconst (-1), 1) := by decide +kernel
theorem dX13_setsArticle_54 : decode cX13_setsArticle 54 = .ok (.ireturn, 1) := by decide +kernel
theorem dX13_doSetWidth_0 : decode cX13_doSetWidth 0 = .ok (.iload_n 1, 1) := by decide +kernel
theorem dX13_doSetWidth_1 : decode cX13_doSetWidth 1 = .ok (.iconst 4, 1) := by decide +kernel
theorem dX13_doSetWidth_2 : decode cX13_doSetWidth 2 = .ok (.bipush 20, 2) := by decide +kernel
theorem dX13_doSetWidth_4 : decode cX13_doSetWidth 4 = .ok (.invokestatic 71, 3) := by decide +kernel
theorem dX13_doSetWidth_7 : decode cX13_doSetWidth 7 = .ok (.ifCond .ne 9, 3) := by decide +kernel
theorem dX13_doSetWidth_10 : decode cX13_doSetWidth 10 = .ok (.aload_n 0, 1) := by decide +kernel
theorem dX13_doSetWidth_11 : decode cX13_doSetWidth 11 = .ok (.iconst 1, 1) := by decide +kernel
theorem dX13_doSetWidth_12 : decode cX13_doSetWidth 12 = .ok (.invokevirtual 82, 3) := by decide +kernel
theorem dX13_doSetWidth_15 : decode cX13_doSetWidth 15 = .ok (.ireturn, 1) := by decide +kernel
theorem dX13_doSetWidth_16 : decode cX13_doSetWidth 16 = .ok (.aload_n 0, 1) := by decide +kernel
theorem dX13_doSetWidth_17 : decode cX13_doSetWidth 17 = .ok (.getfield 9, 3) := by decide +kernel
theorem dX13_doSetWidth_20 : decode cX13_doSetWidth 20 = .ok (.iconst 2, 1) := by decide +kernel
theorem dX13_doSetWidth_21 : decode cX13_doSetWidth 21 = .ok (.iaload, 1) := by decide +kernel
theorem dX13_doSetWidth_22 : decode cX13_doSetWidth 22 = .ok (.istore_n 2, 1) := by decide +kernel
theorem dX13_doSetWidth_23 : decode cX13_doSetWidth 23 = .ok (.aload_n 0, 1) := by decide +kernel
theorem dX13_doSetWidth_24 : decode cX13_doSetWidth 24 = .ok (.getfield 9, 3) := by decide +kernel
theorem dX13_doSetWidth_27 : decode cX13_doSetWidth 27 = .ok (.iconst 2, 1) := by decide +kernel
theorem dX13_doSetWidth_28 : decode cX13_doSetWidth 28 = .ok (.iload_n 1, 1) := by decide +kernel
theorem dX13_doSetWidth_29 : decode cX13_doSetWidth 29 = .ok (.iastore, 1) := by decide +kernel
theorem dX13_doSetWidth_30 : decode cX13_doSetWidth 30 = .ok (.iload_n 2, 1) := by decide +kernel
theorem dX13_doSetWidth_31 : decode cX13_doSetWidth 31 = .ok (.ireturn, 1) := by decide +kernel
theorem dX13_setWidth_0 : decode cX13_setWidth 0 = .ok (.aload_n 0, 1) := by decide +kernel
theorem dX13_setWidth_1 : decode cX13_setWidth 1 = .ok (.invokevirtual 94, 3) := by decide +kernel
theorem dX13_setWidth_4 : decode cX13_setWidth 4 = .ok (.aload_n 0, 1) := by decide +kernel
theorem dX13_setWidth_5 : decode cX13_setWidth 5 = .ok (.aload_n 0, 1) := by decide +kernel
theorem dX13_setWidth_6 : decode cX13_setWidth 6 = .ok (.iload_n 1, 1) := by decide +kernel
theorem dX13_setWidth_7 : decode cX13_setWidth 7 = .ok (.invokevirtual 165, 3) := by decide +kernel
theorem dX13_setWidth_10 : decode cX13_setWidth 10 = .ok (.invokevirtual 100, 3) := by decide +kernel
theorem dX13_setWidth_13 : decode cX13_setWidth 13 = .ok (.ireturn, 1) := by decide +kernel
theorem dX13_width_0 : decode cX13_width 0 = .ok (.aload_n 0, 1) := by decide +kernel
theorem dX13_width_1 : decode cX13_width 1 = .ok (.iconst 0, 1) := by decide +kernel
theorem dX13_width_2 : decode cX13_width 2 = .ok (.putfield 55, 3) := by decide +kernel
theorem dX13_width_5 : decode cX13_width 5 = .ok (.aload_n 0, 1) := by decide +kernel
theorem dX13_width_6 : decode cX13_width 6 = .ok (.getfield 9, 3) := by decide +kernel
theorem dX13_width_9 : decode cX13_width 9 = .ok (.iconst 2, 1) := by decide +kernel
theorem dX13_width_10 : decode cX13_width 10 = .ok (.iaload, 1) := by decide +kernel
theorem dX13_width_11 : decode cX13_width 11 = .ok (.ireturn, 1) := by decide +kernel
theorem dX13_canBeSet_0 : decode cX13_canBeSet 0 = .ok (.aload_n 0, 1) := by decide +kernel
theorem dX13_canBeSet_1 : decode cX13_canBeSet 1 = .ok (.iload_n 1, 1) := by decide +kernel
theorem dX13_canBeSet_2 : decode cX13_canBeSet 2 = .ok (.invokevirtual 103, 3) := by decide +kernel
theorem dX13_canBeSet_5 : decode cX13_canBeSet 5 = .ok (.istore_n 2, 1) := by decide +kernel
theorem dX13_canBeSet_6 : decode cX13_canBeSet 6 = .ok (.aload_n 0, 1) := by decide +kernel
theorem dX13_canBeSet_7 : decode cX13_canBeSet 7 = .ok (.iload_n 2, 1) := by decide +kernel
theorem dX13_canBeSet_8 : decode cX13_canBeSet 8 = .ok (.ifCond .lt 7, 3) := by decide +kernel
theorem dX13_canBeSet_11 : decode cX13_canBeSet 11 = .ok (.iconst 1, 1) := by decide +kernel
theorem dX13_canBeSet_12 : decode cX13_canBeSet 12 = .ok (.goto 4, 3) := by decide +kernel
theorem dX13_canBeSet_15 : decode cX13_canBeSet 15 = .ok (.iconst 0, 1) := by decide +kernel
theorem dX13_canBeSet_16 : decode cX13_canBeSet 16 = .ok (.invokevirtual 126, 3) := by decide +kernel
theorem dX13_canBeSet_19 : decode cX13_canBeSet 19 = .ok (.ifCond .eq 21, 3) := by decide +kernel
theorem dX13_canBeSet_22 : decode cX13_canBeSet 22 = .ok (.aload_n 0, 1) := by decide +kernel
theorem dX13_canBeSet_23 : decode cX13_canBeSet 23 = .ok (.iload_n 2, 1) := by decide +kernel
theorem dX13_canBeSet_24 : decode cX13_canBeSet 24 = .ok (.aload_n 0, 1) := by decide +kernel
theorem dX13_canBeSet_25 : decode cX13_canBeSet 25 = .ok (.getfield 9, 3) := by decide +kernel
theorem dX13_canBeSet_28 : decode cX13_canBeSet 28 = .ok (.iconst 2, 1) := by decide +kernel
theorem dX13_canBeSet_29 : decode cX13_canBeSet 29 = .ok (.iaload, 1) := by decide +kernel
theorem dX13_canBeSet_30 : decode cX13_canBeSet 30 = .ok (.invokevirtual 168, 3) := by decide +kernel
theorem dX13_canBeSet_33 : decode cX13_canBeSet 33 = .ok (.ifCond .lt 7, 3) := by decide +kernel
theorem dX13_canBeSet_36 : decode cX13_canBeSet 36 = .ok (.iconst 1, 1) := by decide +kernel
theorem dX13_canBeSet_37 : decode cX13_canBeSet 37 = .ok (.goto 4, 3) := by decide +kernel
theorem dX13_canBeSet_40 : decode cX13_canBeSet 40 = .ok (.iconst 0, 1) := by decide +kernel
theorem dX13_canBeSet_41 : decode cX13_canBeSet 41 = .ok (.ireturn, 1) := by decide +kernel
theorem dX13_asksLines_0 : decode cX13_asksLines 0 = .ok (.aload_n 0, 1) := by decide +kernel
theorem dX13_asksLines_1 : decode cX13_asksLines 1 = .ok (.iload_n 1, 1) := by decide +kernel
theorem dX13_asksLines_2 : decode cX13_asksLines 2 = .ok (.invokevirtual 103, 3) := by decide +kernel
theorem dX13_asksLines_5 : decode cX13_asksLines 5 = .ok (.istore_n 2, 1) := by decide +kernel
theorem dX13_asksLines_6 : decode cX13_asksLines 6 = .ok (.iload_n 2, 1) := by decide +kernel
theorem dX13_asksLines_7 : decode cX13_asksLines 7 = .ok (.ifCond .ge 7, 3) := by decide +kernel
theorem dX13_asksLines_10 : decode cX13_asksLines 10 = .ok (.iconst (-1), 1) := by decide +kernel
theorem dX13_asksLines_11 : decode cX13_asksLines 11 = .ok (.goto 14, 3) := by decide +kernel
theorem dX13_asksLines_14 : decode cX13_asksLines 14 = .ok (.aload_n 0, 1) := by decide +kernel
theorem dX13_asksLines_15 : decode cX13_asksLines 15 = .ok (.iload_n 2, 1) := by decide +kernel
theorem dX13_asksLines_16 : decode cX13_asksLines 16 = .ok (.aload_n 0, 1) := by decide +kernel
theorem dX13_asksLines_17 : decode cX13_asksLines 17 = .ok (.getfield 9, 3) := by decide +kernel
theorem dX13_asksLines_20 : decode cX13_asksLines 20 = .ok (.iconst 2, 1) := by decide +kernel
theorem dX13_asksLines_21 : decode cX13_asksLines 21 = .ok (.iaload, 1) := by decide +kernel
theorem dX13_asksLines_22 : decode cX13_asksLines 22 = .ok (.invokevirtual 168, 3) := by decide +kernel
theorem dX13_asksLines_25 : decode cX13_asksLines 25 = .ok (.istore_n 3, 1) := by decide +kernel
theorem dX13_asksLines_26 : decode cX13_asksLines 26 = .ok (.aload_n 0, 1) := by decide +kernel
theorem dX13_asksLines_27 : decode cX13_asksLines 27 = .ok (.iload_n 2, 1) := by decide +kernel
theorem dX13_asksLines_28 : decode cX13_asksLines 28 = .ok (.ifCond .ge 7, 3) := by decide +kernel
theorem dX13_asksLines_31 : decode cX13_asksLines 31 = .ok (.iconst 1, 1) := by decide +kernel
theorem dX13_asksLines_32 : decode cX13_asksLines 32 = .ok (.goto 12, 3) := by decide +kernel
theorem dX13_asksLines_35 : decode cX13_asksLines 35 = .ok (.iload_n 3, 1) := by decide +kernel
theorem dX13_asksLines_36 : decode cX13_asksLines 36 = .ok (.ifCond .ge 7, 3) := by decide +kernel
theorem dX13_asksLines_39 : decode cX13_asksLines 39 = .ok (.iconst 2, 1) := by decide +kernel
theorem dX13_asksLines_40 : decode cX13_asksLines 40 = .ok (.goto 4, 3) := by decide +kernel
theorem dX13_asksLines_43 : decode cX13_asksLines 43 = .ok (.iconst 0, 1) := by decide +kernel
theorem dX13_asksLines_44 : decode cX13_asksLines 44 = .ok (.putfield 55, 3) := by decide +kernel
theorem dX13_asksLines_47 : decode cX13_asksLines 47 = .ok (.iload_n 3, 1) := by decide +kernel
theorem dX13_asksLines_48 : decode cX13_asksLines 48 = .ok (.ireturn, 1) := by decide +kernel
theorem dX13_lineCount_0 : decode cX13_lineCount 0 = .ok (.iconst 0, 1) := by decide +kernel
theorem dX13_lineCount_1 : decode cX13_lineCount 1 = .ok (.aload_n 0, 1) := by decide +kernel
theorem dX13_lineCount_2 : decode cX13_lineCount 2 = .ok (.iload_n 1, 1) := by decide +kernel
theorem dX13_lineCount_3 : decode cX13_lineCount 3 = .ok (.invokevirtual 171, 3) := by decide +kernel
theorem dX13_lineCount_6 : decode cX13_lineCount 6 = .ok (.invokestatic 174, 3) := by decide +kernel
theorem dX13_lineCount_9 : decode cX13_lineCount 9 = .ok (.ireturn, 1) := by decide +kernel
theorem dX13_asksLine_0 : decode cX13_asksLine 0 = .ok (.aload_n 0, 1) := by decide +kernel
theorem dX13_asksLine_1 : decode cX13_asksLine 1 = .ok (.iload_n 1, 1) := by decide +kernel
theorem dX13_asksLine_2 : decode cX13_asksLine 2 = .ok (.invokevirtual 171, 3) := by decide +kernel
theorem dX13_asksLine_5 : decode cX13_asksLine 5 = .ok (.istore_n 3, 1) := by decide +kernel
theorem dX13_asksLine_6 : decode cX13_asksLine 6 = .ok (.aload_n 0, 1) := by decide +kernel
theorem dX13_asksLine_7 : decode cX13_asksLine 7 = .ok (.aload_n 0, 1) := by decide +kernel
theorem dX13_asksLine_8 : decode cX13_asksLine 8 = .ok (.getfield 55, 3) := by decide +kernel
theorem dX13_asksLine_11 : decode cX13_asksLine 11 = .ok (.ifCond .le 10, 3) := by decide +kernel
theorem dX13_asksLine_14 : decode cX13_asksLine 14 = .ok (.aload_n 0, 1) := by decide +kernel
theorem dX13_asksLine_15 : decode cX13_asksLine 15 = .ok (.getfield 55, 3) := by decide +kernel
theorem dX13_asksLine_18 : decode cX13_asksLine 18 = .ok (.goto 19, 3) := by decide +kernel
theorem dX13_asksLine_21 : decode cX13_asksLine 21 = .ok (.iload_n 2, 1) := by decide +kernel
theorem dX13_asksLine_22 : decode cX13_asksLine 22 = .ok (.iconst 0, 1) := by decide +kernel
theorem dX13_asksLine_23 : decode cX13_asksLine 23 = .ok (.iload_n 3, 1) := by decide +kernel
theorem dX13_asksLine_24 : decode cX13_asksLine 24 = .ok (.iconst 1, 1) := by decide +kernel
theorem dX13_asksLine_25 : decode cX13_asksLine 25 = .ok (.isub, 1) := by decide +kernel
theorem dX13_asksLine_26 : decode cX13_asksLine 26 = .ok (.invokestatic 71, 3) := by decide +kernel
theorem dX13_asksLine_29 : decode cX13_asksLine 29 = .ok (.ifCond .ne 7, 3) := by decide +kernel
theorem dX13_asksLine_32 : decode cX13_asksLine 32 = .ok (.iconst 3, 1) := by decide +kernel
theorem dX13_asksLine_33 : decode cX13_asksLine 33 = .ok (.goto 4, 3) := by decide +kernel
theorem dX13_asksLine_36 : decode cX13_asksLine 36 = .ok (.iconst 0, 1) := by decide +kernel
theorem dX13_asksLine_37 : decode cX13_asksLine 37 = .ok (.putfield 55, 3) := by decide +kernel
theorem dX13_asksLine_40 : decode cX13_asksLine 40 = .ok (.aload_n 0, 1) := by decide +kernel
theorem dX13_asksLine_41 : decode cX13_asksLine 41 = .ok (.getfield 55, 3) := by decide +kernel
theorem dX13_asksLine_44 : decode cX13_asksLine 44 = .ok (.ifCond .ne 7, 3) := by decide +kernel
theorem dX13_asksLine_47 : decode cX13_asksLine 47 = .ok (.iconst 1, 1) := by decide +kernel
theorem dX13_asksLine_48 : decode cX13_asksLine 48 = .ok (.goto 4, 3) := by decide +kernel
theorem dX13_asksLine_51 : decode cX13_asksLine 51 = .ok (.iconst 0, 1) := by decide +kernel
theorem dX13_asksLine_52 : decode cX13_asksLine 52 = .ok (.ireturn, 1) := by decide +kernel
theorem dX13_lineLength_0 : decode cX13_lineLength 0 = .ok (.aload_n 0, 1) := by decide +kernel
theorem dX13_lineLength_1 : decode cX13_lineLength 1 = .ok (.iload_n 1, 1) := by decide +kernel
theorem dX13_lineLength_2 : decode cX13_lineLength 2 = .ok (.iload_n 2, 1) := by decide +kernel
theorem dX13_lineLength_3 : decode cX13_lineLength 3 = .ok (.invokevirtual 179, 3) := by decide +kernel
theorem dX13_lineLength_6 : decode cX13_lineLength 6 = .ok (.ifCond .eq 12, 3) := by decide +kernel
theorem dX13_lineLength_9 : decode cX13_lineLength 9 = .ok (.aload_n 0, 1) := by decide +kernel
theorem dX13_lineLength_10 : decode cX13_lineLength 10 = .ok (.getfield 29, 3) := by decide +kernel
theorem dX13_lineLength_13 : decode cX13_lineLength 13 = .ok (.iload_n 2, 1) := by decide +kernel
theorem dX13_lineLength_14 : decode cX13_lineLength 14 = .ok (.iaload, 1) := by decide +kernel
theorem dX13_lineLength_15 : decode cX13_lineLength 15 = .ok (.goto 4, 3) := by decide +kernel
theorem dX13_lineLength_18 : decode cX13_lineLength 18 = .ok (.iconst 0, 1) := by decide +kernel
theorem dX13_lineLength_19 : decode cX13_lineLength 19 = .ok (.ireturn, 1) := by decide +kernel
theorem dX13_hyphenCount_0 : decode cX13_hyphenCount 0 = .ok (.aload_n 0, 1) := by decide +kernel
theorem dX13_hyphenCount_1 : decode cX13_hyphenCount 1 = .ok (.iload_n 1, 1) := by decide +kernel
theorem dX13_hyphenCount_2 : decode cX13_hyphenCount 2 = .ok (.invokevirtual 171, 3) := by decide +kernel
theorem dX13_hyphenCount_5 : decode cX13_hyphenCount 5 = .ok (.istore_n 2, 1) := by decide +kernel
theorem dX13_hyphenCount_6 : decode cX13_hyphenCount 6 = .ok (.iconst 0, 1) := by decide +kernel
theorem dX13_hyphenCount_7 : decode cX13_hyphenCount 7 = .ok (.istore_n 3, 1) := by decide +kernel
theorem dX13_hyphenCount_8 : decode cX13_hyphenCount 8 = .ok (.iconst 0, 1) := by decide +kernel
theorem dX13_hyphenCount_9 : decode cX13_hyphenCount 9 = .ok (.istore 4, 2) := by decide +kernel
theorem dX13_hyphenCount_11 : decode cX13_hyphenCount 11 = .ok (.iload 4, 2) := by decide +kernel
theorem dX13_hyphenCount_13 : decode cX13_hyphenCount 13 = .ok (.iload_n 2, 1) := by decide +kernel
theorem dX13_hyphenCount_14 : decode cX13_hyphenCount 14 = .ok (.if_icmp .ge 27, 3) := by decide +kernel
theorem dX13_hyphenCount_17 : decode cX13_hyphenCount 17 = .ok (.iload_n 3, 1) := by decide +kernel
theorem dX13_hyphenCount_18 : decode cX13_hyphenCount 18 = .ok (.aload_n 0, 1) := by decide +kernel
theorem dX13_hyphenCount_19 : decode cX13_hyphenCount 19 = .ok (.getfield 32, 3) := by decide +kernel
theorem dX13_hyphenCount_22 : decode cX13_hyphenCount 22 = .ok (.iload 4, 2) := by decide +kernel
theorem dX13_hyphenCount_24 : decode cX13_hyphenCount 24 = .ok (.baload, 1) := by decide +kernel
theorem dX13_hyphenCount_25 : decode cX13_hyphenCount 25 = .ok (.ifCond .eq 7, 3) := by decide +kernel
theorem dX13_hyphenCount_28 : decode cX13_hyphenCount 28 = .ok (.iconst 1, 1) := by decide +kernel
theorem dX13_hyphenCount_29 : decode cX13_hyphenCount 29 = .ok (.goto 4, 3) := by decide +kernel
theorem dX13_hyphenCount_32 : decode cX13_hyphenCount 32 = .ok (.iconst 0, 1) := by decide +kernel
theorem dX13_hyphenCount_33 : decode cX13_hyphenCount 33 = .ok (.iadd, 1) := by decide +kernel
theorem dX13_hyphenCount_34 : decode cX13_hyphenCount 34 = .ok (.istore_n 3, 1) := by decide +kernel
theorem dX13_hyphenCount_35 : decode cX13_hyphenCount 35 = .ok (.iinc 4 1, 3) := by decide +kernel
theorem dX13_hyphenCount_38 : decode cX13_hyphenCount 38 = .ok (.goto (-27), 3) := by decide +kernel
theorem dX13_hyphenCount_41 : decode cX13_hyphenCount 41 = .ok (.iload_n 3, 1) := by decide +kernel
theorem dX13_hyphenCount_42 : decode cX13_hyphenCount 42 = .ok (.ireturn, 1) := by decide +kernel
theorem dX13_smallestWidth_0 : decode cX13_smallestWidth 0 = .ok (.aload_n 0, 1) := by decide +kernel
theorem dX13_smallestWidth_1 : decode cX13_smallestWidth 1 = .ok (.iload_n 1, 1) := by decide +kernel
theorem dX13_smallestWidth_2 : decode cX13_smallestWidth 2 = .ok (.invokevirtual 103, 3) := by decide +kernel
theorem dX13_smallestWidth_5 : decode cX13_smallestWidth 5 = .ok (.istore_n 2, 1) := by decide +kernel
theorem dX13_smallestWidth_6 : decode cX13_smallestWidth 6 = .ok (.iconst 4, 1) := by decide +kernel
theorem dX13_smallestWidth_7 : decode cX13_smallestWidth 7 = .ok (.istore_n 3, 1) := by decide +kernel
theorem dX13_smallestWidth_8 : decode cX13_smallestWidth 8 = .ok (.aload_n 0, 1) := by decide +kernel
theorem dX13_smallestWidth_9 : decode cX13_smallestWidth 9 = .ok (.iload_n 2, 1) := by decide +kernel
theorem dX13_smallestWidth_10 : decode cX13_smallestWidth 10 = .ok (.ifCond .lt 7, 3) := by decide +kernel
theorem dX13_smallestWidth_13 : decode cX13_smallestWidth 13 = .ok (.iconst 1, 1) := by decide +kernel
theorem dX13_smallestWidth_14 : decode cX13_smallestWidth 14 = .ok (.goto 4, 3) := by decide +kernel
theorem dX13_smallestWidth_17 : decode cX13_smallestWidth 17 = .ok (.iconst 0, 1) := by decide +kernel
theorem dX13_smallestWidth_18 : decode cX13_smallestWidth 18 = .ok (.invokevirtual 126, 3) := by decide +kernel
theorem dX13_smallestWidth_21 : decode cX13_smallestWidth 21 = .ok (.istore 4, 2) := by decide +kernel
theorem dX13_smallestWidth_23 : decode cX13_smallestWidth 23 = .ok (.iload 4, 2) := by decide +kernel
theorem dX13_smallestWidth_25 : decode cX13_smallestWidth 25 = .ok (.ifCond .eq 18, 3) := by decide +kernel
theorem dX13_smallestWidth_28 : decode cX13_smallestWidth 28 = .ok (.aload_n 0, 1) := by decide +kernel
theorem dX13_smallestWidth_29 : decode cX13_smallestWidth 29 = .ok (.iload_n 2, 1) := by decide +kernel
theorem dX13_smallestWidth_30 : decode cX13_smallestWidth 30 = .ok (.iload_n 3, 1) := by decide +kernel
theorem dX13_smallestWidth_31 : decode cX13_smallestWidth 31 = .ok (.invokevirtual 168, 3) := by decide +kernel
theorem dX13_smallestWidth_34 : decode cX13_smallestWidth 34 = .ok (.ifCond .ge 9, 3) := by decide +kernel
theorem dX13_smallestWidth_37 : decode cX13_smallestWidth 37 = .ok (.iinc 3 1, 3) := by decide +kernel
theorem dX13_smallestWidth_40 : decode cX13_smallestWidth 40 = .ok (.goto (-17), 3) := by decide +kernel
theorem dX13_smallestWidth_43 : decode cX13_smallestWidth 43 = .ok (.iload 4, 2) := by decide +kernel
theorem dX13_smallestWidth_45 : decode cX13_smallestWidth 45 = .ok (.ifCond .eq 7, 3) := by decide +kernel
theorem dX13_smallestWidth_48 : decode cX13_smallestWidth 48 = .ok (.iload_n 3, 1) := by decide +kernel
theorem dX13_smallestWidth_49 : decode cX13_smallestWidth 49 = .ok (.goto 4, 3) := by decide +kernel
theorem dX13_smallestWidth_52 : decode cX13_smallestWidth 52 = .ok (.iconst 0, 1) := by decide +kernel
theorem dX13_smallestWidth_53 : decode cX13_smallestWidth 53 = .ok (.ireturn, 1) := by decide +kernel
theorem dX13_leastBadness_0 : decode cX13_leastBadness 0 = .ok (.aload_n 0, 1) := by decide +kernel
theorem dX13_leastBadness_1 : decode cX13_leastBadness 1 = .ok (.iload_n 1, 1) := by decide +kernel
theorem dX13_leastBadness_2 : decode cX13_leastBadness 2 = .ok (.invokevirtual 103, 3) := by decide +kernel
theorem dX13_leastBadness_5 : decode cX13_leastBadness 5 = .ok (.istore_n 2, 1) := by decide +kernel
theorem dX13_leastBadness_6 : decode cX13_leastBadness 6 = .ok (.iload_n 2, 1) := by decide +kernel
theorem dX13_leastBadness_7 : decode cX13_leastBadness 7 = .ok (.ifCond .ge 7, 3) := by decide +kernel
theorem dX13_leastBadness_10 : decode cX13_leastBadness 10 = .ok (.iconst 0, 1) := by decide +kernel
theorem dX13_leastBadness_11 : decode cX13_leastBadness 11 = .ok (.goto 9, 3) := by decide +kernel
theorem dX13_leastBadness_14 : decode cX13_leastBadness 14 = .ok (.aload_n 0, 1) := by decide +kernel
theorem dX13_leastBadness_15 : decode cX13_leastBadness 15 = .ok (.iload_n 2, 1) := by decide +kernel
theorem dX13_leastBadness_16 : decode cX13_leastBadness 16 = .ok (.iconst 2, 1) := by decide +kernel
theorem dX13_leastBadness_17 : decode cX13_leastBadness 17 = .ok (.invokevirtual 67, 3) := by decide +kernel
theorem dX13_leastBadness_20 : decode cX13_leastBadness 20 = .ok (.istore_n 3, 1) := by decide +kernel
theorem dX13_leastBadness_21 : decode cX13_leastBadness 21 = .ok (.iconst 0, 1) := by decide +kernel
theorem dX13_leastBadness_22 : decode cX13_leastBadness 22 = .ok (.istore 4, 2) := by decide +kernel
theorem dX13_leastBadness_24 : decode cX13_leastBadness 24 = .ok (.iconst 0, 1) := by decide +kernel
theorem dX13_leastBadness_25 : decode cX13_leastBadness 25 = .ok (.istore 5, 2) := by decide +kernel
theorem dX13_leastBadness_27 : decode cX13_leastBadness 27 = .ok (.iload 5, 2) := by decide +kernel
theorem dX13_leastBadness_29 : decode cX13_leastBadness 29 = .ok (.iload_n 3, 1) := by decide +kernel
theorem dX13_leastBadness_30 : decode cX13_leastBadness 30 = .ok (.if_icmp .ge 23, 3) := by decide +kernel
theorem dX13_leastBadness_33 : decode cX13_leastBadness 33 = .ok (.iload 4, 2) := by decide +kernel
theorem dX13_leastBadness_35 : decode cX13_leastBadness 35 = .ok (.aload_n 0, 1) := by decide +kernel
theorem dX13_leastBadness_36 : decode cX13_leastBadness 36 = .ok (.iload_n 2, 1) := by decide +kernel
theorem dX13_leastBadness_37 : decode cX13_leastBadness 37 = .ok (.iload 5, 2) := by decide +kernel
theorem dX13_leastBadness_39 : decode cX13_leastBadness 39 = .ok (.invokevirtual 113, 3) := by decide +kernel
theorem dX13_leastBadness_42 : decode cX13_leastBadness 42 = .ok (.invokestatic 174, 3) := by decide +kernel
theorem dX13_leastBadness_45 : decode cX13_leastBadness 45 = .ok (.istore 4, 2) := by decide +kernel
theorem dX13_leastBadness_47 : decode cX13_leastBadness 47 = .ok (.iinc 5 1, 3) := by decide +kernel
theorem dX13_leastBadness_50 : decode cX13_leastBadness 50 = .ok (.goto (-23), 3) := by decide +kernel
theorem dX13_leastBadness_53 : decode cX13_leastBadness 53 = .ok (.aload_n 0, 1) := by decide +kernel
theorem dX13_leastBadness_54 : decode cX13_leastBadness 54 = .ok (.iload_n 2, 1) := by decide +kernel
theorem dX13_leastBadness_55 : decode cX13_leastBadness 55 = .ok (.ifCond .ge 7, 3) := by decide +kernel
theorem dX13_leastBadness_58 : decode cX13_leastBadness 58 = .ok (.iconst 1, 1) := by decide +kernel
theorem dX13_leastBadness_59 : decode cX13_leastBadness 59 = .ok (.goto 19, 3) := by decide +kernel
theorem dX13_leastBadness_62 : decode cX13_leastBadness 62 = .ok (.iload 4, 2) := by decide +kernel
theorem dX13_leastBadness_64 : decode cX13_leastBadness 64 = .ok (.aload_n 0, 1) := by decide +kernel
theorem dX13_leastBadness_65 : decode cX13_leastBadness 65 = .ok (.getfield 9, 3) := by decide +kernel
theorem dX13_leastBadness_68 : decode cX13_leastBadness 68 = .ok (.iconst 2, 1) := by decide +kernel
theorem dX13_leastBadness_69 : decode cX13_leastBadness 69 = .ok (.iaload, 1) := by decide +kernel
theorem dX13_leastBadness_70 : decode cX13_leastBadness 70 = .ok (.if_icmp .le 7, 3) := by decide +kernel
theorem dX13_leastBadness_73 : decode cX13_leastBadness 73 = .ok (.iconst 2, 1) := by decide +kernel
theorem dX13_leastBadness_74 : decode cX13_leastBadness 74 = .ok (.goto 4, 3) := by decide +kernel
theorem dX13_leastBadness_77 : decode cX13_leastBadness 77 = .ok (.iconst 0, 1) := by decide +kernel
theorem dX13_leastBadness_78 : decode cX13_leastBadness 78 = .ok (.putfield 55, 3) := by decide +kernel
theorem dX13_leastBadness_81 : decode cX13_leastBadness 81 = .ok (.aload_n 0, 1) := by decide +kernel
theorem dX13_leastBadness_82 : decode cX13_leastBadness 82 = .ok (.getfield 36, 3) := by decide +kernel
theorem dX13_leastBadness_85 : decode cX13_leastBadness 85 = .ok (.iload_n 3, 1) := by decide +kernel
theorem dX13_leastBadness_86 : decode cX13_leastBadness 86 = .ok (.iconst 0, 1) := by decide +kernel
theorem dX13_leastBadness_87 : decode cX13_leastBadness 87 = .ok (.iastore, 1) := by decide +kernel
theorem dX13_leastBadness_88 : decode cX13_leastBadness 88 = .ok (.iload_n 3, 1) := by decide +kernel
theorem dX13_leastBadness_89 : decode cX13_leastBadness 89 = .ok (.iconst 1, 1) := by decide +kernel
theorem dX13_leastBadness_90 : decode cX13_leastBadness 90 = .ok (.isub, 1) := by decide +kernel
theorem dX13_leastBadness_91 : decode cX13_leastBadness 91 = .ok (.istore 5, 2) := by decide +kernel
theorem dX13_leastBadness_93 : decode cX13_leastBadness 93 = .ok (.iload 5, 2) := by decide +kernel
theorem dX13_leastBadness_95 : decode cX13_leastBadness 95 = .ok (.ifCond .lt 132, 3) := by decide +kernel
theorem dX13_leastBadness_98 : decode cX13_leastBadness 98 = .ok (.aload_n 0, 1) := by decide +kernel
theorem dX13_leastBadness_99 : decode cX13_leastBadness 99 = .ok (.getfield 55, 3) := by decide +kernel
theorem dX13_leastBadness_102 : decode cX13_leastBadness 102 = .ok (.ifCond .ne 125, 3) := by decide +kernel
theorem dX13_leastBadness_105 : decode cX13_leastBadness 105 = .ok (.iconst (-1), 1) := by decide +kernel
theorem dX13_leastBadness_106 : decode cX13_leastBadness 106 = .ok (.istore 6, 2) := by decide +kernel
theorem dX13_leastBadness_108 : decode cX13_leastBadness 108 = .ok (.aload_n 0, 1) := by decide +kernel
theorem dX13_leastBadness_109 : decode cX13_leastBadness 109 = .ok (.getfield 36, 3) := by decide +kernel
theorem dX13_leastBadness_112 : decode cX13_leastBadness 112 = .ok (.iload 5, 2) := by decide +kernel
theorem dX13_leastBadness_114 : decode cX13_leastBadness 114 = .ok (.ldc 184, 2) := by decide +kernel
theorem dX13_leastBadness_116 : decode cX13_leastBadness 116 = .ok (.iastore, 1) := by decide +kernel
theorem dX13_leastBadness_117 : decode cX13_leastBadness 117 = .ok (.iload 5, 2) := by decide +kernel
theorem dX13_leastBadness_119 : decode cX13_leastBadness 119 = .ok (.istore 7, 2) := by decide +kernel
theorem dX13_leastBadness_121 : decode cX13_leastBadness 121 = .ok (.iload 7, 2) := by decide +kernel
theorem dX13_leastBadness_123 : decode cX13_leastBadness 123 = .ok (.iload_n 3, 1) := by decide +kernel
theorem dX13_leastBadness_124 : decode cX13_leastBadness 124 = .ok (.if_icmp .ge 97, 3) := by decide +kernel
theorem dX13_leastBadness_127 : decode cX13_leastBadness 127 = .ok (.iload 6, 2) := by decide +kernel
theorem dX13_leastBadness_129 : decode cX13_leastBadness 129 = .ok (.aload_n 0, 1) := by decide +kernel
theorem dX13_leastBadness_130 : decode cX13_leastBadness 130 = .ok (.iload_n 2, 1) := by decide +kernel
theorem dX13_leastBadness_131 : decode cX13_leastBadness 131 = .ok (.iload 7, 2) := by decide +kernel
theorem dX13_leastBadness_133 : decode cX13_leastBadness 133 = .ok (.invokevirtual 113, 3) := by decide +kernel
theorem dX13_leastBadness_136 : decode cX13_leastBadness 136 = .ok (.iconst 1, 1) := by decide +kernel
theorem dX13_leastBadness_137 : decode cX13_leastBadness 137 = .ok (.iadd, 1) := by decide +kernel
theorem dX13_leastBadness_138 : decode cX13_leastBadness 138 = .ok (.iadd, 1) := by decide +kernel
theorem dX13_leastBadness_139 : decode cX13_leastBadness 139 = .ok (.istore 6, 2) := by decide +kernel
theorem dX13_leastBadness_141 : decode cX13_leastBadness 141 = .ok (.aload_n 0, 1) := by decide +kernel
theorem dX13_leastBadness_142 : decode cX13_leastBadness 142 = .ok (.getfield 9, 3) := by decide +kernel
theorem dX13_leastBadness_145 : decode cX13_leastBadness 145 = .ok (.iconst 2, 1) := by decide +kernel
theorem dX13_leastBadness_146 : decode cX13_leastBadness 146 = .ok (.iaload, 1) := by decide +kernel
theorem dX13_leastBadness_147 : decode cX13_leastBadness 147 = .ok (.iload 6, 2) := by decide +kernel
theorem dX13_leastBadness_149 : decode cX13_leastBadness 149 = .ok (.isub, 1) := by decide +kernel
theorem dX13_leastBadness_150 : decode cX13_leastBadness 150 = .ok (.istore 8, 2) := by decide +kernel
theorem dX13_leastBadness_152 : decode cX13_leastBadness 152 = .ok (.iload 7, 2) := by decide +kernel
theorem dX13_leastBadness_154 : decode cX13_leastBadness 154 = .ok (.iload_n 3, 1) := by decide +kernel
theorem dX13_leastBadness_155 : decode cX13_leastBadness 155 = .ok (.iconst 1, 1) := by decide +kernel
theorem dX13_leastBadness_156 : decode cX13_leastBadness 156 = .ok (.isub, 1) := by decide +kernel
theorem dX13_leastBadness_157 : decode cX13_leastBadness 157 = .ok (.if_icmp .ne 7, 3) := by decide +kernel
theorem dX13_leastBadness_160 : decode cX13_leastBadness 160 = .ok (.iconst 0, 1) := by decide +kernel
theorem dX13_leastBadness_161 : decode cX13_leastBadness 161 = .ok (.goto 18, 3) := by decide +kernel
theorem dX13_leastBadness_164 : decode cX13_leastBadness 164 = .ok (.iload 8, 2) := by decide +kernel
theorem dX13_leastBadness_166 : decode cX13_leastBadness 166 = .ok (.iload 8, 2) := by decide +kernel
theorem dX13_leastBadness_168 : decode cX13_leastBadness 168 = .ok (.imul, 1) := by decide +kernel
theorem dX13_leastBadness_169 : decode cX13_leastBadness 169 = .ok (.aload_n 0, 1) := by decide +kernel
theorem dX13_leastBadness_170 : decode cX13_leastBadness 170 = .ok (.getfield 36, 3) := by decide +kernel
theorem dX13_leastBadness_173 : decode cX13_leastBadness 173 = .ok (.iload 7, 2) := by decide +kernel
theorem dX13_leastBadness_175 : decode cX13_leastBadness 175 = .ok (.iconst 1, 1) := by decide +kernel
theorem dX13_leastBadness_176 : decode cX13_leastBadness 176 = .ok (.iadd, 1) := by decide +kernel
theorem dX13_leastBadness_177 : decode cX13_leastBadness 177 = .ok (.iaload, 1) := by decide +kernel
theorem dX13_leastBadness_178 : decode cX13_leastBadness 178 = .ok (.iadd, 1) := by decide +kernel
theorem dX13_leastBadness_179 : decode cX13_leastBadness 179 = .ok (.istore 9, 2) := by decide +kernel
theorem dX13_leastBadness_181 : decode cX13_leastBadness 181 = .ok (.aload_n 0, 1) := by decide +kernel
theorem dX13_leastBadness_182 : decode cX13_leastBadness 182 = .ok (.getfield 36, 3) := by decide +kernel
theorem dX13_leastBadness_185 : decode cX13_leastBadness 185 = .ok (.iload 5, 2) := by decide +kernel
theorem dX13_leastBadness_187 : decode cX13_leastBadness 187 = .ok (.iload 8, 2) := by decide +kernel
