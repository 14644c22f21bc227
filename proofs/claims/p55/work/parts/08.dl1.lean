theorem dL_execute_27 : decode cL_execute 27 = .ok (.ireturn, 1) := by decide +kernel
theorem dL_execute_28 : decode cL_execute 28 = .ok (.iinc 2 1, 3) := by decide +kernel
theorem dL_execute_31 : decode cL_execute 31 = .ok (.goto (-29), 3) := by decide +kernel
theorem dL_execute_34 : decode cL_execute 34 = .ok (.aload_n 0, 1) := by decide +kernel
theorem dL_execute_35 : decode cL_execute 35 = .ok (.invokestatic 151, 3) := by decide +kernel
theorem dL_execute_38 : decode cL_execute 38 = .ok (.ireturn, 1) := by decide +kernel
theorem dL_types_0 : decode cL_types 0 = .ok (.aload_n 0, 1) := by decide +kernel
theorem dL_types_1 : decode cL_types 1 = .ok (.invokevirtual 155, 3) := by decide +kernel
theorem dL_types_4 : decode cL_types 4 = .ok (.istore_n 2, 1) := by decide +kernel
theorem dL_types_5 : decode cL_types 5 = .ok (.iload_n 2, 1) := by decide +kernel
theorem dL_types_6 : decode cL_types 6 = .ok (.ifCond .lt 7, 3) := by decide +kernel
theorem dL_types_9 : decode cL_types 9 = .ok (.iconst 1, 1) := by decide +kernel
theorem dL_types_10 : decode cL_types 10 = .ok (.goto 4, 3) := by decide +kernel
theorem dL_types_13 : decode cL_types 13 = .ok (.iconst 0, 1) := by decide +kernel
theorem dL_types_14 : decode cL_types 14 = .ok (.istore_n 3, 1) := by decide +kernel
theorem dL_types_15 : decode cL_types 15 = .ok (.iconst 0, 1) := by decide +kernel
theorem dL_types_16 : decode cL_types 16 = .ok (.istore 4, 2) := by decide +kernel
theorem dL_types_18 : decode cL_types 18 = .ok (.iload 4, 2) := by decide +kernel
theorem dL_types_20 : decode cL_types 20 = .ok (.aload_n 1, 1) := by decide +kernel
theorem dL_types_21 : decode cL_types 21 = .ok (.invokevirtual 138, 3) := by decide +kernel
theorem dL_types_24 : decode cL_types 24 = .ok (.if_icmp .ge 36, 3) := by decide +kernel
theorem dL_types_27 : decode cL_types 27 = .ok (.iload_n 3, 1) := by decide +kernel
theorem dL_types_28 : decode cL_types 28 = .ok (.ifCond .eq 32, 3) := by decide +kernel
theorem dL_types_31 : decode cL_types 31 = .ok (.aload_n 0, 1) := by decide +kernel
theorem dL_types_32 : decode cL_types 32 = .ok (.aload_n 1, 1) := by decide +kernel
theorem dL_types_33 : decode cL_types 33 = .ok (.iload 4, 2) := by decide +kernel
theorem dL_types_35 : decode cL_types 35 = .ok (.invokevirtual 143, 3) := by decide +kernel
theorem dL_types_38 : decode cL_types 38 = .ok (.invokestatic 158, 3) := by decide +kernel
theorem dL_types_41 : decode cL_types 41 = .ok (.iload 4, 2) := by decide +kernel
theorem dL_types_43 : decode cL_types 43 = .ok (.iconst 1, 1) := by decide +kernel
theorem dL_types_44 : decode cL_types 44 = .ok (.iadd, 1) := by decide +kernel
theorem dL_types_45 : decode cL_types 45 = .ok (.if_icmp .ne 7, 3) := by decide +kernel
theorem dL_types_48 : decode cL_types 48 = .ok (.iconst 1, 1) := by decide +kernel
theorem dL_types_49 : decode cL_types 49 = .ok (.goto 4, 3) := by decide +kernel
theorem dL_types_52 : decode cL_types 52 = .ok (.iconst 0, 1) := by decide +kernel
theorem dL_types_53 : decode cL_types 53 = .ok (.istore_n 3, 1) := by decide +kernel
theorem dL_types_54 : decode cL_types 54 = .ok (.iinc 4 1, 3) := by decide +kernel
theorem dL_types_57 : decode cL_types 57 = .ok (.goto (-39), 3) := by decide +kernel
theorem dL_types_60 : decode cL_types 60 = .ok (.iload_n 3, 1) := by decide +kernel
theorem dL_types_61 : decode cL_types 61 = .ok (.ireturn, 1) := by decide +kernel
theorem dL_drawnWord_0 : decode cL_drawnWord 0 = .ok (.ldc 160, 2) := by decide +kernel
theorem dL_drawnWord_2 : decode cL_drawnWord 2 = .ok (.astore_n 1, 1) := by decide +kernel
theorem dL_drawnWord_3 : decode cL_drawnWord 3 = .ok (.iconst 1, 1) := by decide +kernel
theorem dL_drawnWord_4 : decode cL_drawnWord 4 = .ok (.iload_n 0, 1) := by decide +kernel
theorem dL_drawnWord_5 : decode cL_drawnWord 5 = .ok (.bipush 12, 2) := by decide +kernel
theorem dL_drawnWord_7 : decode cL_drawnWord 7 = .ok (.irem, 1) := by decide +kernel
theorem dL_drawnWord_8 : decode cL_drawnWord 8 = .ok (.iadd, 1) := by decide +kernel
theorem dL_drawnWord_9 : decode cL_drawnWord 9 = .ok (.istore_n 2, 1) := by decide +kernel
theorem dL_drawnWord_10 : decode cL_drawnWord 10 = .ok (.iconst 0, 1) := by decide +kernel
theorem dL_drawnWord_11 : decode cL_drawnWord 11 = .ok (.istore_n 3, 1) := by decide +kernel
theorem dL_drawnWord_12 : decode cL_drawnWord 12 = .ok (.iload_n 3, 1) := by decide +kernel
theorem dL_drawnWord_13 : decode cL_drawnWord 13 = .ok (.iload_n 2, 1) := by decide +kernel
theorem dL_drawnWord_14 : decode cL_drawnWord 14 = .ok (.if_icmp .ge 45, 3) := by decide +kernel
theorem dL_drawnWord_17 : decode cL_drawnWord 17 = .ok (.new 162, 3) := by decide +kernel
theorem dL_drawnWord_20 : decode cL_drawnWord 20 = .ok (.dup, 1) := by decide +kernel
theorem dL_drawnWord_21 : decode cL_drawnWord 21 = .ok (.invokespecial 164, 3) := by decide +kernel
theorem dL_drawnWord_24 : decode cL_drawnWord 24 = .ok (.aload_n 1, 1) := by decide +kernel
theorem dL_drawnWord_25 : decode cL_drawnWord 25 = .ok (.invokevirtual 165, 3) := by decide +kernel
theorem dL_drawnWord_28 : decode cL_drawnWord 28 = .ok (.ldc 169, 2) := by decide +kernel
theorem dL_drawnWord_30 : decode cL_drawnWord 30 = .ok (.iload_n 0, 1) := by decide +kernel
theorem dL_drawnWord_31 : decode cL_drawnWord 31 = .ok (.iconst 4, 1) := by decide +kernel
theorem dL_drawnWord_32 : decode cL_drawnWord 32 = .ok (.iconst 2, 1) := by decide +kernel
theorem dL_drawnWord_33 : decode cL_drawnWord 33 = .ok (.iload_n 3, 1) := by decide +kernel
theorem dL_drawnWord_34 : decode cL_drawnWord 34 = .ok (.imul, 1) := by decide +kernel
theorem dL_drawnWord_35 : decode cL_drawnWord 35 = .ok (.bipush 25, 2) := by decide +kernel
theorem dL_drawnWord_37 : decode cL_drawnWord 37 = .ok (.irem, 1) := by decide +kernel
theorem dL_drawnWord_38 : decode cL_drawnWord 38 = .ok (.iadd, 1) := by decide +kernel
theorem dL_drawnWord_39 : decode cL_drawnWord 39 = .ok (.iushr, 1) := by decide +kernel
theorem dL_drawnWord_40 : decode cL_drawnWord 40 = .ok (.bipush 12, 2) := by decide +kernel
theorem dL_drawnWord_42 : decode cL_drawnWord 42 = .ok (.irem, 1) := by decide +kernel
theorem dL_drawnWord_43 : decode cL_drawnWord 43 = .ok (.invokevirtual 143, 3) := by decide +kernel
theorem dL_drawnWord_46 : decode cL_drawnWord 46 = .ok (.invokevirtual 171, 3) := by decide +kernel
theorem dL_drawnWord_49 : decode cL_drawnWord 49 = .ok (.invokevirtual 174, 3) := by decide +kernel
theorem dL_drawnWord_52 : decode cL_drawnWord 52 = .ok (.astore_n 1, 1) := by decide +kernel
theorem dL_drawnWord_53 : decode cL_drawnWord 53 = .ok (.iinc 3 1, 3) := by decide +kernel
theorem dL_drawnWord_56 : decode cL_drawnWord 56 = .ok (.goto (-44), 3) := by decide +kernel
theorem dL_drawnWord_59 : decode cL_drawnWord 59 = .ok (.aload_n 1, 1) := by decide +kernel
theorem dL_drawnWord_60 : decode cL_drawnWord 60 = .ok (.areturn, 1) := by decide +kernel
theorem dL_drawnText_0 : decode cL_drawnText 0 = .ok (.iload_n 0, 1) := by decide +kernel
theorem dL_drawnText_1 : decode cL_drawnText 1 = .ok (.invokestatic 178, 3) := by decide +kernel
theorem dL_drawnText_4 : decode cL_drawnText 4 = .ok (.astore_n 1, 1) := by decide +kernel
theorem dL_drawnText_5 : decode cL_drawnText 5 = .ok (.iconst 1, 1) := by decide +kernel
theorem dL_drawnText_6 : decode cL_drawnText 6 = .ok (.istore_n 2, 1) := by decide +kernel
theorem dL_drawnText_7 : decode cL_drawnText 7 = .ok (.iload_n 2, 1) := by decide +kernel
theorem dL_drawnText_8 : decode cL_drawnText 8 = .ok (.iconst 1, 1) := by decide +kernel
theorem dL_drawnText_9 : decode cL_drawnText 9 = .ok (.iload_n 0, 1) := by decide +kernel
theorem dL_drawnText_10 : decode cL_drawnText 10 = .ok (.bipush 9, 2) := by decide +kernel
theorem dL_drawnText_12 : decode cL_drawnText 12 = .ok (.irem, 1) := by decide +kernel
theorem dL_drawnText_13 : decode cL_drawnText 13 = .ok (.iadd, 1) := by decide +kernel
theorem dL_drawnText_14 : decode cL_drawnText 14 = .ok (.if_icmp .ge 69, 3) := by decide +kernel
theorem dL_drawnText_17 : decode cL_drawnText 17 = .ok (.iload_n 0, 1) := by decide +kernel
theorem dL_drawnText_18 : decode cL_drawnText 18 = .ok (.iconst 2, 1) := by decide +kernel
theorem dL_drawnText_19 : decode cL_drawnText 19 = .ok (.iload_n 2, 1) := by decide +kernel
theorem dL_drawnText_20 : decode cL_drawnText 20 = .ok (.imul, 1) := by decide +kernel
theorem dL_drawnText_21 : decode cL_drawnText 21 = .ok (.iconst 1, 1) := by decide +kernel
theorem dL_drawnText_22 : decode cL_drawnText 22 = .ok (.iadd, 1) := by decide +kernel
theorem dL_drawnText_23 : decode cL_drawnText 23 = .ok (.imul, 1) := by decide +kernel
theorem dL_drawnText_24 : decode cL_drawnText 24 = .ok (.bipush 77, 2) := by decide +kernel
theorem dL_drawnText_26 : decode cL_drawnText 26 = .ok (.iload_n 2, 1) := by decide +kernel
theorem dL_drawnText_27 : decode cL_drawnText 27 = .ok (.imul, 1) := by decide +kernel
theorem dL_drawnText_28 : decode cL_drawnText 28 = .ok (.iadd, 1) := by decide +kernel
theorem dL_drawnText_29 : decode cL_drawnText 29 = .ok (.iconst 1, 1) := by decide +kernel
theorem dL_drawnText_30 : decode cL_drawnText 30 = .ok (.iushr, 1) := by decide +kernel
theorem dL_drawnText_31 : decode cL_drawnText 31 = .ok (.invokestatic 178, 3) := by decide +kernel
theorem dL_drawnText_34 : decode cL_drawnText 34 = .ok (.astore_n 3, 1) := by decide +kernel
theorem dL_drawnText_35 : decode cL_drawnText 35 = .ok (.aload_n 1, 1) := by decide +kernel
theorem dL_drawnText_36 : decode cL_drawnText 36 = .ok (.invokevirtual 138, 3) := by decide +kernel
theorem dL_drawnText_39 : decode cL_drawnText 39 = .ok (.aload_n 3, 1) := by decide +kernel
theorem dL_drawnText_40 : decode cL_drawnText 40 = .ok (.invokevirtual 138, 3) := by decide +kernel
theorem dL_drawnText_43 : decode cL_drawnText 43 = .ok (.iadd, 1) := by decide +kernel
theorem dL_drawnText_44 : decode cL_drawnText 44 = .ok (.bipush 60, 2) := by decide +kernel
theorem dL_drawnText_46 : decode cL_drawnText 46 = .ok (.if_icmp .ge 29, 3) := by decide +kernel
theorem dL_drawnText_49 : decode cL_drawnText 49 = .ok (.new 162, 3) := by decide +kernel
theorem dL_drawnText_52 : decode cL_drawnText 52 = .ok (.dup, 1) := by decide +kernel
theorem dL_drawnText_53 : decode cL_drawnText 53 = .ok (.invokespecial 164, 3) := by decide +kernel
theorem dL_drawnText_56 : decode cL_drawnText 56 = .ok (.aload_n 1, 1) := by decide +kernel
theorem dL_drawnText_57 : decode cL_drawnText 57 = .ok (.invokevirtual 165, 3) := by decide +kernel
theorem dL_drawnText_60 : decode cL_drawnText 60 = .ok (.ldc 182, 2) := by decide +kernel
theorem dL_drawnText_62 : decode cL_drawnText 62 = .ok (.invokevirtual 165, 3) := by decide +kernel
theorem dL_drawnText_65 : decode cL_drawnText 65 = .ok (.aload_n 3, 1) := by decide +kernel
theorem dL_drawnText_66 : decode cL_drawnText 66 = .ok (.invokevirtual 165, 3) := by decide +kernel
theorem dL_drawnText_69 : decode cL_drawnText 69 = .ok (.invokevirtual 174, 3) := by decide +kernel
theorem dL_drawnText_72 : decode cL_drawnText 72 = .ok (.goto 4, 3) := by decide +kernel
theorem dL_drawnText_75 : decode cL_drawnText 75 = .ok (.aload_n 1, 1) := by decide +kernel
theorem dL_drawnText_76 : decode cL_drawnText 76 = .ok (.astore_n 1, 1) := by decide +kernel
theorem dL_drawnText_77 : decode cL_drawnText 77 = .ok (.iinc 2 1, 3) := by decide +kernel
theorem dL_drawnText_80 : decode cL_drawnText 80 = .ok (.goto (-73), 3) := by decide +kernel
theorem dL_drawnText_83 : decode cL_drawnText 83 = .ok (.aload_n 1, 1) := by decide +kernel
theorem dL_drawnText_84 : decode cL_drawnText 84 = .ok (.areturn, 1) := by decide +kernel
theorem dL_drawn_0 : decode cL_drawn 0 = .ok (.new 9, 3) := by decide +kernel
theorem dL_drawn_3 : decode cL_drawn 3 = .ok (.dup, 1) := by decide +kernel
theorem dL_drawn_4 : decode cL_drawn 4 = .ok (.invokespecial 184, 3) := by decide +kernel
theorem dL_drawn_7 : decode cL_drawn 7 = .ok (.astore_n 1, 1) := by decide +kernel
theorem dL_drawn_8 : decode cL_drawn 8 = .ok (.aload_n 0, 1) := by decide +kernel
theorem dL_drawn_9 : decode cL_drawn 9 = .ok (.iconst 0, 1) := by decide +kernel
theorem dL_drawn_10 : decode cL_drawn 10 = .ok (.invokestatic 185, 3) := by decide +kernel
theorem dL_drawn_13 : decode cL_drawn 13 = .ok (.iconst 1, 1) := by decide +kernel
theorem dL_drawn_14 : decode cL_drawn 14 = .ok (.iushr, 1) := by decide +kernel
theorem dL_drawn_15 : decode cL_drawn 15 = .ok (.istore_n 2, 1) := by decide +kernel
theorem dL_drawn_16 : decode cL_drawn 16 = .ok (.iconst 1, 1) := by decide +kernel
theorem dL_drawn_17 : decode cL_drawn 17 = .ok (.iload_n 2, 1) := by decide +kernel
theorem dL_drawn_18 : decode cL_drawn 18 = .ok (.iconst 5, 1) := by decide +kernel
theorem dL_drawn_19 : decode cL_drawn 19 = .ok (.irem, 1) := by decide +kernel
theorem dL_drawn_20 : decode cL_drawn 20 = .ok (.iadd, 1) := by decide +kernel
theorem dL_drawn_21 : decode cL_drawn 21 = .ok (.istore_n 3, 1) := by decide +kernel
theorem dL_drawn_22 : decode cL_drawn 22 = .ok (.iconst 0, 1) := by decide +kernel
theorem dL_drawn_23 : decode cL_drawn 23 = .ok (.istore 4, 2) := by decide +kernel
theorem dL_drawn_25 : decode cL_drawn 25 = .ok (.iload 4, 2) := by decide +kernel
theorem dL_drawn_27 : decode cL_drawn 27 = .ok (.iload_n 3, 1) := by decide +kernel
theorem dL_drawn_28 : decode cL_drawn 28 = .ok (.if_icmp .ge 54, 3) := by decide +kernel
theorem dL_drawn_31 : decode cL_drawn 31 = .ok (.aload_n 0, 1) := by decide +kernel
theorem dL_drawn_32 : decode cL_drawn 32 = .ok (.iconst 1, 1) := by decide +kernel
theorem dL_drawn_33 : decode cL_drawn 33 = .ok (.iload 4, 2) := by decide +kernel
theorem dL_drawn_35 : decode cL_drawn 35 = .ok (.iadd, 1) := by decide +kernel
theorem dL_drawn_36 : decode cL_drawn 36 = .ok (.invokestatic 185, 3) := by decide +kernel
theorem dL_drawn_39 : decode cL_drawn 39 = .ok (.iconst 1, 1) := by decide +kernel
theorem dL_drawn_40 : decode cL_drawn 40 = .ok (.iushr, 1) := by decide +kernel
theorem dL_drawn_41 : decode cL_drawn 41 = .ok (.istore 5, 2) := by decide +kernel
theorem dL_drawn_43 : decode cL_drawn 43 = .ok (.aload_n 1, 1) := by decide +kernel
theorem dL_drawn_44 : decode cL_drawn 44 = .ok (.iload 5, 2) := by decide +kernel
theorem dL_drawn_46 : decode cL_drawn 46 = .ok (.invokestatic 189, 3) := by decide +kernel
theorem dL_drawn_49 : decode cL_drawn 49 = .ok (.invokestatic 192, 3) := by decide +kernel
theorem dL_drawn_52 : decode cL_drawn 52 = .ok (.ifCond .eq 22, 3) := by decide +kernel
theorem dL_drawn_55 : decode cL_drawn 55 = .ok (.aload_n 1, 1) := by decide +kernel
theorem dL_drawn_56 : decode cL_drawn 56 = .ok (.iconst 1, 1) := by decide +kernel
theorem dL_drawn_57 : decode cL_drawn 57 = .ok (.iload 5, 2) := by decide +kernel
theorem dL_drawn_59 : decode cL_drawn 59 = .ok (.bipush 7, 2) := by decide +kernel
theorem dL_drawn_61 : decode cL_drawn 61 = .ok (.iushr, 1) := by decide +kernel
theorem dL_drawn_62 : decode cL_drawn 62 = .ok (.bipush 9, 2) := by decide +kernel
theorem dL_drawn_64 : decode cL_drawn 64 = .ok (.irem, 1) := by decide +kernel
theorem dL_drawn_65 : decode cL_drawn 65 = .ok (.iadd, 1) := by decide +kernel
theorem dL_drawn_66 : decode cL_drawn 66 = .ok (.invokestatic 196, 3) := by decide +kernel
theorem dL_drawn_69 : decode cL_drawn 69 = .ok (.iload 4, 2) := by decide +kernel
theorem dL_drawn_71 : decode cL_drawn 71 = .ok (.if_icmp .eq 5, 3) := by decide +kernel
theorem dL_drawn_74 : decode cL_drawn 74 = .ok (.aconst_null, 1) := by decide +kernel
theorem dL_drawn_75 : decode cL_drawn 75 = .ok (.areturn, 1) := by decide +kernel
theorem dL_drawn_76 : decode cL_drawn 76 = .ok (.iinc 4 1, 3) := by decide +kernel
theorem dL_drawn_79 : decode cL_drawn 79 = .ok (.goto (-54), 3) := by decide +kernel
theorem dL_drawn_82 : decode cL_drawn 82 = .ok (.iconst 4, 1) := by decide +kernel
theorem dL_drawn_83 : decode cL_drawn 83 = .ok (.iload_n 2, 1) := by decide +kernel
theorem dL_drawn_84 : decode cL_drawn 84 = .ok (.iconst 4, 1) := by decide +kernel
theorem dL_drawn_85 : decode cL_drawn 85 = .ok (.iushr, 1) := by decide +kernel
theorem dL_drawn_86 : decode cL_drawn 86 = .ok (.bipush 17, 2) := by decide +kernel
theorem dL_drawn_88 : decode cL_drawn 88 = .ok (.irem, 1) := by decide +kernel
theorem dL_drawn_89 : decode cL_drawn 89 = .ok (.iadd, 1) := by decide +kernel
theorem dL_drawn_90 : decode cL_drawn 90 = .ok (.istore 4, 2) := by decide +kernel
theorem dL_drawn_92 : decode cL_drawn 92 = .ok (.aload_n 1, 1) := by decide +kernel
theorem dL_drawn_93 : decode cL_drawn 93 = .ok (.iload 4, 2) := by decide +kernel
theorem dL_drawn_95 : decode cL_drawn 95 = .ok (.invokestatic 199, 3) := by decide +kernel
theorem dL_drawn_98 : decode cL_drawn 98 = .ok (.bipush 12, 2) := by decide +kernel
theorem dL_drawn_100 : decode cL_drawn 100 = .ok (.if_icmp .ne 28, 3) := by decide +kernel
theorem dL_drawn_103 : decode cL_drawn 103 = .ok (.aload_n 1, 1) := by decide +kernel
theorem dL_drawn_104 : decode cL_drawn 104 = .ok (.iconst 1, 1) := by decide +kernel
theorem dL_drawn_105 : decode cL_drawn 105 = .ok (.iload_n 2, 1) := by decide +kernel
theorem dL_drawn_106 : decode cL_drawn 106 = .ok (.bipush 9, 2) := by decide +kernel
theorem dL_drawn_108 : decode cL_drawn 108 = .ok (.iushr, 1) := by decide +kernel
theorem dL_drawn_109 : decode cL_drawn 109 = .ok (.iconst 4, 1) := by decide +kernel
theorem dL_drawn_110 : decode cL_drawn 110 = .ok (.irem, 1) := by decide +kernel
theorem dL_drawn_111 : decode cL_drawn 111 = .ok (.iadd, 1) := by decide +kernel
theorem dL_drawn_112 : decode cL_drawn 112 = .ok (.iconst 1, 1) := by decide +kernel
theorem dL_drawn_113 : decode cL_drawn 113 = .ok (.iload_n 2, 1) := by decide +kernel
theorem dL_drawn_114 : decode cL_drawn 114 = .ok (.bipush 11, 2) := by decide +kernel
theorem dL_drawn_116 : decode cL_drawn 116 = .ok (.iushr, 1) := by decide +kernel
theorem dL_drawn_117 : decode cL_drawn 117 = .ok (.bipush 20, 2) := by decide +kernel
theorem dL_drawn_119 : decode cL_drawn 119 = .ok (.irem, 1) := by decide +kernel
theorem dL_drawn_120 : decode cL_drawn 120 = .ok (.iadd, 1) := by decide +kernel
theorem dL_drawn_121 : decode cL_drawn 121 = .ok (.invokestatic 201, 3) := by decide +kernel
theorem dL_drawn_124 : decode cL_drawn 124 = .ok (.iconst 1, 1) := by decide +kernel
theorem dL_drawn_125 : decode cL_drawn 125 = .ok (.if_icmp .ge 5, 3) := by decide +kernel
theorem dL_drawn_128 : decode cL_drawn 128 = .ok (.aconst_null, 1) := by decide +kernel
theorem dL_drawn_129 : decode cL_drawn 129 = .ok (.areturn, 1) := by decide +kernel
theorem dL_drawn_130 : decode cL_drawn 130 = .ok (.iconst 0, 1) := by decide +kernel
theorem dL_drawn_131 : decode cL_drawn 131 = .ok (.istore 5, 2) := by decide +kernel
theorem dL_drawn_133 : decode cL_drawn 133 = .ok (.iload 5, 2) := by decide +kernel
theorem dL_drawn_135 : decode cL_drawn 135 = .ok (.iconst 5, 1) := by decide +kernel
theorem dL_drawn_136 : decode cL_drawn 136 = .ok (.if_icmp .ge 108, 3) := by decide +kernel
theorem dL_drawn_139 : decode cL_drawn 139 = .ok (.aload_n 0, 1) := by decide +kernel
theorem dL_drawn_140 : decode cL_drawn 140 = .ok (.bipush 7, 2) := by decide +kernel
theorem dL_drawn_142 : decode cL_drawn 142 = .ok (.iload 5, 2) := by decide +kernel
theorem dL_drawn_144 : decode cL_drawn 144 = .ok (.iadd, 1) := by decide +kernel
theorem dL_drawn_145 : decode cL_drawn 145 = .ok (.invokestatic 185, 3) := by decide +kernel
theorem dL_drawn_148 : decode cL_drawn 148 = .ok (.iconst 1, 1) := by decide +kernel
theorem dL_drawn_149 : decode cL_drawn 149 = .ok (.iushr, 1) := by decide +kernel
theorem dL_drawn_150 : decode cL_drawn 150 = .ok (.istore 6, 2) := by decide +kernel
theorem dL_drawn_152 : decode cL_drawn 152 = .ok (.iload 6, 2) := by decide +kernel
theorem dL_drawn_154 : decode cL_drawn 154 = .ok (.iconst 3, 1) := by decide +kernel
theorem dL_drawn_155 : decode cL_drawn 155 = .ok (.irem, 1) := by decide +kernel
theorem dL_drawn_156 : decode cL_drawn 156 = .ok (.ifCond .ne 10, 3) := by decide +kernel
theorem dL_drawn_159 : decode cL_drawn 159 = .ok (.aload_n 1, 1) := by decide +kernel
theorem dL_drawn_160 : decode cL_drawn 160 = .ok (.invokestatic 204, 3) := by decide +kernel
theorem dL_drawn_163 : decode cL_drawn 163 = .ok (.goto 65, 3) := by decide +kernel
theorem dL_drawn_166 : decode cL_drawn 166 = .ok (.iload 6, 2) := by decide +kernel
theorem dL_drawn_168 : decode cL_drawn 168 = .ok (.iconst 3, 1) := by decide +kernel
theorem dL_drawn_169 : decode cL_drawn 169 = .ok (.irem, 1) := by decide +kernel
theorem dL_drawn_170 : decode cL_drawn 170 = .ok (.iconst 1, 1) := by decide +kernel
theorem dL_drawn_171 : decode cL_drawn 171 = .ok (.if_icmp .ne 18, 3) := by decide +kernel
theorem dL_drawn_174 : decode cL_drawn 174 = .ok (.aload_n 1, 1) := by decide +kernel
theorem dL_drawn_175 : decode cL_drawn 175 = .ok (.iconst 1, 1) := by decide +kernel
theorem dL_drawn_176 : decode cL_drawn 176 = .ok (.iload 6, 2) := by decide +kernel
theorem dL_drawn_178 : decode cL_drawn 178 = .ok (.iconst 4, 1) := by decide +kernel
theorem dL_drawn_179 : decode cL_drawn 179 = .ok (.iushr, 1) := by decide +kernel
theorem dL_drawn_180 : decode cL_drawn 180 = .ok (.iconst 3, 1) := by decide +kernel
theorem dL_drawn_181 : decode cL_drawn 181 = .ok (.irem, 1) := by decide +kernel
theorem dL_drawn_182 : decode cL_drawn 182 = .ok (.iadd, 1) := by decide +kernel
theorem dL_drawn_183 : decode cL_drawn 183 = .ok (.invokestatic 207, 3) := by decide +kernel
theorem dL_drawn_186 : decode cL_drawn 186 = .ok (.goto 42, 3) := by decide +kernel
theorem dL_drawn_189 : decode cL_drawn 189 = .ok (.iload 6, 2) := by decide +kernel
theorem dL_drawn_191 : decode cL_drawn 191 = .ok (.iconst 2, 1) := by decide +kernel
theorem dL_drawn_192 : decode cL_drawn 192 = .ok (.irem, 1) := by decide +kernel
theorem dL_drawn_193 : decode cL_drawn 193 = .ok (.ifCond .eq 17, 3) := by decide +kernel
theorem dL_drawn_196 : decode cL_drawn 196 = .ok (.aload_n 1, 1) := by decide +kernel
theorem dL_drawn_197 : decode cL_drawn 197 = .ok (.iload 6, 2) := by decide +kernel
theorem dL_drawn_199 : decode cL_drawn 199 = .ok (.iconst 3, 1) := by decide +kernel
theorem dL_drawn_200 : decode cL_drawn 200 = .ok (.iushr, 1) := by decide +kernel
theorem dL_drawn_201 : decode cL_drawn 201 = .ok (.invokestatic 178, 3) := by decide +kernel
theorem dL_drawn_204 : decode cL_drawn 204 = .ok (.invokestatic 192, 3) := by decide +kernel
theorem dL_drawn_207 : decode cL_drawn 207 = .ok (.ifCond .ne 10, 3) := by decide +kernel
theorem dL_drawn_210 : decode cL_drawn 210 = .ok (.aload_n 1, 1) := by decide +kernel
theorem dL_drawn_211 : decode cL_drawn 211 = .ok (.invokevirtual 155, 3) := by decide +kernel
theorem dL_drawn_214 : decode cL_drawn 214 = .ok (.goto 14, 3) := by decide +kernel
theorem dL_drawn_217 : decode cL_drawn 217 = .ok (.aload_n 1, 1) := by decide +kernel
theorem dL_drawn_218 : decode cL_drawn 218 = .ok (.iload 6, 2) := by decide +kernel
theorem dL_drawn_220 : decode cL_drawn 220 = .ok (.iconst 5, 1) := by decide +kernel
theorem dL_drawn_221 : decode cL_drawn 221 = .ok (.iushr, 1) := by decide +kernel
theorem dL_drawn_222 : decode cL_drawn 222 = .ok (.iload_n 3, 1) := by decide +kernel
theorem dL_drawn_223 : decode cL_drawn 223 = .ok (.irem, 1) := by decide +kernel
theorem dL_drawn_224 : decode cL_drawn 224 = .ok (.iconst 0, 1) := by decide +kernel
theorem dL_drawn_225 : decode cL_drawn 225 = .ok (.invokestatic 210, 3) := by decide +kernel
theorem dL_drawn_228 : decode cL_drawn 228 = .ok (.istore 7, 2) := by decide +kernel
theorem dL_drawn_230 : decode cL_drawn 230 = .ok (.iload 7, 2) := by decide +kernel
theorem dL_drawn_232 : decode cL_drawn 232 = .ok (.iconst (-1), 1) := by decide +kernel
theorem dL_drawn_233 : decode cL_drawn 233 = .ok (.if_icmp .ne 5, 3) := by decide +kernel
theorem dL_drawn_236 : decode cL_drawn 236 = .ok (.aconst_null, 1) := by decide +kernel
theorem dL_drawn_237 : decode cL_drawn 237 = .ok (.areturn, 1) := by decide +kernel
theorem dL_drawn_238 : decode cL_drawn 238 = .ok (.iinc 5 1, 3) := by decide +kernel
theorem dL_drawn_241 : decode cL_drawn 241 = .ok (.goto (-108), 3) := by decide +kernel
theorem dL_drawn_244 : decode cL_drawn 244 = .ok (.aload_n 1, 1) := by decide +kernel
theorem dL_drawn_245 : decode cL_drawn 245 = .ok (.invokevirtual 155, 3) := by decide +kernel
theorem dL_drawn_248 : decode cL_drawn 248 = .ok (.ifCond .ge 7, 3) := by decide +kernel
theorem dL_drawn_251 : decode cL_drawn 251 = .ok (.aconst_null, 1) := by decide +kernel
theorem dL_drawn_252 : decode cL_drawn 252 = .ok (.goto 4, 3) := by decide +kernel
theorem dL_drawn_255 : decode cL_drawn 255 = .ok (.aload_n 1, 1) := by decide +kernel
theorem dL_drawn_256 : decode cL_drawn 256 = .ok (.areturn, 1) := by decide +kernel
theorem dL_spells_0 : decode cL_spells 0 = .ok (.iload_n 1, 1) := by decide +kernel
theorem dL_spells_1 : decode cL_spells 1 = .ok (.aload_n 2, 1) := by decide +kernel
theorem dL_spells_2 : decode cL_spells 2 = .ok (.invokevirtual 138, 3) := by decide +kernel
theorem dL_spells_5 : decode cL_spells 5 = .ok (.if_icmp .ne 7, 3) := by decide +kernel
theorem dL_spells_8 : decode cL_spells 8 = .ok (.iconst 1, 1) := by decide +kernel
theorem dL_spells_9 : decode cL_spells 9 = .ok (.goto 4, 3) := by decide +kernel
theorem dL_spells_12 : decode cL_spells 12 = .ok (.iconst 0, 1) := by decide +kernel
theorem dL_spells_13 : decode cL_spells 13 = .ok (.istore_n 3, 1) := by decide +kernel
theorem dL_spells_14 : decode cL_spells 14 = .ok (.iconst 0, 1) := by decide +kernel
theorem dL_spells_15 : decode cL_spells 15 = .ok (.istore 4, 2) := by decide +kernel
theorem dL_spells_17 : decode cL_spells 17 = .ok (.iload 4, 2) := by decide +kernel
theorem dL_spells_19 : decode cL_spells 19 = .ok (.aload_n 2, 1) := by decide +kernel
theorem dL_spells_20 : decode cL_spells 20 = .ok (.invokevirtual 138, 3) := by decide +kernel
theorem dL_spells_23 : decode cL_spells 23 = .ok (.if_icmp .ge 34, 3) := by decide +kernel
theorem dL_spells_26 : decode cL_spells 26 = .ok (.iload_n 3, 1) := by decide +kernel
theorem dL_spells_27 : decode cL_spells 27 = .ok (.ifCond .eq 30, 3) := by decide +kernel
theorem dL_spells_30 : decode cL_spells 30 = .ok (.aload_n 0, 1) := by decide +kernel
theorem dL_spells_31 : decode cL_spells 31 = .ok (.iload 4, 2) := by decide +kernel
theorem dL_spells_33 : decode cL_spells 33 = .ok (.invokestatic 212, 3) := by decide +kernel
theorem dL_spells_36 : decode cL_spells 36 = .ok (.aload_n 2, 1) := by decide +kernel
theorem dL_spells_37 : decode cL_spells 37 = .ok (.iload 4, 2) := by decide +kernel
theorem dL_spells_39 : decode cL_spells 39 = .ok (.invokevirtual 143, 3) := by decide +kernel
theorem dL_spells_42 : decode cL_spells 42 = .ok (.if_icmp .ne 7, 3) := by decide +kernel
theorem dL_spells_45 : decode cL_spells 45 = .ok (.iconst 1, 1) := by decide +kernel
theorem dL_spells_46 : decode cL_spells 46 = .ok (.goto 4, 3) := by decide +kernel
theorem dL_spells_49 : decode cL_spells 49 = .ok (.iconst 0, 1) := by decide +kernel
theorem dL_spells_50 : decode cL_spells 50 = .ok (.istore_n 3, 1) := by decide +kernel
theorem dL_spells_51 : decode cL_spells 51 = .ok (.iinc 4 1, 3) := by decide +kernel
theorem dL_spells_54 : decode cL_spells 54 = .ok (.goto (-37), 3) := by decide +kernel
theorem dL_spells_57 : decode cL_spells 57 = .ok (.iload_n 3, 1) := by decide +kernel
theorem dL_spells_58 : decode cL_spells 58 = .ok (.ifCond .eq 17, 3) := by decide +kernel
theorem dL_spells_61 : decode cL_spells 61 = .ok (.aload_n 0, 1) := by decide +kernel
theorem dL_spells_62 : decode cL_spells 62 = .ok (.iload_n 1, 1) := by decide +kernel
theorem dL_spells_63 : decode cL_spells 63 = .ok (.invokestatic 212, 3) := by decide +kernel
theorem dL_spells_66 : decode cL_spells 66 = .ok (.bipush (-11), 2) := by decide +kernel
theorem dL_spells_68 : decode cL_spells 68 = .ok (.if_icmp .ne 7, 3) := by decide +kernel
theorem dL_spells_71 : decode cL_spells 71 = .ok (.iconst 1, 1) := by decide +kernel
theorem dL_spells_72 : decode cL_spells 72 = .ok (.goto 4, 3) := by decide +kernel
theorem dL_spells_75 : decode cL_spells 75 = .ok (.iconst 0, 1) := by decide +kernel
theorem dL_spells_76 : decode cL_spells 76 = .ok (.ireturn, 1) := by decide +kernel
theorem dL_wordsOf_0 : decode cL_wordsOf 0 = .ok (.aload_n 0, 1) := by decide +kernel
theorem dL_wordsOf_1 : decode cL_wordsOf 1 = .ok (.iload_n 1, 1) := by decide +kernel
theorem dL_wordsOf_2 : decode cL_wordsOf 2 = .ok (.invokevirtual 44, 3) := by decide +kernel
theorem dL_wordsOf_5 : decode cL_wordsOf 5 = .ok (.anewarray 139, 3) := by decide +kernel
theorem dL_wordsOf_8 : decode cL_wordsOf 8 = .ok (.astore_n 2, 1) := by decide +kernel
theorem dL_wordsOf_9 : decode cL_wordsOf 9 = .ok (.aload_n 0, 1) := by decide +kernel
theorem dL_wordsOf_10 : decode cL_wordsOf 10 = .ok (.iload_n 1, 1) := by decide +kernel
theorem dL_wordsOf_11 : decode cL_wordsOf 11 = .ok (.invokestatic 215, 3) := by decide +kernel
theorem dL_wordsOf_14 : decode cL_wordsOf 14 = .ok (.istore_n 3, 1) := by decide +kernel
theorem dL_wordsOf_15 : decode cL_wordsOf 15 = .ok (.iconst 0, 1) := by decide +kernel
theorem dL_wordsOf_16 : decode cL_wordsOf 16 = .ok (.istore 4, 2) := by decide +kernel
theorem dL_wordsOf_18 : decode cL_wordsOf 18 = .ok (.aload_n 0, 1) := by decide +kernel
theorem dL_wordsOf_19 : decode cL_wordsOf 19 = .ok (.iload 4, 2) := by decide +kernel
theorem dL_wordsOf_21 : decode cL_wordsOf 21 = .ok (.invokestatic 212, 3) := by decide +kernel
theorem dL_wordsOf_24 : decode cL_wordsOf 24 = .ok (.bipush 58, 2) := by decide +kernel
theorem dL_wordsOf_26 : decode cL_wordsOf 26 = .ok (.if_icmp .eq 9, 3) := by decide +kernel
theorem dL_wordsOf_29 : decode cL_wordsOf 29 = .ok (.iinc 4 1, 3) := by decide +kernel
theorem dL_wordsOf_32 : decode cL_wordsOf 32 = .ok (.goto (-14), 3) := by decide +kernel
theorem dL_wordsOf_35 : decode cL_wordsOf 35 = .ok (.iinc 4 1, 3) := by decide +kernel
theorem dL_wordsOf_38 : decode cL_wordsOf 38 = .ok (.iconst 0, 1) := by decide +kernel
