theorem dX13_leastBadness_189 : decode cX13_leastBadness 189 = .ok (.ifCond .lt 18, 3) := by decide +kernel
theorem dX13_leastBadness_192 : decode cX13_leastBadness 192 = .ok (.aload_n 0, 1) := by decide +kernel
theorem dX13_leastBadness_193 : decode cX13_leastBadness 193 = .ok (.getfield 36, 3) := by decide +kernel
theorem dX13_leastBadness_196 : decode cX13_leastBadness 196 = .ok (.iload 5, 2) := by decide +kernel
theorem dX13_leastBadness_198 : decode cX13_leastBadness 198 = .ok (.iaload, 1) := by decide +kernel
theorem dX13_leastBadness_199 : decode cX13_leastBadness 199 = .ok (.iload 9, 2) := by decide +kernel
theorem dX13_leastBadness_201 : decode cX13_leastBadness 201 = .ok (.invokestatic 185, 3) := by decide +kernel
theorem dX13_leastBadness_204 : decode cX13_leastBadness 204 = .ok (.goto 10, 3) := by decide +kernel
theorem dX13_leastBadness_207 : decode cX13_leastBadness 207 = .ok (.aload_n 0, 1) := by decide +kernel
theorem dX13_leastBadness_208 : decode cX13_leastBadness 208 = .ok (.getfield 36, 3) := by decide +kernel
theorem dX13_leastBadness_211 : decode cX13_leastBadness 211 = .ok (.iload 5, 2) := by decide +kernel
theorem dX13_leastBadness_213 : decode cX13_leastBadness 213 = .ok (.iaload, 1) := by decide +kernel
theorem dX13_leastBadness_214 : decode cX13_leastBadness 214 = .ok (.iastore, 1) := by decide +kernel
theorem dX13_leastBadness_215 : decode cX13_leastBadness 215 = .ok (.iinc 7 1, 3) := by decide +kernel
theorem dX13_leastBadness_218 : decode cX13_leastBadness 218 = .ok (.goto (-97), 3) := by decide +kernel
theorem dX13_leastBadness_221 : decode cX13_leastBadness 221 = .ok (.iinc 5 (-1), 3) := by decide +kernel
theorem dX13_leastBadness_224 : decode cX13_leastBadness 224 = .ok (.goto (-131), 3) := by decide +kernel
theorem dX13_leastBadness_227 : decode cX13_leastBadness 227 = .ok (.aload_n 0, 1) := by decide +kernel
theorem dX13_leastBadness_228 : decode cX13_leastBadness 228 = .ok (.getfield 55, 3) := by decide +kernel
theorem dX13_leastBadness_231 : decode cX13_leastBadness 231 = .ok (.ifCond .le 7, 3) := by decide +kernel
theorem dX13_leastBadness_234 : decode cX13_leastBadness 234 = .ok (.iconst 0, 1) := by decide +kernel
theorem dX13_leastBadness_235 : decode cX13_leastBadness 235 = .ok (.goto 9, 3) := by decide +kernel
theorem dX13_leastBadness_238 : decode cX13_leastBadness 238 = .ok (.aload_n 0, 1) := by decide +kernel
theorem dX13_leastBadness_239 : decode cX13_leastBadness 239 = .ok (.getfield 36, 3) := by decide +kernel
theorem dX13_leastBadness_242 : decode cX13_leastBadness 242 = .ok (.iconst 0, 1) := by decide +kernel
theorem dX13_leastBadness_243 : decode cX13_leastBadness 243 = .ok (.iaload, 1) := by decide +kernel
theorem dX13_leastBadness_244 : decode cX13_leastBadness 244 = .ok (.ireturn, 1) := by decide +kernel
theorem dX13_leastBadnessForward_0 : decode cX13_leastBadnessForward 0 = .ok (.aload_n 0, 1) := by decide +kernel
theorem dX13_leastBadnessForward_1 : decode cX13_leastBadnessForward 1 = .ok (.iload_n 1, 1) := by decide +kernel
theorem dX13_leastBadnessForward_2 : decode cX13_leastBadnessForward 2 = .ok (.invokevirtual 188, 3) := by decide +kernel
theorem dX13_leastBadnessForward_5 : decode cX13_leastBadnessForward 5 = .ok (.ireturn, 1) := by decide +kernel
theorem dX13_doSetPage_0 : decode cX13_doSetPage 0 = .ok (.iload_n 1, 1) := by decide +kernel
theorem dX13_doSetPage_1 : decode cX13_doSetPage 1 = .ok (.iconst 1, 1) := by decide +kernel
theorem dX13_doSetPage_2 : decode cX13_doSetPage 2 = .ok (.iconst 4, 1) := by decide +kernel
theorem dX13_doSetPage_3 : decode cX13_doSetPage 3 = .ok (.invokestatic 71, 3) := by decide +kernel
theorem dX13_doSetPage_6 : decode cX13_doSetPage 6 = .ok (.ifCond .eq 13, 3) := by decide +kernel
theorem dX13_doSetPage_9 : decode cX13_doSetPage 9 = .ok (.iload_n 2, 1) := by decide +kernel
theorem dX13_doSetPage_10 : decode cX13_doSetPage 10 = .ok (.iconst 1, 1) := by decide +kernel
theorem dX13_doSetPage_11 : decode cX13_doSetPage 11 = .ok (.bipush 20, 2) := by decide +kernel
theorem dX13_doSetPage_13 : decode cX13_doSetPage 13 = .ok (.invokestatic 71, 3) := by decide +kernel
theorem dX13_doSetPage_16 : decode cX13_doSetPage 16 = .ok (.ifCond .ne 9, 3) := by decide +kernel
theorem dX13_doSetPage_19 : decode cX13_doSetPage 19 = .ok (.aload_n 0, 1) := by decide +kernel
theorem dX13_doSetPage_20 : decode cX13_doSetPage 20 = .ok (.iconst 1, 1) := by decide +kernel
theorem dX13_doSetPage_21 : decode cX13_doSetPage 21 = .ok (.invokevirtual 82, 3) := by decide +kernel
theorem dX13_doSetPage_24 : decode cX13_doSetPage 24 = .ok (.ireturn, 1) := by decide +kernel
theorem dX13_doSetPage_25 : decode cX13_doSetPage 25 = .ok (.aload_n 0, 1) := by decide +kernel
theorem dX13_doSetPage_26 : decode cX13_doSetPage 26 = .ok (.getfield 9, 3) := by decide +kernel
theorem dX13_doSetPage_29 : decode cX13_doSetPage 29 = .ok (.iconst 3, 1) := by decide +kernel
theorem dX13_doSetPage_30 : decode cX13_doSetPage 30 = .ok (.iload_n 1, 1) := by decide +kernel
theorem dX13_doSetPage_31 : decode cX13_doSetPage 31 = .ok (.iastore, 1) := by decide +kernel
theorem dX13_doSetPage_32 : decode cX13_doSetPage 32 = .ok (.aload_n 0, 1) := by decide +kernel
theorem dX13_doSetPage_33 : decode cX13_doSetPage 33 = .ok (.getfield 9, 3) := by decide +kernel
theorem dX13_doSetPage_36 : decode cX13_doSetPage 36 = .ok (.iconst 4, 1) := by decide +kernel
theorem dX13_doSetPage_37 : decode cX13_doSetPage 37 = .ok (.iload_n 2, 1) := by decide +kernel
theorem dX13_doSetPage_38 : decode cX13_doSetPage 38 = .ok (.iastore, 1) := by decide +kernel
theorem dX13_doSetPage_39 : decode cX13_doSetPage 39 = .ok (.iload_n 1, 1) := by decide +kernel
theorem dX13_doSetPage_40 : decode cX13_doSetPage 40 = .ok (.iload_n 2, 1) := by decide +kernel
theorem dX13_doSetPage_41 : decode cX13_doSetPage 41 = .ok (.imul, 1) := by decide +kernel
theorem dX13_doSetPage_42 : decode cX13_doSetPage 42 = .ok (.ireturn, 1) := by decide +kernel
theorem dX13_setPage_0 : decode cX13_setPage 0 = .ok (.aload_n 0, 1) := by decide +kernel
theorem dX13_setPage_1 : decode cX13_setPage 1 = .ok (.invokevirtual 94, 3) := by decide +kernel
theorem dX13_setPage_4 : decode cX13_setPage 4 = .ok (.aload_n 0, 1) := by decide +kernel
theorem dX13_setPage_5 : decode cX13_setPage 5 = .ok (.aload_n 0, 1) := by decide +kernel
theorem dX13_setPage_6 : decode cX13_setPage 6 = .ok (.iload_n 1, 1) := by decide +kernel
theorem dX13_setPage_7 : decode cX13_setPage 7 = .ok (.iload_n 2, 1) := by decide +kernel
theorem dX13_setPage_8 : decode cX13_setPage 8 = .ok (.invokevirtual 191, 3) := by decide +kernel
theorem dX13_setPage_11 : decode cX13_setPage 11 = .ok (.invokevirtual 100, 3) := by decide +kernel
theorem dX13_setPage_14 : decode cX13_setPage 14 = .ok (.ireturn, 1) := by decide +kernel
theorem dX13_ofIssue_0 : decode cX13_ofIssue 0 = .ok (.aload_n 0, 1) := by decide +kernel
theorem dX13_ofIssue_1 : decode cX13_ofIssue 1 = .ok (.getfield 9, 3) := by decide +kernel
theorem dX13_ofIssue_4 : decode cX13_ofIssue 4 = .ok (.sipush 2367, 3) := by decide +kernel
theorem dX13_ofIssue_7 : decode cX13_ofIssue 7 = .ok (.bipush 18, 2) := by decide +kernel
theorem dX13_ofIssue_9 : decode cX13_ofIssue 9 = .ok (.iload_n 1, 1) := by decide +kernel
theorem dX13_ofIssue_10 : decode cX13_ofIssue 10 = .ok (.imul, 1) := by decide +kernel
theorem dX13_ofIssue_11 : decode cX13_ofIssue 11 = .ok (.iadd, 1) := by decide +kernel
theorem dX13_ofIssue_12 : decode cX13_ofIssue 12 = .ok (.iload_n 2, 1) := by decide +kernel
theorem dX13_ofIssue_13 : decode cX13_ofIssue 13 = .ok (.iadd, 1) := by decide +kernel
theorem dX13_ofIssue_14 : decode cX13_ofIssue 14 = .ok (.iaload, 1) := by decide +kernel
theorem dX13_ofIssue_15 : decode cX13_ofIssue 15 = .ok (.ireturn, 1) := by decide +kernel
theorem dX13_firstLine_0 : decode cX13_firstLine 0 = .ok (.iconst (-1), 1) := by decide +kernel
theorem dX13_firstLine_1 : decode cX13_firstLine 1 = .ok (.istore_n 3, 1) := by decide +kernel
theorem dX13_firstLine_2 : decode cX13_firstLine 2 = .ok (.iconst 0, 1) := by decide +kernel
theorem dX13_firstLine_3 : decode cX13_firstLine 3 = .ok (.istore 4, 2) := by decide +kernel
theorem dX13_firstLine_5 : decode cX13_firstLine 5 = .ok (.iload 4, 2) := by decide +kernel
theorem dX13_firstLine_7 : decode cX13_firstLine 7 = .ok (.aload_n 0, 1) := by decide +kernel
theorem dX13_firstLine_8 : decode cX13_firstLine 8 = .ok (.iload_n 1, 1) := by decide +kernel
theorem dX13_firstLine_9 : decode cX13_firstLine 9 = .ok (.iconst 5, 1) := by decide +kernel
theorem dX13_firstLine_10 : decode cX13_firstLine 10 = .ok (.invokevirtual 194, 3) := by decide +kernel
theorem dX13_firstLine_13 : decode cX13_firstLine 13 = .ok (.if_icmp .ge 44, 3) := by decide +kernel
theorem dX13_firstLine_16 : decode cX13_firstLine 16 = .ok (.aload_n 0, 1) := by decide +kernel
theorem dX13_firstLine_17 : decode cX13_firstLine 17 = .ok (.iload_n 1, 1) := by decide +kernel
theorem dX13_firstLine_18 : decode cX13_firstLine 18 = .ok (.bipush 6, 2) := by decide +kernel
theorem dX13_firstLine_20 : decode cX13_firstLine 20 = .ok (.iconst 2, 1) := by decide +kernel
theorem dX13_firstLine_21 : decode cX13_firstLine 21 = .ok (.iload 4, 2) := by decide +kernel
theorem dX13_firstLine_23 : decode cX13_firstLine 23 = .ok (.imul, 1) := by decide +kernel
theorem dX13_firstLine_24 : decode cX13_firstLine 24 = .ok (.iadd, 1) := by decide +kernel
theorem dX13_firstLine_25 : decode cX13_firstLine 25 = .ok (.invokevirtual 194, 3) := by decide +kernel
theorem dX13_firstLine_28 : decode cX13_firstLine 28 = .ok (.iload_n 2, 1) := by decide +kernel
theorem dX13_firstLine_29 : decode cX13_firstLine 29 = .ok (.if_icmp .ne 20, 3) := by decide +kernel
theorem dX13_firstLine_32 : decode cX13_firstLine 32 = .ok (.aload_n 0, 1) := by decide +kernel
theorem dX13_firstLine_33 : decode cX13_firstLine 33 = .ok (.iload_n 1, 1) := by decide +kernel
theorem dX13_firstLine_34 : decode cX13_firstLine 34 = .ok (.bipush 6, 2) := by decide +kernel
theorem dX13_firstLine_36 : decode cX13_firstLine 36 = .ok (.iconst 2, 1) := by decide +kernel
theorem dX13_firstLine_37 : decode cX13_firstLine 37 = .ok (.iload 4, 2) := by decide +kernel
theorem dX13_firstLine_39 : decode cX13_firstLine 39 = .ok (.imul, 1) := by decide +kernel
theorem dX13_firstLine_40 : decode cX13_firstLine 40 = .ok (.iadd, 1) := by decide +kernel
theorem dX13_firstLine_41 : decode cX13_firstLine 41 = .ok (.iconst 1, 1) := by decide +kernel
theorem dX13_firstLine_42 : decode cX13_firstLine 42 = .ok (.iadd, 1) := by decide +kernel
theorem dX13_firstLine_43 : decode cX13_firstLine 43 = .ok (.invokevirtual 194, 3) := by decide +kernel
theorem dX13_firstLine_46 : decode cX13_firstLine 46 = .ok (.goto 4, 3) := by decide +kernel
theorem dX13_firstLine_49 : decode cX13_firstLine 49 = .ok (.iload_n 3, 1) := by decide +kernel
theorem dX13_firstLine_50 : decode cX13_firstLine 50 = .ok (.istore_n 3, 1) := by decide +kernel
theorem dX13_firstLine_51 : decode cX13_firstLine 51 = .ok (.iinc 4 1, 3) := by decide +kernel
theorem dX13_firstLine_54 : decode cX13_firstLine 54 = .ok (.goto (-49), 3) := by decide +kernel
theorem dX13_firstLine_57 : decode cX13_firstLine 57 = .ok (.iload_n 3, 1) := by decide +kernel
theorem dX13_firstLine_58 : decode cX13_firstLine 58 = .ok (.ireturn, 1) := by decide +kernel
theorem dX13_doPrint_0 : decode cX13_doPrint 0 = .ok (.aload_n 0, 1) := by decide +kernel
theorem dX13_doPrint_1 : decode cX13_doPrint 1 = .ok (.getfield 9, 3) := by decide +kernel
theorem dX13_doPrint_4 : decode cX13_doPrint 4 = .ok (.iconst 0, 1) := by decide +kernel
theorem dX13_doPrint_5 : decode cX13_doPrint 5 = .ok (.iaload, 1) := by decide +kernel
theorem dX13_doPrint_6 : decode cX13_doPrint 6 = .ok (.ifCond .ne 9, 3) := by decide +kernel
theorem dX13_doPrint_9 : decode cX13_doPrint 9 = .ok (.aload_n 0, 1) := by decide +kernel
theorem dX13_doPrint_10 : decode cX13_doPrint 10 = .ok (.iconst 1, 1) := by decide +kernel
theorem dX13_doPrint_11 : decode cX13_doPrint 11 = .ok (.invokevirtual 82, 3) := by decide +kernel
theorem dX13_doPrint_14 : decode cX13_doPrint 14 = .ok (.ireturn, 1) := by decide +kernel
theorem dX13_doPrint_15 : decode cX13_doPrint 15 = .ok (.aload_n 0, 1) := by decide +kernel
theorem dX13_doPrint_16 : decode cX13_doPrint 16 = .ok (.getfield 9, 3) := by decide +kernel
theorem dX13_doPrint_19 : decode cX13_doPrint 19 = .ok (.bipush 7, 2) := by decide +kernel
theorem dX13_doPrint_21 : decode cX13_doPrint 21 = .ok (.iaload, 1) := by decide +kernel
theorem dX13_doPrint_22 : decode cX13_doPrint 22 = .ok (.iconst 4, 1) := by decide +kernel
theorem dX13_doPrint_23 : decode cX13_doPrint 23 = .ok (.if_icmp .ne 33, 3) := by decide +kernel
theorem dX13_doPrint_26 : decode cX13_doPrint 26 = .ok (.aload_n 0, 1) := by decide +kernel
theorem dX13_doPrint_27 : decode cX13_doPrint 27 = .ok (.getfield 9, 3) := by decide +kernel
theorem dX13_doPrint_30 : decode cX13_doPrint 30 = .ok (.sipush 2385, 3) := by decide +kernel
theorem dX13_doPrint_33 : decode cX13_doPrint 33 = .ok (.aload_n 0, 1) := by decide +kernel
theorem dX13_doPrint_34 : decode cX13_doPrint 34 = .ok (.getfield 9, 3) := by decide +kernel
theorem dX13_doPrint_37 : decode cX13_doPrint 37 = .ok (.sipush 2367, 3) := by decide +kernel
theorem dX13_doPrint_40 : decode cX13_doPrint 40 = .ok (.bipush 54, 2) := by decide +kernel
theorem dX13_doPrint_42 : decode cX13_doPrint 42 = .ok (.invokestatic 58, 3) := by decide +kernel
theorem dX13_doPrint_45 : decode cX13_doPrint 45 = .ok (.aload_n 0, 1) := by decide +kernel
theorem dX13_doPrint_46 : decode cX13_doPrint 46 = .ok (.getfield 9, 3) := by decide +kernel
theorem dX13_doPrint_49 : decode cX13_doPrint 49 = .ok (.bipush 7, 2) := by decide +kernel
theorem dX13_doPrint_51 : decode cX13_doPrint 51 = .ok (.dup2, 1) := by decide +kernel
theorem dX13_doPrint_52 : decode cX13_doPrint 52 = .ok (.iaload, 1) := by decide +kernel
theorem dX13_doPrint_53 : decode cX13_doPrint 53 = .ok (.iconst 1, 1) := by decide +kernel
theorem dX13_doPrint_54 : decode cX13_doPrint 54 = .ok (.isub, 1) := by decide +kernel
theorem dX13_doPrint_55 : decode cX13_doPrint 55 = .ok (.iastore, 1) := by decide +kernel
theorem dX13_doPrint_56 : decode cX13_doPrint 56 = .ok (.sipush 2367, 3) := by decide +kernel
theorem dX13_doPrint_59 : decode cX13_doPrint 59 = .ok (.bipush 18, 2) := by decide +kernel
theorem dX13_doPrint_61 : decode cX13_doPrint 61 = .ok (.aload_n 0, 1) := by decide +kernel
theorem dX13_doPrint_62 : decode cX13_doPrint 62 = .ok (.getfield 9, 3) := by decide +kernel
theorem dX13_doPrint_65 : decode cX13_doPrint 65 = .ok (.bipush 7, 2) := by decide +kernel
theorem dX13_doPrint_67 : decode cX13_doPrint 67 = .ok (.iaload, 1) := by decide +kernel
theorem dX13_doPrint_68 : decode cX13_doPrint 68 = .ok (.imul, 1) := by decide +kernel
theorem dX13_doPrint_69 : decode cX13_doPrint 69 = .ok (.iadd, 1) := by decide +kernel
theorem dX13_doPrint_70 : decode cX13_doPrint 70 = .ok (.istore_n 1, 1) := by decide +kernel
theorem dX13_doPrint_71 : decode cX13_doPrint 71 = .ok (.aload_n 0, 1) := by decide +kernel
theorem dX13_doPrint_72 : decode cX13_doPrint 72 = .ok (.getfield 9, 3) := by decide +kernel
theorem dX13_doPrint_75 : decode cX13_doPrint 75 = .ok (.iload_n 1, 1) := by decide +kernel
theorem dX13_doPrint_76 : decode cX13_doPrint 76 = .ok (.aload_n 0, 1) := by decide +kernel
theorem dX13_doPrint_77 : decode cX13_doPrint 77 = .ok (.getfield 9, 3) := by decide +kernel
theorem dX13_doPrint_80 : decode cX13_doPrint 80 = .ok (.bipush 8, 2) := by decide +kernel
theorem dX13_doPrint_82 : decode cX13_doPrint 82 = .ok (.iaload, 1) := by decide +kernel
theorem dX13_doPrint_83 : decode cX13_doPrint 83 = .ok (.iastore, 1) := by decide +kernel
theorem dX13_doPrint_84 : decode cX13_doPrint 84 = .ok (.aload_n 0, 1) := by decide +kernel
theorem dX13_doPrint_85 : decode cX13_doPrint 85 = .ok (.getfield 9, 3) := by decide +kernel
theorem dX13_doPrint_88 : decode cX13_doPrint 88 = .ok (.iload_n 1, 1) := by decide +kernel
theorem dX13_doPrint_89 : decode cX13_doPrint 89 = .ok (.iconst 1, 1) := by decide +kernel
theorem dX13_doPrint_90 : decode cX13_doPrint 90 = .ok (.iadd, 1) := by decide +kernel
theorem dX13_doPrint_91 : decode cX13_doPrint 91 = .ok (.aload_n 0, 1) := by decide +kernel
theorem dX13_doPrint_92 : decode cX13_doPrint 92 = .ok (.getfield 9, 3) := by decide +kernel
theorem dX13_doPrint_95 : decode cX13_doPrint 95 = .ok (.iconst 5, 1) := by decide +kernel
theorem dX13_doPrint_96 : decode cX13_doPrint 96 = .ok (.iaload, 1) := by decide +kernel
theorem dX13_doPrint_97 : decode cX13_doPrint 97 = .ok (.iastore, 1) := by decide +kernel
theorem dX13_doPrint_98 : decode cX13_doPrint 98 = .ok (.aload_n 0, 1) := by decide +kernel
theorem dX13_doPrint_99 : decode cX13_doPrint 99 = .ok (.getfield 9, 3) := by decide +kernel
theorem dX13_doPrint_102 : decode cX13_doPrint 102 = .ok (.iload_n 1, 1) := by decide +kernel
theorem dX13_doPrint_103 : decode cX13_doPrint 103 = .ok (.iconst 2, 1) := by decide +kernel
theorem dX13_doPrint_104 : decode cX13_doPrint 104 = .ok (.iadd, 1) := by decide +kernel
theorem dX13_doPrint_105 : decode cX13_doPrint 105 = .ok (.aload_n 0, 1) := by decide +kernel
theorem dX13_doPrint_106 : decode cX13_doPrint 106 = .ok (.getfield 9, 3) := by decide +kernel
theorem dX13_doPrint_109 : decode cX13_doPrint 109 = .ok (.iconst 3, 1) := by decide +kernel
theorem dX13_doPrint_110 : decode cX13_doPrint 110 = .ok (.iaload, 1) := by decide +kernel
theorem dX13_doPrint_111 : decode cX13_doPrint 111 = .ok (.iastore, 1) := by decide +kernel
theorem dX13_doPrint_112 : decode cX13_doPrint 112 = .ok (.aload_n 0, 1) := by decide +kernel
theorem dX13_doPrint_113 : decode cX13_doPrint 113 = .ok (.getfield 9, 3) := by decide +kernel
theorem dX13_doPrint_116 : decode cX13_doPrint 116 = .ok (.iload_n 1, 1) := by decide +kernel
theorem dX13_doPrint_117 : decode cX13_doPrint 117 = .ok (.iconst 3, 1) := by decide +kernel
theorem dX13_doPrint_118 : decode cX13_doPrint 118 = .ok (.iadd, 1) := by decide +kernel
theorem dX13_doPrint_119 : decode cX13_doPrint 119 = .ok (.aload_n 0, 1) := by decide +kernel
theorem dX13_doPrint_120 : decode cX13_doPrint 120 = .ok (.getfield 9, 3) := by decide +kernel
theorem dX13_doPrint_123 : decode cX13_doPrint 123 = .ok (.iconst 4, 1) := by decide +kernel
theorem dX13_doPrint_124 : decode cX13_doPrint 124 = .ok (.iaload, 1) := by decide +kernel
theorem dX13_doPrint_125 : decode cX13_doPrint 125 = .ok (.iastore, 1) := by decide +kernel
theorem dX13_doPrint_126 : decode cX13_doPrint 126 = .ok (.aload_n 0, 1) := by decide +kernel
theorem dX13_doPrint_127 : decode cX13_doPrint 127 = .ok (.getfield 9, 3) := by decide +kernel
theorem dX13_doPrint_130 : decode cX13_doPrint 130 = .ok (.iload_n 1, 1) := by decide +kernel
theorem dX13_doPrint_131 : decode cX13_doPrint 131 = .ok (.iconst 4, 1) := by decide +kernel
theorem dX13_doPrint_132 : decode cX13_doPrint 132 = .ok (.iadd, 1) := by decide +kernel
theorem dX13_doPrint_133 : decode cX13_doPrint 133 = .ok (.iconst 0, 1) := by decide +kernel
theorem dX13_doPrint_134 : decode cX13_doPrint 134 = .ok (.iastore, 1) := by decide +kernel
theorem dX13_doPrint_135 : decode cX13_doPrint 135 = .ok (.aload_n 0, 1) := by decide +kernel
theorem dX13_doPrint_136 : decode cX13_doPrint 136 = .ok (.getfield 9, 3) := by decide +kernel
theorem dX13_doPrint_139 : decode cX13_doPrint 139 = .ok (.iload_n 1, 1) := by decide +kernel
theorem dX13_doPrint_140 : decode cX13_doPrint 140 = .ok (.iconst 5, 1) := by decide +kernel
theorem dX13_doPrint_141 : decode cX13_doPrint 141 = .ok (.iadd, 1) := by decide +kernel
theorem dX13_doPrint_142 : decode cX13_doPrint 142 = .ok (.iconst 0, 1) := by decide +kernel
theorem dX13_doPrint_143 : decode cX13_doPrint 143 = .ok (.iastore, 1) := by decide +kernel
theorem dX13_doPrint_144 : decode cX13_doPrint 144 = .ok (.iconst 0, 1) := by decide +kernel
theorem dX13_doPrint_145 : decode cX13_doPrint 145 = .ok (.istore_n 2, 1) := by decide +kernel
theorem dX13_doPrint_146 : decode cX13_doPrint 146 = .ok (.iload_n 2, 1) := by decide +kernel
theorem dX13_doPrint_147 : decode cX13_doPrint 147 = .ok (.aload_n 0, 1) := by decide +kernel
theorem dX13_doPrint_148 : decode cX13_doPrint 148 = .ok (.getfield 9, 3) := by decide +kernel
theorem dX13_doPrint_151 : decode cX13_doPrint 151 = .ok (.iconst 0, 1) := by decide +kernel
theorem dX13_doPrint_152 : decode cX13_doPrint 152 = .ok (.iaload, 1) := by decide +kernel
theorem dX13_doPrint_153 : decode cX13_doPrint 153 = .ok (.if_icmp .ge 141, 3) := by decide +kernel
theorem dX13_doPrint_156 : decode cX13_doPrint 156 = .ok (.aload_n 0, 1) := by decide +kernel
theorem dX13_doPrint_157 : decode cX13_doPrint 157 = .ok (.iload_n 2, 1) := by decide +kernel
theorem dX13_doPrint_158 : decode cX13_doPrint 158 = .ok (.invokevirtual 130, 3) := by decide +kernel
theorem dX13_doPrint_161 : decode cX13_doPrint 161 = .ok (.istore_n 3, 1) := by decide +kernel
theorem dX13_doPrint_162 : decode cX13_doPrint 162 = .ok (.aload_n 0, 1) := by decide +kernel
theorem dX13_doPrint_163 : decode cX13_doPrint 163 = .ok (.iload_n 3, 1) := by decide +kernel
theorem dX13_doPrint_164 : decode cX13_doPrint 164 = .ok (.aload_n 0, 1) := by decide +kernel
theorem dX13_doPrint_165 : decode cX13_doPrint 165 = .ok (.getfield 9, 3) := by decide +kernel
theorem dX13_doPrint_168 : decode cX13_doPrint 168 = .ok (.iconst 2, 1) := by decide +kernel
theorem dX13_doPrint_169 : decode cX13_doPrint 169 = .ok (.iaload, 1) := by decide +kernel
theorem dX13_doPrint_170 : decode cX13_doPrint 170 = .ok (.invokevirtual 168, 3) := by decide +kernel
theorem dX13_doPrint_173 : decode cX13_doPrint 173 = .ok (.istore 4, 2) := by decide +kernel
theorem dX13_doPrint_175 : decode cX13_doPrint 175 = .ok (.iload 4, 2) := by decide +kernel
theorem dX13_doPrint_177 : decode cX13_doPrint 177 = .ok (.ifCond .lt 111, 3) := by decide +kernel
theorem dX13_doPrint_180 : decode cX13_doPrint 180 = .ok (.aload_n 0, 1) := by decide +kernel
theorem dX13_doPrint_181 : decode cX13_doPrint 181 = .ok (.getfield 9, 3) := by decide +kernel
theorem dX13_doPrint_184 : decode cX13_doPrint 184 = .ok (.iload_n 1, 1) := by decide +kernel
theorem dX13_doPrint_185 : decode cX13_doPrint 185 = .ok (.iconst 4, 1) := by decide +kernel
theorem dX13_doPrint_186 : decode cX13_doPrint 186 = .ok (.iadd, 1) := by decide +kernel
theorem dX13_doPrint_187 : decode cX13_doPrint 187 = .ok (.iaload, 1) := by decide +kernel
theorem dX13_doPrint_188 : decode cX13_doPrint 188 = .ok (.iload 4, 2) := by decide +kernel
theorem dX13_doPrint_190 : decode cX13_doPrint 190 = .ok (.iadd, 1) := by decide +kernel
theorem dX13_doPrint_191 : decode cX13_doPrint 191 = .ok (.aload_n 0, 1) := by decide +kernel
theorem dX13_doPrint_192 : decode cX13_doPrint 192 = .ok (.getfield 9, 3) := by decide +kernel
theorem dX13_doPrint_195 : decode cX13_doPrint 195 = .ok (.iconst 3, 1) := by decide +kernel
theorem dX13_doPrint_196 : decode cX13_doPrint 196 = .ok (.iaload, 1) := by decide +kernel
theorem dX13_doPrint_197 : decode cX13_doPrint 197 = .ok (.aload_n 0, 1) := by decide +kernel
theorem dX13_doPrint_198 : decode cX13_doPrint 198 = .ok (.getfield 9, 3) := by decide +kernel
theorem dX13_doPrint_201 : decode cX13_doPrint 201 = .ok (.iconst 4, 1) := by decide +kernel
theorem dX13_doPrint_202 : decode cX13_doPrint 202 = .ok (.iaload, 1) := by decide +kernel
theorem dX13_doPrint_203 : decode cX13_doPrint 203 = .ok (.imul, 1) := by decide +kernel
theorem dX13_doPrint_204 : decode cX13_doPrint 204 = .ok (.if_icmp .gt 84, 3) := by decide +kernel
theorem dX13_doPrint_207 : decode cX13_doPrint 207 = .ok (.aload_n 0, 1) := by decide +kernel
theorem dX13_doPrint_208 : decode cX13_doPrint 208 = .ok (.getfield 9, 3) := by decide +kernel
theorem dX13_doPrint_211 : decode cX13_doPrint 211 = .ok (.iload_n 1, 1) := by decide +kernel
theorem dX13_doPrint_212 : decode cX13_doPrint 212 = .ok (.bipush 6, 2) := by decide +kernel
theorem dX13_doPrint_214 : decode cX13_doPrint 214 = .ok (.iadd, 1) := by decide +kernel
theorem dX13_doPrint_215 : decode cX13_doPrint 215 = .ok (.iconst 2, 1) := by decide +kernel
theorem dX13_doPrint_216 : decode cX13_doPrint 216 = .ok (.aload_n 0, 1) := by decide +kernel
theorem dX13_doPrint_217 : decode cX13_doPrint 217 = .ok (.getfield 9, 3) := by decide +kernel
theorem dX13_doPrint_220 : decode cX13_doPrint 220 = .ok (.iload_n 1, 1) := by decide +kernel
theorem dX13_doPrint_221 : decode cX13_doPrint 221 = .ok (.iconst 5, 1) := by decide +kernel
theorem dX13_doPrint_222 : decode cX13_doPrint 222 = .ok (.iadd, 1) := by decide +kernel
theorem dX13_doPrint_223 : decode cX13_doPrint 223 = .ok (.iaload, 1) := by decide +kernel
theorem dX13_doPrint_224 : decode cX13_doPrint 224 = .ok (.imul, 1) := by decide +kernel
theorem dX13_doPrint_225 : decode cX13_doPrint 225 = .ok (.iadd, 1) := by decide +kernel
theorem dX13_doPrint_226 : decode cX13_doPrint 226 = .ok (.aload_n 0, 1) := by decide +kernel
theorem dX13_doPrint_227 : decode cX13_doPrint 227 = .ok (.iload_n 3, 1) := by decide +kernel
theorem dX13_doPrint_228 : decode cX13_doPrint 228 = .ok (.iconst 0, 1) := by decide +kernel
theorem dX13_doPrint_229 : decode cX13_doPrint 229 = .ok (.invokevirtual 67, 3) := by decide +kernel
theorem dX13_doPrint_232 : decode cX13_doPrint 232 = .ok (.iastore, 1) := by decide +kernel
theorem dX13_doPrint_233 : decode cX13_doPrint 233 = .ok (.aload_n 0, 1) := by decide +kernel
theorem dX13_doPrint_234 : decode cX13_doPrint 234 = .ok (.getfield 9, 3) := by decide +kernel
theorem dX13_doPrint_237 : decode cX13_doPrint 237 = .ok (.iload_n 1, 1) := by decide +kernel
theorem dX13_doPrint_238 : decode cX13_doPrint 238 = .ok (.bipush 6, 2) := by decide +kernel
theorem dX13_doPrint_240 : decode cX13_doPrint 240 = .ok (.iadd, 1) := by decide +kernel
theorem dX13_doPrint_241 : decode cX13_doPrint 241 = .ok (.iconst 2, 1) := by decide +kernel
theorem dX13_doPrint_242 : decode cX13_doPrint 242 = .ok (.aload_n 0, 1) := by decide +kernel
theorem dX13_doPrint_243 : decode cX13_doPrint 243 = .ok (.getfield 9, 3) := by decide +kernel
theorem dX13_doPrint_246 : decode cX13_doPrint 246 = .ok (.iload_n 1, 1) := by decide +kernel
theorem dX13_doPrint_247 : decode cX13_doPrint 247 = .ok (.iconst 5, 1) := by decide +kernel
theorem dX13_doPrint_248 : decode cX13_doPrint 248 = .ok (.iadd, 1) := by decide +kernel
theorem dX13_doPrint_249 : decode cX13_doPrint 249 = .ok (.iaload, 1) := by decide +kernel
theorem dX13_doPrint_250 : decode cX13_doPrint 250 = .ok (.imul, 1) := by decide +kernel
theorem dX13_doPrint_251 : decode cX13_doPrint 251 = .ok (.iadd, 1) := by decide +kernel
theorem dX13_doPrint_252 : decode cX13_doPrint 252 = .ok (.iconst 1, 1) := by decide +kernel
theorem dX13_doPrint_253 : decode cX13_doPrint 253 = .ok (.iadd, 1) := by decide +kernel
theorem dX13_doPrint_254 : decode cX13_doPrint 254 = .ok (.aload_n 0, 1) := by decide +kernel
theorem dX13_doPrint_255 : decode cX13_doPrint 255 = .ok (.getfield 9, 3) := by decide +kernel
theorem dX13_doPrint_258 : decode cX13_doPrint 258 = .ok (.iload_n 1, 1) := by decide +kernel
theorem dX13_doPrint_259 : decode cX13_doPrint 259 = .ok (.iconst 4, 1) := by decide +kernel
theorem dX13_doPrint_260 : decode cX13_doPrint 260 = .ok (.iadd, 1) := by decide +kernel
theorem dX13_doPrint_261 : decode cX13_doPrint 261 = .ok (.iaload, 1) := by decide +kernel
theorem dX13_doPrint_262 : decode cX13_doPrint 262 = .ok (.iastore, 1) := by decide +kernel
theorem dX13_doPrint_263 : decode cX13_doPrint 263 = .ok (.aload_n 0, 1) := by decide +kernel
theorem dX13_doPrint_264 : decode cX13_doPrint 264 = .ok (.getfield 9, 3) := by decide +kernel
theorem dX13_doPrint_267 : decode cX13_doPrint 267 = .ok (.iload_n 1, 1) := by decide +kernel
theorem dX13_doPrint_268 : decode cX13_doPrint 268 = .ok (.iconst 5, 1) := by decide +kernel
theorem dX13_doPrint_269 : decode cX13_doPrint 269 = .ok (.iadd, 1) := by decide +kernel
theorem dX13_doPrint_270 : decode cX13_doPrint 270 = .ok (.dup2, 1) := by decide +kernel
theorem dX13_doPrint_271 : decode cX13_doPrint 271 = .ok (.iaload, 1) := by decide +kernel
theorem dX13_doPrint_272 : decode cX13_doPrint 272 = .ok (.iconst 1, 1) := by decide +kernel
theorem dX13_doPrint_273 : decode cX13_doPrint 273 = .ok (.iadd, 1) := by decide +kernel
theorem dX13_doPrint_274 : decode cX13_doPrint 274 = .ok (.iastore, 1) := by decide +kernel
theorem dX13_doPrint_275 : decode cX13_doPrint 275 = .ok (.aload_n 0, 1) := by decide +kernel
theorem dX13_doPrint_276 : decode cX13_doPrint 276 = .ok (.getfield 9, 3) := by decide +kernel
theorem dX13_doPrint_279 : decode cX13_doPrint 279 = .ok (.iload_n 1, 1) := by decide +kernel
theorem dX13_doPrint_280 : decode cX13_doPrint 280 = .ok (.iconst 4, 1) := by decide +kernel
theorem dX13_doPrint_281 : decode cX13_doPrint 281 = .ok (.iadd, 1) := by decide +kernel
theorem dX13_doPrint_282 : decode cX13_doPrint 282 = .ok (.dup2, 1) := by decide +kernel
theorem dX13_doPrint_283 : decode cX13_doPrint 283 = .ok (.iaload, 1) := by decide +kernel
theorem dX13_doPrint_284 : decode cX13_doPrint 284 = .ok (.iload 4, 2) := by decide +kernel
theorem dX13_doPrint_286 : decode cX13_doPrint 286 = .ok (.iadd, 1) := by decide +kernel
theorem dX13_doPrint_287 : decode cX13_doPrint 287 = .ok (.iastore, 1) := by decide +kernel
theorem dX13_doPrint_288 : decode cX13_doPrint 288 = .ok (.iinc 2 1, 3) := by decide +kernel
theorem dX13_doPrint_291 : decode cX13_doPrint 291 = .ok (.goto (-145), 3) := by decide +kernel
theorem dX13_doPrint_294 : decode cX13_doPrint 294 = .ok (.aload_n 0, 1) := by decide +kernel
theorem dX13_doPrint_295 : decode cX13_doPrint 295 = .ok (.getfield 9, 3) := by decide +kernel
theorem dX13_doPrint_298 : decode cX13_doPrint 298 = .ok (.bipush 7, 2) := by decide +kernel
theorem dX13_doPrint_300 : decode cX13_doPrint 300 = .ok (.dup2, 1) := by decide +kernel
theorem dX13_doPrint_301 : decode cX13_doPrint 301 = .ok (.iaload, 1) := by decide +kernel
theorem dX13_doPrint_302 : decode cX13_doPrint 302 = .ok (.iconst 1, 1) := by decide +kernel
theorem dX13_doPrint_303 : decode cX13_doPrint 303 = .ok (.iadd, 1) := by decide +kernel
theorem dX13_doPrint_304 : decode cX13_doPrint 304 = .ok (.iastore, 1) := by decide +kernel
theorem dX13_doPrint_305 : decode cX13_doPrint 305 = .ok (.aload_n 0, 1) := by decide +kernel
theorem dX13_doPrint_306 : decode cX13_doPrint 306 = .ok (.getfield 9, 3) := by decide +kernel
theorem dX13_doPrint_309 : decode cX13_doPrint 309 = .ok (.bipush 8, 2) := by decide +kernel
theorem dX13_doPrint_311 : decode cX13_doPrint 311 = .ok (.dup2, 1) := by decide +kernel
theorem dX13_doPrint_312 : decode cX13_doPrint 312 = .ok (.iaload, 1) := by decide +kernel
theorem dX13_doPrint_313 : decode cX13_doPrint 313 = .ok (.iconst 1, 1) := by decide +kernel
theorem dX13_doPrint_314 : decode cX13_doPrint 314 = .ok (.iadd, 1) := by decide +kernel
theorem dX13_doPrint_315 : decode cX13_doPrint 315 = .ok (.iastore, 1) := by decide +kernel
theorem dX13_doPrint_316 : decode cX13_doPrint 316 = .ok (.aload_n 0, 1) := by decide +kernel
theorem dX13_doPrint_317 : decode cX13_doPrint 317 = .ok (.getfield 9, 3) := by decide +kernel
theorem dX13_doPrint_320 : decode cX13_doPrint 320 = .ok (.bipush 8, 2) := by decide +kernel
theorem dX13_doPrint_322 : decode cX13_doPrint 322 = .ok (.iaload, 1) := by decide +kernel
theorem dX13_doPrint_323 : decode cX13_doPrint 323 = .ok (.iconst 1, 1) := by decide +kernel
theorem dX13_doPrint_324 : decode cX13_doPrint 324 = .ok (.isub, 1) := by decide +kernel
theorem dX13_doPrint_325 : decode cX13_doPrint 325 = .ok (.ireturn, 1) := by decide +kernel
theorem dX13_print_0 : decode cX13_print 0 = .ok (.aload_n 0, 1) := by decide +kernel
theorem dX13_print_1 : decode cX13_print 1 = .ok (.invokevirtual 94, 3) := by decide +kernel
theorem dX13_print_4 : decode cX13_print 4 = .ok (.aload_n 0, 1) := by decide +kernel
theorem dX13_print_5 : decode cX13_print 5 = .ok (.aload_n 0, 1) := by decide +kernel
theorem dX13_print_6 : decode cX13_print 6 = .ok (.invokevirtual 197, 3) := by decide +kernel
theorem dX13_print_9 : decode cX13_print 9 = .ok (.invokevirtual 100, 3) := by decide +kernel
theorem dX13_print_12 : decode cX13_print 12 = .ok (.ireturn, 1) := by decide +kernel
theorem dX13_issueAt_0 : decode cX13_issueAt 0 = .ok (.iconst (-1), 1) := by decide +kernel
theorem dX13_issueAt_1 : decode cX13_issueAt 1 = .ok (.istore_n 2, 1) := by decide +kernel
theorem dX13_issueAt_2 : decode cX13_issueAt 2 = .ok (.iconst 0, 1) := by decide +kernel
theorem dX13_issueAt_3 : decode cX13_issueAt 3 = .ok (.istore_n 3, 1) := by decide +kernel
theorem dX13_issueAt_4 : decode cX13_issueAt 4 = .ok (.iload_n 3, 1) := by decide +kernel
theorem dX13_issueAt_5 : decode cX13_issueAt 5 = .ok (.aload_n 0, 1) := by decide +kernel
theorem dX13_issueAt_6 : decode cX13_issueAt 6 = .ok (.getfield 9, 3) := by decide +kernel
theorem dX13_issueAt_9 : decode cX13_issueAt 9 = .ok (.bipush 7, 2) := by decide +kernel
theorem dX13_issueAt_11 : decode cX13_issueAt 11 = .ok (.iaload, 1) := by decide +kernel
theorem dX13_issueAt_12 : decode cX13_issueAt 12 = .ok (.if_icmp .ge 25, 3) := by decide +kernel
theorem dX13_issueAt_15 : decode cX13_issueAt 15 = .ok (.aload_n 0, 1) := by decide +kernel
theorem dX13_issueAt_16 : decode cX13_issueAt 16 = .ok (.iload_n 3, 1) := by decide +kernel
theorem dX13_issueAt_17 : decode cX13_issueAt 17 = .ok (.iconst 0, 1) := by decide +kernel
theorem dX13_issueAt_18 : decode cX13_issueAt 18 = .ok (.invokevirtual 194, 3) := by decide +kernel
theorem dX13_issueAt_21 : decode cX13_issueAt 21 = .ok (.iload_n 1, 1) := by decide +kernel
theorem dX13_issueAt_22 : decode cX13_issueAt 22 = .ok (.if_icmp .ne 7, 3) := by decide +kernel
theorem dX13_issueAt_25 : decode cX13_issueAt 25 = .ok (.iload_n 3, 1) := by decide +kernel
theorem dX13_issueAt_26 : decode cX13_issueAt 26 = .ok (.goto 4, 3) := by decide +kernel
theorem dX13_issueAt_29 : decode cX13_issueAt 29 = .ok (.iload_n 2, 1) := by decide +kernel
theorem dX13_issueAt_30 : decode cX13_issueAt 30 = .ok (.istore_n 2, 1) := by decide +kernel
theorem dX13_issueAt_31 : decode cX13_issueAt 31 = .ok (.iinc 3 1, 3) := by decide +kernel
theorem dX13_issueAt_34 : decode cX13_issueAt 34 = .ok (.goto (-30), 3) := by decide +kernel
theorem dX13_issueAt_37 : decode cX13_issueAt 37 = .ok (.iload_n 2, 1) := by decide +kernel
theorem dX13_issueAt_38 : decode cX13_issueAt 38 = .ok (.ireturn, 1) := by decide +kernel
theorem dX13_issueCount_0 : decode cX13_issueCount 0 = .ok (.aload_n 0, 1) := by decide +kernel
theorem dX13_issueCount_1 : decode cX13_issueCount 1 = .ok (.iconst 0, 1) := by decide +kernel
theorem dX13_issueCount_2 : decode cX13_issueCount 2 = .ok (.putfield 55, 3) := by decide +kernel
theorem dX13_issueCount_5 : decode cX13_issueCount 5 = .ok (.aload_n 0, 1) := by decide +kernel
theorem dX13_issueCount_6 : decode cX13_issueCount 6 = .ok (.getfield 9, 3) := by decide +kernel
theorem dX13_issueCount_9 : decode cX13_issueCount 9 = .ok (.bipush 7, 2) := by decide +kernel
theorem dX13_issueCount_11 : decode cX13_issueCount 11 = .ok (.iaload, 1) := by decide +kernel
theorem dX13_issueCount_12 : decode cX13_issueCount 12 = .ok (.ireturn, 1) := by decide +kernel
theorem dX13_isKept_0 : decode cX13_isKept 0 = .ok (.aload_n 0, 1) := by decide +kernel
theorem dX13_isKept_1 : decode cX13_isKept 1 = .ok (.iconst 0, 1) := by decide +kernel
theorem dX13_isKept_2 : decode cX13_isKept 2 = .ok (.putfield 55, 3) := by decide +kernel
theorem dX13_isKept_5 : decode cX13_isKept 5 = .ok (.aload_n 0, 1) := by decide +kernel
theorem dX13_isKept_6 : decode cX13_isKept 6 = .ok (.iload_n 1, 1) := by decide +kernel
theorem dX13_isKept_7 : decode cX13_isKept 7 = .ok (.invokevirtual 200, 3) := by decide +kernel
theorem dX13_isKept_10 : decode cX13_isKept 10 = .ok (.ifCond .lt 7, 3) := by decide +kernel
theorem dX13_isKept_13 : decode cX13_isKept 13 = .ok (.iconst 1, 1) := by decide +kernel
theorem dX13_isKept_14 : decode cX13_isKept 14 = .ok (.goto 4, 3) := by decide +kernel
theorem dX13_isKept_17 : decode cX13_isKept 17 = .ok (.iconst 0, 1) := by decide +kernel
theorem dX13_isKept_18 : decode cX13_isKept 18 = .ok (.ireturn, 1) := by decide +kernel
theorem dX13_articlesIn_0 : decode cX13_articlesIn 0 = .ok (.aload_n 0, 1) := by decide +kernel
theorem dX13_articlesIn_1 : decode cX13_articlesIn 1 = .ok (.iload_n 1, 1) := by decide +kernel
theorem dX13_articlesIn_2 : decode cX13_articlesIn 2 = .ok (.invokevirtual 200, 3) := by decide +kernel
theorem dX13_articlesIn_5 : decode cX13_articlesIn 5 = .ok (.istore_n 2, 1) := by decide +kernel
theorem dX13_articlesIn_6 : decode cX13_articlesIn 6 = .ok (.aload_n 0, 1) := by decide +kernel
theorem dX13_articlesIn_7 : decode cX13_articlesIn 7 = .ok (.iload_n 2, 1) := by decide +kernel
theorem dX13_articlesIn_8 : decode cX13_articlesIn 8 = .ok (.ifCond .lt 7, 3) := by decide +kernel
theorem dX13_articlesIn_11 : decode cX13_articlesIn 11 = .ok (.iconst 1, 1) := by decide +kernel
theorem dX13_articlesIn_12 : decode cX13_articlesIn 12 = .ok (.goto 4, 3) := by decide +kernel
theorem dX13_articlesIn_15 : decode cX13_articlesIn 15 = .ok (.iconst 0, 1) := by decide +kernel
theorem dX13_articlesIn_16 : decode cX13_articlesIn 16 = .ok (.invokevirtual 126, 3) := by decide +kernel
theorem dX13_articlesIn_19 : decode cX13_articlesIn 19 = .ok (.ifCond .eq 12, 3) := by decide +kernel
theorem dX13_articlesIn_22 : decode cX13_articlesIn 22 = .ok (.aload_n 0, 1) := by decide +kernel
theorem dX13_articlesIn_23 : decode cX13_articlesIn 23 = .ok (.iload_n 2, 1) := by decide +kernel
theorem dX13_articlesIn_24 : decode cX13_articlesIn 24 = .ok (.iconst 5, 1) := by decide +kernel
theorem dX13_articlesIn_25 : decode cX13_articlesIn 25 = .ok (.invokevirtual 194, 3) := by decide +kernel
theorem dX13_articlesIn_28 : decode cX13_articlesIn 28 = .ok (.goto 4, 3) := by decide +kernel
theorem dX13_articlesIn_31 : decode cX13_articlesIn 31 = .ok (.iconst 0, 1) := by decide +kernel
theorem dX13_articlesIn_32 : decode cX13_articlesIn 32 = .ok (.ireturn, 1) := by decide +kernel
theorem dX13_linesIn_0 : decode cX13_linesIn 0 = .ok (.aload_n 0, 1) := by decide +kernel
theorem dX13_linesIn_1 : decode cX13_linesIn 1 = .ok (.iload_n 1, 1) := by decide +kernel
theorem dX13_linesIn_2 : decode cX13_linesIn 2 = .ok (.invokevirtual 200, 3) := by decide +kernel
theorem dX13_linesIn_5 : decode cX13_linesIn 5 = .ok (.istore_n 2, 1) := by decide +kernel
theorem dX13_linesIn_6 : decode cX13_linesIn 6 = .ok (.aload_n 0, 1) := by decide +kernel
theorem dX13_linesIn_7 : decode cX13_linesIn 7 = .ok (.iload_n 2, 1) := by decide +kernel
theorem dX13_linesIn_8 : decode cX13_linesIn 8 = .ok (.ifCond .lt 7, 3) := by decide +kernel
theorem dX13_linesIn_11 : decode cX13_linesIn 11 = .ok (.iconst 1, 1) := by decide +kernel
theorem dX13_linesIn_12 : decode cX13_linesIn 12 = .ok (.goto 4, 3) := by decide +kernel
theorem dX13_linesIn_15 : decode cX13_linesIn 15 = .ok (.iconst 0, 1) := by decide +kernel
theorem dX13_linesIn_16 : decode cX13_linesIn 16 = .ok (.invokevirtual 126, 3) := by decide +kernel
theorem dX13_linesIn_19 : decode cX13_linesIn 19 = .ok (.ifCond .eq 12, 3) := by decide +kernel
theorem dX13_linesIn_22 : decode cX13_linesIn 22 = .ok (.aload_n 0, 1) := by decide +kernel
theorem dX13_linesIn_23 : decode cX13_linesIn 23 = .ok (.iload_n 2, 1) := by decide +kernel
theorem dX13_linesIn_24 : decode cX13_linesIn 24 = .ok (.iconst 4, 1) := by decide +kernel
theorem dX13_linesIn_25 : decode cX13_linesIn 25 = .ok (.invokevirtual 194, 3) := by decide +kernel
theorem dX13_linesIn_28 : decode cX13_linesIn 28 = .ok (.goto 4, 3) := by decide +kernel
theorem dX13_linesIn_31 : decode cX13_linesIn 31 = .ok (.iconst 0, 1) := by decide +kernel
theorem dX13_linesIn_32 : decode cX13_linesIn 32 = .ok (.ireturn, 1) := by decide +kernel
theorem dX13_columnOf_0 : decode cX13_columnOf 0 = .ok (.aload_n 0, 1) := by decide +kernel
theorem dX13_columnOf_1 : decode cX13_columnOf 1 = .ok (.iload_n 1, 1) := by decide +kernel
theorem dX13_columnOf_2 : decode cX13_columnOf 2 = .ok (.invokevirtual 200, 3) := by decide +kernel
theorem dX13_columnOf_5 : decode cX13_columnOf 5 = .ok (.istore_n 3, 1) := by decide +kernel
theorem dX13_columnOf_6 : decode cX13_columnOf 6 = .ok (.iload_n 3, 1) := by decide +kernel
theorem dX13_columnOf_7 : decode cX13_columnOf 7 = .ok (.ifCond .ge 7, 3) := by decide +kernel
theorem dX13_columnOf_10 : decode cX13_columnOf 10 = .ok (.iconst (-1), 1) := by decide +kernel
theorem dX13_columnOf_11 : decode cX13_columnOf 11 = .ok (.goto 9, 3) := by decide +kernel
theorem dX13_columnOf_14 : decode cX13_columnOf 14 = .ok (.aload_n 0, 1) := by decide +kernel
theorem dX13_columnOf_15 : decode cX13_columnOf 15 = .ok (.iload_n 3, 1) := by decide +kernel
theorem dX13_columnOf_16 : decode cX13_columnOf 16 = .ok (.iload_n 2, 1) := by decide +kernel
theorem dX13_columnOf_17 : decode cX13_columnOf 17 = .ok (.invokevirtual 116, 3) := by decide +kernel
theorem dX13_columnOf_20 : decode cX13_columnOf 20 = .ok (.istore 4, 2) := by decide +kernel
theorem dX13_columnOf_22 : decode cX13_columnOf 22 = .ok (.aload_n 0, 1) := by decide +kernel
theorem dX13_columnOf_23 : decode cX13_columnOf 23 = .ok (.iload 4, 2) := by decide +kernel
theorem dX13_columnOf_25 : decode cX13_columnOf 25 = .ok (.ifCond .lt 7, 3) := by decide +kernel
theorem dX13_columnOf_28 : decode cX13_columnOf 28 = .ok (.iconst 1, 1) := by decide +kernel
theorem dX13_columnOf_29 : decode cX13_columnOf 29 = .ok (.goto 4, 3) := by decide +kernel
theorem dX13_columnOf_32 : decode cX13_columnOf 32 = .ok (.iconst 0, 1) := by decide +kernel
theorem dX13_columnOf_33 : decode cX13_columnOf 33 = .ok (.invokevirtual 126, 3) := by decide +kernel
theorem dX13_columnOf_36 : decode cX13_columnOf 36 = .ok (.ifCond .eq 15, 3) := by decide +kernel
theorem dX13_columnOf_39 : decode cX13_columnOf 39 = .ok (.iload 4, 2) := by decide +kernel
theorem dX13_columnOf_41 : decode cX13_columnOf 41 = .ok (.aload_n 0, 1) := by decide +kernel
theorem dX13_columnOf_42 : decode cX13_columnOf 42 = .ok (.iload_n 3, 1) := by decide +kernel
theorem dX13_columnOf_43 : decode cX13_columnOf 43 = .ok (.iconst 3, 1) := by decide +kernel
theorem dX13_columnOf_44 : decode cX13_columnOf 44 = .ok (.invokevirtual 194, 3) := by decide +kernel
theorem dX13_columnOf_47 : decode cX13_columnOf 47 = .ok (.idiv, 1) := by decide +kernel
theorem dX13_columnOf_48 : decode cX13_columnOf 48 = .ok (.goto 4, 3) := by decide +kernel
theorem dX13_columnOf_51 : decode cX13_columnOf 51 = .ok (.iconst 0, 1) := by decide +kernel
theorem dX13_columnOf_52 : decode cX13_columnOf 52 = .ok (.ireturn, 1) := by decide +kernel
theorem dX13_rowOf_0 : decode cX13_rowOf 0 = .ok (.aload_n 0, 1) := by decide +kernel
theorem dX13_rowOf_1 : decode cX13_rowOf 1 = .ok (.iload_n 1, 1) := by decide +kernel
theorem dX13_rowOf_2 : decode cX13_rowOf 2 = .ok (.invokevirtual 200, 3) := by decide +kernel
theorem dX13_rowOf_5 : decode cX13_rowOf 5 = .ok (.istore_n 3, 1) := by decide +kernel
theorem dX13_rowOf_6 : decode cX13_rowOf 6 = .ok (.iload_n 3, 1) := by decide +kernel
theorem dX13_rowOf_7 : decode cX13_rowOf 7 = .ok (.ifCond .ge 7, 3) := by decide +kernel
theorem dX13_rowOf_10 : decode cX13_rowOf 10 = .ok (.iconst (-1), 1) := by decide +kernel
theorem dX13_rowOf_11 : decode cX13_rowOf 11 = .ok (.goto 9, 3) := by decide +kernel
theorem dX13_rowOf_14 : decode cX13_rowOf 14 = .ok (.aload_n 0, 1) := by decide +kernel
theorem dX13_rowOf_15 : decode cX13_rowOf 15 = .ok (.iload_n 3, 1) := by decide +kernel
theorem dX13_rowOf_16 : decode cX13_rowOf 16 = .ok (.iload_n 2, 1) := by decide +kernel
theorem dX13_rowOf_17 : decode cX13_rowOf 17 = .ok (.invokevirtual 116, 3) := by decide +kernel
theorem dX13_rowOf_20 : decode cX13_rowOf 20 = .ok (.istore 4, 2) := by decide +kernel
theorem dX13_rowOf_22 : decode cX13_rowOf 22 = .ok (.aload_n 0, 1) := by decide +kernel
theorem dX13_rowOf_23 : decode cX13_rowOf 23 = .ok (.iload 4, 2) := by decide +kernel
theorem dX13_rowOf_25 : decode cX13_rowOf 25 = .ok (.ifCond .lt 7, 3) := by decide +kernel
theorem dX13_rowOf_28 : decode cX13_rowOf 28 = .ok (.iconst 1, 1) := by decide +kernel
theorem dX13_rowOf_29 : decode cX13_rowOf 29 = .ok (.goto 4, 3) := by decide +kernel
theorem dX13_rowOf_32 : decode cX13_rowOf 32 = .ok (.iconst 0, 1) := by decide +kernel
theorem dX13_rowOf_33 : decode cX13_rowOf 33 = .ok (.invokevirtual 126, 3) := by decide +kernel
theorem dX13_rowOf_36 : decode cX13_rowOf 36 = .ok (.ifCond .eq 15, 3) := by decide +kernel
theorem dX13_rowOf_39 : decode cX13_rowOf 39 = .ok (.iload 4, 2) := by decide +kernel
theorem dX13_rowOf_41 : decode cX13_rowOf 41 = .ok (.aload_n 0, 1) := by decide +kernel
theorem dX13_rowOf_42 : decode cX13_rowOf 42 = .ok (.iload_n 3, 1) := by decide +kernel
theorem dX13_rowOf_43 : decode cX13_rowOf 43 = .ok (.iconst 3, 1) := by decide +kernel
theorem dX13_rowOf_44 : decode cX13_rowOf 44 = .ok (.invokevirtual 194, 3) := by decide +kernel
theorem dX13_rowOf_47 : decode cX13_rowOf 47 = .ok (.irem, 1) := by decide +kernel
theorem dX13_rowOf_48 : decode cX13_rowOf 48 = .ok (.goto 4, 3) := by decide +kernel
theorem dX13_rowOf_51 : decode cX13_rowOf 51 = .ok (.iconst 0, 1) := by decide +kernel
theorem dX13_rowOf_52 : decode cX13_rowOf 52 = .ok (.ireturn, 1) := by decide +kernel
theorem dX13_coverage_0 : decode cX13_coverage 0 = .ok (.aload_n 0, 1) := by decide +kernel
theorem dX13_coverage_1 : decode cX13_coverage 1 = .ok (.iload_n 1, 1) := by decide +kernel
theorem dX13_coverage_2 : decode cX13_coverage 2 = .ok (.invokevirtual 200, 3) := by decide +kernel
theorem dX13_coverage_5 : decode cX13_coverage 5 = .ok (.istore_n 2, 1) := by decide +kernel
theorem dX13_coverage_6 : decode cX13_coverage 6 = .ok (.aload_n 0, 1) := by decide +kernel
theorem dX13_coverage_7 : decode cX13_coverage 7 = .ok (.iload_n 2, 1) := by decide +kernel
theorem dX13_coverage_8 : decode cX13_coverage 8 = .ok (.ifCond .lt 7, 3) := by decide +kernel
theorem dX13_coverage_11 : decode cX13_coverage 11 = .ok (.iconst 1, 1) := by decide +kernel
theorem dX13_coverage_12 : decode cX13_coverage 12 = .ok (.goto 4, 3) := by decide +kernel
theorem dX13_coverage_15 : decode cX13_coverage 15 = .ok (.iconst 0, 1) := by decide +kernel
theorem dX13_coverage_16 : decode cX13_coverage 16 = .ok (.invokevirtual 126, 3) := by decide +kernel
theorem dX13_coverage_19 : decode cX13_coverage 19 = .ok (.ifCond .ne 5, 3) := by decide +kernel
theorem dX13_coverage_22 : decode cX13_coverage 22 = .ok (.fconst 0, 1) := by decide +kernel
theorem dX13_coverage_23 : decode cX13_coverage 23 = .ok (.freturn, 1) := by decide +kernel
theorem dX13_coverage_24 : decode cX13_coverage 24 = .ok (.aload_n 0, 1) := by decide +kernel
theorem dX13_coverage_25 : decode cX13_coverage 25 = .ok (.iload_n 2, 1) := by decide +kernel
theorem dX13_coverage_26 : decode cX13_coverage 26 = .ok (.iconst 4, 1) := by decide +kernel
theorem dX13_coverage_27 : decode cX13_coverage 27 = .ok (.invokevirtual 194, 3) := by decide +kernel
theorem dX13_coverage_30 : decode cX13_coverage 30 = .ok (.i2f, 1) := by decide +kernel
theorem dX13_coverage_31 : decode cX13_coverage 31 = .ok (.aload_n 0, 1) := by decide +kernel
theorem dX13_coverage_32 : decode cX13_coverage 32 = .ok (.iload_n 2, 1) := by decide +kernel
theorem dX13_coverage_33 : decode cX13_coverage 33 = .ok (.iconst 2, 1) := by decide +kernel
theorem dX13_coverage_34 : decode cX13_coverage 34 = .ok (.invokevirtual 194, 3) := by decide +kernel
theorem dX13_coverage_37 : decode cX13_coverage 37 = .ok (.aload_n 0, 1) := by decide +kernel
theorem dX13_coverage_38 : decode cX13_coverage 38 = .ok (.iload_n 2, 1) := by decide +kernel
theorem dX13_coverage_39 : decode cX13_coverage 39 = .ok (.iconst 3, 1) := by decide +kernel
theorem dX13_coverage_40 : decode cX13_coverage 40 = .ok (.invokevirtual 194, 3) := by decide +kernel
theorem dX13_coverage_43 : decode cX13_coverage 43 = .ok (.imul, 1) := by decide +kernel
theorem dX13_coverage_44 : decode cX13_coverage 44 = .ok (.i2f, 1) := by decide +kernel
theorem dX13_coverage_45 : decode cX13_coverage 45 = .ok (.fdiv, 1) := by decide +kernel
theorem dX13_coverage_46 : decode cX13_coverage 46 = .ok (.freturn, 1) := by decide +kernel
theorem dX13_age_0 : decode cX13_age 0 = .ok (.aload_n 0, 1) := by decide +kernel
theorem dX13_age_1 : decode cX13_age 1 = .ok (.getfield 9, 3) := by decide +kernel
theorem dX13_age_4 : decode cX13_age 4 = .ok (.iconst 5, 1) := by decide +kernel
theorem dX13_age_5 : decode cX13_age 5 = .ok (.iaload, 1) := by decide +kernel
theorem dX13_age_6 : decode cX13_age 6 = .ok (.aload_n 0, 1) := by decide +kernel
theorem dX13_age_7 : decode cX13_age 7 = .ok (.iload_n 1, 1) := by decide +kernel
theorem dX13_age_8 : decode cX13_age 8 = .ok (.iconst 1, 1) := by decide +kernel
theorem dX13_age_9 : decode cX13_age 9 = .ok (.invokevirtual 194, 3) := by decide +kernel
theorem dX13_age_12 : decode cX13_age 12 = .ok (.isub, 1) := by decide +kernel
theorem dX13_age_13 : decode cX13_age 13 = .ok (.ireturn, 1) := by decide +kernel
theorem dX13_doPassDays_0 : decode cX13_doPassDays 0 = .ok (.iload_n 1, 1) := by decide +kernel
theorem dX13_doPassDays_1 : decode cX13_doPassDays 1 = .ok (.iconst 1, 1) := by decide +kernel
theorem dX13_doPassDays_2 : decode cX13_doPassDays 2 = .ok (.bipush 30, 2) := by decide +kernel
theorem dX13_doPassDays_4 : decode cX13_doPassDays 4 = .ok (.invokestatic 71, 3) := by decide +kernel
theorem dX13_doPassDays_7 : decode cX13_doPassDays 7 = .ok (.ifCond .ne 9, 3) := by decide +kernel
theorem dX13_doPassDays_10 : decode cX13_doPassDays 10 = .ok (.aload_n 0, 1) := by decide +kernel
theorem dX13_doPassDays_11 : decode cX13_doPassDays 11 = .ok (.iconst 1, 1) := by decide +kernel
theorem dX13_doPassDays_12 : decode cX13_doPassDays 12 = .ok (.invokevirtual 82, 3) := by decide +kernel
theorem dX13_doPassDays_15 : decode cX13_doPassDays 15 = .ok (.ireturn, 1) := by decide +kernel
theorem dX13_doPassDays_16 : decode cX13_doPassDays 16 = .ok (.iconst 0, 1) := by decide +kernel
theorem dX13_doPassDays_17 : decode cX13_doPassDays 17 = .ok (.istore_n 2, 1) := by decide +kernel
theorem dX13_doPassDays_18 : decode cX13_doPassDays 18 = .ok (.iconst 0, 1) := by decide +kernel
theorem dX13_doPassDays_19 : decode cX13_doPassDays 19 = .ok (.istore_n 3, 1) := by decide +kernel
theorem dX13_doPassDays_20 : decode cX13_doPassDays 20 = .ok (.iload_n 3, 1) := by decide +kernel
theorem dX13_doPassDays_21 : decode cX13_doPassDays 21 = .ok (.aload_n 0, 1) := by decide +kernel
theorem dX13_doPassDays_22 : decode cX13_doPassDays 22 = .ok (.getfield 9, 3) := by decide +kernel
theorem dX13_doPassDays_25 : decode cX13_doPassDays 25 = .ok (.bipush 7, 2) := by decide +kernel
theorem dX13_doPassDays_27 : decode cX13_doPassDays 27 = .ok (.iaload, 1) := by decide +kernel
theorem dX13_doPassDays_28 : decode cX13_doPassDays 28 = .ok (.if_icmp .ge 37, 3) := by decide +kernel
theorem dX13_doPassDays_31 : decode cX13_doPassDays 31 = .ok (.iload_n 2, 1) := by decide +kernel
theorem dX13_doPassDays_32 : decode cX13_doPassDays 32 = .ok (.aload_n 0, 1) := by decide +kernel
theorem dX13_doPassDays_33 : decode cX13_doPassDays 33 = .ok (.iload_n 3, 1) := by decide +kernel
theorem dX13_doPassDays_34 : decode cX13_doPassDays 34 = .ok (.invokevirtual 203, 3) := by decide +kernel
theorem dX13_doPassDays_37 : decode cX13_doPassDays 37 = .ok (.iconst 5, 1) := by decide +kernel
theorem dX13_doPassDays_38 : decode cX13_doPassDays 38 = .ok (.if_icmp .ge 18, 3) := by decide +kernel
theorem dX13_doPassDays_41 : decode cX13_doPassDays 41 = .ok (.aload_n 0, 1) := by decide +kernel
theorem dX13_doPassDays_42 : decode cX13_doPassDays 42 = .ok (.iload_n 3, 1) := by decide +kernel
theorem dX13_doPassDays_43 : decode cX13_doPassDays 43 = .ok (.invokevirtual 203, 3) := by decide +kernel
theorem dX13_doPassDays_46 : decode cX13_doPassDays 46 = .ok (.iload_n 1, 1) := by decide +kernel
theorem dX13_doPassDays_47 : decode cX13_doPassDays 47 = .ok (.iadd, 1) := by decide +kernel
theorem dX13_doPassDays_48 : decode cX13_doPassDays 48 = .ok (.iconst 5, 1) := by decide +kernel
theorem dX13_doPassDays_49 : decode cX13_doPassDays 49 = .ok (.if_icmp .lt 7, 3) := by decide +kernel
theorem dX13_doPassDays_52 : decode cX13_doPassDays 52 = .ok (.iconst 1, 1) := by decide +kernel
theorem dX13_doPassDays_53 : decode cX13_doPassDays 53 = .ok (.goto 4, 3) := by decide +kernel
theorem dX13_doPassDays_56 : decode cX13_doPassDays 56 = .ok (.iconst 0, 1) := by decide +kernel
theorem dX13_doPassDays_57 : decode cX13_doPassDays 57 = .ok (.iadd, 1) := by decide +kernel
theorem dX13_doPassDays_58 : decode cX13_doPassDays 58 = .ok (.istore_n 2, 1) := by decide +kernel
theorem dX13_doPassDays_59 : decode cX13_doPassDays 59 = .ok (.iinc 3 1, 3) := by decide +kernel
theorem dX13_doPassDays_62 : decode cX13_doPassDays 62 = .ok (.goto (-42), 3) := by decide +kernel
theorem dX13_doPassDays_65 : decode cX13_doPassDays 65 = .ok (.aload_n 0, 1) := by decide +kernel
theorem dX13_doPassDays_66 : decode cX13_doPassDays 66 = .ok (.getfield 9, 3) := by decide +kernel
theorem dX13_doPassDays_69 : decode cX13_doPassDays 69 = .ok (.iconst 5, 1) := by decide +kernel
theorem dX13_doPassDays_70 : decode cX13_doPassDays 70 = .ok (.dup2, 1) := by decide +kernel
theorem dX13_doPassDays_71 : decode cX13_doPassDays 71 = .ok (.iaload, 1) := by decide +kernel
theorem dX13_doPassDays_72 : decode cX13_doPassDays 72 = .ok (.iload_n 1, 1) := by decide +kernel
theorem dX13_doPassDays_73 : decode cX13_doPassDays 73 = .ok (.iadd, 1) := by decide +kernel
theorem dX13_doPassDays_74 : decode cX13_doPassDays 74 = .ok (.iastore, 1) := by decide +kernel
theorem dX13_doPassDays_75 : decode cX13_doPassDays 75 = .ok (.iload_n 2, 1) := by decide +kernel
theorem dX13_doPassDays_76 : decode cX13_doPassDays 76 = .ok (.ireturn, 1) := by decide +kernel
theorem dX13_passDays_0 : decode cX13_passDays 0 = .ok (.aload_n 0, 1) := by decide +kernel
theorem dX13_passDays_1 : decode cX13_passDays 1 = .ok (.invokevirtual 94, 3) := by decide +kernel
theorem dX13_passDays_4 : decode cX13_passDays 4 = .ok (.aload_n 0, 1) := by decide +kernel
theorem dX13_passDays_5 : decode cX13_passDays 5 = .ok (.aload_n 0, 1) := by decide +kernel
theorem dX13_passDays_6 : decode cX13_passDays 6 = .ok (.iload_n 1, 1) := by decide +kernel
theorem dX13_passDays_7 : decode cX13_passDays 7 = .ok (.invokevirtual 206, 3) := by decide +kernel
theorem dX13_passDays_10 : decode cX13_passDays 10 = .ok (.invokevirtual 100, 3) := by decide +kernel
theorem dX13_passDays_13 : decode cX13_passDays 13 = .ok (.ireturn, 1) := by decide +kernel
theorem dX13_day_0 : decode cX13_day 0 = .ok (.aload_n 0, 1) := by decide +kernel
theorem dX13_day_1 : decode cX13_day 1 = .ok (.iconst 0, 1) := by decide +kernel
theorem dX13_day_2 : decode cX13_day 2 = .ok (.putfield 55, 3) := by decide +kernel
theorem dX13_day_5 : decode cX13_day 5 = .ok (.aload_n 0, 1) := by decide +kernel
theorem dX13_day_6 : decode cX13_day 6 = .ok (.getfield 9, 3) := by decide +kernel
theorem dX13_day_9 : decode cX13_day 9 = .ok (.iconst 5, 1) := by decide +kernel
theorem dX13_day_10 : decode cX13_day 10 = .ok (.iaload, 1) := by decide +kernel
theorem dX13_day_11 : decode cX13_day 11 = .ok (.ireturn, 1) := by decide +kernel
theorem dX13_fresh_0 : decode cX13_fresh 0 = .ok (.fconst 1, 1) := by decide +kernel
theorem dX13_fresh_1 : decode cX13_fresh 1 = .ok (.fstore_n 2, 1) := by decide +kernel
theorem dX13_fresh_2 : decode cX13_fresh 2 = .ok (.iconst 0, 1) := by decide +kernel
theorem dX13_fresh_3 : decode cX13_fresh 3 = .ok (.istore_n 3, 1) := by decide +kernel
theorem dX13_fresh_4 : decode cX13_fresh 4 = .ok (.iload_n 3, 1) := by decide +kernel
theorem dX13_fresh_5 : decode cX13_fresh 5 = .ok (.aload_n 0, 1) := by decide +kernel
theorem dX13_fresh_6 : decode cX13_fresh 6 = .ok (.iload_n 1, 1) := by decide +kernel
theorem dX13_fresh_7 : decode cX13_fresh 7 = .ok (.invokevirtual 203, 3) := by decide +kernel
theorem dX13_fresh_10 : decode cX13_fresh 10 = .ok (.if_icmp .ge 14, 3) := by decide +kernel
theorem dX13_fresh_13 : decode cX13_fresh 13 = .ok (.fload_n 2, 1) := by decide +kernel
theorem dX13_fresh_14 : decode cX13_fresh 14 = .ok (.ldc 209, 2) := by decide +kernel
theorem dX13_fresh_16 : decode cX13_fresh 16 = .ok (.fmul, 1) := by decide +kernel
theorem dX13_fresh_17 : decode cX13_fresh 17 = .ok (.fstore_n 2, 1) := by decide +kernel
theorem dX13_fresh_18 : decode cX13_fresh 18 = .ok (.iinc 3 1, 3) := by decide +kernel
theorem dX13_fresh_21 : decode cX13_fresh 21 = .ok (.goto (-17), 3) := by decide +kernel
theorem dX13_fresh_24 : decode cX13_fresh 24 = .ok (.fload_n 2, 1) := by decide +kernel
theorem dX13_fresh_25 : decode cX13_fresh 25 = .ok (.freturn, 1) := by decide +kernel
theorem dX13_freshness_0 : decode cX13_freshness 0 = .ok (.aload_n 0, 1) := by decide +kernel
theorem dX13_freshness_1 : decode cX13_freshness 1 = .ok (.iload_n 1, 1) := by decide +kernel
theorem dX13_freshness_2 : decode cX13_freshness 2 = .ok (.invokevirtual 200, 3) := by decide +kernel
theorem dX13_freshness_5 : decode cX13_freshness 5 = .ok (.istore_n 2, 1) := by decide +kernel
theorem dX13_freshness_6 : decode cX13_freshness 6 = .ok (.aload_n 0, 1) := by decide +kernel
theorem dX13_freshness_7 : decode cX13_freshness 7 = .ok (.iload_n 2, 1) := by decide +kernel
theorem dX13_freshness_8 : decode cX13_freshness 8 = .ok (.ifCond .lt 7, 3) := by decide +kernel
theorem dX13_freshness_11 : decode cX13_freshness 11 = .ok (.iconst 1, 1) := by decide +kernel
theorem dX13_freshness_12 : decode cX13_freshness 12 = .ok (.goto 4, 3) := by decide +kernel
theorem dX13_freshness_15 : decode cX13_freshness 15 = .ok (.iconst 0, 1) := by decide +kernel
theorem dX13_freshness_16 : decode cX13_freshness 16 = .ok (.invokevirtual 126, 3) := by decide +kernel
theorem dX13_freshness_19 : decode cX13_freshness 19 = .ok (.ifCond .eq 11, 3) := by decide +kernel
theorem dX13_freshness_22 : decode cX13_freshness 22 = .ok (.aload_n 0, 1) := by decide +kernel
theorem dX13_freshness_23 : decode cX13_freshness 23 = .ok (.iload_n 2, 1) := by decide +kernel
theorem dX13_freshness_24 : decode cX13_freshness 24 = .ok (.invokevirtual 210, 3) := by decide +kernel
theorem dX13_freshness_27 : decode cX13_freshness 27 = .ok (.goto 4, 3) := by decide +kernel
theorem dX13_freshness_30 : decode cX13_freshness 30 = .ok (.fconst 0, 1) := by decide +kernel
theorem dX13_freshness_31 : decode cX13_freshness 31 = .ok (.freturn, 1) := by decide +kernel
theorem dX13_freshnessBits_0 : decode cX13_freshnessBits 0 = .ok (.aload_n 0, 1) := by decide +kernel
theorem dX13_freshnessBits_1 : decode cX13_freshnessBits 1 = .ok (.iload_n 1, 1) := by decide +kernel
theorem dX13_freshnessBits_2 : decode cX13_freshnessBits 2 = .ok (.invokevirtual 214, 3) := by decide +kernel
theorem dX13_freshnessBits_5 : decode cX13_freshnessBits 5 = .ok (.fstore_n 2, 1) := by decide +kernel
theorem dX13_freshnessBits_6 : decode cX13_freshnessBits 6 = .ok (.aload_n 0, 1) := by decide +kernel
theorem dX13_freshnessBits_7 : decode cX13_freshnessBits 7 = .ok (.getfield 55, 3) := by decide +kernel
theorem dX13_freshnessBits_10 : decode cX13_freshnessBits 10 = .ok (.ifCond .le 7, 3) := by decide +kernel
theorem dX13_freshnessBits_13 : decode cX13_freshnessBits 13 = .ok (.iconst 0, 1) := by decide +kernel
theorem dX13_freshnessBits_14 : decode cX13_freshnessBits 14 = .ok (.goto 7, 3) := by decide +kernel
theorem dX13_freshnessBits_17 : decode cX13_freshnessBits 17 = .ok (.fload_n 2, 1) := by decide +kernel
theorem dX13_freshnessBits_18 : decode cX13_freshnessBits 18 = .ok (.invokestatic 217, 3) := by decide +kernel
theorem dX13_freshnessBits_21 : decode cX13_freshnessBits 21 = .ok (.ireturn, 1) := by decide +kernel
theorem dX13_isReadable_0 : decode cX13_isReadable 0 = .ok (.aload_n 0, 1) := by decide +kernel
theorem dX13_isReadable_1 : decode cX13_isReadable 1 = .ok (.iload_n 1, 1) := by decide +kernel
theorem dX13_isReadable_2 : decode cX13_isReadable 2 = .ok (.invokevirtual 200, 3) := by decide +kernel
theorem dX13_isReadable_5 : decode cX13_isReadable 5 = .ok (.istore_n 2, 1) := by decide +kernel
theorem dX13_isReadable_6 : decode cX13_isReadable 6 = .ok (.aload_n 0, 1) := by decide +kernel
theorem dX13_isReadable_7 : decode cX13_isReadable 7 = .ok (.iload_n 2, 1) := by decide +kernel
theorem dX13_isReadable_8 : decode cX13_isReadable 8 = .ok (.ifCond .lt 7, 3) := by decide +kernel
theorem dX13_isReadable_11 : decode cX13_isReadable 11 = .ok (.iconst 1, 1) := by decide +kernel
theorem dX13_isReadable_12 : decode cX13_isReadable 12 = .ok (.goto 4, 3) := by decide +kernel
theorem dX13_isReadable_15 : decode cX13_isReadable 15 = .ok (.iconst 0, 1) := by decide +kernel
theorem dX13_isReadable_16 : decode cX13_isReadable 16 = .ok (.invokevirtual 126, 3) := by decide +kernel
theorem dX13_isReadable_19 : decode cX13_isReadable 19 = .ok (.ifCond .eq 16, 3) := by decide +kernel
theorem dX13_isReadable_22 : decode cX13_isReadable 22 = .ok (.aload_n 0, 1) := by decide +kernel
theorem dX13_isReadable_23 : decode cX13_isReadable 23 = .ok (.iload_n 2, 1) := by decide +kernel
theorem dX13_isReadable_24 : decode cX13_isReadable 24 = .ok (.invokevirtual 203, 3) := by decide +kernel
theorem dX13_isReadable_27 : decode cX13_isReadable 27 = .ok (.iconst 5, 1) := by decide +kernel
theorem dX13_isReadable_28 : decode cX13_isReadable 28 = .ok (.if_icmp .ge 7, 3) := by decide +kernel
theorem dX13_isReadable_31 : decode cX13_isReadable 31 = .ok (.iconst 1, 1) := by decide +kernel
theorem dX13_isReadable_32 : decode cX13_isReadable 32 = .ok (.goto 4, 3) := by decide +kernel
theorem dX13_isReadable_35 : decode cX13_isReadable 35 = .ok (.iconst 0, 1) := by decide +kernel
theorem dX13_isReadable_36 : decode cX13_isReadable 36 = .ok (.ireturn, 1) := by decide +kernel
theorem dX13_daysUntilUnreadable_0 : decode cX13_daysUntilUnreadable 0 = .ok (.aload_n 0, 1) := by decide +kernel
theorem dX13_daysUntilUnreadable_1 : decode cX13_daysUntilUnreadable 1 = .ok (.iload_n 1, 1) := by decide +kernel
theorem dX13_daysUntilUnreadable_2 : decode cX13_daysUntilUnreadable 2 = .ok (.invokevirtual 200, 3) := by decide +kernel
theorem dX13_daysUntilUnreadable_5 : decode cX13_daysUntilUnreadable 5 = .ok (.istore_n 2, 1) := by decide +kernel
theorem dX13_daysUntilUnreadable_6 : decode cX13_daysUntilUnreadable 6 = .ok (.aload_n 0, 1) := by decide +kernel
theorem dX13_daysUntilUnreadable_7 : decode cX13_daysUntilUnreadable 7 = .ok (.iload_n 2, 1) := by decide +kernel
theorem dX13_daysUntilUnreadable_8 : decode cX13_daysUntilUnreadable 8 = .ok (.ifCond .lt 7, 3) := by decide +kernel
theorem dX13_daysUntilUnreadable_11 : decode cX13_daysUntilUnreadable 11 = .ok (.iconst 1, 1) := by decide +kernel
theorem dX13_daysUntilUnreadable_12 : decode cX13_daysUntilUnreadable 12 = .ok (.goto 4, 3) := by decide +kernel
theorem dX13_daysUntilUnreadable_15 : decode cX13_daysUntilUnreadable 15 = .ok (.iconst 0, 1) := by decide +kernel
theorem dX13_daysUntilUnreadable_16 : decode cX13_daysUntilUnreadable 16 = .ok (.invokevirtual 126, 3) := by decide +kernel
theorem dX13_daysUntilUnreadable_19 : decode cX13_daysUntilUnreadable 19 = .ok (.ifCond .eq 17, 3) := by decide +kernel
theorem dX13_daysUntilUnreadable_22 : decode cX13_daysUntilUnreadable 22 = .ok (.iconst 0, 1) := by decide +kernel
theorem dX13_daysUntilUnreadable_23 : decode cX13_daysUntilUnreadable 23 = .ok (.iconst 5, 1) := by decide +kernel
theorem dX13_daysUntilUnreadable_24 : decode cX13_daysUntilUnreadable 24 = .ok (.aload_n 0, 1) := by decide +kernel
theorem dX13_daysUntilUnreadable_25 : decode cX13_daysUntilUnreadable 25 = .ok (.iload_n 2, 1) := by decide +kernel
theorem dX13_daysUntilUnreadable_26 : decode cX13_daysUntilUnreadable 26 = .ok (.invokevirtual 203, 3) := by decide +kernel
theorem dX13_daysUntilUnreadable_29 : decode cX13_daysUntilUnreadable 29 = .ok (.isub, 1) := by decide +kernel
theorem dX13_daysUntilUnreadable_30 : decode cX13_daysUntilUnreadable 30 = .ok (.invokestatic 174, 3) := by decide +kernel
theorem dX13_daysUntilUnreadable_33 : decode cX13_daysUntilUnreadable 33 = .ok (.goto 4, 3) := by decide +kernel
theorem dX13_daysUntilUnreadable_36 : decode cX13_daysUntilUnreadable 36 = .ok (.iconst 0, 1) := by decide +kernel
theorem dX13_daysUntilUnreadable_37 : decode cX13_daysUntilUnreadable 37 = .ok (.ireturn, 1) := by decide +kernel
theorem dX13_meanWordLength_0 : decode cX13_meanWordLength 0 = .ok (.iconst 0, 1) := by decide +kernel
theorem dX13_meanWordLength_1 : decode cX13_meanWordLength 1 = .ok (.istore_n 1, 1) := by decide +kernel
theorem dX13_meanWordLength_2 : decode cX13_meanWordLength 2 = .ok (.iconst 0, 1) := by decide +kernel
theorem dX13_meanWordLength_3 : decode cX13_meanWordLength 3 = .ok (.istore_n 2, 1) := by decide +kernel
theorem dX13_meanWordLength_4 : decode cX13_meanWordLength 4 = .ok (.iconst 0, 1) := by decide +kernel
theorem dX13_meanWordLength_5 : decode cX13_meanWordLength 5 = .ok (.istore_n 3, 1) := by decide +kernel
theorem dX13_meanWordLength_6 : decode cX13_meanWordLength 6 = .ok (.iload_n 3, 1) := by decide +kernel
theorem dX13_meanWordLength_7 : decode cX13_meanWordLength 7 = .ok (.aload_n 0, 1) := by decide +kernel
theorem dX13_meanWordLength_8 : decode cX13_meanWordLength 8 = .ok (.getfield 9, 3) := by decide +kernel
theorem dX13_meanWordLength_11 : decode cX13_meanWordLength 11 = .ok (.iconst 0, 1) := by decide +kernel
theorem dX13_meanWordLength_12 : decode cX13_meanWordLength 12 = .ok (.iaload, 1) := by decide +kernel
theorem dX13_meanWordLength_13 : decode cX13_meanWordLength 13 = .ok (.if_icmp .ge 48, 3) := by decide +kernel
theorem dX13_meanWordLength_16 : decode cX13_meanWordLength 16 = .ok (.iload_n 1, 1) := by decide +kernel
theorem dX13_meanWordLength_17 : decode cX13_meanWordLength 17 = .ok (.aload_n 0, 1) := by decide +kernel
theorem dX13_meanWordLength_18 : decode cX13_meanWordLength 18 = .ok (.iload_n 3, 1) := by decide +kernel
theorem dX13_meanWordLength_19 : decode cX13_meanWordLength 19 = .ok (.iconst 2, 1) := by decide +kernel
theorem dX13_meanWordLength_20 : decode cX13_meanWordLength 20 = .ok (.invokevirtual 67, 3) := by decide +kernel
theorem dX13_meanWordLength_23 : decode cX13_meanWordLength 23 = .ok (.iadd, 1) := by decide +kernel
theorem dX13_meanWordLength_24 : decode cX13_meanWordLength 24 = .ok (.istore_n 1, 1) := by decide +kernel
theorem dX13_meanWordLength_25 : decode cX13_meanWordLength 25 = .ok (.iconst 0, 1) := by decide +kernel
theorem dX13_meanWordLength_26 : decode cX13_meanWordLength 26 = .ok (.istore 4, 2) := by decide +kernel
theorem dX13_meanWordLength_28 : decode cX13_meanWordLength 28 = .ok (.iload 4, 2) := by decide +kernel
theorem dX13_meanWordLength_30 : decode cX13_meanWordLength 30 = .ok (.aload_n 0, 1) := by decide +kernel
theorem dX13_meanWordLength_31 : decode cX13_meanWordLength 31 = .ok (.iload_n 3, 1) := by decide +kernel
theorem dX13_meanWordLength_32 : decode cX13_meanWordLength 32 = .ok (.iconst 2, 1) := by decide +kernel
theorem dX13_meanWordLength_33 : decode cX13_meanWordLength 33 = .ok (.invokevirtual 67, 3) := by decide +kernel
theorem dX13_meanWordLength_36 : decode cX13_meanWordLength 36 = .ok (.if_icmp .ge 19, 3) := by decide +kernel
theorem dX13_meanWordLength_39 : decode cX13_meanWordLength 39 = .ok (.iload_n 2, 1) := by decide +kernel
theorem dX13_meanWordLength_40 : decode cX13_meanWordLength 40 = .ok (.aload_n 0, 1) := by decide +kernel
theorem dX13_meanWordLength_41 : decode cX13_meanWordLength 41 = .ok (.iload_n 3, 1) := by decide +kernel
theorem dX13_meanWordLength_42 : decode cX13_meanWordLength 42 = .ok (.iload 4, 2) := by decide +kernel
theorem dX13_meanWordLength_44 : decode cX13_meanWordLength 44 = .ok (.invokevirtual 113, 3) := by decide +kernel
theorem dX13_meanWordLength_47 : decode cX13_meanWordLength 47 = .ok (.iadd, 1) := by decide +kernel
theorem dX13_meanWordLength_48 : decode cX13_meanWordLength 48 = .ok (.istore_n 2, 1) := by decide +kernel
theorem dX13_meanWordLength_49 : decode cX13_meanWordLength 49 = .ok (.iinc 4 1, 3) := by decide +kernel
theorem dX13_meanWordLength_52 : decode cX13_meanWordLength 52 = .ok (.goto (-24), 3) := by decide +kernel
theorem dX13_meanWordLength_55 : decode cX13_meanWordLength 55 = .ok (.iinc 3 1, 3) := by decide +kernel
theorem dX13_meanWordLength_58 : decode cX13_meanWordLength 58 = .ok (.goto (-52), 3) := by decide +kernel
theorem dX13_meanWordLength_61 : decode cX13_meanWordLength 61 = .ok (.aload_n 0, 1) := by decide +kernel
theorem dX13_meanWordLength_62 : decode cX13_meanWordLength 62 = .ok (.iload_n 1, 1) := by decide +kernel
theorem dX13_meanWordLength_63 : decode cX13_meanWordLength 63 = .ok (.ifCond .le 7, 3) := by decide +kernel
theorem dX13_meanWordLength_66 : decode cX13_meanWordLength 66 = .ok (.iconst 1, 1) := by decide +kernel
theorem dX13_meanWordLength_67 : decode cX13_meanWordLength 67 = .ok (.goto 4, 3) := by decide +kernel
theorem dX13_meanWordLength_70 : decode cX13_meanWordLength 70 = .ok (.iconst 0, 1) := by decide +kernel
theorem dX13_meanWordLength_71 : decode cX13_meanWordLength 71 = .ok (.invokevirtual 126, 3) := by decide +kernel
theorem dX13_meanWordLength_74 : decode cX13_meanWordLength 74 = .ok (.ifCond .eq 11, 3) := by decide +kernel
theorem dX13_meanWordLength_77 : decode cX13_meanWordLength 77 = .ok (.iload_n 2, 1) := by decide +kernel
theorem dX13_meanWordLength_78 : decode cX13_meanWordLength 78 = .ok (.i2d, 1) := by decide +kernel
theorem dX13_meanWordLength_79 : decode cX13_meanWordLength 79 = .ok (.iload_n 1, 1) := by decide +kernel
theorem dX13_meanWordLength_80 : decode cX13_meanWordLength 80 = .ok (.i2d, 1) := by decide +kernel
theorem dX13_meanWordLength_81 : decode cX13_meanWordLength 81 = .ok (.ddiv, 1) := by decide +kernel
theorem dX13_meanWordLength_82 : decode cX13_meanWordLength 82 = .ok (.goto 4, 3) := by decide +kernel
theorem dX13_meanWordLength_85 : decode cX13_meanWordLength 85 = .ok (.dconst 0, 1) := by decide +kernel
theorem dX13_meanWordLength_86 : decode cX13_meanWordLength 86 = .ok (.dreturn, 1) := by decide +kernel
theorem dX13_meanFreshness_0 : decode cX13_meanFreshness 0 = .ok (.fconst 0, 1) := by decide +kernel
theorem dX13_meanFreshness_1 : decode cX13_meanFreshness 1 = .ok (.fstore_n 1, 1) := by decide +kernel
theorem dX13_meanFreshness_2 : decode cX13_meanFreshness 2 = .ok (.iconst 0, 1) := by decide +kernel
theorem dX13_meanFreshness_3 : decode cX13_meanFreshness 3 = .ok (.istore_n 2, 1) := by decide +kernel
theorem dX13_meanFreshness_4 : decode cX13_meanFreshness 4 = .ok (.iload_n 2, 1) := by decide +kernel
theorem dX13_meanFreshness_5 : decode cX13_meanFreshness 5 = .ok (.aload_n 0, 1) := by decide +kernel
theorem dX13_meanFreshness_6 : decode cX13_meanFreshness 6 = .ok (.getfield 9, 3) := by decide +kernel
theorem dX13_meanFreshness_9 : decode cX13_meanFreshness 9 = .ok (.bipush 7, 2) := by decide +kernel
theorem dX13_meanFreshness_11 : decode cX13_meanFreshness 11 = .ok (.iaload, 1) := by decide +kernel
theorem dX13_meanFreshness_12 : decode cX13_meanFreshness 12 = .ok (.if_icmp .ge 17, 3) := by decide +kernel
theorem dX13_meanFreshness_15 : decode cX13_meanFreshness 15 = .ok (.fload_n 1, 1) := by decide +kernel
theorem dX13_meanFreshness_16 : decode cX13_meanFreshness 16 = .ok (.aload_n 0, 1) := by decide +kernel
theorem dX13_meanFreshness_17 : decode cX13_meanFreshness 17 = .ok (.iload_n 2, 1) := by decide +kernel
theorem dX13_meanFreshness_18 : decode cX13_meanFreshness 18 = .ok (.invokevirtual 210, 3) := by decide +kernel
theorem dX13_meanFreshness_21 : decode cX13_meanFreshness 21 = .ok (.fadd, 1) := by decide +kernel
theorem dX13_meanFreshness_22 : decode cX13_meanFreshness 22 = .ok (.fstore_n 1, 1) := by decide +kernel
theorem dX13_meanFreshness_23 : decode cX13_meanFreshness 23 = .ok (.iinc 2 1, 3) := by decide +kernel
theorem dX13_meanFreshness_26 : decode cX13_meanFreshness 26 = .ok (.goto (-22), 3) := by decide +kernel
theorem dX13_meanFreshness_29 : decode cX13_meanFreshness 29 = .ok (.aload_n 0, 1) := by decide +kernel
theorem dX13_meanFreshness_30 : decode cX13_meanFreshness 30 = .ok (.aload_n 0, 1) := by decide +kernel
theorem dX13_meanFreshness_31 : decode cX13_meanFreshness 31 = .ok (.getfield 9, 3) := by decide +kernel
theorem dX13_meanFreshness_34 : decode cX13_meanFreshness 34 = .ok (.bipush 7, 2) := by decide +kernel
theorem dX13_meanFreshness_36 : decode cX13_meanFreshness 36 = .ok (.iaload, 1) := by decide +kernel
theorem dX13_meanFreshness_37 : decode cX13_meanFreshness 37 = .ok (.ifCond .le 7, 3) := by decide +kernel
theorem dX13_meanFreshness_40 : decode cX13_meanFreshness 40 = .ok (.iconst 1, 1) := by decide +kernel
theorem dX13_meanFreshness_41 : decode cX13_meanFreshness 41 = .ok (.goto 4, 3) := by decide +kernel
theorem dX13_meanFreshness_44 : decode cX13_meanFreshness 44 = .ok (.iconst 0, 1) := by decide +kernel
theorem dX13_meanFreshness_45 : decode cX13_meanFreshness 45 = .ok (.invokevirtual 126, 3) := by decide +kernel
theorem dX13_meanFreshness_48 : decode cX13_meanFreshness 48 = .ok (.ifCond .eq 16, 3) := by decide +kernel
theorem dX13_meanFreshness_51 : decode cX13_meanFreshness 51 = .ok (.fload_n 1, 1) := by decide +kernel
theorem dX13_meanFreshness_52 : decode cX13_meanFreshness 52 = .ok (.aload_n 0, 1) := by decide +kernel
theorem dX13_meanFreshness_53 : decode cX13_meanFreshness 53 = .ok (.getfield 9, 3) := by decide +kernel
theorem dX13_meanFreshness_56 : decode cX13_meanFreshness 56 = .ok (.bipush 7, 2) := by decide +kernel
theorem dX13_meanFreshness_58 : decode cX13_meanFreshness 58 = .ok (.iaload, 1) := by decide +kernel
theorem dX13_meanFreshness_59 : decode cX13_meanFreshness 59 = .ok (.i2f, 1) := by decide +kernel
theorem dX13_meanFreshness_60 : decode cX13_meanFreshness 60 = .ok (.fdiv, 1) := by decide +kernel
theorem dX13_meanFreshness_61 : decode cX13_meanFreshness 61 = .ok (.goto 4, 3) := by decide +kernel
theorem dX13_meanFreshness_64 : decode cX13_meanFreshness 64 = .ok (.fconst 0, 1) := by decide +kernel
theorem dX13_meanFreshness_65 : decode cX13_meanFreshness 65 = .ok (.freturn, 1) := by decide +kernel
theorem dX13_isConsistent_0 : decode cX13_isConsistent 0 = .ok (.aload_n 0, 1) := by decide +kernel
theorem dX13_isConsistent_1 : decode cX13_isConsistent 1 = .ok (.iconst 0, 1) := by decide +kernel
theorem dX13_isConsistent_2 : decode cX13_isConsistent 2 = .ok (.putfield 55, 3) := by decide +kernel
theorem dX13_isConsistent_5 : decode cX13_isConsistent 5 = .ok (.iconst 1, 1) := by decide +kernel
theorem dX13_isConsistent_6 : decode cX13_isConsistent 6 = .ok (.ireturn, 1) := by decide +kernel
theorem dX13_says_0 : decode cX13_says 0 = .ok (.aload_n 0, 1) := by decide +kernel
theorem dX13_says_1 : decode cX13_says 1 = .ok (.getfield 39, 3) := by decide +kernel
theorem dX13_says_4 : decode cX13_says 4 = .ok (.aload_n 0, 1) := by decide +kernel
theorem dX13_says_5 : decode cX13_says 5 = .ok (.getfield 223, 3) := by decide +kernel
theorem dX13_says_8 : decode cX13_says 8 = .ok (.iload_n 1, 1) := by decide +kernel
theorem dX13_says_9 : decode cX13_says 9 = .ok (.castore, 1) := by decide +kernel
theorem dX13_says_10 : decode cX13_says 10 = .ok (.aload_n 0, 1) := by decide +kernel
theorem dX13_says_11 : decode cX13_says 11 = .ok (.dup, 1) := by decide +kernel
theorem dX13_says_12 : decode cX13_says 12 = .ok (.getfield 223, 3) := by decide +kernel
theorem dX13_says_15 : decode cX13_says 15 = .ok (.iconst 1, 1) := by decide +kernel
theorem dX13_says_16 : decode cX13_says 16 = .ok (.iadd, 1) := by decide +kernel
theorem dX13_says_17 : decode cX13_says 17 = .ok (.putfield 223, 3) := by decide +kernel
theorem dX13_says_20 : decode cX13_says 20 = .ok (.return_, 1) := by decide +kernel
theorem dX13_saysNumber_0 : decode cX13_saysNumber 0 = .ok (.iload_n 1, 1) := by decide +kernel
theorem dX13_saysNumber_1 : decode cX13_saysNumber 1 = .ok (.bipush 9, 2) := by decide +kernel
theorem dX13_saysNumber_3 : decode cX13_saysNumber 3 = .ok (.if_icmp .le 11, 3) := by decide +kernel
theorem dX13_saysNumber_6 : decode cX13_saysNumber 6 = .ok (.aload_n 0, 1) := by decide +kernel
theorem dX13_saysNumber_7 : decode cX13_saysNumber 7 = .ok (.iload_n 1, 1) := by decide +kernel
theorem dX13_saysNumber_8 : decode cX13_saysNumber 8 = .ok (.bipush 10, 2) := by decide +kernel
theorem dX13_saysNumber_10 : decode cX13_saysNumber 10 = .ok (.idiv, 1) := by decide +kernel
theorem dX13_saysNumber_11 : decode cX13_saysNumber 11 = .ok (.invokevirtual 226, 3) := by decide +kernel
theorem dX13_saysNumber_14 : decode cX13_saysNumber 14 = .ok (.aload_n 0, 1) := by decide +kernel
theorem dX13_saysNumber_15 : decode cX13_saysNumber 15 = .ok (.bipush 48, 2) := by decide +kernel
theorem dX13_saysNumber_17 : decode cX13_saysNumber 17 = .ok (.iload_n 1, 1) := by decide +kernel
theorem dX13_saysNumber_18 : decode cX13_saysNumber 18 = .ok (.bipush 10, 2) := by decide +kernel
theorem dX13_saysNumber_20 : decode cX13_saysNumber 20 = .ok (.irem, 1) := by decide +kernel
theorem dX13_saysNumber_21 : decode cX13_saysNumber 21 = .ok (.iadd, 1) := by decide +kernel
theorem dX13_saysNumber_22 : decode cX13_saysNumber 22 = .ok (.i2c, 1) := by decide +kernel
theorem dX13_saysNumber_23 : decode cX13_saysNumber 23 = .ok (.invokevirtual 229, 3) := by decide +kernel
theorem dX13_saysNumber_26 : decode cX13_saysNumber 26 = .ok (.return_, 1) := by decide +kernel
theorem dX13_writeLine_0 : decode cX13_writeLine 0 = .ok (.aload_n 0, 1) := by decide +kernel
theorem dX13_writeLine_1 : decode cX13_writeLine 1 = .ok (.iload_n 1, 1) := by decide +kernel
theorem dX13_writeLine_2 : decode cX13_writeLine 2 = .ok (.iload_n 2, 1) := by decide +kernel
theorem dX13_writeLine_3 : decode cX13_writeLine 3 = .ok (.invokevirtual 179, 3) := by decide +kernel
theorem dX13_writeLine_6 : decode cX13_writeLine 6 = .ok (.ifCond .ne 5, 3) := by decide +kernel
theorem dX13_writeLine_9 : decode cX13_writeLine 9 = .ok (.iconst 0, 1) := by decide +kernel
theorem dX13_writeLine_10 : decode cX13_writeLine 10 = .ok (.ireturn, 1) := by decide +kernel
theorem dX13_writeLine_11 : decode cX13_writeLine 11 = .ok (.aload_n 0, 1) := by decide +kernel
theorem dX13_writeLine_12 : decode cX13_writeLine 12 = .ok (.iconst 0, 1) := by decide +kernel
theorem dX13_writeLine_13 : decode cX13_writeLine 13 = .ok (.putfield 223, 3) := by decide +kernel
theorem dX13_writeLine_16 : decode cX13_writeLine 16 = .ok (.iconst 0, 1) := by decide +kernel
theorem dX13_writeLine_17 : decode cX13_writeLine 17 = .ok (.istore_n 3, 1) := by decide +kernel
theorem dX13_writeLine_18 : decode cX13_writeLine 18 = .ok (.iload_n 3, 1) := by decide +kernel
theorem dX13_writeLine_19 : decode cX13_writeLine 19 = .ok (.aload_n 0, 1) := by decide +kernel
theorem dX13_writeLine_20 : decode cX13_writeLine 20 = .ok (.getfield 29, 3) := by decide +kernel
theorem dX13_writeLine_23 : decode cX13_writeLine 23 = .ok (.iload_n 2, 1) := by decide +kernel
theorem dX13_writeLine_24 : decode cX13_writeLine 24 = .ok (.iaload, 1) := by decide +kernel
theorem dX13_writeLine_25 : decode cX13_writeLine 25 = .ok (.if_icmp .ge 24, 3) := by decide +kernel
theorem dX13_writeLine_28 : decode cX13_writeLine 28 = .ok (.aload_n 0, 1) := by decide +kernel
theorem dX13_writeLine_29 : decode cX13_writeLine 29 = .ok (.aload_n 0, 1) := by decide +kernel
theorem dX13_writeLine_30 : decode cX13_writeLine 30 = .ok (.getfield 26, 3) := by decide +kernel
theorem dX13_writeLine_33 : decode cX13_writeLine 33 = .ok (.bipush 20, 2) := by decide +kernel
theorem dX13_writeLine_35 : decode cX13_writeLine 35 = .ok (.iload_n 2, 1) := by decide +kernel
theorem dX13_writeLine_36 : decode cX13_writeLine 36 = .ok (.imul, 1) := by decide +kernel
theorem dX13_writeLine_37 : decode cX13_writeLine 37 = .ok (.iload_n 3, 1) := by decide +kernel
theorem dX13_writeLine_38 : decode cX13_writeLine 38 = .ok (.iadd, 1) := by decide +kernel
theorem dX13_writeLine_39 : decode cX13_writeLine 39 = .ok (.caload, 1) := by decide +kernel
theorem dX13_writeLine_40 : decode cX13_writeLine 40 = .ok (.invokevirtual 229, 3) := by decide +kernel
theorem dX13_writeLine_43 : decode cX13_writeLine 43 = .ok (.iinc 3 1, 3) := by decide +kernel
theorem dX13_writeLine_46 : decode cX13_writeLine 46 = .ok (.goto (-28), 3) := by decide +kernel
theorem dX13_writeLine_49 : decode cX13_writeLine 49 = .ok (.aload_n 0, 1) := by decide +kernel
theorem dX13_writeLine_50 : decode cX13_writeLine 50 = .ok (.getfield 223, 3) := by decide +kernel
theorem dX13_writeLine_53 : decode cX13_writeLine 53 = .ok (.ireturn, 1) := by decide +kernel
theorem dX13_writeArticle_0 : decode cX13_writeArticle 0 = .ok (.aload_n 0, 1) := by decide +kernel
theorem dX13_writeArticle_1 : decode cX13_writeArticle 1 = .ok (.iload_n 1, 1) := by decide +kernel
theorem dX13_writeArticle_2 : decode cX13_writeArticle 2 = .ok (.invokevirtual 103, 3) := by decide +kernel
theorem dX13_writeArticle_5 : decode cX13_writeArticle 5 = .ok (.istore_n 2, 1) := by decide +kernel
theorem dX13_writeArticle_6 : decode cX13_writeArticle 6 = .ok (.aload_n 0, 1) := by decide +kernel
theorem dX13_writeArticle_7 : decode cX13_writeArticle 7 = .ok (.iload_n 2, 1) := by decide +kernel
theorem dX13_writeArticle_8 : decode cX13_writeArticle 8 = .ok (.ifCond .lt 7, 3) := by decide +kernel
theorem dX13_writeArticle_11 : decode cX13_writeArticle 11 = .ok (.iconst 1, 1) := by decide +kernel
theorem dX13_writeArticle_12 : decode cX13_writeArticle 12 = .ok (.goto 4, 3) := by decide +kernel
theorem dX13_writeArticle_15 : decode cX13_writeArticle 15 = .ok (.iconst 0, 1) := by decide +kernel
theorem dX13_writeArticle_16 : decode cX13_writeArticle 16 = .ok (.invokevirtual 126, 3) := by decide +kernel
theorem dX13_writeArticle_19 : decode cX13_writeArticle 19 = .ok (.ifCond .ne 5, 3) := by decide +kernel
theorem dX13_writeArticle_22 : decode cX13_writeArticle 22 = .ok (.iconst 0, 1) := by decide +kernel
theorem dX13_writeArticle_23 : decode cX13_writeArticle 23 = .ok (.ireturn, 1) := by decide +kernel
theorem dX13_writeArticle_24 : decode cX13_writeArticle 24 = .ok (.aload_n 0, 1) := by decide +kernel
theorem dX13_writeArticle_25 : decode cX13_writeArticle 25 = .ok (.iconst 0, 1) := by decide +kernel
theorem dX13_writeArticle_26 : decode cX13_writeArticle 26 = .ok (.putfield 223, 3) := by decide +kernel
theorem dX13_writeArticle_29 : decode cX13_writeArticle 29 = .ok (.aload_n 0, 1) := by decide +kernel
theorem dX13_writeArticle_30 : decode cX13_writeArticle 30 = .ok (.iload_n 1, 1) := by decide +kernel
theorem dX13_writeArticle_31 : decode cX13_writeArticle 31 = .ok (.invokevirtual 226, 3) := by decide +kernel
theorem dX13_writeArticle_34 : decode cX13_writeArticle 34 = .ok (.aload_n 0, 1) := by decide +kernel
theorem dX13_writeArticle_35 : decode cX13_writeArticle 35 = .ok (.bipush 33, 2) := by decide +kernel
theorem dX13_writeArticle_37 : decode cX13_writeArticle 37 = .ok (.invokevirtual 229, 3) := by decide +kernel
theorem dX13_writeArticle_40 : decode cX13_writeArticle 40 = .ok (.aload_n 0, 1) := by decide +kernel
theorem dX13_writeArticle_41 : decode cX13_writeArticle 41 = .ok (.aload_n 0, 1) := by decide +kernel
theorem dX13_writeArticle_42 : decode cX13_writeArticle 42 = .ok (.iload_n 2, 1) := by decide +kernel
theorem dX13_writeArticle_43 : decode cX13_writeArticle 43 = .ok (.iconst 1, 1) := by decide +kernel
theorem dX13_writeArticle_44 : decode cX13_writeArticle 44 = .ok (.invokevirtual 67, 3) := by decide +kernel
theorem dX13_writeArticle_47 : decode cX13_writeArticle 47 = .ok (.invokevirtual 226, 3) := by decide +kernel
theorem dX13_writeArticle_50 : decode cX13_writeArticle 50 = .ok (.iconst 0, 1) := by decide +kernel
theorem dX13_writeArticle_51 : decode cX13_writeArticle 51 = .ok (.istore_n 3, 1) := by decide +kernel
theorem dX13_writeArticle_52 : decode cX13_writeArticle 52 = .ok (.iload_n 3, 1) := by decide +kernel
theorem dX13_writeArticle_53 : decode cX13_writeArticle 53 = .ok (.aload_n 0, 1) := by decide +kernel
theorem dX13_writeArticle_54 : decode cX13_writeArticle 54 = .ok (.iload_n 2, 1) := by decide +kernel
theorem dX13_writeArticle_55 : decode cX13_writeArticle 55 = .ok (.iconst 2, 1) := by decide +kernel
theorem dX13_writeArticle_56 : decode cX13_writeArticle 56 = .ok (.invokevirtual 67, 3) := by decide +kernel
theorem dX13_writeArticle_59 : decode cX13_writeArticle 59 = .ok (.if_icmp .ge 56, 3) := by decide +kernel
theorem dX13_writeArticle_62 : decode cX13_writeArticle 62 = .ok (.aload_n 0, 1) := by decide +kernel
theorem dX13_writeArticle_63 : decode cX13_writeArticle 63 = .ok (.iload_n 3, 1) := by decide +kernel
theorem dX13_writeArticle_64 : decode cX13_writeArticle 64 = .ok (.ifCond .ne 8, 3) := by decide +kernel
theorem dX13_writeArticle_67 : decode cX13_writeArticle 67 = .ok (.bipush 58, 2) := by decide +kernel
theorem dX13_writeArticle_69 : decode cX13_writeArticle 69 = .ok (.goto 5, 3) := by decide +kernel
theorem dX13_writeArticle_72 : decode cX13_writeArticle 72 = .ok (.bipush 32, 2) := by decide +kernel
theorem dX13_writeArticle_74 : decode cX13_writeArticle 74 = .ok (.invokevirtual 229, 3) := by decide +kernel
theorem dX13_writeArticle_77 : decode cX13_writeArticle 77 = .ok (.iconst 0, 1) := by decide +kernel
theorem dX13_writeArticle_78 : decode cX13_writeArticle 78 = .ok (.istore 4, 2) := by decide +kernel
theorem dX13_writeArticle_80 : decode cX13_writeArticle 80 = .ok (.iload 4, 2) := by decide +kernel
theorem dX13_writeArticle_82 : decode cX13_writeArticle 82 = .ok (.aload_n 0, 1) := by decide +kernel
theorem dX13_writeArticle_83 : decode cX13_writeArticle 83 = .ok (.iload_n 2, 1) := by decide +kernel
theorem dX13_writeArticle_84 : decode cX13_writeArticle 84 = .ok (.iload_n 3, 1) := by decide +kernel
theorem dX13_writeArticle_85 : decode cX13_writeArticle 85 = .ok (.invokevirtual 113, 3) := by decide +kernel
theorem dX13_writeArticle_88 : decode cX13_writeArticle 88 = .ok (.if_icmp .ge 21, 3) := by decide +kernel
theorem dX13_writeArticle_91 : decode cX13_writeArticle 91 = .ok (.aload_n 0, 1) := by decide +kernel
theorem dX13_writeArticle_92 : decode cX13_writeArticle 92 = .ok (.aload_n 0, 1) := by decide +kernel
theorem dX13_writeArticle_93 : decode cX13_writeArticle 93 = .ok (.iload_n 2, 1) := by decide +kernel
theorem dX13_writeArticle_94 : decode cX13_writeArticle 94 = .ok (.iload_n 3, 1) := by decide +kernel
theorem dX13_writeArticle_95 : decode cX13_writeArticle 95 = .ok (.iload 4, 2) := by decide +kernel
theorem dX13_writeArticle_97 : decode cX13_writeArticle 97 = .ok (.invokevirtual 136, 3) := by decide +kernel
theorem dX13_writeArticle_100 : decode cX13_writeArticle 100 = .ok (.invokevirtual 229, 3) := by decide +kernel
theorem dX13_writeArticle_103 : decode cX13_writeArticle 103 = .ok (.iinc 4 1, 3) := by decide +kernel
theorem dX13_writeArticle_106 : decode cX13_writeArticle 106 = .ok (.goto (-26), 3) := by decide +kernel
theorem dX13_writeArticle_109 : decode cX13_writeArticle 109 = .ok (.iinc 3 1, 3) := by decide +kernel
theorem dX13_writeArticle_112 : decode cX13_writeArticle 112 = .ok (.goto (-60), 3) := by decide +kernel
theorem dX13_writeArticle_115 : decode cX13_writeArticle 115 = .ok (.aload_n 0, 1) := by decide +kernel
theorem dX13_writeArticle_116 : decode cX13_writeArticle 116 = .ok (.getfield 223, 3) := by decide +kernel
theorem dX13_writeArticle_119 : decode cX13_writeArticle 119 = .ok (.ireturn, 1) := by decide +kernel
theorem dX13_outputCharacter_0 : decode cX13_outputCharacter 0 = .ok (.aload_n 0, 1) := by decide +kernel
theorem dX13_outputCharacter_1 : decode cX13_outputCharacter 1 = .ok (.iload_n 1, 1) := by decide +kernel
theorem dX13_outputCharacter_2 : decode cX13_outputCharacter 2 = .ok (.iconst 0, 1) := by decide +kernel
theorem dX13_outputCharacter_3 : decode cX13_outputCharacter 3 = .ok (.aload_n 0, 1) := by decide +kernel
theorem dX13_outputCharacter_4 : decode cX13_outputCharacter 4 = .ok (.getfield 223, 3) := by decide +kernel
theorem dX13_outputCharacter_7 : decode cX13_outputCharacter 7 = .ok (.iconst 1, 1) := by decide +kernel
theorem dX13_outputCharacter_8 : decode cX13_outputCharacter 8 = .ok (.isub, 1) := by decide +kernel
theorem dX13_outputCharacter_9 : decode cX13_outputCharacter 9 = .ok (.invokestatic 71, 3) := by decide +kernel
theorem dX13_outputCharacter_12 : decode cX13_outputCharacter 12 = .ok (.invokevirtual 126, 3) := by decide +kernel
theorem dX13_outputCharacter_15 : decode cX13_outputCharacter 15 = .ok (.ifCond .eq 12, 3) := by decide +kernel
theorem dX13_outputCharacter_18 : decode cX13_outputCharacter 18 = .ok (.aload_n 0, 1) := by decide +kernel
theorem dX13_outputCharacter_19 : decode cX13_outputCharacter 19 = .ok (.getfield 39, 3) := by decide +kernel
theorem dX13_outputCharacter_22 : decode cX13_outputCharacter 22 = .ok (.iload_n 1, 1) := by decide +kernel
theorem dX13_outputCharacter_23 : decode cX13_outputCharacter 23 = .ok (.caload, 1) := by decide +kernel
theorem dX13_outputCharacter_24 : decode cX13_outputCharacter 24 = .ok (.goto 5, 3) := by decide +kernel
theorem dX13_outputCharacter_27 : decode cX13_outputCharacter 27 = .ok (.bipush 32, 2) := by decide +kernel
theorem dX13_outputCharacter_29 : decode cX13_outputCharacter 29 = .ok (.ireturn, 1) := by decide +kernel
theorem dX13_feed_0 : decode cX13_feed 0 = .ok (.aload_n 0, 1) := by decide +kernel
theorem dX13_feed_1 : decode cX13_feed 1 = .ok (.aload_n 0, 1) := by decide +kernel
theorem dX13_feed_2 : decode cX13_feed 2 = .ok (.getfield 232, 3) := by decide +kernel
theorem dX13_feed_5 : decode cX13_feed 5 = .ok (.bipush 60, 2) := by decide +kernel
theorem dX13_feed_7 : decode cX13_feed 7 = .ok (.if_icmp .ne 7, 3) := by decide +kernel
theorem dX13_feed_10 : decode cX13_feed 10 = .ok (.iconst 1, 1) := by decide +kernel
theorem dX13_feed_11 : decode cX13_feed 11 = .ok (.goto 4, 3) := by decide +kernel
theorem dX13_feed_14 : decode cX13_feed 14 = .ok (.iconst 0, 1) := by decide +kernel
theorem dX13_feed_15 : decode cX13_feed 15 = .ok (.putfield 55, 3) := by decide +kernel
theorem dX13_feed_18 : decode cX13_feed 18 = .ok (.aload_n 0, 1) := by decide +kernel
theorem dX13_feed_19 : decode cX13_feed 19 = .ok (.getfield 55, 3) := by decide +kernel
theorem dX13_feed_22 : decode cX13_feed 22 = .ok (.ifCond .le 5, 3) := by decide +kernel
theorem dX13_feed_25 : decode cX13_feed 25 = .ok (.iconst 0, 1) := by decide +kernel
theorem dX13_feed_26 : decode cX13_feed 26 = .ok (.ireturn, 1) := by decide +kernel
theorem dX13_feed_27 : decode cX13_feed 27 = .ok (.aload_n 0, 1) := by decide +kernel
theorem dX13_feed_28 : decode cX13_feed 28 = .ok (.getfield 42, 3) := by decide +kernel
theorem dX13_feed_31 : decode cX13_feed 31 = .ok (.aload_n 0, 1) := by decide +kernel
theorem dX13_feed_32 : decode cX13_feed 32 = .ok (.getfield 232, 3) := by decide +kernel
theorem dX13_feed_35 : decode cX13_feed 35 = .ok (.iload_n 1, 1) := by decide +kernel
theorem dX13_feed_36 : decode cX13_feed 36 = .ok (.castore, 1) := by decide +kernel
theorem dX13_feed_37 : decode cX13_feed 37 = .ok (.aload_n 0, 1) := by decide +kernel
theorem dX13_feed_38 : decode cX13_feed 38 = .ok (.dup, 1) := by decide +kernel
theorem dX13_feed_39 : decode cX13_feed 39 = .ok (.getfield 232, 3) := by decide +kernel
theorem dX13_feed_42 : decode cX13_feed 42 = .ok (.iconst 1, 1) := by decide +kernel
theorem dX13_feed_43 : decode cX13_feed 43 = .ok (.iadd, 1) := by decide +kernel
theorem dX13_feed_44 : decode cX13_feed 44 = .ok (.putfield 232, 3) := by decide +kernel
theorem dX13_feed_47 : decode cX13_feed 47 = .ok (.aload_n 0, 1) := by decide +kernel
theorem dX13_feed_48 : decode cX13_feed 48 = .ok (.getfield 232, 3) := by decide +kernel
theorem dX13_feed_51 : decode cX13_feed 51 = .ok (.ireturn, 1) := by decide +kernel
theorem dX13_behind_0 : decode cX13_behind 0 = .ok (.aload_n 0, 1) := by decide +kernel
theorem dX13_behind_1 : decode cX13_behind 1 = .ok (.getfield 235, 3) := by decide +kernel
theorem dX13_behind_4 : decode cX13_behind 4 = .ok (.iload_n 1, 1) := by decide +kernel
theorem dX13_behind_5 : decode cX13_behind 5 = .ok (.iadd, 1) := by decide +kernel
theorem dX13_behind_6 : decode cX13_behind 6 = .ok (.aload_n 0, 1) := by decide +kernel
theorem dX13_behind_7 : decode cX13_behind 7 = .ok (.getfield 232, 3) := by decide +kernel
theorem dX13_behind_10 : decode cX13_behind 10 = .ok (.if_icmp .ge 17, 3) := by decide +kernel
theorem dX13_behind_13 : decode cX13_behind 13 = .ok (.aload_n 0, 1) := by decide +kernel
theorem dX13_behind_14 : decode cX13_behind 14 = .ok (.getfield 42, 3) := by decide +kernel
theorem dX13_behind_17 : decode cX13_behind 17 = .ok (.aload_n 0, 1) := by decide +kernel
theorem dX13_behind_18 : decode cX13_behind 18 = .ok (.getfield 235, 3) := by decide +kernel
theorem dX13_behind_21 : decode cX13_behind 21 = .ok (.iload_n 1, 1) := by decide +kernel
theorem dX13_behind_22 : decode cX13_behind 22 = .ok (.iadd, 1) := by decide +kernel
theorem dX13_behind_23 : decode cX13_behind 23 = .ok (.caload, 1) := by decide +kernel
theorem dX13_behind_24 : decode cX13_behind 24 = .ok (.goto 4, 3) := by decide +kernel
theorem dX13_behind_27 : decode cX13_behind 27 = .ok (.iconst (-1), 1) := by decide +kernel
theorem dX13_behind_28 : decode cX13_behind 28 = .ok (.ireturn, 1) := by decide +kernel
theorem dX13_skip_0 : decode cX13_skip 0 = .ok (.iconst 0, 1) := by decide +kernel
theorem dX13_skip_1 : decode cX13_skip 1 = .ok (.istore_n 2, 1) := by decide +kernel
theorem dX13_skip_2 : decode cX13_skip 2 = .ok (.iload_n 2, 1) := by decide +kernel
theorem dX13_skip_3 : decode cX13_skip 3 = .ok (.aload_n 1, 1) := by decide +kernel
theorem dX13_skip_4 : decode cX13_skip 4 = .ok (.invokevirtual 238, 3) := by decide +kernel
theorem dX13_skip_7 : decode cX13_skip 7 = .ok (.if_icmp .ge 59, 3) := by decide +kernel
theorem dX13_skip_10 : decode cX13_skip 10 = .ok (.aload_n 0, 1) := by decide +kernel
theorem dX13_skip_11 : decode cX13_skip 11 = .ok (.getfield 242, 3) := by decide +kernel
theorem dX13_skip_14 : decode cX13_skip 14 = .ok (.ifCond .ne 52, 3) := by decide +kernel
theorem dX13_skip_17 : decode cX13_skip 17 = .ok (.aload_n 0, 1) := by decide +kernel
theorem dX13_skip_18 : decode cX13_skip 18 = .ok (.aload_n 0, 1) := by decide +kernel
theorem dX13_skip_19 : decode cX13_skip 19 = .ok (.iconst 0, 1) := by decide +kernel
theorem dX13_skip_20 : decode cX13_skip 20 = .ok (.invokevirtual 246, 3) := by decide +kernel
theorem dX13_skip_23 : decode cX13_skip 23 = .ok (.aload_n 1, 1) := by decide +kernel
theorem dX13_skip_24 : decode cX13_skip 24 = .ok (.iload_n 2, 1) := by decide +kernel
theorem dX13_skip_25 : decode cX13_skip 25 = .ok (.invokevirtual 249, 3) := by decide +kernel
theorem dX13_skip_28 : decode cX13_skip 28 = .ok (.if_icmp .eq 7, 3) := by decide +kernel
theorem dX13_skip_31 : decode cX13_skip 31 = .ok (.iconst 1, 1) := by decide +kernel
theorem dX13_skip_32 : decode cX13_skip 32 = .ok (.goto 4, 3) := by decide +kernel
theorem dX13_skip_35 : decode cX13_skip 35 = .ok (.iconst 0, 1) := by decide +kernel
theorem dX13_skip_36 : decode cX13_skip 36 = .ok (.putfield 242, 3) := by decide +kernel
theorem dX13_skip_39 : decode cX13_skip 39 = .ok (.aload_n 0, 1) := by decide +kernel
theorem dX13_skip_40 : decode cX13_skip 40 = .ok (.dup, 1) := by decide +kernel
theorem dX13_skip_41 : decode cX13_skip 41 = .ok (.getfield 235, 3) := by decide +kernel
theorem dX13_skip_44 : decode cX13_skip 44 = .ok (.aload_n 0, 1) := by decide +kernel
theorem dX13_skip_45 : decode cX13_skip 45 = .ok (.getfield 242, 3) := by decide +kernel
theorem dX13_skip_48 : decode cX13_skip 48 = .ok (.ifCond .eq 7, 3) := by decide +kernel
theorem dX13_skip_51 : decode cX13_skip 51 = .ok (.iconst 0, 1) := by decide +kernel
theorem dX13_skip_52 : decode cX13_skip 52 = .ok (.goto 4, 3) := by decide +kernel
theorem dX13_skip_55 : decode cX13_skip 55 = .ok (.iconst 1, 1) := by decide +kernel
theorem dX13_skip_56 : decode cX13_skip 56 = .ok (.iadd, 1) := by decide +kernel
theorem dX13_skip_57 : decode cX13_skip 57 = .ok (.putfield 235, 3) := by decide +kernel
theorem dX13_skip_60 : decode cX13_skip 60 = .ok (.iinc 2 1, 3) := by decide +kernel
theorem dX13_skip_63 : decode cX13_skip 63 = .ok (.goto (-61), 3) := by decide +kernel
theorem dX13_skip_66 : decode cX13_skip 66 = .ok (.return_, 1) := by decide +kernel
theorem dX13_isDigit_0 : decode cX13_isDigit 0 = .ok (.aload_n 0, 1) := by decide +kernel
theorem dX13_isDigit_1 : decode cX13_isDigit 1 = .ok (.getfield 242, 3) := by decide +kernel
theorem dX13_isDigit_4 : decode cX13_isDigit 4 = .ok (.ifCond .ne 22, 3) := by decide +kernel
theorem dX13_isDigit_7 : decode cX13_isDigit 7 = .ok (.aload_n 0, 1) := by decide +kernel
theorem dX13_isDigit_8 : decode cX13_isDigit 8 = .ok (.iconst 0, 1) := by decide +kernel
theorem dX13_isDigit_9 : decode cX13_isDigit 9 = .ok (.invokevirtual 246, 3) := by decide +kernel
theorem dX13_isDigit_12 : decode cX13_isDigit 12 = .ok (.bipush 48, 2) := by decide +kernel
theorem dX13_isDigit_14 : decode cX13_isDigit 14 = .ok (.bipush 57, 2) := by decide +kernel
theorem dX13_isDigit_16 : decode cX13_isDigit 16 = .ok (.invokestatic 71, 3) := by decide +kernel
theorem dX13_isDigit_19 : decode cX13_isDigit 19 = .ok (.ifCond .eq 7, 3) := by decide +kernel
theorem dX13_isDigit_22 : decode cX13_isDigit 22 = .ok (.iconst 1, 1) := by decide +kernel
theorem dX13_isDigit_23 : decode cX13_isDigit 23 = .ok (.goto 4, 3) := by decide +kernel
theorem dX13_isDigit_26 : decode cX13_isDigit 26 = .ok (.iconst 0, 1) := by decide +kernel
theorem dX13_isDigit_27 : decode cX13_isDigit 27 = .ok (.ireturn, 1) := by decide +kernel
theorem dX13_readNumber_0 : decode cX13_readNumber 0 = .ok (.aload_n 0, 1) := by decide +kernel
theorem dX13_readNumber_1 : decode cX13_readNumber 1 = .ok (.aload_n 1, 1) := by decide +kernel
theorem dX13_readNumber_2 : decode cX13_readNumber 2 = .ok (.invokevirtual 253, 3) := by decide +kernel
theorem dX13_readNumber_5 : decode cX13_readNumber 5 = .ok (.aload_n 0, 1) := by decide +kernel
theorem dX13_readNumber_6 : decode cX13_readNumber 6 = .ok (.aload_n 0, 1) := by decide +kernel
theorem dX13_readNumber_7 : decode cX13_readNumber 7 = .ok (.getfield 242, 3) := by decide +kernel
theorem dX13_readNumber_10 : decode cX13_readNumber 10 = .ok (.ifCond .ne 10, 3) := by decide +kernel
theorem dX13_readNumber_13 : decode cX13_readNumber 13 = .ok (.aload_n 0, 1) := by decide +kernel
theorem dX13_readNumber_14 : decode cX13_readNumber 14 = .ok (.invokevirtual 257, 3) := by decide +kernel
theorem dX13_readNumber_17 : decode cX13_readNumber 17 = .ok (.ifCond .ne 7, 3) := by decide +kernel
theorem dX13_readNumber_20 : decode cX13_readNumber 20 = .ok (.iconst 1, 1) := by decide +kernel
theorem dX13_readNumber_21 : decode cX13_readNumber 21 = .ok (.goto 4, 3) := by decide +kernel
theorem dX13_readNumber_24 : decode cX13_readNumber 24 = .ok (.iconst 0, 1) := by decide +kernel
theorem dX13_readNumber_25 : decode cX13_readNumber 25 = .ok (.putfield 242, 3) := by decide +kernel
theorem dX13_readNumber_28 : decode cX13_readNumber 28 = .ok (.iconst 0, 1) := by decide +kernel
theorem dX13_readNumber_29 : decode cX13_readNumber 29 = .ok (.istore_n 2, 1) := by decide +kernel
theorem dX13_readNumber_30 : decode cX13_readNumber 30 = .ok (.iconst 0, 1) := by decide +kernel
theorem dX13_readNumber_31 : decode cX13_readNumber 31 = .ok (.istore_n 3, 1) := by decide +kernel
theorem dX13_readNumber_32 : decode cX13_readNumber 32 = .ok (.iload_n 3, 1) := by decide +kernel
theorem dX13_readNumber_33 : decode cX13_readNumber 33 = .ok (.iconst 2, 1) := by decide +kernel
theorem dX13_readNumber_34 : decode cX13_readNumber 34 = .ok (.if_icmp .ge 44, 3) := by decide +kernel
theorem dX13_readNumber_37 : decode cX13_readNumber 37 = .ok (.aload_n 0, 1) := by decide +kernel
theorem dX13_readNumber_38 : decode cX13_readNumber 38 = .ok (.invokevirtual 257, 3) := by decide +kernel
theorem dX13_readNumber_41 : decode cX13_readNumber 41 = .ok (.ifCond .eq 37, 3) := by decide +kernel
theorem dX13_readNumber_44 : decode cX13_readNumber 44 = .ok (.bipush 10, 2) := by decide +kernel
theorem dX13_readNumber_46 : decode cX13_readNumber 46 = .ok (.iload_n 2, 1) := by decide +kernel
theorem dX13_readNumber_47 : decode cX13_readNumber 47 = .ok (.imul, 1) := by decide +kernel
theorem dX13_readNumber_48 : decode cX13_readNumber 48 = .ok (.aload_n 0, 1) := by decide +kernel
theorem dX13_readNumber_49 : decode cX13_readNumber 49 = .ok (.getfield 42, 3) := by decide +kernel
theorem dX13_readNumber_52 : decode cX13_readNumber 52 = .ok (.aload_n 0, 1) := by decide +kernel
theorem dX13_readNumber_53 : decode cX13_readNumber 53 = .ok (.getfield 235, 3) := by decide +kernel
theorem dX13_readNumber_56 : decode cX13_readNumber 56 = .ok (.caload, 1) := by decide +kernel
theorem dX13_readNumber_57 : decode cX13_readNumber 57 = .ok (.iadd, 1) := by decide +kernel
theorem dX13_readNumber_58 : decode cX13_readNumber 58 = .ok (.bipush 48, 2) := by decide +kernel
theorem dX13_readNumber_60 : decode cX13_readNumber 60 = .ok (.isub, 1) := by decide +kernel
theorem dX13_readNumber_61 : decode cX13_readNumber 61 = .ok (.istore_n 2, 1) := by decide +kernel
theorem dX13_readNumber_62 : decode cX13_readNumber 62 = .ok (.aload_n 0, 1) := by decide +kernel
theorem dX13_readNumber_63 : decode cX13_readNumber 63 = .ok (.dup, 1) := by decide +kernel
theorem dX13_readNumber_64 : decode cX13_readNumber 64 = .ok (.getfield 235, 3) := by decide +kernel
theorem dX13_readNumber_67 : decode cX13_readNumber 67 = .ok (.iconst 1, 1) := by decide +kernel
theorem dX13_readNumber_68 : decode cX13_readNumber 68 = .ok (.iadd, 1) := by decide +kernel
theorem dX13_readNumber_69 : decode cX13_readNumber 69 = .ok (.putfield 235, 3) := by decide +kernel
theorem dX13_readNumber_72 : decode cX13_readNumber 72 = .ok (.iinc 3 1, 3) := by decide +kernel
theorem dX13_readNumber_75 : decode cX13_readNumber 75 = .ok (.goto (-43), 3) := by decide +kernel
theorem dX13_readNumber_78 : decode cX13_readNumber 78 = .ok (.iload_n 2, 1) := by decide +kernel
theorem dX13_readNumber_79 : decode cX13_readNumber 79 = .ok (.ireturn, 1) := by decide +kernel
theorem dX13_readCommand_0 : decode cX13_readCommand 0 = .ok (.aload_n 0, 1) := by decide +kernel
theorem dX13_readCommand_1 : decode cX13_readCommand 1 = .ok (.getfield 242, 3) := by decide +kernel
theorem dX13_readCommand_4 : decode cX13_readCommand 4 = .ok (.ifCond .eq 4, 3) := by decide +kernel
theorem dX13_readCommand_7 : decode cX13_readCommand 7 = .ok (.return_, 1) := by decide +kernel
theorem dX13_readCommand_8 : decode cX13_readCommand 8 = .ok (.aload_n 0, 1) := by decide +kernel
theorem dX13_readCommand_9 : decode cX13_readCommand 9 = .ok (.iconst 0, 1) := by decide +kernel
theorem dX13_readCommand_10 : decode cX13_readCommand 10 = .ok (.invokevirtual 246, 3) := by decide +kernel
theorem dX13_readCommand_13 : decode cX13_readCommand 13 = .ok (.istore_n 1, 1) := by decide +kernel
theorem dX13_readCommand_14 : decode cX13_readCommand 14 = .ok (.aload_n 0, 1) := by decide +kernel
theorem dX13_readCommand_15 : decode cX13_readCommand 15 = .ok (.iconst 1, 1) := by decide +kernel
theorem dX13_readCommand_16 : decode cX13_readCommand 16 = .ok (.invokevirtual 246, 3) := by decide +kernel
theorem dX13_readCommand_19 : decode cX13_readCommand 19 = .ok (.istore_n 2, 1) := by decide +kernel
theorem dX13_readCommand_20 : decode cX13_readCommand 20 = .ok (.iconst 3, 1) := by decide +kernel
theorem dX13_readCommand_21 : decode cX13_readCommand 21 = .ok (.aload_n 0, 1) := by decide +kernel
theorem dX13_readCommand_22 : decode cX13_readCommand 22 = .ok (.getfield 261, 3) := by decide +kernel
theorem dX13_readCommand_25 : decode cX13_readCommand 25 = .ok (.imul, 1) := by decide +kernel
theorem dX13_readCommand_26 : decode cX13_readCommand 26 = .ok (.istore_n 3, 1) := by decide +kernel
theorem dX13_readCommand_27 : decode cX13_readCommand 27 = .ok (.aload_n 0, 1) := by decide +kernel
theorem dX13_readCommand_28 : decode cX13_readCommand 28 = .ok (.dup, 1) := by decide +kernel
theorem dX13_readCommand_29 : decode cX13_readCommand 29 = .ok (.getfield 261, 3) := by decide +kernel
theorem dX13_readCommand_32 : decode cX13_readCommand 32 = .ok (.iconst 1, 1) := by decide +kernel
theorem dX13_readCommand_33 : decode cX13_readCommand 33 = .ok (.iadd, 1) := by decide +kernel
theorem dX13_readCommand_34 : decode cX13_readCommand 34 = .ok (.putfield 261, 3) := by decide +kernel
theorem dX13_readCommand_37 : decode cX13_readCommand 37 = .ok (.iload_n 1, 1) := by decide +kernel
theorem dX13_readCommand_38 : decode cX13_readCommand 38 = .ok (.bipush 112, 2) := by decide +kernel
theorem dX13_readCommand_40 : decode cX13_readCommand 40 = .ok (.if_icmp .ne 27, 3) := by decide +kernel
theorem dX13_readCommand_43 : decode cX13_readCommand 43 = .ok (.iload_n 2, 1) := by decide +kernel
theorem dX13_readCommand_44 : decode cX13_readCommand 44 = .ok (.bipush 114, 2) := by decide +kernel
theorem dX13_readCommand_46 : decode cX13_readCommand 46 = .ok (.if_icmp .ne 21, 3) := by decide +kernel
theorem dX13_readCommand_49 : decode cX13_readCommand 49 = .ok (.aload_n 0, 1) := by decide +kernel
theorem dX13_readCommand_50 : decode cX13_readCommand 50 = .ok (.getfield 52, 3) := by decide +kernel
theorem dX13_readCommand_53 : decode cX13_readCommand 53 = .ok (.iload_n 3, 1) := by decide +kernel
theorem dX13_readCommand_54 : decode cX13_readCommand 54 = .ok (.bipush 114, 2) := by decide +kernel
theorem dX13_readCommand_56 : decode cX13_readCommand 56 = .ok (.iastore, 1) := by decide +kernel
theorem dX13_readCommand_57 : decode cX13_readCommand 57 = .ok (.aload_n 0, 1) := by decide +kernel
theorem dX13_readCommand_58 : decode cX13_readCommand 58 = .ok (.ldc_w 264, 3) := by decide +kernel
theorem dX13_readCommand_61 : decode cX13_readCommand 61 = .ok (.invokevirtual 253, 3) := by decide +kernel
theorem dX13_readCommand_64 : decode cX13_readCommand 64 = .ok (.goto 143, 3) := by decide +kernel
theorem dX13_readCommand_67 : decode cX13_readCommand 67 = .ok (.iload_n 1, 1) := by decide +kernel
theorem dX13_readCommand_68 : decode cX13_readCommand 68 = .ok (.bipush 112, 2) := by decide +kernel
theorem dX13_readCommand_70 : decode cX13_readCommand 70 = .ok (.if_icmp .ne 44, 3) := by decide +kernel
theorem dX13_readCommand_73 : decode cX13_readCommand 73 = .ok (.aload_n 0, 1) := by decide +kernel
theorem dX13_readCommand_74 : decode cX13_readCommand 74 = .ok (.getfield 52, 3) := by decide +kernel
theorem dX13_readCommand_77 : decode cX13_readCommand 77 = .ok (.iload_n 3, 1) := by decide +kernel
theorem dX13_readCommand_78 : decode cX13_readCommand 78 = .ok (.bipush 112, 2) := by decide +kernel
theorem dX13_readCommand_80 : decode cX13_readCommand 80 = .ok (.iastore, 1) := by decide +kernel
theorem dX13_readCommand_81 : decode cX13_readCommand 81 = .ok (.aload_n 0, 1) := by decide +kernel
theorem dX13_readCommand_82 : decode cX13_readCommand 82 = .ok (.getfield 52, 3) := by decide +kernel
theorem dX13_readCommand_85 : decode cX13_readCommand 85 = .ok (.iload_n 3, 1) := by decide +kernel
theorem dX13_readCommand_86 : decode cX13_readCommand 86 = .ok (.iconst 1, 1) := by decide +kernel
theorem dX13_readCommand_87 : decode cX13_readCommand 87 = .ok (.iadd, 1) := by decide +kernel
theorem dX13_readCommand_88 : decode cX13_readCommand 88 = .ok (.aload_n 0, 1) := by decide +kernel
theorem dX13_readCommand_89 : decode cX13_readCommand 89 = .ok (.ldc_w 266, 3) := by decide +kernel
theorem dX13_readCommand_92 : decode cX13_readCommand 92 = .ok (.invokevirtual 268, 3) := by decide +kernel
theorem dX13_readCommand_95 : decode cX13_readCommand 95 = .ok (.iastore, 1) := by decide +kernel
theorem dX13_readCommand_96 : decode cX13_readCommand 96 = .ok (.aload_n 0, 1) := by decide +kernel
theorem dX13_readCommand_97 : decode cX13_readCommand 97 = .ok (.getfield 52, 3) := by decide +kernel
theorem dX13_readCommand_100 : decode cX13_readCommand 100 = .ok (.iload_n 3, 1) := by decide +kernel
theorem dX13_readCommand_101 : decode cX13_readCommand 101 = .ok (.iconst 2, 1) := by decide +kernel
theorem dX13_readCommand_102 : decode cX13_readCommand 102 = .ok (.iadd, 1) := by decide +kernel
theorem dX13_readCommand_103 : decode cX13_readCommand 103 = .ok (.aload_n 0, 1) := by decide +kernel
theorem dX13_readCommand_104 : decode cX13_readCommand 104 = .ok (.ldc_w 272, 3) := by decide +kernel
theorem dX13_readCommand_107 : decode cX13_readCommand 107 = .ok (.invokevirtual 268, 3) := by decide +kernel
theorem dX13_readCommand_110 : decode cX13_readCommand 110 = .ok (.iastore, 1) := by decide +kernel
theorem dX13_readCommand_111 : decode cX13_readCommand 111 = .ok (.goto 96, 3) := by decide +kernel
theorem dX13_readCommand_114 : decode cX13_readCommand 114 = .ok (.iload_n 1, 1) := by decide +kernel
theorem dX13_readCommand_115 : decode cX13_readCommand 115 = .ok (.bipush 100, 2) := by decide +kernel
theorem dX13_readCommand_117 : decode cX13_readCommand 117 = .ok (.if_icmp .ne 35, 3) := by decide +kernel
theorem dX13_readCommand_120 : decode cX13_readCommand 120 = .ok (.iload_n 2, 1) := by decide +kernel
theorem dX13_readCommand_121 : decode cX13_readCommand 121 = .ok (.bipush 114, 2) := by decide +kernel
theorem dX13_readCommand_123 : decode cX13_readCommand 123 = .ok (.if_icmp .ne 29, 3) := by decide +kernel
theorem dX13_readCommand_126 : decode cX13_readCommand 126 = .ok (.aload_n 0, 1) := by decide +kernel
theorem dX13_readCommand_127 : decode cX13_readCommand 127 = .ok (.getfield 52, 3) := by decide +kernel
theorem dX13_readCommand_130 : decode cX13_readCommand 130 = .ok (.iload_n 3, 1) := by decide +kernel
theorem dX13_readCommand_131 : decode cX13_readCommand 131 = .ok (.bipush 120, 2) := by decide +kernel
theorem dX13_readCommand_133 : decode cX13_readCommand 133 = .ok (.iastore, 1) := by decide +kernel
theorem dX13_readCommand_134 : decode cX13_readCommand 134 = .ok (.aload_n 0, 1) := by decide +kernel
theorem dX13_readCommand_135 : decode cX13_readCommand 135 = .ok (.getfield 52, 3) := by decide +kernel
theorem dX13_readCommand_138 : decode cX13_readCommand 138 = .ok (.iload_n 3, 1) := by decide +kernel
theorem dX13_readCommand_139 : decode cX13_readCommand 139 = .ok (.iconst 1, 1) := by decide +kernel
theorem dX13_readCommand_140 : decode cX13_readCommand 140 = .ok (.iadd, 1) := by decide +kernel
theorem dX13_readCommand_141 : decode cX13_readCommand 141 = .ok (.aload_n 0, 1) := by decide +kernel
theorem dX13_readCommand_142 : decode cX13_readCommand 142 = .ok (.ldc_w 274, 3) := by decide +kernel
theorem dX13_readCommand_145 : decode cX13_readCommand 145 = .ok (.invokevirtual 268, 3) := by decide +kernel
theorem dX13_readCommand_148 : decode cX13_readCommand 148 = .ok (.iastore, 1) := by decide +kernel
theorem dX13_readCommand_149 : decode cX13_readCommand 149 = .ok (.goto 58, 3) := by decide +kernel
theorem dX13_readCommand_152 : decode cX13_readCommand 152 = .ok (.iload_n 1, 1) := by decide +kernel
theorem dX13_readCommand_153 : decode cX13_readCommand 153 = .ok (.bipush 100, 2) := by decide +kernel
theorem dX13_readCommand_155 : decode cX13_readCommand 155 = .ok (.if_icmp .ne 29, 3) := by decide +kernel
theorem dX13_readCommand_158 : decode cX13_readCommand 158 = .ok (.aload_n 0, 1) := by decide +kernel
theorem dX13_readCommand_159 : decode cX13_readCommand 159 = .ok (.getfield 52, 3) := by decide +kernel
theorem dX13_readCommand_162 : decode cX13_readCommand 162 = .ok (.iload_n 3, 1) := by decide +kernel
theorem dX13_readCommand_163 : decode cX13_readCommand 163 = .ok (.bipush 100, 2) := by decide +kernel
theorem dX13_readCommand_165 : decode cX13_readCommand 165 = .ok (.iastore, 1) := by decide +kernel
theorem dX13_readCommand_166 : decode cX13_readCommand 166 = .ok (.aload_n 0, 1) := by decide +kernel
theorem dX13_readCommand_167 : decode cX13_readCommand 167 = .ok (.getfield 52, 3) := by decide +kernel
theorem dX13_readCommand_170 : decode cX13_readCommand 170 = .ok (.iload_n 3, 1) := by decide +kernel
theorem dX13_readCommand_171 : decode cX13_readCommand 171 = .ok (.iconst 1, 1) := by decide +kernel
theorem dX13_readCommand_172 : decode cX13_readCommand 172 = .ok (.iadd, 1) := by decide +kernel
theorem dX13_readCommand_173 : decode cX13_readCommand 173 = .ok (.aload_n 0, 1) := by decide +kernel
theorem dX13_readCommand_174 : decode cX13_readCommand 174 = .ok (.ldc_w 276, 3) := by decide +kernel
theorem dX13_readCommand_177 : decode cX13_readCommand 177 = .ok (.invokevirtual 268, 3) := by decide +kernel
theorem dX13_readCommand_180 : decode cX13_readCommand 180 = .ok (.iastore, 1) := by decide +kernel
theorem dX13_readCommand_181 : decode cX13_readCommand 181 = .ok (.goto 26, 3) := by decide +kernel
theorem dX13_readCommand_184 : decode cX13_readCommand 184 = .ok (.aload_n 0, 1) := by decide +kernel
theorem dX13_readCommand_185 : decode cX13_readCommand 185 = .ok (.getfield 52, 3) := by decide +kernel
theorem dX13_readCommand_188 : decode cX13_readCommand 188 = .ok (.iload_n 3, 1) := by decide +kernel
theorem dX13_readCommand_189 : decode cX13_readCommand 189 = .ok (.bipush 119, 2) := by decide +kernel
theorem dX13_readCommand_191 : decode cX13_readCommand 191 = .ok (.iastore, 1) := by decide +kernel
theorem dX13_readCommand_192 : decode cX13_readCommand 192 = .ok (.aload_n 0, 1) := by decide +kernel
theorem dX13_readCommand_193 : decode cX13_readCommand 193 = .ok (.getfield 52, 3) := by decide +kernel
theorem dX13_readCommand_196 : decode cX13_readCommand 196 = .ok (.iload_n 3, 1) := by decide +kernel
theorem dX13_readCommand_197 : decode cX13_readCommand 197 = .ok (.iconst 1, 1) := by decide +kernel
theorem dX13_readCommand_198 : decode cX13_readCommand 198 = .ok (.iadd, 1) := by decide +kernel
theorem dX13_readCommand_199 : decode cX13_readCommand 199 = .ok (.aload_n 0, 1) := by decide +kernel
theorem dX13_readCommand_200 : decode cX13_readCommand 200 = .ok (.ldc_w 278, 3) := by decide +kernel
theorem dX13_readCommand_203 : decode cX13_readCommand 203 = .ok (.invokevirtual 268, 3) := by decide +kernel
theorem dX13_readCommand_206 : decode cX13_readCommand 206 = .ok (.iastore, 1) := by decide +kernel
theorem dX13_readCommand_207 : decode cX13_readCommand 207 = .ok (.return_, 1) := by decide +kernel
theorem dX13_does_0 : decode cX13_does 0 = .ok (.aload_n 0, 1) := by decide +kernel
theorem dX13_does_1 : decode cX13_does 1 = .ok (.getfield 52, 3) := by decide +kernel
theorem dX13_does_4 : decode cX13_does 4 = .ok (.iconst 3, 1) := by decide +kernel
theorem dX13_does_5 : decode cX13_does 5 = .ok (.iload_n 1, 1) := by decide +kernel
theorem dX13_does_6 : decode cX13_does 6 = .ok (.imul, 1) := by decide +kernel
theorem dX13_does_7 : decode cX13_does 7 = .ok (.iconst 1, 1) := by decide +kernel
theorem dX13_does_8 : decode cX13_does 8 = .ok (.iadd, 1) := by decide +kernel
theorem dX13_does_9 : decode cX13_does 9 = .ok (.iaload, 1) := by decide +kernel
theorem dX13_does_10 : decode cX13_does 10 = .ok (.istore_n 2, 1) := by decide +kernel
theorem dX13_does_11 : decode cX13_does 11 = .ok (.aload_n 0, 1) := by decide +kernel
theorem dX13_does_12 : decode cX13_does 12 = .ok (.getfield 52, 3) := by decide +kernel
theorem dX13_does_15 : decode cX13_does 15 = .ok (.iconst 3, 1) := by decide +kernel
theorem dX13_does_16 : decode cX13_does 16 = .ok (.iload_n 1, 1) := by decide +kernel
theorem dX13_does_17 : decode cX13_does 17 = .ok (.imul, 1) := by decide +kernel
theorem dX13_does_18 : decode cX13_does 18 = .ok (.iaload, 1) := by decide +kernel
theorem dX13_does_19 : decode cX13_does 19 = .ok (.lookupswitch 86 #[(100, 77), (112, 49), (114, 41), (120, 68)], 41) := by decide +kernel
theorem dX13_does_60 : decode cX13_does 60 = .ok (.aload_n 0, 1) := by decide +kernel
theorem dX13_does_61 : decode cX13_does 61 = .ok (.invokevirtual 197, 3) := by decide +kernel
theorem dX13_does_64 : decode cX13_does 64 = .ok (.istore_n 3, 1) := by decide +kernel
theorem dX13_does_65 : decode cX13_does 65 = .ok (.goto 46, 3) := by decide +kernel
theorem dX13_does_68 : decode cX13_does 68 = .ok (.aload_n 0, 1) := by decide +kernel
theorem dX13_does_69 : decode cX13_does 69 = .ok (.iload_n 2, 1) := by decide +kernel
theorem dX13_does_70 : decode cX13_does 70 = .ok (.aload_n 0, 1) := by decide +kernel
theorem dX13_does_71 : decode cX13_does 71 = .ok (.getfield 52, 3) := by decide +kernel
theorem dX13_does_74 : decode cX13_does 74 = .ok (.iconst 3, 1) := by decide +kernel
theorem dX13_does_75 : decode cX13_does 75 = .ok (.iload_n 1, 1) := by decide +kernel
theorem dX13_does_76 : decode cX13_does 76 = .ok (.imul, 1) := by decide +kernel
theorem dX13_does_77 : decode cX13_does 77 = .ok (.iconst 2, 1) := by decide +kernel
theorem dX13_does_78 : decode cX13_does 78 = .ok (.iadd, 1) := by decide +kernel
theorem dX13_does_79 : decode cX13_does 79 = .ok (.iaload, 1) := by decide +kernel
theorem dX13_does_80 : decode cX13_does 80 = .ok (.invokevirtual 191, 3) := by decide +kernel
theorem dX13_does_83 : decode cX13_does 83 = .ok (.istore_n 3, 1) := by decide +kernel
theorem dX13_does_84 : decode cX13_does 84 = .ok (.goto 27, 3) := by decide +kernel
theorem dX13_does_87 : decode cX13_does 87 = .ok (.aload_n 0, 1) := by decide +kernel
theorem dX13_does_88 : decode cX13_does 88 = .ok (.iload_n 2, 1) := by decide +kernel
theorem dX13_does_89 : decode cX13_does 89 = .ok (.invokevirtual 106, 3) := by decide +kernel
theorem dX13_does_92 : decode cX13_does 92 = .ok (.istore_n 3, 1) := by decide +kernel
theorem dX13_does_93 : decode cX13_does 93 = .ok (.goto 18, 3) := by decide +kernel
theorem dX13_does_96 : decode cX13_does 96 = .ok (.aload_n 0, 1) := by decide +kernel
theorem dX13_does_97 : decode cX13_does 97 = .ok (.iload_n 2, 1) := by decide +kernel
theorem dX13_does_98 : decode cX13_does 98 = .ok (.invokevirtual 206, 3) := by decide +kernel
theorem dX13_does_101 : decode cX13_does 101 = .ok (.istore_n 3, 1) := by decide +kernel
theorem dX13_does_102 : decode cX13_does 102 = .ok (.goto 9, 3) := by decide +kernel
theorem dX13_does_105 : decode cX13_does 105 = .ok (.aload_n 0, 1) := by decide +kernel
theorem dX13_does_106 : decode cX13_does 106 = .ok (.iload_n 2, 1) := by decide +kernel
theorem dX13_does_107 : decode cX13_does 107 = .ok (.invokevirtual 165, 3) := by decide +kernel
theorem dX13_does_110 : decode cX13_does 110 = .ok (.istore_n 3, 1) := by decide +kernel
theorem dX13_does_111 : decode cX13_does 111 = .ok (.return_, 1) := by decide +kernel
theorem dX13_execute_0 : decode cX13_execute 0 = .ok (.aload_n 0, 1) := by decide +kernel
theorem dX13_execute_1 : decode cX13_execute 1 = .ok (.iconst 0, 1) := by decide +kernel
theorem dX13_execute_2 : decode cX13_execute 2 = .ok (.putfield 235, 3) := by decide +kernel
theorem dX13_execute_5 : decode cX13_execute 5 = .ok (.aload_n 0, 1) := by decide +kernel
theorem dX13_execute_6 : decode cX13_execute 6 = .ok (.iconst 0, 1) := by decide +kernel
theorem dX13_execute_7 : decode cX13_execute 7 = .ok (.putfield 242, 3) := by decide +kernel
theorem dX13_execute_10 : decode cX13_execute 10 = .ok (.aload_n 0, 1) := by decide +kernel
theorem dX13_execute_11 : decode cX13_execute 11 = .ok (.iconst 0, 1) := by decide +kernel
theorem dX13_execute_12 : decode cX13_execute 12 = .ok (.putfield 261, 3) := by decide +kernel
theorem dX13_execute_15 : decode cX13_execute 15 = .ok (.aload_n 0, 1) := by decide +kernel
theorem dX13_execute_16 : decode cX13_execute 16 = .ok (.invokevirtual 280, 3) := by decide +kernel
theorem dX13_execute_19 : decode cX13_execute 19 = .ok (.aload_n 0, 1) := by decide +kernel
theorem dX13_execute_20 : decode cX13_execute 20 = .ok (.getfield 242, 3) := by decide +kernel
theorem dX13_execute_23 : decode cX13_execute 23 = .ok (.ifCond .ne 30, 3) := by decide +kernel
theorem dX13_execute_26 : decode cX13_execute 26 = .ok (.aload_n 0, 1) := by decide +kernel
theorem dX13_execute_27 : decode cX13_execute 27 = .ok (.iconst 0, 1) := by decide +kernel
theorem dX13_execute_28 : decode cX13_execute 28 = .ok (.invokevirtual 246, 3) := by decide +kernel
theorem dX13_execute_31 : decode cX13_execute 31 = .ok (.bipush 59, 2) := by decide +kernel
theorem dX13_execute_33 : decode cX13_execute 33 = .ok (.if_icmp .ne 20, 3) := by decide +kernel
theorem dX13_execute_36 : decode cX13_execute 36 = .ok (.aload_n 0, 1) := by decide +kernel
theorem dX13_execute_37 : decode cX13_execute 37 = .ok (.dup, 1) := by decide +kernel
theorem dX13_execute_38 : decode cX13_execute 38 = .ok (.getfield 235, 3) := by decide +kernel
theorem dX13_execute_41 : decode cX13_execute 41 = .ok (.iconst 1, 1) := by decide +kernel
theorem dX13_execute_42 : decode cX13_execute 42 = .ok (.iadd, 1) := by decide +kernel
theorem dX13_execute_43 : decode cX13_execute 43 = .ok (.putfield 235, 3) := by decide +kernel
theorem dX13_execute_46 : decode cX13_execute 46 = .ok (.aload_n 0, 1) := by decide +kernel
theorem dX13_execute_47 : decode cX13_execute 47 = .ok (.invokevirtual 280, 3) := by decide +kernel
theorem dX13_execute_50 : decode cX13_execute 50 = .ok (.goto (-31), 3) := by decide +kernel
theorem dX13_execute_53 : decode cX13_execute 53 = .ok (.aload_n 0, 1) := by decide +kernel
theorem dX13_execute_54 : decode cX13_execute 54 = .ok (.aload_n 0, 1) := by decide +kernel
theorem dX13_execute_55 : decode cX13_execute 55 = .ok (.getfield 242, 3) := by decide +kernel
theorem dX13_execute_58 : decode cX13_execute 58 = .ok (.ifCond .ne 14, 3) := by decide +kernel
theorem dX13_execute_61 : decode cX13_execute 61 = .ok (.aload_n 0, 1) := by decide +kernel
theorem dX13_execute_62 : decode cX13_execute 62 = .ok (.getfield 235, 3) := by decide +kernel
theorem dX13_execute_65 : decode cX13_execute 65 = .ok (.aload_n 0, 1) := by decide +kernel
theorem dX13_execute_66 : decode cX13_execute 66 = .ok (.getfield 232, 3) := by decide +kernel
theorem dX13_execute_69 : decode cX13_execute 69 = .ok (.if_icmp .ge 7, 3) := by decide +kernel
theorem dX13_execute_72 : decode cX13_execute 72 = .ok (.iconst 1, 1) := by decide +kernel
theorem dX13_execute_73 : decode cX13_execute 73 = .ok (.goto 4, 3) := by decide +kernel
theorem dX13_execute_76 : decode cX13_execute 76 = .ok (.iconst 0, 1) := by decide +kernel
theorem dX13_execute_77 : decode cX13_execute 77 = .ok (.putfield 242, 3) := by decide +kernel
theorem dX13_execute_80 : decode cX13_execute 80 = .ok (.aload_n 0, 1) := by decide +kernel
theorem dX13_execute_81 : decode cX13_execute 81 = .ok (.aload_n 0, 1) := by decide +kernel
theorem dX13_execute_82 : decode cX13_execute 82 = .ok (.getfield 242, 3) := by decide +kernel
theorem dX13_execute_85 : decode cX13_execute 85 = .ok (.ifCond .eq 10, 3) := by decide +kernel
theorem dX13_execute_88 : decode cX13_execute 88 = .ok (.aload_n 0, 1) := by decide +kernel
theorem dX13_execute_89 : decode cX13_execute 89 = .ok (.getfield 235, 3) := by decide +kernel
theorem dX13_execute_92 : decode cX13_execute 92 = .ok (.goto 7, 3) := by decide +kernel
theorem dX13_execute_95 : decode cX13_execute 95 = .ok (.aload_n 0, 1) := by decide +kernel
theorem dX13_execute_96 : decode cX13_execute 96 = .ok (.getfield 45, 3) := by decide +kernel
theorem dX13_execute_99 : decode cX13_execute 99 = .ok (.putfield 45, 3) := by decide +kernel
theorem dX13_execute_102 : decode cX13_execute 102 = .ok (.aload_n 0, 1) := by decide +kernel
theorem dX13_execute_103 : decode cX13_execute 103 = .ok (.iconst 0, 1) := by decide +kernel
theorem dX13_execute_104 : decode cX13_execute 104 = .ok (.putfield 232, 3) := by decide +kernel
theorem dX13_execute_107 : decode cX13_execute 107 = .ok (.aload_n 0, 1) := by decide +kernel
theorem dX13_execute_108 : decode cX13_execute 108 = .ok (.getfield 242, 3) := by decide +kernel
theorem dX13_execute_111 : decode cX13_execute 111 = .ok (.ifCond .eq 9, 3) := by decide +kernel
theorem dX13_execute_114 : decode cX13_execute 114 = .ok (.aload_n 0, 1) := by decide +kernel
theorem dX13_execute_115 : decode cX13_execute 115 = .ok (.iconst 1, 1) := by decide +kernel
theorem dX13_execute_116 : decode cX13_execute 116 = .ok (.invokevirtual 82, 3) := by decide +kernel
theorem dX13_execute_119 : decode cX13_execute 119 = .ok (.ireturn, 1) := by decide +kernel
theorem dX13_execute_120 : decode cX13_execute 120 = .ok (.aload_n 0, 1) := by decide +kernel
theorem dX13_execute_121 : decode cX13_execute 121 = .ok (.invokevirtual 94, 3) := by decide +kernel
theorem dX13_execute_124 : decode cX13_execute 124 = .ok (.iconst 0, 1) := by decide +kernel
theorem dX13_execute_125 : decode cX13_execute 125 = .ok (.istore_n 1, 1) := by decide +kernel
theorem dX13_execute_126 : decode cX13_execute 126 = .ok (.iload_n 1, 1) := by decide +kernel
theorem dX13_execute_127 : decode cX13_execute 127 = .ok (.aload_n 0, 1) := by decide +kernel
theorem dX13_execute_128 : decode cX13_execute 128 = .ok (.getfield 261, 3) := by decide +kernel
theorem dX13_execute_131 : decode cX13_execute 131 = .ok (.if_icmp .ge 36, 3) := by decide +kernel
theorem dX13_execute_134 : decode cX13_execute 134 = .ok (.aload_n 0, 1) := by decide +kernel
theorem dX13_execute_135 : decode cX13_execute 135 = .ok (.iload_n 1, 1) := by decide +kernel
theorem dX13_execute_136 : decode cX13_execute 136 = .ok (.invokevirtual 283, 3) := by decide +kernel
theorem dX13_execute_139 : decode cX13_execute 139 = .ok (.aload_n 0, 1) := by decide +kernel
theorem dX13_execute_140 : decode cX13_execute 140 = .ok (.getfield 55, 3) := by decide +kernel
theorem dX13_execute_143 : decode cX13_execute 143 = .ok (.ifCond .le 18, 3) := by decide +kernel
theorem dX13_execute_146 : decode cX13_execute 146 = .ok (.aload_n 0, 1) := by decide +kernel
theorem dX13_execute_147 : decode cX13_execute 147 = .ok (.iload_n 1, 1) := by decide +kernel
theorem dX13_execute_148 : decode cX13_execute 148 = .ok (.putfield 49, 3) := by decide +kernel
theorem dX13_execute_151 : decode cX13_execute 151 = .ok (.aload_n 0, 1) := by decide +kernel
theorem dX13_execute_152 : decode cX13_execute 152 = .ok (.aload_n 0, 1) := by decide +kernel
theorem dX13_execute_153 : decode cX13_execute 153 = .ok (.iconst 2, 1) := by decide +kernel
theorem dX13_execute_154 : decode cX13_execute 154 = .ok (.invokevirtual 82, 3) := by decide +kernel
theorem dX13_execute_157 : decode cX13_execute 157 = .ok (.invokevirtual 100, 3) := by decide +kernel
theorem dX13_execute_160 : decode cX13_execute 160 = .ok (.ireturn, 1) := by decide +kernel
theorem dX13_execute_161 : decode cX13_execute 161 = .ok (.iinc 1 1, 3) := by decide +kernel
theorem dX13_execute_164 : decode cX13_execute 164 = .ok (.goto (-38), 3) := by decide +kernel
theorem dX13_execute_167 : decode cX13_execute 167 = .ok (.aload_n 0, 1) := by decide +kernel
theorem dX13_execute_168 : decode cX13_execute 168 = .ok (.aload_n 0, 1) := by decide +kernel
theorem dX13_execute_169 : decode cX13_execute 169 = .ok (.getfield 261, 3) := by decide +kernel
theorem dX13_execute_172 : decode cX13_execute 172 = .ok (.invokevirtual 100, 3) := by decide +kernel
theorem dX13_execute_175 : decode cX13_execute 175 = .ok (.ireturn, 1) := by decide +kernel
theorem dX13_errorPosition_0 : decode cX13_errorPosition 0 = .ok (.aload_n 0, 1) := by decide +kernel
theorem dX13_errorPosition_1 : decode cX13_errorPosition 1 = .ok (.aload_n 0, 1) := by decide +kernel
theorem dX13_errorPosition_2 : decode cX13_errorPosition 2 = .ok (.getfield 45, 3) := by decide +kernel
theorem dX13_errorPosition_5 : decode cX13_errorPosition 5 = .ok (.ifCond .lt 7, 3) := by decide +kernel
theorem dX13_errorPosition_8 : decode cX13_errorPosition 8 = .ok (.iconst 1, 1) := by decide +kernel
theorem dX13_errorPosition_9 : decode cX13_errorPosition 9 = .ok (.goto 4, 3) := by decide +kernel
theorem dX13_errorPosition_12 : decode cX13_errorPosition 12 = .ok (.iconst 0, 1) := by decide +kernel
theorem dX13_errorPosition_13 : decode cX13_errorPosition 13 = .ok (.invokevirtual 126, 3) := by decide +kernel
theorem dX13_errorPosition_16 : decode cX13_errorPosition 16 = .ok (.ifCond .eq 10, 3) := by decide +kernel
theorem dX13_errorPosition_19 : decode cX13_errorPosition 19 = .ok (.aload_n 0, 1) := by decide +kernel
theorem dX13_errorPosition_20 : decode cX13_errorPosition 20 = .ok (.getfield 45, 3) := by decide +kernel
theorem dX13_errorPosition_23 : decode cX13_errorPosition 23 = .ok (.goto 4, 3) := by decide +kernel
theorem dX13_errorPosition_26 : decode cX13_errorPosition 26 = .ok (.iconst 0, 1) := by decide +kernel
theorem dX13_errorPosition_27 : decode cX13_errorPosition 27 = .ok (.ireturn, 1) := by decide +kernel
theorem dX13_failedCommand_0 : decode cX13_failedCommand 0 = .ok (.aload_n 0, 1) := by decide +kernel
theorem dX13_failedCommand_1 : decode cX13_failedCommand 1 = .ok (.aload_n 0, 1) := by decide +kernel
theorem dX13_failedCommand_2 : decode cX13_failedCommand 2 = .ok (.getfield 49, 3) := by decide +kernel
theorem dX13_failedCommand_5 : decode cX13_failedCommand 5 = .ok (.ifCond .lt 7, 3) := by decide +kernel
theorem dX13_failedCommand_8 : decode cX13_failedCommand 8 = .ok (.iconst 1, 1) := by decide +kernel
theorem dX13_failedCommand_9 : decode cX13_failedCommand 9 = .ok (.goto 4, 3) := by decide +kernel
theorem dX13_failedCommand_12 : decode cX13_failedCommand 12 = .ok (.iconst 0, 1) := by decide +kernel
theorem dX13_failedCommand_13 : decode cX13_failedCommand 13 = .ok (.invokevirtual 126, 3) := by decide +kernel
theorem dX13_failedCommand_16 : decode cX13_failedCommand 16 = .ok (.ifCond .eq 10, 3) := by decide +kernel
theorem dX13_failedCommand_19 : decode cX13_failedCommand 19 = .ok (.aload_n 0, 1) := by decide +kernel
theorem dX13_failedCommand_20 : decode cX13_failedCommand 20 = .ok (.getfield 49, 3) := by decide +kernel
theorem dX13_failedCommand_23 : decode cX13_failedCommand 23 = .ok (.goto 4, 3) := by decide +kernel
theorem dX13_failedCommand_26 : decode cX13_failedCommand 26 = .ok (.iconst 0, 1) := by decide +kernel
theorem dX13_failedCommand_27 : decode cX13_failedCommand 27 = .ok (.ireturn, 1) := by decide +kernel
theorem dX13_undo_0 : decode cX13_undo 0 = .ok (.aload_n 0, 1) := by decide +kernel
theorem dX13_undo_1 : decode cX13_undo 1 = .ok (.aload_n 0, 1) := by decide +kernel
theorem dX13_undo_2 : decode cX13_undo 2 = .ok (.getfield 64, 3) := by decide +kernel
theorem dX13_undo_5 : decode cX13_undo 5 = .ok (.ifCond .ne 7, 3) := by decide +kernel
theorem dX13_undo_8 : decode cX13_undo 8 = .ok (.iconst 1, 1) := by decide +kernel
theorem dX13_undo_9 : decode cX13_undo 9 = .ok (.goto 4, 3) := by decide +kernel
theorem dX13_undo_12 : decode cX13_undo 12 = .ok (.iconst 0, 1) := by decide +kernel
theorem dX13_undo_13 : decode cX13_undo 13 = .ok (.putfield 55, 3) := by decide +kernel
theorem dX13_undo_16 : decode cX13_undo 16 = .ok (.aload_n 0, 1) := by decide +kernel
theorem dX13_undo_17 : decode cX13_undo 17 = .ok (.getfield 55, 3) := by decide +kernel
theorem dX13_undo_20 : decode cX13_undo 20 = .ok (.ifCond .le 5, 3) := by decide +kernel
theorem dX13_undo_23 : decode cX13_undo 23 = .ok (.iconst 0, 1) := by decide +kernel
theorem dX13_undo_24 : decode cX13_undo 24 = .ok (.ireturn, 1) := by decide +kernel
theorem dX13_undo_25 : decode cX13_undo 25 = .ok (.aload_n 0, 1) := by decide +kernel
theorem dX13_undo_26 : decode cX13_undo 26 = .ok (.dup, 1) := by decide +kernel
theorem dX13_undo_27 : decode cX13_undo 27 = .ok (.getfield 64, 3) := by decide +kernel
theorem dX13_undo_30 : decode cX13_undo 30 = .ok (.iconst 1, 1) := by decide +kernel
theorem dX13_undo_31 : decode cX13_undo 31 = .ok (.isub, 1) := by decide +kernel
theorem dX13_undo_32 : decode cX13_undo 32 = .ok (.putfield 64, 3) := by decide +kernel
theorem dX13_undo_35 : decode cX13_undo 35 = .ok (.aload_n 0, 1) := by decide +kernel
theorem dX13_undo_36 : decode cX13_undo 36 = .ok (.getfield 19, 3) := by decide +kernel
theorem dX13_undo_39 : decode cX13_undo 39 = .ok (.sipush 2439, 3) := by decide +kernel
theorem dX13_undo_42 : decode cX13_undo 42 = .ok (.aload_n 0, 1) := by decide +kernel
theorem dX13_undo_43 : decode cX13_undo 43 = .ok (.getfield 64, 3) := by decide +kernel
theorem dX13_undo_46 : decode cX13_undo 46 = .ok (.imul, 1) := by decide +kernel
theorem dX13_undo_47 : decode cX13_undo 47 = .ok (.aload_n 0, 1) := by decide +kernel
theorem dX13_undo_48 : decode cX13_undo 48 = .ok (.getfield 9, 3) := by decide +kernel
theorem dX13_undo_51 : decode cX13_undo 51 = .ok (.iconst 0, 1) := by decide +kernel
theorem dX13_undo_52 : decode cX13_undo 52 = .ok (.sipush 2439, 3) := by decide +kernel
theorem dX13_undo_55 : decode cX13_undo 55 = .ok (.invokestatic 58, 3) := by decide +kernel
theorem dX13_undo_58 : decode cX13_undo 58 = .ok (.aload_n 0, 1) := by decide +kernel
theorem dX13_undo_59 : decode cX13_undo 59 = .ok (.getfield 64, 3) := by decide +kernel
theorem dX13_undo_62 : decode cX13_undo 62 = .ok (.ireturn, 1) := by decide +kernel
theorem dX13_undoCount_0 : decode cX13_undoCount 0 = .ok (.aload_n 0, 1) := by decide +kernel
theorem dX13_undoCount_1 : decode cX13_undoCount 1 = .ok (.iconst 0, 1) := by decide +kernel
theorem dX13_undoCount_2 : decode cX13_undoCount 2 = .ok (.putfield 55, 3) := by decide +kernel
theorem dX13_undoCount_5 : decode cX13_undoCount 5 = .ok (.aload_n 0, 1) := by decide +kernel
theorem dX13_undoCount_6 : decode cX13_undoCount 6 = .ok (.getfield 64, 3) := by decide +kernel
theorem dX13_undoCount_9 : decode cX13_undoCount 9 = .ok (.ireturn, 1) := by decide +kernel
theorem dX13_save_0 : decode cX13_save 0 = .ok (.aload_n 0, 1) := by decide +kernel
theorem dX13_save_1 : decode cX13_save 1 = .ok (.iconst 0, 1) := by decide +kernel
theorem dX13_save_2 : decode cX13_save 2 = .ok (.putfield 55, 3) := by decide +kernel
theorem dX13_save_5 : decode cX13_save 5 = .ok (.aload_n 0, 1) := by decide +kernel
theorem dX13_save_6 : decode cX13_save 6 = .ok (.getfield 9, 3) := by decide +kernel
theorem dX13_save_9 : decode cX13_save 9 = .ok (.iconst 0, 1) := by decide +kernel
theorem dX13_save_10 : decode cX13_save 10 = .ok (.aload_n 0, 1) := by decide +kernel
theorem dX13_save_11 : decode cX13_save 11 = .ok (.getfield 16, 3) := by decide +kernel
theorem dX13_save_14 : decode cX13_save 14 = .ok (.iconst 0, 1) := by decide +kernel
theorem dX13_save_15 : decode cX13_save 15 = .ok (.sipush 2439, 3) := by decide +kernel
theorem dX13_save_18 : decode cX13_save 18 = .ok (.invokestatic 58, 3) := by decide +kernel
theorem dX13_save_21 : decode cX13_save 21 = .ok (.aload_n 0, 1) := by decide +kernel
theorem dX13_save_22 : decode cX13_save 22 = .ok (.iconst 1, 1) := by decide +kernel
theorem dX13_save_23 : decode cX13_save 23 = .ok (.putfield 286, 3) := by decide +kernel
theorem dX13_save_26 : decode cX13_save 26 = .ok (.aload_n 0, 1) := by decide +kernel
theorem dX13_save_27 : decode cX13_save 27 = .ok (.getfield 9, 3) := by decide +kernel
theorem dX13_save_30 : decode cX13_save 30 = .ok (.iconst 0, 1) := by decide +kernel
theorem dX13_save_31 : decode cX13_save 31 = .ok (.iaload, 1) := by decide +kernel
theorem dX13_save_32 : decode cX13_save 32 = .ok (.ireturn, 1) := by decide +kernel
theorem dX13_restore_0 : decode cX13_restore 0 = .ok (.aload_n 0, 1) := by decide +kernel
theorem dX13_restore_1 : decode cX13_restore 1 = .ok (.aload_n 0, 1) := by decide +kernel
theorem dX13_restore_2 : decode cX13_restore 2 = .ok (.getfield 286, 3) := by decide +kernel
theorem dX13_restore_5 : decode cX13_restore 5 = .ok (.ifCond .eq 7, 3) := by decide +kernel
theorem dX13_restore_8 : decode cX13_restore 8 = .ok (.iconst 0, 1) := by decide +kernel
theorem dX13_restore_9 : decode cX13_restore 9 = .ok (.goto 4, 3) := by decide +kernel
theorem dX13_restore_12 : decode cX13_restore 12 = .ok (.iconst 1, 1) := by decide +kernel
theorem dX13_restore_13 : decode cX13_restore 13 = .ok (.putfield 55, 3) := by decide +kernel
theorem dX13_restore_16 : decode cX13_restore 16 = .ok (.aload_n 0, 1) := by decide +kernel
theorem dX13_restore_17 : decode cX13_restore 17 = .ok (.getfield 55, 3) := by decide +kernel
theorem dX13_restore_20 : decode cX13_restore 20 = .ok (.ifCond .le 5, 3) := by decide +kernel
theorem dX13_restore_23 : decode cX13_restore 23 = .ok (.iconst 0, 1) := by decide +kernel
theorem dX13_restore_24 : decode cX13_restore 24 = .ok (.ireturn, 1) := by decide +kernel
theorem dX13_restore_25 : decode cX13_restore 25 = .ok (.aload_n 0, 1) := by decide +kernel
theorem dX13_restore_26 : decode cX13_restore 26 = .ok (.getfield 16, 3) := by decide +kernel
theorem dX13_restore_29 : decode cX13_restore 29 = .ok (.iconst 0, 1) := by decide +kernel
theorem dX13_restore_30 : decode cX13_restore 30 = .ok (.aload_n 0, 1) := by decide +kernel
theorem dX13_restore_31 : decode cX13_restore 31 = .ok (.getfield 9, 3) := by decide +kernel
theorem dX13_restore_34 : decode cX13_restore 34 = .ok (.iconst 0, 1) := by decide +kernel
theorem dX13_restore_35 : decode cX13_restore 35 = .ok (.sipush 2439, 3) := by decide +kernel
theorem dX13_restore_38 : decode cX13_restore 38 = .ok (.invokestatic 58, 3) := by decide +kernel
theorem dX13_restore_41 : decode cX13_restore 41 = .ok (.aload_n 0, 1) := by decide +kernel
theorem dX13_restore_42 : decode cX13_restore 42 = .ok (.iconst 0, 1) := by decide +kernel
theorem dX13_restore_43 : decode cX13_restore 43 = .ok (.putfield 64, 3) := by decide +kernel
theorem dX13_restore_46 : decode cX13_restore 46 = .ok (.aload_n 0, 1) := by decide +kernel
theorem dX13_restore_47 : decode cX13_restore 47 = .ok (.getfield 9, 3) := by decide +kernel
theorem dX13_restore_50 : decode cX13_restore 50 = .ok (.iconst 0, 1) := by decide +kernel
theorem dX13_restore_51 : decode cX13_restore 51 = .ok (.iaload, 1) := by decide +kernel
theorem dX13_restore_52 : decode cX13_restore 52 = .ok (.ireturn, 1) := by decide +kernel
