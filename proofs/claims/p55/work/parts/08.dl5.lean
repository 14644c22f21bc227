theorem dL_issues_397 : decode cL_issues 397 = .ok (.bipush 99, 2) := by decide +kernel
theorem dL_issues_399 : decode cL_issues 399 = .ok (.invokestatic 354, 3) := by decide +kernel
theorem dL_issues_402 : decode cL_issues 402 = .ok (.bipush (-13), 2) := by decide +kernel
theorem dL_issues_404 : decode cL_issues 404 = .ok (.if_icmp .ne 29, 3) := by decide +kernel
theorem dL_issues_407 : decode cL_issues 407 = .ok (.aload_n 0, 1) := by decide +kernel
theorem dL_issues_408 : decode cL_issues 408 = .ok (.bipush 99, 2) := by decide +kernel
theorem dL_issues_410 : decode cL_issues 410 = .ok (.invokestatic 352, 3) := by decide +kernel
theorem dL_issues_413 : decode cL_issues 413 = .ok (.bipush (-13), 2) := by decide +kernel
theorem dL_issues_415 : decode cL_issues 415 = .ok (.if_icmp .ne 18, 3) := by decide +kernel
theorem dL_issues_418 : decode cL_issues 418 = .ok (.aload_n 0, 1) := by decide +kernel
theorem dL_issues_419 : decode cL_issues 419 = .ok (.bipush 99, 2) := by decide +kernel
theorem dL_issues_421 : decode cL_issues 421 = .ok (.invokestatic 367, 3) := by decide +kernel
theorem dL_issues_424 : decode cL_issues 424 = .ok (.bipush (-13), 2) := by decide +kernel
theorem dL_issues_426 : decode cL_issues 426 = .ok (.if_icmp .ne 7, 3) := by decide +kernel
theorem dL_issues_429 : decode cL_issues 429 = .ok (.iconst 1, 1) := by decide +kernel
theorem dL_issues_430 : decode cL_issues 430 = .ok (.goto 4, 3) := by decide +kernel
theorem dL_issues_433 : decode cL_issues 433 = .ok (.iconst 0, 1) := by decide +kernel
theorem dL_issues_434 : decode cL_issues 434 = .ok (.ireturn, 1) := by decide +kernel
theorem dL_sum_0 : decode cL_sum 0 = .ok (.ldc2_w 386, 3) := by decide +kernel
theorem dL_sum_3 : decode cL_sum 3 = .ok (.aload_n 0, 1) := by decide +kernel
theorem dL_sum_4 : decode cL_sum 4 = .ok (.invokevirtual 307, 3) := by decide +kernel
theorem dL_sum_7 : decode cL_sum 7 = .ok (.i2l, 1) := by decide +kernel
theorem dL_sum_8 : decode cL_sum 8 = .ok (.ladd, 1) := by decide +kernel
theorem dL_sum_9 : decode cL_sum 9 = .ok (.lstore_n 1, 1) := by decide +kernel
theorem dL_sum_10 : decode cL_sum 10 = .ok (.ldc2_w 388, 3) := by decide +kernel
theorem dL_sum_13 : decode cL_sum 13 = .ok (.lload_n 1, 1) := by decide +kernel
theorem dL_sum_14 : decode cL_sum 14 = .ok (.lmul, 1) := by decide +kernel
theorem dL_sum_15 : decode cL_sum 15 = .ok (.bipush 100, 2) := by decide +kernel
theorem dL_sum_17 : decode cL_sum 17 = .ok (.aload_n 0, 1) := by decide +kernel
theorem dL_sum_18 : decode cL_sum 18 = .ok (.invokevirtual 390, 3) := by decide +kernel
theorem dL_sum_21 : decode cL_sum 21 = .ok (.imul, 1) := by decide +kernel
theorem dL_sum_22 : decode cL_sum 22 = .ok (.i2l, 1) := by decide +kernel
theorem dL_sum_23 : decode cL_sum 23 = .ok (.ladd, 1) := by decide +kernel
theorem dL_sum_24 : decode cL_sum 24 = .ok (.aload_n 0, 1) := by decide +kernel
theorem dL_sum_25 : decode cL_sum 25 = .ok (.invokevirtual 393, 3) := by decide +kernel
theorem dL_sum_28 : decode cL_sum 28 = .ok (.i2l, 1) := by decide +kernel
theorem dL_sum_29 : decode cL_sum 29 = .ok (.ladd, 1) := by decide +kernel
theorem dL_sum_30 : decode cL_sum 30 = .ok (.lstore_n 1, 1) := by decide +kernel
theorem dL_sum_31 : decode cL_sum 31 = .ok (.iconst 0, 1) := by decide +kernel
theorem dL_sum_32 : decode cL_sum 32 = .ok (.istore_n 3, 1) := by decide +kernel
theorem dL_sum_33 : decode cL_sum 33 = .ok (.iload_n 3, 1) := by decide +kernel
theorem dL_sum_34 : decode cL_sum 34 = .ok (.aload_n 0, 1) := by decide +kernel
theorem dL_sum_35 : decode cL_sum 35 = .ok (.invokevirtual 258, 3) := by decide +kernel
theorem dL_sum_38 : decode cL_sum 38 = .ok (.if_icmp .ge 75, 3) := by decide +kernel
theorem dL_sum_41 : decode cL_sum 41 = .ok (.aload_n 0, 1) := by decide +kernel
theorem dL_sum_42 : decode cL_sum 42 = .ok (.iload_n 3, 1) := by decide +kernel
theorem dL_sum_43 : decode cL_sum 43 = .ok (.invokevirtual 35, 3) := by decide +kernel
theorem dL_sum_46 : decode cL_sum 46 = .ok (.istore 4, 2) := by decide +kernel
theorem dL_sum_48 : decode cL_sum 48 = .ok (.ldc2_w 396, 3) := by decide +kernel
theorem dL_sum_51 : decode cL_sum 51 = .ok (.lload_n 1, 1) := by decide +kernel
theorem dL_sum_52 : decode cL_sum 52 = .ok (.lmul, 1) := by decide +kernel
theorem dL_sum_53 : decode cL_sum 53 = .ok (.bipush 10, 2) := by decide +kernel
theorem dL_sum_55 : decode cL_sum 55 = .ok (.iload 4, 2) := by decide +kernel
theorem dL_sum_57 : decode cL_sum 57 = .ok (.imul, 1) := by decide +kernel
theorem dL_sum_58 : decode cL_sum 58 = .ok (.i2l, 1) := by decide +kernel
theorem dL_sum_59 : decode cL_sum 59 = .ok (.ladd, 1) := by decide +kernel
theorem dL_sum_60 : decode cL_sum 60 = .ok (.aload_n 0, 1) := by decide +kernel
theorem dL_sum_61 : decode cL_sum 61 = .ok (.iload 4, 2) := by decide +kernel
theorem dL_sum_63 : decode cL_sum 63 = .ok (.invokevirtual 41, 3) := by decide +kernel
theorem dL_sum_66 : decode cL_sum 66 = .ok (.i2l, 1) := by decide +kernel
theorem dL_sum_67 : decode cL_sum 67 = .ok (.ladd, 1) := by decide +kernel
theorem dL_sum_68 : decode cL_sum 68 = .ok (.lstore_n 1, 1) := by decide +kernel
theorem dL_sum_69 : decode cL_sum 69 = .ok (.aload_n 0, 1) := by decide +kernel
theorem dL_sum_70 : decode cL_sum 70 = .ok (.iload 4, 2) := by decide +kernel
theorem dL_sum_72 : decode cL_sum 72 = .ok (.invokestatic 215, 3) := by decide +kernel
theorem dL_sum_75 : decode cL_sum 75 = .ok (.istore 5, 2) := by decide +kernel
theorem dL_sum_77 : decode cL_sum 77 = .ok (.iconst 0, 1) := by decide +kernel
theorem dL_sum_78 : decode cL_sum 78 = .ok (.istore 6, 2) := by decide +kernel
theorem dL_sum_80 : decode cL_sum 80 = .ok (.iload 6, 2) := by decide +kernel
theorem dL_sum_82 : decode cL_sum 82 = .ok (.iload 5, 2) := by decide +kernel
theorem dL_sum_84 : decode cL_sum 84 = .ok (.if_icmp .ge 23, 3) := by decide +kernel
theorem dL_sum_87 : decode cL_sum 87 = .ok (.ldc2_w 398, 3) := by decide +kernel
theorem dL_sum_90 : decode cL_sum 90 = .ok (.lload_n 1, 1) := by decide +kernel
theorem dL_sum_91 : decode cL_sum 91 = .ok (.lmul, 1) := by decide +kernel
theorem dL_sum_92 : decode cL_sum 92 = .ok (.aload_n 0, 1) := by decide +kernel
theorem dL_sum_93 : decode cL_sum 93 = .ok (.iload 6, 2) := by decide +kernel
theorem dL_sum_95 : decode cL_sum 95 = .ok (.invokestatic 212, 3) := by decide +kernel
theorem dL_sum_98 : decode cL_sum 98 = .ok (.i2l, 1) := by decide +kernel
theorem dL_sum_99 : decode cL_sum 99 = .ok (.ladd, 1) := by decide +kernel
theorem dL_sum_100 : decode cL_sum 100 = .ok (.lstore_n 1, 1) := by decide +kernel
theorem dL_sum_101 : decode cL_sum 101 = .ok (.iinc 6 1, 3) := by decide +kernel
theorem dL_sum_104 : decode cL_sum 104 = .ok (.goto (-24), 3) := by decide +kernel
theorem dL_sum_107 : decode cL_sum 107 = .ok (.iinc 3 1, 3) := by decide +kernel
theorem dL_sum_110 : decode cL_sum 110 = .ok (.goto (-77), 3) := by decide +kernel
theorem dL_sum_113 : decode cL_sum 113 = .ok (.iconst 0, 1) := by decide +kernel
theorem dL_sum_114 : decode cL_sum 114 = .ok (.istore_n 3, 1) := by decide +kernel
theorem dL_sum_115 : decode cL_sum 115 = .ok (.iload_n 3, 1) := by decide +kernel
theorem dL_sum_116 : decode cL_sum 116 = .ok (.bipush 20, 2) := by decide +kernel
theorem dL_sum_118 : decode cL_sum 118 = .ok (.if_icmp .ge 92, 3) := by decide +kernel
theorem dL_sum_121 : decode cL_sum 121 = .ok (.aload_n 0, 1) := by decide +kernel
theorem dL_sum_122 : decode cL_sum 122 = .ok (.iload_n 3, 1) := by decide +kernel
theorem dL_sum_123 : decode cL_sum 123 = .ok (.invokevirtual 345, 3) := by decide +kernel
theorem dL_sum_126 : decode cL_sum 126 = .ok (.ifCond .eq 78, 3) := by decide +kernel
theorem dL_sum_129 : decode cL_sum 129 = .ok (.ldc2_w 400, 3) := by decide +kernel
theorem dL_sum_132 : decode cL_sum 132 = .ok (.lload_n 1, 1) := by decide +kernel
theorem dL_sum_133 : decode cL_sum 133 = .ok (.lmul, 1) := by decide +kernel
theorem dL_sum_134 : decode cL_sum 134 = .ok (.bipush 100, 2) := by decide +kernel
theorem dL_sum_136 : decode cL_sum 136 = .ok (.iload_n 3, 1) := by decide +kernel
theorem dL_sum_137 : decode cL_sum 137 = .ok (.imul, 1) := by decide +kernel
theorem dL_sum_138 : decode cL_sum 138 = .ok (.i2l, 1) := by decide +kernel
theorem dL_sum_139 : decode cL_sum 139 = .ok (.ladd, 1) := by decide +kernel
theorem dL_sum_140 : decode cL_sum 140 = .ok (.aload_n 0, 1) := by decide +kernel
theorem dL_sum_141 : decode cL_sum 141 = .ok (.iload_n 3, 1) := by decide +kernel
theorem dL_sum_142 : decode cL_sum 142 = .ok (.invokevirtual 95, 3) := by decide +kernel
theorem dL_sum_145 : decode cL_sum 145 = .ok (.i2l, 1) := by decide +kernel
theorem dL_sum_146 : decode cL_sum 146 = .ok (.ladd, 1) := by decide +kernel
theorem dL_sum_147 : decode cL_sum 147 = .ok (.lstore_n 1, 1) := by decide +kernel
theorem dL_sum_148 : decode cL_sum 148 = .ok (.ldc2_w 402, 3) := by decide +kernel
theorem dL_sum_151 : decode cL_sum 151 = .ok (.lload_n 1, 1) := by decide +kernel
theorem dL_sum_152 : decode cL_sum 152 = .ok (.lmul, 1) := by decide +kernel
theorem dL_sum_153 : decode cL_sum 153 = .ok (.aload_n 0, 1) := by decide +kernel
theorem dL_sum_154 : decode cL_sum 154 = .ok (.iload_n 3, 1) := by decide +kernel
theorem dL_sum_155 : decode cL_sum 155 = .ok (.invokestatic 354, 3) := by decide +kernel
theorem dL_sum_158 : decode cL_sum 158 = .ok (.i2l, 1) := by decide +kernel
theorem dL_sum_159 : decode cL_sum 159 = .ok (.ladd, 1) := by decide +kernel
theorem dL_sum_160 : decode cL_sum 160 = .ok (.lstore_n 1, 1) := by decide +kernel
theorem dL_sum_161 : decode cL_sum 161 = .ok (.iconst 0, 1) := by decide +kernel
theorem dL_sum_162 : decode cL_sum 162 = .ok (.istore 4, 2) := by decide +kernel
theorem dL_sum_164 : decode cL_sum 164 = .ok (.iload 4, 2) := by decide +kernel
theorem dL_sum_166 : decode cL_sum 166 = .ok (.bipush 12, 2) := by decide +kernel
theorem dL_sum_168 : decode cL_sum 168 = .ok (.if_icmp .ge 36, 3) := by decide +kernel
theorem dL_sum_171 : decode cL_sum 171 = .ok (.ldc2_w 404, 3) := by decide +kernel
theorem dL_sum_174 : decode cL_sum 174 = .ok (.lload_n 1, 1) := by decide +kernel
theorem dL_sum_175 : decode cL_sum 175 = .ok (.lmul, 1) := by decide +kernel
theorem dL_sum_176 : decode cL_sum 176 = .ok (.bipush 30, 2) := by decide +kernel
theorem dL_sum_178 : decode cL_sum 178 = .ok (.aload_n 0, 1) := by decide +kernel
theorem dL_sum_179 : decode cL_sum 179 = .ok (.iload_n 3, 1) := by decide +kernel
theorem dL_sum_180 : decode cL_sum 180 = .ok (.iload 4, 2) := by decide +kernel
theorem dL_sum_182 : decode cL_sum 182 = .ok (.invokestatic 363, 3) := by decide +kernel
theorem dL_sum_185 : decode cL_sum 185 = .ok (.imul, 1) := by decide +kernel
theorem dL_sum_186 : decode cL_sum 186 = .ok (.i2l, 1) := by decide +kernel
theorem dL_sum_187 : decode cL_sum 187 = .ok (.ladd, 1) := by decide +kernel
theorem dL_sum_188 : decode cL_sum 188 = .ok (.aload_n 0, 1) := by decide +kernel
theorem dL_sum_189 : decode cL_sum 189 = .ok (.iload_n 3, 1) := by decide +kernel
theorem dL_sum_190 : decode cL_sum 190 = .ok (.iload 4, 2) := by decide +kernel
theorem dL_sum_192 : decode cL_sum 192 = .ok (.invokestatic 365, 3) := by decide +kernel
theorem dL_sum_195 : decode cL_sum 195 = .ok (.i2l, 1) := by decide +kernel
theorem dL_sum_196 : decode cL_sum 196 = .ok (.ladd, 1) := by decide +kernel
theorem dL_sum_197 : decode cL_sum 197 = .ok (.lstore_n 1, 1) := by decide +kernel
theorem dL_sum_198 : decode cL_sum 198 = .ok (.iinc 4 1, 3) := by decide +kernel
theorem dL_sum_201 : decode cL_sum 201 = .ok (.goto (-37), 3) := by decide +kernel
theorem dL_sum_204 : decode cL_sum 204 = .ok (.iinc 3 1, 3) := by decide +kernel
theorem dL_sum_207 : decode cL_sum 207 = .ok (.goto (-92), 3) := by decide +kernel
theorem dL_sum_210 : decode cL_sum 210 = .ok (.lload_n 1, 1) := by decide +kernel
theorem dL_sum_211 : decode cL_sum 211 = .ok (.lreturn, 1) := by decide +kernel
theorem dL_undone_0 : decode cL_undone 0 = .ok (.bipush 9, 2) := by decide +kernel
theorem dL_undone_2 : decode cL_undone 2 = .ok (.newarray .long, 2) := by decide +kernel
theorem dL_undone_4 : decode cL_undone 4 = .ok (.astore_n 2, 1) := by decide +kernel
theorem dL_undone_5 : decode cL_undone 5 = .ok (.iconst 0, 1) := by decide +kernel
theorem dL_undone_6 : decode cL_undone 6 = .ok (.istore_n 3, 1) := by decide +kernel
theorem dL_undone_7 : decode cL_undone 7 = .ok (.iconst 0, 1) := by decide +kernel
theorem dL_undone_8 : decode cL_undone 8 = .ok (.istore 4, 2) := by decide +kernel
theorem dL_undone_10 : decode cL_undone 10 = .ok (.iload 4, 2) := by decide +kernel
theorem dL_undone_12 : decode cL_undone 12 = .ok (.bipush 7, 2) := by decide +kernel
theorem dL_undone_14 : decode cL_undone 14 = .ok (.if_icmp .ge 358, 3) := by decide +kernel
theorem dL_undone_17 : decode cL_undone 17 = .ok (.aload_n 0, 1) := by decide +kernel
theorem dL_undone_18 : decode cL_undone 18 = .ok (.bipush 12, 2) := by decide +kernel
theorem dL_undone_20 : decode cL_undone 20 = .ok (.iload 4, 2) := by decide +kernel
theorem dL_undone_22 : decode cL_undone 22 = .ok (.iadd, 1) := by decide +kernel
theorem dL_undone_23 : decode cL_undone 23 = .ok (.invokestatic 185, 3) := by decide +kernel
theorem dL_undone_26 : decode cL_undone 26 = .ok (.iconst 1, 1) := by decide +kernel
theorem dL_undone_27 : decode cL_undone 27 = .ok (.iushr, 1) := by decide +kernel
theorem dL_undone_28 : decode cL_undone 28 = .ok (.istore 5, 2) := by decide +kernel
theorem dL_undone_30 : decode cL_undone 30 = .ok (.iload 5, 2) := by decide +kernel
theorem dL_undone_32 : decode cL_undone 32 = .ok (.iconst 4, 1) := by decide +kernel
theorem dL_undone_33 : decode cL_undone 33 = .ok (.iushr, 1) := by decide +kernel
theorem dL_undone_34 : decode cL_undone 34 = .ok (.istore 6, 2) := by decide +kernel
theorem dL_undone_36 : decode cL_undone 36 = .ok (.aload_n 2, 1) := by decide +kernel
theorem dL_undone_37 : decode cL_undone 37 = .ok (.iload_n 3, 1) := by decide +kernel
theorem dL_undone_38 : decode cL_undone 38 = .ok (.aload_n 1, 1) := by decide +kernel
theorem dL_undone_39 : decode cL_undone 39 = .ok (.invokestatic 406, 3) := by decide +kernel
theorem dL_undone_42 : decode cL_undone 42 = .ok (.lastore, 1) := by decide +kernel
theorem dL_undone_43 : decode cL_undone 43 = .ok (.iload 5, 2) := by decide +kernel
theorem dL_undone_45 : decode cL_undone 45 = .ok (.bipush 9, 2) := by decide +kernel
theorem dL_undone_47 : decode cL_undone 47 = .ok (.irem, 1) := by decide +kernel
theorem dL_undone_48 : decode cL_undone 48 = .ok (.tableswitch 222 0 7 #[48, 111, 125, 125, 164, 178, 199, 208], 48) := by decide +kernel
theorem dL_undone_96 : decode cL_undone 96 = .ok (.aload_n 1, 1) := by decide +kernel
theorem dL_undone_97 : decode cL_undone 97 = .ok (.iload 5, 2) := by decide +kernel
theorem dL_undone_99 : decode cL_undone 99 = .ok (.iconst 4, 1) := by decide +kernel
theorem dL_undone_100 : decode cL_undone 100 = .ok (.irem, 1) := by decide +kernel
theorem dL_undone_101 : decode cL_undone 101 = .ok (.ifCond .ne 29, 3) := by decide +kernel
theorem dL_undone_104 : decode cL_undone 104 = .ok (.new 162, 3) := by decide +kernel
theorem dL_undone_107 : decode cL_undone 107 = .ok (.dup, 1) := by decide +kernel
theorem dL_undone_108 : decode cL_undone 108 = .ok (.invokespecial 164, 3) := by decide +kernel
theorem dL_undone_111 : decode cL_undone 111 = .ok (.iload 6, 2) := by decide +kernel
theorem dL_undone_113 : decode cL_undone 113 = .ok (.invokestatic 189, 3) := by decide +kernel
theorem dL_undone_116 : decode cL_undone 116 = .ok (.invokevirtual 165, 3) := by decide +kernel
theorem dL_undone_119 : decode cL_undone 119 = .ok (.ldc 182, 2) := by decide +kernel
theorem dL_undone_121 : decode cL_undone 121 = .ok (.invokevirtual 165, 3) := by decide +kernel
theorem dL_undone_124 : decode cL_undone 124 = .ok (.invokevirtual 174, 3) := by decide +kernel
theorem dL_undone_127 : decode cL_undone 127 = .ok (.goto 8, 3) := by decide +kernel
theorem dL_undone_130 : decode cL_undone 130 = .ok (.iload 6, 2) := by decide +kernel
theorem dL_undone_132 : decode cL_undone 132 = .ok (.invokestatic 189, 3) := by decide +kernel
theorem dL_undone_135 : decode cL_undone 135 = .ok (.invokestatic 192, 3) := by decide +kernel
theorem dL_undone_138 : decode cL_undone 138 = .ok (.ifCond .eq 15, 3) := by decide +kernel
theorem dL_undone_141 : decode cL_undone 141 = .ok (.aload_n 1, 1) := by decide +kernel
theorem dL_undone_142 : decode cL_undone 142 = .ok (.iload 6, 2) := by decide +kernel
theorem dL_undone_144 : decode cL_undone 144 = .ok (.bipush 11, 2) := by decide +kernel
theorem dL_undone_146 : decode cL_undone 146 = .ok (.irem, 1) := by decide +kernel
theorem dL_undone_147 : decode cL_undone 147 = .ok (.invokestatic 196, 3) := by decide +kernel
theorem dL_undone_150 : decode cL_undone 150 = .ok (.goto 4, 3) := by decide +kernel
theorem dL_undone_153 : decode cL_undone 153 = .ok (.iconst 0, 1) := by decide +kernel
theorem dL_undone_154 : decode cL_undone 154 = .ok (.istore 7, 2) := by decide +kernel
theorem dL_undone_156 : decode cL_undone 156 = .ok (.goto 179, 3) := by decide +kernel
theorem dL_undone_159 : decode cL_undone 159 = .ok (.aload_n 1, 1) := by decide +kernel
theorem dL_undone_160 : decode cL_undone 160 = .ok (.iload 6, 2) := by decide +kernel
theorem dL_undone_162 : decode cL_undone 162 = .ok (.bipush 8, 2) := by decide +kernel
theorem dL_undone_164 : decode cL_undone 164 = .ok (.irem, 1) := by decide +kernel
theorem dL_undone_165 : decode cL_undone 165 = .ok (.invokestatic 410, 3) := by decide +kernel
theorem dL_undone_168 : decode cL_undone 168 = .ok (.istore 7, 2) := by decide +kernel
theorem dL_undone_170 : decode cL_undone 170 = .ok (.goto 165, 3) := by decide +kernel
theorem dL_undone_173 : decode cL_undone 173 = .ok (.aload_n 1, 1) := by decide +kernel
theorem dL_undone_174 : decode cL_undone 174 = .ok (.iload 6, 2) := by decide +kernel
theorem dL_undone_176 : decode cL_undone 176 = .ok (.invokestatic 178, 3) := by decide +kernel
theorem dL_undone_179 : decode cL_undone 179 = .ok (.invokestatic 192, 3) := by decide +kernel
theorem dL_undone_182 : decode cL_undone 182 = .ok (.ifCond .eq 24, 3) := by decide +kernel
theorem dL_undone_185 : decode cL_undone 185 = .ok (.aload_n 1, 1) := by decide +kernel
theorem dL_undone_186 : decode cL_undone 186 = .ok (.iload 6, 2) := by decide +kernel
theorem dL_undone_188 : decode cL_undone 188 = .ok (.iconst 4, 1) := by decide +kernel
theorem dL_undone_189 : decode cL_undone 189 = .ok (.iushr, 1) := by decide +kernel
theorem dL_undone_190 : decode cL_undone 190 = .ok (.bipush 7, 2) := by decide +kernel
theorem dL_undone_192 : decode cL_undone 192 = .ok (.irem, 1) := by decide +kernel
theorem dL_undone_193 : decode cL_undone 193 = .ok (.iload 6, 2) := by decide +kernel
theorem dL_undone_195 : decode cL_undone 195 = .ok (.bipush 7, 2) := by decide +kernel
theorem dL_undone_197 : decode cL_undone 197 = .ok (.iushr, 1) := by decide +kernel
theorem dL_undone_198 : decode cL_undone 198 = .ok (.iconst 4, 1) := by decide +kernel
theorem dL_undone_199 : decode cL_undone 199 = .ok (.irem, 1) := by decide +kernel
theorem dL_undone_200 : decode cL_undone 200 = .ok (.invokestatic 210, 3) := by decide +kernel
theorem dL_undone_203 : decode cL_undone 203 = .ok (.goto 4, 3) := by decide +kernel
theorem dL_undone_206 : decode cL_undone 206 = .ok (.iconst 0, 1) := by decide +kernel
theorem dL_undone_207 : decode cL_undone 207 = .ok (.istore 7, 2) := by decide +kernel
theorem dL_undone_209 : decode cL_undone 209 = .ok (.goto 126, 3) := by decide +kernel
theorem dL_undone_212 : decode cL_undone 212 = .ok (.aload_n 1, 1) := by decide +kernel
theorem dL_undone_213 : decode cL_undone 213 = .ok (.iload 6, 2) := by decide +kernel
theorem dL_undone_215 : decode cL_undone 215 = .ok (.bipush 22, 2) := by decide +kernel
theorem dL_undone_217 : decode cL_undone 217 = .ok (.irem, 1) := by decide +kernel
theorem dL_undone_218 : decode cL_undone 218 = .ok (.invokestatic 199, 3) := by decide +kernel
theorem dL_undone_221 : decode cL_undone 221 = .ok (.istore 7, 2) := by decide +kernel
theorem dL_undone_223 : decode cL_undone 223 = .ok (.goto 112, 3) := by decide +kernel
theorem dL_undone_226 : decode cL_undone 226 = .ok (.aload_n 1, 1) := by decide +kernel
theorem dL_undone_227 : decode cL_undone 227 = .ok (.iload 6, 2) := by decide +kernel
theorem dL_undone_229 : decode cL_undone 229 = .ok (.bipush 6, 2) := by decide +kernel
theorem dL_undone_231 : decode cL_undone 231 = .ok (.irem, 1) := by decide +kernel
theorem dL_undone_232 : decode cL_undone 232 = .ok (.iload 6, 2) := by decide +kernel
theorem dL_undone_234 : decode cL_undone 234 = .ok (.iconst 3, 1) := by decide +kernel
theorem dL_undone_235 : decode cL_undone 235 = .ok (.iushr, 1) := by decide +kernel
theorem dL_undone_236 : decode cL_undone 236 = .ok (.bipush 22, 2) := by decide +kernel
theorem dL_undone_238 : decode cL_undone 238 = .ok (.irem, 1) := by decide +kernel
theorem dL_undone_239 : decode cL_undone 239 = .ok (.invokestatic 201, 3) := by decide +kernel
theorem dL_undone_242 : decode cL_undone 242 = .ok (.istore 7, 2) := by decide +kernel
theorem dL_undone_244 : decode cL_undone 244 = .ok (.goto 91, 3) := by decide +kernel
theorem dL_undone_247 : decode cL_undone 247 = .ok (.aload_n 1, 1) := by decide +kernel
theorem dL_undone_248 : decode cL_undone 248 = .ok (.invokestatic 204, 3) := by decide +kernel
theorem dL_undone_251 : decode cL_undone 251 = .ok (.istore 7, 2) := by decide +kernel
theorem dL_undone_253 : decode cL_undone 253 = .ok (.goto 82, 3) := by decide +kernel
theorem dL_undone_256 : decode cL_undone 256 = .ok (.aload_n 1, 1) := by decide +kernel
theorem dL_undone_257 : decode cL_undone 257 = .ok (.iload 6, 2) := by decide +kernel
theorem dL_undone_259 : decode cL_undone 259 = .ok (.bipush 32, 2) := by decide +kernel
theorem dL_undone_261 : decode cL_undone 261 = .ok (.irem, 1) := by decide +kernel
theorem dL_undone_262 : decode cL_undone 262 = .ok (.invokestatic 207, 3) := by decide +kernel
theorem dL_undone_265 : decode cL_undone 265 = .ok (.istore 7, 2) := by decide +kernel
theorem dL_undone_267 : decode cL_undone 267 = .ok (.goto 68, 3) := by decide +kernel
theorem dL_undone_270 : decode cL_undone 270 = .ok (.aload_n 1, 1) := by decide +kernel
theorem dL_undone_271 : decode cL_undone 271 = .ok (.new 162, 3) := by decide +kernel
theorem dL_undone_274 : decode cL_undone 274 = .ok (.dup, 1) := by decide +kernel
theorem dL_undone_275 : decode cL_undone 275 = .ok (.invokespecial 164, 3) := by decide +kernel
theorem dL_undone_278 : decode cL_undone 278 = .ok (.ldc_w 413, 3) := by decide +kernel
theorem dL_undone_281 : decode cL_undone 281 = .ok (.invokevirtual 165, 3) := by decide +kernel
theorem dL_undone_284 : decode cL_undone 284 = .ok (.iconst 4, 1) := by decide +kernel
theorem dL_undone_285 : decode cL_undone 285 = .ok (.iload 6, 2) := by decide +kernel
theorem dL_undone_287 : decode cL_undone 287 = .ok (.bipush 18, 2) := by decide +kernel
theorem dL_undone_289 : decode cL_undone 289 = .ok (.irem, 1) := by decide +kernel
theorem dL_undone_290 : decode cL_undone 290 = .ok (.iadd, 1) := by decide +kernel
theorem dL_undone_291 : decode cL_undone 291 = .ok (.invokevirtual 268, 3) := by decide +kernel
theorem dL_undone_294 : decode cL_undone 294 = .ok (.ldc_w 415, 3) := by decide +kernel
theorem dL_undone_297 : decode cL_undone 297 = .ok (.invokevirtual 165, 3) := by decide +kernel
theorem dL_undone_300 : decode cL_undone 300 = .ok (.iload 6, 2) := by decide +kernel
theorem dL_undone_302 : decode cL_undone 302 = .ok (.iconst 5, 1) := by decide +kernel
theorem dL_undone_303 : decode cL_undone 303 = .ok (.iushr, 1) := by decide +kernel
theorem dL_undone_304 : decode cL_undone 304 = .ok (.bipush 9, 2) := by decide +kernel
theorem dL_undone_306 : decode cL_undone 306 = .ok (.irem, 1) := by decide +kernel
theorem dL_undone_307 : decode cL_undone 307 = .ok (.invokevirtual 268, 3) := by decide +kernel
theorem dL_undone_310 : decode cL_undone 310 = .ok (.ldc_w 417, 3) := by decide +kernel
theorem dL_undone_313 : decode cL_undone 313 = .ok (.invokevirtual 165, 3) := by decide +kernel
theorem dL_undone_316 : decode cL_undone 316 = .ok (.iload 6, 2) := by decide +kernel
theorem dL_undone_318 : decode cL_undone 318 = .ok (.bipush 9, 2) := by decide +kernel
theorem dL_undone_320 : decode cL_undone 320 = .ok (.iushr, 1) := by decide +kernel
theorem dL_undone_321 : decode cL_undone 321 = .ok (.bipush 7, 2) := by decide +kernel
theorem dL_undone_323 : decode cL_undone 323 = .ok (.irem, 1) := by decide +kernel
theorem dL_undone_324 : decode cL_undone 324 = .ok (.invokevirtual 268, 3) := by decide +kernel
theorem dL_undone_327 : decode cL_undone 327 = .ok (.invokevirtual 174, 3) := by decide +kernel
theorem dL_undone_330 : decode cL_undone 330 = .ok (.invokestatic 419, 3) := by decide +kernel
theorem dL_undone_333 : decode cL_undone 333 = .ok (.istore 7, 2) := by decide +kernel
theorem dL_undone_335 : decode cL_undone 335 = .ok (.iload 7, 2) := by decide +kernel
theorem dL_undone_337 : decode cL_undone 337 = .ok (.ifCond .ge 16, 3) := by decide +kernel
theorem dL_undone_340 : decode cL_undone 340 = .ok (.aload_n 1, 1) := by decide +kernel
theorem dL_undone_341 : decode cL_undone 341 = .ok (.invokestatic 406, 3) := by decide +kernel
theorem dL_undone_344 : decode cL_undone 344 = .ok (.aload_n 2, 1) := by decide +kernel
theorem dL_undone_345 : decode cL_undone 345 = .ok (.iload_n 3, 1) := by decide +kernel
theorem dL_undone_346 : decode cL_undone 346 = .ok (.laload, 1) := by decide +kernel
theorem dL_undone_347 : decode cL_undone 347 = .ok (.lcmp, 1) := by decide +kernel
theorem dL_undone_348 : decode cL_undone 348 = .ok (.ifCond .eq 5, 3) := by decide +kernel
theorem dL_undone_351 : decode cL_undone 351 = .ok (.iconst 0, 1) := by decide +kernel
theorem dL_undone_352 : decode cL_undone 352 = .ok (.ireturn, 1) := by decide +kernel
theorem dL_undone_353 : decode cL_undone 353 = .ok (.iload_n 3, 1) := by decide +kernel
theorem dL_undone_354 : decode cL_undone 354 = .ok (.iload 7, 2) := by decide +kernel
theorem dL_undone_356 : decode cL_undone 356 = .ok (.ifCond .ge 7, 3) := by decide +kernel
theorem dL_undone_359 : decode cL_undone 359 = .ok (.iconst 0, 1) := by decide +kernel
theorem dL_undone_360 : decode cL_undone 360 = .ok (.goto 4, 3) := by decide +kernel
theorem dL_undone_363 : decode cL_undone 363 = .ok (.iconst 1, 1) := by decide +kernel
theorem dL_undone_364 : decode cL_undone 364 = .ok (.iadd, 1) := by decide +kernel
theorem dL_undone_365 : decode cL_undone 365 = .ok (.istore_n 3, 1) := by decide +kernel
theorem dL_undone_366 : decode cL_undone 366 = .ok (.iinc 4 1, 3) := by decide +kernel
theorem dL_undone_369 : decode cL_undone 369 = .ok (.goto (-359), 3) := by decide +kernel
theorem dL_undone_372 : decode cL_undone 372 = .ok (.aload_n 1, 1) := by decide +kernel
theorem dL_undone_373 : decode cL_undone 373 = .ok (.invokevirtual 422, 3) := by decide +kernel
theorem dL_undone_376 : decode cL_undone 376 = .ok (.istore 4, 2) := by decide +kernel
theorem dL_undone_378 : decode cL_undone 378 = .ok (.iload_n 3, 1) := by decide +kernel
theorem dL_undone_379 : decode cL_undone 379 = .ok (.iconst 1, 1) := by decide +kernel
theorem dL_undone_380 : decode cL_undone 380 = .ok (.isub, 1) := by decide +kernel
theorem dL_undone_381 : decode cL_undone 381 = .ok (.istore 5, 2) := by decide +kernel
theorem dL_undone_383 : decode cL_undone 383 = .ok (.iload 5, 2) := by decide +kernel
theorem dL_undone_385 : decode cL_undone 385 = .ok (.ifCond .lt 35, 3) := by decide +kernel
theorem dL_undone_388 : decode cL_undone 388 = .ok (.iinc 4 (-1), 3) := by decide +kernel
theorem dL_undone_391 : decode cL_undone 391 = .ok (.aload_n 1, 1) := by decide +kernel
theorem dL_undone_392 : decode cL_undone 392 = .ok (.invokestatic 425, 3) := by decide +kernel
theorem dL_undone_395 : decode cL_undone 395 = .ok (.iload 4, 2) := by decide +kernel
theorem dL_undone_397 : decode cL_undone 397 = .ok (.if_icmp .ne 15, 3) := by decide +kernel
theorem dL_undone_400 : decode cL_undone 400 = .ok (.aload_n 1, 1) := by decide +kernel
theorem dL_undone_401 : decode cL_undone 401 = .ok (.invokestatic 406, 3) := by decide +kernel
theorem dL_undone_404 : decode cL_undone 404 = .ok (.aload_n 2, 1) := by decide +kernel
theorem dL_undone_405 : decode cL_undone 405 = .ok (.iload 5, 2) := by decide +kernel
theorem dL_undone_407 : decode cL_undone 407 = .ok (.laload, 1) := by decide +kernel
theorem dL_undone_408 : decode cL_undone 408 = .ok (.lcmp, 1) := by decide +kernel
theorem dL_undone_409 : decode cL_undone 409 = .ok (.ifCond .eq 5, 3) := by decide +kernel
theorem dL_undone_412 : decode cL_undone 412 = .ok (.iconst 0, 1) := by decide +kernel
theorem dL_undone_413 : decode cL_undone 413 = .ok (.ireturn, 1) := by decide +kernel
theorem dL_undone_414 : decode cL_undone 414 = .ok (.iinc 5 (-1), 3) := by decide +kernel
theorem dL_undone_417 : decode cL_undone 417 = .ok (.goto (-34), 3) := by decide +kernel
theorem dL_undone_420 : decode cL_undone 420 = .ok (.iconst 1, 1) := by decide +kernel
theorem dL_undone_421 : decode cL_undone 421 = .ok (.ireturn, 1) := by decide +kernel
