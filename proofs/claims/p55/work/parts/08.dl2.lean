theorem dL_wordsOf_39 : decode cL_wordsOf 39 = .ok (.istore 5, 2) := by decide +kernel
theorem dL_wordsOf_41 : decode cL_wordsOf 41 = .ok (.iload 5, 2) := by decide +kernel
theorem dL_wordsOf_43 : decode cL_wordsOf 43 = .ok (.aload_n 2, 1) := by decide +kernel
theorem dL_wordsOf_44 : decode cL_wordsOf 44 = .ok (.arraylength, 1) := by decide +kernel
theorem dL_wordsOf_45 : decode cL_wordsOf 45 = .ok (.if_icmp .ge 72, 3) := by decide +kernel
theorem dL_wordsOf_48 : decode cL_wordsOf 48 = .ok (.ldc 160, 2) := by decide +kernel
theorem dL_wordsOf_50 : decode cL_wordsOf 50 = .ok (.astore 6, 2) := by decide +kernel
theorem dL_wordsOf_52 : decode cL_wordsOf 52 = .ok (.iload 4, 2) := by decide +kernel
theorem dL_wordsOf_54 : decode cL_wordsOf 54 = .ok (.iload_n 3, 1) := by decide +kernel
theorem dL_wordsOf_55 : decode cL_wordsOf 55 = .ok (.if_icmp .ge 47, 3) := by decide +kernel
theorem dL_wordsOf_58 : decode cL_wordsOf 58 = .ok (.aload_n 0, 1) := by decide +kernel
theorem dL_wordsOf_59 : decode cL_wordsOf 59 = .ok (.iload 4, 2) := by decide +kernel
theorem dL_wordsOf_61 : decode cL_wordsOf 61 = .ok (.invokestatic 212, 3) := by decide +kernel
theorem dL_wordsOf_64 : decode cL_wordsOf 64 = .ok (.bipush 32, 2) := by decide +kernel
theorem dL_wordsOf_66 : decode cL_wordsOf 66 = .ok (.if_icmp .eq 36, 3) := by decide +kernel
theorem dL_wordsOf_69 : decode cL_wordsOf 69 = .ok (.new 162, 3) := by decide +kernel
theorem dL_wordsOf_72 : decode cL_wordsOf 72 = .ok (.dup, 1) := by decide +kernel
theorem dL_wordsOf_73 : decode cL_wordsOf 73 = .ok (.invokespecial 164, 3) := by decide +kernel
theorem dL_wordsOf_76 : decode cL_wordsOf 76 = .ok (.aload 6, 2) := by decide +kernel
theorem dL_wordsOf_78 : decode cL_wordsOf 78 = .ok (.invokevirtual 165, 3) := by decide +kernel
theorem dL_wordsOf_81 : decode cL_wordsOf 81 = .ok (.aload_n 0, 1) := by decide +kernel
theorem dL_wordsOf_82 : decode cL_wordsOf 82 = .ok (.iload 4, 2) := by decide +kernel
theorem dL_wordsOf_84 : decode cL_wordsOf 84 = .ok (.invokestatic 212, 3) := by decide +kernel
theorem dL_wordsOf_87 : decode cL_wordsOf 87 = .ok (.i2c, 1) := by decide +kernel
theorem dL_wordsOf_88 : decode cL_wordsOf 88 = .ok (.invokevirtual 171, 3) := by decide +kernel
theorem dL_wordsOf_91 : decode cL_wordsOf 91 = .ok (.invokevirtual 174, 3) := by decide +kernel
theorem dL_wordsOf_94 : decode cL_wordsOf 94 = .ok (.astore 6, 2) := by decide +kernel
theorem dL_wordsOf_96 : decode cL_wordsOf 96 = .ok (.iinc 4 1, 3) := by decide +kernel
theorem dL_wordsOf_99 : decode cL_wordsOf 99 = .ok (.goto (-47), 3) := by decide +kernel
theorem dL_wordsOf_102 : decode cL_wordsOf 102 = .ok (.aload_n 2, 1) := by decide +kernel
theorem dL_wordsOf_103 : decode cL_wordsOf 103 = .ok (.iload 5, 2) := by decide +kernel
theorem dL_wordsOf_105 : decode cL_wordsOf 105 = .ok (.aload 6, 2) := by decide +kernel
theorem dL_wordsOf_107 : decode cL_wordsOf 107 = .ok (.aastore, 1) := by decide +kernel
theorem dL_wordsOf_108 : decode cL_wordsOf 108 = .ok (.iinc 4 1, 3) := by decide +kernel
theorem dL_wordsOf_111 : decode cL_wordsOf 111 = .ok (.iinc 5 1, 3) := by decide +kernel
theorem dL_wordsOf_114 : decode cL_wordsOf 114 = .ok (.goto (-73), 3) := by decide +kernel
theorem dL_wordsOf_117 : decode cL_wordsOf 117 = .ok (.aload_n 2, 1) := by decide +kernel
theorem dL_wordsOf_118 : decode cL_wordsOf 118 = .ok (.areturn, 1) := by decide +kernel
theorem dL_isVowel_0 : decode cL_isVowel 0 = .ok (.ldc 217, 2) := by decide +kernel
theorem dL_isVowel_2 : decode cL_isVowel 2 = .ok (.iload_n 0, 1) := by decide +kernel
theorem dL_isVowel_3 : decode cL_isVowel 3 = .ok (.invokevirtual 219, 3) := by decide +kernel
theorem dL_isVowel_6 : decode cL_isVowel 6 = .ok (.ifCond .lt 7, 3) := by decide +kernel
theorem dL_isVowel_9 : decode cL_isVowel 9 = .ok (.iconst 1, 1) := by decide +kernel
theorem dL_isVowel_10 : decode cL_isVowel 10 = .ok (.goto 4, 3) := by decide +kernel
theorem dL_isVowel_13 : decode cL_isVowel 13 = .ok (.iconst 0, 1) := by decide +kernel
theorem dL_isVowel_14 : decode cL_isVowel 14 = .ok (.ireturn, 1) := by decide +kernel
theorem dL_divides_0 : decode cL_divides 0 = .ok (.iload_n 1, 1) := by decide +kernel
theorem dL_divides_1 : decode cL_divides 1 = .ok (.iconst 1, 1) := by decide +kernel
theorem dL_divides_2 : decode cL_divides 2 = .ok (.if_icmp .le 41, 3) := by decide +kernel
theorem dL_divides_5 : decode cL_divides 5 = .ok (.iload_n 1, 1) := by decide +kernel
theorem dL_divides_6 : decode cL_divides 6 = .ok (.aload_n 0, 1) := by decide +kernel
theorem dL_divides_7 : decode cL_divides 7 = .ok (.invokevirtual 138, 3) := by decide +kernel
theorem dL_divides_10 : decode cL_divides 10 = .ok (.iconst 1, 1) := by decide +kernel
theorem dL_divides_11 : decode cL_divides 11 = .ok (.isub, 1) := by decide +kernel
theorem dL_divides_12 : decode cL_divides 12 = .ok (.if_icmp .ge 31, 3) := by decide +kernel
theorem dL_divides_15 : decode cL_divides 15 = .ok (.aload_n 0, 1) := by decide +kernel
theorem dL_divides_16 : decode cL_divides 16 = .ok (.iload_n 1, 1) := by decide +kernel
theorem dL_divides_17 : decode cL_divides 17 = .ok (.iconst 1, 1) := by decide +kernel
theorem dL_divides_18 : decode cL_divides 18 = .ok (.isub, 1) := by decide +kernel
theorem dL_divides_19 : decode cL_divides 19 = .ok (.invokevirtual 143, 3) := by decide +kernel
theorem dL_divides_22 : decode cL_divides 22 = .ok (.invokestatic 222, 3) := by decide +kernel
theorem dL_divides_25 : decode cL_divides 25 = .ok (.ifCond .eq 18, 3) := by decide +kernel
theorem dL_divides_28 : decode cL_divides 28 = .ok (.aload_n 0, 1) := by decide +kernel
theorem dL_divides_29 : decode cL_divides 29 = .ok (.iload_n 1, 1) := by decide +kernel
theorem dL_divides_30 : decode cL_divides 30 = .ok (.invokevirtual 143, 3) := by decide +kernel
theorem dL_divides_33 : decode cL_divides 33 = .ok (.invokestatic 222, 3) := by decide +kernel
theorem dL_divides_36 : decode cL_divides 36 = .ok (.ifCond .ne 7, 3) := by decide +kernel
theorem dL_divides_39 : decode cL_divides 39 = .ok (.iconst 1, 1) := by decide +kernel
theorem dL_divides_40 : decode cL_divides 40 = .ok (.goto 4, 3) := by decide +kernel
theorem dL_divides_43 : decode cL_divides 43 = .ok (.iconst 0, 1) := by decide +kernel
theorem dL_divides_44 : decode cL_divides 44 = .ok (.ireturn, 1) := by decide +kernel
theorem dL_linesOf_0 : decode cL_linesOf 0 = .ok (.ldc 160, 2) := by decide +kernel
theorem dL_linesOf_2 : decode cL_linesOf 2 = .ok (.astore_n 2, 1) := by decide +kernel
theorem dL_linesOf_3 : decode cL_linesOf 3 = .ok (.ldc 160, 2) := by decide +kernel
theorem dL_linesOf_5 : decode cL_linesOf 5 = .ok (.astore_n 3, 1) := by decide +kernel
theorem dL_linesOf_6 : decode cL_linesOf 6 = .ok (.aload_n 0, 1) := by decide +kernel
theorem dL_linesOf_7 : decode cL_linesOf 7 = .ok (.astore 4, 2) := by decide +kernel
theorem dL_linesOf_9 : decode cL_linesOf 9 = .ok (.aload 4, 2) := by decide +kernel
theorem dL_linesOf_11 : decode cL_linesOf 11 = .ok (.arraylength, 1) := by decide +kernel
theorem dL_linesOf_12 : decode cL_linesOf 12 = .ok (.istore 5, 2) := by decide +kernel
theorem dL_linesOf_14 : decode cL_linesOf 14 = .ok (.iconst 0, 1) := by decide +kernel
theorem dL_linesOf_15 : decode cL_linesOf 15 = .ok (.istore 6, 2) := by decide +kernel
theorem dL_linesOf_17 : decode cL_linesOf 17 = .ok (.iload 6, 2) := by decide +kernel
theorem dL_linesOf_19 : decode cL_linesOf 19 = .ok (.iload 5, 2) := by decide +kernel
theorem dL_linesOf_21 : decode cL_linesOf 21 = .ok (.if_icmp .ge 266, 3) := by decide +kernel
theorem dL_linesOf_24 : decode cL_linesOf 24 = .ok (.aload 4, 2) := by decide +kernel
theorem dL_linesOf_26 : decode cL_linesOf 26 = .ok (.iload 6, 2) := by decide +kernel
theorem dL_linesOf_28 : decode cL_linesOf 28 = .ok (.aaload, 1) := by decide +kernel
theorem dL_linesOf_29 : decode cL_linesOf 29 = .ok (.astore 7, 2) := by decide +kernel
theorem dL_linesOf_31 : decode cL_linesOf 31 = .ok (.iconst 0, 1) := by decide +kernel
theorem dL_linesOf_32 : decode cL_linesOf 32 = .ok (.istore 8, 2) := by decide +kernel
theorem dL_linesOf_34 : decode cL_linesOf 34 = .ok (.iload 8, 2) := by decide +kernel
theorem dL_linesOf_36 : decode cL_linesOf 36 = .ok (.aload 7, 2) := by decide +kernel
theorem dL_linesOf_38 : decode cL_linesOf 38 = .ok (.invokevirtual 138, 3) := by decide +kernel
theorem dL_linesOf_41 : decode cL_linesOf 41 = .ok (.if_icmp .ge 240, 3) := by decide +kernel
theorem dL_linesOf_44 : decode cL_linesOf 44 = .ok (.aload_n 3, 1) := by decide +kernel
theorem dL_linesOf_45 : decode cL_linesOf 45 = .ok (.invokevirtual 138, 3) := by decide +kernel
theorem dL_linesOf_48 : decode cL_linesOf 48 = .ok (.ifCond .ne 8, 3) := by decide +kernel
theorem dL_linesOf_51 : decode cL_linesOf 51 = .ok (.ldc 160, 2) := by decide +kernel
theorem dL_linesOf_53 : decode cL_linesOf 53 = .ok (.goto 22, 3) := by decide +kernel
theorem dL_linesOf_56 : decode cL_linesOf 56 = .ok (.new 162, 3) := by decide +kernel
theorem dL_linesOf_59 : decode cL_linesOf 59 = .ok (.dup, 1) := by decide +kernel
theorem dL_linesOf_60 : decode cL_linesOf 60 = .ok (.invokespecial 164, 3) := by decide +kernel
theorem dL_linesOf_63 : decode cL_linesOf 63 = .ok (.aload_n 3, 1) := by decide +kernel
theorem dL_linesOf_64 : decode cL_linesOf 64 = .ok (.invokevirtual 165, 3) := by decide +kernel
theorem dL_linesOf_67 : decode cL_linesOf 67 = .ok (.ldc 182, 2) := by decide +kernel
theorem dL_linesOf_69 : decode cL_linesOf 69 = .ok (.invokevirtual 165, 3) := by decide +kernel
theorem dL_linesOf_72 : decode cL_linesOf 72 = .ok (.invokevirtual 174, 3) := by decide +kernel
theorem dL_linesOf_75 : decode cL_linesOf 75 = .ok (.astore 9, 2) := by decide +kernel
theorem dL_linesOf_77 : decode cL_linesOf 77 = .ok (.iload_n 1, 1) := by decide +kernel
theorem dL_linesOf_78 : decode cL_linesOf 78 = .ok (.aload 9, 2) := by decide +kernel
theorem dL_linesOf_80 : decode cL_linesOf 80 = .ok (.invokevirtual 138, 3) := by decide +kernel
theorem dL_linesOf_83 : decode cL_linesOf 83 = .ok (.isub, 1) := by decide +kernel
theorem dL_linesOf_84 : decode cL_linesOf 84 = .ok (.istore 10, 2) := by decide +kernel
theorem dL_linesOf_86 : decode cL_linesOf 86 = .ok (.iconst 0, 1) := by decide +kernel
theorem dL_linesOf_87 : decode cL_linesOf 87 = .ok (.istore 11, 2) := by decide +kernel
theorem dL_linesOf_89 : decode cL_linesOf 89 = .ok (.iload 8, 2) := by decide +kernel
theorem dL_linesOf_91 : decode cL_linesOf 91 = .ok (.iconst 1, 1) := by decide +kernel
theorem dL_linesOf_92 : decode cL_linesOf 92 = .ok (.iadd, 1) := by decide +kernel
theorem dL_linesOf_93 : decode cL_linesOf 93 = .ok (.istore 12, 2) := by decide +kernel
theorem dL_linesOf_95 : decode cL_linesOf 95 = .ok (.iload 12, 2) := by decide +kernel
theorem dL_linesOf_97 : decode cL_linesOf 97 = .ok (.aload 7, 2) := by decide +kernel
theorem dL_linesOf_99 : decode cL_linesOf 99 = .ok (.invokevirtual 138, 3) := by decide +kernel
theorem dL_linesOf_102 : decode cL_linesOf 102 = .ok (.if_icmp .ge 38, 3) := by decide +kernel
theorem dL_linesOf_105 : decode cL_linesOf 105 = .ok (.aload 7, 2) := by decide +kernel
theorem dL_linesOf_107 : decode cL_linesOf 107 = .ok (.iload 12, 2) := by decide +kernel
theorem dL_linesOf_109 : decode cL_linesOf 109 = .ok (.invokestatic 226, 3) := by decide +kernel
theorem dL_linesOf_112 : decode cL_linesOf 112 = .ok (.ifCond .eq 18, 3) := by decide +kernel
theorem dL_linesOf_115 : decode cL_linesOf 115 = .ok (.iload 12, 2) := by decide +kernel
theorem dL_linesOf_117 : decode cL_linesOf 117 = .ok (.iload 8, 2) := by decide +kernel
theorem dL_linesOf_119 : decode cL_linesOf 119 = .ok (.isub, 1) := by decide +kernel
theorem dL_linesOf_120 : decode cL_linesOf 120 = .ok (.iload 10, 2) := by decide +kernel
theorem dL_linesOf_122 : decode cL_linesOf 122 = .ok (.if_icmp .ge 8, 3) := by decide +kernel
theorem dL_linesOf_125 : decode cL_linesOf 125 = .ok (.iload 12, 2) := by decide +kernel
theorem dL_linesOf_127 : decode cL_linesOf 127 = .ok (.goto 5, 3) := by decide +kernel
theorem dL_linesOf_130 : decode cL_linesOf 130 = .ok (.iload 11, 2) := by decide +kernel
theorem dL_linesOf_132 : decode cL_linesOf 132 = .ok (.istore 11, 2) := by decide +kernel
theorem dL_linesOf_134 : decode cL_linesOf 134 = .ok (.iinc 12 1, 3) := by decide +kernel
theorem dL_linesOf_137 : decode cL_linesOf 137 = .ok (.goto (-42), 3) := by decide +kernel
theorem dL_linesOf_140 : decode cL_linesOf 140 = .ok (.aload 7, 2) := by decide +kernel
theorem dL_linesOf_142 : decode cL_linesOf 142 = .ok (.invokevirtual 138, 3) := by decide +kernel
theorem dL_linesOf_145 : decode cL_linesOf 145 = .ok (.iload 8, 2) := by decide +kernel
theorem dL_linesOf_147 : decode cL_linesOf 147 = .ok (.isub, 1) := by decide +kernel
theorem dL_linesOf_148 : decode cL_linesOf 148 = .ok (.iload 10, 2) := by decide +kernel
theorem dL_linesOf_150 : decode cL_linesOf 150 = .ok (.if_icmp .gt 39, 3) := by decide +kernel
theorem dL_linesOf_153 : decode cL_linesOf 153 = .ok (.new 162, 3) := by decide +kernel
theorem dL_linesOf_156 : decode cL_linesOf 156 = .ok (.dup, 1) := by decide +kernel
theorem dL_linesOf_157 : decode cL_linesOf 157 = .ok (.invokespecial 164, 3) := by decide +kernel
theorem dL_linesOf_160 : decode cL_linesOf 160 = .ok (.aload 9, 2) := by decide +kernel
theorem dL_linesOf_162 : decode cL_linesOf 162 = .ok (.invokevirtual 165, 3) := by decide +kernel
theorem dL_linesOf_165 : decode cL_linesOf 165 = .ok (.aload 7, 2) := by decide +kernel
theorem dL_linesOf_167 : decode cL_linesOf 167 = .ok (.iload 8, 2) := by decide +kernel
theorem dL_linesOf_169 : decode cL_linesOf 169 = .ok (.invokevirtual 230, 3) := by decide +kernel
theorem dL_linesOf_172 : decode cL_linesOf 172 = .ok (.invokevirtual 165, 3) := by decide +kernel
theorem dL_linesOf_175 : decode cL_linesOf 175 = .ok (.invokevirtual 174, 3) := by decide +kernel
theorem dL_linesOf_178 : decode cL_linesOf 178 = .ok (.astore_n 3, 1) := by decide +kernel
theorem dL_linesOf_179 : decode cL_linesOf 179 = .ok (.aload 7, 2) := by decide +kernel
theorem dL_linesOf_181 : decode cL_linesOf 181 = .ok (.invokevirtual 138, 3) := by decide +kernel
theorem dL_linesOf_184 : decode cL_linesOf 184 = .ok (.istore 8, 2) := by decide +kernel
theorem dL_linesOf_186 : decode cL_linesOf 186 = .ok (.goto 92, 3) := by decide +kernel
theorem dL_linesOf_189 : decode cL_linesOf 189 = .ok (.iload 11, 2) := by decide +kernel
theorem dL_linesOf_191 : decode cL_linesOf 191 = .ok (.ifCond .le 50, 3) := by decide +kernel
theorem dL_linesOf_194 : decode cL_linesOf 194 = .ok (.new 162, 3) := by decide +kernel
theorem dL_linesOf_197 : decode cL_linesOf 197 = .ok (.dup, 1) := by decide +kernel
theorem dL_linesOf_198 : decode cL_linesOf 198 = .ok (.invokespecial 164, 3) := by decide +kernel
theorem dL_linesOf_201 : decode cL_linesOf 201 = .ok (.aload_n 2, 1) := by decide +kernel
theorem dL_linesOf_202 : decode cL_linesOf 202 = .ok (.invokevirtual 165, 3) := by decide +kernel
theorem dL_linesOf_205 : decode cL_linesOf 205 = .ok (.aload 9, 2) := by decide +kernel
theorem dL_linesOf_207 : decode cL_linesOf 207 = .ok (.invokevirtual 165, 3) := by decide +kernel
theorem dL_linesOf_210 : decode cL_linesOf 210 = .ok (.aload 7, 2) := by decide +kernel
theorem dL_linesOf_212 : decode cL_linesOf 212 = .ok (.iload 8, 2) := by decide +kernel
theorem dL_linesOf_214 : decode cL_linesOf 214 = .ok (.iload 11, 2) := by decide +kernel
theorem dL_linesOf_216 : decode cL_linesOf 216 = .ok (.invokevirtual 233, 3) := by decide +kernel
theorem dL_linesOf_219 : decode cL_linesOf 219 = .ok (.invokevirtual 165, 3) := by decide +kernel
theorem dL_linesOf_222 : decode cL_linesOf 222 = .ok (.ldc 236, 2) := by decide +kernel
theorem dL_linesOf_224 : decode cL_linesOf 224 = .ok (.invokevirtual 165, 3) := by decide +kernel
theorem dL_linesOf_227 : decode cL_linesOf 227 = .ok (.invokevirtual 174, 3) := by decide +kernel
theorem dL_linesOf_230 : decode cL_linesOf 230 = .ok (.astore_n 2, 1) := by decide +kernel
theorem dL_linesOf_231 : decode cL_linesOf 231 = .ok (.ldc 160, 2) := by decide +kernel
theorem dL_linesOf_233 : decode cL_linesOf 233 = .ok (.astore_n 3, 1) := by decide +kernel
theorem dL_linesOf_234 : decode cL_linesOf 234 = .ok (.iload 11, 2) := by decide +kernel
theorem dL_linesOf_236 : decode cL_linesOf 236 = .ok (.istore 8, 2) := by decide +kernel
theorem dL_linesOf_238 : decode cL_linesOf 238 = .ok (.goto 40, 3) := by decide +kernel
theorem dL_linesOf_241 : decode cL_linesOf 241 = .ok (.aload_n 3, 1) := by decide +kernel
theorem dL_linesOf_242 : decode cL_linesOf 242 = .ok (.invokevirtual 138, 3) := by decide +kernel
theorem dL_linesOf_245 : decode cL_linesOf 245 = .ok (.ifCond .ne 6, 3) := by decide +kernel
theorem dL_linesOf_248 : decode cL_linesOf 248 = .ok (.ldc 160, 2) := by decide +kernel
theorem dL_linesOf_250 : decode cL_linesOf 250 = .ok (.areturn, 1) := by decide +kernel
theorem dL_linesOf_251 : decode cL_linesOf 251 = .ok (.new 162, 3) := by decide +kernel
theorem dL_linesOf_254 : decode cL_linesOf 254 = .ok (.dup, 1) := by decide +kernel
theorem dL_linesOf_255 : decode cL_linesOf 255 = .ok (.invokespecial 164, 3) := by decide +kernel
theorem dL_linesOf_258 : decode cL_linesOf 258 = .ok (.aload_n 2, 1) := by decide +kernel
theorem dL_linesOf_259 : decode cL_linesOf 259 = .ok (.invokevirtual 165, 3) := by decide +kernel
theorem dL_linesOf_262 : decode cL_linesOf 262 = .ok (.aload_n 3, 1) := by decide +kernel
theorem dL_linesOf_263 : decode cL_linesOf 263 = .ok (.invokevirtual 165, 3) := by decide +kernel
theorem dL_linesOf_266 : decode cL_linesOf 266 = .ok (.ldc 238, 2) := by decide +kernel
theorem dL_linesOf_268 : decode cL_linesOf 268 = .ok (.invokevirtual 165, 3) := by decide +kernel
theorem dL_linesOf_271 : decode cL_linesOf 271 = .ok (.invokevirtual 174, 3) := by decide +kernel
theorem dL_linesOf_274 : decode cL_linesOf 274 = .ok (.astore_n 2, 1) := by decide +kernel
theorem dL_linesOf_275 : decode cL_linesOf 275 = .ok (.ldc 160, 2) := by decide +kernel
theorem dL_linesOf_277 : decode cL_linesOf 277 = .ok (.astore_n 3, 1) := by decide +kernel
theorem dL_linesOf_278 : decode cL_linesOf 278 = .ok (.goto (-244), 3) := by decide +kernel
theorem dL_linesOf_281 : decode cL_linesOf 281 = .ok (.iinc 6 1, 3) := by decide +kernel
theorem dL_linesOf_284 : decode cL_linesOf 284 = .ok (.goto (-267), 3) := by decide +kernel
theorem dL_linesOf_287 : decode cL_linesOf 287 = .ok (.new 162, 3) := by decide +kernel
theorem dL_linesOf_290 : decode cL_linesOf 290 = .ok (.dup, 1) := by decide +kernel
theorem dL_linesOf_291 : decode cL_linesOf 291 = .ok (.invokespecial 164, 3) := by decide +kernel
theorem dL_linesOf_294 : decode cL_linesOf 294 = .ok (.aload_n 2, 1) := by decide +kernel
theorem dL_linesOf_295 : decode cL_linesOf 295 = .ok (.invokevirtual 165, 3) := by decide +kernel
theorem dL_linesOf_298 : decode cL_linesOf 298 = .ok (.aload_n 3, 1) := by decide +kernel
theorem dL_linesOf_299 : decode cL_linesOf 299 = .ok (.invokevirtual 165, 3) := by decide +kernel
theorem dL_linesOf_302 : decode cL_linesOf 302 = .ok (.ldc 238, 2) := by decide +kernel
theorem dL_linesOf_304 : decode cL_linesOf 304 = .ok (.invokevirtual 165, 3) := by decide +kernel
theorem dL_linesOf_307 : decode cL_linesOf 307 = .ok (.invokevirtual 174, 3) := by decide +kernel
theorem dL_linesOf_310 : decode cL_linesOf 310 = .ok (.areturn, 1) := by decide +kernel
theorem dL_many_0 : decode cL_many 0 = .ok (.iconst 0, 1) := by decide +kernel
theorem dL_many_1 : decode cL_many 1 = .ok (.istore_n 2, 1) := by decide +kernel
theorem dL_many_2 : decode cL_many 2 = .ok (.iconst 0, 1) := by decide +kernel
theorem dL_many_3 : decode cL_many 3 = .ok (.istore_n 3, 1) := by decide +kernel
theorem dL_many_4 : decode cL_many 4 = .ok (.iload_n 3, 1) := by decide +kernel
theorem dL_many_5 : decode cL_many 5 = .ok (.aload_n 0, 1) := by decide +kernel
theorem dL_many_6 : decode cL_many 6 = .ok (.invokevirtual 138, 3) := by decide +kernel
theorem dL_many_9 : decode cL_many 9 = .ok (.if_icmp .ge 26, 3) := by decide +kernel
theorem dL_many_12 : decode cL_many 12 = .ok (.iload_n 2, 1) := by decide +kernel
theorem dL_many_13 : decode cL_many 13 = .ok (.aload_n 0, 1) := by decide +kernel
theorem dL_many_14 : decode cL_many 14 = .ok (.iload_n 3, 1) := by decide +kernel
theorem dL_many_15 : decode cL_many 15 = .ok (.invokevirtual 143, 3) := by decide +kernel
theorem dL_many_18 : decode cL_many 18 = .ok (.iload_n 1, 1) := by decide +kernel
theorem dL_many_19 : decode cL_many 19 = .ok (.if_icmp .ne 7, 3) := by decide +kernel
theorem dL_many_22 : decode cL_many 22 = .ok (.iconst 1, 1) := by decide +kernel
theorem dL_many_23 : decode cL_many 23 = .ok (.goto 4, 3) := by decide +kernel
theorem dL_many_26 : decode cL_many 26 = .ok (.iconst 0, 1) := by decide +kernel
theorem dL_many_27 : decode cL_many 27 = .ok (.iadd, 1) := by decide +kernel
theorem dL_many_28 : decode cL_many 28 = .ok (.istore_n 2, 1) := by decide +kernel
theorem dL_many_29 : decode cL_many 29 = .ok (.iinc 3 1, 3) := by decide +kernel
theorem dL_many_32 : decode cL_many 32 = .ok (.goto (-28), 3) := by decide +kernel
theorem dL_many_35 : decode cL_many 35 = .ok (.iload_n 2, 1) := by decide +kernel
theorem dL_many_36 : decode cL_many 36 = .ok (.ireturn, 1) := by decide +kernel
theorem dL_law_0 : decode cL_law 0 = .ok (.aload_n 0, 1) := by decide +kernel
theorem dL_law_1 : decode cL_law 1 = .ok (.invokestatic 240, 3) := by decide +kernel
theorem dL_law_4 : decode cL_law 4 = .ok (.astore_n 1, 1) := by decide +kernel
theorem dL_law_5 : decode cL_law 5 = .ok (.aload_n 1, 1) := by decide +kernel
theorem dL_law_6 : decode cL_law 6 = .ok (.ifnull 36, 3) := by decide +kernel
theorem dL_law_9 : decode cL_law 9 = .ok (.aload_n 1, 1) := by decide +kernel
theorem dL_law_10 : decode cL_law 10 = .ok (.invokestatic 244, 3) := by decide +kernel
theorem dL_law_13 : decode cL_law 13 = .ok (.ifCond .eq 29, 3) := by decide +kernel
theorem dL_law_16 : decode cL_law 16 = .ok (.aload_n 1, 1) := by decide +kernel
theorem dL_law_17 : decode cL_law 17 = .ok (.invokestatic 248, 3) := by decide +kernel
theorem dL_law_20 : decode cL_law 20 = .ok (.ifCond .eq 22, 3) := by decide +kernel
theorem dL_law_23 : decode cL_law 23 = .ok (.aload_n 1, 1) := by decide +kernel
theorem dL_law_24 : decode cL_law 24 = .ok (.invokestatic 251, 3) := by decide +kernel
theorem dL_law_27 : decode cL_law 27 = .ok (.ifCond .eq 15, 3) := by decide +kernel
theorem dL_law_30 : decode cL_law 30 = .ok (.aload_n 0, 1) := by decide +kernel
theorem dL_law_31 : decode cL_law 31 = .ok (.aload_n 1, 1) := by decide +kernel
theorem dL_law_32 : decode cL_law 32 = .ok (.invokestatic 254, 3) := by decide +kernel
theorem dL_law_35 : decode cL_law 35 = .ok (.ifCond .eq 7, 3) := by decide +kernel
theorem dL_law_38 : decode cL_law 38 = .ok (.iconst 1, 1) := by decide +kernel
theorem dL_law_39 : decode cL_law 39 = .ok (.goto 4, 3) := by decide +kernel
theorem dL_law_42 : decode cL_law 42 = .ok (.iconst 0, 1) := by decide +kernel
theorem dL_law_43 : decode cL_law 43 = .ok (.ireturn, 1) := by decide +kernel
theorem dL_articles_0 : decode cL_articles 0 = .ok (.aload_n 0, 1) := by decide +kernel
theorem dL_articles_1 : decode cL_articles 1 = .ok (.invokevirtual 258, 3) := by decide +kernel
theorem dL_articles_4 : decode cL_articles 4 = .ok (.istore_n 1, 1) := by decide +kernel
theorem dL_articles_5 : decode cL_articles 5 = .ok (.iconst 0, 1) := by decide +kernel
theorem dL_articles_6 : decode cL_articles 6 = .ok (.istore_n 2, 1) := by decide +kernel
theorem dL_articles_7 : decode cL_articles 7 = .ok (.iconst 0, 1) := by decide +kernel
theorem dL_articles_8 : decode cL_articles 8 = .ok (.istore_n 3, 1) := by decide +kernel
theorem dL_articles_9 : decode cL_articles 9 = .ok (.iconst 0, 1) := by decide +kernel
theorem dL_articles_10 : decode cL_articles 10 = .ok (.istore 4, 2) := by decide +kernel
theorem dL_articles_12 : decode cL_articles 12 = .ok (.iload 4, 2) := by decide +kernel
theorem dL_articles_14 : decode cL_articles 14 = .ok (.iload_n 1, 1) := by decide +kernel
theorem dL_articles_15 : decode cL_articles 15 = .ok (.if_icmp .ge 387, 3) := by decide +kernel
theorem dL_articles_18 : decode cL_articles 18 = .ok (.aload_n 0, 1) := by decide +kernel
theorem dL_articles_19 : decode cL_articles 19 = .ok (.iload 4, 2) := by decide +kernel
theorem dL_articles_21 : decode cL_articles 21 = .ok (.invokestatic 261, 3) := by decide +kernel
theorem dL_articles_24 : decode cL_articles 24 = .ok (.istore 5, 2) := by decide +kernel
theorem dL_articles_26 : decode cL_articles 26 = .ok (.aload_n 0, 1) := by decide +kernel
theorem dL_articles_27 : decode cL_articles 27 = .ok (.iload 5, 2) := by decide +kernel
theorem dL_articles_29 : decode cL_articles 29 = .ok (.invokestatic 264, 3) := by decide +kernel
theorem dL_articles_32 : decode cL_articles 32 = .ok (.astore 6, 2) := by decide +kernel
theorem dL_articles_34 : decode cL_articles 34 = .ok (.new 162, 3) := by decide +kernel
theorem dL_articles_37 : decode cL_articles 37 = .ok (.dup, 1) := by decide +kernel
theorem dL_articles_38 : decode cL_articles 38 = .ok (.invokespecial 164, 3) := by decide +kernel
theorem dL_articles_41 : decode cL_articles 41 = .ok (.iload 5, 2) := by decide +kernel
theorem dL_articles_43 : decode cL_articles 43 = .ok (.invokevirtual 268, 3) := by decide +kernel
theorem dL_articles_46 : decode cL_articles 46 = .ok (.ldc_w 271, 3) := by decide +kernel
theorem dL_articles_49 : decode cL_articles 49 = .ok (.invokevirtual 165, 3) := by decide +kernel
theorem dL_articles_52 : decode cL_articles 52 = .ok (.aload_n 0, 1) := by decide +kernel
theorem dL_articles_53 : decode cL_articles 53 = .ok (.iload 5, 2) := by decide +kernel
theorem dL_articles_55 : decode cL_articles 55 = .ok (.invokevirtual 41, 3) := by decide +kernel
theorem dL_articles_58 : decode cL_articles 58 = .ok (.invokevirtual 268, 3) := by decide +kernel
theorem dL_articles_61 : decode cL_articles 61 = .ok (.ldc_w 273, 3) := by decide +kernel
theorem dL_articles_64 : decode cL_articles 64 = .ok (.invokevirtual 165, 3) := by decide +kernel
theorem dL_articles_67 : decode cL_articles 67 = .ok (.invokevirtual 174, 3) := by decide +kernel
theorem dL_articles_70 : decode cL_articles 70 = .ok (.astore 7, 2) := by decide +kernel
theorem dL_articles_72 : decode cL_articles 72 = .ok (.iconst 0, 1) := by decide +kernel
theorem dL_articles_73 : decode cL_articles 73 = .ok (.istore 8, 2) := by decide +kernel
theorem dL_articles_75 : decode cL_articles 75 = .ok (.iload 8, 2) := by decide +kernel
theorem dL_articles_77 : decode cL_articles 77 = .ok (.aload 6, 2) := by decide +kernel
theorem dL_articles_79 : decode cL_articles 79 = .ok (.arraylength, 1) := by decide +kernel
theorem dL_articles_80 : decode cL_articles 80 = .ok (.if_icmp .ge 168, 3) := by decide +kernel
theorem dL_articles_83 : decode cL_articles 83 = .ok (.iconst 0, 1) := by decide +kernel
theorem dL_articles_84 : decode cL_articles 84 = .ok (.istore 9, 2) := by decide +kernel
theorem dL_articles_86 : decode cL_articles 86 = .ok (.iconst (-1), 1) := by decide +kernel
theorem dL_articles_87 : decode cL_articles 87 = .ok (.istore 10, 2) := by decide +kernel
theorem dL_articles_89 : decode cL_articles 89 = .ok (.iload 10, 2) := by decide +kernel
theorem dL_articles_91 : decode cL_articles 91 = .ok (.bipush 14, 2) := by decide +kernel
theorem dL_articles_93 : decode cL_articles 93 = .ok (.if_icmp .ge 61, 3) := by decide +kernel
theorem dL_articles_96 : decode cL_articles 96 = .ok (.aload 6, 2) := by decide +kernel
theorem dL_articles_98 : decode cL_articles 98 = .ok (.iload 8, 2) := by decide +kernel
theorem dL_articles_100 : decode cL_articles 100 = .ok (.aaload, 1) := by decide +kernel
theorem dL_articles_101 : decode cL_articles 101 = .ok (.iload 10, 2) := by decide +kernel
theorem dL_articles_103 : decode cL_articles 103 = .ok (.invokestatic 226, 3) := by decide +kernel
theorem dL_articles_106 : decode cL_articles 106 = .ok (.istore 11, 2) := by decide +kernel
theorem dL_articles_108 : decode cL_articles 108 = .ok (.iload 9, 2) := by decide +kernel
theorem dL_articles_110 : decode cL_articles 110 = .ok (.iload 11, 2) := by decide +kernel
theorem dL_articles_112 : decode cL_articles 112 = .ok (.ifCond .eq 7, 3) := by decide +kernel
theorem dL_articles_115 : decode cL_articles 115 = .ok (.iconst 1, 1) := by decide +kernel
theorem dL_articles_116 : decode cL_articles 116 = .ok (.goto 4, 3) := by decide +kernel
theorem dL_articles_119 : decode cL_articles 119 = .ok (.iconst 0, 1) := by decide +kernel
theorem dL_articles_120 : decode cL_articles 120 = .ok (.iadd, 1) := by decide +kernel
theorem dL_articles_121 : decode cL_articles 121 = .ok (.istore 9, 2) := by decide +kernel
theorem dL_articles_123 : decode cL_articles 123 = .ok (.aload_n 0, 1) := by decide +kernel
theorem dL_articles_124 : decode cL_articles 124 = .ok (.iload 5, 2) := by decide +kernel
theorem dL_articles_126 : decode cL_articles 126 = .ok (.iload 8, 2) := by decide +kernel
theorem dL_articles_128 : decode cL_articles 128 = .ok (.iload 10, 2) := by decide +kernel
theorem dL_articles_130 : decode cL_articles 130 = .ok (.invokestatic 275, 3) := by decide +kernel
theorem dL_articles_133 : decode cL_articles 133 = .ok (.iload 11, 2) := by decide +kernel
theorem dL_articles_135 : decode cL_articles 135 = .ok (.ifCond .eq 7, 3) := by decide +kernel
theorem dL_articles_138 : decode cL_articles 138 = .ok (.iconst 1, 1) := by decide +kernel
theorem dL_articles_139 : decode cL_articles 139 = .ok (.goto 4, 3) := by decide +kernel
theorem dL_articles_142 : decode cL_articles 142 = .ok (.iconst 0, 1) := by decide +kernel
theorem dL_articles_143 : decode cL_articles 143 = .ok (.if_icmp .eq 5, 3) := by decide +kernel
theorem dL_articles_146 : decode cL_articles 146 = .ok (.iconst 0, 1) := by decide +kernel
theorem dL_articles_147 : decode cL_articles 147 = .ok (.ireturn, 1) := by decide +kernel
theorem dL_articles_148 : decode cL_articles 148 = .ok (.iinc 10 1, 3) := by decide +kernel
theorem dL_articles_151 : decode cL_articles 151 = .ok (.goto (-62), 3) := by decide +kernel
theorem dL_articles_154 : decode cL_articles 154 = .ok (.aload_n 0, 1) := by decide +kernel
theorem dL_articles_155 : decode cL_articles 155 = .ok (.iload 5, 2) := by decide +kernel
theorem dL_articles_157 : decode cL_articles 157 = .ok (.iload 8, 2) := by decide +kernel
theorem dL_articles_159 : decode cL_articles 159 = .ok (.invokestatic 278, 3) := by decide +kernel
theorem dL_articles_162 : decode cL_articles 162 = .ok (.aload 6, 2) := by decide +kernel
theorem dL_articles_164 : decode cL_articles 164 = .ok (.iload 8, 2) := by decide +kernel
