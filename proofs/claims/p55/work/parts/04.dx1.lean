theorem dX1_init_0 : decode cX1_init 0 = .ok (.aload_n 0, 1) := by decide +kernel
theorem dX1_init_1 : decode cX1_init 1 = .ok (.invokespecial 1, 3) := by decide +kernel
theorem dX1_init_4 : decode cX1_init 4 = .ok (.aload_n 0, 1) := by decide +kernel
theorem dX1_init_5 : decode cX1_init 5 = .ok (.iload_n 1, 1) := by decide +kernel
theorem dX1_init_6 : decode cX1_init 6 = .ok (.putfield 7, 3) := by decide +kernel
theorem dX1_init_9 : decode cX1_init 9 = .ok (.aload_n 0, 1) := by decide +kernel
theorem dX1_init_10 : decode cX1_init 10 = .ok (.iload_n 2, 1) := by decide +kernel
theorem dX1_init_11 : decode cX1_init 11 = .ok (.putfield 13, 3) := by decide +kernel
theorem dX1_init_14 : decode cX1_init 14 = .ok (.aload_n 0, 1) := by decide +kernel
theorem dX1_init_15 : decode cX1_init 15 = .ok (.aload_n 3, 1) := by decide +kernel
theorem dX1_init_16 : decode cX1_init 16 = .ok (.putfield 16, 3) := by decide +kernel
theorem dX1_init_19 : decode cX1_init 19 = .ok (.return_, 1) := by decide +kernel
theorem dX1_corrected_0 : decode cX1_corrected 0 = .ok (.aload_n 0, 1) := by decide +kernel
theorem dX1_corrected_1 : decode cX1_corrected 1 = .ok (.getfield 16, 3) := by decide +kernel
theorem dX1_corrected_4 : decode cX1_corrected 4 = .ok (.invokevirtual 20, 3) := by decide +kernel
theorem dX1_corrected_7 : decode cX1_corrected 7 = .ok (.checkcast 21, 3) := by decide +kernel
theorem dX1_corrected_10 : decode cX1_corrected 10 = .ok (.astore_n 3, 1) := by decide +kernel
theorem dX1_corrected_11 : decode cX1_corrected 11 = .ok (.iload_n 1, 1) := by decide +kernel
theorem dX1_corrected_12 : decode cX1_corrected 12 = .ok (.ifCond .lt 13, 3) := by decide +kernel
theorem dX1_corrected_15 : decode cX1_corrected 15 = .ok (.iload_n 1, 1) := by decide +kernel
theorem dX1_corrected_16 : decode cX1_corrected 16 = .ok (.aload_n 3, 1) := by decide +kernel
theorem dX1_corrected_17 : decode cX1_corrected 17 = .ok (.arraylength, 1) := by decide +kernel
theorem dX1_corrected_18 : decode cX1_corrected 18 = .ok (.if_icmp .ge 7, 3) := by decide +kernel
theorem dX1_corrected_21 : decode cX1_corrected 21 = .ok (.aload_n 3, 1) := by decide +kernel
theorem dX1_corrected_22 : decode cX1_corrected 22 = .ok (.iload_n 1, 1) := by decide +kernel
theorem dX1_corrected_23 : decode cX1_corrected 23 = .ok (.aload_n 2, 1) := by decide +kernel
theorem dX1_corrected_24 : decode cX1_corrected 24 = .ok (.aastore, 1) := by decide +kernel
theorem dX1_corrected_25 : decode cX1_corrected 25 = .ok (.new 8, 3) := by decide +kernel
theorem dX1_corrected_28 : decode cX1_corrected 28 = .ok (.dup, 1) := by decide +kernel
theorem dX1_corrected_29 : decode cX1_corrected 29 = .ok (.aload_n 0, 1) := by decide +kernel
theorem dX1_corrected_30 : decode cX1_corrected 30 = .ok (.getfield 7, 3) := by decide +kernel
theorem dX1_corrected_33 : decode cX1_corrected 33 = .ok (.aload_n 0, 1) := by decide +kernel
theorem dX1_corrected_34 : decode cX1_corrected 34 = .ok (.getfield 13, 3) := by decide +kernel
theorem dX1_corrected_37 : decode cX1_corrected 37 = .ok (.aload_n 3, 1) := by decide +kernel
theorem dX1_corrected_38 : decode cX1_corrected 38 = .ok (.invokespecial 25, 3) := by decide +kernel
theorem dX1_corrected_41 : decode cX1_corrected 41 = .ok (.areturn, 1) := by decide +kernel
theorem dX1_comesBefore_0 : decode cX1_comesBefore 0 = .ok (.aload_n 0, 1) := by decide +kernel
theorem dX1_comesBefore_1 : decode cX1_comesBefore 1 = .ok (.getfield 13, 3) := by decide +kernel
theorem dX1_comesBefore_4 : decode cX1_comesBefore 4 = .ok (.aload_n 1, 1) := by decide +kernel
theorem dX1_comesBefore_5 : decode cX1_comesBefore 5 = .ok (.getfield 13, 3) := by decide +kernel
theorem dX1_comesBefore_8 : decode cX1_comesBefore 8 = .ok (.if_icmp .gt 25, 3) := by decide +kernel
theorem dX1_comesBefore_11 : decode cX1_comesBefore 11 = .ok (.aload_n 0, 1) := by decide +kernel
theorem dX1_comesBefore_12 : decode cX1_comesBefore 12 = .ok (.getfield 13, 3) := by decide +kernel
theorem dX1_comesBefore_15 : decode cX1_comesBefore 15 = .ok (.aload_n 1, 1) := by decide +kernel
theorem dX1_comesBefore_16 : decode cX1_comesBefore 16 = .ok (.getfield 13, 3) := by decide +kernel
theorem dX1_comesBefore_19 : decode cX1_comesBefore 19 = .ok (.if_icmp .ne 18, 3) := by decide +kernel
theorem dX1_comesBefore_22 : decode cX1_comesBefore 22 = .ok (.aload_n 0, 1) := by decide +kernel
theorem dX1_comesBefore_23 : decode cX1_comesBefore 23 = .ok (.getfield 7, 3) := by decide +kernel
theorem dX1_comesBefore_26 : decode cX1_comesBefore 26 = .ok (.aload_n 1, 1) := by decide +kernel
theorem dX1_comesBefore_27 : decode cX1_comesBefore 27 = .ok (.getfield 7, 3) := by decide +kernel
theorem dX1_comesBefore_30 : decode cX1_comesBefore 30 = .ok (.if_icmp .ge 7, 3) := by decide +kernel
theorem dX1_comesBefore_33 : decode cX1_comesBefore 33 = .ok (.iconst 1, 1) := by decide +kernel
theorem dX1_comesBefore_34 : decode cX1_comesBefore 34 = .ok (.goto 4, 3) := by decide +kernel
theorem dX1_comesBefore_37 : decode cX1_comesBefore 37 = .ok (.iconst 0, 1) := by decide +kernel
theorem dX1_comesBefore_38 : decode cX1_comesBefore 38 = .ok (.ireturn, 1) := by decide +kernel
theorem dX1_countLetters_0 : decode cX1_countLetters 0 = .ok (.iconst 0, 1) := by decide +kernel
theorem dX1_countLetters_1 : decode cX1_countLetters 1 = .ok (.istore_n 1, 1) := by decide +kernel
theorem dX1_countLetters_2 : decode cX1_countLetters 2 = .ok (.aload_n 0, 1) := by decide +kernel
theorem dX1_countLetters_3 : decode cX1_countLetters 3 = .ok (.getfield 16, 3) := by decide +kernel
theorem dX1_countLetters_6 : decode cX1_countLetters 6 = .ok (.astore_n 2, 1) := by decide +kernel
theorem dX1_countLetters_7 : decode cX1_countLetters 7 = .ok (.aload_n 2, 1) := by decide +kernel
theorem dX1_countLetters_8 : decode cX1_countLetters 8 = .ok (.arraylength, 1) := by decide +kernel
theorem dX1_countLetters_9 : decode cX1_countLetters 9 = .ok (.istore_n 3, 1) := by decide +kernel
theorem dX1_countLetters_10 : decode cX1_countLetters 10 = .ok (.iconst 0, 1) := by decide +kernel
theorem dX1_countLetters_11 : decode cX1_countLetters 11 = .ok (.istore 4, 2) := by decide +kernel
theorem dX1_countLetters_13 : decode cX1_countLetters 13 = .ok (.iload 4, 2) := by decide +kernel
theorem dX1_countLetters_15 : decode cX1_countLetters 15 = .ok (.iload_n 3, 1) := by decide +kernel
theorem dX1_countLetters_16 : decode cX1_countLetters 16 = .ok (.if_icmp .ge 23, 3) := by decide +kernel
theorem dX1_countLetters_19 : decode cX1_countLetters 19 = .ok (.aload_n 2, 1) := by decide +kernel
theorem dX1_countLetters_20 : decode cX1_countLetters 20 = .ok (.iload 4, 2) := by decide +kernel
theorem dX1_countLetters_22 : decode cX1_countLetters 22 = .ok (.aaload, 1) := by decide +kernel
theorem dX1_countLetters_23 : decode cX1_countLetters 23 = .ok (.astore 5, 2) := by decide +kernel
theorem dX1_countLetters_25 : decode cX1_countLetters 25 = .ok (.iload_n 1, 1) := by decide +kernel
theorem dX1_countLetters_26 : decode cX1_countLetters 26 = .ok (.aload 5, 2) := by decide +kernel
theorem dX1_countLetters_28 : decode cX1_countLetters 28 = .ok (.invokevirtual 28, 3) := by decide +kernel
theorem dX1_countLetters_31 : decode cX1_countLetters 31 = .ok (.iadd, 1) := by decide +kernel
theorem dX1_countLetters_32 : decode cX1_countLetters 32 = .ok (.istore_n 1, 1) := by decide +kernel
theorem dX1_countLetters_33 : decode cX1_countLetters 33 = .ok (.iinc 4 1, 3) := by decide +kernel
theorem dX1_countLetters_36 : decode cX1_countLetters 36 = .ok (.goto (-23), 3) := by decide +kernel
theorem dX1_countLetters_39 : decode cX1_countLetters 39 = .ok (.iload_n 1, 1) := by decide +kernel
theorem dX1_countLetters_40 : decode cX1_countLetters 40 = .ok (.ireturn, 1) := by decide +kernel
theorem dX1_longestWord_0 : decode cX1_longestWord 0 = .ok (.iconst 0, 1) := by decide +kernel
theorem dX1_longestWord_1 : decode cX1_longestWord 1 = .ok (.istore_n 1, 1) := by decide +kernel
theorem dX1_longestWord_2 : decode cX1_longestWord 2 = .ok (.aload_n 0, 1) := by decide +kernel
theorem dX1_longestWord_3 : decode cX1_longestWord 3 = .ok (.getfield 16, 3) := by decide +kernel
theorem dX1_longestWord_6 : decode cX1_longestWord 6 = .ok (.astore_n 2, 1) := by decide +kernel
theorem dX1_longestWord_7 : decode cX1_longestWord 7 = .ok (.aload_n 2, 1) := by decide +kernel
theorem dX1_longestWord_8 : decode cX1_longestWord 8 = .ok (.arraylength, 1) := by decide +kernel
theorem dX1_longestWord_9 : decode cX1_longestWord 9 = .ok (.istore_n 3, 1) := by decide +kernel
theorem dX1_longestWord_10 : decode cX1_longestWord 10 = .ok (.iconst 0, 1) := by decide +kernel
theorem dX1_longestWord_11 : decode cX1_longestWord 11 = .ok (.istore 4, 2) := by decide +kernel
theorem dX1_longestWord_13 : decode cX1_longestWord 13 = .ok (.iload 4, 2) := by decide +kernel
theorem dX1_longestWord_15 : decode cX1_longestWord 15 = .ok (.iload_n 3, 1) := by decide +kernel
theorem dX1_longestWord_16 : decode cX1_longestWord 16 = .ok (.if_icmp .ge 25, 3) := by decide +kernel
theorem dX1_longestWord_19 : decode cX1_longestWord 19 = .ok (.aload_n 2, 1) := by decide +kernel
theorem dX1_longestWord_20 : decode cX1_longestWord 20 = .ok (.iload 4, 2) := by decide +kernel
theorem dX1_longestWord_22 : decode cX1_longestWord 22 = .ok (.aaload, 1) := by decide +kernel
theorem dX1_longestWord_23 : decode cX1_longestWord 23 = .ok (.astore 5, 2) := by decide +kernel
theorem dX1_longestWord_25 : decode cX1_longestWord 25 = .ok (.iload_n 1, 1) := by decide +kernel
theorem dX1_longestWord_26 : decode cX1_longestWord 26 = .ok (.aload 5, 2) := by decide +kernel
theorem dX1_longestWord_28 : decode cX1_longestWord 28 = .ok (.invokevirtual 28, 3) := by decide +kernel
theorem dX1_longestWord_31 : decode cX1_longestWord 31 = .ok (.invokestatic 34, 3) := by decide +kernel
theorem dX1_longestWord_34 : decode cX1_longestWord 34 = .ok (.istore_n 1, 1) := by decide +kernel
theorem dX1_longestWord_35 : decode cX1_longestWord 35 = .ok (.iinc 4 1, 3) := by decide +kernel
theorem dX1_longestWord_38 : decode cX1_longestWord 38 = .ok (.goto (-25), 3) := by decide +kernel
theorem dX1_longestWord_41 : decode cX1_longestWord 41 = .ok (.iload_n 1, 1) := by decide +kernel
theorem dX1_longestWord_42 : decode cX1_longestWord 42 = .ok (.ireturn, 1) := by decide +kernel
theorem dX1_writeTo_0 : decode cX1_writeTo 0 = .ok (.aload_n 1, 1) := by decide +kernel
theorem dX1_writeTo_1 : decode cX1_writeTo 1 = .ok (.aload_n 0, 1) := by decide +kernel
theorem dX1_writeTo_2 : decode cX1_writeTo 2 = .ok (.getfield 7, 3) := by decide +kernel
theorem dX1_writeTo_5 : decode cX1_writeTo 5 = .ok (.invokevirtual 40, 3) := by decide +kernel
theorem dX1_writeTo_8 : decode cX1_writeTo 8 = .ok (.bipush 33, 2) := by decide +kernel
theorem dX1_writeTo_10 : decode cX1_writeTo 10 = .ok (.invokevirtual 46, 3) := by decide +kernel
theorem dX1_writeTo_13 : decode cX1_writeTo 13 = .ok (.aload_n 0, 1) := by decide +kernel
theorem dX1_writeTo_14 : decode cX1_writeTo 14 = .ok (.getfield 13, 3) := by decide +kernel
theorem dX1_writeTo_17 : decode cX1_writeTo 17 = .ok (.invokevirtual 40, 3) := by decide +kernel
theorem dX1_writeTo_20 : decode cX1_writeTo 20 = .ok (.pop, 1) := by decide +kernel
theorem dX1_writeTo_21 : decode cX1_writeTo 21 = .ok (.bipush 58, 2) := by decide +kernel
theorem dX1_writeTo_23 : decode cX1_writeTo 23 = .ok (.istore_n 2, 1) := by decide +kernel
theorem dX1_writeTo_24 : decode cX1_writeTo 24 = .ok (.aload_n 0, 1) := by decide +kernel
theorem dX1_writeTo_25 : decode cX1_writeTo 25 = .ok (.getfield 16, 3) := by decide +kernel
theorem dX1_writeTo_28 : decode cX1_writeTo 28 = .ok (.astore_n 3, 1) := by decide +kernel
theorem dX1_writeTo_29 : decode cX1_writeTo 29 = .ok (.aload_n 3, 1) := by decide +kernel
theorem dX1_writeTo_30 : decode cX1_writeTo 30 = .ok (.arraylength, 1) := by decide +kernel
theorem dX1_writeTo_31 : decode cX1_writeTo 31 = .ok (.istore 4, 2) := by decide +kernel
theorem dX1_writeTo_33 : decode cX1_writeTo 33 = .ok (.iconst 0, 1) := by decide +kernel
theorem dX1_writeTo_34 : decode cX1_writeTo 34 = .ok (.istore 5, 2) := by decide +kernel
theorem dX1_writeTo_36 : decode cX1_writeTo 36 = .ok (.iload 5, 2) := by decide +kernel
theorem dX1_writeTo_38 : decode cX1_writeTo 38 = .ok (.iload 4, 2) := by decide +kernel
theorem dX1_writeTo_40 : decode cX1_writeTo 40 = .ok (.if_icmp .ge 30, 3) := by decide +kernel
theorem dX1_writeTo_43 : decode cX1_writeTo 43 = .ok (.aload_n 3, 1) := by decide +kernel
theorem dX1_writeTo_44 : decode cX1_writeTo 44 = .ok (.iload 5, 2) := by decide +kernel
theorem dX1_writeTo_46 : decode cX1_writeTo 46 = .ok (.aaload, 1) := by decide +kernel
theorem dX1_writeTo_47 : decode cX1_writeTo 47 = .ok (.astore 6, 2) := by decide +kernel
theorem dX1_writeTo_49 : decode cX1_writeTo 49 = .ok (.aload_n 1, 1) := by decide +kernel
theorem dX1_writeTo_50 : decode cX1_writeTo 50 = .ok (.iload_n 2, 1) := by decide +kernel
theorem dX1_writeTo_51 : decode cX1_writeTo 51 = .ok (.invokevirtual 46, 3) := by decide +kernel
theorem dX1_writeTo_54 : decode cX1_writeTo 54 = .ok (.pop, 1) := by decide +kernel
theorem dX1_writeTo_55 : decode cX1_writeTo 55 = .ok (.aload 6, 2) := by decide +kernel
theorem dX1_writeTo_57 : decode cX1_writeTo 57 = .ok (.aload_n 1, 1) := by decide +kernel
theorem dX1_writeTo_58 : decode cX1_writeTo 58 = .ok (.invokevirtual 49, 3) := by decide +kernel
theorem dX1_writeTo_61 : decode cX1_writeTo 61 = .ok (.bipush 32, 2) := by decide +kernel
theorem dX1_writeTo_63 : decode cX1_writeTo 63 = .ok (.istore_n 2, 1) := by decide +kernel
theorem dX1_writeTo_64 : decode cX1_writeTo 64 = .ok (.iinc 5 1, 3) := by decide +kernel
theorem dX1_writeTo_67 : decode cX1_writeTo 67 = .ok (.goto (-31), 3) := by decide +kernel
theorem dX1_writeTo_70 : decode cX1_writeTo 70 = .ok (.return_, 1) := by decide +kernel
theorem dX2_init_0 : decode cX2_init 0 = .ok (.aload_n 0, 1) := by decide +kernel
theorem dX2_init_1 : decode cX2_init 1 = .ok (.invokespecial 3, 3) := by decide +kernel
theorem dX2_init_4 : decode cX2_init 4 = .ok (.aload_n 0, 1) := by decide +kernel
theorem dX2_init_5 : decode cX2_init 5 = .ok (.iconst 0, 1) := by decide +kernel
theorem dX2_init_6 : decode cX2_init 6 = .ok (.putfield 9, 3) := by decide +kernel
theorem dX2_init_9 : decode cX2_init 9 = .ok (.aload_n 0, 1) := by decide +kernel
theorem dX2_init_10 : decode cX2_init 10 = .ok (.iconst 0, 1) := by decide +kernel
theorem dX2_init_11 : decode cX2_init 11 = .ok (.iload_n 1, 1) := by decide +kernel
theorem dX2_init_12 : decode cX2_init 12 = .ok (.invokestatic 15, 3) := by decide +kernel
theorem dX2_init_15 : decode cX2_init 15 = .ok (.newarray .char, 2) := by decide +kernel
theorem dX2_init_17 : decode cX2_init 17 = .ok (.putfield 21, 3) := by decide +kernel
theorem dX2_init_20 : decode cX2_init 20 = .ok (.return_, 1) := by decide +kernel
theorem dX2_append_0 : decode cX2_append 0 = .ok (.aload_n 0, 1) := by decide +kernel
theorem dX2_append_1 : decode cX2_append 1 = .ok (.getfield 9, 3) := by decide +kernel
theorem dX2_append_4 : decode cX2_append 4 = .ok (.ifCond .lt 15, 3) := by decide +kernel
theorem dX2_append_7 : decode cX2_append 7 = .ok (.aload_n 0, 1) := by decide +kernel
theorem dX2_append_8 : decode cX2_append 8 = .ok (.getfield 9, 3) := by decide +kernel
theorem dX2_append_11 : decode cX2_append 11 = .ok (.aload_n 0, 1) := by decide +kernel
theorem dX2_append_12 : decode cX2_append 12 = .ok (.getfield 21, 3) := by decide +kernel
theorem dX2_append_15 : decode cX2_append 15 = .ok (.arraylength, 1) := by decide +kernel
theorem dX2_append_16 : decode cX2_append 16 = .ok (.if_icmp .lt 5, 3) := by decide +kernel
theorem dX2_append_19 : decode cX2_append 19 = .ok (.iconst 0, 1) := by decide +kernel
theorem dX2_append_20 : decode cX2_append 20 = .ok (.ireturn, 1) := by decide +kernel
theorem dX2_append_21 : decode cX2_append 21 = .ok (.aload_n 0, 1) := by decide +kernel
theorem dX2_append_22 : decode cX2_append 22 = .ok (.getfield 21, 3) := by decide +kernel
theorem dX2_append_25 : decode cX2_append 25 = .ok (.aload_n 0, 1) := by decide +kernel
theorem dX2_append_26 : decode cX2_append 26 = .ok (.getfield 9, 3) := by decide +kernel
theorem dX2_append_29 : decode cX2_append 29 = .ok (.iload_n 1, 1) := by decide +kernel
theorem dX2_append_30 : decode cX2_append 30 = .ok (.castore, 1) := by decide +kernel
theorem dX2_append_31 : decode cX2_append 31 = .ok (.aload_n 0, 1) := by decide +kernel
theorem dX2_append_32 : decode cX2_append 32 = .ok (.dup, 1) := by decide +kernel
theorem dX2_append_33 : decode cX2_append 33 = .ok (.getfield 9, 3) := by decide +kernel
theorem dX2_append_36 : decode cX2_append 36 = .ok (.iconst 1, 1) := by decide +kernel
theorem dX2_append_37 : decode cX2_append 37 = .ok (.iadd, 1) := by decide +kernel
theorem dX2_append_38 : decode cX2_append 38 = .ok (.putfield 9, 3) := by decide +kernel
theorem dX2_append_41 : decode cX2_append 41 = .ok (.iconst 1, 1) := by decide +kernel
theorem dX2_append_42 : decode cX2_append 42 = .ok (.ireturn, 1) := by decide +kernel
theorem dX2_empty_0 : decode cX2_empty 0 = .ok (.aload_n 0, 1) := by decide +kernel
theorem dX2_empty_1 : decode cX2_empty 1 = .ok (.getfield 9, 3) := by decide +kernel
theorem dX2_empty_4 : decode cX2_empty 4 = .ok (.istore_n 1, 1) := by decide +kernel
theorem dX2_empty_5 : decode cX2_empty 5 = .ok (.aload_n 0, 1) := by decide +kernel
theorem dX2_empty_6 : decode cX2_empty 6 = .ok (.iconst 0, 1) := by decide +kernel
theorem dX2_empty_7 : decode cX2_empty 7 = .ok (.putfield 9, 3) := by decide +kernel
theorem dX2_empty_10 : decode cX2_empty 10 = .ok (.iload_n 1, 1) := by decide +kernel
theorem dX2_empty_11 : decode cX2_empty 11 = .ok (.ireturn, 1) := by decide +kernel
theorem dX2_signAt_0 : decode cX2_signAt 0 = .ok (.iload_n 1, 1) := by decide +kernel
theorem dX2_signAt_1 : decode cX2_signAt 1 = .ok (.ifCond .lt 29, 3) := by decide +kernel
theorem dX2_signAt_4 : decode cX2_signAt 4 = .ok (.iload_n 1, 1) := by decide +kernel
theorem dX2_signAt_5 : decode cX2_signAt 5 = .ok (.aload_n 0, 1) := by decide +kernel
theorem dX2_signAt_6 : decode cX2_signAt 6 = .ok (.getfield 9, 3) := by decide +kernel
theorem dX2_signAt_9 : decode cX2_signAt 9 = .ok (.if_icmp .ge 21, 3) := by decide +kernel
theorem dX2_signAt_12 : decode cX2_signAt 12 = .ok (.iload_n 1, 1) := by decide +kernel
theorem dX2_signAt_13 : decode cX2_signAt 13 = .ok (.aload_n 0, 1) := by decide +kernel
theorem dX2_signAt_14 : decode cX2_signAt 14 = .ok (.getfield 21, 3) := by decide +kernel
theorem dX2_signAt_17 : decode cX2_signAt 17 = .ok (.arraylength, 1) := by decide +kernel
theorem dX2_signAt_18 : decode cX2_signAt 18 = .ok (.if_icmp .ge 12, 3) := by decide +kernel
theorem dX2_signAt_21 : decode cX2_signAt 21 = .ok (.aload_n 0, 1) := by decide +kernel
theorem dX2_signAt_22 : decode cX2_signAt 22 = .ok (.getfield 21, 3) := by decide +kernel
theorem dX2_signAt_25 : decode cX2_signAt 25 = .ok (.iload_n 1, 1) := by decide +kernel
theorem dX2_signAt_26 : decode cX2_signAt 26 = .ok (.caload, 1) := by decide +kernel
theorem dX2_signAt_27 : decode cX2_signAt 27 = .ok (.goto 4, 3) := by decide +kernel
theorem dX2_signAt_30 : decode cX2_signAt 30 = .ok (.iconst 0, 1) := by decide +kernel
theorem dX2_signAt_31 : decode cX2_signAt 31 = .ok (.ireturn, 1) := by decide +kernel
theorem dX2_holdsOneWord_0 : decode cX2_holdsOneWord 0 = .ok (.aload_n 0, 1) := by decide +kernel
theorem dX2_holdsOneWord_1 : decode cX2_holdsOneWord 1 = .ok (.getfield 9, 3) := by decide +kernel
theorem dX2_holdsOneWord_4 : decode cX2_holdsOneWord 4 = .ok (.iconst 1, 1) := by decide +kernel
theorem dX2_holdsOneWord_5 : decode cX2_holdsOneWord 5 = .ok (.if_icmp .lt 23, 3) := by decide +kernel
theorem dX2_holdsOneWord_8 : decode cX2_holdsOneWord 8 = .ok (.aload_n 0, 1) := by decide +kernel
theorem dX2_holdsOneWord_9 : decode cX2_holdsOneWord 9 = .ok (.getfield 9, 3) := by decide +kernel
theorem dX2_holdsOneWord_12 : decode cX2_holdsOneWord 12 = .ok (.bipush 12, 2) := by decide +kernel
theorem dX2_holdsOneWord_14 : decode cX2_holdsOneWord 14 = .ok (.if_icmp .gt 14, 3) := by decide +kernel
theorem dX2_holdsOneWord_17 : decode cX2_holdsOneWord 17 = .ok (.aload_n 0, 1) := by decide +kernel
theorem dX2_holdsOneWord_18 : decode cX2_holdsOneWord 18 = .ok (.invokevirtual 25, 3) := by decide +kernel
theorem dX2_holdsOneWord_21 : decode cX2_holdsOneWord 21 = .ok (.ifCond .ne 7, 3) := by decide +kernel
theorem dX2_holdsOneWord_24 : decode cX2_holdsOneWord 24 = .ok (.iconst 1, 1) := by decide +kernel
theorem dX2_holdsOneWord_25 : decode cX2_holdsOneWord 25 = .ok (.goto 4, 3) := by decide +kernel
theorem dX2_holdsOneWord_28 : decode cX2_holdsOneWord 28 = .ok (.iconst 0, 1) := by decide +kernel
theorem dX2_holdsOneWord_29 : decode cX2_holdsOneWord 29 = .ok (.ireturn, 1) := by decide +kernel
theorem dX2_holdsWords_0 : decode cX2_holdsWords 0 = .ok (.iconst 0, 1) := by decide +kernel
theorem dX2_holdsWords_1 : decode cX2_holdsWords 1 = .ok (.istore_n 1, 1) := by decide +kernel
theorem dX2_holdsWords_2 : decode cX2_holdsWords 2 = .ok (.iconst 0, 1) := by decide +kernel
theorem dX2_holdsWords_3 : decode cX2_holdsWords 3 = .ok (.istore_n 2, 1) := by decide +kernel
theorem dX2_holdsWords_4 : decode cX2_holdsWords 4 = .ok (.iload_n 2, 1) := by decide +kernel
theorem dX2_holdsWords_5 : decode cX2_holdsWords 5 = .ok (.aload_n 0, 1) := by decide +kernel
theorem dX2_holdsWords_6 : decode cX2_holdsWords 6 = .ok (.getfield 9, 3) := by decide +kernel
theorem dX2_holdsWords_9 : decode cX2_holdsWords 9 = .ok (.if_icmp .ge 41, 3) := by decide +kernel
theorem dX2_holdsWords_12 : decode cX2_holdsWords 12 = .ok (.aload_n 0, 1) := by decide +kernel
theorem dX2_holdsWords_13 : decode cX2_holdsWords 13 = .ok (.iload_n 2, 1) := by decide +kernel
theorem dX2_holdsWords_14 : decode cX2_holdsWords 14 = .ok (.invokevirtual 29, 3) := by decide +kernel
theorem dX2_holdsWords_17 : decode cX2_holdsWords 17 = .ok (.bipush 32, 2) := by decide +kernel
theorem dX2_holdsWords_19 : decode cX2_holdsWords 19 = .ok (.if_icmp .eq 9, 3) := by decide +kernel
theorem dX2_holdsWords_22 : decode cX2_holdsWords 22 = .ok (.iinc 1 1, 3) := by decide +kernel
theorem dX2_holdsWords_25 : decode cX2_holdsWords 25 = .ok (.goto 11, 3) := by decide +kernel
theorem dX2_holdsWords_28 : decode cX2_holdsWords 28 = .ok (.iload_n 1, 1) := by decide +kernel
theorem dX2_holdsWords_29 : decode cX2_holdsWords 29 = .ok (.ifCond .ne 5, 3) := by decide +kernel
theorem dX2_holdsWords_32 : decode cX2_holdsWords 32 = .ok (.iconst 0, 1) := by decide +kernel
theorem dX2_holdsWords_33 : decode cX2_holdsWords 33 = .ok (.ireturn, 1) := by decide +kernel
theorem dX2_holdsWords_34 : decode cX2_holdsWords 34 = .ok (.iconst 0, 1) := by decide +kernel
theorem dX2_holdsWords_35 : decode cX2_holdsWords 35 = .ok (.istore_n 1, 1) := by decide +kernel
theorem dX2_holdsWords_36 : decode cX2_holdsWords 36 = .ok (.iload_n 1, 1) := by decide +kernel
theorem dX2_holdsWords_37 : decode cX2_holdsWords 37 = .ok (.bipush 12, 2) := by decide +kernel
theorem dX2_holdsWords_39 : decode cX2_holdsWords 39 = .ok (.if_icmp .le 5, 3) := by decide +kernel
theorem dX2_holdsWords_42 : decode cX2_holdsWords 42 = .ok (.iconst 0, 1) := by decide +kernel
theorem dX2_holdsWords_43 : decode cX2_holdsWords 43 = .ok (.ireturn, 1) := by decide +kernel
theorem dX2_holdsWords_44 : decode cX2_holdsWords 44 = .ok (.iinc 2 1, 3) := by decide +kernel
theorem dX2_holdsWords_47 : decode cX2_holdsWords 47 = .ok (.goto (-43), 3) := by decide +kernel
theorem dX2_holdsWords_50 : decode cX2_holdsWords 50 = .ok (.iload_n 1, 1) := by decide +kernel
theorem dX2_holdsWords_51 : decode cX2_holdsWords 51 = .ok (.ifCond .le 7, 3) := by decide +kernel
theorem dX2_holdsWords_54 : decode cX2_holdsWords 54 = .ok (.iconst 1, 1) := by decide +kernel
theorem dX2_holdsWords_55 : decode cX2_holdsWords 55 = .ok (.goto 4, 3) := by decide +kernel
theorem dX2_holdsWords_58 : decode cX2_holdsWords 58 = .ok (.iconst 0, 1) := by decide +kernel
theorem dX2_holdsWords_59 : decode cX2_holdsWords 59 = .ok (.ireturn, 1) := by decide +kernel
theorem dX2_countBlanks_0 : decode cX2_countBlanks 0 = .ok (.iconst 0, 1) := by decide +kernel
theorem dX2_countBlanks_1 : decode cX2_countBlanks 1 = .ok (.istore_n 1, 1) := by decide +kernel
theorem dX2_countBlanks_2 : decode cX2_countBlanks 2 = .ok (.iconst 0, 1) := by decide +kernel
theorem dX2_countBlanks_3 : decode cX2_countBlanks 3 = .ok (.istore_n 2, 1) := by decide +kernel
theorem dX2_countBlanks_4 : decode cX2_countBlanks 4 = .ok (.iload_n 2, 1) := by decide +kernel
theorem dX2_countBlanks_5 : decode cX2_countBlanks 5 = .ok (.aload_n 0, 1) := by decide +kernel
theorem dX2_countBlanks_6 : decode cX2_countBlanks 6 = .ok (.getfield 9, 3) := by decide +kernel
theorem dX2_countBlanks_9 : decode cX2_countBlanks 9 = .ok (.if_icmp .ge 22, 3) := by decide +kernel
theorem dX2_countBlanks_12 : decode cX2_countBlanks 12 = .ok (.aload_n 0, 1) := by decide +kernel
theorem dX2_countBlanks_13 : decode cX2_countBlanks 13 = .ok (.iload_n 2, 1) := by decide +kernel
theorem dX2_countBlanks_14 : decode cX2_countBlanks 14 = .ok (.invokevirtual 29, 3) := by decide +kernel
theorem dX2_countBlanks_17 : decode cX2_countBlanks 17 = .ok (.bipush 32, 2) := by decide +kernel
theorem dX2_countBlanks_19 : decode cX2_countBlanks 19 = .ok (.if_icmp .ne 6, 3) := by decide +kernel
theorem dX2_countBlanks_22 : decode cX2_countBlanks 22 = .ok (.iinc 1 1, 3) := by decide +kernel
theorem dX2_countBlanks_25 : decode cX2_countBlanks 25 = .ok (.iinc 2 1, 3) := by decide +kernel
theorem dX2_countBlanks_28 : decode cX2_countBlanks 28 = .ok (.goto (-24), 3) := by decide +kernel
theorem dX2_countBlanks_31 : decode cX2_countBlanks 31 = .ok (.iload_n 1, 1) := by decide +kernel
theorem dX2_countBlanks_32 : decode cX2_countBlanks 32 = .ok (.ireturn, 1) := by decide +kernel
theorem dX2_endOfWord_0 : decode cX2_endOfWord 0 = .ok (.iload_n 1, 1) := by decide +kernel
theorem dX2_endOfWord_1 : decode cX2_endOfWord 1 = .ok (.istore_n 2, 1) := by decide +kernel
theorem dX2_endOfWord_2 : decode cX2_endOfWord 2 = .ok (.iload_n 2, 1) := by decide +kernel
theorem dX2_endOfWord_3 : decode cX2_endOfWord 3 = .ok (.aload_n 0, 1) := by decide +kernel
theorem dX2_endOfWord_4 : decode cX2_endOfWord 4 = .ok (.getfield 9, 3) := by decide +kernel
theorem dX2_endOfWord_7 : decode cX2_endOfWord 7 = .ok (.if_icmp .ge 19, 3) := by decide +kernel
theorem dX2_endOfWord_10 : decode cX2_endOfWord 10 = .ok (.aload_n 0, 1) := by decide +kernel
theorem dX2_endOfWord_11 : decode cX2_endOfWord 11 = .ok (.iload_n 2, 1) := by decide +kernel
theorem dX2_endOfWord_12 : decode cX2_endOfWord 12 = .ok (.invokevirtual 29, 3) := by decide +kernel
theorem dX2_endOfWord_15 : decode cX2_endOfWord 15 = .ok (.bipush 32, 2) := by decide +kernel
theorem dX2_endOfWord_17 : decode cX2_endOfWord 17 = .ok (.if_icmp .eq 9, 3) := by decide +kernel
theorem dX2_endOfWord_20 : decode cX2_endOfWord 20 = .ok (.iinc 2 1, 3) := by decide +kernel
theorem dX2_endOfWord_23 : decode cX2_endOfWord 23 = .ok (.goto (-21), 3) := by decide +kernel
theorem dX2_endOfWord_26 : decode cX2_endOfWord 26 = .ok (.iload_n 2, 1) := by decide +kernel
theorem dX2_endOfWord_27 : decode cX2_endOfWord 27 = .ok (.ireturn, 1) := by decide +kernel
theorem dX2_cutIntoWords_0 : decode cX2_cutIntoWords 0 = .ok (.aload_n 0, 1) := by decide +kernel
theorem dX2_cutIntoWords_1 : decode cX2_cutIntoWords 1 = .ok (.invokevirtual 25, 3) := by decide +kernel
theorem dX2_cutIntoWords_4 : decode cX2_cutIntoWords 4 = .ok (.iconst 1, 1) := by decide +kernel
theorem dX2_cutIntoWords_5 : decode cX2_cutIntoWords 5 = .ok (.iadd, 1) := by decide +kernel
theorem dX2_cutIntoWords_6 : decode cX2_cutIntoWords 6 = .ok (.anewarray 33, 3) := by decide +kernel
theorem dX2_cutIntoWords_9 : decode cX2_cutIntoWords 9 = .ok (.astore_n 1, 1) := by decide +kernel
theorem dX2_cutIntoWords_10 : decode cX2_cutIntoWords 10 = .ok (.iconst 0, 1) := by decide +kernel
theorem dX2_cutIntoWords_11 : decode cX2_cutIntoWords 11 = .ok (.istore_n 2, 1) := by decide +kernel
theorem dX2_cutIntoWords_12 : decode cX2_cutIntoWords 12 = .ok (.iconst 0, 1) := by decide +kernel
theorem dX2_cutIntoWords_13 : decode cX2_cutIntoWords 13 = .ok (.istore_n 3, 1) := by decide +kernel
theorem dX2_cutIntoWords_14 : decode cX2_cutIntoWords 14 = .ok (.iload_n 3, 1) := by decide +kernel
theorem dX2_cutIntoWords_15 : decode cX2_cutIntoWords 15 = .ok (.aload_n 1, 1) := by decide +kernel
theorem dX2_cutIntoWords_16 : decode cX2_cutIntoWords 16 = .ok (.arraylength, 1) := by decide +kernel
theorem dX2_cutIntoWords_17 : decode cX2_cutIntoWords 17 = .ok (.if_icmp .ge 31, 3) := by decide +kernel
theorem dX2_cutIntoWords_20 : decode cX2_cutIntoWords 20 = .ok (.aload_n 0, 1) := by decide +kernel
theorem dX2_cutIntoWords_21 : decode cX2_cutIntoWords 21 = .ok (.iload_n 2, 1) := by decide +kernel
theorem dX2_cutIntoWords_22 : decode cX2_cutIntoWords 22 = .ok (.invokevirtual 35, 3) := by decide +kernel
theorem dX2_cutIntoWords_25 : decode cX2_cutIntoWords 25 = .ok (.istore 4, 2) := by decide +kernel
theorem dX2_cutIntoWords_27 : decode cX2_cutIntoWords 27 = .ok (.aload_n 1, 1) := by decide +kernel
theorem dX2_cutIntoWords_28 : decode cX2_cutIntoWords 28 = .ok (.iload_n 3, 1) := by decide +kernel
theorem dX2_cutIntoWords_29 : decode cX2_cutIntoWords 29 = .ok (.aload_n 0, 1) := by decide +kernel
theorem dX2_cutIntoWords_30 : decode cX2_cutIntoWords 30 = .ok (.iload_n 2, 1) := by decide +kernel
theorem dX2_cutIntoWords_31 : decode cX2_cutIntoWords 31 = .ok (.iload 4, 2) := by decide +kernel
theorem dX2_cutIntoWords_33 : decode cX2_cutIntoWords 33 = .ok (.invokevirtual 39, 3) := by decide +kernel
theorem dX2_cutIntoWords_36 : decode cX2_cutIntoWords 36 = .ok (.aastore, 1) := by decide +kernel
theorem dX2_cutIntoWords_37 : decode cX2_cutIntoWords 37 = .ok (.iload 4, 2) := by decide +kernel
theorem dX2_cutIntoWords_39 : decode cX2_cutIntoWords 39 = .ok (.iconst 1, 1) := by decide +kernel
theorem dX2_cutIntoWords_40 : decode cX2_cutIntoWords 40 = .ok (.iadd, 1) := by decide +kernel
theorem dX2_cutIntoWords_41 : decode cX2_cutIntoWords 41 = .ok (.istore_n 2, 1) := by decide +kernel
theorem dX2_cutIntoWords_42 : decode cX2_cutIntoWords 42 = .ok (.iinc 3 1, 3) := by decide +kernel
theorem dX2_cutIntoWords_45 : decode cX2_cutIntoWords 45 = .ok (.goto (-31), 3) := by decide +kernel
theorem dX2_cutIntoWords_48 : decode cX2_cutIntoWords 48 = .ok (.aload_n 1, 1) := by decide +kernel
theorem dX2_cutIntoWords_49 : decode cX2_cutIntoWords 49 = .ok (.areturn, 1) := by decide +kernel
theorem dX2_wordBetween_0 : decode cX2_wordBetween 0 = .ok (.iconst 0, 1) := by decide +kernel
theorem dX2_wordBetween_1 : decode cX2_wordBetween 1 = .ok (.iload_n 2, 1) := by decide +kernel
theorem dX2_wordBetween_2 : decode cX2_wordBetween 2 = .ok (.iload_n 1, 1) := by decide +kernel
theorem dX2_wordBetween_3 : decode cX2_wordBetween 3 = .ok (.isub, 1) := by decide +kernel
theorem dX2_wordBetween_4 : decode cX2_wordBetween 4 = .ok (.invokestatic 15, 3) := by decide +kernel
theorem dX2_wordBetween_7 : decode cX2_wordBetween 7 = .ok (.newarray .char, 2) := by decide +kernel
theorem dX2_wordBetween_9 : decode cX2_wordBetween 9 = .ok (.astore_n 3, 1) := by decide +kernel
theorem dX2_wordBetween_10 : decode cX2_wordBetween 10 = .ok (.iconst 0, 1) := by decide +kernel
theorem dX2_wordBetween_11 : decode cX2_wordBetween 11 = .ok (.istore 4, 2) := by decide +kernel
theorem dX2_wordBetween_13 : decode cX2_wordBetween 13 = .ok (.iload 4, 2) := by decide +kernel
theorem dX2_wordBetween_15 : decode cX2_wordBetween 15 = .ok (.aload_n 3, 1) := by decide +kernel
theorem dX2_wordBetween_16 : decode cX2_wordBetween 16 = .ok (.arraylength, 1) := by decide +kernel
theorem dX2_wordBetween_17 : decode cX2_wordBetween 17 = .ok (.if_icmp .ge 21, 3) := by decide +kernel
theorem dX2_wordBetween_20 : decode cX2_wordBetween 20 = .ok (.aload_n 3, 1) := by decide +kernel
theorem dX2_wordBetween_21 : decode cX2_wordBetween 21 = .ok (.iload 4, 2) := by decide +kernel
theorem dX2_wordBetween_23 : decode cX2_wordBetween 23 = .ok (.aload_n 0, 1) := by decide +kernel
theorem dX2_wordBetween_24 : decode cX2_wordBetween 24 = .ok (.iload_n 1, 1) := by decide +kernel
theorem dX2_wordBetween_25 : decode cX2_wordBetween 25 = .ok (.iload 4, 2) := by decide +kernel
theorem dX2_wordBetween_27 : decode cX2_wordBetween 27 = .ok (.iadd, 1) := by decide +kernel
theorem dX2_wordBetween_28 : decode cX2_wordBetween 28 = .ok (.invokevirtual 29, 3) := by decide +kernel
theorem dX2_wordBetween_31 : decode cX2_wordBetween 31 = .ok (.castore, 1) := by decide +kernel
theorem dX2_wordBetween_32 : decode cX2_wordBetween 32 = .ok (.iinc 4 1, 3) := by decide +kernel
theorem dX2_wordBetween_35 : decode cX2_wordBetween 35 = .ok (.goto (-22), 3) := by decide +kernel
theorem dX2_wordBetween_38 : decode cX2_wordBetween 38 = .ok (.new 33, 3) := by decide +kernel
theorem dX2_wordBetween_41 : decode cX2_wordBetween 41 = .ok (.dup, 1) := by decide +kernel
theorem dX2_wordBetween_42 : decode cX2_wordBetween 42 = .ok (.aload_n 3, 1) := by decide +kernel
theorem dX2_wordBetween_43 : decode cX2_wordBetween 43 = .ok (.invokespecial 43, 3) := by decide +kernel
theorem dX2_wordBetween_46 : decode cX2_wordBetween 46 = .ok (.areturn, 1) := by decide +kernel
theorem dX3_init_0 : decode cX3_init 0 = .ok (.aload_n 0, 1) := by decide +kernel
theorem dX3_init_1 : decode cX3_init 1 = .ok (.invokespecial 1, 3) := by decide +kernel
theorem dX3_init_4 : decode cX3_init 4 = .ok (.aload_n 0, 1) := by decide +kernel
theorem dX3_init_5 : decode cX3_init 5 = .ok (.aload_n 1, 1) := by decide +kernel
theorem dX3_init_6 : decode cX3_init 6 = .ok (.putfield 7, 3) := by decide +kernel
theorem dX3_init_9 : decode cX3_init 9 = .ok (.aload_n 0, 1) := by decide +kernel
theorem dX3_init_10 : decode cX3_init 10 = .ok (.iload_n 2, 1) := by decide +kernel
theorem dX3_init_11 : decode cX3_init 11 = .ok (.putfield 13, 3) := by decide +kernel
theorem dX3_init_14 : decode cX3_init 14 = .ok (.aload_n 0, 1) := by decide +kernel
theorem dX3_init_15 : decode cX3_init 15 = .ok (.iload_n 3, 1) := by decide +kernel
theorem dX3_init_16 : decode cX3_init 16 = .ok (.putfield 17, 3) := by decide +kernel
theorem dX3_init_19 : decode cX3_init 19 = .ok (.return_, 1) := by decide +kernel
theorem dX4_init_0 : decode cX4_init 0 = .ok (.aload_n 0, 1) := by decide +kernel
theorem dX4_init_1 : decode cX4_init 1 = .ok (.invokespecial 3, 3) := by decide +kernel
theorem dX4_init_4 : decode cX4_init 4 = .ok (.aload_n 0, 1) := by decide +kernel
theorem dX4_init_5 : decode cX4_init 5 = .ok (.new 9, 3) := by decide +kernel
theorem dX4_init_8 : decode cX4_init 8 = .ok (.dup, 1) := by decide +kernel
theorem dX4_init_9 : decode cX4_init 9 = .ok (.invokespecial 11, 3) := by decide +kernel
theorem dX4_init_12 : decode cX4_init 12 = .ok (.putfield 12, 3) := by decide +kernel
theorem dX4_init_15 : decode cX4_init 15 = .ok (.aload_n 0, 1) := by decide +kernel
theorem dX4_init_16 : decode cX4_init 16 = .ok (.iconst 0, 1) := by decide +kernel
theorem dX4_init_17 : decode cX4_init 17 = .ok (.putfield 18, 3) := by decide +kernel
theorem dX4_init_20 : decode cX4_init 20 = .ok (.return_, 1) := by decide +kernel
theorem dX4_readAll_0 : decode cX4_readAll 0 = .ok (.aload_n 0, 1) := by decide +kernel
theorem dX4_readAll_1 : decode cX4_readAll 1 = .ok (.getfield 12, 3) := by decide +kernel
theorem dX4_readAll_4 : decode cX4_readAll 4 = .ok (.invokevirtual 22, 3) := by decide +kernel
theorem dX4_readAll_7 : decode cX4_readAll 7 = .ok (.aload_n 0, 1) := by decide +kernel
theorem dX4_readAll_8 : decode cX4_readAll 8 = .ok (.iconst 0, 1) := by decide +kernel
theorem dX4_readAll_9 : decode cX4_readAll 9 = .ok (.putfield 18, 3) := by decide +kernel
theorem dX4_readAll_12 : decode cX4_readAll 12 = .ok (.iconst 0, 1) := by decide +kernel
theorem dX4_readAll_13 : decode cX4_readAll 13 = .ok (.istore_n 2, 1) := by decide +kernel
theorem dX4_readAll_14 : decode cX4_readAll 14 = .ok (.iload_n 2, 1) := by decide +kernel
theorem dX4_readAll_15 : decode cX4_readAll 15 = .ok (.aload_n 1, 1) := by decide +kernel
theorem dX4_readAll_16 : decode cX4_readAll 16 = .ok (.getfield 25, 3) := by decide +kernel
theorem dX4_readAll_19 : decode cX4_readAll 19 = .ok (.if_icmp .gt 44, 3) := by decide +kernel
theorem dX4_readAll_22 : decode cX4_readAll 22 = .ok (.aload_n 0, 1) := by decide +kernel
theorem dX4_readAll_23 : decode cX4_readAll 23 = .ok (.aload_n 1, 1) := by decide +kernel
theorem dX4_readAll_24 : decode cX4_readAll 24 = .ok (.invokevirtual 30, 3) := by decide +kernel
theorem dX4_readAll_27 : decode cX4_readAll 27 = .ok (.ifCond .ne 5, 3) := by decide +kernel
theorem dX4_readAll_30 : decode cX4_readAll 30 = .ok (.iconst 0, 1) := by decide +kernel
theorem dX4_readAll_31 : decode cX4_readAll 31 = .ok (.ireturn, 1) := by decide +kernel
theorem dX4_readAll_32 : decode cX4_readAll 32 = .ok (.aload_n 0, 1) := by decide +kernel
theorem dX4_readAll_33 : decode cX4_readAll 33 = .ok (.getfield 18, 3) := by decide +kernel
theorem dX4_readAll_36 : decode cX4_readAll 36 = .ok (.aload_n 1, 1) := by decide +kernel
theorem dX4_readAll_37 : decode cX4_readAll 37 = .ok (.getfield 25, 3) := by decide +kernel
theorem dX4_readAll_40 : decode cX4_readAll 40 = .ok (.if_icmp .ne 5, 3) := by decide +kernel
theorem dX4_readAll_43 : decode cX4_readAll 43 = .ok (.iconst 1, 1) := by decide +kernel
theorem dX4_readAll_44 : decode cX4_readAll 44 = .ok (.ireturn, 1) := by decide +kernel
theorem dX4_readAll_45 : decode cX4_readAll 45 = .ok (.aload_n 0, 1) := by decide +kernel
theorem dX4_readAll_46 : decode cX4_readAll 46 = .ok (.aload_n 1, 1) := by decide +kernel
theorem dX4_readAll_47 : decode cX4_readAll 47 = .ok (.bipush 59, 2) := by decide +kernel
theorem dX4_readAll_49 : decode cX4_readAll 49 = .ok (.invokevirtual 34, 3) := by decide +kernel
theorem dX4_readAll_52 : decode cX4_readAll 52 = .ok (.ifCond .ne 5, 3) := by decide +kernel
theorem dX4_readAll_55 : decode cX4_readAll 55 = .ok (.iconst 0, 1) := by decide +kernel
theorem dX4_readAll_56 : decode cX4_readAll 56 = .ok (.ireturn, 1) := by decide +kernel
theorem dX4_readAll_57 : decode cX4_readAll 57 = .ok (.iinc 2 1, 3) := by decide +kernel
theorem dX4_readAll_60 : decode cX4_readAll 60 = .ok (.goto (-46), 3) := by decide +kernel
theorem dX4_readAll_63 : decode cX4_readAll 63 = .ok (.iconst 0, 1) := by decide +kernel
theorem dX4_readAll_64 : decode cX4_readAll 64 = .ok (.ireturn, 1) := by decide +kernel
theorem dX4_readCommand_0 : decode cX4_readCommand 0 = .ok (.aload_n 0, 1) := by decide +kernel
theorem dX4_readCommand_1 : decode cX4_readCommand 1 = .ok (.aload_n 1, 1) := by decide +kernel
theorem dX4_readCommand_2 : decode cX4_readCommand 2 = .ok (.invokevirtual 38, 3) := by decide +kernel
theorem dX4_readCommand_5 : decode cX4_readCommand 5 = .ok (.astore_n 2, 1) := by decide +kernel
theorem dX4_readCommand_6 : decode cX4_readCommand 6 = .ok (.aload_n 2, 1) := by decide +kernel
theorem dX4_readCommand_7 : decode cX4_readCommand 7 = .ok (.aload_n 1, 1) := by decide +kernel
theorem dX4_readCommand_8 : decode cX4_readCommand 8 = .ok (.aload_n 0, 1) := by decide +kernel
theorem dX4_readCommand_9 : decode cX4_readCommand 9 = .ok (.getfield 18, 3) := by decide +kernel
theorem dX4_readCommand_12 : decode cX4_readCommand 12 = .ok (.invokevirtual 42, 3) := by decide +kernel
theorem dX4_readCommand_15 : decode cX4_readCommand 15 = .ok (.istore_n 3, 1) := by decide +kernel
theorem dX4_readCommand_16 : decode cX4_readCommand 16 = .ok (.aload_n 0, 1) := by decide +kernel
theorem dX4_readCommand_17 : decode cX4_readCommand 17 = .ok (.dup, 1) := by decide +kernel
theorem dX4_readCommand_18 : decode cX4_readCommand 18 = .ok (.getfield 18, 3) := by decide +kernel
theorem dX4_readCommand_21 : decode cX4_readCommand 21 = .ok (.iload_n 3, 1) := by decide +kernel
theorem dX4_readCommand_22 : decode cX4_readCommand 22 = .ok (.iadd, 1) := by decide +kernel
theorem dX4_readCommand_23 : decode cX4_readCommand 23 = .ok (.putfield 18, 3) := by decide +kernel
theorem dX4_readCommand_26 : decode cX4_readCommand 26 = .ok (.iload_n 3, 1) := by decide +kernel
theorem dX4_readCommand_27 : decode cX4_readCommand 27 = .ok (.aload_n 2, 1) := by decide +kernel
theorem dX4_readCommand_28 : decode cX4_readCommand 28 = .ok (.getfield 48, 3) := by decide +kernel
theorem dX4_readCommand_31 : decode cX4_readCommand 31 = .ok (.invokevirtual 52, 3) := by decide +kernel
theorem dX4_readCommand_34 : decode cX4_readCommand 34 = .ok (.if_icmp .ge 5, 3) := by decide +kernel
theorem dX4_readCommand_37 : decode cX4_readCommand 37 = .ok (.iconst 0, 1) := by decide +kernel
theorem dX4_readCommand_38 : decode cX4_readCommand 38 = .ok (.ireturn, 1) := by decide +kernel
theorem dX4_readCommand_39 : decode cX4_readCommand 39 = .ok (.aload_n 2, 1) := by decide +kernel
theorem dX4_readCommand_40 : decode cX4_readCommand 40 = .ok (.getfield 57, 3) := by decide +kernel
theorem dX4_readCommand_43 : decode cX4_readCommand 43 = .ok (.iconst 1, 1) := by decide +kernel
theorem dX4_readCommand_44 : decode cX4_readCommand 44 = .ok (.if_icmp .lt 11, 3) := by decide +kernel
theorem dX4_readCommand_47 : decode cX4_readCommand 47 = .ok (.aload_n 0, 1) := by decide +kernel
theorem dX4_readCommand_48 : decode cX4_readCommand 48 = .ok (.aload_n 1, 1) := by decide +kernel
theorem dX4_readCommand_49 : decode cX4_readCommand 49 = .ok (.invokevirtual 60, 3) := by decide +kernel
theorem dX4_readCommand_52 : decode cX4_readCommand 52 = .ok (.goto 4, 3) := by decide +kernel
theorem dX4_readCommand_55 : decode cX4_readCommand 55 = .ok (.iconst 0, 1) := by decide +kernel
theorem dX4_readCommand_56 : decode cX4_readCommand 56 = .ok (.istore 4, 2) := by decide +kernel
theorem dX4_readCommand_58 : decode cX4_readCommand 58 = .ok (.iload 4, 2) := by decide +kernel
theorem dX4_readCommand_60 : decode cX4_readCommand 60 = .ok (.iconst (-1), 1) := by decide +kernel
theorem dX4_readCommand_61 : decode cX4_readCommand 61 = .ok (.if_icmp .eq 21, 3) := by decide +kernel
theorem dX4_readCommand_64 : decode cX4_readCommand 64 = .ok (.aload_n 2, 1) := by decide +kernel
theorem dX4_readCommand_65 : decode cX4_readCommand 65 = .ok (.getfield 57, 3) := by decide +kernel
theorem dX4_readCommand_68 : decode cX4_readCommand 68 = .ok (.iconst 2, 1) := by decide +kernel
theorem dX4_readCommand_69 : decode cX4_readCommand 69 = .ok (.if_icmp .lt 15, 3) := by decide +kernel
theorem dX4_readCommand_72 : decode cX4_readCommand 72 = .ok (.aload_n 0, 1) := by decide +kernel
theorem dX4_readCommand_73 : decode cX4_readCommand 73 = .ok (.aload_n 1, 1) := by decide +kernel
theorem dX4_readCommand_74 : decode cX4_readCommand 74 = .ok (.bipush 42, 2) := by decide +kernel
theorem dX4_readCommand_76 : decode cX4_readCommand 76 = .ok (.invokevirtual 34, 3) := by decide +kernel
theorem dX4_readCommand_79 : decode cX4_readCommand 79 = .ok (.ifCond .ne 5, 3) := by decide +kernel
theorem dX4_readCommand_82 : decode cX4_readCommand 82 = .ok (.iconst 0, 1) := by decide +kernel
theorem dX4_readCommand_83 : decode cX4_readCommand 83 = .ok (.ireturn, 1) := by decide +kernel
theorem dX4_readCommand_84 : decode cX4_readCommand 84 = .ok (.aload_n 2, 1) := by decide +kernel
theorem dX4_readCommand_85 : decode cX4_readCommand 85 = .ok (.getfield 57, 3) := by decide +kernel
theorem dX4_readCommand_88 : decode cX4_readCommand 88 = .ok (.iconst 2, 1) := by decide +kernel
theorem dX4_readCommand_89 : decode cX4_readCommand 89 = .ok (.if_icmp .lt 11, 3) := by decide +kernel
theorem dX4_readCommand_92 : decode cX4_readCommand 92 = .ok (.aload_n 0, 1) := by decide +kernel
theorem dX4_readCommand_93 : decode cX4_readCommand 93 = .ok (.aload_n 1, 1) := by decide +kernel
theorem dX4_readCommand_94 : decode cX4_readCommand 94 = .ok (.invokevirtual 60, 3) := by decide +kernel
theorem dX4_readCommand_97 : decode cX4_readCommand 97 = .ok (.goto 4, 3) := by decide +kernel
theorem dX4_readCommand_100 : decode cX4_readCommand 100 = .ok (.iconst 0, 1) := by decide +kernel
theorem dX4_readCommand_101 : decode cX4_readCommand 101 = .ok (.istore 5, 2) := by decide +kernel
theorem dX4_readCommand_103 : decode cX4_readCommand 103 = .ok (.iload 5, 2) := by decide +kernel
theorem dX4_readCommand_105 : decode cX4_readCommand 105 = .ok (.iconst (-1), 1) := by decide +kernel
theorem dX4_readCommand_106 : decode cX4_readCommand 106 = .ok (.if_icmp .ne 5, 3) := by decide +kernel
theorem dX4_readCommand_109 : decode cX4_readCommand 109 = .ok (.iconst 0, 1) := by decide +kernel
theorem dX4_readCommand_110 : decode cX4_readCommand 110 = .ok (.ireturn, 1) := by decide +kernel
theorem dX4_readCommand_111 : decode cX4_readCommand 111 = .ok (.aload_n 0, 1) := by decide +kernel
theorem dX4_readCommand_112 : decode cX4_readCommand 112 = .ok (.getfield 12, 3) := by decide +kernel
theorem dX4_readCommand_115 : decode cX4_readCommand 115 = .ok (.new 64, 3) := by decide +kernel
theorem dX4_readCommand_118 : decode cX4_readCommand 118 = .ok (.dup, 1) := by decide +kernel
theorem dX4_readCommand_119 : decode cX4_readCommand 119 = .ok (.aload_n 2, 1) := by decide +kernel
theorem dX4_readCommand_120 : decode cX4_readCommand 120 = .ok (.iload 4, 2) := by decide +kernel
theorem dX4_readCommand_122 : decode cX4_readCommand 122 = .ok (.iload 5, 2) := by decide +kernel
theorem dX4_readCommand_124 : decode cX4_readCommand 124 = .ok (.invokespecial 66, 3) := by decide +kernel
theorem dX4_readCommand_127 : decode cX4_readCommand 127 = .ok (.invokevirtual 69, 3) := by decide +kernel
theorem dX4_readCommand_130 : decode cX4_readCommand 130 = .ok (.pop, 1) := by decide +kernel
theorem dX4_readCommand_131 : decode cX4_readCommand 131 = .ok (.iconst 1, 1) := by decide +kernel
theorem dX4_readCommand_132 : decode cX4_readCommand 132 = .ok (.ireturn, 1) := by decide +kernel
theorem dX4_bestKeyword_0 : decode cX4_bestKeyword 0 = .ok (.getstatic 73, 3) := by decide +kernel
theorem dX4_bestKeyword_3 : decode cX4_bestKeyword 3 = .ok (.astore_n 2, 1) := by decide +kernel
theorem dX4_bestKeyword_4 : decode cX4_bestKeyword 4 = .ok (.getstatic 77, 3) := by decide +kernel
theorem dX4_bestKeyword_7 : decode cX4_bestKeyword 7 = .ok (.astore_n 3, 1) := by decide +kernel
theorem dX4_bestKeyword_8 : decode cX4_bestKeyword 8 = .ok (.aload_n 3, 1) := by decide +kernel
theorem dX4_bestKeyword_9 : decode cX4_bestKeyword 9 = .ok (.arraylength, 1) := by decide +kernel
theorem dX4_bestKeyword_10 : decode cX4_bestKeyword 10 = .ok (.istore 4, 2) := by decide +kernel
theorem dX4_bestKeyword_12 : decode cX4_bestKeyword 12 = .ok (.iconst 0, 1) := by decide +kernel
theorem dX4_bestKeyword_13 : decode cX4_bestKeyword 13 = .ok (.istore 5, 2) := by decide +kernel
theorem dX4_bestKeyword_15 : decode cX4_bestKeyword 15 = .ok (.iload 5, 2) := by decide +kernel
theorem dX4_bestKeyword_17 : decode cX4_bestKeyword 17 = .ok (.iload 4, 2) := by decide +kernel
theorem dX4_bestKeyword_19 : decode cX4_bestKeyword 19 = .ok (.if_icmp .ge 40, 3) := by decide +kernel
theorem dX4_bestKeyword_22 : decode cX4_bestKeyword 22 = .ok (.aload_n 3, 1) := by decide +kernel
theorem dX4_bestKeyword_23 : decode cX4_bestKeyword 23 = .ok (.iload 5, 2) := by decide +kernel
theorem dX4_bestKeyword_25 : decode cX4_bestKeyword 25 = .ok (.aaload, 1) := by decide +kernel
theorem dX4_bestKeyword_26 : decode cX4_bestKeyword 26 = .ok (.astore 6, 2) := by decide +kernel
theorem dX4_bestKeyword_28 : decode cX4_bestKeyword 28 = .ok (.aload 6, 2) := by decide +kernel
theorem dX4_bestKeyword_30 : decode cX4_bestKeyword 30 = .ok (.aload_n 1, 1) := by decide +kernel
theorem dX4_bestKeyword_31 : decode cX4_bestKeyword 31 = .ok (.aload_n 0, 1) := by decide +kernel
theorem dX4_bestKeyword_32 : decode cX4_bestKeyword 32 = .ok (.getfield 18, 3) := by decide +kernel
theorem dX4_bestKeyword_35 : decode cX4_bestKeyword 35 = .ok (.invokevirtual 42, 3) := by decide +kernel
theorem dX4_bestKeyword_38 : decode cX4_bestKeyword 38 = .ok (.aload_n 2, 1) := by decide +kernel
theorem dX4_bestKeyword_39 : decode cX4_bestKeyword 39 = .ok (.aload_n 1, 1) := by decide +kernel
theorem dX4_bestKeyword_40 : decode cX4_bestKeyword 40 = .ok (.aload_n 0, 1) := by decide +kernel
theorem dX4_bestKeyword_41 : decode cX4_bestKeyword 41 = .ok (.getfield 18, 3) := by decide +kernel
theorem dX4_bestKeyword_44 : decode cX4_bestKeyword 44 = .ok (.invokevirtual 42, 3) := by decide +kernel
theorem dX4_bestKeyword_47 : decode cX4_bestKeyword 47 = .ok (.if_icmp .le 6, 3) := by decide +kernel
theorem dX4_bestKeyword_50 : decode cX4_bestKeyword 50 = .ok (.aload 6, 2) := by decide +kernel
theorem dX4_bestKeyword_52 : decode cX4_bestKeyword 52 = .ok (.astore_n 2, 1) := by decide +kernel
theorem dX4_bestKeyword_53 : decode cX4_bestKeyword 53 = .ok (.iinc 5 1, 3) := by decide +kernel
theorem dX4_bestKeyword_56 : decode cX4_bestKeyword 56 = .ok (.goto (-41), 3) := by decide +kernel
theorem dX4_bestKeyword_59 : decode cX4_bestKeyword 59 = .ok (.aload_n 2, 1) := by decide +kernel
theorem dX4_bestKeyword_60 : decode cX4_bestKeyword 60 = .ok (.areturn, 1) := by decide +kernel
theorem dX4_readSign_0 : decode cX4_readSign 0 = .ok (.aload_n 1, 1) := by decide +kernel
theorem dX4_readSign_1 : decode cX4_readSign 1 = .ok (.aload_n 0, 1) := by decide +kernel
theorem dX4_readSign_2 : decode cX4_readSign 2 = .ok (.getfield 18, 3) := by decide +kernel
theorem dX4_readSign_5 : decode cX4_readSign 5 = .ok (.invokevirtual 81, 3) := by decide +kernel
theorem dX4_readSign_8 : decode cX4_readSign 8 = .ok (.iload_n 2, 1) := by decide +kernel
theorem dX4_readSign_9 : decode cX4_readSign 9 = .ok (.if_icmp .eq 5, 3) := by decide +kernel
theorem dX4_readSign_12 : decode cX4_readSign 12 = .ok (.iconst 0, 1) := by decide +kernel
theorem dX4_readSign_13 : decode cX4_readSign 13 = .ok (.ireturn, 1) := by decide +kernel
theorem dX4_readSign_14 : decode cX4_readSign 14 = .ok (.aload_n 0, 1) := by decide +kernel
theorem dX4_readSign_15 : decode cX4_readSign 15 = .ok (.dup, 1) := by decide +kernel
theorem dX4_readSign_16 : decode cX4_readSign 16 = .ok (.getfield 18, 3) := by decide +kernel
theorem dX4_readSign_19 : decode cX4_readSign 19 = .ok (.iconst 1, 1) := by decide +kernel
theorem dX4_readSign_20 : decode cX4_readSign 20 = .ok (.iadd, 1) := by decide +kernel
theorem dX4_readSign_21 : decode cX4_readSign 21 = .ok (.putfield 18, 3) := by decide +kernel
theorem dX4_readSign_24 : decode cX4_readSign 24 = .ok (.iconst 1, 1) := by decide +kernel
theorem dX4_readSign_25 : decode cX4_readSign 25 = .ok (.ireturn, 1) := by decide +kernel
theorem dX4_readNumber_0 : decode cX4_readNumber 0 = .ok (.iconst (-1), 1) := by decide +kernel
theorem dX4_readNumber_1 : decode cX4_readNumber 1 = .ok (.istore_n 2, 1) := by decide +kernel
theorem dX4_readNumber_2 : decode cX4_readNumber 2 = .ok (.iconst 0, 1) := by decide +kernel
theorem dX4_readNumber_3 : decode cX4_readNumber 3 = .ok (.istore_n 3, 1) := by decide +kernel
theorem dX4_readNumber_4 : decode cX4_readNumber 4 = .ok (.iload_n 3, 1) := by decide +kernel
theorem dX4_readNumber_5 : decode cX4_readNumber 5 = .ok (.iconst 2, 1) := by decide +kernel
theorem dX4_readNumber_6 : decode cX4_readNumber 6 = .ok (.if_icmp .ge 61, 3) := by decide +kernel
theorem dX4_readNumber_9 : decode cX4_readNumber 9 = .ok (.aload_n 1, 1) := by decide +kernel
theorem dX4_readNumber_10 : decode cX4_readNumber 10 = .ok (.aload_n 0, 1) := by decide +kernel
theorem dX4_readNumber_11 : decode cX4_readNumber 11 = .ok (.getfield 18, 3) := by decide +kernel
theorem dX4_readNumber_14 : decode cX4_readNumber 14 = .ok (.invokevirtual 81, 3) := by decide +kernel
theorem dX4_readNumber_17 : decode cX4_readNumber 17 = .ok (.istore 4, 2) := by decide +kernel
theorem dX4_readNumber_19 : decode cX4_readNumber 19 = .ok (.iload 4, 2) := by decide +kernel
theorem dX4_readNumber_21 : decode cX4_readNumber 21 = .ok (.bipush 48, 2) := by decide +kernel
theorem dX4_readNumber_23 : decode cX4_readNumber 23 = .ok (.if_icmp .lt 44, 3) := by decide +kernel
theorem dX4_readNumber_26 : decode cX4_readNumber 26 = .ok (.iload 4, 2) := by decide +kernel
theorem dX4_readNumber_28 : decode cX4_readNumber 28 = .ok (.bipush 57, 2) := by decide +kernel
theorem dX4_readNumber_30 : decode cX4_readNumber 30 = .ok (.if_icmp .le 6, 3) := by decide +kernel
theorem dX4_readNumber_33 : decode cX4_readNumber 33 = .ok (.goto 34, 3) := by decide +kernel
theorem dX4_readNumber_36 : decode cX4_readNumber 36 = .ok (.iload_n 2, 1) := by decide +kernel
theorem dX4_readNumber_37 : decode cX4_readNumber 37 = .ok (.iconst 0, 1) := by decide +kernel
theorem dX4_readNumber_38 : decode cX4_readNumber 38 = .ok (.invokestatic 85, 3) := by decide +kernel
theorem dX4_readNumber_41 : decode cX4_readNumber 41 = .ok (.bipush 10, 2) := by decide +kernel
theorem dX4_readNumber_43 : decode cX4_readNumber 43 = .ok (.imul, 1) := by decide +kernel
theorem dX4_readNumber_44 : decode cX4_readNumber 44 = .ok (.iload 4, 2) := by decide +kernel
theorem dX4_readNumber_46 : decode cX4_readNumber 46 = .ok (.bipush 48, 2) := by decide +kernel
theorem dX4_readNumber_48 : decode cX4_readNumber 48 = .ok (.isub, 1) := by decide +kernel
theorem dX4_readNumber_49 : decode cX4_readNumber 49 = .ok (.iadd, 1) := by decide +kernel
theorem dX4_readNumber_50 : decode cX4_readNumber 50 = .ok (.istore_n 2, 1) := by decide +kernel
theorem dX4_readNumber_51 : decode cX4_readNumber 51 = .ok (.aload_n 0, 1) := by decide +kernel
theorem dX4_readNumber_52 : decode cX4_readNumber 52 = .ok (.dup, 1) := by decide +kernel
theorem dX4_readNumber_53 : decode cX4_readNumber 53 = .ok (.getfield 18, 3) := by decide +kernel
theorem dX4_readNumber_56 : decode cX4_readNumber 56 = .ok (.iconst 1, 1) := by decide +kernel
theorem dX4_readNumber_57 : decode cX4_readNumber 57 = .ok (.iadd, 1) := by decide +kernel
theorem dX4_readNumber_58 : decode cX4_readNumber 58 = .ok (.putfield 18, 3) := by decide +kernel
theorem dX4_readNumber_61 : decode cX4_readNumber 61 = .ok (.iinc 3 1, 3) := by decide +kernel
theorem dX4_readNumber_64 : decode cX4_readNumber 64 = .ok (.goto (-60), 3) := by decide +kernel
theorem dX4_readNumber_67 : decode cX4_readNumber 67 = .ok (.iload_n 2, 1) := by decide +kernel
theorem dX4_readNumber_68 : decode cX4_readNumber 68 = .ok (.ireturn, 1) := by decide +kernel
theorem dX5_init_0 : decode cX5_init 0 = .ok (.aload_n 0, 1) := by decide +kernel
theorem dX5_init_1 : decode cX5_init 1 = .ok (.invokespecial 3, 3) := by decide +kernel
theorem dX5_init_4 : decode cX5_init 4 = .ok (.aload_n 0, 1) := by decide +kernel
theorem dX5_init_5 : decode cX5_init 5 = .ok (.bipush 31, 2) := by decide +kernel
theorem dX5_init_7 : decode cX5_init 7 = .ok (.newarray .int, 2) := by decide +kernel
theorem dX5_init_9 : decode cX5_init 9 = .ok (.putfield 9, 3) := by decide +kernel
theorem dX5_init_12 : decode cX5_init 12 = .ok (.return_, 1) := by decide +kernel
theorem dX5_fromLastWord_0 : decode cX5_fromLastWord 0 = .ok (.aload_n 1, 1) := by decide +kernel
theorem dX5_fromLastWord_1 : decode cX5_fromLastWord 1 = .ok (.getfield 15, 3) := by decide +kernel
theorem dX5_fromLastWord_4 : decode cX5_fromLastWord 4 = .ok (.arraylength, 1) := by decide +kernel
theorem dX5_fromLastWord_5 : decode cX5_fromLastWord 5 = .ok (.bipush 30, 2) := by decide +kernel
theorem dX5_fromLastWord_7 : decode cX5_fromLastWord 7 = .ok (.invokestatic 21, 3) := by decide +kernel
theorem dX5_fromLastWord_10 : decode cX5_fromLastWord 10 = .ok (.istore_n 3, 1) := by decide +kernel
theorem dX5_fromLastWord_11 : decode cX5_fromLastWord 11 = .ok (.aload_n 0, 1) := by decide +kernel
theorem dX5_fromLastWord_12 : decode cX5_fromLastWord 12 = .ok (.getfield 9, 3) := by decide +kernel
theorem dX5_fromLastWord_15 : decode cX5_fromLastWord 15 = .ok (.iload_n 3, 1) := by decide +kernel
theorem dX5_fromLastWord_16 : decode cX5_fromLastWord 16 = .ok (.iconst 0, 1) := by decide +kernel
theorem dX5_fromLastWord_17 : decode cX5_fromLastWord 17 = .ok (.iastore, 1) := by decide +kernel
theorem dX5_fromLastWord_18 : decode cX5_fromLastWord 18 = .ok (.iload_n 3, 1) := by decide +kernel
theorem dX5_fromLastWord_19 : decode cX5_fromLastWord 19 = .ok (.iconst 1, 1) := by decide +kernel
theorem dX5_fromLastWord_20 : decode cX5_fromLastWord 20 = .ok (.isub, 1) := by decide +kernel
theorem dX5_fromLastWord_21 : decode cX5_fromLastWord 21 = .ok (.istore 4, 2) := by decide +kernel
theorem dX5_fromLastWord_23 : decode cX5_fromLastWord 23 = .ok (.iload 4, 2) := by decide +kernel
theorem dX5_fromLastWord_25 : decode cX5_fromLastWord 25 = .ok (.ifCond .lt 24, 3) := by decide +kernel
theorem dX5_fromLastWord_28 : decode cX5_fromLastWord 28 = .ok (.aload_n 0, 1) := by decide +kernel
theorem dX5_fromLastWord_29 : decode cX5_fromLastWord 29 = .ok (.getfield 9, 3) := by decide +kernel
theorem dX5_fromLastWord_32 : decode cX5_fromLastWord 32 = .ok (.iload 4, 2) := by decide +kernel
theorem dX5_fromLastWord_34 : decode cX5_fromLastWord 34 = .ok (.aload_n 0, 1) := by decide +kernel
theorem dX5_fromLastWord_35 : decode cX5_fromLastWord 35 = .ok (.aload_n 1, 1) := by decide +kernel
theorem dX5_fromLastWord_36 : decode cX5_fromLastWord 36 = .ok (.iload_n 2, 1) := by decide +kernel
theorem dX5_fromLastWord_37 : decode cX5_fromLastWord 37 = .ok (.iload 4, 2) := by decide +kernel
theorem dX5_fromLastWord_39 : decode cX5_fromLastWord 39 = .ok (.invokevirtual 27, 3) := by decide +kernel
theorem dX5_fromLastWord_42 : decode cX5_fromLastWord 42 = .ok (.iastore, 1) := by decide +kernel
theorem dX5_fromLastWord_43 : decode cX5_fromLastWord 43 = .ok (.iinc 4 (-1), 3) := by decide +kernel
theorem dX5_fromLastWord_46 : decode cX5_fromLastWord 46 = .ok (.goto (-23), 3) := by decide +kernel
theorem dX5_fromLastWord_49 : decode cX5_fromLastWord 49 = .ok (.aload_n 0, 1) := by decide +kernel
theorem dX5_fromLastWord_50 : decode cX5_fromLastWord 50 = .ok (.getfield 9, 3) := by decide +kernel
theorem dX5_fromLastWord_53 : decode cX5_fromLastWord 53 = .ok (.iconst 0, 1) := by decide +kernel
theorem dX5_fromLastWord_54 : decode cX5_fromLastWord 54 = .ok (.iaload, 1) := by decide +kernel
theorem dX5_fromLastWord_55 : decode cX5_fromLastWord 55 = .ok (.ireturn, 1) := by decide +kernel
theorem dX5_leastBehind_0 : decode cX5_leastBehind 0 = .ok (.aload_n 1, 1) := by decide +kernel
theorem dX5_leastBehind_1 : decode cX5_leastBehind 1 = .ok (.getfield 15, 3) := by decide +kernel
theorem dX5_leastBehind_4 : decode cX5_leastBehind 4 = .ok (.arraylength, 1) := by decide +kernel
theorem dX5_leastBehind_5 : decode cX5_leastBehind 5 = .ok (.bipush 30, 2) := by decide +kernel
theorem dX5_leastBehind_7 : decode cX5_leastBehind 7 = .ok (.invokestatic 21, 3) := by decide +kernel
theorem dX5_leastBehind_10 : decode cX5_leastBehind 10 = .ok (.istore 4, 2) := by decide +kernel
theorem dX5_leastBehind_12 : decode cX5_leastBehind 12 = .ok (.ldc 31, 2) := by decide +kernel
theorem dX5_leastBehind_14 : decode cX5_leastBehind 14 = .ok (.istore 5, 2) := by decide +kernel
theorem dX5_leastBehind_16 : decode cX5_leastBehind 16 = .ok (.iconst (-1), 1) := by decide +kernel
theorem dX5_leastBehind_17 : decode cX5_leastBehind 17 = .ok (.istore 6, 2) := by decide +kernel
theorem dX5_leastBehind_19 : decode cX5_leastBehind 19 = .ok (.iload_n 3, 1) := by decide +kernel
theorem dX5_leastBehind_20 : decode cX5_leastBehind 20 = .ok (.istore 7, 2) := by decide +kernel
theorem dX5_leastBehind_22 : decode cX5_leastBehind 22 = .ok (.iload 7, 2) := by decide +kernel
theorem dX5_leastBehind_24 : decode cX5_leastBehind 24 = .ok (.iload 4, 2) := by decide +kernel
theorem dX5_leastBehind_26 : decode cX5_leastBehind 26 = .ok (.if_icmp .ge 76, 3) := by decide +kernel
theorem dX5_leastBehind_29 : decode cX5_leastBehind 29 = .ok (.iload 6, 2) := by decide +kernel
theorem dX5_leastBehind_31 : decode cX5_leastBehind 31 = .ok (.iconst 1, 1) := by decide +kernel
theorem dX5_leastBehind_32 : decode cX5_leastBehind 32 = .ok (.aload_n 1, 1) := by decide +kernel
theorem dX5_leastBehind_33 : decode cX5_leastBehind 33 = .ok (.getfield 15, 3) := by decide +kernel
theorem dX5_leastBehind_36 : decode cX5_leastBehind 36 = .ok (.iload 7, 2) := by decide +kernel
theorem dX5_leastBehind_38 : decode cX5_leastBehind 38 = .ok (.aaload, 1) := by decide +kernel
theorem dX5_leastBehind_39 : decode cX5_leastBehind 39 = .ok (.invokevirtual 32, 3) := by decide +kernel
theorem dX5_leastBehind_42 : decode cX5_leastBehind 42 = .ok (.iadd, 1) := by decide +kernel
theorem dX5_leastBehind_43 : decode cX5_leastBehind 43 = .ok (.iadd, 1) := by decide +kernel
theorem dX5_leastBehind_44 : decode cX5_leastBehind 44 = .ok (.istore 6, 2) := by decide +kernel
theorem dX5_leastBehind_46 : decode cX5_leastBehind 46 = .ok (.iload 6, 2) := by decide +kernel
theorem dX5_leastBehind_48 : decode cX5_leastBehind 48 = .ok (.iload_n 2, 1) := by decide +kernel
theorem dX5_leastBehind_49 : decode cX5_leastBehind 49 = .ok (.if_icmp .le 6, 3) := by decide +kernel
theorem dX5_leastBehind_52 : decode cX5_leastBehind 52 = .ok (.goto 50, 3) := by decide +kernel
theorem dX5_leastBehind_55 : decode cX5_leastBehind 55 = .ok (.iload 7, 2) := by decide +kernel
theorem dX5_leastBehind_57 : decode cX5_leastBehind 57 = .ok (.iload 4, 2) := by decide +kernel
theorem dX5_leastBehind_59 : decode cX5_leastBehind 59 = .ok (.iconst 1, 1) := by decide +kernel
theorem dX5_leastBehind_60 : decode cX5_leastBehind 60 = .ok (.isub, 1) := by decide +kernel
theorem dX5_leastBehind_61 : decode cX5_leastBehind 61 = .ok (.if_icmp .ne 7, 3) := by decide +kernel
theorem dX5_leastBehind_64 : decode cX5_leastBehind 64 = .ok (.iconst 0, 1) := by decide +kernel
theorem dX5_leastBehind_65 : decode cX5_leastBehind 65 = .ok (.goto 10, 3) := by decide +kernel
theorem dX5_leastBehind_68 : decode cX5_leastBehind 68 = .ok (.iload_n 2, 1) := by decide +kernel
theorem dX5_leastBehind_69 : decode cX5_leastBehind 69 = .ok (.iload 6, 2) := by decide +kernel
theorem dX5_leastBehind_71 : decode cX5_leastBehind 71 = .ok (.isub, 1) := by decide +kernel
theorem dX5_leastBehind_72 : decode cX5_leastBehind 72 = .ok (.invokestatic 38, 3) := by decide +kernel
theorem dX5_leastBehind_75 : decode cX5_leastBehind 75 = .ok (.istore 8, 2) := by decide +kernel
theorem dX5_leastBehind_77 : decode cX5_leastBehind 77 = .ok (.iload 5, 2) := by decide +kernel
theorem dX5_leastBehind_79 : decode cX5_leastBehind 79 = .ok (.iload 8, 2) := by decide +kernel
theorem dX5_leastBehind_81 : decode cX5_leastBehind 81 = .ok (.aload_n 0, 1) := by decide +kernel
theorem dX5_leastBehind_82 : decode cX5_leastBehind 82 = .ok (.getfield 9, 3) := by decide +kernel
theorem dX5_leastBehind_85 : decode cX5_leastBehind 85 = .ok (.iload 7, 2) := by decide +kernel
theorem dX5_leastBehind_87 : decode cX5_leastBehind 87 = .ok (.iconst 1, 1) := by decide +kernel
theorem dX5_leastBehind_88 : decode cX5_leastBehind 88 = .ok (.iadd, 1) := by decide +kernel
theorem dX5_leastBehind_89 : decode cX5_leastBehind 89 = .ok (.iaload, 1) := by decide +kernel
theorem dX5_leastBehind_90 : decode cX5_leastBehind 90 = .ok (.iadd, 1) := by decide +kernel
theorem dX5_leastBehind_91 : decode cX5_leastBehind 91 = .ok (.invokestatic 21, 3) := by decide +kernel
theorem dX5_leastBehind_94 : decode cX5_leastBehind 94 = .ok (.istore 5, 2) := by decide +kernel
theorem dX5_leastBehind_96 : decode cX5_leastBehind 96 = .ok (.iinc 7 1, 3) := by decide +kernel
theorem dX5_leastBehind_99 : decode cX5_leastBehind 99 = .ok (.goto (-77), 3) := by decide +kernel
theorem dX5_leastBehind_102 : decode cX5_leastBehind 102 = .ok (.iload 5, 2) := by decide +kernel
theorem dX5_leastBehind_104 : decode cX5_leastBehind 104 = .ok (.ireturn, 1) := by decide +kernel
theorem dX5_fromFirstWord_0 : decode cX5_fromFirstWord 0 = .ok (.aload_n 1, 1) := by decide +kernel
theorem dX5_fromFirstWord_1 : decode cX5_fromFirstWord 1 = .ok (.getfield 15, 3) := by decide +kernel
theorem dX5_fromFirstWord_4 : decode cX5_fromFirstWord 4 = .ok (.arraylength, 1) := by decide +kernel
theorem dX5_fromFirstWord_5 : decode cX5_fromFirstWord 5 = .ok (.bipush 30, 2) := by decide +kernel
theorem dX5_fromFirstWord_7 : decode cX5_fromFirstWord 7 = .ok (.invokestatic 21, 3) := by decide +kernel
theorem dX5_fromFirstWord_10 : decode cX5_fromFirstWord 10 = .ok (.istore_n 3, 1) := by decide +kernel
theorem dX5_fromFirstWord_11 : decode cX5_fromFirstWord 11 = .ok (.aload_n 0, 1) := by decide +kernel
theorem dX5_fromFirstWord_12 : decode cX5_fromFirstWord 12 = .ok (.getfield 9, 3) := by decide +kernel
theorem dX5_fromFirstWord_15 : decode cX5_fromFirstWord 15 = .ok (.iconst 0, 1) := by decide +kernel
theorem dX5_fromFirstWord_16 : decode cX5_fromFirstWord 16 = .ok (.iconst 0, 1) := by decide +kernel
theorem dX5_fromFirstWord_17 : decode cX5_fromFirstWord 17 = .ok (.iastore, 1) := by decide +kernel
theorem dX5_fromFirstWord_18 : decode cX5_fromFirstWord 18 = .ok (.iconst 1, 1) := by decide +kernel
theorem dX5_fromFirstWord_19 : decode cX5_fromFirstWord 19 = .ok (.istore 4, 2) := by decide +kernel
theorem dX5_fromFirstWord_21 : decode cX5_fromFirstWord 21 = .ok (.iload 4, 2) := by decide +kernel
theorem dX5_fromFirstWord_23 : decode cX5_fromFirstWord 23 = .ok (.iload_n 3, 1) := by decide +kernel
theorem dX5_fromFirstWord_24 : decode cX5_fromFirstWord 24 = .ok (.if_icmp .gt 24, 3) := by decide +kernel
theorem dX5_fromFirstWord_27 : decode cX5_fromFirstWord 27 = .ok (.aload_n 0, 1) := by decide +kernel
theorem dX5_fromFirstWord_28 : decode cX5_fromFirstWord 28 = .ok (.getfield 9, 3) := by decide +kernel
theorem dX5_fromFirstWord_31 : decode cX5_fromFirstWord 31 = .ok (.iload 4, 2) := by decide +kernel
theorem dX5_fromFirstWord_33 : decode cX5_fromFirstWord 33 = .ok (.aload_n 0, 1) := by decide +kernel
theorem dX5_fromFirstWord_34 : decode cX5_fromFirstWord 34 = .ok (.aload_n 1, 1) := by decide +kernel
theorem dX5_fromFirstWord_35 : decode cX5_fromFirstWord 35 = .ok (.iload_n 2, 1) := by decide +kernel
theorem dX5_fromFirstWord_36 : decode cX5_fromFirstWord 36 = .ok (.iload 4, 2) := by decide +kernel
theorem dX5_fromFirstWord_38 : decode cX5_fromFirstWord 38 = .ok (.invokevirtual 42, 3) := by decide +kernel
theorem dX5_fromFirstWord_41 : decode cX5_fromFirstWord 41 = .ok (.iastore, 1) := by decide +kernel
theorem dX5_fromFirstWord_42 : decode cX5_fromFirstWord 42 = .ok (.iinc 4 1, 3) := by decide +kernel
theorem dX5_fromFirstWord_45 : decode cX5_fromFirstWord 45 = .ok (.goto (-24), 3) := by decide +kernel
theorem dX5_fromFirstWord_48 : decode cX5_fromFirstWord 48 = .ok (.aload_n 0, 1) := by decide +kernel
theorem dX5_fromFirstWord_49 : decode cX5_fromFirstWord 49 = .ok (.getfield 9, 3) := by decide +kernel
theorem dX5_fromFirstWord_52 : decode cX5_fromFirstWord 52 = .ok (.iload_n 3, 1) := by decide +kernel
theorem dX5_fromFirstWord_53 : decode cX5_fromFirstWord 53 = .ok (.iaload, 1) := by decide +kernel
theorem dX5_fromFirstWord_54 : decode cX5_fromFirstWord 54 = .ok (.ireturn, 1) := by decide +kernel
theorem dX5_leastBefore_0 : decode cX5_leastBefore 0 = .ok (.aload_n 1, 1) := by decide +kernel
theorem dX5_leastBefore_1 : decode cX5_leastBefore 1 = .ok (.getfield 15, 3) := by decide +kernel
theorem dX5_leastBefore_4 : decode cX5_leastBefore 4 = .ok (.arraylength, 1) := by decide +kernel
theorem dX5_leastBefore_5 : decode cX5_leastBefore 5 = .ok (.bipush 30, 2) := by decide +kernel
theorem dX5_leastBefore_7 : decode cX5_leastBefore 7 = .ok (.invokestatic 21, 3) := by decide +kernel
theorem dX5_leastBefore_10 : decode cX5_leastBefore 10 = .ok (.istore 4, 2) := by decide +kernel
theorem dX5_leastBefore_12 : decode cX5_leastBefore 12 = .ok (.ldc 31, 2) := by decide +kernel
theorem dX5_leastBefore_14 : decode cX5_leastBefore 14 = .ok (.istore 5, 2) := by decide +kernel
theorem dX5_leastBefore_16 : decode cX5_leastBefore 16 = .ok (.iconst (-1), 1) := by decide +kernel
theorem dX5_leastBefore_17 : decode cX5_leastBefore 17 = .ok (.istore 6, 2) := by decide +kernel
theorem dX5_leastBefore_19 : decode cX5_leastBefore 19 = .ok (.iload_n 3, 1) := by decide +kernel
theorem dX5_leastBefore_20 : decode cX5_leastBefore 20 = .ok (.iconst 1, 1) := by decide +kernel
theorem dX5_leastBefore_21 : decode cX5_leastBefore 21 = .ok (.isub, 1) := by decide +kernel
theorem dX5_leastBefore_22 : decode cX5_leastBefore 22 = .ok (.istore 7, 2) := by decide +kernel
theorem dX5_leastBefore_24 : decode cX5_leastBefore 24 = .ok (.iload 7, 2) := by decide +kernel
theorem dX5_leastBefore_26 : decode cX5_leastBefore 26 = .ok (.ifCond .lt 71, 3) := by decide +kernel
theorem dX5_leastBefore_29 : decode cX5_leastBefore 29 = .ok (.iload 6, 2) := by decide +kernel
theorem dX5_leastBefore_31 : decode cX5_leastBefore 31 = .ok (.iconst 1, 1) := by decide +kernel
theorem dX5_leastBefore_32 : decode cX5_leastBefore 32 = .ok (.aload_n 1, 1) := by decide +kernel
theorem dX5_leastBefore_33 : decode cX5_leastBefore 33 = .ok (.getfield 15, 3) := by decide +kernel
theorem dX5_leastBefore_36 : decode cX5_leastBefore 36 = .ok (.iload 7, 2) := by decide +kernel
theorem dX5_leastBefore_38 : decode cX5_leastBefore 38 = .ok (.aaload, 1) := by decide +kernel
theorem dX5_leastBefore_39 : decode cX5_leastBefore 39 = .ok (.invokevirtual 32, 3) := by decide +kernel
theorem dX5_leastBefore_42 : decode cX5_leastBefore 42 = .ok (.iadd, 1) := by decide +kernel
theorem dX5_leastBefore_43 : decode cX5_leastBefore 43 = .ok (.iadd, 1) := by decide +kernel
theorem dX5_leastBefore_44 : decode cX5_leastBefore 44 = .ok (.istore 6, 2) := by decide +kernel
theorem dX5_leastBefore_46 : decode cX5_leastBefore 46 = .ok (.iload 6, 2) := by decide +kernel
theorem dX5_leastBefore_48 : decode cX5_leastBefore 48 = .ok (.iload_n 2, 1) := by decide +kernel
theorem dX5_leastBefore_49 : decode cX5_leastBefore 49 = .ok (.if_icmp .le 6, 3) := by decide +kernel
theorem dX5_leastBefore_52 : decode cX5_leastBefore 52 = .ok (.goto 45, 3) := by decide +kernel
theorem dX5_leastBefore_55 : decode cX5_leastBefore 55 = .ok (.iload_n 3, 1) := by decide +kernel
theorem dX5_leastBefore_56 : decode cX5_leastBefore 56 = .ok (.iload 4, 2) := by decide +kernel
theorem dX5_leastBefore_58 : decode cX5_leastBefore 58 = .ok (.if_icmp .ne 7, 3) := by decide +kernel
theorem dX5_leastBefore_61 : decode cX5_leastBefore 61 = .ok (.iconst 0, 1) := by decide +kernel
theorem dX5_leastBefore_62 : decode cX5_leastBefore 62 = .ok (.goto 10, 3) := by decide +kernel
theorem dX5_leastBefore_65 : decode cX5_leastBefore 65 = .ok (.iload_n 2, 1) := by decide +kernel
theorem dX5_leastBefore_66 : decode cX5_leastBefore 66 = .ok (.iload 6, 2) := by decide +kernel
theorem dX5_leastBefore_68 : decode cX5_leastBefore 68 = .ok (.isub, 1) := by decide +kernel
theorem dX5_leastBefore_69 : decode cX5_leastBefore 69 = .ok (.invokestatic 38, 3) := by decide +kernel
theorem dX5_leastBefore_72 : decode cX5_leastBefore 72 = .ok (.istore 8, 2) := by decide +kernel
theorem dX5_leastBefore_74 : decode cX5_leastBefore 74 = .ok (.iload 5, 2) := by decide +kernel
theorem dX5_leastBefore_76 : decode cX5_leastBefore 76 = .ok (.iload 8, 2) := by decide +kernel
theorem dX5_leastBefore_78 : decode cX5_leastBefore 78 = .ok (.aload_n 0, 1) := by decide +kernel
theorem dX5_leastBefore_79 : decode cX5_leastBefore 79 = .ok (.getfield 9, 3) := by decide +kernel
theorem dX5_leastBefore_82 : decode cX5_leastBefore 82 = .ok (.iload 7, 2) := by decide +kernel
theorem dX5_leastBefore_84 : decode cX5_leastBefore 84 = .ok (.iaload, 1) := by decide +kernel
theorem dX5_leastBefore_85 : decode cX5_leastBefore 85 = .ok (.iadd, 1) := by decide +kernel
theorem dX5_leastBefore_86 : decode cX5_leastBefore 86 = .ok (.invokestatic 21, 3) := by decide +kernel
theorem dX5_leastBefore_89 : decode cX5_leastBefore 89 = .ok (.istore 5, 2) := by decide +kernel
theorem dX5_leastBefore_91 : decode cX5_leastBefore 91 = .ok (.iinc 7 (-1), 3) := by decide +kernel
theorem dX5_leastBefore_94 : decode cX5_leastBefore 94 = .ok (.goto (-70), 3) := by decide +kernel
theorem dX5_leastBefore_97 : decode cX5_leastBefore 97 = .ok (.iload 5, 2) := by decide +kernel
theorem dX5_leastBefore_99 : decode cX5_leastBefore 99 = .ok (.ireturn, 1) := by decide +kernel
theorem dX5_square_0 : decode cX5_square 0 = .ok (.iload_n 0, 1) := by decide +kernel
theorem dX5_square_1 : decode cX5_square 1 = .ok (.iload_n 0, 1) := by decide +kernel
theorem dX5_square_2 : decode cX5_square 2 = .ok (.imul, 1) := by decide +kernel
theorem dX5_square_3 : decode cX5_square 3 = .ok (.ireturn, 1) := by decide +kernel
theorem dX6_init_0 : decode cX6_init 0 = .ok (.aload_n 0, 1) := by decide +kernel
theorem dX6_init_1 : decode cX6_init 1 = .ok (.invokespecial 1, 3) := by decide +kernel
theorem dX6_init_4 : decode cX6_init 4 = .ok (.aload_n 0, 1) := by decide +kernel
theorem dX6_init_5 : decode cX6_init 5 = .ok (.iload_n 1, 1) := by decide +kernel
theorem dX6_init_6 : decode cX6_init 6 = .ok (.putfield 7, 3) := by decide +kernel
theorem dX6_init_9 : decode cX6_init 9 = .ok (.aload_n 0, 1) := by decide +kernel
theorem dX6_init_10 : decode cX6_init 10 = .ok (.aload_n 2, 1) := by decide +kernel
theorem dX6_init_11 : decode cX6_init 11 = .ok (.putfield 13, 3) := by decide +kernel
theorem dX6_init_14 : decode cX6_init 14 = .ok (.aload_n 0, 1) := by decide +kernel
theorem dX6_init_15 : decode cX6_init 15 = .ok (.fload_n 3, 1) := by decide +kernel
theorem dX6_init_16 : decode cX6_init 16 = .ok (.putfield 17, 3) := by decide +kernel
theorem dX6_init_19 : decode cX6_init 19 = .ok (.return_, 1) := by decide +kernel
theorem dX6_faded_0 : decode cX6_faded 0 = .ok (.aload_n 0, 1) := by decide +kernel
theorem dX6_faded_1 : decode cX6_faded 1 = .ok (.getfield 17, 3) := by decide +kernel
theorem dX6_faded_4 : decode cX6_faded 4 = .ok (.fstore_n 2, 1) := by decide +kernel
theorem dX6_faded_5 : decode cX6_faded 5 = .ok (.iconst 0, 1) := by decide +kernel
theorem dX6_faded_6 : decode cX6_faded 6 = .ok (.istore_n 3, 1) := by decide +kernel
theorem dX6_faded_7 : decode cX6_faded 7 = .ok (.iload_n 3, 1) := by decide +kernel
theorem dX6_faded_8 : decode cX6_faded 8 = .ok (.iload_n 1, 1) := by decide +kernel
theorem dX6_faded_9 : decode cX6_faded 9 = .ok (.if_icmp .ge 14, 3) := by decide +kernel
theorem dX6_faded_12 : decode cX6_faded 12 = .ok (.fload_n 2, 1) := by decide +kernel
theorem dX6_faded_13 : decode cX6_faded 13 = .ok (.ldc 21, 2) := by decide +kernel
theorem dX6_faded_15 : decode cX6_faded 15 = .ok (.fmul, 1) := by decide +kernel
theorem dX6_faded_16 : decode cX6_faded 16 = .ok (.fstore_n 2, 1) := by decide +kernel
theorem dX6_faded_17 : decode cX6_faded 17 = .ok (.iinc 3 1, 3) := by decide +kernel
theorem dX6_faded_20 : decode cX6_faded 20 = .ok (.goto (-13), 3) := by decide +kernel
theorem dX6_faded_23 : decode cX6_faded 23 = .ok (.new 8, 3) := by decide +kernel
theorem dX6_faded_26 : decode cX6_faded 26 = .ok (.dup, 1) := by decide +kernel
theorem dX6_faded_27 : decode cX6_faded 27 = .ok (.aload_n 0, 1) := by decide +kernel
theorem dX6_faded_28 : decode cX6_faded 28 = .ok (.getfield 7, 3) := by decide +kernel
theorem dX6_faded_31 : decode cX6_faded 31 = .ok (.aload_n 0, 1) := by decide +kernel
theorem dX6_faded_32 : decode cX6_faded 32 = .ok (.getfield 13, 3) := by decide +kernel
theorem dX6_faded_35 : decode cX6_faded 35 = .ok (.fload_n 2, 1) := by decide +kernel
theorem dX6_faded_36 : decode cX6_faded 36 = .ok (.invokespecial 22, 3) := by decide +kernel
theorem dX6_faded_39 : decode cX6_faded 39 = .ok (.areturn, 1) := by decide +kernel
theorem dX6_canBeRead_0 : decode cX6_canBeRead 0 = .ok (.aload_n 0, 1) := by decide +kernel
theorem dX6_canBeRead_1 : decode cX6_canBeRead 1 = .ok (.getfield 17, 3) := by decide +kernel
theorem dX6_canBeRead_4 : decode cX6_canBeRead 4 = .ok (.ldc 25, 2) := by decide +kernel
theorem dX6_canBeRead_6 : decode cX6_canBeRead 6 = .ok (.fcmp .l, 1) := by decide +kernel
theorem dX6_canBeRead_7 : decode cX6_canBeRead 7 = .ok (.ifCond .lt 7, 3) := by decide +kernel
theorem dX6_canBeRead_10 : decode cX6_canBeRead 10 = .ok (.iconst 1, 1) := by decide +kernel
theorem dX6_canBeRead_11 : decode cX6_canBeRead 11 = .ok (.goto 4, 3) := by decide +kernel
theorem dX6_canBeRead_14 : decode cX6_canBeRead 14 = .ok (.iconst 0, 1) := by decide +kernel
theorem dX6_canBeRead_15 : decode cX6_canBeRead 15 = .ok (.ireturn, 1) := by decide +kernel
theorem dX7_countShared_0 : decode cX7_countShared 0 = .ok (.iconst 0, 1) := by decide +kernel
theorem dX7_countShared_1 : decode cX7_countShared 1 = .ok (.istore_n 3, 1) := by decide +kernel
theorem dX7_countShared_2 : decode cX7_countShared 2 = .ok (.iload_n 3, 1) := by decide +kernel
theorem dX7_countShared_3 : decode cX7_countShared 3 = .ok (.aload_n 0, 1) := by decide +kernel
theorem dX7_countShared_4 : decode cX7_countShared 4 = .ok (.getfield 38, 3) := by decide +kernel
theorem dX7_countShared_7 : decode cX7_countShared 7 = .ok (.invokevirtual 46, 3) := by decide +kernel
theorem dX7_countShared_10 : decode cX7_countShared 10 = .ok (.if_icmp .ge 27, 3) := by decide +kernel
theorem dX7_countShared_13 : decode cX7_countShared 13 = .ok (.aload_n 1, 1) := by decide +kernel
theorem dX7_countShared_14 : decode cX7_countShared 14 = .ok (.iload_n 2, 1) := by decide +kernel
theorem dX7_countShared_15 : decode cX7_countShared 15 = .ok (.iload_n 3, 1) := by decide +kernel
theorem dX7_countShared_16 : decode cX7_countShared 16 = .ok (.iadd, 1) := by decide +kernel
theorem dX7_countShared_17 : decode cX7_countShared 17 = .ok (.invokevirtual 52, 3) := by decide +kernel
theorem dX7_countShared_20 : decode cX7_countShared 20 = .ok (.aload_n 0, 1) := by decide +kernel
theorem dX7_countShared_21 : decode cX7_countShared 21 = .ok (.getfield 38, 3) := by decide +kernel
theorem dX7_countShared_24 : decode cX7_countShared 24 = .ok (.iload_n 3, 1) := by decide +kernel
theorem dX7_countShared_25 : decode cX7_countShared 25 = .ok (.invokevirtual 58, 3) := by decide +kernel
theorem dX7_countShared_28 : decode cX7_countShared 28 = .ok (.if_icmp .ne 9, 3) := by decide +kernel
theorem dX7_countShared_31 : decode cX7_countShared 31 = .ok (.iinc 3 1, 3) := by decide +kernel
theorem dX7_countShared_34 : decode cX7_countShared 34 = .ok (.goto (-32), 3) := by decide +kernel
theorem dX7_countShared_37 : decode cX7_countShared 37 = .ok (.iload_n 3, 1) := by decide +kernel
theorem dX7_countShared_38 : decode cX7_countShared 38 = .ok (.ireturn, 1) := by decide +kernel
theorem dX8_init_0 : decode cX8_init 0 = .ok (.aload_n 0, 1) := by decide +kernel
theorem dX8_init_1 : decode cX8_init 1 = .ok (.invokespecial 3, 3) := by decide +kernel
theorem dX8_init_4 : decode cX8_init 4 = .ok (.aload_n 0, 1) := by decide +kernel
theorem dX8_init_5 : decode cX8_init 5 = .ok (.sipush 750, 3) := by decide +kernel
theorem dX8_init_8 : decode cX8_init 8 = .ok (.newarray .char, 2) := by decide +kernel
theorem dX8_init_10 : decode cX8_init 10 = .ok (.putfield 11, 3) := by decide +kernel
theorem dX8_init_13 : decode cX8_init 13 = .ok (.aload_n 0, 1) := by decide +kernel
theorem dX8_init_14 : decode cX8_init 14 = .ok (.sipush 360, 3) := by decide +kernel
theorem dX8_init_17 : decode cX8_init 17 = .ok (.newarray .int, 2) := by decide +kernel
theorem dX8_init_19 : decode cX8_init 19 = .ok (.putfield 15, 3) := by decide +kernel
theorem dX8_init_22 : decode cX8_init 22 = .ok (.aload_n 0, 1) := by decide +kernel
theorem dX8_init_23 : decode cX8_init 23 = .ok (.iconst 0, 1) := by decide +kernel
theorem dX8_init_24 : decode cX8_init 24 = .ok (.putfield 19, 3) := by decide +kernel
theorem dX8_init_27 : decode cX8_init 27 = .ok (.aload_n 0, 1) := by decide +kernel
theorem dX8_init_28 : decode cX8_init 28 = .ok (.iconst 0, 1) := by decide +kernel
theorem dX8_init_29 : decode cX8_init 29 = .ok (.putfield 23, 3) := by decide +kernel
theorem dX8_init_32 : decode cX8_init 32 = .ok (.aload_n 0, 1) := by decide +kernel
theorem dX8_init_33 : decode cX8_init 33 = .ok (.iconst 0, 1) := by decide +kernel
theorem dX8_init_34 : decode cX8_init 34 = .ok (.putfield 26, 3) := by decide +kernel
theorem dX8_init_37 : decode cX8_init 37 = .ok (.return_, 1) := by decide +kernel
theorem dX8_arrange_0 : decode cX8_arrange 0 = .ok (.aload_n 0, 1) := by decide +kernel
theorem dX8_arrange_1 : decode cX8_arrange 1 = .ok (.iconst 0, 1) := by decide +kernel
theorem dX8_arrange_2 : decode cX8_arrange 2 = .ok (.putfield 19, 3) := by decide +kernel
theorem dX8_arrange_5 : decode cX8_arrange 5 = .ok (.aload_n 0, 1) := by decide +kernel
theorem dX8_arrange_6 : decode cX8_arrange 6 = .ok (.iconst 0, 1) := by decide +kernel
theorem dX8_arrange_7 : decode cX8_arrange 7 = .ok (.putfield 23, 3) := by decide +kernel
theorem dX8_arrange_10 : decode cX8_arrange 10 = .ok (.aload_n 0, 1) := by decide +kernel
theorem dX8_arrange_11 : decode cX8_arrange 11 = .ok (.iload_n 2, 1) := by decide +kernel
theorem dX8_arrange_12 : decode cX8_arrange 12 = .ok (.putfield 26, 3) := by decide +kernel
theorem dX8_arrange_15 : decode cX8_arrange 15 = .ok (.aload_n 1, 1) := by decide +kernel
theorem dX8_arrange_16 : decode cX8_arrange 16 = .ok (.getfield 29, 3) := by decide +kernel
theorem dX8_arrange_19 : decode cX8_arrange 19 = .ok (.astore_n 3, 1) := by decide +kernel
theorem dX8_arrange_20 : decode cX8_arrange 20 = .ok (.aload_n 3, 1) := by decide +kernel
theorem dX8_arrange_21 : decode cX8_arrange 21 = .ok (.arraylength, 1) := by decide +kernel
theorem dX8_arrange_22 : decode cX8_arrange 22 = .ok (.istore 4, 2) := by decide +kernel
theorem dX8_arrange_24 : decode cX8_arrange 24 = .ok (.iconst 0, 1) := by decide +kernel
theorem dX8_arrange_25 : decode cX8_arrange 25 = .ok (.istore 5, 2) := by decide +kernel
theorem dX8_arrange_27 : decode cX8_arrange 27 = .ok (.iload 5, 2) := by decide +kernel
theorem dX8_arrange_29 : decode cX8_arrange 29 = .ok (.iload 4, 2) := by decide +kernel
theorem dX8_arrange_31 : decode cX8_arrange 31 = .ok (.if_icmp .ge 26, 3) := by decide +kernel
theorem dX8_arrange_34 : decode cX8_arrange 34 = .ok (.aload_n 3, 1) := by decide +kernel
theorem dX8_arrange_35 : decode cX8_arrange 35 = .ok (.iload 5, 2) := by decide +kernel
theorem dX8_arrange_37 : decode cX8_arrange 37 = .ok (.aaload, 1) := by decide +kernel
theorem dX8_arrange_38 : decode cX8_arrange 38 = .ok (.astore 6, 2) := by decide +kernel
theorem dX8_arrange_40 : decode cX8_arrange 40 = .ok (.aload_n 0, 1) := by decide +kernel
theorem dX8_arrange_41 : decode cX8_arrange 41 = .ok (.aload 6, 2) := by decide +kernel
theorem dX8_arrange_43 : decode cX8_arrange 43 = .ok (.invokevirtual 35, 3) := by decide +kernel
theorem dX8_arrange_46 : decode cX8_arrange 46 = .ok (.ifCond .ne 5, 3) := by decide +kernel
theorem dX8_arrange_49 : decode cX8_arrange 49 = .ok (.iconst 0, 1) := by decide +kernel
theorem dX8_arrange_50 : decode cX8_arrange 50 = .ok (.ireturn, 1) := by decide +kernel
theorem dX8_arrange_51 : decode cX8_arrange 51 = .ok (.iinc 5 1, 3) := by decide +kernel
theorem dX8_arrange_54 : decode cX8_arrange 54 = .ok (.goto (-27), 3) := by decide +kernel
theorem dX8_arrange_57 : decode cX8_arrange 57 = .ok (.aload_n 0, 1) := by decide +kernel
theorem dX8_arrange_58 : decode cX8_arrange 58 = .ok (.invokevirtual 39, 3) := by decide +kernel
theorem dX8_arrange_61 : decode cX8_arrange 61 = .ok (.iconst 1, 1) := by decide +kernel
theorem dX8_arrange_62 : decode cX8_arrange 62 = .ok (.ireturn, 1) := by decide +kernel
theorem dX8_place_0 : decode cX8_place 0 = .ok (.iconst 0, 1) := by decide +kernel
theorem dX8_place_1 : decode cX8_place 1 = .ok (.istore_n 2, 1) := by decide +kernel
theorem dX8_place_2 : decode cX8_place 2 = .ok (.iconst 0, 1) := by decide +kernel
theorem dX8_place_3 : decode cX8_place 3 = .ok (.istore_n 3, 1) := by decide +kernel
theorem dX8_place_4 : decode cX8_place 4 = .ok (.iload_n 3, 1) := by decide +kernel
theorem dX8_place_5 : decode cX8_place 5 = .ok (.bipush 24, 2) := by decide +kernel
theorem dX8_place_7 : decode cX8_place 7 = .ok (.if_icmp .ge 133, 3) := by decide +kernel
theorem dX8_place_10 : decode cX8_place 10 = .ok (.aload_n 0, 1) := by decide +kernel
theorem dX8_place_11 : decode cX8_place 11 = .ok (.getfield 19, 3) := by decide +kernel
theorem dX8_place_14 : decode cX8_place 14 = .ok (.aload_n 0, 1) := by decide +kernel
theorem dX8_place_15 : decode cX8_place 15 = .ok (.aload_n 0, 1) := by decide +kernel
theorem dX8_place_16 : decode cX8_place 16 = .ok (.getfield 23, 3) := by decide +kernel
theorem dX8_place_19 : decode cX8_place 19 = .ok (.invokevirtual 42, 3) := by decide +kernel
theorem dX8_place_22 : decode cX8_place 22 = .ok (.if_icmp .ne 7, 3) := by decide +kernel
theorem dX8_place_25 : decode cX8_place 25 = .ok (.iconst 1, 1) := by decide +kernel
theorem dX8_place_26 : decode cX8_place 26 = .ok (.goto 4, 3) := by decide +kernel
theorem dX8_place_29 : decode cX8_place 29 = .ok (.iconst 0, 1) := by decide +kernel
theorem dX8_place_30 : decode cX8_place 30 = .ok (.istore 4, 2) := by decide +kernel
theorem dX8_place_32 : decode cX8_place 32 = .ok (.aload_n 0, 1) := by decide +kernel
theorem dX8_place_33 : decode cX8_place 33 = .ok (.getfield 26, 3) := by decide +kernel
theorem dX8_place_36 : decode cX8_place 36 = .ok (.aload_n 0, 1) := by decide +kernel
theorem dX8_place_37 : decode cX8_place 37 = .ok (.getfield 19, 3) := by decide +kernel
theorem dX8_place_40 : decode cX8_place 40 = .ok (.aload_n 0, 1) := by decide +kernel
theorem dX8_place_41 : decode cX8_place 41 = .ok (.aload_n 0, 1) := by decide +kernel
theorem dX8_place_42 : decode cX8_place 42 = .ok (.getfield 23, 3) := by decide +kernel
theorem dX8_place_45 : decode cX8_place 45 = .ok (.invokevirtual 42, 3) := by decide +kernel
theorem dX8_place_48 : decode cX8_place 48 = .ok (.isub, 1) := by decide +kernel
theorem dX8_place_49 : decode cX8_place 49 = .ok (.isub, 1) := by decide +kernel
theorem dX8_place_50 : decode cX8_place 50 = .ok (.iload 4, 2) := by decide +kernel
theorem dX8_place_52 : decode cX8_place 52 = .ok (.ifCond .eq 7, 3) := by decide +kernel
theorem dX8_place_55 : decode cX8_place 55 = .ok (.iconst 0, 1) := by decide +kernel
theorem dX8_place_56 : decode cX8_place 56 = .ok (.goto 4, 3) := by decide +kernel
theorem dX8_place_59 : decode cX8_place 59 = .ok (.iconst 1, 1) := by decide +kernel
theorem dX8_place_60 : decode cX8_place 60 = .ok (.isub, 1) := by decide +kernel
theorem dX8_place_61 : decode cX8_place 61 = .ok (.istore 5, 2) := by decide +kernel
theorem dX8_place_63 : decode cX8_place 63 = .ok (.aload_n 1, 1) := by decide +kernel
theorem dX8_place_64 : decode cX8_place 64 = .ok (.invokevirtual 46, 3) := by decide +kernel
theorem dX8_place_67 : decode cX8_place 67 = .ok (.iload_n 2, 1) := by decide +kernel
theorem dX8_place_68 : decode cX8_place 68 = .ok (.isub, 1) := by decide +kernel
theorem dX8_place_69 : decode cX8_place 69 = .ok (.iload 5, 2) := by decide +kernel
theorem dX8_place_71 : decode cX8_place 71 = .ok (.if_icmp .gt 15, 3) := by decide +kernel
theorem dX8_place_74 : decode cX8_place 74 = .ok (.aload_n 0, 1) := by decide +kernel
theorem dX8_place_75 : decode cX8_place 75 = .ok (.aload_n 1, 1) := by decide +kernel
theorem dX8_place_76 : decode cX8_place 76 = .ok (.iload_n 2, 1) := by decide +kernel
theorem dX8_place_77 : decode cX8_place 77 = .ok (.aload_n 1, 1) := by decide +kernel
theorem dX8_place_78 : decode cX8_place 78 = .ok (.invokevirtual 46, 3) := by decide +kernel
theorem dX8_place_81 : decode cX8_place 81 = .ok (.invokevirtual 52, 3) := by decide +kernel
theorem dX8_place_84 : decode cX8_place 84 = .ok (.iconst 1, 1) := by decide +kernel
theorem dX8_place_85 : decode cX8_place 85 = .ok (.ireturn, 1) := by decide +kernel
theorem dX8_place_86 : decode cX8_place 86 = .ok (.aload_n 1, 1) := by decide +kernel
theorem dX8_place_87 : decode cX8_place 87 = .ok (.iload_n 2, 1) := by decide +kernel
theorem dX8_place_88 : decode cX8_place 88 = .ok (.iload 5, 2) := by decide +kernel
theorem dX8_place_90 : decode cX8_place 90 = .ok (.iconst 1, 1) := by decide +kernel
theorem dX8_place_91 : decode cX8_place 91 = .ok (.isub, 1) := by decide +kernel
theorem dX8_place_92 : decode cX8_place 92 = .ok (.invokevirtual 56, 3) := by decide +kernel
theorem dX8_place_95 : decode cX8_place 95 = .ok (.istore 6, 2) := by decide +kernel
theorem dX8_place_97 : decode cX8_place 97 = .ok (.iload 6, 2) := by decide +kernel
theorem dX8_place_99 : decode cX8_place 99 = .ok (.iconst (-1), 1) := by decide +kernel
theorem dX8_place_100 : decode cX8_place 100 = .ok (.if_icmp .eq 23, 3) := by decide +kernel
theorem dX8_place_103 : decode cX8_place 103 = .ok (.aload_n 0, 1) := by decide +kernel
theorem dX8_place_104 : decode cX8_place 104 = .ok (.aload_n 1, 1) := by decide +kernel
theorem dX8_place_105 : decode cX8_place 105 = .ok (.iload_n 2, 1) := by decide +kernel
theorem dX8_place_106 : decode cX8_place 106 = .ok (.iload 6, 2) := by decide +kernel
theorem dX8_place_108 : decode cX8_place 108 = .ok (.invokevirtual 52, 3) := by decide +kernel
theorem dX8_place_111 : decode cX8_place 111 = .ok (.aload_n 0, 1) := by decide +kernel
theorem dX8_place_112 : decode cX8_place 112 = .ok (.bipush 45, 2) := by decide +kernel
theorem dX8_place_114 : decode cX8_place 114 = .ok (.invokevirtual 60, 3) := by decide +kernel
theorem dX8_place_117 : decode cX8_place 117 = .ok (.iload 6, 2) := by decide +kernel
theorem dX8_place_119 : decode cX8_place 119 = .ok (.istore_n 2, 1) := by decide +kernel
theorem dX8_place_120 : decode cX8_place 120 = .ok (.goto 10, 3) := by decide +kernel
theorem dX8_place_123 : decode cX8_place 123 = .ok (.iload 4, 2) := by decide +kernel
theorem dX8_place_125 : decode cX8_place 125 = .ok (.ifCond .eq 5, 3) := by decide +kernel
theorem dX8_place_128 : decode cX8_place 128 = .ok (.iconst 0, 1) := by decide +kernel
theorem dX8_place_129 : decode cX8_place 129 = .ok (.ireturn, 1) := by decide +kernel
theorem dX8_place_130 : decode cX8_place 130 = .ok (.aload_n 0, 1) := by decide +kernel
theorem dX8_place_131 : decode cX8_place 131 = .ok (.invokevirtual 39, 3) := by decide +kernel
theorem dX8_place_134 : decode cX8_place 134 = .ok (.iinc 3 1, 3) := by decide +kernel
theorem dX8_place_137 : decode cX8_place 137 = .ok (.goto (-133), 3) := by decide +kernel
theorem dX8_place_140 : decode cX8_place 140 = .ok (.iconst 0, 1) := by decide +kernel
theorem dX8_place_141 : decode cX8_place 141 = .ok (.ireturn, 1) := by decide +kernel
theorem dX8_putPart_0 : decode cX8_putPart 0 = .ok (.aload_n 0, 1) := by decide +kernel
theorem dX8_putPart_1 : decode cX8_putPart 1 = .ok (.getfield 19, 3) := by decide +kernel
theorem dX8_putPart_4 : decode cX8_putPart 4 = .ok (.aload_n 0, 1) := by decide +kernel
theorem dX8_putPart_5 : decode cX8_putPart 5 = .ok (.aload_n 0, 1) := by decide +kernel
theorem dX8_putPart_6 : decode cX8_putPart 6 = .ok (.getfield 23, 3) := by decide +kernel
theorem dX8_putPart_9 : decode cX8_putPart 9 = .ok (.invokevirtual 42, 3) := by decide +kernel
theorem dX8_putPart_12 : decode cX8_putPart 12 = .ok (.if_icmp .le 9, 3) := by decide +kernel
theorem dX8_putPart_15 : decode cX8_putPart 15 = .ok (.aload_n 0, 1) := by decide +kernel
theorem dX8_putPart_16 : decode cX8_putPart 16 = .ok (.bipush 32, 2) := by decide +kernel
theorem dX8_putPart_18 : decode cX8_putPart 18 = .ok (.invokevirtual 60, 3) := by decide +kernel
theorem dX8_putPart_21 : decode cX8_putPart 21 = .ok (.iload_n 2, 1) := by decide +kernel
theorem dX8_putPart_22 : decode cX8_putPart 22 = .ok (.istore 4, 2) := by decide +kernel
theorem dX8_putPart_24 : decode cX8_putPart 24 = .ok (.iload 4, 2) := by decide +kernel
theorem dX8_putPart_26 : decode cX8_putPart 26 = .ok (.iload_n 3, 1) := by decide +kernel
theorem dX8_putPart_27 : decode cX8_putPart 27 = .ok (.if_icmp .ge 30, 3) := by decide +kernel
theorem dX8_putPart_30 : decode cX8_putPart 30 = .ok (.iload 4, 2) := by decide +kernel
theorem dX8_putPart_32 : decode cX8_putPart 32 = .ok (.aload_n 1, 1) := by decide +kernel
theorem dX8_putPart_33 : decode cX8_putPart 33 = .ok (.getfield 64, 3) := by decide +kernel
theorem dX8_putPart_36 : decode cX8_putPart 36 = .ok (.arraylength, 1) := by decide +kernel
theorem dX8_putPart_37 : decode cX8_putPart 37 = .ok (.if_icmp .ge 20, 3) := by decide +kernel
theorem dX8_putPart_40 : decode cX8_putPart 40 = .ok (.aload_n 0, 1) := by decide +kernel
theorem dX8_putPart_41 : decode cX8_putPart 41 = .ok (.aload_n 1, 1) := by decide +kernel
theorem dX8_putPart_42 : decode cX8_putPart 42 = .ok (.getfield 64, 3) := by decide +kernel
theorem dX8_putPart_45 : decode cX8_putPart 45 = .ok (.iload 4, 2) := by decide +kernel
theorem dX8_putPart_47 : decode cX8_putPart 47 = .ok (.caload, 1) := by decide +kernel
theorem dX8_putPart_48 : decode cX8_putPart 48 = .ok (.invokevirtual 60, 3) := by decide +kernel
theorem dX8_putPart_51 : decode cX8_putPart 51 = .ok (.iinc 4 1, 3) := by decide +kernel
theorem dX8_putPart_54 : decode cX8_putPart 54 = .ok (.goto (-30), 3) := by decide +kernel
theorem dX8_putPart_57 : decode cX8_putPart 57 = .ok (.return_, 1) := by decide +kernel
theorem dX8_putSign_0 : decode cX8_putSign 0 = .ok (.aload_n 0, 1) := by decide +kernel
theorem dX8_putSign_1 : decode cX8_putSign 1 = .ok (.getfield 19, 3) := by decide +kernel
theorem dX8_putSign_4 : decode cX8_putSign 4 = .ok (.aload_n 0, 1) := by decide +kernel
theorem dX8_putSign_5 : decode cX8_putSign 5 = .ok (.getfield 11, 3) := by decide +kernel
theorem dX8_putSign_8 : decode cX8_putSign 8 = .ok (.arraylength, 1) := by decide +kernel
theorem dX8_putSign_9 : decode cX8_putSign 9 = .ok (.if_icmp .ge 23, 3) := by decide +kernel
theorem dX8_putSign_12 : decode cX8_putSign 12 = .ok (.aload_n 0, 1) := by decide +kernel
theorem dX8_putSign_13 : decode cX8_putSign 13 = .ok (.getfield 11, 3) := by decide +kernel
theorem dX8_putSign_16 : decode cX8_putSign 16 = .ok (.aload_n 0, 1) := by decide +kernel
theorem dX8_putSign_17 : decode cX8_putSign 17 = .ok (.getfield 19, 3) := by decide +kernel
theorem dX8_putSign_20 : decode cX8_putSign 20 = .ok (.iload_n 1, 1) := by decide +kernel
theorem dX8_putSign_21 : decode cX8_putSign 21 = .ok (.castore, 1) := by decide +kernel
theorem dX8_putSign_22 : decode cX8_putSign 22 = .ok (.aload_n 0, 1) := by decide +kernel
theorem dX8_putSign_23 : decode cX8_putSign 23 = .ok (.dup, 1) := by decide +kernel
theorem dX8_putSign_24 : decode cX8_putSign 24 = .ok (.getfield 19, 3) := by decide +kernel
theorem dX8_putSign_27 : decode cX8_putSign 27 = .ok (.iconst 1, 1) := by decide +kernel
theorem dX8_putSign_28 : decode cX8_putSign 28 = .ok (.iadd, 1) := by decide +kernel
theorem dX8_putSign_29 : decode cX8_putSign 29 = .ok (.putfield 19, 3) := by decide +kernel
theorem dX8_putSign_32 : decode cX8_putSign 32 = .ok (.return_, 1) := by decide +kernel
theorem dX8_closeLine_0 : decode cX8_closeLine 0 = .ok (.aload_n 0, 1) := by decide +kernel
theorem dX8_closeLine_1 : decode cX8_closeLine 1 = .ok (.getfield 23, 3) := by decide +kernel
theorem dX8_closeLine_4 : decode cX8_closeLine 4 = .ok (.aload_n 0, 1) := by decide +kernel
theorem dX8_closeLine_5 : decode cX8_closeLine 5 = .ok (.getfield 15, 3) := by decide +kernel
theorem dX8_closeLine_8 : decode cX8_closeLine 8 = .ok (.arraylength, 1) := by decide +kernel
theorem dX8_closeLine_9 : decode cX8_closeLine 9 = .ok (.if_icmp .ge 26, 3) := by decide +kernel
theorem dX8_closeLine_12 : decode cX8_closeLine 12 = .ok (.aload_n 0, 1) := by decide +kernel
theorem dX8_closeLine_13 : decode cX8_closeLine 13 = .ok (.getfield 15, 3) := by decide +kernel
theorem dX8_closeLine_16 : decode cX8_closeLine 16 = .ok (.aload_n 0, 1) := by decide +kernel
theorem dX8_closeLine_17 : decode cX8_closeLine 17 = .ok (.getfield 23, 3) := by decide +kernel
theorem dX8_closeLine_20 : decode cX8_closeLine 20 = .ok (.aload_n 0, 1) := by decide +kernel
theorem dX8_closeLine_21 : decode cX8_closeLine 21 = .ok (.getfield 19, 3) := by decide +kernel
theorem dX8_closeLine_24 : decode cX8_closeLine 24 = .ok (.iastore, 1) := by decide +kernel
theorem dX8_closeLine_25 : decode cX8_closeLine 25 = .ok (.aload_n 0, 1) := by decide +kernel
theorem dX8_closeLine_26 : decode cX8_closeLine 26 = .ok (.dup, 1) := by decide +kernel
theorem dX8_closeLine_27 : decode cX8_closeLine 27 = .ok (.getfield 23, 3) := by decide +kernel
theorem dX8_closeLine_30 : decode cX8_closeLine 30 = .ok (.iconst 1, 1) := by decide +kernel
theorem dX8_closeLine_31 : decode cX8_closeLine 31 = .ok (.iadd, 1) := by decide +kernel
theorem dX8_closeLine_32 : decode cX8_closeLine 32 = .ok (.putfield 23, 3) := by decide +kernel
theorem dX8_closeLine_35 : decode cX8_closeLine 35 = .ok (.return_, 1) := by decide +kernel
theorem dX8_startOf_0 : decode cX8_startOf 0 = .ok (.iload_n 1, 1) := by decide +kernel
theorem dX8_startOf_1 : decode cX8_startOf 1 = .ok (.iconst 1, 1) := by decide +kernel
theorem dX8_startOf_2 : decode cX8_startOf 2 = .ok (.if_icmp .lt 23, 3) := by decide +kernel
theorem dX8_startOf_5 : decode cX8_startOf 5 = .ok (.iload_n 1, 1) := by decide +kernel
theorem dX8_startOf_6 : decode cX8_startOf 6 = .ok (.aload_n 0, 1) := by decide +kernel
theorem dX8_startOf_7 : decode cX8_startOf 7 = .ok (.getfield 15, 3) := by decide +kernel
theorem dX8_startOf_10 : decode cX8_startOf 10 = .ok (.arraylength, 1) := by decide +kernel
theorem dX8_startOf_11 : decode cX8_startOf 11 = .ok (.if_icmp .gt 14, 3) := by decide +kernel
theorem dX8_startOf_14 : decode cX8_startOf 14 = .ok (.aload_n 0, 1) := by decide +kernel
theorem dX8_startOf_15 : decode cX8_startOf 15 = .ok (.getfield 15, 3) := by decide +kernel
theorem dX8_startOf_18 : decode cX8_startOf 18 = .ok (.iload_n 1, 1) := by decide +kernel
theorem dX8_startOf_19 : decode cX8_startOf 19 = .ok (.iconst 1, 1) := by decide +kernel
theorem dX8_startOf_20 : decode cX8_startOf 20 = .ok (.isub, 1) := by decide +kernel
theorem dX8_startOf_21 : decode cX8_startOf 21 = .ok (.iaload, 1) := by decide +kernel
theorem dX8_startOf_22 : decode cX8_startOf 22 = .ok (.goto 4, 3) := by decide +kernel
theorem dX8_startOf_25 : decode cX8_startOf 25 = .ok (.iconst 0, 1) := by decide +kernel
theorem dX8_startOf_26 : decode cX8_startOf 26 = .ok (.ireturn, 1) := by decide +kernel
theorem dX8_endOf_0 : decode cX8_endOf 0 = .ok (.iload_n 1, 1) := by decide +kernel
theorem dX8_endOf_1 : decode cX8_endOf 1 = .ok (.ifCond .lt 21, 3) := by decide +kernel
theorem dX8_endOf_4 : decode cX8_endOf 4 = .ok (.iload_n 1, 1) := by decide +kernel
theorem dX8_endOf_5 : decode cX8_endOf 5 = .ok (.aload_n 0, 1) := by decide +kernel
theorem dX8_endOf_6 : decode cX8_endOf 6 = .ok (.getfield 15, 3) := by decide +kernel
theorem dX8_endOf_9 : decode cX8_endOf 9 = .ok (.arraylength, 1) := by decide +kernel
theorem dX8_endOf_10 : decode cX8_endOf 10 = .ok (.if_icmp .ge 12, 3) := by decide +kernel
theorem dX8_endOf_13 : decode cX8_endOf 13 = .ok (.aload_n 0, 1) := by decide +kernel
theorem dX8_endOf_14 : decode cX8_endOf 14 = .ok (.getfield 15, 3) := by decide +kernel
theorem dX8_endOf_17 : decode cX8_endOf 17 = .ok (.iload_n 1, 1) := by decide +kernel
theorem dX8_endOf_18 : decode cX8_endOf 18 = .ok (.iaload, 1) := by decide +kernel
theorem dX8_endOf_19 : decode cX8_endOf 19 = .ok (.goto 7, 3) := by decide +kernel
theorem dX8_endOf_22 : decode cX8_endOf 22 = .ok (.aload_n 0, 1) := by decide +kernel
theorem dX8_endOf_23 : decode cX8_endOf 23 = .ok (.getfield 19, 3) := by decide +kernel
theorem dX8_endOf_26 : decode cX8_endOf 26 = .ok (.ireturn, 1) := by decide +kernel
theorem dX8_lengthOf_0 : decode cX8_lengthOf 0 = .ok (.aload_n 0, 1) := by decide +kernel
theorem dX8_lengthOf_1 : decode cX8_lengthOf 1 = .ok (.iload_n 1, 1) := by decide +kernel
theorem dX8_lengthOf_2 : decode cX8_lengthOf 2 = .ok (.invokevirtual 67, 3) := by decide +kernel
theorem dX8_lengthOf_5 : decode cX8_lengthOf 5 = .ok (.aload_n 0, 1) := by decide +kernel
theorem dX8_lengthOf_6 : decode cX8_lengthOf 6 = .ok (.iload_n 1, 1) := by decide +kernel
theorem dX8_lengthOf_7 : decode cX8_lengthOf 7 = .ok (.invokevirtual 42, 3) := by decide +kernel
theorem dX8_lengthOf_10 : decode cX8_lengthOf 10 = .ok (.isub, 1) := by decide +kernel
theorem dX8_lengthOf_11 : decode cX8_lengthOf 11 = .ok (.ireturn, 1) := by decide +kernel
theorem dX8_countHyphens_0 : decode cX8_countHyphens 0 = .ok (.iconst 0, 1) := by decide +kernel
theorem dX8_countHyphens_1 : decode cX8_countHyphens 1 = .ok (.istore_n 1, 1) := by decide +kernel
theorem dX8_countHyphens_2 : decode cX8_countHyphens 2 = .ok (.iconst 0, 1) := by decide +kernel
theorem dX8_countHyphens_3 : decode cX8_countHyphens 3 = .ok (.istore_n 2, 1) := by decide +kernel
theorem dX8_countHyphens_4 : decode cX8_countHyphens 4 = .ok (.iload_n 2, 1) := by decide +kernel
theorem dX8_countHyphens_5 : decode cX8_countHyphens 5 = .ok (.aload_n 0, 1) := by decide +kernel
theorem dX8_countHyphens_6 : decode cX8_countHyphens 6 = .ok (.getfield 23, 3) := by decide +kernel
theorem dX8_countHyphens_9 : decode cX8_countHyphens 9 = .ok (.if_icmp .ge 44, 3) := by decide +kernel
theorem dX8_countHyphens_12 : decode cX8_countHyphens 12 = .ok (.aload_n 0, 1) := by decide +kernel
theorem dX8_countHyphens_13 : decode cX8_countHyphens 13 = .ok (.iload_n 2, 1) := by decide +kernel
theorem dX8_countHyphens_14 : decode cX8_countHyphens 14 = .ok (.invokevirtual 67, 3) := by decide +kernel
theorem dX8_countHyphens_17 : decode cX8_countHyphens 17 = .ok (.iconst 1, 1) := by decide +kernel
theorem dX8_countHyphens_18 : decode cX8_countHyphens 18 = .ok (.isub, 1) := by decide +kernel
theorem dX8_countHyphens_19 : decode cX8_countHyphens 19 = .ok (.istore_n 3, 1) := by decide +kernel
theorem dX8_countHyphens_20 : decode cX8_countHyphens 20 = .ok (.iload_n 3, 1) := by decide +kernel
theorem dX8_countHyphens_21 : decode cX8_countHyphens 21 = .ok (.ifCond .lt 26, 3) := by decide +kernel
theorem dX8_countHyphens_24 : decode cX8_countHyphens 24 = .ok (.iload_n 3, 1) := by decide +kernel
theorem dX8_countHyphens_25 : decode cX8_countHyphens 25 = .ok (.aload_n 0, 1) := by decide +kernel
theorem dX8_countHyphens_26 : decode cX8_countHyphens 26 = .ok (.getfield 11, 3) := by decide +kernel
theorem dX8_countHyphens_29 : decode cX8_countHyphens 29 = .ok (.arraylength, 1) := by decide +kernel
theorem dX8_countHyphens_30 : decode cX8_countHyphens 30 = .ok (.if_icmp .ge 17, 3) := by decide +kernel
theorem dX8_countHyphens_33 : decode cX8_countHyphens 33 = .ok (.aload_n 0, 1) := by decide +kernel
theorem dX8_countHyphens_34 : decode cX8_countHyphens 34 = .ok (.getfield 11, 3) := by decide +kernel
theorem dX8_countHyphens_37 : decode cX8_countHyphens 37 = .ok (.iload_n 3, 1) := by decide +kernel
theorem dX8_countHyphens_38 : decode cX8_countHyphens 38 = .ok (.caload, 1) := by decide +kernel
theorem dX8_countHyphens_39 : decode cX8_countHyphens 39 = .ok (.bipush 45, 2) := by decide +kernel
theorem dX8_countHyphens_41 : decode cX8_countHyphens 41 = .ok (.if_icmp .ne 6, 3) := by decide +kernel
theorem dX8_countHyphens_44 : decode cX8_countHyphens 44 = .ok (.iinc 1 1, 3) := by decide +kernel
theorem dX8_countHyphens_47 : decode cX8_countHyphens 47 = .ok (.iinc 2 1, 3) := by decide +kernel
theorem dX8_countHyphens_50 : decode cX8_countHyphens 50 = .ok (.goto (-46), 3) := by decide +kernel
theorem dX8_countHyphens_53 : decode cX8_countHyphens 53 = .ok (.iload_n 1, 1) := by decide +kernel
theorem dX8_countHyphens_54 : decode cX8_countHyphens 54 = .ok (.ireturn, 1) := by decide +kernel
theorem dX8_writeTo_0 : decode cX8_writeTo 0 = .ok (.aload_n 0, 1) := by decide +kernel
theorem dX8_writeTo_1 : decode cX8_writeTo 1 = .ok (.iload_n 2, 1) := by decide +kernel
theorem dX8_writeTo_2 : decode cX8_writeTo 2 = .ok (.invokevirtual 67, 3) := by decide +kernel
theorem dX8_writeTo_5 : decode cX8_writeTo 5 = .ok (.istore_n 3, 1) := by decide +kernel
theorem dX8_writeTo_6 : decode cX8_writeTo 6 = .ok (.aload_n 0, 1) := by decide +kernel
theorem dX8_writeTo_7 : decode cX8_writeTo 7 = .ok (.iload_n 2, 1) := by decide +kernel
theorem dX8_writeTo_8 : decode cX8_writeTo 8 = .ok (.invokevirtual 42, 3) := by decide +kernel
theorem dX8_writeTo_11 : decode cX8_writeTo 11 = .ok (.istore 4, 2) := by decide +kernel
theorem dX8_writeTo_13 : decode cX8_writeTo 13 = .ok (.iload 4, 2) := by decide +kernel
theorem dX8_writeTo_15 : decode cX8_writeTo 15 = .ok (.iload_n 3, 1) := by decide +kernel
theorem dX8_writeTo_16 : decode cX8_writeTo 16 = .ok (.if_icmp .ge 31, 3) := by decide +kernel
theorem dX8_writeTo_19 : decode cX8_writeTo 19 = .ok (.iload 4, 2) := by decide +kernel
theorem dX8_writeTo_21 : decode cX8_writeTo 21 = .ok (.aload_n 0, 1) := by decide +kernel
theorem dX8_writeTo_22 : decode cX8_writeTo 22 = .ok (.getfield 11, 3) := by decide +kernel
theorem dX8_writeTo_25 : decode cX8_writeTo 25 = .ok (.arraylength, 1) := by decide +kernel
theorem dX8_writeTo_26 : decode cX8_writeTo 26 = .ok (.if_icmp .ge 21, 3) := by decide +kernel
theorem dX8_writeTo_29 : decode cX8_writeTo 29 = .ok (.aload_n 1, 1) := by decide +kernel
theorem dX8_writeTo_30 : decode cX8_writeTo 30 = .ok (.aload_n 0, 1) := by decide +kernel
theorem dX8_writeTo_31 : decode cX8_writeTo 31 = .ok (.getfield 11, 3) := by decide +kernel
theorem dX8_writeTo_34 : decode cX8_writeTo 34 = .ok (.iload 4, 2) := by decide +kernel
theorem dX8_writeTo_36 : decode cX8_writeTo 36 = .ok (.caload, 1) := by decide +kernel
theorem dX8_writeTo_37 : decode cX8_writeTo 37 = .ok (.invokevirtual 70, 3) := by decide +kernel
theorem dX8_writeTo_40 : decode cX8_writeTo 40 = .ok (.pop, 1) := by decide +kernel
theorem dX8_writeTo_41 : decode cX8_writeTo 41 = .ok (.iinc 4 1, 3) := by decide +kernel
theorem dX8_writeTo_44 : decode cX8_writeTo 44 = .ok (.goto (-31), 3) := by decide +kernel
theorem dX8_writeTo_47 : decode cX8_writeTo 47 = .ok (.return_, 1) := by decide +kernel
theorem dX9_init_0 : decode cX9_init 0 = .ok (.aload_n 0, 1) := by decide +kernel
theorem dX9_init_1 : decode cX9_init 1 = .ok (.invokespecial 3, 3) := by decide +kernel
theorem dX9_init_4 : decode cX9_init 4 = .ok (.aload_n 0, 1) := by decide +kernel
theorem dX9_init_5 : decode cX9_init 5 = .ok (.bipush 6, 2) := by decide +kernel
theorem dX9_init_7 : decode cX9_init 7 = .ok (.newarray .int, 2) := by decide +kernel
theorem dX9_init_9 : decode cX9_init 9 = .ok (.putfield 9, 3) := by decide +kernel
theorem dX9_init_12 : decode cX9_init 12 = .ok (.aload_n 0, 1) := by decide +kernel
theorem dX9_init_13 : decode cX9_init 13 = .ok (.bipush 6, 2) := by decide +kernel
theorem dX9_init_15 : decode cX9_init 15 = .ok (.newarray .int, 2) := by decide +kernel
theorem dX9_init_17 : decode cX9_init 17 = .ok (.putfield 15, 3) := by decide +kernel
theorem dX9_init_20 : decode cX9_init 20 = .ok (.aload_n 0, 1) := by decide +kernel
theorem dX9_init_21 : decode cX9_init 21 = .ok (.iconst 0, 1) := by decide +kernel
theorem dX9_init_22 : decode cX9_init 22 = .ok (.putfield 18, 3) := by decide +kernel
theorem dX9_init_25 : decode cX9_init 25 = .ok (.aload_n 0, 1) := by decide +kernel
theorem dX9_init_26 : decode cX9_init 26 = .ok (.iconst 0, 1) := by decide +kernel
theorem dX9_init_27 : decode cX9_init 27 = .ok (.putfield 22, 3) := by decide +kernel
theorem dX9_init_30 : decode cX9_init 30 = .ok (.aload_n 0, 1) := by decide +kernel
theorem dX9_init_31 : decode cX9_init 31 = .ok (.iload_n 1, 1) := by decide +kernel
theorem dX9_init_32 : decode cX9_init 32 = .ok (.putfield 25, 3) := by decide +kernel
theorem dX9_init_35 : decode cX9_init 35 = .ok (.aload_n 0, 1) := by decide +kernel
theorem dX9_init_36 : decode cX9_init 36 = .ok (.iload_n 2, 1) := by decide +kernel
theorem dX9_init_37 : decode cX9_init 37 = .ok (.putfield 28, 3) := by decide +kernel
theorem dX9_init_40 : decode cX9_init 40 = .ok (.return_, 1) := by decide +kernel
theorem dX9_offer_0 : decode cX9_offer 0 = .ok (.iload_n 2, 1) := by decide +kernel
theorem dX9_offer_1 : decode cX9_offer 1 = .ok (.aload_n 0, 1) := by decide +kernel
theorem dX9_offer_2 : decode cX9_offer 2 = .ok (.getfield 25, 3) := by decide +kernel
theorem dX9_offer_5 : decode cX9_offer 5 = .ok (.aload_n 0, 1) := by decide +kernel
theorem dX9_offer_6 : decode cX9_offer 6 = .ok (.getfield 28, 3) := by decide +kernel
theorem dX9_offer_9 : decode cX9_offer 9 = .ok (.imul, 1) := by decide +kernel
theorem dX9_offer_10 : decode cX9_offer 10 = .ok (.aload_n 0, 1) := by decide +kernel
theorem dX9_offer_11 : decode cX9_offer 11 = .ok (.getfield 22, 3) := by decide +kernel
theorem dX9_offer_14 : decode cX9_offer 14 = .ok (.isub, 1) := by decide +kernel
theorem dX9_offer_15 : decode cX9_offer 15 = .ok (.if_icmp .gt 27, 3) := by decide +kernel
theorem dX9_offer_18 : decode cX9_offer 18 = .ok (.aload_n 0, 1) := by decide +kernel
theorem dX9_offer_19 : decode cX9_offer 19 = .ok (.getfield 18, 3) := by decide +kernel
theorem dX9_offer_22 : decode cX9_offer 22 = .ok (.aload_n 0, 1) := by decide +kernel
theorem dX9_offer_23 : decode cX9_offer 23 = .ok (.getfield 9, 3) := by decide +kernel
theorem dX9_offer_26 : decode cX9_offer 26 = .ok (.arraylength, 1) := by decide +kernel
theorem dX9_offer_27 : decode cX9_offer 27 = .ok (.if_icmp .ge 15, 3) := by decide +kernel
theorem dX9_offer_30 : decode cX9_offer 30 = .ok (.aload_n 0, 1) := by decide +kernel
theorem dX9_offer_31 : decode cX9_offer 31 = .ok (.getfield 18, 3) := by decide +kernel
theorem dX9_offer_34 : decode cX9_offer 34 = .ok (.aload_n 0, 1) := by decide +kernel
theorem dX9_offer_35 : decode cX9_offer 35 = .ok (.getfield 15, 3) := by decide +kernel
theorem dX9_offer_38 : decode cX9_offer 38 = .ok (.arraylength, 1) := by decide +kernel
theorem dX9_offer_39 : decode cX9_offer 39 = .ok (.if_icmp .lt 4, 3) := by decide +kernel
theorem dX9_offer_42 : decode cX9_offer 42 = .ok (.return_, 1) := by decide +kernel
theorem dX9_offer_43 : decode cX9_offer 43 = .ok (.aload_n 0, 1) := by decide +kernel
theorem dX9_offer_44 : decode cX9_offer 44 = .ok (.getfield 9, 3) := by decide +kernel
theorem dX9_offer_47 : decode cX9_offer 47 = .ok (.aload_n 0, 1) := by decide +kernel
theorem dX9_offer_48 : decode cX9_offer 48 = .ok (.getfield 18, 3) := by decide +kernel
theorem dX9_offer_51 : decode cX9_offer 51 = .ok (.iload_n 1, 1) := by decide +kernel
theorem dX9_offer_52 : decode cX9_offer 52 = .ok (.iastore, 1) := by decide +kernel
theorem dX9_offer_53 : decode cX9_offer 53 = .ok (.aload_n 0, 1) := by decide +kernel
theorem dX9_offer_54 : decode cX9_offer 54 = .ok (.getfield 15, 3) := by decide +kernel
theorem dX9_offer_57 : decode cX9_offer 57 = .ok (.aload_n 0, 1) := by decide +kernel
theorem dX9_offer_58 : decode cX9_offer 58 = .ok (.getfield 18, 3) := by decide +kernel
theorem dX9_offer_61 : decode cX9_offer 61 = .ok (.aload_n 0, 1) := by decide +kernel
theorem dX9_offer_62 : decode cX9_offer 62 = .ok (.getfield 22, 3) := by decide +kernel
theorem dX9_offer_65 : decode cX9_offer 65 = .ok (.iastore, 1) := by decide +kernel
theorem dX9_offer_66 : decode cX9_offer 66 = .ok (.aload_n 0, 1) := by decide +kernel
theorem dX9_offer_67 : decode cX9_offer 67 = .ok (.dup, 1) := by decide +kernel
theorem dX9_offer_68 : decode cX9_offer 68 = .ok (.getfield 18, 3) := by decide +kernel
theorem dX9_offer_71 : decode cX9_offer 71 = .ok (.iconst 1, 1) := by decide +kernel
theorem dX9_offer_72 : decode cX9_offer 72 = .ok (.iadd, 1) := by decide +kernel
theorem dX9_offer_73 : decode cX9_offer 73 = .ok (.putfield 18, 3) := by decide +kernel
theorem dX9_offer_76 : decode cX9_offer 76 = .ok (.aload_n 0, 1) := by decide +kernel
theorem dX9_offer_77 : decode cX9_offer 77 = .ok (.dup, 1) := by decide +kernel
theorem dX9_offer_78 : decode cX9_offer 78 = .ok (.getfield 22, 3) := by decide +kernel
theorem dX9_offer_81 : decode cX9_offer 81 = .ok (.iload_n 2, 1) := by decide +kernel
theorem dX9_offer_82 : decode cX9_offer 82 = .ok (.iadd, 1) := by decide +kernel
theorem dX9_offer_83 : decode cX9_offer 83 = .ok (.putfield 22, 3) := by decide +kernel
theorem dX9_offer_86 : decode cX9_offer 86 = .ok (.return_, 1) := by decide +kernel
theorem dX9_firstLineOf_0 : decode cX9_firstLineOf 0 = .ok (.iconst 0, 1) := by decide +kernel
theorem dX9_firstLineOf_1 : decode cX9_firstLineOf 1 = .ok (.istore_n 2, 1) := by decide +kernel
theorem dX9_firstLineOf_2 : decode cX9_firstLineOf 2 = .ok (.iload_n 2, 1) := by decide +kernel
theorem dX9_firstLineOf_3 : decode cX9_firstLineOf 3 = .ok (.aload_n 0, 1) := by decide +kernel
theorem dX9_firstLineOf_4 : decode cX9_firstLineOf 4 = .ok (.getfield 18, 3) := by decide +kernel
theorem dX9_firstLineOf_7 : decode cX9_firstLineOf 7 = .ok (.if_icmp .ge 44, 3) := by decide +kernel
theorem dX9_firstLineOf_10 : decode cX9_firstLineOf 10 = .ok (.iload_n 2, 1) := by decide +kernel
theorem dX9_firstLineOf_11 : decode cX9_firstLineOf 11 = .ok (.aload_n 0, 1) := by decide +kernel
theorem dX9_firstLineOf_12 : decode cX9_firstLineOf 12 = .ok (.getfield 9, 3) := by decide +kernel
theorem dX9_firstLineOf_15 : decode cX9_firstLineOf 15 = .ok (.arraylength, 1) := by decide +kernel
theorem dX9_firstLineOf_16 : decode cX9_firstLineOf 16 = .ok (.if_icmp .ge 35, 3) := by decide +kernel
theorem dX9_firstLineOf_19 : decode cX9_firstLineOf 19 = .ok (.iload_n 2, 1) := by decide +kernel
theorem dX9_firstLineOf_20 : decode cX9_firstLineOf 20 = .ok (.aload_n 0, 1) := by decide +kernel
theorem dX9_firstLineOf_21 : decode cX9_firstLineOf 21 = .ok (.getfield 15, 3) := by decide +kernel
theorem dX9_firstLineOf_24 : decode cX9_firstLineOf 24 = .ok (.arraylength, 1) := by decide +kernel
theorem dX9_firstLineOf_25 : decode cX9_firstLineOf 25 = .ok (.if_icmp .ge 26, 3) := by decide +kernel
theorem dX9_firstLineOf_28 : decode cX9_firstLineOf 28 = .ok (.aload_n 0, 1) := by decide +kernel
theorem dX9_firstLineOf_29 : decode cX9_firstLineOf 29 = .ok (.getfield 9, 3) := by decide +kernel
theorem dX9_firstLineOf_32 : decode cX9_firstLineOf 32 = .ok (.iload_n 2, 1) := by decide +kernel
theorem dX9_firstLineOf_33 : decode cX9_firstLineOf 33 = .ok (.iaload, 1) := by decide +kernel
theorem dX9_firstLineOf_34 : decode cX9_firstLineOf 34 = .ok (.iload_n 1, 1) := by decide +kernel
theorem dX9_firstLineOf_35 : decode cX9_firstLineOf 35 = .ok (.if_icmp .ne 10, 3) := by decide +kernel
theorem dX9_firstLineOf_38 : decode cX9_firstLineOf 38 = .ok (.aload_n 0, 1) := by decide +kernel
theorem dX9_firstLineOf_39 : decode cX9_firstLineOf 39 = .ok (.getfield 15, 3) := by decide +kernel
theorem dX9_firstLineOf_42 : decode cX9_firstLineOf 42 = .ok (.iload_n 2, 1) := by decide +kernel
theorem dX9_firstLineOf_43 : decode cX9_firstLineOf 43 = .ok (.iaload, 1) := by decide +kernel
theorem dX9_firstLineOf_44 : decode cX9_firstLineOf 44 = .ok (.ireturn, 1) := by decide +kernel
theorem dX9_firstLineOf_45 : decode cX9_firstLineOf 45 = .ok (.iinc 2 1, 3) := by decide +kernel
theorem dX9_firstLineOf_48 : decode cX9_firstLineOf 48 = .ok (.goto (-46), 3) := by decide +kernel
theorem dX9_firstLineOf_51 : decode cX9_firstLineOf 51 = .ok (.iconst (-1), 1) := by decide +kernel
theorem dX9_firstLineOf_52 : decode cX9_firstLineOf 52 = .ok (.ireturn, 1) := by decide +kernel
theorem dX9_columnAt_0 : decode cX9_columnAt 0 = .ok (.aload_n 0, 1) := by decide +kernel
theorem dX9_columnAt_1 : decode cX9_columnAt 1 = .ok (.getfield 28, 3) := by decide +kernel
theorem dX9_columnAt_4 : decode cX9_columnAt 4 = .ok (.ifCond .le 12, 3) := by decide +kernel
theorem dX9_columnAt_7 : decode cX9_columnAt 7 = .ok (.iload_n 1, 1) := by decide +kernel
theorem dX9_columnAt_8 : decode cX9_columnAt 8 = .ok (.aload_n 0, 1) := by decide +kernel
theorem dX9_columnAt_9 : decode cX9_columnAt 9 = .ok (.getfield 28, 3) := by decide +kernel
theorem dX9_columnAt_12 : decode cX9_columnAt 12 = .ok (.idiv, 1) := by decide +kernel
theorem dX9_columnAt_13 : decode cX9_columnAt 13 = .ok (.goto 4, 3) := by decide +kernel
theorem dX9_columnAt_16 : decode cX9_columnAt 16 = .ok (.iconst 0, 1) := by decide +kernel
theorem dX9_columnAt_17 : decode cX9_columnAt 17 = .ok (.ireturn, 1) := by decide +kernel
theorem dX9_rowAt_0 : decode cX9_rowAt 0 = .ok (.aload_n 0, 1) := by decide +kernel
theorem dX9_rowAt_1 : decode cX9_rowAt 1 = .ok (.getfield 28, 3) := by decide +kernel
theorem dX9_rowAt_4 : decode cX9_rowAt 4 = .ok (.ifCond .le 12, 3) := by decide +kernel
theorem dX9_rowAt_7 : decode cX9_rowAt 7 = .ok (.iload_n 1, 1) := by decide +kernel
theorem dX9_rowAt_8 : decode cX9_rowAt 8 = .ok (.aload_n 0, 1) := by decide +kernel
theorem dX9_rowAt_9 : decode cX9_rowAt 9 = .ok (.getfield 28, 3) := by decide +kernel
theorem dX9_rowAt_12 : decode cX9_rowAt 12 = .ok (.irem, 1) := by decide +kernel
theorem dX9_rowAt_13 : decode cX9_rowAt 13 = .ok (.goto 4, 3) := by decide +kernel
theorem dX9_rowAt_16 : decode cX9_rowAt 16 = .ok (.iconst 0, 1) := by decide +kernel
theorem dX9_rowAt_17 : decode cX9_rowAt 17 = .ok (.ireturn, 1) := by decide +kernel
theorem dX9_coveredPart_0 : decode cX9_coveredPart 0 = .ok (.aload_n 0, 1) := by decide +kernel
theorem dX9_coveredPart_1 : decode cX9_coveredPart 1 = .ok (.getfield 25, 3) := by decide +kernel
theorem dX9_coveredPart_4 : decode cX9_coveredPart 4 = .ok (.aload_n 0, 1) := by decide +kernel
theorem dX9_coveredPart_5 : decode cX9_coveredPart 5 = .ok (.getfield 28, 3) := by decide +kernel
theorem dX9_coveredPart_8 : decode cX9_coveredPart 8 = .ok (.imul, 1) := by decide +kernel
theorem dX9_coveredPart_9 : decode cX9_coveredPart 9 = .ok (.istore_n 1, 1) := by decide +kernel
theorem dX9_coveredPart_10 : decode cX9_coveredPart 10 = .ok (.iload_n 1, 1) := by decide +kernel
theorem dX9_coveredPart_11 : decode cX9_coveredPart 11 = .ok (.ifCond .le 14, 3) := by decide +kernel
theorem dX9_coveredPart_14 : decode cX9_coveredPart 14 = .ok (.aload_n 0, 1) := by decide +kernel
theorem dX9_coveredPart_15 : decode cX9_coveredPart 15 = .ok (.getfield 22, 3) := by decide +kernel
theorem dX9_coveredPart_18 : decode cX9_coveredPart 18 = .ok (.i2f, 1) := by decide +kernel
theorem dX9_coveredPart_19 : decode cX9_coveredPart 19 = .ok (.iload_n 1, 1) := by decide +kernel
theorem dX9_coveredPart_20 : decode cX9_coveredPart 20 = .ok (.i2f, 1) := by decide +kernel
theorem dX9_coveredPart_21 : decode cX9_coveredPart 21 = .ok (.fdiv, 1) := by decide +kernel
theorem dX9_coveredPart_22 : decode cX9_coveredPart 22 = .ok (.goto 4, 3) := by decide +kernel
theorem dX9_coveredPart_25 : decode cX9_coveredPart 25 = .ok (.fconst 0, 1) := by decide +kernel
theorem dX9_coveredPart_26 : decode cX9_coveredPart 26 = .ok (.freturn, 1) := by decide +kernel
theorem dX10_init_0 : decode cX10_init 0 = .ok (.aload_n 0, 1) := by decide +kernel
theorem dX10_init_1 : decode cX10_init 1 = .ok (.invokespecial 3, 3) := by decide +kernel
theorem dX10_init_4 : decode cX10_init 4 = .ok (.aload_n 0, 1) := by decide +kernel
theorem dX10_init_5 : decode cX10_init 5 = .ok (.new 9, 3) := by decide +kernel
theorem dX10_init_8 : decode cX10_init 8 = .ok (.dup, 1) := by decide +kernel
theorem dX10_init_9 : decode cX10_init 9 = .ok (.invokespecial 11, 3) := by decide +kernel
theorem dX10_init_12 : decode cX10_init 12 = .ok (.putfield 12, 3) := by decide +kernel
theorem dX10_init_15 : decode cX10_init 15 = .ok (.aload_n 0, 1) := by decide +kernel
theorem dX10_init_16 : decode cX10_init 16 = .ok (.new 9, 3) := by decide +kernel
theorem dX10_init_19 : decode cX10_init 19 = .ok (.dup, 1) := by decide +kernel
theorem dX10_init_20 : decode cX10_init 20 = .ok (.invokespecial 11, 3) := by decide +kernel
theorem dX10_init_23 : decode cX10_init 23 = .ok (.putfield 18, 3) := by decide +kernel
theorem dX10_init_26 : decode cX10_init 26 = .ok (.aload_n 0, 1) := by decide +kernel
theorem dX10_init_27 : decode cX10_init 27 = .ok (.iconst 0, 1) := by decide +kernel
theorem dX10_init_28 : decode cX10_init 28 = .ok (.putfield 21, 3) := by decide +kernel
theorem dX10_init_31 : decode cX10_init 31 = .ok (.aload_n 0, 1) := by decide +kernel
theorem dX10_init_32 : decode cX10_init 32 = .ok (.iconst 0, 1) := by decide +kernel
theorem dX10_init_33 : decode cX10_init 33 = .ok (.putfield 25, 3) := by decide +kernel
theorem dX10_init_36 : decode cX10_init 36 = .ok (.aload_n 0, 1) := by decide +kernel
theorem dX10_init_37 : decode cX10_init 37 = .ok (.bipush 12, 2) := by decide +kernel
theorem dX10_init_39 : decode cX10_init 39 = .ok (.putfield 28, 3) := by decide +kernel
theorem dX10_init_42 : decode cX10_init 42 = .ok (.aload_n 0, 1) := by decide +kernel
theorem dX10_init_43 : decode cX10_init 43 = .ok (.iconst 2, 1) := by decide +kernel
theorem dX10_init_44 : decode cX10_init 44 = .ok (.putfield 31, 3) := by decide +kernel
theorem dX10_init_47 : decode cX10_init 47 = .ok (.aload_n 0, 1) := by decide +kernel
theorem dX10_init_48 : decode cX10_init 48 = .ok (.bipush 8, 2) := by decide +kernel
theorem dX10_init_50 : decode cX10_init 50 = .ok (.putfield 34, 3) := by decide +kernel
theorem dX10_init_53 : decode cX10_init 53 = .ok (.aload_n 0, 1) := by decide +kernel
theorem dX10_init_54 : decode cX10_init 54 = .ok (.iconst 0, 1) := by decide +kernel
theorem dX10_init_55 : decode cX10_init 55 = .ok (.putfield 37, 3) := by decide +kernel
theorem dX10_init_58 : decode cX10_init 58 = .ok (.aload_n 0, 1) := by decide +kernel
theorem dX10_init_59 : decode cX10_init 59 = .ok (.iconst 0, 1) := by decide +kernel
theorem dX10_init_60 : decode cX10_init 60 = .ok (.putfield 40, 3) := by decide +kernel
theorem dX10_init_63 : decode cX10_init 63 = .ok (.return_, 1) := by decide +kernel
theorem dX10_copied_0 : decode cX10_copied 0 = .ok (.new 13, 3) := by decide +kernel
theorem dX10_copied_3 : decode cX10_copied 3 = .ok (.dup, 1) := by decide +kernel
theorem dX10_copied_4 : decode cX10_copied 4 = .ok (.invokespecial 43, 3) := by decide +kernel
theorem dX10_copied_7 : decode cX10_copied 7 = .ok (.astore_n 1, 1) := by decide +kernel
theorem dX10_copied_8 : decode cX10_copied 8 = .ok (.iconst 0, 1) := by decide +kernel
theorem dX10_copied_9 : decode cX10_copied 9 = .ok (.istore_n 2, 1) := by decide +kernel
theorem dX10_copied_10 : decode cX10_copied 10 = .ok (.iload_n 2, 1) := by decide +kernel
theorem dX10_copied_11 : decode cX10_copied 11 = .ok (.aload_n 0, 1) := by decide +kernel
theorem dX10_copied_12 : decode cX10_copied 12 = .ok (.getfield 12, 3) := by decide +kernel
theorem dX10_copied_15 : decode cX10_copied 15 = .ok (.invokevirtual 44, 3) := by decide +kernel
theorem dX10_copied_18 : decode cX10_copied 18 = .ok (.if_icmp .ge 28, 3) := by decide +kernel
theorem dX10_copied_21 : decode cX10_copied 21 = .ok (.aload_n 1, 1) := by decide +kernel
theorem dX10_copied_22 : decode cX10_copied 22 = .ok (.getfield 12, 3) := by decide +kernel
theorem dX10_copied_25 : decode cX10_copied 25 = .ok (.aload_n 0, 1) := by decide +kernel
theorem dX10_copied_26 : decode cX10_copied 26 = .ok (.getfield 12, 3) := by decide +kernel
theorem dX10_copied_29 : decode cX10_copied 29 = .ok (.iload_n 2, 1) := by decide +kernel
theorem dX10_copied_30 : decode cX10_copied 30 = .ok (.invokevirtual 48, 3) := by decide +kernel
theorem dX10_copied_33 : decode cX10_copied 33 = .ok (.checkcast 52, 3) := by decide +kernel
theorem dX10_copied_36 : decode cX10_copied 36 = .ok (.invokevirtual 54, 3) := by decide +kernel
theorem dX10_copied_39 : decode cX10_copied 39 = .ok (.pop, 1) := by decide +kernel
theorem dX10_copied_40 : decode cX10_copied 40 = .ok (.iinc 2 1, 3) := by decide +kernel
theorem dX10_copied_43 : decode cX10_copied 43 = .ok (.goto (-33), 3) := by decide +kernel
theorem dX10_copied_46 : decode cX10_copied 46 = .ok (.iconst 0, 1) := by decide +kernel
theorem dX10_copied_47 : decode cX10_copied 47 = .ok (.istore_n 2, 1) := by decide +kernel
theorem dX10_copied_48 : decode cX10_copied 48 = .ok (.iload_n 2, 1) := by decide +kernel
theorem dX10_copied_49 : decode cX10_copied 49 = .ok (.aload_n 0, 1) := by decide +kernel
theorem dX10_copied_50 : decode cX10_copied 50 = .ok (.getfield 18, 3) := by decide +kernel
theorem dX10_copied_53 : decode cX10_copied 53 = .ok (.invokevirtual 44, 3) := by decide +kernel
theorem dX10_copied_56 : decode cX10_copied 56 = .ok (.if_icmp .ge 28, 3) := by decide +kernel
theorem dX10_copied_59 : decode cX10_copied 59 = .ok (.aload_n 1, 1) := by decide +kernel
theorem dX10_copied_60 : decode cX10_copied 60 = .ok (.getfield 18, 3) := by decide +kernel
theorem dX10_copied_63 : decode cX10_copied 63 = .ok (.aload_n 0, 1) := by decide +kernel
theorem dX10_copied_64 : decode cX10_copied 64 = .ok (.getfield 18, 3) := by decide +kernel
theorem dX10_copied_67 : decode cX10_copied 67 = .ok (.iload_n 2, 1) := by decide +kernel
theorem dX10_copied_68 : decode cX10_copied 68 = .ok (.invokevirtual 48, 3) := by decide +kernel
theorem dX10_copied_71 : decode cX10_copied 71 = .ok (.checkcast 58, 3) := by decide +kernel
theorem dX10_copied_74 : decode cX10_copied 74 = .ok (.invokevirtual 54, 3) := by decide +kernel
theorem dX10_copied_77 : decode cX10_copied 77 = .ok (.pop, 1) := by decide +kernel
theorem dX10_copied_78 : decode cX10_copied 78 = .ok (.iinc 2 1, 3) := by decide +kernel
theorem dX10_copied_81 : decode cX10_copied 81 = .ok (.goto (-33), 3) := by decide +kernel
theorem dX10_copied_84 : decode cX10_copied 84 = .ok (.aload_n 1, 1) := by decide +kernel
theorem dX10_copied_85 : decode cX10_copied 85 = .ok (.aload_n 0, 1) := by decide +kernel
theorem dX10_copied_86 : decode cX10_copied 86 = .ok (.getfield 21, 3) := by decide +kernel
theorem dX10_copied_89 : decode cX10_copied 89 = .ok (.putfield 21, 3) := by decide +kernel
theorem dX10_copied_92 : decode cX10_copied 92 = .ok (.aload_n 1, 1) := by decide +kernel
theorem dX10_copied_93 : decode cX10_copied 93 = .ok (.aload_n 0, 1) := by decide +kernel
theorem dX10_copied_94 : decode cX10_copied 94 = .ok (.getfield 25, 3) := by decide +kernel
theorem dX10_copied_97 : decode cX10_copied 97 = .ok (.putfield 25, 3) := by decide +kernel
theorem dX10_copied_100 : decode cX10_copied 100 = .ok (.aload_n 1, 1) := by decide +kernel
theorem dX10_copied_101 : decode cX10_copied 101 = .ok (.aload_n 0, 1) := by decide +kernel
theorem dX10_copied_102 : decode cX10_copied 102 = .ok (.getfield 28, 3) := by decide +kernel
theorem dX10_copied_105 : decode cX10_copied 105 = .ok (.putfield 28, 3) := by decide +kernel
theorem dX10_copied_108 : decode cX10_copied 108 = .ok (.aload_n 1, 1) := by decide +kernel
theorem dX10_copied_109 : decode cX10_copied 109 = .ok (.aload_n 0, 1) := by decide +kernel
theorem dX10_copied_110 : decode cX10_copied 110 = .ok (.getfield 31, 3) := by decide +kernel
theorem dX10_copied_113 : decode cX10_copied 113 = .ok (.putfield 31, 3) := by decide +kernel
theorem dX10_copied_116 : decode cX10_copied 116 = .ok (.aload_n 1, 1) := by decide +kernel
theorem dX10_copied_117 : decode cX10_copied 117 = .ok (.aload_n 0, 1) := by decide +kernel
theorem dX10_copied_118 : decode cX10_copied 118 = .ok (.getfield 34, 3) := by decide +kernel
theorem dX10_copied_121 : decode cX10_copied 121 = .ok (.putfield 34, 3) := by decide +kernel
theorem dX10_copied_124 : decode cX10_copied 124 = .ok (.aload_n 1, 1) := by decide +kernel
theorem dX10_copied_125 : decode cX10_copied 125 = .ok (.aload_n 0, 1) := by decide +kernel
theorem dX10_copied_126 : decode cX10_copied 126 = .ok (.getfield 37, 3) := by decide +kernel
theorem dX10_copied_129 : decode cX10_copied 129 = .ok (.putfield 37, 3) := by decide +kernel
theorem dX10_copied_132 : decode cX10_copied 132 = .ok (.aload_n 1, 1) := by decide +kernel
theorem dX10_copied_133 : decode cX10_copied 133 = .ok (.aload_n 0, 1) := by decide +kernel
theorem dX10_copied_134 : decode cX10_copied 134 = .ok (.getfield 40, 3) := by decide +kernel
theorem dX10_copied_137 : decode cX10_copied 137 = .ok (.putfield 40, 3) := by decide +kernel
theorem dX10_copied_140 : decode cX10_copied 140 = .ok (.aload_n 1, 1) := by decide +kernel
theorem dX10_copied_141 : decode cX10_copied 141 = .ok (.areturn, 1) := by decide +kernel
theorem dX10_indexOf_0 : decode cX10_indexOf 0 = .ok (.iconst 0, 1) := by decide +kernel
theorem dX10_indexOf_1 : decode cX10_indexOf 1 = .ok (.istore_n 2, 1) := by decide +kernel
theorem dX10_indexOf_2 : decode cX10_indexOf 2 = .ok (.iload_n 2, 1) := by decide +kernel
theorem dX10_indexOf_3 : decode cX10_indexOf 3 = .ok (.aload_n 0, 1) := by decide +kernel
theorem dX10_indexOf_4 : decode cX10_indexOf 4 = .ok (.getfield 12, 3) := by decide +kernel
theorem dX10_indexOf_7 : decode cX10_indexOf 7 = .ok (.invokevirtual 44, 3) := by decide +kernel
theorem dX10_indexOf_10 : decode cX10_indexOf 10 = .ok (.if_icmp .ge 29, 3) := by decide +kernel
theorem dX10_indexOf_13 : decode cX10_indexOf 13 = .ok (.aload_n 0, 1) := by decide +kernel
theorem dX10_indexOf_14 : decode cX10_indexOf 14 = .ok (.getfield 12, 3) := by decide +kernel
theorem dX10_indexOf_17 : decode cX10_indexOf 17 = .ok (.iload_n 2, 1) := by decide +kernel
theorem dX10_indexOf_18 : decode cX10_indexOf 18 = .ok (.invokevirtual 48, 3) := by decide +kernel
theorem dX10_indexOf_21 : decode cX10_indexOf 21 = .ok (.checkcast 52, 3) := by decide +kernel
theorem dX10_indexOf_24 : decode cX10_indexOf 24 = .ok (.getfield 60, 3) := by decide +kernel
theorem dX10_indexOf_27 : decode cX10_indexOf 27 = .ok (.iload_n 1, 1) := by decide +kernel
theorem dX10_indexOf_28 : decode cX10_indexOf 28 = .ok (.if_icmp .ne 5, 3) := by decide +kernel
theorem dX10_indexOf_31 : decode cX10_indexOf 31 = .ok (.iload_n 2, 1) := by decide +kernel
theorem dX10_indexOf_32 : decode cX10_indexOf 32 = .ok (.ireturn, 1) := by decide +kernel
theorem dX10_indexOf_33 : decode cX10_indexOf 33 = .ok (.iinc 2 1, 3) := by decide +kernel
theorem dX10_indexOf_36 : decode cX10_indexOf 36 = .ok (.goto (-34), 3) := by decide +kernel
theorem dX10_indexOf_39 : decode cX10_indexOf 39 = .ok (.iconst (-1), 1) := by decide +kernel
theorem dX10_indexOf_40 : decode cX10_indexOf 40 = .ok (.ireturn, 1) := by decide +kernel
theorem dX10_findArticle_0 : decode cX10_findArticle 0 = .ok (.aload_n 0, 1) := by decide +kernel
theorem dX10_findArticle_1 : decode cX10_findArticle 1 = .ok (.iload_n 1, 1) := by decide +kernel
theorem dX10_findArticle_2 : decode cX10_findArticle 2 = .ok (.invokevirtual 63, 3) := by decide +kernel
theorem dX10_findArticle_5 : decode cX10_findArticle 5 = .ok (.istore_n 2, 1) := by decide +kernel
theorem dX10_findArticle_6 : decode cX10_findArticle 6 = .ok (.iload_n 2, 1) := by decide +kernel
theorem dX10_findArticle_7 : decode cX10_findArticle 7 = .ok (.ifCond .lt 28, 3) := by decide +kernel
theorem dX10_findArticle_10 : decode cX10_findArticle 10 = .ok (.iload_n 2, 1) := by decide +kernel
theorem dX10_findArticle_11 : decode cX10_findArticle 11 = .ok (.aload_n 0, 1) := by decide +kernel
theorem dX10_findArticle_12 : decode cX10_findArticle 12 = .ok (.getfield 12, 3) := by decide +kernel
theorem dX10_findArticle_15 : decode cX10_findArticle 15 = .ok (.invokevirtual 44, 3) := by decide +kernel
theorem dX10_findArticle_18 : decode cX10_findArticle 18 = .ok (.if_icmp .ge 17, 3) := by decide +kernel
theorem dX10_findArticle_21 : decode cX10_findArticle 21 = .ok (.aload_n 0, 1) := by decide +kernel
theorem dX10_findArticle_22 : decode cX10_findArticle 22 = .ok (.getfield 12, 3) := by decide +kernel
theorem dX10_findArticle_25 : decode cX10_findArticle 25 = .ok (.iload_n 2, 1) := by decide +kernel
theorem dX10_findArticle_26 : decode cX10_findArticle 26 = .ok (.invokevirtual 48, 3) := by decide +kernel
theorem dX10_findArticle_29 : decode cX10_findArticle 29 = .ok (.checkcast 52, 3) := by decide +kernel
theorem dX10_findArticle_32 : decode cX10_findArticle 32 = .ok (.goto 4, 3) := by decide +kernel
theorem dX10_findArticle_35 : decode cX10_findArticle 35 = .ok (.aconst_null, 1) := by decide +kernel
theorem dX10_findArticle_36 : decode cX10_findArticle 36 = .ok (.areturn, 1) := by decide +kernel
theorem dX10_findIssue_0 : decode cX10_findIssue 0 = .ok (.iconst 0, 1) := by decide +kernel
theorem dX10_findIssue_1 : decode cX10_findIssue 1 = .ok (.istore_n 2, 1) := by decide +kernel
theorem dX10_findIssue_2 : decode cX10_findIssue 2 = .ok (.iload_n 2, 1) := by decide +kernel
theorem dX10_findIssue_3 : decode cX10_findIssue 3 = .ok (.aload_n 0, 1) := by decide +kernel
theorem dX10_findIssue_4 : decode cX10_findIssue 4 = .ok (.getfield 18, 3) := by decide +kernel
theorem dX10_findIssue_7 : decode cX10_findIssue 7 = .ok (.invokevirtual 44, 3) := by decide +kernel
theorem dX10_findIssue_10 : decode cX10_findIssue 10 = .ok (.if_icmp .ge 31, 3) := by decide +kernel
theorem dX10_findIssue_13 : decode cX10_findIssue 13 = .ok (.aload_n 0, 1) := by decide +kernel
theorem dX10_findIssue_14 : decode cX10_findIssue 14 = .ok (.getfield 18, 3) := by decide +kernel
theorem dX10_findIssue_17 : decode cX10_findIssue 17 = .ok (.iload_n 2, 1) := by decide +kernel
theorem dX10_findIssue_18 : decode cX10_findIssue 18 = .ok (.invokevirtual 48, 3) := by decide +kernel
theorem dX10_findIssue_21 : decode cX10_findIssue 21 = .ok (.checkcast 58, 3) := by decide +kernel
theorem dX10_findIssue_24 : decode cX10_findIssue 24 = .ok (.astore_n 3, 1) := by decide +kernel
theorem dX10_findIssue_25 : decode cX10_findIssue 25 = .ok (.aload_n 3, 1) := by decide +kernel
theorem dX10_findIssue_26 : decode cX10_findIssue 26 = .ok (.getfield 67, 3) := by decide +kernel
theorem dX10_findIssue_29 : decode cX10_findIssue 29 = .ok (.iload_n 1, 1) := by decide +kernel
theorem dX10_findIssue_30 : decode cX10_findIssue 30 = .ok (.if_icmp .ne 5, 3) := by decide +kernel
theorem dX10_findIssue_33 : decode cX10_findIssue 33 = .ok (.aload_n 3, 1) := by decide +kernel
theorem dX10_findIssue_34 : decode cX10_findIssue 34 = .ok (.areturn, 1) := by decide +kernel
theorem dX10_findIssue_35 : decode cX10_findIssue 35 = .ok (.iinc 2 1, 3) := by decide +kernel
theorem dX10_findIssue_38 : decode cX10_findIssue 38 = .ok (.goto (-36), 3) := by decide +kernel
theorem dX10_findIssue_41 : decode cX10_findIssue 41 = .ok (.aconst_null, 1) := by decide +kernel
theorem dX10_findIssue_42 : decode cX10_findIssue 42 = .ok (.areturn, 1) := by decide +kernel
theorem dX10_ranked_0 : decode cX10_ranked 0 = .ok (.iconst 0, 1) := by decide +kernel
theorem dX10_ranked_1 : decode cX10_ranked 1 = .ok (.istore_n 2, 1) := by decide +kernel
theorem dX10_ranked_2 : decode cX10_ranked 2 = .ok (.iload_n 2, 1) := by decide +kernel
theorem dX10_ranked_3 : decode cX10_ranked 3 = .ok (.aload_n 0, 1) := by decide +kernel
theorem dX10_ranked_4 : decode cX10_ranked 4 = .ok (.getfield 12, 3) := by decide +kernel
theorem dX10_ranked_7 : decode cX10_ranked 7 = .ok (.invokevirtual 44, 3) := by decide +kernel
theorem dX10_ranked_10 : decode cX10_ranked 10 = .ok (.if_icmp .ge 32, 3) := by decide +kernel
theorem dX10_ranked_13 : decode cX10_ranked 13 = .ok (.aload_n 0, 1) := by decide +kernel
theorem dX10_ranked_14 : decode cX10_ranked 14 = .ok (.getfield 12, 3) := by decide +kernel
theorem dX10_ranked_17 : decode cX10_ranked 17 = .ok (.iload_n 2, 1) := by decide +kernel
theorem dX10_ranked_18 : decode cX10_ranked 18 = .ok (.invokevirtual 48, 3) := by decide +kernel
theorem dX10_ranked_21 : decode cX10_ranked 21 = .ok (.checkcast 52, 3) := by decide +kernel
theorem dX10_ranked_24 : decode cX10_ranked 24 = .ok (.astore_n 3, 1) := by decide +kernel
theorem dX10_ranked_25 : decode cX10_ranked 25 = .ok (.aload_n 0, 1) := by decide +kernel
theorem dX10_ranked_26 : decode cX10_ranked 26 = .ok (.aload_n 3, 1) := by decide +kernel
theorem dX10_ranked_27 : decode cX10_ranked 27 = .ok (.invokevirtual 70, 3) := by decide +kernel
theorem dX10_ranked_30 : decode cX10_ranked 30 = .ok (.iload_n 1, 1) := by decide +kernel
theorem dX10_ranked_31 : decode cX10_ranked 31 = .ok (.if_icmp .ne 5, 3) := by decide +kernel
theorem dX10_ranked_34 : decode cX10_ranked 34 = .ok (.aload_n 3, 1) := by decide +kernel
theorem dX10_ranked_35 : decode cX10_ranked 35 = .ok (.areturn, 1) := by decide +kernel
theorem dX10_ranked_36 : decode cX10_ranked 36 = .ok (.iinc 2 1, 3) := by decide +kernel
theorem dX10_ranked_39 : decode cX10_ranked 39 = .ok (.goto (-37), 3) := by decide +kernel
theorem dX10_ranked_42 : decode cX10_ranked 42 = .ok (.aconst_null, 1) := by decide +kernel
theorem dX10_ranked_43 : decode cX10_ranked 43 = .ok (.areturn, 1) := by decide +kernel
theorem dX10_countBefore_0 : decode cX10_countBefore 0 = .ok (.iconst 0, 1) := by decide +kernel
theorem dX10_countBefore_1 : decode cX10_countBefore 1 = .ok (.istore_n 2, 1) := by decide +kernel
theorem dX10_countBefore_2 : decode cX10_countBefore 2 = .ok (.iconst 0, 1) := by decide +kernel
theorem dX10_countBefore_3 : decode cX10_countBefore 3 = .ok (.istore_n 3, 1) := by decide +kernel
theorem dX10_countBefore_4 : decode cX10_countBefore 4 = .ok (.iload_n 3, 1) := by decide +kernel
theorem dX10_countBefore_5 : decode cX10_countBefore 5 = .ok (.aload_n 0, 1) := by decide +kernel
theorem dX10_countBefore_6 : decode cX10_countBefore 6 = .ok (.getfield 12, 3) := by decide +kernel
theorem dX10_countBefore_9 : decode cX10_countBefore 9 = .ok (.invokevirtual 44, 3) := by decide +kernel
theorem dX10_countBefore_12 : decode cX10_countBefore 12 = .ok (.if_icmp .ge 30, 3) := by decide +kernel
theorem dX10_countBefore_15 : decode cX10_countBefore 15 = .ok (.aload_n 0, 1) := by decide +kernel
theorem dX10_countBefore_16 : decode cX10_countBefore 16 = .ok (.getfield 12, 3) := by decide +kernel
theorem dX10_countBefore_19 : decode cX10_countBefore 19 = .ok (.iload_n 3, 1) := by decide +kernel
theorem dX10_countBefore_20 : decode cX10_countBefore 20 = .ok (.invokevirtual 48, 3) := by decide +kernel
theorem dX10_countBefore_23 : decode cX10_countBefore 23 = .ok (.checkcast 52, 3) := by decide +kernel
theorem dX10_countBefore_26 : decode cX10_countBefore 26 = .ok (.aload_n 1, 1) := by decide +kernel
theorem dX10_countBefore_27 : decode cX10_countBefore 27 = .ok (.invokevirtual 74, 3) := by decide +kernel
theorem dX10_countBefore_30 : decode cX10_countBefore 30 = .ok (.ifCond .eq 6, 3) := by decide +kernel
theorem dX10_countBefore_33 : decode cX10_countBefore 33 = .ok (.iinc 2 1, 3) := by decide +kernel
