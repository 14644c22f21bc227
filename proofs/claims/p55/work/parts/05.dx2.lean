theorem dX10_countBefore_36 : decode cX10_countBefore 36 = .ok (.iinc 3 1, 3) := by decide +kernel
theorem dX10_countBefore_39 : decode cX10_countBefore 39 = .ok (.goto (-35), 3) := by decide +kernel
theorem dX10_countBefore_42 : decode cX10_countBefore 42 = .ok (.iload_n 2, 1) := by decide +kernel
theorem dX10_countBefore_43 : decode cX10_countBefore 43 = .ok (.ireturn, 1) := by decide +kernel
theorem dX10_isInKeptIssue_0 : decode cX10_isInKeptIssue 0 = .ok (.iconst 0, 1) := by decide +kernel
theorem dX10_isInKeptIssue_1 : decode cX10_isInKeptIssue 1 = .ok (.istore_n 2, 1) := by decide +kernel
theorem dX10_isInKeptIssue_2 : decode cX10_isInKeptIssue 2 = .ok (.iload_n 2, 1) := by decide +kernel
theorem dX10_isInKeptIssue_3 : decode cX10_isInKeptIssue 3 = .ok (.aload_n 0, 1) := by decide +kernel
theorem dX10_isInKeptIssue_4 : decode cX10_isInKeptIssue 4 = .ok (.getfield 18, 3) := by decide +kernel
theorem dX10_isInKeptIssue_7 : decode cX10_isInKeptIssue 7 = .ok (.invokevirtual 44, 3) := by decide +kernel
theorem dX10_isInKeptIssue_10 : decode cX10_isInKeptIssue 10 = .ok (.if_icmp .ge 33, 3) := by decide +kernel
theorem dX10_isInKeptIssue_13 : decode cX10_isInKeptIssue 13 = .ok (.aload_n 0, 1) := by decide +kernel
theorem dX10_isInKeptIssue_14 : decode cX10_isInKeptIssue 14 = .ok (.getfield 18, 3) := by decide +kernel
theorem dX10_isInKeptIssue_17 : decode cX10_isInKeptIssue 17 = .ok (.iload_n 2, 1) := by decide +kernel
theorem dX10_isInKeptIssue_18 : decode cX10_isInKeptIssue 18 = .ok (.invokevirtual 48, 3) := by decide +kernel
theorem dX10_isInKeptIssue_21 : decode cX10_isInKeptIssue 21 = .ok (.checkcast 58, 3) := by decide +kernel
theorem dX10_isInKeptIssue_24 : decode cX10_isInKeptIssue 24 = .ok (.getfield 78, 3) := by decide +kernel
theorem dX10_isInKeptIssue_27 : decode cX10_isInKeptIssue 27 = .ok (.iload_n 1, 1) := by decide +kernel
theorem dX10_isInKeptIssue_28 : decode cX10_isInKeptIssue 28 = .ok (.invokevirtual 82, 3) := by decide +kernel
theorem dX10_isInKeptIssue_31 : decode cX10_isInKeptIssue 31 = .ok (.iconst (-1), 1) := by decide +kernel
theorem dX10_isInKeptIssue_32 : decode cX10_isInKeptIssue 32 = .ok (.if_icmp .eq 5, 3) := by decide +kernel
theorem dX10_isInKeptIssue_35 : decode cX10_isInKeptIssue 35 = .ok (.iconst 1, 1) := by decide +kernel
theorem dX10_isInKeptIssue_36 : decode cX10_isInKeptIssue 36 = .ok (.ireturn, 1) := by decide +kernel
theorem dX10_isInKeptIssue_37 : decode cX10_isInKeptIssue 37 = .ok (.iinc 2 1, 3) := by decide +kernel
theorem dX10_isInKeptIssue_40 : decode cX10_isInKeptIssue 40 = .ok (.goto (-38), 3) := by decide +kernel
theorem dX10_isInKeptIssue_43 : decode cX10_isInKeptIssue 43 = .ok (.iconst 0, 1) := by decide +kernel
theorem dX10_isInKeptIssue_44 : decode cX10_isInKeptIssue 44 = .ok (.ireturn, 1) := by decide +kernel
theorem dX10_countReadable_0 : decode cX10_countReadable 0 = .ok (.iconst 0, 1) := by decide +kernel
theorem dX10_countReadable_1 : decode cX10_countReadable 1 = .ok (.istore_n 1, 1) := by decide +kernel
theorem dX10_countReadable_2 : decode cX10_countReadable 2 = .ok (.iconst 0, 1) := by decide +kernel
theorem dX10_countReadable_3 : decode cX10_countReadable 3 = .ok (.istore_n 2, 1) := by decide +kernel
theorem dX10_countReadable_4 : decode cX10_countReadable 4 = .ok (.iload_n 2, 1) := by decide +kernel
theorem dX10_countReadable_5 : decode cX10_countReadable 5 = .ok (.aload_n 0, 1) := by decide +kernel
theorem dX10_countReadable_6 : decode cX10_countReadable 6 = .ok (.getfield 18, 3) := by decide +kernel
theorem dX10_countReadable_9 : decode cX10_countReadable 9 = .ok (.invokevirtual 44, 3) := by decide +kernel
theorem dX10_countReadable_12 : decode cX10_countReadable 12 = .ok (.if_icmp .ge 29, 3) := by decide +kernel
theorem dX10_countReadable_15 : decode cX10_countReadable 15 = .ok (.aload_n 0, 1) := by decide +kernel
theorem dX10_countReadable_16 : decode cX10_countReadable 16 = .ok (.getfield 18, 3) := by decide +kernel
theorem dX10_countReadable_19 : decode cX10_countReadable 19 = .ok (.iload_n 2, 1) := by decide +kernel
theorem dX10_countReadable_20 : decode cX10_countReadable 20 = .ok (.invokevirtual 48, 3) := by decide +kernel
theorem dX10_countReadable_23 : decode cX10_countReadable 23 = .ok (.checkcast 58, 3) := by decide +kernel
theorem dX10_countReadable_26 : decode cX10_countReadable 26 = .ok (.invokevirtual 87, 3) := by decide +kernel
theorem dX10_countReadable_29 : decode cX10_countReadable 29 = .ok (.ifCond .eq 6, 3) := by decide +kernel
theorem dX10_countReadable_32 : decode cX10_countReadable 32 = .ok (.iinc 1 1, 3) := by decide +kernel
theorem dX10_countReadable_35 : decode cX10_countReadable 35 = .ok (.iinc 2 1, 3) := by decide +kernel
theorem dX10_countReadable_38 : decode cX10_countReadable 38 = .ok (.goto (-34), 3) := by decide +kernel
theorem dX10_countReadable_41 : decode cX10_countReadable 41 = .ok (.iload_n 1, 1) := by decide +kernel
theorem dX10_countReadable_42 : decode cX10_countReadable 42 = .ok (.ireturn, 1) := by decide +kernel
theorem dX10_takeArticle_0 : decode cX10_takeArticle 0 = .ok (.aload_n 0, 1) := by decide +kernel
theorem dX10_takeArticle_1 : decode cX10_takeArticle 1 = .ok (.getfield 21, 3) := by decide +kernel
theorem dX10_takeArticle_4 : decode cX10_takeArticle 4 = .ok (.istore_n 3, 1) := by decide +kernel
theorem dX10_takeArticle_5 : decode cX10_takeArticle 5 = .ok (.aload_n 0, 1) := by decide +kernel
theorem dX10_takeArticle_6 : decode cX10_takeArticle 6 = .ok (.getfield 12, 3) := by decide +kernel
theorem dX10_takeArticle_9 : decode cX10_takeArticle 9 = .ok (.new 52, 3) := by decide +kernel
theorem dX10_takeArticle_12 : decode cX10_takeArticle 12 = .ok (.dup, 1) := by decide +kernel
theorem dX10_takeArticle_13 : decode cX10_takeArticle 13 = .ok (.iload_n 3, 1) := by decide +kernel
theorem dX10_takeArticle_14 : decode cX10_takeArticle 14 = .ok (.iload_n 1, 1) := by decide +kernel
theorem dX10_takeArticle_15 : decode cX10_takeArticle 15 = .ok (.aload_n 2, 1) := by decide +kernel
theorem dX10_takeArticle_16 : decode cX10_takeArticle 16 = .ok (.invokespecial 91, 3) := by decide +kernel
theorem dX10_takeArticle_19 : decode cX10_takeArticle 19 = .ok (.invokevirtual 54, 3) := by decide +kernel
theorem dX10_takeArticle_22 : decode cX10_takeArticle 22 = .ok (.pop, 1) := by decide +kernel
theorem dX10_takeArticle_23 : decode cX10_takeArticle 23 = .ok (.aload_n 0, 1) := by decide +kernel
theorem dX10_takeArticle_24 : decode cX10_takeArticle 24 = .ok (.dup, 1) := by decide +kernel
theorem dX10_takeArticle_25 : decode cX10_takeArticle 25 = .ok (.getfield 21, 3) := by decide +kernel
theorem dX10_takeArticle_28 : decode cX10_takeArticle 28 = .ok (.iconst 1, 1) := by decide +kernel
theorem dX10_takeArticle_29 : decode cX10_takeArticle 29 = .ok (.iadd, 1) := by decide +kernel
theorem dX10_takeArticle_30 : decode cX10_takeArticle 30 = .ok (.putfield 21, 3) := by decide +kernel
theorem dX10_takeArticle_33 : decode cX10_takeArticle 33 = .ok (.iload_n 3, 1) := by decide +kernel
theorem dX10_takeArticle_34 : decode cX10_takeArticle 34 = .ok (.ireturn, 1) := by decide +kernel
theorem dX10_dropArticle_0 : decode cX10_dropArticle 0 = .ok (.aload_n 0, 1) := by decide +kernel
theorem dX10_dropArticle_1 : decode cX10_dropArticle 1 = .ok (.iload_n 1, 1) := by decide +kernel
theorem dX10_dropArticle_2 : decode cX10_dropArticle 2 = .ok (.invokevirtual 63, 3) := by decide +kernel
theorem dX10_dropArticle_5 : decode cX10_dropArticle 5 = .ok (.istore_n 2, 1) := by decide +kernel
theorem dX10_dropArticle_6 : decode cX10_dropArticle 6 = .ok (.iload_n 2, 1) := by decide +kernel
theorem dX10_dropArticle_7 : decode cX10_dropArticle 7 = .ok (.ifCond .lt 14, 3) := by decide +kernel
theorem dX10_dropArticle_10 : decode cX10_dropArticle 10 = .ok (.iload_n 2, 1) := by decide +kernel
theorem dX10_dropArticle_11 : decode cX10_dropArticle 11 = .ok (.aload_n 0, 1) := by decide +kernel
theorem dX10_dropArticle_12 : decode cX10_dropArticle 12 = .ok (.getfield 12, 3) := by decide +kernel
theorem dX10_dropArticle_15 : decode cX10_dropArticle 15 = .ok (.invokevirtual 44, 3) := by decide +kernel
theorem dX10_dropArticle_18 : decode cX10_dropArticle 18 = .ok (.if_icmp .lt 5, 3) := by decide +kernel
theorem dX10_dropArticle_21 : decode cX10_dropArticle 21 = .ok (.iconst 0, 1) := by decide +kernel
theorem dX10_dropArticle_22 : decode cX10_dropArticle 22 = .ok (.ireturn, 1) := by decide +kernel
theorem dX10_dropArticle_23 : decode cX10_dropArticle 23 = .ok (.aload_n 0, 1) := by decide +kernel
theorem dX10_dropArticle_24 : decode cX10_dropArticle 24 = .ok (.getfield 12, 3) := by decide +kernel
theorem dX10_dropArticle_27 : decode cX10_dropArticle 27 = .ok (.iload_n 2, 1) := by decide +kernel
theorem dX10_dropArticle_28 : decode cX10_dropArticle 28 = .ok (.invokevirtual 94, 3) := by decide +kernel
theorem dX10_dropArticle_31 : decode cX10_dropArticle 31 = .ok (.pop, 1) := by decide +kernel
theorem dX10_dropArticle_32 : decode cX10_dropArticle 32 = .ok (.iconst 1, 1) := by decide +kernel
theorem dX10_dropArticle_33 : decode cX10_dropArticle 33 = .ok (.ireturn, 1) := by decide +kernel
theorem dX10_replaceWord_0 : decode cX10_replaceWord 0 = .ok (.aload_n 0, 1) := by decide +kernel
theorem dX10_replaceWord_1 : decode cX10_replaceWord 1 = .ok (.iload_n 1, 1) := by decide +kernel
theorem dX10_replaceWord_2 : decode cX10_replaceWord 2 = .ok (.invokevirtual 63, 3) := by decide +kernel
theorem dX10_replaceWord_5 : decode cX10_replaceWord 5 = .ok (.istore 4, 2) := by decide +kernel
theorem dX10_replaceWord_7 : decode cX10_replaceWord 7 = .ok (.iload 4, 2) := by decide +kernel
theorem dX10_replaceWord_9 : decode cX10_replaceWord 9 = .ok (.ifCond .lt 15, 3) := by decide +kernel
theorem dX10_replaceWord_12 : decode cX10_replaceWord 12 = .ok (.iload 4, 2) := by decide +kernel
theorem dX10_replaceWord_14 : decode cX10_replaceWord 14 = .ok (.aload_n 0, 1) := by decide +kernel
theorem dX10_replaceWord_15 : decode cX10_replaceWord 15 = .ok (.getfield 12, 3) := by decide +kernel
theorem dX10_replaceWord_18 : decode cX10_replaceWord 18 = .ok (.invokevirtual 44, 3) := by decide +kernel
theorem dX10_replaceWord_21 : decode cX10_replaceWord 21 = .ok (.if_icmp .lt 4, 3) := by decide +kernel
theorem dX10_replaceWord_24 : decode cX10_replaceWord 24 = .ok (.return_, 1) := by decide +kernel
theorem dX10_replaceWord_25 : decode cX10_replaceWord 25 = .ok (.aload_n 0, 1) := by decide +kernel
theorem dX10_replaceWord_26 : decode cX10_replaceWord 26 = .ok (.getfield 12, 3) := by decide +kernel
theorem dX10_replaceWord_29 : decode cX10_replaceWord 29 = .ok (.iload 4, 2) := by decide +kernel
theorem dX10_replaceWord_31 : decode cX10_replaceWord 31 = .ok (.aload_n 0, 1) := by decide +kernel
theorem dX10_replaceWord_32 : decode cX10_replaceWord 32 = .ok (.getfield 12, 3) := by decide +kernel
theorem dX10_replaceWord_35 : decode cX10_replaceWord 35 = .ok (.iload 4, 2) := by decide +kernel
theorem dX10_replaceWord_37 : decode cX10_replaceWord 37 = .ok (.invokevirtual 48, 3) := by decide +kernel
theorem dX10_replaceWord_40 : decode cX10_replaceWord 40 = .ok (.checkcast 52, 3) := by decide +kernel
theorem dX10_replaceWord_43 : decode cX10_replaceWord 43 = .ok (.iload_n 2, 1) := by decide +kernel
theorem dX10_replaceWord_44 : decode cX10_replaceWord 44 = .ok (.aload_n 3, 1) := by decide +kernel
theorem dX10_replaceWord_45 : decode cX10_replaceWord 45 = .ok (.invokevirtual 97, 3) := by decide +kernel
theorem dX10_replaceWord_48 : decode cX10_replaceWord 48 = .ok (.invokevirtual 101, 3) := by decide +kernel
theorem dX10_replaceWord_51 : decode cX10_replaceWord 51 = .ok (.pop, 1) := by decide +kernel
theorem dX10_replaceWord_52 : decode cX10_replaceWord 52 = .ok (.aload_n 0, 1) := by decide +kernel
theorem dX10_replaceWord_53 : decode cX10_replaceWord 53 = .ok (.iload_n 1, 1) := by decide +kernel
theorem dX10_replaceWord_54 : decode cX10_replaceWord 54 = .ok (.invokevirtual 105, 3) := by decide +kernel
theorem dX10_replaceWord_57 : decode cX10_replaceWord 57 = .ok (.ifCond .eq 13, 3) := by decide +kernel
theorem dX10_replaceWord_60 : decode cX10_replaceWord 60 = .ok (.aload_n 0, 1) := by decide +kernel
theorem dX10_replaceWord_61 : decode cX10_replaceWord 61 = .ok (.dup, 1) := by decide +kernel
theorem dX10_replaceWord_62 : decode cX10_replaceWord 62 = .ok (.getfield 40, 3) := by decide +kernel
theorem dX10_replaceWord_65 : decode cX10_replaceWord 65 = .ok (.iconst 1, 1) := by decide +kernel
theorem dX10_replaceWord_66 : decode cX10_replaceWord 66 = .ok (.iadd, 1) := by decide +kernel
theorem dX10_replaceWord_67 : decode cX10_replaceWord 67 = .ok (.putfield 40, 3) := by decide +kernel
theorem dX10_replaceWord_70 : decode cX10_replaceWord 70 = .ok (.return_, 1) := by decide +kernel
theorem dX10_takeWidth_0 : decode cX10_takeWidth 0 = .ok (.iload_n 1, 1) := by decide +kernel
theorem dX10_takeWidth_1 : decode cX10_takeWidth 1 = .ok (.iconst 4, 1) := by decide +kernel
theorem dX10_takeWidth_2 : decode cX10_takeWidth 2 = .ok (.if_icmp .lt 9, 3) := by decide +kernel
theorem dX10_takeWidth_5 : decode cX10_takeWidth 5 = .ok (.iload_n 1, 1) := by decide +kernel
theorem dX10_takeWidth_6 : decode cX10_takeWidth 6 = .ok (.bipush 20, 2) := by decide +kernel
theorem dX10_takeWidth_8 : decode cX10_takeWidth 8 = .ok (.if_icmp .le 5, 3) := by decide +kernel
theorem dX10_takeWidth_11 : decode cX10_takeWidth 11 = .ok (.iconst 0, 1) := by decide +kernel
theorem dX10_takeWidth_12 : decode cX10_takeWidth 12 = .ok (.ireturn, 1) := by decide +kernel
theorem dX10_takeWidth_13 : decode cX10_takeWidth 13 = .ok (.aload_n 0, 1) := by decide +kernel
theorem dX10_takeWidth_14 : decode cX10_takeWidth 14 = .ok (.iload_n 1, 1) := by decide +kernel
theorem dX10_takeWidth_15 : decode cX10_takeWidth 15 = .ok (.putfield 28, 3) := by decide +kernel
theorem dX10_takeWidth_18 : decode cX10_takeWidth 18 = .ok (.iconst 1, 1) := by decide +kernel
theorem dX10_takeWidth_19 : decode cX10_takeWidth 19 = .ok (.ireturn, 1) := by decide +kernel
theorem dX10_takePage_0 : decode cX10_takePage 0 = .ok (.iload_n 1, 1) := by decide +kernel
theorem dX10_takePage_1 : decode cX10_takePage 1 = .ok (.iconst 1, 1) := by decide +kernel
theorem dX10_takePage_2 : decode cX10_takePage 2 = .ok (.if_icmp .lt 19, 3) := by decide +kernel
theorem dX10_takePage_5 : decode cX10_takePage 5 = .ok (.iload_n 1, 1) := by decide +kernel
theorem dX10_takePage_6 : decode cX10_takePage 6 = .ok (.iconst 4, 1) := by decide +kernel
theorem dX10_takePage_7 : decode cX10_takePage 7 = .ok (.if_icmp .gt 14, 3) := by decide +kernel
theorem dX10_takePage_10 : decode cX10_takePage 10 = .ok (.iload_n 2, 1) := by decide +kernel
theorem dX10_takePage_11 : decode cX10_takePage 11 = .ok (.iconst 1, 1) := by decide +kernel
theorem dX10_takePage_12 : decode cX10_takePage 12 = .ok (.if_icmp .lt 9, 3) := by decide +kernel
theorem dX10_takePage_15 : decode cX10_takePage 15 = .ok (.iload_n 2, 1) := by decide +kernel
theorem dX10_takePage_16 : decode cX10_takePage 16 = .ok (.bipush 20, 2) := by decide +kernel
theorem dX10_takePage_18 : decode cX10_takePage 18 = .ok (.if_icmp .le 5, 3) := by decide +kernel
theorem dX10_takePage_21 : decode cX10_takePage 21 = .ok (.iconst 0, 1) := by decide +kernel
theorem dX10_takePage_22 : decode cX10_takePage 22 = .ok (.ireturn, 1) := by decide +kernel
theorem dX10_takePage_23 : decode cX10_takePage 23 = .ok (.aload_n 0, 1) := by decide +kernel
theorem dX10_takePage_24 : decode cX10_takePage 24 = .ok (.iload_n 1, 1) := by decide +kernel
theorem dX10_takePage_25 : decode cX10_takePage 25 = .ok (.putfield 31, 3) := by decide +kernel
theorem dX10_takePage_28 : decode cX10_takePage 28 = .ok (.aload_n 0, 1) := by decide +kernel
theorem dX10_takePage_29 : decode cX10_takePage 29 = .ok (.iload_n 2, 1) := by decide +kernel
theorem dX10_takePage_30 : decode cX10_takePage 30 = .ok (.putfield 34, 3) := by decide +kernel
theorem dX10_takePage_33 : decode cX10_takePage 33 = .ok (.iconst 1, 1) := by decide +kernel
theorem dX10_takePage_34 : decode cX10_takePage 34 = .ok (.ireturn, 1) := by decide +kernel
theorem dX10_printIssue_0 : decode cX10_printIssue 0 = .ok (.aload_n 0, 1) := by decide +kernel
theorem dX10_printIssue_1 : decode cX10_printIssue 1 = .ok (.getfield 12, 3) := by decide +kernel
theorem dX10_printIssue_4 : decode cX10_printIssue 4 = .ok (.invokevirtual 109, 3) := by decide +kernel
theorem dX10_printIssue_7 : decode cX10_printIssue 7 = .ok (.ifCond .eq 5, 3) := by decide +kernel
theorem dX10_printIssue_10 : decode cX10_printIssue 10 = .ok (.iconst 0, 1) := by decide +kernel
theorem dX10_printIssue_11 : decode cX10_printIssue 11 = .ok (.ireturn, 1) := by decide +kernel
theorem dX10_printIssue_12 : decode cX10_printIssue 12 = .ok (.new 83, 3) := by decide +kernel
theorem dX10_printIssue_15 : decode cX10_printIssue 15 = .ok (.dup, 1) := by decide +kernel
theorem dX10_printIssue_16 : decode cX10_printIssue 16 = .ok (.aload_n 0, 1) := by decide +kernel
theorem dX10_printIssue_17 : decode cX10_printIssue 17 = .ok (.getfield 31, 3) := by decide +kernel
theorem dX10_printIssue_20 : decode cX10_printIssue 20 = .ok (.aload_n 0, 1) := by decide +kernel
theorem dX10_printIssue_21 : decode cX10_printIssue 21 = .ok (.getfield 34, 3) := by decide +kernel
theorem dX10_printIssue_24 : decode cX10_printIssue 24 = .ok (.invokespecial 112, 3) := by decide +kernel
theorem dX10_printIssue_27 : decode cX10_printIssue 27 = .ok (.astore_n 2, 1) := by decide +kernel
theorem dX10_printIssue_28 : decode cX10_printIssue 28 = .ok (.iconst 0, 1) := by decide +kernel
theorem dX10_printIssue_29 : decode cX10_printIssue 29 = .ok (.istore_n 3, 1) := by decide +kernel
theorem dX10_printIssue_30 : decode cX10_printIssue 30 = .ok (.iload_n 3, 1) := by decide +kernel
theorem dX10_printIssue_31 : decode cX10_printIssue 31 = .ok (.aload_n 0, 1) := by decide +kernel
theorem dX10_printIssue_32 : decode cX10_printIssue 32 = .ok (.getfield 12, 3) := by decide +kernel
theorem dX10_printIssue_35 : decode cX10_printIssue 35 = .ok (.invokevirtual 44, 3) := by decide +kernel
theorem dX10_printIssue_38 : decode cX10_printIssue 38 = .ok (.if_icmp .ge 47, 3) := by decide +kernel
theorem dX10_printIssue_41 : decode cX10_printIssue 41 = .ok (.aload_n 0, 1) := by decide +kernel
theorem dX10_printIssue_42 : decode cX10_printIssue 42 = .ok (.iload_n 3, 1) := by decide +kernel
theorem dX10_printIssue_43 : decode cX10_printIssue 43 = .ok (.invokevirtual 115, 3) := by decide +kernel
theorem dX10_printIssue_46 : decode cX10_printIssue 46 = .ok (.astore 4, 2) := by decide +kernel
theorem dX10_printIssue_48 : decode cX10_printIssue 48 = .ok (.aload 4, 2) := by decide +kernel
theorem dX10_printIssue_50 : decode cX10_printIssue 50 = .ok (.ifnull 29, 3) := by decide +kernel
theorem dX10_printIssue_53 : decode cX10_printIssue 53 = .ok (.aload_n 1, 1) := by decide +kernel
theorem dX10_printIssue_54 : decode cX10_printIssue 54 = .ok (.aload 4, 2) := by decide +kernel
theorem dX10_printIssue_56 : decode cX10_printIssue 56 = .ok (.aload_n 0, 1) := by decide +kernel
theorem dX10_printIssue_57 : decode cX10_printIssue 57 = .ok (.getfield 28, 3) := by decide +kernel
theorem dX10_printIssue_60 : decode cX10_printIssue 60 = .ok (.invokevirtual 119, 3) := by decide +kernel
theorem dX10_printIssue_63 : decode cX10_printIssue 63 = .ok (.ifCond .eq 16, 3) := by decide +kernel
theorem dX10_printIssue_66 : decode cX10_printIssue 66 = .ok (.aload_n 2, 1) := by decide +kernel
theorem dX10_printIssue_67 : decode cX10_printIssue 67 = .ok (.aload 4, 2) := by decide +kernel
theorem dX10_printIssue_69 : decode cX10_printIssue 69 = .ok (.getfield 60, 3) := by decide +kernel
theorem dX10_printIssue_72 : decode cX10_printIssue 72 = .ok (.aload_n 1, 1) := by decide +kernel
theorem dX10_printIssue_73 : decode cX10_printIssue 73 = .ok (.getfield 125, 3) := by decide +kernel
theorem dX10_printIssue_76 : decode cX10_printIssue 76 = .ok (.invokevirtual 128, 3) := by decide +kernel
theorem dX10_printIssue_79 : decode cX10_printIssue 79 = .ok (.iinc 3 1, 3) := by decide +kernel
theorem dX10_printIssue_82 : decode cX10_printIssue 82 = .ok (.goto (-52), 3) := by decide +kernel
theorem dX10_printIssue_85 : decode cX10_printIssue 85 = .ok (.aload_n 0, 1) := by decide +kernel
theorem dX10_printIssue_86 : decode cX10_printIssue 86 = .ok (.getfield 18, 3) := by decide +kernel
theorem dX10_printIssue_89 : decode cX10_printIssue 89 = .ok (.new 58, 3) := by decide +kernel
theorem dX10_printIssue_92 : decode cX10_printIssue 92 = .ok (.dup, 1) := by decide +kernel
theorem dX10_printIssue_93 : decode cX10_printIssue 93 = .ok (.aload_n 0, 1) := by decide +kernel
theorem dX10_printIssue_94 : decode cX10_printIssue 94 = .ok (.getfield 25, 3) := by decide +kernel
theorem dX10_printIssue_97 : decode cX10_printIssue 97 = .ok (.aload_n 2, 1) := by decide +kernel
theorem dX10_printIssue_98 : decode cX10_printIssue 98 = .ok (.fconst 1, 1) := by decide +kernel
theorem dX10_printIssue_99 : decode cX10_printIssue 99 = .ok (.invokespecial 131, 3) := by decide +kernel
theorem dX10_printIssue_102 : decode cX10_printIssue 102 = .ok (.invokevirtual 54, 3) := by decide +kernel
theorem dX10_printIssue_105 : decode cX10_printIssue 105 = .ok (.pop, 1) := by decide +kernel
theorem dX10_printIssue_106 : decode cX10_printIssue 106 = .ok (.aload_n 0, 1) := by decide +kernel
theorem dX10_printIssue_107 : decode cX10_printIssue 107 = .ok (.dup, 1) := by decide +kernel
theorem dX10_printIssue_108 : decode cX10_printIssue 108 = .ok (.getfield 25, 3) := by decide +kernel
theorem dX10_printIssue_111 : decode cX10_printIssue 111 = .ok (.iconst 1, 1) := by decide +kernel
theorem dX10_printIssue_112 : decode cX10_printIssue 112 = .ok (.iadd, 1) := by decide +kernel
theorem dX10_printIssue_113 : decode cX10_printIssue 113 = .ok (.putfield 25, 3) := by decide +kernel
theorem dX10_printIssue_116 : decode cX10_printIssue 116 = .ok (.aload_n 0, 1) := by decide +kernel
theorem dX10_printIssue_117 : decode cX10_printIssue 117 = .ok (.getfield 18, 3) := by decide +kernel
theorem dX10_printIssue_120 : decode cX10_printIssue 120 = .ok (.invokevirtual 44, 3) := by decide +kernel
theorem dX10_printIssue_123 : decode cX10_printIssue 123 = .ok (.iconst 4, 1) := by decide +kernel
theorem dX10_printIssue_124 : decode cX10_printIssue 124 = .ok (.if_icmp .le 12, 3) := by decide +kernel
theorem dX10_printIssue_127 : decode cX10_printIssue 127 = .ok (.aload_n 0, 1) := by decide +kernel
theorem dX10_printIssue_128 : decode cX10_printIssue 128 = .ok (.getfield 18, 3) := by decide +kernel
theorem dX10_printIssue_131 : decode cX10_printIssue 131 = .ok (.iconst 0, 1) := by decide +kernel
theorem dX10_printIssue_132 : decode cX10_printIssue 132 = .ok (.invokevirtual 94, 3) := by decide +kernel
theorem dX10_printIssue_135 : decode cX10_printIssue 135 = .ok (.pop, 1) := by decide +kernel
theorem dX10_printIssue_136 : decode cX10_printIssue 136 = .ok (.iconst 1, 1) := by decide +kernel
theorem dX10_printIssue_137 : decode cX10_printIssue 137 = .ok (.ireturn, 1) := by decide +kernel
theorem dX10_letDaysPass_0 : decode cX10_letDaysPass 0 = .ok (.iload_n 1, 1) := by decide +kernel
theorem dX10_letDaysPass_1 : decode cX10_letDaysPass 1 = .ok (.iconst 1, 1) := by decide +kernel
theorem dX10_letDaysPass_2 : decode cX10_letDaysPass 2 = .ok (.if_icmp .lt 9, 3) := by decide +kernel
theorem dX10_letDaysPass_5 : decode cX10_letDaysPass 5 = .ok (.iload_n 1, 1) := by decide +kernel
theorem dX10_letDaysPass_6 : decode cX10_letDaysPass 6 = .ok (.bipush 30, 2) := by decide +kernel
theorem dX10_letDaysPass_8 : decode cX10_letDaysPass 8 = .ok (.if_icmp .le 5, 3) := by decide +kernel
theorem dX10_letDaysPass_11 : decode cX10_letDaysPass 11 = .ok (.iconst 0, 1) := by decide +kernel
theorem dX10_letDaysPass_12 : decode cX10_letDaysPass 12 = .ok (.ireturn, 1) := by decide +kernel
theorem dX10_letDaysPass_13 : decode cX10_letDaysPass 13 = .ok (.iconst 0, 1) := by decide +kernel
theorem dX10_letDaysPass_14 : decode cX10_letDaysPass 14 = .ok (.istore_n 2, 1) := by decide +kernel
theorem dX10_letDaysPass_15 : decode cX10_letDaysPass 15 = .ok (.iload_n 2, 1) := by decide +kernel
theorem dX10_letDaysPass_16 : decode cX10_letDaysPass 16 = .ok (.aload_n 0, 1) := by decide +kernel
theorem dX10_letDaysPass_17 : decode cX10_letDaysPass 17 = .ok (.getfield 18, 3) := by decide +kernel
theorem dX10_letDaysPass_20 : decode cX10_letDaysPass 20 = .ok (.invokevirtual 44, 3) := by decide +kernel
theorem dX10_letDaysPass_23 : decode cX10_letDaysPass 23 = .ok (.if_icmp .ge 33, 3) := by decide +kernel
theorem dX10_letDaysPass_26 : decode cX10_letDaysPass 26 = .ok (.aload_n 0, 1) := by decide +kernel
theorem dX10_letDaysPass_27 : decode cX10_letDaysPass 27 = .ok (.getfield 18, 3) := by decide +kernel
theorem dX10_letDaysPass_30 : decode cX10_letDaysPass 30 = .ok (.iload_n 2, 1) := by decide +kernel
theorem dX10_letDaysPass_31 : decode cX10_letDaysPass 31 = .ok (.aload_n 0, 1) := by decide +kernel
theorem dX10_letDaysPass_32 : decode cX10_letDaysPass 32 = .ok (.getfield 18, 3) := by decide +kernel
theorem dX10_letDaysPass_35 : decode cX10_letDaysPass 35 = .ok (.iload_n 2, 1) := by decide +kernel
theorem dX10_letDaysPass_36 : decode cX10_letDaysPass 36 = .ok (.invokevirtual 48, 3) := by decide +kernel
theorem dX10_letDaysPass_39 : decode cX10_letDaysPass 39 = .ok (.checkcast 58, 3) := by decide +kernel
theorem dX10_letDaysPass_42 : decode cX10_letDaysPass 42 = .ok (.iload_n 1, 1) := by decide +kernel
theorem dX10_letDaysPass_43 : decode cX10_letDaysPass 43 = .ok (.invokevirtual 134, 3) := by decide +kernel
theorem dX10_letDaysPass_46 : decode cX10_letDaysPass 46 = .ok (.invokevirtual 101, 3) := by decide +kernel
theorem dX10_letDaysPass_49 : decode cX10_letDaysPass 49 = .ok (.pop, 1) := by decide +kernel
theorem dX10_letDaysPass_50 : decode cX10_letDaysPass 50 = .ok (.iinc 2 1, 3) := by decide +kernel
theorem dX10_letDaysPass_53 : decode cX10_letDaysPass 53 = .ok (.goto (-38), 3) := by decide +kernel
theorem dX10_letDaysPass_56 : decode cX10_letDaysPass 56 = .ok (.aload_n 0, 1) := by decide +kernel
theorem dX10_letDaysPass_57 : decode cX10_letDaysPass 57 = .ok (.dup, 1) := by decide +kernel
theorem dX10_letDaysPass_58 : decode cX10_letDaysPass 58 = .ok (.getfield 37, 3) := by decide +kernel
theorem dX10_letDaysPass_61 : decode cX10_letDaysPass 61 = .ok (.iload_n 1, 1) := by decide +kernel
theorem dX10_letDaysPass_62 : decode cX10_letDaysPass 62 = .ok (.iadd, 1) := by decide +kernel
theorem dX10_letDaysPass_63 : decode cX10_letDaysPass 63 = .ok (.putfield 37, 3) := by decide +kernel
theorem dX10_letDaysPass_66 : decode cX10_letDaysPass 66 = .ok (.iconst 1, 1) := by decide +kernel
theorem dX10_letDaysPass_67 : decode cX10_letDaysPass 67 = .ok (.ireturn, 1) := by decide +kernel
theorem dX11_init_0 : decode cX11_init 0 = .ok (.aload_n 0, 1) := by decide +kernel
theorem dX11_init_1 : decode cX11_init 1 = .ok (.invokespecial 3, 3) := by decide +kernel
theorem dX11_init_4 : decode cX11_init 4 = .ok (.aload_n 0, 1) := by decide +kernel
theorem dX11_init_5 : decode cX11_init 5 = .ok (.aload_n 1, 1) := by decide +kernel
theorem dX11_init_6 : decode cX11_init 6 = .ok (.putfield 9, 3) := by decide +kernel
theorem dX11_init_9 : decode cX11_init 9 = .ok (.aload_n 0, 1) := by decide +kernel
theorem dX11_init_10 : decode cX11_init 10 = .ok (.aload_n 1, 1) := by decide +kernel
theorem dX11_init_11 : decode cX11_init 11 = .ok (.arraylength, 1) := by decide +kernel
theorem dX11_init_12 : decode cX11_init 12 = .ok (.newarray .boolean, 2) := by decide +kernel
theorem dX11_init_14 : decode cX11_init 14 = .ok (.putfield 15, 3) := by decide +kernel
theorem dX11_init_17 : decode cX11_init 17 = .ok (.iconst 2, 1) := by decide +kernel
theorem dX11_init_18 : decode cX11_init 18 = .ok (.istore_n 2, 1) := by decide +kernel
theorem dX11_init_19 : decode cX11_init 19 = .ok (.iload_n 2, 1) := by decide +kernel
theorem dX11_init_20 : decode cX11_init 20 = .ok (.aload_n 1, 1) := by decide +kernel
theorem dX11_init_21 : decode cX11_init 21 = .ok (.arraylength, 1) := by decide +kernel
theorem dX11_init_22 : decode cX11_init 22 = .ok (.iconst 1, 1) := by decide +kernel
theorem dX11_init_23 : decode cX11_init 23 = .ok (.isub, 1) := by decide +kernel
theorem dX11_init_24 : decode cX11_init 24 = .ok (.if_icmp .ge 40, 3) := by decide +kernel
theorem dX11_init_27 : decode cX11_init 27 = .ok (.aload_n 0, 1) := by decide +kernel
theorem dX11_init_28 : decode cX11_init 28 = .ok (.getfield 15, 3) := by decide +kernel
theorem dX11_init_31 : decode cX11_init 31 = .ok (.iload_n 2, 1) := by decide +kernel
theorem dX11_init_32 : decode cX11_init 32 = .ok (.aload_n 1, 1) := by decide +kernel
theorem dX11_init_33 : decode cX11_init 33 = .ok (.iload_n 2, 1) := by decide +kernel
theorem dX11_init_34 : decode cX11_init 34 = .ok (.iconst 1, 1) := by decide +kernel
theorem dX11_init_35 : decode cX11_init 35 = .ok (.isub, 1) := by decide +kernel
theorem dX11_init_36 : decode cX11_init 36 = .ok (.caload, 1) := by decide +kernel
theorem dX11_init_37 : decode cX11_init 37 = .ok (.invokestatic 19, 3) := by decide +kernel
theorem dX11_init_40 : decode cX11_init 40 = .ok (.ifCond .eq 16, 3) := by decide +kernel
theorem dX11_init_43 : decode cX11_init 43 = .ok (.aload_n 1, 1) := by decide +kernel
theorem dX11_init_44 : decode cX11_init 44 = .ok (.iload_n 2, 1) := by decide +kernel
theorem dX11_init_45 : decode cX11_init 45 = .ok (.caload, 1) := by decide +kernel
theorem dX11_init_46 : decode cX11_init 46 = .ok (.invokestatic 19, 3) := by decide +kernel
theorem dX11_init_49 : decode cX11_init 49 = .ok (.ifCond .ne 7, 3) := by decide +kernel
theorem dX11_init_52 : decode cX11_init 52 = .ok (.iconst 1, 1) := by decide +kernel
theorem dX11_init_53 : decode cX11_init 53 = .ok (.goto 4, 3) := by decide +kernel
theorem dX11_init_56 : decode cX11_init 56 = .ok (.iconst 0, 1) := by decide +kernel
theorem dX11_init_57 : decode cX11_init 57 = .ok (.bastore, 1) := by decide +kernel
theorem dX11_init_58 : decode cX11_init 58 = .ok (.iinc 2 1, 3) := by decide +kernel
theorem dX11_init_61 : decode cX11_init 61 = .ok (.goto (-42), 3) := by decide +kernel
theorem dX11_init_64 : decode cX11_init 64 = .ok (.return_, 1) := by decide +kernel
theorem dX11_isVowel_0 : decode cX11_isVowel 0 = .ok (.iload_n 0, 1) := by decide +kernel
theorem dX11_isVowel_1 : decode cX11_isVowel 1 = .ok (.bipush 97, 2) := by decide +kernel
theorem dX11_isVowel_3 : decode cX11_isVowel 3 = .ok (.if_icmp .eq 27, 3) := by decide +kernel
theorem dX11_isVowel_6 : decode cX11_isVowel 6 = .ok (.iload_n 0, 1) := by decide +kernel
theorem dX11_isVowel_7 : decode cX11_isVowel 7 = .ok (.bipush 101, 2) := by decide +kernel
theorem dX11_isVowel_9 : decode cX11_isVowel 9 = .ok (.if_icmp .eq 21, 3) := by decide +kernel
theorem dX11_isVowel_12 : decode cX11_isVowel 12 = .ok (.iload_n 0, 1) := by decide +kernel
theorem dX11_isVowel_13 : decode cX11_isVowel 13 = .ok (.bipush 105, 2) := by decide +kernel
theorem dX11_isVowel_15 : decode cX11_isVowel 15 = .ok (.if_icmp .eq 15, 3) := by decide +kernel
theorem dX11_isVowel_18 : decode cX11_isVowel 18 = .ok (.iload_n 0, 1) := by decide +kernel
theorem dX11_isVowel_19 : decode cX11_isVowel 19 = .ok (.bipush 111, 2) := by decide +kernel
theorem dX11_isVowel_21 : decode cX11_isVowel 21 = .ok (.if_icmp .eq 9, 3) := by decide +kernel
theorem dX11_isVowel_24 : decode cX11_isVowel 24 = .ok (.iload_n 0, 1) := by decide +kernel
theorem dX11_isVowel_25 : decode cX11_isVowel 25 = .ok (.bipush 117, 2) := by decide +kernel
theorem dX11_isVowel_27 : decode cX11_isVowel 27 = .ok (.if_icmp .ne 7, 3) := by decide +kernel
theorem dX11_isVowel_30 : decode cX11_isVowel 30 = .ok (.iconst 1, 1) := by decide +kernel
theorem dX11_isVowel_31 : decode cX11_isVowel 31 = .ok (.goto 4, 3) := by decide +kernel
theorem dX11_isVowel_34 : decode cX11_isVowel 34 = .ok (.iconst 0, 1) := by decide +kernel
theorem dX11_isVowel_35 : decode cX11_isVowel 35 = .ok (.ireturn, 1) := by decide +kernel
theorem dX11_letterCount_0 : decode cX11_letterCount 0 = .ok (.aload_n 0, 1) := by decide +kernel
theorem dX11_letterCount_1 : decode cX11_letterCount 1 = .ok (.getfield 9, 3) := by decide +kernel
theorem dX11_letterCount_4 : decode cX11_letterCount 4 = .ok (.arraylength, 1) := by decide +kernel
theorem dX11_letterCount_5 : decode cX11_letterCount 5 = .ok (.ireturn, 1) := by decide +kernel
theorem dX11_hasCutAt_0 : decode cX11_hasCutAt 0 = .ok (.iload_n 1, 1) := by decide +kernel
theorem dX11_hasCutAt_1 : decode cX11_hasCutAt 1 = .ok (.ifCond .lt 25, 3) := by decide +kernel
theorem dX11_hasCutAt_4 : decode cX11_hasCutAt 4 = .ok (.iload_n 1, 1) := by decide +kernel
theorem dX11_hasCutAt_5 : decode cX11_hasCutAt 5 = .ok (.aload_n 0, 1) := by decide +kernel
theorem dX11_hasCutAt_6 : decode cX11_hasCutAt 6 = .ok (.getfield 15, 3) := by decide +kernel
theorem dX11_hasCutAt_9 : decode cX11_hasCutAt 9 = .ok (.arraylength, 1) := by decide +kernel
theorem dX11_hasCutAt_10 : decode cX11_hasCutAt 10 = .ok (.if_icmp .ge 16, 3) := by decide +kernel
theorem dX11_hasCutAt_13 : decode cX11_hasCutAt 13 = .ok (.aload_n 0, 1) := by decide +kernel
theorem dX11_hasCutAt_14 : decode cX11_hasCutAt 14 = .ok (.getfield 15, 3) := by decide +kernel
theorem dX11_hasCutAt_17 : decode cX11_hasCutAt 17 = .ok (.iload_n 1, 1) := by decide +kernel
theorem dX11_hasCutAt_18 : decode cX11_hasCutAt 18 = .ok (.baload, 1) := by decide +kernel
theorem dX11_hasCutAt_19 : decode cX11_hasCutAt 19 = .ok (.ifCond .eq 7, 3) := by decide +kernel
theorem dX11_hasCutAt_22 : decode cX11_hasCutAt 22 = .ok (.iconst 1, 1) := by decide +kernel
theorem dX11_hasCutAt_23 : decode cX11_hasCutAt 23 = .ok (.goto 4, 3) := by decide +kernel
theorem dX11_hasCutAt_26 : decode cX11_hasCutAt 26 = .ok (.iconst 0, 1) := by decide +kernel
theorem dX11_hasCutAt_27 : decode cX11_hasCutAt 27 = .ok (.ireturn, 1) := by decide +kernel
theorem dX11_countCuts_0 : decode cX11_countCuts 0 = .ok (.iconst 0, 1) := by decide +kernel
theorem dX11_countCuts_1 : decode cX11_countCuts 1 = .ok (.istore_n 1, 1) := by decide +kernel
theorem dX11_countCuts_2 : decode cX11_countCuts 2 = .ok (.aload_n 0, 1) := by decide +kernel
theorem dX11_countCuts_3 : decode cX11_countCuts 3 = .ok (.getfield 15, 3) := by decide +kernel
theorem dX11_countCuts_6 : decode cX11_countCuts 6 = .ok (.astore_n 2, 1) := by decide +kernel
theorem dX11_countCuts_7 : decode cX11_countCuts 7 = .ok (.aload_n 2, 1) := by decide +kernel
theorem dX11_countCuts_8 : decode cX11_countCuts 8 = .ok (.arraylength, 1) := by decide +kernel
theorem dX11_countCuts_9 : decode cX11_countCuts 9 = .ok (.istore_n 3, 1) := by decide +kernel
theorem dX11_countCuts_10 : decode cX11_countCuts 10 = .ok (.iconst 0, 1) := by decide +kernel
theorem dX11_countCuts_11 : decode cX11_countCuts 11 = .ok (.istore 4, 2) := by decide +kernel
theorem dX11_countCuts_13 : decode cX11_countCuts 13 = .ok (.iload 4, 2) := by decide +kernel
theorem dX11_countCuts_15 : decode cX11_countCuts 15 = .ok (.iload_n 3, 1) := by decide +kernel
theorem dX11_countCuts_16 : decode cX11_countCuts 16 = .ok (.if_icmp .ge 23, 3) := by decide +kernel
theorem dX11_countCuts_19 : decode cX11_countCuts 19 = .ok (.aload_n 2, 1) := by decide +kernel
theorem dX11_countCuts_20 : decode cX11_countCuts 20 = .ok (.iload 4, 2) := by decide +kernel
theorem dX11_countCuts_22 : decode cX11_countCuts 22 = .ok (.baload, 1) := by decide +kernel
theorem dX11_countCuts_23 : decode cX11_countCuts 23 = .ok (.istore 5, 2) := by decide +kernel
theorem dX11_countCuts_25 : decode cX11_countCuts 25 = .ok (.iload 5, 2) := by decide +kernel
theorem dX11_countCuts_27 : decode cX11_countCuts 27 = .ok (.ifCond .eq 6, 3) := by decide +kernel
theorem dX11_countCuts_30 : decode cX11_countCuts 30 = .ok (.iinc 1 1, 3) := by decide +kernel
theorem dX11_countCuts_33 : decode cX11_countCuts 33 = .ok (.iinc 4 1, 3) := by decide +kernel
theorem dX11_countCuts_36 : decode cX11_countCuts 36 = .ok (.goto (-23), 3) := by decide +kernel
theorem dX11_countCuts_39 : decode cX11_countCuts 39 = .ok (.iload_n 1, 1) := by decide +kernel
theorem dX11_countCuts_40 : decode cX11_countCuts 40 = .ok (.ireturn, 1) := by decide +kernel
theorem dX11_lastCut_0 : decode cX11_lastCut 0 = .ok (.iload_n 1, 1) := by decide +kernel
theorem dX11_lastCut_1 : decode cX11_lastCut 1 = .ok (.iload_n 2, 1) := by decide +kernel
theorem dX11_lastCut_2 : decode cX11_lastCut 2 = .ok (.iadd, 1) := by decide +kernel
theorem dX11_lastCut_3 : decode cX11_lastCut 3 = .ok (.istore_n 3, 1) := by decide +kernel
theorem dX11_lastCut_4 : decode cX11_lastCut 4 = .ok (.iload_n 3, 1) := by decide +kernel
theorem dX11_lastCut_5 : decode cX11_lastCut 5 = .ok (.iload_n 1, 1) := by decide +kernel
theorem dX11_lastCut_6 : decode cX11_lastCut 6 = .ok (.if_icmp .le 19, 3) := by decide +kernel
theorem dX11_lastCut_9 : decode cX11_lastCut 9 = .ok (.aload_n 0, 1) := by decide +kernel
theorem dX11_lastCut_10 : decode cX11_lastCut 10 = .ok (.iload_n 3, 1) := by decide +kernel
theorem dX11_lastCut_11 : decode cX11_lastCut 11 = .ok (.invokevirtual 23, 3) := by decide +kernel
theorem dX11_lastCut_14 : decode cX11_lastCut 14 = .ok (.ifCond .eq 5, 3) := by decide +kernel
theorem dX11_lastCut_17 : decode cX11_lastCut 17 = .ok (.iload_n 3, 1) := by decide +kernel
theorem dX11_lastCut_18 : decode cX11_lastCut 18 = .ok (.ireturn, 1) := by decide +kernel
theorem dX11_lastCut_19 : decode cX11_lastCut 19 = .ok (.iinc 3 (-1), 3) := by decide +kernel
theorem dX11_lastCut_22 : decode cX11_lastCut 22 = .ok (.goto (-18), 3) := by decide +kernel
theorem dX11_lastCut_25 : decode cX11_lastCut 25 = .ok (.iconst (-1), 1) := by decide +kernel
theorem dX11_lastCut_26 : decode cX11_lastCut 26 = .ok (.ireturn, 1) := by decide +kernel
theorem dX11_writeTo_0 : decode cX11_writeTo 0 = .ok (.aload_n 0, 1) := by decide +kernel
theorem dX11_writeTo_1 : decode cX11_writeTo 1 = .ok (.getfield 9, 3) := by decide +kernel
theorem dX11_writeTo_4 : decode cX11_writeTo 4 = .ok (.astore_n 2, 1) := by decide +kernel
theorem dX11_writeTo_5 : decode cX11_writeTo 5 = .ok (.aload_n 2, 1) := by decide +kernel
theorem dX11_writeTo_6 : decode cX11_writeTo 6 = .ok (.arraylength, 1) := by decide +kernel
theorem dX11_writeTo_7 : decode cX11_writeTo 7 = .ok (.istore_n 3, 1) := by decide +kernel
theorem dX11_writeTo_8 : decode cX11_writeTo 8 = .ok (.iconst 0, 1) := by decide +kernel
theorem dX11_writeTo_9 : decode cX11_writeTo 9 = .ok (.istore 4, 2) := by decide +kernel
theorem dX11_writeTo_11 : decode cX11_writeTo 11 = .ok (.iload 4, 2) := by decide +kernel
theorem dX11_writeTo_13 : decode cX11_writeTo 13 = .ok (.iload_n 3, 1) := by decide +kernel
theorem dX11_writeTo_14 : decode cX11_writeTo 14 = .ok (.if_icmp .ge 22, 3) := by decide +kernel
theorem dX11_writeTo_17 : decode cX11_writeTo 17 = .ok (.aload_n 2, 1) := by decide +kernel
theorem dX11_writeTo_18 : decode cX11_writeTo 18 = .ok (.iload 4, 2) := by decide +kernel
theorem dX11_writeTo_20 : decode cX11_writeTo 20 = .ok (.caload, 1) := by decide +kernel
theorem dX11_writeTo_21 : decode cX11_writeTo 21 = .ok (.istore 5, 2) := by decide +kernel
theorem dX11_writeTo_23 : decode cX11_writeTo 23 = .ok (.aload_n 1, 1) := by decide +kernel
theorem dX11_writeTo_24 : decode cX11_writeTo 24 = .ok (.iload 5, 2) := by decide +kernel
theorem dX11_writeTo_26 : decode cX11_writeTo 26 = .ok (.invokevirtual 27, 3) := by decide +kernel
theorem dX11_writeTo_29 : decode cX11_writeTo 29 = .ok (.pop, 1) := by decide +kernel
theorem dX11_writeTo_30 : decode cX11_writeTo 30 = .ok (.iinc 4 1, 3) := by decide +kernel
theorem dX11_writeTo_33 : decode cX11_writeTo 33 = .ok (.goto (-22), 3) := by decide +kernel
theorem dX11_writeTo_36 : decode cX11_writeTo 36 = .ok (.return_, 1) := by decide +kernel
theorem dX12_init_0 : decode cX12_init 0 = .ok (.aload_n 0, 1) := by decide +kernel
theorem dX12_init_1 : decode cX12_init 1 = .ok (.invokespecial 1, 3) := by decide +kernel
theorem dX12_init_4 : decode cX12_init 4 = .ok (.aload_n 0, 1) := by decide +kernel
theorem dX12_init_5 : decode cX12_init 5 = .ok (.new 7, 3) := by decide +kernel
theorem dX12_init_8 : decode cX12_init 8 = .ok (.dup, 1) := by decide +kernel
theorem dX12_init_9 : decode cX12_init 9 = .ok (.bipush 60, 2) := by decide +kernel
theorem dX12_init_11 : decode cX12_init 11 = .ok (.invokespecial 11, 3) := by decide +kernel
theorem dX12_init_14 : decode cX12_init 14 = .ok (.putfield 14, 3) := by decide +kernel
theorem dX12_init_17 : decode cX12_init 17 = .ok (.aload_n 0, 1) := by decide +kernel
theorem dX12_init_18 : decode cX12_init 18 = .ok (.new 7, 3) := by decide +kernel
theorem dX12_init_21 : decode cX12_init 21 = .ok (.dup, 1) := by decide +kernel
theorem dX12_init_22 : decode cX12_init 22 = .ok (.bipush 60, 2) := by decide +kernel
theorem dX12_init_24 : decode cX12_init 24 = .ok (.invokespecial 11, 3) := by decide +kernel
theorem dX12_init_27 : decode cX12_init 27 = .ok (.putfield 18, 3) := by decide +kernel
theorem dX12_init_30 : decode cX12_init 30 = .ok (.aload_n 0, 1) := by decide +kernel
theorem dX12_init_31 : decode cX12_init 31 = .ok (.new 21, 3) := by decide +kernel
theorem dX12_init_34 : decode cX12_init 34 = .ok (.dup, 1) := by decide +kernel
theorem dX12_init_35 : decode cX12_init 35 = .ok (.invokespecial 23, 3) := by decide +kernel
theorem dX12_init_38 : decode cX12_init 38 = .ok (.putfield 24, 3) := by decide +kernel
theorem dX12_init_41 : decode cX12_init 41 = .ok (.aload_n 0, 1) := by decide +kernel
theorem dX12_init_42 : decode cX12_init 42 = .ok (.new 28, 3) := by decide +kernel
theorem dX12_init_45 : decode cX12_init 45 = .ok (.dup, 1) := by decide +kernel
theorem dX12_init_46 : decode cX12_init 46 = .ok (.invokespecial 30, 3) := by decide +kernel
theorem dX12_init_49 : decode cX12_init 49 = .ok (.putfield 31, 3) := by decide +kernel
theorem dX12_init_52 : decode cX12_init 52 = .ok (.aload_n 0, 1) := by decide +kernel
theorem dX12_init_53 : decode cX12_init 53 = .ok (.new 35, 3) := by decide +kernel
theorem dX12_init_56 : decode cX12_init 56 = .ok (.dup, 1) := by decide +kernel
theorem dX12_init_57 : decode cX12_init 57 = .ok (.invokespecial 37, 3) := by decide +kernel
theorem dX12_init_60 : decode cX12_init 60 = .ok (.putfield 38, 3) := by decide +kernel
theorem dX12_init_63 : decode cX12_init 63 = .ok (.aload_n 0, 1) := by decide +kernel
theorem dX12_init_64 : decode cX12_init 64 = .ok (.new 42, 3) := by decide +kernel
theorem dX12_init_67 : decode cX12_init 67 = .ok (.dup, 1) := by decide +kernel
theorem dX12_init_68 : decode cX12_init 68 = .ok (.invokespecial 44, 3) := by decide +kernel
theorem dX12_init_71 : decode cX12_init 71 = .ok (.putfield 45, 3) := by decide +kernel
theorem dX12_init_74 : decode cX12_init 74 = .ok (.aload_n 0, 1) := by decide +kernel
theorem dX12_init_75 : decode cX12_init 75 = .ok (.new 49, 3) := by decide +kernel
theorem dX12_init_78 : decode cX12_init 78 = .ok (.dup, 1) := by decide +kernel
theorem dX12_init_79 : decode cX12_init 79 = .ok (.invokespecial 51, 3) := by decide +kernel
theorem dX12_init_82 : decode cX12_init 82 = .ok (.putfield 52, 3) := by decide +kernel
theorem dX12_init_85 : decode cX12_init 85 = .ok (.aload_n 0, 1) := by decide +kernel
theorem dX12_init_86 : decode cX12_init 86 = .ok (.new 56, 3) := by decide +kernel
theorem dX12_init_89 : decode cX12_init 89 = .ok (.dup, 1) := by decide +kernel
theorem dX12_init_90 : decode cX12_init 90 = .ok (.invokespecial 58, 3) := by decide +kernel
theorem dX12_init_93 : decode cX12_init 93 = .ok (.putfield 59, 3) := by decide +kernel
theorem dX12_init_96 : decode cX12_init 96 = .ok (.aload_n 0, 1) := by decide +kernel
theorem dX12_init_97 : decode cX12_init 97 = .ok (.aconst_null, 1) := by decide +kernel
theorem dX12_init_98 : decode cX12_init 98 = .ok (.putfield 63, 3) := by decide +kernel
theorem dX12_init_101 : decode cX12_init 101 = .ok (.aload_n 0, 1) := by decide +kernel
theorem dX12_init_102 : decode cX12_init 102 = .ok (.iconst (-1), 1) := by decide +kernel
theorem dX12_init_103 : decode cX12_init 103 = .ok (.putfield 66, 3) := by decide +kernel
theorem dX12_init_106 : decode cX12_init 106 = .ok (.aload_n 0, 1) := by decide +kernel
theorem dX12_init_107 : decode cX12_init 107 = .ok (.iconst (-1), 1) := by decide +kernel
theorem dX12_init_108 : decode cX12_init 108 = .ok (.putfield 70, 3) := by decide +kernel
theorem dX12_init_111 : decode cX12_init 111 = .ok (.return_, 1) := by decide +kernel
theorem dX12_type_0 : decode cX12_type 0 = .ok (.iload_n 1, 1) := by decide +kernel
theorem dX12_type_1 : decode cX12_type 1 = .ok (.bipush 32, 2) := by decide +kernel
theorem dX12_type_3 : decode cX12_type 3 = .ok (.if_icmp .eq 25, 3) := by decide +kernel
theorem dX12_type_6 : decode cX12_type 6 = .ok (.iload_n 1, 1) := by decide +kernel
theorem dX12_type_7 : decode cX12_type 7 = .ok (.bipush 97, 2) := by decide +kernel
theorem dX12_type_9 : decode cX12_type 9 = .ok (.if_icmp .lt 9, 3) := by decide +kernel
theorem dX12_type_12 : decode cX12_type 12 = .ok (.iload_n 1, 1) := by decide +kernel
theorem dX12_type_13 : decode cX12_type 13 = .ok (.bipush 122, 2) := by decide +kernel
theorem dX12_type_15 : decode cX12_type 15 = .ok (.if_icmp .le 13, 3) := by decide +kernel
theorem dX12_type_18 : decode cX12_type 18 = .ok (.new 73, 3) := by decide +kernel
theorem dX12_type_21 : decode cX12_type 21 = .ok (.dup, 1) := by decide +kernel
theorem dX12_type_22 : decode cX12_type 22 = .ok (.ldc 75, 2) := by decide +kernel
theorem dX12_type_24 : decode cX12_type 24 = .ok (.invokespecial 77, 3) := by decide +kernel
theorem dX12_type_27 : decode cX12_type 27 = .ok (.athrow, 1) := by decide +kernel
theorem dX12_type_28 : decode cX12_type 28 = .ok (.aload_n 0, 1) := by decide +kernel
theorem dX12_type_29 : decode cX12_type 29 = .ok (.getfield 14, 3) := by decide +kernel
theorem dX12_type_32 : decode cX12_type 32 = .ok (.iload_n 1, 1) := by decide +kernel
theorem dX12_type_33 : decode cX12_type 33 = .ok (.invokevirtual 80, 3) := by decide +kernel
theorem dX12_type_36 : decode cX12_type 36 = .ok (.ifCond .ne 13, 3) := by decide +kernel
theorem dX12_type_39 : decode cX12_type 39 = .ok (.new 84, 3) := by decide +kernel
theorem dX12_type_42 : decode cX12_type 42 = .ok (.dup, 1) := by decide +kernel
theorem dX12_type_43 : decode cX12_type 43 = .ok (.ldc 86, 2) := by decide +kernel
theorem dX12_type_45 : decode cX12_type 45 = .ok (.invokespecial 88, 3) := by decide +kernel
theorem dX12_type_48 : decode cX12_type 48 = .ok (.athrow, 1) := by decide +kernel
theorem dX12_type_49 : decode cX12_type 49 = .ok (.aload_n 0, 1) := by decide +kernel
theorem dX12_type_50 : decode cX12_type 50 = .ok (.getfield 14, 3) := by decide +kernel
theorem dX12_type_53 : decode cX12_type 53 = .ok (.getfield 89, 3) := by decide +kernel
theorem dX12_type_56 : decode cX12_type 56 = .ok (.ireturn, 1) := by decide +kernel
theorem dX12_clearText_0 : decode cX12_clearText 0 = .ok (.aload_n 0, 1) := by decide +kernel
theorem dX12_clearText_1 : decode cX12_clearText 1 = .ok (.getfield 14, 3) := by decide +kernel
theorem dX12_clearText_4 : decode cX12_clearText 4 = .ok (.invokevirtual 92, 3) := by decide +kernel
theorem dX12_clearText_7 : decode cX12_clearText 7 = .ok (.ireturn, 1) := by decide +kernel
theorem dX12_addArticle_0 : decode cX12_addArticle 0 = .ok (.iload_n 1, 1) := by decide +kernel
theorem dX12_addArticle_1 : decode cX12_addArticle 1 = .ok (.iconst 1, 1) := by decide +kernel
theorem dX12_addArticle_2 : decode cX12_addArticle 2 = .ok (.if_icmp .lt 9, 3) := by decide +kernel
theorem dX12_addArticle_5 : decode cX12_addArticle 5 = .ok (.iload_n 1, 1) := by decide +kernel
theorem dX12_addArticle_6 : decode cX12_addArticle 6 = .ok (.bipush 9, 2) := by decide +kernel
theorem dX12_addArticle_8 : decode cX12_addArticle 8 = .ok (.if_icmp .le 13, 3) := by decide +kernel
theorem dX12_addArticle_11 : decode cX12_addArticle 11 = .ok (.new 73, 3) := by decide +kernel
theorem dX12_addArticle_14 : decode cX12_addArticle 14 = .ok (.dup, 1) := by decide +kernel
theorem dX12_addArticle_15 : decode cX12_addArticle 15 = .ok (.ldc 96, 2) := by decide +kernel
theorem dX12_addArticle_17 : decode cX12_addArticle 17 = .ok (.invokespecial 77, 3) := by decide +kernel
theorem dX12_addArticle_20 : decode cX12_addArticle 20 = .ok (.athrow, 1) := by decide +kernel
theorem dX12_addArticle_21 : decode cX12_addArticle 21 = .ok (.aload_n 0, 1) := by decide +kernel
theorem dX12_addArticle_22 : decode cX12_addArticle 22 = .ok (.getfield 59, 3) := by decide +kernel
theorem dX12_addArticle_25 : decode cX12_addArticle 25 = .ok (.getfield 98, 3) := by decide +kernel
theorem dX12_addArticle_28 : decode cX12_addArticle 28 = .ok (.invokevirtual 101, 3) := by decide +kernel
theorem dX12_addArticle_31 : decode cX12_addArticle 31 = .ok (.bipush 6, 2) := by decide +kernel
theorem dX12_addArticle_33 : decode cX12_addArticle 33 = .ok (.if_icmp .lt 13, 3) := by decide +kernel
theorem dX12_addArticle_36 : decode cX12_addArticle 36 = .ok (.new 84, 3) := by decide +kernel
theorem dX12_addArticle_39 : decode cX12_addArticle 39 = .ok (.dup, 1) := by decide +kernel
theorem dX12_addArticle_40 : decode cX12_addArticle 40 = .ok (.ldc 104, 2) := by decide +kernel
theorem dX12_addArticle_42 : decode cX12_addArticle 42 = .ok (.invokespecial 88, 3) := by decide +kernel
theorem dX12_addArticle_45 : decode cX12_addArticle 45 = .ok (.athrow, 1) := by decide +kernel
theorem dX12_addArticle_46 : decode cX12_addArticle 46 = .ok (.aload_n 0, 1) := by decide +kernel
theorem dX12_addArticle_47 : decode cX12_addArticle 47 = .ok (.getfield 14, 3) := by decide +kernel
theorem dX12_addArticle_50 : decode cX12_addArticle 50 = .ok (.invokevirtual 106, 3) := by decide +kernel
theorem dX12_addArticle_53 : decode cX12_addArticle 53 = .ok (.ifCond .ne 13, 3) := by decide +kernel
theorem dX12_addArticle_56 : decode cX12_addArticle 56 = .ok (.new 110, 3) := by decide +kernel
theorem dX12_addArticle_59 : decode cX12_addArticle 59 = .ok (.dup, 1) := by decide +kernel
theorem dX12_addArticle_60 : decode cX12_addArticle 60 = .ok (.ldc 112, 2) := by decide +kernel
theorem dX12_addArticle_62 : decode cX12_addArticle 62 = .ok (.invokespecial 114, 3) := by decide +kernel
theorem dX12_addArticle_65 : decode cX12_addArticle 65 = .ok (.athrow, 1) := by decide +kernel
theorem dX12_addArticle_66 : decode cX12_addArticle 66 = .ok (.aload_n 0, 1) := by decide +kernel
theorem dX12_addArticle_67 : decode cX12_addArticle 67 = .ok (.getfield 59, 3) := by decide +kernel
theorem dX12_addArticle_70 : decode cX12_addArticle 70 = .ok (.invokevirtual 115, 3) := by decide +kernel
theorem dX12_addArticle_73 : decode cX12_addArticle 73 = .ok (.astore_n 2, 1) := by decide +kernel
theorem dX12_addArticle_74 : decode cX12_addArticle 74 = .ok (.aload_n 2, 1) := by decide +kernel
theorem dX12_addArticle_75 : decode cX12_addArticle 75 = .ok (.iload_n 1, 1) := by decide +kernel
theorem dX12_addArticle_76 : decode cX12_addArticle 76 = .ok (.aload_n 0, 1) := by decide +kernel
theorem dX12_addArticle_77 : decode cX12_addArticle 77 = .ok (.getfield 14, 3) := by decide +kernel
theorem dX12_addArticle_80 : decode cX12_addArticle 80 = .ok (.invokevirtual 119, 3) := by decide +kernel
theorem dX12_addArticle_83 : decode cX12_addArticle 83 = .ok (.invokevirtual 123, 3) := by decide +kernel
theorem dX12_addArticle_86 : decode cX12_addArticle 86 = .ok (.istore_n 3, 1) := by decide +kernel
theorem dX12_addArticle_87 : decode cX12_addArticle 87 = .ok (.aload_n 0, 1) := by decide +kernel
theorem dX12_addArticle_88 : decode cX12_addArticle 88 = .ok (.getfield 14, 3) := by decide +kernel
theorem dX12_addArticle_91 : decode cX12_addArticle 91 = .ok (.invokevirtual 92, 3) := by decide +kernel
theorem dX12_addArticle_94 : decode cX12_addArticle 94 = .ok (.pop, 1) := by decide +kernel
theorem dX12_addArticle_95 : decode cX12_addArticle 95 = .ok (.aload_n 0, 1) := by decide +kernel
theorem dX12_addArticle_96 : decode cX12_addArticle 96 = .ok (.aload_n 2, 1) := by decide +kernel
theorem dX12_addArticle_97 : decode cX12_addArticle 97 = .ok (.invokevirtual 127, 3) := by decide +kernel
theorem dX12_addArticle_100 : decode cX12_addArticle 100 = .ok (.iload_n 3, 1) := by decide +kernel
theorem dX12_addArticle_101 : decode cX12_addArticle 101 = .ok (.ireturn, 1) := by decide +kernel
theorem dX12_removeArticle_0 : decode cX12_removeArticle 0 = .ok (.aload_n 0, 1) := by decide +kernel
theorem dX12_removeArticle_1 : decode cX12_removeArticle 1 = .ok (.getfield 59, 3) := by decide +kernel
theorem dX12_removeArticle_4 : decode cX12_removeArticle 4 = .ok (.invokevirtual 115, 3) := by decide +kernel
theorem dX12_removeArticle_7 : decode cX12_removeArticle 7 = .ok (.astore_n 2, 1) := by decide +kernel
theorem dX12_removeArticle_8 : decode cX12_removeArticle 8 = .ok (.aload_n 2, 1) := by decide +kernel
theorem dX12_removeArticle_9 : decode cX12_removeArticle 9 = .ok (.iload_n 1, 1) := by decide +kernel
theorem dX12_removeArticle_10 : decode cX12_removeArticle 10 = .ok (.invokevirtual 131, 3) := by decide +kernel
theorem dX12_removeArticle_13 : decode cX12_removeArticle 13 = .ok (.ifCond .ne 13, 3) := by decide +kernel
theorem dX12_removeArticle_16 : decode cX12_removeArticle 16 = .ok (.new 135, 3) := by decide +kernel
theorem dX12_removeArticle_19 : decode cX12_removeArticle 19 = .ok (.dup, 1) := by decide +kernel
theorem dX12_removeArticle_20 : decode cX12_removeArticle 20 = .ok (.ldc 137, 2) := by decide +kernel
theorem dX12_removeArticle_22 : decode cX12_removeArticle 22 = .ok (.invokespecial 139, 3) := by decide +kernel
theorem dX12_removeArticle_25 : decode cX12_removeArticle 25 = .ok (.athrow, 1) := by decide +kernel
theorem dX12_removeArticle_26 : decode cX12_removeArticle 26 = .ok (.aload_n 0, 1) := by decide +kernel
theorem dX12_removeArticle_27 : decode cX12_removeArticle 27 = .ok (.aload_n 2, 1) := by decide +kernel
theorem dX12_removeArticle_28 : decode cX12_removeArticle 28 = .ok (.invokevirtual 127, 3) := by decide +kernel
theorem dX12_removeArticle_31 : decode cX12_removeArticle 31 = .ok (.aload_n 0, 1) := by decide +kernel
theorem dX12_removeArticle_32 : decode cX12_removeArticle 32 = .ok (.getfield 59, 3) := by decide +kernel
theorem dX12_removeArticle_35 : decode cX12_removeArticle 35 = .ok (.getfield 98, 3) := by decide +kernel
theorem dX12_removeArticle_38 : decode cX12_removeArticle 38 = .ok (.invokevirtual 101, 3) := by decide +kernel
theorem dX12_removeArticle_41 : decode cX12_removeArticle 41 = .ok (.ireturn, 1) := by decide +kernel
theorem dX12_correct_0 : decode cX12_correct 0 = .ok (.aload_n 0, 1) := by decide +kernel
theorem dX12_correct_1 : decode cX12_correct 1 = .ok (.iload_n 1, 1) := by decide +kernel
theorem dX12_correct_2 : decode cX12_correct 2 = .ok (.iload_n 2, 1) := by decide +kernel
theorem dX12_correct_3 : decode cX12_correct 3 = .ok (.invokevirtual 140, 3) := by decide +kernel
theorem dX12_correct_6 : decode cX12_correct 6 = .ok (.astore_n 3, 1) := by decide +kernel
theorem dX12_correct_7 : decode cX12_correct 7 = .ok (.aload_n 0, 1) := by decide +kernel
theorem dX12_correct_8 : decode cX12_correct 8 = .ok (.getfield 14, 3) := by decide +kernel
theorem dX12_correct_11 : decode cX12_correct 11 = .ok (.invokevirtual 144, 3) := by decide +kernel
theorem dX12_correct_14 : decode cX12_correct 14 = .ok (.ifCond .ne 13, 3) := by decide +kernel
theorem dX12_correct_17 : decode cX12_correct 17 = .ok (.new 110, 3) := by decide +kernel
theorem dX12_correct_20 : decode cX12_correct 20 = .ok (.dup, 1) := by decide +kernel
theorem dX12_correct_21 : decode cX12_correct 21 = .ok (.ldc 147, 2) := by decide +kernel
theorem dX12_correct_23 : decode cX12_correct 23 = .ok (.invokespecial 114, 3) := by decide +kernel
theorem dX12_correct_26 : decode cX12_correct 26 = .ok (.athrow, 1) := by decide +kernel
theorem dX12_correct_27 : decode cX12_correct 27 = .ok (.aload_n 0, 1) := by decide +kernel
theorem dX12_correct_28 : decode cX12_correct 28 = .ok (.getfield 59, 3) := by decide +kernel
theorem dX12_correct_31 : decode cX12_correct 31 = .ok (.invokevirtual 115, 3) := by decide +kernel
theorem dX12_correct_34 : decode cX12_correct 34 = .ok (.astore 4, 2) := by decide +kernel
theorem dX12_correct_36 : decode cX12_correct 36 = .ok (.aload 4, 2) := by decide +kernel
theorem dX12_correct_38 : decode cX12_correct 38 = .ok (.iload_n 1, 1) := by decide +kernel
theorem dX12_correct_39 : decode cX12_correct 39 = .ok (.iload_n 2, 1) := by decide +kernel
theorem dX12_correct_40 : decode cX12_correct 40 = .ok (.aload_n 0, 1) := by decide +kernel
theorem dX12_correct_41 : decode cX12_correct 41 = .ok (.getfield 14, 3) := by decide +kernel
theorem dX12_correct_44 : decode cX12_correct 44 = .ok (.iconst 0, 1) := by decide +kernel
theorem dX12_correct_45 : decode cX12_correct 45 = .ok (.aload_n 0, 1) := by decide +kernel
theorem dX12_correct_46 : decode cX12_correct 46 = .ok (.getfield 14, 3) := by decide +kernel
theorem dX12_correct_49 : decode cX12_correct 49 = .ok (.getfield 89, 3) := by decide +kernel
theorem dX12_correct_52 : decode cX12_correct 52 = .ok (.invokevirtual 149, 3) := by decide +kernel
theorem dX12_correct_55 : decode cX12_correct 55 = .ok (.invokevirtual 152, 3) := by decide +kernel
theorem dX12_correct_58 : decode cX12_correct 58 = .ok (.aload_n 0, 1) := by decide +kernel
theorem dX12_correct_59 : decode cX12_correct 59 = .ok (.getfield 14, 3) := by decide +kernel
theorem dX12_correct_62 : decode cX12_correct 62 = .ok (.invokevirtual 92, 3) := by decide +kernel
theorem dX12_correct_65 : decode cX12_correct 65 = .ok (.pop, 1) := by decide +kernel
theorem dX12_correct_66 : decode cX12_correct 66 = .ok (.aload_n 0, 1) := by decide +kernel
theorem dX12_correct_67 : decode cX12_correct 67 = .ok (.aload 4, 2) := by decide +kernel
theorem dX12_correct_69 : decode cX12_correct 69 = .ok (.invokevirtual 127, 3) := by decide +kernel
theorem dX12_correct_72 : decode cX12_correct 72 = .ok (.aload_n 3, 1) := by decide +kernel
theorem dX12_correct_73 : decode cX12_correct 73 = .ok (.invokevirtual 156, 3) := by decide +kernel
theorem dX12_correct_76 : decode cX12_correct 76 = .ok (.ireturn, 1) := by decide +kernel
theorem dX12_articleCount_0 : decode cX12_articleCount 0 = .ok (.aload_n 0, 1) := by decide +kernel
theorem dX12_articleCount_1 : decode cX12_articleCount 1 = .ok (.getfield 59, 3) := by decide +kernel
theorem dX12_articleCount_4 : decode cX12_articleCount 4 = .ok (.getfield 98, 3) := by decide +kernel
theorem dX12_articleCount_7 : decode cX12_articleCount 7 = .ok (.invokevirtual 101, 3) := by decide +kernel
theorem dX12_articleCount_10 : decode cX12_articleCount 10 = .ok (.ireturn, 1) := by decide +kernel
theorem dX12_article_0 : decode cX12_article 0 = .ok (.iload_n 1, 1) := by decide +kernel
theorem dX12_article_1 : decode cX12_article 1 = .ok (.ifCond .lt 17, 3) := by decide +kernel
theorem dX12_article_4 : decode cX12_article 4 = .ok (.iload_n 1, 1) := by decide +kernel
theorem dX12_article_5 : decode cX12_article 5 = .ok (.aload_n 0, 1) := by decide +kernel
theorem dX12_article_6 : decode cX12_article 6 = .ok (.getfield 59, 3) := by decide +kernel
theorem dX12_article_9 : decode cX12_article 9 = .ok (.getfield 98, 3) := by decide +kernel
theorem dX12_article_12 : decode cX12_article 12 = .ok (.invokevirtual 101, 3) := by decide +kernel
theorem dX12_article_15 : decode cX12_article 15 = .ok (.if_icmp .lt 13, 3) := by decide +kernel
theorem dX12_article_18 : decode cX12_article 18 = .ok (.new 161, 3) := by decide +kernel
theorem dX12_article_21 : decode cX12_article 21 = .ok (.dup, 1) := by decide +kernel
theorem dX12_article_22 : decode cX12_article 22 = .ok (.ldc 163, 2) := by decide +kernel
theorem dX12_article_24 : decode cX12_article 24 = .ok (.invokespecial 165, 3) := by decide +kernel
theorem dX12_article_27 : decode cX12_article 27 = .ok (.athrow, 1) := by decide +kernel
theorem dX12_article_28 : decode cX12_article 28 = .ok (.aload_n 0, 1) := by decide +kernel
theorem dX12_article_29 : decode cX12_article 29 = .ok (.getfield 59, 3) := by decide +kernel
theorem dX12_article_32 : decode cX12_article 32 = .ok (.getfield 98, 3) := by decide +kernel
theorem dX12_article_35 : decode cX12_article 35 = .ok (.iload_n 1, 1) := by decide +kernel
theorem dX12_article_36 : decode cX12_article 36 = .ok (.invokevirtual 166, 3) := by decide +kernel
theorem dX12_article_39 : decode cX12_article 39 = .ok (.checkcast 170, 3) := by decide +kernel
theorem dX12_article_42 : decode cX12_article 42 = .ok (.getfield 172, 3) := by decide +kernel
theorem dX12_article_45 : decode cX12_article 45 = .ok (.ireturn, 1) := by decide +kernel
theorem dX12_articleByPriority_0 : decode cX12_articleByPriority 0 = .ok (.aload_n 0, 1) := by decide +kernel
theorem dX12_articleByPriority_1 : decode cX12_articleByPriority 1 = .ok (.getfield 59, 3) := by decide +kernel
theorem dX12_articleByPriority_4 : decode cX12_articleByPriority 4 = .ok (.iload_n 1, 1) := by decide +kernel
theorem dX12_articleByPriority_5 : decode cX12_articleByPriority 5 = .ok (.invokevirtual 175, 3) := by decide +kernel
theorem dX12_articleByPriority_8 : decode cX12_articleByPriority 8 = .ok (.astore_n 2, 1) := by decide +kernel
theorem dX12_articleByPriority_9 : decode cX12_articleByPriority 9 = .ok (.aload_n 2, 1) := by decide +kernel
theorem dX12_articleByPriority_10 : decode cX12_articleByPriority 10 = .ok (.ifnonnull 13, 3) := by decide +kernel
theorem dX12_articleByPriority_13 : decode cX12_articleByPriority 13 = .ok (.new 161, 3) := by decide +kernel
theorem dX12_articleByPriority_16 : decode cX12_articleByPriority 16 = .ok (.dup, 1) := by decide +kernel
theorem dX12_articleByPriority_17 : decode cX12_articleByPriority 17 = .ok (.ldc 179, 2) := by decide +kernel
theorem dX12_articleByPriority_19 : decode cX12_articleByPriority 19 = .ok (.invokespecial 165, 3) := by decide +kernel
theorem dX12_articleByPriority_22 : decode cX12_articleByPriority 22 = .ok (.athrow, 1) := by decide +kernel
theorem dX12_articleByPriority_23 : decode cX12_articleByPriority 23 = .ok (.aload_n 2, 1) := by decide +kernel
theorem dX12_articleByPriority_24 : decode cX12_articleByPriority 24 = .ok (.getfield 172, 3) := by decide +kernel
theorem dX12_articleByPriority_27 : decode cX12_articleByPriority 27 = .ok (.ireturn, 1) := by decide +kernel
theorem dX12_priority_0 : decode cX12_priority 0 = .ok (.aload_n 0, 1) := by decide +kernel
theorem dX12_priority_1 : decode cX12_priority 1 = .ok (.iload_n 1, 1) := by decide +kernel
theorem dX12_priority_2 : decode cX12_priority 2 = .ok (.invokevirtual 181, 3) := by decide +kernel
theorem dX12_priority_5 : decode cX12_priority 5 = .ok (.getfield 184, 3) := by decide +kernel
theorem dX12_priority_8 : decode cX12_priority 8 = .ok (.ireturn, 1) := by decide +kernel
theorem dX12_wordCount_0 : decode cX12_wordCount 0 = .ok (.aload_n 0, 1) := by decide +kernel
theorem dX12_wordCount_1 : decode cX12_wordCount 1 = .ok (.iload_n 1, 1) := by decide +kernel
theorem dX12_wordCount_2 : decode cX12_wordCount 2 = .ok (.invokevirtual 181, 3) := by decide +kernel
theorem dX12_wordCount_5 : decode cX12_wordCount 5 = .ok (.getfield 187, 3) := by decide +kernel
theorem dX12_wordCount_8 : decode cX12_wordCount 8 = .ok (.arraylength, 1) := by decide +kernel
theorem dX12_wordCount_9 : decode cX12_wordCount 9 = .ok (.ireturn, 1) := by decide +kernel
theorem dX12_wordLength_0 : decode cX12_wordLength 0 = .ok (.aload_n 0, 1) := by decide +kernel
theorem dX12_wordLength_1 : decode cX12_wordLength 1 = .ok (.iload_n 1, 1) := by decide +kernel
theorem dX12_wordLength_2 : decode cX12_wordLength 2 = .ok (.iload_n 2, 1) := by decide +kernel
theorem dX12_wordLength_3 : decode cX12_wordLength 3 = .ok (.invokevirtual 140, 3) := by decide +kernel
theorem dX12_wordLength_6 : decode cX12_wordLength 6 = .ok (.invokevirtual 156, 3) := by decide +kernel
theorem dX12_wordLength_9 : decode cX12_wordLength 9 = .ok (.ireturn, 1) := by decide +kernel
theorem dX12_divisions_0 : decode cX12_divisions 0 = .ok (.aload_n 0, 1) := by decide +kernel
theorem dX12_divisions_1 : decode cX12_divisions 1 = .ok (.iload_n 1, 1) := by decide +kernel
theorem dX12_divisions_2 : decode cX12_divisions 2 = .ok (.iload_n 2, 1) := by decide +kernel
theorem dX12_divisions_3 : decode cX12_divisions 3 = .ok (.invokevirtual 140, 3) := by decide +kernel
theorem dX12_divisions_6 : decode cX12_divisions 6 = .ok (.invokevirtual 191, 3) := by decide +kernel
theorem dX12_divisions_9 : decode cX12_divisions 9 = .ok (.ireturn, 1) := by decide +kernel
theorem dX12_canDivide_0 : decode cX12_canDivide 0 = .ok (.aload_n 0, 1) := by decide +kernel
theorem dX12_canDivide_1 : decode cX12_canDivide 1 = .ok (.iload_n 1, 1) := by decide +kernel
theorem dX12_canDivide_2 : decode cX12_canDivide 2 = .ok (.iload_n 2, 1) := by decide +kernel
theorem dX12_canDivide_3 : decode cX12_canDivide 3 = .ok (.invokevirtual 140, 3) := by decide +kernel
theorem dX12_canDivide_6 : decode cX12_canDivide 6 = .ok (.iload_n 3, 1) := by decide +kernel
theorem dX12_canDivide_7 : decode cX12_canDivide 7 = .ok (.invokevirtual 194, 3) := by decide +kernel
theorem dX12_canDivide_10 : decode cX12_canDivide 10 = .ok (.ireturn, 1) := by decide +kernel
theorem dX12_lateCorrections_0 : decode cX12_lateCorrections 0 = .ok (.aload_n 0, 1) := by decide +kernel
theorem dX12_lateCorrections_1 : decode cX12_lateCorrections 1 = .ok (.getfield 59, 3) := by decide +kernel
theorem dX12_lateCorrections_4 : decode cX12_lateCorrections 4 = .ok (.getfield 197, 3) := by decide +kernel
theorem dX12_lateCorrections_7 : decode cX12_lateCorrections 7 = .ok (.ireturn, 1) := by decide +kernel
theorem dX12_setWidth_0 : decode cX12_setWidth 0 = .ok (.aload_n 0, 1) := by decide +kernel
theorem dX12_setWidth_1 : decode cX12_setWidth 1 = .ok (.getfield 59, 3) := by decide +kernel
theorem dX12_setWidth_4 : decode cX12_setWidth 4 = .ok (.invokevirtual 115, 3) := by decide +kernel
theorem dX12_setWidth_7 : decode cX12_setWidth 7 = .ok (.astore_n 2, 1) := by decide +kernel
theorem dX12_setWidth_8 : decode cX12_setWidth 8 = .ok (.aload_n 2, 1) := by decide +kernel
theorem dX12_setWidth_9 : decode cX12_setWidth 9 = .ok (.iload_n 1, 1) := by decide +kernel
theorem dX12_setWidth_10 : decode cX12_setWidth 10 = .ok (.invokevirtual 200, 3) := by decide +kernel
theorem dX12_setWidth_13 : decode cX12_setWidth 13 = .ok (.ifCond .ne 13, 3) := by decide +kernel
theorem dX12_setWidth_16 : decode cX12_setWidth 16 = .ok (.new 73, 3) := by decide +kernel
theorem dX12_setWidth_19 : decode cX12_setWidth 19 = .ok (.dup, 1) := by decide +kernel
theorem dX12_setWidth_20 : decode cX12_setWidth 20 = .ok (.ldc 203, 2) := by decide +kernel
theorem dX12_setWidth_22 : decode cX12_setWidth 22 = .ok (.invokespecial 77, 3) := by decide +kernel
theorem dX12_setWidth_25 : decode cX12_setWidth 25 = .ok (.athrow, 1) := by decide +kernel
theorem dX12_setWidth_26 : decode cX12_setWidth 26 = .ok (.aload_n 0, 1) := by decide +kernel
theorem dX12_setWidth_27 : decode cX12_setWidth 27 = .ok (.getfield 59, 3) := by decide +kernel
theorem dX12_setWidth_30 : decode cX12_setWidth 30 = .ok (.getfield 205, 3) := by decide +kernel
theorem dX12_setWidth_33 : decode cX12_setWidth 33 = .ok (.istore_n 3, 1) := by decide +kernel
theorem dX12_setWidth_34 : decode cX12_setWidth 34 = .ok (.aload_n 0, 1) := by decide +kernel
theorem dX12_setWidth_35 : decode cX12_setWidth 35 = .ok (.aload_n 2, 1) := by decide +kernel
theorem dX12_setWidth_36 : decode cX12_setWidth 36 = .ok (.invokevirtual 127, 3) := by decide +kernel
theorem dX12_setWidth_39 : decode cX12_setWidth 39 = .ok (.iload_n 3, 1) := by decide +kernel
theorem dX12_setWidth_40 : decode cX12_setWidth 40 = .ok (.ireturn, 1) := by decide +kernel
theorem dX12_width_0 : decode cX12_width 0 = .ok (.aload_n 0, 1) := by decide +kernel
theorem dX12_width_1 : decode cX12_width 1 = .ok (.getfield 59, 3) := by decide +kernel
theorem dX12_width_4 : decode cX12_width 4 = .ok (.getfield 205, 3) := by decide +kernel
theorem dX12_width_7 : decode cX12_width 7 = .ok (.ireturn, 1) := by decide +kernel
theorem dX12_canBeSet_0 : decode cX12_canBeSet 0 = .ok (.aload_n 0, 1) := by decide +kernel
theorem dX12_canBeSet_1 : decode cX12_canBeSet 1 = .ok (.getfield 31, 3) := by decide +kernel
theorem dX12_canBeSet_4 : decode cX12_canBeSet 4 = .ok (.aload_n 0, 1) := by decide +kernel
theorem dX12_canBeSet_5 : decode cX12_canBeSet 5 = .ok (.iload_n 1, 1) := by decide +kernel
theorem dX12_canBeSet_6 : decode cX12_canBeSet 6 = .ok (.invokevirtual 181, 3) := by decide +kernel
theorem dX12_canBeSet_9 : decode cX12_canBeSet 9 = .ok (.aload_n 0, 1) := by decide +kernel
theorem dX12_canBeSet_10 : decode cX12_canBeSet 10 = .ok (.getfield 59, 3) := by decide +kernel
theorem dX12_canBeSet_13 : decode cX12_canBeSet 13 = .ok (.getfield 205, 3) := by decide +kernel
theorem dX12_canBeSet_16 : decode cX12_canBeSet 16 = .ok (.invokevirtual 208, 3) := by decide +kernel
theorem dX12_canBeSet_19 : decode cX12_canBeSet 19 = .ok (.ireturn, 1) := by decide +kernel
theorem dX12_lineCount_0 : decode cX12_lineCount 0 = .ok (.aload_n 0, 1) := by decide +kernel
theorem dX12_lineCount_1 : decode cX12_lineCount 1 = .ok (.iload_n 1, 1) := by decide +kernel
theorem dX12_lineCount_2 : decode cX12_lineCount 2 = .ok (.invokevirtual 212, 3) := by decide +kernel
theorem dX12_lineCount_5 : decode cX12_lineCount 5 = .ok (.aload_n 0, 1) := by decide +kernel
theorem dX12_lineCount_6 : decode cX12_lineCount 6 = .ok (.getfield 31, 3) := by decide +kernel
theorem dX12_lineCount_9 : decode cX12_lineCount 9 = .ok (.getfield 215, 3) := by decide +kernel
theorem dX12_lineCount_12 : decode cX12_lineCount 12 = .ok (.ireturn, 1) := by decide +kernel
theorem dX12_lineLength_0 : decode cX12_lineLength 0 = .ok (.aload_n 0, 1) := by decide +kernel
theorem dX12_lineLength_1 : decode cX12_lineLength 1 = .ok (.iload_n 1, 1) := by decide +kernel
theorem dX12_lineLength_2 : decode cX12_lineLength 2 = .ok (.iload_n 2, 1) := by decide +kernel
theorem dX12_lineLength_3 : decode cX12_lineLength 3 = .ok (.invokevirtual 218, 3) := by decide +kernel
theorem dX12_lineLength_6 : decode cX12_lineLength 6 = .ok (.aload_n 0, 1) := by decide +kernel
theorem dX12_lineLength_7 : decode cX12_lineLength 7 = .ok (.getfield 31, 3) := by decide +kernel
theorem dX12_lineLength_10 : decode cX12_lineLength 10 = .ok (.iload_n 2, 1) := by decide +kernel
theorem dX12_lineLength_11 : decode cX12_lineLength 11 = .ok (.invokevirtual 222, 3) := by decide +kernel
theorem dX12_lineLength_14 : decode cX12_lineLength 14 = .ok (.ireturn, 1) := by decide +kernel
theorem dX12_hyphenCount_0 : decode cX12_hyphenCount 0 = .ok (.aload_n 0, 1) := by decide +kernel
theorem dX12_hyphenCount_1 : decode cX12_hyphenCount 1 = .ok (.iload_n 1, 1) := by decide +kernel
theorem dX12_hyphenCount_2 : decode cX12_hyphenCount 2 = .ok (.invokevirtual 212, 3) := by decide +kernel
theorem dX12_hyphenCount_5 : decode cX12_hyphenCount 5 = .ok (.aload_n 0, 1) := by decide +kernel
theorem dX12_hyphenCount_6 : decode cX12_hyphenCount 6 = .ok (.getfield 31, 3) := by decide +kernel
theorem dX12_hyphenCount_9 : decode cX12_hyphenCount 9 = .ok (.invokevirtual 226, 3) := by decide +kernel
theorem dX12_hyphenCount_12 : decode cX12_hyphenCount 12 = .ok (.ireturn, 1) := by decide +kernel
theorem dX12_writeLine_0 : decode cX12_writeLine 0 = .ok (.aload_n 0, 1) := by decide +kernel
theorem dX12_writeLine_1 : decode cX12_writeLine 1 = .ok (.iload_n 1, 1) := by decide +kernel
theorem dX12_writeLine_2 : decode cX12_writeLine 2 = .ok (.iload_n 2, 1) := by decide +kernel
theorem dX12_writeLine_3 : decode cX12_writeLine 3 = .ok (.invokevirtual 218, 3) := by decide +kernel
theorem dX12_writeLine_6 : decode cX12_writeLine 6 = .ok (.aload_n 0, 1) := by decide +kernel
theorem dX12_writeLine_7 : decode cX12_writeLine 7 = .ok (.getfield 24, 3) := by decide +kernel
theorem dX12_writeLine_10 : decode cX12_writeLine 10 = .ok (.iconst 0, 1) := by decide +kernel
theorem dX12_writeLine_11 : decode cX12_writeLine 11 = .ok (.invokevirtual 229, 3) := by decide +kernel
theorem dX12_writeLine_14 : decode cX12_writeLine 14 = .ok (.aload_n 0, 1) := by decide +kernel
theorem dX12_writeLine_15 : decode cX12_writeLine 15 = .ok (.getfield 31, 3) := by decide +kernel
theorem dX12_writeLine_18 : decode cX12_writeLine 18 = .ok (.aload_n 0, 1) := by decide +kernel
theorem dX12_writeLine_19 : decode cX12_writeLine 19 = .ok (.getfield 24, 3) := by decide +kernel
theorem dX12_writeLine_22 : decode cX12_writeLine 22 = .ok (.iload_n 2, 1) := by decide +kernel
theorem dX12_writeLine_23 : decode cX12_writeLine 23 = .ok (.invokevirtual 232, 3) := by decide +kernel
theorem dX12_writeLine_26 : decode cX12_writeLine 26 = .ok (.aload_n 0, 1) := by decide +kernel
theorem dX12_writeLine_27 : decode cX12_writeLine 27 = .ok (.getfield 24, 3) := by decide +kernel
theorem dX12_writeLine_30 : decode cX12_writeLine 30 = .ok (.invokevirtual 236, 3) := by decide +kernel
theorem dX12_writeLine_33 : decode cX12_writeLine 33 = .ok (.ireturn, 1) := by decide +kernel
theorem dX12_smallestWidth_0 : decode cX12_smallestWidth 0 = .ok (.aload_n 0, 1) := by decide +kernel
theorem dX12_smallestWidth_1 : decode cX12_smallestWidth 1 = .ok (.iload_n 1, 1) := by decide +kernel
theorem dX12_smallestWidth_2 : decode cX12_smallestWidth 2 = .ok (.invokevirtual 181, 3) := by decide +kernel
theorem dX12_smallestWidth_5 : decode cX12_smallestWidth 5 = .ok (.astore_n 2, 1) := by decide +kernel
theorem dX12_smallestWidth_6 : decode cX12_smallestWidth 6 = .ok (.iconst 4, 1) := by decide +kernel
theorem dX12_smallestWidth_7 : decode cX12_smallestWidth 7 = .ok (.istore_n 3, 1) := by decide +kernel
theorem dX12_smallestWidth_8 : decode cX12_smallestWidth 8 = .ok (.iload_n 3, 1) := by decide +kernel
theorem dX12_smallestWidth_9 : decode cX12_smallestWidth 9 = .ok (.bipush 20, 2) := by decide +kernel
theorem dX12_smallestWidth_11 : decode cX12_smallestWidth 11 = .ok (.if_icmp .ge 23, 3) := by decide +kernel
theorem dX12_smallestWidth_14 : decode cX12_smallestWidth 14 = .ok (.aload_n 0, 1) := by decide +kernel
theorem dX12_smallestWidth_15 : decode cX12_smallestWidth 15 = .ok (.getfield 31, 3) := by decide +kernel
theorem dX12_smallestWidth_18 : decode cX12_smallestWidth 18 = .ok (.aload_n 2, 1) := by decide +kernel
theorem dX12_smallestWidth_19 : decode cX12_smallestWidth 19 = .ok (.iload_n 3, 1) := by decide +kernel
theorem dX12_smallestWidth_20 : decode cX12_smallestWidth 20 = .ok (.invokevirtual 208, 3) := by decide +kernel
theorem dX12_smallestWidth_23 : decode cX12_smallestWidth 23 = .ok (.ifCond .eq 5, 3) := by decide +kernel
theorem dX12_smallestWidth_26 : decode cX12_smallestWidth 26 = .ok (.iload_n 3, 1) := by decide +kernel
theorem dX12_smallestWidth_27 : decode cX12_smallestWidth 27 = .ok (.ireturn, 1) := by decide +kernel
theorem dX12_smallestWidth_28 : decode cX12_smallestWidth 28 = .ok (.iinc 3 1, 3) := by decide +kernel
theorem dX12_smallestWidth_31 : decode cX12_smallestWidth 31 = .ok (.goto (-23), 3) := by decide +kernel
theorem dX12_smallestWidth_34 : decode cX12_smallestWidth 34 = .ok (.bipush 20, 2) := by decide +kernel
theorem dX12_smallestWidth_36 : decode cX12_smallestWidth 36 = .ok (.ireturn, 1) := by decide +kernel
theorem dX12_leastBadness_0 : decode cX12_leastBadness 0 = .ok (.aload_n 0, 1) := by decide +kernel
theorem dX12_leastBadness_1 : decode cX12_leastBadness 1 = .ok (.getfield 38, 3) := by decide +kernel
theorem dX12_leastBadness_4 : decode cX12_leastBadness 4 = .ok (.aload_n 0, 1) := by decide +kernel
theorem dX12_leastBadness_5 : decode cX12_leastBadness 5 = .ok (.iload_n 1, 1) := by decide +kernel
theorem dX12_leastBadness_6 : decode cX12_leastBadness 6 = .ok (.invokevirtual 238, 3) := by decide +kernel
theorem dX12_leastBadness_9 : decode cX12_leastBadness 9 = .ok (.aload_n 0, 1) := by decide +kernel
theorem dX12_leastBadness_10 : decode cX12_leastBadness 10 = .ok (.getfield 59, 3) := by decide +kernel
theorem dX12_leastBadness_13 : decode cX12_leastBadness 13 = .ok (.getfield 205, 3) := by decide +kernel
theorem dX12_leastBadness_16 : decode cX12_leastBadness 16 = .ok (.invokevirtual 241, 3) := by decide +kernel
theorem dX12_leastBadness_19 : decode cX12_leastBadness 19 = .ok (.ireturn, 1) := by decide +kernel
theorem dX12_leastBadnessForward_0 : decode cX12_leastBadnessForward 0 = .ok (.aload_n 0, 1) := by decide +kernel
theorem dX12_leastBadnessForward_1 : decode cX12_leastBadnessForward 1 = .ok (.getfield 38, 3) := by decide +kernel
theorem dX12_leastBadnessForward_4 : decode cX12_leastBadnessForward 4 = .ok (.aload_n 0, 1) := by decide +kernel
theorem dX12_leastBadnessForward_5 : decode cX12_leastBadnessForward 5 = .ok (.iload_n 1, 1) := by decide +kernel
theorem dX12_leastBadnessForward_6 : decode cX12_leastBadnessForward 6 = .ok (.invokevirtual 238, 3) := by decide +kernel
theorem dX12_leastBadnessForward_9 : decode cX12_leastBadnessForward 9 = .ok (.aload_n 0, 1) := by decide +kernel
theorem dX12_leastBadnessForward_10 : decode cX12_leastBadnessForward 10 = .ok (.getfield 59, 3) := by decide +kernel
theorem dX12_leastBadnessForward_13 : decode cX12_leastBadnessForward 13 = .ok (.getfield 205, 3) := by decide +kernel
theorem dX12_leastBadnessForward_16 : decode cX12_leastBadnessForward 16 = .ok (.invokevirtual 245, 3) := by decide +kernel
theorem dX12_leastBadnessForward_19 : decode cX12_leastBadnessForward 19 = .ok (.ireturn, 1) := by decide +kernel
theorem dX12_setPage_0 : decode cX12_setPage 0 = .ok (.aload_n 0, 1) := by decide +kernel
theorem dX12_setPage_1 : decode cX12_setPage 1 = .ok (.getfield 59, 3) := by decide +kernel
theorem dX12_setPage_4 : decode cX12_setPage 4 = .ok (.invokevirtual 115, 3) := by decide +kernel
theorem dX12_setPage_7 : decode cX12_setPage 7 = .ok (.astore_n 3, 1) := by decide +kernel
theorem dX12_setPage_8 : decode cX12_setPage 8 = .ok (.aload_n 3, 1) := by decide +kernel
theorem dX12_setPage_9 : decode cX12_setPage 9 = .ok (.iload_n 1, 1) := by decide +kernel
theorem dX12_setPage_10 : decode cX12_setPage 10 = .ok (.iload_n 2, 1) := by decide +kernel
theorem dX12_setPage_11 : decode cX12_setPage 11 = .ok (.invokevirtual 248, 3) := by decide +kernel
theorem dX12_setPage_14 : decode cX12_setPage 14 = .ok (.ifCond .ne 13, 3) := by decide +kernel
theorem dX12_setPage_17 : decode cX12_setPage 17 = .ok (.new 73, 3) := by decide +kernel
theorem dX12_setPage_20 : decode cX12_setPage 20 = .ok (.dup, 1) := by decide +kernel
theorem dX12_setPage_21 : decode cX12_setPage 21 = .ok (.ldc 252, 2) := by decide +kernel
theorem dX12_setPage_23 : decode cX12_setPage 23 = .ok (.invokespecial 77, 3) := by decide +kernel
theorem dX12_setPage_26 : decode cX12_setPage 26 = .ok (.athrow, 1) := by decide +kernel
theorem dX12_setPage_27 : decode cX12_setPage 27 = .ok (.aload_n 0, 1) := by decide +kernel
theorem dX12_setPage_28 : decode cX12_setPage 28 = .ok (.aload_n 3, 1) := by decide +kernel
theorem dX12_setPage_29 : decode cX12_setPage 29 = .ok (.invokevirtual 127, 3) := by decide +kernel
theorem dX12_setPage_32 : decode cX12_setPage 32 = .ok (.iload_n 1, 1) := by decide +kernel
theorem dX12_setPage_33 : decode cX12_setPage 33 = .ok (.iload_n 2, 1) := by decide +kernel
theorem dX12_setPage_34 : decode cX12_setPage 34 = .ok (.imul, 1) := by decide +kernel
theorem dX12_setPage_35 : decode cX12_setPage 35 = .ok (.ireturn, 1) := by decide +kernel
theorem dX12_print_0 : decode cX12_print 0 = .ok (.aload_n 0, 1) := by decide +kernel
theorem dX12_print_1 : decode cX12_print 1 = .ok (.getfield 59, 3) := by decide +kernel
theorem dX12_print_4 : decode cX12_print 4 = .ok (.getfield 254, 3) := by decide +kernel
theorem dX12_print_7 : decode cX12_print 7 = .ok (.istore_n 1, 1) := by decide +kernel
theorem dX12_print_8 : decode cX12_print 8 = .ok (.aload_n 0, 1) := by decide +kernel
theorem dX12_print_9 : decode cX12_print 9 = .ok (.getfield 59, 3) := by decide +kernel
theorem dX12_print_12 : decode cX12_print 12 = .ok (.invokevirtual 115, 3) := by decide +kernel
theorem dX12_print_15 : decode cX12_print 15 = .ok (.astore_n 2, 1) := by decide +kernel
theorem dX12_print_16 : decode cX12_print 16 = .ok (.aload_n 2, 1) := by decide +kernel
theorem dX12_print_17 : decode cX12_print 17 = .ok (.aload_n 0, 1) := by decide +kernel
theorem dX12_print_18 : decode cX12_print 18 = .ok (.getfield 31, 3) := by decide +kernel
theorem dX12_print_21 : decode cX12_print 21 = .ok (.invokevirtual 257, 3) := by decide +kernel
theorem dX12_print_24 : decode cX12_print 24 = .ok (.ifCond .ne 14, 3) := by decide +kernel
theorem dX12_print_27 : decode cX12_print 27 = .ok (.new 84, 3) := by decide +kernel
theorem dX12_print_30 : decode cX12_print 30 = .ok (.dup, 1) := by decide +kernel
theorem dX12_print_31 : decode cX12_print 31 = .ok (.ldc_w 261, 3) := by decide +kernel
theorem dX12_print_34 : decode cX12_print 34 = .ok (.invokespecial 88, 3) := by decide +kernel
theorem dX12_print_37 : decode cX12_print 37 = .ok (.athrow, 1) := by decide +kernel
theorem dX12_print_38 : decode cX12_print 38 = .ok (.aload_n 0, 1) := by decide +kernel
theorem dX12_print_39 : decode cX12_print 39 = .ok (.aload_n 2, 1) := by decide +kernel
theorem dX12_print_40 : decode cX12_print 40 = .ok (.invokevirtual 127, 3) := by decide +kernel
theorem dX12_print_43 : decode cX12_print 43 = .ok (.iload_n 1, 1) := by decide +kernel
theorem dX12_print_44 : decode cX12_print 44 = .ok (.ireturn, 1) := by decide +kernel
theorem dX12_issueCount_0 : decode cX12_issueCount 0 = .ok (.aload_n 0, 1) := by decide +kernel
theorem dX12_issueCount_1 : decode cX12_issueCount 1 = .ok (.getfield 59, 3) := by decide +kernel
theorem dX12_issueCount_4 : decode cX12_issueCount 4 = .ok (.getfield 263, 3) := by decide +kernel
theorem dX12_issueCount_7 : decode cX12_issueCount 7 = .ok (.invokevirtual 101, 3) := by decide +kernel
theorem dX12_issueCount_10 : decode cX12_issueCount 10 = .ok (.ireturn, 1) := by decide +kernel
theorem dX12_isKept_0 : decode cX12_isKept 0 = .ok (.aload_n 0, 1) := by decide +kernel
theorem dX12_isKept_1 : decode cX12_isKept 1 = .ok (.getfield 59, 3) := by decide +kernel
theorem dX12_isKept_4 : decode cX12_isKept 4 = .ok (.iload_n 1, 1) := by decide +kernel
theorem dX12_isKept_5 : decode cX12_isKept 5 = .ok (.invokevirtual 266, 3) := by decide +kernel
theorem dX12_isKept_8 : decode cX12_isKept 8 = .ok (.ifnull 7, 3) := by decide +kernel
theorem dX12_isKept_11 : decode cX12_isKept 11 = .ok (.iconst 1, 1) := by decide +kernel
theorem dX12_isKept_12 : decode cX12_isKept 12 = .ok (.goto 4, 3) := by decide +kernel
theorem dX12_isKept_15 : decode cX12_isKept 15 = .ok (.iconst 0, 1) := by decide +kernel
theorem dX12_isKept_16 : decode cX12_isKept 16 = .ok (.ireturn, 1) := by decide +kernel
theorem dX12_articlesIn_0 : decode cX12_articlesIn 0 = .ok (.aload_n 0, 1) := by decide +kernel
theorem dX12_articlesIn_1 : decode cX12_articlesIn 1 = .ok (.iload_n 1, 1) := by decide +kernel
theorem dX12_articlesIn_2 : decode cX12_articlesIn 2 = .ok (.invokevirtual 270, 3) := by decide +kernel
theorem dX12_articlesIn_5 : decode cX12_articlesIn 5 = .ok (.getfield 273, 3) := by decide +kernel
theorem dX12_articlesIn_8 : decode cX12_articlesIn 8 = .ok (.getfield 279, 3) := by decide +kernel
theorem dX12_articlesIn_11 : decode cX12_articlesIn 11 = .ok (.ireturn, 1) := by decide +kernel
theorem dX12_linesIn_0 : decode cX12_linesIn 0 = .ok (.aload_n 0, 1) := by decide +kernel
theorem dX12_linesIn_1 : decode cX12_linesIn 1 = .ok (.iload_n 1, 1) := by decide +kernel
theorem dX12_linesIn_2 : decode cX12_linesIn 2 = .ok (.invokevirtual 270, 3) := by decide +kernel
theorem dX12_linesIn_5 : decode cX12_linesIn 5 = .ok (.getfield 273, 3) := by decide +kernel
theorem dX12_linesIn_8 : decode cX12_linesIn 8 = .ok (.getfield 284, 3) := by decide +kernel
theorem dX12_linesIn_11 : decode cX12_linesIn 11 = .ok (.ireturn, 1) := by decide +kernel
theorem dX12_columnOf_0 : decode cX12_columnOf 0 = .ok (.aload_n 0, 1) := by decide +kernel
theorem dX12_columnOf_1 : decode cX12_columnOf 1 = .ok (.iload_n 1, 1) := by decide +kernel
theorem dX12_columnOf_2 : decode cX12_columnOf 2 = .ok (.iload_n 2, 1) := by decide +kernel
theorem dX12_columnOf_3 : decode cX12_columnOf 3 = .ok (.invokevirtual 287, 3) := by decide +kernel
theorem dX12_columnOf_6 : decode cX12_columnOf 6 = .ok (.astore_n 3, 1) := by decide +kernel
theorem dX12_columnOf_7 : decode cX12_columnOf 7 = .ok (.aload_n 3, 1) := by decide +kernel
theorem dX12_columnOf_8 : decode cX12_columnOf 8 = .ok (.aload_n 3, 1) := by decide +kernel
theorem dX12_columnOf_9 : decode cX12_columnOf 9 = .ok (.iload_n 2, 1) := by decide +kernel
theorem dX12_columnOf_10 : decode cX12_columnOf 10 = .ok (.invokevirtual 291, 3) := by decide +kernel
theorem dX12_columnOf_13 : decode cX12_columnOf 13 = .ok (.invokevirtual 294, 3) := by decide +kernel
theorem dX12_columnOf_16 : decode cX12_columnOf 16 = .ok (.ireturn, 1) := by decide +kernel
theorem dX12_rowOf_0 : decode cX12_rowOf 0 = .ok (.aload_n 0, 1) := by decide +kernel
theorem dX12_rowOf_1 : decode cX12_rowOf 1 = .ok (.iload_n 1, 1) := by decide +kernel
theorem dX12_rowOf_2 : decode cX12_rowOf 2 = .ok (.iload_n 2, 1) := by decide +kernel
theorem dX12_rowOf_3 : decode cX12_rowOf 3 = .ok (.invokevirtual 287, 3) := by decide +kernel
theorem dX12_rowOf_6 : decode cX12_rowOf 6 = .ok (.astore_n 3, 1) := by decide +kernel
theorem dX12_rowOf_7 : decode cX12_rowOf 7 = .ok (.aload_n 3, 1) := by decide +kernel
theorem dX12_rowOf_8 : decode cX12_rowOf 8 = .ok (.aload_n 3, 1) := by decide +kernel
theorem dX12_rowOf_9 : decode cX12_rowOf 9 = .ok (.iload_n 2, 1) := by decide +kernel
theorem dX12_rowOf_10 : decode cX12_rowOf 10 = .ok (.invokevirtual 291, 3) := by decide +kernel
theorem dX12_rowOf_13 : decode cX12_rowOf 13 = .ok (.invokevirtual 297, 3) := by decide +kernel
theorem dX12_rowOf_16 : decode cX12_rowOf 16 = .ok (.ireturn, 1) := by decide +kernel
theorem dX12_coverage_0 : decode cX12_coverage 0 = .ok (.aload_n 0, 1) := by decide +kernel
theorem dX12_coverage_1 : decode cX12_coverage 1 = .ok (.iload_n 1, 1) := by decide +kernel
theorem dX12_coverage_2 : decode cX12_coverage 2 = .ok (.invokevirtual 270, 3) := by decide +kernel
theorem dX12_coverage_5 : decode cX12_coverage 5 = .ok (.getfield 273, 3) := by decide +kernel
theorem dX12_coverage_8 : decode cX12_coverage 8 = .ok (.invokevirtual 300, 3) := by decide +kernel
theorem dX12_coverage_11 : decode cX12_coverage 11 = .ok (.freturn, 1) := by decide +kernel
theorem dX12_passDays_0 : decode cX12_passDays 0 = .ok (.aload_n 0, 1) := by decide +kernel
theorem dX12_passDays_1 : decode cX12_passDays 1 = .ok (.getfield 59, 3) := by decide +kernel
theorem dX12_passDays_4 : decode cX12_passDays 4 = .ok (.invokevirtual 115, 3) := by decide +kernel
theorem dX12_passDays_7 : decode cX12_passDays 7 = .ok (.astore_n 2, 1) := by decide +kernel
theorem dX12_passDays_8 : decode cX12_passDays 8 = .ok (.aload_n 2, 1) := by decide +kernel
theorem dX12_passDays_9 : decode cX12_passDays 9 = .ok (.iload_n 1, 1) := by decide +kernel
theorem dX12_passDays_10 : decode cX12_passDays 10 = .ok (.invokevirtual 304, 3) := by decide +kernel
theorem dX12_passDays_13 : decode cX12_passDays 13 = .ok (.ifCond .ne 14, 3) := by decide +kernel
theorem dX12_passDays_16 : decode cX12_passDays 16 = .ok (.new 73, 3) := by decide +kernel
theorem dX12_passDays_19 : decode cX12_passDays 19 = .ok (.dup, 1) := by decide +kernel
theorem dX12_passDays_20 : decode cX12_passDays 20 = .ok (.ldc_w 307, 3) := by decide +kernel
theorem dX12_passDays_23 : decode cX12_passDays 23 = .ok (.invokespecial 77, 3) := by decide +kernel
theorem dX12_passDays_26 : decode cX12_passDays 26 = .ok (.athrow, 1) := by decide +kernel
theorem dX12_passDays_27 : decode cX12_passDays 27 = .ok (.aload_n 0, 1) := by decide +kernel
theorem dX12_passDays_28 : decode cX12_passDays 28 = .ok (.getfield 59, 3) := by decide +kernel
theorem dX12_passDays_31 : decode cX12_passDays 31 = .ok (.invokevirtual 309, 3) := by decide +kernel
theorem dX12_passDays_34 : decode cX12_passDays 34 = .ok (.aload_n 2, 1) := by decide +kernel
theorem dX12_passDays_35 : decode cX12_passDays 35 = .ok (.invokevirtual 309, 3) := by decide +kernel
theorem dX12_passDays_38 : decode cX12_passDays 38 = .ok (.isub, 1) := by decide +kernel
theorem dX12_passDays_39 : decode cX12_passDays 39 = .ok (.istore_n 3, 1) := by decide +kernel
theorem dX12_passDays_40 : decode cX12_passDays 40 = .ok (.aload_n 0, 1) := by decide +kernel
theorem dX12_passDays_41 : decode cX12_passDays 41 = .ok (.aload_n 2, 1) := by decide +kernel
theorem dX12_passDays_42 : decode cX12_passDays 42 = .ok (.invokevirtual 127, 3) := by decide +kernel
theorem dX12_passDays_45 : decode cX12_passDays 45 = .ok (.iload_n 3, 1) := by decide +kernel
theorem dX12_passDays_46 : decode cX12_passDays 46 = .ok (.ireturn, 1) := by decide +kernel
theorem dX12_day_0 : decode cX12_day 0 = .ok (.aload_n 0, 1) := by decide +kernel
theorem dX12_day_1 : decode cX12_day 1 = .ok (.getfield 59, 3) := by decide +kernel
theorem dX12_day_4 : decode cX12_day 4 = .ok (.getfield 312, 3) := by decide +kernel
theorem dX12_day_7 : decode cX12_day 7 = .ok (.ireturn, 1) := by decide +kernel
theorem dX12_freshness_0 : decode cX12_freshness 0 = .ok (.aload_n 0, 1) := by decide +kernel
theorem dX12_freshness_1 : decode cX12_freshness 1 = .ok (.iload_n 1, 1) := by decide +kernel
theorem dX12_freshness_2 : decode cX12_freshness 2 = .ok (.invokevirtual 270, 3) := by decide +kernel
theorem dX12_freshness_5 : decode cX12_freshness 5 = .ok (.getfield 315, 3) := by decide +kernel
theorem dX12_freshness_8 : decode cX12_freshness 8 = .ok (.freturn, 1) := by decide +kernel
theorem dX12_freshnessBits_0 : decode cX12_freshnessBits 0 = .ok (.aload_n 0, 1) := by decide +kernel
theorem dX12_freshnessBits_1 : decode cX12_freshnessBits 1 = .ok (.iload_n 1, 1) := by decide +kernel
theorem dX12_freshnessBits_2 : decode cX12_freshnessBits 2 = .ok (.invokevirtual 270, 3) := by decide +kernel
theorem dX12_freshnessBits_5 : decode cX12_freshnessBits 5 = .ok (.getfield 315, 3) := by decide +kernel
theorem dX12_freshnessBits_8 : decode cX12_freshnessBits 8 = .ok (.invokestatic 319, 3) := by decide +kernel
theorem dX12_freshnessBits_11 : decode cX12_freshnessBits 11 = .ok (.ireturn, 1) := by decide +kernel
theorem dX12_isReadable_0 : decode cX12_isReadable 0 = .ok (.aload_n 0, 1) := by decide +kernel
theorem dX12_isReadable_1 : decode cX12_isReadable 1 = .ok (.iload_n 1, 1) := by decide +kernel
theorem dX12_isReadable_2 : decode cX12_isReadable 2 = .ok (.invokevirtual 270, 3) := by decide +kernel
theorem dX12_isReadable_5 : decode cX12_isReadable 5 = .ok (.invokevirtual 323, 3) := by decide +kernel
theorem dX12_isReadable_8 : decode cX12_isReadable 8 = .ok (.ireturn, 1) := by decide +kernel
theorem dX12_daysUntilUnreadable_0 : decode cX12_daysUntilUnreadable 0 = .ok (.aload_n 0, 1) := by decide +kernel
theorem dX12_daysUntilUnreadable_1 : decode cX12_daysUntilUnreadable 1 = .ok (.iload_n 1, 1) := by decide +kernel
theorem dX12_daysUntilUnreadable_2 : decode cX12_daysUntilUnreadable 2 = .ok (.invokevirtual 270, 3) := by decide +kernel
theorem dX12_daysUntilUnreadable_5 : decode cX12_daysUntilUnreadable 5 = .ok (.astore_n 2, 1) := by decide +kernel
theorem dX12_daysUntilUnreadable_6 : decode cX12_daysUntilUnreadable 6 = .ok (.iconst 0, 1) := by decide +kernel
theorem dX12_daysUntilUnreadable_7 : decode cX12_daysUntilUnreadable 7 = .ok (.istore_n 3, 1) := by decide +kernel
theorem dX12_daysUntilUnreadable_8 : decode cX12_daysUntilUnreadable 8 = .ok (.iload_n 3, 1) := by decide +kernel
theorem dX12_daysUntilUnreadable_9 : decode cX12_daysUntilUnreadable 9 = .ok (.bipush 30, 2) := by decide +kernel
theorem dX12_daysUntilUnreadable_11 : decode cX12_daysUntilUnreadable 11 = .ok (.if_icmp .ge 22, 3) := by decide +kernel
theorem dX12_daysUntilUnreadable_14 : decode cX12_daysUntilUnreadable 14 = .ok (.aload_n 2, 1) := by decide +kernel
theorem dX12_daysUntilUnreadable_15 : decode cX12_daysUntilUnreadable 15 = .ok (.invokevirtual 323, 3) := by decide +kernel
theorem dX12_daysUntilUnreadable_18 : decode cX12_daysUntilUnreadable 18 = .ok (.ifCond .eq 15, 3) := by decide +kernel
theorem dX12_daysUntilUnreadable_21 : decode cX12_daysUntilUnreadable 21 = .ok (.aload_n 2, 1) := by decide +kernel
theorem dX12_daysUntilUnreadable_22 : decode cX12_daysUntilUnreadable 22 = .ok (.iconst 1, 1) := by decide +kernel
theorem dX12_daysUntilUnreadable_23 : decode cX12_daysUntilUnreadable 23 = .ok (.invokevirtual 326, 3) := by decide +kernel
theorem dX12_daysUntilUnreadable_26 : decode cX12_daysUntilUnreadable 26 = .ok (.astore_n 2, 1) := by decide +kernel
theorem dX12_daysUntilUnreadable_27 : decode cX12_daysUntilUnreadable 27 = .ok (.iinc 3 1, 3) := by decide +kernel
theorem dX12_daysUntilUnreadable_30 : decode cX12_daysUntilUnreadable 30 = .ok (.goto (-22), 3) := by decide +kernel
theorem dX12_daysUntilUnreadable_33 : decode cX12_daysUntilUnreadable 33 = .ok (.iload_n 3, 1) := by decide +kernel
theorem dX12_daysUntilUnreadable_34 : decode cX12_daysUntilUnreadable 34 = .ok (.ireturn, 1) := by decide +kernel
theorem dX12_meanWordLength_0 : decode cX12_meanWordLength 0 = .ok (.iconst 0, 1) := by decide +kernel
theorem dX12_meanWordLength_1 : decode cX12_meanWordLength 1 = .ok (.istore_n 1, 1) := by decide +kernel
theorem dX12_meanWordLength_2 : decode cX12_meanWordLength 2 = .ok (.iconst 0, 1) := by decide +kernel
theorem dX12_meanWordLength_3 : decode cX12_meanWordLength 3 = .ok (.istore_n 2, 1) := by decide +kernel
theorem dX12_meanWordLength_4 : decode cX12_meanWordLength 4 = .ok (.iconst 0, 1) := by decide +kernel
theorem dX12_meanWordLength_5 : decode cX12_meanWordLength 5 = .ok (.istore_n 3, 1) := by decide +kernel
theorem dX12_meanWordLength_6 : decode cX12_meanWordLength 6 = .ok (.iload_n 3, 1) := by decide +kernel
theorem dX12_meanWordLength_7 : decode cX12_meanWordLength 7 = .ok (.aload_n 0, 1) := by decide +kernel
theorem dX12_meanWordLength_8 : decode cX12_meanWordLength 8 = .ok (.getfield 59, 3) := by decide +kernel
theorem dX12_meanWordLength_11 : decode cX12_meanWordLength 11 = .ok (.getfield 98, 3) := by decide +kernel
theorem dX12_meanWordLength_14 : decode cX12_meanWordLength 14 = .ok (.invokevirtual 101, 3) := by decide +kernel
theorem dX12_meanWordLength_17 : decode cX12_meanWordLength 17 = .ok (.if_icmp .ge 42, 3) := by decide +kernel
theorem dX12_meanWordLength_20 : decode cX12_meanWordLength 20 = .ok (.aload_n 0, 1) := by decide +kernel
theorem dX12_meanWordLength_21 : decode cX12_meanWordLength 21 = .ok (.getfield 59, 3) := by decide +kernel
theorem dX12_meanWordLength_24 : decode cX12_meanWordLength 24 = .ok (.getfield 98, 3) := by decide +kernel
theorem dX12_meanWordLength_27 : decode cX12_meanWordLength 27 = .ok (.iload_n 3, 1) := by decide +kernel
theorem dX12_meanWordLength_28 : decode cX12_meanWordLength 28 = .ok (.invokevirtual 166, 3) := by decide +kernel
theorem dX12_meanWordLength_31 : decode cX12_meanWordLength 31 = .ok (.checkcast 170, 3) := by decide +kernel
theorem dX12_meanWordLength_34 : decode cX12_meanWordLength 34 = .ok (.astore 4, 2) := by decide +kernel
theorem dX12_meanWordLength_36 : decode cX12_meanWordLength 36 = .ok (.iload_n 1, 1) := by decide +kernel
theorem dX12_meanWordLength_37 : decode cX12_meanWordLength 37 = .ok (.aload 4, 2) := by decide +kernel
theorem dX12_meanWordLength_39 : decode cX12_meanWordLength 39 = .ok (.invokevirtual 329, 3) := by decide +kernel
theorem dX12_meanWordLength_42 : decode cX12_meanWordLength 42 = .ok (.iadd, 1) := by decide +kernel
theorem dX12_meanWordLength_43 : decode cX12_meanWordLength 43 = .ok (.istore_n 1, 1) := by decide +kernel
theorem dX12_meanWordLength_44 : decode cX12_meanWordLength 44 = .ok (.iload_n 2, 1) := by decide +kernel
theorem dX12_meanWordLength_45 : decode cX12_meanWordLength 45 = .ok (.aload 4, 2) := by decide +kernel
theorem dX12_meanWordLength_47 : decode cX12_meanWordLength 47 = .ok (.getfield 187, 3) := by decide +kernel
theorem dX12_meanWordLength_50 : decode cX12_meanWordLength 50 = .ok (.arraylength, 1) := by decide +kernel
theorem dX12_meanWordLength_51 : decode cX12_meanWordLength 51 = .ok (.iadd, 1) := by decide +kernel
theorem dX12_meanWordLength_52 : decode cX12_meanWordLength 52 = .ok (.istore_n 2, 1) := by decide +kernel
theorem dX12_meanWordLength_53 : decode cX12_meanWordLength 53 = .ok (.iinc 3 1, 3) := by decide +kernel
theorem dX12_meanWordLength_56 : decode cX12_meanWordLength 56 = .ok (.goto (-50), 3) := by decide +kernel
theorem dX12_meanWordLength_59 : decode cX12_meanWordLength 59 = .ok (.iload_n 2, 1) := by decide +kernel
theorem dX12_meanWordLength_60 : decode cX12_meanWordLength 60 = .ok (.ifCond .ne 14, 3) := by decide +kernel
theorem dX12_meanWordLength_63 : decode cX12_meanWordLength 63 = .ok (.new 332, 3) := by decide +kernel
theorem dX12_meanWordLength_66 : decode cX12_meanWordLength 66 = .ok (.dup, 1) := by decide +kernel
theorem dX12_meanWordLength_67 : decode cX12_meanWordLength 67 = .ok (.ldc_w 261, 3) := by decide +kernel
theorem dX12_meanWordLength_70 : decode cX12_meanWordLength 70 = .ok (.invokespecial 334, 3) := by decide +kernel
theorem dX12_meanWordLength_73 : decode cX12_meanWordLength 73 = .ok (.athrow, 1) := by decide +kernel
theorem dX12_meanWordLength_74 : decode cX12_meanWordLength 74 = .ok (.iload_n 1, 1) := by decide +kernel
theorem dX12_meanWordLength_75 : decode cX12_meanWordLength 75 = .ok (.i2d, 1) := by decide +kernel
theorem dX12_meanWordLength_76 : decode cX12_meanWordLength 76 = .ok (.iload_n 2, 1) := by decide +kernel
theorem dX12_meanWordLength_77 : decode cX12_meanWordLength 77 = .ok (.i2d, 1) := by decide +kernel
theorem dX12_meanWordLength_78 : decode cX12_meanWordLength 78 = .ok (.ddiv, 1) := by decide +kernel
theorem dX12_meanWordLength_79 : decode cX12_meanWordLength 79 = .ok (.dreturn, 1) := by decide +kernel
theorem dX12_meanFreshness_0 : decode cX12_meanFreshness 0 = .ok (.aload_n 0, 1) := by decide +kernel
theorem dX12_meanFreshness_1 : decode cX12_meanFreshness 1 = .ok (.getfield 59, 3) := by decide +kernel
theorem dX12_meanFreshness_4 : decode cX12_meanFreshness 4 = .ok (.getfield 263, 3) := by decide +kernel
theorem dX12_meanFreshness_7 : decode cX12_meanFreshness 7 = .ok (.invokevirtual 101, 3) := by decide +kernel
theorem dX12_meanFreshness_10 : decode cX12_meanFreshness 10 = .ok (.istore_n 1, 1) := by decide +kernel
theorem dX12_meanFreshness_11 : decode cX12_meanFreshness 11 = .ok (.iload_n 1, 1) := by decide +kernel
theorem dX12_meanFreshness_12 : decode cX12_meanFreshness 12 = .ok (.ifCond .ne 14, 3) := by decide +kernel
theorem dX12_meanFreshness_15 : decode cX12_meanFreshness 15 = .ok (.new 332, 3) := by decide +kernel
theorem dX12_meanFreshness_18 : decode cX12_meanFreshness 18 = .ok (.dup, 1) := by decide +kernel
theorem dX12_meanFreshness_19 : decode cX12_meanFreshness 19 = .ok (.ldc_w 335, 3) := by decide +kernel
theorem dX12_meanFreshness_22 : decode cX12_meanFreshness 22 = .ok (.invokespecial 334, 3) := by decide +kernel
theorem dX12_meanFreshness_25 : decode cX12_meanFreshness 25 = .ok (.athrow, 1) := by decide +kernel
theorem dX12_meanFreshness_26 : decode cX12_meanFreshness 26 = .ok (.fconst 0, 1) := by decide +kernel
theorem dX12_meanFreshness_27 : decode cX12_meanFreshness 27 = .ok (.fstore_n 2, 1) := by decide +kernel
theorem dX12_meanFreshness_28 : decode cX12_meanFreshness 28 = .ok (.iconst 0, 1) := by decide +kernel
theorem dX12_meanFreshness_29 : decode cX12_meanFreshness 29 = .ok (.istore_n 3, 1) := by decide +kernel
theorem dX12_meanFreshness_30 : decode cX12_meanFreshness 30 = .ok (.iload_n 3, 1) := by decide +kernel
theorem dX12_meanFreshness_31 : decode cX12_meanFreshness 31 = .ok (.iload_n 1, 1) := by decide +kernel
theorem dX12_meanFreshness_32 : decode cX12_meanFreshness 32 = .ok (.if_icmp .ge 29, 3) := by decide +kernel
theorem dX12_meanFreshness_35 : decode cX12_meanFreshness 35 = .ok (.fload_n 2, 1) := by decide +kernel
theorem dX12_meanFreshness_36 : decode cX12_meanFreshness 36 = .ok (.aload_n 0, 1) := by decide +kernel
theorem dX12_meanFreshness_37 : decode cX12_meanFreshness 37 = .ok (.getfield 59, 3) := by decide +kernel
theorem dX12_meanFreshness_40 : decode cX12_meanFreshness 40 = .ok (.getfield 263, 3) := by decide +kernel
theorem dX12_meanFreshness_43 : decode cX12_meanFreshness 43 = .ok (.iload_n 3, 1) := by decide +kernel
theorem dX12_meanFreshness_44 : decode cX12_meanFreshness 44 = .ok (.invokevirtual 166, 3) := by decide +kernel
theorem dX12_meanFreshness_47 : decode cX12_meanFreshness 47 = .ok (.checkcast 274, 3) := by decide +kernel
theorem dX12_meanFreshness_50 : decode cX12_meanFreshness 50 = .ok (.getfield 315, 3) := by decide +kernel
theorem dX12_meanFreshness_53 : decode cX12_meanFreshness 53 = .ok (.fadd, 1) := by decide +kernel
theorem dX12_meanFreshness_54 : decode cX12_meanFreshness 54 = .ok (.fstore_n 2, 1) := by decide +kernel
theorem dX12_meanFreshness_55 : decode cX12_meanFreshness 55 = .ok (.iinc 3 1, 3) := by decide +kernel
theorem dX12_meanFreshness_58 : decode cX12_meanFreshness 58 = .ok (.goto (-28), 3) := by decide +kernel
theorem dX12_meanFreshness_61 : decode cX12_meanFreshness 61 = .ok (.fload_n 2, 1) := by decide +kernel
theorem dX12_meanFreshness_62 : decode cX12_meanFreshness 62 = .ok (.iload_n 1, 1) := by decide +kernel
theorem dX12_meanFreshness_63 : decode cX12_meanFreshness 63 = .ok (.i2f, 1) := by decide +kernel
theorem dX12_meanFreshness_64 : decode cX12_meanFreshness 64 = .ok (.fdiv, 1) := by decide +kernel
theorem dX12_meanFreshness_65 : decode cX12_meanFreshness 65 = .ok (.freturn, 1) := by decide +kernel
theorem dX12_writeArticle_0 : decode cX12_writeArticle 0 = .ok (.aload_n 0, 1) := by decide +kernel
theorem dX12_writeArticle_1 : decode cX12_writeArticle 1 = .ok (.iload_n 1, 1) := by decide +kernel
theorem dX12_writeArticle_2 : decode cX12_writeArticle 2 = .ok (.invokevirtual 181, 3) := by decide +kernel
theorem dX12_writeArticle_5 : decode cX12_writeArticle 5 = .ok (.astore_n 2, 1) := by decide +kernel
theorem dX12_writeArticle_6 : decode cX12_writeArticle 6 = .ok (.aload_n 0, 1) := by decide +kernel
theorem dX12_writeArticle_7 : decode cX12_writeArticle 7 = .ok (.getfield 24, 3) := by decide +kernel
theorem dX12_writeArticle_10 : decode cX12_writeArticle 10 = .ok (.iconst 0, 1) := by decide +kernel
theorem dX12_writeArticle_11 : decode cX12_writeArticle 11 = .ok (.invokevirtual 229, 3) := by decide +kernel
theorem dX12_writeArticle_14 : decode cX12_writeArticle 14 = .ok (.aload_n 2, 1) := by decide +kernel
theorem dX12_writeArticle_15 : decode cX12_writeArticle 15 = .ok (.aload_n 0, 1) := by decide +kernel
theorem dX12_writeArticle_16 : decode cX12_writeArticle 16 = .ok (.getfield 24, 3) := by decide +kernel
theorem dX12_writeArticle_19 : decode cX12_writeArticle 19 = .ok (.invokevirtual 337, 3) := by decide +kernel
theorem dX12_writeArticle_22 : decode cX12_writeArticle 22 = .ok (.aload_n 0, 1) := by decide +kernel
theorem dX12_writeArticle_23 : decode cX12_writeArticle 23 = .ok (.getfield 24, 3) := by decide +kernel
theorem dX12_writeArticle_26 : decode cX12_writeArticle 26 = .ok (.invokevirtual 236, 3) := by decide +kernel
theorem dX12_writeArticle_29 : decode cX12_writeArticle 29 = .ok (.ireturn, 1) := by decide +kernel
theorem dX12_outputCharacter_0 : decode cX12_outputCharacter 0 = .ok (.iload_n 1, 1) := by decide +kernel
theorem dX12_outputCharacter_1 : decode cX12_outputCharacter 1 = .ok (.ifCond .lt 14, 3) := by decide +kernel
theorem dX12_outputCharacter_4 : decode cX12_outputCharacter 4 = .ok (.iload_n 1, 1) := by decide +kernel
theorem dX12_outputCharacter_5 : decode cX12_outputCharacter 5 = .ok (.aload_n 0, 1) := by decide +kernel
theorem dX12_outputCharacter_6 : decode cX12_outputCharacter 6 = .ok (.getfield 24, 3) := by decide +kernel
theorem dX12_outputCharacter_9 : decode cX12_outputCharacter 9 = .ok (.invokevirtual 236, 3) := by decide +kernel
theorem dX12_outputCharacter_12 : decode cX12_outputCharacter 12 = .ok (.if_icmp .lt 14, 3) := by decide +kernel
theorem dX12_outputCharacter_15 : decode cX12_outputCharacter 15 = .ok (.new 161, 3) := by decide +kernel
theorem dX12_outputCharacter_18 : decode cX12_outputCharacter 18 = .ok (.dup, 1) := by decide +kernel
theorem dX12_outputCharacter_19 : decode cX12_outputCharacter 19 = .ok (.ldc_w 340, 3) := by decide +kernel
theorem dX12_outputCharacter_22 : decode cX12_outputCharacter 22 = .ok (.invokespecial 165, 3) := by decide +kernel
theorem dX12_outputCharacter_25 : decode cX12_outputCharacter 25 = .ok (.athrow, 1) := by decide +kernel
theorem dX12_outputCharacter_26 : decode cX12_outputCharacter 26 = .ok (.aload_n 0, 1) := by decide +kernel
theorem dX12_outputCharacter_27 : decode cX12_outputCharacter 27 = .ok (.getfield 24, 3) := by decide +kernel
theorem dX12_outputCharacter_30 : decode cX12_outputCharacter 30 = .ok (.iload_n 1, 1) := by decide +kernel
theorem dX12_outputCharacter_31 : decode cX12_outputCharacter 31 = .ok (.invokevirtual 342, 3) := by decide +kernel
theorem dX12_outputCharacter_34 : decode cX12_outputCharacter 34 = .ok (.ireturn, 1) := by decide +kernel
theorem dX12_isConsistent_0 : decode cX12_isConsistent 0 = .ok (.iconst 0, 1) := by decide +kernel
theorem dX12_isConsistent_1 : decode cX12_isConsistent 1 = .ok (.istore_n 1, 1) := by decide +kernel
theorem dX12_isConsistent_2 : decode cX12_isConsistent 2 = .ok (.iload_n 1, 1) := by decide +kernel
theorem dX12_isConsistent_3 : decode cX12_isConsistent 3 = .ok (.aload_n 0, 1) := by decide +kernel
theorem dX12_isConsistent_4 : decode cX12_isConsistent 4 = .ok (.getfield 59, 3) := by decide +kernel
theorem dX12_isConsistent_7 : decode cX12_isConsistent 7 = .ok (.getfield 98, 3) := by decide +kernel
theorem dX12_isConsistent_10 : decode cX12_isConsistent 10 = .ok (.invokevirtual 101, 3) := by decide +kernel
theorem dX12_isConsistent_13 : decode cX12_isConsistent 13 = .ok (.if_icmp .ge 42, 3) := by decide +kernel
theorem dX12_isConsistent_16 : decode cX12_isConsistent 16 = .ok (.aload_n 0, 1) := by decide +kernel
theorem dX12_isConsistent_17 : decode cX12_isConsistent 17 = .ok (.getfield 59, 3) := by decide +kernel
theorem dX12_isConsistent_20 : decode cX12_isConsistent 20 = .ok (.getfield 98, 3) := by decide +kernel
theorem dX12_isConsistent_23 : decode cX12_isConsistent 23 = .ok (.iload_n 1, 1) := by decide +kernel
theorem dX12_isConsistent_24 : decode cX12_isConsistent 24 = .ok (.invokevirtual 166, 3) := by decide +kernel
theorem dX12_isConsistent_27 : decode cX12_isConsistent 27 = .ok (.checkcast 170, 3) := by decide +kernel
theorem dX12_isConsistent_30 : decode cX12_isConsistent 30 = .ok (.astore_n 2, 1) := by decide +kernel
theorem dX12_isConsistent_31 : decode cX12_isConsistent 31 = .ok (.aload_n 0, 1) := by decide +kernel
theorem dX12_isConsistent_32 : decode cX12_isConsistent 32 = .ok (.aload_n 2, 1) := by decide +kernel
theorem dX12_isConsistent_33 : decode cX12_isConsistent 33 = .ok (.invokevirtual 346, 3) := by decide +kernel
theorem dX12_isConsistent_36 : decode cX12_isConsistent 36 = .ok (.ifCond .eq 11, 3) := by decide +kernel
theorem dX12_isConsistent_39 : decode cX12_isConsistent 39 = .ok (.aload_n 0, 1) := by decide +kernel
theorem dX12_isConsistent_40 : decode cX12_isConsistent 40 = .ok (.aload_n 2, 1) := by decide +kernel
theorem dX12_isConsistent_41 : decode cX12_isConsistent 41 = .ok (.invokevirtual 350, 3) := by decide +kernel
theorem dX12_isConsistent_44 : decode cX12_isConsistent 44 = .ok (.ifCond .ne 5, 3) := by decide +kernel
theorem dX12_isConsistent_47 : decode cX12_isConsistent 47 = .ok (.iconst 0, 1) := by decide +kernel
theorem dX12_isConsistent_48 : decode cX12_isConsistent 48 = .ok (.ireturn, 1) := by decide +kernel
theorem dX12_isConsistent_49 : decode cX12_isConsistent 49 = .ok (.iinc 1 1, 3) := by decide +kernel
theorem dX12_isConsistent_52 : decode cX12_isConsistent 52 = .ok (.goto (-50), 3) := by decide +kernel
theorem dX12_isConsistent_55 : decode cX12_isConsistent 55 = .ok (.iconst 1, 1) := by decide +kernel
theorem dX12_isConsistent_56 : decode cX12_isConsistent 56 = .ok (.ireturn, 1) := by decide +kernel
theorem dX12_feed_0 : decode cX12_feed 0 = .ok (.aload_n 0, 1) := by decide +kernel
theorem dX12_feed_1 : decode cX12_feed 1 = .ok (.getfield 18, 3) := by decide +kernel
theorem dX12_feed_4 : decode cX12_feed 4 = .ok (.iload_n 1, 1) := by decide +kernel
theorem dX12_feed_5 : decode cX12_feed 5 = .ok (.invokevirtual 80, 3) := by decide +kernel
theorem dX12_feed_8 : decode cX12_feed 8 = .ok (.ifCond .ne 14, 3) := by decide +kernel
theorem dX12_feed_11 : decode cX12_feed 11 = .ok (.new 84, 3) := by decide +kernel
theorem dX12_feed_14 : decode cX12_feed 14 = .ok (.dup, 1) := by decide +kernel
theorem dX12_feed_15 : decode cX12_feed 15 = .ok (.ldc_w 353, 3) := by decide +kernel
theorem dX12_feed_18 : decode cX12_feed 18 = .ok (.invokespecial 88, 3) := by decide +kernel
theorem dX12_feed_21 : decode cX12_feed 21 = .ok (.athrow, 1) := by decide +kernel
theorem dX12_feed_22 : decode cX12_feed 22 = .ok (.aload_n 0, 1) := by decide +kernel
theorem dX12_feed_23 : decode cX12_feed 23 = .ok (.getfield 18, 3) := by decide +kernel
theorem dX12_feed_26 : decode cX12_feed 26 = .ok (.getfield 89, 3) := by decide +kernel
theorem dX12_feed_29 : decode cX12_feed 29 = .ok (.ireturn, 1) := by decide +kernel
theorem dX12_execute_0 : decode cX12_execute 0 = .ok (.aload_n 0, 1) := by decide +kernel
theorem dX12_execute_1 : decode cX12_execute 1 = .ok (.getfield 45, 3) := by decide +kernel
theorem dX12_execute_4 : decode cX12_execute 4 = .ok (.aload_n 0, 1) := by decide +kernel
theorem dX12_execute_5 : decode cX12_execute 5 = .ok (.getfield 18, 3) := by decide +kernel
theorem dX12_execute_8 : decode cX12_execute 8 = .ok (.invokevirtual 355, 3) := by decide +kernel
theorem dX12_execute_11 : decode cX12_execute 11 = .ok (.istore_n 1, 1) := by decide +kernel
theorem dX12_execute_12 : decode cX12_execute 12 = .ok (.aload_n 0, 1) := by decide +kernel
theorem dX12_execute_13 : decode cX12_execute 13 = .ok (.getfield 18, 3) := by decide +kernel
theorem dX12_execute_16 : decode cX12_execute 16 = .ok (.invokevirtual 92, 3) := by decide +kernel
theorem dX12_execute_19 : decode cX12_execute 19 = .ok (.pop, 1) := by decide +kernel
theorem dX12_execute_20 : decode cX12_execute 20 = .ok (.iload_n 1, 1) := by decide +kernel
theorem dX12_execute_21 : decode cX12_execute 21 = .ok (.ifCond .ne 25, 3) := by decide +kernel
theorem dX12_execute_24 : decode cX12_execute 24 = .ok (.aload_n 0, 1) := by decide +kernel
theorem dX12_execute_25 : decode cX12_execute 25 = .ok (.aload_n 0, 1) := by decide +kernel
theorem dX12_execute_26 : decode cX12_execute 26 = .ok (.getfield 45, 3) := by decide +kernel
theorem dX12_execute_29 : decode cX12_execute 29 = .ok (.getfield 359, 3) := by decide +kernel
theorem dX12_execute_32 : decode cX12_execute 32 = .ok (.putfield 66, 3) := by decide +kernel
theorem dX12_execute_35 : decode cX12_execute 35 = .ok (.new 73, 3) := by decide +kernel
theorem dX12_execute_38 : decode cX12_execute 38 = .ok (.dup, 1) := by decide +kernel
theorem dX12_execute_39 : decode cX12_execute 39 = .ok (.ldc_w 362, 3) := by decide +kernel
theorem dX12_execute_42 : decode cX12_execute 42 = .ok (.invokespecial 77, 3) := by decide +kernel
theorem dX12_execute_45 : decode cX12_execute 45 = .ok (.athrow, 1) := by decide +kernel
theorem dX12_execute_46 : decode cX12_execute 46 = .ok (.aload_n 0, 1) := by decide +kernel
theorem dX12_execute_47 : decode cX12_execute 47 = .ok (.getfield 45, 3) := by decide +kernel
theorem dX12_execute_50 : decode cX12_execute 50 = .ok (.getfield 364, 3) := by decide +kernel
theorem dX12_execute_53 : decode cX12_execute 53 = .ok (.astore_n 2, 1) := by decide +kernel
theorem dX12_execute_54 : decode cX12_execute 54 = .ok (.aload_n 0, 1) := by decide +kernel
theorem dX12_execute_55 : decode cX12_execute 55 = .ok (.getfield 59, 3) := by decide +kernel
theorem dX12_execute_58 : decode cX12_execute 58 = .ok (.invokevirtual 115, 3) := by decide +kernel
theorem dX12_execute_61 : decode cX12_execute 61 = .ok (.astore_n 3, 1) := by decide +kernel
theorem dX12_execute_62 : decode cX12_execute 62 = .ok (.iconst 0, 1) := by decide +kernel
theorem dX12_execute_63 : decode cX12_execute 63 = .ok (.istore 4, 2) := by decide +kernel
theorem dX12_execute_65 : decode cX12_execute 65 = .ok (.iload 4, 2) := by decide +kernel
theorem dX12_execute_67 : decode cX12_execute 67 = .ok (.aload_n 2, 1) := by decide +kernel
theorem dX12_execute_68 : decode cX12_execute 68 = .ok (.invokevirtual 101, 3) := by decide +kernel
theorem dX12_execute_71 : decode cX12_execute 71 = .ok (.if_icmp .ge 43, 3) := by decide +kernel
theorem dX12_execute_74 : decode cX12_execute 74 = .ok (.aload_n 0, 1) := by decide +kernel
theorem dX12_execute_75 : decode cX12_execute 75 = .ok (.aload_n 2, 1) := by decide +kernel
theorem dX12_execute_76 : decode cX12_execute 76 = .ok (.iload 4, 2) := by decide +kernel
theorem dX12_execute_78 : decode cX12_execute 78 = .ok (.invokevirtual 166, 3) := by decide +kernel
theorem dX12_execute_81 : decode cX12_execute 81 = .ok (.checkcast 367, 3) := by decide +kernel
theorem dX12_execute_84 : decode cX12_execute 84 = .ok (.aload_n 3, 1) := by decide +kernel
theorem dX12_execute_85 : decode cX12_execute 85 = .ok (.invokevirtual 369, 3) := by decide +kernel
theorem dX12_execute_88 : decode cX12_execute 88 = .ok (.ifCond .ne 20, 3) := by decide +kernel
theorem dX12_execute_91 : decode cX12_execute 91 = .ok (.aload_n 0, 1) := by decide +kernel
theorem dX12_execute_92 : decode cX12_execute 92 = .ok (.iload 4, 2) := by decide +kernel
theorem dX12_execute_94 : decode cX12_execute 94 = .ok (.putfield 70, 3) := by decide +kernel
theorem dX12_execute_97 : decode cX12_execute 97 = .ok (.new 110, 3) := by decide +kernel
theorem dX12_execute_100 : decode cX12_execute 100 = .ok (.dup, 1) := by decide +kernel
theorem dX12_execute_101 : decode cX12_execute 101 = .ok (.ldc_w 373, 3) := by decide +kernel
theorem dX12_execute_104 : decode cX12_execute 104 = .ok (.invokespecial 114, 3) := by decide +kernel
theorem dX12_execute_107 : decode cX12_execute 107 = .ok (.athrow, 1) := by decide +kernel
theorem dX12_execute_108 : decode cX12_execute 108 = .ok (.iinc 4 1, 3) := by decide +kernel
theorem dX12_execute_111 : decode cX12_execute 111 = .ok (.goto (-46), 3) := by decide +kernel
theorem dX12_execute_114 : decode cX12_execute 114 = .ok (.aload_n 0, 1) := by decide +kernel
theorem dX12_execute_115 : decode cX12_execute 115 = .ok (.aload_n 3, 1) := by decide +kernel
theorem dX12_execute_116 : decode cX12_execute 116 = .ok (.invokevirtual 127, 3) := by decide +kernel
theorem dX12_execute_119 : decode cX12_execute 119 = .ok (.aload_n 2, 1) := by decide +kernel
theorem dX12_execute_120 : decode cX12_execute 120 = .ok (.invokevirtual 101, 3) := by decide +kernel
theorem dX12_execute_123 : decode cX12_execute 123 = .ok (.ireturn, 1) := by decide +kernel
theorem dX12_undo_0 : decode cX12_undo 0 = .ok (.aload_n 0, 1) := by decide +kernel
theorem dX12_undo_1 : decode cX12_undo 1 = .ok (.getfield 52, 3) := by decide +kernel
theorem dX12_undo_4 : decode cX12_undo 4 = .ok (.invokevirtual 101, 3) := by decide +kernel
theorem dX12_undo_7 : decode cX12_undo 7 = .ok (.iconst 1, 1) := by decide +kernel
theorem dX12_undo_8 : decode cX12_undo 8 = .ok (.isub, 1) := by decide +kernel
theorem dX12_undo_9 : decode cX12_undo 9 = .ok (.istore_n 1, 1) := by decide +kernel
theorem dX12_undo_10 : decode cX12_undo 10 = .ok (.iload_n 1, 1) := by decide +kernel
theorem dX12_undo_11 : decode cX12_undo 11 = .ok (.ifCond .ge 14, 3) := by decide +kernel
theorem dX12_undo_14 : decode cX12_undo 14 = .ok (.new 84, 3) := by decide +kernel
theorem dX12_undo_17 : decode cX12_undo 17 = .ok (.dup, 1) := by decide +kernel
theorem dX12_undo_18 : decode cX12_undo 18 = .ok (.ldc_w 379, 3) := by decide +kernel
theorem dX12_undo_21 : decode cX12_undo 21 = .ok (.invokespecial 88, 3) := by decide +kernel
theorem dX12_undo_24 : decode cX12_undo 24 = .ok (.athrow, 1) := by decide +kernel
theorem dX12_undo_25 : decode cX12_undo 25 = .ok (.aload_n 0, 1) := by decide +kernel
theorem dX12_undo_26 : decode cX12_undo 26 = .ok (.aload_n 0, 1) := by decide +kernel
theorem dX12_undo_27 : decode cX12_undo 27 = .ok (.getfield 52, 3) := by decide +kernel
theorem dX12_undo_30 : decode cX12_undo 30 = .ok (.iload_n 1, 1) := by decide +kernel
theorem dX12_undo_31 : decode cX12_undo 31 = .ok (.invokevirtual 381, 3) := by decide +kernel
theorem dX12_undo_34 : decode cX12_undo 34 = .ok (.checkcast 56, 3) := by decide +kernel
theorem dX12_undo_37 : decode cX12_undo 37 = .ok (.putfield 59, 3) := by decide +kernel
theorem dX12_undo_40 : decode cX12_undo 40 = .ok (.iload_n 1, 1) := by decide +kernel
theorem dX12_undo_41 : decode cX12_undo 41 = .ok (.ireturn, 1) := by decide +kernel
theorem dX12_undoCount_0 : decode cX12_undoCount 0 = .ok (.aload_n 0, 1) := by decide +kernel
theorem dX12_undoCount_1 : decode cX12_undoCount 1 = .ok (.getfield 52, 3) := by decide +kernel
theorem dX12_undoCount_4 : decode cX12_undoCount 4 = .ok (.invokevirtual 101, 3) := by decide +kernel
theorem dX12_undoCount_7 : decode cX12_undoCount 7 = .ok (.ireturn, 1) := by decide +kernel
theorem dX12_become_0 : decode cX12_become 0 = .ok (.aload_n 0, 1) := by decide +kernel
theorem dX12_become_1 : decode cX12_become 1 = .ok (.getfield 52, 3) := by decide +kernel
theorem dX12_become_4 : decode cX12_become 4 = .ok (.aload_n 0, 1) := by decide +kernel
theorem dX12_become_5 : decode cX12_become 5 = .ok (.getfield 59, 3) := by decide +kernel
theorem dX12_become_8 : decode cX12_become 8 = .ok (.invokevirtual 389, 3) := by decide +kernel
theorem dX12_become_11 : decode cX12_become 11 = .ok (.pop, 1) := by decide +kernel
theorem dX12_become_12 : decode cX12_become 12 = .ok (.aload_n 0, 1) := by decide +kernel
theorem dX12_become_13 : decode cX12_become 13 = .ok (.getfield 52, 3) := by decide +kernel
theorem dX12_become_16 : decode cX12_become 16 = .ok (.invokevirtual 101, 3) := by decide +kernel
theorem dX12_become_19 : decode cX12_become 19 = .ok (.bipush 8, 2) := by decide +kernel
theorem dX12_become_21 : decode cX12_become 21 = .ok (.if_icmp .le 12, 3) := by decide +kernel
theorem dX12_become_24 : decode cX12_become 24 = .ok (.aload_n 0, 1) := by decide +kernel
theorem dX12_become_25 : decode cX12_become 25 = .ok (.getfield 52, 3) := by decide +kernel
theorem dX12_become_28 : decode cX12_become 28 = .ok (.iconst 0, 1) := by decide +kernel
theorem dX12_become_29 : decode cX12_become 29 = .ok (.invokevirtual 381, 3) := by decide +kernel
theorem dX12_become_32 : decode cX12_become 32 = .ok (.pop, 1) := by decide +kernel
theorem dX12_become_33 : decode cX12_become 33 = .ok (.aload_n 0, 1) := by decide +kernel
theorem dX12_become_34 : decode cX12_become 34 = .ok (.aload_n 1, 1) := by decide +kernel
theorem dX12_become_35 : decode cX12_become 35 = .ok (.putfield 59, 3) := by decide +kernel
theorem dX12_become_38 : decode cX12_become 38 = .ok (.return_, 1) := by decide +kernel
theorem dX12_knownArticle_0 : decode cX12_knownArticle 0 = .ok (.aload_n 0, 1) := by decide +kernel
theorem dX12_knownArticle_1 : decode cX12_knownArticle 1 = .ok (.getfield 59, 3) := by decide +kernel
theorem dX12_knownArticle_4 : decode cX12_knownArticle 4 = .ok (.iload_n 1, 1) := by decide +kernel
theorem dX12_knownArticle_5 : decode cX12_knownArticle 5 = .ok (.invokevirtual 393, 3) := by decide +kernel
theorem dX12_knownArticle_8 : decode cX12_knownArticle 8 = .ok (.astore_n 2, 1) := by decide +kernel
theorem dX12_knownArticle_9 : decode cX12_knownArticle 9 = .ok (.aload_n 2, 1) := by decide +kernel
theorem dX12_knownArticle_10 : decode cX12_knownArticle 10 = .ok (.ifnonnull 13, 3) := by decide +kernel
theorem dX12_knownArticle_13 : decode cX12_knownArticle 13 = .ok (.new 135, 3) := by decide +kernel
theorem dX12_knownArticle_16 : decode cX12_knownArticle 16 = .ok (.dup, 1) := by decide +kernel
theorem dX12_knownArticle_17 : decode cX12_knownArticle 17 = .ok (.ldc 137, 2) := by decide +kernel
theorem dX12_knownArticle_19 : decode cX12_knownArticle 19 = .ok (.invokespecial 139, 3) := by decide +kernel
theorem dX12_knownArticle_22 : decode cX12_knownArticle 22 = .ok (.athrow, 1) := by decide +kernel
theorem dX12_knownArticle_23 : decode cX12_knownArticle 23 = .ok (.aload_n 2, 1) := by decide +kernel
theorem dX12_knownArticle_24 : decode cX12_knownArticle 24 = .ok (.areturn, 1) := by decide +kernel
theorem dX12_knownWord_0 : decode cX12_knownWord 0 = .ok (.aload_n 0, 1) := by decide +kernel
theorem dX12_knownWord_1 : decode cX12_knownWord 1 = .ok (.iload_n 1, 1) := by decide +kernel
theorem dX12_knownWord_2 : decode cX12_knownWord 2 = .ok (.invokevirtual 181, 3) := by decide +kernel
theorem dX12_knownWord_5 : decode cX12_knownWord 5 = .ok (.astore_n 3, 1) := by decide +kernel
theorem dX12_knownWord_6 : decode cX12_knownWord 6 = .ok (.iload_n 2, 1) := by decide +kernel
theorem dX12_knownWord_7 : decode cX12_knownWord 7 = .ok (.ifCond .lt 12, 3) := by decide +kernel
theorem dX12_knownWord_10 : decode cX12_knownWord 10 = .ok (.iload_n 2, 1) := by decide +kernel
theorem dX12_knownWord_11 : decode cX12_knownWord 11 = .ok (.aload_n 3, 1) := by decide +kernel
theorem dX12_knownWord_12 : decode cX12_knownWord 12 = .ok (.getfield 187, 3) := by decide +kernel
theorem dX12_knownWord_15 : decode cX12_knownWord 15 = .ok (.arraylength, 1) := by decide +kernel
theorem dX12_knownWord_16 : decode cX12_knownWord 16 = .ok (.if_icmp .lt 14, 3) := by decide +kernel
theorem dX12_knownWord_19 : decode cX12_knownWord 19 = .ok (.new 161, 3) := by decide +kernel
theorem dX12_knownWord_22 : decode cX12_knownWord 22 = .ok (.dup, 1) := by decide +kernel
theorem dX12_knownWord_23 : decode cX12_knownWord 23 = .ok (.ldc_w 396, 3) := by decide +kernel
theorem dX12_knownWord_26 : decode cX12_knownWord 26 = .ok (.invokespecial 165, 3) := by decide +kernel
theorem dX12_knownWord_29 : decode cX12_knownWord 29 = .ok (.athrow, 1) := by decide +kernel
theorem dX12_knownWord_30 : decode cX12_knownWord 30 = .ok (.aload_n 3, 1) := by decide +kernel
theorem dX12_knownWord_31 : decode cX12_knownWord 31 = .ok (.getfield 187, 3) := by decide +kernel
theorem dX12_knownWord_34 : decode cX12_knownWord 34 = .ok (.iload_n 2, 1) := by decide +kernel
theorem dX12_knownWord_35 : decode cX12_knownWord 35 = .ok (.aaload, 1) := by decide +kernel
theorem dX12_knownWord_36 : decode cX12_knownWord 36 = .ok (.areturn, 1) := by decide +kernel
theorem dX12_knownNarrowArticle_0 : decode cX12_knownNarrowArticle 0 = .ok (.aload_n 0, 1) := by decide +kernel
theorem dX12_knownNarrowArticle_1 : decode cX12_knownNarrowArticle 1 = .ok (.iload_n 1, 1) := by decide +kernel
theorem dX12_knownNarrowArticle_2 : decode cX12_knownNarrowArticle 2 = .ok (.invokevirtual 181, 3) := by decide +kernel
theorem dX12_knownNarrowArticle_5 : decode cX12_knownNarrowArticle 5 = .ok (.astore_n 2, 1) := by decide +kernel
theorem dX12_knownNarrowArticle_6 : decode cX12_knownNarrowArticle 6 = .ok (.aload_n 2, 1) := by decide +kernel
theorem dX12_knownNarrowArticle_7 : decode cX12_knownNarrowArticle 7 = .ok (.invokevirtual 398, 3) := by decide +kernel
theorem dX12_knownNarrowArticle_10 : decode cX12_knownNarrowArticle 10 = .ok (.aload_n 0, 1) := by decide +kernel
theorem dX12_knownNarrowArticle_11 : decode cX12_knownNarrowArticle 11 = .ok (.getfield 59, 3) := by decide +kernel
theorem dX12_knownNarrowArticle_14 : decode cX12_knownNarrowArticle 14 = .ok (.getfield 205, 3) := by decide +kernel
theorem dX12_knownNarrowArticle_17 : decode cX12_knownNarrowArticle 17 = .ok (.if_icmp .le 14, 3) := by decide +kernel
theorem dX12_knownNarrowArticle_20 : decode cX12_knownNarrowArticle 20 = .ok (.new 110, 3) := by decide +kernel
theorem dX12_knownNarrowArticle_23 : decode cX12_knownNarrowArticle 23 = .ok (.dup, 1) := by decide +kernel
theorem dX12_knownNarrowArticle_24 : decode cX12_knownNarrowArticle 24 = .ok (.ldc_w 401, 3) := by decide +kernel
theorem dX12_knownNarrowArticle_27 : decode cX12_knownNarrowArticle 27 = .ok (.invokespecial 114, 3) := by decide +kernel
theorem dX12_knownNarrowArticle_30 : decode cX12_knownNarrowArticle 30 = .ok (.athrow, 1) := by decide +kernel
theorem dX12_knownNarrowArticle_31 : decode cX12_knownNarrowArticle 31 = .ok (.aload_n 2, 1) := by decide +kernel
theorem dX12_knownNarrowArticle_32 : decode cX12_knownNarrowArticle 32 = .ok (.areturn, 1) := by decide +kernel
theorem dX12_arrangeKnown_0 : decode cX12_arrangeKnown 0 = .ok (.aload_n 0, 1) := by decide +kernel
theorem dX12_arrangeKnown_1 : decode cX12_arrangeKnown 1 = .ok (.getfield 31, 3) := by decide +kernel
theorem dX12_arrangeKnown_4 : decode cX12_arrangeKnown 4 = .ok (.aload_n 0, 1) := by decide +kernel
theorem dX12_arrangeKnown_5 : decode cX12_arrangeKnown 5 = .ok (.iload_n 1, 1) := by decide +kernel
theorem dX12_arrangeKnown_6 : decode cX12_arrangeKnown 6 = .ok (.invokevirtual 181, 3) := by decide +kernel
theorem dX12_arrangeKnown_9 : decode cX12_arrangeKnown 9 = .ok (.aload_n 0, 1) := by decide +kernel
theorem dX12_arrangeKnown_10 : decode cX12_arrangeKnown 10 = .ok (.getfield 59, 3) := by decide +kernel
theorem dX12_arrangeKnown_13 : decode cX12_arrangeKnown 13 = .ok (.getfield 205, 3) := by decide +kernel
theorem dX12_arrangeKnown_16 : decode cX12_arrangeKnown 16 = .ok (.invokevirtual 208, 3) := by decide +kernel
theorem dX12_arrangeKnown_19 : decode cX12_arrangeKnown 19 = .ok (.ifCond .ne 14, 3) := by decide +kernel
theorem dX12_arrangeKnown_22 : decode cX12_arrangeKnown 22 = .ok (.new 110, 3) := by decide +kernel
theorem dX12_arrangeKnown_25 : decode cX12_arrangeKnown 25 = .ok (.dup, 1) := by decide +kernel
theorem dX12_arrangeKnown_26 : decode cX12_arrangeKnown 26 = .ok (.ldc_w 403, 3) := by decide +kernel
theorem dX12_arrangeKnown_29 : decode cX12_arrangeKnown 29 = .ok (.invokespecial 114, 3) := by decide +kernel
theorem dX12_arrangeKnown_32 : decode cX12_arrangeKnown 32 = .ok (.athrow, 1) := by decide +kernel
theorem dX12_arrangeKnown_33 : decode cX12_arrangeKnown 33 = .ok (.return_, 1) := by decide +kernel
theorem dX12_arrangeKnownLine_0 : decode cX12_arrangeKnownLine 0 = .ok (.aload_n 0, 1) := by decide +kernel
theorem dX12_arrangeKnownLine_1 : decode cX12_arrangeKnownLine 1 = .ok (.iload_n 1, 1) := by decide +kernel
theorem dX12_arrangeKnownLine_2 : decode cX12_arrangeKnownLine 2 = .ok (.invokevirtual 212, 3) := by decide +kernel
theorem dX12_arrangeKnownLine_5 : decode cX12_arrangeKnownLine 5 = .ok (.iload_n 2, 1) := by decide +kernel
theorem dX12_arrangeKnownLine_6 : decode cX12_arrangeKnownLine 6 = .ok (.ifCond .lt 14, 3) := by decide +kernel
theorem dX12_arrangeKnownLine_9 : decode cX12_arrangeKnownLine 9 = .ok (.iload_n 2, 1) := by decide +kernel
theorem dX12_arrangeKnownLine_10 : decode cX12_arrangeKnownLine 10 = .ok (.aload_n 0, 1) := by decide +kernel
theorem dX12_arrangeKnownLine_11 : decode cX12_arrangeKnownLine 11 = .ok (.getfield 31, 3) := by decide +kernel
theorem dX12_arrangeKnownLine_14 : decode cX12_arrangeKnownLine 14 = .ok (.getfield 215, 3) := by decide +kernel
theorem dX12_arrangeKnownLine_17 : decode cX12_arrangeKnownLine 17 = .ok (.if_icmp .lt 14, 3) := by decide +kernel
theorem dX12_arrangeKnownLine_20 : decode cX12_arrangeKnownLine 20 = .ok (.new 161, 3) := by decide +kernel
theorem dX12_arrangeKnownLine_23 : decode cX12_arrangeKnownLine 23 = .ok (.dup, 1) := by decide +kernel
theorem dX12_arrangeKnownLine_24 : decode cX12_arrangeKnownLine 24 = .ok (.ldc_w 405, 3) := by decide +kernel
theorem dX12_arrangeKnownLine_27 : decode cX12_arrangeKnownLine 27 = .ok (.invokespecial 165, 3) := by decide +kernel
theorem dX12_arrangeKnownLine_30 : decode cX12_arrangeKnownLine 30 = .ok (.athrow, 1) := by decide +kernel
theorem dX12_arrangeKnownLine_31 : decode cX12_arrangeKnownLine 31 = .ok (.return_, 1) := by decide +kernel
theorem dX12_knownIssue_0 : decode cX12_knownIssue 0 = .ok (.aload_n 0, 1) := by decide +kernel
theorem dX12_knownIssue_1 : decode cX12_knownIssue 1 = .ok (.getfield 59, 3) := by decide +kernel
theorem dX12_knownIssue_4 : decode cX12_knownIssue 4 = .ok (.iload_n 1, 1) := by decide +kernel
theorem dX12_knownIssue_5 : decode cX12_knownIssue 5 = .ok (.invokevirtual 266, 3) := by decide +kernel
theorem dX12_knownIssue_8 : decode cX12_knownIssue 8 = .ok (.astore_n 2, 1) := by decide +kernel
theorem dX12_knownIssue_9 : decode cX12_knownIssue 9 = .ok (.aload_n 2, 1) := by decide +kernel
theorem dX12_knownIssue_10 : decode cX12_knownIssue 10 = .ok (.ifnonnull 14, 3) := by decide +kernel
theorem dX12_knownIssue_13 : decode cX12_knownIssue 13 = .ok (.new 135, 3) := by decide +kernel
theorem dX12_knownIssue_16 : decode cX12_knownIssue 16 = .ok (.dup, 1) := by decide +kernel
theorem dX12_knownIssue_17 : decode cX12_knownIssue 17 = .ok (.ldc_w 407, 3) := by decide +kernel
theorem dX12_knownIssue_20 : decode cX12_knownIssue 20 = .ok (.invokespecial 139, 3) := by decide +kernel
theorem dX12_knownIssue_23 : decode cX12_knownIssue 23 = .ok (.athrow, 1) := by decide +kernel
theorem dX12_knownIssue_24 : decode cX12_knownIssue 24 = .ok (.aload_n 2, 1) := by decide +kernel
theorem dX12_knownIssue_25 : decode cX12_knownIssue 25 = .ok (.areturn, 1) := by decide +kernel
theorem dX12_knownPage_0 : decode cX12_knownPage 0 = .ok (.aload_n 0, 1) := by decide +kernel
theorem dX12_knownPage_1 : decode cX12_knownPage 1 = .ok (.iload_n 1, 1) := by decide +kernel
theorem dX12_knownPage_2 : decode cX12_knownPage 2 = .ok (.invokevirtual 270, 3) := by decide +kernel
theorem dX12_knownPage_5 : decode cX12_knownPage 5 = .ok (.getfield 273, 3) := by decide +kernel
theorem dX12_knownPage_8 : decode cX12_knownPage 8 = .ok (.astore_n 3, 1) := by decide +kernel
theorem dX12_knownPage_9 : decode cX12_knownPage 9 = .ok (.aload_n 3, 1) := by decide +kernel
theorem dX12_knownPage_10 : decode cX12_knownPage 10 = .ok (.iload_n 2, 1) := by decide +kernel
theorem dX12_knownPage_11 : decode cX12_knownPage 11 = .ok (.invokevirtual 291, 3) := by decide +kernel
theorem dX12_knownPage_14 : decode cX12_knownPage 14 = .ok (.iconst (-1), 1) := by decide +kernel
theorem dX12_knownPage_15 : decode cX12_knownPage 15 = .ok (.if_icmp .ne 14, 3) := by decide +kernel
theorem dX12_knownPage_18 : decode cX12_knownPage 18 = .ok (.new 135, 3) := by decide +kernel
theorem dX12_knownPage_21 : decode cX12_knownPage 21 = .ok (.dup, 1) := by decide +kernel
theorem dX12_knownPage_22 : decode cX12_knownPage 22 = .ok (.ldc_w 409, 3) := by decide +kernel
theorem dX12_knownPage_25 : decode cX12_knownPage 25 = .ok (.invokespecial 139, 3) := by decide +kernel
theorem dX12_knownPage_28 : decode cX12_knownPage 28 = .ok (.athrow, 1) := by decide +kernel
theorem dX12_knownPage_29 : decode cX12_knownPage 29 = .ok (.aload_n 3, 1) := by decide +kernel
theorem dX12_knownPage_30 : decode cX12_knownPage 30 = .ok (.areturn, 1) := by decide +kernel
theorem dX12_bitsOf_0 : decode cX12_bitsOf 0 = .ok (.iconst 0, 1) := by decide +kernel
theorem dX12_bitsOf_1 : decode cX12_bitsOf 1 = .ok (.istore_n 1, 1) := by decide +kernel
theorem dX12_bitsOf_2 : decode cX12_bitsOf 2 = .ok (.fload_n 0, 1) := by decide +kernel
theorem dX12_bitsOf_3 : decode cX12_bitsOf 3 = .ok (.fstore_n 2, 1) := by decide +kernel
theorem dX12_bitsOf_4 : decode cX12_bitsOf 4 = .ok (.iload_n 1, 1) := by decide +kernel
theorem dX12_bitsOf_5 : decode cX12_bitsOf 5 = .ok (.bipush 126, 2) := by decide +kernel
theorem dX12_bitsOf_7 : decode cX12_bitsOf 7 = .ok (.if_icmp .ge 19, 3) := by decide +kernel
theorem dX12_bitsOf_10 : decode cX12_bitsOf 10 = .ok (.fload_n 2, 1) := by decide +kernel
theorem dX12_bitsOf_11 : decode cX12_bitsOf 11 = .ok (.fconst 1, 1) := by decide +kernel
theorem dX12_bitsOf_12 : decode cX12_bitsOf 12 = .ok (.fcmp .g, 1) := by decide +kernel
theorem dX12_bitsOf_13 : decode cX12_bitsOf 13 = .ok (.ifCond .ge 13, 3) := by decide +kernel
theorem dX12_bitsOf_16 : decode cX12_bitsOf 16 = .ok (.fload_n 2, 1) := by decide +kernel
theorem dX12_bitsOf_17 : decode cX12_bitsOf 17 = .ok (.fconst 2, 1) := by decide +kernel
theorem dX12_bitsOf_18 : decode cX12_bitsOf 18 = .ok (.fmul, 1) := by decide +kernel
theorem dX12_bitsOf_19 : decode cX12_bitsOf 19 = .ok (.fstore_n 2, 1) := by decide +kernel
theorem dX12_bitsOf_20 : decode cX12_bitsOf 20 = .ok (.iinc 1 1, 3) := by decide +kernel
theorem dX12_bitsOf_23 : decode cX12_bitsOf 23 = .ok (.goto (-19), 3) := by decide +kernel
theorem dX12_bitsOf_26 : decode cX12_bitsOf 26 = .ok (.fload_n 2, 1) := by decide +kernel
theorem dX12_bitsOf_27 : decode cX12_bitsOf 27 = .ok (.fconst 1, 1) := by decide +kernel
theorem dX12_bitsOf_28 : decode cX12_bitsOf 28 = .ok (.fcmp .g, 1) := by decide +kernel
theorem dX12_bitsOf_29 : decode cX12_bitsOf 29 = .ok (.ifCond .ge 10, 3) := by decide +kernel
theorem dX12_bitsOf_32 : decode cX12_bitsOf 32 = .ok (.fload_n 2, 1) := by decide +kernel
theorem dX12_bitsOf_33 : decode cX12_bitsOf 33 = .ok (.ldc_w 411, 3) := by decide +kernel
theorem dX12_bitsOf_36 : decode cX12_bitsOf 36 = .ok (.fmul, 1) := by decide +kernel
theorem dX12_bitsOf_37 : decode cX12_bitsOf 37 = .ok (.f2i, 1) := by decide +kernel
theorem dX12_bitsOf_38 : decode cX12_bitsOf 38 = .ok (.ireturn, 1) := by decide +kernel
theorem dX12_bitsOf_39 : decode cX12_bitsOf 39 = .ok (.bipush 127, 2) := by decide +kernel
theorem dX12_bitsOf_41 : decode cX12_bitsOf 41 = .ok (.iload_n 1, 1) := by decide +kernel
theorem dX12_bitsOf_42 : decode cX12_bitsOf 42 = .ok (.isub, 1) := by decide +kernel
theorem dX12_bitsOf_43 : decode cX12_bitsOf 43 = .ok (.bipush 23, 2) := by decide +kernel
theorem dX12_bitsOf_45 : decode cX12_bitsOf 45 = .ok (.ishl, 1) := by decide +kernel
theorem dX12_bitsOf_46 : decode cX12_bitsOf 46 = .ok (.fload_n 2, 1) := by decide +kernel
theorem dX12_bitsOf_47 : decode cX12_bitsOf 47 = .ok (.fconst 1, 1) := by decide +kernel
theorem dX12_bitsOf_48 : decode cX12_bitsOf 48 = .ok (.fsub, 1) := by decide +kernel
theorem dX12_bitsOf_49 : decode cX12_bitsOf 49 = .ok (.ldc_w 411, 3) := by decide +kernel
theorem dX12_bitsOf_52 : decode cX12_bitsOf 52 = .ok (.fmul, 1) := by decide +kernel
theorem dX12_bitsOf_53 : decode cX12_bitsOf 53 = .ok (.f2i, 1) := by decide +kernel
theorem dX12_bitsOf_54 : decode cX12_bitsOf 54 = .ok (.ior, 1) := by decide +kernel
theorem dX12_bitsOf_55 : decode cX12_bitsOf 55 = .ok (.ireturn, 1) := by decide +kernel
theorem dX12_linesKeepWidth_0 : decode cX12_linesKeepWidth 0 = .ok (.aload_n 0, 1) := by decide +kernel
theorem dX12_linesKeepWidth_1 : decode cX12_linesKeepWidth 1 = .ok (.getfield 31, 3) := by decide +kernel
theorem dX12_linesKeepWidth_4 : decode cX12_linesKeepWidth 4 = .ok (.aload_n 1, 1) := by decide +kernel
theorem dX12_linesKeepWidth_5 : decode cX12_linesKeepWidth 5 = .ok (.aload_n 0, 1) := by decide +kernel
theorem dX12_linesKeepWidth_6 : decode cX12_linesKeepWidth 6 = .ok (.getfield 59, 3) := by decide +kernel
theorem dX12_linesKeepWidth_9 : decode cX12_linesKeepWidth 9 = .ok (.getfield 205, 3) := by decide +kernel
theorem dX12_linesKeepWidth_12 : decode cX12_linesKeepWidth 12 = .ok (.invokevirtual 208, 3) := by decide +kernel
theorem dX12_linesKeepWidth_15 : decode cX12_linesKeepWidth 15 = .ok (.ifCond .ne 5, 3) := by decide +kernel
theorem dX12_linesKeepWidth_18 : decode cX12_linesKeepWidth 18 = .ok (.iconst 1, 1) := by decide +kernel
theorem dX12_linesKeepWidth_19 : decode cX12_linesKeepWidth 19 = .ok (.ireturn, 1) := by decide +kernel
theorem dX12_linesKeepWidth_20 : decode cX12_linesKeepWidth 20 = .ok (.iconst 0, 1) := by decide +kernel
theorem dX12_linesKeepWidth_21 : decode cX12_linesKeepWidth 21 = .ok (.istore_n 2, 1) := by decide +kernel
theorem dX12_linesKeepWidth_22 : decode cX12_linesKeepWidth 22 = .ok (.iload_n 2, 1) := by decide +kernel
theorem dX12_linesKeepWidth_23 : decode cX12_linesKeepWidth 23 = .ok (.aload_n 0, 1) := by decide +kernel
theorem dX12_linesKeepWidth_24 : decode cX12_linesKeepWidth 24 = .ok (.getfield 31, 3) := by decide +kernel
theorem dX12_linesKeepWidth_27 : decode cX12_linesKeepWidth 27 = .ok (.getfield 215, 3) := by decide +kernel
theorem dX12_linesKeepWidth_30 : decode cX12_linesKeepWidth 30 = .ok (.if_icmp .ge 29, 3) := by decide +kernel
theorem dX12_linesKeepWidth_33 : decode cX12_linesKeepWidth 33 = .ok (.aload_n 0, 1) := by decide +kernel
theorem dX12_linesKeepWidth_34 : decode cX12_linesKeepWidth 34 = .ok (.getfield 31, 3) := by decide +kernel
theorem dX12_linesKeepWidth_37 : decode cX12_linesKeepWidth 37 = .ok (.iload_n 2, 1) := by decide +kernel
theorem dX12_linesKeepWidth_38 : decode cX12_linesKeepWidth 38 = .ok (.invokevirtual 222, 3) := by decide +kernel
theorem dX12_linesKeepWidth_41 : decode cX12_linesKeepWidth 41 = .ok (.aload_n 0, 1) := by decide +kernel
theorem dX12_linesKeepWidth_42 : decode cX12_linesKeepWidth 42 = .ok (.getfield 59, 3) := by decide +kernel
theorem dX12_linesKeepWidth_45 : decode cX12_linesKeepWidth 45 = .ok (.getfield 205, 3) := by decide +kernel
theorem dX12_linesKeepWidth_48 : decode cX12_linesKeepWidth 48 = .ok (.if_icmp .le 5, 3) := by decide +kernel
theorem dX12_linesKeepWidth_51 : decode cX12_linesKeepWidth 51 = .ok (.iconst 0, 1) := by decide +kernel
theorem dX12_linesKeepWidth_52 : decode cX12_linesKeepWidth 52 = .ok (.ireturn, 1) := by decide +kernel
theorem dX12_linesKeepWidth_53 : decode cX12_linesKeepWidth 53 = .ok (.iinc 2 1, 3) := by decide +kernel
theorem dX12_linesKeepWidth_56 : decode cX12_linesKeepWidth 56 = .ok (.goto (-34), 3) := by decide +kernel
theorem dX12_linesKeepWidth_59 : decode cX12_linesKeepWidth 59 = .ok (.iconst 1, 1) := by decide +kernel
theorem dX12_linesKeepWidth_60 : decode cX12_linesKeepWidth 60 = .ok (.ireturn, 1) := by decide +kernel
theorem dX12_badnessesAgree_0 : decode cX12_badnessesAgree 0 = .ok (.aload_n 1, 1) := by decide +kernel
theorem dX12_badnessesAgree_1 : decode cX12_badnessesAgree 1 = .ok (.invokevirtual 398, 3) := by decide +kernel
theorem dX12_badnessesAgree_4 : decode cX12_badnessesAgree 4 = .ok (.aload_n 0, 1) := by decide +kernel
theorem dX12_badnessesAgree_5 : decode cX12_badnessesAgree 5 = .ok (.getfield 59, 3) := by decide +kernel
theorem dX12_badnessesAgree_8 : decode cX12_badnessesAgree 8 = .ok (.getfield 205, 3) := by decide +kernel
theorem dX12_badnessesAgree_11 : decode cX12_badnessesAgree 11 = .ok (.if_icmp .le 5, 3) := by decide +kernel
theorem dX12_badnessesAgree_14 : decode cX12_badnessesAgree 14 = .ok (.iconst 1, 1) := by decide +kernel
theorem dX12_badnessesAgree_15 : decode cX12_badnessesAgree 15 = .ok (.ireturn, 1) := by decide +kernel
theorem dX12_badnessesAgree_16 : decode cX12_badnessesAgree 16 = .ok (.aload_n 0, 1) := by decide +kernel
theorem dX12_badnessesAgree_17 : decode cX12_badnessesAgree 17 = .ok (.getfield 38, 3) := by decide +kernel
theorem dX12_badnessesAgree_20 : decode cX12_badnessesAgree 20 = .ok (.aload_n 1, 1) := by decide +kernel
theorem dX12_badnessesAgree_21 : decode cX12_badnessesAgree 21 = .ok (.aload_n 0, 1) := by decide +kernel
theorem dX12_badnessesAgree_22 : decode cX12_badnessesAgree 22 = .ok (.getfield 59, 3) := by decide +kernel
theorem dX12_badnessesAgree_25 : decode cX12_badnessesAgree 25 = .ok (.getfield 205, 3) := by decide +kernel
theorem dX12_badnessesAgree_28 : decode cX12_badnessesAgree 28 = .ok (.invokevirtual 241, 3) := by decide +kernel
theorem dX12_badnessesAgree_31 : decode cX12_badnessesAgree 31 = .ok (.istore_n 2, 1) := by decide +kernel
theorem dX12_badnessesAgree_32 : decode cX12_badnessesAgree 32 = .ok (.iload_n 2, 1) := by decide +kernel
theorem dX12_badnessesAgree_33 : decode cX12_badnessesAgree 33 = .ok (.aload_n 0, 1) := by decide +kernel
theorem dX12_badnessesAgree_34 : decode cX12_badnessesAgree 34 = .ok (.getfield 38, 3) := by decide +kernel
theorem dX12_badnessesAgree_37 : decode cX12_badnessesAgree 37 = .ok (.aload_n 1, 1) := by decide +kernel
theorem dX12_badnessesAgree_38 : decode cX12_badnessesAgree 38 = .ok (.aload_n 0, 1) := by decide +kernel
theorem dX12_badnessesAgree_39 : decode cX12_badnessesAgree 39 = .ok (.getfield 59, 3) := by decide +kernel
theorem dX12_badnessesAgree_42 : decode cX12_badnessesAgree 42 = .ok (.getfield 205, 3) := by decide +kernel
theorem dX12_badnessesAgree_45 : decode cX12_badnessesAgree 45 = .ok (.invokevirtual 245, 3) := by decide +kernel
theorem dX12_badnessesAgree_48 : decode cX12_badnessesAgree 48 = .ok (.if_icmp .ne 7, 3) := by decide +kernel
theorem dX12_badnessesAgree_51 : decode cX12_badnessesAgree 51 = .ok (.iconst 1, 1) := by decide +kernel
theorem dX12_badnessesAgree_52 : decode cX12_badnessesAgree 52 = .ok (.goto 4, 3) := by decide +kernel
theorem dX12_badnessesAgree_55 : decode cX12_badnessesAgree 55 = .ok (.iconst 0, 1) := by decide +kernel
theorem dX12_badnessesAgree_56 : decode cX12_badnessesAgree 56 = .ok (.ireturn, 1) := by decide +kernel
theorem dX12_carryOut_0 : decode cX12_carryOut 0 = .ok (.getstatic 412, 3) := by decide +kernel
theorem dX12_carryOut_3 : decode cX12_carryOut 3 = .ok (.aload_n 1, 1) := by decide +kernel
theorem dX12_carryOut_4 : decode cX12_carryOut 4 = .ok (.getfield 418, 3) := by decide +kernel
theorem dX12_carryOut_7 : decode cX12_carryOut 7 = .ok (.invokevirtual 422, 3) := by decide +kernel
theorem dX12_carryOut_10 : decode cX12_carryOut 10 = .ok (.iaload, 1) := by decide +kernel
theorem dX12_carryOut_11 : decode cX12_carryOut 11 = .ok (.tableswitch 82 1 5 #[33, 42, 55, 64, 73], 33) := by decide +kernel
theorem dX12_carryOut_44 : decode cX12_carryOut 44 = .ok (.aload_n 2, 1) := by decide +kernel
theorem dX12_carryOut_45 : decode cX12_carryOut 45 = .ok (.aload_n 1, 1) := by decide +kernel
theorem dX12_carryOut_46 : decode cX12_carryOut 46 = .ok (.getfield 427, 3) := by decide +kernel
theorem dX12_carryOut_49 : decode cX12_carryOut 49 = .ok (.invokevirtual 200, 3) := by decide +kernel
theorem dX12_carryOut_52 : decode cX12_carryOut 52 = .ok (.ireturn, 1) := by decide +kernel
theorem dX12_carryOut_53 : decode cX12_carryOut 53 = .ok (.aload_n 2, 1) := by decide +kernel
theorem dX12_carryOut_54 : decode cX12_carryOut 54 = .ok (.aload_n 1, 1) := by decide +kernel
theorem dX12_carryOut_55 : decode cX12_carryOut 55 = .ok (.getfield 427, 3) := by decide +kernel
theorem dX12_carryOut_58 : decode cX12_carryOut 58 = .ok (.aload_n 1, 1) := by decide +kernel
theorem dX12_carryOut_59 : decode cX12_carryOut 59 = .ok (.getfield 430, 3) := by decide +kernel
theorem dX12_carryOut_62 : decode cX12_carryOut 62 = .ok (.invokevirtual 248, 3) := by decide +kernel
theorem dX12_carryOut_65 : decode cX12_carryOut 65 = .ok (.ireturn, 1) := by decide +kernel
theorem dX12_carryOut_66 : decode cX12_carryOut 66 = .ok (.aload_n 2, 1) := by decide +kernel
theorem dX12_carryOut_67 : decode cX12_carryOut 67 = .ok (.aload_n 0, 1) := by decide +kernel
theorem dX12_carryOut_68 : decode cX12_carryOut 68 = .ok (.getfield 31, 3) := by decide +kernel
theorem dX12_carryOut_71 : decode cX12_carryOut 71 = .ok (.invokevirtual 257, 3) := by decide +kernel
theorem dX12_carryOut_74 : decode cX12_carryOut 74 = .ok (.ireturn, 1) := by decide +kernel
theorem dX12_carryOut_75 : decode cX12_carryOut 75 = .ok (.aload_n 2, 1) := by decide +kernel
theorem dX12_carryOut_76 : decode cX12_carryOut 76 = .ok (.aload_n 1, 1) := by decide +kernel
theorem dX12_carryOut_77 : decode cX12_carryOut 77 = .ok (.getfield 427, 3) := by decide +kernel
theorem dX12_carryOut_80 : decode cX12_carryOut 80 = .ok (.invokevirtual 304, 3) := by decide +kernel
theorem dX12_carryOut_83 : decode cX12_carryOut 83 = .ok (.ireturn, 1) := by decide +kernel
theorem dX12_carryOut_84 : decode cX12_carryOut 84 = .ok (.aload_n 2, 1) := by decide +kernel
theorem dX12_carryOut_85 : decode cX12_carryOut 85 = .ok (.aload_n 1, 1) := by decide +kernel
theorem dX12_carryOut_86 : decode cX12_carryOut 86 = .ok (.getfield 427, 3) := by decide +kernel
theorem dX12_carryOut_89 : decode cX12_carryOut 89 = .ok (.invokevirtual 131, 3) := by decide +kernel
theorem dX12_carryOut_92 : decode cX12_carryOut 92 = .ok (.ireturn, 1) := by decide +kernel
theorem dX12_carryOut_93 : decode cX12_carryOut 93 = .ok (.iconst 0, 1) := by decide +kernel
theorem dX12_carryOut_94 : decode cX12_carryOut 94 = .ok (.ireturn, 1) := by decide +kernel
