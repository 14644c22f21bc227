theorem dL_type_0 : decode cL_type 0 = .ok (.aload_n 2, 1) := by decide +kernel
theorem dL_type_1 : decode cL_type 1 = .ok (.iconst 0, 1) := by decide +kernel
theorem dL_type_2 : decode cL_type 2 = .ok (.aload_n 0, 1) := by decide +kernel
theorem dL_type_3 : decode cL_type 3 = .ok (.iload_n 1, 1) := by decide +kernel
theorem dL_type_4 : decode cL_type 4 = .ok (.invokevirtual 7, 3) := by decide +kernel
theorem dL_type_7 : decode cL_type 7 = .ok (.i2l, 1) := by decide +kernel
theorem dL_type_8 : decode cL_type 8 = .ok (.lastore, 1) := by decide +kernel
theorem dL_type_9 : decode cL_type 9 = .ok (.goto 9, 3) := by decide +kernel
theorem dL_type_12 : decode cL_type 12 = .ok (.astore_n 3, 1) := by decide +kernel
theorem dL_type_13 : decode cL_type 13 = .ok (.iconst 1, 1) := by decide +kernel
theorem dL_type_14 : decode cL_type 14 = .ok (.ireturn, 1) := by decide +kernel
theorem dL_type_15 : decode cL_type 15 = .ok (.astore_n 3, 1) := by decide +kernel
theorem dL_type_16 : decode cL_type 16 = .ok (.iconst 2, 1) := by decide +kernel
theorem dL_type_17 : decode cL_type 17 = .ok (.ireturn, 1) := by decide +kernel
theorem dL_type_18 : decode cL_type 18 = .ok (.iconst 0, 1) := by decide +kernel
theorem dL_type_19 : decode cL_type 19 = .ok (.ireturn, 1) := by decide +kernel
theorem dL_addArticle_0 : decode cL_addArticle 0 = .ok (.aload_n 2, 1) := by decide +kernel
theorem dL_addArticle_1 : decode cL_addArticle 1 = .ok (.iconst 0, 1) := by decide +kernel
theorem dL_addArticle_2 : decode cL_addArticle 2 = .ok (.aload_n 0, 1) := by decide +kernel
theorem dL_addArticle_3 : decode cL_addArticle 3 = .ok (.iload_n 1, 1) := by decide +kernel
theorem dL_addArticle_4 : decode cL_addArticle 4 = .ok (.invokevirtual 17, 3) := by decide +kernel
theorem dL_addArticle_7 : decode cL_addArticle 7 = .ok (.i2l, 1) := by decide +kernel
theorem dL_addArticle_8 : decode cL_addArticle 8 = .ok (.lastore, 1) := by decide +kernel
theorem dL_addArticle_9 : decode cL_addArticle 9 = .ok (.goto 12, 3) := by decide +kernel
theorem dL_addArticle_12 : decode cL_addArticle 12 = .ok (.astore_n 3, 1) := by decide +kernel
theorem dL_addArticle_13 : decode cL_addArticle 13 = .ok (.iconst 1, 1) := by decide +kernel
theorem dL_addArticle_14 : decode cL_addArticle 14 = .ok (.ireturn, 1) := by decide +kernel
theorem dL_addArticle_15 : decode cL_addArticle 15 = .ok (.astore_n 3, 1) := by decide +kernel
theorem dL_addArticle_16 : decode cL_addArticle 16 = .ok (.iconst 2, 1) := by decide +kernel
theorem dL_addArticle_17 : decode cL_addArticle 17 = .ok (.ireturn, 1) := by decide +kernel
theorem dL_addArticle_18 : decode cL_addArticle 18 = .ok (.astore_n 3, 1) := by decide +kernel
theorem dL_addArticle_19 : decode cL_addArticle 19 = .ok (.iconst 3, 1) := by decide +kernel
theorem dL_addArticle_20 : decode cL_addArticle 20 = .ok (.ireturn, 1) := by decide +kernel
theorem dL_addArticle_21 : decode cL_addArticle 21 = .ok (.iconst 0, 1) := by decide +kernel
theorem dL_addArticle_22 : decode cL_addArticle 22 = .ok (.ireturn, 1) := by decide +kernel
theorem dL_removeArticle_0 : decode cL_removeArticle 0 = .ok (.aload_n 2, 1) := by decide +kernel
theorem dL_removeArticle_1 : decode cL_removeArticle 1 = .ok (.iconst 0, 1) := by decide +kernel
theorem dL_removeArticle_2 : decode cL_removeArticle 2 = .ok (.aload_n 0, 1) := by decide +kernel
theorem dL_removeArticle_3 : decode cL_removeArticle 3 = .ok (.iload_n 1, 1) := by decide +kernel
theorem dL_removeArticle_4 : decode cL_removeArticle 4 = .ok (.invokevirtual 23, 3) := by decide +kernel
theorem dL_removeArticle_7 : decode cL_removeArticle 7 = .ok (.i2l, 1) := by decide +kernel
theorem dL_removeArticle_8 : decode cL_removeArticle 8 = .ok (.lastore, 1) := by decide +kernel
theorem dL_removeArticle_9 : decode cL_removeArticle 9 = .ok (.goto 6, 3) := by decide +kernel
theorem dL_removeArticle_12 : decode cL_removeArticle 12 = .ok (.astore_n 3, 1) := by decide +kernel
theorem dL_removeArticle_13 : decode cL_removeArticle 13 = .ok (.iconst 1, 1) := by decide +kernel
theorem dL_removeArticle_14 : decode cL_removeArticle 14 = .ok (.ireturn, 1) := by decide +kernel
theorem dL_removeArticle_15 : decode cL_removeArticle 15 = .ok (.iconst 0, 1) := by decide +kernel
theorem dL_removeArticle_16 : decode cL_removeArticle 16 = .ok (.ireturn, 1) := by decide +kernel
theorem dL_correct_0 : decode cL_correct 0 = .ok (.aload_n 3, 1) := by decide +kernel
theorem dL_correct_1 : decode cL_correct 1 = .ok (.iconst 0, 1) := by decide +kernel
theorem dL_correct_2 : decode cL_correct 2 = .ok (.aload_n 0, 1) := by decide +kernel
theorem dL_correct_3 : decode cL_correct 3 = .ok (.iload_n 1, 1) := by decide +kernel
theorem dL_correct_4 : decode cL_correct 4 = .ok (.iload_n 2, 1) := by decide +kernel
theorem dL_correct_5 : decode cL_correct 5 = .ok (.invokevirtual 28, 3) := by decide +kernel
theorem dL_correct_8 : decode cL_correct 8 = .ok (.i2l, 1) := by decide +kernel
theorem dL_correct_9 : decode cL_correct 9 = .ok (.lastore, 1) := by decide +kernel
theorem dL_correct_10 : decode cL_correct 10 = .ok (.goto 15, 3) := by decide +kernel
theorem dL_correct_13 : decode cL_correct 13 = .ok (.astore 4, 2) := by decide +kernel
theorem dL_correct_15 : decode cL_correct 15 = .ok (.iconst 1, 1) := by decide +kernel
theorem dL_correct_16 : decode cL_correct 16 = .ok (.ireturn, 1) := by decide +kernel
theorem dL_correct_17 : decode cL_correct 17 = .ok (.astore 4, 2) := by decide +kernel
theorem dL_correct_19 : decode cL_correct 19 = .ok (.iconst 2, 1) := by decide +kernel
theorem dL_correct_20 : decode cL_correct 20 = .ok (.ireturn, 1) := by decide +kernel
theorem dL_correct_21 : decode cL_correct 21 = .ok (.astore 4, 2) := by decide +kernel
theorem dL_correct_23 : decode cL_correct 23 = .ok (.iconst 3, 1) := by decide +kernel
theorem dL_correct_24 : decode cL_correct 24 = .ok (.ireturn, 1) := by decide +kernel
theorem dL_correct_25 : decode cL_correct 25 = .ok (.iconst 0, 1) := by decide +kernel
theorem dL_correct_26 : decode cL_correct 26 = .ok (.ireturn, 1) := by decide +kernel
theorem dL_article_0 : decode cL_article 0 = .ok (.aload_n 2, 1) := by decide +kernel
theorem dL_article_1 : decode cL_article 1 = .ok (.iconst 0, 1) := by decide +kernel
theorem dL_article_2 : decode cL_article 2 = .ok (.aload_n 0, 1) := by decide +kernel
theorem dL_article_3 : decode cL_article 3 = .ok (.iload_n 1, 1) := by decide +kernel
theorem dL_article_4 : decode cL_article 4 = .ok (.invokevirtual 34, 3) := by decide +kernel
theorem dL_article_7 : decode cL_article 7 = .ok (.i2l, 1) := by decide +kernel
theorem dL_article_8 : decode cL_article 8 = .ok (.lastore, 1) := by decide +kernel
theorem dL_article_9 : decode cL_article 9 = .ok (.goto 6, 3) := by decide +kernel
theorem dL_article_12 : decode cL_article 12 = .ok (.astore_n 3, 1) := by decide +kernel
theorem dL_article_13 : decode cL_article 13 = .ok (.iconst 1, 1) := by decide +kernel
theorem dL_article_14 : decode cL_article 14 = .ok (.ireturn, 1) := by decide +kernel
theorem dL_article_15 : decode cL_article 15 = .ok (.iconst 0, 1) := by decide +kernel
theorem dL_article_16 : decode cL_article 16 = .ok (.ireturn, 1) := by decide +kernel
theorem dL_articleByPriority_0 : decode cL_articleByPriority 0 = .ok (.aload_n 2, 1) := by decide +kernel
theorem dL_articleByPriority_1 : decode cL_articleByPriority 1 = .ok (.iconst 0, 1) := by decide +kernel
theorem dL_articleByPriority_2 : decode cL_articleByPriority 2 = .ok (.aload_n 0, 1) := by decide +kernel
theorem dL_articleByPriority_3 : decode cL_articleByPriority 3 = .ok (.iload_n 1, 1) := by decide +kernel
theorem dL_articleByPriority_4 : decode cL_articleByPriority 4 = .ok (.invokevirtual 37, 3) := by decide +kernel
theorem dL_articleByPriority_7 : decode cL_articleByPriority 7 = .ok (.i2l, 1) := by decide +kernel
theorem dL_articleByPriority_8 : decode cL_articleByPriority 8 = .ok (.lastore, 1) := by decide +kernel
theorem dL_articleByPriority_9 : decode cL_articleByPriority 9 = .ok (.goto 6, 3) := by decide +kernel
theorem dL_articleByPriority_12 : decode cL_articleByPriority 12 = .ok (.astore_n 3, 1) := by decide +kernel
theorem dL_articleByPriority_13 : decode cL_articleByPriority 13 = .ok (.iconst 1, 1) := by decide +kernel
theorem dL_articleByPriority_14 : decode cL_articleByPriority 14 = .ok (.ireturn, 1) := by decide +kernel
theorem dL_articleByPriority_15 : decode cL_articleByPriority 15 = .ok (.iconst 0, 1) := by decide +kernel
theorem dL_articleByPriority_16 : decode cL_articleByPriority 16 = .ok (.ireturn, 1) := by decide +kernel
theorem dL_priority_0 : decode cL_priority 0 = .ok (.aload_n 2, 1) := by decide +kernel
theorem dL_priority_1 : decode cL_priority 1 = .ok (.iconst 0, 1) := by decide +kernel
theorem dL_priority_2 : decode cL_priority 2 = .ok (.aload_n 0, 1) := by decide +kernel
theorem dL_priority_3 : decode cL_priority 3 = .ok (.iload_n 1, 1) := by decide +kernel
theorem dL_priority_4 : decode cL_priority 4 = .ok (.invokevirtual 40, 3) := by decide +kernel
theorem dL_priority_7 : decode cL_priority 7 = .ok (.i2l, 1) := by decide +kernel
theorem dL_priority_8 : decode cL_priority 8 = .ok (.lastore, 1) := by decide +kernel
theorem dL_priority_9 : decode cL_priority 9 = .ok (.goto 6, 3) := by decide +kernel
theorem dL_priority_12 : decode cL_priority 12 = .ok (.astore_n 3, 1) := by decide +kernel
theorem dL_priority_13 : decode cL_priority 13 = .ok (.iconst 1, 1) := by decide +kernel
theorem dL_priority_14 : decode cL_priority 14 = .ok (.ireturn, 1) := by decide +kernel
theorem dL_priority_15 : decode cL_priority 15 = .ok (.iconst 0, 1) := by decide +kernel
theorem dL_priority_16 : decode cL_priority 16 = .ok (.ireturn, 1) := by decide +kernel
theorem dL_wordCount_0 : decode cL_wordCount 0 = .ok (.aload_n 2, 1) := by decide +kernel
theorem dL_wordCount_1 : decode cL_wordCount 1 = .ok (.iconst 0, 1) := by decide +kernel
theorem dL_wordCount_2 : decode cL_wordCount 2 = .ok (.aload_n 0, 1) := by decide +kernel
theorem dL_wordCount_3 : decode cL_wordCount 3 = .ok (.iload_n 1, 1) := by decide +kernel
theorem dL_wordCount_4 : decode cL_wordCount 4 = .ok (.invokevirtual 43, 3) := by decide +kernel
theorem dL_wordCount_7 : decode cL_wordCount 7 = .ok (.i2l, 1) := by decide +kernel
theorem dL_wordCount_8 : decode cL_wordCount 8 = .ok (.lastore, 1) := by decide +kernel
theorem dL_wordCount_9 : decode cL_wordCount 9 = .ok (.goto 6, 3) := by decide +kernel
theorem dL_wordCount_12 : decode cL_wordCount 12 = .ok (.astore_n 3, 1) := by decide +kernel
theorem dL_wordCount_13 : decode cL_wordCount 13 = .ok (.iconst 1, 1) := by decide +kernel
theorem dL_wordCount_14 : decode cL_wordCount 14 = .ok (.ireturn, 1) := by decide +kernel
theorem dL_wordCount_15 : decode cL_wordCount 15 = .ok (.iconst 0, 1) := by decide +kernel
theorem dL_wordCount_16 : decode cL_wordCount 16 = .ok (.ireturn, 1) := by decide +kernel
theorem dL_wordLength_0 : decode cL_wordLength 0 = .ok (.aload_n 3, 1) := by decide +kernel
theorem dL_wordLength_1 : decode cL_wordLength 1 = .ok (.iconst 0, 1) := by decide +kernel
theorem dL_wordLength_2 : decode cL_wordLength 2 = .ok (.aload_n 0, 1) := by decide +kernel
theorem dL_wordLength_3 : decode cL_wordLength 3 = .ok (.iload_n 1, 1) := by decide +kernel
theorem dL_wordLength_4 : decode cL_wordLength 4 = .ok (.iload_n 2, 1) := by decide +kernel
theorem dL_wordLength_5 : decode cL_wordLength 5 = .ok (.invokevirtual 46, 3) := by decide +kernel
theorem dL_wordLength_8 : decode cL_wordLength 8 = .ok (.i2l, 1) := by decide +kernel
theorem dL_wordLength_9 : decode cL_wordLength 9 = .ok (.lastore, 1) := by decide +kernel
theorem dL_wordLength_10 : decode cL_wordLength 10 = .ok (.goto 11, 3) := by decide +kernel
theorem dL_wordLength_13 : decode cL_wordLength 13 = .ok (.astore 4, 2) := by decide +kernel
theorem dL_wordLength_15 : decode cL_wordLength 15 = .ok (.iconst 1, 1) := by decide +kernel
theorem dL_wordLength_16 : decode cL_wordLength 16 = .ok (.ireturn, 1) := by decide +kernel
theorem dL_wordLength_17 : decode cL_wordLength 17 = .ok (.astore 4, 2) := by decide +kernel
theorem dL_wordLength_19 : decode cL_wordLength 19 = .ok (.iconst 2, 1) := by decide +kernel
theorem dL_wordLength_20 : decode cL_wordLength 20 = .ok (.ireturn, 1) := by decide +kernel
theorem dL_wordLength_21 : decode cL_wordLength 21 = .ok (.iconst 0, 1) := by decide +kernel
theorem dL_wordLength_22 : decode cL_wordLength 22 = .ok (.ireturn, 1) := by decide +kernel
theorem dL_divisions_0 : decode cL_divisions 0 = .ok (.aload_n 3, 1) := by decide +kernel
theorem dL_divisions_1 : decode cL_divisions 1 = .ok (.iconst 0, 1) := by decide +kernel
theorem dL_divisions_2 : decode cL_divisions 2 = .ok (.aload_n 0, 1) := by decide +kernel
theorem dL_divisions_3 : decode cL_divisions 3 = .ok (.iload_n 1, 1) := by decide +kernel
theorem dL_divisions_4 : decode cL_divisions 4 = .ok (.iload_n 2, 1) := by decide +kernel
theorem dL_divisions_5 : decode cL_divisions 5 = .ok (.invokevirtual 49, 3) := by decide +kernel
theorem dL_divisions_8 : decode cL_divisions 8 = .ok (.i2l, 1) := by decide +kernel
theorem dL_divisions_9 : decode cL_divisions 9 = .ok (.lastore, 1) := by decide +kernel
theorem dL_divisions_10 : decode cL_divisions 10 = .ok (.goto 11, 3) := by decide +kernel
theorem dL_divisions_13 : decode cL_divisions 13 = .ok (.astore 4, 2) := by decide +kernel
theorem dL_divisions_15 : decode cL_divisions 15 = .ok (.iconst 1, 1) := by decide +kernel
theorem dL_divisions_16 : decode cL_divisions 16 = .ok (.ireturn, 1) := by decide +kernel
theorem dL_divisions_17 : decode cL_divisions 17 = .ok (.astore 4, 2) := by decide +kernel
theorem dL_divisions_19 : decode cL_divisions 19 = .ok (.iconst 2, 1) := by decide +kernel
theorem dL_divisions_20 : decode cL_divisions 20 = .ok (.ireturn, 1) := by decide +kernel
theorem dL_divisions_21 : decode cL_divisions 21 = .ok (.iconst 0, 1) := by decide +kernel
theorem dL_divisions_22 : decode cL_divisions 22 = .ok (.ireturn, 1) := by decide +kernel
theorem dL_canDivide_0 : decode cL_canDivide 0 = .ok (.aload 4, 2) := by decide +kernel
theorem dL_canDivide_2 : decode cL_canDivide 2 = .ok (.iconst 0, 1) := by decide +kernel
theorem dL_canDivide_3 : decode cL_canDivide 3 = .ok (.aload_n 0, 1) := by decide +kernel
theorem dL_canDivide_4 : decode cL_canDivide 4 = .ok (.iload_n 1, 1) := by decide +kernel
theorem dL_canDivide_5 : decode cL_canDivide 5 = .ok (.iload_n 2, 1) := by decide +kernel
theorem dL_canDivide_6 : decode cL_canDivide 6 = .ok (.iload_n 3, 1) := by decide +kernel
theorem dL_canDivide_7 : decode cL_canDivide 7 = .ok (.invokevirtual 52, 3) := by decide +kernel
theorem dL_canDivide_10 : decode cL_canDivide 10 = .ok (.ifCond .eq 7, 3) := by decide +kernel
theorem dL_canDivide_13 : decode cL_canDivide 13 = .ok (.lconst 1, 1) := by decide +kernel
theorem dL_canDivide_14 : decode cL_canDivide 14 = .ok (.goto 4, 3) := by decide +kernel
theorem dL_canDivide_17 : decode cL_canDivide 17 = .ok (.lconst 0, 1) := by decide +kernel
theorem dL_canDivide_18 : decode cL_canDivide 18 = .ok (.lastore, 1) := by decide +kernel
theorem dL_canDivide_19 : decode cL_canDivide 19 = .ok (.goto 11, 3) := by decide +kernel
theorem dL_canDivide_22 : decode cL_canDivide 22 = .ok (.astore 5, 2) := by decide +kernel
theorem dL_canDivide_24 : decode cL_canDivide 24 = .ok (.iconst 1, 1) := by decide +kernel
theorem dL_canDivide_25 : decode cL_canDivide 25 = .ok (.ireturn, 1) := by decide +kernel
theorem dL_canDivide_26 : decode cL_canDivide 26 = .ok (.astore 5, 2) := by decide +kernel
theorem dL_canDivide_28 : decode cL_canDivide 28 = .ok (.iconst 2, 1) := by decide +kernel
theorem dL_canDivide_29 : decode cL_canDivide 29 = .ok (.ireturn, 1) := by decide +kernel
theorem dL_canDivide_30 : decode cL_canDivide 30 = .ok (.iconst 0, 1) := by decide +kernel
theorem dL_canDivide_31 : decode cL_canDivide 31 = .ok (.ireturn, 1) := by decide +kernel
theorem dL_setWidth_0 : decode cL_setWidth 0 = .ok (.aload_n 2, 1) := by decide +kernel
theorem dL_setWidth_1 : decode cL_setWidth 1 = .ok (.iconst 0, 1) := by decide +kernel
theorem dL_setWidth_2 : decode cL_setWidth 2 = .ok (.aload_n 0, 1) := by decide +kernel
theorem dL_setWidth_3 : decode cL_setWidth 3 = .ok (.iload_n 1, 1) := by decide +kernel
theorem dL_setWidth_4 : decode cL_setWidth 4 = .ok (.invokevirtual 56, 3) := by decide +kernel
theorem dL_setWidth_7 : decode cL_setWidth 7 = .ok (.i2l, 1) := by decide +kernel
theorem dL_setWidth_8 : decode cL_setWidth 8 = .ok (.lastore, 1) := by decide +kernel
theorem dL_setWidth_9 : decode cL_setWidth 9 = .ok (.goto 6, 3) := by decide +kernel
theorem dL_setWidth_12 : decode cL_setWidth 12 = .ok (.astore_n 3, 1) := by decide +kernel
theorem dL_setWidth_13 : decode cL_setWidth 13 = .ok (.iconst 1, 1) := by decide +kernel
theorem dL_setWidth_14 : decode cL_setWidth 14 = .ok (.ireturn, 1) := by decide +kernel
theorem dL_setWidth_15 : decode cL_setWidth 15 = .ok (.iconst 0, 1) := by decide +kernel
theorem dL_setWidth_16 : decode cL_setWidth 16 = .ok (.ireturn, 1) := by decide +kernel
theorem dL_canBeSet_0 : decode cL_canBeSet 0 = .ok (.aload_n 2, 1) := by decide +kernel
theorem dL_canBeSet_1 : decode cL_canBeSet 1 = .ok (.iconst 0, 1) := by decide +kernel
theorem dL_canBeSet_2 : decode cL_canBeSet 2 = .ok (.aload_n 0, 1) := by decide +kernel
theorem dL_canBeSet_3 : decode cL_canBeSet 3 = .ok (.iload_n 1, 1) := by decide +kernel
theorem dL_canBeSet_4 : decode cL_canBeSet 4 = .ok (.invokevirtual 59, 3) := by decide +kernel
theorem dL_canBeSet_7 : decode cL_canBeSet 7 = .ok (.ifCond .eq 7, 3) := by decide +kernel
theorem dL_canBeSet_10 : decode cL_canBeSet 10 = .ok (.lconst 1, 1) := by decide +kernel
theorem dL_canBeSet_11 : decode cL_canBeSet 11 = .ok (.goto 4, 3) := by decide +kernel
theorem dL_canBeSet_14 : decode cL_canBeSet 14 = .ok (.lconst 0, 1) := by decide +kernel
theorem dL_canBeSet_15 : decode cL_canBeSet 15 = .ok (.lastore, 1) := by decide +kernel
theorem dL_canBeSet_16 : decode cL_canBeSet 16 = .ok (.goto 6, 3) := by decide +kernel
theorem dL_canBeSet_19 : decode cL_canBeSet 19 = .ok (.astore_n 3, 1) := by decide +kernel
theorem dL_canBeSet_20 : decode cL_canBeSet 20 = .ok (.iconst 1, 1) := by decide +kernel
theorem dL_canBeSet_21 : decode cL_canBeSet 21 = .ok (.ireturn, 1) := by decide +kernel
theorem dL_canBeSet_22 : decode cL_canBeSet 22 = .ok (.iconst 0, 1) := by decide +kernel
theorem dL_canBeSet_23 : decode cL_canBeSet 23 = .ok (.ireturn, 1) := by decide +kernel
theorem dL_lineCount_0 : decode cL_lineCount 0 = .ok (.aload_n 2, 1) := by decide +kernel
theorem dL_lineCount_1 : decode cL_lineCount 1 = .ok (.iconst 0, 1) := by decide +kernel
theorem dL_lineCount_2 : decode cL_lineCount 2 = .ok (.aload_n 0, 1) := by decide +kernel
theorem dL_lineCount_3 : decode cL_lineCount 3 = .ok (.iload_n 1, 1) := by decide +kernel
theorem dL_lineCount_4 : decode cL_lineCount 4 = .ok (.invokevirtual 63, 3) := by decide +kernel
theorem dL_lineCount_7 : decode cL_lineCount 7 = .ok (.i2l, 1) := by decide +kernel
theorem dL_lineCount_8 : decode cL_lineCount 8 = .ok (.lastore, 1) := by decide +kernel
theorem dL_lineCount_9 : decode cL_lineCount 9 = .ok (.goto 9, 3) := by decide +kernel
theorem dL_lineCount_12 : decode cL_lineCount 12 = .ok (.astore_n 3, 1) := by decide +kernel
theorem dL_lineCount_13 : decode cL_lineCount 13 = .ok (.iconst 1, 1) := by decide +kernel
theorem dL_lineCount_14 : decode cL_lineCount 14 = .ok (.ireturn, 1) := by decide +kernel
theorem dL_lineCount_15 : decode cL_lineCount 15 = .ok (.astore_n 3, 1) := by decide +kernel
theorem dL_lineCount_16 : decode cL_lineCount 16 = .ok (.iconst 2, 1) := by decide +kernel
theorem dL_lineCount_17 : decode cL_lineCount 17 = .ok (.ireturn, 1) := by decide +kernel
theorem dL_lineCount_18 : decode cL_lineCount 18 = .ok (.iconst 0, 1) := by decide +kernel
theorem dL_lineCount_19 : decode cL_lineCount 19 = .ok (.ireturn, 1) := by decide +kernel
theorem dL_lineLength_0 : decode cL_lineLength 0 = .ok (.aload_n 3, 1) := by decide +kernel
theorem dL_lineLength_1 : decode cL_lineLength 1 = .ok (.iconst 0, 1) := by decide +kernel
theorem dL_lineLength_2 : decode cL_lineLength 2 = .ok (.aload_n 0, 1) := by decide +kernel
theorem dL_lineLength_3 : decode cL_lineLength 3 = .ok (.iload_n 1, 1) := by decide +kernel
theorem dL_lineLength_4 : decode cL_lineLength 4 = .ok (.iload_n 2, 1) := by decide +kernel
theorem dL_lineLength_5 : decode cL_lineLength 5 = .ok (.invokevirtual 66, 3) := by decide +kernel
theorem dL_lineLength_8 : decode cL_lineLength 8 = .ok (.i2l, 1) := by decide +kernel
theorem dL_lineLength_9 : decode cL_lineLength 9 = .ok (.lastore, 1) := by decide +kernel
theorem dL_lineLength_10 : decode cL_lineLength 10 = .ok (.goto 15, 3) := by decide +kernel
theorem dL_lineLength_13 : decode cL_lineLength 13 = .ok (.astore 4, 2) := by decide +kernel
theorem dL_lineLength_15 : decode cL_lineLength 15 = .ok (.iconst 1, 1) := by decide +kernel
theorem dL_lineLength_16 : decode cL_lineLength 16 = .ok (.ireturn, 1) := by decide +kernel
theorem dL_lineLength_17 : decode cL_lineLength 17 = .ok (.astore 4, 2) := by decide +kernel
theorem dL_lineLength_19 : decode cL_lineLength 19 = .ok (.iconst 2, 1) := by decide +kernel
theorem dL_lineLength_20 : decode cL_lineLength 20 = .ok (.ireturn, 1) := by decide +kernel
theorem dL_lineLength_21 : decode cL_lineLength 21 = .ok (.astore 4, 2) := by decide +kernel
theorem dL_lineLength_23 : decode cL_lineLength 23 = .ok (.iconst 3, 1) := by decide +kernel
theorem dL_lineLength_24 : decode cL_lineLength 24 = .ok (.ireturn, 1) := by decide +kernel
theorem dL_lineLength_25 : decode cL_lineLength 25 = .ok (.iconst 0, 1) := by decide +kernel
theorem dL_lineLength_26 : decode cL_lineLength 26 = .ok (.ireturn, 1) := by decide +kernel
theorem dL_hyphenCount_0 : decode cL_hyphenCount 0 = .ok (.aload_n 2, 1) := by decide +kernel
theorem dL_hyphenCount_1 : decode cL_hyphenCount 1 = .ok (.iconst 0, 1) := by decide +kernel
theorem dL_hyphenCount_2 : decode cL_hyphenCount 2 = .ok (.aload_n 0, 1) := by decide +kernel
theorem dL_hyphenCount_3 : decode cL_hyphenCount 3 = .ok (.iload_n 1, 1) := by decide +kernel
theorem dL_hyphenCount_4 : decode cL_hyphenCount 4 = .ok (.invokevirtual 69, 3) := by decide +kernel
theorem dL_hyphenCount_7 : decode cL_hyphenCount 7 = .ok (.i2l, 1) := by decide +kernel
theorem dL_hyphenCount_8 : decode cL_hyphenCount 8 = .ok (.lastore, 1) := by decide +kernel
theorem dL_hyphenCount_9 : decode cL_hyphenCount 9 = .ok (.goto 9, 3) := by decide +kernel
theorem dL_hyphenCount_12 : decode cL_hyphenCount 12 = .ok (.astore_n 3, 1) := by decide +kernel
theorem dL_hyphenCount_13 : decode cL_hyphenCount 13 = .ok (.iconst 1, 1) := by decide +kernel
theorem dL_hyphenCount_14 : decode cL_hyphenCount 14 = .ok (.ireturn, 1) := by decide +kernel
theorem dL_hyphenCount_15 : decode cL_hyphenCount 15 = .ok (.astore_n 3, 1) := by decide +kernel
theorem dL_hyphenCount_16 : decode cL_hyphenCount 16 = .ok (.iconst 2, 1) := by decide +kernel
theorem dL_hyphenCount_17 : decode cL_hyphenCount 17 = .ok (.ireturn, 1) := by decide +kernel
theorem dL_hyphenCount_18 : decode cL_hyphenCount 18 = .ok (.iconst 0, 1) := by decide +kernel
theorem dL_hyphenCount_19 : decode cL_hyphenCount 19 = .ok (.ireturn, 1) := by decide +kernel
theorem dL_writeLine_0 : decode cL_writeLine 0 = .ok (.aload_n 3, 1) := by decide +kernel
theorem dL_writeLine_1 : decode cL_writeLine 1 = .ok (.iconst 0, 1) := by decide +kernel
theorem dL_writeLine_2 : decode cL_writeLine 2 = .ok (.aload_n 0, 1) := by decide +kernel
theorem dL_writeLine_3 : decode cL_writeLine 3 = .ok (.iload_n 1, 1) := by decide +kernel
theorem dL_writeLine_4 : decode cL_writeLine 4 = .ok (.iload_n 2, 1) := by decide +kernel
theorem dL_writeLine_5 : decode cL_writeLine 5 = .ok (.invokevirtual 72, 3) := by decide +kernel
theorem dL_writeLine_8 : decode cL_writeLine 8 = .ok (.i2l, 1) := by decide +kernel
theorem dL_writeLine_9 : decode cL_writeLine 9 = .ok (.lastore, 1) := by decide +kernel
theorem dL_writeLine_10 : decode cL_writeLine 10 = .ok (.goto 15, 3) := by decide +kernel
theorem dL_writeLine_13 : decode cL_writeLine 13 = .ok (.astore 4, 2) := by decide +kernel
theorem dL_writeLine_15 : decode cL_writeLine 15 = .ok (.iconst 1, 1) := by decide +kernel
theorem dL_writeLine_16 : decode cL_writeLine 16 = .ok (.ireturn, 1) := by decide +kernel
theorem dL_writeLine_17 : decode cL_writeLine 17 = .ok (.astore 4, 2) := by decide +kernel
theorem dL_writeLine_19 : decode cL_writeLine 19 = .ok (.iconst 2, 1) := by decide +kernel
theorem dL_writeLine_20 : decode cL_writeLine 20 = .ok (.ireturn, 1) := by decide +kernel
theorem dL_writeLine_21 : decode cL_writeLine 21 = .ok (.astore 4, 2) := by decide +kernel
theorem dL_writeLine_23 : decode cL_writeLine 23 = .ok (.iconst 3, 1) := by decide +kernel
theorem dL_writeLine_24 : decode cL_writeLine 24 = .ok (.ireturn, 1) := by decide +kernel
theorem dL_writeLine_25 : decode cL_writeLine 25 = .ok (.iconst 0, 1) := by decide +kernel
theorem dL_writeLine_26 : decode cL_writeLine 26 = .ok (.ireturn, 1) := by decide +kernel
theorem dL_smallestWidth_0 : decode cL_smallestWidth 0 = .ok (.aload_n 2, 1) := by decide +kernel
theorem dL_smallestWidth_1 : decode cL_smallestWidth 1 = .ok (.iconst 0, 1) := by decide +kernel
theorem dL_smallestWidth_2 : decode cL_smallestWidth 2 = .ok (.aload_n 0, 1) := by decide +kernel
theorem dL_smallestWidth_3 : decode cL_smallestWidth 3 = .ok (.iload_n 1, 1) := by decide +kernel
theorem dL_smallestWidth_4 : decode cL_smallestWidth 4 = .ok (.invokevirtual 75, 3) := by decide +kernel
theorem dL_smallestWidth_7 : decode cL_smallestWidth 7 = .ok (.i2l, 1) := by decide +kernel
theorem dL_smallestWidth_8 : decode cL_smallestWidth 8 = .ok (.lastore, 1) := by decide +kernel
theorem dL_smallestWidth_9 : decode cL_smallestWidth 9 = .ok (.goto 6, 3) := by decide +kernel
theorem dL_smallestWidth_12 : decode cL_smallestWidth 12 = .ok (.astore_n 3, 1) := by decide +kernel
theorem dL_smallestWidth_13 : decode cL_smallestWidth 13 = .ok (.iconst 1, 1) := by decide +kernel
theorem dL_smallestWidth_14 : decode cL_smallestWidth 14 = .ok (.ireturn, 1) := by decide +kernel
theorem dL_smallestWidth_15 : decode cL_smallestWidth 15 = .ok (.iconst 0, 1) := by decide +kernel
theorem dL_smallestWidth_16 : decode cL_smallestWidth 16 = .ok (.ireturn, 1) := by decide +kernel
theorem dL_leastBadness_0 : decode cL_leastBadness 0 = .ok (.aload_n 2, 1) := by decide +kernel
theorem dL_leastBadness_1 : decode cL_leastBadness 1 = .ok (.iconst 0, 1) := by decide +kernel
theorem dL_leastBadness_2 : decode cL_leastBadness 2 = .ok (.aload_n 0, 1) := by decide +kernel
theorem dL_leastBadness_3 : decode cL_leastBadness 3 = .ok (.iload_n 1, 1) := by decide +kernel
theorem dL_leastBadness_4 : decode cL_leastBadness 4 = .ok (.invokevirtual 78, 3) := by decide +kernel
theorem dL_leastBadness_7 : decode cL_leastBadness 7 = .ok (.i2l, 1) := by decide +kernel
theorem dL_leastBadness_8 : decode cL_leastBadness 8 = .ok (.lastore, 1) := by decide +kernel
theorem dL_leastBadness_9 : decode cL_leastBadness 9 = .ok (.goto 9, 3) := by decide +kernel
theorem dL_leastBadness_12 : decode cL_leastBadness 12 = .ok (.astore_n 3, 1) := by decide +kernel
theorem dL_leastBadness_13 : decode cL_leastBadness 13 = .ok (.iconst 1, 1) := by decide +kernel
theorem dL_leastBadness_14 : decode cL_leastBadness 14 = .ok (.ireturn, 1) := by decide +kernel
theorem dL_leastBadness_15 : decode cL_leastBadness 15 = .ok (.astore_n 3, 1) := by decide +kernel
theorem dL_leastBadness_16 : decode cL_leastBadness 16 = .ok (.iconst 2, 1) := by decide +kernel
theorem dL_leastBadness_17 : decode cL_leastBadness 17 = .ok (.ireturn, 1) := by decide +kernel
theorem dL_leastBadness_18 : decode cL_leastBadness 18 = .ok (.iconst 0, 1) := by decide +kernel
theorem dL_leastBadness_19 : decode cL_leastBadness 19 = .ok (.ireturn, 1) := by decide +kernel
theorem dL_leastBadnessForward_0 : decode cL_leastBadnessForward 0 = .ok (.aload_n 2, 1) := by decide +kernel
theorem dL_leastBadnessForward_1 : decode cL_leastBadnessForward 1 = .ok (.iconst 0, 1) := by decide +kernel
theorem dL_leastBadnessForward_2 : decode cL_leastBadnessForward 2 = .ok (.aload_n 0, 1) := by decide +kernel
theorem dL_leastBadnessForward_3 : decode cL_leastBadnessForward 3 = .ok (.iload_n 1, 1) := by decide +kernel
theorem dL_leastBadnessForward_4 : decode cL_leastBadnessForward 4 = .ok (.invokevirtual 81, 3) := by decide +kernel
theorem dL_leastBadnessForward_7 : decode cL_leastBadnessForward 7 = .ok (.i2l, 1) := by decide +kernel
theorem dL_leastBadnessForward_8 : decode cL_leastBadnessForward 8 = .ok (.lastore, 1) := by decide +kernel
theorem dL_leastBadnessForward_9 : decode cL_leastBadnessForward 9 = .ok (.goto 9, 3) := by decide +kernel
theorem dL_leastBadnessForward_12 : decode cL_leastBadnessForward 12 = .ok (.astore_n 3, 1) := by decide +kernel
theorem dL_leastBadnessForward_13 : decode cL_leastBadnessForward 13 = .ok (.iconst 1, 1) := by decide +kernel
theorem dL_leastBadnessForward_14 : decode cL_leastBadnessForward 14 = .ok (.ireturn, 1) := by decide +kernel
theorem dL_leastBadnessForward_15 : decode cL_leastBadnessForward 15 = .ok (.astore_n 3, 1) := by decide +kernel
theorem dL_leastBadnessForward_16 : decode cL_leastBadnessForward 16 = .ok (.iconst 2, 1) := by decide +kernel
theorem dL_leastBadnessForward_17 : decode cL_leastBadnessForward 17 = .ok (.ireturn, 1) := by decide +kernel
theorem dL_leastBadnessForward_18 : decode cL_leastBadnessForward 18 = .ok (.iconst 0, 1) := by decide +kernel
theorem dL_leastBadnessForward_19 : decode cL_leastBadnessForward 19 = .ok (.ireturn, 1) := by decide +kernel
theorem dL_setPage_0 : decode cL_setPage 0 = .ok (.aload_n 3, 1) := by decide +kernel
theorem dL_setPage_1 : decode cL_setPage 1 = .ok (.iconst 0, 1) := by decide +kernel
theorem dL_setPage_2 : decode cL_setPage 2 = .ok (.aload_n 0, 1) := by decide +kernel
theorem dL_setPage_3 : decode cL_setPage 3 = .ok (.iload_n 1, 1) := by decide +kernel
theorem dL_setPage_4 : decode cL_setPage 4 = .ok (.iload_n 2, 1) := by decide +kernel
theorem dL_setPage_5 : decode cL_setPage 5 = .ok (.invokevirtual 84, 3) := by decide +kernel
theorem dL_setPage_8 : decode cL_setPage 8 = .ok (.i2l, 1) := by decide +kernel
theorem dL_setPage_9 : decode cL_setPage 9 = .ok (.lastore, 1) := by decide +kernel
theorem dL_setPage_10 : decode cL_setPage 10 = .ok (.goto 7, 3) := by decide +kernel
theorem dL_setPage_13 : decode cL_setPage 13 = .ok (.astore 4, 2) := by decide +kernel
theorem dL_setPage_15 : decode cL_setPage 15 = .ok (.iconst 1, 1) := by decide +kernel
theorem dL_setPage_16 : decode cL_setPage 16 = .ok (.ireturn, 1) := by decide +kernel
theorem dL_setPage_17 : decode cL_setPage 17 = .ok (.iconst 0, 1) := by decide +kernel
theorem dL_setPage_18 : decode cL_setPage 18 = .ok (.ireturn, 1) := by decide +kernel
theorem dL_print_0 : decode cL_print 0 = .ok (.aload_n 1, 1) := by decide +kernel
theorem dL_print_1 : decode cL_print 1 = .ok (.iconst 0, 1) := by decide +kernel
theorem dL_print_2 : decode cL_print 2 = .ok (.aload_n 0, 1) := by decide +kernel
theorem dL_print_3 : decode cL_print 3 = .ok (.invokevirtual 87, 3) := by decide +kernel
theorem dL_print_6 : decode cL_print 6 = .ok (.i2l, 1) := by decide +kernel
theorem dL_print_7 : decode cL_print 7 = .ok (.lastore, 1) := by decide +kernel
theorem dL_print_8 : decode cL_print 8 = .ok (.goto 6, 3) := by decide +kernel
theorem dL_print_11 : decode cL_print 11 = .ok (.astore_n 2, 1) := by decide +kernel
theorem dL_print_12 : decode cL_print 12 = .ok (.iconst 1, 1) := by decide +kernel
theorem dL_print_13 : decode cL_print 13 = .ok (.ireturn, 1) := by decide +kernel
theorem dL_print_14 : decode cL_print 14 = .ok (.iconst 0, 1) := by decide +kernel
theorem dL_print_15 : decode cL_print 15 = .ok (.ireturn, 1) := by decide +kernel
theorem dL_articlesIn_0 : decode cL_articlesIn 0 = .ok (.aload_n 2, 1) := by decide +kernel
theorem dL_articlesIn_1 : decode cL_articlesIn 1 = .ok (.iconst 0, 1) := by decide +kernel
theorem dL_articlesIn_2 : decode cL_articlesIn 2 = .ok (.aload_n 0, 1) := by decide +kernel
theorem dL_articlesIn_3 : decode cL_articlesIn 3 = .ok (.iload_n 1, 1) := by decide +kernel
theorem dL_articlesIn_4 : decode cL_articlesIn 4 = .ok (.invokevirtual 91, 3) := by decide +kernel
theorem dL_articlesIn_7 : decode cL_articlesIn 7 = .ok (.i2l, 1) := by decide +kernel
theorem dL_articlesIn_8 : decode cL_articlesIn 8 = .ok (.lastore, 1) := by decide +kernel
theorem dL_articlesIn_9 : decode cL_articlesIn 9 = .ok (.goto 6, 3) := by decide +kernel
theorem dL_articlesIn_12 : decode cL_articlesIn 12 = .ok (.astore_n 3, 1) := by decide +kernel
theorem dL_articlesIn_13 : decode cL_articlesIn 13 = .ok (.iconst 1, 1) := by decide +kernel
theorem dL_articlesIn_14 : decode cL_articlesIn 14 = .ok (.ireturn, 1) := by decide +kernel
theorem dL_articlesIn_15 : decode cL_articlesIn 15 = .ok (.iconst 0, 1) := by decide +kernel
theorem dL_articlesIn_16 : decode cL_articlesIn 16 = .ok (.ireturn, 1) := by decide +kernel
theorem dL_linesIn_0 : decode cL_linesIn 0 = .ok (.aload_n 2, 1) := by decide +kernel
theorem dL_linesIn_1 : decode cL_linesIn 1 = .ok (.iconst 0, 1) := by decide +kernel
theorem dL_linesIn_2 : decode cL_linesIn 2 = .ok (.aload_n 0, 1) := by decide +kernel
theorem dL_linesIn_3 : decode cL_linesIn 3 = .ok (.iload_n 1, 1) := by decide +kernel
theorem dL_linesIn_4 : decode cL_linesIn 4 = .ok (.invokevirtual 94, 3) := by decide +kernel
theorem dL_linesIn_7 : decode cL_linesIn 7 = .ok (.i2l, 1) := by decide +kernel
theorem dL_linesIn_8 : decode cL_linesIn 8 = .ok (.lastore, 1) := by decide +kernel
theorem dL_linesIn_9 : decode cL_linesIn 9 = .ok (.goto 6, 3) := by decide +kernel
theorem dL_linesIn_12 : decode cL_linesIn 12 = .ok (.astore_n 3, 1) := by decide +kernel
theorem dL_linesIn_13 : decode cL_linesIn 13 = .ok (.iconst 1, 1) := by decide +kernel
theorem dL_linesIn_14 : decode cL_linesIn 14 = .ok (.ireturn, 1) := by decide +kernel
theorem dL_linesIn_15 : decode cL_linesIn 15 = .ok (.iconst 0, 1) := by decide +kernel
theorem dL_linesIn_16 : decode cL_linesIn 16 = .ok (.ireturn, 1) := by decide +kernel
theorem dL_columnOf_0 : decode cL_columnOf 0 = .ok (.aload_n 3, 1) := by decide +kernel
theorem dL_columnOf_1 : decode cL_columnOf 1 = .ok (.iconst 0, 1) := by decide +kernel
theorem dL_columnOf_2 : decode cL_columnOf 2 = .ok (.aload_n 0, 1) := by decide +kernel
theorem dL_columnOf_3 : decode cL_columnOf 3 = .ok (.iload_n 1, 1) := by decide +kernel
theorem dL_columnOf_4 : decode cL_columnOf 4 = .ok (.iload_n 2, 1) := by decide +kernel
theorem dL_columnOf_5 : decode cL_columnOf 5 = .ok (.invokevirtual 97, 3) := by decide +kernel
theorem dL_columnOf_8 : decode cL_columnOf 8 = .ok (.i2l, 1) := by decide +kernel
theorem dL_columnOf_9 : decode cL_columnOf 9 = .ok (.lastore, 1) := by decide +kernel
theorem dL_columnOf_10 : decode cL_columnOf 10 = .ok (.goto 7, 3) := by decide +kernel
theorem dL_columnOf_13 : decode cL_columnOf 13 = .ok (.astore 4, 2) := by decide +kernel
theorem dL_columnOf_15 : decode cL_columnOf 15 = .ok (.iconst 1, 1) := by decide +kernel
theorem dL_columnOf_16 : decode cL_columnOf 16 = .ok (.ireturn, 1) := by decide +kernel
theorem dL_columnOf_17 : decode cL_columnOf 17 = .ok (.iconst 0, 1) := by decide +kernel
theorem dL_columnOf_18 : decode cL_columnOf 18 = .ok (.ireturn, 1) := by decide +kernel
theorem dL_rowOf_0 : decode cL_rowOf 0 = .ok (.aload_n 3, 1) := by decide +kernel
theorem dL_rowOf_1 : decode cL_rowOf 1 = .ok (.iconst 0, 1) := by decide +kernel
theorem dL_rowOf_2 : decode cL_rowOf 2 = .ok (.aload_n 0, 1) := by decide +kernel
theorem dL_rowOf_3 : decode cL_rowOf 3 = .ok (.iload_n 1, 1) := by decide +kernel
theorem dL_rowOf_4 : decode cL_rowOf 4 = .ok (.iload_n 2, 1) := by decide +kernel
theorem dL_rowOf_5 : decode cL_rowOf 5 = .ok (.invokevirtual 100, 3) := by decide +kernel
theorem dL_rowOf_8 : decode cL_rowOf 8 = .ok (.i2l, 1) := by decide +kernel
theorem dL_rowOf_9 : decode cL_rowOf 9 = .ok (.lastore, 1) := by decide +kernel
theorem dL_rowOf_10 : decode cL_rowOf 10 = .ok (.goto 7, 3) := by decide +kernel
theorem dL_rowOf_13 : decode cL_rowOf 13 = .ok (.astore 4, 2) := by decide +kernel
theorem dL_rowOf_15 : decode cL_rowOf 15 = .ok (.iconst 1, 1) := by decide +kernel
theorem dL_rowOf_16 : decode cL_rowOf 16 = .ok (.ireturn, 1) := by decide +kernel
theorem dL_rowOf_17 : decode cL_rowOf 17 = .ok (.iconst 0, 1) := by decide +kernel
theorem dL_rowOf_18 : decode cL_rowOf 18 = .ok (.ireturn, 1) := by decide +kernel
theorem dL_coverage_0 : decode cL_coverage 0 = .ok (.aload_n 2, 1) := by decide +kernel
theorem dL_coverage_1 : decode cL_coverage 1 = .ok (.iconst 0, 1) := by decide +kernel
theorem dL_coverage_2 : decode cL_coverage 2 = .ok (.aload_n 0, 1) := by decide +kernel
theorem dL_coverage_3 : decode cL_coverage 3 = .ok (.iload_n 1, 1) := by decide +kernel
theorem dL_coverage_4 : decode cL_coverage 4 = .ok (.invokevirtual 103, 3) := by decide +kernel
theorem dL_coverage_7 : decode cL_coverage 7 = .ok (.f2d, 1) := by decide +kernel
theorem dL_coverage_8 : decode cL_coverage 8 = .ok (.dastore, 1) := by decide +kernel
theorem dL_coverage_9 : decode cL_coverage 9 = .ok (.goto 6, 3) := by decide +kernel
theorem dL_coverage_12 : decode cL_coverage 12 = .ok (.astore_n 3, 1) := by decide +kernel
theorem dL_coverage_13 : decode cL_coverage 13 = .ok (.iconst 1, 1) := by decide +kernel
theorem dL_coverage_14 : decode cL_coverage 14 = .ok (.ireturn, 1) := by decide +kernel
theorem dL_coverage_15 : decode cL_coverage 15 = .ok (.iconst 0, 1) := by decide +kernel
theorem dL_coverage_16 : decode cL_coverage 16 = .ok (.ireturn, 1) := by decide +kernel
theorem dL_passDays_0 : decode cL_passDays 0 = .ok (.aload_n 2, 1) := by decide +kernel
theorem dL_passDays_1 : decode cL_passDays 1 = .ok (.iconst 0, 1) := by decide +kernel
theorem dL_passDays_2 : decode cL_passDays 2 = .ok (.aload_n 0, 1) := by decide +kernel
theorem dL_passDays_3 : decode cL_passDays 3 = .ok (.iload_n 1, 1) := by decide +kernel
theorem dL_passDays_4 : decode cL_passDays 4 = .ok (.invokevirtual 107, 3) := by decide +kernel
theorem dL_passDays_7 : decode cL_passDays 7 = .ok (.i2l, 1) := by decide +kernel
theorem dL_passDays_8 : decode cL_passDays 8 = .ok (.lastore, 1) := by decide +kernel
theorem dL_passDays_9 : decode cL_passDays 9 = .ok (.goto 6, 3) := by decide +kernel
theorem dL_passDays_12 : decode cL_passDays 12 = .ok (.astore_n 3, 1) := by decide +kernel
theorem dL_passDays_13 : decode cL_passDays 13 = .ok (.iconst 1, 1) := by decide +kernel
theorem dL_passDays_14 : decode cL_passDays 14 = .ok (.ireturn, 1) := by decide +kernel
theorem dL_passDays_15 : decode cL_passDays 15 = .ok (.iconst 0, 1) := by decide +kernel
theorem dL_passDays_16 : decode cL_passDays 16 = .ok (.ireturn, 1) := by decide +kernel
theorem dL_freshness_0 : decode cL_freshness 0 = .ok (.aload_n 2, 1) := by decide +kernel
theorem dL_freshness_1 : decode cL_freshness 1 = .ok (.iconst 0, 1) := by decide +kernel
theorem dL_freshness_2 : decode cL_freshness 2 = .ok (.aload_n 0, 1) := by decide +kernel
theorem dL_freshness_3 : decode cL_freshness 3 = .ok (.iload_n 1, 1) := by decide +kernel
theorem dL_freshness_4 : decode cL_freshness 4 = .ok (.invokevirtual 110, 3) := by decide +kernel
theorem dL_freshness_7 : decode cL_freshness 7 = .ok (.f2d, 1) := by decide +kernel
theorem dL_freshness_8 : decode cL_freshness 8 = .ok (.dastore, 1) := by decide +kernel
theorem dL_freshness_9 : decode cL_freshness 9 = .ok (.goto 6, 3) := by decide +kernel
theorem dL_freshness_12 : decode cL_freshness 12 = .ok (.astore_n 3, 1) := by decide +kernel
theorem dL_freshness_13 : decode cL_freshness 13 = .ok (.iconst 1, 1) := by decide +kernel
theorem dL_freshness_14 : decode cL_freshness 14 = .ok (.ireturn, 1) := by decide +kernel
theorem dL_freshness_15 : decode cL_freshness 15 = .ok (.iconst 0, 1) := by decide +kernel
theorem dL_freshness_16 : decode cL_freshness 16 = .ok (.ireturn, 1) := by decide +kernel
theorem dL_freshnessBits_0 : decode cL_freshnessBits 0 = .ok (.aload_n 2, 1) := by decide +kernel
theorem dL_freshnessBits_1 : decode cL_freshnessBits 1 = .ok (.iconst 0, 1) := by decide +kernel
theorem dL_freshnessBits_2 : decode cL_freshnessBits 2 = .ok (.aload_n 0, 1) := by decide +kernel
theorem dL_freshnessBits_3 : decode cL_freshnessBits 3 = .ok (.iload_n 1, 1) := by decide +kernel
theorem dL_freshnessBits_4 : decode cL_freshnessBits 4 = .ok (.invokevirtual 113, 3) := by decide +kernel
theorem dL_freshnessBits_7 : decode cL_freshnessBits 7 = .ok (.i2l, 1) := by decide +kernel
theorem dL_freshnessBits_8 : decode cL_freshnessBits 8 = .ok (.lastore, 1) := by decide +kernel
theorem dL_freshnessBits_9 : decode cL_freshnessBits 9 = .ok (.goto 6, 3) := by decide +kernel
theorem dL_freshnessBits_12 : decode cL_freshnessBits 12 = .ok (.astore_n 3, 1) := by decide +kernel
theorem dL_freshnessBits_13 : decode cL_freshnessBits 13 = .ok (.iconst 1, 1) := by decide +kernel
theorem dL_freshnessBits_14 : decode cL_freshnessBits 14 = .ok (.ireturn, 1) := by decide +kernel
theorem dL_freshnessBits_15 : decode cL_freshnessBits 15 = .ok (.iconst 0, 1) := by decide +kernel
theorem dL_freshnessBits_16 : decode cL_freshnessBits 16 = .ok (.ireturn, 1) := by decide +kernel
theorem dL_isReadable_0 : decode cL_isReadable 0 = .ok (.aload_n 2, 1) := by decide +kernel
theorem dL_isReadable_1 : decode cL_isReadable 1 = .ok (.iconst 0, 1) := by decide +kernel
theorem dL_isReadable_2 : decode cL_isReadable 2 = .ok (.aload_n 0, 1) := by decide +kernel
theorem dL_isReadable_3 : decode cL_isReadable 3 = .ok (.iload_n 1, 1) := by decide +kernel
theorem dL_isReadable_4 : decode cL_isReadable 4 = .ok (.invokevirtual 116, 3) := by decide +kernel
theorem dL_isReadable_7 : decode cL_isReadable 7 = .ok (.ifCond .eq 7, 3) := by decide +kernel
theorem dL_isReadable_10 : decode cL_isReadable 10 = .ok (.lconst 1, 1) := by decide +kernel
theorem dL_isReadable_11 : decode cL_isReadable 11 = .ok (.goto 4, 3) := by decide +kernel
theorem dL_isReadable_14 : decode cL_isReadable 14 = .ok (.lconst 0, 1) := by decide +kernel
theorem dL_isReadable_15 : decode cL_isReadable 15 = .ok (.lastore, 1) := by decide +kernel
theorem dL_isReadable_16 : decode cL_isReadable 16 = .ok (.goto 6, 3) := by decide +kernel
theorem dL_isReadable_19 : decode cL_isReadable 19 = .ok (.astore_n 3, 1) := by decide +kernel
theorem dL_isReadable_20 : decode cL_isReadable 20 = .ok (.iconst 1, 1) := by decide +kernel
theorem dL_isReadable_21 : decode cL_isReadable 21 = .ok (.ireturn, 1) := by decide +kernel
theorem dL_isReadable_22 : decode cL_isReadable 22 = .ok (.iconst 0, 1) := by decide +kernel
theorem dL_isReadable_23 : decode cL_isReadable 23 = .ok (.ireturn, 1) := by decide +kernel
theorem dL_daysUntilUnreadable_0 : decode cL_daysUntilUnreadable 0 = .ok (.aload_n 2, 1) := by decide +kernel
theorem dL_daysUntilUnreadable_1 : decode cL_daysUntilUnreadable 1 = .ok (.iconst 0, 1) := by decide +kernel
theorem dL_daysUntilUnreadable_2 : decode cL_daysUntilUnreadable 2 = .ok (.aload_n 0, 1) := by decide +kernel
theorem dL_daysUntilUnreadable_3 : decode cL_daysUntilUnreadable 3 = .ok (.iload_n 1, 1) := by decide +kernel
theorem dL_daysUntilUnreadable_4 : decode cL_daysUntilUnreadable 4 = .ok (.invokevirtual 119, 3) := by decide +kernel
theorem dL_daysUntilUnreadable_7 : decode cL_daysUntilUnreadable 7 = .ok (.i2l, 1) := by decide +kernel
theorem dL_daysUntilUnreadable_8 : decode cL_daysUntilUnreadable 8 = .ok (.lastore, 1) := by decide +kernel
theorem dL_daysUntilUnreadable_9 : decode cL_daysUntilUnreadable 9 = .ok (.goto 6, 3) := by decide +kernel
theorem dL_daysUntilUnreadable_12 : decode cL_daysUntilUnreadable 12 = .ok (.astore_n 3, 1) := by decide +kernel
theorem dL_daysUntilUnreadable_13 : decode cL_daysUntilUnreadable 13 = .ok (.iconst 1, 1) := by decide +kernel
theorem dL_daysUntilUnreadable_14 : decode cL_daysUntilUnreadable 14 = .ok (.ireturn, 1) := by decide +kernel
theorem dL_daysUntilUnreadable_15 : decode cL_daysUntilUnreadable 15 = .ok (.iconst 0, 1) := by decide +kernel
theorem dL_daysUntilUnreadable_16 : decode cL_daysUntilUnreadable 16 = .ok (.ireturn, 1) := by decide +kernel
theorem dL_meanWordLength_0 : decode cL_meanWordLength 0 = .ok (.aload_n 1, 1) := by decide +kernel
theorem dL_meanWordLength_1 : decode cL_meanWordLength 1 = .ok (.iconst 0, 1) := by decide +kernel
theorem dL_meanWordLength_2 : decode cL_meanWordLength 2 = .ok (.aload_n 0, 1) := by decide +kernel
theorem dL_meanWordLength_3 : decode cL_meanWordLength 3 = .ok (.invokevirtual 122, 3) := by decide +kernel
theorem dL_meanWordLength_6 : decode cL_meanWordLength 6 = .ok (.dastore, 1) := by decide +kernel
theorem dL_meanWordLength_7 : decode cL_meanWordLength 7 = .ok (.goto 6, 3) := by decide +kernel
theorem dL_meanWordLength_10 : decode cL_meanWordLength 10 = .ok (.astore_n 2, 1) := by decide +kernel
theorem dL_meanWordLength_11 : decode cL_meanWordLength 11 = .ok (.iconst 1, 1) := by decide +kernel
theorem dL_meanWordLength_12 : decode cL_meanWordLength 12 = .ok (.ireturn, 1) := by decide +kernel
theorem dL_meanWordLength_13 : decode cL_meanWordLength 13 = .ok (.iconst 0, 1) := by decide +kernel
theorem dL_meanWordLength_14 : decode cL_meanWordLength 14 = .ok (.ireturn, 1) := by decide +kernel
theorem dL_meanFreshness_0 : decode cL_meanFreshness 0 = .ok (.aload_n 1, 1) := by decide +kernel
theorem dL_meanFreshness_1 : decode cL_meanFreshness 1 = .ok (.iconst 0, 1) := by decide +kernel
theorem dL_meanFreshness_2 : decode cL_meanFreshness 2 = .ok (.aload_n 0, 1) := by decide +kernel
theorem dL_meanFreshness_3 : decode cL_meanFreshness 3 = .ok (.invokevirtual 128, 3) := by decide +kernel
theorem dL_meanFreshness_6 : decode cL_meanFreshness 6 = .ok (.f2d, 1) := by decide +kernel
theorem dL_meanFreshness_7 : decode cL_meanFreshness 7 = .ok (.dastore, 1) := by decide +kernel
theorem dL_meanFreshness_8 : decode cL_meanFreshness 8 = .ok (.goto 6, 3) := by decide +kernel
theorem dL_meanFreshness_11 : decode cL_meanFreshness 11 = .ok (.astore_n 2, 1) := by decide +kernel
theorem dL_meanFreshness_12 : decode cL_meanFreshness 12 = .ok (.iconst 1, 1) := by decide +kernel
theorem dL_meanFreshness_13 : decode cL_meanFreshness 13 = .ok (.ireturn, 1) := by decide +kernel
theorem dL_meanFreshness_14 : decode cL_meanFreshness 14 = .ok (.iconst 0, 1) := by decide +kernel
theorem dL_meanFreshness_15 : decode cL_meanFreshness 15 = .ok (.ireturn, 1) := by decide +kernel
theorem dL_writeArticle_0 : decode cL_writeArticle 0 = .ok (.aload_n 2, 1) := by decide +kernel
theorem dL_writeArticle_1 : decode cL_writeArticle 1 = .ok (.iconst 0, 1) := by decide +kernel
theorem dL_writeArticle_2 : decode cL_writeArticle 2 = .ok (.aload_n 0, 1) := by decide +kernel
theorem dL_writeArticle_3 : decode cL_writeArticle 3 = .ok (.iload_n 1, 1) := by decide +kernel
theorem dL_writeArticle_4 : decode cL_writeArticle 4 = .ok (.invokevirtual 132, 3) := by decide +kernel
theorem dL_writeArticle_7 : decode cL_writeArticle 7 = .ok (.i2l, 1) := by decide +kernel
theorem dL_writeArticle_8 : decode cL_writeArticle 8 = .ok (.lastore, 1) := by decide +kernel
theorem dL_writeArticle_9 : decode cL_writeArticle 9 = .ok (.goto 6, 3) := by decide +kernel
theorem dL_writeArticle_12 : decode cL_writeArticle 12 = .ok (.astore_n 3, 1) := by decide +kernel
theorem dL_writeArticle_13 : decode cL_writeArticle 13 = .ok (.iconst 1, 1) := by decide +kernel
theorem dL_writeArticle_14 : decode cL_writeArticle 14 = .ok (.ireturn, 1) := by decide +kernel
theorem dL_writeArticle_15 : decode cL_writeArticle 15 = .ok (.iconst 0, 1) := by decide +kernel
theorem dL_writeArticle_16 : decode cL_writeArticle 16 = .ok (.ireturn, 1) := by decide +kernel
theorem dL_outputCharacter_0 : decode cL_outputCharacter 0 = .ok (.aload_n 2, 1) := by decide +kernel
theorem dL_outputCharacter_1 : decode cL_outputCharacter 1 = .ok (.iconst 0, 1) := by decide +kernel
theorem dL_outputCharacter_2 : decode cL_outputCharacter 2 = .ok (.aload_n 0, 1) := by decide +kernel
theorem dL_outputCharacter_3 : decode cL_outputCharacter 3 = .ok (.iload_n 1, 1) := by decide +kernel
theorem dL_outputCharacter_4 : decode cL_outputCharacter 4 = .ok (.invokevirtual 135, 3) := by decide +kernel
theorem dL_outputCharacter_7 : decode cL_outputCharacter 7 = .ok (.i2l, 1) := by decide +kernel
theorem dL_outputCharacter_8 : decode cL_outputCharacter 8 = .ok (.lastore, 1) := by decide +kernel
theorem dL_outputCharacter_9 : decode cL_outputCharacter 9 = .ok (.goto 6, 3) := by decide +kernel
theorem dL_outputCharacter_12 : decode cL_outputCharacter 12 = .ok (.astore_n 3, 1) := by decide +kernel
theorem dL_outputCharacter_13 : decode cL_outputCharacter 13 = .ok (.iconst 1, 1) := by decide +kernel
theorem dL_outputCharacter_14 : decode cL_outputCharacter 14 = .ok (.ireturn, 1) := by decide +kernel
theorem dL_outputCharacter_15 : decode cL_outputCharacter 15 = .ok (.iconst 0, 1) := by decide +kernel
theorem dL_outputCharacter_16 : decode cL_outputCharacter 16 = .ok (.ireturn, 1) := by decide +kernel
theorem dL_feed_0 : decode cL_feed 0 = .ok (.aload_n 2, 1) := by decide +kernel
theorem dL_feed_1 : decode cL_feed 1 = .ok (.iconst 0, 1) := by decide +kernel
theorem dL_feed_2 : decode cL_feed 2 = .ok (.aload_n 0, 1) := by decide +kernel
theorem dL_feed_3 : decode cL_feed 3 = .ok (.iload_n 1, 1) := by decide +kernel
theorem dL_feed_4 : decode cL_feed 4 = .ok (.invokevirtual 139, 3) := by decide +kernel
theorem dL_feed_7 : decode cL_feed 7 = .ok (.i2l, 1) := by decide +kernel
theorem dL_feed_8 : decode cL_feed 8 = .ok (.lastore, 1) := by decide +kernel
theorem dL_feed_9 : decode cL_feed 9 = .ok (.goto 6, 3) := by decide +kernel
theorem dL_feed_12 : decode cL_feed 12 = .ok (.astore_n 3, 1) := by decide +kernel
theorem dL_feed_13 : decode cL_feed 13 = .ok (.iconst 1, 1) := by decide +kernel
theorem dL_feed_14 : decode cL_feed 14 = .ok (.ireturn, 1) := by decide +kernel
theorem dL_feed_15 : decode cL_feed 15 = .ok (.iconst 0, 1) := by decide +kernel
theorem dL_feed_16 : decode cL_feed 16 = .ok (.ireturn, 1) := by decide +kernel
theorem dL_execute_0 : decode cL_execute 0 = .ok (.aload_n 1, 1) := by decide +kernel
theorem dL_execute_1 : decode cL_execute 1 = .ok (.iconst 0, 1) := by decide +kernel
theorem dL_execute_2 : decode cL_execute 2 = .ok (.aload_n 0, 1) := by decide +kernel
theorem dL_execute_3 : decode cL_execute 3 = .ok (.invokevirtual 142, 3) := by decide +kernel
theorem dL_execute_6 : decode cL_execute 6 = .ok (.i2l, 1) := by decide +kernel
theorem dL_execute_7 : decode cL_execute 7 = .ok (.lastore, 1) := by decide +kernel
theorem dL_execute_8 : decode cL_execute 8 = .ok (.goto 9, 3) := by decide +kernel
theorem dL_execute_11 : decode cL_execute 11 = .ok (.astore_n 2, 1) := by decide +kernel
theorem dL_execute_12 : decode cL_execute 12 = .ok (.iconst 1, 1) := by decide +kernel
theorem dL_execute_13 : decode cL_execute 13 = .ok (.ireturn, 1) := by decide +kernel
theorem dL_execute_14 : decode cL_execute 14 = .ok (.astore_n 2, 1) := by decide +kernel
theorem dL_execute_15 : decode cL_execute 15 = .ok (.iconst 2, 1) := by decide +kernel
theorem dL_execute_16 : decode cL_execute 16 = .ok (.ireturn, 1) := by decide +kernel
theorem dL_execute_17 : decode cL_execute 17 = .ok (.iconst 0, 1) := by decide +kernel
theorem dL_execute_18 : decode cL_execute 18 = .ok (.ireturn, 1) := by decide +kernel
theorem dL_errorPosition_0 : decode cL_errorPosition 0 = .ok (.aload_n 1, 1) := by decide +kernel
theorem dL_errorPosition_1 : decode cL_errorPosition 1 = .ok (.iconst 0, 1) := by decide +kernel
theorem dL_errorPosition_2 : decode cL_errorPosition 2 = .ok (.aload_n 0, 1) := by decide +kernel
theorem dL_errorPosition_3 : decode cL_errorPosition 3 = .ok (.invokevirtual 145, 3) := by decide +kernel
theorem dL_errorPosition_6 : decode cL_errorPosition 6 = .ok (.i2l, 1) := by decide +kernel
theorem dL_errorPosition_7 : decode cL_errorPosition 7 = .ok (.lastore, 1) := by decide +kernel
theorem dL_errorPosition_8 : decode cL_errorPosition 8 = .ok (.goto 6, 3) := by decide +kernel
theorem dL_errorPosition_11 : decode cL_errorPosition 11 = .ok (.astore_n 2, 1) := by decide +kernel
theorem dL_errorPosition_12 : decode cL_errorPosition 12 = .ok (.iconst 1, 1) := by decide +kernel
theorem dL_errorPosition_13 : decode cL_errorPosition 13 = .ok (.ireturn, 1) := by decide +kernel
theorem dL_errorPosition_14 : decode cL_errorPosition 14 = .ok (.iconst 0, 1) := by decide +kernel
theorem dL_errorPosition_15 : decode cL_errorPosition 15 = .ok (.ireturn, 1) := by decide +kernel
theorem dL_failedCommand_0 : decode cL_failedCommand 0 = .ok (.aload_n 1, 1) := by decide +kernel
theorem dL_failedCommand_1 : decode cL_failedCommand 1 = .ok (.iconst 0, 1) := by decide +kernel
theorem dL_failedCommand_2 : decode cL_failedCommand 2 = .ok (.aload_n 0, 1) := by decide +kernel
theorem dL_failedCommand_3 : decode cL_failedCommand 3 = .ok (.invokevirtual 148, 3) := by decide +kernel
theorem dL_failedCommand_6 : decode cL_failedCommand 6 = .ok (.i2l, 1) := by decide +kernel
theorem dL_failedCommand_7 : decode cL_failedCommand 7 = .ok (.lastore, 1) := by decide +kernel
theorem dL_failedCommand_8 : decode cL_failedCommand 8 = .ok (.goto 6, 3) := by decide +kernel
theorem dL_failedCommand_11 : decode cL_failedCommand 11 = .ok (.astore_n 2, 1) := by decide +kernel
theorem dL_failedCommand_12 : decode cL_failedCommand 12 = .ok (.iconst 1, 1) := by decide +kernel
theorem dL_failedCommand_13 : decode cL_failedCommand 13 = .ok (.ireturn, 1) := by decide +kernel
theorem dL_failedCommand_14 : decode cL_failedCommand 14 = .ok (.iconst 0, 1) := by decide +kernel
theorem dL_failedCommand_15 : decode cL_failedCommand 15 = .ok (.ireturn, 1) := by decide +kernel
theorem dL_undo_0 : decode cL_undo 0 = .ok (.aload_n 1, 1) := by decide +kernel
theorem dL_undo_1 : decode cL_undo 1 = .ok (.iconst 0, 1) := by decide +kernel
theorem dL_undo_2 : decode cL_undo 2 = .ok (.aload_n 0, 1) := by decide +kernel
theorem dL_undo_3 : decode cL_undo 3 = .ok (.invokevirtual 151, 3) := by decide +kernel
theorem dL_undo_6 : decode cL_undo 6 = .ok (.i2l, 1) := by decide +kernel
theorem dL_undo_7 : decode cL_undo 7 = .ok (.lastore, 1) := by decide +kernel
theorem dL_undo_8 : decode cL_undo 8 = .ok (.goto 6, 3) := by decide +kernel
theorem dL_undo_11 : decode cL_undo 11 = .ok (.astore_n 2, 1) := by decide +kernel
theorem dL_undo_12 : decode cL_undo 12 = .ok (.iconst 1, 1) := by decide +kernel
theorem dL_undo_13 : decode cL_undo 13 = .ok (.ireturn, 1) := by decide +kernel
theorem dL_undo_14 : decode cL_undo 14 = .ok (.iconst 0, 1) := by decide +kernel
theorem dL_undo_15 : decode cL_undo 15 = .ok (.ireturn, 1) := by decide +kernel
theorem dL_restore_0 : decode cL_restore 0 = .ok (.aload_n 1, 1) := by decide +kernel
theorem dL_restore_1 : decode cL_restore 1 = .ok (.iconst 0, 1) := by decide +kernel
theorem dL_restore_2 : decode cL_restore 2 = .ok (.aload_n 0, 1) := by decide +kernel
theorem dL_restore_3 : decode cL_restore 3 = .ok (.invokevirtual 154, 3) := by decide +kernel
theorem dL_restore_6 : decode cL_restore 6 = .ok (.i2l, 1) := by decide +kernel
theorem dL_restore_7 : decode cL_restore 7 = .ok (.lastore, 1) := by decide +kernel
theorem dL_restore_8 : decode cL_restore 8 = .ok (.goto 6, 3) := by decide +kernel
theorem dL_restore_11 : decode cL_restore 11 = .ok (.astore_n 2, 1) := by decide +kernel
theorem dL_restore_12 : decode cL_restore 12 = .ok (.iconst 1, 1) := by decide +kernel
theorem dL_restore_13 : decode cL_restore 13 = .ok (.ireturn, 1) := by decide +kernel
theorem dL_restore_14 : decode cL_restore 14 = .ok (.iconst 0, 1) := by decide +kernel
theorem dL_restore_15 : decode cL_restore 15 = .ok (.ireturn, 1) := by decide +kernel
