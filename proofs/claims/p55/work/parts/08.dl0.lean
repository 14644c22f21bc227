theorem dL_cell_0 : decode cL_cell 0 = .ok (.iload_n 1, 1) := by decide +kernel
theorem dL_cell_1 : decode cL_cell 1 = .ok (.aload_n 0, 1) := by decide +kernel
theorem dL_cell_2 : decode cL_cell 2 = .ok (.arraylength, 1) := by decide +kernel
theorem dL_cell_3 : decode cL_cell 3 = .ok (.if_icmp .ge 9, 3) := by decide +kernel
theorem dL_cell_6 : decode cL_cell 6 = .ok (.aload_n 0, 1) := by decide +kernel
theorem dL_cell_7 : decode cL_cell 7 = .ok (.iload_n 1, 1) := by decide +kernel
theorem dL_cell_8 : decode cL_cell 8 = .ok (.iaload, 1) := by decide +kernel
theorem dL_cell_9 : decode cL_cell 9 = .ok (.goto 7, 3) := by decide +kernel
theorem dL_cell_12 : decode cL_cell 12 = .ok (.ldc 7, 2) := by decide +kernel
theorem dL_cell_14 : decode cL_cell 14 = .ok (.iload_n 1, 1) := by decide +kernel
theorem dL_cell_15 : decode cL_cell 15 = .ok (.imul, 1) := by decide +kernel
theorem dL_cell_16 : decode cL_cell 16 = .ok (.ireturn, 1) := by decide +kernel
theorem dL_type_0 : decode cL_type 0 = .ok (.aload_n 0, 1) := by decide +kernel
theorem dL_type_1 : decode cL_type 1 = .ok (.iload_n 1, 1) := by decide +kernel
theorem dL_type_2 : decode cL_type 2 = .ok (.invokevirtual 8, 3) := by decide +kernel
theorem dL_type_5 : decode cL_type 5 = .ok (.ireturn, 1) := by decide +kernel
theorem dL_type_6 : decode cL_type 6 = .ok (.astore_n 2, 1) := by decide +kernel
theorem dL_type_7 : decode cL_type 7 = .ok (.bipush (-12), 2) := by decide +kernel
theorem dL_type_9 : decode cL_type 9 = .ok (.ireturn, 1) := by decide +kernel
theorem dL_type_10 : decode cL_type 10 = .ok (.astore_n 2, 1) := by decide +kernel
theorem dL_type_11 : decode cL_type 11 = .ok (.bipush (-14), 2) := by decide +kernel
theorem dL_type_13 : decode cL_type 13 = .ok (.ireturn, 1) := by decide +kernel
theorem dL_addArticle_0 : decode cL_addArticle 0 = .ok (.aload_n 0, 1) := by decide +kernel
theorem dL_addArticle_1 : decode cL_addArticle 1 = .ok (.iload_n 1, 1) := by decide +kernel
theorem dL_addArticle_2 : decode cL_addArticle 2 = .ok (.invokevirtual 18, 3) := by decide +kernel
theorem dL_addArticle_5 : decode cL_addArticle 5 = .ok (.ireturn, 1) := by decide +kernel
theorem dL_addArticle_6 : decode cL_addArticle 6 = .ok (.astore_n 2, 1) := by decide +kernel
theorem dL_addArticle_7 : decode cL_addArticle 7 = .ok (.iconst (-1), 1) := by decide +kernel
theorem dL_addArticle_8 : decode cL_addArticle 8 = .ok (.ireturn, 1) := by decide +kernel
theorem dL_addArticle_9 : decode cL_addArticle 9 = .ok (.astore_n 2, 1) := by decide +kernel
theorem dL_addArticle_10 : decode cL_addArticle 10 = .ok (.bipush (-2), 2) := by decide +kernel
theorem dL_addArticle_12 : decode cL_addArticle 12 = .ok (.ireturn, 1) := by decide +kernel
theorem dL_addArticle_13 : decode cL_addArticle 13 = .ok (.astore_n 2, 1) := by decide +kernel
theorem dL_addArticle_14 : decode cL_addArticle 14 = .ok (.bipush (-3), 2) := by decide +kernel
theorem dL_addArticle_16 : decode cL_addArticle 16 = .ok (.ireturn, 1) := by decide +kernel
theorem dL_remove_0 : decode cL_remove 0 = .ok (.aload_n 0, 1) := by decide +kernel
theorem dL_remove_1 : decode cL_remove 1 = .ok (.iload_n 1, 1) := by decide +kernel
theorem dL_remove_2 : decode cL_remove 2 = .ok (.invokevirtual 24, 3) := by decide +kernel
theorem dL_remove_5 : decode cL_remove 5 = .ok (.ireturn, 1) := by decide +kernel
theorem dL_remove_6 : decode cL_remove 6 = .ok (.astore_n 2, 1) := by decide +kernel
theorem dL_remove_7 : decode cL_remove 7 = .ok (.iconst (-1), 1) := by decide +kernel
theorem dL_remove_8 : decode cL_remove 8 = .ok (.ireturn, 1) := by decide +kernel
theorem dL_correct_0 : decode cL_correct 0 = .ok (.aload_n 0, 1) := by decide +kernel
theorem dL_correct_1 : decode cL_correct 1 = .ok (.iload_n 1, 1) := by decide +kernel
theorem dL_correct_2 : decode cL_correct 2 = .ok (.iload_n 2, 1) := by decide +kernel
theorem dL_correct_3 : decode cL_correct 3 = .ok (.invokevirtual 29, 3) := by decide +kernel
theorem dL_correct_6 : decode cL_correct 6 = .ok (.ireturn, 1) := by decide +kernel
theorem dL_correct_7 : decode cL_correct 7 = .ok (.astore_n 3, 1) := by decide +kernel
theorem dL_correct_8 : decode cL_correct 8 = .ok (.iconst (-1), 1) := by decide +kernel
theorem dL_correct_9 : decode cL_correct 9 = .ok (.ireturn, 1) := by decide +kernel
theorem dL_correct_10 : decode cL_correct 10 = .ok (.astore_n 3, 1) := by decide +kernel
theorem dL_correct_11 : decode cL_correct 11 = .ok (.bipush (-2), 2) := by decide +kernel
theorem dL_correct_13 : decode cL_correct 13 = .ok (.ireturn, 1) := by decide +kernel
theorem dL_correct_14 : decode cL_correct 14 = .ok (.astore_n 3, 1) := by decide +kernel
theorem dL_correct_15 : decode cL_correct 15 = .ok (.bipush (-3), 2) := by decide +kernel
theorem dL_correct_17 : decode cL_correct 17 = .ok (.ireturn, 1) := by decide +kernel
theorem dL_articleAt_0 : decode cL_articleAt 0 = .ok (.aload_n 0, 1) := by decide +kernel
theorem dL_articleAt_1 : decode cL_articleAt 1 = .ok (.iload_n 1, 1) := by decide +kernel
theorem dL_articleAt_2 : decode cL_articleAt 2 = .ok (.invokevirtual 35, 3) := by decide +kernel
theorem dL_articleAt_5 : decode cL_articleAt 5 = .ok (.ireturn, 1) := by decide +kernel
theorem dL_articleAt_6 : decode cL_articleAt 6 = .ok (.astore_n 2, 1) := by decide +kernel
theorem dL_articleAt_7 : decode cL_articleAt 7 = .ok (.bipush (-11), 2) := by decide +kernel
theorem dL_articleAt_9 : decode cL_articleAt 9 = .ok (.ireturn, 1) := by decide +kernel
theorem dL_byPriority_0 : decode cL_byPriority 0 = .ok (.aload_n 0, 1) := by decide +kernel
theorem dL_byPriority_1 : decode cL_byPriority 1 = .ok (.iload_n 1, 1) := by decide +kernel
theorem dL_byPriority_2 : decode cL_byPriority 2 = .ok (.invokevirtual 38, 3) := by decide +kernel
theorem dL_byPriority_5 : decode cL_byPriority 5 = .ok (.ireturn, 1) := by decide +kernel
theorem dL_byPriority_6 : decode cL_byPriority 6 = .ok (.astore_n 2, 1) := by decide +kernel
theorem dL_byPriority_7 : decode cL_byPriority 7 = .ok (.bipush (-11), 2) := by decide +kernel
theorem dL_byPriority_9 : decode cL_byPriority 9 = .ok (.ireturn, 1) := by decide +kernel
theorem dL_priority_0 : decode cL_priority 0 = .ok (.aload_n 0, 1) := by decide +kernel
theorem dL_priority_1 : decode cL_priority 1 = .ok (.iload_n 1, 1) := by decide +kernel
theorem dL_priority_2 : decode cL_priority 2 = .ok (.invokevirtual 41, 3) := by decide +kernel
theorem dL_priority_5 : decode cL_priority 5 = .ok (.ireturn, 1) := by decide +kernel
theorem dL_priority_6 : decode cL_priority 6 = .ok (.astore_n 2, 1) := by decide +kernel
theorem dL_priority_7 : decode cL_priority 7 = .ok (.bipush (-13), 2) := by decide +kernel
theorem dL_priority_9 : decode cL_priority 9 = .ok (.ireturn, 1) := by decide +kernel
theorem dL_wordCount_0 : decode cL_wordCount 0 = .ok (.aload_n 0, 1) := by decide +kernel
theorem dL_wordCount_1 : decode cL_wordCount 1 = .ok (.iload_n 1, 1) := by decide +kernel
theorem dL_wordCount_2 : decode cL_wordCount 2 = .ok (.invokevirtual 44, 3) := by decide +kernel
theorem dL_wordCount_5 : decode cL_wordCount 5 = .ok (.ireturn, 1) := by decide +kernel
theorem dL_wordCount_6 : decode cL_wordCount 6 = .ok (.astore_n 2, 1) := by decide +kernel
theorem dL_wordCount_7 : decode cL_wordCount 7 = .ok (.bipush (-13), 2) := by decide +kernel
theorem dL_wordCount_9 : decode cL_wordCount 9 = .ok (.ireturn, 1) := by decide +kernel
theorem dL_wordLength_0 : decode cL_wordLength 0 = .ok (.aload_n 0, 1) := by decide +kernel
theorem dL_wordLength_1 : decode cL_wordLength 1 = .ok (.iload_n 1, 1) := by decide +kernel
theorem dL_wordLength_2 : decode cL_wordLength 2 = .ok (.iload_n 2, 1) := by decide +kernel
theorem dL_wordLength_3 : decode cL_wordLength 3 = .ok (.invokevirtual 47, 3) := by decide +kernel
theorem dL_wordLength_6 : decode cL_wordLength 6 = .ok (.ireturn, 1) := by decide +kernel
theorem dL_wordLength_7 : decode cL_wordLength 7 = .ok (.astore_n 3, 1) := by decide +kernel
theorem dL_wordLength_8 : decode cL_wordLength 8 = .ok (.bipush (-13), 2) := by decide +kernel
theorem dL_wordLength_10 : decode cL_wordLength 10 = .ok (.ireturn, 1) := by decide +kernel
theorem dL_wordLength_11 : decode cL_wordLength 11 = .ok (.astore_n 3, 1) := by decide +kernel
theorem dL_wordLength_12 : decode cL_wordLength 12 = .ok (.bipush (-11), 2) := by decide +kernel
theorem dL_wordLength_14 : decode cL_wordLength 14 = .ok (.ireturn, 1) := by decide +kernel
theorem dL_divisions_0 : decode cL_divisions 0 = .ok (.aload_n 0, 1) := by decide +kernel
theorem dL_divisions_1 : decode cL_divisions 1 = .ok (.iload_n 1, 1) := by decide +kernel
theorem dL_divisions_2 : decode cL_divisions 2 = .ok (.iload_n 2, 1) := by decide +kernel
theorem dL_divisions_3 : decode cL_divisions 3 = .ok (.invokevirtual 50, 3) := by decide +kernel
theorem dL_divisions_6 : decode cL_divisions 6 = .ok (.ireturn, 1) := by decide +kernel
theorem dL_divisions_7 : decode cL_divisions 7 = .ok (.astore_n 3, 1) := by decide +kernel
theorem dL_divisions_8 : decode cL_divisions 8 = .ok (.bipush (-13), 2) := by decide +kernel
theorem dL_divisions_10 : decode cL_divisions 10 = .ok (.ireturn, 1) := by decide +kernel
theorem dL_divisions_11 : decode cL_divisions 11 = .ok (.astore_n 3, 1) := by decide +kernel
theorem dL_divisions_12 : decode cL_divisions 12 = .ok (.bipush (-11), 2) := by decide +kernel
theorem dL_divisions_14 : decode cL_divisions 14 = .ok (.ireturn, 1) := by decide +kernel
theorem dL_canDivide_0 : decode cL_canDivide 0 = .ok (.aload_n 0, 1) := by decide +kernel
theorem dL_canDivide_1 : decode cL_canDivide 1 = .ok (.iload_n 1, 1) := by decide +kernel
theorem dL_canDivide_2 : decode cL_canDivide 2 = .ok (.iload_n 2, 1) := by decide +kernel
theorem dL_canDivide_3 : decode cL_canDivide 3 = .ok (.iload_n 3, 1) := by decide +kernel
theorem dL_canDivide_4 : decode cL_canDivide 4 = .ok (.invokevirtual 53, 3) := by decide +kernel
theorem dL_canDivide_7 : decode cL_canDivide 7 = .ok (.ifCond .eq 7, 3) := by decide +kernel
theorem dL_canDivide_10 : decode cL_canDivide 10 = .ok (.iconst 1, 1) := by decide +kernel
theorem dL_canDivide_11 : decode cL_canDivide 11 = .ok (.goto 4, 3) := by decide +kernel
theorem dL_canDivide_14 : decode cL_canDivide 14 = .ok (.iconst 0, 1) := by decide +kernel
theorem dL_canDivide_15 : decode cL_canDivide 15 = .ok (.ireturn, 1) := by decide +kernel
theorem dL_canDivide_16 : decode cL_canDivide 16 = .ok (.astore 4, 2) := by decide +kernel
theorem dL_canDivide_18 : decode cL_canDivide 18 = .ok (.bipush (-13), 2) := by decide +kernel
theorem dL_canDivide_20 : decode cL_canDivide 20 = .ok (.ireturn, 1) := by decide +kernel
theorem dL_canDivide_21 : decode cL_canDivide 21 = .ok (.astore 4, 2) := by decide +kernel
theorem dL_canDivide_23 : decode cL_canDivide 23 = .ok (.bipush (-11), 2) := by decide +kernel
theorem dL_canDivide_25 : decode cL_canDivide 25 = .ok (.ireturn, 1) := by decide +kernel
theorem dL_setWidth_0 : decode cL_setWidth 0 = .ok (.aload_n 0, 1) := by decide +kernel
theorem dL_setWidth_1 : decode cL_setWidth 1 = .ok (.iload_n 1, 1) := by decide +kernel
theorem dL_setWidth_2 : decode cL_setWidth 2 = .ok (.invokevirtual 57, 3) := by decide +kernel
theorem dL_setWidth_5 : decode cL_setWidth 5 = .ok (.ireturn, 1) := by decide +kernel
theorem dL_setWidth_6 : decode cL_setWidth 6 = .ok (.astore_n 2, 1) := by decide +kernel
theorem dL_setWidth_7 : decode cL_setWidth 7 = .ok (.iconst (-1), 1) := by decide +kernel
theorem dL_setWidth_8 : decode cL_setWidth 8 = .ok (.ireturn, 1) := by decide +kernel
theorem dL_canBeSet_0 : decode cL_canBeSet 0 = .ok (.aload_n 0, 1) := by decide +kernel
theorem dL_canBeSet_1 : decode cL_canBeSet 1 = .ok (.iload_n 1, 1) := by decide +kernel
theorem dL_canBeSet_2 : decode cL_canBeSet 2 = .ok (.invokevirtual 60, 3) := by decide +kernel
theorem dL_canBeSet_5 : decode cL_canBeSet 5 = .ok (.ifCond .eq 7, 3) := by decide +kernel
theorem dL_canBeSet_8 : decode cL_canBeSet 8 = .ok (.iconst 1, 1) := by decide +kernel
theorem dL_canBeSet_9 : decode cL_canBeSet 9 = .ok (.goto 4, 3) := by decide +kernel
theorem dL_canBeSet_12 : decode cL_canBeSet 12 = .ok (.iconst 0, 1) := by decide +kernel
theorem dL_canBeSet_13 : decode cL_canBeSet 13 = .ok (.ireturn, 1) := by decide +kernel
theorem dL_canBeSet_14 : decode cL_canBeSet 14 = .ok (.astore_n 2, 1) := by decide +kernel
theorem dL_canBeSet_15 : decode cL_canBeSet 15 = .ok (.bipush (-13), 2) := by decide +kernel
theorem dL_canBeSet_17 : decode cL_canBeSet 17 = .ok (.ireturn, 1) := by decide +kernel
theorem dL_lineCount_0 : decode cL_lineCount 0 = .ok (.aload_n 0, 1) := by decide +kernel
theorem dL_lineCount_1 : decode cL_lineCount 1 = .ok (.iload_n 1, 1) := by decide +kernel
theorem dL_lineCount_2 : decode cL_lineCount 2 = .ok (.invokevirtual 64, 3) := by decide +kernel
theorem dL_lineCount_5 : decode cL_lineCount 5 = .ok (.ireturn, 1) := by decide +kernel
theorem dL_lineCount_6 : decode cL_lineCount 6 = .ok (.astore_n 2, 1) := by decide +kernel
theorem dL_lineCount_7 : decode cL_lineCount 7 = .ok (.bipush (-13), 2) := by decide +kernel
theorem dL_lineCount_9 : decode cL_lineCount 9 = .ok (.ireturn, 1) := by decide +kernel
theorem dL_lineCount_10 : decode cL_lineCount 10 = .ok (.astore_n 2, 1) := by decide +kernel
theorem dL_lineCount_11 : decode cL_lineCount 11 = .ok (.bipush (-15), 2) := by decide +kernel
theorem dL_lineCount_13 : decode cL_lineCount 13 = .ok (.ireturn, 1) := by decide +kernel
theorem dL_lineLength_0 : decode cL_lineLength 0 = .ok (.aload_n 0, 1) := by decide +kernel
theorem dL_lineLength_1 : decode cL_lineLength 1 = .ok (.iload_n 1, 1) := by decide +kernel
theorem dL_lineLength_2 : decode cL_lineLength 2 = .ok (.iload_n 2, 1) := by decide +kernel
theorem dL_lineLength_3 : decode cL_lineLength 3 = .ok (.invokevirtual 67, 3) := by decide +kernel
theorem dL_lineLength_6 : decode cL_lineLength 6 = .ok (.ireturn, 1) := by decide +kernel
theorem dL_lineLength_7 : decode cL_lineLength 7 = .ok (.astore_n 3, 1) := by decide +kernel
theorem dL_lineLength_8 : decode cL_lineLength 8 = .ok (.bipush (-13), 2) := by decide +kernel
theorem dL_lineLength_10 : decode cL_lineLength 10 = .ok (.ireturn, 1) := by decide +kernel
theorem dL_lineLength_11 : decode cL_lineLength 11 = .ok (.astore_n 3, 1) := by decide +kernel
theorem dL_lineLength_12 : decode cL_lineLength 12 = .ok (.bipush (-15), 2) := by decide +kernel
theorem dL_lineLength_14 : decode cL_lineLength 14 = .ok (.ireturn, 1) := by decide +kernel
theorem dL_lineLength_15 : decode cL_lineLength 15 = .ok (.astore_n 3, 1) := by decide +kernel
theorem dL_lineLength_16 : decode cL_lineLength 16 = .ok (.bipush (-11), 2) := by decide +kernel
theorem dL_lineLength_18 : decode cL_lineLength 18 = .ok (.ireturn, 1) := by decide +kernel
theorem dL_hyphens_0 : decode cL_hyphens 0 = .ok (.aload_n 0, 1) := by decide +kernel
theorem dL_hyphens_1 : decode cL_hyphens 1 = .ok (.iload_n 1, 1) := by decide +kernel
theorem dL_hyphens_2 : decode cL_hyphens 2 = .ok (.invokevirtual 70, 3) := by decide +kernel
theorem dL_hyphens_5 : decode cL_hyphens 5 = .ok (.ireturn, 1) := by decide +kernel
theorem dL_hyphens_6 : decode cL_hyphens 6 = .ok (.astore_n 2, 1) := by decide +kernel
theorem dL_hyphens_7 : decode cL_hyphens 7 = .ok (.bipush (-13), 2) := by decide +kernel
theorem dL_hyphens_9 : decode cL_hyphens 9 = .ok (.ireturn, 1) := by decide +kernel
theorem dL_hyphens_10 : decode cL_hyphens 10 = .ok (.astore_n 2, 1) := by decide +kernel
theorem dL_hyphens_11 : decode cL_hyphens 11 = .ok (.bipush (-15), 2) := by decide +kernel
theorem dL_hyphens_13 : decode cL_hyphens 13 = .ok (.ireturn, 1) := by decide +kernel
theorem dL_writeLine_0 : decode cL_writeLine 0 = .ok (.aload_n 0, 1) := by decide +kernel
theorem dL_writeLine_1 : decode cL_writeLine 1 = .ok (.iload_n 1, 1) := by decide +kernel
theorem dL_writeLine_2 : decode cL_writeLine 2 = .ok (.iload_n 2, 1) := by decide +kernel
theorem dL_writeLine_3 : decode cL_writeLine 3 = .ok (.invokevirtual 73, 3) := by decide +kernel
theorem dL_writeLine_6 : decode cL_writeLine 6 = .ok (.ireturn, 1) := by decide +kernel
theorem dL_writeLine_7 : decode cL_writeLine 7 = .ok (.astore_n 3, 1) := by decide +kernel
theorem dL_writeLine_8 : decode cL_writeLine 8 = .ok (.bipush (-13), 2) := by decide +kernel
theorem dL_writeLine_10 : decode cL_writeLine 10 = .ok (.ireturn, 1) := by decide +kernel
theorem dL_writeLine_11 : decode cL_writeLine 11 = .ok (.astore_n 3, 1) := by decide +kernel
theorem dL_writeLine_12 : decode cL_writeLine 12 = .ok (.bipush (-15), 2) := by decide +kernel
theorem dL_writeLine_14 : decode cL_writeLine 14 = .ok (.ireturn, 1) := by decide +kernel
theorem dL_writeLine_15 : decode cL_writeLine 15 = .ok (.astore_n 3, 1) := by decide +kernel
theorem dL_writeLine_16 : decode cL_writeLine 16 = .ok (.bipush (-11), 2) := by decide +kernel
theorem dL_writeLine_18 : decode cL_writeLine 18 = .ok (.ireturn, 1) := by decide +kernel
theorem dL_smallest_0 : decode cL_smallest 0 = .ok (.aload_n 0, 1) := by decide +kernel
theorem dL_smallest_1 : decode cL_smallest 1 = .ok (.iload_n 1, 1) := by decide +kernel
theorem dL_smallest_2 : decode cL_smallest 2 = .ok (.invokevirtual 76, 3) := by decide +kernel
theorem dL_smallest_5 : decode cL_smallest 5 = .ok (.ireturn, 1) := by decide +kernel
theorem dL_smallest_6 : decode cL_smallest 6 = .ok (.astore_n 2, 1) := by decide +kernel
theorem dL_smallest_7 : decode cL_smallest 7 = .ok (.bipush (-13), 2) := by decide +kernel
theorem dL_smallest_9 : decode cL_smallest 9 = .ok (.ireturn, 1) := by decide +kernel
theorem dL_badness_0 : decode cL_badness 0 = .ok (.aload_n 0, 1) := by decide +kernel
theorem dL_badness_1 : decode cL_badness 1 = .ok (.iload_n 1, 1) := by decide +kernel
theorem dL_badness_2 : decode cL_badness 2 = .ok (.invokevirtual 79, 3) := by decide +kernel
theorem dL_badness_5 : decode cL_badness 5 = .ok (.ireturn, 1) := by decide +kernel
theorem dL_badness_6 : decode cL_badness 6 = .ok (.astore_n 2, 1) := by decide +kernel
theorem dL_badness_7 : decode cL_badness 7 = .ok (.bipush (-13), 2) := by decide +kernel
theorem dL_badness_9 : decode cL_badness 9 = .ok (.ireturn, 1) := by decide +kernel
theorem dL_badness_10 : decode cL_badness 10 = .ok (.astore_n 2, 1) := by decide +kernel
theorem dL_badness_11 : decode cL_badness 11 = .ok (.bipush (-15), 2) := by decide +kernel
theorem dL_badness_13 : decode cL_badness 13 = .ok (.ireturn, 1) := by decide +kernel
theorem dL_forward_0 : decode cL_forward 0 = .ok (.aload_n 0, 1) := by decide +kernel
theorem dL_forward_1 : decode cL_forward 1 = .ok (.iload_n 1, 1) := by decide +kernel
theorem dL_forward_2 : decode cL_forward 2 = .ok (.invokevirtual 82, 3) := by decide +kernel
theorem dL_forward_5 : decode cL_forward 5 = .ok (.ireturn, 1) := by decide +kernel
theorem dL_forward_6 : decode cL_forward 6 = .ok (.astore_n 2, 1) := by decide +kernel
theorem dL_forward_7 : decode cL_forward 7 = .ok (.bipush (-13), 2) := by decide +kernel
theorem dL_forward_9 : decode cL_forward 9 = .ok (.ireturn, 1) := by decide +kernel
theorem dL_forward_10 : decode cL_forward 10 = .ok (.astore_n 2, 1) := by decide +kernel
theorem dL_forward_11 : decode cL_forward 11 = .ok (.bipush (-15), 2) := by decide +kernel
theorem dL_forward_13 : decode cL_forward 13 = .ok (.ireturn, 1) := by decide +kernel
theorem dL_setPage_0 : decode cL_setPage 0 = .ok (.aload_n 0, 1) := by decide +kernel
theorem dL_setPage_1 : decode cL_setPage 1 = .ok (.iload_n 1, 1) := by decide +kernel
theorem dL_setPage_2 : decode cL_setPage 2 = .ok (.iload_n 2, 1) := by decide +kernel
theorem dL_setPage_3 : decode cL_setPage 3 = .ok (.invokevirtual 85, 3) := by decide +kernel
theorem dL_setPage_6 : decode cL_setPage 6 = .ok (.ireturn, 1) := by decide +kernel
theorem dL_setPage_7 : decode cL_setPage 7 = .ok (.astore_n 3, 1) := by decide +kernel
theorem dL_setPage_8 : decode cL_setPage 8 = .ok (.iconst (-1), 1) := by decide +kernel
theorem dL_setPage_9 : decode cL_setPage 9 = .ok (.ireturn, 1) := by decide +kernel
theorem dL_prints_0 : decode cL_prints 0 = .ok (.aload_n 0, 1) := by decide +kernel
theorem dL_prints_1 : decode cL_prints 1 = .ok (.invokevirtual 88, 3) := by decide +kernel
theorem dL_prints_4 : decode cL_prints 4 = .ok (.ireturn, 1) := by decide +kernel
theorem dL_prints_5 : decode cL_prints 5 = .ok (.astore_n 1, 1) := by decide +kernel
theorem dL_prints_6 : decode cL_prints 6 = .ok (.iconst (-1), 1) := by decide +kernel
theorem dL_prints_7 : decode cL_prints 7 = .ok (.ireturn, 1) := by decide +kernel
theorem dL_articlesIn_0 : decode cL_articlesIn 0 = .ok (.aload_n 0, 1) := by decide +kernel
theorem dL_articlesIn_1 : decode cL_articlesIn 1 = .ok (.iload_n 1, 1) := by decide +kernel
theorem dL_articlesIn_2 : decode cL_articlesIn 2 = .ok (.invokevirtual 92, 3) := by decide +kernel
theorem dL_articlesIn_5 : decode cL_articlesIn 5 = .ok (.ireturn, 1) := by decide +kernel
theorem dL_articlesIn_6 : decode cL_articlesIn 6 = .ok (.astore_n 2, 1) := by decide +kernel
theorem dL_articlesIn_7 : decode cL_articlesIn 7 = .ok (.bipush (-13), 2) := by decide +kernel
theorem dL_articlesIn_9 : decode cL_articlesIn 9 = .ok (.ireturn, 1) := by decide +kernel
theorem dL_linesIn_0 : decode cL_linesIn 0 = .ok (.aload_n 0, 1) := by decide +kernel
theorem dL_linesIn_1 : decode cL_linesIn 1 = .ok (.iload_n 1, 1) := by decide +kernel
theorem dL_linesIn_2 : decode cL_linesIn 2 = .ok (.invokevirtual 95, 3) := by decide +kernel
theorem dL_linesIn_5 : decode cL_linesIn 5 = .ok (.ireturn, 1) := by decide +kernel
theorem dL_linesIn_6 : decode cL_linesIn 6 = .ok (.astore_n 2, 1) := by decide +kernel
theorem dL_linesIn_7 : decode cL_linesIn 7 = .ok (.bipush (-13), 2) := by decide +kernel
theorem dL_linesIn_9 : decode cL_linesIn 9 = .ok (.ireturn, 1) := by decide +kernel
theorem dL_columnOf_0 : decode cL_columnOf 0 = .ok (.aload_n 0, 1) := by decide +kernel
theorem dL_columnOf_1 : decode cL_columnOf 1 = .ok (.iload_n 1, 1) := by decide +kernel
theorem dL_columnOf_2 : decode cL_columnOf 2 = .ok (.iload_n 2, 1) := by decide +kernel
theorem dL_columnOf_3 : decode cL_columnOf 3 = .ok (.invokevirtual 98, 3) := by decide +kernel
theorem dL_columnOf_6 : decode cL_columnOf 6 = .ok (.ireturn, 1) := by decide +kernel
theorem dL_columnOf_7 : decode cL_columnOf 7 = .ok (.astore_n 3, 1) := by decide +kernel
theorem dL_columnOf_8 : decode cL_columnOf 8 = .ok (.bipush (-13), 2) := by decide +kernel
theorem dL_columnOf_10 : decode cL_columnOf 10 = .ok (.ireturn, 1) := by decide +kernel
theorem dL_rowOf_0 : decode cL_rowOf 0 = .ok (.aload_n 0, 1) := by decide +kernel
theorem dL_rowOf_1 : decode cL_rowOf 1 = .ok (.iload_n 1, 1) := by decide +kernel
theorem dL_rowOf_2 : decode cL_rowOf 2 = .ok (.iload_n 2, 1) := by decide +kernel
theorem dL_rowOf_3 : decode cL_rowOf 3 = .ok (.invokevirtual 101, 3) := by decide +kernel
theorem dL_rowOf_6 : decode cL_rowOf 6 = .ok (.ireturn, 1) := by decide +kernel
theorem dL_rowOf_7 : decode cL_rowOf 7 = .ok (.astore_n 3, 1) := by decide +kernel
theorem dL_rowOf_8 : decode cL_rowOf 8 = .ok (.bipush (-13), 2) := by decide +kernel
theorem dL_rowOf_10 : decode cL_rowOf 10 = .ok (.ireturn, 1) := by decide +kernel
theorem dL_pass_0 : decode cL_pass 0 = .ok (.aload_n 0, 1) := by decide +kernel
theorem dL_pass_1 : decode cL_pass 1 = .ok (.iload_n 1, 1) := by decide +kernel
theorem dL_pass_2 : decode cL_pass 2 = .ok (.invokevirtual 104, 3) := by decide +kernel
theorem dL_pass_5 : decode cL_pass 5 = .ok (.ireturn, 1) := by decide +kernel
theorem dL_pass_6 : decode cL_pass 6 = .ok (.astore_n 2, 1) := by decide +kernel
theorem dL_pass_7 : decode cL_pass 7 = .ok (.iconst (-1), 1) := by decide +kernel
theorem dL_pass_8 : decode cL_pass 8 = .ok (.ireturn, 1) := by decide +kernel
theorem dL_freshBits_0 : decode cL_freshBits 0 = .ok (.aload_n 0, 1) := by decide +kernel
theorem dL_freshBits_1 : decode cL_freshBits 1 = .ok (.iload_n 1, 1) := by decide +kernel
theorem dL_freshBits_2 : decode cL_freshBits 2 = .ok (.invokevirtual 107, 3) := by decide +kernel
theorem dL_freshBits_5 : decode cL_freshBits 5 = .ok (.ireturn, 1) := by decide +kernel
theorem dL_freshBits_6 : decode cL_freshBits 6 = .ok (.astore_n 2, 1) := by decide +kernel
theorem dL_freshBits_7 : decode cL_freshBits 7 = .ok (.bipush (-13), 2) := by decide +kernel
theorem dL_freshBits_9 : decode cL_freshBits 9 = .ok (.ireturn, 1) := by decide +kernel
theorem dL_isReadable_0 : decode cL_isReadable 0 = .ok (.aload_n 0, 1) := by decide +kernel
theorem dL_isReadable_1 : decode cL_isReadable 1 = .ok (.iload_n 1, 1) := by decide +kernel
theorem dL_isReadable_2 : decode cL_isReadable 2 = .ok (.invokevirtual 110, 3) := by decide +kernel
theorem dL_isReadable_5 : decode cL_isReadable 5 = .ok (.ifCond .eq 7, 3) := by decide +kernel
theorem dL_isReadable_8 : decode cL_isReadable 8 = .ok (.iconst 1, 1) := by decide +kernel
theorem dL_isReadable_9 : decode cL_isReadable 9 = .ok (.goto 4, 3) := by decide +kernel
theorem dL_isReadable_12 : decode cL_isReadable 12 = .ok (.iconst 0, 1) := by decide +kernel
theorem dL_isReadable_13 : decode cL_isReadable 13 = .ok (.ireturn, 1) := by decide +kernel
theorem dL_isReadable_14 : decode cL_isReadable 14 = .ok (.astore_n 2, 1) := by decide +kernel
theorem dL_isReadable_15 : decode cL_isReadable 15 = .ok (.bipush (-13), 2) := by decide +kernel
theorem dL_isReadable_17 : decode cL_isReadable 17 = .ok (.ireturn, 1) := by decide +kernel
theorem dL_daysUntil_0 : decode cL_daysUntil 0 = .ok (.aload_n 0, 1) := by decide +kernel
theorem dL_daysUntil_1 : decode cL_daysUntil 1 = .ok (.iload_n 1, 1) := by decide +kernel
theorem dL_daysUntil_2 : decode cL_daysUntil 2 = .ok (.invokevirtual 113, 3) := by decide +kernel
theorem dL_daysUntil_5 : decode cL_daysUntil 5 = .ok (.ireturn, 1) := by decide +kernel
theorem dL_daysUntil_6 : decode cL_daysUntil 6 = .ok (.astore_n 2, 1) := by decide +kernel
theorem dL_daysUntil_7 : decode cL_daysUntil 7 = .ok (.bipush (-13), 2) := by decide +kernel
theorem dL_daysUntil_9 : decode cL_daysUntil 9 = .ok (.ireturn, 1) := by decide +kernel
theorem dL_writeArticle_0 : decode cL_writeArticle 0 = .ok (.aload_n 0, 1) := by decide +kernel
theorem dL_writeArticle_1 : decode cL_writeArticle 1 = .ok (.iload_n 1, 1) := by decide +kernel
theorem dL_writeArticle_2 : decode cL_writeArticle 2 = .ok (.invokevirtual 116, 3) := by decide +kernel
theorem dL_writeArticle_5 : decode cL_writeArticle 5 = .ok (.ireturn, 1) := by decide +kernel
theorem dL_writeArticle_6 : decode cL_writeArticle 6 = .ok (.astore_n 2, 1) := by decide +kernel
theorem dL_writeArticle_7 : decode cL_writeArticle 7 = .ok (.bipush (-13), 2) := by decide +kernel
theorem dL_writeArticle_9 : decode cL_writeArticle 9 = .ok (.ireturn, 1) := by decide +kernel
theorem dL_outputAt_0 : decode cL_outputAt 0 = .ok (.aload_n 0, 1) := by decide +kernel
theorem dL_outputAt_1 : decode cL_outputAt 1 = .ok (.iload_n 1, 1) := by decide +kernel
theorem dL_outputAt_2 : decode cL_outputAt 2 = .ok (.invokevirtual 119, 3) := by decide +kernel
theorem dL_outputAt_5 : decode cL_outputAt 5 = .ok (.ireturn, 1) := by decide +kernel
theorem dL_outputAt_6 : decode cL_outputAt 6 = .ok (.astore_n 2, 1) := by decide +kernel
theorem dL_outputAt_7 : decode cL_outputAt 7 = .ok (.bipush (-11), 2) := by decide +kernel
theorem dL_outputAt_9 : decode cL_outputAt 9 = .ok (.ireturn, 1) := by decide +kernel
theorem dL_feed_0 : decode cL_feed 0 = .ok (.aload_n 0, 1) := by decide +kernel
theorem dL_feed_1 : decode cL_feed 1 = .ok (.iload_n 1, 1) := by decide +kernel
theorem dL_feed_2 : decode cL_feed 2 = .ok (.invokevirtual 123, 3) := by decide +kernel
theorem dL_feed_5 : decode cL_feed 5 = .ok (.ireturn, 1) := by decide +kernel
theorem dL_feed_6 : decode cL_feed 6 = .ok (.astore_n 2, 1) := by decide +kernel
theorem dL_feed_7 : decode cL_feed 7 = .ok (.bipush (-14), 2) := by decide +kernel
theorem dL_feed_9 : decode cL_feed 9 = .ok (.ireturn, 1) := by decide +kernel
theorem dL_executes_0 : decode cL_executes 0 = .ok (.aload_n 0, 1) := by decide +kernel
theorem dL_executes_1 : decode cL_executes 1 = .ok (.invokevirtual 126, 3) := by decide +kernel
theorem dL_executes_4 : decode cL_executes 4 = .ok (.ireturn, 1) := by decide +kernel
theorem dL_executes_5 : decode cL_executes 5 = .ok (.astore_n 1, 1) := by decide +kernel
theorem dL_executes_6 : decode cL_executes 6 = .ok (.iconst (-1), 1) := by decide +kernel
theorem dL_executes_7 : decode cL_executes 7 = .ok (.ireturn, 1) := by decide +kernel
theorem dL_executes_8 : decode cL_executes 8 = .ok (.astore_n 1, 1) := by decide +kernel
theorem dL_executes_9 : decode cL_executes 9 = .ok (.bipush (-2), 2) := by decide +kernel
theorem dL_executes_11 : decode cL_executes 11 = .ok (.ireturn, 1) := by decide +kernel
theorem dL_undo_0 : decode cL_undo 0 = .ok (.aload_n 0, 1) := by decide +kernel
theorem dL_undo_1 : decode cL_undo 1 = .ok (.invokevirtual 135, 3) := by decide +kernel
theorem dL_undo_4 : decode cL_undo 4 = .ok (.ireturn, 1) := by decide +kernel
theorem dL_undo_5 : decode cL_undo 5 = .ok (.astore_n 1, 1) := by decide +kernel
theorem dL_undo_6 : decode cL_undo 6 = .ok (.iconst (-1), 1) := by decide +kernel
theorem dL_undo_7 : decode cL_undo 7 = .ok (.ireturn, 1) := by decide +kernel
theorem dL_execute_0 : decode cL_execute 0 = .ok (.iconst 0, 1) := by decide +kernel
theorem dL_execute_1 : decode cL_execute 1 = .ok (.istore_n 2, 1) := by decide +kernel
theorem dL_execute_2 : decode cL_execute 2 = .ok (.iload_n 2, 1) := by decide +kernel
theorem dL_execute_3 : decode cL_execute 3 = .ok (.aload_n 1, 1) := by decide +kernel
theorem dL_execute_4 : decode cL_execute 4 = .ok (.invokevirtual 138, 3) := by decide +kernel
theorem dL_execute_7 : decode cL_execute 7 = .ok (.if_icmp .ge 27, 3) := by decide +kernel
theorem dL_execute_10 : decode cL_execute 10 = .ok (.aload_n 0, 1) := by decide +kernel
theorem dL_execute_11 : decode cL_execute 11 = .ok (.aload_n 1, 1) := by decide +kernel
theorem dL_execute_12 : decode cL_execute 12 = .ok (.iload_n 2, 1) := by decide +kernel
theorem dL_execute_13 : decode cL_execute 13 = .ok (.invokevirtual 143, 3) := by decide +kernel
theorem dL_execute_16 : decode cL_execute 16 = .ok (.invokestatic 146, 3) := by decide +kernel
theorem dL_execute_19 : decode cL_execute 19 = .ok (.iload_n 2, 1) := by decide +kernel
theorem dL_execute_20 : decode cL_execute 20 = .ok (.iconst 1, 1) := by decide +kernel
theorem dL_execute_21 : decode cL_execute 21 = .ok (.iadd, 1) := by decide +kernel
theorem dL_execute_22 : decode cL_execute 22 = .ok (.if_icmp .eq 6, 3) := by decide +kernel
theorem dL_execute_25 : decode cL_execute 25 = .ok (.bipush (-9), 2) := by decide +kernel
