/-! decode rows of the law's helpers, printed -/
theorem dL_truncateInput_0 : decode cL_truncateInput 0 = .ok (.aload_n 2, 1) := by decide +kernel
theorem dL_truncateInput_1 : decode cL_truncateInput 1 = .ok (.iconst 0, 1) := by decide +kernel
theorem dL_truncateInput_2 : decode cL_truncateInput 2 = .ok (.aload_n 0, 1) := by decide +kernel
theorem dL_truncateInput_3 : decode cL_truncateInput 3 = .ok (.iload_n 1, 1) := by decide +kernel
theorem dL_truncateInput_4 : decode cL_truncateInput 4 = .ok (.invokevirtual 7, 3) := by decide +kernel
theorem dL_truncateInput_7 : decode cL_truncateInput 7 = .ok (.i2l, 1) := by decide +kernel
theorem dL_truncateInput_8 : decode cL_truncateInput 8 = .ok (.lastore, 1) := by decide +kernel
theorem dL_truncateInput_9 : decode cL_truncateInput 9 = .ok (.goto 6, 3) := by decide +kernel
theorem dL_truncateInput_12 : decode cL_truncateInput 12 = .ok (.astore_n 3, 1) := by decide +kernel
theorem dL_truncateInput_13 : decode cL_truncateInput 13 = .ok (.iconst 1, 1) := by decide +kernel
theorem dL_truncateInput_14 : decode cL_truncateInput 14 = .ok (.ireturn, 1) := by decide +kernel
theorem dL_truncateInput_15 : decode cL_truncateInput 15 = .ok (.iconst 0, 1) := by decide +kernel
theorem dL_truncateInput_16 : decode cL_truncateInput 16 = .ok (.ireturn, 1) := by decide +kernel
theorem dL_compile_0 : decode cL_compile 0 = .ok (.aload_n 2, 1) := by decide +kernel
theorem dL_compile_1 : decode cL_compile 1 = .ok (.iconst 0, 1) := by decide +kernel
theorem dL_compile_2 : decode cL_compile 2 = .ok (.aload_n 0, 1) := by decide +kernel
theorem dL_compile_3 : decode cL_compile 3 = .ok (.iload_n 1, 1) := by decide +kernel
theorem dL_compile_4 : decode cL_compile 4 = .ok (.invokevirtual 15, 3) := by decide +kernel
theorem dL_compile_7 : decode cL_compile 7 = .ok (.i2l, 1) := by decide +kernel
theorem dL_compile_8 : decode cL_compile 8 = .ok (.lastore, 1) := by decide +kernel
theorem dL_compile_9 : decode cL_compile 9 = .ok (.goto 6, 3) := by decide +kernel
theorem dL_compile_12 : decode cL_compile 12 = .ok (.astore_n 3, 1) := by decide +kernel
theorem dL_compile_13 : decode cL_compile 13 = .ok (.iconst 1, 1) := by decide +kernel
theorem dL_compile_14 : decode cL_compile 14 = .ok (.ireturn, 1) := by decide +kernel
theorem dL_compile_15 : decode cL_compile 15 = .ok (.iconst 0, 1) := by decide +kernel
theorem dL_compile_16 : decode cL_compile 16 = .ok (.ireturn, 1) := by decide +kernel
theorem dL_copyPattern_0 : decode cL_copyPattern 0 = .ok (.aload_n 2, 1) := by decide +kernel
theorem dL_copyPattern_1 : decode cL_copyPattern 1 = .ok (.iconst 0, 1) := by decide +kernel
theorem dL_copyPattern_2 : decode cL_copyPattern 2 = .ok (.aload_n 0, 1) := by decide +kernel
theorem dL_copyPattern_3 : decode cL_copyPattern 3 = .ok (.iload_n 1, 1) := by decide +kernel
theorem dL_copyPattern_4 : decode cL_copyPattern 4 = .ok (.invokevirtual 20, 3) := by decide +kernel
theorem dL_copyPattern_7 : decode cL_copyPattern 7 = .ok (.i2l, 1) := by decide +kernel
theorem dL_copyPattern_8 : decode cL_copyPattern 8 = .ok (.lastore, 1) := by decide +kernel
theorem dL_copyPattern_9 : decode cL_copyPattern 9 = .ok (.goto 6, 3) := by decide +kernel
theorem dL_copyPattern_12 : decode cL_copyPattern 12 = .ok (.astore_n 3, 1) := by decide +kernel
theorem dL_copyPattern_13 : decode cL_copyPattern 13 = .ok (.iconst 1, 1) := by decide +kernel
theorem dL_copyPattern_14 : decode cL_copyPattern 14 = .ok (.ireturn, 1) := by decide +kernel
theorem dL_copyPattern_15 : decode cL_copyPattern 15 = .ok (.iconst 0, 1) := by decide +kernel
theorem dL_copyPattern_16 : decode cL_copyPattern 16 = .ok (.ireturn, 1) := by decide +kernel
theorem dL_addWalker_0 : decode cL_addWalker 0 = .ok (.aload_n 2, 1) := by decide +kernel
theorem dL_addWalker_1 : decode cL_addWalker 1 = .ok (.iconst 0, 1) := by decide +kernel
theorem dL_addWalker_2 : decode cL_addWalker 2 = .ok (.aload_n 0, 1) := by decide +kernel
theorem dL_addWalker_3 : decode cL_addWalker 3 = .ok (.iload_n 1, 1) := by decide +kernel
theorem dL_addWalker_4 : decode cL_addWalker 4 = .ok (.invokevirtual 23, 3) := by decide +kernel
theorem dL_addWalker_7 : decode cL_addWalker 7 = .ok (.i2l, 1) := by decide +kernel
theorem dL_addWalker_8 : decode cL_addWalker 8 = .ok (.lastore, 1) := by decide +kernel
theorem dL_addWalker_9 : decode cL_addWalker 9 = .ok (.goto 9, 3) := by decide +kernel
theorem dL_addWalker_12 : decode cL_addWalker 12 = .ok (.astore_n 3, 1) := by decide +kernel
theorem dL_addWalker_13 : decode cL_addWalker 13 = .ok (.iconst 1, 1) := by decide +kernel
theorem dL_addWalker_14 : decode cL_addWalker 14 = .ok (.ireturn, 1) := by decide +kernel
theorem dL_addWalker_15 : decode cL_addWalker 15 = .ok (.astore_n 3, 1) := by decide +kernel
theorem dL_addWalker_16 : decode cL_addWalker 16 = .ok (.iconst 2, 1) := by decide +kernel
theorem dL_addWalker_17 : decode cL_addWalker 17 = .ok (.ireturn, 1) := by decide +kernel
theorem dL_addWalker_18 : decode cL_addWalker 18 = .ok (.iconst 0, 1) := by decide +kernel
theorem dL_addWalker_19 : decode cL_addWalker 19 = .ok (.ireturn, 1) := by decide +kernel
theorem dL_removeWalker_0 : decode cL_removeWalker 0 = .ok (.aload_n 2, 1) := by decide +kernel
theorem dL_removeWalker_1 : decode cL_removeWalker 1 = .ok (.iconst 0, 1) := by decide +kernel
theorem dL_removeWalker_2 : decode cL_removeWalker 2 = .ok (.aload_n 0, 1) := by decide +kernel
theorem dL_removeWalker_3 : decode cL_removeWalker 3 = .ok (.iload_n 1, 1) := by decide +kernel
theorem dL_removeWalker_4 : decode cL_removeWalker 4 = .ok (.invokevirtual 28, 3) := by decide +kernel
theorem dL_removeWalker_7 : decode cL_removeWalker 7 = .ok (.i2l, 1) := by decide +kernel
theorem dL_removeWalker_8 : decode cL_removeWalker 8 = .ok (.lastore, 1) := by decide +kernel
theorem dL_removeWalker_9 : decode cL_removeWalker 9 = .ok (.goto 6, 3) := by decide +kernel
theorem dL_removeWalker_12 : decode cL_removeWalker 12 = .ok (.astore_n 3, 1) := by decide +kernel
theorem dL_removeWalker_13 : decode cL_removeWalker 13 = .ok (.iconst 1, 1) := by decide +kernel
theorem dL_removeWalker_14 : decode cL_removeWalker 14 = .ok (.ireturn, 1) := by decide +kernel
theorem dL_removeWalker_15 : decode cL_removeWalker 15 = .ok (.iconst 0, 1) := by decide +kernel
theorem dL_removeWalker_16 : decode cL_removeWalker 16 = .ok (.ireturn, 1) := by decide +kernel
theorem dL_step_0 : decode cL_step 0 = .ok (.aload_n 3, 1) := by decide +kernel
theorem dL_step_1 : decode cL_step 1 = .ok (.iconst 0, 1) := by decide +kernel
theorem dL_step_2 : decode cL_step 2 = .ok (.aload_n 0, 1) := by decide +kernel
theorem dL_step_3 : decode cL_step 3 = .ok (.iload_n 1, 1) := by decide +kernel
theorem dL_step_4 : decode cL_step 4 = .ok (.iload_n 2, 1) := by decide +kernel
theorem dL_step_5 : decode cL_step 5 = .ok (.invokevirtual 31, 3) := by decide +kernel
theorem dL_step_8 : decode cL_step 8 = .ok (.i2l, 1) := by decide +kernel
theorem dL_step_9 : decode cL_step 9 = .ok (.lastore, 1) := by decide +kernel
theorem dL_step_10 : decode cL_step 10 = .ok (.goto 11, 3) := by decide +kernel
theorem dL_step_13 : decode cL_step 13 = .ok (.astore 4, 2) := by decide +kernel
theorem dL_step_15 : decode cL_step 15 = .ok (.iconst 1, 1) := by decide +kernel
theorem dL_step_16 : decode cL_step 16 = .ok (.ireturn, 1) := by decide +kernel
theorem dL_step_17 : decode cL_step 17 = .ok (.astore 4, 2) := by decide +kernel
theorem dL_step_19 : decode cL_step 19 = .ok (.iconst 2, 1) := by decide +kernel
theorem dL_step_20 : decode cL_step 20 = .ok (.ireturn, 1) := by decide +kernel
theorem dL_step_21 : decode cL_step 21 = .ok (.iconst 0, 1) := by decide +kernel
theorem dL_step_22 : decode cL_step 22 = .ok (.ireturn, 1) := by decide +kernel
theorem dL_walkWord_0 : decode cL_walkWord 0 = .ok (.aload_n 2, 1) := by decide +kernel
theorem dL_walkWord_1 : decode cL_walkWord 1 = .ok (.iconst 0, 1) := by decide +kernel
theorem dL_walkWord_2 : decode cL_walkWord 2 = .ok (.aload_n 0, 1) := by decide +kernel
theorem dL_walkWord_3 : decode cL_walkWord 3 = .ok (.iload_n 1, 1) := by decide +kernel
theorem dL_walkWord_4 : decode cL_walkWord 4 = .ok (.invokevirtual 35, 3) := by decide +kernel
theorem dL_walkWord_7 : decode cL_walkWord 7 = .ok (.i2l, 1) := by decide +kernel
theorem dL_walkWord_8 : decode cL_walkWord 8 = .ok (.lastore, 1) := by decide +kernel
theorem dL_walkWord_9 : decode cL_walkWord 9 = .ok (.goto 6, 3) := by decide +kernel
theorem dL_walkWord_12 : decode cL_walkWord 12 = .ok (.astore_n 3, 1) := by decide +kernel
theorem dL_walkWord_13 : decode cL_walkWord 13 = .ok (.iconst 1, 1) := by decide +kernel
theorem dL_walkWord_14 : decode cL_walkWord 14 = .ok (.ireturn, 1) := by decide +kernel
theorem dL_walkWord_15 : decode cL_walkWord 15 = .ok (.iconst 0, 1) := by decide +kernel
theorem dL_walkWord_16 : decode cL_walkWord 16 = .ok (.ireturn, 1) := by decide +kernel
theorem dL_restartWalker_0 : decode cL_restartWalker 0 = .ok (.aload_n 2, 1) := by decide +kernel
theorem dL_restartWalker_1 : decode cL_restartWalker 1 = .ok (.iconst 0, 1) := by decide +kernel
theorem dL_restartWalker_2 : decode cL_restartWalker 2 = .ok (.aload_n 0, 1) := by decide +kernel
theorem dL_restartWalker_3 : decode cL_restartWalker 3 = .ok (.iload_n 1, 1) := by decide +kernel
theorem dL_restartWalker_4 : decode cL_restartWalker 4 = .ok (.invokevirtual 38, 3) := by decide +kernel
theorem dL_restartWalker_7 : decode cL_restartWalker 7 = .ok (.i2l, 1) := by decide +kernel
theorem dL_restartWalker_8 : decode cL_restartWalker 8 = .ok (.lastore, 1) := by decide +kernel
theorem dL_restartWalker_9 : decode cL_restartWalker 9 = .ok (.goto 6, 3) := by decide +kernel
theorem dL_restartWalker_12 : decode cL_restartWalker 12 = .ok (.astore_n 3, 1) := by decide +kernel
theorem dL_restartWalker_13 : decode cL_restartWalker 13 = .ok (.iconst 1, 1) := by decide +kernel
theorem dL_restartWalker_14 : decode cL_restartWalker 14 = .ok (.ireturn, 1) := by decide +kernel
theorem dL_restartWalker_15 : decode cL_restartWalker 15 = .ok (.iconst 0, 1) := by decide +kernel
theorem dL_restartWalker_16 : decode cL_restartWalker 16 = .ok (.ireturn, 1) := by decide +kernel
theorem dL_setGate_0 : decode cL_setGate 0 = .ok (.aload 4, 2) := by decide +kernel
theorem dL_setGate_2 : decode cL_setGate 2 = .ok (.iconst 0, 1) := by decide +kernel
theorem dL_setGate_3 : decode cL_setGate 3 = .ok (.aload_n 0, 1) := by decide +kernel
theorem dL_setGate_4 : decode cL_setGate 4 = .ok (.iload_n 1, 1) := by decide +kernel
theorem dL_setGate_5 : decode cL_setGate 5 = .ok (.iload_n 2, 1) := by decide +kernel
theorem dL_setGate_6 : decode cL_setGate 6 = .ok (.iload_n 3, 1) := by decide +kernel
theorem dL_setGate_7 : decode cL_setGate 7 = .ok (.invokevirtual 41, 3) := by decide +kernel
theorem dL_setGate_10 : decode cL_setGate 10 = .ok (.ifCond .eq 7, 3) := by decide +kernel
theorem dL_setGate_13 : decode cL_setGate 13 = .ok (.lconst 1, 1) := by decide +kernel
theorem dL_setGate_14 : decode cL_setGate 14 = .ok (.goto 4, 3) := by decide +kernel
theorem dL_setGate_17 : decode cL_setGate 17 = .ok (.lconst 0, 1) := by decide +kernel
theorem dL_setGate_18 : decode cL_setGate 18 = .ok (.lastore, 1) := by decide +kernel
theorem dL_setGate_19 : decode cL_setGate 19 = .ok (.goto 7, 3) := by decide +kernel
theorem dL_setGate_22 : decode cL_setGate 22 = .ok (.astore 5, 2) := by decide +kernel
theorem dL_setGate_24 : decode cL_setGate 24 = .ok (.iconst 1, 1) := by decide +kernel
theorem dL_setGate_25 : decode cL_setGate 25 = .ok (.ireturn, 1) := by decide +kernel
theorem dL_setGate_26 : decode cL_setGate 26 = .ok (.iconst 0, 1) := by decide +kernel
theorem dL_setGate_27 : decode cL_setGate 27 = .ok (.ireturn, 1) := by decide +kernel
theorem dL_restoreSnapshot_0 : decode cL_restoreSnapshot 0 = .ok (.aload_n 1, 1) := by decide +kernel
theorem dL_restoreSnapshot_1 : decode cL_restoreSnapshot 1 = .ok (.iconst 0, 1) := by decide +kernel
theorem dL_restoreSnapshot_2 : decode cL_restoreSnapshot 2 = .ok (.aload_n 0, 1) := by decide +kernel
theorem dL_restoreSnapshot_3 : decode cL_restoreSnapshot 3 = .ok (.invokevirtual 45, 3) := by decide +kernel
theorem dL_restoreSnapshot_6 : decode cL_restoreSnapshot 6 = .ok (.i2l, 1) := by decide +kernel
theorem dL_restoreSnapshot_7 : decode cL_restoreSnapshot 7 = .ok (.lastore, 1) := by decide +kernel
theorem dL_restoreSnapshot_8 : decode cL_restoreSnapshot 8 = .ok (.goto 6, 3) := by decide +kernel
theorem dL_restoreSnapshot_11 : decode cL_restoreSnapshot 11 = .ok (.astore_n 2, 1) := by decide +kernel
theorem dL_restoreSnapshot_12 : decode cL_restoreSnapshot 12 = .ok (.iconst 1, 1) := by decide +kernel
theorem dL_restoreSnapshot_13 : decode cL_restoreSnapshot 13 = .ok (.ireturn, 1) := by decide +kernel
theorem dL_restoreSnapshot_14 : decode cL_restoreSnapshot 14 = .ok (.iconst 0, 1) := by decide +kernel
theorem dL_restoreSnapshot_15 : decode cL_restoreSnapshot 15 = .ok (.ireturn, 1) := by decide +kernel
theorem dL_positionCount_0 : decode cL_positionCount 0 = .ok (.aload_n 2, 1) := by decide +kernel
theorem dL_positionCount_1 : decode cL_positionCount 1 = .ok (.iconst 0, 1) := by decide +kernel
theorem dL_positionCount_2 : decode cL_positionCount 2 = .ok (.aload_n 0, 1) := by decide +kernel
theorem dL_positionCount_3 : decode cL_positionCount 3 = .ok (.iload_n 1, 1) := by decide +kernel
theorem dL_positionCount_4 : decode cL_positionCount 4 = .ok (.invokevirtual 51, 3) := by decide +kernel
theorem dL_positionCount_7 : decode cL_positionCount 7 = .ok (.i2l, 1) := by decide +kernel
theorem dL_positionCount_8 : decode cL_positionCount 8 = .ok (.lastore, 1) := by decide +kernel
theorem dL_positionCount_9 : decode cL_positionCount 9 = .ok (.goto 6, 3) := by decide +kernel
theorem dL_positionCount_12 : decode cL_positionCount 12 = .ok (.astore_n 3, 1) := by decide +kernel
theorem dL_positionCount_13 : decode cL_positionCount 13 = .ok (.iconst 1, 1) := by decide +kernel
theorem dL_positionCount_14 : decode cL_positionCount 14 = .ok (.ireturn, 1) := by decide +kernel
theorem dL_positionCount_15 : decode cL_positionCount 15 = .ok (.iconst 0, 1) := by decide +kernel
theorem dL_positionCount_16 : decode cL_positionCount 16 = .ok (.ireturn, 1) := by decide +kernel
theorem dL_streetAt_0 : decode cL_streetAt 0 = .ok (.aload_n 3, 1) := by decide +kernel
theorem dL_streetAt_1 : decode cL_streetAt 1 = .ok (.iconst 0, 1) := by decide +kernel
theorem dL_streetAt_2 : decode cL_streetAt 2 = .ok (.aload_n 0, 1) := by decide +kernel
theorem dL_streetAt_3 : decode cL_streetAt 3 = .ok (.iload_n 1, 1) := by decide +kernel
theorem dL_streetAt_4 : decode cL_streetAt 4 = .ok (.iload_n 2, 1) := by decide +kernel
theorem dL_streetAt_5 : decode cL_streetAt 5 = .ok (.invokevirtual 54, 3) := by decide +kernel
theorem dL_streetAt_8 : decode cL_streetAt 8 = .ok (.i2l, 1) := by decide +kernel
theorem dL_streetAt_9 : decode cL_streetAt 9 = .ok (.lastore, 1) := by decide +kernel
theorem dL_streetAt_10 : decode cL_streetAt 10 = .ok (.goto 7, 3) := by decide +kernel
theorem dL_streetAt_13 : decode cL_streetAt 13 = .ok (.astore 4, 2) := by decide +kernel
theorem dL_streetAt_15 : decode cL_streetAt 15 = .ok (.iconst 1, 1) := by decide +kernel
theorem dL_streetAt_16 : decode cL_streetAt 16 = .ok (.ireturn, 1) := by decide +kernel
theorem dL_streetAt_17 : decode cL_streetAt 17 = .ok (.iconst 0, 1) := by decide +kernel
theorem dL_streetAt_18 : decode cL_streetAt 18 = .ok (.ireturn, 1) := by decide +kernel
theorem dL_acceptsEmptyWord_0 : decode cL_acceptsEmptyWord 0 = .ok (.aload_n 2, 1) := by decide +kernel
theorem dL_acceptsEmptyWord_1 : decode cL_acceptsEmptyWord 1 = .ok (.iconst 0, 1) := by decide +kernel
theorem dL_acceptsEmptyWord_2 : decode cL_acceptsEmptyWord 2 = .ok (.aload_n 0, 1) := by decide +kernel
theorem dL_acceptsEmptyWord_3 : decode cL_acceptsEmptyWord 3 = .ok (.iload_n 1, 1) := by decide +kernel
theorem dL_acceptsEmptyWord_4 : decode cL_acceptsEmptyWord 4 = .ok (.invokevirtual 57, 3) := by decide +kernel
theorem dL_acceptsEmptyWord_7 : decode cL_acceptsEmptyWord 7 = .ok (.ifCond .eq 7, 3) := by decide +kernel
theorem dL_acceptsEmptyWord_10 : decode cL_acceptsEmptyWord 10 = .ok (.lconst 1, 1) := by decide +kernel
theorem dL_acceptsEmptyWord_11 : decode cL_acceptsEmptyWord 11 = .ok (.goto 4, 3) := by decide +kernel
theorem dL_acceptsEmptyWord_14 : decode cL_acceptsEmptyWord 14 = .ok (.lconst 0, 1) := by decide +kernel
theorem dL_acceptsEmptyWord_15 : decode cL_acceptsEmptyWord 15 = .ok (.lastore, 1) := by decide +kernel
theorem dL_acceptsEmptyWord_16 : decode cL_acceptsEmptyWord 16 = .ok (.goto 6, 3) := by decide +kernel
theorem dL_acceptsEmptyWord_19 : decode cL_acceptsEmptyWord 19 = .ok (.astore_n 3, 1) := by decide +kernel
theorem dL_acceptsEmptyWord_20 : decode cL_acceptsEmptyWord 20 = .ok (.iconst 1, 1) := by decide +kernel
theorem dL_acceptsEmptyWord_21 : decode cL_acceptsEmptyWord 21 = .ok (.ireturn, 1) := by decide +kernel
theorem dL_acceptsEmptyWord_22 : decode cL_acceptsEmptyWord 22 = .ok (.iconst 0, 1) := by decide +kernel
theorem dL_acceptsEmptyWord_23 : decode cL_acceptsEmptyWord 23 = .ok (.ireturn, 1) := by decide +kernel
theorem dL_firstPositions_0 : decode cL_firstPositions 0 = .ok (.aload_n 2, 1) := by decide +kernel
theorem dL_firstPositions_1 : decode cL_firstPositions 1 = .ok (.iconst 0, 1) := by decide +kernel
theorem dL_firstPositions_2 : decode cL_firstPositions 2 = .ok (.aload_n 0, 1) := by decide +kernel
theorem dL_firstPositions_3 : decode cL_firstPositions 3 = .ok (.iload_n 1, 1) := by decide +kernel
theorem dL_firstPositions_4 : decode cL_firstPositions 4 = .ok (.invokevirtual 61, 3) := by decide +kernel
theorem dL_firstPositions_7 : decode cL_firstPositions 7 = .ok (.i2l, 1) := by decide +kernel
theorem dL_firstPositions_8 : decode cL_firstPositions 8 = .ok (.lastore, 1) := by decide +kernel
theorem dL_firstPositions_9 : decode cL_firstPositions 9 = .ok (.goto 6, 3) := by decide +kernel
theorem dL_firstPositions_12 : decode cL_firstPositions 12 = .ok (.astore_n 3, 1) := by decide +kernel
theorem dL_firstPositions_13 : decode cL_firstPositions 13 = .ok (.iconst 1, 1) := by decide +kernel
theorem dL_firstPositions_14 : decode cL_firstPositions 14 = .ok (.ireturn, 1) := by decide +kernel
theorem dL_firstPositions_15 : decode cL_firstPositions 15 = .ok (.iconst 0, 1) := by decide +kernel
theorem dL_firstPositions_16 : decode cL_firstPositions 16 = .ok (.ireturn, 1) := by decide +kernel
theorem dL_lastPositions_0 : decode cL_lastPositions 0 = .ok (.aload_n 2, 1) := by decide +kernel
theorem dL_lastPositions_1 : decode cL_lastPositions 1 = .ok (.iconst 0, 1) := by decide +kernel
theorem dL_lastPositions_2 : decode cL_lastPositions 2 = .ok (.aload_n 0, 1) := by decide +kernel
theorem dL_lastPositions_3 : decode cL_lastPositions 3 = .ok (.iload_n 1, 1) := by decide +kernel
theorem dL_lastPositions_4 : decode cL_lastPositions 4 = .ok (.invokevirtual 64, 3) := by decide +kernel
theorem dL_lastPositions_7 : decode cL_lastPositions 7 = .ok (.i2l, 1) := by decide +kernel
theorem dL_lastPositions_8 : decode cL_lastPositions 8 = .ok (.lastore, 1) := by decide +kernel
theorem dL_lastPositions_9 : decode cL_lastPositions 9 = .ok (.goto 6, 3) := by decide +kernel
theorem dL_lastPositions_12 : decode cL_lastPositions 12 = .ok (.astore_n 3, 1) := by decide +kernel
theorem dL_lastPositions_13 : decode cL_lastPositions 13 = .ok (.iconst 1, 1) := by decide +kernel
theorem dL_lastPositions_14 : decode cL_lastPositions 14 = .ok (.ireturn, 1) := by decide +kernel
theorem dL_lastPositions_15 : decode cL_lastPositions 15 = .ok (.iconst 0, 1) := by decide +kernel
theorem dL_lastPositions_16 : decode cL_lastPositions 16 = .ok (.ireturn, 1) := by decide +kernel
theorem dL_followPositions_0 : decode cL_followPositions 0 = .ok (.aload_n 3, 1) := by decide +kernel
theorem dL_followPositions_1 : decode cL_followPositions 1 = .ok (.iconst 0, 1) := by decide +kernel
theorem dL_followPositions_2 : decode cL_followPositions 2 = .ok (.aload_n 0, 1) := by decide +kernel
theorem dL_followPositions_3 : decode cL_followPositions 3 = .ok (.iload_n 1, 1) := by decide +kernel
theorem dL_followPositions_4 : decode cL_followPositions 4 = .ok (.iload_n 2, 1) := by decide +kernel
theorem dL_followPositions_5 : decode cL_followPositions 5 = .ok (.invokevirtual 67, 3) := by decide +kernel
theorem dL_followPositions_8 : decode cL_followPositions 8 = .ok (.i2l, 1) := by decide +kernel
theorem dL_followPositions_9 : decode cL_followPositions 9 = .ok (.lastore, 1) := by decide +kernel
theorem dL_followPositions_10 : decode cL_followPositions 10 = .ok (.goto 7, 3) := by decide +kernel
theorem dL_followPositions_13 : decode cL_followPositions 13 = .ok (.astore 4, 2) := by decide +kernel
theorem dL_followPositions_15 : decode cL_followPositions 15 = .ok (.iconst 1, 1) := by decide +kernel
theorem dL_followPositions_16 : decode cL_followPositions 16 = .ok (.ireturn, 1) := by decide +kernel
theorem dL_followPositions_17 : decode cL_followPositions 17 = .ok (.iconst 0, 1) := by decide +kernel
theorem dL_followPositions_18 : decode cL_followPositions 18 = .ok (.ireturn, 1) := by decide +kernel
theorem dL_loopCount_0 : decode cL_loopCount 0 = .ok (.aload_n 2, 1) := by decide +kernel
theorem dL_loopCount_1 : decode cL_loopCount 1 = .ok (.iconst 0, 1) := by decide +kernel
theorem dL_loopCount_2 : decode cL_loopCount 2 = .ok (.aload_n 0, 1) := by decide +kernel
theorem dL_loopCount_3 : decode cL_loopCount 3 = .ok (.iload_n 1, 1) := by decide +kernel
theorem dL_loopCount_4 : decode cL_loopCount 4 = .ok (.invokevirtual 70, 3) := by decide +kernel
theorem dL_loopCount_7 : decode cL_loopCount 7 = .ok (.i2l, 1) := by decide +kernel
theorem dL_loopCount_8 : decode cL_loopCount 8 = .ok (.lastore, 1) := by decide +kernel
theorem dL_loopCount_9 : decode cL_loopCount 9 = .ok (.goto 6, 3) := by decide +kernel
theorem dL_loopCount_12 : decode cL_loopCount 12 = .ok (.astore_n 3, 1) := by decide +kernel
theorem dL_loopCount_13 : decode cL_loopCount 13 = .ok (.iconst 1, 1) := by decide +kernel
theorem dL_loopCount_14 : decode cL_loopCount 14 = .ok (.ireturn, 1) := by decide +kernel
theorem dL_loopCount_15 : decode cL_loopCount 15 = .ok (.iconst 0, 1) := by decide +kernel
theorem dL_loopCount_16 : decode cL_loopCount 16 = .ok (.ireturn, 1) := by decide +kernel
theorem dL_isDeterministicAt_0 : decode cL_isDeterministicAt 0 = .ok (.aload_n 3, 1) := by decide +kernel
theorem dL_isDeterministicAt_1 : decode cL_isDeterministicAt 1 = .ok (.iconst 0, 1) := by decide +kernel
theorem dL_isDeterministicAt_2 : decode cL_isDeterministicAt 2 = .ok (.aload_n 0, 1) := by decide +kernel
theorem dL_isDeterministicAt_3 : decode cL_isDeterministicAt 3 = .ok (.iload_n 1, 1) := by decide +kernel
theorem dL_isDeterministicAt_4 : decode cL_isDeterministicAt 4 = .ok (.iload_n 2, 1) := by decide +kernel
theorem dL_isDeterministicAt_5 : decode cL_isDeterministicAt 5 = .ok (.invokevirtual 73, 3) := by decide +kernel
theorem dL_isDeterministicAt_8 : decode cL_isDeterministicAt 8 = .ok (.ifCond .eq 7, 3) := by decide +kernel
theorem dL_isDeterministicAt_11 : decode cL_isDeterministicAt 11 = .ok (.lconst 1, 1) := by decide +kernel
theorem dL_isDeterministicAt_12 : decode cL_isDeterministicAt 12 = .ok (.goto 4, 3) := by decide +kernel
theorem dL_isDeterministicAt_15 : decode cL_isDeterministicAt 15 = .ok (.lconst 0, 1) := by decide +kernel
theorem dL_isDeterministicAt_16 : decode cL_isDeterministicAt 16 = .ok (.lastore, 1) := by decide +kernel
theorem dL_isDeterministicAt_17 : decode cL_isDeterministicAt 17 = .ok (.goto 7, 3) := by decide +kernel
theorem dL_isDeterministicAt_20 : decode cL_isDeterministicAt 20 = .ok (.astore 4, 2) := by decide +kernel
theorem dL_isDeterministicAt_22 : decode cL_isDeterministicAt 22 = .ok (.iconst 1, 1) := by decide +kernel
theorem dL_isDeterministicAt_23 : decode cL_isDeterministicAt 23 = .ok (.ireturn, 1) := by decide +kernel
theorem dL_isDeterministicAt_24 : decode cL_isDeterministicAt 24 = .ok (.iconst 0, 1) := by decide +kernel
theorem dL_isDeterministicAt_25 : decode cL_isDeterministicAt 25 = .ok (.ireturn, 1) := by decide +kernel
theorem dL_stateCount_0 : decode cL_stateCount 0 = .ok (.aload_n 2, 1) := by decide +kernel
theorem dL_stateCount_1 : decode cL_stateCount 1 = .ok (.iconst 0, 1) := by decide +kernel
theorem dL_stateCount_2 : decode cL_stateCount 2 = .ok (.aload_n 0, 1) := by decide +kernel
theorem dL_stateCount_3 : decode cL_stateCount 3 = .ok (.iload_n 1, 1) := by decide +kernel
theorem dL_stateCount_4 : decode cL_stateCount 4 = .ok (.invokevirtual 77, 3) := by decide +kernel
theorem dL_stateCount_7 : decode cL_stateCount 7 = .ok (.i2l, 1) := by decide +kernel
theorem dL_stateCount_8 : decode cL_stateCount 8 = .ok (.lastore, 1) := by decide +kernel
theorem dL_stateCount_9 : decode cL_stateCount 9 = .ok (.goto 6, 3) := by decide +kernel
theorem dL_stateCount_12 : decode cL_stateCount 12 = .ok (.astore_n 3, 1) := by decide +kernel
theorem dL_stateCount_13 : decode cL_stateCount 13 = .ok (.iconst 1, 1) := by decide +kernel
theorem dL_stateCount_14 : decode cL_stateCount 14 = .ok (.ireturn, 1) := by decide +kernel
theorem dL_stateCount_15 : decode cL_stateCount 15 = .ok (.iconst 0, 1) := by decide +kernel
theorem dL_stateCount_16 : decode cL_stateCount 16 = .ok (.ireturn, 1) := by decide +kernel
theorem dL_transition_0 : decode cL_transition 0 = .ok (.aload 4, 2) := by decide +kernel
theorem dL_transition_2 : decode cL_transition 2 = .ok (.iconst 0, 1) := by decide +kernel
theorem dL_transition_3 : decode cL_transition 3 = .ok (.aload_n 0, 1) := by decide +kernel
theorem dL_transition_4 : decode cL_transition 4 = .ok (.iload_n 1, 1) := by decide +kernel
theorem dL_transition_5 : decode cL_transition 5 = .ok (.iload_n 2, 1) := by decide +kernel
theorem dL_transition_6 : decode cL_transition 6 = .ok (.iload_n 3, 1) := by decide +kernel
theorem dL_transition_7 : decode cL_transition 7 = .ok (.invokevirtual 80, 3) := by decide +kernel
theorem dL_transition_10 : decode cL_transition 10 = .ok (.i2l, 1) := by decide +kernel
theorem dL_transition_11 : decode cL_transition 11 = .ok (.lastore, 1) := by decide +kernel
theorem dL_transition_12 : decode cL_transition 12 = .ok (.goto 7, 3) := by decide +kernel
theorem dL_transition_15 : decode cL_transition 15 = .ok (.astore 5, 2) := by decide +kernel
theorem dL_transition_17 : decode cL_transition 17 = .ok (.iconst 1, 1) := by decide +kernel
theorem dL_transition_18 : decode cL_transition 18 = .ok (.ireturn, 1) := by decide +kernel
theorem dL_transition_19 : decode cL_transition 19 = .ok (.iconst 0, 1) := by decide +kernel
theorem dL_transition_20 : decode cL_transition 20 = .ok (.ireturn, 1) := by decide +kernel
theorem dL_isAccepting_0 : decode cL_isAccepting 0 = .ok (.aload_n 3, 1) := by decide +kernel
theorem dL_isAccepting_1 : decode cL_isAccepting 1 = .ok (.iconst 0, 1) := by decide +kernel
theorem dL_isAccepting_2 : decode cL_isAccepting 2 = .ok (.aload_n 0, 1) := by decide +kernel
theorem dL_isAccepting_3 : decode cL_isAccepting 3 = .ok (.iload_n 1, 1) := by decide +kernel
theorem dL_isAccepting_4 : decode cL_isAccepting 4 = .ok (.iload_n 2, 1) := by decide +kernel
theorem dL_isAccepting_5 : decode cL_isAccepting 5 = .ok (.invokevirtual 84, 3) := by decide +kernel
theorem dL_isAccepting_8 : decode cL_isAccepting 8 = .ok (.ifCond .eq 7, 3) := by decide +kernel
theorem dL_isAccepting_11 : decode cL_isAccepting 11 = .ok (.lconst 1, 1) := by decide +kernel
theorem dL_isAccepting_12 : decode cL_isAccepting 12 = .ok (.goto 4, 3) := by decide +kernel
theorem dL_isAccepting_15 : decode cL_isAccepting 15 = .ok (.lconst 0, 1) := by decide +kernel
theorem dL_isAccepting_16 : decode cL_isAccepting 16 = .ok (.lastore, 1) := by decide +kernel
theorem dL_isAccepting_17 : decode cL_isAccepting 17 = .ok (.goto 7, 3) := by decide +kernel
theorem dL_isAccepting_20 : decode cL_isAccepting 20 = .ok (.astore 4, 2) := by decide +kernel
theorem dL_isAccepting_22 : decode cL_isAccepting 22 = .ok (.iconst 1, 1) := by decide +kernel
theorem dL_isAccepting_23 : decode cL_isAccepting 23 = .ok (.ireturn, 1) := by decide +kernel
theorem dL_isAccepting_24 : decode cL_isAccepting 24 = .ok (.iconst 0, 1) := by decide +kernel
theorem dL_isAccepting_25 : decode cL_isAccepting 25 = .ok (.ireturn, 1) := by decide +kernel
theorem dL_statePositions_0 : decode cL_statePositions 0 = .ok (.aload_n 3, 1) := by decide +kernel
theorem dL_statePositions_1 : decode cL_statePositions 1 = .ok (.iconst 0, 1) := by decide +kernel
theorem dL_statePositions_2 : decode cL_statePositions 2 = .ok (.aload_n 0, 1) := by decide +kernel
theorem dL_statePositions_3 : decode cL_statePositions 3 = .ok (.iload_n 1, 1) := by decide +kernel
theorem dL_statePositions_4 : decode cL_statePositions 4 = .ok (.iload_n 2, 1) := by decide +kernel
theorem dL_statePositions_5 : decode cL_statePositions 5 = .ok (.invokevirtual 87, 3) := by decide +kernel
theorem dL_statePositions_8 : decode cL_statePositions 8 = .ok (.i2l, 1) := by decide +kernel
theorem dL_statePositions_9 : decode cL_statePositions 9 = .ok (.lastore, 1) := by decide +kernel
theorem dL_statePositions_10 : decode cL_statePositions 10 = .ok (.goto 7, 3) := by decide +kernel
theorem dL_statePositions_13 : decode cL_statePositions 13 = .ok (.astore 4, 2) := by decide +kernel
theorem dL_statePositions_15 : decode cL_statePositions 15 = .ok (.iconst 1, 1) := by decide +kernel
theorem dL_statePositions_16 : decode cL_statePositions 16 = .ok (.ireturn, 1) := by decide +kernel
theorem dL_statePositions_17 : decode cL_statePositions 17 = .ok (.iconst 0, 1) := by decide +kernel
theorem dL_statePositions_18 : decode cL_statePositions 18 = .ok (.ireturn, 1) := by decide +kernel
theorem dL_deadState_0 : decode cL_deadState 0 = .ok (.aload_n 2, 1) := by decide +kernel
theorem dL_deadState_1 : decode cL_deadState 1 = .ok (.iconst 0, 1) := by decide +kernel
theorem dL_deadState_2 : decode cL_deadState 2 = .ok (.aload_n 0, 1) := by decide +kernel
theorem dL_deadState_3 : decode cL_deadState 3 = .ok (.iload_n 1, 1) := by decide +kernel
theorem dL_deadState_4 : decode cL_deadState 4 = .ok (.invokevirtual 90, 3) := by decide +kernel
theorem dL_deadState_7 : decode cL_deadState 7 = .ok (.i2l, 1) := by decide +kernel
theorem dL_deadState_8 : decode cL_deadState 8 = .ok (.lastore, 1) := by decide +kernel
theorem dL_deadState_9 : decode cL_deadState 9 = .ok (.goto 6, 3) := by decide +kernel
theorem dL_deadState_12 : decode cL_deadState 12 = .ok (.astore_n 3, 1) := by decide +kernel
theorem dL_deadState_13 : decode cL_deadState 13 = .ok (.iconst 1, 1) := by decide +kernel
theorem dL_deadState_14 : decode cL_deadState 14 = .ok (.ireturn, 1) := by decide +kernel
theorem dL_deadState_15 : decode cL_deadState 15 = .ok (.iconst 0, 1) := by decide +kernel
theorem dL_deadState_16 : decode cL_deadState 16 = .ok (.ireturn, 1) := by decide +kernel
theorem dL_distanceToAccepting_0 : decode cL_distanceToAccepting 0 = .ok (.aload_n 3, 1) := by decide +kernel
theorem dL_distanceToAccepting_1 : decode cL_distanceToAccepting 1 = .ok (.iconst 0, 1) := by decide +kernel
theorem dL_distanceToAccepting_2 : decode cL_distanceToAccepting 2 = .ok (.aload_n 0, 1) := by decide +kernel
theorem dL_distanceToAccepting_3 : decode cL_distanceToAccepting 3 = .ok (.iload_n 1, 1) := by decide +kernel
theorem dL_distanceToAccepting_4 : decode cL_distanceToAccepting 4 = .ok (.iload_n 2, 1) := by decide +kernel
theorem dL_distanceToAccepting_5 : decode cL_distanceToAccepting 5 = .ok (.invokevirtual 93, 3) := by decide +kernel
theorem dL_distanceToAccepting_8 : decode cL_distanceToAccepting 8 = .ok (.i2l, 1) := by decide +kernel
theorem dL_distanceToAccepting_9 : decode cL_distanceToAccepting 9 = .ok (.lastore, 1) := by decide +kernel
theorem dL_distanceToAccepting_10 : decode cL_distanceToAccepting 10 = .ok (.goto 7, 3) := by decide +kernel
theorem dL_distanceToAccepting_13 : decode cL_distanceToAccepting 13 = .ok (.astore 4, 2) := by decide +kernel
theorem dL_distanceToAccepting_15 : decode cL_distanceToAccepting 15 = .ok (.iconst 1, 1) := by decide +kernel
theorem dL_distanceToAccepting_16 : decode cL_distanceToAccepting 16 = .ok (.ireturn, 1) := by decide +kernel
theorem dL_distanceToAccepting_17 : decode cL_distanceToAccepting 17 = .ok (.iconst 0, 1) := by decide +kernel
theorem dL_distanceToAccepting_18 : decode cL_distanceToAccepting 18 = .ok (.ireturn, 1) := by decide +kernel
theorem dL_areEquivalentStates_0 : decode cL_areEquivalentStates 0 = .ok (.aload 4, 2) := by decide +kernel
theorem dL_areEquivalentStates_2 : decode cL_areEquivalentStates 2 = .ok (.iconst 0, 1) := by decide +kernel
theorem dL_areEquivalentStates_3 : decode cL_areEquivalentStates 3 = .ok (.aload_n 0, 1) := by decide +kernel
theorem dL_areEquivalentStates_4 : decode cL_areEquivalentStates 4 = .ok (.iload_n 1, 1) := by decide +kernel
theorem dL_areEquivalentStates_5 : decode cL_areEquivalentStates 5 = .ok (.iload_n 2, 1) := by decide +kernel
theorem dL_areEquivalentStates_6 : decode cL_areEquivalentStates 6 = .ok (.iload_n 3, 1) := by decide +kernel
theorem dL_areEquivalentStates_7 : decode cL_areEquivalentStates 7 = .ok (.invokevirtual 96, 3) := by decide +kernel
theorem dL_areEquivalentStates_10 : decode cL_areEquivalentStates 10 = .ok (.ifCond .eq 7, 3) := by decide +kernel
theorem dL_areEquivalentStates_13 : decode cL_areEquivalentStates 13 = .ok (.lconst 1, 1) := by decide +kernel
theorem dL_areEquivalentStates_14 : decode cL_areEquivalentStates 14 = .ok (.goto 4, 3) := by decide +kernel
theorem dL_areEquivalentStates_17 : decode cL_areEquivalentStates 17 = .ok (.lconst 0, 1) := by decide +kernel
theorem dL_areEquivalentStates_18 : decode cL_areEquivalentStates 18 = .ok (.lastore, 1) := by decide +kernel
theorem dL_areEquivalentStates_19 : decode cL_areEquivalentStates 19 = .ok (.goto 7, 3) := by decide +kernel
theorem dL_areEquivalentStates_22 : decode cL_areEquivalentStates 22 = .ok (.astore 5, 2) := by decide +kernel
theorem dL_areEquivalentStates_24 : decode cL_areEquivalentStates 24 = .ok (.iconst 1, 1) := by decide +kernel
theorem dL_areEquivalentStates_25 : decode cL_areEquivalentStates 25 = .ok (.ireturn, 1) := by decide +kernel
theorem dL_areEquivalentStates_26 : decode cL_areEquivalentStates 26 = .ok (.iconst 0, 1) := by decide +kernel
theorem dL_areEquivalentStates_27 : decode cL_areEquivalentStates 27 = .ok (.ireturn, 1) := by decide +kernel
theorem dL_minimalStateCount_0 : decode cL_minimalStateCount 0 = .ok (.aload_n 2, 1) := by decide +kernel
theorem dL_minimalStateCount_1 : decode cL_minimalStateCount 1 = .ok (.iconst 0, 1) := by decide +kernel
theorem dL_minimalStateCount_2 : decode cL_minimalStateCount 2 = .ok (.aload_n 0, 1) := by decide +kernel
theorem dL_minimalStateCount_3 : decode cL_minimalStateCount 3 = .ok (.iload_n 1, 1) := by decide +kernel
theorem dL_minimalStateCount_4 : decode cL_minimalStateCount 4 = .ok (.invokevirtual 100, 3) := by decide +kernel
theorem dL_minimalStateCount_7 : decode cL_minimalStateCount 7 = .ok (.i2l, 1) := by decide +kernel
theorem dL_minimalStateCount_8 : decode cL_minimalStateCount 8 = .ok (.lastore, 1) := by decide +kernel
theorem dL_minimalStateCount_9 : decode cL_minimalStateCount 9 = .ok (.goto 6, 3) := by decide +kernel
theorem dL_minimalStateCount_12 : decode cL_minimalStateCount 12 = .ok (.astore_n 3, 1) := by decide +kernel
theorem dL_minimalStateCount_13 : decode cL_minimalStateCount 13 = .ok (.iconst 1, 1) := by decide +kernel
theorem dL_minimalStateCount_14 : decode cL_minimalStateCount 14 = .ok (.ireturn, 1) := by decide +kernel
theorem dL_minimalStateCount_15 : decode cL_minimalStateCount 15 = .ok (.iconst 0, 1) := by decide +kernel
theorem dL_minimalStateCount_16 : decode cL_minimalStateCount 16 = .ok (.ireturn, 1) := by decide +kernel
theorem dL_acceptsInput_0 : decode cL_acceptsInput 0 = .ok (.aload_n 2, 1) := by decide +kernel
theorem dL_acceptsInput_1 : decode cL_acceptsInput 1 = .ok (.iconst 0, 1) := by decide +kernel
theorem dL_acceptsInput_2 : decode cL_acceptsInput 2 = .ok (.aload_n 0, 1) := by decide +kernel
theorem dL_acceptsInput_3 : decode cL_acceptsInput 3 = .ok (.iload_n 1, 1) := by decide +kernel
theorem dL_acceptsInput_4 : decode cL_acceptsInput 4 = .ok (.invokevirtual 103, 3) := by decide +kernel
theorem dL_acceptsInput_7 : decode cL_acceptsInput 7 = .ok (.ifCond .eq 7, 3) := by decide +kernel
theorem dL_acceptsInput_10 : decode cL_acceptsInput 10 = .ok (.lconst 1, 1) := by decide +kernel
theorem dL_acceptsInput_11 : decode cL_acceptsInput 11 = .ok (.goto 4, 3) := by decide +kernel
theorem dL_acceptsInput_14 : decode cL_acceptsInput 14 = .ok (.lconst 0, 1) := by decide +kernel
theorem dL_acceptsInput_15 : decode cL_acceptsInput 15 = .ok (.lastore, 1) := by decide +kernel
theorem dL_acceptsInput_16 : decode cL_acceptsInput 16 = .ok (.goto 6, 3) := by decide +kernel
theorem dL_acceptsInput_19 : decode cL_acceptsInput 19 = .ok (.astore_n 3, 1) := by decide +kernel
theorem dL_acceptsInput_20 : decode cL_acceptsInput 20 = .ok (.iconst 1, 1) := by decide +kernel
theorem dL_acceptsInput_21 : decode cL_acceptsInput 21 = .ok (.ireturn, 1) := by decide +kernel
theorem dL_acceptsInput_22 : decode cL_acceptsInput 22 = .ok (.iconst 0, 1) := by decide +kernel
theorem dL_acceptsInput_23 : decode cL_acceptsInput 23 = .ok (.ireturn, 1) := by decide +kernel
theorem dL_wordCount_0 : decode cL_wordCount 0 = .ok (.aload_n 3, 1) := by decide +kernel
theorem dL_wordCount_1 : decode cL_wordCount 1 = .ok (.iconst 0, 1) := by decide +kernel
theorem dL_wordCount_2 : decode cL_wordCount 2 = .ok (.aload_n 0, 1) := by decide +kernel
theorem dL_wordCount_3 : decode cL_wordCount 3 = .ok (.iload_n 1, 1) := by decide +kernel
theorem dL_wordCount_4 : decode cL_wordCount 4 = .ok (.iload_n 2, 1) := by decide +kernel
theorem dL_wordCount_5 : decode cL_wordCount 5 = .ok (.invokevirtual 106, 3) := by decide +kernel
theorem dL_wordCount_8 : decode cL_wordCount 8 = .ok (.lastore, 1) := by decide +kernel
theorem dL_wordCount_9 : decode cL_wordCount 9 = .ok (.goto 11, 3) := by decide +kernel
theorem dL_wordCount_12 : decode cL_wordCount 12 = .ok (.astore 4, 2) := by decide +kernel
theorem dL_wordCount_14 : decode cL_wordCount 14 = .ok (.iconst 1, 1) := by decide +kernel
theorem dL_wordCount_15 : decode cL_wordCount 15 = .ok (.ireturn, 1) := by decide +kernel
theorem dL_wordCount_16 : decode cL_wordCount 16 = .ok (.astore 4, 2) := by decide +kernel
theorem dL_wordCount_18 : decode cL_wordCount 18 = .ok (.iconst 2, 1) := by decide +kernel
theorem dL_wordCount_19 : decode cL_wordCount 19 = .ok (.ireturn, 1) := by decide +kernel
theorem dL_wordCount_20 : decode cL_wordCount 20 = .ok (.iconst 0, 1) := by decide +kernel
theorem dL_wordCount_21 : decode cL_wordCount 21 = .ok (.ireturn, 1) := by decide +kernel
theorem dL_wordCountWithPrefix_0 : decode cL_wordCountWithPrefix 0 = .ok (.aload_n 3, 1) := by decide +kernel
theorem dL_wordCountWithPrefix_1 : decode cL_wordCountWithPrefix 1 = .ok (.iconst 0, 1) := by decide +kernel
theorem dL_wordCountWithPrefix_2 : decode cL_wordCountWithPrefix 2 = .ok (.aload_n 0, 1) := by decide +kernel
theorem dL_wordCountWithPrefix_3 : decode cL_wordCountWithPrefix 3 = .ok (.iload_n 1, 1) := by decide +kernel
theorem dL_wordCountWithPrefix_4 : decode cL_wordCountWithPrefix 4 = .ok (.iload_n 2, 1) := by decide +kernel
theorem dL_wordCountWithPrefix_5 : decode cL_wordCountWithPrefix 5 = .ok (.invokevirtual 110, 3) := by decide +kernel
theorem dL_wordCountWithPrefix_8 : decode cL_wordCountWithPrefix 8 = .ok (.lastore, 1) := by decide +kernel
theorem dL_wordCountWithPrefix_9 : decode cL_wordCountWithPrefix 9 = .ok (.goto 11, 3) := by decide +kernel
theorem dL_wordCountWithPrefix_12 : decode cL_wordCountWithPrefix 12 = .ok (.astore 4, 2) := by decide +kernel
theorem dL_wordCountWithPrefix_14 : decode cL_wordCountWithPrefix 14 = .ok (.iconst 1, 1) := by decide +kernel
theorem dL_wordCountWithPrefix_15 : decode cL_wordCountWithPrefix 15 = .ok (.ireturn, 1) := by decide +kernel
theorem dL_wordCountWithPrefix_16 : decode cL_wordCountWithPrefix 16 = .ok (.astore 4, 2) := by decide +kernel
theorem dL_wordCountWithPrefix_18 : decode cL_wordCountWithPrefix 18 = .ok (.iconst 2, 1) := by decide +kernel
theorem dL_wordCountWithPrefix_19 : decode cL_wordCountWithPrefix 19 = .ok (.ireturn, 1) := by decide +kernel
theorem dL_wordCountWithPrefix_20 : decode cL_wordCountWithPrefix 20 = .ok (.iconst 0, 1) := by decide +kernel
theorem dL_wordCountWithPrefix_21 : decode cL_wordCountWithPrefix 21 = .ok (.ireturn, 1) := by decide +kernel
theorem dL_shortestLength_0 : decode cL_shortestLength 0 = .ok (.aload_n 2, 1) := by decide +kernel
theorem dL_shortestLength_1 : decode cL_shortestLength 1 = .ok (.iconst 0, 1) := by decide +kernel
theorem dL_shortestLength_2 : decode cL_shortestLength 2 = .ok (.aload_n 0, 1) := by decide +kernel
theorem dL_shortestLength_3 : decode cL_shortestLength 3 = .ok (.iload_n 1, 1) := by decide +kernel
theorem dL_shortestLength_4 : decode cL_shortestLength 4 = .ok (.invokevirtual 113, 3) := by decide +kernel
theorem dL_shortestLength_7 : decode cL_shortestLength 7 = .ok (.i2l, 1) := by decide +kernel
theorem dL_shortestLength_8 : decode cL_shortestLength 8 = .ok (.lastore, 1) := by decide +kernel
theorem dL_shortestLength_9 : decode cL_shortestLength 9 = .ok (.goto 6, 3) := by decide +kernel
theorem dL_shortestLength_12 : decode cL_shortestLength 12 = .ok (.astore_n 3, 1) := by decide +kernel
theorem dL_shortestLength_13 : decode cL_shortestLength 13 = .ok (.iconst 1, 1) := by decide +kernel
theorem dL_shortestLength_14 : decode cL_shortestLength 14 = .ok (.ireturn, 1) := by decide +kernel
theorem dL_shortestLength_15 : decode cL_shortestLength 15 = .ok (.iconst 0, 1) := by decide +kernel
theorem dL_shortestLength_16 : decode cL_shortestLength 16 = .ok (.ireturn, 1) := by decide +kernel
theorem dL_isFinite_0 : decode cL_isFinite 0 = .ok (.aload_n 2, 1) := by decide +kernel
theorem dL_isFinite_1 : decode cL_isFinite 1 = .ok (.iconst 0, 1) := by decide +kernel
theorem dL_isFinite_2 : decode cL_isFinite 2 = .ok (.aload_n 0, 1) := by decide +kernel
theorem dL_isFinite_3 : decode cL_isFinite 3 = .ok (.iload_n 1, 1) := by decide +kernel
theorem dL_isFinite_4 : decode cL_isFinite 4 = .ok (.invokevirtual 116, 3) := by decide +kernel
theorem dL_isFinite_7 : decode cL_isFinite 7 = .ok (.ifCond .eq 7, 3) := by decide +kernel
theorem dL_isFinite_10 : decode cL_isFinite 10 = .ok (.lconst 1, 1) := by decide +kernel
theorem dL_isFinite_11 : decode cL_isFinite 11 = .ok (.goto 4, 3) := by decide +kernel
theorem dL_isFinite_14 : decode cL_isFinite 14 = .ok (.lconst 0, 1) := by decide +kernel
theorem dL_isFinite_15 : decode cL_isFinite 15 = .ok (.lastore, 1) := by decide +kernel
theorem dL_isFinite_16 : decode cL_isFinite 16 = .ok (.goto 6, 3) := by decide +kernel
theorem dL_isFinite_19 : decode cL_isFinite 19 = .ok (.astore_n 3, 1) := by decide +kernel
theorem dL_isFinite_20 : decode cL_isFinite 20 = .ok (.iconst 1, 1) := by decide +kernel
theorem dL_isFinite_21 : decode cL_isFinite 21 = .ok (.ireturn, 1) := by decide +kernel
theorem dL_isFinite_22 : decode cL_isFinite 22 = .ok (.iconst 0, 1) := by decide +kernel
theorem dL_isFinite_23 : decode cL_isFinite 23 = .ok (.ireturn, 1) := by decide +kernel
theorem dL_longestLength_0 : decode cL_longestLength 0 = .ok (.aload_n 2, 1) := by decide +kernel
theorem dL_longestLength_1 : decode cL_longestLength 1 = .ok (.iconst 0, 1) := by decide +kernel
theorem dL_longestLength_2 : decode cL_longestLength 2 = .ok (.aload_n 0, 1) := by decide +kernel
theorem dL_longestLength_3 : decode cL_longestLength 3 = .ok (.iload_n 1, 1) := by decide +kernel
theorem dL_longestLength_4 : decode cL_longestLength 4 = .ok (.invokevirtual 119, 3) := by decide +kernel
theorem dL_longestLength_7 : decode cL_longestLength 7 = .ok (.i2l, 1) := by decide +kernel
theorem dL_longestLength_8 : decode cL_longestLength 8 = .ok (.lastore, 1) := by decide +kernel
theorem dL_longestLength_9 : decode cL_longestLength 9 = .ok (.goto 6, 3) := by decide +kernel
theorem dL_longestLength_12 : decode cL_longestLength 12 = .ok (.astore_n 3, 1) := by decide +kernel
theorem dL_longestLength_13 : decode cL_longestLength 13 = .ok (.iconst 1, 1) := by decide +kernel
theorem dL_longestLength_14 : decode cL_longestLength 14 = .ok (.ireturn, 1) := by decide +kernel
theorem dL_longestLength_15 : decode cL_longestLength 15 = .ok (.iconst 0, 1) := by decide +kernel
theorem dL_longestLength_16 : decode cL_longestLength 16 = .ok (.ireturn, 1) := by decide +kernel
theorem dL_isSubset_0 : decode cL_isSubset 0 = .ok (.aload_n 2, 1) := by decide +kernel
theorem dL_isSubset_1 : decode cL_isSubset 1 = .ok (.iconst 0, 1) := by decide +kernel
theorem dL_isSubset_2 : decode cL_isSubset 2 = .ok (.aload_n 0, 1) := by decide +kernel
theorem dL_isSubset_3 : decode cL_isSubset 3 = .ok (.iload_n 1, 1) := by decide +kernel
theorem dL_isSubset_4 : decode cL_isSubset 4 = .ok (.invokevirtual 122, 3) := by decide +kernel
theorem dL_isSubset_7 : decode cL_isSubset 7 = .ok (.ifCond .eq 7, 3) := by decide +kernel
theorem dL_isSubset_10 : decode cL_isSubset 10 = .ok (.lconst 1, 1) := by decide +kernel
theorem dL_isSubset_11 : decode cL_isSubset 11 = .ok (.goto 4, 3) := by decide +kernel
theorem dL_isSubset_14 : decode cL_isSubset 14 = .ok (.lconst 0, 1) := by decide +kernel
theorem dL_isSubset_15 : decode cL_isSubset 15 = .ok (.lastore, 1) := by decide +kernel
theorem dL_isSubset_16 : decode cL_isSubset 16 = .ok (.goto 6, 3) := by decide +kernel
theorem dL_isSubset_19 : decode cL_isSubset 19 = .ok (.astore_n 3, 1) := by decide +kernel
theorem dL_isSubset_20 : decode cL_isSubset 20 = .ok (.iconst 1, 1) := by decide +kernel
theorem dL_isSubset_21 : decode cL_isSubset 21 = .ok (.ireturn, 1) := by decide +kernel
theorem dL_isSubset_22 : decode cL_isSubset 22 = .ok (.iconst 0, 1) := by decide +kernel
theorem dL_isSubset_23 : decode cL_isSubset 23 = .ok (.ireturn, 1) := by decide +kernel
theorem dL_isPassable_0 : decode cL_isPassable 0 = .ok (.aload_n 2, 1) := by decide +kernel
theorem dL_isPassable_1 : decode cL_isPassable 1 = .ok (.iconst 0, 1) := by decide +kernel
theorem dL_isPassable_2 : decode cL_isPassable 2 = .ok (.aload_n 0, 1) := by decide +kernel
theorem dL_isPassable_3 : decode cL_isPassable 3 = .ok (.iload_n 1, 1) := by decide +kernel
theorem dL_isPassable_4 : decode cL_isPassable 4 = .ok (.invokevirtual 125, 3) := by decide +kernel
theorem dL_isPassable_7 : decode cL_isPassable 7 = .ok (.ifCond .eq 7, 3) := by decide +kernel
theorem dL_isPassable_10 : decode cL_isPassable 10 = .ok (.lconst 1, 1) := by decide +kernel
theorem dL_isPassable_11 : decode cL_isPassable 11 = .ok (.goto 4, 3) := by decide +kernel
theorem dL_isPassable_14 : decode cL_isPassable 14 = .ok (.lconst 0, 1) := by decide +kernel
theorem dL_isPassable_15 : decode cL_isPassable 15 = .ok (.lastore, 1) := by decide +kernel
theorem dL_isPassable_16 : decode cL_isPassable 16 = .ok (.goto 6, 3) := by decide +kernel
theorem dL_isPassable_19 : decode cL_isPassable 19 = .ok (.astore_n 3, 1) := by decide +kernel
theorem dL_isPassable_20 : decode cL_isPassable 20 = .ok (.iconst 1, 1) := by decide +kernel
theorem dL_isPassable_21 : decode cL_isPassable 21 = .ok (.ireturn, 1) := by decide +kernel
theorem dL_isPassable_22 : decode cL_isPassable 22 = .ok (.iconst 0, 1) := by decide +kernel
theorem dL_isPassable_23 : decode cL_isPassable 23 = .ok (.ireturn, 1) := by decide +kernel
theorem dL_walkerSlot_0 : decode cL_walkerSlot 0 = .ok (.aload_n 2, 1) := by decide +kernel
theorem dL_walkerSlot_1 : decode cL_walkerSlot 1 = .ok (.iconst 0, 1) := by decide +kernel
theorem dL_walkerSlot_2 : decode cL_walkerSlot 2 = .ok (.aload_n 0, 1) := by decide +kernel
theorem dL_walkerSlot_3 : decode cL_walkerSlot 3 = .ok (.iload_n 1, 1) := by decide +kernel
theorem dL_walkerSlot_4 : decode cL_walkerSlot 4 = .ok (.invokevirtual 128, 3) := by decide +kernel
theorem dL_walkerSlot_7 : decode cL_walkerSlot 7 = .ok (.i2l, 1) := by decide +kernel
theorem dL_walkerSlot_8 : decode cL_walkerSlot 8 = .ok (.lastore, 1) := by decide +kernel
theorem dL_walkerSlot_9 : decode cL_walkerSlot 9 = .ok (.goto 6, 3) := by decide +kernel
theorem dL_walkerSlot_12 : decode cL_walkerSlot 12 = .ok (.astore_n 3, 1) := by decide +kernel
theorem dL_walkerSlot_13 : decode cL_walkerSlot 13 = .ok (.iconst 1, 1) := by decide +kernel
theorem dL_walkerSlot_14 : decode cL_walkerSlot 14 = .ok (.ireturn, 1) := by decide +kernel
theorem dL_walkerSlot_15 : decode cL_walkerSlot 15 = .ok (.iconst 0, 1) := by decide +kernel
theorem dL_walkerSlot_16 : decode cL_walkerSlot 16 = .ok (.ireturn, 1) := by decide +kernel
theorem dL_walkerState_0 : decode cL_walkerState 0 = .ok (.aload_n 2, 1) := by decide +kernel
theorem dL_walkerState_1 : decode cL_walkerState 1 = .ok (.iconst 0, 1) := by decide +kernel
theorem dL_walkerState_2 : decode cL_walkerState 2 = .ok (.aload_n 0, 1) := by decide +kernel
theorem dL_walkerState_3 : decode cL_walkerState 3 = .ok (.iload_n 1, 1) := by decide +kernel
theorem dL_walkerState_4 : decode cL_walkerState 4 = .ok (.invokevirtual 131, 3) := by decide +kernel
theorem dL_walkerState_7 : decode cL_walkerState 7 = .ok (.i2l, 1) := by decide +kernel
theorem dL_walkerState_8 : decode cL_walkerState 8 = .ok (.lastore, 1) := by decide +kernel
theorem dL_walkerState_9 : decode cL_walkerState 9 = .ok (.goto 6, 3) := by decide +kernel
theorem dL_walkerState_12 : decode cL_walkerState 12 = .ok (.astore_n 3, 1) := by decide +kernel
theorem dL_walkerState_13 : decode cL_walkerState 13 = .ok (.iconst 1, 1) := by decide +kernel
theorem dL_walkerState_14 : decode cL_walkerState 14 = .ok (.ireturn, 1) := by decide +kernel
theorem dL_walkerState_15 : decode cL_walkerState 15 = .ok (.iconst 0, 1) := by decide +kernel
theorem dL_walkerState_16 : decode cL_walkerState 16 = .ok (.ireturn, 1) := by decide +kernel
theorem dL_walkerSteps_0 : decode cL_walkerSteps 0 = .ok (.aload_n 2, 1) := by decide +kernel
theorem dL_walkerSteps_1 : decode cL_walkerSteps 1 = .ok (.iconst 0, 1) := by decide +kernel
theorem dL_walkerSteps_2 : decode cL_walkerSteps 2 = .ok (.aload_n 0, 1) := by decide +kernel
theorem dL_walkerSteps_3 : decode cL_walkerSteps 3 = .ok (.iload_n 1, 1) := by decide +kernel
theorem dL_walkerSteps_4 : decode cL_walkerSteps 4 = .ok (.invokevirtual 134, 3) := by decide +kernel
theorem dL_walkerSteps_7 : decode cL_walkerSteps 7 = .ok (.i2l, 1) := by decide +kernel
theorem dL_walkerSteps_8 : decode cL_walkerSteps 8 = .ok (.lastore, 1) := by decide +kernel
theorem dL_walkerSteps_9 : decode cL_walkerSteps 9 = .ok (.goto 6, 3) := by decide +kernel
theorem dL_walkerSteps_12 : decode cL_walkerSteps 12 = .ok (.astore_n 3, 1) := by decide +kernel
theorem dL_walkerSteps_13 : decode cL_walkerSteps 13 = .ok (.iconst 1, 1) := by decide +kernel
theorem dL_walkerSteps_14 : decode cL_walkerSteps 14 = .ok (.ireturn, 1) := by decide +kernel
theorem dL_walkerSteps_15 : decode cL_walkerSteps 15 = .ok (.iconst 0, 1) := by decide +kernel
theorem dL_walkerSteps_16 : decode cL_walkerSteps 16 = .ok (.ireturn, 1) := by decide +kernel
theorem dL_stepsHome_0 : decode cL_stepsHome 0 = .ok (.aload_n 2, 1) := by decide +kernel
theorem dL_stepsHome_1 : decode cL_stepsHome 1 = .ok (.iconst 0, 1) := by decide +kernel
theorem dL_stepsHome_2 : decode cL_stepsHome 2 = .ok (.aload_n 0, 1) := by decide +kernel
theorem dL_stepsHome_3 : decode cL_stepsHome 3 = .ok (.iload_n 1, 1) := by decide +kernel
theorem dL_stepsHome_4 : decode cL_stepsHome 4 = .ok (.invokevirtual 137, 3) := by decide +kernel
theorem dL_stepsHome_7 : decode cL_stepsHome 7 = .ok (.i2l, 1) := by decide +kernel
theorem dL_stepsHome_8 : decode cL_stepsHome 8 = .ok (.lastore, 1) := by decide +kernel
theorem dL_stepsHome_9 : decode cL_stepsHome 9 = .ok (.goto 6, 3) := by decide +kernel
theorem dL_stepsHome_12 : decode cL_stepsHome 12 = .ok (.astore_n 3, 1) := by decide +kernel
theorem dL_stepsHome_13 : decode cL_stepsHome 13 = .ok (.iconst 1, 1) := by decide +kernel
theorem dL_stepsHome_14 : decode cL_stepsHome 14 = .ok (.ireturn, 1) := by decide +kernel
theorem dL_stepsHome_15 : decode cL_stepsHome 15 = .ok (.iconst 0, 1) := by decide +kernel
theorem dL_stepsHome_16 : decode cL_stepsHome 16 = .ok (.ireturn, 1) := by decide +kernel
theorem dL_streetHome_0 : decode cL_streetHome 0 = .ok (.aload_n 2, 1) := by decide +kernel
theorem dL_streetHome_1 : decode cL_streetHome 1 = .ok (.iconst 0, 1) := by decide +kernel
theorem dL_streetHome_2 : decode cL_streetHome 2 = .ok (.aload_n 0, 1) := by decide +kernel
theorem dL_streetHome_3 : decode cL_streetHome 3 = .ok (.iload_n 1, 1) := by decide +kernel
theorem dL_streetHome_4 : decode cL_streetHome 4 = .ok (.invokevirtual 140, 3) := by decide +kernel
theorem dL_streetHome_7 : decode cL_streetHome 7 = .ok (.i2l, 1) := by decide +kernel
theorem dL_streetHome_8 : decode cL_streetHome 8 = .ok (.lastore, 1) := by decide +kernel
theorem dL_streetHome_9 : decode cL_streetHome 9 = .ok (.goto 6, 3) := by decide +kernel
theorem dL_streetHome_12 : decode cL_streetHome 12 = .ok (.astore_n 3, 1) := by decide +kernel
theorem dL_streetHome_13 : decode cL_streetHome 13 = .ok (.iconst 1, 1) := by decide +kernel
theorem dL_streetHome_14 : decode cL_streetHome 14 = .ok (.ireturn, 1) := by decide +kernel
theorem dL_streetHome_15 : decode cL_streetHome 15 = .ok (.iconst 0, 1) := by decide +kernel
theorem dL_streetHome_16 : decode cL_streetHome 16 = .ok (.ireturn, 1) := by decide +kernel
theorem dL_walkersInState_0 : decode cL_walkersInState 0 = .ok (.aload_n 3, 1) := by decide +kernel
theorem dL_walkersInState_1 : decode cL_walkersInState 1 = .ok (.iconst 0, 1) := by decide +kernel
theorem dL_walkersInState_2 : decode cL_walkersInState 2 = .ok (.aload_n 0, 1) := by decide +kernel
theorem dL_walkersInState_3 : decode cL_walkersInState 3 = .ok (.iload_n 1, 1) := by decide +kernel
theorem dL_walkersInState_4 : decode cL_walkersInState 4 = .ok (.iload_n 2, 1) := by decide +kernel
theorem dL_walkersInState_5 : decode cL_walkersInState 5 = .ok (.invokevirtual 143, 3) := by decide +kernel
theorem dL_walkersInState_8 : decode cL_walkersInState 8 = .ok (.i2l, 1) := by decide +kernel
theorem dL_walkersInState_9 : decode cL_walkersInState 9 = .ok (.lastore, 1) := by decide +kernel
theorem dL_walkersInState_10 : decode cL_walkersInState 10 = .ok (.goto 7, 3) := by decide +kernel
theorem dL_walkersInState_13 : decode cL_walkersInState 13 = .ok (.astore 4, 2) := by decide +kernel
theorem dL_walkersInState_15 : decode cL_walkersInState 15 = .ok (.iconst 1, 1) := by decide +kernel
theorem dL_walkersInState_16 : decode cL_walkersInState 16 = .ok (.ireturn, 1) := by decide +kernel
theorem dL_walkersInState_17 : decode cL_walkersInState 17 = .ok (.iconst 0, 1) := by decide +kernel
theorem dL_walkersInState_18 : decode cL_walkersInState 18 = .ok (.ireturn, 1) := by decide +kernel
theorem dL_meetingSteps_0 : decode cL_meetingSteps 0 = .ok (.aload_n 3, 1) := by decide +kernel
theorem dL_meetingSteps_1 : decode cL_meetingSteps 1 = .ok (.iconst 0, 1) := by decide +kernel
theorem dL_meetingSteps_2 : decode cL_meetingSteps 2 = .ok (.aload_n 0, 1) := by decide +kernel
theorem dL_meetingSteps_3 : decode cL_meetingSteps 3 = .ok (.iload_n 1, 1) := by decide +kernel
theorem dL_meetingSteps_4 : decode cL_meetingSteps 4 = .ok (.iload_n 2, 1) := by decide +kernel
theorem dL_meetingSteps_5 : decode cL_meetingSteps 5 = .ok (.invokevirtual 146, 3) := by decide +kernel
theorem dL_meetingSteps_8 : decode cL_meetingSteps 8 = .ok (.i2l, 1) := by decide +kernel
theorem dL_meetingSteps_9 : decode cL_meetingSteps 9 = .ok (.lastore, 1) := by decide +kernel
theorem dL_meetingSteps_10 : decode cL_meetingSteps 10 = .ok (.goto 7, 3) := by decide +kernel
theorem dL_meetingSteps_13 : decode cL_meetingSteps 13 = .ok (.astore 4, 2) := by decide +kernel
theorem dL_meetingSteps_15 : decode cL_meetingSteps 15 = .ok (.iconst 1, 1) := by decide +kernel
theorem dL_meetingSteps_16 : decode cL_meetingSteps 16 = .ok (.ireturn, 1) := by decide +kernel
theorem dL_meetingSteps_17 : decode cL_meetingSteps 17 = .ok (.iconst 0, 1) := by decide +kernel
theorem dL_meetingSteps_18 : decode cL_meetingSteps 18 = .ok (.ireturn, 1) := by decide +kernel
theorem dL_meanSetSize_0 : decode cL_meanSetSize 0 = .ok (.aload_n 2, 1) := by decide +kernel
theorem dL_meanSetSize_1 : decode cL_meanSetSize 1 = .ok (.iconst 0, 1) := by decide +kernel
theorem dL_meanSetSize_2 : decode cL_meanSetSize 2 = .ok (.aload_n 0, 1) := by decide +kernel
theorem dL_meanSetSize_3 : decode cL_meanSetSize 3 = .ok (.iload_n 1, 1) := by decide +kernel
theorem dL_meanSetSize_4 : decode cL_meanSetSize 4 = .ok (.invokevirtual 149, 3) := by decide +kernel
theorem dL_meanSetSize_7 : decode cL_meanSetSize 7 = .ok (.dastore, 1) := by decide +kernel
theorem dL_meanSetSize_8 : decode cL_meanSetSize 8 = .ok (.goto 6, 3) := by decide +kernel
theorem dL_meanSetSize_11 : decode cL_meanSetSize 11 = .ok (.astore_n 3, 1) := by decide +kernel
theorem dL_meanSetSize_12 : decode cL_meanSetSize 12 = .ok (.iconst 1, 1) := by decide +kernel
theorem dL_meanSetSize_13 : decode cL_meanSetSize 13 = .ok (.ireturn, 1) := by decide +kernel
theorem dL_meanSetSize_14 : decode cL_meanSetSize 14 = .ok (.iconst 0, 1) := by decide +kernel
theorem dL_meanSetSize_15 : decode cL_meanSetSize 15 = .ok (.ireturn, 1) := by decide +kernel
theorem dL_writeWord_0 : decode cL_writeWord 0 = .ok (.aload 5, 2) := by decide +kernel
theorem dL_writeWord_2 : decode cL_writeWord 2 = .ok (.iconst 0, 1) := by decide +kernel
theorem dL_writeWord_3 : decode cL_writeWord 3 = .ok (.aload_n 0, 1) := by decide +kernel
theorem dL_writeWord_4 : decode cL_writeWord 4 = .ok (.iload_n 1, 1) := by decide +kernel
theorem dL_writeWord_5 : decode cL_writeWord 5 = .ok (.iload_n 2, 1) := by decide +kernel
theorem dL_writeWord_6 : decode cL_writeWord 6 = .ok (.lload_n 3, 1) := by decide +kernel
theorem dL_writeWord_7 : decode cL_writeWord 7 = .ok (.invokevirtual 153, 3) := by decide +kernel
theorem dL_writeWord_10 : decode cL_writeWord 10 = .ok (.i2l, 1) := by decide +kernel
theorem dL_writeWord_11 : decode cL_writeWord 11 = .ok (.lastore, 1) := by decide +kernel
theorem dL_writeWord_12 : decode cL_writeWord 12 = .ok (.goto 11, 3) := by decide +kernel
theorem dL_writeWord_15 : decode cL_writeWord 15 = .ok (.astore 6, 2) := by decide +kernel
theorem dL_writeWord_17 : decode cL_writeWord 17 = .ok (.iconst 1, 1) := by decide +kernel
theorem dL_writeWord_18 : decode cL_writeWord 18 = .ok (.ireturn, 1) := by decide +kernel
theorem dL_writeWord_19 : decode cL_writeWord 19 = .ok (.astore 6, 2) := by decide +kernel
theorem dL_writeWord_21 : decode cL_writeWord 21 = .ok (.iconst 2, 1) := by decide +kernel
theorem dL_writeWord_22 : decode cL_writeWord 22 = .ok (.ireturn, 1) := by decide +kernel
theorem dL_writeWord_23 : decode cL_writeWord 23 = .ok (.iconst 0, 1) := by decide +kernel
theorem dL_writeWord_24 : decode cL_writeWord 24 = .ok (.ireturn, 1) := by decide +kernel
