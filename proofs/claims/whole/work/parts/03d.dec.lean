/-! decode rows, printed -/
theorem dL_truncateInput_0 : decode cL_truncateInput 0 = .ok (.aload_n 2, 1) := by decide +kernel
theorem dL_truncateInput_1 : decode cL_truncateInput 1 = .ok (.iconst 0, 1) := by decide +kernel
theorem dL_truncateInput_2 : decode cL_truncateInput 2 = .ok (.aload_n 0, 1) := by decide +kernel
theorem dL_truncateInput_3 : decode cL_truncateInput 3 = .ok (.iload_n 1, 1) := by decide +kernel
theorem dL_truncateInput_4 : decode cL_truncateInput 4 = .ok (.invokevirtual 7, 3) := by decide +kernel
theorem dL_truncateInput_7 : decode cL_truncateInput 7 = .ok (.i2l, 1) := by decide +kernel
theorem dL_truncateInput_8 : decode cL_truncateInput 8 = .ok (.lastore, 1) := by decide +kernel
theorem dL_truncateInput_9 : decode cL_truncateInput 9 = .ok (.goto 6, 3) := by decide +kernel
theorem dL_truncateInput_12 : decode cL_truncateInput 12 = .ok (.astore_n 3, 1) := by decide +kernel
theorem dL_truncateInput_13 : decode cL_truncateInput 13 = .ok (.iconst 1, 1) := by decide +kernel
theorem dL_truncateInput_14 : decode cL_truncateInput 14 = .ok (.ireturn, 1) := by decide +kernel
theorem dL_truncateInput_15 : decode cL_truncateInput 15 = .ok (.iconst 0, 1) := by decide +kernel
theorem dL_truncateInput_16 : decode cL_truncateInput 16 = .ok (.ireturn, 1) := by decide +kernel
theorem dL_compile_0 : decode cL_compile 0 = .ok (.aload_n 2, 1) := by decide +kernel
theorem dL_compile_1 : decode cL_compile 1 = .ok (.iconst 0, 1) := by decide +kernel
theorem dL_compile_2 : decode cL_compile 2 = .ok (.aload_n 0, 1) := by decide +kernel
theorem dL_compile_3 : decode cL_compile 3 = .ok (.iload_n 1, 1) := by decide +kernel
theorem dL_compile_4 : decode cL_compile 4 = .ok (.invokevirtual 15, 3) := by decide +kernel
theorem dL_compile_7 : decode cL_compile 7 = .ok (.i2l, 1) := by decide +kernel
theorem dL_compile_8 : decode cL_compile 8 = .ok (.lastore, 1) := by decide +kernel
theorem dL_compile_9 : decode cL_compile 9 = .ok (.goto 6, 3) := by decide +kernel
theorem dL_compile_12 : decode cL_compile 12 = .ok (.astore_n 3, 1) := by decide +kernel
theorem dL_compile_13 : decode cL_compile 13 = .ok (.iconst 1, 1) := by decide +kernel
theorem dL_compile_14 : decode cL_compile 14 = .ok (.ireturn, 1) := by decide +kernel
theorem dL_compile_15 : decode cL_compile 15 = .ok (.iconst 0, 1) := by decide +kernel
theorem dL_compile_16 : decode cL_compile 16 = .ok (.ireturn, 1) := by decide +kernel
theorem dL_copyPattern_0 : decode cL_copyPattern 0 = .ok (.aload_n 2, 1) := by decide +kernel
theorem dL_copyPattern_1 : decode cL_copyPattern 1 = .ok (.iconst 0, 1) := by decide +kernel
theorem dL_copyPattern_2 : decode cL_copyPattern 2 = .ok (.aload_n 0, 1) := by decide +kernel
theorem dL_copyPattern_3 : decode cL_copyPattern 3 = .ok (.iload_n 1, 1) := by decide +kernel
theorem dL_copyPattern_4 : decode cL_copyPattern 4 = .ok (.invokevirtual 20, 3) := by decide +kernel
theorem dL_copyPattern_7 : decode cL_copyPattern 7 = .ok (.i2l, 1) := by decide +kernel
theorem dL_copyPattern_8 : decode cL_copyPattern 8 = .ok (.lastore, 1) := by decide +kernel
theorem dL_copyPattern_9 : decode cL_copyPattern 9 = .ok (.goto 6, 3) := by decide +kernel
theorem dL_copyPattern_12 : decode cL_copyPattern 12 = .ok (.astore_n 3, 1) := by decide +kernel
theorem dL_copyPattern_13 : decode cL_copyPattern 13 = .ok (.iconst 1, 1) := by decide +kernel
theorem dL_copyPattern_14 : decode cL_copyPattern 14 = .ok (.ireturn, 1) := by decide +kernel
theorem dL_copyPattern_15 : decode cL_copyPattern 15 = .ok (.iconst 0, 1) := by decide +kernel
theorem dL_copyPattern_16 : decode cL_copyPattern 16 = .ok (.ireturn, 1) := by decide +kernel
theorem dL_addWalker_0 : decode cL_addWalker 0 = .ok (.aload_n 2, 1) := by decide +kernel
theorem dL_addWalker_1 : decode cL_addWalker 1 = .ok (.iconst 0, 1) := by decide +kernel
theorem dL_addWalker_2 : decode cL_addWalker 2 = .ok (.aload_n 0, 1) := by decide +kernel
theorem dL_addWalker_3 : decode cL_addWalker 3 = .ok (.iload_n 1, 1) := by decide +kernel
theorem dL_addWalker_4 : decode cL_addWalker 4 = .ok (.invokevirtual 23, 3) := by decide +kernel
theorem dL_addWalker_7 : decode cL_addWalker 7 = .ok (.i2l, 1) := by decide +kernel
theorem dL_addWalker_8 : decode cL_addWalker 8 = .ok (.lastore, 1) := by decide +kernel
theorem dL_addWalker_9 : decode cL_addWalker 9 = .ok (.goto 9, 3) := by decide +kernel
theorem dL_addWalker_12 : decode cL_addWalker 12 = .ok (.astore_n 3, 1) := by decide +kernel
theorem dL_addWalker_13 : decode cL_addWalker 13 = .ok (.iconst 1, 1) := by decide +kernel
theorem dL_addWalker_14 : decode cL_addWalker 14 = .ok (.ireturn, 1) := by decide +kernel
theorem dL_addWalker_15 : decode cL_addWalker 15 = .ok (.astore_n 3, 1) := by decide +kernel
theorem dL_addWalker_16 : decode cL_addWalker 16 = .ok (.iconst 2, 1) := by decide +kernel
theorem dL_addWalker_17 : decode cL_addWalker 17 = .ok (.ireturn, 1) := by decide +kernel
theorem dL_addWalker_18 : decode cL_addWalker 18 = .ok (.iconst 0, 1) := by decide +kernel
theorem dL_addWalker_19 : decode cL_addWalker 19 = .ok (.ireturn, 1) := by decide +kernel
theorem dL_removeWalker_0 : decode cL_removeWalker 0 = .ok (.aload_n 2, 1) := by decide +kernel
theorem dL_removeWalker_1 : decode cL_removeWalker 1 = .ok (.iconst 0, 1) := by decide +kernel
theorem dL_removeWalker_2 : decode cL_removeWalker 2 = .ok (.aload_n 0, 1) := by decide +kernel
theorem dL_removeWalker_3 : decode cL_removeWalker 3 = .ok (.iload_n 1, 1) := by decide +kernel
theorem dL_removeWalker_4 : decode cL_removeWalker 4 = .ok (.invokevirtual 28, 3) := by decide +kernel
theorem dL_removeWalker_7 : decode cL_removeWalker 7 = .ok (.i2l, 1) := by decide +kernel
theorem dL_removeWalker_8 : decode cL_removeWalker 8 = .ok (.lastore, 1) := by decide +kernel
theorem dL_removeWalker_9 : decode cL_removeWalker 9 = .ok (.goto 6, 3) := by decide +kernel
theorem dL_removeWalker_12 : decode cL_removeWalker 12 = .ok (.astore_n 3, 1) := by decide +kernel
theorem dL_removeWalker_13 : decode cL_removeWalker 13 = .ok (.iconst 1, 1) := by decide +kernel
theorem dL_removeWalker_14 : decode cL_removeWalker 14 = .ok (.ireturn, 1) := by decide +kernel
theorem dL_removeWalker_15 : decode cL_removeWalker 15 = .ok (.iconst 0, 1) := by decide +kernel
theorem dL_removeWalker_16 : decode cL_removeWalker 16 = .ok (.ireturn, 1) := by decide +kernel
theorem dL_step_0 : decode cL_step 0 = .ok (.aload_n 3, 1) := by decide +kernel
theorem dL_step_1 : decode cL_step 1 = .ok (.iconst 0, 1) := by decide +kernel
theorem dL_step_2 : decode cL_step 2 = .ok (.aload_n 0, 1) := by decide +kernel
theorem dL_step_3 : decode cL_step 3 = .ok (.iload_n 1, 1) := by decide +kernel
theorem dL_step_4 : decode cL_step 4 = .ok (.iload_n 2, 1) := by decide +kernel
theorem dL_step_5 : decode cL_step 5 = .ok (.invokevirtual 31, 3) := by decide +kernel
theorem dL_step_8 : decode cL_step 8 = .ok (.i2l, 1) := by decide +kernel
theorem dL_step_9 : decode cL_step 9 = .ok (.lastore, 1) := by decide +kernel
theorem dL_step_10 : decode cL_step 10 = .ok (.goto 11, 3) := by decide +kernel
theorem dL_step_13 : decode cL_step 13 = .ok (.astore 4, 2) := by decide +kernel
theorem dL_step_15 : decode cL_step 15 = .ok (.iconst 1, 1) := by decide +kernel
theorem dL_step_16 : decode cL_step 16 = .ok (.ireturn, 1) := by decide +kernel
theorem dL_step_17 : decode cL_step 17 = .ok (.astore 4, 2) := by decide +kernel
theorem dL_step_19 : decode cL_step 19 = .ok (.iconst 2, 1) := by decide +kernel
theorem dL_step_20 : decode cL_step 20 = .ok (.ireturn, 1) := by decide +kernel
theorem dL_step_21 : decode cL_step 21 = .ok (.iconst 0, 1) := by decide +kernel
theorem dL_step_22 : decode cL_step 22 = .ok (.ireturn, 1) := by decide +kernel
theorem dL_walkWord_0 : decode cL_walkWord 0 = .ok (.aload_n 2, 1) := by decide +kernel
theorem dL_walkWord_1 : decode cL_walkWord 1 = .ok (.iconst 0, 1) := by decide +kernel
theorem dL_walkWord_2 : decode cL_walkWord 2 = .ok (.aload_n 0, 1) := by decide +kernel
theorem dL_walkWord_3 : decode cL_walkWord 3 = .ok (.iload_n 1, 1) := by decide +kernel
theorem dL_walkWord_4 : decode cL_walkWord 4 = .ok (.invokevirtual 35, 3) := by decide +kernel
theorem dL_walkWord_7 : decode cL_walkWord 7 = .ok (.i2l, 1) := by decide +kernel
theorem dL_walkWord_8 : decode cL_walkWord 8 = .ok (.lastore, 1) := by decide +kernel
theorem dL_walkWord_9 : decode cL_walkWord 9 = .ok (.goto 6, 3) := by decide +kernel
theorem dL_walkWord_12 : decode cL_walkWord 12 = .ok (.astore_n 3, 1) := by decide +kernel
theorem dL_walkWord_13 : decode cL_walkWord 13 = .ok (.iconst 1, 1) := by decide +kernel
theorem dL_walkWord_14 : decode cL_walkWord 14 = .ok (.ireturn, 1) := by decide +kernel
theorem dL_walkWord_15 : decode cL_walkWord 15 = .ok (.iconst 0, 1) := by decide +kernel
theorem dL_walkWord_16 : decode cL_walkWord 16 = .ok (.ireturn, 1) := by decide +kernel
theorem dL_restartWalker_0 : decode cL_restartWalker 0 = .ok (.aload_n 2, 1) := by decide +kernel
theorem dL_restartWalker_1 : decode cL_restartWalker 1 = .ok (.iconst 0, 1) := by decide +kernel
theorem dL_restartWalker_2 : decode cL_restartWalker 2 = .ok (.aload_n 0, 1) := by decide +kernel
theorem dL_restartWalker_3 : decode cL_restartWalker 3 = .ok (.iload_n 1, 1) := by decide +kernel
theorem dL_restartWalker_4 : decode cL_restartWalker 4 = .ok (.invokevirtual 38, 3) := by decide +kernel
theorem dL_restartWalker_7 : decode cL_restartWalker 7 = .ok (.i2l, 1) := by decide +kernel
theorem dL_restartWalker_8 : decode cL_restartWalker 8 = .ok (.lastore, 1) := by decide +kernel
theorem dL_restartWalker_9 : decode cL_restartWalker 9 = .ok (.goto 6, 3) := by decide +kernel
theorem dL_restartWalker_12 : decode cL_restartWalker 12 = .ok (.astore_n 3, 1) := by decide +kernel
theorem dL_restartWalker_13 : decode cL_restartWalker 13 = .ok (.iconst 1, 1) := by decide +kernel
theorem dL_restartWalker_14 : decode cL_restartWalker 14 = .ok (.ireturn, 1) := by decide +kernel
theorem dL_restartWalker_15 : decode cL_restartWalker 15 = .ok (.iconst 0, 1) := by decide +kernel
theorem dL_restartWalker_16 : decode cL_restartWalker 16 = .ok (.ireturn, 1) := by decide +kernel
theorem dL_setGate_0 : decode cL_setGate 0 = .ok (.aload 4, 2) := by decide +kernel
theorem dL_setGate_2 : decode cL_setGate 2 = .ok (.iconst 0, 1) := by decide +kernel
theorem dL_setGate_3 : decode cL_setGate 3 = .ok (.aload_n 0, 1) := by decide +kernel
theorem dL_setGate_4 : decode cL_setGate 4 = .ok (.iload_n 1, 1) := by decide +kernel
theorem dL_setGate_5 : decode cL_setGate 5 = .ok (.iload_n 2, 1) := by decide +kernel
theorem dL_setGate_6 : decode cL_setGate 6 = .ok (.iload_n 3, 1) := by decide +kernel
theorem dL_setGate_7 : decode cL_setGate 7 = .ok (.invokevirtual 41, 3) := by decide +kernel
theorem dL_setGate_10 : decode cL_setGate 10 = .ok (.ifCond .eq 7, 3) := by decide +kernel
theorem dL_setGate_13 : decode cL_setGate 13 = .ok (.lconst 1, 1) := by decide +kernel
theorem dL_setGate_14 : decode cL_setGate 14 = .ok (.goto 4, 3) := by decide +kernel
theorem dL_setGate_17 : decode cL_setGate 17 = .ok (.lconst 0, 1) := by decide +kernel
theorem dL_setGate_18 : decode cL_setGate 18 = .ok (.lastore, 1) := by decide +kernel
theorem dL_setGate_19 : decode cL_setGate 19 = .ok (.goto 7, 3) := by decide +kernel
theorem dL_setGate_22 : decode cL_setGate 22 = .ok (.astore 5, 2) := by decide +kernel
theorem dL_setGate_24 : decode cL_setGate 24 = .ok (.iconst 1, 1) := by decide +kernel
theorem dL_setGate_25 : decode cL_setGate 25 = .ok (.ireturn, 1) := by decide +kernel
theorem dL_setGate_26 : decode cL_setGate 26 = .ok (.iconst 0, 1) := by decide +kernel
theorem dL_setGate_27 : decode cL_setGate 27 = .ok (.ireturn, 1) := by decide +kernel
theorem dL_restoreSnapshot_0 : decode cL_restoreSnapshot 0 = .ok (.aload_n 1, 1) := by decide +kernel
theorem dL_restoreSnapshot_1 : decode cL_restoreSnapshot 1 = .ok (.iconst 0, 1) := by decide +kernel
theorem dL_restoreSnapshot_2 : decode cL_restoreSnapshot 2 = .ok (.aload_n 0, 1) := by decide +kernel
theorem dL_restoreSnapshot_3 : decode cL_restoreSnapshot 3 = .ok (.invokevirtual 45, 3) := by decide +kernel
theorem dL_restoreSnapshot_6 : decode cL_restoreSnapshot 6 = .ok (.i2l, 1) := by decide +kernel
theorem dL_restoreSnapshot_7 : decode cL_restoreSnapshot 7 = .ok (.lastore, 1) := by decide +kernel
theorem dL_restoreSnapshot_8 : decode cL_restoreSnapshot 8 = .ok (.goto 6, 3) := by decide +kernel
theorem dL_restoreSnapshot_11 : decode cL_restoreSnapshot 11 = .ok (.astore_n 2, 1) := by decide +kernel
theorem dL_restoreSnapshot_12 : decode cL_restoreSnapshot 12 = .ok (.iconst 1, 1) := by decide +kernel
theorem dL_restoreSnapshot_13 : decode cL_restoreSnapshot 13 = .ok (.ireturn, 1) := by decide +kernel
theorem dL_restoreSnapshot_14 : decode cL_restoreSnapshot 14 = .ok (.iconst 0, 1) := by decide +kernel
theorem dL_restoreSnapshot_15 : decode cL_restoreSnapshot 15 = .ok (.ireturn, 1) := by decide +kernel
theorem dL_positionCount_0 : decode cL_positionCount 0 = .ok (.aload_n 2, 1) := by decide +kernel
theorem dL_positionCount_1 : decode cL_positionCount 1 = .ok (.iconst 0, 1) := by decide +kernel
theorem dL_positionCount_2 : decode cL_positionCount 2 = .ok (.aload_n 0, 1) := by decide +kernel
theorem dL_positionCount_3 : decode cL_positionCount 3 = .ok (.iload_n 1, 1) := by decide +kernel
theorem dL_positionCount_4 : decode cL_positionCount 4 = .ok (.invokevirtual 51, 3) := by decide +kernel
theorem dL_positionCount_7 : decode cL_positionCount 7 = .ok (.i2l, 1) := by decide +kernel
theorem dL_positionCount_8 : decode cL_positionCount 8 = .ok (.lastore, 1) := by decide +kernel
theorem dL_positionCount_9 : decode cL_positionCount 9 = .ok (.goto 6, 3) := by decide +kernel
theorem dL_positionCount_12 : decode cL_positionCount 12 = .ok (.astore_n 3, 1) := by decide +kernel
theorem dL_positionCount_13 : decode cL_positionCount 13 = .ok (.iconst 1, 1) := by decide +kernel
theorem dL_positionCount_14 : decode cL_positionCount 14 = .ok (.ireturn, 1) := by decide +kernel
theorem dL_positionCount_15 : decode cL_positionCount 15 = .ok (.iconst 0, 1) := by decide +kernel
theorem dL_positionCount_16 : decode cL_positionCount 16 = .ok (.ireturn, 1) := by decide +kernel
theorem dL_streetAt_0 : decode cL_streetAt 0 = .ok (.aload_n 3, 1) := by decide +kernel
theorem dL_streetAt_1 : decode cL_streetAt 1 = .ok (.iconst 0, 1) := by decide +kernel
theorem dL_streetAt_2 : decode cL_streetAt 2 = .ok (.aload_n 0, 1) := by decide +kernel
theorem dL_streetAt_3 : decode cL_streetAt 3 = .ok (.iload_n 1, 1) := by decide +kernel
theorem dL_streetAt_4 : decode cL_streetAt 4 = .ok (.iload_n 2, 1) := by decide +kernel
theorem dL_streetAt_5 : decode cL_streetAt 5 = .ok (.invokevirtual 54, 3) := by decide +kernel
theorem dL_streetAt_8 : decode cL_streetAt 8 = .ok (.i2l, 1) := by decide +kernel
theorem dL_streetAt_9 : decode cL_streetAt 9 = .ok (.lastore, 1) := by decide +kernel
theorem dL_streetAt_10 : decode cL_streetAt 10 = .ok (.goto 7, 3) := by decide +kernel
theorem dL_streetAt_13 : decode cL_streetAt 13 = .ok (.astore 4, 2) := by decide +kernel
theorem dL_streetAt_15 : decode cL_streetAt 15 = .ok (.iconst 1, 1) := by decide +kernel
theorem dL_streetAt_16 : decode cL_streetAt 16 = .ok (.ireturn, 1) := by decide +kernel
theorem dL_streetAt_17 : decode cL_streetAt 17 = .ok (.iconst 0, 1) := by decide +kernel
theorem dL_streetAt_18 : decode cL_streetAt 18 = .ok (.ireturn, 1) := by decide +kernel
theorem dL_acceptsEmptyWord_0 : decode cL_acceptsEmptyWord 0 = .ok (.aload_n 2, 1) := by decide +kernel
theorem dL_acceptsEmptyWord_1 : decode cL_acceptsEmptyWord 1 = .ok (.iconst 0, 1) := by decide +kernel
theorem dL_acceptsEmptyWord_2 : decode cL_acceptsEmptyWord 2 = .ok (.aload_n 0, 1) := by decide +kernel
theorem dL_acceptsEmptyWord_3 : decode cL_acceptsEmptyWord 3 = .ok (.iload_n 1, 1) := by decide +kernel
theorem dL_acceptsEmptyWord_4 : decode cL_acceptsEmptyWord 4 = .ok (.invokevirtual 57, 3) := by decide +kernel
theorem dL_acceptsEmptyWord_7 : decode cL_acceptsEmptyWord 7 = .ok (.ifCond .eq 7, 3) := by decide +kernel
theorem dL_acceptsEmptyWord_10 : decode cL_acceptsEmptyWord 10 = .ok (.lconst 1, 1) := by decide +kernel
theorem dL_acceptsEmptyWord_11 : decode cL_acceptsEmptyWord 11 = .ok (.goto 4, 3) := by decide +kernel
theorem dL_acceptsEmptyWord_14 : decode cL_acceptsEmptyWord 14 = .ok (.lconst 0, 1) := by decide +kernel
theorem dL_acceptsEmptyWord_15 : decode cL_acceptsEmptyWord 15 = .ok (.lastore, 1) := by decide +kernel
theorem dL_acceptsEmptyWord_16 : decode cL_acceptsEmptyWord 16 = .ok (.goto 6, 3) := by decide +kernel
theorem dL_acceptsEmptyWord_19 : decode cL_acceptsEmptyWord 19 = .ok (.astore_n 3, 1) := by decide +kernel
theorem dL_acceptsEmptyWord_20 : decode cL_acceptsEmptyWord 20 = .ok (.iconst 1, 1) := by decide +kernel
theorem dL_acceptsEmptyWord_21 : decode cL_acceptsEmptyWord 21 = .ok (.ireturn, 1) := by decide +kernel
theorem dL_acceptsEmptyWord_22 : decode cL_acceptsEmptyWord 22 = .ok (.iconst 0, 1) := by decide +kernel
theorem dL_acceptsEmptyWord_23 : decode cL_acceptsEmptyWord 23 = .ok (.ireturn, 1) := by decide +kernel
theorem dL_firstPositions_0 : decode cL_firstPositions 0 = .ok (.aload_n 2, 1) := by decide +kernel
theorem dL_firstPositions_1 : decode cL_firstPositions 1 = .ok (.iconst 0, 1) := by decide +kernel
theorem dL_firstPositions_2 : decode cL_firstPositions 2 = .ok (.aload_n 0, 1) := by decide +kernel
theorem dL_firstPositions_3 : decode cL_firstPositions 3 = .ok (.iload_n 1, 1) := by decide +kernel
theorem dL_firstPositions_4 : decode cL_firstPositions 4 = .ok (.invokevirtual 61, 3) := by decide +kernel
theorem dL_firstPositions_7 : decode cL_firstPositions 7 = .ok (.i2l, 1) := by decide +kernel
theorem dL_firstPositions_8 : decode cL_firstPositions 8 = .ok (.lastore, 1) := by decide +kernel
theorem dL_firstPositions_9 : decode cL_firstPositions 9 = .ok (.goto 6, 3) := by decide +kernel
theorem dL_firstPositions_12 : decode cL_firstPositions 12 = .ok (.astore_n 3, 1) := by decide +kernel
theorem dL_firstPositions_13 : decode cL_firstPositions 13 = .ok (.iconst 1, 1) := by decide +kernel
theorem dL_firstPositions_14 : decode cL_firstPositions 14 = .ok (.ireturn, 1) := by decide +kernel
theorem dL_firstPositions_15 : decode cL_firstPositions 15 = .ok (.iconst 0, 1) := by decide +kernel
theorem dL_firstPositions_16 : decode cL_firstPositions 16 = .ok (.ireturn, 1) := by decide +kernel
theorem dL_lastPositions_0 : decode cL_lastPositions 0 = .ok (.aload_n 2, 1) := by decide +kernel
theorem dL_lastPositions_1 : decode cL_lastPositions 1 = .ok (.iconst 0, 1) := by decide +kernel
theorem dL_lastPositions_2 : decode cL_lastPositions 2 = .ok (.aload_n 0, 1) := by decide +kernel
theorem dL_lastPositions_3 : decode cL_lastPositions 3 = .ok (.iload_n 1, 1) := by decide +kernel
theorem dL_lastPositions_4 : decode cL_lastPositions 4 = .ok (.invokevirtual 64, 3) := by decide +kernel
theorem dL_lastPositions_7 : decode cL_lastPositions 7 = .ok (.i2l, 1) := by decide +kernel
theorem dL_lastPositions_8 : decode cL_lastPositions 8 = .ok (.lastore, 1) := by decide +kernel
theorem dL_lastPositions_9 : decode cL_lastPositions 9 = .ok (.goto 6, 3) := by decide +kernel
theorem dL_lastPositions_12 : decode cL_lastPositions 12 = .ok (.astore_n 3, 1) := by decide +kernel
theorem dL_lastPositions_13 : decode cL_lastPositions 13 = .ok (.iconst 1, 1) := by decide +kernel
theorem dL_lastPositions_14 : decode cL_lastPositions 14 = .ok (.ireturn, 1) := by decide +kernel
theorem dL_lastPositions_15 : decode cL_lastPositions 15 = .ok (.iconst 0, 1) := by decide +kernel
theorem dL_lastPositions_16 : decode cL_lastPositions 16 = .ok (.ireturn, 1) := by decide +kernel
theorem dL_followPositions_0 : decode cL_followPositions 0 = .ok (.aload_n 3, 1) := by decide +kernel
theorem dL_followPositions_1 : decode cL_followPositions 1 = .ok (.iconst 0, 1) := by decide +kernel
theorem dL_followPositions_2 : decode cL_followPositions 2 = .ok (.aload_n 0, 1) := by decide +kernel
theorem dL_followPositions_3 : decode cL_followPositions 3 = .ok (.iload_n 1, 1) := by decide +kernel
theorem dL_followPositions_4 : decode cL_followPositions 4 = .ok (.iload_n 2, 1) := by decide +kernel
theorem dL_followPositions_5 : decode cL_followPositions 5 = .ok (.invokevirtual 67, 3) := by decide +kernel
theorem dL_followPositions_8 : decode cL_followPositions 8 = .ok (.i2l, 1) := by decide +kernel
theorem dL_followPositions_9 : decode cL_followPositions 9 = .ok (.lastore, 1) := by decide +kernel
theorem dL_followPositions_10 : decode cL_followPositions 10 = .ok (.goto 7, 3) := by decide +kernel
theorem dL_followPositions_13 : decode cL_followPositions 13 = .ok (.astore 4, 2) := by decide +kernel
theorem dL_followPositions_15 : decode cL_followPositions 15 = .ok (.iconst 1, 1) := by decide +kernel
theorem dL_followPositions_16 : decode cL_followPositions 16 = .ok (.ireturn, 1) := by decide +kernel
theorem dL_followPositions_17 : decode cL_followPositions 17 = .ok (.iconst 0, 1) := by decide +kernel
theorem dL_followPositions_18 : decode cL_followPositions 18 = .ok (.ireturn, 1) := by decide +kernel
theorem dL_loopCount_0 : decode cL_loopCount 0 = .ok (.aload_n 2, 1) := by decide +kernel
theorem dL_loopCount_1 : decode cL_loopCount 1 = .ok (.iconst 0, 1) := by decide +kernel
theorem dL_loopCount_2 : decode cL_loopCount 2 = .ok (.aload_n 0, 1) := by decide +kernel
theorem dL_loopCount_3 : decode cL_loopCount 3 = .ok (.iload_n 1, 1) := by decide +kernel
theorem dL_loopCount_4 : decode cL_loopCount 4 = .ok (.invokevirtual 70, 3) := by decide +kernel
theorem dL_loopCount_7 : decode cL_loopCount 7 = .ok (.i2l, 1) := by decide +kernel
theorem dL_loopCount_8 : decode cL_loopCount 8 = .ok (.lastore, 1) := by decide +kernel
theorem dL_loopCount_9 : decode cL_loopCount 9 = .ok (.goto 6, 3) := by decide +kernel
theorem dL_loopCount_12 : decode cL_loopCount 12 = .ok (.astore_n 3, 1) := by decide +kernel
theorem dL_loopCount_13 : decode cL_loopCount 13 = .ok (.iconst 1, 1) := by decide +kernel
theorem dL_loopCount_14 : decode cL_loopCount 14 = .ok (.ireturn, 1) := by decide +kernel
theorem dL_loopCount_15 : decode cL_loopCount 15 = .ok (.iconst 0, 1) := by decide +kernel
theorem dL_loopCount_16 : decode cL_loopCount 16 = .ok (.ireturn, 1) := by decide +kernel
theorem dL_isDeterministicAt_0 : decode cL_isDeterministicAt 0 = .ok (.aload_n 3, 1) := by decide +kernel
theorem dL_isDeterministicAt_1 : decode cL_isDeterministicAt 1 = .ok (.iconst 0, 1) := by decide +kernel
theorem dL_isDeterministicAt_2 : decode cL_isDeterministicAt 2 = .ok (.aload_n 0, 1) := by decide +kernel
theorem dL_isDeterministicAt_3 : decode cL_isDeterministicAt 3 = .ok (.iload_n 1, 1) := by decide +kernel
theorem dL_isDeterministicAt_4 : decode cL_isDeterministicAt 4 = .ok (.iload_n 2, 1) := by decide +kernel
theorem dL_isDeterministicAt_5 : decode cL_isDeterministicAt 5 = .ok (.invokevirtual 73, 3) := by decide +kernel
theorem dL_isDeterministicAt_8 : decode cL_isDeterministicAt 8 = .ok (.ifCond .eq 7, 3) := by decide +kernel
theorem dL_isDeterministicAt_11 : decode cL_isDeterministicAt 11 = .ok (.lconst 1, 1) := by decide +kernel
theorem dL_isDeterministicAt_12 : decode cL_isDeterministicAt 12 = .ok (.goto 4, 3) := by decide +kernel
theorem dL_isDeterministicAt_15 : decode cL_isDeterministicAt 15 = .ok (.lconst 0, 1) := by decide +kernel
theorem dL_isDeterministicAt_16 : decode cL_isDeterministicAt 16 = .ok (.lastore, 1) := by decide +kernel
theorem dL_isDeterministicAt_17 : decode cL_isDeterministicAt 17 = .ok (.goto 7, 3) := by decide +kernel
theorem dL_isDeterministicAt_20 : decode cL_isDeterministicAt 20 = .ok (.astore 4, 2) := by decide +kernel
theorem dL_isDeterministicAt_22 : decode cL_isDeterministicAt 22 = .ok (.iconst 1, 1) := by decide +kernel
theorem dL_isDeterministicAt_23 : decode cL_isDeterministicAt 23 = .ok (.ireturn, 1) := by decide +kernel
theorem dL_isDeterministicAt_24 : decode cL_isDeterministicAt 24 = .ok (.iconst 0, 1) := by decide +kernel
theorem dL_isDeterministicAt_25 : decode cL_isDeterministicAt 25 = .ok (.ireturn, 1) := by decide +kernel
theorem dL_stateCount_0 : decode cL_stateCount 0 = .ok (.aload_n 2, 1) := by decide +kernel
theorem dL_stateCount_1 : decode cL_stateCount 1 = .ok (.iconst 0, 1) := by decide +kernel
theorem dL_stateCount_2 : decode cL_stateCount 2 = .ok (.aload_n 0, 1) := by decide +kernel
theorem dL_stateCount_3 : decode cL_stateCount 3 = .ok (.iload_n 1, 1) := by decide +kernel
theorem dL_stateCount_4 : decode cL_stateCount 4 = .ok (.invokevirtual 77, 3) := by decide +kernel
theorem dL_stateCount_7 : decode cL_stateCount 7 = .ok (.i2l, 1) := by decide +kernel
theorem dL_stateCount_8 : decode cL_stateCount 8 = .ok (.lastore, 1) := by decide +kernel
theorem dL_stateCount_9 : decode cL_stateCount 9 = .ok (.goto 6, 3) := by decide +kernel
theorem dL_stateCount_12 : decode cL_stateCount 12 = .ok (.astore_n 3, 1) := by decide +kernel
theorem dL_stateCount_13 : decode cL_stateCount 13 = .ok (.iconst 1, 1) := by decide +kernel
theorem dL_stateCount_14 : decode cL_stateCount 14 = .ok (.ireturn, 1) := by decide +kernel
theorem dL_stateCount_15 : decode cL_stateCount 15 = .ok (.iconst 0, 1) := by decide +kernel
theorem dL_stateCount_16 : decode cL_stateCount 16 = .ok (.ireturn, 1) := by decide +kernel
theorem dL_transition_0 : decode cL_transition 0 = .ok (.aload 4, 2) := by decide +kernel
theorem dL_transition_2 : decode cL_transition 2 = .ok (.iconst 0, 1) := by decide +kernel
theorem dL_transition_3 : decode cL_transition 3 = .ok (.aload_n 0, 1) := by decide +kernel
theorem dL_transition_4 : decode cL_transition 4 = .ok (.iload_n 1, 1) := by decide +kernel
theorem dL_transition_5 : decode cL_transition 5 = .ok (.iload_n 2, 1) := by decide +kernel
theorem dL_transition_6 : decode cL_transition 6 = .ok (.iload_n 3, 1) := by decide +kernel
theorem dL_transition_7 : decode cL_transition 7 = .ok (.invokevirtual 80, 3) := by decide +kernel
theorem dL_transition_10 : decode cL_transition 10 = .ok (.i2l, 1) := by decide +kernel
theorem dL_transition_11 : decode cL_transition 11 = .ok (.lastore, 1) := by decide +kernel
theorem dL_transition_12 : decode cL_transition 12 = .ok (.goto 7, 3) := by decide +kernel
theorem dL_transition_15 : decode cL_transition 15 = .ok (.astore 5, 2) := by decide +kernel
theorem dL_transition_17 : decode cL_transition 17 = .ok (.iconst 1, 1) := by decide +kernel
theorem dL_transition_18 : decode cL_transition 18 = .ok (.ireturn, 1) := by decide +kernel
theorem dL_transition_19 : decode cL_transition 19 = .ok (.iconst 0, 1) := by decide +kernel
theorem dL_transition_20 : decode cL_transition 20 = .ok (.ireturn, 1) := by decide +kernel
theorem dL_isAccepting_0 : decode cL_isAccepting 0 = .ok (.aload_n 3, 1) := by decide +kernel
theorem dL_isAccepting_1 : decode cL_isAccepting 1 = .ok (.iconst 0, 1) := by decide +kernel
theorem dL_isAccepting_2 : decode cL_isAccepting 2 = .ok (.aload_n 0, 1) := by decide +kernel
theorem dL_isAccepting_3 : decode cL_isAccepting 3 = .ok (.iload_n 1, 1) := by decide +kernel
theorem dL_isAccepting_4 : decode cL_isAccepting 4 = .ok (.iload_n 2, 1) := by decide +kernel
theorem dL_isAccepting_5 : decode cL_isAccepting 5 = .ok (.invokevirtual 84, 3) := by decide +kernel
theorem dL_isAccepting_8 : decode cL_isAccepting 8 = .ok (.ifCond .eq 7, 3) := by decide +kernel
theorem dL_isAccepting_11 : decode cL_isAccepting 11 = .ok (.lconst 1, 1) := by decide +kernel
theorem dL_isAccepting_12 : decode cL_isAccepting 12 = .ok (.goto 4, 3) := by decide +kernel
theorem dL_isAccepting_15 : decode cL_isAccepting 15 = .ok (.lconst 0, 1) := by decide +kernel
theorem dL_isAccepting_16 : decode cL_isAccepting 16 = .ok (.lastore, 1) := by decide +kernel
theorem dL_isAccepting_17 : decode cL_isAccepting 17 = .ok (.goto 7, 3) := by decide +kernel
theorem dL_isAccepting_20 : decode cL_isAccepting 20 = .ok (.astore 4, 2) := by decide +kernel
theorem dL_isAccepting_22 : decode cL_isAccepting 22 = .ok (.iconst 1, 1) := by decide +kernel
theorem dL_isAccepting_23 : decode cL_isAccepting 23 = .ok (.ireturn, 1) := by decide +kernel
theorem dL_isAccepting_24 : decode cL_isAccepting 24 = .ok (.iconst 0, 1) := by decide +kernel
theorem dL_isAccepting_25 : decode cL_isAccepting 25 = .ok (.ireturn, 1) := by decide +kernel
theorem dL_statePositions_0 : decode cL_statePositions 0 = .ok (.aload_n 3, 1) := by decide +kernel
theorem dL_statePositions_1 : decode cL_statePositions 1 = .ok (.iconst 0, 1) := by decide +kernel
theorem dL_statePositions_2 : decode cL_statePositions 2 = .ok (.aload_n 0, 1) := by decide +kernel
theorem dL_statePositions_3 : decode cL_statePositions 3 = .ok (.iload_n 1, 1) := by decide +kernel
theorem dL_statePositions_4 : decode cL_statePositions 4 = .ok (.iload_n 2, 1) := by decide +kernel
theorem dL_statePositions_5 : decode cL_statePositions 5 = .ok (.invokevirtual 87, 3) := by decide +kernel
theorem dL_statePositions_8 : decode cL_statePositions 8 = .ok (.i2l, 1) := by decide +kernel
theorem dL_statePositions_9 : decode cL_statePositions 9 = .ok (.lastore, 1) := by decide +kernel
theorem dL_statePositions_10 : decode cL_statePositions 10 = .ok (.goto 7, 3) := by decide +kernel
theorem dL_statePositions_13 : decode cL_statePositions 13 = .ok (.astore 4, 2) := by decide +kernel
theorem dL_statePositions_15 : decode cL_statePositions 15 = .ok (.iconst 1, 1) := by decide +kernel
theorem dL_statePositions_16 : decode cL_statePositions 16 = .ok (.ireturn, 1) := by decide +kernel
theorem dL_statePositions_17 : decode cL_statePositions 17 = .ok (.iconst 0, 1) := by decide +kernel
theorem dL_statePositions_18 : decode cL_statePositions 18 = .ok (.ireturn, 1) := by decide +kernel
theorem dL_deadState_0 : decode cL_deadState 0 = .ok (.aload_n 2, 1) := by decide +kernel
theorem dL_deadState_1 : decode cL_deadState 1 = .ok (.iconst 0, 1) := by decide +kernel
theorem dL_deadState_2 : decode cL_deadState 2 = .ok (.aload_n 0, 1) := by decide +kernel
theorem dL_deadState_3 : decode cL_deadState 3 = .ok (.iload_n 1, 1) := by decide +kernel
theorem dL_deadState_4 : decode cL_deadState 4 = .ok (.invokevirtual 90, 3) := by decide +kernel
theorem dL_deadState_7 : decode cL_deadState 7 = .ok (.i2l, 1) := by decide +kernel
theorem dL_deadState_8 : decode cL_deadState 8 = .ok (.lastore, 1) := by decide +kernel
theorem dL_deadState_9 : decode cL_deadState 9 = .ok (.goto 6, 3) := by decide +kernel
theorem dL_deadState_12 : decode cL_deadState 12 = .ok (.astore_n 3, 1) := by decide +kernel
theorem dL_deadState_13 : decode cL_deadState 13 = .ok (.iconst 1, 1) := by decide +kernel
theorem dL_deadState_14 : decode cL_deadState 14 = .ok (.ireturn, 1) := by decide +kernel
theorem dL_deadState_15 : decode cL_deadState 15 = .ok (.iconst 0, 1) := by decide +kernel
theorem dL_deadState_16 : decode cL_deadState 16 = .ok (.ireturn, 1) := by decide +kernel
theorem dL_distanceToAccepting_0 : decode cL_distanceToAccepting 0 = .ok (.aload_n 3, 1) := by decide +kernel
theorem dL_distanceToAccepting_1 : decode cL_distanceToAccepting 1 = .ok (.iconst 0, 1) := by decide +kernel
theorem dL_distanceToAccepting_2 : decode cL_distanceToAccepting 2 = .ok (.aload_n 0, 1) := by decide +kernel
theorem dL_distanceToAccepting_3 : decode cL_distanceToAccepting 3 = .ok (.iload_n 1, 1) := by decide +kernel
theorem dL_distanceToAccepting_4 : decode cL_distanceToAccepting 4 = .ok (.iload_n 2, 1) := by decide +kernel
theorem dL_distanceToAccepting_5 : decode cL_distanceToAccepting 5 = .ok (.invokevirtual 93, 3) := by decide +kernel
theorem dL_distanceToAccepting_8 : decode cL_distanceToAccepting 8 = .ok (.i2l, 1) := by decide +kernel
theorem dL_distanceToAccepting_9 : decode cL_distanceToAccepting 9 = .ok (.lastore, 1) := by decide +kernel
theorem dL_distanceToAccepting_10 : decode cL_distanceToAccepting 10 = .ok (.goto 7, 3) := by decide +kernel
theorem dL_distanceToAccepting_13 : decode cL_distanceToAccepting 13 = .ok (.astore 4, 2) := by decide +kernel
theorem dL_distanceToAccepting_15 : decode cL_distanceToAccepting 15 = .ok (.iconst 1, 1) := by decide +kernel
theorem dL_distanceToAccepting_16 : decode cL_distanceToAccepting 16 = .ok (.ireturn, 1) := by decide +kernel
theorem dL_distanceToAccepting_17 : decode cL_distanceToAccepting 17 = .ok (.iconst 0, 1) := by decide +kernel
theorem dL_distanceToAccepting_18 : decode cL_distanceToAccepting 18 = .ok (.ireturn, 1) := by decide +kernel
theorem dL_areEquivalentStates_0 : decode cL_areEquivalentStates 0 = .ok (.aload 4, 2) := by decide +kernel
theorem dL_areEquivalentStates_2 : decode cL_areEquivalentStates 2 = .ok (.iconst 0, 1) := by decide +kernel
theorem dL_areEquivalentStates_3 : decode cL_areEquivalentStates 3 = .ok (.aload_n 0, 1) := by decide +kernel
theorem dL_areEquivalentStates_4 : decode cL_areEquivalentStates 4 = .ok (.iload_n 1, 1) := by decide +kernel
theorem dL_areEquivalentStates_5 : decode cL_areEquivalentStates 5 = .ok (.iload_n 2, 1) := by decide +kernel
theorem dL_areEquivalentStates_6 : decode cL_areEquivalentStates 6 = .ok (.iload_n 3, 1) := by decide +kernel
theorem dL_areEquivalentStates_7 : decode cL_areEquivalentStates 7 = .ok (.invokevirtual 96, 3) := by decide +kernel
theorem dL_areEquivalentStates_10 : decode cL_areEquivalentStates 10 = .ok (.ifCond .eq 7, 3) := by decide +kernel
theorem dL_areEquivalentStates_13 : decode cL_areEquivalentStates 13 = .ok (.lconst 1, 1) := by decide +kernel
theorem dL_areEquivalentStates_14 : decode cL_areEquivalentStates 14 = .ok (.goto 4, 3) := by decide +kernel
theorem dL_areEquivalentStates_17 : decode cL_areEquivalentStates 17 = .ok (.lconst 0, 1) := by decide +kernel
theorem dL_areEquivalentStates_18 : decode cL_areEquivalentStates 18 = .ok (.lastore, 1) := by decide +kernel
theorem dL_areEquivalentStates_19 : decode cL_areEquivalentStates 19 = .ok (.goto 7, 3) := by decide +kernel
theorem dL_areEquivalentStates_22 : decode cL_areEquivalentStates 22 = .ok (.astore 5, 2) := by decide +kernel
theorem dL_areEquivalentStates_24 : decode cL_areEquivalentStates 24 = .ok (.iconst 1, 1) := by decide +kernel
theorem dL_areEquivalentStates_25 : decode cL_areEquivalentStates 25 = .ok (.ireturn, 1) := by decide +kernel
theorem dL_areEquivalentStates_26 : decode cL_areEquivalentStates 26 = .ok (.iconst 0, 1) := by decide +kernel
theorem dL_areEquivalentStates_27 : decode cL_areEquivalentStates 27 = .ok (.ireturn, 1) := by decide +kernel
theorem dL_minimalStateCount_0 : decode cL_minimalStateCount 0 = .ok (.aload_n 2, 1) := by decide +kernel
theorem dL_minimalStateCount_1 : decode cL_minimalStateCount 1 = .ok (.iconst 0, 1) := by decide +kernel
theorem dL_minimalStateCount_2 : decode cL_minimalStateCount 2 = .ok (.aload_n 0, 1) := by decide +kernel
theorem dL_minimalStateCount_3 : decode cL_minimalStateCount 3 = .ok (.iload_n 1, 1) := by decide +kernel
theorem dL_minimalStateCount_4 : decode cL_minimalStateCount 4 = .ok (.invokevirtual 100, 3) := by decide +kernel
theorem dL_minimalStateCount_7 : decode cL_minimalStateCount 7 = .ok (.i2l, 1) := by decide +kernel
theorem dL_minimalStateCount_8 : decode cL_minimalStateCount 8 = .ok (.lastore, 1) := by decide +kernel
theorem dL_minimalStateCount_9 : decode cL_minimalStateCount 9 = .ok (.goto 6, 3) := by decide +kernel
theorem dL_minimalStateCount_12 : decode cL_minimalStateCount 12 = .ok (.astore_n 3, 1) := by decide +kernel
theorem dL_minimalStateCount_13 : decode cL_minimalStateCount 13 = .ok (.iconst 1, 1) := by decide +kernel
theorem dL_minimalStateCount_14 : decode cL_minimalStateCount 14 = .ok (.ireturn, 1) := by decide +kernel
theorem dL_minimalStateCount_15 : decode cL_minimalStateCount 15 = .ok (.iconst 0, 1) := by decide +kernel
theorem dL_minimalStateCount_16 : decode cL_minimalStateCount 16 = .ok (.ireturn, 1) := by decide +kernel
theorem dL_acceptsInput_0 : decode cL_acceptsInput 0 = .ok (.aload_n 2, 1) := by decide +kernel
theorem dL_acceptsInput_1 : decode cL_acceptsInput 1 = .ok (.iconst 0, 1) := by decide +kernel
theorem dL_acceptsInput_2 : decode cL_acceptsInput 2 = .ok (.aload_n 0, 1) := by decide +kernel
theorem dL_acceptsInput_3 : decode cL_acceptsInput 3 = .ok (.iload_n 1, 1) := by decide +kernel
theorem dL_acceptsInput_4 : decode cL_acceptsInput 4 = .ok (.invokevirtual 103, 3) := by decide +kernel
theorem dL_acceptsInput_7 : decode cL_acceptsInput 7 = .ok (.ifCond .eq 7, 3) := by decide +kernel
theorem dL_acceptsInput_10 : decode cL_acceptsInput 10 = .ok (.lconst 1, 1) := by decide +kernel
theorem dL_acceptsInput_11 : decode cL_acceptsInput 11 = .ok (.goto 4, 3) := by decide +kernel
theorem dL_acceptsInput_14 : decode cL_acceptsInput 14 = .ok (.lconst 0, 1) := by decide +kernel
theorem dL_acceptsInput_15 : decode cL_acceptsInput 15 = .ok (.lastore, 1) := by decide +kernel
theorem dL_acceptsInput_16 : decode cL_acceptsInput 16 = .ok (.goto 6, 3) := by decide +kernel
theorem dL_acceptsInput_19 : decode cL_acceptsInput 19 = .ok (.astore_n 3, 1) := by decide +kernel
theorem dL_acceptsInput_20 : decode cL_acceptsInput 20 = .ok (.iconst 1, 1) := by decide +kernel
theorem dL_acceptsInput_21 : decode cL_acceptsInput 21 = .ok (.ireturn, 1) := by decide +kernel
theorem dL_acceptsInput_22 : decode cL_acceptsInput 22 = .ok (.iconst 0, 1) := by decide +kernel
theorem dL_acceptsInput_23 : decode cL_acceptsInput 23 = .ok (.ireturn, 1) := by decide +kernel
theorem dL_wordCount_0 : decode cL_wordCount 0 = .ok (.aload_n 3, 1) := by decide +kernel
theorem dL_wordCount_1 : decode cL_wordCount 1 = .ok (.iconst 0, 1) := by decide +kernel
theorem dL_wordCount_2 : decode cL_wordCount 2 = .ok (.aload_n 0, 1) := by decide +kernel
theorem dL_wordCount_3 : decode cL_wordCount 3 = .ok (.iload_n 1, 1) := by decide +kernel
theorem dL_wordCount_4 : decode cL_wordCount 4 = .ok (.iload_n 2, 1) := by decide +kernel
theorem dL_wordCount_5 : decode cL_wordCount 5 = .ok (.invokevirtual 106, 3) := by decide +kernel
theorem dL_wordCount_8 : decode cL_wordCount 8 = .ok (.lastore, 1) := by decide +kernel
theorem dL_wordCount_9 : decode cL_wordCount 9 = .ok (.goto 11, 3) := by decide +kernel
theorem dL_wordCount_12 : decode cL_wordCount 12 = .ok (.astore 4, 2) := by decide +kernel
theorem dL_wordCount_14 : decode cL_wordCount 14 = .ok (.iconst 1, 1) := by decide +kernel
theorem dL_wordCount_15 : decode cL_wordCount 15 = .ok (.ireturn, 1) := by decide +kernel
theorem dL_wordCount_16 : decode cL_wordCount 16 = .ok (.astore 4, 2) := by decide +kernel
theorem dL_wordCount_18 : decode cL_wordCount 18 = .ok (.iconst 2, 1) := by decide +kernel
theorem dL_wordCount_19 : decode cL_wordCount 19 = .ok (.ireturn, 1) := by decide +kernel
theorem dL_wordCount_20 : decode cL_wordCount 20 = .ok (.iconst 0, 1) := by decide +kernel
theorem dL_wordCount_21 : decode cL_wordCount 21 = .ok (.ireturn, 1) := by decide +kernel
theorem dL_wordCountWithPrefix_0 : decode cL_wordCountWithPrefix 0 = .ok (.aload_n 3, 1) := by decide +kernel
theorem dL_wordCountWithPrefix_1 : decode cL_wordCountWithPrefix 1 = .ok (.iconst 0, 1) := by decide +kernel
theorem dL_wordCountWithPrefix_2 : decode cL_wordCountWithPrefix 2 = .ok (.aload_n 0, 1) := by decide +kernel
theorem dL_wordCountWithPrefix_3 : decode cL_wordCountWithPrefix 3 = .ok (.iload_n 1, 1) := by decide +kernel
theorem dL_wordCountWithPrefix_4 : decode cL_wordCountWithPrefix 4 = .ok (.iload_n 2, 1) := by decide +kernel
theorem dL_wordCountWithPrefix_5 : decode cL_wordCountWithPrefix 5 = .ok (.invokevirtual 110, 3) := by decide +kernel
theorem dL_wordCountWithPrefix_8 : decode cL_wordCountWithPrefix 8 = .ok (.lastore, 1) := by decide +kernel
theorem dL_wordCountWithPrefix_9 : decode cL_wordCountWithPrefix 9 = .ok (.goto 11, 3) := by decide +kernel
theorem dL_wordCountWithPrefix_12 : decode cL_wordCountWithPrefix 12 = .ok (.astore 4, 2) := by decide +kernel
theorem dL_wordCountWithPrefix_14 : decode cL_wordCountWithPrefix 14 = .ok (.iconst 1, 1) := by decide +kernel
theorem dL_wordCountWithPrefix_15 : decode cL_wordCountWithPrefix 15 = .ok (.ireturn, 1) := by decide +kernel
theorem dL_wordCountWithPrefix_16 : decode cL_wordCountWithPrefix 16 = .ok (.astore 4, 2) := by decide +kernel
theorem dL_wordCountWithPrefix_18 : decode cL_wordCountWithPrefix 18 = .ok (.iconst 2, 1) := by decide +kernel
theorem dL_wordCountWithPrefix_19 : decode cL_wordCountWithPrefix 19 = .ok (.ireturn, 1) := by decide +kernel
theorem dL_wordCountWithPrefix_20 : decode cL_wordCountWithPrefix 20 = .ok (.iconst 0, 1) := by decide +kernel
theorem dL_wordCountWithPrefix_21 : decode cL_wordCountWithPrefix 21 = .ok (.ireturn, 1) := by decide +kernel
theorem dL_shortestLength_0 : decode cL_shortestLength 0 = .ok (.aload_n 2, 1) := by decide +kernel
theorem dL_shortestLength_1 : decode cL_shortestLength 1 = .ok (.iconst 0, 1) := by decide +kernel
theorem dL_shortestLength_2 : decode cL_shortestLength 2 = .ok (.aload_n 0, 1) := by decide +kernel
theorem dL_shortestLength_3 : decode cL_shortestLength 3 = .ok (.iload_n 1, 1) := by decide +kernel
theorem dL_shortestLength_4 : decode cL_shortestLength 4 = .ok (.invokevirtual 113, 3) := by decide +kernel
theorem dL_shortestLength_7 : decode cL_shortestLength 7 = .ok (.i2l, 1) := by decide +kernel
theorem dL_shortestLength_8 : decode cL_shortestLength 8 = .ok (.lastore, 1) := by decide +kernel
theorem dL_shortestLength_9 : decode cL_shortestLength 9 = .ok (.goto 6, 3) := by decide +kernel
theorem dL_shortestLength_12 : decode cL_shortestLength 12 = .ok (.astore_n 3, 1) := by decide +kernel
theorem dL_shortestLength_13 : decode cL_shortestLength 13 = .ok (.iconst 1, 1) := by decide +kernel
theorem dL_shortestLength_14 : decode cL_shortestLength 14 = .ok (.ireturn, 1) := by decide +kernel
theorem dL_shortestLength_15 : decode cL_shortestLength 15 = .ok (.iconst 0, 1) := by decide +kernel
theorem dL_shortestLength_16 : decode cL_shortestLength 16 = .ok (.ireturn, 1) := by decide +kernel
theorem dL_isFinite_0 : decode cL_isFinite 0 = .ok (.aload_n 2, 1) := by decide +kernel
theorem dL_isFinite_1 : decode cL_isFinite 1 = .ok (.iconst 0, 1) := by decide +kernel
theorem dL_isFinite_2 : decode cL_isFinite 2 = .ok (.aload_n 0, 1) := by decide +kernel
theorem dL_isFinite_3 : decode cL_isFinite 3 = .ok (.iload_n 1, 1) := by decide +kernel
theorem dL_isFinite_4 : decode cL_isFinite 4 = .ok (.invokevirtual 116, 3) := by decide +kernel
theorem dL_isFinite_7 : decode cL_isFinite 7 = .ok (.ifCond .eq 7, 3) := by decide +kernel
theorem dL_isFinite_10 : decode cL_isFinite 10 = .ok (.lconst 1, 1) := by decide +kernel
theorem dL_isFinite_11 : decode cL_isFinite 11 = .ok (.goto 4, 3) := by decide +kernel
theorem dL_isFinite_14 : decode cL_isFinite 14 = .ok (.lconst 0, 1) := by decide +kernel
theorem dL_isFinite_15 : decode cL_isFinite 15 = .ok (.lastore, 1) := by decide +kernel
theorem dL_isFinite_16 : decode cL_isFinite 16 = .ok (.goto 6, 3) := by decide +kernel
theorem dL_isFinite_19 : decode cL_isFinite 19 = .ok (.astore_n 3, 1) := by decide +kernel
theorem dL_isFinite_20 : decode cL_isFinite 20 = .ok (.iconst 1, 1) := by decide +kernel
theorem dL_isFinite_21 : decode cL_isFinite 21 = .ok (.ireturn, 1) := by decide +kernel
theorem dL_isFinite_22 : decode cL_isFinite 22 = .ok (.iconst 0, 1) := by decide +kernel
theorem dL_isFinite_23 : decode cL_isFinite 23 = .ok (.ireturn, 1) := by decide +kernel
theorem dL_longestLength_0 : decode cL_longestLength 0 = .ok (.aload_n 2, 1) := by decide +kernel
theorem dL_longestLength_1 : decode cL_longestLength 1 = .ok (.iconst 0, 1) := by decide +kernel
theorem dL_longestLength_2 : decode cL_longestLength 2 = .ok (.aload_n 0, 1) := by decide +kernel
theorem dL_longestLength_3 : decode cL_longestLength 3 = .ok (.iload_n 1, 1) := by decide +kernel
theorem dL_longestLength_4 : decode cL_longestLength 4 = .ok (.invokevirtual 119, 3) := by decide +kernel
theorem dL_longestLength_7 : decode cL_longestLength 7 = .ok (.i2l, 1) := by decide +kernel
theorem dL_longestLength_8 : decode cL_longestLength 8 = .ok (.lastore, 1) := by decide +kernel
theorem dL_longestLength_9 : decode cL_longestLength 9 = .ok (.goto 6, 3) := by decide +kernel
theorem dL_longestLength_12 : decode cL_longestLength 12 = .ok (.astore_n 3, 1) := by decide +kernel
theorem dL_longestLength_13 : decode cL_longestLength 13 = .ok (.iconst 1, 1) := by decide +kernel
theorem dL_longestLength_14 : decode cL_longestLength 14 = .ok (.ireturn, 1) := by decide +kernel
theorem dL_longestLength_15 : decode cL_longestLength 15 = .ok (.iconst 0, 1) := by decide +kernel
theorem dL_longestLength_16 : decode cL_longestLength 16 = .ok (.ireturn, 1) := by decide +kernel
theorem dL_isSubset_0 : decode cL_isSubset 0 = .ok (.aload_n 2, 1) := by decide +kernel
theorem dL_isSubset_1 : decode cL_isSubset 1 = .ok (.iconst 0, 1) := by decide +kernel
theorem dL_isSubset_2 : decode cL_isSubset 2 = .ok (.aload_n 0, 1) := by decide +kernel
theorem dL_isSubset_3 : decode cL_isSubset 3 = .ok (.iload_n 1, 1) := by decide +kernel
theorem dL_isSubset_4 : decode cL_isSubset 4 = .ok (.invokevirtual 122, 3) := by decide +kernel
theorem dL_isSubset_7 : decode cL_isSubset 7 = .ok (.ifCond .eq 7, 3) := by decide +kernel
theorem dL_isSubset_10 : decode cL_isSubset 10 = .ok (.lconst 1, 1) := by decide +kernel
theorem dL_isSubset_11 : decode cL_isSubset 11 = .ok (.goto 4, 3) := by decide +kernel
theorem dL_isSubset_14 : decode cL_isSubset 14 = .ok (.lconst 0, 1) := by decide +kernel
theorem dL_isSubset_15 : decode cL_isSubset 15 = .ok (.lastore, 1) := by decide +kernel
theorem dL_isSubset_16 : decode cL_isSubset 16 = .ok (.goto 6, 3) := by decide +kernel
theorem dL_isSubset_19 : decode cL_isSubset 19 = .ok (.astore_n 3, 1) := by decide +kernel
theorem dL_isSubset_20 : decode cL_isSubset 20 = .ok (.iconst 1, 1) := by decide +kernel
theorem dL_isSubset_21 : decode cL_isSubset 21 = .ok (.ireturn, 1) := by decide +kernel
theorem dL_isSubset_22 : decode cL_isSubset 22 = .ok (.iconst 0, 1) := by decide +kernel
theorem dL_isSubset_23 : decode cL_isSubset 23 = .ok (.ireturn, 1) := by decide +kernel
theorem dL_isPassable_0 : decode cL_isPassable 0 = .ok (.aload_n 2, 1) := by decide +kernel
theorem dL_isPassable_1 : decode cL_isPassable 1 = .ok (.iconst 0, 1) := by decide +kernel
theorem dL_isPassable_2 : decode cL_isPassable 2 = .ok (.aload_n 0, 1) := by decide +kernel
theorem dL_isPassable_3 : decode cL_isPassable 3 = .ok (.iload_n 1, 1) := by decide +kernel
theorem dL_isPassable_4 : decode cL_isPassable 4 = .ok (.invokevirtual 125, 3) := by decide +kernel
theorem dL_isPassable_7 : decode cL_isPassable 7 = .ok (.ifCond .eq 7, 3) := by decide +kernel
theorem dL_isPassable_10 : decode cL_isPassable 10 = .ok (.lconst 1, 1) := by decide +kernel
theorem dL_isPassable_11 : decode cL_isPassable 11 = .ok (.goto 4, 3) := by decide +kernel
theorem dL_isPassable_14 : decode cL_isPassable 14 = .ok (.lconst 0, 1) := by decide +kernel
theorem dL_isPassable_15 : decode cL_isPassable 15 = .ok (.lastore, 1) := by decide +kernel
theorem dL_isPassable_16 : decode cL_isPassable 16 = .ok (.goto 6, 3) := by decide +kernel
theorem dL_isPassable_19 : decode cL_isPassable 19 = .ok (.astore_n 3, 1) := by decide +kernel
theorem dL_isPassable_20 : decode cL_isPassable 20 = .ok (.iconst 1, 1) := by decide +kernel
theorem dL_isPassable_21 : decode cL_isPassable 21 = .ok (.ireturn, 1) := by decide +kernel
theorem dL_isPassable_22 : decode cL_isPassable 22 = .ok (.iconst 0, 1) := by decide +kernel
theorem dL_isPassable_23 : decode cL_isPassable 23 = .ok (.ireturn, 1) := by decide +kernel
theorem dL_walkerSlot_0 : decode cL_walkerSlot 0 = .ok (.aload_n 2, 1) := by decide +kernel
theorem dL_walkerSlot_1 : decode cL_walkerSlot 1 = .ok (.iconst 0, 1) := by decide +kernel
theorem dL_walkerSlot_2 : decode cL_walkerSlot 2 = .ok (.aload_n 0, 1) := by decide +kernel
theorem dL_walkerSlot_3 : decode cL_walkerSlot 3 = .ok (.iload_n 1, 1) := by decide +kernel
theorem dL_walkerSlot_4 : decode cL_walkerSlot 4 = .ok (.invokevirtual 128, 3) := by decide +kernel
theorem dL_walkerSlot_7 : decode cL_walkerSlot 7 = .ok (.i2l, 1) := by decide +kernel
theorem dL_walkerSlot_8 : decode cL_walkerSlot 8 = .ok (.lastore, 1) := by decide +kernel
theorem dL_walkerSlot_9 : decode cL_walkerSlot 9 = .ok (.goto 6, 3) := by decide +kernel
theorem dL_walkerSlot_12 : decode cL_walkerSlot 12 = .ok (.astore_n 3, 1) := by decide +kernel
theorem dL_walkerSlot_13 : decode cL_walkerSlot 13 = .ok (.iconst 1, 1) := by decide +kernel
theorem dL_walkerSlot_14 : decode cL_walkerSlot 14 = .ok (.ireturn, 1) := by decide +kernel
theorem dL_walkerSlot_15 : decode cL_walkerSlot 15 = .ok (.iconst 0, 1) := by decide +kernel
theorem dL_walkerSlot_16 : decode cL_walkerSlot 16 = .ok (.ireturn, 1) := by decide +kernel
theorem dL_walkerState_0 : decode cL_walkerState 0 = .ok (.aload_n 2, 1) := by decide +kernel
theorem dL_walkerState_1 : decode cL_walkerState 1 = .ok (.iconst 0, 1) := by decide +kernel
theorem dL_walkerState_2 : decode cL_walkerState 2 = .ok (.aload_n 0, 1) := by decide +kernel
theorem dL_walkerState_3 : decode cL_walkerState 3 = .ok (.iload_n 1, 1) := by decide +kernel
theorem dL_walkerState_4 : decode cL_walkerState 4 = .ok (.invokevirtual 131, 3) := by decide +kernel
theorem dL_walkerState_7 : decode cL_walkerState 7 = .ok (.i2l, 1) := by decide +kernel
theorem dL_walkerState_8 : decode cL_walkerState 8 = .ok (.lastore, 1) := by decide +kernel
theorem dL_walkerState_9 : decode cL_walkerState 9 = .ok (.goto 6, 3) := by decide +kernel
theorem dL_walkerState_12 : decode cL_walkerState 12 = .ok (.astore_n 3, 1) := by decide +kernel
theorem dL_walkerState_13 : decode cL_walkerState 13 = .ok (.iconst 1, 1) := by decide +kernel
theorem dL_walkerState_14 : decode cL_walkerState 14 = .ok (.ireturn, 1) := by decide +kernel
theorem dL_walkerState_15 : decode cL_walkerState 15 = .ok (.iconst 0, 1) := by decide +kernel
theorem dL_walkerState_16 : decode cL_walkerState 16 = .ok (.ireturn, 1) := by decide +kernel
theorem dL_walkerSteps_0 : decode cL_walkerSteps 0 = .ok (.aload_n 2, 1) := by decide +kernel
theorem dL_walkerSteps_1 : decode cL_walkerSteps 1 = .ok (.iconst 0, 1) := by decide +kernel
theorem dL_walkerSteps_2 : decode cL_walkerSteps 2 = .ok (.aload_n 0, 1) := by decide +kernel
theorem dL_walkerSteps_3 : decode cL_walkerSteps 3 = .ok (.iload_n 1, 1) := by decide +kernel
theorem dL_walkerSteps_4 : decode cL_walkerSteps 4 = .ok (.invokevirtual 134, 3) := by decide +kernel
theorem dL_walkerSteps_7 : decode cL_walkerSteps 7 = .ok (.i2l, 1) := by decide +kernel
theorem dL_walkerSteps_8 : decode cL_walkerSteps 8 = .ok (.lastore, 1) := by decide +kernel
theorem dL_walkerSteps_9 : decode cL_walkerSteps 9 = .ok (.goto 6, 3) := by decide +kernel
theorem dL_walkerSteps_12 : decode cL_walkerSteps 12 = .ok (.astore_n 3, 1) := by decide +kernel
theorem dL_walkerSteps_13 : decode cL_walkerSteps 13 = .ok (.iconst 1, 1) := by decide +kernel
theorem dL_walkerSteps_14 : decode cL_walkerSteps 14 = .ok (.ireturn, 1) := by decide +kernel
theorem dL_walkerSteps_15 : decode cL_walkerSteps 15 = .ok (.iconst 0, 1) := by decide +kernel
theorem dL_walkerSteps_16 : decode cL_walkerSteps 16 = .ok (.ireturn, 1) := by decide +kernel
theorem dL_stepsHome_0 : decode cL_stepsHome 0 = .ok (.aload_n 2, 1) := by decide +kernel
theorem dL_stepsHome_1 : decode cL_stepsHome 1 = .ok (.iconst 0, 1) := by decide +kernel
theorem dL_stepsHome_2 : decode cL_stepsHome 2 = .ok (.aload_n 0, 1) := by decide +kernel
theorem dL_stepsHome_3 : decode cL_stepsHome 3 = .ok (.iload_n 1, 1) := by decide +kernel
theorem dL_stepsHome_4 : decode cL_stepsHome 4 = .ok (.invokevirtual 137, 3) := by decide +kernel
theorem dL_stepsHome_7 : decode cL_stepsHome 7 = .ok (.i2l, 1) := by decide +kernel
theorem dL_stepsHome_8 : decode cL_stepsHome 8 = .ok (.lastore, 1) := by decide +kernel
theorem dL_stepsHome_9 : decode cL_stepsHome 9 = .ok (.goto 6, 3) := by decide +kernel
theorem dL_stepsHome_12 : decode cL_stepsHome 12 = .ok (.astore_n 3, 1) := by decide +kernel
theorem dL_stepsHome_13 : decode cL_stepsHome 13 = .ok (.iconst 1, 1) := by decide +kernel
theorem dL_stepsHome_14 : decode cL_stepsHome 14 = .ok (.ireturn, 1) := by decide +kernel
theorem dL_stepsHome_15 : decode cL_stepsHome 15 = .ok (.iconst 0, 1) := by decide +kernel
theorem dL_stepsHome_16 : decode cL_stepsHome 16 = .ok (.ireturn, 1) := by decide +kernel
theorem dL_streetHome_0 : decode cL_streetHome 0 = .ok (.aload_n 2, 1) := by decide +kernel
theorem dL_streetHome_1 : decode cL_streetHome 1 = .ok (.iconst 0, 1) := by decide +kernel
theorem dL_streetHome_2 : decode cL_streetHome 2 = .ok (.aload_n 0, 1) := by decide +kernel
theorem dL_streetHome_3 : decode cL_streetHome 3 = .ok (.iload_n 1, 1) := by decide +kernel
theorem dL_streetHome_4 : decode cL_streetHome 4 = .ok (.invokevirtual 140, 3) := by decide +kernel
theorem dL_streetHome_7 : decode cL_streetHome 7 = .ok (.i2l, 1) := by decide +kernel
theorem dL_streetHome_8 : decode cL_streetHome 8 = .ok (.lastore, 1) := by decide +kernel
theorem dL_streetHome_9 : decode cL_streetHome 9 = .ok (.goto 6, 3) := by decide +kernel
theorem dL_streetHome_12 : decode cL_streetHome 12 = .ok (.astore_n 3, 1) := by decide +kernel
theorem dL_streetHome_13 : decode cL_streetHome 13 = .ok (.iconst 1, 1) := by decide +kernel
theorem dL_streetHome_14 : decode cL_streetHome 14 = .ok (.ireturn, 1) := by decide +kernel
theorem dL_streetHome_15 : decode cL_streetHome 15 = .ok (.iconst 0, 1) := by decide +kernel
theorem dL_streetHome_16 : decode cL_streetHome 16 = .ok (.ireturn, 1) := by decide +kernel
theorem dL_walkersInState_0 : decode cL_walkersInState 0 = .ok (.aload_n 3, 1) := by decide +kernel
theorem dL_walkersInState_1 : decode cL_walkersInState 1 = .ok (.iconst 0, 1) := by decide +kernel
theorem dL_walkersInState_2 : decode cL_walkersInState 2 = .ok (.aload_n 0, 1) := by decide +kernel
theorem dL_walkersInState_3 : decode cL_walkersInState 3 = .ok (.iload_n 1, 1) := by decide +kernel
theorem dL_walkersInState_4 : decode cL_walkersInState 4 = .ok (.iload_n 2, 1) := by decide +kernel
theorem dL_walkersInState_5 : decode cL_walkersInState 5 = .ok (.invokevirtual 143, 3) := by decide +kernel
theorem dL_walkersInState_8 : decode cL_walkersInState 8 = .ok (.i2l, 1) := by decide +kernel
theorem dL_walkersInState_9 : decode cL_walkersInState 9 = .ok (.lastore, 1) := by decide +kernel
theorem dL_walkersInState_10 : decode cL_walkersInState 10 = .ok (.goto 7, 3) := by decide +kernel
theorem dL_walkersInState_13 : decode cL_walkersInState 13 = .ok (.astore 4, 2) := by decide +kernel
theorem dL_walkersInState_15 : decode cL_walkersInState 15 = .ok (.iconst 1, 1) := by decide +kernel
theorem dL_walkersInState_16 : decode cL_walkersInState 16 = .ok (.ireturn, 1) := by decide +kernel
theorem dL_walkersInState_17 : decode cL_walkersInState 17 = .ok (.iconst 0, 1) := by decide +kernel
theorem dL_walkersInState_18 : decode cL_walkersInState 18 = .ok (.ireturn, 1) := by decide +kernel
theorem dL_meetingSteps_0 : decode cL_meetingSteps 0 = .ok (.aload_n 3, 1) := by decide +kernel
theorem dL_meetingSteps_1 : decode cL_meetingSteps 1 = .ok (.iconst 0, 1) := by decide +kernel
theorem dL_meetingSteps_2 : decode cL_meetingSteps 2 = .ok (.aload_n 0, 1) := by decide +kernel
theorem dL_meetingSteps_3 : decode cL_meetingSteps 3 = .ok (.iload_n 1, 1) := by decide +kernel
theorem dL_meetingSteps_4 : decode cL_meetingSteps 4 = .ok (.iload_n 2, 1) := by decide +kernel
theorem dL_meetingSteps_5 : decode cL_meetingSteps 5 = .ok (.invokevirtual 146, 3) := by decide +kernel
theorem dL_meetingSteps_8 : decode cL_meetingSteps 8 = .ok (.i2l, 1) := by decide +kernel
theorem dL_meetingSteps_9 : decode cL_meetingSteps 9 = .ok (.lastore, 1) := by decide +kernel
theorem dL_meetingSteps_10 : decode cL_meetingSteps 10 = .ok (.goto 7, 3) := by decide +kernel
theorem dL_meetingSteps_13 : decode cL_meetingSteps 13 = .ok (.astore 4, 2) := by decide +kernel
theorem dL_meetingSteps_15 : decode cL_meetingSteps 15 = .ok (.iconst 1, 1) := by decide +kernel
theorem dL_meetingSteps_16 : decode cL_meetingSteps 16 = .ok (.ireturn, 1) := by decide +kernel
theorem dL_meetingSteps_17 : decode cL_meetingSteps 17 = .ok (.iconst 0, 1) := by decide +kernel
theorem dL_meetingSteps_18 : decode cL_meetingSteps 18 = .ok (.ireturn, 1) := by decide +kernel
theorem dL_meanSetSize_0 : decode cL_meanSetSize 0 = .ok (.aload_n 2, 1) := by decide +kernel
theorem dL_meanSetSize_1 : decode cL_meanSetSize 1 = .ok (.iconst 0, 1) := by decide +kernel
theorem dL_meanSetSize_2 : decode cL_meanSetSize 2 = .ok (.aload_n 0, 1) := by decide +kernel
theorem dL_meanSetSize_3 : decode cL_meanSetSize 3 = .ok (.iload_n 1, 1) := by decide +kernel
theorem dL_meanSetSize_4 : decode cL_meanSetSize 4 = .ok (.invokevirtual 149, 3) := by decide +kernel
theorem dL_meanSetSize_7 : decode cL_meanSetSize 7 = .ok (.dastore, 1) := by decide +kernel
theorem dL_meanSetSize_8 : decode cL_meanSetSize 8 = .ok (.goto 6, 3) := by decide +kernel
theorem dL_meanSetSize_11 : decode cL_meanSetSize 11 = .ok (.astore_n 3, 1) := by decide +kernel
theorem dL_meanSetSize_12 : decode cL_meanSetSize 12 = .ok (.iconst 1, 1) := by decide +kernel
theorem dL_meanSetSize_13 : decode cL_meanSetSize 13 = .ok (.ireturn, 1) := by decide +kernel
theorem dL_meanSetSize_14 : decode cL_meanSetSize 14 = .ok (.iconst 0, 1) := by decide +kernel
theorem dL_meanSetSize_15 : decode cL_meanSetSize 15 = .ok (.ireturn, 1) := by decide +kernel
theorem dL_writeWord_0 : decode cL_writeWord 0 = .ok (.aload 5, 2) := by decide +kernel
theorem dL_writeWord_2 : decode cL_writeWord 2 = .ok (.iconst 0, 1) := by decide +kernel
theorem dL_writeWord_3 : decode cL_writeWord 3 = .ok (.aload_n 0, 1) := by decide +kernel
theorem dL_writeWord_4 : decode cL_writeWord 4 = .ok (.iload_n 1, 1) := by decide +kernel
theorem dL_writeWord_5 : decode cL_writeWord 5 = .ok (.iload_n 2, 1) := by decide +kernel
theorem dL_writeWord_6 : decode cL_writeWord 6 = .ok (.lload_n 3, 1) := by decide +kernel
theorem dL_writeWord_7 : decode cL_writeWord 7 = .ok (.invokevirtual 153, 3) := by decide +kernel
theorem dL_writeWord_10 : decode cL_writeWord 10 = .ok (.i2l, 1) := by decide +kernel
theorem dL_writeWord_11 : decode cL_writeWord 11 = .ok (.lastore, 1) := by decide +kernel
theorem dL_writeWord_12 : decode cL_writeWord 12 = .ok (.goto 11, 3) := by decide +kernel
theorem dL_writeWord_15 : decode cL_writeWord 15 = .ok (.astore 6, 2) := by decide +kernel
theorem dL_writeWord_17 : decode cL_writeWord 17 = .ok (.iconst 1, 1) := by decide +kernel
theorem dL_writeWord_18 : decode cL_writeWord 18 = .ok (.ireturn, 1) := by decide +kernel
theorem dL_writeWord_19 : decode cL_writeWord 19 = .ok (.astore 6, 2) := by decide +kernel
theorem dL_writeWord_21 : decode cL_writeWord 21 = .ok (.iconst 2, 1) := by decide +kernel
theorem dL_writeWord_22 : decode cL_writeWord 22 = .ok (.ireturn, 1) := by decide +kernel
theorem dL_writeWord_23 : decode cL_writeWord 23 = .ok (.iconst 0, 1) := by decide +kernel
theorem dL_writeWord_24 : decode cL_writeWord 24 = .ok (.ireturn, 1) := by decide +kernel
theorem dL_law_0 : decode cL_law 0 = .ok (.new 8, 3) := by decide +kernel
theorem dL_law_3 : decode cL_law 3 = .ok (.dup, 1) := by decide +kernel
theorem dL_law_4 : decode cL_law 4 = .ok (.invokespecial 157, 3) := by decide +kernel
theorem dL_law_7 : decode cL_law 7 = .ok (.astore_n 1, 1) := by decide +kernel
theorem dL_law_8 : decode cL_law 8 = .ok (.new 158, 3) := by decide +kernel
theorem dL_law_11 : decode cL_law 11 = .ok (.dup, 1) := by decide +kernel
theorem dL_law_12 : decode cL_law 12 = .ok (.invokespecial 160, 3) := by decide +kernel
theorem dL_law_15 : decode cL_law 15 = .ok (.astore_n 2, 1) := by decide +kernel
theorem dL_law_16 : decode cL_law 16 = .ok (.iconst 1, 1) := by decide +kernel
theorem dL_law_17 : decode cL_law 17 = .ok (.newarray .long, 2) := by decide +kernel
theorem dL_law_19 : decode cL_law 19 = .ok (.astore_n 3, 1) := by decide +kernel
theorem dL_law_20 : decode cL_law 20 = .ok (.iconst 1, 1) := by decide +kernel
theorem dL_law_21 : decode cL_law 21 = .ok (.newarray .double, 2) := by decide +kernel
theorem dL_law_23 : decode cL_law 23 = .ok (.astore 4, 2) := by decide +kernel
theorem dL_law_25 : decode cL_law 25 = .ok (.iconst 0, 1) := by decide +kernel
theorem dL_law_26 : decode cL_law 26 = .ok (.istore 5, 2) := by decide +kernel
theorem dL_law_28 : decode cL_law 28 = .ok (.iload 5, 2) := by decide +kernel
theorem dL_law_30 : decode cL_law 30 = .ok (.aload_n 0, 1) := by decide +kernel
theorem dL_law_31 : decode cL_law 31 = .ok (.arraylength, 1) := by decide +kernel
theorem dL_law_32 : decode cL_law 32 = .ok (.bipush 6, 2) := by decide +kernel
theorem dL_law_34 : decode cL_law 34 = .ok (.isub, 1) := by decide +kernel
theorem dL_law_35 : decode cL_law 35 = .ok (.if_icmp .gt 3409, 3) := by decide +kernel
theorem dL_law_38 : decode cL_law 38 = .ok (.aload_n 0, 1) := by decide +kernel
theorem dL_law_39 : decode cL_law 39 = .ok (.iload 5, 2) := by decide +kernel
theorem dL_law_41 : decode cL_law 41 = .ok (.iaload, 1) := by decide +kernel
theorem dL_law_42 : decode cL_law 42 = .ok (.bipush 63, 2) := by decide +kernel
theorem dL_law_44 : decode cL_law 44 = .ok (.iand, 1) := by decide +kernel
theorem dL_law_45 : decode cL_law 45 = .ok (.tableswitch 3393 0 60 #[259, 332, 388, 401, 457, 513, 569, 625, 693, 749, 805, 924, 965, 978, 991, 1004, 1048, 1061, 1074, 1130, 1198, 1261, 1317, 1373, 1441, 1497, 1572, 1628, 1708, 1783, 1851, 1907, 1975, 2062, 2118, 2181, 2248, 2315, 2371, 2434, 2490, 2553, 2566, 2579, 2592, 2655, 2668, 2681, 2737, 2793, 2849, 2905, 2961, 3029, 3097, 3110, 3153, 3230, 3342, 3355, 3368], 259) := by decide +kernel
theorem dL_law_304 : decode cL_law 304 = .ok (.aload_n 1, 1) := by decide +kernel
theorem dL_law_305 : decode cL_law 305 = .ok (.aload_n 0, 1) := by decide +kernel
theorem dL_law_306 : decode cL_law 306 = .ok (.iload 5, 2) := by decide +kernel
theorem dL_law_308 : decode cL_law 308 = .ok (.iconst 1, 1) := by decide +kernel
theorem dL_law_309 : decode cL_law 309 = .ok (.iadd, 1) := by decide +kernel
theorem dL_law_310 : decode cL_law 310 = .ok (.iaload, 1) := by decide +kernel
theorem dL_law_311 : decode cL_law 311 = .ok (.aload_n 0, 1) := by decide +kernel
theorem dL_law_312 : decode cL_law 312 = .ok (.iload 5, 2) := by decide +kernel
theorem dL_law_314 : decode cL_law 314 = .ok (.iconst 2, 1) := by decide +kernel
theorem dL_law_315 : decode cL_law 315 = .ok (.iadd, 1) := by decide +kernel
theorem dL_law_316 : decode cL_law 316 = .ok (.iaload, 1) := by decide +kernel
theorem dL_law_317 : decode cL_law 317 = .ok (.aload_n 0, 1) := by decide +kernel
theorem dL_law_318 : decode cL_law 318 = .ok (.iload 5, 2) := by decide +kernel
theorem dL_law_320 : decode cL_law 320 = .ok (.iconst 3, 1) := by decide +kernel
theorem dL_law_321 : decode cL_law 321 = .ok (.iadd, 1) := by decide +kernel
theorem dL_law_322 : decode cL_law 322 = .ok (.iaload, 1) := by decide +kernel
theorem dL_law_323 : decode cL_law 323 = .ok (.aload_n 0, 1) := by decide +kernel
theorem dL_law_324 : decode cL_law 324 = .ok (.iload 5, 2) := by decide +kernel
theorem dL_law_326 : decode cL_law 326 = .ok (.iconst 4, 1) := by decide +kernel
theorem dL_law_327 : decode cL_law 327 = .ok (.iadd, 1) := by decide +kernel
theorem dL_law_328 : decode cL_law 328 = .ok (.iaload, 1) := by decide +kernel
theorem dL_law_329 : decode cL_law 329 = .ok (.aload_n 0, 1) := by decide +kernel
theorem dL_law_330 : decode cL_law 330 = .ok (.iload 5, 2) := by decide +kernel
theorem dL_law_332 : decode cL_law 332 = .ok (.iconst 5, 1) := by decide +kernel
theorem dL_law_333 : decode cL_law 333 = .ok (.iadd, 1) := by decide +kernel
theorem dL_law_334 : decode cL_law 334 = .ok (.iaload, 1) := by decide +kernel
theorem dL_law_335 : decode cL_law 335 = .ok (.invokevirtual 161, 3) := by decide +kernel
theorem dL_law_338 : decode cL_law 338 = .ok (.aload_n 2, 1) := by decide +kernel
theorem dL_law_339 : decode cL_law 339 = .ok (.aload_n 0, 1) := by decide +kernel
theorem dL_law_340 : decode cL_law 340 = .ok (.iload 5, 2) := by decide +kernel
theorem dL_law_342 : decode cL_law 342 = .ok (.iconst 1, 1) := by decide +kernel
theorem dL_law_343 : decode cL_law 343 = .ok (.iadd, 1) := by decide +kernel
theorem dL_law_344 : decode cL_law 344 = .ok (.iaload, 1) := by decide +kernel
theorem dL_law_345 : decode cL_law 345 = .ok (.aload_n 0, 1) := by decide +kernel
theorem dL_law_346 : decode cL_law 346 = .ok (.iload 5, 2) := by decide +kernel
theorem dL_law_348 : decode cL_law 348 = .ok (.iconst 2, 1) := by decide +kernel
theorem dL_law_349 : decode cL_law 349 = .ok (.iadd, 1) := by decide +kernel
theorem dL_law_350 : decode cL_law 350 = .ok (.iaload, 1) := by decide +kernel
theorem dL_law_351 : decode cL_law 351 = .ok (.aload_n 0, 1) := by decide +kernel
theorem dL_law_352 : decode cL_law 352 = .ok (.iload 5, 2) := by decide +kernel
theorem dL_law_354 : decode cL_law 354 = .ok (.iconst 3, 1) := by decide +kernel
theorem dL_law_355 : decode cL_law 355 = .ok (.iadd, 1) := by decide +kernel
theorem dL_law_356 : decode cL_law 356 = .ok (.iaload, 1) := by decide +kernel
theorem dL_law_357 : decode cL_law 357 = .ok (.aload_n 0, 1) := by decide +kernel
theorem dL_law_358 : decode cL_law 358 = .ok (.iload 5, 2) := by decide +kernel
theorem dL_law_360 : decode cL_law 360 = .ok (.iconst 4, 1) := by decide +kernel
theorem dL_law_361 : decode cL_law 361 = .ok (.iadd, 1) := by decide +kernel
theorem dL_law_362 : decode cL_law 362 = .ok (.iaload, 1) := by decide +kernel
theorem dL_law_363 : decode cL_law 363 = .ok (.aload_n 0, 1) := by decide +kernel
theorem dL_law_364 : decode cL_law 364 = .ok (.iload 5, 2) := by decide +kernel
theorem dL_law_366 : decode cL_law 366 = .ok (.iconst 5, 1) := by decide +kernel
theorem dL_law_367 : decode cL_law 367 = .ok (.iadd, 1) := by decide +kernel
theorem dL_law_368 : decode cL_law 368 = .ok (.iaload, 1) := by decide +kernel
theorem dL_law_369 : decode cL_law 369 = .ok (.invokevirtual 165, 3) := by decide +kernel
theorem dL_law_372 : decode cL_law 372 = .ok (.if_icmp .eq 3066, 3) := by decide +kernel
theorem dL_law_375 : decode cL_law 375 = .ok (.iconst 0, 1) := by decide +kernel
theorem dL_law_376 : decode cL_law 376 = .ok (.ireturn, 1) := by decide +kernel
theorem dL_law_377 : decode cL_law 377 = .ok (.aload_n 1, 1) := by decide +kernel
theorem dL_law_378 : decode cL_law 378 = .ok (.aload_n 0, 1) := by decide +kernel
theorem dL_law_379 : decode cL_law 379 = .ok (.iload 5, 2) := by decide +kernel
theorem dL_law_381 : decode cL_law 381 = .ok (.iconst 1, 1) := by decide +kernel
theorem dL_law_382 : decode cL_law 382 = .ok (.iadd, 1) := by decide +kernel
theorem dL_law_383 : decode cL_law 383 = .ok (.iaload, 1) := by decide +kernel
theorem dL_law_384 : decode cL_law 384 = .ok (.aload_n 3, 1) := by decide +kernel
theorem dL_law_385 : decode cL_law 385 = .ok (.invokestatic 166, 3) := by decide +kernel
theorem dL_law_388 : decode cL_law 388 = .ok (.istore 6, 2) := by decide +kernel
theorem dL_law_390 : decode cL_law 390 = .ok (.aload_n 2, 1) := by decide +kernel
theorem dL_law_391 : decode cL_law 391 = .ok (.aload_n 0, 1) := by decide +kernel
theorem dL_law_392 : decode cL_law 392 = .ok (.iload 5, 2) := by decide +kernel
theorem dL_law_394 : decode cL_law 394 = .ok (.iconst 1, 1) := by decide +kernel
theorem dL_law_395 : decode cL_law 395 = .ok (.iadd, 1) := by decide +kernel
theorem dL_law_396 : decode cL_law 396 = .ok (.iaload, 1) := by decide +kernel
theorem dL_law_397 : decode cL_law 397 = .ok (.invokevirtual 171, 3) := by decide +kernel
theorem dL_law_400 : decode cL_law 400 = .ok (.istore 7, 2) := by decide +kernel
theorem dL_law_402 : decode cL_law 402 = .ok (.aload_n 2, 1) := by decide +kernel
theorem dL_law_403 : decode cL_law 403 = .ok (.invokevirtual 172, 3) := by decide +kernel
theorem dL_law_406 : decode cL_law 406 = .ok (.iload 6, 2) := by decide +kernel
theorem dL_law_408 : decode cL_law 408 = .ok (.if_icmp .eq 5, 3) := by decide +kernel
theorem dL_law_411 : decode cL_law 411 = .ok (.iconst 0, 1) := by decide +kernel
theorem dL_law_412 : decode cL_law 412 = .ok (.ireturn, 1) := by decide +kernel
theorem dL_law_413 : decode cL_law 413 = .ok (.iload 6, 2) := by decide +kernel
theorem dL_law_415 : decode cL_law 415 = .ok (.ifCond .ne 15, 3) := by decide +kernel
theorem dL_law_418 : decode cL_law 418 = .ok (.aload_n 3, 1) := by decide +kernel
theorem dL_law_419 : decode cL_law 419 = .ok (.iconst 0, 1) := by decide +kernel
theorem dL_law_420 : decode cL_law 420 = .ok (.laload, 1) := by decide +kernel
theorem dL_law_421 : decode cL_law 421 = .ok (.iload 7, 2) := by decide +kernel
theorem dL_law_423 : decode cL_law 423 = .ok (.i2l, 1) := by decide +kernel
theorem dL_law_424 : decode cL_law 424 = .ok (.lcmp, 1) := by decide +kernel
theorem dL_law_425 : decode cL_law 425 = .ok (.ifCond .eq 5, 3) := by decide +kernel
theorem dL_law_428 : decode cL_law 428 = .ok (.iconst 0, 1) := by decide +kernel
theorem dL_law_429 : decode cL_law 429 = .ok (.ireturn, 1) := by decide +kernel
theorem dL_law_430 : decode cL_law 430 = .ok (.goto 3008, 3) := by decide +kernel
theorem dL_law_433 : decode cL_law 433 = .ok (.aload_n 1, 1) := by decide +kernel
theorem dL_law_434 : decode cL_law 434 = .ok (.invokevirtual 175, 3) := by decide +kernel
theorem dL_law_437 : decode cL_law 437 = .ok (.aload_n 2, 1) := by decide +kernel
theorem dL_law_438 : decode cL_law 438 = .ok (.invokevirtual 178, 3) := by decide +kernel
theorem dL_law_441 : decode cL_law 441 = .ok (.if_icmp .eq 2997, 3) := by decide +kernel
theorem dL_law_444 : decode cL_law 444 = .ok (.iconst 0, 1) := by decide +kernel
theorem dL_law_445 : decode cL_law 445 = .ok (.ireturn, 1) := by decide +kernel
theorem dL_law_446 : decode cL_law 446 = .ok (.aload_n 1, 1) := by decide +kernel
theorem dL_law_447 : decode cL_law 447 = .ok (.aload_n 0, 1) := by decide +kernel
theorem dL_law_448 : decode cL_law 448 = .ok (.iload 5, 2) := by decide +kernel
theorem dL_law_450 : decode cL_law 450 = .ok (.iconst 1, 1) := by decide +kernel
theorem dL_law_451 : decode cL_law 451 = .ok (.iadd, 1) := by decide +kernel
theorem dL_law_452 : decode cL_law 452 = .ok (.iaload, 1) := by decide +kernel
theorem dL_law_453 : decode cL_law 453 = .ok (.aload_n 3, 1) := by decide +kernel
theorem dL_law_454 : decode cL_law 454 = .ok (.invokestatic 179, 3) := by decide +kernel
theorem dL_law_457 : decode cL_law 457 = .ok (.istore 6, 2) := by decide +kernel
theorem dL_law_459 : decode cL_law 459 = .ok (.aload_n 2, 1) := by decide +kernel
theorem dL_law_460 : decode cL_law 460 = .ok (.aload_n 0, 1) := by decide +kernel
theorem dL_law_461 : decode cL_law 461 = .ok (.iload 5, 2) := by decide +kernel
theorem dL_law_463 : decode cL_law 463 = .ok (.iconst 1, 1) := by decide +kernel
theorem dL_law_464 : decode cL_law 464 = .ok (.iadd, 1) := by decide +kernel
theorem dL_law_465 : decode cL_law 465 = .ok (.iaload, 1) := by decide +kernel
theorem dL_law_466 : decode cL_law 466 = .ok (.invokevirtual 181, 3) := by decide +kernel
theorem dL_law_469 : decode cL_law 469 = .ok (.istore 7, 2) := by decide +kernel
theorem dL_law_471 : decode cL_law 471 = .ok (.aload_n 2, 1) := by decide +kernel
theorem dL_law_472 : decode cL_law 472 = .ok (.invokevirtual 172, 3) := by decide +kernel
theorem dL_law_475 : decode cL_law 475 = .ok (.iload 6, 2) := by decide +kernel
theorem dL_law_477 : decode cL_law 477 = .ok (.if_icmp .eq 5, 3) := by decide +kernel
theorem dL_law_480 : decode cL_law 480 = .ok (.iconst 0, 1) := by decide +kernel
theorem dL_law_481 : decode cL_law 481 = .ok (.ireturn, 1) := by decide +kernel
theorem dL_law_482 : decode cL_law 482 = .ok (.iload 6, 2) := by decide +kernel
theorem dL_law_484 : decode cL_law 484 = .ok (.ifCond .ne 15, 3) := by decide +kernel
theorem dL_law_487 : decode cL_law 487 = .ok (.aload_n 3, 1) := by decide +kernel
theorem dL_law_488 : decode cL_law 488 = .ok (.iconst 0, 1) := by decide +kernel
theorem dL_law_489 : decode cL_law 489 = .ok (.laload, 1) := by decide +kernel
theorem dL_law_490 : decode cL_law 490 = .ok (.iload 7, 2) := by decide +kernel
theorem dL_law_492 : decode cL_law 492 = .ok (.i2l, 1) := by decide +kernel
theorem dL_law_493 : decode cL_law 493 = .ok (.lcmp, 1) := by decide +kernel
theorem dL_law_494 : decode cL_law 494 = .ok (.ifCond .eq 5, 3) := by decide +kernel
theorem dL_law_497 : decode cL_law 497 = .ok (.iconst 0, 1) := by decide +kernel
theorem dL_law_498 : decode cL_law 498 = .ok (.ireturn, 1) := by decide +kernel
theorem dL_law_499 : decode cL_law 499 = .ok (.goto 2939, 3) := by decide +kernel
theorem dL_law_502 : decode cL_law 502 = .ok (.aload_n 1, 1) := by decide +kernel
theorem dL_law_503 : decode cL_law 503 = .ok (.aload_n 0, 1) := by decide +kernel
theorem dL_law_504 : decode cL_law 504 = .ok (.iload 5, 2) := by decide +kernel
theorem dL_law_506 : decode cL_law 506 = .ok (.iconst 1, 1) := by decide +kernel
theorem dL_law_507 : decode cL_law 507 = .ok (.iadd, 1) := by decide +kernel
theorem dL_law_508 : decode cL_law 508 = .ok (.iaload, 1) := by decide +kernel
theorem dL_law_509 : decode cL_law 509 = .ok (.aload_n 3, 1) := by decide +kernel
theorem dL_law_510 : decode cL_law 510 = .ok (.invokestatic 182, 3) := by decide +kernel
theorem dL_law_513 : decode cL_law 513 = .ok (.istore 6, 2) := by decide +kernel
theorem dL_law_515 : decode cL_law 515 = .ok (.aload_n 2, 1) := by decide +kernel
theorem dL_law_516 : decode cL_law 516 = .ok (.aload_n 0, 1) := by decide +kernel
theorem dL_law_517 : decode cL_law 517 = .ok (.iload 5, 2) := by decide +kernel
theorem dL_law_519 : decode cL_law 519 = .ok (.iconst 1, 1) := by decide +kernel
theorem dL_law_520 : decode cL_law 520 = .ok (.iadd, 1) := by decide +kernel
theorem dL_law_521 : decode cL_law 521 = .ok (.iaload, 1) := by decide +kernel
theorem dL_law_522 : decode cL_law 522 = .ok (.invokevirtual 184, 3) := by decide +kernel
theorem dL_law_525 : decode cL_law 525 = .ok (.istore 7, 2) := by decide +kernel
theorem dL_law_527 : decode cL_law 527 = .ok (.aload_n 2, 1) := by decide +kernel
theorem dL_law_528 : decode cL_law 528 = .ok (.invokevirtual 172, 3) := by decide +kernel
theorem dL_law_531 : decode cL_law 531 = .ok (.iload 6, 2) := by decide +kernel
theorem dL_law_533 : decode cL_law 533 = .ok (.if_icmp .eq 5, 3) := by decide +kernel
theorem dL_law_536 : decode cL_law 536 = .ok (.iconst 0, 1) := by decide +kernel
theorem dL_law_537 : decode cL_law 537 = .ok (.ireturn, 1) := by decide +kernel
theorem dL_law_538 : decode cL_law 538 = .ok (.iload 6, 2) := by decide +kernel
theorem dL_law_540 : decode cL_law 540 = .ok (.ifCond .ne 15, 3) := by decide +kernel
theorem dL_law_543 : decode cL_law 543 = .ok (.aload_n 3, 1) := by decide +kernel
theorem dL_law_544 : decode cL_law 544 = .ok (.iconst 0, 1) := by decide +kernel
theorem dL_law_545 : decode cL_law 545 = .ok (.laload, 1) := by decide +kernel
theorem dL_law_546 : decode cL_law 546 = .ok (.iload 7, 2) := by decide +kernel
theorem dL_law_548 : decode cL_law 548 = .ok (.i2l, 1) := by decide +kernel
theorem dL_law_549 : decode cL_law 549 = .ok (.lcmp, 1) := by decide +kernel
theorem dL_law_550 : decode cL_law 550 = .ok (.ifCond .eq 5, 3) := by decide +kernel
theorem dL_law_553 : decode cL_law 553 = .ok (.iconst 0, 1) := by decide +kernel
theorem dL_law_554 : decode cL_law 554 = .ok (.ireturn, 1) := by decide +kernel
theorem dL_law_555 : decode cL_law 555 = .ok (.goto 2883, 3) := by decide +kernel
theorem dL_law_558 : decode cL_law 558 = .ok (.aload_n 1, 1) := by decide +kernel
theorem dL_law_559 : decode cL_law 559 = .ok (.aload_n 0, 1) := by decide +kernel
theorem dL_law_560 : decode cL_law 560 = .ok (.iload 5, 2) := by decide +kernel
theorem dL_law_562 : decode cL_law 562 = .ok (.iconst 1, 1) := by decide +kernel
theorem dL_law_563 : decode cL_law 563 = .ok (.iadd, 1) := by decide +kernel
theorem dL_law_564 : decode cL_law 564 = .ok (.iaload, 1) := by decide +kernel
theorem dL_law_565 : decode cL_law 565 = .ok (.aload_n 3, 1) := by decide +kernel
theorem dL_law_566 : decode cL_law 566 = .ok (.invokestatic 185, 3) := by decide +kernel
theorem dL_law_569 : decode cL_law 569 = .ok (.istore 6, 2) := by decide +kernel
theorem dL_law_571 : decode cL_law 571 = .ok (.aload_n 2, 1) := by decide +kernel
theorem dL_law_572 : decode cL_law 572 = .ok (.aload_n 0, 1) := by decide +kernel
theorem dL_law_573 : decode cL_law 573 = .ok (.iload 5, 2) := by decide +kernel
theorem dL_law_575 : decode cL_law 575 = .ok (.iconst 1, 1) := by decide +kernel
theorem dL_law_576 : decode cL_law 576 = .ok (.iadd, 1) := by decide +kernel
theorem dL_law_577 : decode cL_law 577 = .ok (.iaload, 1) := by decide +kernel
theorem dL_law_578 : decode cL_law 578 = .ok (.invokevirtual 187, 3) := by decide +kernel
theorem dL_law_581 : decode cL_law 581 = .ok (.istore 7, 2) := by decide +kernel
theorem dL_law_583 : decode cL_law 583 = .ok (.aload_n 2, 1) := by decide +kernel
theorem dL_law_584 : decode cL_law 584 = .ok (.invokevirtual 172, 3) := by decide +kernel
theorem dL_law_587 : decode cL_law 587 = .ok (.iload 6, 2) := by decide +kernel
theorem dL_law_589 : decode cL_law 589 = .ok (.if_icmp .eq 5, 3) := by decide +kernel
theorem dL_law_592 : decode cL_law 592 = .ok (.iconst 0, 1) := by decide +kernel
theorem dL_law_593 : decode cL_law 593 = .ok (.ireturn, 1) := by decide +kernel
theorem dL_law_594 : decode cL_law 594 = .ok (.iload 6, 2) := by decide +kernel
theorem dL_law_596 : decode cL_law 596 = .ok (.ifCond .ne 15, 3) := by decide +kernel
theorem dL_law_599 : decode cL_law 599 = .ok (.aload_n 3, 1) := by decide +kernel
theorem dL_law_600 : decode cL_law 600 = .ok (.iconst 0, 1) := by decide +kernel
theorem dL_law_601 : decode cL_law 601 = .ok (.laload, 1) := by decide +kernel
theorem dL_law_602 : decode cL_law 602 = .ok (.iload 7, 2) := by decide +kernel
theorem dL_law_604 : decode cL_law 604 = .ok (.i2l, 1) := by decide +kernel
theorem dL_law_605 : decode cL_law 605 = .ok (.lcmp, 1) := by decide +kernel
theorem dL_law_606 : decode cL_law 606 = .ok (.ifCond .eq 5, 3) := by decide +kernel
theorem dL_law_609 : decode cL_law 609 = .ok (.iconst 0, 1) := by decide +kernel
theorem dL_law_610 : decode cL_law 610 = .ok (.ireturn, 1) := by decide +kernel
theorem dL_law_611 : decode cL_law 611 = .ok (.goto 2827, 3) := by decide +kernel
theorem dL_law_614 : decode cL_law 614 = .ok (.aload_n 1, 1) := by decide +kernel
theorem dL_law_615 : decode cL_law 615 = .ok (.aload_n 0, 1) := by decide +kernel
theorem dL_law_616 : decode cL_law 616 = .ok (.iload 5, 2) := by decide +kernel
theorem dL_law_618 : decode cL_law 618 = .ok (.iconst 1, 1) := by decide +kernel
theorem dL_law_619 : decode cL_law 619 = .ok (.iadd, 1) := by decide +kernel
theorem dL_law_620 : decode cL_law 620 = .ok (.iaload, 1) := by decide +kernel
theorem dL_law_621 : decode cL_law 621 = .ok (.aload_n 3, 1) := by decide +kernel
theorem dL_law_622 : decode cL_law 622 = .ok (.invokestatic 188, 3) := by decide +kernel
theorem dL_law_625 : decode cL_law 625 = .ok (.istore 6, 2) := by decide +kernel
theorem dL_law_627 : decode cL_law 627 = .ok (.aload_n 2, 1) := by decide +kernel
theorem dL_law_628 : decode cL_law 628 = .ok (.aload_n 0, 1) := by decide +kernel
theorem dL_law_629 : decode cL_law 629 = .ok (.iload 5, 2) := by decide +kernel
theorem dL_law_631 : decode cL_law 631 = .ok (.iconst 1, 1) := by decide +kernel
theorem dL_law_632 : decode cL_law 632 = .ok (.iadd, 1) := by decide +kernel
theorem dL_law_633 : decode cL_law 633 = .ok (.iaload, 1) := by decide +kernel
theorem dL_law_634 : decode cL_law 634 = .ok (.invokevirtual 190, 3) := by decide +kernel
theorem dL_law_637 : decode cL_law 637 = .ok (.istore 7, 2) := by decide +kernel
theorem dL_law_639 : decode cL_law 639 = .ok (.aload_n 2, 1) := by decide +kernel
theorem dL_law_640 : decode cL_law 640 = .ok (.invokevirtual 172, 3) := by decide +kernel
theorem dL_law_643 : decode cL_law 643 = .ok (.iload 6, 2) := by decide +kernel
theorem dL_law_645 : decode cL_law 645 = .ok (.if_icmp .eq 5, 3) := by decide +kernel
theorem dL_law_648 : decode cL_law 648 = .ok (.iconst 0, 1) := by decide +kernel
theorem dL_law_649 : decode cL_law 649 = .ok (.ireturn, 1) := by decide +kernel
theorem dL_law_650 : decode cL_law 650 = .ok (.iload 6, 2) := by decide +kernel
theorem dL_law_652 : decode cL_law 652 = .ok (.ifCond .ne 15, 3) := by decide +kernel
theorem dL_law_655 : decode cL_law 655 = .ok (.aload_n 3, 1) := by decide +kernel
theorem dL_law_656 : decode cL_law 656 = .ok (.iconst 0, 1) := by decide +kernel
theorem dL_law_657 : decode cL_law 657 = .ok (.laload, 1) := by decide +kernel
theorem dL_law_658 : decode cL_law 658 = .ok (.iload 7, 2) := by decide +kernel
theorem dL_law_660 : decode cL_law 660 = .ok (.i2l, 1) := by decide +kernel
theorem dL_law_661 : decode cL_law 661 = .ok (.lcmp, 1) := by decide +kernel
theorem dL_law_662 : decode cL_law 662 = .ok (.ifCond .eq 5, 3) := by decide +kernel
theorem dL_law_665 : decode cL_law 665 = .ok (.iconst 0, 1) := by decide +kernel
theorem dL_law_666 : decode cL_law 666 = .ok (.ireturn, 1) := by decide +kernel
theorem dL_law_667 : decode cL_law 667 = .ok (.goto 2771, 3) := by decide +kernel
theorem dL_law_670 : decode cL_law 670 = .ok (.aload_n 1, 1) := by decide +kernel
theorem dL_law_671 : decode cL_law 671 = .ok (.aload_n 0, 1) := by decide +kernel
theorem dL_law_672 : decode cL_law 672 = .ok (.iload 5, 2) := by decide +kernel
theorem dL_law_674 : decode cL_law 674 = .ok (.iconst 1, 1) := by decide +kernel
theorem dL_law_675 : decode cL_law 675 = .ok (.iadd, 1) := by decide +kernel
theorem dL_law_676 : decode cL_law 676 = .ok (.iaload, 1) := by decide +kernel
theorem dL_law_677 : decode cL_law 677 = .ok (.aload_n 0, 1) := by decide +kernel
theorem dL_law_678 : decode cL_law 678 = .ok (.iload 5, 2) := by decide +kernel
theorem dL_law_680 : decode cL_law 680 = .ok (.iconst 2, 1) := by decide +kernel
theorem dL_law_681 : decode cL_law 681 = .ok (.iadd, 1) := by decide +kernel
theorem dL_law_682 : decode cL_law 682 = .ok (.iaload, 1) := by decide +kernel
theorem dL_law_683 : decode cL_law 683 = .ok (.aload_n 3, 1) := by decide +kernel
theorem dL_law_684 : decode cL_law 684 = .ok (.invokestatic 191, 3) := by decide +kernel
theorem dL_law_687 : decode cL_law 687 = .ok (.istore 6, 2) := by decide +kernel
theorem dL_law_689 : decode cL_law 689 = .ok (.aload_n 2, 1) := by decide +kernel
theorem dL_law_690 : decode cL_law 690 = .ok (.aload_n 0, 1) := by decide +kernel
theorem dL_law_691 : decode cL_law 691 = .ok (.iload 5, 2) := by decide +kernel
theorem dL_law_693 : decode cL_law 693 = .ok (.iconst 1, 1) := by decide +kernel
theorem dL_law_694 : decode cL_law 694 = .ok (.iadd, 1) := by decide +kernel
theorem dL_law_695 : decode cL_law 695 = .ok (.iaload, 1) := by decide +kernel
theorem dL_law_696 : decode cL_law 696 = .ok (.aload_n 0, 1) := by decide +kernel
theorem dL_law_697 : decode cL_law 697 = .ok (.iload 5, 2) := by decide +kernel
theorem dL_law_699 : decode cL_law 699 = .ok (.iconst 2, 1) := by decide +kernel
theorem dL_law_700 : decode cL_law 700 = .ok (.iadd, 1) := by decide +kernel
theorem dL_law_701 : decode cL_law 701 = .ok (.iaload, 1) := by decide +kernel
theorem dL_law_702 : decode cL_law 702 = .ok (.invokevirtual 194, 3) := by decide +kernel
theorem dL_law_705 : decode cL_law 705 = .ok (.istore 7, 2) := by decide +kernel
theorem dL_law_707 : decode cL_law 707 = .ok (.aload_n 2, 1) := by decide +kernel
theorem dL_law_708 : decode cL_law 708 = .ok (.invokevirtual 172, 3) := by decide +kernel
theorem dL_law_711 : decode cL_law 711 = .ok (.iload 6, 2) := by decide +kernel
theorem dL_law_713 : decode cL_law 713 = .ok (.if_icmp .eq 5, 3) := by decide +kernel
theorem dL_law_716 : decode cL_law 716 = .ok (.iconst 0, 1) := by decide +kernel
theorem dL_law_717 : decode cL_law 717 = .ok (.ireturn, 1) := by decide +kernel
theorem dL_law_718 : decode cL_law 718 = .ok (.iload 6, 2) := by decide +kernel
theorem dL_law_720 : decode cL_law 720 = .ok (.ifCond .ne 15, 3) := by decide +kernel
theorem dL_law_723 : decode cL_law 723 = .ok (.aload_n 3, 1) := by decide +kernel
theorem dL_law_724 : decode cL_law 724 = .ok (.iconst 0, 1) := by decide +kernel
theorem dL_law_725 : decode cL_law 725 = .ok (.laload, 1) := by decide +kernel
theorem dL_law_726 : decode cL_law 726 = .ok (.iload 7, 2) := by decide +kernel
theorem dL_law_728 : decode cL_law 728 = .ok (.i2l, 1) := by decide +kernel
theorem dL_law_729 : decode cL_law 729 = .ok (.lcmp, 1) := by decide +kernel
theorem dL_law_730 : decode cL_law 730 = .ok (.ifCond .eq 5, 3) := by decide +kernel
theorem dL_law_733 : decode cL_law 733 = .ok (.iconst 0, 1) := by decide +kernel
theorem dL_law_734 : decode cL_law 734 = .ok (.ireturn, 1) := by decide +kernel
theorem dL_law_735 : decode cL_law 735 = .ok (.goto 2703, 3) := by decide +kernel
theorem dL_law_738 : decode cL_law 738 = .ok (.aload_n 1, 1) := by decide +kernel
theorem dL_law_739 : decode cL_law 739 = .ok (.aload_n 0, 1) := by decide +kernel
theorem dL_law_740 : decode cL_law 740 = .ok (.iload 5, 2) := by decide +kernel
theorem dL_law_742 : decode cL_law 742 = .ok (.iconst 1, 1) := by decide +kernel
theorem dL_law_743 : decode cL_law 743 = .ok (.iadd, 1) := by decide +kernel
theorem dL_law_744 : decode cL_law 744 = .ok (.iaload, 1) := by decide +kernel
theorem dL_law_745 : decode cL_law 745 = .ok (.aload_n 3, 1) := by decide +kernel
theorem dL_law_746 : decode cL_law 746 = .ok (.invokestatic 195, 3) := by decide +kernel
theorem dL_law_749 : decode cL_law 749 = .ok (.istore 6, 2) := by decide +kernel
theorem dL_law_751 : decode cL_law 751 = .ok (.aload_n 2, 1) := by decide +kernel
theorem dL_law_752 : decode cL_law 752 = .ok (.aload_n 0, 1) := by decide +kernel
theorem dL_law_753 : decode cL_law 753 = .ok (.iload 5, 2) := by decide +kernel
theorem dL_law_755 : decode cL_law 755 = .ok (.iconst 1, 1) := by decide +kernel
theorem dL_law_756 : decode cL_law 756 = .ok (.iadd, 1) := by decide +kernel
theorem dL_law_757 : decode cL_law 757 = .ok (.iaload, 1) := by decide +kernel
theorem dL_law_758 : decode cL_law 758 = .ok (.invokevirtual 197, 3) := by decide +kernel
theorem dL_law_761 : decode cL_law 761 = .ok (.istore 7, 2) := by decide +kernel
theorem dL_law_763 : decode cL_law 763 = .ok (.aload_n 2, 1) := by decide +kernel
theorem dL_law_764 : decode cL_law 764 = .ok (.invokevirtual 172, 3) := by decide +kernel
theorem dL_law_767 : decode cL_law 767 = .ok (.iload 6, 2) := by decide +kernel
theorem dL_law_769 : decode cL_law 769 = .ok (.if_icmp .eq 5, 3) := by decide +kernel
theorem dL_law_772 : decode cL_law 772 = .ok (.iconst 0, 1) := by decide +kernel
theorem dL_law_773 : decode cL_law 773 = .ok (.ireturn, 1) := by decide +kernel
theorem dL_law_774 : decode cL_law 774 = .ok (.iload 6, 2) := by decide +kernel
theorem dL_law_776 : decode cL_law 776 = .ok (.ifCond .ne 15, 3) := by decide +kernel
theorem dL_law_779 : decode cL_law 779 = .ok (.aload_n 3, 1) := by decide +kernel
theorem dL_law_780 : decode cL_law 780 = .ok (.iconst 0, 1) := by decide +kernel
theorem dL_law_781 : decode cL_law 781 = .ok (.laload, 1) := by decide +kernel
theorem dL_law_782 : decode cL_law 782 = .ok (.iload 7, 2) := by decide +kernel
theorem dL_law_784 : decode cL_law 784 = .ok (.i2l, 1) := by decide +kernel
theorem dL_law_785 : decode cL_law 785 = .ok (.lcmp, 1) := by decide +kernel
theorem dL_law_786 : decode cL_law 786 = .ok (.ifCond .eq 5, 3) := by decide +kernel
theorem dL_law_789 : decode cL_law 789 = .ok (.iconst 0, 1) := by decide +kernel
theorem dL_law_790 : decode cL_law 790 = .ok (.ireturn, 1) := by decide +kernel
theorem dL_law_791 : decode cL_law 791 = .ok (.goto 2647, 3) := by decide +kernel
theorem dL_law_794 : decode cL_law 794 = .ok (.aload_n 1, 1) := by decide +kernel
theorem dL_law_795 : decode cL_law 795 = .ok (.aload_n 0, 1) := by decide +kernel
theorem dL_law_796 : decode cL_law 796 = .ok (.iload 5, 2) := by decide +kernel
theorem dL_law_798 : decode cL_law 798 = .ok (.iconst 1, 1) := by decide +kernel
theorem dL_law_799 : decode cL_law 799 = .ok (.iadd, 1) := by decide +kernel
theorem dL_law_800 : decode cL_law 800 = .ok (.iaload, 1) := by decide +kernel
theorem dL_law_801 : decode cL_law 801 = .ok (.aload_n 3, 1) := by decide +kernel
theorem dL_law_802 : decode cL_law 802 = .ok (.invokestatic 198, 3) := by decide +kernel
theorem dL_law_805 : decode cL_law 805 = .ok (.istore 6, 2) := by decide +kernel
theorem dL_law_807 : decode cL_law 807 = .ok (.aload_n 2, 1) := by decide +kernel
theorem dL_law_808 : decode cL_law 808 = .ok (.aload_n 0, 1) := by decide +kernel
theorem dL_law_809 : decode cL_law 809 = .ok (.iload 5, 2) := by decide +kernel
theorem dL_law_811 : decode cL_law 811 = .ok (.iconst 1, 1) := by decide +kernel
theorem dL_law_812 : decode cL_law 812 = .ok (.iadd, 1) := by decide +kernel
theorem dL_law_813 : decode cL_law 813 = .ok (.iaload, 1) := by decide +kernel
theorem dL_law_814 : decode cL_law 814 = .ok (.invokevirtual 200, 3) := by decide +kernel
theorem dL_law_817 : decode cL_law 817 = .ok (.istore 7, 2) := by decide +kernel
theorem dL_law_819 : decode cL_law 819 = .ok (.aload_n 2, 1) := by decide +kernel
theorem dL_law_820 : decode cL_law 820 = .ok (.invokevirtual 172, 3) := by decide +kernel
theorem dL_law_823 : decode cL_law 823 = .ok (.iload 6, 2) := by decide +kernel
theorem dL_law_825 : decode cL_law 825 = .ok (.if_icmp .eq 5, 3) := by decide +kernel
theorem dL_law_828 : decode cL_law 828 = .ok (.iconst 0, 1) := by decide +kernel
theorem dL_law_829 : decode cL_law 829 = .ok (.ireturn, 1) := by decide +kernel
theorem dL_law_830 : decode cL_law 830 = .ok (.iload 6, 2) := by decide +kernel
theorem dL_law_832 : decode cL_law 832 = .ok (.ifCond .ne 15, 3) := by decide +kernel
theorem dL_law_835 : decode cL_law 835 = .ok (.aload_n 3, 1) := by decide +kernel
theorem dL_law_836 : decode cL_law 836 = .ok (.iconst 0, 1) := by decide +kernel
theorem dL_law_837 : decode cL_law 837 = .ok (.laload, 1) := by decide +kernel
theorem dL_law_838 : decode cL_law 838 = .ok (.iload 7, 2) := by decide +kernel
theorem dL_law_840 : decode cL_law 840 = .ok (.i2l, 1) := by decide +kernel
theorem dL_law_841 : decode cL_law 841 = .ok (.lcmp, 1) := by decide +kernel
theorem dL_law_842 : decode cL_law 842 = .ok (.ifCond .eq 5, 3) := by decide +kernel
theorem dL_law_845 : decode cL_law 845 = .ok (.iconst 0, 1) := by decide +kernel
theorem dL_law_846 : decode cL_law 846 = .ok (.ireturn, 1) := by decide +kernel
theorem dL_law_847 : decode cL_law 847 = .ok (.goto 2591, 3) := by decide +kernel
theorem dL_law_850 : decode cL_law 850 = .ok (.aload_n 1, 1) := by decide +kernel
theorem dL_law_851 : decode cL_law 851 = .ok (.aload_n 0, 1) := by decide +kernel
theorem dL_law_852 : decode cL_law 852 = .ok (.iload 5, 2) := by decide +kernel
theorem dL_law_854 : decode cL_law 854 = .ok (.iconst 1, 1) := by decide +kernel
theorem dL_law_855 : decode cL_law 855 = .ok (.iadd, 1) := by decide +kernel
theorem dL_law_856 : decode cL_law 856 = .ok (.iaload, 1) := by decide +kernel
theorem dL_law_857 : decode cL_law 857 = .ok (.aload_n 0, 1) := by decide +kernel
theorem dL_law_858 : decode cL_law 858 = .ok (.iload 5, 2) := by decide +kernel
theorem dL_law_860 : decode cL_law 860 = .ok (.iconst 2, 1) := by decide +kernel
theorem dL_law_861 : decode cL_law 861 = .ok (.iadd, 1) := by decide +kernel
theorem dL_law_862 : decode cL_law 862 = .ok (.iaload, 1) := by decide +kernel
theorem dL_law_863 : decode cL_law 863 = .ok (.ifCond .eq 7, 3) := by decide +kernel
theorem dL_law_866 : decode cL_law 866 = .ok (.iconst 1, 1) := by decide +kernel
theorem dL_law_867 : decode cL_law 867 = .ok (.goto 4, 3) := by decide +kernel
theorem dL_law_870 : decode cL_law 870 = .ok (.iconst 0, 1) := by decide +kernel
theorem dL_law_871 : decode cL_law 871 = .ok (.aload_n 0, 1) := by decide +kernel
theorem dL_law_872 : decode cL_law 872 = .ok (.iload 5, 2) := by decide +kernel
theorem dL_law_874 : decode cL_law 874 = .ok (.iconst 3, 1) := by decide +kernel
theorem dL_law_875 : decode cL_law 875 = .ok (.iadd, 1) := by decide +kernel
theorem dL_law_876 : decode cL_law 876 = .ok (.iaload, 1) := by decide +kernel
theorem dL_law_877 : decode cL_law 877 = .ok (.ifCond .eq 7, 3) := by decide +kernel
theorem dL_law_880 : decode cL_law 880 = .ok (.iconst 1, 1) := by decide +kernel
theorem dL_law_881 : decode cL_law 881 = .ok (.goto 4, 3) := by decide +kernel
theorem dL_law_884 : decode cL_law 884 = .ok (.iconst 0, 1) := by decide +kernel
theorem dL_law_885 : decode cL_law 885 = .ok (.aload_n 3, 1) := by decide +kernel
theorem dL_law_886 : decode cL_law 886 = .ok (.invokestatic 201, 3) := by decide +kernel
theorem dL_law_889 : decode cL_law 889 = .ok (.istore 6, 2) := by decide +kernel
theorem dL_law_891 : decode cL_law 891 = .ok (.aload_n 2, 1) := by decide +kernel
theorem dL_law_892 : decode cL_law 892 = .ok (.aload_n 0, 1) := by decide +kernel
theorem dL_law_893 : decode cL_law 893 = .ok (.iload 5, 2) := by decide +kernel
theorem dL_law_895 : decode cL_law 895 = .ok (.iconst 1, 1) := by decide +kernel
theorem dL_law_896 : decode cL_law 896 = .ok (.iadd, 1) := by decide +kernel
theorem dL_law_897 : decode cL_law 897 = .ok (.iaload, 1) := by decide +kernel
theorem dL_law_898 : decode cL_law 898 = .ok (.aload_n 0, 1) := by decide +kernel
theorem dL_law_899 : decode cL_law 899 = .ok (.iload 5, 2) := by decide +kernel
theorem dL_law_901 : decode cL_law 901 = .ok (.iconst 2, 1) := by decide +kernel
theorem dL_law_902 : decode cL_law 902 = .ok (.iadd, 1) := by decide +kernel
theorem dL_law_903 : decode cL_law 903 = .ok (.iaload, 1) := by decide +kernel
theorem dL_law_904 : decode cL_law 904 = .ok (.ifCond .eq 7, 3) := by decide +kernel
theorem dL_law_907 : decode cL_law 907 = .ok (.iconst 1, 1) := by decide +kernel
theorem dL_law_908 : decode cL_law 908 = .ok (.goto 4, 3) := by decide +kernel
theorem dL_law_911 : decode cL_law 911 = .ok (.iconst 0, 1) := by decide +kernel
theorem dL_law_912 : decode cL_law 912 = .ok (.aload_n 0, 1) := by decide +kernel
theorem dL_law_913 : decode cL_law 913 = .ok (.iload 5, 2) := by decide +kernel
theorem dL_law_915 : decode cL_law 915 = .ok (.iconst 3, 1) := by decide +kernel
theorem dL_law_916 : decode cL_law 916 = .ok (.iadd, 1) := by decide +kernel
theorem dL_law_917 : decode cL_law 917 = .ok (.iaload, 1) := by decide +kernel
theorem dL_law_918 : decode cL_law 918 = .ok (.ifCond .eq 7, 3) := by decide +kernel
theorem dL_law_921 : decode cL_law 921 = .ok (.iconst 1, 1) := by decide +kernel
theorem dL_law_922 : decode cL_law 922 = .ok (.goto 4, 3) := by decide +kernel
theorem dL_law_925 : decode cL_law 925 = .ok (.iconst 0, 1) := by decide +kernel
theorem dL_law_926 : decode cL_law 926 = .ok (.invokevirtual 204, 3) := by decide +kernel
theorem dL_law_929 : decode cL_law 929 = .ok (.istore 7, 2) := by decide +kernel
theorem dL_law_931 : decode cL_law 931 = .ok (.aload_n 2, 1) := by decide +kernel
theorem dL_law_932 : decode cL_law 932 = .ok (.invokevirtual 172, 3) := by decide +kernel
theorem dL_law_935 : decode cL_law 935 = .ok (.iload 6, 2) := by decide +kernel
theorem dL_law_937 : decode cL_law 937 = .ok (.if_icmp .eq 5, 3) := by decide +kernel
theorem dL_law_940 : decode cL_law 940 = .ok (.iconst 0, 1) := by decide +kernel
theorem dL_law_941 : decode cL_law 941 = .ok (.ireturn, 1) := by decide +kernel
theorem dL_law_942 : decode cL_law 942 = .ok (.iload 6, 2) := by decide +kernel
theorem dL_law_944 : decode cL_law 944 = .ok (.ifCond .ne 22, 3) := by decide +kernel
theorem dL_law_947 : decode cL_law 947 = .ok (.aload_n 3, 1) := by decide +kernel
theorem dL_law_948 : decode cL_law 948 = .ok (.iconst 0, 1) := by decide +kernel
theorem dL_law_949 : decode cL_law 949 = .ok (.laload, 1) := by decide +kernel
theorem dL_law_950 : decode cL_law 950 = .ok (.iload 7, 2) := by decide +kernel
theorem dL_law_952 : decode cL_law 952 = .ok (.ifCond .eq 7, 3) := by decide +kernel
theorem dL_law_955 : decode cL_law 955 = .ok (.lconst 1, 1) := by decide +kernel
theorem dL_law_956 : decode cL_law 956 = .ok (.goto 4, 3) := by decide +kernel
theorem dL_law_959 : decode cL_law 959 = .ok (.lconst 0, 1) := by decide +kernel
theorem dL_law_960 : decode cL_law 960 = .ok (.lcmp, 1) := by decide +kernel
theorem dL_law_961 : decode cL_law 961 = .ok (.ifCond .eq 5, 3) := by decide +kernel
theorem dL_law_964 : decode cL_law 964 = .ok (.iconst 0, 1) := by decide +kernel
theorem dL_law_965 : decode cL_law 965 = .ok (.ireturn, 1) := by decide +kernel
theorem dL_law_966 : decode cL_law 966 = .ok (.goto 2472, 3) := by decide +kernel
theorem dL_law_969 : decode cL_law 969 = .ok (.aload_n 1, 1) := by decide +kernel
theorem dL_law_970 : decode cL_law 970 = .ok (.aload_n 0, 1) := by decide +kernel
theorem dL_law_971 : decode cL_law 971 = .ok (.iload 5, 2) := by decide +kernel
theorem dL_law_973 : decode cL_law 973 = .ok (.iconst 1, 1) := by decide +kernel
theorem dL_law_974 : decode cL_law 974 = .ok (.iadd, 1) := by decide +kernel
theorem dL_law_975 : decode cL_law 975 = .ok (.iaload, 1) := by decide +kernel
theorem dL_law_976 : decode cL_law 976 = .ok (.ifCond .eq 7, 3) := by decide +kernel
theorem dL_law_979 : decode cL_law 979 = .ok (.iconst 1, 1) := by decide +kernel
theorem dL_law_980 : decode cL_law 980 = .ok (.goto 4, 3) := by decide +kernel
theorem dL_law_983 : decode cL_law 983 = .ok (.iconst 0, 1) := by decide +kernel
theorem dL_law_984 : decode cL_law 984 = .ok (.invokevirtual 205, 3) := by decide +kernel
theorem dL_law_987 : decode cL_law 987 = .ok (.aload_n 2, 1) := by decide +kernel
theorem dL_law_988 : decode cL_law 988 = .ok (.aload_n 0, 1) := by decide +kernel
theorem dL_law_989 : decode cL_law 989 = .ok (.iload 5, 2) := by decide +kernel
theorem dL_law_991 : decode cL_law 991 = .ok (.iconst 1, 1) := by decide +kernel
theorem dL_law_992 : decode cL_law 992 = .ok (.iadd, 1) := by decide +kernel
theorem dL_law_993 : decode cL_law 993 = .ok (.iaload, 1) := by decide +kernel
theorem dL_law_994 : decode cL_law 994 = .ok (.ifCond .eq 7, 3) := by decide +kernel
theorem dL_law_997 : decode cL_law 997 = .ok (.iconst 1, 1) := by decide +kernel
theorem dL_law_998 : decode cL_law 998 = .ok (.goto 4, 3) := by decide +kernel
theorem dL_law_1001 : decode cL_law 1001 = .ok (.iconst 0, 1) := by decide +kernel
theorem dL_law_1002 : decode cL_law 1002 = .ok (.invokevirtual 209, 3) := by decide +kernel
theorem dL_law_1005 : decode cL_law 1005 = .ok (.if_icmp .eq 2433, 3) := by decide +kernel
theorem dL_law_1008 : decode cL_law 1008 = .ok (.iconst 0, 1) := by decide +kernel
theorem dL_law_1009 : decode cL_law 1009 = .ok (.ireturn, 1) := by decide +kernel
theorem dL_law_1010 : decode cL_law 1010 = .ok (.aload_n 1, 1) := by decide +kernel
theorem dL_law_1011 : decode cL_law 1011 = .ok (.invokevirtual 210, 3) := by decide +kernel
theorem dL_law_1014 : decode cL_law 1014 = .ok (.aload_n 2, 1) := by decide +kernel
theorem dL_law_1015 : decode cL_law 1015 = .ok (.invokevirtual 213, 3) := by decide +kernel
theorem dL_law_1018 : decode cL_law 1018 = .ok (.if_icmp .eq 2420, 3) := by decide +kernel
theorem dL_law_1021 : decode cL_law 1021 = .ok (.iconst 0, 1) := by decide +kernel
theorem dL_law_1022 : decode cL_law 1022 = .ok (.ireturn, 1) := by decide +kernel
theorem dL_law_1023 : decode cL_law 1023 = .ok (.aload_n 1, 1) := by decide +kernel
theorem dL_law_1024 : decode cL_law 1024 = .ok (.invokevirtual 214, 3) := by decide +kernel
theorem dL_law_1027 : decode cL_law 1027 = .ok (.aload_n 2, 1) := by decide +kernel
theorem dL_law_1028 : decode cL_law 1028 = .ok (.invokevirtual 217, 3) := by decide +kernel
theorem dL_law_1031 : decode cL_law 1031 = .ok (.if_icmp .eq 2407, 3) := by decide +kernel
theorem dL_law_1034 : decode cL_law 1034 = .ok (.iconst 0, 1) := by decide +kernel
theorem dL_law_1035 : decode cL_law 1035 = .ok (.ireturn, 1) := by decide +kernel
theorem dL_law_1036 : decode cL_law 1036 = .ok (.aload_n 1, 1) := by decide +kernel
theorem dL_law_1037 : decode cL_law 1037 = .ok (.invokevirtual 218, 3) := by decide +kernel
theorem dL_law_1040 : decode cL_law 1040 = .ok (.aload_n 2, 1) := by decide +kernel
theorem dL_law_1041 : decode cL_law 1041 = .ok (.invokevirtual 221, 3) := by decide +kernel
theorem dL_law_1044 : decode cL_law 1044 = .ok (.if_icmp .eq 2394, 3) := by decide +kernel
theorem dL_law_1047 : decode cL_law 1047 = .ok (.iconst 0, 1) := by decide +kernel
theorem dL_law_1048 : decode cL_law 1048 = .ok (.ireturn, 1) := by decide +kernel
theorem dL_law_1049 : decode cL_law 1049 = .ok (.aload_n 1, 1) := by decide +kernel
theorem dL_law_1050 : decode cL_law 1050 = .ok (.aload_n 3, 1) := by decide +kernel
theorem dL_law_1051 : decode cL_law 1051 = .ok (.invokestatic 222, 3) := by decide +kernel
theorem dL_law_1054 : decode cL_law 1054 = .ok (.istore 6, 2) := by decide +kernel
theorem dL_law_1056 : decode cL_law 1056 = .ok (.aload_n 2, 1) := by decide +kernel
theorem dL_law_1057 : decode cL_law 1057 = .ok (.invokevirtual 225, 3) := by decide +kernel
theorem dL_law_1060 : decode cL_law 1060 = .ok (.istore 7, 2) := by decide +kernel
theorem dL_law_1062 : decode cL_law 1062 = .ok (.aload_n 2, 1) := by decide +kernel
theorem dL_law_1063 : decode cL_law 1063 = .ok (.invokevirtual 172, 3) := by decide +kernel
theorem dL_law_1066 : decode cL_law 1066 = .ok (.iload 6, 2) := by decide +kernel
theorem dL_law_1068 : decode cL_law 1068 = .ok (.if_icmp .eq 5, 3) := by decide +kernel
theorem dL_law_1071 : decode cL_law 1071 = .ok (.iconst 0, 1) := by decide +kernel
theorem dL_law_1072 : decode cL_law 1072 = .ok (.ireturn, 1) := by decide +kernel
theorem dL_law_1073 : decode cL_law 1073 = .ok (.iload 6, 2) := by decide +kernel
theorem dL_law_1075 : decode cL_law 1075 = .ok (.ifCond .ne 15, 3) := by decide +kernel
theorem dL_law_1078 : decode cL_law 1078 = .ok (.aload_n 3, 1) := by decide +kernel
theorem dL_law_1079 : decode cL_law 1079 = .ok (.iconst 0, 1) := by decide +kernel
theorem dL_law_1080 : decode cL_law 1080 = .ok (.laload, 1) := by decide +kernel
theorem dL_law_1081 : decode cL_law 1081 = .ok (.iload 7, 2) := by decide +kernel
theorem dL_law_1083 : decode cL_law 1083 = .ok (.i2l, 1) := by decide +kernel
theorem dL_law_1084 : decode cL_law 1084 = .ok (.lcmp, 1) := by decide +kernel
theorem dL_law_1085 : decode cL_law 1085 = .ok (.ifCond .eq 5, 3) := by decide +kernel
theorem dL_law_1088 : decode cL_law 1088 = .ok (.iconst 0, 1) := by decide +kernel
theorem dL_law_1089 : decode cL_law 1089 = .ok (.ireturn, 1) := by decide +kernel
theorem dL_law_1090 : decode cL_law 1090 = .ok (.goto 2348, 3) := by decide +kernel
theorem dL_law_1093 : decode cL_law 1093 = .ok (.aload_n 1, 1) := by decide +kernel
theorem dL_law_1094 : decode cL_law 1094 = .ok (.invokevirtual 226, 3) := by decide +kernel
theorem dL_law_1097 : decode cL_law 1097 = .ok (.aload_n 2, 1) := by decide +kernel
theorem dL_law_1098 : decode cL_law 1098 = .ok (.invokevirtual 229, 3) := by decide +kernel
theorem dL_law_1101 : decode cL_law 1101 = .ok (.if_icmp .eq 2337, 3) := by decide +kernel
theorem dL_law_1104 : decode cL_law 1104 = .ok (.iconst 0, 1) := by decide +kernel
theorem dL_law_1105 : decode cL_law 1105 = .ok (.ireturn, 1) := by decide +kernel
theorem dL_law_1106 : decode cL_law 1106 = .ok (.aload_n 1, 1) := by decide +kernel
theorem dL_law_1107 : decode cL_law 1107 = .ok (.invokevirtual 230, 3) := by decide +kernel
theorem dL_law_1110 : decode cL_law 1110 = .ok (.aload_n 2, 1) := by decide +kernel
theorem dL_law_1111 : decode cL_law 1111 = .ok (.invokevirtual 233, 3) := by decide +kernel
theorem dL_law_1114 : decode cL_law 1114 = .ok (.if_icmp .eq 2324, 3) := by decide +kernel
theorem dL_law_1117 : decode cL_law 1117 = .ok (.iconst 0, 1) := by decide +kernel
theorem dL_law_1118 : decode cL_law 1118 = .ok (.ireturn, 1) := by decide +kernel
theorem dL_law_1119 : decode cL_law 1119 = .ok (.aload_n 1, 1) := by decide +kernel
theorem dL_law_1120 : decode cL_law 1120 = .ok (.aload_n 0, 1) := by decide +kernel
theorem dL_law_1121 : decode cL_law 1121 = .ok (.iload 5, 2) := by decide +kernel
theorem dL_law_1123 : decode cL_law 1123 = .ok (.iconst 1, 1) := by decide +kernel
theorem dL_law_1124 : decode cL_law 1124 = .ok (.iadd, 1) := by decide +kernel
theorem dL_law_1125 : decode cL_law 1125 = .ok (.iaload, 1) := by decide +kernel
theorem dL_law_1126 : decode cL_law 1126 = .ok (.aload_n 3, 1) := by decide +kernel
theorem dL_law_1127 : decode cL_law 1127 = .ok (.invokestatic 234, 3) := by decide +kernel
theorem dL_law_1130 : decode cL_law 1130 = .ok (.istore 6, 2) := by decide +kernel
theorem dL_law_1132 : decode cL_law 1132 = .ok (.aload_n 2, 1) := by decide +kernel
theorem dL_law_1133 : decode cL_law 1133 = .ok (.aload_n 0, 1) := by decide +kernel
theorem dL_law_1134 : decode cL_law 1134 = .ok (.iload 5, 2) := by decide +kernel
theorem dL_law_1136 : decode cL_law 1136 = .ok (.iconst 1, 1) := by decide +kernel
theorem dL_law_1137 : decode cL_law 1137 = .ok (.iadd, 1) := by decide +kernel
theorem dL_law_1138 : decode cL_law 1138 = .ok (.iaload, 1) := by decide +kernel
theorem dL_law_1139 : decode cL_law 1139 = .ok (.invokevirtual 236, 3) := by decide +kernel
theorem dL_law_1142 : decode cL_law 1142 = .ok (.istore 7, 2) := by decide +kernel
theorem dL_law_1144 : decode cL_law 1144 = .ok (.aload_n 2, 1) := by decide +kernel
theorem dL_law_1145 : decode cL_law 1145 = .ok (.invokevirtual 172, 3) := by decide +kernel
theorem dL_law_1148 : decode cL_law 1148 = .ok (.iload 6, 2) := by decide +kernel
theorem dL_law_1150 : decode cL_law 1150 = .ok (.if_icmp .eq 5, 3) := by decide +kernel
theorem dL_law_1153 : decode cL_law 1153 = .ok (.iconst 0, 1) := by decide +kernel
theorem dL_law_1154 : decode cL_law 1154 = .ok (.ireturn, 1) := by decide +kernel
theorem dL_law_1155 : decode cL_law 1155 = .ok (.iload 6, 2) := by decide +kernel
theorem dL_law_1157 : decode cL_law 1157 = .ok (.ifCond .ne 15, 3) := by decide +kernel
theorem dL_law_1160 : decode cL_law 1160 = .ok (.aload_n 3, 1) := by decide +kernel
theorem dL_law_1161 : decode cL_law 1161 = .ok (.iconst 0, 1) := by decide +kernel
theorem dL_law_1162 : decode cL_law 1162 = .ok (.laload, 1) := by decide +kernel
theorem dL_law_1163 : decode cL_law 1163 = .ok (.iload 7, 2) := by decide +kernel
theorem dL_law_1165 : decode cL_law 1165 = .ok (.i2l, 1) := by decide +kernel
theorem dL_law_1166 : decode cL_law 1166 = .ok (.lcmp, 1) := by decide +kernel
theorem dL_law_1167 : decode cL_law 1167 = .ok (.ifCond .eq 5, 3) := by decide +kernel
theorem dL_law_1170 : decode cL_law 1170 = .ok (.iconst 0, 1) := by decide +kernel
theorem dL_law_1171 : decode cL_law 1171 = .ok (.ireturn, 1) := by decide +kernel
theorem dL_law_1172 : decode cL_law 1172 = .ok (.goto 2266, 3) := by decide +kernel
theorem dL_law_1175 : decode cL_law 1175 = .ok (.aload_n 1, 1) := by decide +kernel
theorem dL_law_1176 : decode cL_law 1176 = .ok (.aload_n 0, 1) := by decide +kernel
theorem dL_law_1177 : decode cL_law 1177 = .ok (.iload 5, 2) := by decide +kernel
theorem dL_law_1179 : decode cL_law 1179 = .ok (.iconst 1, 1) := by decide +kernel
theorem dL_law_1180 : decode cL_law 1180 = .ok (.iadd, 1) := by decide +kernel
theorem dL_law_1181 : decode cL_law 1181 = .ok (.iaload, 1) := by decide +kernel
theorem dL_law_1182 : decode cL_law 1182 = .ok (.aload_n 0, 1) := by decide +kernel
theorem dL_law_1183 : decode cL_law 1183 = .ok (.iload 5, 2) := by decide +kernel
theorem dL_law_1185 : decode cL_law 1185 = .ok (.iconst 2, 1) := by decide +kernel
theorem dL_law_1186 : decode cL_law 1186 = .ok (.iadd, 1) := by decide +kernel
theorem dL_law_1187 : decode cL_law 1187 = .ok (.iaload, 1) := by decide +kernel
theorem dL_law_1188 : decode cL_law 1188 = .ok (.aload_n 3, 1) := by decide +kernel
theorem dL_law_1189 : decode cL_law 1189 = .ok (.invokestatic 237, 3) := by decide +kernel
theorem dL_law_1192 : decode cL_law 1192 = .ok (.istore 6, 2) := by decide +kernel
theorem dL_law_1194 : decode cL_law 1194 = .ok (.aload_n 2, 1) := by decide +kernel
theorem dL_law_1195 : decode cL_law 1195 = .ok (.aload_n 0, 1) := by decide +kernel
theorem dL_law_1196 : decode cL_law 1196 = .ok (.iload 5, 2) := by decide +kernel
theorem dL_law_1198 : decode cL_law 1198 = .ok (.iconst 1, 1) := by decide +kernel
theorem dL_law_1199 : decode cL_law 1199 = .ok (.iadd, 1) := by decide +kernel
theorem dL_law_1200 : decode cL_law 1200 = .ok (.iaload, 1) := by decide +kernel
theorem dL_law_1201 : decode cL_law 1201 = .ok (.aload_n 0, 1) := by decide +kernel
theorem dL_law_1202 : decode cL_law 1202 = .ok (.iload 5, 2) := by decide +kernel
theorem dL_law_1204 : decode cL_law 1204 = .ok (.iconst 2, 1) := by decide +kernel
theorem dL_law_1205 : decode cL_law 1205 = .ok (.iadd, 1) := by decide +kernel
theorem dL_law_1206 : decode cL_law 1206 = .ok (.iaload, 1) := by decide +kernel
theorem dL_law_1207 : decode cL_law 1207 = .ok (.invokevirtual 239, 3) := by decide +kernel
theorem dL_law_1210 : decode cL_law 1210 = .ok (.istore 7, 2) := by decide +kernel
theorem dL_law_1212 : decode cL_law 1212 = .ok (.aload_n 2, 1) := by decide +kernel
theorem dL_law_1213 : decode cL_law 1213 = .ok (.invokevirtual 172, 3) := by decide +kernel
theorem dL_law_1216 : decode cL_law 1216 = .ok (.iload 6, 2) := by decide +kernel
theorem dL_law_1218 : decode cL_law 1218 = .ok (.if_icmp .eq 5, 3) := by decide +kernel
theorem dL_law_1221 : decode cL_law 1221 = .ok (.iconst 0, 1) := by decide +kernel
theorem dL_law_1222 : decode cL_law 1222 = .ok (.ireturn, 1) := by decide +kernel
theorem dL_law_1223 : decode cL_law 1223 = .ok (.iload 6, 2) := by decide +kernel
theorem dL_law_1225 : decode cL_law 1225 = .ok (.ifCond .ne 15, 3) := by decide +kernel
theorem dL_law_1228 : decode cL_law 1228 = .ok (.aload_n 3, 1) := by decide +kernel
theorem dL_law_1229 : decode cL_law 1229 = .ok (.iconst 0, 1) := by decide +kernel
theorem dL_law_1230 : decode cL_law 1230 = .ok (.laload, 1) := by decide +kernel
theorem dL_law_1231 : decode cL_law 1231 = .ok (.iload 7, 2) := by decide +kernel
theorem dL_law_1233 : decode cL_law 1233 = .ok (.i2l, 1) := by decide +kernel
theorem dL_law_1234 : decode cL_law 1234 = .ok (.lcmp, 1) := by decide +kernel
theorem dL_law_1235 : decode cL_law 1235 = .ok (.ifCond .eq 5, 3) := by decide +kernel
theorem dL_law_1238 : decode cL_law 1238 = .ok (.iconst 0, 1) := by decide +kernel
theorem dL_law_1239 : decode cL_law 1239 = .ok (.ireturn, 1) := by decide +kernel
theorem dL_law_1240 : decode cL_law 1240 = .ok (.goto 2198, 3) := by decide +kernel
theorem dL_law_1243 : decode cL_law 1243 = .ok (.aload_n 1, 1) := by decide +kernel
theorem dL_law_1244 : decode cL_law 1244 = .ok (.aload_n 0, 1) := by decide +kernel
theorem dL_law_1245 : decode cL_law 1245 = .ok (.iload 5, 2) := by decide +kernel
theorem dL_law_1247 : decode cL_law 1247 = .ok (.iconst 1, 1) := by decide +kernel
theorem dL_law_1248 : decode cL_law 1248 = .ok (.iadd, 1) := by decide +kernel
theorem dL_law_1249 : decode cL_law 1249 = .ok (.iaload, 1) := by decide +kernel
theorem dL_law_1250 : decode cL_law 1250 = .ok (.aload_n 3, 1) := by decide +kernel
theorem dL_law_1251 : decode cL_law 1251 = .ok (.invokestatic 240, 3) := by decide +kernel
theorem dL_law_1254 : decode cL_law 1254 = .ok (.istore 6, 2) := by decide +kernel
theorem dL_law_1256 : decode cL_law 1256 = .ok (.aload_n 2, 1) := by decide +kernel
theorem dL_law_1257 : decode cL_law 1257 = .ok (.aload_n 0, 1) := by decide +kernel
theorem dL_law_1258 : decode cL_law 1258 = .ok (.iload 5, 2) := by decide +kernel
theorem dL_law_1260 : decode cL_law 1260 = .ok (.iconst 1, 1) := by decide +kernel
theorem dL_law_1261 : decode cL_law 1261 = .ok (.iadd, 1) := by decide +kernel
theorem dL_law_1262 : decode cL_law 1262 = .ok (.iaload, 1) := by decide +kernel
theorem dL_law_1263 : decode cL_law 1263 = .ok (.invokevirtual 242, 3) := by decide +kernel
theorem dL_law_1266 : decode cL_law 1266 = .ok (.istore 7, 2) := by decide +kernel
theorem dL_law_1268 : decode cL_law 1268 = .ok (.aload_n 2, 1) := by decide +kernel
theorem dL_law_1269 : decode cL_law 1269 = .ok (.invokevirtual 172, 3) := by decide +kernel
theorem dL_law_1272 : decode cL_law 1272 = .ok (.iload 6, 2) := by decide +kernel
theorem dL_law_1274 : decode cL_law 1274 = .ok (.if_icmp .eq 5, 3) := by decide +kernel
theorem dL_law_1277 : decode cL_law 1277 = .ok (.iconst 0, 1) := by decide +kernel
theorem dL_law_1278 : decode cL_law 1278 = .ok (.ireturn, 1) := by decide +kernel
theorem dL_law_1279 : decode cL_law 1279 = .ok (.iload 6, 2) := by decide +kernel
theorem dL_law_1281 : decode cL_law 1281 = .ok (.ifCond .ne 22, 3) := by decide +kernel
theorem dL_law_1284 : decode cL_law 1284 = .ok (.aload_n 3, 1) := by decide +kernel
theorem dL_law_1285 : decode cL_law 1285 = .ok (.iconst 0, 1) := by decide +kernel
theorem dL_law_1286 : decode cL_law 1286 = .ok (.laload, 1) := by decide +kernel
theorem dL_law_1287 : decode cL_law 1287 = .ok (.iload 7, 2) := by decide +kernel
theorem dL_law_1289 : decode cL_law 1289 = .ok (.ifCond .eq 7, 3) := by decide +kernel
theorem dL_law_1292 : decode cL_law 1292 = .ok (.lconst 1, 1) := by decide +kernel
theorem dL_law_1293 : decode cL_law 1293 = .ok (.goto 4, 3) := by decide +kernel
theorem dL_law_1296 : decode cL_law 1296 = .ok (.lconst 0, 1) := by decide +kernel
theorem dL_law_1297 : decode cL_law 1297 = .ok (.lcmp, 1) := by decide +kernel
theorem dL_law_1298 : decode cL_law 1298 = .ok (.ifCond .eq 5, 3) := by decide +kernel
theorem dL_law_1301 : decode cL_law 1301 = .ok (.iconst 0, 1) := by decide +kernel
theorem dL_law_1302 : decode cL_law 1302 = .ok (.ireturn, 1) := by decide +kernel
theorem dL_law_1303 : decode cL_law 1303 = .ok (.goto 2135, 3) := by decide +kernel
theorem dL_law_1306 : decode cL_law 1306 = .ok (.aload_n 1, 1) := by decide +kernel
theorem dL_law_1307 : decode cL_law 1307 = .ok (.aload_n 0, 1) := by decide +kernel
theorem dL_law_1308 : decode cL_law 1308 = .ok (.iload 5, 2) := by decide +kernel
theorem dL_law_1310 : decode cL_law 1310 = .ok (.iconst 1, 1) := by decide +kernel
theorem dL_law_1311 : decode cL_law 1311 = .ok (.iadd, 1) := by decide +kernel
theorem dL_law_1312 : decode cL_law 1312 = .ok (.iaload, 1) := by decide +kernel
theorem dL_law_1313 : decode cL_law 1313 = .ok (.aload_n 3, 1) := by decide +kernel
theorem dL_law_1314 : decode cL_law 1314 = .ok (.invokestatic 243, 3) := by decide +kernel
theorem dL_law_1317 : decode cL_law 1317 = .ok (.istore 6, 2) := by decide +kernel
theorem dL_law_1319 : decode cL_law 1319 = .ok (.aload_n 2, 1) := by decide +kernel
theorem dL_law_1320 : decode cL_law 1320 = .ok (.aload_n 0, 1) := by decide +kernel
theorem dL_law_1321 : decode cL_law 1321 = .ok (.iload 5, 2) := by decide +kernel
theorem dL_law_1323 : decode cL_law 1323 = .ok (.iconst 1, 1) := by decide +kernel
theorem dL_law_1324 : decode cL_law 1324 = .ok (.iadd, 1) := by decide +kernel
theorem dL_law_1325 : decode cL_law 1325 = .ok (.iaload, 1) := by decide +kernel
theorem dL_law_1326 : decode cL_law 1326 = .ok (.invokevirtual 245, 3) := by decide +kernel
theorem dL_law_1329 : decode cL_law 1329 = .ok (.istore 7, 2) := by decide +kernel
theorem dL_law_1331 : decode cL_law 1331 = .ok (.aload_n 2, 1) := by decide +kernel
theorem dL_law_1332 : decode cL_law 1332 = .ok (.invokevirtual 172, 3) := by decide +kernel
theorem dL_law_1335 : decode cL_law 1335 = .ok (.iload 6, 2) := by decide +kernel
theorem dL_law_1337 : decode cL_law 1337 = .ok (.if_icmp .eq 5, 3) := by decide +kernel
theorem dL_law_1340 : decode cL_law 1340 = .ok (.iconst 0, 1) := by decide +kernel
theorem dL_law_1341 : decode cL_law 1341 = .ok (.ireturn, 1) := by decide +kernel
theorem dL_law_1342 : decode cL_law 1342 = .ok (.iload 6, 2) := by decide +kernel
theorem dL_law_1344 : decode cL_law 1344 = .ok (.ifCond .ne 15, 3) := by decide +kernel
theorem dL_law_1347 : decode cL_law 1347 = .ok (.aload_n 3, 1) := by decide +kernel
theorem dL_law_1348 : decode cL_law 1348 = .ok (.iconst 0, 1) := by decide +kernel
theorem dL_law_1349 : decode cL_law 1349 = .ok (.laload, 1) := by decide +kernel
theorem dL_law_1350 : decode cL_law 1350 = .ok (.iload 7, 2) := by decide +kernel
theorem dL_law_1352 : decode cL_law 1352 = .ok (.i2l, 1) := by decide +kernel
theorem dL_law_1353 : decode cL_law 1353 = .ok (.lcmp, 1) := by decide +kernel
theorem dL_law_1354 : decode cL_law 1354 = .ok (.ifCond .eq 5, 3) := by decide +kernel
theorem dL_law_1357 : decode cL_law 1357 = .ok (.iconst 0, 1) := by decide +kernel
theorem dL_law_1358 : decode cL_law 1358 = .ok (.ireturn, 1) := by decide +kernel
theorem dL_law_1359 : decode cL_law 1359 = .ok (.goto 2079, 3) := by decide +kernel
theorem dL_law_1362 : decode cL_law 1362 = .ok (.aload_n 1, 1) := by decide +kernel
theorem dL_law_1363 : decode cL_law 1363 = .ok (.aload_n 0, 1) := by decide +kernel
theorem dL_law_1364 : decode cL_law 1364 = .ok (.iload 5, 2) := by decide +kernel
theorem dL_law_1366 : decode cL_law 1366 = .ok (.iconst 1, 1) := by decide +kernel
theorem dL_law_1367 : decode cL_law 1367 = .ok (.iadd, 1) := by decide +kernel
theorem dL_law_1368 : decode cL_law 1368 = .ok (.iaload, 1) := by decide +kernel
theorem dL_law_1369 : decode cL_law 1369 = .ok (.aload_n 3, 1) := by decide +kernel
theorem dL_law_1370 : decode cL_law 1370 = .ok (.invokestatic 246, 3) := by decide +kernel
theorem dL_law_1373 : decode cL_law 1373 = .ok (.istore 6, 2) := by decide +kernel
theorem dL_law_1375 : decode cL_law 1375 = .ok (.aload_n 2, 1) := by decide +kernel
theorem dL_law_1376 : decode cL_law 1376 = .ok (.aload_n 0, 1) := by decide +kernel
theorem dL_law_1377 : decode cL_law 1377 = .ok (.iload 5, 2) := by decide +kernel
theorem dL_law_1379 : decode cL_law 1379 = .ok (.iconst 1, 1) := by decide +kernel
theorem dL_law_1380 : decode cL_law 1380 = .ok (.iadd, 1) := by decide +kernel
theorem dL_law_1381 : decode cL_law 1381 = .ok (.iaload, 1) := by decide +kernel
theorem dL_law_1382 : decode cL_law 1382 = .ok (.invokevirtual 248, 3) := by decide +kernel
theorem dL_law_1385 : decode cL_law 1385 = .ok (.istore 7, 2) := by decide +kernel
theorem dL_law_1387 : decode cL_law 1387 = .ok (.aload_n 2, 1) := by decide +kernel
theorem dL_law_1388 : decode cL_law 1388 = .ok (.invokevirtual 172, 3) := by decide +kernel
theorem dL_law_1391 : decode cL_law 1391 = .ok (.iload 6, 2) := by decide +kernel
theorem dL_law_1393 : decode cL_law 1393 = .ok (.if_icmp .eq 5, 3) := by decide +kernel
theorem dL_law_1396 : decode cL_law 1396 = .ok (.iconst 0, 1) := by decide +kernel
theorem dL_law_1397 : decode cL_law 1397 = .ok (.ireturn, 1) := by decide +kernel
theorem dL_law_1398 : decode cL_law 1398 = .ok (.iload 6, 2) := by decide +kernel
theorem dL_law_1400 : decode cL_law 1400 = .ok (.ifCond .ne 15, 3) := by decide +kernel
theorem dL_law_1403 : decode cL_law 1403 = .ok (.aload_n 3, 1) := by decide +kernel
theorem dL_law_1404 : decode cL_law 1404 = .ok (.iconst 0, 1) := by decide +kernel
theorem dL_law_1405 : decode cL_law 1405 = .ok (.laload, 1) := by decide +kernel
theorem dL_law_1406 : decode cL_law 1406 = .ok (.iload 7, 2) := by decide +kernel
theorem dL_law_1408 : decode cL_law 1408 = .ok (.i2l, 1) := by decide +kernel
theorem dL_law_1409 : decode cL_law 1409 = .ok (.lcmp, 1) := by decide +kernel
theorem dL_law_1410 : decode cL_law 1410 = .ok (.ifCond .eq 5, 3) := by decide +kernel
theorem dL_law_1413 : decode cL_law 1413 = .ok (.iconst 0, 1) := by decide +kernel
theorem dL_law_1414 : decode cL_law 1414 = .ok (.ireturn, 1) := by decide +kernel
theorem dL_law_1415 : decode cL_law 1415 = .ok (.goto 2023, 3) := by decide +kernel
theorem dL_law_1418 : decode cL_law 1418 = .ok (.aload_n 1, 1) := by decide +kernel
theorem dL_law_1419 : decode cL_law 1419 = .ok (.aload_n 0, 1) := by decide +kernel
theorem dL_law_1420 : decode cL_law 1420 = .ok (.iload 5, 2) := by decide +kernel
theorem dL_law_1422 : decode cL_law 1422 = .ok (.iconst 1, 1) := by decide +kernel
theorem dL_law_1423 : decode cL_law 1423 = .ok (.iadd, 1) := by decide +kernel
theorem dL_law_1424 : decode cL_law 1424 = .ok (.iaload, 1) := by decide +kernel
theorem dL_law_1425 : decode cL_law 1425 = .ok (.aload_n 0, 1) := by decide +kernel
theorem dL_law_1426 : decode cL_law 1426 = .ok (.iload 5, 2) := by decide +kernel
theorem dL_law_1428 : decode cL_law 1428 = .ok (.iconst 2, 1) := by decide +kernel
theorem dL_law_1429 : decode cL_law 1429 = .ok (.iadd, 1) := by decide +kernel
theorem dL_law_1430 : decode cL_law 1430 = .ok (.iaload, 1) := by decide +kernel
theorem dL_law_1431 : decode cL_law 1431 = .ok (.aload_n 3, 1) := by decide +kernel
theorem dL_law_1432 : decode cL_law 1432 = .ok (.invokestatic 249, 3) := by decide +kernel
theorem dL_law_1435 : decode cL_law 1435 = .ok (.istore 6, 2) := by decide +kernel
theorem dL_law_1437 : decode cL_law 1437 = .ok (.aload_n 2, 1) := by decide +kernel
theorem dL_law_1438 : decode cL_law 1438 = .ok (.aload_n 0, 1) := by decide +kernel
theorem dL_law_1439 : decode cL_law 1439 = .ok (.iload 5, 2) := by decide +kernel
theorem dL_law_1441 : decode cL_law 1441 = .ok (.iconst 1, 1) := by decide +kernel
theorem dL_law_1442 : decode cL_law 1442 = .ok (.iadd, 1) := by decide +kernel
theorem dL_law_1443 : decode cL_law 1443 = .ok (.iaload, 1) := by decide +kernel
theorem dL_law_1444 : decode cL_law 1444 = .ok (.aload_n 0, 1) := by decide +kernel
theorem dL_law_1445 : decode cL_law 1445 = .ok (.iload 5, 2) := by decide +kernel
theorem dL_law_1447 : decode cL_law 1447 = .ok (.iconst 2, 1) := by decide +kernel
theorem dL_law_1448 : decode cL_law 1448 = .ok (.iadd, 1) := by decide +kernel
theorem dL_law_1449 : decode cL_law 1449 = .ok (.iaload, 1) := by decide +kernel
theorem dL_law_1450 : decode cL_law 1450 = .ok (.invokevirtual 251, 3) := by decide +kernel
theorem dL_law_1453 : decode cL_law 1453 = .ok (.istore 7, 2) := by decide +kernel
theorem dL_law_1455 : decode cL_law 1455 = .ok (.aload_n 2, 1) := by decide +kernel
theorem dL_law_1456 : decode cL_law 1456 = .ok (.invokevirtual 172, 3) := by decide +kernel
theorem dL_law_1459 : decode cL_law 1459 = .ok (.iload 6, 2) := by decide +kernel
theorem dL_law_1461 : decode cL_law 1461 = .ok (.if_icmp .eq 5, 3) := by decide +kernel
theorem dL_law_1464 : decode cL_law 1464 = .ok (.iconst 0, 1) := by decide +kernel
theorem dL_law_1465 : decode cL_law 1465 = .ok (.ireturn, 1) := by decide +kernel
theorem dL_law_1466 : decode cL_law 1466 = .ok (.iload 6, 2) := by decide +kernel
theorem dL_law_1468 : decode cL_law 1468 = .ok (.ifCond .ne 15, 3) := by decide +kernel
theorem dL_law_1471 : decode cL_law 1471 = .ok (.aload_n 3, 1) := by decide +kernel
theorem dL_law_1472 : decode cL_law 1472 = .ok (.iconst 0, 1) := by decide +kernel
theorem dL_law_1473 : decode cL_law 1473 = .ok (.laload, 1) := by decide +kernel
theorem dL_law_1474 : decode cL_law 1474 = .ok (.iload 7, 2) := by decide +kernel
theorem dL_law_1476 : decode cL_law 1476 = .ok (.i2l, 1) := by decide +kernel
theorem dL_law_1477 : decode cL_law 1477 = .ok (.lcmp, 1) := by decide +kernel
theorem dL_law_1478 : decode cL_law 1478 = .ok (.ifCond .eq 5, 3) := by decide +kernel
theorem dL_law_1481 : decode cL_law 1481 = .ok (.iconst 0, 1) := by decide +kernel
theorem dL_law_1482 : decode cL_law 1482 = .ok (.ireturn, 1) := by decide +kernel
theorem dL_law_1483 : decode cL_law 1483 = .ok (.goto 1955, 3) := by decide +kernel
theorem dL_law_1486 : decode cL_law 1486 = .ok (.aload_n 1, 1) := by decide +kernel
theorem dL_law_1487 : decode cL_law 1487 = .ok (.aload_n 0, 1) := by decide +kernel
theorem dL_law_1488 : decode cL_law 1488 = .ok (.iload 5, 2) := by decide +kernel
theorem dL_law_1490 : decode cL_law 1490 = .ok (.iconst 1, 1) := by decide +kernel
theorem dL_law_1491 : decode cL_law 1491 = .ok (.iadd, 1) := by decide +kernel
theorem dL_law_1492 : decode cL_law 1492 = .ok (.iaload, 1) := by decide +kernel
theorem dL_law_1493 : decode cL_law 1493 = .ok (.aload_n 3, 1) := by decide +kernel
theorem dL_law_1494 : decode cL_law 1494 = .ok (.invokestatic 252, 3) := by decide +kernel
theorem dL_law_1497 : decode cL_law 1497 = .ok (.istore 6, 2) := by decide +kernel
theorem dL_law_1499 : decode cL_law 1499 = .ok (.aload_n 2, 1) := by decide +kernel
theorem dL_law_1500 : decode cL_law 1500 = .ok (.aload_n 0, 1) := by decide +kernel
theorem dL_law_1501 : decode cL_law 1501 = .ok (.iload 5, 2) := by decide +kernel
theorem dL_law_1503 : decode cL_law 1503 = .ok (.iconst 1, 1) := by decide +kernel
theorem dL_law_1504 : decode cL_law 1504 = .ok (.iadd, 1) := by decide +kernel
theorem dL_law_1505 : decode cL_law 1505 = .ok (.iaload, 1) := by decide +kernel
theorem dL_law_1506 : decode cL_law 1506 = .ok (.invokevirtual 254, 3) := by decide +kernel
theorem dL_law_1509 : decode cL_law 1509 = .ok (.istore 7, 2) := by decide +kernel
theorem dL_law_1511 : decode cL_law 1511 = .ok (.aload_n 2, 1) := by decide +kernel
theorem dL_law_1512 : decode cL_law 1512 = .ok (.invokevirtual 172, 3) := by decide +kernel
theorem dL_law_1515 : decode cL_law 1515 = .ok (.iload 6, 2) := by decide +kernel
theorem dL_law_1517 : decode cL_law 1517 = .ok (.if_icmp .eq 5, 3) := by decide +kernel
theorem dL_law_1520 : decode cL_law 1520 = .ok (.iconst 0, 1) := by decide +kernel
theorem dL_law_1521 : decode cL_law 1521 = .ok (.ireturn, 1) := by decide +kernel
theorem dL_law_1522 : decode cL_law 1522 = .ok (.iload 6, 2) := by decide +kernel
theorem dL_law_1524 : decode cL_law 1524 = .ok (.ifCond .ne 15, 3) := by decide +kernel
theorem dL_law_1527 : decode cL_law 1527 = .ok (.aload_n 3, 1) := by decide +kernel
theorem dL_law_1528 : decode cL_law 1528 = .ok (.iconst 0, 1) := by decide +kernel
theorem dL_law_1529 : decode cL_law 1529 = .ok (.laload, 1) := by decide +kernel
theorem dL_law_1530 : decode cL_law 1530 = .ok (.iload 7, 2) := by decide +kernel
theorem dL_law_1532 : decode cL_law 1532 = .ok (.i2l, 1) := by decide +kernel
theorem dL_law_1533 : decode cL_law 1533 = .ok (.lcmp, 1) := by decide +kernel
theorem dL_law_1534 : decode cL_law 1534 = .ok (.ifCond .eq 5, 3) := by decide +kernel
theorem dL_law_1537 : decode cL_law 1537 = .ok (.iconst 0, 1) := by decide +kernel
theorem dL_law_1538 : decode cL_law 1538 = .ok (.ireturn, 1) := by decide +kernel
theorem dL_law_1539 : decode cL_law 1539 = .ok (.goto 1899, 3) := by decide +kernel
theorem dL_law_1542 : decode cL_law 1542 = .ok (.aload_n 1, 1) := by decide +kernel
theorem dL_law_1543 : decode cL_law 1543 = .ok (.aload_n 0, 1) := by decide +kernel
theorem dL_law_1544 : decode cL_law 1544 = .ok (.iload 5, 2) := by decide +kernel
theorem dL_law_1546 : decode cL_law 1546 = .ok (.iconst 1, 1) := by decide +kernel
theorem dL_law_1547 : decode cL_law 1547 = .ok (.iadd, 1) := by decide +kernel
theorem dL_law_1548 : decode cL_law 1548 = .ok (.iaload, 1) := by decide +kernel
theorem dL_law_1549 : decode cL_law 1549 = .ok (.aload_n 0, 1) := by decide +kernel
theorem dL_law_1550 : decode cL_law 1550 = .ok (.iload 5, 2) := by decide +kernel
theorem dL_law_1552 : decode cL_law 1552 = .ok (.iconst 2, 1) := by decide +kernel
theorem dL_law_1553 : decode cL_law 1553 = .ok (.iadd, 1) := by decide +kernel
theorem dL_law_1554 : decode cL_law 1554 = .ok (.iaload, 1) := by decide +kernel
theorem dL_law_1555 : decode cL_law 1555 = .ok (.aload_n 3, 1) := by decide +kernel
theorem dL_law_1556 : decode cL_law 1556 = .ok (.invokestatic 255, 3) := by decide +kernel
theorem dL_law_1559 : decode cL_law 1559 = .ok (.istore 6, 2) := by decide +kernel
theorem dL_law_1561 : decode cL_law 1561 = .ok (.aload_n 2, 1) := by decide +kernel
theorem dL_law_1562 : decode cL_law 1562 = .ok (.aload_n 0, 1) := by decide +kernel
theorem dL_law_1563 : decode cL_law 1563 = .ok (.iload 5, 2) := by decide +kernel
theorem dL_law_1565 : decode cL_law 1565 = .ok (.iconst 1, 1) := by decide +kernel
theorem dL_law_1566 : decode cL_law 1566 = .ok (.iadd, 1) := by decide +kernel
theorem dL_law_1567 : decode cL_law 1567 = .ok (.iaload, 1) := by decide +kernel
theorem dL_law_1568 : decode cL_law 1568 = .ok (.aload_n 0, 1) := by decide +kernel
theorem dL_law_1569 : decode cL_law 1569 = .ok (.iload 5, 2) := by decide +kernel
theorem dL_law_1571 : decode cL_law 1571 = .ok (.iconst 2, 1) := by decide +kernel
theorem dL_law_1572 : decode cL_law 1572 = .ok (.iadd, 1) := by decide +kernel
theorem dL_law_1573 : decode cL_law 1573 = .ok (.iaload, 1) := by decide +kernel
theorem dL_law_1574 : decode cL_law 1574 = .ok (.invokevirtual 257, 3) := by decide +kernel
theorem dL_law_1577 : decode cL_law 1577 = .ok (.istore 7, 2) := by decide +kernel
theorem dL_law_1579 : decode cL_law 1579 = .ok (.aload_n 2, 1) := by decide +kernel
theorem dL_law_1580 : decode cL_law 1580 = .ok (.invokevirtual 172, 3) := by decide +kernel
theorem dL_law_1583 : decode cL_law 1583 = .ok (.iload 6, 2) := by decide +kernel
theorem dL_law_1585 : decode cL_law 1585 = .ok (.if_icmp .eq 5, 3) := by decide +kernel
theorem dL_law_1588 : decode cL_law 1588 = .ok (.iconst 0, 1) := by decide +kernel
theorem dL_law_1589 : decode cL_law 1589 = .ok (.ireturn, 1) := by decide +kernel
theorem dL_law_1590 : decode cL_law 1590 = .ok (.iload 6, 2) := by decide +kernel
theorem dL_law_1592 : decode cL_law 1592 = .ok (.ifCond .ne 22, 3) := by decide +kernel
theorem dL_law_1595 : decode cL_law 1595 = .ok (.aload_n 3, 1) := by decide +kernel
theorem dL_law_1596 : decode cL_law 1596 = .ok (.iconst 0, 1) := by decide +kernel
theorem dL_law_1597 : decode cL_law 1597 = .ok (.laload, 1) := by decide +kernel
theorem dL_law_1598 : decode cL_law 1598 = .ok (.iload 7, 2) := by decide +kernel
theorem dL_law_1600 : decode cL_law 1600 = .ok (.ifCond .eq 7, 3) := by decide +kernel
theorem dL_law_1603 : decode cL_law 1603 = .ok (.lconst 1, 1) := by decide +kernel
theorem dL_law_1604 : decode cL_law 1604 = .ok (.goto 4, 3) := by decide +kernel
theorem dL_law_1607 : decode cL_law 1607 = .ok (.lconst 0, 1) := by decide +kernel
theorem dL_law_1608 : decode cL_law 1608 = .ok (.lcmp, 1) := by decide +kernel
theorem dL_law_1609 : decode cL_law 1609 = .ok (.ifCond .eq 5, 3) := by decide +kernel
theorem dL_law_1612 : decode cL_law 1612 = .ok (.iconst 0, 1) := by decide +kernel
theorem dL_law_1613 : decode cL_law 1613 = .ok (.ireturn, 1) := by decide +kernel
theorem dL_law_1614 : decode cL_law 1614 = .ok (.goto 1824, 3) := by decide +kernel
theorem dL_law_1617 : decode cL_law 1617 = .ok (.aload_n 1, 1) := by decide +kernel
theorem dL_law_1618 : decode cL_law 1618 = .ok (.aload_n 0, 1) := by decide +kernel
theorem dL_law_1619 : decode cL_law 1619 = .ok (.iload 5, 2) := by decide +kernel
theorem dL_law_1621 : decode cL_law 1621 = .ok (.iconst 1, 1) := by decide +kernel
theorem dL_law_1622 : decode cL_law 1622 = .ok (.iadd, 1) := by decide +kernel
theorem dL_law_1623 : decode cL_law 1623 = .ok (.iaload, 1) := by decide +kernel
theorem dL_law_1624 : decode cL_law 1624 = .ok (.aload_n 3, 1) := by decide +kernel
theorem dL_law_1625 : decode cL_law 1625 = .ok (.invokestatic 258, 3) := by decide +kernel
theorem dL_law_1628 : decode cL_law 1628 = .ok (.istore 6, 2) := by decide +kernel
theorem dL_law_1630 : decode cL_law 1630 = .ok (.aload_n 2, 1) := by decide +kernel
theorem dL_law_1631 : decode cL_law 1631 = .ok (.aload_n 0, 1) := by decide +kernel
theorem dL_law_1632 : decode cL_law 1632 = .ok (.iload 5, 2) := by decide +kernel
theorem dL_law_1634 : decode cL_law 1634 = .ok (.iconst 1, 1) := by decide +kernel
theorem dL_law_1635 : decode cL_law 1635 = .ok (.iadd, 1) := by decide +kernel
theorem dL_law_1636 : decode cL_law 1636 = .ok (.iaload, 1) := by decide +kernel
theorem dL_law_1637 : decode cL_law 1637 = .ok (.invokevirtual 260, 3) := by decide +kernel
theorem dL_law_1640 : decode cL_law 1640 = .ok (.istore 7, 2) := by decide +kernel
theorem dL_law_1642 : decode cL_law 1642 = .ok (.aload_n 2, 1) := by decide +kernel
theorem dL_law_1643 : decode cL_law 1643 = .ok (.invokevirtual 172, 3) := by decide +kernel
theorem dL_law_1646 : decode cL_law 1646 = .ok (.iload 6, 2) := by decide +kernel
theorem dL_law_1648 : decode cL_law 1648 = .ok (.if_icmp .eq 5, 3) := by decide +kernel
theorem dL_law_1651 : decode cL_law 1651 = .ok (.iconst 0, 1) := by decide +kernel
theorem dL_law_1652 : decode cL_law 1652 = .ok (.ireturn, 1) := by decide +kernel
theorem dL_law_1653 : decode cL_law 1653 = .ok (.iload 6, 2) := by decide +kernel
theorem dL_law_1655 : decode cL_law 1655 = .ok (.ifCond .ne 15, 3) := by decide +kernel
theorem dL_law_1658 : decode cL_law 1658 = .ok (.aload_n 3, 1) := by decide +kernel
theorem dL_law_1659 : decode cL_law 1659 = .ok (.iconst 0, 1) := by decide +kernel
theorem dL_law_1660 : decode cL_law 1660 = .ok (.laload, 1) := by decide +kernel
theorem dL_law_1661 : decode cL_law 1661 = .ok (.iload 7, 2) := by decide +kernel
theorem dL_law_1663 : decode cL_law 1663 = .ok (.i2l, 1) := by decide +kernel
theorem dL_law_1664 : decode cL_law 1664 = .ok (.lcmp, 1) := by decide +kernel
theorem dL_law_1665 : decode cL_law 1665 = .ok (.ifCond .eq 5, 3) := by decide +kernel
theorem dL_law_1668 : decode cL_law 1668 = .ok (.iconst 0, 1) := by decide +kernel
theorem dL_law_1669 : decode cL_law 1669 = .ok (.ireturn, 1) := by decide +kernel
theorem dL_law_1670 : decode cL_law 1670 = .ok (.goto 1768, 3) := by decide +kernel
theorem dL_law_1673 : decode cL_law 1673 = .ok (.aload_n 1, 1) := by decide +kernel
theorem dL_law_1674 : decode cL_law 1674 = .ok (.aload_n 0, 1) := by decide +kernel
theorem dL_law_1675 : decode cL_law 1675 = .ok (.iload 5, 2) := by decide +kernel
theorem dL_law_1677 : decode cL_law 1677 = .ok (.iconst 1, 1) := by decide +kernel
theorem dL_law_1678 : decode cL_law 1678 = .ok (.iadd, 1) := by decide +kernel
theorem dL_law_1679 : decode cL_law 1679 = .ok (.iaload, 1) := by decide +kernel
theorem dL_law_1680 : decode cL_law 1680 = .ok (.aload_n 0, 1) := by decide +kernel
theorem dL_law_1681 : decode cL_law 1681 = .ok (.iload 5, 2) := by decide +kernel
theorem dL_law_1683 : decode cL_law 1683 = .ok (.iconst 2, 1) := by decide +kernel
theorem dL_law_1684 : decode cL_law 1684 = .ok (.iadd, 1) := by decide +kernel
theorem dL_law_1685 : decode cL_law 1685 = .ok (.iaload, 1) := by decide +kernel
theorem dL_law_1686 : decode cL_law 1686 = .ok (.aload_n 0, 1) := by decide +kernel
theorem dL_law_1687 : decode cL_law 1687 = .ok (.iload 5, 2) := by decide +kernel
theorem dL_law_1689 : decode cL_law 1689 = .ok (.iconst 3, 1) := by decide +kernel
theorem dL_law_1690 : decode cL_law 1690 = .ok (.iadd, 1) := by decide +kernel
theorem dL_law_1691 : decode cL_law 1691 = .ok (.iaload, 1) := by decide +kernel
theorem dL_law_1692 : decode cL_law 1692 = .ok (.aload_n 3, 1) := by decide +kernel
theorem dL_law_1693 : decode cL_law 1693 = .ok (.invokestatic 261, 3) := by decide +kernel
theorem dL_law_1696 : decode cL_law 1696 = .ok (.istore 6, 2) := by decide +kernel
theorem dL_law_1698 : decode cL_law 1698 = .ok (.aload_n 2, 1) := by decide +kernel
theorem dL_law_1699 : decode cL_law 1699 = .ok (.aload_n 0, 1) := by decide +kernel
theorem dL_law_1700 : decode cL_law 1700 = .ok (.iload 5, 2) := by decide +kernel
theorem dL_law_1702 : decode cL_law 1702 = .ok (.iconst 1, 1) := by decide +kernel
theorem dL_law_1703 : decode cL_law 1703 = .ok (.iadd, 1) := by decide +kernel
theorem dL_law_1704 : decode cL_law 1704 = .ok (.iaload, 1) := by decide +kernel
theorem dL_law_1705 : decode cL_law 1705 = .ok (.aload_n 0, 1) := by decide +kernel
theorem dL_law_1706 : decode cL_law 1706 = .ok (.iload 5, 2) := by decide +kernel
theorem dL_law_1708 : decode cL_law 1708 = .ok (.iconst 2, 1) := by decide +kernel
theorem dL_law_1709 : decode cL_law 1709 = .ok (.iadd, 1) := by decide +kernel
theorem dL_law_1710 : decode cL_law 1710 = .ok (.iaload, 1) := by decide +kernel
theorem dL_law_1711 : decode cL_law 1711 = .ok (.aload_n 0, 1) := by decide +kernel
theorem dL_law_1712 : decode cL_law 1712 = .ok (.iload 5, 2) := by decide +kernel
theorem dL_law_1714 : decode cL_law 1714 = .ok (.iconst 3, 1) := by decide +kernel
theorem dL_law_1715 : decode cL_law 1715 = .ok (.iadd, 1) := by decide +kernel
theorem dL_law_1716 : decode cL_law 1716 = .ok (.iaload, 1) := by decide +kernel
theorem dL_law_1717 : decode cL_law 1717 = .ok (.invokevirtual 264, 3) := by decide +kernel
theorem dL_law_1720 : decode cL_law 1720 = .ok (.istore 7, 2) := by decide +kernel
theorem dL_law_1722 : decode cL_law 1722 = .ok (.aload_n 2, 1) := by decide +kernel
theorem dL_law_1723 : decode cL_law 1723 = .ok (.invokevirtual 172, 3) := by decide +kernel
theorem dL_law_1726 : decode cL_law 1726 = .ok (.iload 6, 2) := by decide +kernel
theorem dL_law_1728 : decode cL_law 1728 = .ok (.if_icmp .eq 5, 3) := by decide +kernel
theorem dL_law_1731 : decode cL_law 1731 = .ok (.iconst 0, 1) := by decide +kernel
theorem dL_law_1732 : decode cL_law 1732 = .ok (.ireturn, 1) := by decide +kernel
theorem dL_law_1733 : decode cL_law 1733 = .ok (.iload 6, 2) := by decide +kernel
theorem dL_law_1735 : decode cL_law 1735 = .ok (.ifCond .ne 15, 3) := by decide +kernel
theorem dL_law_1738 : decode cL_law 1738 = .ok (.aload_n 3, 1) := by decide +kernel
theorem dL_law_1739 : decode cL_law 1739 = .ok (.iconst 0, 1) := by decide +kernel
theorem dL_law_1740 : decode cL_law 1740 = .ok (.laload, 1) := by decide +kernel
theorem dL_law_1741 : decode cL_law 1741 = .ok (.iload 7, 2) := by decide +kernel
theorem dL_law_1743 : decode cL_law 1743 = .ok (.i2l, 1) := by decide +kernel
theorem dL_law_1744 : decode cL_law 1744 = .ok (.lcmp, 1) := by decide +kernel
theorem dL_law_1745 : decode cL_law 1745 = .ok (.ifCond .eq 5, 3) := by decide +kernel
theorem dL_law_1748 : decode cL_law 1748 = .ok (.iconst 0, 1) := by decide +kernel
theorem dL_law_1749 : decode cL_law 1749 = .ok (.ireturn, 1) := by decide +kernel
theorem dL_law_1750 : decode cL_law 1750 = .ok (.goto 1688, 3) := by decide +kernel
theorem dL_law_1753 : decode cL_law 1753 = .ok (.aload_n 1, 1) := by decide +kernel
theorem dL_law_1754 : decode cL_law 1754 = .ok (.aload_n 0, 1) := by decide +kernel
theorem dL_law_1755 : decode cL_law 1755 = .ok (.iload 5, 2) := by decide +kernel
theorem dL_law_1757 : decode cL_law 1757 = .ok (.iconst 1, 1) := by decide +kernel
theorem dL_law_1758 : decode cL_law 1758 = .ok (.iadd, 1) := by decide +kernel
theorem dL_law_1759 : decode cL_law 1759 = .ok (.iaload, 1) := by decide +kernel
theorem dL_law_1760 : decode cL_law 1760 = .ok (.aload_n 0, 1) := by decide +kernel
theorem dL_law_1761 : decode cL_law 1761 = .ok (.iload 5, 2) := by decide +kernel
theorem dL_law_1763 : decode cL_law 1763 = .ok (.iconst 2, 1) := by decide +kernel
theorem dL_law_1764 : decode cL_law 1764 = .ok (.iadd, 1) := by decide +kernel
theorem dL_law_1765 : decode cL_law 1765 = .ok (.iaload, 1) := by decide +kernel
theorem dL_law_1766 : decode cL_law 1766 = .ok (.aload_n 3, 1) := by decide +kernel
theorem dL_law_1767 : decode cL_law 1767 = .ok (.invokestatic 265, 3) := by decide +kernel
theorem dL_law_1770 : decode cL_law 1770 = .ok (.istore 6, 2) := by decide +kernel
theorem dL_law_1772 : decode cL_law 1772 = .ok (.aload_n 2, 1) := by decide +kernel
theorem dL_law_1773 : decode cL_law 1773 = .ok (.aload_n 0, 1) := by decide +kernel
theorem dL_law_1774 : decode cL_law 1774 = .ok (.iload 5, 2) := by decide +kernel
theorem dL_law_1776 : decode cL_law 1776 = .ok (.iconst 1, 1) := by decide +kernel
theorem dL_law_1777 : decode cL_law 1777 = .ok (.iadd, 1) := by decide +kernel
theorem dL_law_1778 : decode cL_law 1778 = .ok (.iaload, 1) := by decide +kernel
theorem dL_law_1779 : decode cL_law 1779 = .ok (.aload_n 0, 1) := by decide +kernel
theorem dL_law_1780 : decode cL_law 1780 = .ok (.iload 5, 2) := by decide +kernel
theorem dL_law_1782 : decode cL_law 1782 = .ok (.iconst 2, 1) := by decide +kernel
theorem dL_law_1783 : decode cL_law 1783 = .ok (.iadd, 1) := by decide +kernel
theorem dL_law_1784 : decode cL_law 1784 = .ok (.iaload, 1) := by decide +kernel
theorem dL_law_1785 : decode cL_law 1785 = .ok (.invokevirtual 267, 3) := by decide +kernel
theorem dL_law_1788 : decode cL_law 1788 = .ok (.istore 7, 2) := by decide +kernel
theorem dL_law_1790 : decode cL_law 1790 = .ok (.aload_n 2, 1) := by decide +kernel
theorem dL_law_1791 : decode cL_law 1791 = .ok (.invokevirtual 172, 3) := by decide +kernel
theorem dL_law_1794 : decode cL_law 1794 = .ok (.iload 6, 2) := by decide +kernel
theorem dL_law_1796 : decode cL_law 1796 = .ok (.if_icmp .eq 5, 3) := by decide +kernel
theorem dL_law_1799 : decode cL_law 1799 = .ok (.iconst 0, 1) := by decide +kernel
theorem dL_law_1800 : decode cL_law 1800 = .ok (.ireturn, 1) := by decide +kernel
theorem dL_law_1801 : decode cL_law 1801 = .ok (.iload 6, 2) := by decide +kernel
theorem dL_law_1803 : decode cL_law 1803 = .ok (.ifCond .ne 22, 3) := by decide +kernel
theorem dL_law_1806 : decode cL_law 1806 = .ok (.aload_n 3, 1) := by decide +kernel
theorem dL_law_1807 : decode cL_law 1807 = .ok (.iconst 0, 1) := by decide +kernel
theorem dL_law_1808 : decode cL_law 1808 = .ok (.laload, 1) := by decide +kernel
theorem dL_law_1809 : decode cL_law 1809 = .ok (.iload 7, 2) := by decide +kernel
theorem dL_law_1811 : decode cL_law 1811 = .ok (.ifCond .eq 7, 3) := by decide +kernel
theorem dL_law_1814 : decode cL_law 1814 = .ok (.lconst 1, 1) := by decide +kernel
theorem dL_law_1815 : decode cL_law 1815 = .ok (.goto 4, 3) := by decide +kernel
theorem dL_law_1818 : decode cL_law 1818 = .ok (.lconst 0, 1) := by decide +kernel
theorem dL_law_1819 : decode cL_law 1819 = .ok (.lcmp, 1) := by decide +kernel
theorem dL_law_1820 : decode cL_law 1820 = .ok (.ifCond .eq 5, 3) := by decide +kernel
theorem dL_law_1823 : decode cL_law 1823 = .ok (.iconst 0, 1) := by decide +kernel
theorem dL_law_1824 : decode cL_law 1824 = .ok (.ireturn, 1) := by decide +kernel
theorem dL_law_1825 : decode cL_law 1825 = .ok (.goto 1613, 3) := by decide +kernel
theorem dL_law_1828 : decode cL_law 1828 = .ok (.aload_n 1, 1) := by decide +kernel
theorem dL_law_1829 : decode cL_law 1829 = .ok (.aload_n 0, 1) := by decide +kernel
theorem dL_law_1830 : decode cL_law 1830 = .ok (.iload 5, 2) := by decide +kernel
theorem dL_law_1832 : decode cL_law 1832 = .ok (.iconst 1, 1) := by decide +kernel
theorem dL_law_1833 : decode cL_law 1833 = .ok (.iadd, 1) := by decide +kernel
theorem dL_law_1834 : decode cL_law 1834 = .ok (.iaload, 1) := by decide +kernel
theorem dL_law_1835 : decode cL_law 1835 = .ok (.aload_n 0, 1) := by decide +kernel
theorem dL_law_1836 : decode cL_law 1836 = .ok (.iload 5, 2) := by decide +kernel
theorem dL_law_1838 : decode cL_law 1838 = .ok (.iconst 2, 1) := by decide +kernel
theorem dL_law_1839 : decode cL_law 1839 = .ok (.iadd, 1) := by decide +kernel
theorem dL_law_1840 : decode cL_law 1840 = .ok (.iaload, 1) := by decide +kernel
theorem dL_law_1841 : decode cL_law 1841 = .ok (.aload_n 3, 1) := by decide +kernel
theorem dL_law_1842 : decode cL_law 1842 = .ok (.invokestatic 268, 3) := by decide +kernel
theorem dL_law_1845 : decode cL_law 1845 = .ok (.istore 6, 2) := by decide +kernel
theorem dL_law_1847 : decode cL_law 1847 = .ok (.aload_n 2, 1) := by decide +kernel
theorem dL_law_1848 : decode cL_law 1848 = .ok (.aload_n 0, 1) := by decide +kernel
theorem dL_law_1849 : decode cL_law 1849 = .ok (.iload 5, 2) := by decide +kernel
theorem dL_law_1851 : decode cL_law 1851 = .ok (.iconst 1, 1) := by decide +kernel
theorem dL_law_1852 : decode cL_law 1852 = .ok (.iadd, 1) := by decide +kernel
theorem dL_law_1853 : decode cL_law 1853 = .ok (.iaload, 1) := by decide +kernel
theorem dL_law_1854 : decode cL_law 1854 = .ok (.aload_n 0, 1) := by decide +kernel
theorem dL_law_1855 : decode cL_law 1855 = .ok (.iload 5, 2) := by decide +kernel
theorem dL_law_1857 : decode cL_law 1857 = .ok (.iconst 2, 1) := by decide +kernel
theorem dL_law_1858 : decode cL_law 1858 = .ok (.iadd, 1) := by decide +kernel
theorem dL_law_1859 : decode cL_law 1859 = .ok (.iaload, 1) := by decide +kernel
theorem dL_law_1860 : decode cL_law 1860 = .ok (.invokevirtual 270, 3) := by decide +kernel
theorem dL_law_1863 : decode cL_law 1863 = .ok (.istore 7, 2) := by decide +kernel
theorem dL_law_1865 : decode cL_law 1865 = .ok (.aload_n 2, 1) := by decide +kernel
theorem dL_law_1866 : decode cL_law 1866 = .ok (.invokevirtual 172, 3) := by decide +kernel
theorem dL_law_1869 : decode cL_law 1869 = .ok (.iload 6, 2) := by decide +kernel
theorem dL_law_1871 : decode cL_law 1871 = .ok (.if_icmp .eq 5, 3) := by decide +kernel
theorem dL_law_1874 : decode cL_law 1874 = .ok (.iconst 0, 1) := by decide +kernel
theorem dL_law_1875 : decode cL_law 1875 = .ok (.ireturn, 1) := by decide +kernel
theorem dL_law_1876 : decode cL_law 1876 = .ok (.iload 6, 2) := by decide +kernel
theorem dL_law_1878 : decode cL_law 1878 = .ok (.ifCond .ne 15, 3) := by decide +kernel
theorem dL_law_1881 : decode cL_law 1881 = .ok (.aload_n 3, 1) := by decide +kernel
theorem dL_law_1882 : decode cL_law 1882 = .ok (.iconst 0, 1) := by decide +kernel
theorem dL_law_1883 : decode cL_law 1883 = .ok (.laload, 1) := by decide +kernel
theorem dL_law_1884 : decode cL_law 1884 = .ok (.iload 7, 2) := by decide +kernel
theorem dL_law_1886 : decode cL_law 1886 = .ok (.i2l, 1) := by decide +kernel
theorem dL_law_1887 : decode cL_law 1887 = .ok (.lcmp, 1) := by decide +kernel
theorem dL_law_1888 : decode cL_law 1888 = .ok (.ifCond .eq 5, 3) := by decide +kernel
theorem dL_law_1891 : decode cL_law 1891 = .ok (.iconst 0, 1) := by decide +kernel
theorem dL_law_1892 : decode cL_law 1892 = .ok (.ireturn, 1) := by decide +kernel
theorem dL_law_1893 : decode cL_law 1893 = .ok (.goto 1545, 3) := by decide +kernel
theorem dL_law_1896 : decode cL_law 1896 = .ok (.aload_n 1, 1) := by decide +kernel
theorem dL_law_1897 : decode cL_law 1897 = .ok (.aload_n 0, 1) := by decide +kernel
theorem dL_law_1898 : decode cL_law 1898 = .ok (.iload 5, 2) := by decide +kernel
theorem dL_law_1900 : decode cL_law 1900 = .ok (.iconst 1, 1) := by decide +kernel
theorem dL_law_1901 : decode cL_law 1901 = .ok (.iadd, 1) := by decide +kernel
theorem dL_law_1902 : decode cL_law 1902 = .ok (.iaload, 1) := by decide +kernel
theorem dL_law_1903 : decode cL_law 1903 = .ok (.aload_n 3, 1) := by decide +kernel
theorem dL_law_1904 : decode cL_law 1904 = .ok (.invokestatic 271, 3) := by decide +kernel
theorem dL_law_1907 : decode cL_law 1907 = .ok (.istore 6, 2) := by decide +kernel
theorem dL_law_1909 : decode cL_law 1909 = .ok (.aload_n 2, 1) := by decide +kernel
theorem dL_law_1910 : decode cL_law 1910 = .ok (.aload_n 0, 1) := by decide +kernel
theorem dL_law_1911 : decode cL_law 1911 = .ok (.iload 5, 2) := by decide +kernel
theorem dL_law_1913 : decode cL_law 1913 = .ok (.iconst 1, 1) := by decide +kernel
theorem dL_law_1914 : decode cL_law 1914 = .ok (.iadd, 1) := by decide +kernel
theorem dL_law_1915 : decode cL_law 1915 = .ok (.iaload, 1) := by decide +kernel
theorem dL_law_1916 : decode cL_law 1916 = .ok (.invokevirtual 273, 3) := by decide +kernel
theorem dL_law_1919 : decode cL_law 1919 = .ok (.istore 7, 2) := by decide +kernel
theorem dL_law_1921 : decode cL_law 1921 = .ok (.aload_n 2, 1) := by decide +kernel
theorem dL_law_1922 : decode cL_law 1922 = .ok (.invokevirtual 172, 3) := by decide +kernel
theorem dL_law_1925 : decode cL_law 1925 = .ok (.iload 6, 2) := by decide +kernel
theorem dL_law_1927 : decode cL_law 1927 = .ok (.if_icmp .eq 5, 3) := by decide +kernel
theorem dL_law_1930 : decode cL_law 1930 = .ok (.iconst 0, 1) := by decide +kernel
theorem dL_law_1931 : decode cL_law 1931 = .ok (.ireturn, 1) := by decide +kernel
theorem dL_law_1932 : decode cL_law 1932 = .ok (.iload 6, 2) := by decide +kernel
theorem dL_law_1934 : decode cL_law 1934 = .ok (.ifCond .ne 15, 3) := by decide +kernel
theorem dL_law_1937 : decode cL_law 1937 = .ok (.aload_n 3, 1) := by decide +kernel
theorem dL_law_1938 : decode cL_law 1938 = .ok (.iconst 0, 1) := by decide +kernel
theorem dL_law_1939 : decode cL_law 1939 = .ok (.laload, 1) := by decide +kernel
theorem dL_law_1940 : decode cL_law 1940 = .ok (.iload 7, 2) := by decide +kernel
theorem dL_law_1942 : decode cL_law 1942 = .ok (.i2l, 1) := by decide +kernel
theorem dL_law_1943 : decode cL_law 1943 = .ok (.lcmp, 1) := by decide +kernel
theorem dL_law_1944 : decode cL_law 1944 = .ok (.ifCond .eq 5, 3) := by decide +kernel
theorem dL_law_1947 : decode cL_law 1947 = .ok (.iconst 0, 1) := by decide +kernel
theorem dL_law_1948 : decode cL_law 1948 = .ok (.ireturn, 1) := by decide +kernel
theorem dL_law_1949 : decode cL_law 1949 = .ok (.goto 1489, 3) := by decide +kernel
theorem dL_law_1952 : decode cL_law 1952 = .ok (.aload_n 1, 1) := by decide +kernel
theorem dL_law_1953 : decode cL_law 1953 = .ok (.aload_n 0, 1) := by decide +kernel
theorem dL_law_1954 : decode cL_law 1954 = .ok (.iload 5, 2) := by decide +kernel
theorem dL_law_1956 : decode cL_law 1956 = .ok (.iconst 1, 1) := by decide +kernel
theorem dL_law_1957 : decode cL_law 1957 = .ok (.iadd, 1) := by decide +kernel
theorem dL_law_1958 : decode cL_law 1958 = .ok (.iaload, 1) := by decide +kernel
theorem dL_law_1959 : decode cL_law 1959 = .ok (.aload_n 0, 1) := by decide +kernel
theorem dL_law_1960 : decode cL_law 1960 = .ok (.iload 5, 2) := by decide +kernel
theorem dL_law_1962 : decode cL_law 1962 = .ok (.iconst 2, 1) := by decide +kernel
theorem dL_law_1963 : decode cL_law 1963 = .ok (.iadd, 1) := by decide +kernel
theorem dL_law_1964 : decode cL_law 1964 = .ok (.iaload, 1) := by decide +kernel
theorem dL_law_1965 : decode cL_law 1965 = .ok (.aload_n 3, 1) := by decide +kernel
theorem dL_law_1966 : decode cL_law 1966 = .ok (.invokestatic 274, 3) := by decide +kernel
theorem dL_law_1969 : decode cL_law 1969 = .ok (.istore 6, 2) := by decide +kernel
theorem dL_law_1971 : decode cL_law 1971 = .ok (.aload_n 2, 1) := by decide +kernel
theorem dL_law_1972 : decode cL_law 1972 = .ok (.aload_n 0, 1) := by decide +kernel
theorem dL_law_1973 : decode cL_law 1973 = .ok (.iload 5, 2) := by decide +kernel
theorem dL_law_1975 : decode cL_law 1975 = .ok (.iconst 1, 1) := by decide +kernel
theorem dL_law_1976 : decode cL_law 1976 = .ok (.iadd, 1) := by decide +kernel
theorem dL_law_1977 : decode cL_law 1977 = .ok (.iaload, 1) := by decide +kernel
theorem dL_law_1978 : decode cL_law 1978 = .ok (.aload_n 0, 1) := by decide +kernel
theorem dL_law_1979 : decode cL_law 1979 = .ok (.iload 5, 2) := by decide +kernel
theorem dL_law_1981 : decode cL_law 1981 = .ok (.iconst 2, 1) := by decide +kernel
theorem dL_law_1982 : decode cL_law 1982 = .ok (.iadd, 1) := by decide +kernel
theorem dL_law_1983 : decode cL_law 1983 = .ok (.iaload, 1) := by decide +kernel
theorem dL_law_1984 : decode cL_law 1984 = .ok (.invokevirtual 276, 3) := by decide +kernel
theorem dL_law_1987 : decode cL_law 1987 = .ok (.istore 7, 2) := by decide +kernel
theorem dL_law_1989 : decode cL_law 1989 = .ok (.aload_n 2, 1) := by decide +kernel
theorem dL_law_1990 : decode cL_law 1990 = .ok (.invokevirtual 172, 3) := by decide +kernel
theorem dL_law_1993 : decode cL_law 1993 = .ok (.iload 6, 2) := by decide +kernel
theorem dL_law_1995 : decode cL_law 1995 = .ok (.if_icmp .eq 5, 3) := by decide +kernel
theorem dL_law_1998 : decode cL_law 1998 = .ok (.iconst 0, 1) := by decide +kernel
theorem dL_law_1999 : decode cL_law 1999 = .ok (.ireturn, 1) := by decide +kernel
theorem dL_law_2000 : decode cL_law 2000 = .ok (.iload 6, 2) := by decide +kernel
theorem dL_law_2002 : decode cL_law 2002 = .ok (.ifCond .ne 15, 3) := by decide +kernel
theorem dL_law_2005 : decode cL_law 2005 = .ok (.aload_n 3, 1) := by decide +kernel
theorem dL_law_2006 : decode cL_law 2006 = .ok (.iconst 0, 1) := by decide +kernel
theorem dL_law_2007 : decode cL_law 2007 = .ok (.laload, 1) := by decide +kernel
theorem dL_law_2008 : decode cL_law 2008 = .ok (.iload 7, 2) := by decide +kernel
theorem dL_law_2010 : decode cL_law 2010 = .ok (.i2l, 1) := by decide +kernel
theorem dL_law_2011 : decode cL_law 2011 = .ok (.lcmp, 1) := by decide +kernel
theorem dL_law_2012 : decode cL_law 2012 = .ok (.ifCond .eq 5, 3) := by decide +kernel
theorem dL_law_2015 : decode cL_law 2015 = .ok (.iconst 0, 1) := by decide +kernel
theorem dL_law_2016 : decode cL_law 2016 = .ok (.ireturn, 1) := by decide +kernel
theorem dL_law_2017 : decode cL_law 2017 = .ok (.goto 1421, 3) := by decide +kernel
theorem dL_law_2020 : decode cL_law 2020 = .ok (.aload_n 1, 1) := by decide +kernel
theorem dL_law_2021 : decode cL_law 2021 = .ok (.aload_n 0, 1) := by decide +kernel
theorem dL_law_2022 : decode cL_law 2022 = .ok (.iload 5, 2) := by decide +kernel
theorem dL_law_2024 : decode cL_law 2024 = .ok (.iconst 1, 1) := by decide +kernel
theorem dL_law_2025 : decode cL_law 2025 = .ok (.iadd, 1) := by decide +kernel
theorem dL_law_2026 : decode cL_law 2026 = .ok (.iaload, 1) := by decide +kernel
theorem dL_law_2027 : decode cL_law 2027 = .ok (.aload_n 0, 1) := by decide +kernel
theorem dL_law_2028 : decode cL_law 2028 = .ok (.iload 5, 2) := by decide +kernel
theorem dL_law_2030 : decode cL_law 2030 = .ok (.iconst 2, 1) := by decide +kernel
theorem dL_law_2031 : decode cL_law 2031 = .ok (.iadd, 1) := by decide +kernel
theorem dL_law_2032 : decode cL_law 2032 = .ok (.iaload, 1) := by decide +kernel
theorem dL_law_2033 : decode cL_law 2033 = .ok (.aload_n 0, 1) := by decide +kernel
theorem dL_law_2034 : decode cL_law 2034 = .ok (.iload 5, 2) := by decide +kernel
theorem dL_law_2036 : decode cL_law 2036 = .ok (.iconst 3, 1) := by decide +kernel
theorem dL_law_2037 : decode cL_law 2037 = .ok (.iadd, 1) := by decide +kernel
theorem dL_law_2038 : decode cL_law 2038 = .ok (.iaload, 1) := by decide +kernel
theorem dL_law_2039 : decode cL_law 2039 = .ok (.aload_n 3, 1) := by decide +kernel
theorem dL_law_2040 : decode cL_law 2040 = .ok (.invokestatic 277, 3) := by decide +kernel
theorem dL_law_2043 : decode cL_law 2043 = .ok (.istore 6, 2) := by decide +kernel
theorem dL_law_2045 : decode cL_law 2045 = .ok (.aload_n 2, 1) := by decide +kernel
theorem dL_law_2046 : decode cL_law 2046 = .ok (.aload_n 0, 1) := by decide +kernel
theorem dL_law_2047 : decode cL_law 2047 = .ok (.iload 5, 2) := by decide +kernel
theorem dL_law_2049 : decode cL_law 2049 = .ok (.iconst 1, 1) := by decide +kernel
theorem dL_law_2050 : decode cL_law 2050 = .ok (.iadd, 1) := by decide +kernel
theorem dL_law_2051 : decode cL_law 2051 = .ok (.iaload, 1) := by decide +kernel
theorem dL_law_2052 : decode cL_law 2052 = .ok (.aload_n 0, 1) := by decide +kernel
theorem dL_law_2053 : decode cL_law 2053 = .ok (.iload 5, 2) := by decide +kernel
theorem dL_law_2055 : decode cL_law 2055 = .ok (.iconst 2, 1) := by decide +kernel
theorem dL_law_2056 : decode cL_law 2056 = .ok (.iadd, 1) := by decide +kernel
theorem dL_law_2057 : decode cL_law 2057 = .ok (.iaload, 1) := by decide +kernel
theorem dL_law_2058 : decode cL_law 2058 = .ok (.aload_n 0, 1) := by decide +kernel
theorem dL_law_2059 : decode cL_law 2059 = .ok (.iload 5, 2) := by decide +kernel
theorem dL_law_2061 : decode cL_law 2061 = .ok (.iconst 3, 1) := by decide +kernel
theorem dL_law_2062 : decode cL_law 2062 = .ok (.iadd, 1) := by decide +kernel
theorem dL_law_2063 : decode cL_law 2063 = .ok (.iaload, 1) := by decide +kernel
theorem dL_law_2064 : decode cL_law 2064 = .ok (.invokevirtual 279, 3) := by decide +kernel
theorem dL_law_2067 : decode cL_law 2067 = .ok (.istore 7, 2) := by decide +kernel
theorem dL_law_2069 : decode cL_law 2069 = .ok (.aload_n 2, 1) := by decide +kernel
theorem dL_law_2070 : decode cL_law 2070 = .ok (.invokevirtual 172, 3) := by decide +kernel
theorem dL_law_2073 : decode cL_law 2073 = .ok (.iload 6, 2) := by decide +kernel
theorem dL_law_2075 : decode cL_law 2075 = .ok (.if_icmp .eq 5, 3) := by decide +kernel
theorem dL_law_2078 : decode cL_law 2078 = .ok (.iconst 0, 1) := by decide +kernel
theorem dL_law_2079 : decode cL_law 2079 = .ok (.ireturn, 1) := by decide +kernel
theorem dL_law_2080 : decode cL_law 2080 = .ok (.iload 6, 2) := by decide +kernel
theorem dL_law_2082 : decode cL_law 2082 = .ok (.ifCond .ne 22, 3) := by decide +kernel
theorem dL_law_2085 : decode cL_law 2085 = .ok (.aload_n 3, 1) := by decide +kernel
theorem dL_law_2086 : decode cL_law 2086 = .ok (.iconst 0, 1) := by decide +kernel
theorem dL_law_2087 : decode cL_law 2087 = .ok (.laload, 1) := by decide +kernel
theorem dL_law_2088 : decode cL_law 2088 = .ok (.iload 7, 2) := by decide +kernel
theorem dL_law_2090 : decode cL_law 2090 = .ok (.ifCond .eq 7, 3) := by decide +kernel
theorem dL_law_2093 : decode cL_law 2093 = .ok (.lconst 1, 1) := by decide +kernel
theorem dL_law_2094 : decode cL_law 2094 = .ok (.goto 4, 3) := by decide +kernel
theorem dL_law_2097 : decode cL_law 2097 = .ok (.lconst 0, 1) := by decide +kernel
theorem dL_law_2098 : decode cL_law 2098 = .ok (.lcmp, 1) := by decide +kernel
theorem dL_law_2099 : decode cL_law 2099 = .ok (.ifCond .eq 5, 3) := by decide +kernel
theorem dL_law_2102 : decode cL_law 2102 = .ok (.iconst 0, 1) := by decide +kernel
theorem dL_law_2103 : decode cL_law 2103 = .ok (.ireturn, 1) := by decide +kernel
theorem dL_law_2104 : decode cL_law 2104 = .ok (.goto 1334, 3) := by decide +kernel
theorem dL_law_2107 : decode cL_law 2107 = .ok (.aload_n 1, 1) := by decide +kernel
theorem dL_law_2108 : decode cL_law 2108 = .ok (.aload_n 0, 1) := by decide +kernel
theorem dL_law_2109 : decode cL_law 2109 = .ok (.iload 5, 2) := by decide +kernel
theorem dL_law_2111 : decode cL_law 2111 = .ok (.iconst 1, 1) := by decide +kernel
theorem dL_law_2112 : decode cL_law 2112 = .ok (.iadd, 1) := by decide +kernel
theorem dL_law_2113 : decode cL_law 2113 = .ok (.iaload, 1) := by decide +kernel
theorem dL_law_2114 : decode cL_law 2114 = .ok (.aload_n 3, 1) := by decide +kernel
theorem dL_law_2115 : decode cL_law 2115 = .ok (.invokestatic 280, 3) := by decide +kernel
theorem dL_law_2118 : decode cL_law 2118 = .ok (.istore 6, 2) := by decide +kernel
theorem dL_law_2120 : decode cL_law 2120 = .ok (.aload_n 2, 1) := by decide +kernel
theorem dL_law_2121 : decode cL_law 2121 = .ok (.aload_n 0, 1) := by decide +kernel
theorem dL_law_2122 : decode cL_law 2122 = .ok (.iload 5, 2) := by decide +kernel
theorem dL_law_2124 : decode cL_law 2124 = .ok (.iconst 1, 1) := by decide +kernel
theorem dL_law_2125 : decode cL_law 2125 = .ok (.iadd, 1) := by decide +kernel
theorem dL_law_2126 : decode cL_law 2126 = .ok (.iaload, 1) := by decide +kernel
theorem dL_law_2127 : decode cL_law 2127 = .ok (.invokevirtual 282, 3) := by decide +kernel
theorem dL_law_2130 : decode cL_law 2130 = .ok (.istore 7, 2) := by decide +kernel
theorem dL_law_2132 : decode cL_law 2132 = .ok (.aload_n 2, 1) := by decide +kernel
theorem dL_law_2133 : decode cL_law 2133 = .ok (.invokevirtual 172, 3) := by decide +kernel
theorem dL_law_2136 : decode cL_law 2136 = .ok (.iload 6, 2) := by decide +kernel
theorem dL_law_2138 : decode cL_law 2138 = .ok (.if_icmp .eq 5, 3) := by decide +kernel
theorem dL_law_2141 : decode cL_law 2141 = .ok (.iconst 0, 1) := by decide +kernel
theorem dL_law_2142 : decode cL_law 2142 = .ok (.ireturn, 1) := by decide +kernel
theorem dL_law_2143 : decode cL_law 2143 = .ok (.iload 6, 2) := by decide +kernel
theorem dL_law_2145 : decode cL_law 2145 = .ok (.ifCond .ne 15, 3) := by decide +kernel
theorem dL_law_2148 : decode cL_law 2148 = .ok (.aload_n 3, 1) := by decide +kernel
theorem dL_law_2149 : decode cL_law 2149 = .ok (.iconst 0, 1) := by decide +kernel
theorem dL_law_2150 : decode cL_law 2150 = .ok (.laload, 1) := by decide +kernel
theorem dL_law_2151 : decode cL_law 2151 = .ok (.iload 7, 2) := by decide +kernel
theorem dL_law_2153 : decode cL_law 2153 = .ok (.i2l, 1) := by decide +kernel
theorem dL_law_2154 : decode cL_law 2154 = .ok (.lcmp, 1) := by decide +kernel
theorem dL_law_2155 : decode cL_law 2155 = .ok (.ifCond .eq 5, 3) := by decide +kernel
theorem dL_law_2158 : decode cL_law 2158 = .ok (.iconst 0, 1) := by decide +kernel
theorem dL_law_2159 : decode cL_law 2159 = .ok (.ireturn, 1) := by decide +kernel
theorem dL_law_2160 : decode cL_law 2160 = .ok (.goto 1278, 3) := by decide +kernel
theorem dL_law_2163 : decode cL_law 2163 = .ok (.aload_n 1, 1) := by decide +kernel
theorem dL_law_2164 : decode cL_law 2164 = .ok (.aload_n 0, 1) := by decide +kernel
theorem dL_law_2165 : decode cL_law 2165 = .ok (.iload 5, 2) := by decide +kernel
theorem dL_law_2167 : decode cL_law 2167 = .ok (.iconst 1, 1) := by decide +kernel
theorem dL_law_2168 : decode cL_law 2168 = .ok (.iadd, 1) := by decide +kernel
theorem dL_law_2169 : decode cL_law 2169 = .ok (.iaload, 1) := by decide +kernel
theorem dL_law_2170 : decode cL_law 2170 = .ok (.aload_n 3, 1) := by decide +kernel
theorem dL_law_2171 : decode cL_law 2171 = .ok (.invokestatic 283, 3) := by decide +kernel
theorem dL_law_2174 : decode cL_law 2174 = .ok (.istore 6, 2) := by decide +kernel
theorem dL_law_2176 : decode cL_law 2176 = .ok (.aload_n 2, 1) := by decide +kernel
theorem dL_law_2177 : decode cL_law 2177 = .ok (.aload_n 0, 1) := by decide +kernel
theorem dL_law_2178 : decode cL_law 2178 = .ok (.iload 5, 2) := by decide +kernel
theorem dL_law_2180 : decode cL_law 2180 = .ok (.iconst 1, 1) := by decide +kernel
theorem dL_law_2181 : decode cL_law 2181 = .ok (.iadd, 1) := by decide +kernel
theorem dL_law_2182 : decode cL_law 2182 = .ok (.iaload, 1) := by decide +kernel
theorem dL_law_2183 : decode cL_law 2183 = .ok (.invokevirtual 285, 3) := by decide +kernel
theorem dL_law_2186 : decode cL_law 2186 = .ok (.istore 7, 2) := by decide +kernel
theorem dL_law_2188 : decode cL_law 2188 = .ok (.aload_n 2, 1) := by decide +kernel
theorem dL_law_2189 : decode cL_law 2189 = .ok (.invokevirtual 172, 3) := by decide +kernel
theorem dL_law_2192 : decode cL_law 2192 = .ok (.iload 6, 2) := by decide +kernel
theorem dL_law_2194 : decode cL_law 2194 = .ok (.if_icmp .eq 5, 3) := by decide +kernel
theorem dL_law_2197 : decode cL_law 2197 = .ok (.iconst 0, 1) := by decide +kernel
theorem dL_law_2198 : decode cL_law 2198 = .ok (.ireturn, 1) := by decide +kernel
theorem dL_law_2199 : decode cL_law 2199 = .ok (.iload 6, 2) := by decide +kernel
theorem dL_law_2201 : decode cL_law 2201 = .ok (.ifCond .ne 22, 3) := by decide +kernel
theorem dL_law_2204 : decode cL_law 2204 = .ok (.aload_n 3, 1) := by decide +kernel
theorem dL_law_2205 : decode cL_law 2205 = .ok (.iconst 0, 1) := by decide +kernel
theorem dL_law_2206 : decode cL_law 2206 = .ok (.laload, 1) := by decide +kernel
theorem dL_law_2207 : decode cL_law 2207 = .ok (.iload 7, 2) := by decide +kernel
theorem dL_law_2209 : decode cL_law 2209 = .ok (.ifCond .eq 7, 3) := by decide +kernel
theorem dL_law_2212 : decode cL_law 2212 = .ok (.lconst 1, 1) := by decide +kernel
theorem dL_law_2213 : decode cL_law 2213 = .ok (.goto 4, 3) := by decide +kernel
theorem dL_law_2216 : decode cL_law 2216 = .ok (.lconst 0, 1) := by decide +kernel
theorem dL_law_2217 : decode cL_law 2217 = .ok (.lcmp, 1) := by decide +kernel
theorem dL_law_2218 : decode cL_law 2218 = .ok (.ifCond .eq 5, 3) := by decide +kernel
theorem dL_law_2221 : decode cL_law 2221 = .ok (.iconst 0, 1) := by decide +kernel
theorem dL_law_2222 : decode cL_law 2222 = .ok (.ireturn, 1) := by decide +kernel
theorem dL_law_2223 : decode cL_law 2223 = .ok (.goto 1215, 3) := by decide +kernel
theorem dL_law_2226 : decode cL_law 2226 = .ok (.aload_n 1, 1) := by decide +kernel
theorem dL_law_2227 : decode cL_law 2227 = .ok (.aload_n 0, 1) := by decide +kernel
theorem dL_law_2228 : decode cL_law 2228 = .ok (.iload 5, 2) := by decide +kernel
theorem dL_law_2230 : decode cL_law 2230 = .ok (.iconst 1, 1) := by decide +kernel
theorem dL_law_2231 : decode cL_law 2231 = .ok (.iadd, 1) := by decide +kernel
theorem dL_law_2232 : decode cL_law 2232 = .ok (.iaload, 1) := by decide +kernel
theorem dL_law_2233 : decode cL_law 2233 = .ok (.aload_n 0, 1) := by decide +kernel
theorem dL_law_2234 : decode cL_law 2234 = .ok (.iload 5, 2) := by decide +kernel
theorem dL_law_2236 : decode cL_law 2236 = .ok (.iconst 2, 1) := by decide +kernel
theorem dL_law_2237 : decode cL_law 2237 = .ok (.iadd, 1) := by decide +kernel
theorem dL_law_2238 : decode cL_law 2238 = .ok (.iaload, 1) := by decide +kernel
theorem dL_law_2239 : decode cL_law 2239 = .ok (.aload_n 3, 1) := by decide +kernel
theorem dL_law_2240 : decode cL_law 2240 = .ok (.invokestatic 286, 3) := by decide +kernel
theorem dL_law_2243 : decode cL_law 2243 = .ok (.istore 6, 2) := by decide +kernel
theorem dL_law_2245 : decode cL_law 2245 = .ok (.aload_n 2, 1) := by decide +kernel
theorem dL_law_2246 : decode cL_law 2246 = .ok (.aload_n 0, 1) := by decide +kernel
theorem dL_law_2247 : decode cL_law 2247 = .ok (.iload 5, 2) := by decide +kernel
theorem dL_law_2249 : decode cL_law 2249 = .ok (.iconst 1, 1) := by decide +kernel
theorem dL_law_2250 : decode cL_law 2250 = .ok (.iadd, 1) := by decide +kernel
theorem dL_law_2251 : decode cL_law 2251 = .ok (.iaload, 1) := by decide +kernel
theorem dL_law_2252 : decode cL_law 2252 = .ok (.aload_n 0, 1) := by decide +kernel
theorem dL_law_2253 : decode cL_law 2253 = .ok (.iload 5, 2) := by decide +kernel
theorem dL_law_2255 : decode cL_law 2255 = .ok (.iconst 2, 1) := by decide +kernel
theorem dL_law_2256 : decode cL_law 2256 = .ok (.iadd, 1) := by decide +kernel
theorem dL_law_2257 : decode cL_law 2257 = .ok (.iaload, 1) := by decide +kernel
theorem dL_law_2258 : decode cL_law 2258 = .ok (.invokevirtual 288, 3) := by decide +kernel
theorem dL_law_2261 : decode cL_law 2261 = .ok (.lstore 7, 2) := by decide +kernel
theorem dL_law_2263 : decode cL_law 2263 = .ok (.aload_n 2, 1) := by decide +kernel
theorem dL_law_2264 : decode cL_law 2264 = .ok (.invokevirtual 172, 3) := by decide +kernel
theorem dL_law_2267 : decode cL_law 2267 = .ok (.iload 6, 2) := by decide +kernel
theorem dL_law_2269 : decode cL_law 2269 = .ok (.if_icmp .eq 5, 3) := by decide +kernel
theorem dL_law_2272 : decode cL_law 2272 = .ok (.iconst 0, 1) := by decide +kernel
theorem dL_law_2273 : decode cL_law 2273 = .ok (.ireturn, 1) := by decide +kernel
theorem dL_law_2274 : decode cL_law 2274 = .ok (.iload 6, 2) := by decide +kernel
theorem dL_law_2276 : decode cL_law 2276 = .ok (.ifCond .ne 14, 3) := by decide +kernel
theorem dL_law_2279 : decode cL_law 2279 = .ok (.aload_n 3, 1) := by decide +kernel
theorem dL_law_2280 : decode cL_law 2280 = .ok (.iconst 0, 1) := by decide +kernel
theorem dL_law_2281 : decode cL_law 2281 = .ok (.laload, 1) := by decide +kernel
theorem dL_law_2282 : decode cL_law 2282 = .ok (.lload 7, 2) := by decide +kernel
theorem dL_law_2284 : decode cL_law 2284 = .ok (.lcmp, 1) := by decide +kernel
theorem dL_law_2285 : decode cL_law 2285 = .ok (.ifCond .eq 5, 3) := by decide +kernel
theorem dL_law_2288 : decode cL_law 2288 = .ok (.iconst 0, 1) := by decide +kernel
theorem dL_law_2289 : decode cL_law 2289 = .ok (.ireturn, 1) := by decide +kernel
theorem dL_law_2290 : decode cL_law 2290 = .ok (.goto 1148, 3) := by decide +kernel
theorem dL_law_2293 : decode cL_law 2293 = .ok (.aload_n 1, 1) := by decide +kernel
theorem dL_law_2294 : decode cL_law 2294 = .ok (.aload_n 0, 1) := by decide +kernel
theorem dL_law_2295 : decode cL_law 2295 = .ok (.iload 5, 2) := by decide +kernel
theorem dL_law_2297 : decode cL_law 2297 = .ok (.iconst 1, 1) := by decide +kernel
theorem dL_law_2298 : decode cL_law 2298 = .ok (.iadd, 1) := by decide +kernel
theorem dL_law_2299 : decode cL_law 2299 = .ok (.iaload, 1) := by decide +kernel
theorem dL_law_2300 : decode cL_law 2300 = .ok (.aload_n 0, 1) := by decide +kernel
theorem dL_law_2301 : decode cL_law 2301 = .ok (.iload 5, 2) := by decide +kernel
theorem dL_law_2303 : decode cL_law 2303 = .ok (.iconst 2, 1) := by decide +kernel
theorem dL_law_2304 : decode cL_law 2304 = .ok (.iadd, 1) := by decide +kernel
theorem dL_law_2305 : decode cL_law 2305 = .ok (.iaload, 1) := by decide +kernel
theorem dL_law_2306 : decode cL_law 2306 = .ok (.aload_n 3, 1) := by decide +kernel
theorem dL_law_2307 : decode cL_law 2307 = .ok (.invokestatic 289, 3) := by decide +kernel
theorem dL_law_2310 : decode cL_law 2310 = .ok (.istore 6, 2) := by decide +kernel
theorem dL_law_2312 : decode cL_law 2312 = .ok (.aload_n 2, 1) := by decide +kernel
theorem dL_law_2313 : decode cL_law 2313 = .ok (.aload_n 0, 1) := by decide +kernel
theorem dL_law_2314 : decode cL_law 2314 = .ok (.iload 5, 2) := by decide +kernel
theorem dL_law_2316 : decode cL_law 2316 = .ok (.iconst 1, 1) := by decide +kernel
theorem dL_law_2317 : decode cL_law 2317 = .ok (.iadd, 1) := by decide +kernel
theorem dL_law_2318 : decode cL_law 2318 = .ok (.iaload, 1) := by decide +kernel
theorem dL_law_2319 : decode cL_law 2319 = .ok (.aload_n 0, 1) := by decide +kernel
theorem dL_law_2320 : decode cL_law 2320 = .ok (.iload 5, 2) := by decide +kernel
theorem dL_law_2322 : decode cL_law 2322 = .ok (.iconst 2, 1) := by decide +kernel
theorem dL_law_2323 : decode cL_law 2323 = .ok (.iadd, 1) := by decide +kernel
theorem dL_law_2324 : decode cL_law 2324 = .ok (.iaload, 1) := by decide +kernel
theorem dL_law_2325 : decode cL_law 2325 = .ok (.invokevirtual 291, 3) := by decide +kernel
theorem dL_law_2328 : decode cL_law 2328 = .ok (.lstore 7, 2) := by decide +kernel
theorem dL_law_2330 : decode cL_law 2330 = .ok (.aload_n 2, 1) := by decide +kernel
theorem dL_law_2331 : decode cL_law 2331 = .ok (.invokevirtual 172, 3) := by decide +kernel
theorem dL_law_2334 : decode cL_law 2334 = .ok (.iload 6, 2) := by decide +kernel
theorem dL_law_2336 : decode cL_law 2336 = .ok (.if_icmp .eq 5, 3) := by decide +kernel
theorem dL_law_2339 : decode cL_law 2339 = .ok (.iconst 0, 1) := by decide +kernel
theorem dL_law_2340 : decode cL_law 2340 = .ok (.ireturn, 1) := by decide +kernel
theorem dL_law_2341 : decode cL_law 2341 = .ok (.iload 6, 2) := by decide +kernel
theorem dL_law_2343 : decode cL_law 2343 = .ok (.ifCond .ne 14, 3) := by decide +kernel
theorem dL_law_2346 : decode cL_law 2346 = .ok (.aload_n 3, 1) := by decide +kernel
theorem dL_law_2347 : decode cL_law 2347 = .ok (.iconst 0, 1) := by decide +kernel
theorem dL_law_2348 : decode cL_law 2348 = .ok (.laload, 1) := by decide +kernel
theorem dL_law_2349 : decode cL_law 2349 = .ok (.lload 7, 2) := by decide +kernel
theorem dL_law_2351 : decode cL_law 2351 = .ok (.lcmp, 1) := by decide +kernel
theorem dL_law_2352 : decode cL_law 2352 = .ok (.ifCond .eq 5, 3) := by decide +kernel
theorem dL_law_2355 : decode cL_law 2355 = .ok (.iconst 0, 1) := by decide +kernel
theorem dL_law_2356 : decode cL_law 2356 = .ok (.ireturn, 1) := by decide +kernel
theorem dL_law_2357 : decode cL_law 2357 = .ok (.goto 1081, 3) := by decide +kernel
theorem dL_law_2360 : decode cL_law 2360 = .ok (.aload_n 1, 1) := by decide +kernel
theorem dL_law_2361 : decode cL_law 2361 = .ok (.aload_n 0, 1) := by decide +kernel
theorem dL_law_2362 : decode cL_law 2362 = .ok (.iload 5, 2) := by decide +kernel
theorem dL_law_2364 : decode cL_law 2364 = .ok (.iconst 1, 1) := by decide +kernel
theorem dL_law_2365 : decode cL_law 2365 = .ok (.iadd, 1) := by decide +kernel
theorem dL_law_2366 : decode cL_law 2366 = .ok (.iaload, 1) := by decide +kernel
theorem dL_law_2367 : decode cL_law 2367 = .ok (.aload_n 3, 1) := by decide +kernel
theorem dL_law_2368 : decode cL_law 2368 = .ok (.invokestatic 292, 3) := by decide +kernel
theorem dL_law_2371 : decode cL_law 2371 = .ok (.istore 6, 2) := by decide +kernel
theorem dL_law_2373 : decode cL_law 2373 = .ok (.aload_n 2, 1) := by decide +kernel
theorem dL_law_2374 : decode cL_law 2374 = .ok (.aload_n 0, 1) := by decide +kernel
theorem dL_law_2375 : decode cL_law 2375 = .ok (.iload 5, 2) := by decide +kernel
theorem dL_law_2377 : decode cL_law 2377 = .ok (.iconst 1, 1) := by decide +kernel
theorem dL_law_2378 : decode cL_law 2378 = .ok (.iadd, 1) := by decide +kernel
theorem dL_law_2379 : decode cL_law 2379 = .ok (.iaload, 1) := by decide +kernel
theorem dL_law_2380 : decode cL_law 2380 = .ok (.invokevirtual 294, 3) := by decide +kernel
theorem dL_law_2383 : decode cL_law 2383 = .ok (.istore 7, 2) := by decide +kernel
theorem dL_law_2385 : decode cL_law 2385 = .ok (.aload_n 2, 1) := by decide +kernel
theorem dL_law_2386 : decode cL_law 2386 = .ok (.invokevirtual 172, 3) := by decide +kernel
theorem dL_law_2389 : decode cL_law 2389 = .ok (.iload 6, 2) := by decide +kernel
theorem dL_law_2391 : decode cL_law 2391 = .ok (.if_icmp .eq 5, 3) := by decide +kernel
theorem dL_law_2394 : decode cL_law 2394 = .ok (.iconst 0, 1) := by decide +kernel
theorem dL_law_2395 : decode cL_law 2395 = .ok (.ireturn, 1) := by decide +kernel
theorem dL_law_2396 : decode cL_law 2396 = .ok (.iload 6, 2) := by decide +kernel
theorem dL_law_2398 : decode cL_law 2398 = .ok (.ifCond .ne 15, 3) := by decide +kernel
theorem dL_law_2401 : decode cL_law 2401 = .ok (.aload_n 3, 1) := by decide +kernel
theorem dL_law_2402 : decode cL_law 2402 = .ok (.iconst 0, 1) := by decide +kernel
theorem dL_law_2403 : decode cL_law 2403 = .ok (.laload, 1) := by decide +kernel
theorem dL_law_2404 : decode cL_law 2404 = .ok (.iload 7, 2) := by decide +kernel
theorem dL_law_2406 : decode cL_law 2406 = .ok (.i2l, 1) := by decide +kernel
theorem dL_law_2407 : decode cL_law 2407 = .ok (.lcmp, 1) := by decide +kernel
theorem dL_law_2408 : decode cL_law 2408 = .ok (.ifCond .eq 5, 3) := by decide +kernel
theorem dL_law_2411 : decode cL_law 2411 = .ok (.iconst 0, 1) := by decide +kernel
theorem dL_law_2412 : decode cL_law 2412 = .ok (.ireturn, 1) := by decide +kernel
theorem dL_law_2413 : decode cL_law 2413 = .ok (.goto 1025, 3) := by decide +kernel
theorem dL_law_2416 : decode cL_law 2416 = .ok (.aload_n 1, 1) := by decide +kernel
theorem dL_law_2417 : decode cL_law 2417 = .ok (.aload_n 0, 1) := by decide +kernel
theorem dL_law_2418 : decode cL_law 2418 = .ok (.iload 5, 2) := by decide +kernel
theorem dL_law_2420 : decode cL_law 2420 = .ok (.iconst 1, 1) := by decide +kernel
theorem dL_law_2421 : decode cL_law 2421 = .ok (.iadd, 1) := by decide +kernel
theorem dL_law_2422 : decode cL_law 2422 = .ok (.iaload, 1) := by decide +kernel
theorem dL_law_2423 : decode cL_law 2423 = .ok (.aload_n 3, 1) := by decide +kernel
theorem dL_law_2424 : decode cL_law 2424 = .ok (.invokestatic 295, 3) := by decide +kernel
theorem dL_law_2427 : decode cL_law 2427 = .ok (.istore 6, 2) := by decide +kernel
theorem dL_law_2429 : decode cL_law 2429 = .ok (.aload_n 2, 1) := by decide +kernel
theorem dL_law_2430 : decode cL_law 2430 = .ok (.aload_n 0, 1) := by decide +kernel
theorem dL_law_2431 : decode cL_law 2431 = .ok (.iload 5, 2) := by decide +kernel
theorem dL_law_2433 : decode cL_law 2433 = .ok (.iconst 1, 1) := by decide +kernel
theorem dL_law_2434 : decode cL_law 2434 = .ok (.iadd, 1) := by decide +kernel
theorem dL_law_2435 : decode cL_law 2435 = .ok (.iaload, 1) := by decide +kernel
theorem dL_law_2436 : decode cL_law 2436 = .ok (.invokevirtual 297, 3) := by decide +kernel
theorem dL_law_2439 : decode cL_law 2439 = .ok (.istore 7, 2) := by decide +kernel
theorem dL_law_2441 : decode cL_law 2441 = .ok (.aload_n 2, 1) := by decide +kernel
theorem dL_law_2442 : decode cL_law 2442 = .ok (.invokevirtual 172, 3) := by decide +kernel
theorem dL_law_2445 : decode cL_law 2445 = .ok (.iload 6, 2) := by decide +kernel
theorem dL_law_2447 : decode cL_law 2447 = .ok (.if_icmp .eq 5, 3) := by decide +kernel
theorem dL_law_2450 : decode cL_law 2450 = .ok (.iconst 0, 1) := by decide +kernel
theorem dL_law_2451 : decode cL_law 2451 = .ok (.ireturn, 1) := by decide +kernel
theorem dL_law_2452 : decode cL_law 2452 = .ok (.iload 6, 2) := by decide +kernel
theorem dL_law_2454 : decode cL_law 2454 = .ok (.ifCond .ne 22, 3) := by decide +kernel
theorem dL_law_2457 : decode cL_law 2457 = .ok (.aload_n 3, 1) := by decide +kernel
theorem dL_law_2458 : decode cL_law 2458 = .ok (.iconst 0, 1) := by decide +kernel
theorem dL_law_2459 : decode cL_law 2459 = .ok (.laload, 1) := by decide +kernel
theorem dL_law_2460 : decode cL_law 2460 = .ok (.iload 7, 2) := by decide +kernel
theorem dL_law_2462 : decode cL_law 2462 = .ok (.ifCond .eq 7, 3) := by decide +kernel
theorem dL_law_2465 : decode cL_law 2465 = .ok (.lconst 1, 1) := by decide +kernel
theorem dL_law_2466 : decode cL_law 2466 = .ok (.goto 4, 3) := by decide +kernel
theorem dL_law_2469 : decode cL_law 2469 = .ok (.lconst 0, 1) := by decide +kernel
theorem dL_law_2470 : decode cL_law 2470 = .ok (.lcmp, 1) := by decide +kernel
theorem dL_law_2471 : decode cL_law 2471 = .ok (.ifCond .eq 5, 3) := by decide +kernel
theorem dL_law_2474 : decode cL_law 2474 = .ok (.iconst 0, 1) := by decide +kernel
theorem dL_law_2475 : decode cL_law 2475 = .ok (.ireturn, 1) := by decide +kernel
theorem dL_law_2476 : decode cL_law 2476 = .ok (.goto 962, 3) := by decide +kernel
theorem dL_law_2479 : decode cL_law 2479 = .ok (.aload_n 1, 1) := by decide +kernel
theorem dL_law_2480 : decode cL_law 2480 = .ok (.aload_n 0, 1) := by decide +kernel
theorem dL_law_2481 : decode cL_law 2481 = .ok (.iload 5, 2) := by decide +kernel
theorem dL_law_2483 : decode cL_law 2483 = .ok (.iconst 1, 1) := by decide +kernel
theorem dL_law_2484 : decode cL_law 2484 = .ok (.iadd, 1) := by decide +kernel
theorem dL_law_2485 : decode cL_law 2485 = .ok (.iaload, 1) := by decide +kernel
theorem dL_law_2486 : decode cL_law 2486 = .ok (.aload_n 3, 1) := by decide +kernel
theorem dL_law_2487 : decode cL_law 2487 = .ok (.invokestatic 298, 3) := by decide +kernel
theorem dL_law_2490 : decode cL_law 2490 = .ok (.istore 6, 2) := by decide +kernel
theorem dL_law_2492 : decode cL_law 2492 = .ok (.aload_n 2, 1) := by decide +kernel
theorem dL_law_2493 : decode cL_law 2493 = .ok (.aload_n 0, 1) := by decide +kernel
theorem dL_law_2494 : decode cL_law 2494 = .ok (.iload 5, 2) := by decide +kernel
theorem dL_law_2496 : decode cL_law 2496 = .ok (.iconst 1, 1) := by decide +kernel
theorem dL_law_2497 : decode cL_law 2497 = .ok (.iadd, 1) := by decide +kernel
theorem dL_law_2498 : decode cL_law 2498 = .ok (.iaload, 1) := by decide +kernel
theorem dL_law_2499 : decode cL_law 2499 = .ok (.invokevirtual 300, 3) := by decide +kernel
theorem dL_law_2502 : decode cL_law 2502 = .ok (.istore 7, 2) := by decide +kernel
theorem dL_law_2504 : decode cL_law 2504 = .ok (.aload_n 2, 1) := by decide +kernel
theorem dL_law_2505 : decode cL_law 2505 = .ok (.invokevirtual 172, 3) := by decide +kernel
theorem dL_law_2508 : decode cL_law 2508 = .ok (.iload 6, 2) := by decide +kernel
theorem dL_law_2510 : decode cL_law 2510 = .ok (.if_icmp .eq 5, 3) := by decide +kernel
theorem dL_law_2513 : decode cL_law 2513 = .ok (.iconst 0, 1) := by decide +kernel
theorem dL_law_2514 : decode cL_law 2514 = .ok (.ireturn, 1) := by decide +kernel
theorem dL_law_2515 : decode cL_law 2515 = .ok (.iload 6, 2) := by decide +kernel
theorem dL_law_2517 : decode cL_law 2517 = .ok (.ifCond .ne 15, 3) := by decide +kernel
theorem dL_law_2520 : decode cL_law 2520 = .ok (.aload_n 3, 1) := by decide +kernel
theorem dL_law_2521 : decode cL_law 2521 = .ok (.iconst 0, 1) := by decide +kernel
theorem dL_law_2522 : decode cL_law 2522 = .ok (.laload, 1) := by decide +kernel
theorem dL_law_2523 : decode cL_law 2523 = .ok (.iload 7, 2) := by decide +kernel
theorem dL_law_2525 : decode cL_law 2525 = .ok (.i2l, 1) := by decide +kernel
theorem dL_law_2526 : decode cL_law 2526 = .ok (.lcmp, 1) := by decide +kernel
theorem dL_law_2527 : decode cL_law 2527 = .ok (.ifCond .eq 5, 3) := by decide +kernel
theorem dL_law_2530 : decode cL_law 2530 = .ok (.iconst 0, 1) := by decide +kernel
theorem dL_law_2531 : decode cL_law 2531 = .ok (.ireturn, 1) := by decide +kernel
theorem dL_law_2532 : decode cL_law 2532 = .ok (.goto 906, 3) := by decide +kernel
theorem dL_law_2535 : decode cL_law 2535 = .ok (.aload_n 1, 1) := by decide +kernel
theorem dL_law_2536 : decode cL_law 2536 = .ok (.aload_n 0, 1) := by decide +kernel
theorem dL_law_2537 : decode cL_law 2537 = .ok (.iload 5, 2) := by decide +kernel
theorem dL_law_2539 : decode cL_law 2539 = .ok (.iconst 1, 1) := by decide +kernel
theorem dL_law_2540 : decode cL_law 2540 = .ok (.iadd, 1) := by decide +kernel
theorem dL_law_2541 : decode cL_law 2541 = .ok (.iaload, 1) := by decide +kernel
theorem dL_law_2542 : decode cL_law 2542 = .ok (.aload_n 3, 1) := by decide +kernel
theorem dL_law_2543 : decode cL_law 2543 = .ok (.invokestatic 301, 3) := by decide +kernel
theorem dL_law_2546 : decode cL_law 2546 = .ok (.istore 6, 2) := by decide +kernel
theorem dL_law_2548 : decode cL_law 2548 = .ok (.aload_n 2, 1) := by decide +kernel
theorem dL_law_2549 : decode cL_law 2549 = .ok (.aload_n 0, 1) := by decide +kernel
theorem dL_law_2550 : decode cL_law 2550 = .ok (.iload 5, 2) := by decide +kernel
theorem dL_law_2552 : decode cL_law 2552 = .ok (.iconst 1, 1) := by decide +kernel
theorem dL_law_2553 : decode cL_law 2553 = .ok (.iadd, 1) := by decide +kernel
theorem dL_law_2554 : decode cL_law 2554 = .ok (.iaload, 1) := by decide +kernel
theorem dL_law_2555 : decode cL_law 2555 = .ok (.invokevirtual 303, 3) := by decide +kernel
theorem dL_law_2558 : decode cL_law 2558 = .ok (.istore 7, 2) := by decide +kernel
theorem dL_law_2560 : decode cL_law 2560 = .ok (.aload_n 2, 1) := by decide +kernel
theorem dL_law_2561 : decode cL_law 2561 = .ok (.invokevirtual 172, 3) := by decide +kernel
theorem dL_law_2564 : decode cL_law 2564 = .ok (.iload 6, 2) := by decide +kernel
theorem dL_law_2566 : decode cL_law 2566 = .ok (.if_icmp .eq 5, 3) := by decide +kernel
theorem dL_law_2569 : decode cL_law 2569 = .ok (.iconst 0, 1) := by decide +kernel
theorem dL_law_2570 : decode cL_law 2570 = .ok (.ireturn, 1) := by decide +kernel
theorem dL_law_2571 : decode cL_law 2571 = .ok (.iload 6, 2) := by decide +kernel
theorem dL_law_2573 : decode cL_law 2573 = .ok (.ifCond .ne 22, 3) := by decide +kernel
theorem dL_law_2576 : decode cL_law 2576 = .ok (.aload_n 3, 1) := by decide +kernel
theorem dL_law_2577 : decode cL_law 2577 = .ok (.iconst 0, 1) := by decide +kernel
theorem dL_law_2578 : decode cL_law 2578 = .ok (.laload, 1) := by decide +kernel
theorem dL_law_2579 : decode cL_law 2579 = .ok (.iload 7, 2) := by decide +kernel
theorem dL_law_2581 : decode cL_law 2581 = .ok (.ifCond .eq 7, 3) := by decide +kernel
theorem dL_law_2584 : decode cL_law 2584 = .ok (.lconst 1, 1) := by decide +kernel
theorem dL_law_2585 : decode cL_law 2585 = .ok (.goto 4, 3) := by decide +kernel
theorem dL_law_2588 : decode cL_law 2588 = .ok (.lconst 0, 1) := by decide +kernel
theorem dL_law_2589 : decode cL_law 2589 = .ok (.lcmp, 1) := by decide +kernel
theorem dL_law_2590 : decode cL_law 2590 = .ok (.ifCond .eq 5, 3) := by decide +kernel
theorem dL_law_2593 : decode cL_law 2593 = .ok (.iconst 0, 1) := by decide +kernel
theorem dL_law_2594 : decode cL_law 2594 = .ok (.ireturn, 1) := by decide +kernel
theorem dL_law_2595 : decode cL_law 2595 = .ok (.goto 843, 3) := by decide +kernel
theorem dL_law_2598 : decode cL_law 2598 = .ok (.aload_n 1, 1) := by decide +kernel
theorem dL_law_2599 : decode cL_law 2599 = .ok (.invokevirtual 304, 3) := by decide +kernel
theorem dL_law_2602 : decode cL_law 2602 = .ok (.aload_n 2, 1) := by decide +kernel
theorem dL_law_2603 : decode cL_law 2603 = .ok (.invokevirtual 307, 3) := by decide +kernel
theorem dL_law_2606 : decode cL_law 2606 = .ok (.if_icmp .eq 832, 3) := by decide +kernel
theorem dL_law_2609 : decode cL_law 2609 = .ok (.iconst 0, 1) := by decide +kernel
theorem dL_law_2610 : decode cL_law 2610 = .ok (.ireturn, 1) := by decide +kernel
theorem dL_law_2611 : decode cL_law 2611 = .ok (.aload_n 1, 1) := by decide +kernel
theorem dL_law_2612 : decode cL_law 2612 = .ok (.invokevirtual 308, 3) := by decide +kernel
theorem dL_law_2615 : decode cL_law 2615 = .ok (.aload_n 2, 1) := by decide +kernel
theorem dL_law_2616 : decode cL_law 2616 = .ok (.invokevirtual 311, 3) := by decide +kernel
theorem dL_law_2619 : decode cL_law 2619 = .ok (.if_icmp .eq 819, 3) := by decide +kernel
theorem dL_law_2622 : decode cL_law 2622 = .ok (.iconst 0, 1) := by decide +kernel
theorem dL_law_2623 : decode cL_law 2623 = .ok (.ireturn, 1) := by decide +kernel
theorem dL_law_2624 : decode cL_law 2624 = .ok (.aload_n 1, 1) := by decide +kernel
theorem dL_law_2625 : decode cL_law 2625 = .ok (.invokevirtual 312, 3) := by decide +kernel
theorem dL_law_2628 : decode cL_law 2628 = .ok (.aload_n 2, 1) := by decide +kernel
theorem dL_law_2629 : decode cL_law 2629 = .ok (.invokevirtual 315, 3) := by decide +kernel
theorem dL_law_2632 : decode cL_law 2632 = .ok (.if_icmp .eq 806, 3) := by decide +kernel
theorem dL_law_2635 : decode cL_law 2635 = .ok (.iconst 0, 1) := by decide +kernel
theorem dL_law_2636 : decode cL_law 2636 = .ok (.ireturn, 1) := by decide +kernel
theorem dL_law_2637 : decode cL_law 2637 = .ok (.aload_n 1, 1) := by decide +kernel
theorem dL_law_2638 : decode cL_law 2638 = .ok (.aload_n 0, 1) := by decide +kernel
theorem dL_law_2639 : decode cL_law 2639 = .ok (.iload 5, 2) := by decide +kernel
theorem dL_law_2641 : decode cL_law 2641 = .ok (.iconst 1, 1) := by decide +kernel
theorem dL_law_2642 : decode cL_law 2642 = .ok (.iadd, 1) := by decide +kernel
theorem dL_law_2643 : decode cL_law 2643 = .ok (.iaload, 1) := by decide +kernel
theorem dL_law_2644 : decode cL_law 2644 = .ok (.aload_n 3, 1) := by decide +kernel
theorem dL_law_2645 : decode cL_law 2645 = .ok (.invokestatic 316, 3) := by decide +kernel
theorem dL_law_2648 : decode cL_law 2648 = .ok (.istore 6, 2) := by decide +kernel
theorem dL_law_2650 : decode cL_law 2650 = .ok (.aload_n 2, 1) := by decide +kernel
theorem dL_law_2651 : decode cL_law 2651 = .ok (.aload_n 0, 1) := by decide +kernel
theorem dL_law_2652 : decode cL_law 2652 = .ok (.iload 5, 2) := by decide +kernel
theorem dL_law_2654 : decode cL_law 2654 = .ok (.iconst 1, 1) := by decide +kernel
theorem dL_law_2655 : decode cL_law 2655 = .ok (.iadd, 1) := by decide +kernel
theorem dL_law_2656 : decode cL_law 2656 = .ok (.iaload, 1) := by decide +kernel
theorem dL_law_2657 : decode cL_law 2657 = .ok (.invokevirtual 318, 3) := by decide +kernel
theorem dL_law_2660 : decode cL_law 2660 = .ok (.istore 7, 2) := by decide +kernel
theorem dL_law_2662 : decode cL_law 2662 = .ok (.aload_n 2, 1) := by decide +kernel
theorem dL_law_2663 : decode cL_law 2663 = .ok (.invokevirtual 172, 3) := by decide +kernel
theorem dL_law_2666 : decode cL_law 2666 = .ok (.iload 6, 2) := by decide +kernel
theorem dL_law_2668 : decode cL_law 2668 = .ok (.if_icmp .eq 5, 3) := by decide +kernel
theorem dL_law_2671 : decode cL_law 2671 = .ok (.iconst 0, 1) := by decide +kernel
theorem dL_law_2672 : decode cL_law 2672 = .ok (.ireturn, 1) := by decide +kernel
theorem dL_law_2673 : decode cL_law 2673 = .ok (.iload 6, 2) := by decide +kernel
theorem dL_law_2675 : decode cL_law 2675 = .ok (.ifCond .ne 22, 3) := by decide +kernel
theorem dL_law_2678 : decode cL_law 2678 = .ok (.aload_n 3, 1) := by decide +kernel
theorem dL_law_2679 : decode cL_law 2679 = .ok (.iconst 0, 1) := by decide +kernel
theorem dL_law_2680 : decode cL_law 2680 = .ok (.laload, 1) := by decide +kernel
theorem dL_law_2681 : decode cL_law 2681 = .ok (.iload 7, 2) := by decide +kernel
theorem dL_law_2683 : decode cL_law 2683 = .ok (.ifCond .eq 7, 3) := by decide +kernel
theorem dL_law_2686 : decode cL_law 2686 = .ok (.lconst 1, 1) := by decide +kernel
theorem dL_law_2687 : decode cL_law 2687 = .ok (.goto 4, 3) := by decide +kernel
theorem dL_law_2690 : decode cL_law 2690 = .ok (.lconst 0, 1) := by decide +kernel
theorem dL_law_2691 : decode cL_law 2691 = .ok (.lcmp, 1) := by decide +kernel
theorem dL_law_2692 : decode cL_law 2692 = .ok (.ifCond .eq 5, 3) := by decide +kernel
theorem dL_law_2695 : decode cL_law 2695 = .ok (.iconst 0, 1) := by decide +kernel
theorem dL_law_2696 : decode cL_law 2696 = .ok (.ireturn, 1) := by decide +kernel
theorem dL_law_2697 : decode cL_law 2697 = .ok (.goto 741, 3) := by decide +kernel
theorem dL_law_2700 : decode cL_law 2700 = .ok (.aload_n 1, 1) := by decide +kernel
theorem dL_law_2701 : decode cL_law 2701 = .ok (.invokevirtual 319, 3) := by decide +kernel
theorem dL_law_2704 : decode cL_law 2704 = .ok (.aload_n 2, 1) := by decide +kernel
theorem dL_law_2705 : decode cL_law 2705 = .ok (.invokevirtual 323, 3) := by decide +kernel
theorem dL_law_2708 : decode cL_law 2708 = .ok (.if_icmp .eq 730, 3) := by decide +kernel
theorem dL_law_2711 : decode cL_law 2711 = .ok (.iconst 0, 1) := by decide +kernel
theorem dL_law_2712 : decode cL_law 2712 = .ok (.ireturn, 1) := by decide +kernel
theorem dL_law_2713 : decode cL_law 2713 = .ok (.aload_n 1, 1) := by decide +kernel
theorem dL_law_2714 : decode cL_law 2714 = .ok (.invokevirtual 324, 3) := by decide +kernel
theorem dL_law_2717 : decode cL_law 2717 = .ok (.aload_n 2, 1) := by decide +kernel
theorem dL_law_2718 : decode cL_law 2718 = .ok (.invokevirtual 327, 3) := by decide +kernel
theorem dL_law_2721 : decode cL_law 2721 = .ok (.if_icmp .eq 717, 3) := by decide +kernel
theorem dL_law_2724 : decode cL_law 2724 = .ok (.iconst 0, 1) := by decide +kernel
theorem dL_law_2725 : decode cL_law 2725 = .ok (.ireturn, 1) := by decide +kernel
theorem dL_law_2726 : decode cL_law 2726 = .ok (.aload_n 1, 1) := by decide +kernel
theorem dL_law_2727 : decode cL_law 2727 = .ok (.aload_n 0, 1) := by decide +kernel
theorem dL_law_2728 : decode cL_law 2728 = .ok (.iload 5, 2) := by decide +kernel
theorem dL_law_2730 : decode cL_law 2730 = .ok (.iconst 1, 1) := by decide +kernel
theorem dL_law_2731 : decode cL_law 2731 = .ok (.iadd, 1) := by decide +kernel
theorem dL_law_2732 : decode cL_law 2732 = .ok (.iaload, 1) := by decide +kernel
theorem dL_law_2733 : decode cL_law 2733 = .ok (.aload_n 3, 1) := by decide +kernel
theorem dL_law_2734 : decode cL_law 2734 = .ok (.invokestatic 328, 3) := by decide +kernel
theorem dL_law_2737 : decode cL_law 2737 = .ok (.istore 6, 2) := by decide +kernel
theorem dL_law_2739 : decode cL_law 2739 = .ok (.aload_n 2, 1) := by decide +kernel
theorem dL_law_2740 : decode cL_law 2740 = .ok (.aload_n 0, 1) := by decide +kernel
theorem dL_law_2741 : decode cL_law 2741 = .ok (.iload 5, 2) := by decide +kernel
theorem dL_law_2743 : decode cL_law 2743 = .ok (.iconst 1, 1) := by decide +kernel
theorem dL_law_2744 : decode cL_law 2744 = .ok (.iadd, 1) := by decide +kernel
theorem dL_law_2745 : decode cL_law 2745 = .ok (.iaload, 1) := by decide +kernel
theorem dL_law_2746 : decode cL_law 2746 = .ok (.invokevirtual 330, 3) := by decide +kernel
theorem dL_law_2749 : decode cL_law 2749 = .ok (.istore 7, 2) := by decide +kernel
theorem dL_law_2751 : decode cL_law 2751 = .ok (.aload_n 2, 1) := by decide +kernel
theorem dL_law_2752 : decode cL_law 2752 = .ok (.invokevirtual 172, 3) := by decide +kernel
theorem dL_law_2755 : decode cL_law 2755 = .ok (.iload 6, 2) := by decide +kernel
theorem dL_law_2757 : decode cL_law 2757 = .ok (.if_icmp .eq 5, 3) := by decide +kernel
theorem dL_law_2760 : decode cL_law 2760 = .ok (.iconst 0, 1) := by decide +kernel
theorem dL_law_2761 : decode cL_law 2761 = .ok (.ireturn, 1) := by decide +kernel
theorem dL_law_2762 : decode cL_law 2762 = .ok (.iload 6, 2) := by decide +kernel
theorem dL_law_2764 : decode cL_law 2764 = .ok (.ifCond .ne 15, 3) := by decide +kernel
theorem dL_law_2767 : decode cL_law 2767 = .ok (.aload_n 3, 1) := by decide +kernel
theorem dL_law_2768 : decode cL_law 2768 = .ok (.iconst 0, 1) := by decide +kernel
theorem dL_law_2769 : decode cL_law 2769 = .ok (.laload, 1) := by decide +kernel
theorem dL_law_2770 : decode cL_law 2770 = .ok (.iload 7, 2) := by decide +kernel
theorem dL_law_2772 : decode cL_law 2772 = .ok (.i2l, 1) := by decide +kernel
theorem dL_law_2773 : decode cL_law 2773 = .ok (.lcmp, 1) := by decide +kernel
theorem dL_law_2774 : decode cL_law 2774 = .ok (.ifCond .eq 5, 3) := by decide +kernel
theorem dL_law_2777 : decode cL_law 2777 = .ok (.iconst 0, 1) := by decide +kernel
theorem dL_law_2778 : decode cL_law 2778 = .ok (.ireturn, 1) := by decide +kernel
theorem dL_law_2779 : decode cL_law 2779 = .ok (.goto 659, 3) := by decide +kernel
theorem dL_law_2782 : decode cL_law 2782 = .ok (.aload_n 1, 1) := by decide +kernel
theorem dL_law_2783 : decode cL_law 2783 = .ok (.aload_n 0, 1) := by decide +kernel
theorem dL_law_2784 : decode cL_law 2784 = .ok (.iload 5, 2) := by decide +kernel
theorem dL_law_2786 : decode cL_law 2786 = .ok (.iconst 1, 1) := by decide +kernel
theorem dL_law_2787 : decode cL_law 2787 = .ok (.iadd, 1) := by decide +kernel
theorem dL_law_2788 : decode cL_law 2788 = .ok (.iaload, 1) := by decide +kernel
theorem dL_law_2789 : decode cL_law 2789 = .ok (.aload_n 3, 1) := by decide +kernel
theorem dL_law_2790 : decode cL_law 2790 = .ok (.invokestatic 331, 3) := by decide +kernel
theorem dL_law_2793 : decode cL_law 2793 = .ok (.istore 6, 2) := by decide +kernel
theorem dL_law_2795 : decode cL_law 2795 = .ok (.aload_n 2, 1) := by decide +kernel
theorem dL_law_2796 : decode cL_law 2796 = .ok (.aload_n 0, 1) := by decide +kernel
theorem dL_law_2797 : decode cL_law 2797 = .ok (.iload 5, 2) := by decide +kernel
theorem dL_law_2799 : decode cL_law 2799 = .ok (.iconst 1, 1) := by decide +kernel
theorem dL_law_2800 : decode cL_law 2800 = .ok (.iadd, 1) := by decide +kernel
theorem dL_law_2801 : decode cL_law 2801 = .ok (.iaload, 1) := by decide +kernel
theorem dL_law_2802 : decode cL_law 2802 = .ok (.invokevirtual 333, 3) := by decide +kernel
theorem dL_law_2805 : decode cL_law 2805 = .ok (.istore 7, 2) := by decide +kernel
theorem dL_law_2807 : decode cL_law 2807 = .ok (.aload_n 2, 1) := by decide +kernel
theorem dL_law_2808 : decode cL_law 2808 = .ok (.invokevirtual 172, 3) := by decide +kernel
theorem dL_law_2811 : decode cL_law 2811 = .ok (.iload 6, 2) := by decide +kernel
theorem dL_law_2813 : decode cL_law 2813 = .ok (.if_icmp .eq 5, 3) := by decide +kernel
theorem dL_law_2816 : decode cL_law 2816 = .ok (.iconst 0, 1) := by decide +kernel
theorem dL_law_2817 : decode cL_law 2817 = .ok (.ireturn, 1) := by decide +kernel
theorem dL_law_2818 : decode cL_law 2818 = .ok (.iload 6, 2) := by decide +kernel
theorem dL_law_2820 : decode cL_law 2820 = .ok (.ifCond .ne 15, 3) := by decide +kernel
theorem dL_law_2823 : decode cL_law 2823 = .ok (.aload_n 3, 1) := by decide +kernel
theorem dL_law_2824 : decode cL_law 2824 = .ok (.iconst 0, 1) := by decide +kernel
theorem dL_law_2825 : decode cL_law 2825 = .ok (.laload, 1) := by decide +kernel
theorem dL_law_2826 : decode cL_law 2826 = .ok (.iload 7, 2) := by decide +kernel
theorem dL_law_2828 : decode cL_law 2828 = .ok (.i2l, 1) := by decide +kernel
theorem dL_law_2829 : decode cL_law 2829 = .ok (.lcmp, 1) := by decide +kernel
theorem dL_law_2830 : decode cL_law 2830 = .ok (.ifCond .eq 5, 3) := by decide +kernel
theorem dL_law_2833 : decode cL_law 2833 = .ok (.iconst 0, 1) := by decide +kernel
theorem dL_law_2834 : decode cL_law 2834 = .ok (.ireturn, 1) := by decide +kernel
theorem dL_law_2835 : decode cL_law 2835 = .ok (.goto 603, 3) := by decide +kernel
theorem dL_law_2838 : decode cL_law 2838 = .ok (.aload_n 1, 1) := by decide +kernel
theorem dL_law_2839 : decode cL_law 2839 = .ok (.aload_n 0, 1) := by decide +kernel
theorem dL_law_2840 : decode cL_law 2840 = .ok (.iload 5, 2) := by decide +kernel
theorem dL_law_2842 : decode cL_law 2842 = .ok (.iconst 1, 1) := by decide +kernel
theorem dL_law_2843 : decode cL_law 2843 = .ok (.iadd, 1) := by decide +kernel
theorem dL_law_2844 : decode cL_law 2844 = .ok (.iaload, 1) := by decide +kernel
theorem dL_law_2845 : decode cL_law 2845 = .ok (.aload_n 3, 1) := by decide +kernel
theorem dL_law_2846 : decode cL_law 2846 = .ok (.invokestatic 334, 3) := by decide +kernel
theorem dL_law_2849 : decode cL_law 2849 = .ok (.istore 6, 2) := by decide +kernel
theorem dL_law_2851 : decode cL_law 2851 = .ok (.aload_n 2, 1) := by decide +kernel
theorem dL_law_2852 : decode cL_law 2852 = .ok (.aload_n 0, 1) := by decide +kernel
theorem dL_law_2853 : decode cL_law 2853 = .ok (.iload 5, 2) := by decide +kernel
theorem dL_law_2855 : decode cL_law 2855 = .ok (.iconst 1, 1) := by decide +kernel
theorem dL_law_2856 : decode cL_law 2856 = .ok (.iadd, 1) := by decide +kernel
theorem dL_law_2857 : decode cL_law 2857 = .ok (.iaload, 1) := by decide +kernel
theorem dL_law_2858 : decode cL_law 2858 = .ok (.invokevirtual 336, 3) := by decide +kernel
theorem dL_law_2861 : decode cL_law 2861 = .ok (.istore 7, 2) := by decide +kernel
theorem dL_law_2863 : decode cL_law 2863 = .ok (.aload_n 2, 1) := by decide +kernel
theorem dL_law_2864 : decode cL_law 2864 = .ok (.invokevirtual 172, 3) := by decide +kernel
theorem dL_law_2867 : decode cL_law 2867 = .ok (.iload 6, 2) := by decide +kernel
theorem dL_law_2869 : decode cL_law 2869 = .ok (.if_icmp .eq 5, 3) := by decide +kernel
theorem dL_law_2872 : decode cL_law 2872 = .ok (.iconst 0, 1) := by decide +kernel
theorem dL_law_2873 : decode cL_law 2873 = .ok (.ireturn, 1) := by decide +kernel
theorem dL_law_2874 : decode cL_law 2874 = .ok (.iload 6, 2) := by decide +kernel
theorem dL_law_2876 : decode cL_law 2876 = .ok (.ifCond .ne 15, 3) := by decide +kernel
theorem dL_law_2879 : decode cL_law 2879 = .ok (.aload_n 3, 1) := by decide +kernel
theorem dL_law_2880 : decode cL_law 2880 = .ok (.iconst 0, 1) := by decide +kernel
theorem dL_law_2881 : decode cL_law 2881 = .ok (.laload, 1) := by decide +kernel
theorem dL_law_2882 : decode cL_law 2882 = .ok (.iload 7, 2) := by decide +kernel
theorem dL_law_2884 : decode cL_law 2884 = .ok (.i2l, 1) := by decide +kernel
theorem dL_law_2885 : decode cL_law 2885 = .ok (.lcmp, 1) := by decide +kernel
theorem dL_law_2886 : decode cL_law 2886 = .ok (.ifCond .eq 5, 3) := by decide +kernel
theorem dL_law_2889 : decode cL_law 2889 = .ok (.iconst 0, 1) := by decide +kernel
theorem dL_law_2890 : decode cL_law 2890 = .ok (.ireturn, 1) := by decide +kernel
theorem dL_law_2891 : decode cL_law 2891 = .ok (.goto 547, 3) := by decide +kernel
theorem dL_law_2894 : decode cL_law 2894 = .ok (.aload_n 1, 1) := by decide +kernel
theorem dL_law_2895 : decode cL_law 2895 = .ok (.aload_n 0, 1) := by decide +kernel
theorem dL_law_2896 : decode cL_law 2896 = .ok (.iload 5, 2) := by decide +kernel
theorem dL_law_2898 : decode cL_law 2898 = .ok (.iconst 1, 1) := by decide +kernel
theorem dL_law_2899 : decode cL_law 2899 = .ok (.iadd, 1) := by decide +kernel
theorem dL_law_2900 : decode cL_law 2900 = .ok (.iaload, 1) := by decide +kernel
theorem dL_law_2901 : decode cL_law 2901 = .ok (.aload_n 3, 1) := by decide +kernel
theorem dL_law_2902 : decode cL_law 2902 = .ok (.invokestatic 337, 3) := by decide +kernel
theorem dL_law_2905 : decode cL_law 2905 = .ok (.istore 6, 2) := by decide +kernel
theorem dL_law_2907 : decode cL_law 2907 = .ok (.aload_n 2, 1) := by decide +kernel
theorem dL_law_2908 : decode cL_law 2908 = .ok (.aload_n 0, 1) := by decide +kernel
theorem dL_law_2909 : decode cL_law 2909 = .ok (.iload 5, 2) := by decide +kernel
theorem dL_law_2911 : decode cL_law 2911 = .ok (.iconst 1, 1) := by decide +kernel
theorem dL_law_2912 : decode cL_law 2912 = .ok (.iadd, 1) := by decide +kernel
theorem dL_law_2913 : decode cL_law 2913 = .ok (.iaload, 1) := by decide +kernel
theorem dL_law_2914 : decode cL_law 2914 = .ok (.invokevirtual 339, 3) := by decide +kernel
theorem dL_law_2917 : decode cL_law 2917 = .ok (.istore 7, 2) := by decide +kernel
theorem dL_law_2919 : decode cL_law 2919 = .ok (.aload_n 2, 1) := by decide +kernel
theorem dL_law_2920 : decode cL_law 2920 = .ok (.invokevirtual 172, 3) := by decide +kernel
theorem dL_law_2923 : decode cL_law 2923 = .ok (.iload 6, 2) := by decide +kernel
theorem dL_law_2925 : decode cL_law 2925 = .ok (.if_icmp .eq 5, 3) := by decide +kernel
theorem dL_law_2928 : decode cL_law 2928 = .ok (.iconst 0, 1) := by decide +kernel
theorem dL_law_2929 : decode cL_law 2929 = .ok (.ireturn, 1) := by decide +kernel
theorem dL_law_2930 : decode cL_law 2930 = .ok (.iload 6, 2) := by decide +kernel
theorem dL_law_2932 : decode cL_law 2932 = .ok (.ifCond .ne 15, 3) := by decide +kernel
theorem dL_law_2935 : decode cL_law 2935 = .ok (.aload_n 3, 1) := by decide +kernel
theorem dL_law_2936 : decode cL_law 2936 = .ok (.iconst 0, 1) := by decide +kernel
theorem dL_law_2937 : decode cL_law 2937 = .ok (.laload, 1) := by decide +kernel
theorem dL_law_2938 : decode cL_law 2938 = .ok (.iload 7, 2) := by decide +kernel
theorem dL_law_2940 : decode cL_law 2940 = .ok (.i2l, 1) := by decide +kernel
theorem dL_law_2941 : decode cL_law 2941 = .ok (.lcmp, 1) := by decide +kernel
theorem dL_law_2942 : decode cL_law 2942 = .ok (.ifCond .eq 5, 3) := by decide +kernel
theorem dL_law_2945 : decode cL_law 2945 = .ok (.iconst 0, 1) := by decide +kernel
theorem dL_law_2946 : decode cL_law 2946 = .ok (.ireturn, 1) := by decide +kernel
theorem dL_law_2947 : decode cL_law 2947 = .ok (.goto 491, 3) := by decide +kernel
theorem dL_law_2950 : decode cL_law 2950 = .ok (.aload_n 1, 1) := by decide +kernel
theorem dL_law_2951 : decode cL_law 2951 = .ok (.aload_n 0, 1) := by decide +kernel
theorem dL_law_2952 : decode cL_law 2952 = .ok (.iload 5, 2) := by decide +kernel
theorem dL_law_2954 : decode cL_law 2954 = .ok (.iconst 1, 1) := by decide +kernel
theorem dL_law_2955 : decode cL_law 2955 = .ok (.iadd, 1) := by decide +kernel
theorem dL_law_2956 : decode cL_law 2956 = .ok (.iaload, 1) := by decide +kernel
theorem dL_law_2957 : decode cL_law 2957 = .ok (.aload_n 3, 1) := by decide +kernel
theorem dL_law_2958 : decode cL_law 2958 = .ok (.invokestatic 340, 3) := by decide +kernel
theorem dL_law_2961 : decode cL_law 2961 = .ok (.istore 6, 2) := by decide +kernel
theorem dL_law_2963 : decode cL_law 2963 = .ok (.aload_n 2, 1) := by decide +kernel
theorem dL_law_2964 : decode cL_law 2964 = .ok (.aload_n 0, 1) := by decide +kernel
theorem dL_law_2965 : decode cL_law 2965 = .ok (.iload 5, 2) := by decide +kernel
theorem dL_law_2967 : decode cL_law 2967 = .ok (.iconst 1, 1) := by decide +kernel
theorem dL_law_2968 : decode cL_law 2968 = .ok (.iadd, 1) := by decide +kernel
theorem dL_law_2969 : decode cL_law 2969 = .ok (.iaload, 1) := by decide +kernel
theorem dL_law_2970 : decode cL_law 2970 = .ok (.invokevirtual 342, 3) := by decide +kernel
theorem dL_law_2973 : decode cL_law 2973 = .ok (.istore 7, 2) := by decide +kernel
theorem dL_law_2975 : decode cL_law 2975 = .ok (.aload_n 2, 1) := by decide +kernel
theorem dL_law_2976 : decode cL_law 2976 = .ok (.invokevirtual 172, 3) := by decide +kernel
theorem dL_law_2979 : decode cL_law 2979 = .ok (.iload 6, 2) := by decide +kernel
theorem dL_law_2981 : decode cL_law 2981 = .ok (.if_icmp .eq 5, 3) := by decide +kernel
theorem dL_law_2984 : decode cL_law 2984 = .ok (.iconst 0, 1) := by decide +kernel
theorem dL_law_2985 : decode cL_law 2985 = .ok (.ireturn, 1) := by decide +kernel
theorem dL_law_2986 : decode cL_law 2986 = .ok (.iload 6, 2) := by decide +kernel
theorem dL_law_2988 : decode cL_law 2988 = .ok (.ifCond .ne 15, 3) := by decide +kernel
theorem dL_law_2991 : decode cL_law 2991 = .ok (.aload_n 3, 1) := by decide +kernel
theorem dL_law_2992 : decode cL_law 2992 = .ok (.iconst 0, 1) := by decide +kernel
theorem dL_law_2993 : decode cL_law 2993 = .ok (.laload, 1) := by decide +kernel
theorem dL_law_2994 : decode cL_law 2994 = .ok (.iload 7, 2) := by decide +kernel
theorem dL_law_2996 : decode cL_law 2996 = .ok (.i2l, 1) := by decide +kernel
theorem dL_law_2997 : decode cL_law 2997 = .ok (.lcmp, 1) := by decide +kernel
theorem dL_law_2998 : decode cL_law 2998 = .ok (.ifCond .eq 5, 3) := by decide +kernel
theorem dL_law_3001 : decode cL_law 3001 = .ok (.iconst 0, 1) := by decide +kernel
theorem dL_law_3002 : decode cL_law 3002 = .ok (.ireturn, 1) := by decide +kernel
theorem dL_law_3003 : decode cL_law 3003 = .ok (.goto 435, 3) := by decide +kernel
theorem dL_law_3006 : decode cL_law 3006 = .ok (.aload_n 1, 1) := by decide +kernel
theorem dL_law_3007 : decode cL_law 3007 = .ok (.aload_n 0, 1) := by decide +kernel
theorem dL_law_3008 : decode cL_law 3008 = .ok (.iload 5, 2) := by decide +kernel
theorem dL_law_3010 : decode cL_law 3010 = .ok (.iconst 1, 1) := by decide +kernel
theorem dL_law_3011 : decode cL_law 3011 = .ok (.iadd, 1) := by decide +kernel
theorem dL_law_3012 : decode cL_law 3012 = .ok (.iaload, 1) := by decide +kernel
theorem dL_law_3013 : decode cL_law 3013 = .ok (.aload_n 0, 1) := by decide +kernel
theorem dL_law_3014 : decode cL_law 3014 = .ok (.iload 5, 2) := by decide +kernel
theorem dL_law_3016 : decode cL_law 3016 = .ok (.iconst 2, 1) := by decide +kernel
theorem dL_law_3017 : decode cL_law 3017 = .ok (.iadd, 1) := by decide +kernel
theorem dL_law_3018 : decode cL_law 3018 = .ok (.iaload, 1) := by decide +kernel
theorem dL_law_3019 : decode cL_law 3019 = .ok (.aload_n 3, 1) := by decide +kernel
theorem dL_law_3020 : decode cL_law 3020 = .ok (.invokestatic 343, 3) := by decide +kernel
theorem dL_law_3023 : decode cL_law 3023 = .ok (.istore 6, 2) := by decide +kernel
theorem dL_law_3025 : decode cL_law 3025 = .ok (.aload_n 2, 1) := by decide +kernel
theorem dL_law_3026 : decode cL_law 3026 = .ok (.aload_n 0, 1) := by decide +kernel
theorem dL_law_3027 : decode cL_law 3027 = .ok (.iload 5, 2) := by decide +kernel
theorem dL_law_3029 : decode cL_law 3029 = .ok (.iconst 1, 1) := by decide +kernel
theorem dL_law_3030 : decode cL_law 3030 = .ok (.iadd, 1) := by decide +kernel
theorem dL_law_3031 : decode cL_law 3031 = .ok (.iaload, 1) := by decide +kernel
theorem dL_law_3032 : decode cL_law 3032 = .ok (.aload_n 0, 1) := by decide +kernel
theorem dL_law_3033 : decode cL_law 3033 = .ok (.iload 5, 2) := by decide +kernel
theorem dL_law_3035 : decode cL_law 3035 = .ok (.iconst 2, 1) := by decide +kernel
theorem dL_law_3036 : decode cL_law 3036 = .ok (.iadd, 1) := by decide +kernel
theorem dL_law_3037 : decode cL_law 3037 = .ok (.iaload, 1) := by decide +kernel
theorem dL_law_3038 : decode cL_law 3038 = .ok (.invokevirtual 345, 3) := by decide +kernel
theorem dL_law_3041 : decode cL_law 3041 = .ok (.istore 7, 2) := by decide +kernel
theorem dL_law_3043 : decode cL_law 3043 = .ok (.aload_n 2, 1) := by decide +kernel
theorem dL_law_3044 : decode cL_law 3044 = .ok (.invokevirtual 172, 3) := by decide +kernel
theorem dL_law_3047 : decode cL_law 3047 = .ok (.iload 6, 2) := by decide +kernel
theorem dL_law_3049 : decode cL_law 3049 = .ok (.if_icmp .eq 5, 3) := by decide +kernel
theorem dL_law_3052 : decode cL_law 3052 = .ok (.iconst 0, 1) := by decide +kernel
theorem dL_law_3053 : decode cL_law 3053 = .ok (.ireturn, 1) := by decide +kernel
theorem dL_law_3054 : decode cL_law 3054 = .ok (.iload 6, 2) := by decide +kernel
theorem dL_law_3056 : decode cL_law 3056 = .ok (.ifCond .ne 15, 3) := by decide +kernel
theorem dL_law_3059 : decode cL_law 3059 = .ok (.aload_n 3, 1) := by decide +kernel
theorem dL_law_3060 : decode cL_law 3060 = .ok (.iconst 0, 1) := by decide +kernel
theorem dL_law_3061 : decode cL_law 3061 = .ok (.laload, 1) := by decide +kernel
theorem dL_law_3062 : decode cL_law 3062 = .ok (.iload 7, 2) := by decide +kernel
theorem dL_law_3064 : decode cL_law 3064 = .ok (.i2l, 1) := by decide +kernel
theorem dL_law_3065 : decode cL_law 3065 = .ok (.lcmp, 1) := by decide +kernel
theorem dL_law_3066 : decode cL_law 3066 = .ok (.ifCond .eq 5, 3) := by decide +kernel
theorem dL_law_3069 : decode cL_law 3069 = .ok (.iconst 0, 1) := by decide +kernel
theorem dL_law_3070 : decode cL_law 3070 = .ok (.ireturn, 1) := by decide +kernel
theorem dL_law_3071 : decode cL_law 3071 = .ok (.goto 367, 3) := by decide +kernel
theorem dL_law_3074 : decode cL_law 3074 = .ok (.aload_n 1, 1) := by decide +kernel
theorem dL_law_3075 : decode cL_law 3075 = .ok (.aload_n 0, 1) := by decide +kernel
theorem dL_law_3076 : decode cL_law 3076 = .ok (.iload 5, 2) := by decide +kernel
theorem dL_law_3078 : decode cL_law 3078 = .ok (.iconst 1, 1) := by decide +kernel
theorem dL_law_3079 : decode cL_law 3079 = .ok (.iadd, 1) := by decide +kernel
theorem dL_law_3080 : decode cL_law 3080 = .ok (.iaload, 1) := by decide +kernel
theorem dL_law_3081 : decode cL_law 3081 = .ok (.aload_n 0, 1) := by decide +kernel
theorem dL_law_3082 : decode cL_law 3082 = .ok (.iload 5, 2) := by decide +kernel
theorem dL_law_3084 : decode cL_law 3084 = .ok (.iconst 2, 1) := by decide +kernel
theorem dL_law_3085 : decode cL_law 3085 = .ok (.iadd, 1) := by decide +kernel
theorem dL_law_3086 : decode cL_law 3086 = .ok (.iaload, 1) := by decide +kernel
theorem dL_law_3087 : decode cL_law 3087 = .ok (.aload_n 3, 1) := by decide +kernel
theorem dL_law_3088 : decode cL_law 3088 = .ok (.invokestatic 346, 3) := by decide +kernel
theorem dL_law_3091 : decode cL_law 3091 = .ok (.istore 6, 2) := by decide +kernel
theorem dL_law_3093 : decode cL_law 3093 = .ok (.aload_n 2, 1) := by decide +kernel
theorem dL_law_3094 : decode cL_law 3094 = .ok (.aload_n 0, 1) := by decide +kernel
theorem dL_law_3095 : decode cL_law 3095 = .ok (.iload 5, 2) := by decide +kernel
theorem dL_law_3097 : decode cL_law 3097 = .ok (.iconst 1, 1) := by decide +kernel
theorem dL_law_3098 : decode cL_law 3098 = .ok (.iadd, 1) := by decide +kernel
theorem dL_law_3099 : decode cL_law 3099 = .ok (.iaload, 1) := by decide +kernel
theorem dL_law_3100 : decode cL_law 3100 = .ok (.aload_n 0, 1) := by decide +kernel
theorem dL_law_3101 : decode cL_law 3101 = .ok (.iload 5, 2) := by decide +kernel
theorem dL_law_3103 : decode cL_law 3103 = .ok (.iconst 2, 1) := by decide +kernel
theorem dL_law_3104 : decode cL_law 3104 = .ok (.iadd, 1) := by decide +kernel
theorem dL_law_3105 : decode cL_law 3105 = .ok (.iaload, 1) := by decide +kernel
theorem dL_law_3106 : decode cL_law 3106 = .ok (.invokevirtual 348, 3) := by decide +kernel
theorem dL_law_3109 : decode cL_law 3109 = .ok (.istore 7, 2) := by decide +kernel
theorem dL_law_3111 : decode cL_law 3111 = .ok (.aload_n 2, 1) := by decide +kernel
theorem dL_law_3112 : decode cL_law 3112 = .ok (.invokevirtual 172, 3) := by decide +kernel
theorem dL_law_3115 : decode cL_law 3115 = .ok (.iload 6, 2) := by decide +kernel
theorem dL_law_3117 : decode cL_law 3117 = .ok (.if_icmp .eq 5, 3) := by decide +kernel
theorem dL_law_3120 : decode cL_law 3120 = .ok (.iconst 0, 1) := by decide +kernel
theorem dL_law_3121 : decode cL_law 3121 = .ok (.ireturn, 1) := by decide +kernel
theorem dL_law_3122 : decode cL_law 3122 = .ok (.iload 6, 2) := by decide +kernel
theorem dL_law_3124 : decode cL_law 3124 = .ok (.ifCond .ne 15, 3) := by decide +kernel
theorem dL_law_3127 : decode cL_law 3127 = .ok (.aload_n 3, 1) := by decide +kernel
theorem dL_law_3128 : decode cL_law 3128 = .ok (.iconst 0, 1) := by decide +kernel
theorem dL_law_3129 : decode cL_law 3129 = .ok (.laload, 1) := by decide +kernel
theorem dL_law_3130 : decode cL_law 3130 = .ok (.iload 7, 2) := by decide +kernel
theorem dL_law_3132 : decode cL_law 3132 = .ok (.i2l, 1) := by decide +kernel
theorem dL_law_3133 : decode cL_law 3133 = .ok (.lcmp, 1) := by decide +kernel
theorem dL_law_3134 : decode cL_law 3134 = .ok (.ifCond .eq 5, 3) := by decide +kernel
theorem dL_law_3137 : decode cL_law 3137 = .ok (.iconst 0, 1) := by decide +kernel
theorem dL_law_3138 : decode cL_law 3138 = .ok (.ireturn, 1) := by decide +kernel
theorem dL_law_3139 : decode cL_law 3139 = .ok (.goto 299, 3) := by decide +kernel
theorem dL_law_3142 : decode cL_law 3142 = .ok (.aload_n 1, 1) := by decide +kernel
theorem dL_law_3143 : decode cL_law 3143 = .ok (.invokevirtual 349, 3) := by decide +kernel
theorem dL_law_3146 : decode cL_law 3146 = .ok (.aload_n 2, 1) := by decide +kernel
theorem dL_law_3147 : decode cL_law 3147 = .ok (.invokevirtual 352, 3) := by decide +kernel
theorem dL_law_3150 : decode cL_law 3150 = .ok (.if_icmp .eq 288, 3) := by decide +kernel
theorem dL_law_3153 : decode cL_law 3153 = .ok (.iconst 0, 1) := by decide +kernel
theorem dL_law_3154 : decode cL_law 3154 = .ok (.ireturn, 1) := by decide +kernel
theorem dL_law_3155 : decode cL_law 3155 = .ok (.aload_n 1, 1) := by decide +kernel
theorem dL_law_3156 : decode cL_law 3156 = .ok (.invokevirtual 353, 3) := by decide +kernel
theorem dL_law_3159 : decode cL_law 3159 = .ok (.f2d, 1) := by decide +kernel
theorem dL_law_3160 : decode cL_law 3160 = .ok (.dstore 6, 2) := by decide +kernel
theorem dL_law_3162 : decode cL_law 3162 = .ok (.aload_n 2, 1) := by decide +kernel
theorem dL_law_3163 : decode cL_law 3163 = .ok (.invokevirtual 357, 3) := by decide +kernel
theorem dL_law_3166 : decode cL_law 3166 = .ok (.f2d, 1) := by decide +kernel
theorem dL_law_3167 : decode cL_law 3167 = .ok (.dstore 8, 2) := by decide +kernel
theorem dL_law_3169 : decode cL_law 3169 = .ok (.dload 6, 2) := by decide +kernel
theorem dL_law_3171 : decode cL_law 3171 = .ok (.dload 8, 2) := by decide +kernel
theorem dL_law_3173 : decode cL_law 3173 = .ok (.dcmp .l, 1) := by decide +kernel
theorem dL_law_3174 : decode cL_law 3174 = .ok (.ifCond .eq 21, 3) := by decide +kernel
theorem dL_law_3177 : decode cL_law 3177 = .ok (.dload 6, 2) := by decide +kernel
theorem dL_law_3179 : decode cL_law 3179 = .ok (.dload 6, 2) := by decide +kernel
theorem dL_law_3181 : decode cL_law 3181 = .ok (.dcmp .l, 1) := by decide +kernel
theorem dL_law_3182 : decode cL_law 3182 = .ok (.ifCond .eq 11, 3) := by decide +kernel
theorem dL_law_3185 : decode cL_law 3185 = .ok (.dload 8, 2) := by decide +kernel
theorem dL_law_3187 : decode cL_law 3187 = .ok (.dload 8, 2) := by decide +kernel
theorem dL_law_3189 : decode cL_law 3189 = .ok (.dcmp .l, 1) := by decide +kernel
theorem dL_law_3190 : decode cL_law 3190 = .ok (.ifCond .ne 5, 3) := by decide +kernel
theorem dL_law_3193 : decode cL_law 3193 = .ok (.iconst 0, 1) := by decide +kernel
theorem dL_law_3194 : decode cL_law 3194 = .ok (.ireturn, 1) := by decide +kernel
theorem dL_law_3195 : decode cL_law 3195 = .ok (.goto 243, 3) := by decide +kernel
theorem dL_law_3198 : decode cL_law 3198 = .ok (.aload_n 1, 1) := by decide +kernel
theorem dL_law_3199 : decode cL_law 3199 = .ok (.aload_n 0, 1) := by decide +kernel
theorem dL_law_3200 : decode cL_law 3200 = .ok (.iload 5, 2) := by decide +kernel
theorem dL_law_3202 : decode cL_law 3202 = .ok (.iconst 1, 1) := by decide +kernel
theorem dL_law_3203 : decode cL_law 3203 = .ok (.iadd, 1) := by decide +kernel
theorem dL_law_3204 : decode cL_law 3204 = .ok (.iaload, 1) := by decide +kernel
theorem dL_law_3205 : decode cL_law 3205 = .ok (.aload 4, 2) := by decide +kernel
theorem dL_law_3207 : decode cL_law 3207 = .ok (.invokestatic 358, 3) := by decide +kernel
theorem dL_law_3210 : decode cL_law 3210 = .ok (.istore 6, 2) := by decide +kernel
theorem dL_law_3212 : decode cL_law 3212 = .ok (.aload_n 2, 1) := by decide +kernel
theorem dL_law_3213 : decode cL_law 3213 = .ok (.aload_n 0, 1) := by decide +kernel
theorem dL_law_3214 : decode cL_law 3214 = .ok (.iload 5, 2) := by decide +kernel
theorem dL_law_3216 : decode cL_law 3216 = .ok (.iconst 1, 1) := by decide +kernel
theorem dL_law_3217 : decode cL_law 3217 = .ok (.iadd, 1) := by decide +kernel
theorem dL_law_3218 : decode cL_law 3218 = .ok (.iaload, 1) := by decide +kernel
theorem dL_law_3219 : decode cL_law 3219 = .ok (.invokevirtual 361, 3) := by decide +kernel
theorem dL_law_3222 : decode cL_law 3222 = .ok (.dstore 7, 2) := by decide +kernel
theorem dL_law_3224 : decode cL_law 3224 = .ok (.aload_n 2, 1) := by decide +kernel
theorem dL_law_3225 : decode cL_law 3225 = .ok (.invokevirtual 172, 3) := by decide +kernel
theorem dL_law_3228 : decode cL_law 3228 = .ok (.iload 6, 2) := by decide +kernel
theorem dL_law_3230 : decode cL_law 3230 = .ok (.if_icmp .eq 5, 3) := by decide +kernel
theorem dL_law_3233 : decode cL_law 3233 = .ok (.iconst 0, 1) := by decide +kernel
theorem dL_law_3234 : decode cL_law 3234 = .ok (.ireturn, 1) := by decide +kernel
theorem dL_law_3235 : decode cL_law 3235 = .ok (.iload 6, 2) := by decide +kernel
theorem dL_law_3237 : decode cL_law 3237 = .ok (.ifCond .ne 35, 3) := by decide +kernel
theorem dL_law_3240 : decode cL_law 3240 = .ok (.aload 4, 2) := by decide +kernel
theorem dL_law_3242 : decode cL_law 3242 = .ok (.iconst 0, 1) := by decide +kernel
theorem dL_law_3243 : decode cL_law 3243 = .ok (.daload, 1) := by decide +kernel
theorem dL_law_3244 : decode cL_law 3244 = .ok (.dload 7, 2) := by decide +kernel
theorem dL_law_3246 : decode cL_law 3246 = .ok (.dcmp .l, 1) := by decide +kernel
theorem dL_law_3247 : decode cL_law 3247 = .ok (.ifCond .eq 25, 3) := by decide +kernel
theorem dL_law_3250 : decode cL_law 3250 = .ok (.aload 4, 2) := by decide +kernel
theorem dL_law_3252 : decode cL_law 3252 = .ok (.iconst 0, 1) := by decide +kernel
theorem dL_law_3253 : decode cL_law 3253 = .ok (.daload, 1) := by decide +kernel
theorem dL_law_3254 : decode cL_law 3254 = .ok (.aload 4, 2) := by decide +kernel
theorem dL_law_3256 : decode cL_law 3256 = .ok (.iconst 0, 1) := by decide +kernel
theorem dL_law_3257 : decode cL_law 3257 = .ok (.daload, 1) := by decide +kernel
theorem dL_law_3258 : decode cL_law 3258 = .ok (.dcmp .l, 1) := by decide +kernel
theorem dL_law_3259 : decode cL_law 3259 = .ok (.ifCond .eq 11, 3) := by decide +kernel
theorem dL_law_3262 : decode cL_law 3262 = .ok (.dload 7, 2) := by decide +kernel
theorem dL_law_3264 : decode cL_law 3264 = .ok (.dload 7, 2) := by decide +kernel
theorem dL_law_3266 : decode cL_law 3266 = .ok (.dcmp .l, 1) := by decide +kernel
theorem dL_law_3267 : decode cL_law 3267 = .ok (.ifCond .ne 5, 3) := by decide +kernel
theorem dL_law_3270 : decode cL_law 3270 = .ok (.iconst 0, 1) := by decide +kernel
theorem dL_law_3271 : decode cL_law 3271 = .ok (.ireturn, 1) := by decide +kernel
theorem dL_law_3272 : decode cL_law 3272 = .ok (.goto 166, 3) := by decide +kernel
theorem dL_law_3275 : decode cL_law 3275 = .ok (.aload_n 1, 1) := by decide +kernel
theorem dL_law_3276 : decode cL_law 3276 = .ok (.aload_n 0, 1) := by decide +kernel
theorem dL_law_3277 : decode cL_law 3277 = .ok (.iload 5, 2) := by decide +kernel
theorem dL_law_3279 : decode cL_law 3279 = .ok (.iconst 1, 1) := by decide +kernel
theorem dL_law_3280 : decode cL_law 3280 = .ok (.iadd, 1) := by decide +kernel
theorem dL_law_3281 : decode cL_law 3281 = .ok (.iaload, 1) := by decide +kernel
theorem dL_law_3282 : decode cL_law 3282 = .ok (.aload_n 0, 1) := by decide +kernel
theorem dL_law_3283 : decode cL_law 3283 = .ok (.iload 5, 2) := by decide +kernel
theorem dL_law_3285 : decode cL_law 3285 = .ok (.iconst 2, 1) := by decide +kernel
theorem dL_law_3286 : decode cL_law 3286 = .ok (.iadd, 1) := by decide +kernel
theorem dL_law_3287 : decode cL_law 3287 = .ok (.iaload, 1) := by decide +kernel
theorem dL_law_3288 : decode cL_law 3288 = .ok (.aload_n 0, 1) := by decide +kernel
theorem dL_law_3289 : decode cL_law 3289 = .ok (.iload 5, 2) := by decide +kernel
theorem dL_law_3291 : decode cL_law 3291 = .ok (.iconst 3, 1) := by decide +kernel
theorem dL_law_3292 : decode cL_law 3292 = .ok (.iadd, 1) := by decide +kernel
theorem dL_law_3293 : decode cL_law 3293 = .ok (.iaload, 1) := by decide +kernel
theorem dL_law_3294 : decode cL_law 3294 = .ok (.i2l, 1) := by decide +kernel
theorem dL_law_3295 : decode cL_law 3295 = .ok (.bipush 32, 2) := by decide +kernel
theorem dL_law_3297 : decode cL_law 3297 = .ok (.lshl, 1) := by decide +kernel
theorem dL_law_3298 : decode cL_law 3298 = .ok (.aload_n 0, 1) := by decide +kernel
theorem dL_law_3299 : decode cL_law 3299 = .ok (.iload 5, 2) := by decide +kernel
theorem dL_law_3301 : decode cL_law 3301 = .ok (.iconst 4, 1) := by decide +kernel
theorem dL_law_3302 : decode cL_law 3302 = .ok (.iadd, 1) := by decide +kernel
theorem dL_law_3303 : decode cL_law 3303 = .ok (.iaload, 1) := by decide +kernel
theorem dL_law_3304 : decode cL_law 3304 = .ok (.i2l, 1) := by decide +kernel
theorem dL_law_3305 : decode cL_law 3305 = .ok (.ldc2_w 362, 3) := by decide +kernel
theorem dL_law_3308 : decode cL_law 3308 = .ok (.land, 1) := by decide +kernel
theorem dL_law_3309 : decode cL_law 3309 = .ok (.lor, 1) := by decide +kernel
theorem dL_law_3310 : decode cL_law 3310 = .ok (.aload_n 3, 1) := by decide +kernel
theorem dL_law_3311 : decode cL_law 3311 = .ok (.invokestatic 364, 3) := by decide +kernel
theorem dL_law_3314 : decode cL_law 3314 = .ok (.istore 6, 2) := by decide +kernel
theorem dL_law_3316 : decode cL_law 3316 = .ok (.aload_n 2, 1) := by decide +kernel
theorem dL_law_3317 : decode cL_law 3317 = .ok (.aload_n 0, 1) := by decide +kernel
theorem dL_law_3318 : decode cL_law 3318 = .ok (.iload 5, 2) := by decide +kernel
theorem dL_law_3320 : decode cL_law 3320 = .ok (.iconst 1, 1) := by decide +kernel
theorem dL_law_3321 : decode cL_law 3321 = .ok (.iadd, 1) := by decide +kernel
theorem dL_law_3322 : decode cL_law 3322 = .ok (.iaload, 1) := by decide +kernel
theorem dL_law_3323 : decode cL_law 3323 = .ok (.aload_n 0, 1) := by decide +kernel
theorem dL_law_3324 : decode cL_law 3324 = .ok (.iload 5, 2) := by decide +kernel
theorem dL_law_3326 : decode cL_law 3326 = .ok (.iconst 2, 1) := by decide +kernel
theorem dL_law_3327 : decode cL_law 3327 = .ok (.iadd, 1) := by decide +kernel
theorem dL_law_3328 : decode cL_law 3328 = .ok (.iaload, 1) := by decide +kernel
theorem dL_law_3329 : decode cL_law 3329 = .ok (.aload_n 0, 1) := by decide +kernel
theorem dL_law_3330 : decode cL_law 3330 = .ok (.iload 5, 2) := by decide +kernel
theorem dL_law_3332 : decode cL_law 3332 = .ok (.iconst 3, 1) := by decide +kernel
theorem dL_law_3333 : decode cL_law 3333 = .ok (.iadd, 1) := by decide +kernel
theorem dL_law_3334 : decode cL_law 3334 = .ok (.iaload, 1) := by decide +kernel
theorem dL_law_3335 : decode cL_law 3335 = .ok (.i2l, 1) := by decide +kernel
theorem dL_law_3336 : decode cL_law 3336 = .ok (.bipush 32, 2) := by decide +kernel
theorem dL_law_3338 : decode cL_law 3338 = .ok (.lshl, 1) := by decide +kernel
theorem dL_law_3339 : decode cL_law 3339 = .ok (.aload_n 0, 1) := by decide +kernel
theorem dL_law_3340 : decode cL_law 3340 = .ok (.iload 5, 2) := by decide +kernel
theorem dL_law_3342 : decode cL_law 3342 = .ok (.iconst 4, 1) := by decide +kernel
theorem dL_law_3343 : decode cL_law 3343 = .ok (.iadd, 1) := by decide +kernel
theorem dL_law_3344 : decode cL_law 3344 = .ok (.iaload, 1) := by decide +kernel
theorem dL_law_3345 : decode cL_law 3345 = .ok (.i2l, 1) := by decide +kernel
theorem dL_law_3346 : decode cL_law 3346 = .ok (.ldc2_w 362, 3) := by decide +kernel
theorem dL_law_3349 : decode cL_law 3349 = .ok (.land, 1) := by decide +kernel
theorem dL_law_3350 : decode cL_law 3350 = .ok (.lor, 1) := by decide +kernel
theorem dL_law_3351 : decode cL_law 3351 = .ok (.invokevirtual 367, 3) := by decide +kernel
theorem dL_law_3354 : decode cL_law 3354 = .ok (.istore 7, 2) := by decide +kernel
theorem dL_law_3356 : decode cL_law 3356 = .ok (.aload_n 2, 1) := by decide +kernel
theorem dL_law_3357 : decode cL_law 3357 = .ok (.invokevirtual 172, 3) := by decide +kernel
theorem dL_law_3360 : decode cL_law 3360 = .ok (.iload 6, 2) := by decide +kernel
theorem dL_law_3362 : decode cL_law 3362 = .ok (.if_icmp .eq 5, 3) := by decide +kernel
theorem dL_law_3365 : decode cL_law 3365 = .ok (.iconst 0, 1) := by decide +kernel
theorem dL_law_3366 : decode cL_law 3366 = .ok (.ireturn, 1) := by decide +kernel
theorem dL_law_3367 : decode cL_law 3367 = .ok (.iload 6, 2) := by decide +kernel
theorem dL_law_3369 : decode cL_law 3369 = .ok (.ifCond .ne 15, 3) := by decide +kernel
theorem dL_law_3372 : decode cL_law 3372 = .ok (.aload_n 3, 1) := by decide +kernel
theorem dL_law_3373 : decode cL_law 3373 = .ok (.iconst 0, 1) := by decide +kernel
theorem dL_law_3374 : decode cL_law 3374 = .ok (.laload, 1) := by decide +kernel
theorem dL_law_3375 : decode cL_law 3375 = .ok (.iload 7, 2) := by decide +kernel
theorem dL_law_3377 : decode cL_law 3377 = .ok (.i2l, 1) := by decide +kernel
theorem dL_law_3378 : decode cL_law 3378 = .ok (.lcmp, 1) := by decide +kernel
theorem dL_law_3379 : decode cL_law 3379 = .ok (.ifCond .eq 5, 3) := by decide +kernel
theorem dL_law_3382 : decode cL_law 3382 = .ok (.iconst 0, 1) := by decide +kernel
theorem dL_law_3383 : decode cL_law 3383 = .ok (.ireturn, 1) := by decide +kernel
theorem dL_law_3384 : decode cL_law 3384 = .ok (.goto 54, 3) := by decide +kernel
theorem dL_law_3387 : decode cL_law 3387 = .ok (.aload_n 1, 1) := by decide +kernel
theorem dL_law_3388 : decode cL_law 3388 = .ok (.invokevirtual 368, 3) := by decide +kernel
theorem dL_law_3391 : decode cL_law 3391 = .ok (.aload_n 2, 1) := by decide +kernel
theorem dL_law_3392 : decode cL_law 3392 = .ok (.invokevirtual 371, 3) := by decide +kernel
theorem dL_law_3395 : decode cL_law 3395 = .ok (.if_icmp .eq 43, 3) := by decide +kernel
theorem dL_law_3398 : decode cL_law 3398 = .ok (.iconst 0, 1) := by decide +kernel
theorem dL_law_3399 : decode cL_law 3399 = .ok (.ireturn, 1) := by decide +kernel
theorem dL_law_3400 : decode cL_law 3400 = .ok (.aload_n 1, 1) := by decide +kernel
theorem dL_law_3401 : decode cL_law 3401 = .ok (.invokevirtual 372, 3) := by decide +kernel
theorem dL_law_3404 : decode cL_law 3404 = .ok (.aload_n 2, 1) := by decide +kernel
theorem dL_law_3405 : decode cL_law 3405 = .ok (.invokevirtual 375, 3) := by decide +kernel
theorem dL_law_3408 : decode cL_law 3408 = .ok (.if_icmp .eq 30, 3) := by decide +kernel
theorem dL_law_3411 : decode cL_law 3411 = .ok (.iconst 0, 1) := by decide +kernel
theorem dL_law_3412 : decode cL_law 3412 = .ok (.ireturn, 1) := by decide +kernel
theorem dL_law_3413 : decode cL_law 3413 = .ok (.aload_n 1, 1) := by decide +kernel
theorem dL_law_3414 : decode cL_law 3414 = .ok (.aload_n 0, 1) := by decide +kernel
theorem dL_law_3415 : decode cL_law 3415 = .ok (.iload 5, 2) := by decide +kernel
theorem dL_law_3417 : decode cL_law 3417 = .ok (.iconst 1, 1) := by decide +kernel
theorem dL_law_3418 : decode cL_law 3418 = .ok (.iadd, 1) := by decide +kernel
theorem dL_law_3419 : decode cL_law 3419 = .ok (.iaload, 1) := by decide +kernel
theorem dL_law_3420 : decode cL_law 3420 = .ok (.invokevirtual 376, 3) := by decide +kernel
theorem dL_law_3423 : decode cL_law 3423 = .ok (.aload_n 2, 1) := by decide +kernel
theorem dL_law_3424 : decode cL_law 3424 = .ok (.aload_n 0, 1) := by decide +kernel
theorem dL_law_3425 : decode cL_law 3425 = .ok (.iload 5, 2) := by decide +kernel
theorem dL_law_3427 : decode cL_law 3427 = .ok (.iconst 1, 1) := by decide +kernel
theorem dL_law_3428 : decode cL_law 3428 = .ok (.iadd, 1) := by decide +kernel
theorem dL_law_3429 : decode cL_law 3429 = .ok (.iaload, 1) := by decide +kernel
theorem dL_law_3430 : decode cL_law 3430 = .ok (.invokevirtual 379, 3) := by decide +kernel
theorem dL_law_3433 : decode cL_law 3433 = .ok (.if_icmp .eq 5, 3) := by decide +kernel
theorem dL_law_3436 : decode cL_law 3436 = .ok (.iconst 0, 1) := by decide +kernel
theorem dL_law_3437 : decode cL_law 3437 = .ok (.ireturn, 1) := by decide +kernel
theorem dL_law_3438 : decode cL_law 3438 = .ok (.iinc 5 6, 3) := by decide +kernel
theorem dL_law_3441 : decode cL_law 3441 = .ok (.goto (-3413), 3) := by decide +kernel
theorem dL_law_3444 : decode cL_law 3444 = .ok (.iconst 1, 1) := by decide +kernel
theorem dL_law_3445 : decode cL_law 3445 = .ok (.ireturn, 1) := by decide +kernel
