/-! decode rows, printed -/
theorem dX10_init_0 : decode cX10_init 0 = .ok (.aload_n 0, 1) := by decide +kernel
theorem dX10_init_1 : decode cX10_init 1 = .ok (.invokespecial 3, 3) := by decide +kernel
theorem dX10_init_4 : decode cX10_init 4 = .ok (.new 9, 3) := by decide +kernel
theorem dX10_init_7 : decode cX10_init 7 = .ok (.dup, 1) := by decide +kernel
theorem dX10_init_8 : decode cX10_init 8 = .ok (.invokespecial 11, 3) := by decide +kernel
theorem dX10_init_11 : decode cX10_init 11 = .ok (.astore_n 1, 1) := by decide +kernel
theorem dX10_init_12 : decode cX10_init 12 = .ok (.new 12, 3) := by decide +kernel
theorem dX10_init_15 : decode cX10_init 15 = .ok (.dup, 1) := by decide +kernel
theorem dX10_init_16 : decode cX10_init 16 = .ok (.invokespecial 14, 3) := by decide +kernel
theorem dX10_init_19 : decode cX10_init 19 = .ok (.astore_n 2, 1) := by decide +kernel
theorem dX10_init_20 : decode cX10_init 20 = .ok (.aload_n 1, 1) := by decide +kernel
theorem dX10_init_21 : decode cX10_init 21 = .ok (.ldc 15, 2) := by decide +kernel
theorem dX10_init_23 : decode cX10_init 23 = .ok (.invokevirtual 17, 3) := by decide +kernel
theorem dX10_init_26 : decode cX10_init 26 = .ok (.aload_n 2, 1) := by decide +kernel
theorem dX10_init_27 : decode cX10_init 27 = .ok (.aload_n 1, 1) := by decide +kernel
theorem dX10_init_28 : decode cX10_init 28 = .ok (.invokevirtual 21, 3) := by decide +kernel
theorem dX10_init_31 : decode cX10_init 31 = .ok (.pop, 1) := by decide +kernel
theorem dX10_init_32 : decode cX10_init 32 = .ok (.new 25, 3) := by decide +kernel
theorem dX10_init_35 : decode cX10_init 35 = .ok (.dup, 1) := by decide +kernel
theorem dX10_init_36 : decode cX10_init 36 = .ok (.aload_n 2, 1) := by decide +kernel
theorem dX10_init_37 : decode cX10_init 37 = .ok (.invokespecial 27, 3) := by decide +kernel
theorem dX10_init_40 : decode cX10_init 40 = .ok (.astore_n 3, 1) := by decide +kernel
theorem dX10_init_41 : decode cX10_init 41 = .ok (.aload_n 1, 1) := by decide +kernel
theorem dX10_init_42 : decode cX10_init 42 = .ok (.ldc 30, 2) := by decide +kernel
theorem dX10_init_44 : decode cX10_init 44 = .ok (.invokevirtual 17, 3) := by decide +kernel
theorem dX10_init_47 : decode cX10_init 47 = .ok (.aload_n 2, 1) := by decide +kernel
theorem dX10_init_48 : decode cX10_init 48 = .ok (.aload_n 1, 1) := by decide +kernel
theorem dX10_init_49 : decode cX10_init 49 = .ok (.invokevirtual 21, 3) := by decide +kernel
theorem dX10_init_52 : decode cX10_init 52 = .ok (.pop, 1) := by decide +kernel
theorem dX10_init_53 : decode cX10_init 53 = .ok (.new 25, 3) := by decide +kernel
theorem dX10_init_56 : decode cX10_init 56 = .ok (.dup, 1) := by decide +kernel
theorem dX10_init_57 : decode cX10_init 57 = .ok (.aload_n 2, 1) := by decide +kernel
theorem dX10_init_58 : decode cX10_init 58 = .ok (.invokespecial 27, 3) := by decide +kernel
theorem dX10_init_61 : decode cX10_init 61 = .ok (.astore 4, 2) := by decide +kernel
theorem dX10_init_63 : decode cX10_init 63 = .ok (.aload_n 1, 1) := by decide +kernel
theorem dX10_init_64 : decode cX10_init 64 = .ok (.iconst 0, 1) := by decide +kernel
theorem dX10_init_65 : decode cX10_init 65 = .ok (.invokevirtual 32, 3) := by decide +kernel
theorem dX10_init_68 : decode cX10_init 68 = .ok (.aload_n 0, 1) := by decide +kernel
theorem dX10_init_69 : decode cX10_init 69 = .ok (.aload_n 1, 1) := by decide +kernel
theorem dX10_init_70 : decode cX10_init 70 = .ok (.putfield 36, 3) := by decide +kernel
theorem dX10_init_73 : decode cX10_init 73 = .ok (.aload_n 0, 1) := by decide +kernel
theorem dX10_init_74 : decode cX10_init 74 = .ok (.aload_n 2, 1) := by decide +kernel
theorem dX10_init_75 : decode cX10_init 75 = .ok (.putfield 40, 3) := by decide +kernel
theorem dX10_init_78 : decode cX10_init 78 = .ok (.aload_n 0, 1) := by decide +kernel
theorem dX10_init_79 : decode cX10_init 79 = .ok (.new 44, 3) := by decide +kernel
theorem dX10_init_82 : decode cX10_init 82 = .ok (.dup, 1) := by decide +kernel
theorem dX10_init_83 : decode cX10_init 83 = .ok (.aload_n 3, 1) := by decide +kernel
theorem dX10_init_84 : decode cX10_init 84 = .ok (.aload 4, 2) := by decide +kernel
theorem dX10_init_86 : decode cX10_init 86 = .ok (.invokespecial 46, 3) := by decide +kernel
theorem dX10_init_89 : decode cX10_init 89 = .ok (.putfield 49, 3) := by decide +kernel
theorem dX10_init_92 : decode cX10_init 92 = .ok (.aload_n 0, 1) := by decide +kernel
theorem dX10_init_93 : decode cX10_init 93 = .ok (.new 53, 3) := by decide +kernel
theorem dX10_init_96 : decode cX10_init 96 = .ok (.dup, 1) := by decide +kernel
theorem dX10_init_97 : decode cX10_init 97 = .ok (.aload_n 3, 1) := by decide +kernel
theorem dX10_init_98 : decode cX10_init 98 = .ok (.aload 4, 2) := by decide +kernel
theorem dX10_init_100 : decode cX10_init 100 = .ok (.invokespecial 55, 3) := by decide +kernel
theorem dX10_init_103 : decode cX10_init 103 = .ok (.putfield 56, 3) := by decide +kernel
theorem dX10_init_106 : decode cX10_init 106 = .ok (.aload_n 0, 1) := by decide +kernel
theorem dX10_init_107 : decode cX10_init 107 = .ok (.new 44, 3) := by decide +kernel
theorem dX10_init_110 : decode cX10_init 110 = .ok (.dup, 1) := by decide +kernel
theorem dX10_init_111 : decode cX10_init 111 = .ok (.aload_n 3, 1) := by decide +kernel
theorem dX10_init_112 : decode cX10_init 112 = .ok (.aload 4, 2) := by decide +kernel
theorem dX10_init_114 : decode cX10_init 114 = .ok (.invokespecial 46, 3) := by decide +kernel
theorem dX10_init_117 : decode cX10_init 117 = .ok (.putfield 60, 3) := by decide +kernel
theorem dX10_init_120 : decode cX10_init 120 = .ok (.aload_n 0, 1) := by decide +kernel
theorem dX10_init_121 : decode cX10_init 121 = .ok (.iconst 0, 1) := by decide +kernel
theorem dX10_init_122 : decode cX10_init 122 = .ok (.putfield 63, 3) := by decide +kernel
theorem dX10_init_125 : decode cX10_init 125 = .ok (.aload_n 0, 1) := by decide +kernel
theorem dX10_init_126 : decode cX10_init 126 = .ok (.iconst (-1), 1) := by decide +kernel
theorem dX10_init_127 : decode cX10_init 127 = .ok (.putfield 67, 3) := by decide +kernel
theorem dX10_init_130 : decode cX10_init 130 = .ok (.aload_n 0, 1) := by decide +kernel
theorem dX10_init_131 : decode cX10_init 131 = .ok (.new 70, 3) := by decide +kernel
theorem dX10_init_134 : decode cX10_init 134 = .ok (.dup, 1) := by decide +kernel
theorem dX10_init_135 : decode cX10_init 135 = .ok (.invokespecial 72, 3) := by decide +kernel
theorem dX10_init_138 : decode cX10_init 138 = .ok (.putfield 73, 3) := by decide +kernel
theorem dX10_init_141 : decode cX10_init 141 = .ok (.aload_n 0, 1) := by decide +kernel
theorem dX10_init_142 : decode cX10_init 142 = .ok (.new 77, 3) := by decide +kernel
theorem dX10_init_145 : decode cX10_init 145 = .ok (.dup, 1) := by decide +kernel
theorem dX10_init_146 : decode cX10_init 146 = .ok (.invokespecial 79, 3) := by decide +kernel
theorem dX10_init_149 : decode cX10_init 149 = .ok (.putfield 80, 3) := by decide +kernel
theorem dX10_init_152 : decode cX10_init 152 = .ok (.aload_n 0, 1) := by decide +kernel
theorem dX10_init_153 : decode cX10_init 153 = .ok (.new 84, 3) := by decide +kernel
theorem dX10_init_156 : decode cX10_init 156 = .ok (.dup, 1) := by decide +kernel
theorem dX10_init_157 : decode cX10_init 157 = .ok (.invokespecial 86, 3) := by decide +kernel
theorem dX10_init_160 : decode cX10_init 160 = .ok (.putfield 87, 3) := by decide +kernel
theorem dX10_init_163 : decode cX10_init 163 = .ok (.aload_n 0, 1) := by decide +kernel
theorem dX10_init_164 : decode cX10_init 164 = .ok (.sipush 3600, 3) := by decide +kernel
theorem dX10_init_167 : decode cX10_init 167 = .ok (.newarray .int, 2) := by decide +kernel
theorem dX10_init_169 : decode cX10_init 169 = .ok (.putfield 91, 3) := by decide +kernel
theorem dX10_init_172 : decode cX10_init 172 = .ok (.return_, 1) := by decide +kernel
theorem dX10_append_0 : decode cX10_append 0 = .ok (.aload_n 0, 1) := by decide +kernel
theorem dX10_append_1 : decode cX10_append 1 = .ok (.getfield 36, 3) := by decide +kernel
theorem dX10_append_4 : decode cX10_append 4 = .ok (.invokevirtual 95, 3) := by decide +kernel
theorem dX10_append_7 : decode cX10_append 7 = .ok (.bipush 20, 2) := by decide +kernel
theorem dX10_append_9 : decode cX10_append 9 = .ok (.iadd, 1) := by decide +kernel
theorem dX10_append_10 : decode cX10_append 10 = .ok (.sipush 200, 3) := by decide +kernel
theorem dX10_append_13 : decode cX10_append 13 = .ok (.if_icmp .le 5, 3) := by decide +kernel
theorem dX10_append_16 : decode cX10_append 16 = .ok (.iconst (-1), 1) := by decide +kernel
theorem dX10_append_17 : decode cX10_append 17 = .ok (.ireturn, 1) := by decide +kernel
theorem dX10_append_18 : decode cX10_append 18 = .ok (.aload_n 0, 1) := by decide +kernel
theorem dX10_append_19 : decode cX10_append 19 = .ok (.getfield 36, 3) := by decide +kernel
theorem dX10_append_22 : decode cX10_append 22 = .ok (.iload_n 1, 1) := by decide +kernel
theorem dX10_append_23 : decode cX10_append 23 = .ok (.invokevirtual 99, 3) := by decide +kernel
theorem dX10_append_26 : decode cX10_append 26 = .ok (.aload_n 0, 1) := by decide +kernel
theorem dX10_append_27 : decode cX10_append 27 = .ok (.getfield 36, 3) := by decide +kernel
theorem dX10_append_30 : decode cX10_append 30 = .ok (.iload_n 2, 1) := by decide +kernel
theorem dX10_append_31 : decode cX10_append 31 = .ok (.invokevirtual 99, 3) := by decide +kernel
theorem dX10_append_34 : decode cX10_append 34 = .ok (.aload_n 0, 1) := by decide +kernel
theorem dX10_append_35 : decode cX10_append 35 = .ok (.getfield 36, 3) := by decide +kernel
theorem dX10_append_38 : decode cX10_append 38 = .ok (.iload_n 3, 1) := by decide +kernel
theorem dX10_append_39 : decode cX10_append 39 = .ok (.invokevirtual 99, 3) := by decide +kernel
theorem dX10_append_42 : decode cX10_append 42 = .ok (.aload_n 0, 1) := by decide +kernel
theorem dX10_append_43 : decode cX10_append 43 = .ok (.getfield 36, 3) := by decide +kernel
theorem dX10_append_46 : decode cX10_append 46 = .ok (.iload 4, 2) := by decide +kernel
theorem dX10_append_48 : decode cX10_append 48 = .ok (.invokevirtual 99, 3) := by decide +kernel
theorem dX10_append_51 : decode cX10_append 51 = .ok (.aload_n 0, 1) := by decide +kernel
theorem dX10_append_52 : decode cX10_append 52 = .ok (.getfield 36, 3) := by decide +kernel
theorem dX10_append_55 : decode cX10_append 55 = .ok (.iload 5, 2) := by decide +kernel
theorem dX10_append_57 : decode cX10_append 57 = .ok (.invokevirtual 99, 3) := by decide +kernel
theorem dX10_append_60 : decode cX10_append 60 = .ok (.aload_n 0, 1) := by decide +kernel
theorem dX10_append_61 : decode cX10_append 61 = .ok (.getfield 36, 3) := by decide +kernel
theorem dX10_append_64 : decode cX10_append 64 = .ok (.invokevirtual 95, 3) := by decide +kernel
theorem dX10_append_67 : decode cX10_append 67 = .ok (.ireturn, 1) := by decide +kernel
theorem dX10_truncateInput_0 : decode cX10_truncateInput 0 = .ok (.iload_n 1, 1) := by decide +kernel
theorem dX10_truncateInput_1 : decode cX10_truncateInput 1 = .ok (.ifCond .lt 14, 3) := by decide +kernel
theorem dX10_truncateInput_4 : decode cX10_truncateInput 4 = .ok (.iload_n 1, 1) := by decide +kernel
theorem dX10_truncateInput_5 : decode cX10_truncateInput 5 = .ok (.aload_n 0, 1) := by decide +kernel
theorem dX10_truncateInput_6 : decode cX10_truncateInput 6 = .ok (.getfield 36, 3) := by decide +kernel
theorem dX10_truncateInput_9 : decode cX10_truncateInput 9 = .ok (.invokevirtual 95, 3) := by decide +kernel
theorem dX10_truncateInput_12 : decode cX10_truncateInput 12 = .ok (.if_icmp .le 13, 3) := by decide +kernel
theorem dX10_truncateInput_15 : decode cX10_truncateInput 15 = .ok (.new 102, 3) := by decide +kernel
theorem dX10_truncateInput_18 : decode cX10_truncateInput 18 = .ok (.dup, 1) := by decide +kernel
theorem dX10_truncateInput_19 : decode cX10_truncateInput 19 = .ok (.ldc 104, 2) := by decide +kernel
theorem dX10_truncateInput_21 : decode cX10_truncateInput 21 = .ok (.invokespecial 106, 3) := by decide +kernel
theorem dX10_truncateInput_24 : decode cX10_truncateInput 24 = .ok (.athrow, 1) := by decide +kernel
theorem dX10_truncateInput_25 : decode cX10_truncateInput 25 = .ok (.aload_n 0, 1) := by decide +kernel
theorem dX10_truncateInput_26 : decode cX10_truncateInput 26 = .ok (.getfield 36, 3) := by decide +kernel
theorem dX10_truncateInput_29 : decode cX10_truncateInput 29 = .ok (.iload_n 1, 1) := by decide +kernel
theorem dX10_truncateInput_30 : decode cX10_truncateInput 30 = .ok (.invokevirtual 32, 3) := by decide +kernel
theorem dX10_truncateInput_33 : decode cX10_truncateInput 33 = .ok (.iload_n 1, 1) := by decide +kernel
theorem dX10_truncateInput_34 : decode cX10_truncateInput 34 = .ok (.ireturn, 1) := by decide +kernel
theorem dX10_compile_0 : decode cX10_compile 0 = .ok (.iload_n 1, 1) := by decide +kernel
theorem dX10_compile_1 : decode cX10_compile 1 = .ok (.invokestatic 108, 3) := by decide +kernel
theorem dX10_compile_4 : decode cX10_compile 4 = .ok (.aload_n 0, 1) := by decide +kernel
theorem dX10_compile_5 : decode cX10_compile 5 = .ok (.aload_n 0, 1) := by decide +kernel
theorem dX10_compile_6 : decode cX10_compile 6 = .ok (.getfield 40, 3) := by decide +kernel
theorem dX10_compile_9 : decode cX10_compile 9 = .ok (.aload_n 0, 1) := by decide +kernel
theorem dX10_compile_10 : decode cX10_compile 10 = .ok (.getfield 36, 3) := by decide +kernel
theorem dX10_compile_13 : decode cX10_compile 13 = .ok (.invokevirtual 21, 3) := by decide +kernel
theorem dX10_compile_16 : decode cX10_compile 16 = .ok (.putfield 63, 3) := by decide +kernel
theorem dX10_compile_19 : decode cX10_compile 19 = .ok (.aload_n 0, 1) := by decide +kernel
theorem dX10_compile_20 : decode cX10_compile 20 = .ok (.aload_n 0, 1) := by decide +kernel
theorem dX10_compile_21 : decode cX10_compile 21 = .ok (.getfield 63, 3) := by decide +kernel
theorem dX10_compile_24 : decode cX10_compile 24 = .ok (.ifCond .ne 7, 3) := by decide +kernel
theorem dX10_compile_27 : decode cX10_compile 27 = .ok (.iconst (-1), 1) := by decide +kernel
theorem dX10_compile_28 : decode cX10_compile 28 = .ok (.goto 10, 3) := by decide +kernel
theorem dX10_compile_31 : decode cX10_compile 31 = .ok (.aload_n 0, 1) := by decide +kernel
theorem dX10_compile_32 : decode cX10_compile 32 = .ok (.getfield 40, 3) := by decide +kernel
theorem dX10_compile_35 : decode cX10_compile 35 = .ok (.invokevirtual 111, 3) := by decide +kernel
theorem dX10_compile_38 : decode cX10_compile 38 = .ok (.putfield 67, 3) := by decide +kernel
theorem dX10_compile_41 : decode cX10_compile 41 = .ok (.aload_n 0, 1) := by decide +kernel
theorem dX10_compile_42 : decode cX10_compile 42 = .ok (.getfield 36, 3) := by decide +kernel
theorem dX10_compile_45 : decode cX10_compile 45 = .ok (.iconst 0, 1) := by decide +kernel
theorem dX10_compile_46 : decode cX10_compile 46 = .ok (.invokevirtual 32, 3) := by decide +kernel
theorem dX10_compile_49 : decode cX10_compile 49 = .ok (.aload_n 0, 1) := by decide +kernel
theorem dX10_compile_50 : decode cX10_compile 50 = .ok (.getfield 63, 3) := by decide +kernel
theorem dX10_compile_53 : decode cX10_compile 53 = .ok (.ifCond .eq 5, 3) := by decide +kernel
theorem dX10_compile_56 : decode cX10_compile 56 = .ok (.iconst (-1), 1) := by decide +kernel
theorem dX10_compile_57 : decode cX10_compile 57 = .ok (.ireturn, 1) := by decide +kernel
theorem dX10_compile_58 : decode cX10_compile 58 = .ok (.new 25, 3) := by decide +kernel
theorem dX10_compile_61 : decode cX10_compile 61 = .ok (.dup, 1) := by decide +kernel
theorem dX10_compile_62 : decode cX10_compile 62 = .ok (.aload_n 0, 1) := by decide +kernel
theorem dX10_compile_63 : decode cX10_compile 63 = .ok (.getfield 40, 3) := by decide +kernel
theorem dX10_compile_66 : decode cX10_compile 66 = .ok (.invokespecial 27, 3) := by decide +kernel
theorem dX10_compile_69 : decode cX10_compile 69 = .ok (.astore_n 2, 1) := by decide +kernel
theorem dX10_compile_70 : decode cX10_compile 70 = .ok (.aload_n 0, 1) := by decide +kernel
theorem dX10_compile_71 : decode cX10_compile 71 = .ok (.getfield 56, 3) := by decide +kernel
theorem dX10_compile_74 : decode cX10_compile 74 = .ok (.aload_n 0, 1) := by decide +kernel
theorem dX10_compile_75 : decode cX10_compile 75 = .ok (.getfield 49, 3) := by decide +kernel
theorem dX10_compile_78 : decode cX10_compile 78 = .ok (.invokevirtual 113, 3) := by decide +kernel
theorem dX10_compile_81 : decode cX10_compile 81 = .ok (.aload_n 0, 1) := by decide +kernel
theorem dX10_compile_82 : decode cX10_compile 82 = .ok (.getfield 49, 3) := by decide +kernel
theorem dX10_compile_85 : decode cX10_compile 85 = .ok (.iload_n 1, 1) := by decide +kernel
theorem dX10_compile_86 : decode cX10_compile 86 = .ok (.aload_n 2, 1) := by decide +kernel
theorem dX10_compile_87 : decode cX10_compile 87 = .ok (.invokevirtual 117, 3) := by decide +kernel
theorem dX10_compile_90 : decode cX10_compile 90 = .ok (.aload_n 2, 1) := by decide +kernel
theorem dX10_compile_91 : decode cX10_compile 91 = .ok (.getfield 121, 3) := by decide +kernel
theorem dX10_compile_94 : decode cX10_compile 94 = .ok (.ireturn, 1) := by decide +kernel
theorem dX10_addWalker_0 : decode cX10_addWalker 0 = .ok (.iload_n 1, 1) := by decide +kernel
theorem dX10_addWalker_1 : decode cX10_addWalker 1 = .ok (.invokestatic 108, 3) := by decide +kernel
theorem dX10_addWalker_4 : decode cX10_addWalker 4 = .ok (.aload_n 0, 1) := by decide +kernel
theorem dX10_addWalker_5 : decode cX10_addWalker 5 = .ok (.getfield 49, 3) := by decide +kernel
theorem dX10_addWalker_8 : decode cX10_addWalker 8 = .ok (.getfield 135, 3) := by decide +kernel
theorem dX10_addWalker_11 : decode cX10_addWalker 11 = .ok (.bipush 6, 2) := by decide +kernel
theorem dX10_addWalker_13 : decode cX10_addWalker 13 = .ok (.if_icmp .lt 13, 3) := by decide +kernel
theorem dX10_addWalker_16 : decode cX10_addWalker 16 = .ok (.new 138, 3) := by decide +kernel
theorem dX10_addWalker_19 : decode cX10_addWalker 19 = .ok (.dup, 1) := by decide +kernel
theorem dX10_addWalker_20 : decode cX10_addWalker 20 = .ok (.ldc 140, 2) := by decide +kernel
theorem dX10_addWalker_22 : decode cX10_addWalker 22 = .ok (.invokespecial 142, 3) := by decide +kernel
theorem dX10_addWalker_25 : decode cX10_addWalker 25 = .ok (.athrow, 1) := by decide +kernel
theorem dX10_addWalker_26 : decode cX10_addWalker 26 = .ok (.aload_n 0, 1) := by decide +kernel
theorem dX10_addWalker_27 : decode cX10_addWalker 27 = .ok (.getfield 56, 3) := by decide +kernel
theorem dX10_addWalker_30 : decode cX10_addWalker 30 = .ok (.aload_n 0, 1) := by decide +kernel
theorem dX10_addWalker_31 : decode cX10_addWalker 31 = .ok (.getfield 49, 3) := by decide +kernel
theorem dX10_addWalker_34 : decode cX10_addWalker 34 = .ok (.invokevirtual 113, 3) := by decide +kernel
theorem dX10_addWalker_37 : decode cX10_addWalker 37 = .ok (.aload_n 0, 1) := by decide +kernel
theorem dX10_addWalker_38 : decode cX10_addWalker 38 = .ok (.getfield 49, 3) := by decide +kernel
theorem dX10_addWalker_41 : decode cX10_addWalker 41 = .ok (.iload_n 1, 1) := by decide +kernel
theorem dX10_addWalker_42 : decode cX10_addWalker 42 = .ok (.invokevirtual 143, 3) := by decide +kernel
theorem dX10_addWalker_45 : decode cX10_addWalker 45 = .ok (.ireturn, 1) := by decide +kernel
theorem dX10_step_0 : decode cX10_step 0 = .ok (.aload_n 0, 1) := by decide +kernel
theorem dX10_step_1 : decode cX10_step 1 = .ok (.iload_n 1, 1) := by decide +kernel
theorem dX10_step_2 : decode cX10_step 2 = .ok (.invokevirtual 146, 3) := by decide +kernel
theorem dX10_step_5 : decode cX10_step 5 = .ok (.iload_n 2, 1) := by decide +kernel
theorem dX10_step_6 : decode cX10_step 6 = .ok (.invokestatic 155, 3) := by decide +kernel
theorem dX10_step_9 : decode cX10_step 9 = .ok (.aload_n 0, 1) := by decide +kernel
theorem dX10_step_10 : decode cX10_step 10 = .ok (.getfield 49, 3) := by decide +kernel
theorem dX10_step_13 : decode cX10_step 13 = .ok (.iload_n 2, 1) := by decide +kernel
theorem dX10_step_14 : decode cX10_step 14 = .ok (.invokevirtual 158, 3) := by decide +kernel
theorem dX10_step_17 : decode cX10_step 17 = .ok (.ifCond .ne 13, 3) := by decide +kernel
theorem dX10_step_20 : decode cX10_step 20 = .ok (.new 138, 3) := by decide +kernel
theorem dX10_step_23 : decode cX10_step 23 = .ok (.dup, 1) := by decide +kernel
theorem dX10_step_24 : decode cX10_step 24 = .ok (.ldc 162, 2) := by decide +kernel
theorem dX10_step_26 : decode cX10_step 26 = .ok (.invokespecial 142, 3) := by decide +kernel
theorem dX10_step_29 : decode cX10_step 29 = .ok (.athrow, 1) := by decide +kernel
theorem dX10_step_30 : decode cX10_step 30 = .ok (.aload_n 0, 1) := by decide +kernel
theorem dX10_step_31 : decode cX10_step 31 = .ok (.getfield 56, 3) := by decide +kernel
theorem dX10_step_34 : decode cX10_step 34 = .ok (.aload_n 0, 1) := by decide +kernel
theorem dX10_step_35 : decode cX10_step 35 = .ok (.getfield 49, 3) := by decide +kernel
theorem dX10_step_38 : decode cX10_step 38 = .ok (.invokevirtual 113, 3) := by decide +kernel
theorem dX10_step_41 : decode cX10_step 41 = .ok (.aload_n 0, 1) := by decide +kernel
theorem dX10_step_42 : decode cX10_step 42 = .ok (.getfield 49, 3) := by decide +kernel
theorem dX10_step_45 : decode cX10_step 45 = .ok (.iload_n 1, 1) := by decide +kernel
theorem dX10_step_46 : decode cX10_step 46 = .ok (.iload_n 2, 1) := by decide +kernel
theorem dX10_step_47 : decode cX10_step 47 = .ok (.invokevirtual 164, 3) := by decide +kernel
theorem dX10_step_50 : decode cX10_step 50 = .ok (.aload_n 0, 1) := by decide +kernel
theorem dX10_step_51 : decode cX10_step 51 = .ok (.getfield 49, 3) := by decide +kernel
theorem dX10_step_54 : decode cX10_step 54 = .ok (.iload_n 1, 1) := by decide +kernel
theorem dX10_step_55 : decode cX10_step 55 = .ok (.invokevirtual 168, 3) := by decide +kernel
theorem dX10_step_58 : decode cX10_step 58 = .ok (.ireturn, 1) := by decide +kernel
theorem dX10_undo_0 : decode cX10_undo 0 = .ok (.aload_n 0, 1) := by decide +kernel
theorem dX10_undo_1 : decode cX10_undo 1 = .ok (.getfield 56, 3) := by decide +kernel
theorem dX10_undo_4 : decode cX10_undo 4 = .ok (.aload_n 0, 1) := by decide +kernel
theorem dX10_undo_5 : decode cX10_undo 5 = .ok (.getfield 49, 3) := by decide +kernel
theorem dX10_undo_8 : decode cX10_undo 8 = .ok (.invokevirtual 193, 3) := by decide +kernel
theorem dX10_undo_11 : decode cX10_undo 11 = .ok (.ifCond .eq 13, 3) := by decide +kernel
theorem dX10_undo_14 : decode cX10_undo 14 = .ok (.aload_n 0, 1) := by decide +kernel
theorem dX10_undo_15 : decode cX10_undo 15 = .ok (.getfield 56, 3) := by decide +kernel
theorem dX10_undo_18 : decode cX10_undo 18 = .ok (.invokevirtual 197, 3) := by decide +kernel
theorem dX10_undo_21 : decode cX10_undo 21 = .ok (.goto 4, 3) := by decide +kernel
theorem dX10_undo_24 : decode cX10_undo 24 = .ok (.iconst (-1), 1) := by decide +kernel
theorem dX10_undo_25 : decode cX10_undo 25 = .ok (.ireturn, 1) := by decide +kernel
theorem dX10_undoCount_0 : decode cX10_undoCount 0 = .ok (.aload_n 0, 1) := by decide +kernel
theorem dX10_undoCount_1 : decode cX10_undoCount 1 = .ok (.getfield 56, 3) := by decide +kernel
theorem dX10_undoCount_4 : decode cX10_undoCount 4 = .ok (.invokevirtual 197, 3) := by decide +kernel
theorem dX10_undoCount_7 : decode cX10_undoCount 7 = .ok (.ireturn, 1) := by decide +kernel
theorem dX10_patternErrorKind_0 : decode cX10_patternErrorKind 0 = .ok (.aload_n 0, 1) := by decide +kernel
theorem dX10_patternErrorKind_1 : decode cX10_patternErrorKind 1 = .ok (.getfield 63, 3) := by decide +kernel
theorem dX10_patternErrorKind_4 : decode cX10_patternErrorKind 4 = .ok (.ireturn, 1) := by decide +kernel
theorem dX10_patternErrorOffset_0 : decode cX10_patternErrorOffset 0 = .ok (.aload_n 0, 1) := by decide +kernel
theorem dX10_patternErrorOffset_1 : decode cX10_patternErrorOffset 1 = .ok (.getfield 67, 3) := by decide +kernel
theorem dX10_patternErrorOffset_4 : decode cX10_patternErrorOffset 4 = .ok (.ireturn, 1) := by decide +kernel
theorem dX10_positionCount_0 : decode cX10_positionCount 0 = .ok (.aload_n 0, 1) := by decide +kernel
theorem dX10_positionCount_1 : decode cX10_positionCount 1 = .ok (.iload_n 1, 1) := by decide +kernel
theorem dX10_positionCount_2 : decode cX10_positionCount 2 = .ok (.invokevirtual 212, 3) := by decide +kernel
theorem dX10_positionCount_5 : decode cX10_positionCount 5 = .ok (.getfield 121, 3) := by decide +kernel
theorem dX10_positionCount_8 : decode cX10_positionCount 8 = .ok (.ireturn, 1) := by decide +kernel
theorem dX10_streetAt_0 : decode cX10_streetAt 0 = .ok (.aload_n 0, 1) := by decide +kernel
theorem dX10_streetAt_1 : decode cX10_streetAt 1 = .ok (.iload_n 1, 1) := by decide +kernel
theorem dX10_streetAt_2 : decode cX10_streetAt 2 = .ok (.invokevirtual 212, 3) := by decide +kernel
theorem dX10_streetAt_5 : decode cX10_streetAt 5 = .ok (.astore_n 3, 1) := by decide +kernel
theorem dX10_streetAt_6 : decode cX10_streetAt 6 = .ok (.aload_n 3, 1) := by decide +kernel
theorem dX10_streetAt_7 : decode cX10_streetAt 7 = .ok (.iload_n 2, 1) := by decide +kernel
theorem dX10_streetAt_8 : decode cX10_streetAt 8 = .ok (.invokestatic 215, 3) := by decide +kernel
theorem dX10_streetAt_11 : decode cX10_streetAt 11 = .ok (.aload_n 3, 1) := by decide +kernel
theorem dX10_streetAt_12 : decode cX10_streetAt 12 = .ok (.iload_n 2, 1) := by decide +kernel
theorem dX10_streetAt_13 : decode cX10_streetAt 13 = .ok (.invokevirtual 219, 3) := by decide +kernel
theorem dX10_streetAt_16 : decode cX10_streetAt 16 = .ok (.ireturn, 1) := by decide +kernel
theorem dX10_acceptsEmptyWord_0 : decode cX10_acceptsEmptyWord 0 = .ok (.aload_n 0, 1) := by decide +kernel
theorem dX10_acceptsEmptyWord_1 : decode cX10_acceptsEmptyWord 1 = .ok (.iload_n 1, 1) := by decide +kernel
theorem dX10_acceptsEmptyWord_2 : decode cX10_acceptsEmptyWord 2 = .ok (.invokevirtual 212, 3) := by decide +kernel
theorem dX10_acceptsEmptyWord_5 : decode cX10_acceptsEmptyWord 5 = .ok (.getfield 222, 3) := by decide +kernel
theorem dX10_acceptsEmptyWord_8 : decode cX10_acceptsEmptyWord 8 = .ok (.ireturn, 1) := by decide +kernel
theorem dX10_firstPositions_0 : decode cX10_firstPositions 0 = .ok (.aload_n 0, 1) := by decide +kernel
theorem dX10_firstPositions_1 : decode cX10_firstPositions 1 = .ok (.iload_n 1, 1) := by decide +kernel
theorem dX10_firstPositions_2 : decode cX10_firstPositions 2 = .ok (.invokevirtual 212, 3) := by decide +kernel
theorem dX10_firstPositions_5 : decode cX10_firstPositions 5 = .ok (.getfield 225, 3) := by decide +kernel
theorem dX10_firstPositions_8 : decode cX10_firstPositions 8 = .ok (.ireturn, 1) := by decide +kernel
theorem dX10_lastPositions_0 : decode cX10_lastPositions 0 = .ok (.aload_n 0, 1) := by decide +kernel
theorem dX10_lastPositions_1 : decode cX10_lastPositions 1 = .ok (.iload_n 1, 1) := by decide +kernel
theorem dX10_lastPositions_2 : decode cX10_lastPositions 2 = .ok (.invokevirtual 212, 3) := by decide +kernel
theorem dX10_lastPositions_5 : decode cX10_lastPositions 5 = .ok (.getfield 228, 3) := by decide +kernel
theorem dX10_lastPositions_8 : decode cX10_lastPositions 8 = .ok (.ireturn, 1) := by decide +kernel
theorem dX10_followPositions_0 : decode cX10_followPositions 0 = .ok (.aload_n 0, 1) := by decide +kernel
theorem dX10_followPositions_1 : decode cX10_followPositions 1 = .ok (.iload_n 1, 1) := by decide +kernel
theorem dX10_followPositions_2 : decode cX10_followPositions 2 = .ok (.invokevirtual 212, 3) := by decide +kernel
theorem dX10_followPositions_5 : decode cX10_followPositions 5 = .ok (.astore_n 3, 1) := by decide +kernel
theorem dX10_followPositions_6 : decode cX10_followPositions 6 = .ok (.aload_n 3, 1) := by decide +kernel
theorem dX10_followPositions_7 : decode cX10_followPositions 7 = .ok (.iload_n 2, 1) := by decide +kernel
theorem dX10_followPositions_8 : decode cX10_followPositions 8 = .ok (.invokestatic 215, 3) := by decide +kernel
theorem dX10_followPositions_11 : decode cX10_followPositions 11 = .ok (.aload_n 3, 1) := by decide +kernel
theorem dX10_followPositions_12 : decode cX10_followPositions 12 = .ok (.iload_n 2, 1) := by decide +kernel
theorem dX10_followPositions_13 : decode cX10_followPositions 13 = .ok (.invokevirtual 231, 3) := by decide +kernel
theorem dX10_followPositions_16 : decode cX10_followPositions 16 = .ok (.ireturn, 1) := by decide +kernel
theorem dX10_stateCount_0 : decode cX10_stateCount 0 = .ok (.aload_n 0, 1) := by decide +kernel
theorem dX10_stateCount_1 : decode cX10_stateCount 1 = .ok (.iload_n 1, 1) := by decide +kernel
theorem dX10_stateCount_2 : decode cX10_stateCount 2 = .ok (.invokevirtual 212, 3) := by decide +kernel
theorem dX10_stateCount_5 : decode cX10_stateCount 5 = .ok (.getfield 132, 3) := by decide +kernel
theorem dX10_stateCount_8 : decode cX10_stateCount 8 = .ok (.ireturn, 1) := by decide +kernel
theorem dX10_transition_0 : decode cX10_transition 0 = .ok (.aload_n 0, 1) := by decide +kernel
theorem dX10_transition_1 : decode cX10_transition 1 = .ok (.iload_n 1, 1) := by decide +kernel
theorem dX10_transition_2 : decode cX10_transition 2 = .ok (.invokevirtual 212, 3) := by decide +kernel
theorem dX10_transition_5 : decode cX10_transition 5 = .ok (.astore 4, 2) := by decide +kernel
theorem dX10_transition_7 : decode cX10_transition 7 = .ok (.aload 4, 2) := by decide +kernel
theorem dX10_transition_9 : decode cX10_transition 9 = .ok (.iload_n 2, 1) := by decide +kernel
theorem dX10_transition_10 : decode cX10_transition 10 = .ok (.invokestatic 240, 3) := by decide +kernel
theorem dX10_transition_13 : decode cX10_transition 13 = .ok (.iload_n 3, 1) := by decide +kernel
theorem dX10_transition_14 : decode cX10_transition 14 = .ok (.invokestatic 155, 3) := by decide +kernel
theorem dX10_transition_17 : decode cX10_transition 17 = .ok (.aload 4, 2) := by decide +kernel
theorem dX10_transition_19 : decode cX10_transition 19 = .ok (.iload_n 2, 1) := by decide +kernel
theorem dX10_transition_20 : decode cX10_transition 20 = .ok (.iload_n 3, 1) := by decide +kernel
theorem dX10_transition_21 : decode cX10_transition 21 = .ok (.invokevirtual 243, 3) := by decide +kernel
theorem dX10_transition_24 : decode cX10_transition 24 = .ok (.ireturn, 1) := by decide +kernel
theorem dX10_isAccepting_0 : decode cX10_isAccepting 0 = .ok (.aload_n 0, 1) := by decide +kernel
theorem dX10_isAccepting_1 : decode cX10_isAccepting 1 = .ok (.iload_n 1, 1) := by decide +kernel
theorem dX10_isAccepting_2 : decode cX10_isAccepting 2 = .ok (.invokevirtual 212, 3) := by decide +kernel
theorem dX10_isAccepting_5 : decode cX10_isAccepting 5 = .ok (.astore_n 3, 1) := by decide +kernel
theorem dX10_isAccepting_6 : decode cX10_isAccepting 6 = .ok (.aload_n 3, 1) := by decide +kernel
theorem dX10_isAccepting_7 : decode cX10_isAccepting 7 = .ok (.iload_n 2, 1) := by decide +kernel
theorem dX10_isAccepting_8 : decode cX10_isAccepting 8 = .ok (.invokestatic 240, 3) := by decide +kernel
theorem dX10_isAccepting_11 : decode cX10_isAccepting 11 = .ok (.aload_n 3, 1) := by decide +kernel
theorem dX10_isAccepting_12 : decode cX10_isAccepting 12 = .ok (.iload_n 2, 1) := by decide +kernel
theorem dX10_isAccepting_13 : decode cX10_isAccepting 13 = .ok (.invokevirtual 247, 3) := by decide +kernel
theorem dX10_isAccepting_16 : decode cX10_isAccepting 16 = .ok (.ireturn, 1) := by decide +kernel
theorem dX10_statePositions_0 : decode cX10_statePositions 0 = .ok (.aload_n 0, 1) := by decide +kernel
theorem dX10_statePositions_1 : decode cX10_statePositions 1 = .ok (.iload_n 1, 1) := by decide +kernel
theorem dX10_statePositions_2 : decode cX10_statePositions 2 = .ok (.invokevirtual 212, 3) := by decide +kernel
theorem dX10_statePositions_5 : decode cX10_statePositions 5 = .ok (.astore_n 3, 1) := by decide +kernel
theorem dX10_statePositions_6 : decode cX10_statePositions 6 = .ok (.aload_n 3, 1) := by decide +kernel
theorem dX10_statePositions_7 : decode cX10_statePositions 7 = .ok (.iload_n 2, 1) := by decide +kernel
theorem dX10_statePositions_8 : decode cX10_statePositions 8 = .ok (.invokestatic 240, 3) := by decide +kernel
theorem dX10_statePositions_11 : decode cX10_statePositions 11 = .ok (.aload_n 3, 1) := by decide +kernel
theorem dX10_statePositions_12 : decode cX10_statePositions 12 = .ok (.iload_n 2, 1) := by decide +kernel
theorem dX10_statePositions_13 : decode cX10_statePositions 13 = .ok (.invokevirtual 250, 3) := by decide +kernel
theorem dX10_statePositions_16 : decode cX10_statePositions 16 = .ok (.ireturn, 1) := by decide +kernel
theorem dX10_acceptsInput_0 : decode cX10_acceptsInput 0 = .ok (.aload_n 0, 1) := by decide +kernel
theorem dX10_acceptsInput_1 : decode cX10_acceptsInput 1 = .ok (.iload_n 1, 1) := by decide +kernel
theorem dX10_acceptsInput_2 : decode cX10_acceptsInput 2 = .ok (.invokevirtual 212, 3) := by decide +kernel
theorem dX10_acceptsInput_5 : decode cX10_acceptsInput 5 = .ok (.astore_n 2, 1) := by decide +kernel
theorem dX10_acceptsInput_6 : decode cX10_acceptsInput 6 = .ok (.aload_n 2, 1) := by decide +kernel
theorem dX10_acceptsInput_7 : decode cX10_acceptsInput 7 = .ok (.aload_n 0, 1) := by decide +kernel
theorem dX10_acceptsInput_8 : decode cX10_acceptsInput 8 = .ok (.aload_n 2, 1) := by decide +kernel
theorem dX10_acceptsInput_9 : decode cX10_acceptsInput 9 = .ok (.invokevirtual 271, 3) := by decide +kernel
theorem dX10_acceptsInput_12 : decode cX10_acceptsInput 12 = .ok (.invokevirtual 247, 3) := by decide +kernel
theorem dX10_acceptsInput_15 : decode cX10_acceptsInput 15 = .ok (.ireturn, 1) := by decide +kernel
theorem dX10_wordCount_0 : decode cX10_wordCount 0 = .ok (.aload_n 0, 1) := by decide +kernel
theorem dX10_wordCount_1 : decode cX10_wordCount 1 = .ok (.iload_n 1, 1) := by decide +kernel
theorem dX10_wordCount_2 : decode cX10_wordCount 2 = .ok (.invokevirtual 212, 3) := by decide +kernel
theorem dX10_wordCount_5 : decode cX10_wordCount 5 = .ok (.astore_n 3, 1) := by decide +kernel
theorem dX10_wordCount_6 : decode cX10_wordCount 6 = .ok (.iload_n 2, 1) := by decide +kernel
theorem dX10_wordCount_7 : decode cX10_wordCount 7 = .ok (.invokestatic 275, 3) := by decide +kernel
theorem dX10_wordCount_10 : decode cX10_wordCount 10 = .ok (.aload_n 0, 1) := by decide +kernel
theorem dX10_wordCount_11 : decode cX10_wordCount 11 = .ok (.getfield 80, 3) := by decide +kernel
theorem dX10_wordCount_14 : decode cX10_wordCount 14 = .ok (.aload_n 3, 1) := by decide +kernel
theorem dX10_wordCount_15 : decode cX10_wordCount 15 = .ok (.iload_n 2, 1) := by decide +kernel
theorem dX10_wordCount_16 : decode cX10_wordCount 16 = .ok (.invokevirtual 278, 3) := by decide +kernel
theorem dX10_wordCount_19 : decode cX10_wordCount 19 = .ok (.aload_n 0, 1) := by decide +kernel
theorem dX10_wordCount_20 : decode cX10_wordCount 20 = .ok (.getfield 80, 3) := by decide +kernel
theorem dX10_wordCount_23 : decode cX10_wordCount 23 = .ok (.iconst 0, 1) := by decide +kernel
theorem dX10_wordCount_24 : decode cX10_wordCount 24 = .ok (.iload_n 2, 1) := by decide +kernel
theorem dX10_wordCount_25 : decode cX10_wordCount 25 = .ok (.invokevirtual 281, 3) := by decide +kernel
theorem dX10_wordCount_28 : decode cX10_wordCount 28 = .ok (.lreturn, 1) := by decide +kernel
theorem dX10_isPassable_0 : decode cX10_isPassable 0 = .ok (.iload_n 1, 1) := by decide +kernel
theorem dX10_isPassable_1 : decode cX10_isPassable 1 = .ok (.invokestatic 155, 3) := by decide +kernel
theorem dX10_isPassable_4 : decode cX10_isPassable 4 = .ok (.aload_n 0, 1) := by decide +kernel
theorem dX10_isPassable_5 : decode cX10_isPassable 5 = .ok (.getfield 49, 3) := by decide +kernel
theorem dX10_isPassable_8 : decode cX10_isPassable 8 = .ok (.iload_n 1, 1) := by decide +kernel
theorem dX10_isPassable_9 : decode cX10_isPassable 9 = .ok (.invokevirtual 158, 3) := by decide +kernel
theorem dX10_isPassable_12 : decode cX10_isPassable 12 = .ok (.ireturn, 1) := by decide +kernel
theorem dX10_isNight_0 : decode cX10_isNight 0 = .ok (.aload_n 0, 1) := by decide +kernel
theorem dX10_isNight_1 : decode cX10_isNight 1 = .ok (.getfield 49, 3) := by decide +kernel
theorem dX10_isNight_4 : decode cX10_isNight 4 = .ok (.getfield 181, 3) := by decide +kernel
theorem dX10_isNight_7 : decode cX10_isNight 7 = .ok (.ireturn, 1) := by decide +kernel
theorem dX10_walkerCount_0 : decode cX10_walkerCount 0 = .ok (.aload_n 0, 1) := by decide +kernel
theorem dX10_walkerCount_1 : decode cX10_walkerCount 1 = .ok (.getfield 49, 3) := by decide +kernel
theorem dX10_walkerCount_4 : decode cX10_walkerCount 4 = .ok (.getfield 135, 3) := by decide +kernel
theorem dX10_walkerCount_7 : decode cX10_walkerCount 7 = .ok (.ireturn, 1) := by decide +kernel
theorem dX10_walkerSlot_0 : decode cX10_walkerSlot 0 = .ok (.aload_n 0, 1) := by decide +kernel
theorem dX10_walkerSlot_1 : decode cX10_walkerSlot 1 = .ok (.iload_n 1, 1) := by decide +kernel
theorem dX10_walkerSlot_2 : decode cX10_walkerSlot 2 = .ok (.invokevirtual 146, 3) := by decide +kernel
theorem dX10_walkerSlot_5 : decode cX10_walkerSlot 5 = .ok (.aload_n 0, 1) := by decide +kernel
theorem dX10_walkerSlot_6 : decode cX10_walkerSlot 6 = .ok (.getfield 49, 3) := by decide +kernel
theorem dX10_walkerSlot_9 : decode cX10_walkerSlot 9 = .ok (.iload_n 1, 1) := by decide +kernel
theorem dX10_walkerSlot_10 : decode cX10_walkerSlot 10 = .ok (.invokevirtual 296, 3) := by decide +kernel
theorem dX10_walkerSlot_13 : decode cX10_walkerSlot 13 = .ok (.ireturn, 1) := by decide +kernel
theorem dX10_walkerState_0 : decode cX10_walkerState 0 = .ok (.aload_n 0, 1) := by decide +kernel
theorem dX10_walkerState_1 : decode cX10_walkerState 1 = .ok (.iload_n 1, 1) := by decide +kernel
theorem dX10_walkerState_2 : decode cX10_walkerState 2 = .ok (.invokevirtual 146, 3) := by decide +kernel
theorem dX10_walkerState_5 : decode cX10_walkerState 5 = .ok (.aload_n 0, 1) := by decide +kernel
theorem dX10_walkerState_6 : decode cX10_walkerState 6 = .ok (.getfield 49, 3) := by decide +kernel
theorem dX10_walkerState_9 : decode cX10_walkerState 9 = .ok (.iload_n 1, 1) := by decide +kernel
theorem dX10_walkerState_10 : decode cX10_walkerState 10 = .ok (.invokevirtual 168, 3) := by decide +kernel
theorem dX10_walkerState_13 : decode cX10_walkerState 13 = .ok (.ireturn, 1) := by decide +kernel
theorem dX10_walkerSteps_0 : decode cX10_walkerSteps 0 = .ok (.aload_n 0, 1) := by decide +kernel
theorem dX10_walkerSteps_1 : decode cX10_walkerSteps 1 = .ok (.iload_n 1, 1) := by decide +kernel
theorem dX10_walkerSteps_2 : decode cX10_walkerSteps 2 = .ok (.invokevirtual 146, 3) := by decide +kernel
theorem dX10_walkerSteps_5 : decode cX10_walkerSteps 5 = .ok (.aload_n 0, 1) := by decide +kernel
theorem dX10_walkerSteps_6 : decode cX10_walkerSteps 6 = .ok (.getfield 49, 3) := by decide +kernel
theorem dX10_walkerSteps_9 : decode cX10_walkerSteps 9 = .ok (.iload_n 1, 1) := by decide +kernel
theorem dX10_walkerSteps_10 : decode cX10_walkerSteps 10 = .ok (.invokevirtual 149, 3) := by decide +kernel
theorem dX10_walkerSteps_13 : decode cX10_walkerSteps 13 = .ok (.ireturn, 1) := by decide +kernel
theorem dX10_totalSteps_0 : decode cX10_totalSteps 0 = .ok (.aload_n 0, 1) := by decide +kernel
theorem dX10_totalSteps_1 : decode cX10_totalSteps 1 = .ok (.getfield 49, 3) := by decide +kernel
theorem dX10_totalSteps_4 : decode cX10_totalSteps 4 = .ok (.getfield 311, 3) := by decide +kernel
theorem dX10_totalSteps_7 : decode cX10_totalSteps 7 = .ok (.ireturn, 1) := by decide +kernel
theorem dX10_writeWord_0 : decode cX10_writeWord 0 = .ok (.aload_n 0, 1) := by decide +kernel
theorem dX10_writeWord_1 : decode cX10_writeWord 1 = .ok (.iload_n 1, 1) := by decide +kernel
theorem dX10_writeWord_2 : decode cX10_writeWord 2 = .ok (.invokevirtual 212, 3) := by decide +kernel
theorem dX10_writeWord_5 : decode cX10_writeWord 5 = .ok (.astore 5, 2) := by decide +kernel
theorem dX10_writeWord_7 : decode cX10_writeWord 7 = .ok (.iload_n 2, 1) := by decide +kernel
theorem dX10_writeWord_8 : decode cX10_writeWord 8 = .ok (.invokestatic 275, 3) := by decide +kernel
theorem dX10_writeWord_11 : decode cX10_writeWord 11 = .ok (.aload_n 0, 1) := by decide +kernel
theorem dX10_writeWord_12 : decode cX10_writeWord 12 = .ok (.getfield 80, 3) := by decide +kernel
theorem dX10_writeWord_15 : decode cX10_writeWord 15 = .ok (.aload 5, 2) := by decide +kernel
theorem dX10_writeWord_17 : decode cX10_writeWord 17 = .ok (.iload_n 2, 1) := by decide +kernel
theorem dX10_writeWord_18 : decode cX10_writeWord 18 = .ok (.invokevirtual 278, 3) := by decide +kernel
theorem dX10_writeWord_21 : decode cX10_writeWord 21 = .ok (.lload_n 3, 1) := by decide +kernel
theorem dX10_writeWord_22 : decode cX10_writeWord 22 = .ok (.lconst 0, 1) := by decide +kernel
theorem dX10_writeWord_23 : decode cX10_writeWord 23 = .ok (.lcmp, 1) := by decide +kernel
theorem dX10_writeWord_24 : decode cX10_writeWord 24 = .ok (.ifCond .lt 17, 3) := by decide +kernel
theorem dX10_writeWord_27 : decode cX10_writeWord 27 = .ok (.lload_n 3, 1) := by decide +kernel
theorem dX10_writeWord_28 : decode cX10_writeWord 28 = .ok (.aload_n 0, 1) := by decide +kernel
theorem dX10_writeWord_29 : decode cX10_writeWord 29 = .ok (.getfield 80, 3) := by decide +kernel
theorem dX10_writeWord_32 : decode cX10_writeWord 32 = .ok (.iconst 0, 1) := by decide +kernel
theorem dX10_writeWord_33 : decode cX10_writeWord 33 = .ok (.iload_n 2, 1) := by decide +kernel
theorem dX10_writeWord_34 : decode cX10_writeWord 34 = .ok (.invokevirtual 281, 3) := by decide +kernel
theorem dX10_writeWord_37 : decode cX10_writeWord 37 = .ok (.lcmp, 1) := by decide +kernel
theorem dX10_writeWord_38 : decode cX10_writeWord 38 = .ok (.ifCond .lt 5, 3) := by decide +kernel
theorem dX10_writeWord_41 : decode cX10_writeWord 41 = .ok (.iconst (-1), 1) := by decide +kernel
theorem dX10_writeWord_42 : decode cX10_writeWord 42 = .ok (.ireturn, 1) := by decide +kernel
theorem dX10_writeWord_43 : decode cX10_writeWord 43 = .ok (.lload_n 3, 1) := by decide +kernel
theorem dX10_writeWord_44 : decode cX10_writeWord 44 = .ok (.lstore 6, 2) := by decide +kernel
theorem dX10_writeWord_46 : decode cX10_writeWord 46 = .ok (.iconst 0, 1) := by decide +kernel
theorem dX10_writeWord_47 : decode cX10_writeWord 47 = .ok (.istore 8, 2) := by decide +kernel
theorem dX10_writeWord_49 : decode cX10_writeWord 49 = .ok (.iconst 0, 1) := by decide +kernel
theorem dX10_writeWord_50 : decode cX10_writeWord 50 = .ok (.istore 9, 2) := by decide +kernel
theorem dX10_writeWord_52 : decode cX10_writeWord 52 = .ok (.iload 9, 2) := by decide +kernel
theorem dX10_writeWord_54 : decode cX10_writeWord 54 = .ok (.iload_n 2, 1) := by decide +kernel
theorem dX10_writeWord_55 : decode cX10_writeWord 55 = .ok (.if_icmp .ge 73, 3) := by decide +kernel
theorem dX10_writeWord_58 : decode cX10_writeWord 58 = .ok (.iload_n 2, 1) := by decide +kernel
theorem dX10_writeWord_59 : decode cX10_writeWord 59 = .ok (.iload 9, 2) := by decide +kernel
theorem dX10_writeWord_61 : decode cX10_writeWord 61 = .ok (.isub, 1) := by decide +kernel
theorem dX10_writeWord_62 : decode cX10_writeWord 62 = .ok (.iconst 1, 1) := by decide +kernel
theorem dX10_writeWord_63 : decode cX10_writeWord 63 = .ok (.isub, 1) := by decide +kernel
theorem dX10_writeWord_64 : decode cX10_writeWord 64 = .ok (.istore 10, 2) := by decide +kernel
theorem dX10_writeWord_66 : decode cX10_writeWord 66 = .ok (.aload_n 0, 1) := by decide +kernel
theorem dX10_writeWord_67 : decode cX10_writeWord 67 = .ok (.getfield 80, 3) := by decide +kernel
theorem dX10_writeWord_70 : decode cX10_writeWord 70 = .ok (.aload 5, 2) := by decide +kernel
theorem dX10_writeWord_72 : decode cX10_writeWord 72 = .ok (.iload 8, 2) := by decide +kernel
theorem dX10_writeWord_74 : decode cX10_writeWord 74 = .ok (.iload 10, 2) := by decide +kernel
theorem dX10_writeWord_76 : decode cX10_writeWord 76 = .ok (.lload 6, 2) := by decide +kernel
theorem dX10_writeWord_78 : decode cX10_writeWord 78 = .ok (.invokevirtual 314, 3) := by decide +kernel
theorem dX10_writeWord_81 : decode cX10_writeWord 81 = .ok (.istore 11, 2) := by decide +kernel
theorem dX10_writeWord_83 : decode cX10_writeWord 83 = .ok (.lload 6, 2) := by decide +kernel
theorem dX10_writeWord_85 : decode cX10_writeWord 85 = .ok (.aload_n 0, 1) := by decide +kernel
theorem dX10_writeWord_86 : decode cX10_writeWord 86 = .ok (.getfield 80, 3) := by decide +kernel
theorem dX10_writeWord_89 : decode cX10_writeWord 89 = .ok (.aload 5, 2) := by decide +kernel
theorem dX10_writeWord_91 : decode cX10_writeWord 91 = .ok (.iload 8, 2) := by decide +kernel
theorem dX10_writeWord_93 : decode cX10_writeWord 93 = .ok (.iload 10, 2) := by decide +kernel
theorem dX10_writeWord_95 : decode cX10_writeWord 95 = .ok (.iload 11, 2) := by decide +kernel
theorem dX10_writeWord_97 : decode cX10_writeWord 97 = .ok (.invokevirtual 318, 3) := by decide +kernel
theorem dX10_writeWord_100 : decode cX10_writeWord 100 = .ok (.lsub, 1) := by decide +kernel
theorem dX10_writeWord_101 : decode cX10_writeWord 101 = .ok (.lstore 6, 2) := by decide +kernel
theorem dX10_writeWord_103 : decode cX10_writeWord 103 = .ok (.aload_n 0, 1) := by decide +kernel
theorem dX10_writeWord_104 : decode cX10_writeWord 104 = .ok (.iload 9, 2) := by decide +kernel
theorem dX10_writeWord_106 : decode cX10_writeWord 106 = .ok (.iload 11, 2) := by decide +kernel
theorem dX10_writeWord_108 : decode cX10_writeWord 108 = .ok (.invokevirtual 322, 3) := by decide +kernel
theorem dX10_writeWord_111 : decode cX10_writeWord 111 = .ok (.aload 5, 2) := by decide +kernel
theorem dX10_writeWord_113 : decode cX10_writeWord 113 = .ok (.iload 8, 2) := by decide +kernel
theorem dX10_writeWord_115 : decode cX10_writeWord 115 = .ok (.iload 11, 2) := by decide +kernel
theorem dX10_writeWord_117 : decode cX10_writeWord 117 = .ok (.invokevirtual 243, 3) := by decide +kernel
theorem dX10_writeWord_120 : decode cX10_writeWord 120 = .ok (.istore 8, 2) := by decide +kernel
theorem dX10_writeWord_122 : decode cX10_writeWord 122 = .ok (.iinc 9 1, 3) := by decide +kernel
theorem dX10_writeWord_125 : decode cX10_writeWord 125 = .ok (.goto (-73), 3) := by decide +kernel
theorem dX10_writeWord_128 : decode cX10_writeWord 128 = .ok (.aload_n 0, 1) := by decide +kernel
theorem dX10_writeWord_129 : decode cX10_writeWord 129 = .ok (.iload_n 2, 1) := by decide +kernel
theorem dX10_writeWord_130 : decode cX10_writeWord 130 = .ok (.putfield 325, 3) := by decide +kernel
theorem dX10_writeWord_133 : decode cX10_writeWord 133 = .ok (.iload_n 2, 1) := by decide +kernel
theorem dX10_writeWord_134 : decode cX10_writeWord 134 = .ok (.ireturn, 1) := by decide +kernel
theorem dX10_reportByte_0 : decode cX10_reportByte 0 = .ok (.iload_n 1, 1) := by decide +kernel
theorem dX10_reportByte_1 : decode cX10_reportByte 1 = .ok (.aload_n 0, 1) := by decide +kernel
theorem dX10_reportByte_2 : decode cX10_reportByte 2 = .ok (.getfield 325, 3) := by decide +kernel
theorem dX10_reportByte_5 : decode cX10_reportByte 5 = .ok (.invokestatic 331, 3) := by decide +kernel
theorem dX10_reportByte_8 : decode cX10_reportByte 8 = .ok (.ifCond .eq 12, 3) := by decide +kernel
theorem dX10_reportByte_11 : decode cX10_reportByte 11 = .ok (.iload_n 1, 1) := by decide +kernel
theorem dX10_reportByte_12 : decode cX10_reportByte 12 = .ok (.aload_n 0, 1) := by decide +kernel
theorem dX10_reportByte_13 : decode cX10_reportByte 13 = .ok (.getfield 91, 3) := by decide +kernel
theorem dX10_reportByte_16 : decode cX10_reportByte 16 = .ok (.arraylength, 1) := by decide +kernel
theorem dX10_reportByte_17 : decode cX10_reportByte 17 = .ok (.if_icmp .lt 5, 3) := by decide +kernel
theorem dX10_reportByte_20 : decode cX10_reportByte 20 = .ok (.iconst (-1), 1) := by decide +kernel
theorem dX10_reportByte_21 : decode cX10_reportByte 21 = .ok (.ireturn, 1) := by decide +kernel
theorem dX10_reportByte_22 : decode cX10_reportByte 22 = .ok (.aload_n 0, 1) := by decide +kernel
theorem dX10_reportByte_23 : decode cX10_reportByte 23 = .ok (.getfield 91, 3) := by decide +kernel
theorem dX10_reportByte_26 : decode cX10_reportByte 26 = .ok (.iload_n 1, 1) := by decide +kernel
theorem dX10_reportByte_27 : decode cX10_reportByte 27 = .ok (.iaload, 1) := by decide +kernel
theorem dX10_reportByte_28 : decode cX10_reportByte 28 = .ok (.ireturn, 1) := by decide +kernel
theorem dX10_isIndex_0 : decode cX10_isIndex 0 = .ok (.iload_n 0, 1) := by decide +kernel
theorem dX10_isIndex_1 : decode cX10_isIndex 1 = .ok (.ifCond .lt 12, 3) := by decide +kernel
theorem dX10_isIndex_4 : decode cX10_isIndex 4 = .ok (.iload_n 0, 1) := by decide +kernel
theorem dX10_isIndex_5 : decode cX10_isIndex 5 = .ok (.iload_n 1, 1) := by decide +kernel
theorem dX10_isIndex_6 : decode cX10_isIndex 6 = .ok (.if_icmp .ge 7, 3) := by decide +kernel
theorem dX10_isIndex_9 : decode cX10_isIndex 9 = .ok (.iconst 1, 1) := by decide +kernel
theorem dX10_isIndex_10 : decode cX10_isIndex 10 = .ok (.goto 4, 3) := by decide +kernel
theorem dX10_isIndex_13 : decode cX10_isIndex 13 = .ok (.iconst 0, 1) := by decide +kernel
theorem dX10_isIndex_14 : decode cX10_isIndex 14 = .ok (.ireturn, 1) := by decide +kernel
theorem dX10_checkSlot_0 : decode cX10_checkSlot 0 = .ok (.iload_n 0, 1) := by decide +kernel
theorem dX10_checkSlot_1 : decode cX10_checkSlot 1 = .ok (.iconst 2, 1) := by decide +kernel
theorem dX10_checkSlot_2 : decode cX10_checkSlot 2 = .ok (.invokestatic 331, 3) := by decide +kernel
theorem dX10_checkSlot_5 : decode cX10_checkSlot 5 = .ok (.ifCond .ne 14, 3) := by decide +kernel
theorem dX10_checkSlot_8 : decode cX10_checkSlot 8 = .ok (.new 335, 3) := by decide +kernel
theorem dX10_checkSlot_11 : decode cX10_checkSlot 11 = .ok (.dup, 1) := by decide +kernel
theorem dX10_checkSlot_12 : decode cX10_checkSlot 12 = .ok (.ldc_w 337, 3) := by decide +kernel
theorem dX10_checkSlot_15 : decode cX10_checkSlot 15 = .ok (.invokespecial 339, 3) := by decide +kernel
theorem dX10_checkSlot_18 : decode cX10_checkSlot 18 = .ok (.athrow, 1) := by decide +kernel
theorem dX10_checkSlot_19 : decode cX10_checkSlot 19 = .ok (.return_, 1) := by decide +kernel
theorem dX10_checkStreet_0 : decode cX10_checkStreet 0 = .ok (.iload_n 0, 1) := by decide +kernel
theorem dX10_checkStreet_1 : decode cX10_checkStreet 1 = .ok (.bipush 6, 2) := by decide +kernel
theorem dX10_checkStreet_3 : decode cX10_checkStreet 3 = .ok (.invokestatic 331, 3) := by decide +kernel
theorem dX10_checkStreet_6 : decode cX10_checkStreet 6 = .ok (.ifCond .ne 14, 3) := by decide +kernel
theorem dX10_checkStreet_9 : decode cX10_checkStreet 9 = .ok (.new 335, 3) := by decide +kernel
theorem dX10_checkStreet_12 : decode cX10_checkStreet 12 = .ok (.dup, 1) := by decide +kernel
theorem dX10_checkStreet_13 : decode cX10_checkStreet 13 = .ok (.ldc_w 340, 3) := by decide +kernel
theorem dX10_checkStreet_16 : decode cX10_checkStreet 16 = .ok (.invokespecial 339, 3) := by decide +kernel
theorem dX10_checkStreet_19 : decode cX10_checkStreet 19 = .ok (.athrow, 1) := by decide +kernel
theorem dX10_checkStreet_20 : decode cX10_checkStreet 20 = .ok (.return_, 1) := by decide +kernel
theorem dX10_checkPosition_0 : decode cX10_checkPosition 0 = .ok (.iload_n 1, 1) := by decide +kernel
theorem dX10_checkPosition_1 : decode cX10_checkPosition 1 = .ok (.iconst 1, 1) := by decide +kernel
theorem dX10_checkPosition_2 : decode cX10_checkPosition 2 = .ok (.if_icmp .lt 11, 3) := by decide +kernel
theorem dX10_checkPosition_5 : decode cX10_checkPosition 5 = .ok (.iload_n 1, 1) := by decide +kernel
theorem dX10_checkPosition_6 : decode cX10_checkPosition 6 = .ok (.aload_n 0, 1) := by decide +kernel
theorem dX10_checkPosition_7 : decode cX10_checkPosition 7 = .ok (.getfield 121, 3) := by decide +kernel
theorem dX10_checkPosition_10 : decode cX10_checkPosition 10 = .ok (.if_icmp .le 14, 3) := by decide +kernel
theorem dX10_checkPosition_13 : decode cX10_checkPosition 13 = .ok (.new 335, 3) := by decide +kernel
theorem dX10_checkPosition_16 : decode cX10_checkPosition 16 = .ok (.dup, 1) := by decide +kernel
theorem dX10_checkPosition_17 : decode cX10_checkPosition 17 = .ok (.ldc_w 342, 3) := by decide +kernel
theorem dX10_checkPosition_20 : decode cX10_checkPosition 20 = .ok (.invokespecial 339, 3) := by decide +kernel
theorem dX10_checkPosition_23 : decode cX10_checkPosition 23 = .ok (.athrow, 1) := by decide +kernel
theorem dX10_checkPosition_24 : decode cX10_checkPosition 24 = .ok (.return_, 1) := by decide +kernel
theorem dX10_checkState_0 : decode cX10_checkState 0 = .ok (.iload_n 1, 1) := by decide +kernel
theorem dX10_checkState_1 : decode cX10_checkState 1 = .ok (.aload_n 0, 1) := by decide +kernel
theorem dX10_checkState_2 : decode cX10_checkState 2 = .ok (.getfield 132, 3) := by decide +kernel
theorem dX10_checkState_5 : decode cX10_checkState 5 = .ok (.invokestatic 331, 3) := by decide +kernel
theorem dX10_checkState_8 : decode cX10_checkState 8 = .ok (.ifCond .ne 14, 3) := by decide +kernel
theorem dX10_checkState_11 : decode cX10_checkState 11 = .ok (.new 335, 3) := by decide +kernel
theorem dX10_checkState_14 : decode cX10_checkState 14 = .ok (.dup, 1) := by decide +kernel
theorem dX10_checkState_15 : decode cX10_checkState 15 = .ok (.ldc_w 344, 3) := by decide +kernel
theorem dX10_checkState_18 : decode cX10_checkState 18 = .ok (.invokespecial 339, 3) := by decide +kernel
theorem dX10_checkState_21 : decode cX10_checkState 21 = .ok (.athrow, 1) := by decide +kernel
theorem dX10_checkState_22 : decode cX10_checkState 22 = .ok (.return_, 1) := by decide +kernel
theorem dX10_checkWordLength_0 : decode cX10_checkWordLength 0 = .ok (.iload_n 0, 1) := by decide +kernel
theorem dX10_checkWordLength_1 : decode cX10_checkWordLength 1 = .ok (.ifCond .lt 9, 3) := by decide +kernel
theorem dX10_checkWordLength_4 : decode cX10_checkWordLength 4 = .ok (.iload_n 0, 1) := by decide +kernel
theorem dX10_checkWordLength_5 : decode cX10_checkWordLength 5 = .ok (.bipush 20, 2) := by decide +kernel
theorem dX10_checkWordLength_7 : decode cX10_checkWordLength 7 = .ok (.if_icmp .le 14, 3) := by decide +kernel
theorem dX10_checkWordLength_10 : decode cX10_checkWordLength 10 = .ok (.new 102, 3) := by decide +kernel
theorem dX10_checkWordLength_13 : decode cX10_checkWordLength 13 = .ok (.dup, 1) := by decide +kernel
theorem dX10_checkWordLength_14 : decode cX10_checkWordLength 14 = .ok (.ldc_w 346, 3) := by decide +kernel
theorem dX10_checkWordLength_17 : decode cX10_checkWordLength 17 = .ok (.invokespecial 106, 3) := by decide +kernel
theorem dX10_checkWordLength_20 : decode cX10_checkWordLength 20 = .ok (.athrow, 1) := by decide +kernel
theorem dX10_checkWordLength_21 : decode cX10_checkWordLength 21 = .ok (.return_, 1) := by decide +kernel
theorem dX10_checkWalker_0 : decode cX10_checkWalker 0 = .ok (.iload_n 1, 1) := by decide +kernel
theorem dX10_checkWalker_1 : decode cX10_checkWalker 1 = .ok (.aload_n 0, 1) := by decide +kernel
theorem dX10_checkWalker_2 : decode cX10_checkWalker 2 = .ok (.getfield 49, 3) := by decide +kernel
theorem dX10_checkWalker_5 : decode cX10_checkWalker 5 = .ok (.getfield 135, 3) := by decide +kernel
theorem dX10_checkWalker_8 : decode cX10_checkWalker 8 = .ok (.invokestatic 331, 3) := by decide +kernel
theorem dX10_checkWalker_11 : decode cX10_checkWalker 11 = .ok (.ifCond .ne 14, 3) := by decide +kernel
theorem dX10_checkWalker_14 : decode cX10_checkWalker 14 = .ok (.new 335, 3) := by decide +kernel
theorem dX10_checkWalker_17 : decode cX10_checkWalker 17 = .ok (.dup, 1) := by decide +kernel
theorem dX10_checkWalker_18 : decode cX10_checkWalker 18 = .ok (.ldc_w 348, 3) := by decide +kernel
theorem dX10_checkWalker_21 : decode cX10_checkWalker 21 = .ok (.invokespecial 339, 3) := by decide +kernel
theorem dX10_checkWalker_24 : decode cX10_checkWalker 24 = .ok (.athrow, 1) := by decide +kernel
theorem dX10_checkWalker_25 : decode cX10_checkWalker 25 = .ok (.return_, 1) := by decide +kernel
theorem dX10_checkedPattern_0 : decode cX10_checkedPattern 0 = .ok (.iload_n 1, 1) := by decide +kernel
theorem dX10_checkedPattern_1 : decode cX10_checkedPattern 1 = .ok (.invokestatic 108, 3) := by decide +kernel
theorem dX10_checkedPattern_4 : decode cX10_checkedPattern 4 = .ok (.aload_n 0, 1) := by decide +kernel
theorem dX10_checkedPattern_5 : decode cX10_checkedPattern 5 = .ok (.getfield 49, 3) := by decide +kernel
theorem dX10_checkedPattern_8 : decode cX10_checkedPattern 8 = .ok (.iload_n 1, 1) := by decide +kernel
theorem dX10_checkedPattern_9 : decode cX10_checkedPattern 9 = .ok (.invokevirtual 124, 3) := by decide +kernel
theorem dX10_checkedPattern_12 : decode cX10_checkedPattern 12 = .ok (.areturn, 1) := by decide +kernel
theorem dX10_stateAfterInput_0 : decode cX10_stateAfterInput 0 = .ok (.iconst 0, 1) := by decide +kernel
theorem dX10_stateAfterInput_1 : decode cX10_stateAfterInput 1 = .ok (.istore_n 2, 1) := by decide +kernel
theorem dX10_stateAfterInput_2 : decode cX10_stateAfterInput 2 = .ok (.iconst 0, 1) := by decide +kernel
theorem dX10_stateAfterInput_3 : decode cX10_stateAfterInput 3 = .ok (.istore_n 3, 1) := by decide +kernel
theorem dX10_stateAfterInput_4 : decode cX10_stateAfterInput 4 = .ok (.iload_n 3, 1) := by decide +kernel
theorem dX10_stateAfterInput_5 : decode cX10_stateAfterInput 5 = .ok (.aload_n 0, 1) := by decide +kernel
theorem dX10_stateAfterInput_6 : decode cX10_stateAfterInput 6 = .ok (.getfield 36, 3) := by decide +kernel
theorem dX10_stateAfterInput_9 : decode cX10_stateAfterInput 9 = .ok (.invokevirtual 95, 3) := by decide +kernel
theorem dX10_stateAfterInput_12 : decode cX10_stateAfterInput 12 = .ok (.if_icmp .ge 23, 3) := by decide +kernel
theorem dX10_stateAfterInput_15 : decode cX10_stateAfterInput 15 = .ok (.aload_n 1, 1) := by decide +kernel
theorem dX10_stateAfterInput_16 : decode cX10_stateAfterInput 16 = .ok (.iload_n 2, 1) := by decide +kernel
theorem dX10_stateAfterInput_17 : decode cX10_stateAfterInput 17 = .ok (.aload_n 0, 1) := by decide +kernel
theorem dX10_stateAfterInput_18 : decode cX10_stateAfterInput 18 = .ok (.getfield 36, 3) := by decide +kernel
theorem dX10_stateAfterInput_21 : decode cX10_stateAfterInput 21 = .ok (.iload_n 3, 1) := by decide +kernel
theorem dX10_stateAfterInput_22 : decode cX10_stateAfterInput 22 = .ok (.invokevirtual 171, 3) := by decide +kernel
theorem dX10_stateAfterInput_25 : decode cX10_stateAfterInput 25 = .ok (.invokevirtual 243, 3) := by decide +kernel
theorem dX10_stateAfterInput_28 : decode cX10_stateAfterInput 28 = .ok (.istore_n 2, 1) := by decide +kernel
theorem dX10_stateAfterInput_29 : decode cX10_stateAfterInput 29 = .ok (.iinc 3 1, 3) := by decide +kernel
theorem dX10_stateAfterInput_32 : decode cX10_stateAfterInput 32 = .ok (.goto (-28), 3) := by decide +kernel
theorem dX10_stateAfterInput_35 : decode cX10_stateAfterInput 35 = .ok (.iload_n 2, 1) := by decide +kernel
theorem dX10_stateAfterInput_36 : decode cX10_stateAfterInput 36 = .ok (.ireturn, 1) := by decide +kernel
theorem dX10_putReportByte_0 : decode cX10_putReportByte 0 = .ok (.iload_n 1, 1) := by decide +kernel
theorem dX10_putReportByte_1 : decode cX10_putReportByte 1 = .ok (.aload_n 0, 1) := by decide +kernel
theorem dX10_putReportByte_2 : decode cX10_putReportByte 2 = .ok (.getfield 91, 3) := by decide +kernel
theorem dX10_putReportByte_5 : decode cX10_putReportByte 5 = .ok (.arraylength, 1) := by decide +kernel
theorem dX10_putReportByte_6 : decode cX10_putReportByte 6 = .ok (.invokestatic 331, 3) := by decide +kernel
theorem dX10_putReportByte_9 : decode cX10_putReportByte 9 = .ok (.ifCond .eq 13, 3) := by decide +kernel
theorem dX10_putReportByte_12 : decode cX10_putReportByte 12 = .ok (.aload_n 0, 1) := by decide +kernel
theorem dX10_putReportByte_13 : decode cX10_putReportByte 13 = .ok (.getfield 91, 3) := by decide +kernel
theorem dX10_putReportByte_16 : decode cX10_putReportByte 16 = .ok (.iload_n 1, 1) := by decide +kernel
theorem dX10_putReportByte_17 : decode cX10_putReportByte 17 = .ok (.bipush 97, 2) := by decide +kernel
theorem dX10_putReportByte_19 : decode cX10_putReportByte 19 = .ok (.iload_n 2, 1) := by decide +kernel
theorem dX10_putReportByte_20 : decode cX10_putReportByte 20 = .ok (.iadd, 1) := by decide +kernel
theorem dX10_putReportByte_21 : decode cX10_putReportByte 21 = .ok (.iastore, 1) := by decide +kernel
theorem dX10_putReportByte_22 : decode cX10_putReportByte 22 = .ok (.return_, 1) := by decide +kernel
