/-! decode rows, printed -/
theorem dX10_init_0 : decode cX10_init 0 = .ok (.aload_n 0, 1) := by decide +kernel
theorem dX10_init_1 : decode cX10_init 1 = .ok (.invokespecial 3, 3) := by decide +kernel
theorem dX10_init_4 : decode cX10_init 4 = .ok (.new 9, 3) := by decide +kernel
theorem dX10_init_7 : decode cX10_init 7 = .ok (.dup, 1) := by decide +kernel
theorem dX10_init_8 : decode cX10_init 8 = .ok (.invokespecial 11, 3) := by decide +kernel
theorem dX10_init_11 : decode cX10_init 11 = .ok (.astore_n 1, 1) := by decide +kernel
theorem dX10_init_12 : decode cX10_init 12 = .ok (.new 12, 3) := by decide +kernel
theorem dX10_init_15 : decode cX10_init 15 = .ok (.dup, 1) := by decide +kernel
theorem dX10_init_16 : decode cX10_init 16 = .ok (.invokespecial 14, 3) := by decide +kernel
theorem dX10_init_19 : decode cX10_init 19 = .ok (.astore_n 2, 1) := by decide +kernel
theorem dX10_init_20 : decode cX10_init 20 = .ok (.aload_n 1, 1) := by decide +kernel
theorem dX10_init_21 : decode cX10_init 21 = .ok (.ldc 15, 2) := by decide +kernel
theorem dX10_init_23 : decode cX10_init 23 = .ok (.invokevirtual 17, 3) := by decide +kernel
theorem dX10_init_26 : decode cX10_init 26 = .ok (.aload_n 2, 1) := by decide +kernel
theorem dX10_init_27 : decode cX10_init 27 = .ok (.aload_n 1, 1) := by decide +kernel
theorem dX10_init_28 : decode cX10_init 28 = .ok (.invokevirtual 21, 3) := by decide +kernel
theorem dX10_init_31 : decode cX10_init 31 = .ok (.pop, 1) := by decide +kernel
theorem dX10_init_32 : decode cX10_init 32 = .ok (.new 25, 3) := by decide +kernel
theorem dX10_init_35 : decode cX10_init 35 = .ok (.dup, 1) := by decide +kernel
theorem dX10_init_36 : decode cX10_init 36 = .ok (.aload_n 2, 1) := by decide +kernel
theorem dX10_init_37 : decode cX10_init 37 = .ok (.invokespecial 27, 3) := by decide +kernel
theorem dX10_init_40 : decode cX10_init 40 = .ok (.astore_n 3, 1) := by decide +kernel
theorem dX10_init_41 : decode cX10_init 41 = .ok (.aload_n 1, 1) := by decide +kernel
theorem dX10_init_42 : decode cX10_init 42 = .ok (.ldc 30, 2) := by decide +kernel
theorem dX10_init_44 : decode cX10_init 44 = .ok (.invokevirtual 17, 3) := by decide +kernel
theorem dX10_init_47 : decode cX10_init 47 = .ok (.aload_n 2, 1) := by decide +kernel
theorem dX10_init_48 : decode cX10_init 48 = .ok (.aload_n 1, 1) := by decide +kernel
theorem dX10_init_49 : decode cX10_init 49 = .ok (.invokevirtual 21, 3) := by decide +kernel
theorem dX10_init_52 : decode cX10_init 52 = .ok (.pop, 1) := by decide +kernel
theorem dX10_init_53 : decode cX10_init 53 = .ok (.new 25, 3) := by decide +kernel
theorem dX10_init_56 : decode cX10_init 56 = .ok (.dup, 1) := by decide +kernel
theorem dX10_init_57 : decode cX10_init 57 = .ok (.aload_n 2, 1) := by decide +kernel
theorem dX10_init_58 : decode cX10_init 58 = .ok (.invokespecial 27, 3) := by decide +kernel
theorem dX10_init_61 : decode cX10_init 61 = .ok (.astore 4, 2) := by decide +kernel
theorem dX10_init_63 : decode cX10_init 63 = .ok (.aload_n 1, 1) := by decide +kernel
theorem dX10_init_64 : decode cX10_init 64 = .ok (.iconst 0, 1) := by decide +kernel
theorem dX10_init_65 : decode cX10_init 65 = .ok (.invokevirtual 32, 3) := by decide +kernel
theorem dX10_init_68 : decode cX10_init 68 = .ok (.aload_n 0, 1) := by decide +kernel
theorem dX10_init_69 : decode cX10_init 69 = .ok (.aload_n 1, 1) := by decide +kernel
theorem dX10_init_70 : decode cX10_init 70 = .ok (.putfield 36, 3) := by decide +kernel
theorem dX10_init_73 : decode cX10_init 73 = .ok (.aload_n 0, 1) := by decide +kernel
theorem dX10_init_74 : decode cX10_init 74 = .ok (.aload_n 2, 1) := by decide +kernel
theorem dX10_init_75 : decode cX10_init 75 = .ok (.putfield 40, 3) := by decide +kernel
theorem dX10_init_78 : decode cX10_init 78 = .ok (.aload_n 0, 1) := by decide +kernel
theorem dX10_init_79 : decode cX10_init 79 = .ok (.new 44, 3) := by decide +kernel
theorem dX10_init_82 : decode cX10_init 82 = .ok (.dup, 1) := by decide +kernel
theorem dX10_init_83 : decode cX10_init 83 = .ok (.aload_n 3, 1) := by decide +kernel
theorem dX10_init_84 : decode cX10_init 84 = .ok (.aload 4, 2) := by decide +kernel
theorem dX10_init_86 : decode cX10_init 86 = .ok (.invokespecial 46, 3) := by decide +kernel
theorem dX10_init_89 : decode cX10_init 89 = .ok (.putfield 49, 3) := by decide +kernel
theorem dX10_init_92 : decode cX10_init 92 = .ok (.aload_n 0, 1) := by decide +kernel
theorem dX10_init_93 : decode cX10_init 93 = .ok (.new 53, 3) := by decide +kernel
theorem dX10_init_96 : decode cX10_init 96 = .ok (.dup, 1) := by decide +kernel
theorem dX10_init_97 : decode cX10_init 97 = .ok (.aload_n 3, 1) := by decide +kernel
theorem dX10_init_98 : decode cX10_init 98 = .ok (.aload 4, 2) := by decide +kernel
theorem dX10_init_100 : decode cX10_init 100 = .ok (.invokespecial 55, 3) := by decide +kernel
theorem dX10_init_103 : decode cX10_init 103 = .ok (.putfield 56, 3) := by decide +kernel
theorem dX10_init_106 : decode cX10_init 106 = .ok (.aload_n 0, 1) := by decide +kernel
theorem dX10_init_107 : decode cX10_init 107 = .ok (.new 44, 3) := by decide +kernel
theorem dX10_init_110 : decode cX10_init 110 = .ok (.dup, 1) := by decide +kernel
theorem dX10_init_111 : decode cX10_init 111 = .ok (.aload_n 3, 1) := by decide +kernel
theorem dX10_init_112 : decode cX10_init 112 = .ok (.aload 4, 2) := by decide +kernel
theorem dX10_init_114 : decode cX10_init 114 = .ok (.invokespecial 46, 3) := by decide +kernel
theorem dX10_init_117 : decode cX10_init 117 = .ok (.putfield 60, 3) := by decide +kernel
theorem dX10_init_120 : decode cX10_init 120 = .ok (.aload_n 0, 1) := by decide +kernel
theorem dX10_init_121 : decode cX10_init 121 = .ok (.iconst 0, 1) := by decide +kernel
theorem dX10_init_122 : decode cX10_init 122 = .ok (.putfield 63, 3) := by decide +kernel
theorem dX10_init_125 : decode cX10_init 125 = .ok (.aload_n 0, 1) := by decide +kernel
theorem dX10_init_126 : decode cX10_init 126 = .ok (.iconst (-1), 1) := by decide +kernel
theorem dX10_init_127 : decode cX10_init 127 = .ok (.putfield 67, 3) := by decide +kernel
theorem dX10_init_130 : decode cX10_init 130 = .ok (.aload_n 0, 1) := by decide +kernel
theorem dX10_init_131 : decode cX10_init 131 = .ok (.new 70, 3) := by decide +kernel
theorem dX10_init_134 : decode cX10_init 134 = .ok (.dup, 1) := by decide +kernel
theorem dX10_init_135 : decode cX10_init 135 = .ok (.invokespecial 72, 3) := by decide +kernel
theorem dX10_init_138 : decode cX10_init 138 = .ok (.putfield 73, 3) := by decide +kernel
theorem dX10_init_141 : decode cX10_init 141 = .ok (.aload_n 0, 1) := by decide +kernel
theorem dX10_init_142 : decode cX10_init 142 = .ok (.new 77, 3) := by decide +kernel
theorem dX10_init_145 : decode cX10_init 145 = .ok (.dup, 1) := by decide +kernel
theorem dX10_init_146 : decode cX10_init 146 = .ok (.invokespecial 79, 3) := by decide +kernel
theorem dX10_init_149 : decode cX10_init 149 = .ok (.putfield 80, 3) := by decide +kernel
theorem dX10_init_152 : decode cX10_init 152 = .ok (.aload_n 0, 1) := by decide +kernel
theorem dX10_init_153 : decode cX10_init 153 = .ok (.new 84, 3) := by decide +kernel
theorem dX10_init_156 : decode cX10_init 156 = .ok (.dup, 1) := by decide +kernel
theorem dX10_init_157 : decode cX10_init 157 = .ok (.invokespecial 86, 3) := by decide +kernel
theorem dX10_init_160 : decode cX10_init 160 = .ok (.putfield 87, 3) := by decide +kernel
theorem dX10_init_163 : decode cX10_init 163 = .ok (.aload_n 0, 1) := by decide +kernel
theorem dX10_init_164 : decode cX10_init 164 = .ok (.sipush 3600, 3) := by decide +kernel
theorem dX10_init_167 : decode cX10_init 167 = .ok (.newarray .int, 2) := by decide +kernel
theorem dX10_init_169 : decode cX10_init 169 = .ok (.putfield 91, 3) := by decide +kernel
theorem dX10_init_172 : decode cX10_init 172 = .ok (.return_, 1) := by decide +kernel
theorem dX10_append_0 : decode cX10_append 0 = .ok (.aload_n 0, 1) := by decide +kernel
theorem dX10_append_1 : decode cX10_append 1 = .ok (.getfield 36, 3) := by decide +kernel
theorem dX10_append_4 : decode cX10_append 4 = .ok (.invokevirtual 95, 3) := by decide +kernel
theorem dX10_append_7 : decode cX10_append 7 = .ok (.bipush 20, 2) := by decide +kernel
theorem dX10_append_9 : decode cX10_append 9 = .ok (.iadd, 1) := by decide +kernel
theorem dX10_append_10 : decode cX10_append 10 = .ok (.sipush 200, 3) := by decide +kernel
theorem dX10_append_13 : decode cX10_append 13 = .ok (.if_icmp .le 5, 3) := by decide +kernel
theorem dX10_append_16 : decode cX10_append 16 = .ok (.iconst (-1), 1) := by decide +kernel
theorem dX10_append_17 : decode cX10_append 17 = .ok (.ireturn, 1) := by decide +kernel
theorem dX10_append_18 : decode cX10_append 18 = .ok (.aload_n 0, 1) := by decide +kernel
theorem dX10_append_19 : decode cX10_append 19 = .ok (.getfield 36, 3) := by decide +kernel
theorem dX10_append_22 : decode cX10_append 22 = .ok (.iload_n 1, 1) := by decide +kernel
theorem dX10_append_23 : decode cX10_append 23 = .ok (.invokevirtual 99, 3) := by decide +kernel
theorem dX10_append_26 : decode cX10_append 26 = .ok (.aload_n 0, 1) := by decide +kernel
theorem dX10_append_27 : decode cX10_append 27 = .ok (.getfield 36, 3) := by decide +kernel
theorem dX10_append_30 : decode cX10_append 30 = .ok (.iload_n 2, 1) := by decide +kernel
theorem dX10_append_31 : decode cX10_append 31 = .ok (.invokevirtual 99, 3) := by decide +kernel
theorem dX10_append_34 : decode cX10_append 34 = .ok (.aload_n 0, 1) := by decide +kernel
theorem dX10_append_35 : decode cX10_append 35 = .ok (.getfield 36, 3) := by decide +kernel
theorem dX10_append_38 : decode cX10_append 38 = .ok (.iload_n 3, 1) := by decide +kernel
theorem dX10_append_39 : decode cX10_append 39 = .ok (.invokevirtual 99, 3) := by decide +kernel
theorem dX10_append_42 : decode cX10_append 42 = .ok (.aload_n 0, 1) := by decide +kernel
theorem dX10_append_43 : decode cX10_append 43 = .ok (.getfield 36, 3) := by decide +kernel
theorem dX10_append_46 : decode cX10_append 46 = .ok (.iload 4, 2) := by decide +kernel
theorem dX10_append_48 : decode cX10_append 48 = .ok (.invokevirtual 99, 3) := by decide +kernel
theorem dX10_append_51 : decode cX10_append 51 = .ok (.aload_n 0, 1) := by decide +kernel
theorem dX10_append_52 : decode cX10_append 52 = .ok (.getfield 36, 3) := by decide +kernel
theorem dX10_append_55 : decode cX10_append 55 = .ok (.iload 5, 2) := by decide +kernel
theorem dX10_append_57 : decode cX10_append 57 = .ok (.invokevirtual 99, 3) := by decide +kernel
theorem dX10_append_60 : decode cX10_append 60 = .ok (.aload_n 0, 1) := by decide +kernel
theorem dX10_append_61 : decode cX10_append 61 = .ok (.getfield 36, 3) := by decide +kernel
theorem dX10_append_64 : decode cX10_append 64 = .ok (.invokevirtual 95, 3) := by decide +kernel
theorem dX10_append_67 : decode cX10_append 67 = .ok (.ireturn, 1) := by decide +kernel
theorem dX10_truncateInput_0 : decode cX10_truncateInput 0 = .ok (.iload_n 1, 1) := by decide +kernel
theorem dX10_truncateInput_1 : decode cX10_truncateInput 1 = .ok (.ifCond .lt 14, 3) := by decide +kernel
theorem dX10_truncateInput_4 : decode cX10_truncateInput 4 = .ok (.iload_n 1, 1) := by decide +kernel
theorem dX10_truncateInput_5 : decode cX10_truncateInput 5 = .ok (.aload_n 0, 1) := by decide +kernel
theorem dX10_truncateInput_6 : decode cX10_truncateInput 6 = .ok (.getfield 36, 3) := by decide +kernel
theorem dX10_truncateInput_9 : decode cX10_truncateInput 9 = .ok (.invokevirtual 95, 3) := by decide +kernel
theorem dX10_truncateInput_12 : decode cX10_truncateInput 12 = .ok (.if_icmp .le 13, 3) := by decide +kernel
theorem dX10_truncateInput_15 : decode cX10_truncateInput 15 = .ok (.new 102, 3) := by decide +kernel
theorem dX10_truncateInput_18 : decode cX10_truncateInput 18 = .ok (.dup, 1) := by decide +kernel
theorem dX10_truncateInput_19 : decode cX10_truncateInput 19 = .ok (.ldc 104, 2) := by decide +kernel
theorem dX10_truncateInput_21 : decode cX10_truncateInput 21 = .ok (.invokespecial 106, 3) := by decide +kernel
theorem dX10_truncateInput_24 : decode cX10_truncateInput 24 = .ok (.athrow, 1) := by decide +kernel
theorem dX10_truncateInput_25 : decode cX10_truncateInput 25 = .ok (.aload_n 0, 1) := by decide +kernel
theorem dX10_truncateInput_26 : decode cX10_truncateInput 26 = .ok (.getfield 36, 3) := by decide +kernel
theorem dX10_truncateInput_29 : decode cX10_truncateInput 29 = .ok (.iload_n 1, 1) := by decide +kernel
theorem dX10_truncateInput_30 : decode cX10_truncateInput 30 = .ok (.invokevirtual 32, 3) := by decide +kernel
theorem dX10_truncateInput_33 : decode cX10_truncateInput 33 = .ok (.iload_n 1, 1) := by decide +kernel
theorem dX10_truncateInput_34 : decode cX10_truncateInput 34 = .ok (.ireturn, 1) := by decide +kernel
theorem dX10_inputLength_0 : decode cX10_inputLength 0 = .ok (.aload_n 0, 1) := by decide +kernel
theorem dX10_inputLength_1 : decode cX10_inputLength 1 = .ok (.getfield 36, 3) := by decide +kernel
theorem dX10_inputLength_4 : decode cX10_inputLength 4 = .ok (.invokevirtual 95, 3) := by decide +kernel
theorem dX10_inputLength_7 : decode cX10_inputLength 7 = .ok (.ireturn, 1) := by decide +kernel
theorem dX10_compile_0 : decode cX10_compile 0 = .ok (.iload_n 1, 1) := by decide +kernel
theorem dX10_compile_1 : decode cX10_compile 1 = .ok (.invokestatic 108, 3) := by decide +kernel
theorem dX10_compile_4 : decode cX10_compile 4 = .ok (.aload_n 0, 1) := by decide +kernel
theorem dX10_compile_5 : decode cX10_compile 5 = .ok (.aload_n 0, 1) := by decide +kernel
theorem dX10_compile_6 : decode cX10_compile 6 = .ok (.getfield 40, 3) := by decide +kernel
theorem dX10_compile_9 : decode cX10_compile 9 = .ok (.aload_n 0, 1) := by decide +kernel
theorem dX10_compile_10 : decode cX10_compile 10 = .ok (.getfield 36, 3) := by decide +kernel
theorem dX10_compile_13 : decode cX10_compile 13 = .ok (.invokevirtual 21, 3) := by decide +kernel
theorem dX10_compile_16 : decode cX10_compile 16 = .ok (.putfield 63, 3) := by decide +kernel
theorem dX10_compile_19 : decode cX10_compile 19 = .ok (.aload_n 0, 1) := by decide +kernel
theorem dX10_compile_20 : decode cX10_compile 20 = .ok (.aload_n 0, 1) := by decide +kernel
theorem dX10_compile_21 : decode cX10_compile 21 = .ok (.getfield 63, 3) := by decide +kernel
theorem dX10_compile_24 : decode cX10_compile 24 = .ok (.ifCond .ne 7, 3) := by decide +kernel
theorem dX10_compile_27 : decode cX10_compile 27 = .ok (.iconst (-1), 1) := by decide +kernel
theorem dX10_compile_28 : decode cX10_compile 28 = .ok (.goto 10, 3) := by decide +kernel
theorem dX10_compile_31 : decode cX10_compile 31 = .ok (.aload_n 0, 1) := by decide +kernel
theorem dX10_compile_32 : decode cX10_compile 32 = .ok (.getfield 40, 3) := by decide +kernel
theorem dX10_compile_35 : decode cX10_compile 35 = .ok (.invokevirtual 111, 3) := by decide +kernel
theorem dX10_compile_38 : decode cX10_compile 38 = .ok (.putfield 67, 3) := by decide +kernel
theorem dX10_compile_41 : decode cX10_compile 41 = .ok (.aload_n 0, 1) := by decide +kernel
theorem dX10_compile_42 : decode cX10_compile 42 = .ok (.getfield 36, 3) := by decide +kernel
theorem dX10_compile_45 : decode cX10_compile 45 = .ok (.iconst 0, 1) := by decide +kernel
theorem dX10_compile_46 : decode cX10_compile 46 = .ok (.invokevirtual 32, 3) := by decide +kernel
theorem dX10_compile_49 : decode cX10_compile 49 = .ok (.aload_n 0, 1) := by decide +kernel
theorem dX10_compile_50 : decode cX10_compile 50 = .ok (.getfield 63, 3) := by decide +kernel
theorem dX10_compile_53 : decode cX10_compile 53 = .ok (.ifCond .eq 5, 3) := by decide +kernel
theorem dX10_compile_56 : decode cX10_compile 56 = .ok (.iconst (-1), 1) := by decide +kernel
theorem dX10_compile_57 : decode cX10_compile 57 = .ok (.ireturn, 1) := by decide +kernel
theorem dX10_compile_58 : decode cX10_compile 58 = .ok (.new 25, 3) := by decide +kernel
theorem dX10_compile_61 : decode cX10_compile 61 = .ok (.dup, 1) := by decide +kernel
theorem dX10_compile_62 : decode cX10_compile 62 = .ok (.aload_n 0, 1) := by decide +kernel
theorem dX10_compile_63 : decode cX10_compile 63 = .ok (.getfield 40, 3) := by decide +kernel
theorem dX10_compile_66 : decode cX10_compile 66 = .ok (.invokespecial 27, 3) := by decide +kernel
theorem dX10_compile_69 : decode cX10_compile 69 = .ok (.astore_n 2, 1) := by decide +kernel
theorem dX10_compile_70 : decode cX10_compile 70 = .ok (.aload_n 0, 1) := by decide +kernel
theorem dX10_compile_71 : decode cX10_compile 71 = .ok (.getfield 56, 3) := by decide +kernel
theorem dX10_compile_74 : decode cX10_compile 74 = .ok (.aload_n 0, 1) := by decide +kernel
theorem dX10_compile_75 : decode cX10_compile 75 = .ok (.getfield 49, 3) := by decide +kernel
theorem dX10_compile_78 : decode cX10_compile 78 = .ok (.invokevirtual 113, 3) := by decide +kernel
theorem dX10_compile_81 : decode cX10_compile 81 = .ok (.aload_n 0, 1) := by decide +kernel
theorem dX10_compile_82 : decode cX10_compile 82 = .ok (.getfield 49, 3) := by decide +kernel
theorem dX10_compile_85 : decode cX10_compile 85 = .ok (.iload_n 1, 1) := by decide +kernel
theorem dX10_compile_86 : decode cX10_compile 86 = .ok (.aload_n 2, 1) := by decide +kernel
theorem dX10_compile_87 : decode cX10_compile 87 = .ok (.invokevirtual 117, 3) := by decide +kernel
theorem dX10_compile_90 : decode cX10_compile 90 = .ok (.aload_n 2, 1) := by decide +kernel
theorem dX10_compile_91 : decode cX10_compile 91 = .ok (.getfield 121, 3) := by decide +kernel
theorem dX10_compile_94 : decode cX10_compile 94 = .ok (.ireturn, 1) := by decide +kernel
theorem dX10_copyPattern_0 : decode cX10_copyPattern 0 = .ok (.iload_n 1, 1) := by decide +kernel
theorem dX10_copyPattern_1 : decode cX10_copyPattern 1 = .ok (.invokestatic 108, 3) := by decide +kernel
theorem dX10_copyPattern_4 : decode cX10_copyPattern 4 = .ok (.aload_n 0, 1) := by decide +kernel
theorem dX10_copyPattern_5 : decode cX10_copyPattern 5 = .ok (.getfield 49, 3) := by decide +kernel
theorem dX10_copyPattern_8 : decode cX10_copyPattern 8 = .ok (.iload_n 1, 1) := by decide +kernel
theorem dX10_copyPattern_9 : decode cX10_copyPattern 9 = .ok (.invokevirtual 124, 3) := by decide +kernel
theorem dX10_copyPattern_12 : decode cX10_copyPattern 12 = .ok (.astore_n 2, 1) := by decide +kernel
theorem dX10_copyPattern_13 : decode cX10_copyPattern 13 = .ok (.aload_n 0, 1) := by decide +kernel
theorem dX10_copyPattern_14 : decode cX10_copyPattern 14 = .ok (.getfield 56, 3) := by decide +kernel
theorem dX10_copyPattern_17 : decode cX10_copyPattern 17 = .ok (.aload_n 0, 1) := by decide +kernel
theorem dX10_copyPattern_18 : decode cX10_copyPattern 18 = .ok (.getfield 49, 3) := by decide +kernel
theorem dX10_copyPattern_21 : decode cX10_copyPattern 21 = .ok (.invokevirtual 113, 3) := by decide +kernel
theorem dX10_copyPattern_24 : decode cX10_copyPattern 24 = .ok (.aload_n 0, 1) := by decide +kernel
theorem dX10_copyPattern_25 : decode cX10_copyPattern 25 = .ok (.getfield 49, 3) := by decide +kernel
theorem dX10_copyPattern_28 : decode cX10_copyPattern 28 = .ok (.iload_n 1, 1) := by decide +kernel
theorem dX10_copyPattern_29 : decode cX10_copyPattern 29 = .ok (.invokestatic 128, 3) := by decide +kernel
theorem dX10_copyPattern_32 : decode cX10_copyPattern 32 = .ok (.aload_n 2, 1) := by decide +kernel
theorem dX10_copyPattern_33 : decode cX10_copyPattern 33 = .ok (.invokevirtual 117, 3) := by decide +kernel
theorem dX10_copyPattern_36 : decode cX10_copyPattern 36 = .ok (.aload_n 2, 1) := by decide +kernel
theorem dX10_copyPattern_37 : decode cX10_copyPattern 37 = .ok (.getfield 132, 3) := by decide +kernel
theorem dX10_copyPattern_40 : decode cX10_copyPattern 40 = .ok (.ireturn, 1) := by decide +kernel
theorem dX10_addWalker_0 : decode cX10_addWalker 0 = .ok (.iload_n 1, 1) := by decide +kernel
theorem dX10_addWalker_1 : decode cX10_addWalker 1 = .ok (.invokestatic 108, 3) := by decide +kernel
theorem dX10_addWalker_4 : decode cX10_addWalker 4 = .ok (.aload_n 0, 1) := by decide +kernel
theorem dX10_addWalker_5 : decode cX10_addWalker 5 = .ok (.getfield 49, 3) := by decide +kernel
theorem dX10_addWalker_8 : decode cX10_addWalker 8 = .ok (.getfield 135, 3) := by decide +kernel
theorem dX10_addWalker_11 : decode cX10_addWalker 11 = .ok (.bipush 6, 2) := by decide +kernel
theorem dX10_addWalker_13 : decode cX10_addWalker 13 = .ok (.if_icmp .lt 13, 3) := by decide +kernel
theorem dX10_addWalker_16 : decode cX10_addWalker 16 = .ok (.new 138, 3) := by decide +kernel
theorem dX10_addWalker_19 : decode cX10_addWalker 19 = .ok (.dup, 1) := by decide +kernel
theorem dX10_addWalker_20 : decode cX10_addWalker 20 = .ok (.ldc 140, 2) := by decide +kernel
theorem dX10_addWalker_22 : decode cX10_addWalker 22 = .ok (.invokespecial 142, 3) := by decide +kernel
theorem dX10_addWalker_25 : decode cX10_addWalker 25 = .ok (.athrow, 1) := by decide +kernel
theorem dX10_addWalker_26 : decode cX10_addWalker 26 = .ok (.aload_n 0, 1) := by decide +kernel
theorem dX10_addWalker_27 : decode cX10_addWalker 27 = .ok (.getfield 56, 3) := by decide +kernel
theorem dX10_addWalker_30 : decode cX10_addWalker 30 = .ok (.aload_n 0, 1) := by decide +kernel
theorem dX10_addWalker_31 : decode cX10_addWalker 31 = .ok (.getfield 49, 3) := by decide +kernel
theorem dX10_addWalker_34 : decode cX10_addWalker 34 = .ok (.invokevirtual 113, 3) := by decide +kernel
theorem dX10_addWalker_37 : decode cX10_addWalker 37 = .ok (.aload_n 0, 1) := by decide +kernel
theorem dX10_addWalker_38 : decode cX10_addWalker 38 = .ok (.getfield 49, 3) := by decide +kernel
theorem dX10_addWalker_41 : decode cX10_addWalker 41 = .ok (.iload_n 1, 1) := by decide +kernel
theorem dX10_addWalker_42 : decode cX10_addWalker 42 = .ok (.invokevirtual 143, 3) := by decide +kernel
theorem dX10_addWalker_45 : decode cX10_addWalker 45 = .ok (.ireturn, 1) := by decide +kernel
theorem dX10_removeWalker_0 : decode cX10_removeWalker 0 = .ok (.aload_n 0, 1) := by decide +kernel
theorem dX10_removeWalker_1 : decode cX10_removeWalker 1 = .ok (.iload_n 1, 1) := by decide +kernel
theorem dX10_removeWalker_2 : decode cX10_removeWalker 2 = .ok (.invokevirtual 146, 3) := by decide +kernel
theorem dX10_removeWalker_5 : decode cX10_removeWalker 5 = .ok (.aload_n 0, 1) := by decide +kernel
theorem dX10_removeWalker_6 : decode cX10_removeWalker 6 = .ok (.getfield 49, 3) := by decide +kernel
theorem dX10_removeWalker_9 : decode cX10_removeWalker 9 = .ok (.iload_n 1, 1) := by decide +kernel
theorem dX10_removeWalker_10 : decode cX10_removeWalker 10 = .ok (.invokevirtual 149, 3) := by decide +kernel
theorem dX10_removeWalker_13 : decode cX10_removeWalker 13 = .ok (.istore_n 2, 1) := by decide +kernel
theorem dX10_removeWalker_14 : decode cX10_removeWalker 14 = .ok (.aload_n 0, 1) := by decide +kernel
theorem dX10_removeWalker_15 : decode cX10_removeWalker 15 = .ok (.getfield 56, 3) := by decide +kernel
theorem dX10_removeWalker_18 : decode cX10_removeWalker 18 = .ok (.aload_n 0, 1) := by decide +kernel
theorem dX10_removeWalker_19 : decode cX10_removeWalker 19 = .ok (.getfield 49, 3) := by decide +kernel
theorem dX10_removeWalker_22 : decode cX10_removeWalker 22 = .ok (.invokevirtual 113, 3) := by decide +kernel
theorem dX10_removeWalker_25 : decode cX10_removeWalker 25 = .ok (.aload_n 0, 1) := by decide +kernel
theorem dX10_removeWalker_26 : decode cX10_removeWalker 26 = .ok (.getfield 49, 3) := by decide +kernel
theorem dX10_removeWalker_29 : decode cX10_removeWalker 29 = .ok (.iload_n 1, 1) := by decide +kernel
theorem dX10_removeWalker_30 : decode cX10_removeWalker 30 = .ok (.invokevirtual 152, 3) := by decide +kernel
theorem dX10_removeWalker_33 : decode cX10_removeWalker 33 = .ok (.iload_n 2, 1) := by decide +kernel
theorem dX10_removeWalker_34 : decode cX10_removeWalker 34 = .ok (.ireturn, 1) := by decide +kernel
theorem dX10_step_0 : decode cX10_step 0 = .ok (.aload_n 0, 1) := by decide +kernel
theorem dX10_step_1 : decode cX10_step 1 = .ok (.iload_n 1, 1) := by decide +kernel
theorem dX10_step_2 : decode cX10_step 2 = .ok (.invokevirtual 146, 3) := by decide +kernel
theorem dX10_step_5 : decode cX10_step 5 = .ok (.iload_n 2, 1) := by decide +kernel
theorem dX10_step_6 : decode cX10_step 6 = .ok (.invokestatic 155, 3) := by decide +kernel
theorem dX10_step_9 : decode cX10_step 9 = .ok (.aload_n 0, 1) := by decide +kernel
theorem dX10_step_10 : decode cX10_step 10 = .ok (.getfield 49, 3) := by decide +kernel
theorem dX10_step_13 : decode cX10_step 13 = .ok (.iload_n 2, 1) := by decide +kernel
theorem dX10_step_14 : decode cX10_step 14 = .ok (.invokevirtual 158, 3) := by decide +kernel
theorem dX10_step_17 : decode cX10_step 17 = .ok (.ifCond .ne 13, 3) := by decide +kernel
theorem dX10_step_20 : decode cX10_step 20 = .ok (.new 138, 3) := by decide +kernel
theorem dX10_step_23 : decode cX10_step 23 = .ok (.dup, 1) := by decide +kernel
theorem dX10_step_24 : decode cX10_step 24 = .ok (.ldc 162, 2) := by decide +kernel
theorem dX10_step_26 : decode cX10_step 26 = .ok (.invokespecial 142, 3) := by decide +kernel
theorem dX10_step_29 : decode cX10_step 29 = .ok (.athrow, 1) := by decide +kernel
theorem dX10_step_30 : decode cX10_step 30 = .ok (.aload_n 0, 1) := by decide +kernel
theorem dX10_step_31 : decode cX10_step 31 = .ok (.getfield 56, 3) := by decide +kernel
theorem dX10_step_34 : decode cX10_step 34 = .ok (.aload_n 0, 1) := by decide +kernel
theorem dX10_step_35 : decode cX10_step 35 = .ok (.getfield 49, 3) := by decide +kernel
theorem dX10_step_38 : decode cX10_step 38 = .ok (.invokevirtual 113, 3) := by decide +kernel
theorem dX10_step_41 : decode cX10_step 41 = .ok (.aload_n 0, 1) := by decide +kernel
theorem dX10_step_42 : decode cX10_step 42 = .ok (.getfield 49, 3) := by decide +kernel
theorem dX10_step_45 : decode cX10_step 45 = .ok (.iload_n 1, 1) := by decide +kernel
theorem dX10_step_46 : decode cX10_step 46 = .ok (.iload_n 2, 1) := by decide +kernel
theorem dX10_step_47 : decode cX10_step 47 = .ok (.invokevirtual 164, 3) := by decide +kernel
theorem dX10_step_50 : decode cX10_step 50 = .ok (.aload_n 0, 1) := by decide +kernel
theorem dX10_step_51 : decode cX10_step 51 = .ok (.getfield 49, 3) := by decide +kernel
theorem dX10_step_54 : decode cX10_step 54 = .ok (.iload_n 1, 1) := by decide +kernel
theorem dX10_step_55 : decode cX10_step 55 = .ok (.invokevirtual 168, 3) := by decide +kernel
theorem dX10_step_58 : decode cX10_step 58 = .ok (.ireturn, 1) := by decide +kernel
theorem dX10_walkWord_0 : decode cX10_walkWord 0 = .ok (.aload_n 0, 1) := by decide +kernel
theorem dX10_walkWord_1 : decode cX10_walkWord 1 = .ok (.iload_n 1, 1) := by decide +kernel
theorem dX10_walkWord_2 : decode cX10_walkWord 2 = .ok (.invokevirtual 146, 3) := by decide +kernel
theorem dX10_walkWord_5 : decode cX10_walkWord 5 = .ok (.aload_n 0, 1) := by decide +kernel
theorem dX10_walkWord_6 : decode cX10_walkWord 6 = .ok (.getfield 56, 3) := by decide +kernel
theorem dX10_walkWord_9 : decode cX10_walkWord 9 = .ok (.aload_n 0, 1) := by decide +kernel
theorem dX10_walkWord_10 : decode cX10_walkWord 10 = .ok (.getfield 49, 3) := by decide +kernel
theorem dX10_walkWord_13 : decode cX10_walkWord 13 = .ok (.invokevirtual 113, 3) := by decide +kernel
theorem dX10_walkWord_16 : decode cX10_walkWord 16 = .ok (.iconst 0, 1) := by decide +kernel
theorem dX10_walkWord_17 : decode cX10_walkWord 17 = .ok (.istore_n 2, 1) := by decide +kernel
theorem dX10_walkWord_18 : decode cX10_walkWord 18 = .ok (.iconst 0, 1) := by decide +kernel
theorem dX10_walkWord_19 : decode cX10_walkWord 19 = .ok (.istore_n 3, 1) := by decide +kernel
theorem dX10_walkWord_20 : decode cX10_walkWord 20 = .ok (.iload_n 3, 1) := by decide +kernel
theorem dX10_walkWord_21 : decode cX10_walkWord 21 = .ok (.aload_n 0, 1) := by decide +kernel
theorem dX10_walkWord_22 : decode cX10_walkWord 22 = .ok (.getfield 36, 3) := by decide +kernel
theorem dX10_walkWord_25 : decode cX10_walkWord 25 = .ok (.invokevirtual 95, 3) := by decide +kernel
theorem dX10_walkWord_28 : decode cX10_walkWord 28 = .ok (.if_icmp .ge 47, 3) := by decide +kernel
theorem dX10_walkWord_31 : decode cX10_walkWord 31 = .ok (.aload_n 0, 1) := by decide +kernel
theorem dX10_walkWord_32 : decode cX10_walkWord 32 = .ok (.getfield 36, 3) := by decide +kernel
theorem dX10_walkWord_35 : decode cX10_walkWord 35 = .ok (.iload_n 3, 1) := by decide +kernel
theorem dX10_walkWord_36 : decode cX10_walkWord 36 = .ok (.invokevirtual 171, 3) := by decide +kernel
theorem dX10_walkWord_39 : decode cX10_walkWord 39 = .ok (.istore 4, 2) := by decide +kernel
theorem dX10_walkWord_41 : decode cX10_walkWord 41 = .ok (.aload_n 0, 1) := by decide +kernel
theorem dX10_walkWord_42 : decode cX10_walkWord 42 = .ok (.getfield 49, 3) := by decide +kernel
theorem dX10_walkWord_45 : decode cX10_walkWord 45 = .ok (.iload 4, 2) := by decide +kernel
theorem dX10_walkWord_47 : decode cX10_walkWord 47 = .ok (.invokevirtual 158, 3) := by decide +kernel
theorem dX10_walkWord_50 : decode cX10_walkWord 50 = .ok (.ifCond .ne 6, 3) := by decide +kernel
theorem dX10_walkWord_53 : decode cX10_walkWord 53 = .ok (.goto 22, 3) := by decide +kernel
theorem dX10_walkWord_56 : decode cX10_walkWord 56 = .ok (.aload_n 0, 1) := by decide +kernel
theorem dX10_walkWord_57 : decode cX10_walkWord 57 = .ok (.getfield 49, 3) := by decide +kernel
theorem dX10_walkWord_60 : decode cX10_walkWord 60 = .ok (.iload_n 1, 1) := by decide +kernel
theorem dX10_walkWord_61 : decode cX10_walkWord 61 = .ok (.iload 4, 2) := by decide +kernel
theorem dX10_walkWord_63 : decode cX10_walkWord 63 = .ok (.invokevirtual 164, 3) := by decide +kernel
theorem dX10_walkWord_66 : decode cX10_walkWord 66 = .ok (.iinc 2 1, 3) := by decide +kernel
theorem dX10_walkWord_69 : decode cX10_walkWord 69 = .ok (.iinc 3 1, 3) := by decide +kernel
theorem dX10_walkWord_72 : decode cX10_walkWord 72 = .ok (.goto (-52), 3) := by decide +kernel
theorem dX10_walkWord_75 : decode cX10_walkWord 75 = .ok (.aload_n 0, 1) := by decide +kernel
theorem dX10_walkWord_76 : decode cX10_walkWord 76 = .ok (.getfield 36, 3) := by decide +kernel
theorem dX10_walkWord_79 : decode cX10_walkWord 79 = .ok (.iconst 0, 1) := by decide +kernel
theorem dX10_walkWord_80 : decode cX10_walkWord 80 = .ok (.invokevirtual 32, 3) := by decide +kernel
theorem dX10_walkWord_83 : decode cX10_walkWord 83 = .ok (.iload_n 2, 1) := by decide +kernel
theorem dX10_walkWord_84 : decode cX10_walkWord 84 = .ok (.ireturn, 1) := by decide +kernel
theorem dX10_restartWalker_0 : decode cX10_restartWalker 0 = .ok (.aload_n 0, 1) := by decide +kernel
theorem dX10_restartWalker_1 : decode cX10_restartWalker 1 = .ok (.iload_n 1, 1) := by decide +kernel
theorem dX10_restartWalker_2 : decode cX10_restartWalker 2 = .ok (.invokevirtual 146, 3) := by decide +kernel
theorem dX10_restartWalker_5 : decode cX10_restartWalker 5 = .ok (.aload_n 0, 1) := by decide +kernel
theorem dX10_restartWalker_6 : decode cX10_restartWalker 6 = .ok (.getfield 49, 3) := by decide +kernel
theorem dX10_restartWalker_9 : decode cX10_restartWalker 9 = .ok (.iload_n 1, 1) := by decide +kernel
theorem dX10_restartWalker_10 : decode cX10_restartWalker 10 = .ok (.invokevirtual 168, 3) := by decide +kernel
theorem dX10_restartWalker_13 : decode cX10_restartWalker 13 = .ok (.istore_n 2, 1) := by decide +kernel
theorem dX10_restartWalker_14 : decode cX10_restartWalker 14 = .ok (.aload_n 0, 1) := by decide +kernel
theorem dX10_restartWalker_15 : decode cX10_restartWalker 15 = .ok (.getfield 56, 3) := by decide +kernel
theorem dX10_restartWalker_18 : decode cX10_restartWalker 18 = .ok (.aload_n 0, 1) := by decide +kernel
theorem dX10_restartWalker_19 : decode cX10_restartWalker 19 = .ok (.getfield 49, 3) := by decide +kernel
theorem dX10_restartWalker_22 : decode cX10_restartWalker 22 = .ok (.invokevirtual 113, 3) := by decide +kernel
theorem dX10_restartWalker_25 : decode cX10_restartWalker 25 = .ok (.aload_n 0, 1) := by decide +kernel
theorem dX10_restartWalker_26 : decode cX10_restartWalker 26 = .ok (.getfield 49, 3) := by decide +kernel
theorem dX10_restartWalker_29 : decode cX10_restartWalker 29 = .ok (.iload_n 1, 1) := by decide +kernel
theorem dX10_restartWalker_30 : decode cX10_restartWalker 30 = .ok (.invokevirtual 174, 3) := by decide +kernel
theorem dX10_restartWalker_33 : decode cX10_restartWalker 33 = .ok (.iload_n 2, 1) := by decide +kernel
theorem dX10_restartWalker_34 : decode cX10_restartWalker 34 = .ok (.ireturn, 1) := by decide +kernel
theorem dX10_setGate_0 : decode cX10_setGate 0 = .ok (.iload_n 1, 1) := by decide +kernel
theorem dX10_setGate_1 : decode cX10_setGate 1 = .ok (.invokestatic 155, 3) := by decide +kernel
theorem dX10_setGate_4 : decode cX10_setGate 4 = .ok (.aload_n 0, 1) := by decide +kernel
theorem dX10_setGate_5 : decode cX10_setGate 5 = .ok (.getfield 56, 3) := by decide +kernel
theorem dX10_setGate_8 : decode cX10_setGate 8 = .ok (.aload_n 0, 1) := by decide +kernel
theorem dX10_setGate_9 : decode cX10_setGate 9 = .ok (.getfield 49, 3) := by decide +kernel
theorem dX10_setGate_12 : decode cX10_setGate 12 = .ok (.invokevirtual 113, 3) := by decide +kernel
theorem dX10_setGate_15 : decode cX10_setGate 15 = .ok (.aload_n 0, 1) := by decide +kernel
theorem dX10_setGate_16 : decode cX10_setGate 16 = .ok (.getfield 49, 3) := by decide +kernel
theorem dX10_setGate_19 : decode cX10_setGate 19 = .ok (.iload_n 1, 1) := by decide +kernel
theorem dX10_setGate_20 : decode cX10_setGate 20 = .ok (.iload_n 2, 1) := by decide +kernel
theorem dX10_setGate_21 : decode cX10_setGate 21 = .ok (.iload_n 3, 1) := by decide +kernel
theorem dX10_setGate_22 : decode cX10_setGate 22 = .ok (.invokevirtual 177, 3) := by decide +kernel
theorem dX10_setGate_25 : decode cX10_setGate 25 = .ok (.ireturn, 1) := by decide +kernel
theorem dX10_setNight_0 : decode cX10_setNight 0 = .ok (.aload_n 0, 1) := by decide +kernel
theorem dX10_setNight_1 : decode cX10_setNight 1 = .ok (.getfield 56, 3) := by decide +kernel
theorem dX10_setNight_4 : decode cX10_setNight 4 = .ok (.aload_n 0, 1) := by decide +kernel
theorem dX10_setNight_5 : decode cX10_setNight 5 = .ok (.getfield 49, 3) := by decide +kernel
theorem dX10_setNight_8 : decode cX10_setNight 8 = .ok (.invokevirtual 113, 3) := by decide +kernel
theorem dX10_setNight_11 : decode cX10_setNight 11 = .ok (.aload_n 0, 1) := by decide +kernel
theorem dX10_setNight_12 : decode cX10_setNight 12 = .ok (.getfield 49, 3) := by decide +kernel
theorem dX10_setNight_15 : decode cX10_setNight 15 = .ok (.iload_n 1, 1) := by decide +kernel
theorem dX10_setNight_16 : decode cX10_setNight 16 = .ok (.putfield 181, 3) := by decide +kernel
theorem dX10_setNight_19 : decode cX10_setNight 19 = .ok (.aload_n 0, 1) := by decide +kernel
theorem dX10_setNight_20 : decode cX10_setNight 20 = .ok (.getfield 49, 3) := by decide +kernel
theorem dX10_setNight_23 : decode cX10_setNight 23 = .ok (.invokevirtual 185, 3) := by decide +kernel
theorem dX10_setNight_26 : decode cX10_setNight 26 = .ok (.invokestatic 188, 3) := by decide +kernel
theorem dX10_setNight_29 : decode cX10_setNight 29 = .ok (.ireturn, 1) := by decide +kernel
theorem dX10_undo_0 : decode cX10_undo 0 = .ok (.aload_n 0, 1) := by decide +kernel
theorem dX10_undo_1 : decode cX10_undo 1 = .ok (.getfield 56, 3) := by decide +kernel
theorem dX10_undo_4 : decode cX10_undo 4 = .ok (.aload_n 0, 1) := by decide +kernel
theorem dX10_undo_5 : decode cX10_undo 5 = .ok (.getfield 49, 3) := by decide +kernel
theorem dX10_undo_8 : decode cX10_undo 8 = .ok (.invokevirtual 193, 3) := by decide +kernel
theorem dX10_undo_11 : decode cX10_undo 11 = .ok (.ifCond .eq 13, 3) := by decide +kernel
theorem dX10_undo_14 : decode cX10_undo 14 = .ok (.aload_n 0, 1) := by decide +kernel
theorem dX10_undo_15 : decode cX10_undo 15 = .ok (.getfield 56, 3) := by decide +kernel
theorem dX10_undo_18 : decode cX10_undo 18 = .ok (.invokevirtual 197, 3) := by decide +kernel
theorem dX10_undo_21 : decode cX10_undo 21 = .ok (.goto 4, 3) := by decide +kernel
theorem dX10_undo_24 : decode cX10_undo 24 = .ok (.iconst (-1), 1) := by decide +kernel
theorem dX10_undo_25 : decode cX10_undo 25 = .ok (.ireturn, 1) := by decide +kernel
theorem dX10_undoCount_0 : decode cX10_undoCount 0 = .ok (.aload_n 0, 1) := by decide +kernel
theorem dX10_undoCount_1 : decode cX10_undoCount 1 = .ok (.getfield 56, 3) := by decide +kernel
theorem dX10_undoCount_4 : decode cX10_undoCount 4 = .ok (.invokevirtual 197, 3) := by decide +kernel
theorem dX10_undoCount_7 : decode cX10_undoCount 7 = .ok (.ireturn, 1) := by decide +kernel
theorem dX10_saveSnapshot_0 : decode cX10_saveSnapshot 0 = .ok (.aload_n 0, 1) := by decide +kernel
theorem dX10_saveSnapshot_1 : decode cX10_saveSnapshot 1 = .ok (.getfield 60, 3) := by decide +kernel
theorem dX10_saveSnapshot_4 : decode cX10_saveSnapshot 4 = .ok (.aload_n 0, 1) := by decide +kernel
theorem dX10_saveSnapshot_5 : decode cX10_saveSnapshot 5 = .ok (.getfield 49, 3) := by decide +kernel
theorem dX10_saveSnapshot_8 : decode cX10_saveSnapshot 8 = .ok (.invokevirtual 198, 3) := by decide +kernel
theorem dX10_saveSnapshot_11 : decode cX10_saveSnapshot 11 = .ok (.aload_n 0, 1) := by decide +kernel
theorem dX10_saveSnapshot_12 : decode cX10_saveSnapshot 12 = .ok (.iconst 1, 1) := by decide +kernel
theorem dX10_saveSnapshot_13 : decode cX10_saveSnapshot 13 = .ok (.putfield 201, 3) := by decide +kernel
theorem dX10_saveSnapshot_16 : decode cX10_saveSnapshot 16 = .ok (.aload_n 0, 1) := by decide +kernel
theorem dX10_saveSnapshot_17 : decode cX10_saveSnapshot 17 = .ok (.getfield 49, 3) := by decide +kernel
theorem dX10_saveSnapshot_20 : decode cX10_saveSnapshot 20 = .ok (.getfield 135, 3) := by decide +kernel
theorem dX10_saveSnapshot_23 : decode cX10_saveSnapshot 23 = .ok (.ireturn, 1) := by decide +kernel
theorem dX10_restoreSnapshot_0 : decode cX10_restoreSnapshot 0 = .ok (.aload_n 0, 1) := by decide +kernel
theorem dX10_restoreSnapshot_1 : decode cX10_restoreSnapshot 1 = .ok (.getfield 201, 3) := by decide +kernel
theorem dX10_restoreSnapshot_4 : decode cX10_restoreSnapshot 4 = .ok (.ifCond .ne 13, 3) := by decide +kernel
theorem dX10_restoreSnapshot_7 : decode cX10_restoreSnapshot 7 = .ok (.new 204, 3) := by decide +kernel
theorem dX10_restoreSnapshot_10 : decode cX10_restoreSnapshot 10 = .ok (.dup, 1) := by decide +kernel
theorem dX10_restoreSnapshot_11 : decode cX10_restoreSnapshot 11 = .ok (.ldc 206, 2) := by decide +kernel
theorem dX10_restoreSnapshot_13 : decode cX10_restoreSnapshot 13 = .ok (.invokespecial 208, 3) := by decide +kernel
theorem dX10_restoreSnapshot_16 : decode cX10_restoreSnapshot 16 = .ok (.athrow, 1) := by decide +kernel
theorem dX10_restoreSnapshot_17 : decode cX10_restoreSnapshot 17 = .ok (.aload_n 0, 1) := by decide +kernel
theorem dX10_restoreSnapshot_18 : decode cX10_restoreSnapshot 18 = .ok (.getfield 49, 3) := by decide +kernel
theorem dX10_restoreSnapshot_21 : decode cX10_restoreSnapshot 21 = .ok (.aload_n 0, 1) := by decide +kernel
theorem dX10_restoreSnapshot_22 : decode cX10_restoreSnapshot 22 = .ok (.getfield 60, 3) := by decide +kernel
theorem dX10_restoreSnapshot_25 : decode cX10_restoreSnapshot 25 = .ok (.invokevirtual 198, 3) := by decide +kernel
theorem dX10_restoreSnapshot_28 : decode cX10_restoreSnapshot 28 = .ok (.aload_n 0, 1) := by decide +kernel
theorem dX10_restoreSnapshot_29 : decode cX10_restoreSnapshot 29 = .ok (.getfield 56, 3) := by decide +kernel
theorem dX10_restoreSnapshot_32 : decode cX10_restoreSnapshot 32 = .ok (.invokevirtual 209, 3) := by decide +kernel
theorem dX10_restoreSnapshot_35 : decode cX10_restoreSnapshot 35 = .ok (.aload_n 0, 1) := by decide +kernel
theorem dX10_restoreSnapshot_36 : decode cX10_restoreSnapshot 36 = .ok (.getfield 49, 3) := by decide +kernel
theorem dX10_restoreSnapshot_39 : decode cX10_restoreSnapshot 39 = .ok (.getfield 135, 3) := by decide +kernel
theorem dX10_restoreSnapshot_42 : decode cX10_restoreSnapshot 42 = .ok (.ireturn, 1) := by decide +kernel
theorem dX10_patternErrorKind_0 : decode cX10_patternErrorKind 0 = .ok (.aload_n 0, 1) := by decide +kernel
theorem dX10_patternErrorKind_1 : decode cX10_patternErrorKind 1 = .ok (.getfield 63, 3) := by decide +kernel
theorem dX10_patternErrorKind_4 : decode cX10_patternErrorKind 4 = .ok (.ireturn, 1) := by decide +kernel
theorem dX10_patternErrorOffset_0 : decode cX10_patternErrorOffset 0 = .ok (.aload_n 0, 1) := by decide +kernel
theorem dX10_patternErrorOffset_1 : decode cX10_patternErrorOffset 1 = .ok (.getfield 67, 3) := by decide +kernel
theorem dX10_patternErrorOffset_4 : decode cX10_patternErrorOffset 4 = .ok (.ireturn, 1) := by decide +kernel
theorem dX10_positionCount_0 : decode cX10_positionCount 0 = .ok (.aload_n 0, 1) := by decide +kernel
theorem dX10_positionCount_1 : decode cX10_positionCount 1 = .ok (.iload_n 1, 1) := by decide +kernel
theorem dX10_positionCount_2 : decode cX10_positionCount 2 = .ok (.invokevirtual 212, 3) := by decide +kernel
theorem dX10_positionCount_5 : decode cX10_positionCount 5 = .ok (.getfield 121, 3) := by decide +kernel
theorem dX10_positionCount_8 : decode cX10_positionCount 8 = .ok (.ireturn, 1) := by decide +kernel
theorem dX10_streetAt_0 : decode cX10_streetAt 0 = .ok (.aload_n 0, 1) := by decide +kernel
theorem dX10_streetAt_1 : decode cX10_streetAt 1 = .ok (.iload_n 1, 1) := by decide +kernel
theorem dX10_streetAt_2 : decode cX10_streetAt 2 = .ok (.invokevirtual 212, 3) := by decide +kernel
theorem dX10_streetAt_5 : decode cX10_streetAt 5 = .ok (.astore_n 3, 1) := by decide +kernel
theorem dX10_streetAt_6 : decode cX10_streetAt 6 = .ok (.aload_n 3, 1) := by decide +kernel
theorem dX10_streetAt_7 : decode cX10_streetAt 7 = .ok (.iload_n 2, 1) := by decide +kernel
theorem dX10_streetAt_8 : decode cX10_streetAt 8 = .ok (.invokestatic 215, 3) := by decide +kernel
theorem dX10_streetAt_11 : decode cX10_streetAt 11 = .ok (.aload_n 3, 1) := by decide +kernel
theorem dX10_streetAt_12 : decode cX10_streetAt 12 = .ok (.iload_n 2, 1) := by decide +kernel
theorem dX10_streetAt_13 : decode cX10_streetAt 13 = .ok (.invokevirtual 219, 3) := by decide +kernel
theorem dX10_streetAt_16 : decode cX10_streetAt 16 = .ok (.ireturn, 1) := by decide +kernel
theorem dX10_acceptsEmptyWord_0 : decode cX10_acceptsEmptyWord 0 = .ok (.aload_n 0, 1) := by decide +kernel
theorem dX10_acceptsEmptyWord_1 : decode cX10_acceptsEmptyWord 1 = .ok (.iload_n 1, 1) := by decide +kernel
theorem dX10_acceptsEmptyWord_2 : decode cX10_acceptsEmptyWord 2 = .ok (.invokevirtual 212, 3) := by decide +kernel
theorem dX10_acceptsEmptyWord_5 : decode cX10_acceptsEmptyWord 5 = .ok (.getfield 222, 3) := by decide +kernel
theorem dX10_acceptsEmptyWord_8 : decode cX10_acceptsEmptyWord 8 = .ok (.ireturn, 1) := by decide +kernel
theorem dX10_firstPositions_0 : decode cX10_firstPositions 0 = .ok (.aload_n 0, 1) := by decide +kernel
theorem dX10_firstPositions_1 : decode cX10_firstPositions 1 = .ok (.iload_n 1, 1) := by decide +kernel
theorem dX10_firstPositions_2 : decode cX10_firstPositions 2 = .ok (.invokevirtual 212, 3) := by decide +kernel
theorem dX10_firstPositions_5 : decode cX10_firstPositions 5 = .ok (.getfield 225, 3) := by decide +kernel
theorem dX10_firstPositions_8 : decode cX10_firstPositions 8 = .ok (.ireturn, 1) := by decide +kernel
theorem dX10_lastPositions_0 : decode cX10_lastPositions 0 = .ok (.aload_n 0, 1) := by decide +kernel
theorem dX10_lastPositions_1 : decode cX10_lastPositions 1 = .ok (.iload_n 1, 1) := by decide +kernel
theorem dX10_lastPositions_2 : decode cX10_lastPositions 2 = .ok (.invokevirtual 212, 3) := by decide +kernel
theorem dX10_lastPositions_5 : decode cX10_lastPositions 5 = .ok (.getfield 228, 3) := by decide +kernel
theorem dX10_lastPositions_8 : decode cX10_lastPositions 8 = .ok (.ireturn, 1) := by decide +kernel
theorem dX10_followPositions_0 : decode cX10_followPositions 0 = .ok (.aload_n 0, 1) := by decide +kernel
theorem dX10_followPositions_1 : decode cX10_followPositions 1 = .ok (.iload_n 1, 1) := by decide +kernel
theorem dX10_followPositions_2 : decode cX10_followPositions 2 = .ok (.invokevirtual 212, 3) := by decide +kernel
theorem dX10_followPositions_5 : decode cX10_followPositions 5 = .ok (.astore_n 3, 1) := by decide +kernel
theorem dX10_followPositions_6 : decode cX10_followPositions 6 = .ok (.aload_n 3, 1) := by decide +kernel
theorem dX10_followPositions_7 : decode cX10_followPositions 7 = .ok (.iload_n 2, 1) := by decide +kernel
theorem dX10_followPositions_8 : decode cX10_followPositions 8 = .ok (.invokestatic 215, 3) := by decide +kernel
theorem dX10_followPositions_11 : decode cX10_followPositions 11 = .ok (.aload_n 3, 1) := by decide +kernel
theorem dX10_followPositions_12 : decode cX10_followPositions 12 = .ok (.iload_n 2, 1) := by decide +kernel
theorem dX10_followPositions_13 : decode cX10_followPositions 13 = .ok (.invokevirtual 231, 3) := by decide +kernel
theorem dX10_followPositions_16 : decode cX10_followPositions 16 = .ok (.ireturn, 1) := by decide +kernel
theorem dX10_loopCount_0 : decode cX10_loopCount 0 = .ok (.aload_n 0, 1) := by decide +kernel
theorem dX10_loopCount_1 : decode cX10_loopCount 1 = .ok (.iload_n 1, 1) := by decide +kernel
theorem dX10_loopCount_2 : decode cX10_loopCount 2 = .ok (.invokevirtual 212, 3) := by decide +kernel
theorem dX10_loopCount_5 : decode cX10_loopCount 5 = .ok (.getfield 234, 3) := by decide +kernel
theorem dX10_loopCount_8 : decode cX10_loopCount 8 = .ok (.ireturn, 1) := by decide +kernel
theorem dX10_isDeterministicAt_0 : decode cX10_isDeterministicAt 0 = .ok (.aload_n 0, 1) := by decide +kernel
theorem dX10_isDeterministicAt_1 : decode cX10_isDeterministicAt 1 = .ok (.iload_n 1, 1) := by decide +kernel
theorem dX10_isDeterministicAt_2 : decode cX10_isDeterministicAt 2 = .ok (.invokevirtual 212, 3) := by decide +kernel
theorem dX10_isDeterministicAt_5 : decode cX10_isDeterministicAt 5 = .ok (.astore_n 3, 1) := by decide +kernel
theorem dX10_isDeterministicAt_6 : decode cX10_isDeterministicAt 6 = .ok (.aload_n 3, 1) := by decide +kernel
theorem dX10_isDeterministicAt_7 : decode cX10_isDeterministicAt 7 = .ok (.iload_n 2, 1) := by decide +kernel
theorem dX10_isDeterministicAt_8 : decode cX10_isDeterministicAt 8 = .ok (.invokestatic 215, 3) := by decide +kernel
theorem dX10_isDeterministicAt_11 : decode cX10_isDeterministicAt 11 = .ok (.aload_n 3, 1) := by decide +kernel
theorem dX10_isDeterministicAt_12 : decode cX10_isDeterministicAt 12 = .ok (.iload_n 2, 1) := by decide +kernel
theorem dX10_isDeterministicAt_13 : decode cX10_isDeterministicAt 13 = .ok (.invokevirtual 231, 3) := by decide +kernel
theorem dX10_isDeterministicAt_16 : decode cX10_isDeterministicAt 16 = .ok (.istore 4, 2) := by decide +kernel
theorem dX10_isDeterministicAt_18 : decode cX10_isDeterministicAt 18 = .ok (.iconst 0, 1) := by decide +kernel
theorem dX10_isDeterministicAt_19 : decode cX10_isDeterministicAt 19 = .ok (.istore 5, 2) := by decide +kernel
theorem dX10_isDeterministicAt_21 : decode cX10_isDeterministicAt 21 = .ok (.iload 5, 2) := by decide +kernel
theorem dX10_isDeterministicAt_23 : decode cX10_isDeterministicAt 23 = .ok (.bipush 6, 2) := by decide +kernel
theorem dX10_isDeterministicAt_25 : decode cX10_isDeterministicAt 25 = .ok (.if_icmp .ge 27, 3) := by decide +kernel
theorem dX10_isDeterministicAt_28 : decode cX10_isDeterministicAt 28 = .ok (.iload 4, 2) := by decide +kernel
theorem dX10_isDeterministicAt_30 : decode cX10_isDeterministicAt 30 = .ok (.aload_n 3, 1) := by decide +kernel
theorem dX10_isDeterministicAt_31 : decode cX10_isDeterministicAt 31 = .ok (.iload 5, 2) := by decide +kernel
theorem dX10_isDeterministicAt_33 : decode cX10_isDeterministicAt 33 = .ok (.invokevirtual 237, 3) := by decide +kernel
theorem dX10_isDeterministicAt_36 : decode cX10_isDeterministicAt 36 = .ok (.iand, 1) := by decide +kernel
theorem dX10_isDeterministicAt_37 : decode cX10_isDeterministicAt 37 = .ok (.invokestatic 188, 3) := by decide +kernel
theorem dX10_isDeterministicAt_40 : decode cX10_isDeterministicAt 40 = .ok (.iconst 1, 1) := by decide +kernel
theorem dX10_isDeterministicAt_41 : decode cX10_isDeterministicAt 41 = .ok (.if_icmp .le 5, 3) := by decide +kernel
theorem dX10_isDeterministicAt_44 : decode cX10_isDeterministicAt 44 = .ok (.iconst 0, 1) := by decide +kernel
theorem dX10_isDeterministicAt_45 : decode cX10_isDeterministicAt 45 = .ok (.ireturn, 1) := by decide +kernel
theorem dX10_isDeterministicAt_46 : decode cX10_isDeterministicAt 46 = .ok (.iinc 5 1, 3) := by decide +kernel
theorem dX10_isDeterministicAt_49 : decode cX10_isDeterministicAt 49 = .ok (.goto (-28), 3) := by decide +kernel
theorem dX10_isDeterministicAt_52 : decode cX10_isDeterministicAt 52 = .ok (.iconst 1, 1) := by decide +kernel
theorem dX10_isDeterministicAt_53 : decode cX10_isDeterministicAt 53 = .ok (.ireturn, 1) := by decide +kernel
theorem dX10_stateCount_0 : decode cX10_stateCount 0 = .ok (.aload_n 0, 1) := by decide +kernel
theorem dX10_stateCount_1 : decode cX10_stateCount 1 = .ok (.iload_n 1, 1) := by decide +kernel
theorem dX10_stateCount_2 : decode cX10_stateCount 2 = .ok (.invokevirtual 212, 3) := by decide +kernel
theorem dX10_stateCount_5 : decode cX10_stateCount 5 = .ok (.getfield 132, 3) := by decide +kernel
theorem dX10_stateCount_8 : decode cX10_stateCount 8 = .ok (.ireturn, 1) := by decide +kernel
theorem dX10_transition_0 : decode cX10_transition 0 = .ok (.aload_n 0, 1) := by decide +kernel
theorem dX10_transition_1 : decode cX10_transition 1 = .ok (.iload_n 1, 1) := by decide +kernel
theorem dX10_transition_2 : decode cX10_transition 2 = .ok (.invokevirtual 212, 3) := by decide +kernel
theorem dX10_transition_5 : decode cX10_transition 5 = .ok (.astore 4, 2) := by decide +kernel
theorem dX10_transition_7 : decode cX10_transition 7 = .ok (.aload 4, 2) := by decide +kernel
theorem dX10_transition_9 : decode cX10_transition 9 = .ok (.iload_n 2, 1) := by decide +kernel
theorem dX10_transition_10 : decode cX10_transition 10 = .ok (.invokestatic 240, 3) := by decide +kernel
theorem dX10_transition_13 : decode cX10_transition 13 = .ok (.iload_n 3, 1) := by decide +kernel
theorem dX10_transition_14 : decode cX10_transition 14 = .ok (.invokestatic 155, 3) := by decide +kernel
theorem dX10_transition_17 : decode cX10_transition 17 = .ok (.aload 4, 2) := by decide +kernel
theorem dX10_transition_19 : decode cX10_transition 19 = .ok (.iload_n 2, 1) := by decide +kernel
theorem dX10_transition_20 : decode cX10_transition 20 = .ok (.iload_n 3, 1) := by decide +kernel
theorem dX10_transition_21 : decode cX10_transition 21 = .ok (.invokevirtual 243, 3) := by decide +kernel
theorem dX10_transition_24 : decode cX10_transition 24 = .ok (.ireturn, 1) := by decide +kernel
theorem dX10_isAccepting_0 : decode cX10_isAccepting 0 = .ok (.aload_n 0, 1) := by decide +kernel
theorem dX10_isAccepting_1 : decode cX10_isAccepting 1 = .ok (.iload_n 1, 1) := by decide +kernel
theorem dX10_isAccepting_2 : decode cX10_isAccepting 2 = .ok (.invokevirtual 212, 3) := by decide +kernel
theorem dX10_isAccepting_5 : decode cX10_isAccepting 5 = .ok (.astore_n 3, 1) := by decide +kernel
theorem dX10_isAccepting_6 : decode cX10_isAccepting 6 = .ok (.aload_n 3, 1) := by decide +kernel
theorem dX10_isAccepting_7 : decode cX10_isAccepting 7 = .ok (.iload_n 2, 1) := by decide +kernel
theorem dX10_isAccepting_8 : decode cX10_isAccepting 8 = .ok (.invokestatic 240, 3) := by decide +kernel
theorem dX10_isAccepting_11 : decode cX10_isAccepting 11 = .ok (.aload_n 3, 1) := by decide +kernel
theorem dX10_isAccepting_12 : decode cX10_isAccepting 12 = .ok (.iload_n 2, 1) := by decide +kernel
theorem dX10_isAccepting_13 : decode cX10_isAccepting 13 = .ok (.invokevirtual 247, 3) := by decide +kernel
theorem dX10_isAccepting_16 : decode cX10_isAccepting 16 = .ok (.ireturn, 1) := by decide +kernel
theorem dX10_statePositions_0 : decode cX10_statePositions 0 = .ok (.aload_n 0, 1) := by decide +kernel
theorem dX10_statePositions_1 : decode cX10_statePositions 1 = .ok (.iload_n 1, 1) := by decide +kernel
theorem dX10_statePositions_2 : decode cX10_statePositions 2 = .ok (.invokevirtual 212, 3) := by decide +kernel
theorem dX10_statePositions_5 : decode cX10_statePositions 5 = .ok (.astore_n 3, 1) := by decide +kernel
theorem dX10_statePositions_6 : decode cX10_statePositions 6 = .ok (.aload_n 3, 1) := by decide +kernel
theorem dX10_statePositions_7 : decode cX10_statePositions 7 = .ok (.iload_n 2, 1) := by decide +kernel
theorem dX10_statePositions_8 : decode cX10_statePositions 8 = .ok (.invokestatic 240, 3) := by decide +kernel
theorem dX10_statePositions_11 : decode cX10_statePositions 11 = .ok (.aload_n 3, 1) := by decide +kernel
theorem dX10_statePositions_12 : decode cX10_statePositions 12 = .ok (.iload_n 2, 1) := by decide +kernel
theorem dX10_statePositions_13 : decode cX10_statePositions 13 = .ok (.invokevirtual 250, 3) := by decide +kernel
theorem dX10_statePositions_16 : decode cX10_statePositions 16 = .ok (.ireturn, 1) := by decide +kernel
theorem dX10_deadState_0 : decode cX10_deadState 0 = .ok (.aload_n 0, 1) := by decide +kernel
theorem dX10_deadState_1 : decode cX10_deadState 1 = .ok (.iload_n 1, 1) := by decide +kernel
theorem dX10_deadState_2 : decode cX10_deadState 2 = .ok (.invokevirtual 212, 3) := by decide +kernel
theorem dX10_deadState_5 : decode cX10_deadState 5 = .ok (.invokevirtual 253, 3) := by decide +kernel
theorem dX10_deadState_8 : decode cX10_deadState 8 = .ok (.ireturn, 1) := by decide +kernel
theorem dX10_distanceToAccepting_0 : decode cX10_distanceToAccepting 0 = .ok (.aload_n 0, 1) := by decide +kernel
theorem dX10_distanceToAccepting_1 : decode cX10_distanceToAccepting 1 = .ok (.iload_n 1, 1) := by decide +kernel
theorem dX10_distanceToAccepting_2 : decode cX10_distanceToAccepting 2 = .ok (.invokevirtual 212, 3) := by decide +kernel
theorem dX10_distanceToAccepting_5 : decode cX10_distanceToAccepting 5 = .ok (.astore_n 3, 1) := by decide +kernel
theorem dX10_distanceToAccepting_6 : decode cX10_distanceToAccepting 6 = .ok (.aload_n 3, 1) := by decide +kernel
theorem dX10_distanceToAccepting_7 : decode cX10_distanceToAccepting 7 = .ok (.iload_n 2, 1) := by decide +kernel
theorem dX10_distanceToAccepting_8 : decode cX10_distanceToAccepting 8 = .ok (.invokestatic 240, 3) := by decide +kernel
theorem dX10_distanceToAccepting_11 : decode cX10_distanceToAccepting 11 = .ok (.aload_n 0, 1) := by decide +kernel
theorem dX10_distanceToAccepting_12 : decode cX10_distanceToAccepting 12 = .ok (.getfield 73, 3) := by decide +kernel
theorem dX10_distanceToAccepting_15 : decode cX10_distanceToAccepting 15 = .ok (.aload_n 0, 1) := by decide +kernel
theorem dX10_distanceToAccepting_16 : decode cX10_distanceToAccepting 16 = .ok (.aload_n 3, 1) := by decide +kernel
theorem dX10_distanceToAccepting_17 : decode cX10_distanceToAccepting 17 = .ok (.iload_n 2, 1) := by decide +kernel
theorem dX10_distanceToAccepting_18 : decode cX10_distanceToAccepting 18 = .ok (.bipush 63, 2) := by decide +kernel
theorem dX10_distanceToAccepting_20 : decode cX10_distanceToAccepting 20 = .ok (.invokevirtual 256, 3) := by decide +kernel
theorem dX10_distanceToAccepting_23 : decode cX10_distanceToAccepting 23 = .ok (.invokevirtual 260, 3) := by decide +kernel
theorem dX10_distanceToAccepting_26 : decode cX10_distanceToAccepting 26 = .ok (.ireturn, 1) := by decide +kernel
theorem dX10_areEquivalentStates_0 : decode cX10_areEquivalentStates 0 = .ok (.aload_n 0, 1) := by decide +kernel
theorem dX10_areEquivalentStates_1 : decode cX10_areEquivalentStates 1 = .ok (.iload_n 1, 1) := by decide +kernel
theorem dX10_areEquivalentStates_2 : decode cX10_areEquivalentStates 2 = .ok (.invokevirtual 212, 3) := by decide +kernel
theorem dX10_areEquivalentStates_5 : decode cX10_areEquivalentStates 5 = .ok (.astore 4, 2) := by decide +kernel
theorem dX10_areEquivalentStates_7 : decode cX10_areEquivalentStates 7 = .ok (.aload 4, 2) := by decide +kernel
theorem dX10_areEquivalentStates_9 : decode cX10_areEquivalentStates 9 = .ok (.iload_n 2, 1) := by decide +kernel
theorem dX10_areEquivalentStates_10 : decode cX10_areEquivalentStates 10 = .ok (.invokestatic 240, 3) := by decide +kernel
theorem dX10_areEquivalentStates_13 : decode cX10_areEquivalentStates 13 = .ok (.aload 4, 2) := by decide +kernel
theorem dX10_areEquivalentStates_15 : decode cX10_areEquivalentStates 15 = .ok (.iload_n 3, 1) := by decide +kernel
theorem dX10_areEquivalentStates_16 : decode cX10_areEquivalentStates 16 = .ok (.invokestatic 240, 3) := by decide +kernel
theorem dX10_areEquivalentStates_19 : decode cX10_areEquivalentStates 19 = .ok (.aload_n 0, 1) := by decide +kernel
theorem dX10_areEquivalentStates_20 : decode cX10_areEquivalentStates 20 = .ok (.getfield 87, 3) := by decide +kernel
theorem dX10_areEquivalentStates_23 : decode cX10_areEquivalentStates 23 = .ok (.aload 4, 2) := by decide +kernel
theorem dX10_areEquivalentStates_25 : decode cX10_areEquivalentStates 25 = .ok (.invokevirtual 263, 3) := by decide +kernel
theorem dX10_areEquivalentStates_28 : decode cX10_areEquivalentStates 28 = .ok (.aload_n 0, 1) := by decide +kernel
theorem dX10_areEquivalentStates_29 : decode cX10_areEquivalentStates 29 = .ok (.getfield 87, 3) := by decide +kernel
theorem dX10_areEquivalentStates_32 : decode cX10_areEquivalentStates 32 = .ok (.iload_n 2, 1) := by decide +kernel
theorem dX10_areEquivalentStates_33 : decode cX10_areEquivalentStates 33 = .ok (.invokevirtual 267, 3) := by decide +kernel
theorem dX10_areEquivalentStates_36 : decode cX10_areEquivalentStates 36 = .ok (.aload_n 0, 1) := by decide +kernel
theorem dX10_areEquivalentStates_37 : decode cX10_areEquivalentStates 37 = .ok (.getfield 87, 3) := by decide +kernel
theorem dX10_areEquivalentStates_40 : decode cX10_areEquivalentStates 40 = .ok (.iload_n 3, 1) := by decide +kernel
theorem dX10_areEquivalentStates_41 : decode cX10_areEquivalentStates 41 = .ok (.invokevirtual 267, 3) := by decide +kernel
theorem dX10_areEquivalentStates_44 : decode cX10_areEquivalentStates 44 = .ok (.if_icmp .ne 7, 3) := by decide +kernel
theorem dX10_areEquivalentStates_47 : decode cX10_areEquivalentStates 47 = .ok (.iconst 1, 1) := by decide +kernel
theorem dX10_areEquivalentStates_48 : decode cX10_areEquivalentStates 48 = .ok (.goto 4, 3) := by decide +kernel
theorem dX10_areEquivalentStates_51 : decode cX10_areEquivalentStates 51 = .ok (.iconst 0, 1) := by decide +kernel
theorem dX10_areEquivalentStates_52 : decode cX10_areEquivalentStates 52 = .ok (.ireturn, 1) := by decide +kernel
theorem dX10_minimalStateCount_0 : decode cX10_minimalStateCount 0 = .ok (.aload_n 0, 1) := by decide +kernel
theorem dX10_minimalStateCount_1 : decode cX10_minimalStateCount 1 = .ok (.getfield 87, 3) := by decide +kernel
theorem dX10_minimalStateCount_4 : decode cX10_minimalStateCount 4 = .ok (.aload_n 0, 1) := by decide +kernel
theorem dX10_minimalStateCount_5 : decode cX10_minimalStateCount 5 = .ok (.iload_n 1, 1) := by decide +kernel
theorem dX10_minimalStateCount_6 : decode cX10_minimalStateCount 6 = .ok (.invokevirtual 212, 3) := by decide +kernel
theorem dX10_minimalStateCount_9 : decode cX10_minimalStateCount 9 = .ok (.invokevirtual 263, 3) := by decide +kernel
theorem dX10_minimalStateCount_12 : decode cX10_minimalStateCount 12 = .ok (.aload_n 0, 1) := by decide +kernel
theorem dX10_minimalStateCount_13 : decode cX10_minimalStateCount 13 = .ok (.getfield 87, 3) := by decide +kernel
theorem dX10_minimalStateCount_16 : decode cX10_minimalStateCount 16 = .ok (.invokevirtual 270, 3) := by decide +kernel
theorem dX10_minimalStateCount_19 : decode cX10_minimalStateCount 19 = .ok (.ireturn, 1) := by decide +kernel
theorem dX10_acceptsInput_0 : decode cX10_acceptsInput 0 = .ok (.aload_n 0, 1) := by decide +kernel
theorem dX10_acceptsInput_1 : decode cX10_acceptsInput 1 = .ok (.iload_n 1, 1) := by decide +kernel
theorem dX10_acceptsInput_2 : decode cX10_acceptsInput 2 = .ok (.invokevirtual 212, 3) := by decide +kernel
theorem dX10_acceptsInput_5 : decode cX10_acceptsInput 5 = .ok (.astore_n 2, 1) := by decide +kernel
theorem dX10_acceptsInput_6 : decode cX10_acceptsInput 6 = .ok (.aload_n 2, 1) := by decide +kernel
theorem dX10_acceptsInput_7 : decode cX10_acceptsInput 7 = .ok (.aload_n 0, 1) := by decide +kernel
theorem dX10_acceptsInput_8 : decode cX10_acceptsInput 8 = .ok (.aload_n 2, 1) := by decide +kernel
theorem dX10_acceptsInput_9 : decode cX10_acceptsInput 9 = .ok (.invokevirtual 271, 3) := by decide +kernel
theorem dX10_acceptsInput_12 : decode cX10_acceptsInput 12 = .ok (.invokevirtual 247, 3) := by decide +kernel
theorem dX10_acceptsInput_15 : decode cX10_acceptsInput 15 = .ok (.ireturn, 1) := by decide +kernel
theorem dX10_wordCount_0 : decode cX10_wordCount 0 = .ok (.aload_n 0, 1) := by decide +kernel
theorem dX10_wordCount_1 : decode cX10_wordCount 1 = .ok (.iload_n 1, 1) := by decide +kernel
theorem dX10_wordCount_2 : decode cX10_wordCount 2 = .ok (.invokevirtual 212, 3) := by decide +kernel
theorem dX10_wordCount_5 : decode cX10_wordCount 5 = .ok (.astore_n 3, 1) := by decide +kernel
theorem dX10_wordCount_6 : decode cX10_wordCount 6 = .ok (.iload_n 2, 1) := by decide +kernel
theorem dX10_wordCount_7 : decode cX10_wordCount 7 = .ok (.invokestatic 275, 3) := by decide +kernel
theorem dX10_wordCount_10 : decode cX10_wordCount 10 = .ok (.aload_n 0, 1) := by decide +kernel
theorem dX10_wordCount_11 : decode cX10_wordCount 11 = .ok (.getfield 80, 3) := by decide +kernel
theorem dX10_wordCount_14 : decode cX10_wordCount 14 = .ok (.aload_n 3, 1) := by decide +kernel
theorem dX10_wordCount_15 : decode cX10_wordCount 15 = .ok (.iload_n 2, 1) := by decide +kernel
theorem dX10_wordCount_16 : decode cX10_wordCount 16 = .ok (.invokevirtual 278, 3) := by decide +kernel
theorem dX10_wordCount_19 : decode cX10_wordCount 19 = .ok (.aload_n 0, 1) := by decide +kernel
theorem dX10_wordCount_20 : decode cX10_wordCount 20 = .ok (.getfield 80, 3) := by decide +kernel
theorem dX10_wordCount_23 : decode cX10_wordCount 23 = .ok (.iconst 0, 1) := by decide +kernel
theorem dX10_wordCount_24 : decode cX10_wordCount 24 = .ok (.iload_n 2, 1) := by decide +kernel
theorem dX10_wordCount_25 : decode cX10_wordCount 25 = .ok (.invokevirtual 281, 3) := by decide +kernel
theorem dX10_wordCount_28 : decode cX10_wordCount 28 = .ok (.lreturn, 1) := by decide +kernel
theorem dX10_wordCountWithPrefix_0 : decode cX10_wordCountWithPrefix 0 = .ok (.aload_n 0, 1) := by decide +kernel
theorem dX10_wordCountWithPrefix_1 : decode cX10_wordCountWithPrefix 1 = .ok (.iload_n 1, 1) := by decide +kernel
theorem dX10_wordCountWithPrefix_2 : decode cX10_wordCountWithPrefix 2 = .ok (.invokevirtual 212, 3) := by decide +kernel
theorem dX10_wordCountWithPrefix_5 : decode cX10_wordCountWithPrefix 5 = .ok (.astore_n 3, 1) := by decide +kernel
theorem dX10_wordCountWithPrefix_6 : decode cX10_wordCountWithPrefix 6 = .ok (.iload_n 2, 1) := by decide +kernel
theorem dX10_wordCountWithPrefix_7 : decode cX10_wordCountWithPrefix 7 = .ok (.invokestatic 275, 3) := by decide +kernel
theorem dX10_wordCountWithPrefix_10 : decode cX10_wordCountWithPrefix 10 = .ok (.iload_n 2, 1) := by decide +kernel
theorem dX10_wordCountWithPrefix_11 : decode cX10_wordCountWithPrefix 11 = .ok (.aload_n 0, 1) := by decide +kernel
theorem dX10_wordCountWithPrefix_12 : decode cX10_wordCountWithPrefix 12 = .ok (.getfield 36, 3) := by decide +kernel
theorem dX10_wordCountWithPrefix_15 : decode cX10_wordCountWithPrefix 15 = .ok (.invokevirtual 95, 3) := by decide +kernel
theorem dX10_wordCountWithPrefix_18 : decode cX10_wordCountWithPrefix 18 = .ok (.isub, 1) := by decide +kernel
theorem dX10_wordCountWithPrefix_19 : decode cX10_wordCountWithPrefix 19 = .ok (.istore 4, 2) := by decide +kernel
theorem dX10_wordCountWithPrefix_21 : decode cX10_wordCountWithPrefix 21 = .ok (.aload_n 0, 1) := by decide +kernel
theorem dX10_wordCountWithPrefix_22 : decode cX10_wordCountWithPrefix 22 = .ok (.aload_n 3, 1) := by decide +kernel
theorem dX10_wordCountWithPrefix_23 : decode cX10_wordCountWithPrefix 23 = .ok (.invokevirtual 271, 3) := by decide +kernel
theorem dX10_wordCountWithPrefix_26 : decode cX10_wordCountWithPrefix 26 = .ok (.istore 5, 2) := by decide +kernel
theorem dX10_wordCountWithPrefix_28 : decode cX10_wordCountWithPrefix 28 = .ok (.iload 4, 2) := by decide +kernel
theorem dX10_wordCountWithPrefix_30 : decode cX10_wordCountWithPrefix 30 = .ok (.ifCond .lt 9, 3) := by decide +kernel
theorem dX10_wordCountWithPrefix_33 : decode cX10_wordCountWithPrefix 33 = .ok (.iload 5, 2) := by decide +kernel
theorem dX10_wordCountWithPrefix_35 : decode cX10_wordCountWithPrefix 35 = .ok (.iconst (-1), 1) := by decide +kernel
theorem dX10_wordCountWithPrefix_36 : decode cX10_wordCountWithPrefix 36 = .ok (.if_icmp .ne 5, 3) := by decide +kernel
theorem dX10_wordCountWithPrefix_39 : decode cX10_wordCountWithPrefix 39 = .ok (.lconst 0, 1) := by decide +kernel
theorem dX10_wordCountWithPrefix_40 : decode cX10_wordCountWithPrefix 40 = .ok (.lreturn, 1) := by decide +kernel
theorem dX10_wordCountWithPrefix_41 : decode cX10_wordCountWithPrefix 41 = .ok (.aload_n 0, 1) := by decide +kernel
theorem dX10_wordCountWithPrefix_42 : decode cX10_wordCountWithPrefix 42 = .ok (.getfield 80, 3) := by decide +kernel
theorem dX10_wordCountWithPrefix_45 : decode cX10_wordCountWithPrefix 45 = .ok (.aload_n 3, 1) := by decide +kernel
theorem dX10_wordCountWithPrefix_46 : decode cX10_wordCountWithPrefix 46 = .ok (.iload 4, 2) := by decide +kernel
theorem dX10_wordCountWithPrefix_48 : decode cX10_wordCountWithPrefix 48 = .ok (.invokevirtual 278, 3) := by decide +kernel
theorem dX10_wordCountWithPrefix_51 : decode cX10_wordCountWithPrefix 51 = .ok (.aload_n 0, 1) := by decide +kernel
theorem dX10_wordCountWithPrefix_52 : decode cX10_wordCountWithPrefix 52 = .ok (.getfield 80, 3) := by decide +kernel
theorem dX10_wordCountWithPrefix_55 : decode cX10_wordCountWithPrefix 55 = .ok (.iload 5, 2) := by decide +kernel
theorem dX10_wordCountWithPrefix_57 : decode cX10_wordCountWithPrefix 57 = .ok (.iload 4, 2) := by decide +kernel
theorem dX10_wordCountWithPrefix_59 : decode cX10_wordCountWithPrefix 59 = .ok (.invokevirtual 281, 3) := by decide +kernel
theorem dX10_wordCountWithPrefix_62 : decode cX10_wordCountWithPrefix 62 = .ok (.lreturn, 1) := by decide +kernel
theorem dX10_shortestLength_0 : decode cX10_shortestLength 0 = .ok (.aload_n 0, 1) := by decide +kernel
theorem dX10_shortestLength_1 : decode cX10_shortestLength 1 = .ok (.getfield 73, 3) := by decide +kernel
theorem dX10_shortestLength_4 : decode cX10_shortestLength 4 = .ok (.aload_n 0, 1) := by decide +kernel
theorem dX10_shortestLength_5 : decode cX10_shortestLength 5 = .ok (.aload_n 0, 1) := by decide +kernel
theorem dX10_shortestLength_6 : decode cX10_shortestLength 6 = .ok (.iload_n 1, 1) := by decide +kernel
theorem dX10_shortestLength_7 : decode cX10_shortestLength 7 = .ok (.invokevirtual 212, 3) := by decide +kernel
theorem dX10_shortestLength_10 : decode cX10_shortestLength 10 = .ok (.iconst 0, 1) := by decide +kernel
theorem dX10_shortestLength_11 : decode cX10_shortestLength 11 = .ok (.bipush 63, 2) := by decide +kernel
theorem dX10_shortestLength_13 : decode cX10_shortestLength 13 = .ok (.invokevirtual 256, 3) := by decide +kernel
theorem dX10_shortestLength_16 : decode cX10_shortestLength 16 = .ok (.invokevirtual 260, 3) := by decide +kernel
theorem dX10_shortestLength_19 : decode cX10_shortestLength 19 = .ok (.ireturn, 1) := by decide +kernel
theorem dX10_isFinite_0 : decode cX10_isFinite 0 = .ok (.aload_n 0, 1) := by decide +kernel
theorem dX10_isFinite_1 : decode cX10_isFinite 1 = .ok (.iload_n 1, 1) := by decide +kernel
theorem dX10_isFinite_2 : decode cX10_isFinite 2 = .ok (.invokevirtual 212, 3) := by decide +kernel
theorem dX10_isFinite_5 : decode cX10_isFinite 5 = .ok (.invokevirtual 285, 3) := by decide +kernel
theorem dX10_isFinite_8 : decode cX10_isFinite 8 = .ok (.iconst (-1), 1) := by decide +kernel
theorem dX10_isFinite_9 : decode cX10_isFinite 9 = .ok (.if_icmp .eq 7, 3) := by decide +kernel
theorem dX10_isFinite_12 : decode cX10_isFinite 12 = .ok (.iconst 1, 1) := by decide +kernel
theorem dX10_isFinite_13 : decode cX10_isFinite 13 = .ok (.goto 4, 3) := by decide +kernel
theorem dX10_isFinite_16 : decode cX10_isFinite 16 = .ok (.iconst 0, 1) := by decide +kernel
theorem dX10_isFinite_17 : decode cX10_isFinite 17 = .ok (.ireturn, 1) := by decide +kernel
theorem dX10_longestLength_0 : decode cX10_longestLength 0 = .ok (.aload_n 0, 1) := by decide +kernel
theorem dX10_longestLength_1 : decode cX10_longestLength 1 = .ok (.iload_n 1, 1) := by decide +kernel
theorem dX10_longestLength_2 : decode cX10_longestLength 2 = .ok (.invokevirtual 212, 3) := by decide +kernel
theorem dX10_longestLength_5 : decode cX10_longestLength 5 = .ok (.invokevirtual 285, 3) := by decide +kernel
theorem dX10_longestLength_8 : decode cX10_longestLength 8 = .ok (.ireturn, 1) := by decide +kernel
theorem dX10_isSubset_0 : decode cX10_isSubset 0 = .ok (.aload_n 0, 1) := by decide +kernel
theorem dX10_isSubset_1 : decode cX10_isSubset 1 = .ok (.iload_n 1, 1) := by decide +kernel
theorem dX10_isSubset_2 : decode cX10_isSubset 2 = .ok (.invokevirtual 212, 3) := by decide +kernel
theorem dX10_isSubset_5 : decode cX10_isSubset 5 = .ok (.astore_n 2, 1) := by decide +kernel
theorem dX10_isSubset_6 : decode cX10_isSubset 6 = .ok (.aload_n 0, 1) := by decide +kernel
theorem dX10_isSubset_7 : decode cX10_isSubset 7 = .ok (.getfield 49, 3) := by decide +kernel
theorem dX10_isSubset_10 : decode cX10_isSubset 10 = .ok (.iload_n 1, 1) := by decide +kernel
theorem dX10_isSubset_11 : decode cX10_isSubset 11 = .ok (.invokestatic 128, 3) := by decide +kernel
theorem dX10_isSubset_14 : decode cX10_isSubset 14 = .ok (.invokevirtual 124, 3) := by decide +kernel
theorem dX10_isSubset_17 : decode cX10_isSubset 17 = .ok (.astore_n 3, 1) := by decide +kernel
theorem dX10_isSubset_18 : decode cX10_isSubset 18 = .ok (.aload_n 0, 1) := by decide +kernel
theorem dX10_isSubset_19 : decode cX10_isSubset 19 = .ok (.getfield 73, 3) := by decide +kernel
theorem dX10_isSubset_22 : decode cX10_isSubset 22 = .ok (.aload_n 2, 1) := by decide +kernel
theorem dX10_isSubset_23 : decode cX10_isSubset 23 = .ok (.aload_n 3, 1) := by decide +kernel
theorem dX10_isSubset_24 : decode cX10_isSubset 24 = .ok (.iconst 0, 1) := by decide +kernel
theorem dX10_isSubset_25 : decode cX10_isSubset 25 = .ok (.bipush 63, 2) := by decide +kernel
theorem dX10_isSubset_27 : decode cX10_isSubset 27 = .ok (.iconst 2, 1) := by decide +kernel
theorem dX10_isSubset_28 : decode cX10_isSubset 28 = .ok (.invokevirtual 288, 3) := by decide +kernel
theorem dX10_isSubset_31 : decode cX10_isSubset 31 = .ok (.iconst (-1), 1) := by decide +kernel
theorem dX10_isSubset_32 : decode cX10_isSubset 32 = .ok (.if_icmp .ne 7, 3) := by decide +kernel
theorem dX10_isSubset_35 : decode cX10_isSubset 35 = .ok (.iconst 1, 1) := by decide +kernel
theorem dX10_isSubset_36 : decode cX10_isSubset 36 = .ok (.goto 4, 3) := by decide +kernel
theorem dX10_isSubset_39 : decode cX10_isSubset 39 = .ok (.iconst 0, 1) := by decide +kernel
theorem dX10_isSubset_40 : decode cX10_isSubset 40 = .ok (.ireturn, 1) := by decide +kernel
theorem dX10_differenceLength_0 : decode cX10_differenceLength 0 = .ok (.aload_n 0, 1) := by decide +kernel
theorem dX10_differenceLength_1 : decode cX10_differenceLength 1 = .ok (.getfield 73, 3) := by decide +kernel
theorem dX10_differenceLength_4 : decode cX10_differenceLength 4 = .ok (.aload_n 0, 1) := by decide +kernel
theorem dX10_differenceLength_5 : decode cX10_differenceLength 5 = .ok (.iconst 1, 1) := by decide +kernel
theorem dX10_differenceLength_6 : decode cX10_differenceLength 6 = .ok (.invokevirtual 292, 3) := by decide +kernel
theorem dX10_differenceLength_9 : decode cX10_differenceLength 9 = .ok (.invokevirtual 260, 3) := by decide +kernel
theorem dX10_differenceLength_12 : decode cX10_differenceLength 12 = .ok (.ireturn, 1) := by decide +kernel
theorem dX10_sharedLength_0 : decode cX10_sharedLength 0 = .ok (.aload_n 0, 1) := by decide +kernel
theorem dX10_sharedLength_1 : decode cX10_sharedLength 1 = .ok (.getfield 73, 3) := by decide +kernel
theorem dX10_sharedLength_4 : decode cX10_sharedLength 4 = .ok (.aload_n 0, 1) := by decide +kernel
theorem dX10_sharedLength_5 : decode cX10_sharedLength 5 = .ok (.iconst 0, 1) := by decide +kernel
theorem dX10_sharedLength_6 : decode cX10_sharedLength 6 = .ok (.invokevirtual 292, 3) := by decide +kernel
theorem dX10_sharedLength_9 : decode cX10_sharedLength 9 = .ok (.invokevirtual 260, 3) := by decide +kernel
theorem dX10_sharedLength_12 : decode cX10_sharedLength 12 = .ok (.ireturn, 1) := by decide +kernel
theorem dX10_reachablePairs_0 : decode cX10_reachablePairs 0 = .ok (.aload_n 0, 1) := by decide +kernel
theorem dX10_reachablePairs_1 : decode cX10_reachablePairs 1 = .ok (.iconst 3, 1) := by decide +kernel
theorem dX10_reachablePairs_2 : decode cX10_reachablePairs 2 = .ok (.invokevirtual 292, 3) := by decide +kernel
theorem dX10_reachablePairs_5 : decode cX10_reachablePairs 5 = .ok (.pop, 1) := by decide +kernel
theorem dX10_reachablePairs_6 : decode cX10_reachablePairs 6 = .ok (.aload_n 0, 1) := by decide +kernel
theorem dX10_reachablePairs_7 : decode cX10_reachablePairs 7 = .ok (.getfield 73, 3) := by decide +kernel
theorem dX10_reachablePairs_10 : decode cX10_reachablePairs 10 = .ok (.invokevirtual 295, 3) := by decide +kernel
theorem dX10_reachablePairs_13 : decode cX10_reachablePairs 13 = .ok (.ireturn, 1) := by decide +kernel
theorem dX10_isPassable_0 : decode cX10_isPassable 0 = .ok (.iload_n 1, 1) := by decide +kernel
theorem dX10_isPassable_1 : decode cX10_isPassable 1 = .ok (.invokestatic 155, 3) := by decide +kernel
theorem dX10_isPassable_4 : decode cX10_isPassable 4 = .ok (.aload_n 0, 1) := by decide +kernel
theorem dX10_isPassable_5 : decode cX10_isPassable 5 = .ok (.getfield 49, 3) := by decide +kernel
theorem dX10_isPassable_8 : decode cX10_isPassable 8 = .ok (.iload_n 1, 1) := by decide +kernel
theorem dX10_isPassable_9 : decode cX10_isPassable 9 = .ok (.invokevirtual 158, 3) := by decide +kernel
theorem dX10_isPassable_12 : decode cX10_isPassable 12 = .ok (.ireturn, 1) := by decide +kernel
theorem dX10_isNight_0 : decode cX10_isNight 0 = .ok (.aload_n 0, 1) := by decide +kernel
theorem dX10_isNight_1 : decode cX10_isNight 1 = .ok (.getfield 49, 3) := by decide +kernel
theorem dX10_isNight_4 : decode cX10_isNight 4 = .ok (.getfield 181, 3) := by decide +kernel
theorem dX10_isNight_7 : decode cX10_isNight 7 = .ok (.ireturn, 1) := by decide +kernel
theorem dX10_walkerCount_0 : decode cX10_walkerCount 0 = .ok (.aload_n 0, 1) := by decide +kernel
theorem dX10_walkerCount_1 : decode cX10_walkerCount 1 = .ok (.getfield 49, 3) := by decide +kernel
theorem dX10_walkerCount_4 : decode cX10_walkerCount 4 = .ok (.getfield 135, 3) := by decide +kernel
theorem dX10_walkerCount_7 : decode cX10_walkerCount 7 = .ok (.ireturn, 1) := by decide +kernel
theorem dX10_walkerSlot_0 : decode cX10_walkerSlot 0 = .ok (.aload_n 0, 1) := by decide +kernel
theorem dX10_walkerSlot_1 : decode cX10_walkerSlot 1 = .ok (.iload_n 1, 1) := by decide +kernel
theorem dX10_walkerSlot_2 : decode cX10_walkerSlot 2 = .ok (.invokevirtual 146, 3) := by decide +kernel
theorem dX10_walkerSlot_5 : decode cX10_walkerSlot 5 = .ok (.aload_n 0, 1) := by decide +kernel
theorem dX10_walkerSlot_6 : decode cX10_walkerSlot 6 = .ok (.getfield 49, 3) := by decide +kernel
theorem dX10_walkerSlot_9 : decode cX10_walkerSlot 9 = .ok (.iload_n 1, 1) := by decide +kernel
theorem dX10_walkerSlot_10 : decode cX10_walkerSlot 10 = .ok (.invokevirtual 296, 3) := by decide +kernel
theorem dX10_walkerSlot_13 : decode cX10_walkerSlot 13 = .ok (.ireturn, 1) := by decide +kernel
theorem dX10_walkerState_0 : decode cX10_walkerState 0 = .ok (.aload_n 0, 1) := by decide +kernel
theorem dX10_walkerState_1 : decode cX10_walkerState 1 = .ok (.iload_n 1, 1) := by decide +kernel
theorem dX10_walkerState_2 : decode cX10_walkerState 2 = .ok (.invokevirtual 146, 3) := by decide +kernel
theorem dX10_walkerState_5 : decode cX10_walkerState 5 = .ok (.aload_n 0, 1) := by decide +kernel
theorem dX10_walkerState_6 : decode cX10_walkerState 6 = .ok (.getfield 49, 3) := by decide +kernel
theorem dX10_walkerState_9 : decode cX10_walkerState 9 = .ok (.iload_n 1, 1) := by decide +kernel
theorem dX10_walkerState_10 : decode cX10_walkerState 10 = .ok (.invokevirtual 168, 3) := by decide +kernel
theorem dX10_walkerState_13 : decode cX10_walkerState 13 = .ok (.ireturn, 1) := by decide +kernel
theorem dX10_walkerSteps_0 : decode cX10_walkerSteps 0 = .ok (.aload_n 0, 1) := by decide +kernel
theorem dX10_walkerSteps_1 : decode cX10_walkerSteps 1 = .ok (.iload_n 1, 1) := by decide +kernel
theorem dX10_walkerSteps_2 : decode cX10_walkerSteps 2 = .ok (.invokevirtual 146, 3) := by decide +kernel
theorem dX10_walkerSteps_5 : decode cX10_walkerSteps 5 = .ok (.aload_n 0, 1) := by decide +kernel
theorem dX10_walkerSteps_6 : decode cX10_walkerSteps 6 = .ok (.getfield 49, 3) := by decide +kernel
theorem dX10_walkerSteps_9 : decode cX10_walkerSteps 9 = .ok (.iload_n 1, 1) := by decide +kernel
theorem dX10_walkerSteps_10 : decode cX10_walkerSteps 10 = .ok (.invokevirtual 149, 3) := by decide +kernel
theorem dX10_walkerSteps_13 : decode cX10_walkerSteps 13 = .ok (.ireturn, 1) := by decide +kernel
theorem dX10_stepsHome_0 : decode cX10_stepsHome 0 = .ok (.aload_n 0, 1) := by decide +kernel
theorem dX10_stepsHome_1 : decode cX10_stepsHome 1 = .ok (.iload_n 1, 1) := by decide +kernel
theorem dX10_stepsHome_2 : decode cX10_stepsHome 2 = .ok (.invokevirtual 146, 3) := by decide +kernel
theorem dX10_stepsHome_5 : decode cX10_stepsHome 5 = .ok (.aload_n 0, 1) := by decide +kernel
theorem dX10_stepsHome_6 : decode cX10_stepsHome 6 = .ok (.getfield 73, 3) := by decide +kernel
theorem dX10_stepsHome_9 : decode cX10_stepsHome 9 = .ok (.aload_n 0, 1) := by decide +kernel
theorem dX10_stepsHome_10 : decode cX10_stepsHome 10 = .ok (.iload_n 1, 1) := by decide +kernel
theorem dX10_stepsHome_11 : decode cX10_stepsHome 11 = .ok (.invokevirtual 299, 3) := by decide +kernel
theorem dX10_stepsHome_14 : decode cX10_stepsHome 14 = .ok (.invokevirtual 260, 3) := by decide +kernel
theorem dX10_stepsHome_17 : decode cX10_stepsHome 17 = .ok (.ireturn, 1) := by decide +kernel
theorem dX10_streetHome_0 : decode cX10_streetHome 0 = .ok (.aload_n 0, 1) := by decide +kernel
theorem dX10_streetHome_1 : decode cX10_streetHome 1 = .ok (.iload_n 1, 1) := by decide +kernel
theorem dX10_streetHome_2 : decode cX10_streetHome 2 = .ok (.invokevirtual 146, 3) := by decide +kernel
theorem dX10_streetHome_5 : decode cX10_streetHome 5 = .ok (.aload_n 0, 1) := by decide +kernel
theorem dX10_streetHome_6 : decode cX10_streetHome 6 = .ok (.getfield 73, 3) := by decide +kernel
theorem dX10_streetHome_9 : decode cX10_streetHome 9 = .ok (.aload_n 0, 1) := by decide +kernel
theorem dX10_streetHome_10 : decode cX10_streetHome 10 = .ok (.iload_n 1, 1) := by decide +kernel
theorem dX10_streetHome_11 : decode cX10_streetHome 11 = .ok (.invokevirtual 299, 3) := by decide +kernel
theorem dX10_streetHome_14 : decode cX10_streetHome 14 = .ok (.invokevirtual 302, 3) := by decide +kernel
theorem dX10_streetHome_17 : decode cX10_streetHome 17 = .ok (.ireturn, 1) := by decide +kernel
theorem dX10_walkersInState_0 : decode cX10_walkersInState 0 = .ok (.aload_n 0, 1) := by decide +kernel
theorem dX10_walkersInState_1 : decode cX10_walkersInState 1 = .ok (.iload_n 1, 1) := by decide +kernel
theorem dX10_walkersInState_2 : decode cX10_walkersInState 2 = .ok (.invokevirtual 212, 3) := by decide +kernel
theorem dX10_walkersInState_5 : decode cX10_walkersInState 5 = .ok (.iload_n 2, 1) := by decide +kernel
theorem dX10_walkersInState_6 : decode cX10_walkersInState 6 = .ok (.invokestatic 240, 3) := by decide +kernel
theorem dX10_walkersInState_9 : decode cX10_walkersInState 9 = .ok (.iconst 0, 1) := by decide +kernel
theorem dX10_walkersInState_10 : decode cX10_walkersInState 10 = .ok (.istore_n 3, 1) := by decide +kernel
theorem dX10_walkersInState_11 : decode cX10_walkersInState 11 = .ok (.iconst 0, 1) := by decide +kernel
theorem dX10_walkersInState_12 : decode cX10_walkersInState 12 = .ok (.istore 4, 2) := by decide +kernel
theorem dX10_walkersInState_14 : decode cX10_walkersInState 14 = .ok (.iload 4, 2) := by decide +kernel
theorem dX10_walkersInState_16 : decode cX10_walkersInState 16 = .ok (.aload_n 0, 1) := by decide +kernel
theorem dX10_walkersInState_17 : decode cX10_walkersInState 17 = .ok (.getfield 49, 3) := by decide +kernel
theorem dX10_walkersInState_20 : decode cX10_walkersInState 20 = .ok (.getfield 135, 3) := by decide +kernel
theorem dX10_walkersInState_23 : decode cX10_walkersInState 23 = .ok (.if_icmp .ge 38, 3) := by decide +kernel
theorem dX10_walkersInState_26 : decode cX10_walkersInState 26 = .ok (.aload_n 0, 1) := by decide +kernel
theorem dX10_walkersInState_27 : decode cX10_walkersInState 27 = .ok (.getfield 49, 3) := by decide +kernel
theorem dX10_walkersInState_30 : decode cX10_walkersInState 30 = .ok (.iload 4, 2) := by decide +kernel
theorem dX10_walkersInState_32 : decode cX10_walkersInState 32 = .ok (.invokevirtual 296, 3) := by decide +kernel
theorem dX10_walkersInState_35 : decode cX10_walkersInState 35 = .ok (.iload_n 1, 1) := by decide +kernel
theorem dX10_walkersInState_36 : decode cX10_walkersInState 36 = .ok (.if_icmp .ne 19, 3) := by decide +kernel
theorem dX10_walkersInState_39 : decode cX10_walkersInState 39 = .ok (.aload_n 0, 1) := by decide +kernel
theorem dX10_walkersInState_40 : decode cX10_walkersInState 40 = .ok (.getfield 49, 3) := by decide +kernel
theorem dX10_walkersInState_43 : decode cX10_walkersInState 43 = .ok (.iload 4, 2) := by decide +kernel
theorem dX10_walkersInState_45 : decode cX10_walkersInState 45 = .ok (.invokevirtual 168, 3) := by decide +kernel
theorem dX10_walkersInState_48 : decode cX10_walkersInState 48 = .ok (.iload_n 2, 1) := by decide +kernel
theorem dX10_walkersInState_49 : decode cX10_walkersInState 49 = .ok (.if_icmp .ne 6, 3) := by decide +kernel
theorem dX10_walkersInState_52 : decode cX10_walkersInState 52 = .ok (.iinc 3 1, 3) := by decide +kernel
theorem dX10_walkersInState_55 : decode cX10_walkersInState 55 = .ok (.iinc 4 1, 3) := by decide +kernel
theorem dX10_walkersInState_58 : decode cX10_walkersInState 58 = .ok (.goto (-44), 3) := by decide +kernel
theorem dX10_walkersInState_61 : decode cX10_walkersInState 61 = .ok (.iload_n 3, 1) := by decide +kernel
theorem dX10_walkersInState_62 : decode cX10_walkersInState 62 = .ok (.ireturn, 1) := by decide +kernel
theorem dX10_meetingSteps_0 : decode cX10_meetingSteps 0 = .ok (.aload_n 0, 1) := by decide +kernel
theorem dX10_meetingSteps_1 : decode cX10_meetingSteps 1 = .ok (.iload_n 1, 1) := by decide +kernel
theorem dX10_meetingSteps_2 : decode cX10_meetingSteps 2 = .ok (.invokevirtual 146, 3) := by decide +kernel
theorem dX10_meetingSteps_5 : decode cX10_meetingSteps 5 = .ok (.aload_n 0, 1) := by decide +kernel
theorem dX10_meetingSteps_6 : decode cX10_meetingSteps 6 = .ok (.iload_n 2, 1) := by decide +kernel
theorem dX10_meetingSteps_7 : decode cX10_meetingSteps 7 = .ok (.invokevirtual 146, 3) := by decide +kernel
theorem dX10_meetingSteps_10 : decode cX10_meetingSteps 10 = .ok (.aload_n 0, 1) := by decide +kernel
theorem dX10_meetingSteps_11 : decode cX10_meetingSteps 11 = .ok (.getfield 49, 3) := by decide +kernel
theorem dX10_meetingSteps_14 : decode cX10_meetingSteps 14 = .ok (.iload_n 1, 1) := by decide +kernel
theorem dX10_meetingSteps_15 : decode cX10_meetingSteps 15 = .ok (.invokevirtual 168, 3) := by decide +kernel
theorem dX10_meetingSteps_18 : decode cX10_meetingSteps 18 = .ok (.aload_n 0, 1) := by decide +kernel
theorem dX10_meetingSteps_19 : decode cX10_meetingSteps 19 = .ok (.getfield 49, 3) := by decide +kernel
theorem dX10_meetingSteps_22 : decode cX10_meetingSteps 22 = .ok (.iload_n 2, 1) := by decide +kernel
theorem dX10_meetingSteps_23 : decode cX10_meetingSteps 23 = .ok (.invokevirtual 168, 3) := by decide +kernel
theorem dX10_meetingSteps_26 : decode cX10_meetingSteps 26 = .ok (.invokestatic 305, 3) := by decide +kernel
theorem dX10_meetingSteps_29 : decode cX10_meetingSteps 29 = .ok (.istore_n 3, 1) := by decide +kernel
theorem dX10_meetingSteps_30 : decode cX10_meetingSteps 30 = .ok (.aload_n 0, 1) := by decide +kernel
theorem dX10_meetingSteps_31 : decode cX10_meetingSteps 31 = .ok (.getfield 73, 3) := by decide +kernel
theorem dX10_meetingSteps_34 : decode cX10_meetingSteps 34 = .ok (.aload_n 0, 1) := by decide +kernel
theorem dX10_meetingSteps_35 : decode cX10_meetingSteps 35 = .ok (.getfield 73, 3) := by decide +kernel
theorem dX10_meetingSteps_38 : decode cX10_meetingSteps 38 = .ok (.aload_n 0, 1) := by decide +kernel
theorem dX10_meetingSteps_39 : decode cX10_meetingSteps 39 = .ok (.getfield 49, 3) := by decide +kernel
theorem dX10_meetingSteps_42 : decode cX10_meetingSteps 42 = .ok (.iload_n 1, 1) := by decide +kernel
theorem dX10_meetingSteps_43 : decode cX10_meetingSteps 43 = .ok (.invokevirtual 308, 3) := by decide +kernel
theorem dX10_meetingSteps_46 : decode cX10_meetingSteps 46 = .ok (.aload_n 0, 1) := by decide +kernel
theorem dX10_meetingSteps_47 : decode cX10_meetingSteps 47 = .ok (.getfield 49, 3) := by decide +kernel
theorem dX10_meetingSteps_50 : decode cX10_meetingSteps 50 = .ok (.iload_n 2, 1) := by decide +kernel
theorem dX10_meetingSteps_51 : decode cX10_meetingSteps 51 = .ok (.invokevirtual 308, 3) := by decide +kernel
theorem dX10_meetingSteps_54 : decode cX10_meetingSteps 54 = .ok (.iload_n 3, 1) := by decide +kernel
theorem dX10_meetingSteps_55 : decode cX10_meetingSteps 55 = .ok (.aload_n 0, 1) := by decide +kernel
theorem dX10_meetingSteps_56 : decode cX10_meetingSteps 56 = .ok (.getfield 49, 3) := by decide +kernel
theorem dX10_meetingSteps_59 : decode cX10_meetingSteps 59 = .ok (.invokevirtual 185, 3) := by decide +kernel
theorem dX10_meetingSteps_62 : decode cX10_meetingSteps 62 = .ok (.iconst 0, 1) := by decide +kernel
theorem dX10_meetingSteps_63 : decode cX10_meetingSteps 63 = .ok (.invokevirtual 288, 3) := by decide +kernel
theorem dX10_meetingSteps_66 : decode cX10_meetingSteps 66 = .ok (.invokevirtual 260, 3) := by decide +kernel
theorem dX10_meetingSteps_69 : decode cX10_meetingSteps 69 = .ok (.ireturn, 1) := by decide +kernel
theorem dX10_totalSteps_0 : decode cX10_totalSteps 0 = .ok (.aload_n 0, 1) := by decide +kernel
theorem dX10_totalSteps_1 : decode cX10_totalSteps 1 = .ok (.getfield 49, 3) := by decide +kernel
theorem dX10_totalSteps_4 : decode cX10_totalSteps 4 = .ok (.getfield 311, 3) := by decide +kernel
theorem dX10_totalSteps_7 : decode cX10_totalSteps 7 = .ok (.ireturn, 1) := by decide +kernel
theorem dX10_homeShare_0 : decode cX10_homeShare 0 = .ok (.aload_n 0, 1) := by decide +kernel
theorem dX10_homeShare_1 : decode cX10_homeShare 1 = .ok (.getfield 49, 3) := by decide +kernel
theorem dX10_homeShare_4 : decode cX10_homeShare 4 = .ok (.getfield 135, 3) := by decide +kernel
theorem dX10_homeShare_7 : decode cX10_homeShare 7 = .ok (.ifCond .ne 5, 3) := by decide +kernel
theorem dX10_homeShare_10 : decode cX10_homeShare 10 = .ok (.fconst 0, 1) := by decide +kernel
theorem dX10_homeShare_11 : decode cX10_homeShare 11 = .ok (.freturn, 1) := by decide +kernel
theorem dX10_homeShare_12 : decode cX10_homeShare 12 = .ok (.iconst 0, 1) := by decide +kernel
theorem dX10_homeShare_13 : decode cX10_homeShare 13 = .ok (.istore_n 1, 1) := by decide +kernel
theorem dX10_homeShare_14 : decode cX10_homeShare 14 = .ok (.iconst 0, 1) := by decide +kernel
theorem dX10_homeShare_15 : decode cX10_homeShare 15 = .ok (.istore_n 2, 1) := by decide +kernel
theorem dX10_homeShare_16 : decode cX10_homeShare 16 = .ok (.iload_n 2, 1) := by decide +kernel
theorem dX10_homeShare_17 : decode cX10_homeShare 17 = .ok (.aload_n 0, 1) := by decide +kernel
theorem dX10_homeShare_18 : decode cX10_homeShare 18 = .ok (.getfield 49, 3) := by decide +kernel
theorem dX10_homeShare_21 : decode cX10_homeShare 21 = .ok (.getfield 135, 3) := by decide +kernel
theorem dX10_homeShare_24 : decode cX10_homeShare 24 = .ok (.if_icmp .ge 34, 3) := by decide +kernel
theorem dX10_homeShare_27 : decode cX10_homeShare 27 = .ok (.aload_n 0, 1) := by decide +kernel
theorem dX10_homeShare_28 : decode cX10_homeShare 28 = .ok (.getfield 49, 3) := by decide +kernel
theorem dX10_homeShare_31 : decode cX10_homeShare 31 = .ok (.iload_n 2, 1) := by decide +kernel
theorem dX10_homeShare_32 : decode cX10_homeShare 32 = .ok (.invokevirtual 308, 3) := by decide +kernel
theorem dX10_homeShare_35 : decode cX10_homeShare 35 = .ok (.aload_n 0, 1) := by decide +kernel
theorem dX10_homeShare_36 : decode cX10_homeShare 36 = .ok (.getfield 49, 3) := by decide +kernel
theorem dX10_homeShare_39 : decode cX10_homeShare 39 = .ok (.iload_n 2, 1) := by decide +kernel
theorem dX10_homeShare_40 : decode cX10_homeShare 40 = .ok (.invokevirtual 168, 3) := by decide +kernel
theorem dX10_homeShare_43 : decode cX10_homeShare 43 = .ok (.invokevirtual 247, 3) := by decide +kernel
theorem dX10_homeShare_46 : decode cX10_homeShare 46 = .ok (.ifCond .eq 6, 3) := by decide +kernel
theorem dX10_homeShare_49 : decode cX10_homeShare 49 = .ok (.iinc 1 1, 3) := by decide +kernel
theorem dX10_homeShare_52 : decode cX10_homeShare 52 = .ok (.iinc 2 1, 3) := by decide +kernel
theorem dX10_homeShare_55 : decode cX10_homeShare 55 = .ok (.goto (-39), 3) := by decide +kernel
theorem dX10_homeShare_58 : decode cX10_homeShare 58 = .ok (.iload_n 1, 1) := by decide +kernel
theorem dX10_homeShare_59 : decode cX10_homeShare 59 = .ok (.i2f, 1) := by decide +kernel
theorem dX10_homeShare_60 : decode cX10_homeShare 60 = .ok (.aload_n 0, 1) := by decide +kernel
theorem dX10_homeShare_61 : decode cX10_homeShare 61 = .ok (.getfield 49, 3) := by decide +kernel
theorem dX10_homeShare_64 : decode cX10_homeShare 64 = .ok (.getfield 135, 3) := by decide +kernel
theorem dX10_homeShare_67 : decode cX10_homeShare 67 = .ok (.i2f, 1) := by decide +kernel
theorem dX10_homeShare_68 : decode cX10_homeShare 68 = .ok (.fdiv, 1) := by decide +kernel
theorem dX10_homeShare_69 : decode cX10_homeShare 69 = .ok (.freturn, 1) := by decide +kernel
theorem dX10_meanSetSize_0 : decode cX10_meanSetSize 0 = .ok (.aload_n 0, 1) := by decide +kernel
theorem dX10_meanSetSize_1 : decode cX10_meanSetSize 1 = .ok (.iload_n 1, 1) := by decide +kernel
theorem dX10_meanSetSize_2 : decode cX10_meanSetSize 2 = .ok (.invokevirtual 212, 3) := by decide +kernel
theorem dX10_meanSetSize_5 : decode cX10_meanSetSize 5 = .ok (.astore_n 2, 1) := by decide +kernel
theorem dX10_meanSetSize_6 : decode cX10_meanSetSize 6 = .ok (.iconst 0, 1) := by decide +kernel
theorem dX10_meanSetSize_7 : decode cX10_meanSetSize 7 = .ok (.istore_n 3, 1) := by decide +kernel
theorem dX10_meanSetSize_8 : decode cX10_meanSetSize 8 = .ok (.iconst 0, 1) := by decide +kernel
theorem dX10_meanSetSize_9 : decode cX10_meanSetSize 9 = .ok (.istore 4, 2) := by decide +kernel
theorem dX10_meanSetSize_11 : decode cX10_meanSetSize 11 = .ok (.iload 4, 2) := by decide +kernel
theorem dX10_meanSetSize_13 : decode cX10_meanSetSize 13 = .ok (.aload_n 2, 1) := by decide +kernel
theorem dX10_meanSetSize_14 : decode cX10_meanSetSize 14 = .ok (.getfield 132, 3) := by decide +kernel
theorem dX10_meanSetSize_17 : decode cX10_meanSetSize 17 = .ok (.if_icmp .ge 21, 3) := by decide +kernel
theorem dX10_meanSetSize_20 : decode cX10_meanSetSize 20 = .ok (.iload_n 3, 1) := by decide +kernel
theorem dX10_meanSetSize_21 : decode cX10_meanSetSize 21 = .ok (.aload_n 2, 1) := by decide +kernel
theorem dX10_meanSetSize_22 : decode cX10_meanSetSize 22 = .ok (.iload 4, 2) := by decide +kernel
theorem dX10_meanSetSize_24 : decode cX10_meanSetSize 24 = .ok (.invokevirtual 250, 3) := by decide +kernel
theorem dX10_meanSetSize_27 : decode cX10_meanSetSize 27 = .ok (.invokestatic 188, 3) := by decide +kernel
theorem dX10_meanSetSize_30 : decode cX10_meanSetSize 30 = .ok (.iadd, 1) := by decide +kernel
theorem dX10_meanSetSize_31 : decode cX10_meanSetSize 31 = .ok (.istore_n 3, 1) := by decide +kernel
theorem dX10_meanSetSize_32 : decode cX10_meanSetSize 32 = .ok (.iinc 4 1, 3) := by decide +kernel
theorem dX10_meanSetSize_35 : decode cX10_meanSetSize 35 = .ok (.goto (-24), 3) := by decide +kernel
theorem dX10_meanSetSize_38 : decode cX10_meanSetSize 38 = .ok (.aload_n 2, 1) := by decide +kernel
theorem dX10_meanSetSize_39 : decode cX10_meanSetSize 39 = .ok (.getfield 132, 3) := by decide +kernel
theorem dX10_meanSetSize_42 : decode cX10_meanSetSize 42 = .ok (.ifCond .ne 7, 3) := by decide +kernel
theorem dX10_meanSetSize_45 : decode cX10_meanSetSize 45 = .ok (.dconst 0, 1) := by decide +kernel
theorem dX10_meanSetSize_46 : decode cX10_meanSetSize 46 = .ok (.goto 11, 3) := by decide +kernel
theorem dX10_meanSetSize_49 : decode cX10_meanSetSize 49 = .ok (.iload_n 3, 1) := by decide +kernel
theorem dX10_meanSetSize_50 : decode cX10_meanSetSize 50 = .ok (.i2d, 1) := by decide +kernel
theorem dX10_meanSetSize_51 : decode cX10_meanSetSize 51 = .ok (.aload_n 2, 1) := by decide +kernel
theorem dX10_meanSetSize_52 : decode cX10_meanSetSize 52 = .ok (.getfield 132, 3) := by decide +kernel
theorem dX10_meanSetSize_55 : decode cX10_meanSetSize 55 = .ok (.i2d, 1) := by decide +kernel
theorem dX10_meanSetSize_56 : decode cX10_meanSetSize 56 = .ok (.ddiv, 1) := by decide +kernel
theorem dX10_meanSetSize_57 : decode cX10_meanSetSize 57 = .ok (.dreturn, 1) := by decide +kernel
theorem dX10_writeWord_0 : decode cX10_writeWord 0 = .ok (.aload_n 0, 1) := by decide +kernel
theorem dX10_writeWord_1 : decode cX10_writeWord 1 = .ok (.iload_n 1, 1) := by decide +kernel
theorem dX10_writeWord_2 : decode cX10_writeWord 2 = .ok (.invokevirtual 212, 3) := by decide +kernel
theorem dX10_writeWord_5 : decode cX10_writeWord 5 = .ok (.astore 5, 2) := by decide +kernel
theorem dX10_writeWord_7 : decode cX10_writeWord 7 = .ok (.iload_n 2, 1) := by decide +kernel
theorem dX10_writeWord_8 : decode cX10_writeWord 8 = .ok (.invokestatic 275, 3) := by decide +kernel
theorem dX10_writeWord_11 : decode cX10_writeWord 11 = .ok (.aload_n 0, 1) := by decide +kernel
theorem dX10_writeWord_12 : decode cX10_writeWord 12 = .ok (.getfield 80, 3) := by decide +kernel
theorem dX10_writeWord_15 : decode cX10_writeWord 15 = .ok (.aload 5, 2) := by decide +kernel
theorem dX10_writeWord_17 : decode cX10_writeWord 17 = .ok (.iload_n 2, 1) := by decide +kernel
theorem dX10_writeWord_18 : decode cX10_writeWord 18 = .ok (.invokevirtual 278, 3) := by decide +kernel
theorem dX10_writeWord_21 : decode cX10_writeWord 21 = .ok (.lload_n 3, 1) := by decide +kernel
theorem dX10_writeWord_22 : decode cX10_writeWord 22 = .ok (.lconst 0, 1) := by decide +kernel
theorem dX10_writeWord_23 : decode cX10_writeWord 23 = .ok (.lcmp, 1) := by decide +kernel
theorem dX10_writeWord_24 : decode cX10_writeWord 24 = .ok (.ifCond .lt 17, 3) := by decide +kernel
theorem dX10_writeWord_27 : decode cX10_writeWord 27 = .ok (.lload_n 3, 1) := by decide +kernel
theorem dX10_writeWord_28 : decode cX10_writeWord 28 = .ok (.aload_n 0, 1) := by decide +kernel
theorem dX10_writeWord_29 : decode cX10_writeWord 29 = .ok (.getfield 80, 3) := by decide +kernel
theorem dX10_writeWord_32 : decode cX10_writeWord 32 = .ok (.iconst 0, 1) := by decide +kernel
theorem dX10_writeWord_33 : decode cX10_writeWord 33 = .ok (.iload_n 2, 1) := by decide +kernel
theorem dX10_writeWord_34 : decode cX10_writeWord 34 = .ok (.invokevirtual 281, 3) := by decide +kernel
theorem dX10_writeWord_37 : decode cX10_writeWord 37 = .ok (.lcmp, 1) := by decide +kernel
theorem dX10_writeWord_38 : decode cX10_writeWord 38 = .ok (.ifCond .lt 5, 3) := by decide +kernel
theorem dX10_writeWord_41 : decode cX10_writeWord 41 = .ok (.iconst (-1), 1) := by decide +kernel
theorem dX10_writeWord_42 : decode cX10_writeWord 42 = .ok (.ireturn, 1) := by decide +kernel
theorem dX10_writeWord_43 : decode cX10_writeWord 43 = .ok (.lload_n 3, 1) := by decide +kernel
theorem dX10_writeWord_44 : decode cX10_writeWord 44 = .ok (.lstore 6, 2) := by decide +kernel
theorem dX10_writeWord_46 : decode cX10_writeWord 46 = .ok (.iconst 0, 1) := by decide +kernel
theorem dX10_writeWord_47 : decode cX10_writeWord 47 = .ok (.istore 8, 2) := by decide +kernel
theorem dX10_writeWord_49 : decode cX10_writeWord 49 = .ok (.iconst 0, 1) := by decide +kernel
theorem dX10_writeWord_50 : decode cX10_writeWord 50 = .ok (.istore 9, 2) := by decide +kernel
theorem dX10_writeWord_52 : decode cX10_writeWord 52 = .ok (.iload 9, 2) := by decide +kernel
theorem dX10_writeWord_54 : decode cX10_writeWord 54 = .ok (.iload_n 2, 1) := by decide +kernel
theorem dX10_writeWord_55 : decode cX10_writeWord 55 = .ok (.if_icmp .ge 73, 3) := by decide +kernel
theorem dX10_writeWord_58 : decode cX10_writeWord 58 = .ok (.iload_n 2, 1) := by decide +kernel
theorem dX10_writeWord_59 : decode cX10_writeWord 59 = .ok (.iload 9, 2) := by decide +kernel
theorem dX10_writeWord_61 : decode cX10_writeWord 61 = .ok (.isub, 1) := by decide +kernel
theorem dX10_writeWord_62 : decode cX10_writeWord 62 = .ok (.iconst 1, 1) := by decide +kernel
theorem dX10_writeWord_63 : decode cX10_writeWord 63 = .ok (.isub, 1) := by decide +kernel
theorem dX10_writeWord_64 : decode cX10_writeWord 64 = .ok (.istore 10, 2) := by decide +kernel
theorem dX10_writeWord_66 : decode cX10_writeWord 66 = .ok (.aload_n 0, 1) := by decide +kernel
theorem dX10_writeWord_67 : decode cX10_writeWord 67 = .ok (.getfield 80, 3) := by decide +kernel
theorem dX10_writeWord_70 : decode cX10_writeWord 70 = .ok (.aload 5, 2) := by decide +kernel
theorem dX10_writeWord_72 : decode cX10_writeWord 72 = .ok (.iload 8, 2) := by decide +kernel
theorem dX10_writeWord_74 : decode cX10_writeWord 74 = .ok (.iload 10, 2) := by decide +kernel
theorem dX10_writeWord_76 : decode cX10_writeWord 76 = .ok (.lload 6, 2) := by decide +kernel
theorem dX10_writeWord_78 : decode cX10_writeWord 78 = .ok (.invokevirtual 314, 3) := by decide +kernel
theorem dX10_writeWord_81 : decode cX10_writeWord 81 = .ok (.istore 11, 2) := by decide +kernel
theorem dX10_writeWord_83 : decode cX10_writeWord 83 = .ok (.lload 6, 2) := by decide +kernel
theorem dX10_writeWord_85 : decode cX10_writeWord 85 = .ok (.aload_n 0, 1) := by decide +kernel
theorem dX10_writeWord_86 : decode cX10_writeWord 86 = .ok (.getfield 80, 3) := by decide +kernel
theorem dX10_writeWord_89 : decode cX10_writeWord 89 = .ok (.aload 5, 2) := by decide +kernel
theorem dX10_writeWord_91 : decode cX10_writeWord 91 = .ok (.iload 8, 2) := by decide +kernel
theorem dX10_writeWord_93 : decode cX10_writeWord 93 = .ok (.iload 10, 2) := by decide +kernel
theorem dX10_writeWord_95 : decode cX10_writeWord 95 = .ok (.iload 11, 2) := by decide +kernel
theorem dX10_writeWord_97 : decode cX10_writeWord 97 = .ok (.invokevirtual 318, 3) := by decide +kernel
theorem dX10_writeWord_100 : decode cX10_writeWord 100 = .ok (.lsub, 1) := by decide +kernel
theorem dX10_writeWord_101 : decode cX10_writeWord 101 = .ok (.lstore 6, 2) := by decide +kernel
theorem dX10_writeWord_103 : decode cX10_writeWord 103 = .ok (.aload_n 0, 1) := by decide +kernel
theorem dX10_writeWord_104 : decode cX10_writeWord 104 = .ok (.iload 9, 2) := by decide +kernel
theorem dX10_writeWord_106 : decode cX10_writeWord 106 = .ok (.iload 11, 2) := by decide +kernel
theorem dX10_writeWord_108 : decode cX10_writeWord 108 = .ok (.invokevirtual 322, 3) := by decide +kernel
theorem dX10_writeWord_111 : decode cX10_writeWord 111 = .ok (.aload 5, 2) := by decide +kernel
theorem dX10_writeWord_113 : decode cX10_writeWord 113 = .ok (.iload 8, 2) := by decide +kernel
theorem dX10_writeWord_115 : decode cX10_writeWord 115 = .ok (.iload 11, 2) := by decide +kernel
theorem dX10_writeWord_117 : decode cX10_writeWord 117 = .ok (.invokevirtual 243, 3) := by decide +kernel
theorem dX10_writeWord_120 : decode cX10_writeWord 120 = .ok (.istore 8, 2) := by decide +kernel
theorem dX10_writeWord_122 : decode cX10_writeWord 122 = .ok (.iinc 9 1, 3) := by decide +kernel
theorem dX10_writeWord_125 : decode cX10_writeWord 125 = .ok (.goto (-73), 3) := by decide +kernel
theorem dX10_writeWord_128 : decode cX10_writeWord 128 = .ok (.aload_n 0, 1) := by decide +kernel
theorem dX10_writeWord_129 : decode cX10_writeWord 129 = .ok (.iload_n 2, 1) := by decide +kernel
theorem dX10_writeWord_130 : decode cX10_writeWord 130 = .ok (.putfield 325, 3) := by decide +kernel
theorem dX10_writeWord_133 : decode cX10_writeWord 133 = .ok (.iload_n 2, 1) := by decide +kernel
theorem dX10_writeWord_134 : decode cX10_writeWord 134 = .ok (.ireturn, 1) := by decide +kernel
theorem dX10_writeDifference_0 : decode cX10_writeDifference 0 = .ok (.aload_n 0, 1) := by decide +kernel
theorem dX10_writeDifference_1 : decode cX10_writeDifference 1 = .ok (.aload_n 0, 1) := by decide +kernel
theorem dX10_writeDifference_2 : decode cX10_writeDifference 2 = .ok (.iconst 1, 1) := by decide +kernel
theorem dX10_writeDifference_3 : decode cX10_writeDifference 3 = .ok (.invokevirtual 292, 3) := by decide +kernel
theorem dX10_writeDifference_6 : decode cX10_writeDifference 6 = .ok (.invokevirtual 328, 3) := by decide +kernel
theorem dX10_writeDifference_9 : decode cX10_writeDifference 9 = .ok (.ireturn, 1) := by decide +kernel
theorem dX10_writeSharedWord_0 : decode cX10_writeSharedWord 0 = .ok (.aload_n 0, 1) := by decide +kernel
theorem dX10_writeSharedWord_1 : decode cX10_writeSharedWord 1 = .ok (.aload_n 0, 1) := by decide +kernel
theorem dX10_writeSharedWord_2 : decode cX10_writeSharedWord 2 = .ok (.iconst 0, 1) := by decide +kernel
theorem dX10_writeSharedWord_3 : decode cX10_writeSharedWord 3 = .ok (.invokevirtual 292, 3) := by decide +kernel
theorem dX10_writeSharedWord_6 : decode cX10_writeSharedWord 6 = .ok (.invokevirtual 328, 3) := by decide +kernel
theorem dX10_writeSharedWord_9 : decode cX10_writeSharedWord 9 = .ok (.ireturn, 1) := by decide +kernel
theorem dX10_reportByte_0 : decode cX10_reportByte 0 = .ok (.iload_n 1, 1) := by decide +kernel
theorem dX10_reportByte_1 : decode cX10_reportByte 1 = .ok (.aload_n 0, 1) := by decide +kernel
theorem dX10_reportByte_2 : decode cX10_reportByte 2 = .ok (.getfield 325, 3) := by decide +kernel
theorem dX10_reportByte_5 : decode cX10_reportByte 5 = .ok (.invokestatic 331, 3) := by decide +kernel
theorem dX10_reportByte_8 : decode cX10_reportByte 8 = .ok (.ifCond .eq 12, 3) := by decide +kernel
theorem dX10_reportByte_11 : decode cX10_reportByte 11 = .ok (.iload_n 1, 1) := by decide +kernel
theorem dX10_reportByte_12 : decode cX10_reportByte 12 = .ok (.aload_n 0, 1) := by decide +kernel
theorem dX10_reportByte_13 : decode cX10_reportByte 13 = .ok (.getfield 91, 3) := by decide +kernel
theorem dX10_reportByte_16 : decode cX10_reportByte 16 = .ok (.arraylength, 1) := by decide +kernel
theorem dX10_reportByte_17 : decode cX10_reportByte 17 = .ok (.if_icmp .lt 5, 3) := by decide +kernel
theorem dX10_reportByte_20 : decode cX10_reportByte 20 = .ok (.iconst (-1), 1) := by decide +kernel
theorem dX10_reportByte_21 : decode cX10_reportByte 21 = .ok (.ireturn, 1) := by decide +kernel
theorem dX10_reportByte_22 : decode cX10_reportByte 22 = .ok (.aload_n 0, 1) := by decide +kernel
theorem dX10_reportByte_23 : decode cX10_reportByte 23 = .ok (.getfield 91, 3) := by decide +kernel
theorem dX10_reportByte_26 : decode cX10_reportByte 26 = .ok (.iload_n 1, 1) := by decide +kernel
theorem dX10_reportByte_27 : decode cX10_reportByte 27 = .ok (.iaload, 1) := by decide +kernel
theorem dX10_reportByte_28 : decode cX10_reportByte 28 = .ok (.ireturn, 1) := by decide +kernel
theorem dX10_isIndex_0 : decode cX10_isIndex 0 = .ok (.iload_n 0, 1) := by decide +kernel
theorem dX10_isIndex_1 : decode cX10_isIndex 1 = .ok (.ifCond .lt 12, 3) := by decide +kernel
theorem dX10_isIndex_4 : decode cX10_isIndex 4 = .ok (.iload_n 0, 1) := by decide +kernel
theorem dX10_isIndex_5 : decode cX10_isIndex 5 = .ok (.iload_n 1, 1) := by decide +kernel
theorem dX10_isIndex_6 : decode cX10_isIndex 6 = .ok (.if_icmp .ge 7, 3) := by decide +kernel
theorem dX10_isIndex_9 : decode cX10_isIndex 9 = .ok (.iconst 1, 1) := by decide +kernel
theorem dX10_isIndex_10 : decode cX10_isIndex 10 = .ok (.goto 4, 3) := by decide +kernel
theorem dX10_isIndex_13 : decode cX10_isIndex 13 = .ok (.iconst 0, 1) := by decide +kernel
theorem dX10_isIndex_14 : decode cX10_isIndex 14 = .ok (.ireturn, 1) := by decide +kernel
theorem dX10_otherSlot_0 : decode cX10_otherSlot 0 = .ok (.iconst 1, 1) := by decide +kernel
theorem dX10_otherSlot_1 : decode cX10_otherSlot 1 = .ok (.iload_n 0, 1) := by decide +kernel
theorem dX10_otherSlot_2 : decode cX10_otherSlot 2 = .ok (.isub, 1) := by decide +kernel
theorem dX10_otherSlot_3 : decode cX10_otherSlot 3 = .ok (.ireturn, 1) := by decide +kernel
theorem dX10_pairOf_0 : decode cX10_pairOf 0 = .ok (.iload_n 0, 1) := by decide +kernel
theorem dX10_pairOf_1 : decode cX10_pairOf 1 = .ok (.bipush 60, 2) := by decide +kernel
theorem dX10_pairOf_3 : decode cX10_pairOf 3 = .ok (.imul, 1) := by decide +kernel
theorem dX10_pairOf_4 : decode cX10_pairOf 4 = .ok (.iload_n 1, 1) := by decide +kernel
theorem dX10_pairOf_5 : decode cX10_pairOf 5 = .ok (.iadd, 1) := by decide +kernel
theorem dX10_pairOf_6 : decode cX10_pairOf 6 = .ok (.ireturn, 1) := by decide +kernel
theorem dX10_checkSlot_0 : decode cX10_checkSlot 0 = .ok (.iload_n 0, 1) := by decide +kernel
theorem dX10_checkSlot_1 : decode cX10_checkSlot 1 = .ok (.iconst 2, 1) := by decide +kernel
theorem dX10_checkSlot_2 : decode cX10_checkSlot 2 = .ok (.invokestatic 331, 3) := by decide +kernel
theorem dX10_checkSlot_5 : decode cX10_checkSlot 5 = .ok (.ifCond .ne 14, 3) := by decide +kernel
theorem dX10_checkSlot_8 : decode cX10_checkSlot 8 = .ok (.new 335, 3) := by decide +kernel
theorem dX10_checkSlot_11 : decode cX10_checkSlot 11 = .ok (.dup, 1) := by decide +kernel
theorem dX10_checkSlot_12 : decode cX10_checkSlot 12 = .ok (.ldc_w 337, 3) := by decide +kernel
theorem dX10_checkSlot_15 : decode cX10_checkSlot 15 = .ok (.invokespecial 339, 3) := by decide +kernel
theorem dX10_checkSlot_18 : decode cX10_checkSlot 18 = .ok (.athrow, 1) := by decide +kernel
theorem dX10_checkSlot_19 : decode cX10_checkSlot 19 = .ok (.return_, 1) := by decide +kernel
theorem dX10_checkStreet_0 : decode cX10_checkStreet 0 = .ok (.iload_n 0, 1) := by decide +kernel
theorem dX10_checkStreet_1 : decode cX10_checkStreet 1 = .ok (.bipush 6, 2) := by decide +kernel
theorem dX10_checkStreet_3 : decode cX10_checkStreet 3 = .ok (.invokestatic 331, 3) := by decide +kernel
theorem dX10_checkStreet_6 : decode cX10_checkStreet 6 = .ok (.ifCond .ne 14, 3) := by decide +kernel
theorem dX10_checkStreet_9 : decode cX10_checkStreet 9 = .ok (.new 335, 3) := by decide +kernel
theorem dX10_checkStreet_12 : decode cX10_checkStreet 12 = .ok (.dup, 1) := by decide +kernel
theorem dX10_checkStreet_13 : decode cX10_checkStreet 13 = .ok (.ldc_w 340, 3) := by decide +kernel
theorem dX10_checkStreet_16 : decode cX10_checkStreet 16 = .ok (.invokespecial 339, 3) := by decide +kernel
theorem dX10_checkStreet_19 : decode cX10_checkStreet 19 = .ok (.athrow, 1) := by decide +kernel
theorem dX10_checkStreet_20 : decode cX10_checkStreet 20 = .ok (.return_, 1) := by decide +kernel
theorem dX10_checkPosition_0 : decode cX10_checkPosition 0 = .ok (.iload_n 1, 1) := by decide +kernel
theorem dX10_checkPosition_1 : decode cX10_checkPosition 1 = .ok (.iconst 1, 1) := by decide +kernel
theorem dX10_checkPosition_2 : decode cX10_checkPosition 2 = .ok (.if_icmp .lt 11, 3) := by decide +kernel
theorem dX10_checkPosition_5 : decode cX10_checkPosition 5 = .ok (.iload_n 1, 1) := by decide +kernel
theorem dX10_checkPosition_6 : decode cX10_checkPosition 6 = .ok (.aload_n 0, 1) := by decide +kernel
theorem dX10_checkPosition_7 : decode cX10_checkPosition 7 = .ok (.getfield 121, 3) := by decide +kernel
theorem dX10_checkPosition_10 : decode cX10_checkPosition 10 = .ok (.if_icmp .le 14, 3) := by decide +kernel
theorem dX10_checkPosition_13 : decode cX10_checkPosition 13 = .ok (.new 335, 3) := by decide +kernel
theorem dX10_checkPosition_16 : decode cX10_checkPosition 16 = .ok (.dup, 1) := by decide +kernel
theorem dX10_checkPosition_17 : decode cX10_checkPosition 17 = .ok (.ldc_w 342, 3) := by decide +kernel
theorem dX10_checkPosition_20 : decode cX10_checkPosition 20 = .ok (.invokespecial 339, 3) := by decide +kernel
theorem dX10_checkPosition_23 : decode cX10_checkPosition 23 = .ok (.athrow, 1) := by decide +kernel
theorem dX10_checkPosition_24 : decode cX10_checkPosition 24 = .ok (.return_, 1) := by decide +kernel
theorem dX10_checkState_0 : decode cX10_checkState 0 = .ok (.iload_n 1, 1) := by decide +kernel
theorem dX10_checkState_1 : decode cX10_checkState 1 = .ok (.aload_n 0, 1) := by decide +kernel
theorem dX10_checkState_2 : decode cX10_checkState 2 = .ok (.getfield 132, 3) := by decide +kernel
theorem dX10_checkState_5 : decode cX10_checkState 5 = .ok (.invokestatic 331, 3) := by decide +kernel
theorem dX10_checkState_8 : decode cX10_checkState 8 = .ok (.ifCond .ne 14, 3) := by decide +kernel
theorem dX10_checkState_11 : decode cX10_checkState 11 = .ok (.new 335, 3) := by decide +kernel
theorem dX10_checkState_14 : decode cX10_checkState 14 = .ok (.dup, 1) := by decide +kernel
theorem dX10_checkState_15 : decode cX10_checkState 15 = .ok (.ldc_w 344, 3) := by decide +kernel
theorem dX10_checkState_18 : decode cX10_checkState 18 = .ok (.invokespecial 339, 3) := by decide +kernel
theorem dX10_checkState_21 : decode cX10_checkState 21 = .ok (.athrow, 1) := by decide +kernel
theorem dX10_checkState_22 : decode cX10_checkState 22 = .ok (.return_, 1) := by decide +kernel
theorem dX10_checkWordLength_0 : decode cX10_checkWordLength 0 = .ok (.iload_n 0, 1) := by decide +kernel
theorem dX10_checkWordLength_1 : decode cX10_checkWordLength 1 = .ok (.ifCond .lt 9, 3) := by decide +kernel
theorem dX10_checkWordLength_4 : decode cX10_checkWordLength 4 = .ok (.iload_n 0, 1) := by decide +kernel
theorem dX10_checkWordLength_5 : decode cX10_checkWordLength 5 = .ok (.bipush 20, 2) := by decide +kernel
theorem dX10_checkWordLength_7 : decode cX10_checkWordLength 7 = .ok (.if_icmp .le 14, 3) := by decide +kernel
theorem dX10_checkWordLength_10 : decode cX10_checkWordLength 10 = .ok (.new 102, 3) := by decide +kernel
theorem dX10_checkWordLength_13 : decode cX10_checkWordLength 13 = .ok (.dup, 1) := by decide +kernel
theorem dX10_checkWordLength_14 : decode cX10_checkWordLength 14 = .ok (.ldc_w 346, 3) := by decide +kernel
theorem dX10_checkWordLength_17 : decode cX10_checkWordLength 17 = .ok (.invokespecial 106, 3) := by decide +kernel
theorem dX10_checkWordLength_20 : decode cX10_checkWordLength 20 = .ok (.athrow, 1) := by decide +kernel
theorem dX10_checkWordLength_21 : decode cX10_checkWordLength 21 = .ok (.return_, 1) := by decide +kernel
theorem dX10_checkWalker_0 : decode cX10_checkWalker 0 = .ok (.iload_n 1, 1) := by decide +kernel
theorem dX10_checkWalker_1 : decode cX10_checkWalker 1 = .ok (.aload_n 0, 1) := by decide +kernel
theorem dX10_checkWalker_2 : decode cX10_checkWalker 2 = .ok (.getfield 49, 3) := by decide +kernel
theorem dX10_checkWalker_5 : decode cX10_checkWalker 5 = .ok (.getfield 135, 3) := by decide +kernel
theorem dX10_checkWalker_8 : decode cX10_checkWalker 8 = .ok (.invokestatic 331, 3) := by decide +kernel
theorem dX10_checkWalker_11 : decode cX10_checkWalker 11 = .ok (.ifCond .ne 14, 3) := by decide +kernel
theorem dX10_checkWalker_14 : decode cX10_checkWalker 14 = .ok (.new 335, 3) := by decide +kernel
theorem dX10_checkWalker_17 : decode cX10_checkWalker 17 = .ok (.dup, 1) := by decide +kernel
theorem dX10_checkWalker_18 : decode cX10_checkWalker 18 = .ok (.ldc_w 348, 3) := by decide +kernel
theorem dX10_checkWalker_21 : decode cX10_checkWalker 21 = .ok (.invokespecial 339, 3) := by decide +kernel
theorem dX10_checkWalker_24 : decode cX10_checkWalker 24 = .ok (.athrow, 1) := by decide +kernel
theorem dX10_checkWalker_25 : decode cX10_checkWalker 25 = .ok (.return_, 1) := by decide +kernel
theorem dX10_checkedPattern_0 : decode cX10_checkedPattern 0 = .ok (.iload_n 1, 1) := by decide +kernel
theorem dX10_checkedPattern_1 : decode cX10_checkedPattern 1 = .ok (.invokestatic 108, 3) := by decide +kernel
theorem dX10_checkedPattern_4 : decode cX10_checkedPattern 4 = .ok (.aload_n 0, 1) := by decide +kernel
theorem dX10_checkedPattern_5 : decode cX10_checkedPattern 5 = .ok (.getfield 49, 3) := by decide +kernel
theorem dX10_checkedPattern_8 : decode cX10_checkedPattern 8 = .ok (.iload_n 1, 1) := by decide +kernel
theorem dX10_checkedPattern_9 : decode cX10_checkedPattern 9 = .ok (.invokevirtual 124, 3) := by decide +kernel
theorem dX10_checkedPattern_12 : decode cX10_checkedPattern 12 = .ok (.areturn, 1) := by decide +kernel
theorem dX10_stateAfterInput_0 : decode cX10_stateAfterInput 0 = .ok (.iconst 0, 1) := by decide +kernel
theorem dX10_stateAfterInput_1 : decode cX10_stateAfterInput 1 = .ok (.istore_n 2, 1) := by decide +kernel
theorem dX10_stateAfterInput_2 : decode cX10_stateAfterInput 2 = .ok (.iconst 0, 1) := by decide +kernel
theorem dX10_stateAfterInput_3 : decode cX10_stateAfterInput 3 = .ok (.istore_n 3, 1) := by decide +kernel
theorem dX10_stateAfterInput_4 : decode cX10_stateAfterInput 4 = .ok (.iload_n 3, 1) := by decide +kernel
theorem dX10_stateAfterInput_5 : decode cX10_stateAfterInput 5 = .ok (.aload_n 0, 1) := by decide +kernel
theorem dX10_stateAfterInput_6 : decode cX10_stateAfterInput 6 = .ok (.getfield 36, 3) := by decide +kernel
theorem dX10_stateAfterInput_9 : decode cX10_stateAfterInput 9 = .ok (.invokevirtual 95, 3) := by decide +kernel
theorem dX10_stateAfterInput_12 : decode cX10_stateAfterInput 12 = .ok (.if_icmp .ge 23, 3) := by decide +kernel
theorem dX10_stateAfterInput_15 : decode cX10_stateAfterInput 15 = .ok (.aload_n 1, 1) := by decide +kernel
theorem dX10_stateAfterInput_16 : decode cX10_stateAfterInput 16 = .ok (.iload_n 2, 1) := by decide +kernel
theorem dX10_stateAfterInput_17 : decode cX10_stateAfterInput 17 = .ok (.aload_n 0, 1) := by decide +kernel
theorem dX10_stateAfterInput_18 : decode cX10_stateAfterInput 18 = .ok (.getfield 36, 3) := by decide +kernel
theorem dX10_stateAfterInput_21 : decode cX10_stateAfterInput 21 = .ok (.iload_n 3, 1) := by decide +kernel
theorem dX10_stateAfterInput_22 : decode cX10_stateAfterInput 22 = .ok (.invokevirtual 171, 3) := by decide +kernel
theorem dX10_stateAfterInput_25 : decode cX10_stateAfterInput 25 = .ok (.invokevirtual 243, 3) := by decide +kernel
theorem dX10_stateAfterInput_28 : decode cX10_stateAfterInput 28 = .ok (.istore_n 2, 1) := by decide +kernel
theorem dX10_stateAfterInput_29 : decode cX10_stateAfterInput 29 = .ok (.iinc 3 1, 3) := by decide +kernel
theorem dX10_stateAfterInput_32 : decode cX10_stateAfterInput 32 = .ok (.goto (-28), 3) := by decide +kernel
theorem dX10_stateAfterInput_35 : decode cX10_stateAfterInput 35 = .ok (.iload_n 2, 1) := by decide +kernel
theorem dX10_stateAfterInput_36 : decode cX10_stateAfterInput 36 = .ok (.ireturn, 1) := by decide +kernel
theorem dX10_findAcceptance_0 : decode cX10_findAcceptance 0 = .ok (.aload_n 0, 1) := by decide +kernel
theorem dX10_findAcceptance_1 : decode cX10_findAcceptance 1 = .ok (.getfield 73, 3) := by decide +kernel
theorem dX10_findAcceptance_4 : decode cX10_findAcceptance 4 = .ok (.aload_n 1, 1) := by decide +kernel
theorem dX10_findAcceptance_5 : decode cX10_findAcceptance 5 = .ok (.aload_n 1, 1) := by decide +kernel
theorem dX10_findAcceptance_6 : decode cX10_findAcceptance 6 = .ok (.iload_n 2, 1) := by decide +kernel
theorem dX10_findAcceptance_7 : decode cX10_findAcceptance 7 = .ok (.iload_n 2, 1) := by decide +kernel
theorem dX10_findAcceptance_8 : decode cX10_findAcceptance 8 = .ok (.invokestatic 305, 3) := by decide +kernel
theorem dX10_findAcceptance_11 : decode cX10_findAcceptance 11 = .ok (.iload_n 3, 1) := by decide +kernel
theorem dX10_findAcceptance_12 : decode cX10_findAcceptance 12 = .ok (.iconst 0, 1) := by decide +kernel
theorem dX10_findAcceptance_13 : decode cX10_findAcceptance 13 = .ok (.invokevirtual 288, 3) := by decide +kernel
theorem dX10_findAcceptance_16 : decode cX10_findAcceptance 16 = .ok (.ireturn, 1) := by decide +kernel
theorem dX10_findHome_0 : decode cX10_findHome 0 = .ok (.aload_n 0, 1) := by decide +kernel
theorem dX10_findHome_1 : decode cX10_findHome 1 = .ok (.aload_n 0, 1) := by decide +kernel
theorem dX10_findHome_2 : decode cX10_findHome 2 = .ok (.getfield 49, 3) := by decide +kernel
theorem dX10_findHome_5 : decode cX10_findHome 5 = .ok (.iload_n 1, 1) := by decide +kernel
theorem dX10_findHome_6 : decode cX10_findHome 6 = .ok (.invokevirtual 308, 3) := by decide +kernel
theorem dX10_findHome_9 : decode cX10_findHome 9 = .ok (.aload_n 0, 1) := by decide +kernel
theorem dX10_findHome_10 : decode cX10_findHome 10 = .ok (.getfield 49, 3) := by decide +kernel
theorem dX10_findHome_13 : decode cX10_findHome 13 = .ok (.iload_n 1, 1) := by decide +kernel
theorem dX10_findHome_14 : decode cX10_findHome 14 = .ok (.invokevirtual 168, 3) := by decide +kernel
theorem dX10_findHome_17 : decode cX10_findHome 17 = .ok (.aload_n 0, 1) := by decide +kernel
theorem dX10_findHome_18 : decode cX10_findHome 18 = .ok (.getfield 49, 3) := by decide +kernel
theorem dX10_findHome_21 : decode cX10_findHome 21 = .ok (.invokevirtual 185, 3) := by decide +kernel
theorem dX10_findHome_24 : decode cX10_findHome 24 = .ok (.invokevirtual 256, 3) := by decide +kernel
theorem dX10_findHome_27 : decode cX10_findHome 27 = .ok (.ireturn, 1) := by decide +kernel
theorem dX10_compareBoth_0 : decode cX10_compareBoth 0 = .ok (.aload_n 0, 1) := by decide +kernel
theorem dX10_compareBoth_1 : decode cX10_compareBoth 1 = .ok (.getfield 73, 3) := by decide +kernel
theorem dX10_compareBoth_4 : decode cX10_compareBoth 4 = .ok (.aload_n 0, 1) := by decide +kernel
theorem dX10_compareBoth_5 : decode cX10_compareBoth 5 = .ok (.getfield 49, 3) := by decide +kernel
theorem dX10_compareBoth_8 : decode cX10_compareBoth 8 = .ok (.iconst 0, 1) := by decide +kernel
theorem dX10_compareBoth_9 : decode cX10_compareBoth 9 = .ok (.invokevirtual 124, 3) := by decide +kernel
theorem dX10_compareBoth_12 : decode cX10_compareBoth 12 = .ok (.aload_n 0, 1) := by decide +kernel
theorem dX10_compareBoth_13 : decode cX10_compareBoth 13 = .ok (.getfield 49, 3) := by decide +kernel
theorem dX10_compareBoth_16 : decode cX10_compareBoth 16 = .ok (.iconst 1, 1) := by decide +kernel
theorem dX10_compareBoth_17 : decode cX10_compareBoth 17 = .ok (.invokevirtual 124, 3) := by decide +kernel
theorem dX10_compareBoth_20 : decode cX10_compareBoth 20 = .ok (.iconst 0, 1) := by decide +kernel
theorem dX10_compareBoth_21 : decode cX10_compareBoth 21 = .ok (.bipush 63, 2) := by decide +kernel
theorem dX10_compareBoth_23 : decode cX10_compareBoth 23 = .ok (.iload_n 1, 1) := by decide +kernel
theorem dX10_compareBoth_24 : decode cX10_compareBoth 24 = .ok (.invokevirtual 288, 3) := by decide +kernel
theorem dX10_compareBoth_27 : decode cX10_compareBoth 27 = .ok (.ireturn, 1) := by decide +kernel
theorem dX10_writeFound_0 : decode cX10_writeFound 0 = .ok (.iload_n 1, 1) := by decide +kernel
theorem dX10_writeFound_1 : decode cX10_writeFound 1 = .ok (.iconst (-1), 1) := by decide +kernel
theorem dX10_writeFound_2 : decode cX10_writeFound 2 = .ok (.if_icmp .ne 5, 3) := by decide +kernel
theorem dX10_writeFound_5 : decode cX10_writeFound 5 = .ok (.iconst (-1), 1) := by decide +kernel
theorem dX10_writeFound_6 : decode cX10_writeFound 6 = .ok (.ireturn, 1) := by decide +kernel
theorem dX10_writeFound_7 : decode cX10_writeFound 7 = .ok (.aload_n 0, 1) := by decide +kernel
theorem dX10_writeFound_8 : decode cX10_writeFound 8 = .ok (.aload_n 0, 1) := by decide +kernel
theorem dX10_writeFound_9 : decode cX10_writeFound 9 = .ok (.getfield 73, 3) := by decide +kernel
theorem dX10_writeFound_12 : decode cX10_writeFound 12 = .ok (.iload_n 1, 1) := by decide +kernel
theorem dX10_writeFound_13 : decode cX10_writeFound 13 = .ok (.invokevirtual 260, 3) := by decide +kernel
theorem dX10_writeFound_16 : decode cX10_writeFound 16 = .ok (.putfield 325, 3) := by decide +kernel
theorem dX10_writeFound_19 : decode cX10_writeFound 19 = .ok (.iload_n 1, 1) := by decide +kernel
theorem dX10_writeFound_20 : decode cX10_writeFound 20 = .ok (.istore_n 2, 1) := by decide +kernel
theorem dX10_writeFound_21 : decode cX10_writeFound 21 = .ok (.aload_n 0, 1) := by decide +kernel
theorem dX10_writeFound_22 : decode cX10_writeFound 22 = .ok (.getfield 325, 3) := by decide +kernel
theorem dX10_writeFound_25 : decode cX10_writeFound 25 = .ok (.iconst 1, 1) := by decide +kernel
theorem dX10_writeFound_26 : decode cX10_writeFound 26 = .ok (.isub, 1) := by decide +kernel
theorem dX10_writeFound_27 : decode cX10_writeFound 27 = .ok (.istore_n 3, 1) := by decide +kernel
theorem dX10_writeFound_28 : decode cX10_writeFound 28 = .ok (.iload_n 3, 1) := by decide +kernel
theorem dX10_writeFound_29 : decode cX10_writeFound 29 = .ok (.ifCond .lt 31, 3) := by decide +kernel
theorem dX10_writeFound_32 : decode cX10_writeFound 32 = .ok (.aload_n 0, 1) := by decide +kernel
theorem dX10_writeFound_33 : decode cX10_writeFound 33 = .ok (.iload_n 3, 1) := by decide +kernel
theorem dX10_writeFound_34 : decode cX10_writeFound 34 = .ok (.aload_n 0, 1) := by decide +kernel
theorem dX10_writeFound_35 : decode cX10_writeFound 35 = .ok (.getfield 73, 3) := by decide +kernel
theorem dX10_writeFound_38 : decode cX10_writeFound 38 = .ok (.iload_n 2, 1) := by decide +kernel
theorem dX10_writeFound_39 : decode cX10_writeFound 39 = .ok (.invokevirtual 350, 3) := by decide +kernel
theorem dX10_writeFound_42 : decode cX10_writeFound 42 = .ok (.invokevirtual 322, 3) := by decide +kernel
theorem dX10_writeFound_45 : decode cX10_writeFound 45 = .ok (.aload_n 0, 1) := by decide +kernel
theorem dX10_writeFound_46 : decode cX10_writeFound 46 = .ok (.getfield 73, 3) := by decide +kernel
theorem dX10_writeFound_49 : decode cX10_writeFound 49 = .ok (.iload_n 2, 1) := by decide +kernel
theorem dX10_writeFound_50 : decode cX10_writeFound 50 = .ok (.invokevirtual 353, 3) := by decide +kernel
theorem dX10_writeFound_53 : decode cX10_writeFound 53 = .ok (.istore_n 2, 1) := by decide +kernel
theorem dX10_writeFound_54 : decode cX10_writeFound 54 = .ok (.iinc 3 (-1), 3) := by decide +kernel
theorem dX10_writeFound_57 : decode cX10_writeFound 57 = .ok (.goto (-29), 3) := by decide +kernel
theorem dX10_writeFound_60 : decode cX10_writeFound 60 = .ok (.aload_n 0, 1) := by decide +kernel
theorem dX10_writeFound_61 : decode cX10_writeFound 61 = .ok (.getfield 325, 3) := by decide +kernel
theorem dX10_writeFound_64 : decode cX10_writeFound 64 = .ok (.ireturn, 1) := by decide +kernel
theorem dX10_putReportByte_0 : decode cX10_putReportByte 0 = .ok (.iload_n 1, 1) := by decide +kernel
theorem dX10_putReportByte_1 : decode cX10_putReportByte 1 = .ok (.aload_n 0, 1) := by decide +kernel
theorem dX10_putReportByte_2 : decode cX10_putReportByte 2 = .ok (.getfield 91, 3) := by decide +kernel
theorem dX10_putReportByte_5 : decode cX10_putReportByte 5 = .ok (.arraylength, 1) := by decide +kernel
theorem dX10_putReportByte_6 : decode cX10_putReportByte 6 = .ok (.invokestatic 331, 3) := by decide +kernel
theorem dX10_putReportByte_9 : decode cX10_putReportByte 9 = .ok (.ifCond .eq 13, 3) := by decide +kernel
theorem dX10_putReportByte_12 : decode cX10_putReportByte 12 = .ok (.aload_n 0, 1) := by decide +kernel
theorem dX10_putReportByte_13 : decode cX10_putReportByte 13 = .ok (.getfield 91, 3) := by decide +kernel
theorem dX10_putReportByte_16 : decode cX10_putReportByte 16 = .ok (.iload_n 1, 1) := by decide +kernel
theorem dX10_putReportByte_17 : decode cX10_putReportByte 17 = .ok (.bipush 97, 2) := by decide +kernel
theorem dX10_putReportByte_19 : decode cX10_putReportByte 19 = .ok (.iload_n 2, 1) := by decide +kernel
theorem dX10_putReportByte_20 : decode cX10_putReportByte 20 = .ok (.iadd, 1) := by decide +kernel
theorem dX10_putReportByte_21 : decode cX10_putReportByte 21 = .ok (.iastore, 1) := by decide +kernel
theorem dX10_putReportByte_22 : decode cX10_putReportByte 22 = .ok (.return_, 1) := by decide +kernel
