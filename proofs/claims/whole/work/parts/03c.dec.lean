/-! decode rows, printed -/
theorem dX11_init_0 : decode cX11_init 0 = .ok (.aload_n 0, 1) := by decide +kernel
theorem dX11_init_1 : decode cX11_init 1 = .ok (.invokespecial 1, 3) := by decide +kernel
theorem dX11_init_4 : decode cX11_init 4 = .ok (.aload_n 0, 1) := by decide +kernel
theorem dX11_init_5 : decode cX11_init 5 = .ok (.sipush 985, 3) := by decide +kernel
theorem dX11_init_8 : decode cX11_init 8 = .ok (.newarray .int, 2) := by decide +kernel
theorem dX11_init_10 : decode cX11_init 10 = .ok (.putfield 7, 3) := by decide +kernel
theorem dX11_init_13 : decode cX11_init 13 = .ok (.aload_n 0, 1) := by decide +kernel
theorem dX11_init_14 : decode cX11_init 14 = .ok (.sipush 985, 3) := by decide +kernel
theorem dX11_init_17 : decode cX11_init 17 = .ok (.newarray .int, 2) := by decide +kernel
theorem dX11_init_19 : decode cX11_init 19 = .ok (.putfield 13, 3) := by decide +kernel
theorem dX11_init_22 : decode cX11_init 22 = .ok (.aload_n 0, 1) := by decide +kernel
theorem dX11_init_23 : decode cX11_init 23 = .ok (.sipush 7880, 3) := by decide +kernel
theorem dX11_init_26 : decode cX11_init 26 = .ok (.newarray .int, 2) := by decide +kernel
theorem dX11_init_28 : decode cX11_init 28 = .ok (.putfield 16, 3) := by decide +kernel
theorem dX11_init_31 : decode cX11_init 31 = .ok (.aload_n 0, 1) := by decide +kernel
theorem dX11_init_32 : decode cX11_init 32 = .ok (.sipush 985, 3) := by decide +kernel
theorem dX11_init_35 : decode cX11_init 35 = .ok (.newarray .int, 2) := by decide +kernel
theorem dX11_init_37 : decode cX11_init 37 = .ok (.putfield 19, 3) := by decide +kernel
theorem dX11_init_40 : decode cX11_init 40 = .ok (.aload_n 0, 1) := by decide +kernel
theorem dX11_init_41 : decode cX11_init 41 = .ok (.sipush 200, 3) := by decide +kernel
theorem dX11_init_44 : decode cX11_init 44 = .ok (.newarray .int, 2) := by decide +kernel
theorem dX11_init_46 : decode cX11_init 46 = .ok (.putfield 22, 3) := by decide +kernel
theorem dX11_init_49 : decode cX11_init 49 = .ok (.aload_n 0, 1) := by decide +kernel
theorem dX11_init_50 : decode cX11_init 50 = .ok (.iconst (-1), 1) := by decide +kernel
theorem dX11_init_51 : decode cX11_init 51 = .ok (.putfield 25, 3) := by decide +kernel
theorem dX11_init_54 : decode cX11_init 54 = .ok (.aload_n 0, 1) := by decide +kernel
theorem dX11_init_55 : decode cX11_init 55 = .ok (.sipush 3600, 3) := by decide +kernel
theorem dX11_init_58 : decode cX11_init 58 = .ok (.newarray .char, 2) := by decide +kernel
theorem dX11_init_60 : decode cX11_init 60 = .ok (.putfield 29, 3) := by decide +kernel
theorem dX11_init_63 : decode cX11_init 63 = .ok (.aload_n 0, 1) := by decide +kernel
theorem dX11_init_64 : decode cX11_init 64 = .ok (.sipush 1400, 3) := by decide +kernel
theorem dX11_init_67 : decode cX11_init 67 = .ok (.newarray .int, 2) := by decide +kernel
theorem dX11_init_69 : decode cX11_init 69 = .ok (.putfield 33, 3) := by decide +kernel
theorem dX11_init_72 : decode cX11_init 72 = .ok (.aload_n 0, 1) := by decide +kernel
theorem dX11_init_73 : decode cX11_init 73 = .ok (.sipush 2800, 3) := by decide +kernel
theorem dX11_init_76 : decode cX11_init 76 = .ok (.newarray .int, 2) := by decide +kernel
theorem dX11_init_78 : decode cX11_init 78 = .ok (.putfield 36, 3) := by decide +kernel
theorem dX11_init_81 : decode cX11_init 81 = .ok (.aload_n 0, 1) := by decide +kernel
theorem dX11_init_82 : decode cX11_init 82 = .ok (.sipush 2800, 3) := by decide +kernel
theorem dX11_init_85 : decode cX11_init 85 = .ok (.newarray .int, 2) := by decide +kernel
theorem dX11_init_87 : decode cX11_init 87 = .ok (.putfield 39, 3) := by decide +kernel
theorem dX11_init_90 : decode cX11_init 90 = .ok (.aload_n 0, 1) := by decide +kernel
theorem dX11_init_91 : decode cX11_init 91 = .ok (.sipush 1400, 3) := by decide +kernel
theorem dX11_init_94 : decode cX11_init 94 = .ok (.newarray .int, 2) := by decide +kernel
theorem dX11_init_96 : decode cX11_init 96 = .ok (.putfield 42, 3) := by decide +kernel
theorem dX11_init_99 : decode cX11_init 99 = .ok (.aload_n 0, 1) := by decide +kernel
theorem dX11_init_100 : decode cX11_init 100 = .ok (.sipush 1400, 3) := by decide +kernel
theorem dX11_init_103 : decode cX11_init 103 = .ok (.newarray .int, 2) := by decide +kernel
theorem dX11_init_105 : decode cX11_init 105 = .ok (.putfield 45, 3) := by decide +kernel
theorem dX11_init_108 : decode cX11_init 108 = .ok (.aload_n 0, 1) := by decide +kernel
theorem dX11_init_109 : decode cX11_init 109 = .ok (.sipush 1400, 3) := by decide +kernel
theorem dX11_init_112 : decode cX11_init 112 = .ok (.newarray .int, 2) := by decide +kernel
theorem dX11_init_114 : decode cX11_init 114 = .ok (.putfield 48, 3) := by decide +kernel
theorem dX11_init_117 : decode cX11_init 117 = .ok (.aload_n 0, 1) := by decide +kernel
theorem dX11_init_118 : decode cX11_init 118 = .ok (.bipush 25, 2) := by decide +kernel
theorem dX11_init_120 : decode cX11_init 120 = .ok (.newarray .int, 2) := by decide +kernel
theorem dX11_init_122 : decode cX11_init 122 = .ok (.putfield 51, 3) := by decide +kernel
theorem dX11_init_125 : decode cX11_init 125 = .ok (.aload_n 0, 1) := by decide +kernel
theorem dX11_init_126 : decode cX11_init 126 = .ok (.sipush 3600, 3) := by decide +kernel
theorem dX11_init_129 : decode cX11_init 129 = .ok (.newarray .int, 2) := by decide +kernel
theorem dX11_init_131 : decode cX11_init 131 = .ok (.putfield 54, 3) := by decide +kernel
theorem dX11_init_134 : decode cX11_init 134 = .ok (.aload_n 0, 1) := by decide +kernel
theorem dX11_init_135 : decode cX11_init 135 = .ok (.sipush 3600, 3) := by decide +kernel
theorem dX11_init_138 : decode cX11_init 138 = .ok (.newarray .int, 2) := by decide +kernel
theorem dX11_init_140 : decode cX11_init 140 = .ok (.putfield 57, 3) := by decide +kernel
theorem dX11_init_143 : decode cX11_init 143 = .ok (.aload_n 0, 1) := by decide +kernel
theorem dX11_init_144 : decode cX11_init 144 = .ok (.sipush 3600, 3) := by decide +kernel
theorem dX11_init_147 : decode cX11_init 147 = .ok (.newarray .int, 2) := by decide +kernel
theorem dX11_init_149 : decode cX11_init 149 = .ok (.putfield 60, 3) := by decide +kernel
theorem dX11_init_152 : decode cX11_init 152 = .ok (.aload_n 0, 1) := by decide +kernel
theorem dX11_init_153 : decode cX11_init 153 = .ok (.sipush 3600, 3) := by decide +kernel
theorem dX11_init_156 : decode cX11_init 156 = .ok (.newarray .int, 2) := by decide +kernel
theorem dX11_init_158 : decode cX11_init 158 = .ok (.putfield 63, 3) := by decide +kernel
theorem dX11_init_161 : decode cX11_init 161 = .ok (.aload_n 0, 1) := by decide +kernel
theorem dX11_init_162 : decode cX11_init 162 = .ok (.sipush 1260, 3) := by decide +kernel
theorem dX11_init_165 : decode cX11_init 165 = .ok (.newarray .long, 2) := by decide +kernel
theorem dX11_init_167 : decode cX11_init 167 = .ok (.putfield 66, 3) := by decide +kernel
theorem dX11_init_170 : decode cX11_init 170 = .ok (.aload_n 0, 1) := by decide +kernel
theorem dX11_init_171 : decode cX11_init 171 = .ok (.sipush 3600, 3) := by decide +kernel
theorem dX11_init_174 : decode cX11_init 174 = .ok (.newarray .boolean, 2) := by decide +kernel
theorem dX11_init_176 : decode cX11_init 176 = .ok (.putfield 70, 3) := by decide +kernel
theorem dX11_init_179 : decode cX11_init 179 = .ok (.aload_n 0, 1) := by decide +kernel
theorem dX11_init_180 : decode cX11_init 180 = .ok (.sipush 3600, 3) := by decide +kernel
theorem dX11_init_183 : decode cX11_init 183 = .ok (.newarray .int, 2) := by decide +kernel
theorem dX11_init_185 : decode cX11_init 185 = .ok (.putfield 74, 3) := by decide +kernel
theorem dX11_init_188 : decode cX11_init 188 = .ok (.iconst 0, 1) := by decide +kernel
theorem dX11_init_189 : decode cX11_init 189 = .ok (.istore_n 1, 1) := by decide +kernel
theorem dX11_init_190 : decode cX11_init 190 = .ok (.iload_n 1, 1) := by decide +kernel
theorem dX11_init_191 : decode cX11_init 191 = .ok (.bipush 12, 2) := by decide +kernel
theorem dX11_init_193 : decode cX11_init 193 = .ok (.if_icmp .ge 20, 3) := by decide +kernel
theorem dX11_init_196 : decode cX11_init 196 = .ok (.aload_n 0, 1) := by decide +kernel
theorem dX11_init_197 : decode cX11_init 197 = .ok (.getfield 7, 3) := by decide +kernel
theorem dX11_init_200 : decode cX11_init 200 = .ok (.sipush 971, 3) := by decide +kernel
theorem dX11_init_203 : decode cX11_init 203 = .ok (.iload_n 1, 1) := by decide +kernel
theorem dX11_init_204 : decode cX11_init 204 = .ok (.iadd, 1) := by decide +kernel
theorem dX11_init_205 : decode cX11_init 205 = .ok (.iconst 1, 1) := by decide +kernel
theorem dX11_init_206 : decode cX11_init 206 = .ok (.iastore, 1) := by decide +kernel
theorem dX11_init_207 : decode cX11_init 207 = .ok (.iinc 1 1, 3) := by decide +kernel
theorem dX11_init_210 : decode cX11_init 210 = .ok (.goto (-20), 3) := by decide +kernel
theorem dX11_init_213 : decode cX11_init 213 = .ok (.aload_n 0, 1) := by decide +kernel
theorem dX11_init_214 : decode cX11_init 214 = .ok (.ldc 77, 2) := by decide +kernel
theorem dX11_init_216 : decode cX11_init 216 = .ok (.invokevirtual 79, 3) := by decide +kernel
theorem dX11_init_219 : decode cX11_init 219 = .ok (.aload_n 0, 1) := by decide +kernel
theorem dX11_init_220 : decode cX11_init 220 = .ok (.iconst 0, 1) := by decide +kernel
theorem dX11_init_221 : decode cX11_init 221 = .ok (.invokevirtual 83, 3) := by decide +kernel
theorem dX11_init_224 : decode cX11_init 224 = .ok (.pop, 1) := by decide +kernel
theorem dX11_init_225 : decode cX11_init 225 = .ok (.aload_n 0, 1) := by decide +kernel
theorem dX11_init_226 : decode cX11_init 226 = .ok (.ldc 87, 2) := by decide +kernel
theorem dX11_init_228 : decode cX11_init 228 = .ok (.invokevirtual 79, 3) := by decide +kernel
theorem dX11_init_231 : decode cX11_init 231 = .ok (.aload_n 0, 1) := by decide +kernel
theorem dX11_init_232 : decode cX11_init 232 = .ok (.iconst 1, 1) := by decide +kernel
theorem dX11_init_233 : decode cX11_init 233 = .ok (.invokevirtual 83, 3) := by decide +kernel
theorem dX11_init_236 : decode cX11_init 236 = .ok (.pop, 1) := by decide +kernel
theorem dX11_init_237 : decode cX11_init 237 = .ok (.aload_n 0, 1) := by decide +kernel
theorem dX11_init_238 : decode cX11_init 238 = .ok (.iconst 0, 1) := by decide +kernel
theorem dX11_init_239 : decode cX11_init 239 = .ok (.putfield 89, 3) := by decide +kernel
theorem dX11_init_242 : decode cX11_init 242 = .ok (.aload_n 0, 1) := by decide +kernel
theorem dX11_init_243 : decode cX11_init 243 = .ok (.iconst 0, 1) := by decide +kernel
theorem dX11_init_244 : decode cX11_init 244 = .ok (.putfield 92, 3) := by decide +kernel
theorem dX11_init_247 : decode cX11_init 247 = .ok (.aload_n 0, 1) := by decide +kernel
theorem dX11_init_248 : decode cX11_init 248 = .ok (.iconst (-1), 1) := by decide +kernel
theorem dX11_init_249 : decode cX11_init 249 = .ok (.putfield 25, 3) := by decide +kernel
theorem dX11_init_252 : decode cX11_init 252 = .ok (.aload_n 0, 1) := by decide +kernel
theorem dX11_init_253 : decode cX11_init 253 = .ok (.iconst 0, 1) := by decide +kernel
theorem dX11_init_254 : decode cX11_init 254 = .ok (.putfield 95, 3) := by decide +kernel
theorem dX11_init_257 : decode cX11_init 257 = .ok (.return_, 1) := by decide +kernel
theorem dX11_type_0 : decode cX11_type 0 = .ok (.aload_n 0, 1) := by decide +kernel
theorem dX11_type_1 : decode cX11_type 1 = .ok (.iconst 0, 1) := by decide +kernel
theorem dX11_type_2 : decode cX11_type 2 = .ok (.putfield 89, 3) := by decide +kernel
theorem dX11_type_5 : decode cX11_type 5 = .ok (.iconst 0, 1) := by decide +kernel
theorem dX11_type_6 : decode cX11_type 6 = .ok (.istore_n 2, 1) := by decide +kernel
theorem dX11_type_7 : decode cX11_type 7 = .ok (.iload_n 2, 1) := by decide +kernel
theorem dX11_type_8 : decode cX11_type 8 = .ok (.aload_n 1, 1) := by decide +kernel
theorem dX11_type_9 : decode cX11_type 9 = .ok (.invokevirtual 98, 3) := by decide +kernel
theorem dX11_type_12 : decode cX11_type 12 = .ok (.if_icmp .ge 33, 3) := by decide +kernel
theorem dX11_type_15 : decode cX11_type 15 = .ok (.aload_n 0, 1) := by decide +kernel
theorem dX11_type_16 : decode cX11_type 16 = .ok (.getfield 22, 3) := by decide +kernel
theorem dX11_type_19 : decode cX11_type 19 = .ok (.aload_n 0, 1) := by decide +kernel
theorem dX11_type_20 : decode cX11_type 20 = .ok (.getfield 89, 3) := by decide +kernel
theorem dX11_type_23 : decode cX11_type 23 = .ok (.aload_n 1, 1) := by decide +kernel
theorem dX11_type_24 : decode cX11_type 24 = .ok (.iload_n 2, 1) := by decide +kernel
theorem dX11_type_25 : decode cX11_type 25 = .ok (.invokevirtual 104, 3) := by decide +kernel
theorem dX11_type_28 : decode cX11_type 28 = .ok (.iastore, 1) := by decide +kernel
theorem dX11_type_29 : decode cX11_type 29 = .ok (.aload_n 0, 1) := by decide +kernel
theorem dX11_type_30 : decode cX11_type 30 = .ok (.dup, 1) := by decide +kernel
theorem dX11_type_31 : decode cX11_type 31 = .ok (.getfield 89, 3) := by decide +kernel
theorem dX11_type_34 : decode cX11_type 34 = .ok (.iconst 1, 1) := by decide +kernel
theorem dX11_type_35 : decode cX11_type 35 = .ok (.iadd, 1) := by decide +kernel
theorem dX11_type_36 : decode cX11_type 36 = .ok (.putfield 89, 3) := by decide +kernel
theorem dX11_type_39 : decode cX11_type 39 = .ok (.iinc 2 1, 3) := by decide +kernel
theorem dX11_type_42 : decode cX11_type 42 = .ok (.goto (-35), 3) := by decide +kernel
theorem dX11_type_45 : decode cX11_type 45 = .ok (.return_, 1) := by decide +kernel
theorem dX11_thrown_0 : decode cX11_thrown 0 = .ok (.aload_n 0, 1) := by decide +kernel
theorem dX11_thrown_1 : decode cX11_thrown 1 = .ok (.getfield 95, 3) := by decide +kernel
theorem dX11_thrown_4 : decode cX11_thrown 4 = .ok (.ireturn, 1) := by decide +kernel
theorem dX11_in_0 : decode cX11_in 0 = .ok (.iload_n 0, 1) := by decide +kernel
theorem dX11_in_1 : decode cX11_in 1 = .ok (.iload_n 1, 1) := by decide +kernel
theorem dX11_in_2 : decode cX11_in 2 = .ok (.if_icmp .lt 12, 3) := by decide +kernel
theorem dX11_in_5 : decode cX11_in 5 = .ok (.iload_n 0, 1) := by decide +kernel
theorem dX11_in_6 : decode cX11_in 6 = .ok (.iload_n 2, 1) := by decide +kernel
theorem dX11_in_7 : decode cX11_in 7 = .ok (.if_icmp .gt 7, 3) := by decide +kernel
theorem dX11_in_10 : decode cX11_in 10 = .ok (.iconst 1, 1) := by decide +kernel
theorem dX11_in_11 : decode cX11_in 11 = .ok (.goto 4, 3) := by decide +kernel
theorem dX11_in_14 : decode cX11_in 14 = .ok (.iconst 0, 1) := by decide +kernel
theorem dX11_in_15 : decode cX11_in 15 = .ok (.ireturn, 1) := by decide +kernel
theorem dX11_throwsOne_0 : decode cX11_throwsOne 0 = .ok (.aload_n 0, 1) := by decide +kernel
theorem dX11_throwsOne_1 : decode cX11_throwsOne 1 = .ok (.iload_n 1, 1) := by decide +kernel
theorem dX11_throwsOne_2 : decode cX11_throwsOne 2 = .ok (.ifCond .eq 7, 3) := by decide +kernel
theorem dX11_throwsOne_5 : decode cX11_throwsOne 5 = .ok (.iconst 1, 1) := by decide +kernel
theorem dX11_throwsOne_6 : decode cX11_throwsOne 6 = .ok (.goto 4, 3) := by decide +kernel
theorem dX11_throwsOne_9 : decode cX11_throwsOne 9 = .ok (.iconst 0, 1) := by decide +kernel
theorem dX11_throwsOne_10 : decode cX11_throwsOne 10 = .ok (.putfield 95, 3) := by decide +kernel
theorem dX11_throwsOne_13 : decode cX11_throwsOne 13 = .ok (.iload_n 1, 1) := by decide +kernel
theorem dX11_throwsOne_14 : decode cX11_throwsOne 14 = .ok (.ireturn, 1) := by decide +kernel
theorem dX11_throwsOne__0 : decode cX11_throwsOne_ 0 = .ok (.aload_n 0, 1) := by decide +kernel
theorem dX11_throwsOne__1 : decode cX11_throwsOne_ 1 = .ok (.iload_n 1, 1) := by decide +kernel
theorem dX11_throwsOne__2 : decode cX11_throwsOne_ 2 = .ok (.ifCond .eq 7, 3) := by decide +kernel
theorem dX11_throwsOne__5 : decode cX11_throwsOne_ 5 = .ok (.iconst 1, 1) := by decide +kernel
theorem dX11_throwsOne__6 : decode cX11_throwsOne_ 6 = .ok (.goto 12, 3) := by decide +kernel
theorem dX11_throwsOne__9 : decode cX11_throwsOne_ 9 = .ok (.iload_n 2, 1) := by decide +kernel
theorem dX11_throwsOne__10 : decode cX11_throwsOne_ 10 = .ok (.ifCond .eq 7, 3) := by decide +kernel
theorem dX11_throwsOne__13 : decode cX11_throwsOne_ 13 = .ok (.iconst 2, 1) := by decide +kernel
theorem dX11_throwsOne__14 : decode cX11_throwsOne_ 14 = .ok (.goto 4, 3) := by decide +kernel
theorem dX11_throwsOne__17 : decode cX11_throwsOne_ 17 = .ok (.iconst 0, 1) := by decide +kernel
theorem dX11_throwsOne__18 : decode cX11_throwsOne_ 18 = .ok (.putfield 95, 3) := by decide +kernel
theorem dX11_throwsOne__21 : decode cX11_throwsOne_ 21 = .ok (.iload_n 1, 1) := by decide +kernel
theorem dX11_throwsOne__22 : decode cX11_throwsOne_ 22 = .ok (.ifCond .ne 7, 3) := by decide +kernel
theorem dX11_throwsOne__25 : decode cX11_throwsOne_ 25 = .ok (.iload_n 2, 1) := by decide +kernel
theorem dX11_throwsOne__26 : decode cX11_throwsOne_ 26 = .ok (.ifCond .eq 7, 3) := by decide +kernel
theorem dX11_throwsOne__29 : decode cX11_throwsOne_ 29 = .ok (.iconst 1, 1) := by decide +kernel
theorem dX11_throwsOne__30 : decode cX11_throwsOne_ 30 = .ok (.goto 4, 3) := by decide +kernel
theorem dX11_throwsOne__33 : decode cX11_throwsOne_ 33 = .ok (.iconst 0, 1) := by decide +kernel
theorem dX11_throwsOne__34 : decode cX11_throwsOne_ 34 = .ok (.ireturn, 1) := by decide +kernel
theorem dX11_isSlot_0 : decode cX11_isSlot 0 = .ok (.iload_n 0, 1) := by decide +kernel
theorem dX11_isSlot_1 : decode cX11_isSlot 1 = .ok (.ifCond .eq 8, 3) := by decide +kernel
theorem dX11_isSlot_4 : decode cX11_isSlot 4 = .ok (.iload_n 0, 1) := by decide +kernel
theorem dX11_isSlot_5 : decode cX11_isSlot 5 = .ok (.iconst 1, 1) := by decide +kernel
theorem dX11_isSlot_6 : decode cX11_isSlot 6 = .ok (.if_icmp .ne 7, 3) := by decide +kernel
theorem dX11_isSlot_9 : decode cX11_isSlot 9 = .ok (.iconst 1, 1) := by decide +kernel
theorem dX11_isSlot_10 : decode cX11_isSlot 10 = .ok (.goto 4, 3) := by decide +kernel
theorem dX11_isSlot_13 : decode cX11_isSlot 13 = .ok (.iconst 0, 1) := by decide +kernel
theorem dX11_isSlot_14 : decode cX11_isSlot 14 = .ok (.ireturn, 1) := by decide +kernel
theorem dX11_isStreet_0 : decode cX11_isStreet 0 = .ok (.iload_n 0, 1) := by decide +kernel
theorem dX11_isStreet_1 : decode cX11_isStreet 1 = .ok (.iconst 0, 1) := by decide +kernel
theorem dX11_isStreet_2 : decode cX11_isStreet 2 = .ok (.iconst 5, 1) := by decide +kernel
theorem dX11_isStreet_3 : decode cX11_isStreet 3 = .ok (.invokestatic 108, 3) := by decide +kernel
theorem dX11_isStreet_6 : decode cX11_isStreet 6 = .ok (.ireturn, 1) := by decide +kernel
theorem dX11_of_0 : decode cX11_of 0 = .ok (.aload_n 0, 1) := by decide +kernel
theorem dX11_of_1 : decode cX11_of 1 = .ok (.getfield 7, 3) := by decide +kernel
theorem dX11_of_4 : decode cX11_of 4 = .ok (.sipush 476, 3) := by decide +kernel
theorem dX11_of_7 : decode cX11_of 7 = .ok (.iload_n 1, 1) := by decide +kernel
theorem dX11_of_8 : decode cX11_of 8 = .ok (.imul, 1) := by decide +kernel
theorem dX11_of_9 : decode cX11_of 9 = .ok (.iload_n 2, 1) := by decide +kernel
theorem dX11_of_10 : decode cX11_of 10 = .ok (.iadd, 1) := by decide +kernel
theorem dX11_of_11 : decode cX11_of 11 = .ok (.iaload, 1) := by decide +kernel
theorem dX11_of_12 : decode cX11_of 12 = .ok (.ireturn, 1) := by decide +kernel
theorem dX11_to_0 : decode cX11_to 0 = .ok (.aload_n 0, 1) := by decide +kernel
theorem dX11_to_1 : decode cX11_to 1 = .ok (.getfield 7, 3) := by decide +kernel
theorem dX11_to_4 : decode cX11_to 4 = .ok (.sipush 476, 3) := by decide +kernel
theorem dX11_to_7 : decode cX11_to 7 = .ok (.iload_n 1, 1) := by decide +kernel
theorem dX11_to_8 : decode cX11_to 8 = .ok (.imul, 1) := by decide +kernel
theorem dX11_to_9 : decode cX11_to 9 = .ok (.iload_n 2, 1) := by decide +kernel
theorem dX11_to_10 : decode cX11_to 10 = .ok (.iadd, 1) := by decide +kernel
theorem dX11_to_11 : decode cX11_to 11 = .ok (.iload_n 3, 1) := by decide +kernel
theorem dX11_to_12 : decode cX11_to 12 = .ok (.iastore, 1) := by decide +kernel
theorem dX11_to_13 : decode cX11_to 13 = .ok (.return_, 1) := by decide +kernel
theorem dX11_isPosition_0 : decode cX11_isPosition 0 = .ok (.iload_n 1, 1) := by decide +kernel
theorem dX11_isPosition_1 : decode cX11_isPosition 1 = .ok (.invokestatic 112, 3) := by decide +kernel
theorem dX11_isPosition_4 : decode cX11_isPosition 4 = .ok (.ifCond .eq 21, 3) := by decide +kernel
theorem dX11_isPosition_7 : decode cX11_isPosition 7 = .ok (.iload_n 2, 1) := by decide +kernel
theorem dX11_isPosition_8 : decode cX11_isPosition 8 = .ok (.iconst 1, 1) := by decide +kernel
theorem dX11_isPosition_9 : decode cX11_isPosition 9 = .ok (.aload_n 0, 1) := by decide +kernel
theorem dX11_isPosition_10 : decode cX11_isPosition 10 = .ok (.iload_n 1, 1) := by decide +kernel
theorem dX11_isPosition_11 : decode cX11_isPosition 11 = .ok (.iconst 0, 1) := by decide +kernel
theorem dX11_isPosition_12 : decode cX11_isPosition 12 = .ok (.invokevirtual 115, 3) := by decide +kernel
theorem dX11_isPosition_15 : decode cX11_isPosition 15 = .ok (.invokestatic 108, 3) := by decide +kernel
theorem dX11_isPosition_18 : decode cX11_isPosition 18 = .ok (.ifCond .eq 7, 3) := by decide +kernel
theorem dX11_isPosition_21 : decode cX11_isPosition 21 = .ok (.iconst 1, 1) := by decide +kernel
theorem dX11_isPosition_22 : decode cX11_isPosition 22 = .ok (.goto 4, 3) := by decide +kernel
theorem dX11_isPosition_25 : decode cX11_isPosition 25 = .ok (.iconst 0, 1) := by decide +kernel
theorem dX11_isPosition_26 : decode cX11_isPosition 26 = .ok (.ireturn, 1) := by decide +kernel
theorem dX11_isState_0 : decode cX11_isState 0 = .ok (.iload_n 1, 1) := by decide +kernel
theorem dX11_isState_1 : decode cX11_isState 1 = .ok (.invokestatic 112, 3) := by decide +kernel
theorem dX11_isState_4 : decode cX11_isState 4 = .ok (.ifCond .eq 23, 3) := by decide +kernel
theorem dX11_isState_7 : decode cX11_isState 7 = .ok (.iload_n 2, 1) := by decide +kernel
theorem dX11_isState_8 : decode cX11_isState 8 = .ok (.iconst 0, 1) := by decide +kernel
theorem dX11_isState_9 : decode cX11_isState 9 = .ok (.aload_n 0, 1) := by decide +kernel
theorem dX11_isState_10 : decode cX11_isState 10 = .ok (.iload_n 1, 1) := by decide +kernel
theorem dX11_isState_11 : decode cX11_isState 11 = .ok (.iconst 5, 1) := by decide +kernel
theorem dX11_isState_12 : decode cX11_isState 12 = .ok (.invokevirtual 115, 3) := by decide +kernel
theorem dX11_isState_15 : decode cX11_isState 15 = .ok (.iconst 1, 1) := by decide +kernel
theorem dX11_isState_16 : decode cX11_isState 16 = .ok (.isub, 1) := by decide +kernel
theorem dX11_isState_17 : decode cX11_isState 17 = .ok (.invokestatic 108, 3) := by decide +kernel
theorem dX11_isState_20 : decode cX11_isState 20 = .ok (.ifCond .eq 7, 3) := by decide +kernel
theorem dX11_isState_23 : decode cX11_isState 23 = .ok (.iconst 1, 1) := by decide +kernel
theorem dX11_isState_24 : decode cX11_isState 24 = .ok (.goto 4, 3) := by decide +kernel
theorem dX11_isState_27 : decode cX11_isState 27 = .ok (.iconst 0, 1) := by decide +kernel
theorem dX11_isState_28 : decode cX11_isState 28 = .ok (.ireturn, 1) := by decide +kernel
theorem dX11_isWalker_0 : decode cX11_isWalker 0 = .ok (.iload_n 1, 1) := by decide +kernel
theorem dX11_isWalker_1 : decode cX11_isWalker 1 = .ok (.iconst 0, 1) := by decide +kernel
theorem dX11_isWalker_2 : decode cX11_isWalker 2 = .ok (.aload_n 0, 1) := by decide +kernel
theorem dX11_isWalker_3 : decode cX11_isWalker 3 = .ok (.getfield 7, 3) := by decide +kernel
theorem dX11_isWalker_6 : decode cX11_isWalker 6 = .ok (.sipush 952, 3) := by decide +kernel
theorem dX11_isWalker_9 : decode cX11_isWalker 9 = .ok (.iaload, 1) := by decide +kernel
theorem dX11_isWalker_10 : decode cX11_isWalker 10 = .ok (.iconst 1, 1) := by decide +kernel
theorem dX11_isWalker_11 : decode cX11_isWalker 11 = .ok (.isub, 1) := by decide +kernel
theorem dX11_isWalker_12 : decode cX11_isWalker 12 = .ok (.invokestatic 108, 3) := by decide +kernel
theorem dX11_isWalker_15 : decode cX11_isWalker 15 = .ok (.ireturn, 1) := by decide +kernel
theorem dX11_walkerOf_0 : decode cX11_walkerOf 0 = .ok (.aload_n 0, 1) := by decide +kernel
theorem dX11_walkerOf_1 : decode cX11_walkerOf 1 = .ok (.getfield 7, 3) := by decide +kernel
theorem dX11_walkerOf_4 : decode cX11_walkerOf 4 = .ok (.sipush 953, 3) := by decide +kernel
theorem dX11_walkerOf_7 : decode cX11_walkerOf 7 = .ok (.iconst 3, 1) := by decide +kernel
theorem dX11_walkerOf_8 : decode cX11_walkerOf 8 = .ok (.iload_n 1, 1) := by decide +kernel
theorem dX11_walkerOf_9 : decode cX11_walkerOf 9 = .ok (.imul, 1) := by decide +kernel
theorem dX11_walkerOf_10 : decode cX11_walkerOf 10 = .ok (.iadd, 1) := by decide +kernel
theorem dX11_walkerOf_11 : decode cX11_walkerOf 11 = .ok (.iload_n 2, 1) := by decide +kernel
theorem dX11_walkerOf_12 : decode cX11_walkerOf 12 = .ok (.iadd, 1) := by decide +kernel
theorem dX11_walkerOf_13 : decode cX11_walkerOf 13 = .ok (.iaload, 1) := by decide +kernel
theorem dX11_walkerOf_14 : decode cX11_walkerOf 14 = .ok (.ireturn, 1) := by decide +kernel
theorem dX11_goes_0 : decode cX11_goes 0 = .ok (.aload_n 0, 1) := by decide +kernel
theorem dX11_goes_1 : decode cX11_goes 1 = .ok (.iload_n 1, 1) := by decide +kernel
theorem dX11_goes_2 : decode cX11_goes 2 = .ok (.bipush 116, 2) := by decide +kernel
theorem dX11_goes_4 : decode cX11_goes 4 = .ok (.bipush 6, 2) := by decide +kernel
theorem dX11_goes_6 : decode cX11_goes 6 = .ok (.iload_n 2, 1) := by decide +kernel
theorem dX11_goes_7 : decode cX11_goes 7 = .ok (.imul, 1) := by decide +kernel
theorem dX11_goes_8 : decode cX11_goes 8 = .ok (.iadd, 1) := by decide +kernel
theorem dX11_goes_9 : decode cX11_goes 9 = .ok (.iload_n 3, 1) := by decide +kernel
theorem dX11_goes_10 : decode cX11_goes 10 = .ok (.iadd, 1) := by decide +kernel
theorem dX11_goes_11 : decode cX11_goes 11 = .ok (.invokevirtual 115, 3) := by decide +kernel
theorem dX11_goes_14 : decode cX11_goes 14 = .ok (.ireturn, 1) := by decide +kernel
theorem dX11_accepts_0 : decode cX11_accepts 0 = .ok (.aload_n 0, 1) := by decide +kernel
theorem dX11_accepts_1 : decode cX11_accepts 1 = .ok (.iload_n 1, 1) := by decide +kernel
theorem dX11_accepts_2 : decode cX11_accepts 2 = .ok (.bipush 56, 2) := by decide +kernel
theorem dX11_accepts_4 : decode cX11_accepts 4 = .ok (.iload_n 2, 1) := by decide +kernel
theorem dX11_accepts_5 : decode cX11_accepts 5 = .ok (.iadd, 1) := by decide +kernel
theorem dX11_accepts_6 : decode cX11_accepts 6 = .ok (.invokevirtual 115, 3) := by decide +kernel
theorem dX11_accepts_9 : decode cX11_accepts 9 = .ok (.istore_n 3, 1) := by decide +kernel
theorem dX11_accepts_10 : decode cX11_accepts 10 = .ok (.iload_n 3, 1) := by decide +kernel
theorem dX11_accepts_11 : decode cX11_accepts 11 = .ok (.aload_n 0, 1) := by decide +kernel
theorem dX11_accepts_12 : decode cX11_accepts 12 = .ok (.iload_n 1, 1) := by decide +kernel
theorem dX11_accepts_13 : decode cX11_accepts 13 = .ok (.iconst 3, 1) := by decide +kernel
theorem dX11_accepts_14 : decode cX11_accepts 14 = .ok (.invokevirtual 115, 3) := by decide +kernel
theorem dX11_accepts_17 : decode cX11_accepts 17 = .ok (.iand, 1) := by decide +kernel
theorem dX11_accepts_18 : decode cX11_accepts 18 = .ok (.ifCond .ne 20, 3) := by decide +kernel
theorem dX11_accepts_21 : decode cX11_accepts 21 = .ok (.iload_n 3, 1) := by decide +kernel
theorem dX11_accepts_22 : decode cX11_accepts 22 = .ok (.iconst 1, 1) := by decide +kernel
theorem dX11_accepts_23 : decode cX11_accepts 23 = .ok (.iand, 1) := by decide +kernel
theorem dX11_accepts_24 : decode cX11_accepts 24 = .ok (.iconst 1, 1) := by decide +kernel
theorem dX11_accepts_25 : decode cX11_accepts 25 = .ok (.if_icmp .ne 17, 3) := by decide +kernel
theorem dX11_accepts_28 : decode cX11_accepts 28 = .ok (.aload_n 0, 1) := by decide +kernel
theorem dX11_accepts_29 : decode cX11_accepts 29 = .ok (.iload_n 1, 1) := by decide +kernel
theorem dX11_accepts_30 : decode cX11_accepts 30 = .ok (.iconst 1, 1) := by decide +kernel
theorem dX11_accepts_31 : decode cX11_accepts 31 = .ok (.invokevirtual 115, 3) := by decide +kernel
theorem dX11_accepts_34 : decode cX11_accepts 34 = .ok (.iconst 1, 1) := by decide +kernel
theorem dX11_accepts_35 : decode cX11_accepts 35 = .ok (.if_icmp .ne 7, 3) := by decide +kernel
theorem dX11_accepts_38 : decode cX11_accepts 38 = .ok (.iconst 1, 1) := by decide +kernel
theorem dX11_accepts_39 : decode cX11_accepts 39 = .ok (.goto 4, 3) := by decide +kernel
theorem dX11_accepts_42 : decode cX11_accepts 42 = .ok (.iconst 0, 1) := by decide +kernel
theorem dX11_accepts_43 : decode cX11_accepts 43 = .ok (.ireturn, 1) := by decide +kernel
theorem dX11_bits_0 : decode cX11_bits 0 = .ok (.iconst 0, 1) := by decide +kernel
theorem dX11_bits_1 : decode cX11_bits 1 = .ok (.istore_n 1, 1) := by decide +kernel
theorem dX11_bits_2 : decode cX11_bits 2 = .ok (.iload_n 0, 1) := by decide +kernel
theorem dX11_bits_3 : decode cX11_bits 3 = .ok (.istore_n 2, 1) := by decide +kernel
theorem dX11_bits_4 : decode cX11_bits 4 = .ok (.iload_n 2, 1) := by decide +kernel
theorem dX11_bits_5 : decode cX11_bits 5 = .ok (.ifCond .le 16, 3) := by decide +kernel
theorem dX11_bits_8 : decode cX11_bits 8 = .ok (.iload_n 1, 1) := by decide +kernel
theorem dX11_bits_9 : decode cX11_bits 9 = .ok (.iload_n 2, 1) := by decide +kernel
theorem dX11_bits_10 : decode cX11_bits 10 = .ok (.iconst 2, 1) := by decide +kernel
theorem dX11_bits_11 : decode cX11_bits 11 = .ok (.irem, 1) := by decide +kernel
theorem dX11_bits_12 : decode cX11_bits 12 = .ok (.iadd, 1) := by decide +kernel
theorem dX11_bits_13 : decode cX11_bits 13 = .ok (.istore_n 1, 1) := by decide +kernel
theorem dX11_bits_14 : decode cX11_bits 14 = .ok (.iload_n 2, 1) := by decide +kernel
theorem dX11_bits_15 : decode cX11_bits 15 = .ok (.iconst 2, 1) := by decide +kernel
theorem dX11_bits_16 : decode cX11_bits 16 = .ok (.idiv, 1) := by decide +kernel
theorem dX11_bits_17 : decode cX11_bits 17 = .ok (.istore_n 2, 1) := by decide +kernel
theorem dX11_bits_18 : decode cX11_bits 18 = .ok (.goto (-14), 3) := by decide +kernel
theorem dX11_bits_21 : decode cX11_bits 21 = .ok (.iload_n 1, 1) := by decide +kernel
theorem dX11_bits_22 : decode cX11_bits 22 = .ok (.ireturn, 1) := by decide +kernel
theorem dX11_node_0 : decode cX11_node 0 = .ok (.aload_n 0, 1) := by decide +kernel
theorem dX11_node_1 : decode cX11_node 1 = .ok (.getfield 33, 3) := by decide +kernel
theorem dX11_node_4 : decode cX11_node 4 = .ok (.aload_n 0, 1) := by decide +kernel
theorem dX11_node_5 : decode cX11_node 5 = .ok (.getfield 119, 3) := by decide +kernel
theorem dX11_node_8 : decode cX11_node 8 = .ok (.iconst (-1), 1) := by decide +kernel
theorem dX11_node_9 : decode cX11_node 9 = .ok (.iastore, 1) := by decide +kernel
theorem dX11_node_10 : decode cX11_node 10 = .ok (.aload_n 0, 1) := by decide +kernel
theorem dX11_node_11 : decode cX11_node 11 = .ok (.getfield 42, 3) := by decide +kernel
theorem dX11_node_14 : decode cX11_node 14 = .ok (.aload_n 0, 1) := by decide +kernel
theorem dX11_node_15 : decode cX11_node 15 = .ok (.getfield 119, 3) := by decide +kernel
theorem dX11_node_18 : decode cX11_node 18 = .ok (.iconst 0, 1) := by decide +kernel
theorem dX11_node_19 : decode cX11_node 19 = .ok (.iastore, 1) := by decide +kernel
theorem dX11_node_20 : decode cX11_node 20 = .ok (.aload_n 0, 1) := by decide +kernel
theorem dX11_node_21 : decode cX11_node 21 = .ok (.getfield 45, 3) := by decide +kernel
theorem dX11_node_24 : decode cX11_node 24 = .ok (.aload_n 0, 1) := by decide +kernel
theorem dX11_node_25 : decode cX11_node 25 = .ok (.getfield 119, 3) := by decide +kernel
theorem dX11_node_28 : decode cX11_node 28 = .ok (.iconst 0, 1) := by decide +kernel
theorem dX11_node_29 : decode cX11_node 29 = .ok (.iastore, 1) := by decide +kernel
theorem dX11_node_30 : decode cX11_node 30 = .ok (.aload_n 0, 1) := by decide +kernel
theorem dX11_node_31 : decode cX11_node 31 = .ok (.dup, 1) := by decide +kernel
theorem dX11_node_32 : decode cX11_node 32 = .ok (.getfield 119, 3) := by decide +kernel
theorem dX11_node_35 : decode cX11_node 35 = .ok (.iconst 1, 1) := by decide +kernel
theorem dX11_node_36 : decode cX11_node 36 = .ok (.iadd, 1) := by decide +kernel
theorem dX11_node_37 : decode cX11_node 37 = .ok (.putfield 119, 3) := by decide +kernel
theorem dX11_node_40 : decode cX11_node 40 = .ok (.aload_n 0, 1) := by decide +kernel
theorem dX11_node_41 : decode cX11_node 41 = .ok (.getfield 119, 3) := by decide +kernel
theorem dX11_node_44 : decode cX11_node 44 = .ok (.iconst 1, 1) := by decide +kernel
theorem dX11_node_45 : decode cX11_node 45 = .ok (.isub, 1) := by decide +kernel
theorem dX11_node_46 : decode cX11_node 46 = .ok (.ireturn, 1) := by decide +kernel
theorem dX11_edge_0 : decode cX11_edge 0 = .ok (.aload_n 0, 1) := by decide +kernel
theorem dX11_edge_1 : decode cX11_edge 1 = .ok (.getfield 39, 3) := by decide +kernel
theorem dX11_edge_4 : decode cX11_edge 4 = .ok (.aload_n 0, 1) := by decide +kernel
theorem dX11_edge_5 : decode cX11_edge 5 = .ok (.getfield 122, 3) := by decide +kernel
theorem dX11_edge_8 : decode cX11_edge 8 = .ok (.iload_n 2, 1) := by decide +kernel
theorem dX11_edge_9 : decode cX11_edge 9 = .ok (.iastore, 1) := by decide +kernel
theorem dX11_edge_10 : decode cX11_edge 10 = .ok (.aload_n 0, 1) := by decide +kernel
theorem dX11_edge_11 : decode cX11_edge 11 = .ok (.getfield 36, 3) := by decide +kernel
theorem dX11_edge_14 : decode cX11_edge 14 = .ok (.aload_n 0, 1) := by decide +kernel
theorem dX11_edge_15 : decode cX11_edge 15 = .ok (.getfield 122, 3) := by decide +kernel
theorem dX11_edge_18 : decode cX11_edge 18 = .ok (.aload_n 0, 1) := by decide +kernel
theorem dX11_edge_19 : decode cX11_edge 19 = .ok (.getfield 33, 3) := by decide +kernel
theorem dX11_edge_22 : decode cX11_edge 22 = .ok (.iload_n 1, 1) := by decide +kernel
theorem dX11_edge_23 : decode cX11_edge 23 = .ok (.iaload, 1) := by decide +kernel
theorem dX11_edge_24 : decode cX11_edge 24 = .ok (.iastore, 1) := by decide +kernel
theorem dX11_edge_25 : decode cX11_edge 25 = .ok (.aload_n 0, 1) := by decide +kernel
theorem dX11_edge_26 : decode cX11_edge 26 = .ok (.getfield 33, 3) := by decide +kernel
theorem dX11_edge_29 : decode cX11_edge 29 = .ok (.iload_n 1, 1) := by decide +kernel
theorem dX11_edge_30 : decode cX11_edge 30 = .ok (.aload_n 0, 1) := by decide +kernel
theorem dX11_edge_31 : decode cX11_edge 31 = .ok (.getfield 122, 3) := by decide +kernel
theorem dX11_edge_34 : decode cX11_edge 34 = .ok (.iastore, 1) := by decide +kernel
theorem dX11_edge_35 : decode cX11_edge 35 = .ok (.aload_n 0, 1) := by decide +kernel
theorem dX11_edge_36 : decode cX11_edge 36 = .ok (.dup, 1) := by decide +kernel
theorem dX11_edge_37 : decode cX11_edge 37 = .ok (.getfield 122, 3) := by decide +kernel
theorem dX11_edge_40 : decode cX11_edge 40 = .ok (.iconst 1, 1) := by decide +kernel
theorem dX11_edge_41 : decode cX11_edge 41 = .ok (.iadd, 1) := by decide +kernel
theorem dX11_edge_42 : decode cX11_edge 42 = .ok (.putfield 122, 3) := by decide +kernel
theorem dX11_edge_45 : decode cX11_edge 45 = .ok (.return_, 1) := by decide +kernel
theorem dX11_fail_0 : decode cX11_fail 0 = .ok (.aload_n 0, 1) := by decide +kernel
theorem dX11_fail_1 : decode cX11_fail 1 = .ok (.getfield 92, 3) := by decide +kernel
theorem dX11_fail_4 : decode cX11_fail 4 = .ok (.ifCond .ne 16, 3) := by decide +kernel
theorem dX11_fail_7 : decode cX11_fail 7 = .ok (.aload_n 0, 1) := by decide +kernel
theorem dX11_fail_8 : decode cX11_fail 8 = .ok (.iload_n 1, 1) := by decide +kernel
theorem dX11_fail_9 : decode cX11_fail 9 = .ok (.putfield 92, 3) := by decide +kernel
theorem dX11_fail_12 : decode cX11_fail 12 = .ok (.aload_n 0, 1) := by decide +kernel
theorem dX11_fail_13 : decode cX11_fail 13 = .ok (.aload_n 0, 1) := by decide +kernel
theorem dX11_fail_14 : decode cX11_fail 14 = .ok (.getfield 125, 3) := by decide +kernel
theorem dX11_fail_17 : decode cX11_fail 17 = .ok (.putfield 25, 3) := by decide +kernel
theorem dX11_fail_20 : decode cX11_fail 20 = .ok (.iconst 0, 1) := by decide +kernel
theorem dX11_fail_21 : decode cX11_fail 21 = .ok (.ireturn, 1) := by decide +kernel
theorem dX11_ahead_0 : decode cX11_ahead 0 = .ok (.aload_n 0, 1) := by decide +kernel
theorem dX11_ahead_1 : decode cX11_ahead 1 = .ok (.getfield 125, 3) := by decide +kernel
theorem dX11_ahead_4 : decode cX11_ahead 4 = .ok (.aload_n 0, 1) := by decide +kernel
theorem dX11_ahead_5 : decode cX11_ahead 5 = .ok (.getfield 89, 3) := by decide +kernel
theorem dX11_ahead_8 : decode cX11_ahead 8 = .ok (.if_icmp .ge 15, 3) := by decide +kernel
theorem dX11_ahead_11 : decode cX11_ahead 11 = .ok (.aload_n 0, 1) := by decide +kernel
theorem dX11_ahead_12 : decode cX11_ahead 12 = .ok (.getfield 22, 3) := by decide +kernel
theorem dX11_ahead_15 : decode cX11_ahead 15 = .ok (.aload_n 0, 1) := by decide +kernel
theorem dX11_ahead_16 : decode cX11_ahead 16 = .ok (.getfield 125, 3) := by decide +kernel
theorem dX11_ahead_19 : decode cX11_ahead 19 = .ok (.iaload, 1) := by decide +kernel
theorem dX11_ahead_20 : decode cX11_ahead 20 = .ok (.goto 4, 3) := by decide +kernel
theorem dX11_ahead_23 : decode cX11_ahead 23 = .ok (.iconst (-1), 1) := by decide +kernel
theorem dX11_ahead_24 : decode cX11_ahead 24 = .ok (.ireturn, 1) := by decide +kernel
theorem dX11_isAtom_0 : decode cX11_isAtom 0 = .ok (.aload_n 0, 1) := by decide +kernel
theorem dX11_isAtom_1 : decode cX11_isAtom 1 = .ok (.invokevirtual 128, 3) := by decide +kernel
theorem dX11_isAtom_4 : decode cX11_isAtom 4 = .ok (.bipush 97, 2) := by decide +kernel
theorem dX11_isAtom_6 : decode cX11_isAtom 6 = .ok (.bipush 102, 2) := by decide +kernel
theorem dX11_isAtom_8 : decode cX11_isAtom 8 = .ok (.invokestatic 108, 3) := by decide +kernel
theorem dX11_isAtom_11 : decode cX11_isAtom 11 = .ok (.ifCond .ne 21, 3) := by decide +kernel
theorem dX11_isAtom_14 : decode cX11_isAtom 14 = .ok (.aload_n 0, 1) := by decide +kernel
theorem dX11_isAtom_15 : decode cX11_isAtom 15 = .ok (.invokevirtual 128, 3) := by decide +kernel
theorem dX11_isAtom_18 : decode cX11_isAtom 18 = .ok (.bipush 46, 2) := by decide +kernel
theorem dX11_isAtom_20 : decode cX11_isAtom 20 = .ok (.if_icmp .eq 12, 3) := by decide +kernel
theorem dX11_isAtom_23 : decode cX11_isAtom 23 = .ok (.aload_n 0, 1) := by decide +kernel
theorem dX11_isAtom_24 : decode cX11_isAtom 24 = .ok (.invokevirtual 128, 3) := by decide +kernel
theorem dX11_isAtom_27 : decode cX11_isAtom 27 = .ok (.bipush 40, 2) := by decide +kernel
theorem dX11_isAtom_29 : decode cX11_isAtom 29 = .ok (.if_icmp .ne 7, 3) := by decide +kernel
theorem dX11_isAtom_32 : decode cX11_isAtom 32 = .ok (.iconst 1, 1) := by decide +kernel
theorem dX11_isAtom_33 : decode cX11_isAtom 33 = .ok (.goto 4, 3) := by decide +kernel
theorem dX11_isAtom_36 : decode cX11_isAtom 36 = .ok (.iconst 0, 1) := by decide +kernel
theorem dX11_isAtom_37 : decode cX11_isAtom 37 = .ok (.ireturn, 1) := by decide +kernel
theorem dX11_readsPattern_0 : decode cX11_readsPattern 0 = .ok (.aload_n 0, 1) := by decide +kernel
theorem dX11_readsPattern_1 : decode cX11_readsPattern 1 = .ok (.invokevirtual 131, 3) := by decide +kernel
theorem dX11_readsPattern_4 : decode cX11_readsPattern 4 = .ok (.istore_n 2, 1) := by decide +kernel
theorem dX11_readsPattern_5 : decode cX11_readsPattern 5 = .ok (.aload_n 0, 1) := by decide +kernel
theorem dX11_readsPattern_6 : decode cX11_readsPattern 6 = .ok (.invokevirtual 131, 3) := by decide +kernel
theorem dX11_readsPattern_9 : decode cX11_readsPattern 9 = .ok (.istore_n 3, 1) := by decide +kernel
theorem dX11_readsPattern_10 : decode cX11_readsPattern 10 = .ok (.iconst 1, 1) := by decide +kernel
theorem dX11_readsPattern_11 : decode cX11_readsPattern 11 = .ok (.istore 4, 2) := by decide +kernel
theorem dX11_readsPattern_13 : decode cX11_readsPattern 13 = .ok (.iload 4, 2) := by decide +kernel
theorem dX11_readsPattern_15 : decode cX11_readsPattern 15 = .ok (.ifCond .eq 69, 3) := by decide +kernel
theorem dX11_readsPattern_18 : decode cX11_readsPattern 18 = .ok (.aload_n 0, 1) := by decide +kernel
theorem dX11_readsPattern_19 : decode cX11_readsPattern 19 = .ok (.iload_n 1, 1) := by decide +kernel
theorem dX11_readsPattern_20 : decode cX11_readsPattern 20 = .ok (.invokevirtual 134, 3) := by decide +kernel
theorem dX11_readsPattern_23 : decode cX11_readsPattern 23 = .ok (.ifCond .ne 5, 3) := by decide +kernel
theorem dX11_readsPattern_26 : decode cX11_readsPattern 26 = .ok (.iconst 0, 1) := by decide +kernel
theorem dX11_readsPattern_27 : decode cX11_readsPattern 27 = .ok (.ireturn, 1) := by decide +kernel
theorem dX11_readsPattern_28 : decode cX11_readsPattern 28 = .ok (.aload_n 0, 1) := by decide +kernel
theorem dX11_readsPattern_29 : decode cX11_readsPattern 29 = .ok (.iload_n 2, 1) := by decide +kernel
theorem dX11_readsPattern_30 : decode cX11_readsPattern 30 = .ok (.aload_n 0, 1) := by decide +kernel
theorem dX11_readsPattern_31 : decode cX11_readsPattern 31 = .ok (.getfield 137, 3) := by decide +kernel
theorem dX11_readsPattern_34 : decode cX11_readsPattern 34 = .ok (.invokevirtual 140, 3) := by decide +kernel
theorem dX11_readsPattern_37 : decode cX11_readsPattern 37 = .ok (.aload_n 0, 1) := by decide +kernel
theorem dX11_readsPattern_38 : decode cX11_readsPattern 38 = .ok (.aload_n 0, 1) := by decide +kernel
theorem dX11_readsPattern_39 : decode cX11_readsPattern 39 = .ok (.getfield 144, 3) := by decide +kernel
theorem dX11_readsPattern_42 : decode cX11_readsPattern 42 = .ok (.iload_n 3, 1) := by decide +kernel
theorem dX11_readsPattern_43 : decode cX11_readsPattern 43 = .ok (.invokevirtual 140, 3) := by decide +kernel
theorem dX11_readsPattern_46 : decode cX11_readsPattern 46 = .ok (.aload_n 0, 1) := by decide +kernel
theorem dX11_readsPattern_47 : decode cX11_readsPattern 47 = .ok (.invokevirtual 128, 3) := by decide +kernel
theorem dX11_readsPattern_50 : decode cX11_readsPattern 50 = .ok (.bipush 124, 2) := by decide +kernel
theorem dX11_readsPattern_52 : decode cX11_readsPattern 52 = .ok (.if_icmp .ne 7, 3) := by decide +kernel
theorem dX11_readsPattern_55 : decode cX11_readsPattern 55 = .ok (.iconst 1, 1) := by decide +kernel
theorem dX11_readsPattern_56 : decode cX11_readsPattern 56 = .ok (.goto 4, 3) := by decide +kernel
theorem dX11_readsPattern_59 : decode cX11_readsPattern 59 = .ok (.iconst 0, 1) := by decide +kernel
theorem dX11_readsPattern_60 : decode cX11_readsPattern 60 = .ok (.istore 4, 2) := by decide +kernel
theorem dX11_readsPattern_62 : decode cX11_readsPattern 62 = .ok (.aload_n 0, 1) := by decide +kernel
theorem dX11_readsPattern_63 : decode cX11_readsPattern 63 = .ok (.dup, 1) := by decide +kernel
theorem dX11_readsPattern_64 : decode cX11_readsPattern 64 = .ok (.getfield 125, 3) := by decide +kernel
theorem dX11_readsPattern_67 : decode cX11_readsPattern 67 = .ok (.iload 4, 2) := by decide +kernel
theorem dX11_readsPattern_69 : decode cX11_readsPattern 69 = .ok (.ifCond .eq 7, 3) := by decide +kernel
theorem dX11_readsPattern_72 : decode cX11_readsPattern 72 = .ok (.iconst 1, 1) := by decide +kernel
theorem dX11_readsPattern_73 : decode cX11_readsPattern 73 = .ok (.goto 4, 3) := by decide +kernel
theorem dX11_readsPattern_76 : decode cX11_readsPattern 76 = .ok (.iconst 0, 1) := by decide +kernel
theorem dX11_readsPattern_77 : decode cX11_readsPattern 77 = .ok (.iadd, 1) := by decide +kernel
theorem dX11_readsPattern_78 : decode cX11_readsPattern 78 = .ok (.putfield 125, 3) := by decide +kernel
theorem dX11_readsPattern_81 : decode cX11_readsPattern 81 = .ok (.goto (-68), 3) := by decide +kernel
theorem dX11_readsPattern_84 : decode cX11_readsPattern 84 = .ok (.aload_n 0, 1) := by decide +kernel
theorem dX11_readsPattern_85 : decode cX11_readsPattern 85 = .ok (.iload_n 2, 1) := by decide +kernel
theorem dX11_readsPattern_86 : decode cX11_readsPattern 86 = .ok (.putfield 137, 3) := by decide +kernel
theorem dX11_readsPattern_89 : decode cX11_readsPattern 89 = .ok (.aload_n 0, 1) := by decide +kernel
theorem dX11_readsPattern_90 : decode cX11_readsPattern 90 = .ok (.iload_n 3, 1) := by decide +kernel
theorem dX11_readsPattern_91 : decode cX11_readsPattern 91 = .ok (.putfield 144, 3) := by decide +kernel
theorem dX11_readsPattern_94 : decode cX11_readsPattern 94 = .ok (.iconst 1, 1) := by decide +kernel
theorem dX11_readsPattern_95 : decode cX11_readsPattern 95 = .ok (.ireturn, 1) := by decide +kernel
theorem dX11_readsBranch_0 : decode cX11_readsBranch 0 = .ok (.aload_n 0, 1) := by decide +kernel
theorem dX11_readsBranch_1 : decode cX11_readsBranch 1 = .ok (.invokevirtual 131, 3) := by decide +kernel
theorem dX11_readsBranch_4 : decode cX11_readsBranch 4 = .ok (.istore_n 2, 1) := by decide +kernel
theorem dX11_readsBranch_5 : decode cX11_readsBranch 5 = .ok (.iload_n 2, 1) := by decide +kernel
theorem dX11_readsBranch_6 : decode cX11_readsBranch 6 = .ok (.istore_n 3, 1) := by decide +kernel
theorem dX11_readsBranch_7 : decode cX11_readsBranch 7 = .ok (.aload_n 0, 1) := by decide +kernel
theorem dX11_readsBranch_8 : decode cX11_readsBranch 8 = .ok (.invokevirtual 147, 3) := by decide +kernel
theorem dX11_readsBranch_11 : decode cX11_readsBranch 11 = .ok (.ifCond .eq 30, 3) := by decide +kernel
theorem dX11_readsBranch_14 : decode cX11_readsBranch 14 = .ok (.aload_n 0, 1) := by decide +kernel
theorem dX11_readsBranch_15 : decode cX11_readsBranch 15 = .ok (.iload_n 1, 1) := by decide +kernel
theorem dX11_readsBranch_16 : decode cX11_readsBranch 16 = .ok (.invokevirtual 151, 3) := by decide +kernel
theorem dX11_readsBranch_19 : decode cX11_readsBranch 19 = .ok (.ifCond .ne 5, 3) := by decide +kernel
theorem dX11_readsBranch_22 : decode cX11_readsBranch 22 = .ok (.iconst 0, 1) := by decide +kernel
theorem dX11_readsBranch_23 : decode cX11_readsBranch 23 = .ok (.ireturn, 1) := by decide +kernel
theorem dX11_readsBranch_24 : decode cX11_readsBranch 24 = .ok (.aload_n 0, 1) := by decide +kernel
theorem dX11_readsBranch_25 : decode cX11_readsBranch 25 = .ok (.iload_n 3, 1) := by decide +kernel
theorem dX11_readsBranch_26 : decode cX11_readsBranch 26 = .ok (.aload_n 0, 1) := by decide +kernel
theorem dX11_readsBranch_27 : decode cX11_readsBranch 27 = .ok (.getfield 137, 3) := by decide +kernel
theorem dX11_readsBranch_30 : decode cX11_readsBranch 30 = .ok (.invokevirtual 140, 3) := by decide +kernel
theorem dX11_readsBranch_33 : decode cX11_readsBranch 33 = .ok (.aload_n 0, 1) := by decide +kernel
theorem dX11_readsBranch_34 : decode cX11_readsBranch 34 = .ok (.getfield 144, 3) := by decide +kernel
theorem dX11_readsBranch_37 : decode cX11_readsBranch 37 = .ok (.istore_n 3, 1) := by decide +kernel
theorem dX11_readsBranch_38 : decode cX11_readsBranch 38 = .ok (.goto (-31), 3) := by decide +kernel
theorem dX11_readsBranch_41 : decode cX11_readsBranch 41 = .ok (.aload_n 0, 1) := by decide +kernel
theorem dX11_readsBranch_42 : decode cX11_readsBranch 42 = .ok (.iload_n 2, 1) := by decide +kernel
theorem dX11_readsBranch_43 : decode cX11_readsBranch 43 = .ok (.putfield 137, 3) := by decide +kernel
theorem dX11_readsBranch_46 : decode cX11_readsBranch 46 = .ok (.aload_n 0, 1) := by decide +kernel
theorem dX11_readsBranch_47 : decode cX11_readsBranch 47 = .ok (.iload_n 3, 1) := by decide +kernel
theorem dX11_readsBranch_48 : decode cX11_readsBranch 48 = .ok (.putfield 144, 3) := by decide +kernel
theorem dX11_readsBranch_51 : decode cX11_readsBranch 51 = .ok (.iconst 1, 1) := by decide +kernel
theorem dX11_readsBranch_52 : decode cX11_readsBranch 52 = .ok (.ireturn, 1) := by decide +kernel
theorem dX11_readsPiece_0 : decode cX11_readsPiece 0 = .ok (.aload_n 0, 1) := by decide +kernel
theorem dX11_readsPiece_1 : decode cX11_readsPiece 1 = .ok (.iload_n 1, 1) := by decide +kernel
theorem dX11_readsPiece_2 : decode cX11_readsPiece 2 = .ok (.invokevirtual 154, 3) := by decide +kernel
theorem dX11_readsPiece_5 : decode cX11_readsPiece 5 = .ok (.ifCond .ne 5, 3) := by decide +kernel
theorem dX11_readsPiece_8 : decode cX11_readsPiece 8 = .ok (.iconst 0, 1) := by decide +kernel
theorem dX11_readsPiece_9 : decode cX11_readsPiece 9 = .ok (.ireturn, 1) := by decide +kernel
theorem dX11_readsPiece_10 : decode cX11_readsPiece 10 = .ok (.aload_n 0, 1) := by decide +kernel
theorem dX11_readsPiece_11 : decode cX11_readsPiece 11 = .ok (.invokevirtual 128, 3) := by decide +kernel
theorem dX11_readsPiece_14 : decode cX11_readsPiece 14 = .ok (.bipush 42, 2) := by decide +kernel
theorem dX11_readsPiece_16 : decode cX11_readsPiece 16 = .ok (.if_icmp .eq 21, 3) := by decide +kernel
theorem dX11_readsPiece_19 : decode cX11_readsPiece 19 = .ok (.aload_n 0, 1) := by decide +kernel
theorem dX11_readsPiece_20 : decode cX11_readsPiece 20 = .ok (.invokevirtual 128, 3) := by decide +kernel
theorem dX11_readsPiece_23 : decode cX11_readsPiece 23 = .ok (.bipush 43, 2) := by decide +kernel
theorem dX11_readsPiece_25 : decode cX11_readsPiece 25 = .ok (.if_icmp .eq 12, 3) := by decide +kernel
theorem dX11_readsPiece_28 : decode cX11_readsPiece 28 = .ok (.aload_n 0, 1) := by decide +kernel
theorem dX11_readsPiece_29 : decode cX11_readsPiece 29 = .ok (.invokevirtual 128, 3) := by decide +kernel
theorem dX11_readsPiece_32 : decode cX11_readsPiece 32 = .ok (.bipush 63, 2) := by decide +kernel
theorem dX11_readsPiece_34 : decode cX11_readsPiece 34 = .ok (.if_icmp .ne 103, 3) := by decide +kernel
theorem dX11_readsPiece_37 : decode cX11_readsPiece 37 = .ok (.aload_n 0, 1) := by decide +kernel
theorem dX11_readsPiece_38 : decode cX11_readsPiece 38 = .ok (.invokevirtual 128, 3) := by decide +kernel
theorem dX11_readsPiece_41 : decode cX11_readsPiece 41 = .ok (.istore_n 2, 1) := by decide +kernel
theorem dX11_readsPiece_42 : decode cX11_readsPiece 42 = .ok (.aload_n 0, 1) := by decide +kernel
theorem dX11_readsPiece_43 : decode cX11_readsPiece 43 = .ok (.invokevirtual 131, 3) := by decide +kernel
theorem dX11_readsPiece_46 : decode cX11_readsPiece 46 = .ok (.istore_n 3, 1) := by decide +kernel
theorem dX11_readsPiece_47 : decode cX11_readsPiece 47 = .ok (.aload_n 0, 1) := by decide +kernel
theorem dX11_readsPiece_48 : decode cX11_readsPiece 48 = .ok (.invokevirtual 131, 3) := by decide +kernel
theorem dX11_readsPiece_51 : decode cX11_readsPiece 51 = .ok (.istore 4, 2) := by decide +kernel
theorem dX11_readsPiece_53 : decode cX11_readsPiece 53 = .ok (.aload_n 0, 1) := by decide +kernel
theorem dX11_readsPiece_54 : decode cX11_readsPiece 54 = .ok (.iload_n 3, 1) := by decide +kernel
theorem dX11_readsPiece_55 : decode cX11_readsPiece 55 = .ok (.aload_n 0, 1) := by decide +kernel
theorem dX11_readsPiece_56 : decode cX11_readsPiece 56 = .ok (.getfield 137, 3) := by decide +kernel
theorem dX11_readsPiece_59 : decode cX11_readsPiece 59 = .ok (.invokevirtual 140, 3) := by decide +kernel
theorem dX11_readsPiece_62 : decode cX11_readsPiece 62 = .ok (.aload_n 0, 1) := by decide +kernel
theorem dX11_readsPiece_63 : decode cX11_readsPiece 63 = .ok (.aload_n 0, 1) := by decide +kernel
theorem dX11_readsPiece_64 : decode cX11_readsPiece 64 = .ok (.getfield 144, 3) := by decide +kernel
theorem dX11_readsPiece_67 : decode cX11_readsPiece 67 = .ok (.iload 4, 2) := by decide +kernel
theorem dX11_readsPiece_69 : decode cX11_readsPiece 69 = .ok (.invokevirtual 140, 3) := by decide +kernel
theorem dX11_readsPiece_72 : decode cX11_readsPiece 72 = .ok (.iload_n 2, 1) := by decide +kernel
theorem dX11_readsPiece_73 : decode cX11_readsPiece 73 = .ok (.bipush 43, 2) := by decide +kernel
theorem dX11_readsPiece_75 : decode cX11_readsPiece 75 = .ok (.if_icmp .eq 10, 3) := by decide +kernel
theorem dX11_readsPiece_78 : decode cX11_readsPiece 78 = .ok (.aload_n 0, 1) := by decide +kernel
theorem dX11_readsPiece_79 : decode cX11_readsPiece 79 = .ok (.iload_n 3, 1) := by decide +kernel
theorem dX11_readsPiece_80 : decode cX11_readsPiece 80 = .ok (.iload 4, 2) := by decide +kernel
theorem dX11_readsPiece_82 : decode cX11_readsPiece 82 = .ok (.invokevirtual 140, 3) := by decide +kernel
theorem dX11_readsPiece_85 : decode cX11_readsPiece 85 = .ok (.iload_n 2, 1) := by decide +kernel
theorem dX11_readsPiece_86 : decode cX11_readsPiece 86 = .ok (.bipush 63, 2) := by decide +kernel
theorem dX11_readsPiece_88 : decode cX11_readsPiece 88 = .ok (.if_icmp .eq 25, 3) := by decide +kernel
theorem dX11_readsPiece_91 : decode cX11_readsPiece 91 = .ok (.aload_n 0, 1) := by decide +kernel
theorem dX11_readsPiece_92 : decode cX11_readsPiece 92 = .ok (.aload_n 0, 1) := by decide +kernel
theorem dX11_readsPiece_93 : decode cX11_readsPiece 93 = .ok (.getfield 144, 3) := by decide +kernel
theorem dX11_readsPiece_96 : decode cX11_readsPiece 96 = .ok (.aload_n 0, 1) := by decide +kernel
theorem dX11_readsPiece_97 : decode cX11_readsPiece 97 = .ok (.getfield 137, 3) := by decide +kernel
theorem dX11_readsPiece_100 : decode cX11_readsPiece 100 = .ok (.invokevirtual 140, 3) := by decide +kernel
theorem dX11_readsPiece_103 : decode cX11_readsPiece 103 = .ok (.aload_n 0, 1) := by decide +kernel
theorem dX11_readsPiece_104 : decode cX11_readsPiece 104 = .ok (.dup, 1) := by decide +kernel
theorem dX11_readsPiece_105 : decode cX11_readsPiece 105 = .ok (.getfield 157, 3) := by decide +kernel
theorem dX11_readsPiece_108 : decode cX11_readsPiece 108 = .ok (.iconst 1, 1) := by decide +kernel
theorem dX11_readsPiece_109 : decode cX11_readsPiece 109 = .ok (.iadd, 1) := by decide +kernel
theorem dX11_readsPiece_110 : decode cX11_readsPiece 110 = .ok (.putfield 157, 3) := by decide +kernel
theorem dX11_readsPiece_113 : decode cX11_readsPiece 113 = .ok (.aload_n 0, 1) := by decide +kernel
theorem dX11_readsPiece_114 : decode cX11_readsPiece 114 = .ok (.iload_n 3, 1) := by decide +kernel
theorem dX11_readsPiece_115 : decode cX11_readsPiece 115 = .ok (.putfield 137, 3) := by decide +kernel
theorem dX11_readsPiece_118 : decode cX11_readsPiece 118 = .ok (.aload_n 0, 1) := by decide +kernel
theorem dX11_readsPiece_119 : decode cX11_readsPiece 119 = .ok (.iload 4, 2) := by decide +kernel
theorem dX11_readsPiece_121 : decode cX11_readsPiece 121 = .ok (.putfield 144, 3) := by decide +kernel
theorem dX11_readsPiece_124 : decode cX11_readsPiece 124 = .ok (.aload_n 0, 1) := by decide +kernel
theorem dX11_readsPiece_125 : decode cX11_readsPiece 125 = .ok (.dup, 1) := by decide +kernel
theorem dX11_readsPiece_126 : decode cX11_readsPiece 126 = .ok (.getfield 125, 3) := by decide +kernel
theorem dX11_readsPiece_129 : decode cX11_readsPiece 129 = .ok (.iconst 1, 1) := by decide +kernel
theorem dX11_readsPiece_130 : decode cX11_readsPiece 130 = .ok (.iadd, 1) := by decide +kernel
theorem dX11_readsPiece_131 : decode cX11_readsPiece 131 = .ok (.putfield 125, 3) := by decide +kernel
theorem dX11_readsPiece_134 : decode cX11_readsPiece 134 = .ok (.goto (-124), 3) := by decide +kernel
theorem dX11_readsPiece_137 : decode cX11_readsPiece 137 = .ok (.iconst 1, 1) := by decide +kernel
theorem dX11_readsPiece_138 : decode cX11_readsPiece 138 = .ok (.ireturn, 1) := by decide +kernel
theorem dX11_readsAtom_0 : decode cX11_readsAtom 0 = .ok (.aload_n 0, 1) := by decide +kernel
theorem dX11_readsAtom_1 : decode cX11_readsAtom 1 = .ok (.invokevirtual 128, 3) := by decide +kernel
theorem dX11_readsAtom_4 : decode cX11_readsAtom 4 = .ok (.bipush 40, 2) := by decide +kernel
theorem dX11_readsAtom_6 : decode cX11_readsAtom 6 = .ok (.if_icmp .ne 85, 3) := by decide +kernel
theorem dX11_readsAtom_9 : decode cX11_readsAtom 9 = .ok (.aload_n 0, 1) := by decide +kernel
theorem dX11_readsAtom_10 : decode cX11_readsAtom 10 = .ok (.getfield 160, 3) := by decide +kernel
theorem dX11_readsAtom_13 : decode cX11_readsAtom 13 = .ok (.bipush 20, 2) := by decide +kernel
theorem dX11_readsAtom_15 : decode cX11_readsAtom 15 = .ok (.if_icmp .ne 9, 3) := by decide +kernel
theorem dX11_readsAtom_18 : decode cX11_readsAtom 18 = .ok (.aload_n 0, 1) := by decide +kernel
theorem dX11_readsAtom_19 : decode cX11_readsAtom 19 = .ok (.iconst 3, 1) := by decide +kernel
theorem dX11_readsAtom_20 : decode cX11_readsAtom 20 = .ok (.invokevirtual 163, 3) := by decide +kernel
theorem dX11_readsAtom_23 : decode cX11_readsAtom 23 = .ok (.ireturn, 1) := by decide +kernel
theorem dX11_readsAtom_24 : decode cX11_readsAtom 24 = .ok (.aload_n 0, 1) := by decide +kernel
theorem dX11_readsAtom_25 : decode cX11_readsAtom 25 = .ok (.dup, 1) := by decide +kernel
theorem dX11_readsAtom_26 : decode cX11_readsAtom 26 = .ok (.getfield 160, 3) := by decide +kernel
theorem dX11_readsAtom_29 : decode cX11_readsAtom 29 = .ok (.iconst 1, 1) := by decide +kernel
theorem dX11_readsAtom_30 : decode cX11_readsAtom 30 = .ok (.iadd, 1) := by decide +kernel
theorem dX11_readsAtom_31 : decode cX11_readsAtom 31 = .ok (.putfield 160, 3) := by decide +kernel
theorem dX11_readsAtom_34 : decode cX11_readsAtom 34 = .ok (.aload_n 0, 1) := by decide +kernel
theorem dX11_readsAtom_35 : decode cX11_readsAtom 35 = .ok (.dup, 1) := by decide +kernel
theorem dX11_readsAtom_36 : decode cX11_readsAtom 36 = .ok (.getfield 125, 3) := by decide +kernel
theorem dX11_readsAtom_39 : decode cX11_readsAtom 39 = .ok (.iconst 1, 1) := by decide +kernel
theorem dX11_readsAtom_40 : decode cX11_readsAtom 40 = .ok (.iadd, 1) := by decide +kernel
theorem dX11_readsAtom_41 : decode cX11_readsAtom 41 = .ok (.putfield 125, 3) := by decide +kernel
theorem dX11_readsAtom_44 : decode cX11_readsAtom 44 = .ok (.aload_n 0, 1) := by decide +kernel
theorem dX11_readsAtom_45 : decode cX11_readsAtom 45 = .ok (.iload_n 1, 1) := by decide +kernel
theorem dX11_readsAtom_46 : decode cX11_readsAtom 46 = .ok (.invokevirtual 166, 3) := by decide +kernel
theorem dX11_readsAtom_49 : decode cX11_readsAtom 49 = .ok (.ifCond .ne 5, 3) := by decide +kernel
theorem dX11_readsAtom_52 : decode cX11_readsAtom 52 = .ok (.iconst 0, 1) := by decide +kernel
theorem dX11_readsAtom_53 : decode cX11_readsAtom 53 = .ok (.ireturn, 1) := by decide +kernel
theorem dX11_readsAtom_54 : decode cX11_readsAtom 54 = .ok (.aload_n 0, 1) := by decide +kernel
theorem dX11_readsAtom_55 : decode cX11_readsAtom 55 = .ok (.invokevirtual 128, 3) := by decide +kernel
theorem dX11_readsAtom_58 : decode cX11_readsAtom 58 = .ok (.bipush 41, 2) := by decide +kernel
theorem dX11_readsAtom_60 : decode cX11_readsAtom 60 = .ok (.if_icmp .eq 9, 3) := by decide +kernel
theorem dX11_readsAtom_63 : decode cX11_readsAtom 63 = .ok (.aload_n 0, 1) := by decide +kernel
theorem dX11_readsAtom_64 : decode cX11_readsAtom 64 = .ok (.iconst 1, 1) := by decide +kernel
theorem dX11_readsAtom_65 : decode cX11_readsAtom 65 = .ok (.invokevirtual 163, 3) := by decide +kernel
theorem dX11_readsAtom_68 : decode cX11_readsAtom 68 = .ok (.ireturn, 1) := by decide +kernel
theorem dX11_readsAtom_69 : decode cX11_readsAtom 69 = .ok (.aload_n 0, 1) := by decide +kernel
theorem dX11_readsAtom_70 : decode cX11_readsAtom 70 = .ok (.dup, 1) := by decide +kernel
theorem dX11_readsAtom_71 : decode cX11_readsAtom 71 = .ok (.getfield 160, 3) := by decide +kernel
theorem dX11_readsAtom_74 : decode cX11_readsAtom 74 = .ok (.iconst 1, 1) := by decide +kernel
theorem dX11_readsAtom_75 : decode cX11_readsAtom 75 = .ok (.isub, 1) := by decide +kernel
theorem dX11_readsAtom_76 : decode cX11_readsAtom 76 = .ok (.putfield 160, 3) := by decide +kernel
theorem dX11_readsAtom_79 : decode cX11_readsAtom 79 = .ok (.aload_n 0, 1) := by decide +kernel
theorem dX11_readsAtom_80 : decode cX11_readsAtom 80 = .ok (.dup, 1) := by decide +kernel
theorem dX11_readsAtom_81 : decode cX11_readsAtom 81 = .ok (.getfield 125, 3) := by decide +kernel
theorem dX11_readsAtom_84 : decode cX11_readsAtom 84 = .ok (.iconst 1, 1) := by decide +kernel
theorem dX11_readsAtom_85 : decode cX11_readsAtom 85 = .ok (.iadd, 1) := by decide +kernel
theorem dX11_readsAtom_86 : decode cX11_readsAtom 86 = .ok (.putfield 125, 3) := by decide +kernel
theorem dX11_readsAtom_89 : decode cX11_readsAtom 89 = .ok (.iconst 1, 1) := by decide +kernel
theorem dX11_readsAtom_90 : decode cX11_readsAtom 90 = .ok (.ireturn, 1) := by decide +kernel
theorem dX11_readsAtom_91 : decode cX11_readsAtom 91 = .ok (.aload_n 0, 1) := by decide +kernel
theorem dX11_readsAtom_92 : decode cX11_readsAtom 92 = .ok (.getfield 169, 3) := by decide +kernel
theorem dX11_readsAtom_95 : decode cX11_readsAtom 95 = .ok (.bipush 24, 2) := by decide +kernel
theorem dX11_readsAtom_97 : decode cX11_readsAtom 97 = .ok (.if_icmp .ne 9, 3) := by decide +kernel
theorem dX11_readsAtom_100 : decode cX11_readsAtom 100 = .ok (.aload_n 0, 1) := by decide +kernel
theorem dX11_readsAtom_101 : decode cX11_readsAtom 101 = .ok (.iconst 2, 1) := by decide +kernel
theorem dX11_readsAtom_102 : decode cX11_readsAtom 102 = .ok (.invokevirtual 163, 3) := by decide +kernel
theorem dX11_readsAtom_105 : decode cX11_readsAtom 105 = .ok (.ireturn, 1) := by decide +kernel
theorem dX11_readsAtom_106 : decode cX11_readsAtom 106 = .ok (.aload_n 0, 1) := by decide +kernel
theorem dX11_readsAtom_107 : decode cX11_readsAtom 107 = .ok (.dup, 1) := by decide +kernel
theorem dX11_readsAtom_108 : decode cX11_readsAtom 108 = .ok (.getfield 169, 3) := by decide +kernel
theorem dX11_readsAtom_111 : decode cX11_readsAtom 111 = .ok (.iconst 1, 1) := by decide +kernel
theorem dX11_readsAtom_112 : decode cX11_readsAtom 112 = .ok (.iadd, 1) := by decide +kernel
theorem dX11_readsAtom_113 : decode cX11_readsAtom 113 = .ok (.putfield 169, 3) := by decide +kernel
theorem dX11_readsAtom_116 : decode cX11_readsAtom 116 = .ok (.aload_n 0, 1) := by decide +kernel
theorem dX11_readsAtom_117 : decode cX11_readsAtom 117 = .ok (.iload_n 1, 1) := by decide +kernel
theorem dX11_readsAtom_118 : decode cX11_readsAtom 118 = .ok (.bipush 31, 2) := by decide +kernel
theorem dX11_readsAtom_120 : decode cX11_readsAtom 120 = .ok (.aload_n 0, 1) := by decide +kernel
theorem dX11_readsAtom_121 : decode cX11_readsAtom 121 = .ok (.getfield 169, 3) := by decide +kernel
theorem dX11_readsAtom_124 : decode cX11_readsAtom 124 = .ok (.iadd, 1) := by decide +kernel
theorem dX11_readsAtom_125 : decode cX11_readsAtom 125 = .ok (.aload_n 0, 1) := by decide +kernel
theorem dX11_readsAtom_126 : decode cX11_readsAtom 126 = .ok (.invokevirtual 128, 3) := by decide +kernel
theorem dX11_readsAtom_129 : decode cX11_readsAtom 129 = .ok (.bipush 46, 2) := by decide +kernel
theorem dX11_readsAtom_131 : decode cX11_readsAtom 131 = .ok (.if_icmp .ne 8, 3) := by decide +kernel
theorem dX11_readsAtom_134 : decode cX11_readsAtom 134 = .ok (.bipush 6, 2) := by decide +kernel
theorem dX11_readsAtom_136 : decode cX11_readsAtom 136 = .ok (.goto 10, 3) := by decide +kernel
theorem dX11_readsAtom_139 : decode cX11_readsAtom 139 = .ok (.aload_n 0, 1) := by decide +kernel
theorem dX11_readsAtom_140 : decode cX11_readsAtom 140 = .ok (.invokevirtual 128, 3) := by decide +kernel
theorem dX11_readsAtom_143 : decode cX11_readsAtom 143 = .ok (.bipush 97, 2) := by decide +kernel
theorem dX11_readsAtom_145 : decode cX11_readsAtom 145 = .ok (.isub, 1) := by decide +kernel
theorem dX11_readsAtom_146 : decode cX11_readsAtom 146 = .ok (.invokevirtual 172, 3) := by decide +kernel
theorem dX11_readsAtom_149 : decode cX11_readsAtom 149 = .ok (.aload_n 0, 1) := by decide +kernel
theorem dX11_readsAtom_150 : decode cX11_readsAtom 150 = .ok (.aload_n 0, 1) := by decide +kernel
theorem dX11_readsAtom_151 : decode cX11_readsAtom 151 = .ok (.invokevirtual 131, 3) := by decide +kernel
theorem dX11_readsAtom_154 : decode cX11_readsAtom 154 = .ok (.putfield 137, 3) := by decide +kernel
theorem dX11_readsAtom_157 : decode cX11_readsAtom 157 = .ok (.aload_n 0, 1) := by decide +kernel
theorem dX11_readsAtom_158 : decode cX11_readsAtom 158 = .ok (.aload_n 0, 1) := by decide +kernel
theorem dX11_readsAtom_159 : decode cX11_readsAtom 159 = .ok (.invokevirtual 131, 3) := by decide +kernel
theorem dX11_readsAtom_162 : decode cX11_readsAtom 162 = .ok (.putfield 144, 3) := by decide +kernel
theorem dX11_readsAtom_165 : decode cX11_readsAtom 165 = .ok (.aload_n 0, 1) := by decide +kernel
theorem dX11_readsAtom_166 : decode cX11_readsAtom 166 = .ok (.getfield 42, 3) := by decide +kernel
theorem dX11_readsAtom_169 : decode cX11_readsAtom 169 = .ok (.aload_n 0, 1) := by decide +kernel
theorem dX11_readsAtom_170 : decode cX11_readsAtom 170 = .ok (.getfield 137, 3) := by decide +kernel
theorem dX11_readsAtom_173 : decode cX11_readsAtom 173 = .ok (.aload_n 0, 1) := by decide +kernel
theorem dX11_readsAtom_174 : decode cX11_readsAtom 174 = .ok (.getfield 169, 3) := by decide +kernel
theorem dX11_readsAtom_177 : decode cX11_readsAtom 177 = .ok (.iastore, 1) := by decide +kernel
theorem dX11_readsAtom_178 : decode cX11_readsAtom 178 = .ok (.aload_n 0, 1) := by decide +kernel
theorem dX11_readsAtom_179 : decode cX11_readsAtom 179 = .ok (.getfield 51, 3) := by decide +kernel
theorem dX11_readsAtom_182 : decode cX11_readsAtom 182 = .ok (.aload_n 0, 1) := by decide +kernel
theorem dX11_readsAtom_183 : decode cX11_readsAtom 183 = .ok (.getfield 169, 3) := by decide +kernel
theorem dX11_readsAtom_186 : decode cX11_readsAtom 186 = .ok (.aload_n 0, 1) := by decide +kernel
theorem dX11_readsAtom_187 : decode cX11_readsAtom 187 = .ok (.getfield 144, 3) := by decide +kernel
theorem dX11_readsAtom_190 : decode cX11_readsAtom 190 = .ok (.iastore, 1) := by decide +kernel
theorem dX11_readsAtom_191 : decode cX11_readsAtom 191 = .ok (.aload_n 0, 1) := by decide +kernel
theorem dX11_readsAtom_192 : decode cX11_readsAtom 192 = .ok (.dup, 1) := by decide +kernel
theorem dX11_readsAtom_193 : decode cX11_readsAtom 193 = .ok (.getfield 125, 3) := by decide +kernel
theorem dX11_readsAtom_196 : decode cX11_readsAtom 196 = .ok (.iconst 1, 1) := by decide +kernel
theorem dX11_readsAtom_197 : decode cX11_readsAtom 197 = .ok (.iadd, 1) := by decide +kernel
theorem dX11_readsAtom_198 : decode cX11_readsAtom 198 = .ok (.putfield 125, 3) := by decide +kernel
theorem dX11_readsAtom_201 : decode cX11_readsAtom 201 = .ok (.iconst 1, 1) := by decide +kernel
theorem dX11_readsAtom_202 : decode cX11_readsAtom 202 = .ok (.ireturn, 1) := by decide +kernel
theorem dX11_reaches_0 : decode cX11_reaches 0 = .ok (.aload_n 0, 1) := by decide +kernel
theorem dX11_reaches_1 : decode cX11_reaches 1 = .ok (.dup, 1) := by decide +kernel
theorem dX11_reaches_2 : decode cX11_reaches 2 = .ok (.getfield 176, 3) := by decide +kernel
theorem dX11_reaches_5 : decode cX11_reaches 5 = .ok (.iconst 1, 1) := by decide +kernel
theorem dX11_reaches_6 : decode cX11_reaches 6 = .ok (.iadd, 1) := by decide +kernel
theorem dX11_reaches_7 : decode cX11_reaches 7 = .ok (.putfield 176, 3) := by decide +kernel
theorem dX11_reaches_10 : decode cX11_reaches 10 = .ok (.iconst 0, 1) := by decide +kernel
theorem dX11_reaches_11 : decode cX11_reaches 11 = .ok (.istore_n 2, 1) := by decide +kernel
theorem dX11_reaches_12 : decode cX11_reaches 12 = .ok (.iconst 1, 1) := by decide +kernel
theorem dX11_reaches_13 : decode cX11_reaches 13 = .ok (.istore_n 3, 1) := by decide +kernel
theorem dX11_reaches_14 : decode cX11_reaches 14 = .ok (.aload_n 0, 1) := by decide +kernel
theorem dX11_reaches_15 : decode cX11_reaches 15 = .ok (.getfield 48, 3) := by decide +kernel
theorem dX11_reaches_18 : decode cX11_reaches 18 = .ok (.iconst 0, 1) := by decide +kernel
theorem dX11_reaches_19 : decode cX11_reaches 19 = .ok (.iload_n 1, 1) := by decide +kernel
theorem dX11_reaches_20 : decode cX11_reaches 20 = .ok (.iastore, 1) := by decide +kernel
theorem dX11_reaches_21 : decode cX11_reaches 21 = .ok (.aload_n 0, 1) := by decide +kernel
theorem dX11_reaches_22 : decode cX11_reaches 22 = .ok (.getfield 45, 3) := by decide +kernel
theorem dX11_reaches_25 : decode cX11_reaches 25 = .ok (.iload_n 1, 1) := by decide +kernel
theorem dX11_reaches_26 : decode cX11_reaches 26 = .ok (.aload_n 0, 1) := by decide +kernel
theorem dX11_reaches_27 : decode cX11_reaches 27 = .ok (.getfield 176, 3) := by decide +kernel
theorem dX11_reaches_30 : decode cX11_reaches 30 = .ok (.iastore, 1) := by decide +kernel
theorem dX11_reaches_31 : decode cX11_reaches 31 = .ok (.iload_n 3, 1) := by decide +kernel
theorem dX11_reaches_32 : decode cX11_reaches 32 = .ok (.ifCond .le 121, 3) := by decide +kernel
theorem dX11_reaches_35 : decode cX11_reaches 35 = .ok (.iinc 3 (-1), 3) := by decide +kernel
theorem dX11_reaches_38 : decode cX11_reaches 38 = .ok (.aload_n 0, 1) := by decide +kernel
theorem dX11_reaches_39 : decode cX11_reaches 39 = .ok (.getfield 48, 3) := by decide +kernel
theorem dX11_reaches_42 : decode cX11_reaches 42 = .ok (.iload_n 3, 1) := by decide +kernel
theorem dX11_reaches_43 : decode cX11_reaches 43 = .ok (.iaload, 1) := by decide +kernel
theorem dX11_reaches_44 : decode cX11_reaches 44 = .ok (.istore 4, 2) := by decide +kernel
theorem dX11_reaches_46 : decode cX11_reaches 46 = .ok (.iload_n 2, 1) := by decide +kernel
theorem dX11_reaches_47 : decode cX11_reaches 47 = .ok (.aload_n 0, 1) := by decide +kernel
theorem dX11_reaches_48 : decode cX11_reaches 48 = .ok (.getfield 42, 3) := by decide +kernel
theorem dX11_reaches_51 : decode cX11_reaches 51 = .ok (.iload 4, 2) := by decide +kernel
theorem dX11_reaches_53 : decode cX11_reaches 53 = .ok (.iaload, 1) := by decide +kernel
theorem dX11_reaches_54 : decode cX11_reaches 54 = .ok (.ifCond .le 15, 3) := by decide +kernel
theorem dX11_reaches_57 : decode cX11_reaches 57 = .ok (.iconst 1, 1) := by decide +kernel
theorem dX11_reaches_58 : decode cX11_reaches 58 = .ok (.aload_n 0, 1) := by decide +kernel
theorem dX11_reaches_59 : decode cX11_reaches 59 = .ok (.getfield 42, 3) := by decide +kernel
theorem dX11_reaches_62 : decode cX11_reaches 62 = .ok (.iload 4, 2) := by decide +kernel
theorem dX11_reaches_64 : decode cX11_reaches 64 = .ok (.iaload, 1) := by decide +kernel
theorem dX11_reaches_65 : decode cX11_reaches 65 = .ok (.ishl, 1) := by decide +kernel
theorem dX11_reaches_66 : decode cX11_reaches 66 = .ok (.goto 4, 3) := by decide +kernel
theorem dX11_reaches_69 : decode cX11_reaches 69 = .ok (.iconst 0, 1) := by decide +kernel
theorem dX11_reaches_70 : decode cX11_reaches 70 = .ok (.ior, 1) := by decide +kernel
theorem dX11_reaches_71 : decode cX11_reaches 71 = .ok (.istore_n 2, 1) := by decide +kernel
theorem dX11_reaches_72 : decode cX11_reaches 72 = .ok (.aload_n 0, 1) := by decide +kernel
theorem dX11_reaches_73 : decode cX11_reaches 73 = .ok (.getfield 33, 3) := by decide +kernel
theorem dX11_reaches_76 : decode cX11_reaches 76 = .ok (.iload 4, 2) := by decide +kernel
theorem dX11_reaches_78 : decode cX11_reaches 78 = .ok (.iaload, 1) := by decide +kernel
theorem dX11_reaches_79 : decode cX11_reaches 79 = .ok (.istore 5, 2) := by decide +kernel
theorem dX11_reaches_81 : decode cX11_reaches 81 = .ok (.iload 5, 2) := by decide +kernel
theorem dX11_reaches_83 : decode cX11_reaches 83 = .ok (.iconst (-1), 1) := by decide +kernel
theorem dX11_reaches_84 : decode cX11_reaches 84 = .ok (.if_icmp .eq 66, 3) := by decide +kernel
theorem dX11_reaches_87 : decode cX11_reaches 87 = .ok (.aload_n 0, 1) := by decide +kernel
theorem dX11_reaches_88 : decode cX11_reaches 88 = .ok (.getfield 45, 3) := by decide +kernel
theorem dX11_reaches_91 : decode cX11_reaches 91 = .ok (.aload_n 0, 1) := by decide +kernel
theorem dX11_reaches_92 : decode cX11_reaches 92 = .ok (.getfield 39, 3) := by decide +kernel
theorem dX11_reaches_95 : decode cX11_reaches 95 = .ok (.iload 5, 2) := by decide +kernel
theorem dX11_reaches_97 : decode cX11_reaches 97 = .ok (.iaload, 1) := by decide +kernel
theorem dX11_reaches_98 : decode cX11_reaches 98 = .ok (.iaload, 1) := by decide +kernel
theorem dX11_reaches_99 : decode cX11_reaches 99 = .ok (.aload_n 0, 1) := by decide +kernel
theorem dX11_reaches_100 : decode cX11_reaches 100 = .ok (.getfield 176, 3) := by decide +kernel
theorem dX11_reaches_103 : decode cX11_reaches 103 = .ok (.if_icmp .eq 35, 3) := by decide +kernel
theorem dX11_reaches_106 : decode cX11_reaches 106 = .ok (.aload_n 0, 1) := by decide +kernel
theorem dX11_reaches_107 : decode cX11_reaches 107 = .ok (.getfield 45, 3) := by decide +kernel
theorem dX11_reaches_110 : decode cX11_reaches 110 = .ok (.aload_n 0, 1) := by decide +kernel
theorem dX11_reaches_111 : decode cX11_reaches 111 = .ok (.getfield 39, 3) := by decide +kernel
theorem dX11_reaches_114 : decode cX11_reaches 114 = .ok (.iload 5, 2) := by decide +kernel
theorem dX11_reaches_116 : decode cX11_reaches 116 = .ok (.iaload, 1) := by decide +kernel
theorem dX11_reaches_117 : decode cX11_reaches 117 = .ok (.aload_n 0, 1) := by decide +kernel
theorem dX11_reaches_118 : decode cX11_reaches 118 = .ok (.getfield 176, 3) := by decide +kernel
theorem dX11_reaches_121 : decode cX11_reaches 121 = .ok (.iastore, 1) := by decide +kernel
theorem dX11_reaches_122 : decode cX11_reaches 122 = .ok (.aload_n 0, 1) := by decide +kernel
theorem dX11_reaches_123 : decode cX11_reaches 123 = .ok (.getfield 48, 3) := by decide +kernel
theorem dX11_reaches_126 : decode cX11_reaches 126 = .ok (.iload_n 3, 1) := by decide +kernel
theorem dX11_reaches_127 : decode cX11_reaches 127 = .ok (.aload_n 0, 1) := by decide +kernel
theorem dX11_reaches_128 : decode cX11_reaches 128 = .ok (.getfield 39, 3) := by decide +kernel
theorem dX11_reaches_131 : decode cX11_reaches 131 = .ok (.iload 5, 2) := by decide +kernel
theorem dX11_reaches_133 : decode cX11_reaches 133 = .ok (.iaload, 1) := by decide +kernel
theorem dX11_reaches_134 : decode cX11_reaches 134 = .ok (.iastore, 1) := by decide +kernel
theorem dX11_reaches_135 : decode cX11_reaches 135 = .ok (.iinc 3 1, 3) := by decide +kernel
theorem dX11_reaches_138 : decode cX11_reaches 138 = .ok (.aload_n 0, 1) := by decide +kernel
theorem dX11_reaches_139 : decode cX11_reaches 139 = .ok (.getfield 36, 3) := by decide +kernel
theorem dX11_reaches_142 : decode cX11_reaches 142 = .ok (.iload 5, 2) := by decide +kernel
theorem dX11_reaches_144 : decode cX11_reaches 144 = .ok (.iaload, 1) := by decide +kernel
theorem dX11_reaches_145 : decode cX11_reaches 145 = .ok (.istore 5, 2) := by decide +kernel
theorem dX11_reaches_147 : decode cX11_reaches 147 = .ok (.goto (-66), 3) := by decide +kernel
theorem dX11_reaches_150 : decode cX11_reaches 150 = .ok (.goto (-119), 3) := by decide +kernel
theorem dX11_reaches_153 : decode cX11_reaches 153 = .ok (.iload_n 2, 1) := by decide +kernel
theorem dX11_reaches_154 : decode cX11_reaches 154 = .ok (.ireturn, 1) := by decide +kernel
theorem dX11_follows_0 : decode cX11_follows 0 = .ok (.aload_n 0, 1) := by decide +kernel
theorem dX11_follows_1 : decode cX11_follows 1 = .ok (.iload_n 1, 1) := by decide +kernel
theorem dX11_follows_2 : decode cX11_follows 2 = .ok (.iconst 2, 1) := by decide +kernel
theorem dX11_follows_3 : decode cX11_follows 3 = .ok (.aload_n 0, 1) := by decide +kernel
theorem dX11_follows_4 : decode cX11_follows 4 = .ok (.iload_n 2, 1) := by decide +kernel
theorem dX11_follows_5 : decode cX11_follows 5 = .ok (.invokevirtual 179, 3) := by decide +kernel
theorem dX11_follows_8 : decode cX11_follows 8 = .ok (.invokevirtual 172, 3) := by decide +kernel
theorem dX11_follows_11 : decode cX11_follows 11 = .ok (.aload_n 0, 1) := by decide +kernel
theorem dX11_follows_12 : decode cX11_follows 12 = .ok (.iload_n 1, 1) := by decide +kernel
theorem dX11_follows_13 : decode cX11_follows 13 = .ok (.iconst 1, 1) := by decide +kernel
theorem dX11_follows_14 : decode cX11_follows 14 = .ok (.aload_n 0, 1) := by decide +kernel
theorem dX11_follows_15 : decode cX11_follows 15 = .ok (.getfield 45, 3) := by decide +kernel
theorem dX11_follows_18 : decode cX11_follows 18 = .ok (.iload_n 3, 1) := by decide +kernel
theorem dX11_follows_19 : decode cX11_follows 19 = .ok (.iaload, 1) := by decide +kernel
theorem dX11_follows_20 : decode cX11_follows 20 = .ok (.aload_n 0, 1) := by decide +kernel
theorem dX11_follows_21 : decode cX11_follows 21 = .ok (.getfield 176, 3) := by decide +kernel
theorem dX11_follows_24 : decode cX11_follows 24 = .ok (.if_icmp .ne 7, 3) := by decide +kernel
theorem dX11_follows_27 : decode cX11_follows 27 = .ok (.iconst 1, 1) := by decide +kernel
theorem dX11_follows_28 : decode cX11_follows 28 = .ok (.goto 4, 3) := by decide +kernel
theorem dX11_follows_31 : decode cX11_follows 31 = .ok (.iconst 0, 1) := by decide +kernel
theorem dX11_follows_32 : decode cX11_follows 32 = .ok (.invokevirtual 172, 3) := by decide +kernel
theorem dX11_follows_35 : decode cX11_follows 35 = .ok (.iconst 0, 1) := by decide +kernel
theorem dX11_follows_36 : decode cX11_follows 36 = .ok (.istore 4, 2) := by decide +kernel
theorem dX11_follows_38 : decode cX11_follows 38 = .ok (.iconst 1, 1) := by decide +kernel
theorem dX11_follows_39 : decode cX11_follows 39 = .ok (.istore 5, 2) := by decide +kernel
theorem dX11_follows_41 : decode cX11_follows 41 = .ok (.iload 5, 2) := by decide +kernel
theorem dX11_follows_43 : decode cX11_follows 43 = .ok (.aload_n 0, 1) := by decide +kernel
theorem dX11_follows_44 : decode cX11_follows 44 = .ok (.getfield 169, 3) := by decide +kernel
theorem dX11_follows_47 : decode cX11_follows 47 = .ok (.if_icmp .gt 56, 3) := by decide +kernel
theorem dX11_follows_50 : decode cX11_follows 50 = .ok (.aload_n 0, 1) := by decide +kernel
theorem dX11_follows_51 : decode cX11_follows 51 = .ok (.iload_n 1, 1) := by decide +kernel
theorem dX11_follows_52 : decode cX11_follows 52 = .ok (.bipush 6, 2) := by decide +kernel
theorem dX11_follows_54 : decode cX11_follows 54 = .ok (.iload 5, 2) := by decide +kernel
theorem dX11_follows_56 : decode cX11_follows 56 = .ok (.iadd, 1) := by decide +kernel
theorem dX11_follows_57 : decode cX11_follows 57 = .ok (.aload_n 0, 1) := by decide +kernel
theorem dX11_follows_58 : decode cX11_follows 58 = .ok (.aload_n 0, 1) := by decide +kernel
theorem dX11_follows_59 : decode cX11_follows 59 = .ok (.getfield 51, 3) := by decide +kernel
theorem dX11_follows_62 : decode cX11_follows 62 = .ok (.iload 5, 2) := by decide +kernel
theorem dX11_follows_64 : decode cX11_follows 64 = .ok (.iaload, 1) := by decide +kernel
theorem dX11_follows_65 : decode cX11_follows 65 = .ok (.invokevirtual 179, 3) := by decide +kernel
theorem dX11_follows_68 : decode cX11_follows 68 = .ok (.invokevirtual 172, 3) := by decide +kernel
theorem dX11_follows_71 : decode cX11_follows 71 = .ok (.iload 4, 2) := by decide +kernel
theorem dX11_follows_73 : decode cX11_follows 73 = .ok (.aload_n 0, 1) := by decide +kernel
theorem dX11_follows_74 : decode cX11_follows 74 = .ok (.getfield 45, 3) := by decide +kernel
theorem dX11_follows_77 : decode cX11_follows 77 = .ok (.iload_n 3, 1) := by decide +kernel
theorem dX11_follows_78 : decode cX11_follows 78 = .ok (.iaload, 1) := by decide +kernel
theorem dX11_follows_79 : decode cX11_follows 79 = .ok (.aload_n 0, 1) := by decide +kernel
theorem dX11_follows_80 : decode cX11_follows 80 = .ok (.getfield 176, 3) := by decide +kernel
theorem dX11_follows_83 : decode cX11_follows 83 = .ok (.if_icmp .ne 10, 3) := by decide +kernel
theorem dX11_follows_86 : decode cX11_follows 86 = .ok (.iconst 1, 1) := by decide +kernel
theorem dX11_follows_87 : decode cX11_follows 87 = .ok (.iload 5, 2) := by decide +kernel
theorem dX11_follows_89 : decode cX11_follows 89 = .ok (.ishl, 1) := by decide +kernel
theorem dX11_follows_90 : decode cX11_follows 90 = .ok (.goto 4, 3) := by decide +kernel
theorem dX11_follows_93 : decode cX11_follows 93 = .ok (.iconst 0, 1) := by decide +kernel
theorem dX11_follows_94 : decode cX11_follows 94 = .ok (.ior, 1) := by decide +kernel
theorem dX11_follows_95 : decode cX11_follows 95 = .ok (.istore 4, 2) := by decide +kernel
theorem dX11_follows_97 : decode cX11_follows 97 = .ok (.iinc 5 1, 3) := by decide +kernel
theorem dX11_follows_100 : decode cX11_follows 100 = .ok (.goto (-59), 3) := by decide +kernel
theorem dX11_follows_103 : decode cX11_follows 103 = .ok (.aload_n 0, 1) := by decide +kernel
theorem dX11_follows_104 : decode cX11_follows 104 = .ok (.iload_n 1, 1) := by decide +kernel
theorem dX11_follows_105 : decode cX11_follows 105 = .ok (.iconst 3, 1) := by decide +kernel
theorem dX11_follows_106 : decode cX11_follows 106 = .ok (.iload 4, 2) := by decide +kernel
theorem dX11_follows_108 : decode cX11_follows 108 = .ok (.invokevirtual 172, 3) := by decide +kernel
theorem dX11_follows_111 : decode cX11_follows 111 = .ok (.aload_n 0, 1) := by decide +kernel
theorem dX11_follows_112 : decode cX11_follows 112 = .ok (.iload_n 1, 1) := by decide +kernel
theorem dX11_follows_113 : decode cX11_follows 113 = .ok (.iconst 0, 1) := by decide +kernel
theorem dX11_follows_114 : decode cX11_follows 114 = .ok (.aload_n 0, 1) := by decide +kernel
theorem dX11_follows_115 : decode cX11_follows 115 = .ok (.getfield 169, 3) := by decide +kernel
theorem dX11_follows_118 : decode cX11_follows 118 = .ok (.invokevirtual 172, 3) := by decide +kernel
theorem dX11_follows_121 : decode cX11_follows 121 = .ok (.aload_n 0, 1) := by decide +kernel
theorem dX11_follows_122 : decode cX11_follows 122 = .ok (.iload_n 1, 1) := by decide +kernel
theorem dX11_follows_123 : decode cX11_follows 123 = .ok (.iconst 4, 1) := by decide +kernel
theorem dX11_follows_124 : decode cX11_follows 124 = .ok (.aload_n 0, 1) := by decide +kernel
theorem dX11_follows_125 : decode cX11_follows 125 = .ok (.getfield 157, 3) := by decide +kernel
theorem dX11_follows_128 : decode cX11_follows 128 = .ok (.invokevirtual 172, 3) := by decide +kernel
theorem dX11_follows_131 : decode cX11_follows 131 = .ok (.return_, 1) := by decide +kernel
theorem dX11_leads_0 : decode cX11_leads 0 = .ok (.iload_n 2, 1) := by decide +kernel
theorem dX11_leads_1 : decode cX11_leads 1 = .ok (.iconst 1, 1) := by decide +kernel
theorem dX11_leads_2 : decode cX11_leads 2 = .ok (.iand, 1) := by decide +kernel
theorem dX11_leads_3 : decode cX11_leads 3 = .ok (.iconst 1, 1) := by decide +kernel
theorem dX11_leads_4 : decode cX11_leads 4 = .ok (.if_icmp .ne 12, 3) := by decide +kernel
theorem dX11_leads_7 : decode cX11_leads 7 = .ok (.aload_n 0, 1) := by decide +kernel
theorem dX11_leads_8 : decode cX11_leads 8 = .ok (.iload_n 1, 1) := by decide +kernel
theorem dX11_leads_9 : decode cX11_leads 9 = .ok (.iconst 2, 1) := by decide +kernel
theorem dX11_leads_10 : decode cX11_leads 10 = .ok (.invokevirtual 115, 3) := by decide +kernel
theorem dX11_leads_13 : decode cX11_leads 13 = .ok (.goto 4, 3) := by decide +kernel
theorem dX11_leads_16 : decode cX11_leads 16 = .ok (.iconst 0, 1) := by decide +kernel
theorem dX11_leads_17 : decode cX11_leads 17 = .ok (.istore 4, 2) := by decide +kernel
theorem dX11_leads_19 : decode cX11_leads 19 = .ok (.iconst 1, 1) := by decide +kernel
theorem dX11_leads_20 : decode cX11_leads 20 = .ok (.istore 5, 2) := by decide +kernel
theorem dX11_leads_22 : decode cX11_leads 22 = .ok (.iload 5, 2) := by decide +kernel
theorem dX11_leads_24 : decode cX11_leads 24 = .ok (.aload_n 0, 1) := by decide +kernel
theorem dX11_leads_25 : decode cX11_leads 25 = .ok (.iload_n 1, 1) := by decide +kernel
theorem dX11_leads_26 : decode cX11_leads 26 = .ok (.iconst 0, 1) := by decide +kernel
theorem dX11_leads_27 : decode cX11_leads 27 = .ok (.invokevirtual 115, 3) := by decide +kernel
theorem dX11_leads_30 : decode cX11_leads 30 = .ok (.if_icmp .gt 38, 3) := by decide +kernel
theorem dX11_leads_33 : decode cX11_leads 33 = .ok (.iload 4, 2) := by decide +kernel
theorem dX11_leads_35 : decode cX11_leads 35 = .ok (.iload_n 2, 1) := by decide +kernel
theorem dX11_leads_36 : decode cX11_leads 36 = .ok (.iload 5, 2) := by decide +kernel
theorem dX11_leads_38 : decode cX11_leads 38 = .ok (.ishr, 1) := by decide +kernel
theorem dX11_leads_39 : decode cX11_leads 39 = .ok (.iconst 1, 1) := by decide +kernel
theorem dX11_leads_40 : decode cX11_leads 40 = .ok (.iand, 1) := by decide +kernel
theorem dX11_leads_41 : decode cX11_leads 41 = .ok (.iconst 1, 1) := by decide +kernel
theorem dX11_leads_42 : decode cX11_leads 42 = .ok (.if_icmp .ne 16, 3) := by decide +kernel
theorem dX11_leads_45 : decode cX11_leads 45 = .ok (.aload_n 0, 1) := by decide +kernel
theorem dX11_leads_46 : decode cX11_leads 46 = .ok (.iload_n 1, 1) := by decide +kernel
theorem dX11_leads_47 : decode cX11_leads 47 = .ok (.bipush 6, 2) := by decide +kernel
theorem dX11_leads_49 : decode cX11_leads 49 = .ok (.iload 5, 2) := by decide +kernel
theorem dX11_leads_51 : decode cX11_leads 51 = .ok (.iadd, 1) := by decide +kernel
theorem dX11_leads_52 : decode cX11_leads 52 = .ok (.invokevirtual 115, 3) := by decide +kernel
theorem dX11_leads_55 : decode cX11_leads 55 = .ok (.goto 4, 3) := by decide +kernel
theorem dX11_leads_58 : decode cX11_leads 58 = .ok (.iconst 0, 1) := by decide +kernel
theorem dX11_leads_59 : decode cX11_leads 59 = .ok (.ior, 1) := by decide +kernel
theorem dX11_leads_60 : decode cX11_leads 60 = .ok (.istore 4, 2) := by decide +kernel
theorem dX11_leads_62 : decode cX11_leads 62 = .ok (.iinc 5 1, 3) := by decide +kernel
theorem dX11_leads_65 : decode cX11_leads 65 = .ok (.goto (-43), 3) := by decide +kernel
theorem dX11_leads_68 : decode cX11_leads 68 = .ok (.iconst 0, 1) := by decide +kernel
theorem dX11_leads_69 : decode cX11_leads 69 = .ok (.istore 5, 2) := by decide +kernel
theorem dX11_leads_71 : decode cX11_leads 71 = .ok (.iconst 1, 1) := by decide +kernel
theorem dX11_leads_72 : decode cX11_leads 72 = .ok (.istore 6, 2) := by decide +kernel
theorem dX11_leads_74 : decode cX11_leads 74 = .ok (.iload 6, 2) := by decide +kernel
theorem dX11_leads_76 : decode cX11_leads 76 = .ok (.aload_n 0, 1) := by decide +kernel
theorem dX11_leads_77 : decode cX11_leads 77 = .ok (.iload_n 1, 1) := by decide +kernel
theorem dX11_leads_78 : decode cX11_leads 78 = .ok (.iconst 0, 1) := by decide +kernel
theorem dX11_leads_79 : decode cX11_leads 79 = .ok (.invokevirtual 115, 3) := by decide +kernel
theorem dX11_leads_82 : decode cX11_leads 82 = .ok (.if_icmp .gt 58, 3) := by decide +kernel
theorem dX11_leads_85 : decode cX11_leads 85 = .ok (.aload_n 0, 1) := by decide +kernel
theorem dX11_leads_86 : decode cX11_leads 86 = .ok (.iload_n 1, 1) := by decide +kernel
theorem dX11_leads_87 : decode cX11_leads 87 = .ok (.bipush 31, 2) := by decide +kernel
theorem dX11_leads_89 : decode cX11_leads 89 = .ok (.iload 6, 2) := by decide +kernel
theorem dX11_leads_91 : decode cX11_leads 91 = .ok (.iadd, 1) := by decide +kernel
theorem dX11_leads_92 : decode cX11_leads 92 = .ok (.invokevirtual 115, 3) := by decide +kernel
theorem dX11_leads_95 : decode cX11_leads 95 = .ok (.istore 7, 2) := by decide +kernel
theorem dX11_leads_97 : decode cX11_leads 97 = .ok (.iload 5, 2) := by decide +kernel
theorem dX11_leads_99 : decode cX11_leads 99 = .ok (.iload 4, 2) := by decide +kernel
theorem dX11_leads_101 : decode cX11_leads 101 = .ok (.iload 6, 2) := by decide +kernel
theorem dX11_leads_103 : decode cX11_leads 103 = .ok (.ishr, 1) := by decide +kernel
theorem dX11_leads_104 : decode cX11_leads 104 = .ok (.iconst 1, 1) := by decide +kernel
theorem dX11_leads_105 : decode cX11_leads 105 = .ok (.iand, 1) := by decide +kernel
theorem dX11_leads_106 : decode cX11_leads 106 = .ok (.iconst 1, 1) := by decide +kernel
theorem dX11_leads_107 : decode cX11_leads 107 = .ok (.if_icmp .ne 23, 3) := by decide +kernel
theorem dX11_leads_110 : decode cX11_leads 110 = .ok (.iload 7, 2) := by decide +kernel
theorem dX11_leads_112 : decode cX11_leads 112 = .ok (.bipush 6, 2) := by decide +kernel
theorem dX11_leads_114 : decode cX11_leads 114 = .ok (.if_icmp .eq 9, 3) := by decide +kernel
theorem dX11_leads_117 : decode cX11_leads 117 = .ok (.iload 7, 2) := by decide +kernel
theorem dX11_leads_119 : decode cX11_leads 119 = .ok (.iload_n 3, 1) := by decide +kernel
theorem dX11_leads_120 : decode cX11_leads 120 = .ok (.if_icmp .ne 10, 3) := by decide +kernel
theorem dX11_leads_123 : decode cX11_leads 123 = .ok (.iconst 1, 1) := by decide +kernel
theorem dX11_leads_124 : decode cX11_leads 124 = .ok (.iload 6, 2) := by decide +kernel
theorem dX11_leads_126 : decode cX11_leads 126 = .ok (.ishl, 1) := by decide +kernel
theorem dX11_leads_127 : decode cX11_leads 127 = .ok (.goto 4, 3) := by decide +kernel
theorem dX11_leads_130 : decode cX11_leads 130 = .ok (.iconst 0, 1) := by decide +kernel
theorem dX11_leads_131 : decode cX11_leads 131 = .ok (.ior, 1) := by decide +kernel
theorem dX11_leads_132 : decode cX11_leads 132 = .ok (.istore 5, 2) := by decide +kernel
theorem dX11_leads_134 : decode cX11_leads 134 = .ok (.iinc 6 1, 3) := by decide +kernel
theorem dX11_leads_137 : decode cX11_leads 137 = .ok (.goto (-63), 3) := by decide +kernel
theorem dX11_leads_140 : decode cX11_leads 140 = .ok (.iload 5, 2) := by decide +kernel
theorem dX11_leads_142 : decode cX11_leads 142 = .ok (.ireturn, 1) := by decide +kernel
theorem dX11_stateOf_0 : decode cX11_stateOf 0 = .ok (.aload_n 0, 1) := by decide +kernel
theorem dX11_stateOf_1 : decode cX11_stateOf 1 = .ok (.iload_n 1, 1) := by decide +kernel
theorem dX11_stateOf_2 : decode cX11_stateOf 2 = .ok (.iconst 5, 1) := by decide +kernel
theorem dX11_stateOf_3 : decode cX11_stateOf 3 = .ok (.invokevirtual 115, 3) := by decide +kernel
theorem dX11_stateOf_6 : decode cX11_stateOf 6 = .ok (.istore_n 3, 1) := by decide +kernel
theorem dX11_stateOf_7 : decode cX11_stateOf 7 = .ok (.iconst 0, 1) := by decide +kernel
theorem dX11_stateOf_8 : decode cX11_stateOf 8 = .ok (.istore 4, 2) := by decide +kernel
theorem dX11_stateOf_10 : decode cX11_stateOf 10 = .ok (.iload 4, 2) := by decide +kernel
theorem dX11_stateOf_12 : decode cX11_stateOf 12 = .ok (.iload_n 3, 1) := by decide +kernel
theorem dX11_stateOf_13 : decode cX11_stateOf 13 = .ok (.if_icmp .ge 26, 3) := by decide +kernel
theorem dX11_stateOf_16 : decode cX11_stateOf 16 = .ok (.aload_n 0, 1) := by decide +kernel
theorem dX11_stateOf_17 : decode cX11_stateOf 17 = .ok (.iload_n 1, 1) := by decide +kernel
theorem dX11_stateOf_18 : decode cX11_stateOf 18 = .ok (.bipush 56, 2) := by decide +kernel
theorem dX11_stateOf_20 : decode cX11_stateOf 20 = .ok (.iload 4, 2) := by decide +kernel
theorem dX11_stateOf_22 : decode cX11_stateOf 22 = .ok (.iadd, 1) := by decide +kernel
theorem dX11_stateOf_23 : decode cX11_stateOf 23 = .ok (.invokevirtual 115, 3) := by decide +kernel
theorem dX11_stateOf_26 : decode cX11_stateOf 26 = .ok (.iload_n 2, 1) := by decide +kernel
theorem dX11_stateOf_27 : decode cX11_stateOf 27 = .ok (.if_icmp .ne 6, 3) := by decide +kernel
theorem dX11_stateOf_30 : decode cX11_stateOf 30 = .ok (.iload 4, 2) := by decide +kernel
theorem dX11_stateOf_32 : decode cX11_stateOf 32 = .ok (.ireturn, 1) := by decide +kernel
theorem dX11_stateOf_33 : decode cX11_stateOf 33 = .ok (.iinc 4 1, 3) := by decide +kernel
theorem dX11_stateOf_36 : decode cX11_stateOf 36 = .ok (.goto (-26), 3) := by decide +kernel
theorem dX11_stateOf_39 : decode cX11_stateOf 39 = .ok (.iload_n 3, 1) := by decide +kernel
theorem dX11_stateOf_40 : decode cX11_stateOf 40 = .ok (.bipush 60, 2) := by decide +kernel
theorem dX11_stateOf_42 : decode cX11_stateOf 42 = .ok (.if_icmp .ne 5, 3) := by decide +kernel
theorem dX11_stateOf_45 : decode cX11_stateOf 45 = .ok (.iconst (-1), 1) := by decide +kernel
theorem dX11_stateOf_46 : decode cX11_stateOf 46 = .ok (.ireturn, 1) := by decide +kernel
theorem dX11_stateOf_47 : decode cX11_stateOf 47 = .ok (.aload_n 0, 1) := by decide +kernel
theorem dX11_stateOf_48 : decode cX11_stateOf 48 = .ok (.iload_n 1, 1) := by decide +kernel
theorem dX11_stateOf_49 : decode cX11_stateOf 49 = .ok (.bipush 56, 2) := by decide +kernel
theorem dX11_stateOf_51 : decode cX11_stateOf 51 = .ok (.iload_n 3, 1) := by decide +kernel
theorem dX11_stateOf_52 : decode cX11_stateOf 52 = .ok (.iadd, 1) := by decide +kernel
theorem dX11_stateOf_53 : decode cX11_stateOf 53 = .ok (.iload_n 2, 1) := by decide +kernel
theorem dX11_stateOf_54 : decode cX11_stateOf 54 = .ok (.invokevirtual 172, 3) := by decide +kernel
theorem dX11_stateOf_57 : decode cX11_stateOf 57 = .ok (.aload_n 0, 1) := by decide +kernel
theorem dX11_stateOf_58 : decode cX11_stateOf 58 = .ok (.iload_n 1, 1) := by decide +kernel
theorem dX11_stateOf_59 : decode cX11_stateOf 59 = .ok (.iconst 5, 1) := by decide +kernel
theorem dX11_stateOf_60 : decode cX11_stateOf 60 = .ok (.iload_n 3, 1) := by decide +kernel
theorem dX11_stateOf_61 : decode cX11_stateOf 61 = .ok (.iconst 1, 1) := by decide +kernel
theorem dX11_stateOf_62 : decode cX11_stateOf 62 = .ok (.iadd, 1) := by decide +kernel
theorem dX11_stateOf_63 : decode cX11_stateOf 63 = .ok (.invokevirtual 172, 3) := by decide +kernel
theorem dX11_stateOf_66 : decode cX11_stateOf 66 = .ok (.iload_n 3, 1) := by decide +kernel
theorem dX11_stateOf_67 : decode cX11_stateOf 67 = .ok (.ireturn, 1) := by decide +kernel
theorem dX11_determines_0 : decode cX11_determines 0 = .ok (.aload_n 0, 1) := by decide +kernel
theorem dX11_determines_1 : decode cX11_determines 1 = .ok (.iload_n 1, 1) := by decide +kernel
theorem dX11_determines_2 : decode cX11_determines 2 = .ok (.iconst 5, 1) := by decide +kernel
theorem dX11_determines_3 : decode cX11_determines 3 = .ok (.iconst 0, 1) := by decide +kernel
theorem dX11_determines_4 : decode cX11_determines 4 = .ok (.invokevirtual 172, 3) := by decide +kernel
theorem dX11_determines_7 : decode cX11_determines 7 = .ok (.aload_n 0, 1) := by decide +kernel
theorem dX11_determines_8 : decode cX11_determines 8 = .ok (.iload_n 1, 1) := by decide +kernel
theorem dX11_determines_9 : decode cX11_determines 9 = .ok (.iconst 1, 1) := by decide +kernel
theorem dX11_determines_10 : decode cX11_determines 10 = .ok (.invokevirtual 183, 3) := by decide +kernel
theorem dX11_determines_13 : decode cX11_determines 13 = .ok (.pop, 1) := by decide +kernel
theorem dX11_determines_14 : decode cX11_determines 14 = .ok (.iconst 0, 1) := by decide +kernel
theorem dX11_determines_15 : decode cX11_determines 15 = .ok (.istore_n 2, 1) := by decide +kernel
theorem dX11_determines_16 : decode cX11_determines 16 = .ok (.iload_n 2, 1) := by decide +kernel
theorem dX11_determines_17 : decode cX11_determines 17 = .ok (.aload_n 0, 1) := by decide +kernel
theorem dX11_determines_18 : decode cX11_determines 18 = .ok (.iload_n 1, 1) := by decide +kernel
theorem dX11_determines_19 : decode cX11_determines 19 = .ok (.iconst 5, 1) := by decide +kernel
theorem dX11_determines_20 : decode cX11_determines 20 = .ok (.invokevirtual 115, 3) := by decide +kernel
theorem dX11_determines_23 : decode cX11_determines 23 = .ok (.if_icmp .ge 73, 3) := by decide +kernel
theorem dX11_determines_26 : decode cX11_determines 26 = .ok (.iconst 0, 1) := by decide +kernel
theorem dX11_determines_27 : decode cX11_determines 27 = .ok (.istore_n 3, 1) := by decide +kernel
theorem dX11_determines_28 : decode cX11_determines 28 = .ok (.iload_n 3, 1) := by decide +kernel
theorem dX11_determines_29 : decode cX11_determines 29 = .ok (.bipush 6, 2) := by decide +kernel
theorem dX11_determines_31 : decode cX11_determines 31 = .ok (.if_icmp .ge 59, 3) := by decide +kernel
theorem dX11_determines_34 : decode cX11_determines 34 = .ok (.aload_n 0, 1) := by decide +kernel
theorem dX11_determines_35 : decode cX11_determines 35 = .ok (.iload_n 1, 1) := by decide +kernel
theorem dX11_determines_36 : decode cX11_determines 36 = .ok (.aload_n 0, 1) := by decide +kernel
theorem dX11_determines_37 : decode cX11_determines 37 = .ok (.iload_n 1, 1) := by decide +kernel
theorem dX11_determines_38 : decode cX11_determines 38 = .ok (.aload_n 0, 1) := by decide +kernel
theorem dX11_determines_39 : decode cX11_determines 39 = .ok (.iload_n 1, 1) := by decide +kernel
theorem dX11_determines_40 : decode cX11_determines 40 = .ok (.bipush 56, 2) := by decide +kernel
theorem dX11_determines_42 : decode cX11_determines 42 = .ok (.iload_n 2, 1) := by decide +kernel
theorem dX11_determines_43 : decode cX11_determines 43 = .ok (.iadd, 1) := by decide +kernel
theorem dX11_determines_44 : decode cX11_determines 44 = .ok (.invokevirtual 115, 3) := by decide +kernel
theorem dX11_determines_47 : decode cX11_determines 47 = .ok (.iload_n 3, 1) := by decide +kernel
theorem dX11_determines_48 : decode cX11_determines 48 = .ok (.invokevirtual 186, 3) := by decide +kernel
theorem dX11_determines_51 : decode cX11_determines 51 = .ok (.invokevirtual 183, 3) := by decide +kernel
theorem dX11_determines_54 : decode cX11_determines 54 = .ok (.istore 4, 2) := by decide +kernel
theorem dX11_determines_56 : decode cX11_determines 56 = .ok (.iload 4, 2) := by decide +kernel
theorem dX11_determines_58 : decode cX11_determines 58 = .ok (.iconst (-1), 1) := by decide +kernel
theorem dX11_determines_59 : decode cX11_determines 59 = .ok (.if_icmp .ne 9, 3) := by decide +kernel
theorem dX11_determines_62 : decode cX11_determines 62 = .ok (.aload_n 0, 1) := by decide +kernel
theorem dX11_determines_63 : decode cX11_determines 63 = .ok (.iconst 4, 1) := by decide +kernel
theorem dX11_determines_64 : decode cX11_determines 64 = .ok (.invokevirtual 163, 3) := by decide +kernel
theorem dX11_determines_67 : decode cX11_determines 67 = .ok (.ireturn, 1) := by decide +kernel
theorem dX11_determines_68 : decode cX11_determines 68 = .ok (.aload_n 0, 1) := by decide +kernel
theorem dX11_determines_69 : decode cX11_determines 69 = .ok (.iload_n 1, 1) := by decide +kernel
theorem dX11_determines_70 : decode cX11_determines 70 = .ok (.bipush 116, 2) := by decide +kernel
theorem dX11_determines_72 : decode cX11_determines 72 = .ok (.bipush 6, 2) := by decide +kernel
theorem dX11_determines_74 : decode cX11_determines 74 = .ok (.iload_n 2, 1) := by decide +kernel
theorem dX11_determines_75 : decode cX11_determines 75 = .ok (.imul, 1) := by decide +kernel
theorem dX11_determines_76 : decode cX11_determines 76 = .ok (.iadd, 1) := by decide +kernel
theorem dX11_determines_77 : decode cX11_determines 77 = .ok (.iload_n 3, 1) := by decide +kernel
theorem dX11_determines_78 : decode cX11_determines 78 = .ok (.iadd, 1) := by decide +kernel
theorem dX11_determines_79 : decode cX11_determines 79 = .ok (.iload 4, 2) := by decide +kernel
theorem dX11_determines_81 : decode cX11_determines 81 = .ok (.invokevirtual 172, 3) := by decide +kernel
theorem dX11_determines_84 : decode cX11_determines 84 = .ok (.iinc 3 1, 3) := by decide +kernel
theorem dX11_determines_87 : decode cX11_determines 87 = .ok (.goto (-59), 3) := by decide +kernel
theorem dX11_determines_90 : decode cX11_determines 90 = .ok (.iinc 2 1, 3) := by decide +kernel
theorem dX11_determines_93 : decode cX11_determines 93 = .ok (.goto (-77), 3) := by decide +kernel
theorem dX11_determines_96 : decode cX11_determines 96 = .ok (.iconst 1, 1) := by decide +kernel
theorem dX11_determines_97 : decode cX11_determines 97 = .ok (.ireturn, 1) := by decide +kernel
theorem dX11_restarts_0 : decode cX11_restarts 0 = .ok (.iconst 0, 1) := by decide +kernel
theorem dX11_restarts_1 : decode cX11_restarts 1 = .ok (.istore_n 2, 1) := by decide +kernel
theorem dX11_restarts_2 : decode cX11_restarts 2 = .ok (.iload_n 2, 1) := by decide +kernel
theorem dX11_restarts_3 : decode cX11_restarts 3 = .ok (.aload_n 0, 1) := by decide +kernel
theorem dX11_restarts_4 : decode cX11_restarts 4 = .ok (.getfield 7, 3) := by decide +kernel
theorem dX11_restarts_7 : decode cX11_restarts 7 = .ok (.sipush 952, 3) := by decide +kernel
theorem dX11_restarts_10 : decode cX11_restarts 10 = .ok (.iaload, 1) := by decide +kernel
theorem dX11_restarts_11 : decode cX11_restarts 11 = .ok (.if_icmp .ge 49, 3) := by decide +kernel
theorem dX11_restarts_14 : decode cX11_restarts 14 = .ok (.aload_n 0, 1) := by decide +kernel
theorem dX11_restarts_15 : decode cX11_restarts 15 = .ok (.iload_n 2, 1) := by decide +kernel
theorem dX11_restarts_16 : decode cX11_restarts 16 = .ok (.iconst 0, 1) := by decide +kernel
theorem dX11_restarts_17 : decode cX11_restarts 17 = .ok (.invokevirtual 190, 3) := by decide +kernel
theorem dX11_restarts_20 : decode cX11_restarts 20 = .ok (.iload_n 1, 1) := by decide +kernel
theorem dX11_restarts_21 : decode cX11_restarts 21 = .ok (.if_icmp .ne 33, 3) := by decide +kernel
theorem dX11_restarts_24 : decode cX11_restarts 24 = .ok (.aload_n 0, 1) := by decide +kernel
theorem dX11_restarts_25 : decode cX11_restarts 25 = .ok (.getfield 7, 3) := by decide +kernel
theorem dX11_restarts_28 : decode cX11_restarts 28 = .ok (.sipush 953, 3) := by decide +kernel
theorem dX11_restarts_31 : decode cX11_restarts 31 = .ok (.iconst 3, 1) := by decide +kernel
theorem dX11_restarts_32 : decode cX11_restarts 32 = .ok (.iload_n 2, 1) := by decide +kernel
theorem dX11_restarts_33 : decode cX11_restarts 33 = .ok (.imul, 1) := by decide +kernel
theorem dX11_restarts_34 : decode cX11_restarts 34 = .ok (.iadd, 1) := by decide +kernel
theorem dX11_restarts_35 : decode cX11_restarts 35 = .ok (.iconst 1, 1) := by decide +kernel
theorem dX11_restarts_36 : decode cX11_restarts 36 = .ok (.iadd, 1) := by decide +kernel
theorem dX11_restarts_37 : decode cX11_restarts 37 = .ok (.iconst 0, 1) := by decide +kernel
theorem dX11_restarts_38 : decode cX11_restarts 38 = .ok (.iastore, 1) := by decide +kernel
theorem dX11_restarts_39 : decode cX11_restarts 39 = .ok (.aload_n 0, 1) := by decide +kernel
theorem dX11_restarts_40 : decode cX11_restarts 40 = .ok (.getfield 7, 3) := by decide +kernel
theorem dX11_restarts_43 : decode cX11_restarts 43 = .ok (.sipush 953, 3) := by decide +kernel
theorem dX11_restarts_46 : decode cX11_restarts 46 = .ok (.iconst 3, 1) := by decide +kernel
theorem dX11_restarts_47 : decode cX11_restarts 47 = .ok (.iload_n 2, 1) := by decide +kernel
theorem dX11_restarts_48 : decode cX11_restarts 48 = .ok (.imul, 1) := by decide +kernel
theorem dX11_restarts_49 : decode cX11_restarts 49 = .ok (.iadd, 1) := by decide +kernel
theorem dX11_restarts_50 : decode cX11_restarts 50 = .ok (.iconst 2, 1) := by decide +kernel
theorem dX11_restarts_51 : decode cX11_restarts 51 = .ok (.iadd, 1) := by decide +kernel
theorem dX11_restarts_52 : decode cX11_restarts 52 = .ok (.iconst 0, 1) := by decide +kernel
theorem dX11_restarts_53 : decode cX11_restarts 53 = .ok (.iastore, 1) := by decide +kernel
theorem dX11_restarts_54 : decode cX11_restarts 54 = .ok (.iinc 2 1, 3) := by decide +kernel
theorem dX11_restarts_57 : decode cX11_restarts 57 = .ok (.goto (-55), 3) := by decide +kernel
theorem dX11_restarts_60 : decode cX11_restarts 60 = .ok (.return_, 1) := by decide +kernel
theorem dX11_clears_0 : decode cX11_clears 0 = .ok (.iconst 0, 1) := by decide +kernel
theorem dX11_clears_1 : decode cX11_clears 1 = .ok (.istore_n 2, 1) := by decide +kernel
theorem dX11_clears_2 : decode cX11_clears 2 = .ok (.iload_n 2, 1) := by decide +kernel
theorem dX11_clears_3 : decode cX11_clears 3 = .ok (.sipush 476, 3) := by decide +kernel
theorem dX11_clears_6 : decode cX11_clears 6 = .ok (.if_icmp .ge 16, 3) := by decide +kernel
theorem dX11_clears_9 : decode cX11_clears 9 = .ok (.aload_n 0, 1) := by decide +kernel
theorem dX11_clears_10 : decode cX11_clears 10 = .ok (.iload_n 1, 1) := by decide +kernel
theorem dX11_clears_11 : decode cX11_clears 11 = .ok (.iload_n 2, 1) := by decide +kernel
theorem dX11_clears_12 : decode cX11_clears 12 = .ok (.iconst 0, 1) := by decide +kernel
theorem dX11_clears_13 : decode cX11_clears 13 = .ok (.invokevirtual 172, 3) := by decide +kernel
theorem dX11_clears_16 : decode cX11_clears 16 = .ok (.iinc 2 1, 3) := by decide +kernel
theorem dX11_clears_19 : decode cX11_clears 19 = .ok (.goto (-17), 3) := by decide +kernel
theorem dX11_clears_22 : decode cX11_clears 22 = .ok (.return_, 1) := by decide +kernel
theorem dX11_compiles_0 : decode cX11_compiles 0 = .ok (.aload_n 0, 1) := by decide +kernel
theorem dX11_compiles_1 : decode cX11_compiles 1 = .ok (.iconst 0, 1) := by decide +kernel
theorem dX11_compiles_2 : decode cX11_compiles 2 = .ok (.putfield 92, 3) := by decide +kernel
theorem dX11_compiles_5 : decode cX11_compiles 5 = .ok (.aload_n 0, 1) := by decide +kernel
theorem dX11_compiles_6 : decode cX11_compiles 6 = .ok (.iconst (-1), 1) := by decide +kernel
theorem dX11_compiles_7 : decode cX11_compiles 7 = .ok (.putfield 25, 3) := by decide +kernel
theorem dX11_compiles_10 : decode cX11_compiles 10 = .ok (.aload_n 0, 1) := by decide +kernel
theorem dX11_compiles_11 : decode cX11_compiles 11 = .ok (.iload_n 1, 1) := by decide +kernel
theorem dX11_compiles_12 : decode cX11_compiles 12 = .ok (.invokevirtual 193, 3) := by decide +kernel
theorem dX11_compiles_15 : decode cX11_compiles 15 = .ok (.aload_n 0, 1) := by decide +kernel
theorem dX11_compiles_16 : decode cX11_compiles 16 = .ok (.iconst 0, 1) := by decide +kernel
theorem dX11_compiles_17 : decode cX11_compiles 17 = .ok (.putfield 119, 3) := by decide +kernel
theorem dX11_compiles_20 : decode cX11_compiles 20 = .ok (.aload_n 0, 1) := by decide +kernel
theorem dX11_compiles_21 : decode cX11_compiles 21 = .ok (.iconst 0, 1) := by decide +kernel
theorem dX11_compiles_22 : decode cX11_compiles 22 = .ok (.putfield 122, 3) := by decide +kernel
theorem dX11_compiles_25 : decode cX11_compiles 25 = .ok (.aload_n 0, 1) := by decide +kernel
theorem dX11_compiles_26 : decode cX11_compiles 26 = .ok (.iconst 0, 1) := by decide +kernel
theorem dX11_compiles_27 : decode cX11_compiles 27 = .ok (.putfield 176, 3) := by decide +kernel
theorem dX11_compiles_30 : decode cX11_compiles 30 = .ok (.aload_n 0, 1) := by decide +kernel
theorem dX11_compiles_31 : decode cX11_compiles 31 = .ok (.iconst 0, 1) := by decide +kernel
theorem dX11_compiles_32 : decode cX11_compiles 32 = .ok (.putfield 125, 3) := by decide +kernel
theorem dX11_compiles_35 : decode cX11_compiles 35 = .ok (.aload_n 0, 1) := by decide +kernel
theorem dX11_compiles_36 : decode cX11_compiles 36 = .ok (.iconst 0, 1) := by decide +kernel
theorem dX11_compiles_37 : decode cX11_compiles 37 = .ok (.putfield 160, 3) := by decide +kernel
theorem dX11_compiles_40 : decode cX11_compiles 40 = .ok (.aload_n 0, 1) := by decide +kernel
theorem dX11_compiles_41 : decode cX11_compiles 41 = .ok (.iconst 0, 1) := by decide +kernel
theorem dX11_compiles_42 : decode cX11_compiles 42 = .ok (.putfield 157, 3) := by decide +kernel
theorem dX11_compiles_45 : decode cX11_compiles 45 = .ok (.aload_n 0, 1) := by decide +kernel
theorem dX11_compiles_46 : decode cX11_compiles 46 = .ok (.iconst 0, 1) := by decide +kernel
theorem dX11_compiles_47 : decode cX11_compiles 47 = .ok (.putfield 169, 3) := by decide +kernel
theorem dX11_compiles_50 : decode cX11_compiles 50 = .ok (.aload_n 0, 1) := by decide +kernel
theorem dX11_compiles_51 : decode cX11_compiles 51 = .ok (.iload_n 1, 1) := by decide +kernel
theorem dX11_compiles_52 : decode cX11_compiles 52 = .ok (.invokevirtual 166, 3) := by decide +kernel
theorem dX11_compiles_55 : decode cX11_compiles 55 = .ok (.ifCond .ne 5, 3) := by decide +kernel
theorem dX11_compiles_58 : decode cX11_compiles 58 = .ok (.iconst 0, 1) := by decide +kernel
theorem dX11_compiles_59 : decode cX11_compiles 59 = .ok (.ireturn, 1) := by decide +kernel
theorem dX11_compiles_60 : decode cX11_compiles 60 = .ok (.aload_n 0, 1) := by decide +kernel
theorem dX11_compiles_61 : decode cX11_compiles 61 = .ok (.getfield 125, 3) := by decide +kernel
theorem dX11_compiles_64 : decode cX11_compiles 64 = .ok (.aload_n 0, 1) := by decide +kernel
theorem dX11_compiles_65 : decode cX11_compiles 65 = .ok (.getfield 89, 3) := by decide +kernel
theorem dX11_compiles_68 : decode cX11_compiles 68 = .ok (.if_icmp .ge 9, 3) := by decide +kernel
theorem dX11_compiles_71 : decode cX11_compiles 71 = .ok (.aload_n 0, 1) := by decide +kernel
theorem dX11_compiles_72 : decode cX11_compiles 72 = .ok (.iconst 1, 1) := by decide +kernel
theorem dX11_compiles_73 : decode cX11_compiles 73 = .ok (.invokevirtual 163, 3) := by decide +kernel
theorem dX11_compiles_76 : decode cX11_compiles 76 = .ok (.ireturn, 1) := by decide +kernel
theorem dX11_compiles_77 : decode cX11_compiles 77 = .ok (.aload_n 0, 1) := by decide +kernel
theorem dX11_compiles_78 : decode cX11_compiles 78 = .ok (.iload_n 1, 1) := by decide +kernel
theorem dX11_compiles_79 : decode cX11_compiles 79 = .ok (.aload_n 0, 1) := by decide +kernel
theorem dX11_compiles_80 : decode cX11_compiles 80 = .ok (.getfield 137, 3) := by decide +kernel
theorem dX11_compiles_83 : decode cX11_compiles 83 = .ok (.aload_n 0, 1) := by decide +kernel
theorem dX11_compiles_84 : decode cX11_compiles 84 = .ok (.getfield 144, 3) := by decide +kernel
theorem dX11_compiles_87 : decode cX11_compiles 87 = .ok (.invokevirtual 197, 3) := by decide +kernel
theorem dX11_compiles_90 : decode cX11_compiles 90 = .ok (.aload_n 0, 1) := by decide +kernel
theorem dX11_compiles_91 : decode cX11_compiles 91 = .ok (.iload_n 1, 1) := by decide +kernel
theorem dX11_compiles_92 : decode cX11_compiles 92 = .ok (.invokevirtual 200, 3) := by decide +kernel
theorem dX11_compiles_95 : decode cX11_compiles 95 = .ok (.ifCond .ne 5, 3) := by decide +kernel
theorem dX11_compiles_98 : decode cX11_compiles 98 = .ok (.iconst 0, 1) := by decide +kernel
theorem dX11_compiles_99 : decode cX11_compiles 99 = .ok (.ireturn, 1) := by decide +kernel
theorem dX11_compiles_100 : decode cX11_compiles 100 = .ok (.aload_n 0, 1) := by decide +kernel
theorem dX11_compiles_101 : decode cX11_compiles 101 = .ok (.iload_n 1, 1) := by decide +kernel
theorem dX11_compiles_102 : decode cX11_compiles 102 = .ok (.invokevirtual 203, 3) := by decide +kernel
theorem dX11_compiles_105 : decode cX11_compiles 105 = .ok (.iconst 1, 1) := by decide +kernel
theorem dX11_compiles_106 : decode cX11_compiles 106 = .ok (.ireturn, 1) := by decide +kernel
theorem dX11_append_0 : decode cX11_append 0 = .ok (.aload_n 0, 1) := by decide +kernel
theorem dX11_append_1 : decode cX11_append 1 = .ok (.iconst 0, 1) := by decide +kernel
theorem dX11_append_2 : decode cX11_append 2 = .ok (.putfield 95, 3) := by decide +kernel
theorem dX11_append_5 : decode cX11_append 5 = .ok (.aload_n 0, 1) := by decide +kernel
theorem dX11_append_6 : decode cX11_append 6 = .ok (.getfield 89, 3) := by decide +kernel
theorem dX11_append_9 : decode cX11_append 9 = .ok (.bipush 20, 2) := by decide +kernel
theorem dX11_append_11 : decode cX11_append 11 = .ok (.iadd, 1) := by decide +kernel
theorem dX11_append_12 : decode cX11_append 12 = .ok (.sipush 200, 3) := by decide +kernel
theorem dX11_append_15 : decode cX11_append 15 = .ok (.if_icmp .le 5, 3) := by decide +kernel
theorem dX11_append_18 : decode cX11_append 18 = .ok (.iconst (-1), 1) := by decide +kernel
theorem dX11_append_19 : decode cX11_append 19 = .ok (.ireturn, 1) := by decide +kernel
theorem dX11_append_20 : decode cX11_append 20 = .ok (.aload_n 0, 1) := by decide +kernel
theorem dX11_append_21 : decode cX11_append 21 = .ok (.iload_n 1, 1) := by decide +kernel
theorem dX11_append_22 : decode cX11_append 22 = .ok (.invokevirtual 206, 3) := by decide +kernel
theorem dX11_append_25 : decode cX11_append 25 = .ok (.aload_n 0, 1) := by decide +kernel
theorem dX11_append_26 : decode cX11_append 26 = .ok (.iload_n 2, 1) := by decide +kernel
theorem dX11_append_27 : decode cX11_append 27 = .ok (.invokevirtual 206, 3) := by decide +kernel
theorem dX11_append_30 : decode cX11_append 30 = .ok (.aload_n 0, 1) := by decide +kernel
theorem dX11_append_31 : decode cX11_append 31 = .ok (.iload_n 3, 1) := by decide +kernel
theorem dX11_append_32 : decode cX11_append 32 = .ok (.invokevirtual 206, 3) := by decide +kernel
theorem dX11_append_35 : decode cX11_append 35 = .ok (.aload_n 0, 1) := by decide +kernel
theorem dX11_append_36 : decode cX11_append 36 = .ok (.iload 4, 2) := by decide +kernel
theorem dX11_append_38 : decode cX11_append 38 = .ok (.invokevirtual 206, 3) := by decide +kernel
theorem dX11_append_41 : decode cX11_append 41 = .ok (.aload_n 0, 1) := by decide +kernel
theorem dX11_append_42 : decode cX11_append 42 = .ok (.iload 5, 2) := by decide +kernel
theorem dX11_append_44 : decode cX11_append 44 = .ok (.invokevirtual 206, 3) := by decide +kernel
theorem dX11_append_47 : decode cX11_append 47 = .ok (.aload_n 0, 1) := by decide +kernel
theorem dX11_append_48 : decode cX11_append 48 = .ok (.getfield 89, 3) := by decide +kernel
theorem dX11_append_51 : decode cX11_append 51 = .ok (.ireturn, 1) := by decide +kernel
theorem dX11_put_0 : decode cX11_put 0 = .ok (.bipush 24, 2) := by decide +kernel
theorem dX11_put_2 : decode cX11_put 2 = .ok (.istore_n 2, 1) := by decide +kernel
theorem dX11_put_3 : decode cX11_put 3 = .ok (.iload_n 2, 1) := by decide +kernel
theorem dX11_put_4 : decode cX11_put 4 = .ok (.ifCond .lt 35, 3) := by decide +kernel
theorem dX11_put_7 : decode cX11_put 7 = .ok (.aload_n 0, 1) := by decide +kernel
theorem dX11_put_8 : decode cX11_put 8 = .ok (.getfield 22, 3) := by decide +kernel
theorem dX11_put_11 : decode cX11_put 11 = .ok (.aload_n 0, 1) := by decide +kernel
theorem dX11_put_12 : decode cX11_put 12 = .ok (.getfield 89, 3) := by decide +kernel
theorem dX11_put_15 : decode cX11_put 15 = .ok (.iload_n 1, 1) := by decide +kernel
theorem dX11_put_16 : decode cX11_put 16 = .ok (.iload_n 2, 1) := by decide +kernel
theorem dX11_put_17 : decode cX11_put 17 = .ok (.ishr, 1) := by decide +kernel
theorem dX11_put_18 : decode cX11_put 18 = .ok (.sipush 255, 3) := by decide +kernel
theorem dX11_put_21 : decode cX11_put 21 = .ok (.iand, 1) := by decide +kernel
theorem dX11_put_22 : decode cX11_put 22 = .ok (.iastore, 1) := by decide +kernel
theorem dX11_put_23 : decode cX11_put 23 = .ok (.aload_n 0, 1) := by decide +kernel
theorem dX11_put_24 : decode cX11_put 24 = .ok (.dup, 1) := by decide +kernel
theorem dX11_put_25 : decode cX11_put 25 = .ok (.getfield 89, 3) := by decide +kernel
theorem dX11_put_28 : decode cX11_put 28 = .ok (.iconst 1, 1) := by decide +kernel
theorem dX11_put_29 : decode cX11_put 29 = .ok (.iadd, 1) := by decide +kernel
theorem dX11_put_30 : decode cX11_put 30 = .ok (.putfield 89, 3) := by decide +kernel
theorem dX11_put_33 : decode cX11_put 33 = .ok (.iinc 2 (-8), 3) := by decide +kernel
theorem dX11_put_36 : decode cX11_put 36 = .ok (.goto (-33), 3) := by decide +kernel
theorem dX11_put_39 : decode cX11_put 39 = .ok (.return_, 1) := by decide +kernel
theorem dX11_truncateInput_0 : decode cX11_truncateInput 0 = .ok (.aload_n 0, 1) := by decide +kernel
theorem dX11_truncateInput_1 : decode cX11_truncateInput 1 = .ok (.iload_n 1, 1) := by decide +kernel
theorem dX11_truncateInput_2 : decode cX11_truncateInput 2 = .ok (.iconst 0, 1) := by decide +kernel
theorem dX11_truncateInput_3 : decode cX11_truncateInput 3 = .ok (.aload_n 0, 1) := by decide +kernel
theorem dX11_truncateInput_4 : decode cX11_truncateInput 4 = .ok (.getfield 89, 3) := by decide +kernel
theorem dX11_truncateInput_7 : decode cX11_truncateInput 7 = .ok (.invokestatic 108, 3) := by decide +kernel
theorem dX11_truncateInput_10 : decode cX11_truncateInput 10 = .ok (.ifCond .ne 7, 3) := by decide +kernel
theorem dX11_truncateInput_13 : decode cX11_truncateInput 13 = .ok (.iconst 1, 1) := by decide +kernel
theorem dX11_truncateInput_14 : decode cX11_truncateInput 14 = .ok (.goto 4, 3) := by decide +kernel
theorem dX11_truncateInput_17 : decode cX11_truncateInput 17 = .ok (.iconst 0, 1) := by decide +kernel
theorem dX11_truncateInput_18 : decode cX11_truncateInput 18 = .ok (.invokevirtual 209, 3) := by decide +kernel
theorem dX11_truncateInput_21 : decode cX11_truncateInput 21 = .ok (.ifCond .eq 5, 3) := by decide +kernel
theorem dX11_truncateInput_24 : decode cX11_truncateInput 24 = .ok (.iconst 0, 1) := by decide +kernel
theorem dX11_truncateInput_25 : decode cX11_truncateInput 25 = .ok (.ireturn, 1) := by decide +kernel
theorem dX11_truncateInput_26 : decode cX11_truncateInput 26 = .ok (.aload_n 0, 1) := by decide +kernel
theorem dX11_truncateInput_27 : decode cX11_truncateInput 27 = .ok (.iload_n 1, 1) := by decide +kernel
theorem dX11_truncateInput_28 : decode cX11_truncateInput 28 = .ok (.putfield 89, 3) := by decide +kernel
theorem dX11_truncateInput_31 : decode cX11_truncateInput 31 = .ok (.iload_n 1, 1) := by decide +kernel
theorem dX11_truncateInput_32 : decode cX11_truncateInput 32 = .ok (.ireturn, 1) := by decide +kernel
theorem dX11_inputLength_0 : decode cX11_inputLength 0 = .ok (.aload_n 0, 1) := by decide +kernel
theorem dX11_inputLength_1 : decode cX11_inputLength 1 = .ok (.iconst 0, 1) := by decide +kernel
theorem dX11_inputLength_2 : decode cX11_inputLength 2 = .ok (.putfield 95, 3) := by decide +kernel
theorem dX11_inputLength_5 : decode cX11_inputLength 5 = .ok (.aload_n 0, 1) := by decide +kernel
theorem dX11_inputLength_6 : decode cX11_inputLength 6 = .ok (.getfield 89, 3) := by decide +kernel
theorem dX11_inputLength_9 : decode cX11_inputLength 9 = .ok (.ireturn, 1) := by decide +kernel
theorem dX11_begins_0 : decode cX11_begins 0 = .ok (.iconst 0, 1) := by decide +kernel
theorem dX11_begins_1 : decode cX11_begins 1 = .ok (.istore_n 1, 1) := by decide +kernel
theorem dX11_begins_2 : decode cX11_begins 2 = .ok (.iload_n 1, 1) := by decide +kernel
theorem dX11_begins_3 : decode cX11_begins 3 = .ok (.sipush 985, 3) := by decide +kernel
theorem dX11_begins_6 : decode cX11_begins 6 = .ok (.if_icmp .ge 21, 3) := by decide +kernel
theorem dX11_begins_9 : decode cX11_begins 9 = .ok (.aload_n 0, 1) := by decide +kernel
theorem dX11_begins_10 : decode cX11_begins 10 = .ok (.getfield 13, 3) := by decide +kernel
theorem dX11_begins_13 : decode cX11_begins 13 = .ok (.iload_n 1, 1) := by decide +kernel
theorem dX11_begins_14 : decode cX11_begins 14 = .ok (.aload_n 0, 1) := by decide +kernel
theorem dX11_begins_15 : decode cX11_begins 15 = .ok (.getfield 7, 3) := by decide +kernel
theorem dX11_begins_18 : decode cX11_begins 18 = .ok (.iload_n 1, 1) := by decide +kernel
theorem dX11_begins_19 : decode cX11_begins 19 = .ok (.iaload, 1) := by decide +kernel
theorem dX11_begins_20 : decode cX11_begins 20 = .ok (.iastore, 1) := by decide +kernel
theorem dX11_begins_21 : decode cX11_begins 21 = .ok (.iinc 1 1, 3) := by decide +kernel
theorem dX11_begins_24 : decode cX11_begins 24 = .ok (.goto (-22), 3) := by decide +kernel
theorem dX11_begins_27 : decode cX11_begins 27 = .ok (.return_, 1) := by decide +kernel
theorem dX11_takesBack_0 : decode cX11_takesBack 0 = .ok (.iconst 0, 1) := by decide +kernel
theorem dX11_takesBack_1 : decode cX11_takesBack 1 = .ok (.istore_n 1, 1) := by decide +kernel
theorem dX11_takesBack_2 : decode cX11_takesBack 2 = .ok (.iload_n 1, 1) := by decide +kernel
theorem dX11_takesBack_3 : decode cX11_takesBack 3 = .ok (.sipush 985, 3) := by decide +kernel
theorem dX11_takesBack_6 : decode cX11_takesBack 6 = .ok (.if_icmp .ge 21, 3) := by decide +kernel
theorem dX11_takesBack_9 : decode cX11_takesBack 9 = .ok (.aload_n 0, 1) := by decide +kernel
theorem dX11_takesBack_10 : decode cX11_takesBack 10 = .ok (.getfield 7, 3) := by decide +kernel
theorem dX11_takesBack_13 : decode cX11_takesBack 13 = .ok (.iload_n 1, 1) := by decide +kernel
theorem dX11_takesBack_14 : decode cX11_takesBack 14 = .ok (.aload_n 0, 1) := by decide +kernel
theorem dX11_takesBack_15 : decode cX11_takesBack 15 = .ok (.getfield 13, 3) := by decide +kernel
theorem dX11_takesBack_18 : decode cX11_takesBack 18 = .ok (.iload_n 1, 1) := by decide +kernel
theorem dX11_takesBack_19 : decode cX11_takesBack 19 = .ok (.iaload, 1) := by decide +kernel
theorem dX11_takesBack_20 : decode cX11_takesBack 20 = .ok (.iastore, 1) := by decide +kernel
theorem dX11_takesBack_21 : decode cX11_takesBack 21 = .ok (.iinc 1 1, 3) := by decide +kernel
theorem dX11_takesBack_24 : decode cX11_takesBack 24 = .ok (.goto (-22), 3) := by decide +kernel
theorem dX11_takesBack_27 : decode cX11_takesBack 27 = .ok (.return_, 1) := by decide +kernel
theorem dX11_remember_0 : decode cX11_remember 0 = .ok (.aload_n 0, 1) := by decide +kernel
theorem dX11_remember_1 : decode cX11_remember 1 = .ok (.getfield 213, 3) := by decide +kernel
theorem dX11_remember_4 : decode cX11_remember 4 = .ok (.bipush 8, 2) := by decide +kernel
theorem dX11_remember_6 : decode cX11_remember 6 = .ok (.if_icmp .ne 46, 3) := by decide +kernel
theorem dX11_remember_9 : decode cX11_remember 9 = .ok (.sipush 985, 3) := by decide +kernel
theorem dX11_remember_12 : decode cX11_remember 12 = .ok (.istore_n 1, 1) := by decide +kernel
theorem dX11_remember_13 : decode cX11_remember 13 = .ok (.iload_n 1, 1) := by decide +kernel
theorem dX11_remember_14 : decode cX11_remember 14 = .ok (.sipush 7880, 3) := by decide +kernel
theorem dX11_remember_17 : decode cX11_remember 17 = .ok (.if_icmp .ge 25, 3) := by decide +kernel
theorem dX11_remember_20 : decode cX11_remember 20 = .ok (.aload_n 0, 1) := by decide +kernel
theorem dX11_remember_21 : decode cX11_remember 21 = .ok (.getfield 16, 3) := by decide +kernel
theorem dX11_remember_24 : decode cX11_remember 24 = .ok (.iload_n 1, 1) := by decide +kernel
theorem dX11_remember_25 : decode cX11_remember 25 = .ok (.sipush 985, 3) := by decide +kernel
theorem dX11_remember_28 : decode cX11_remember 28 = .ok (.isub, 1) := by decide +kernel
theorem dX11_remember_29 : decode cX11_remember 29 = .ok (.aload_n 0, 1) := by decide +kernel
theorem dX11_remember_30 : decode cX11_remember 30 = .ok (.getfield 16, 3) := by decide +kernel
theorem dX11_remember_33 : decode cX11_remember 33 = .ok (.iload_n 1, 1) := by decide +kernel
theorem dX11_remember_34 : decode cX11_remember 34 = .ok (.iaload, 1) := by decide +kernel
theorem dX11_remember_35 : decode cX11_remember 35 = .ok (.iastore, 1) := by decide +kernel
theorem dX11_remember_36 : decode cX11_remember 36 = .ok (.iinc 1 1, 3) := by decide +kernel
theorem dX11_remember_39 : decode cX11_remember 39 = .ok (.goto (-26), 3) := by decide +kernel
theorem dX11_remember_42 : decode cX11_remember 42 = .ok (.aload_n 0, 1) := by decide +kernel
theorem dX11_remember_43 : decode cX11_remember 43 = .ok (.dup, 1) := by decide +kernel
theorem dX11_remember_44 : decode cX11_remember 44 = .ok (.getfield 213, 3) := by decide +kernel
theorem dX11_remember_47 : decode cX11_remember 47 = .ok (.iconst 1, 1) := by decide +kernel
theorem dX11_remember_48 : decode cX11_remember 48 = .ok (.isub, 1) := by decide +kernel
theorem dX11_remember_49 : decode cX11_remember 49 = .ok (.putfield 213, 3) := by decide +kernel
theorem dX11_remember_52 : decode cX11_remember 52 = .ok (.iconst 0, 1) := by decide +kernel
theorem dX11_remember_53 : decode cX11_remember 53 = .ok (.istore_n 1, 1) := by decide +kernel
theorem dX11_remember_54 : decode cX11_remember 54 = .ok (.iload_n 1, 1) := by decide +kernel
theorem dX11_remember_55 : decode cX11_remember 55 = .ok (.sipush 985, 3) := by decide +kernel
theorem dX11_remember_58 : decode cX11_remember 58 = .ok (.if_icmp .ge 30, 3) := by decide +kernel
theorem dX11_remember_61 : decode cX11_remember 61 = .ok (.aload_n 0, 1) := by decide +kernel
theorem dX11_remember_62 : decode cX11_remember 62 = .ok (.getfield 16, 3) := by decide +kernel
theorem dX11_remember_65 : decode cX11_remember 65 = .ok (.sipush 985, 3) := by decide +kernel
theorem dX11_remember_68 : decode cX11_remember 68 = .ok (.aload_n 0, 1) := by decide +kernel
theorem dX11_remember_69 : decode cX11_remember 69 = .ok (.getfield 213, 3) := by decide +kernel
theorem dX11_remember_72 : decode cX11_remember 72 = .ok (.imul, 1) := by decide +kernel
theorem dX11_remember_73 : decode cX11_remember 73 = .ok (.iload_n 1, 1) := by decide +kernel
theorem dX11_remember_74 : decode cX11_remember 74 = .ok (.iadd, 1) := by decide +kernel
theorem dX11_remember_75 : decode cX11_remember 75 = .ok (.aload_n 0, 1) := by decide +kernel
theorem dX11_remember_76 : decode cX11_remember 76 = .ok (.getfield 13, 3) := by decide +kernel
theorem dX11_remember_79 : decode cX11_remember 79 = .ok (.iload_n 1, 1) := by decide +kernel
theorem dX11_remember_80 : decode cX11_remember 80 = .ok (.iaload, 1) := by decide +kernel
theorem dX11_remember_81 : decode cX11_remember 81 = .ok (.iastore, 1) := by decide +kernel
theorem dX11_remember_82 : decode cX11_remember 82 = .ok (.iinc 1 1, 3) := by decide +kernel
theorem dX11_remember_85 : decode cX11_remember 85 = .ok (.goto (-31), 3) := by decide +kernel
theorem dX11_remember_88 : decode cX11_remember 88 = .ok (.aload_n 0, 1) := by decide +kernel
theorem dX11_remember_89 : decode cX11_remember 89 = .ok (.dup, 1) := by decide +kernel
theorem dX11_remember_90 : decode cX11_remember 90 = .ok (.getfield 213, 3) := by decide +kernel
theorem dX11_remember_93 : decode cX11_remember 93 = .ok (.iconst 1, 1) := by decide +kernel
theorem dX11_remember_94 : decode cX11_remember 94 = .ok (.iadd, 1) := by decide +kernel
theorem dX11_remember_95 : decode cX11_remember 95 = .ok (.putfield 213, 3) := by decide +kernel
theorem dX11_remember_98 : decode cX11_remember 98 = .ok (.return_, 1) := by decide +kernel
theorem dX11_compile_0 : decode cX11_compile 0 = .ok (.aload_n 0, 1) := by decide +kernel
theorem dX11_compile_1 : decode cX11_compile 1 = .ok (.iload_n 1, 1) := by decide +kernel
theorem dX11_compile_2 : decode cX11_compile 2 = .ok (.invokestatic 112, 3) := by decide +kernel
theorem dX11_compile_5 : decode cX11_compile 5 = .ok (.ifCond .ne 7, 3) := by decide +kernel
theorem dX11_compile_8 : decode cX11_compile 8 = .ok (.iconst 1, 1) := by decide +kernel
theorem dX11_compile_9 : decode cX11_compile 9 = .ok (.goto 4, 3) := by decide +kernel
theorem dX11_compile_12 : decode cX11_compile 12 = .ok (.iconst 0, 1) := by decide +kernel
theorem dX11_compile_13 : decode cX11_compile 13 = .ok (.invokevirtual 209, 3) := by decide +kernel
theorem dX11_compile_16 : decode cX11_compile 16 = .ok (.ifCond .eq 5, 3) := by decide +kernel
theorem dX11_compile_19 : decode cX11_compile 19 = .ok (.iconst 0, 1) := by decide +kernel
theorem dX11_compile_20 : decode cX11_compile 20 = .ok (.ireturn, 1) := by decide +kernel
theorem dX11_compile_21 : decode cX11_compile 21 = .ok (.aload_n 0, 1) := by decide +kernel
theorem dX11_compile_22 : decode cX11_compile 22 = .ok (.invokevirtual 216, 3) := by decide +kernel
theorem dX11_compile_25 : decode cX11_compile 25 = .ok (.aload_n 0, 1) := by decide +kernel
theorem dX11_compile_26 : decode cX11_compile 26 = .ok (.iload_n 1, 1) := by decide +kernel
theorem dX11_compile_27 : decode cX11_compile 27 = .ok (.invokevirtual 83, 3) := by decide +kernel
theorem dX11_compile_30 : decode cX11_compile 30 = .ok (.istore_n 2, 1) := by decide +kernel
theorem dX11_compile_31 : decode cX11_compile 31 = .ok (.aload_n 0, 1) := by decide +kernel
theorem dX11_compile_32 : decode cX11_compile 32 = .ok (.iconst 0, 1) := by decide +kernel
theorem dX11_compile_33 : decode cX11_compile 33 = .ok (.putfield 89, 3) := by decide +kernel
theorem dX11_compile_36 : decode cX11_compile 36 = .ok (.iload_n 2, 1) := by decide +kernel
theorem dX11_compile_37 : decode cX11_compile 37 = .ok (.ifCond .ne 9, 3) := by decide +kernel
theorem dX11_compile_40 : decode cX11_compile 40 = .ok (.aload_n 0, 1) := by decide +kernel
theorem dX11_compile_41 : decode cX11_compile 41 = .ok (.invokevirtual 219, 3) := by decide +kernel
theorem dX11_compile_44 : decode cX11_compile 44 = .ok (.iconst (-1), 1) := by decide +kernel
theorem dX11_compile_45 : decode cX11_compile 45 = .ok (.ireturn, 1) := by decide +kernel
theorem dX11_compile_46 : decode cX11_compile 46 = .ok (.aload_n 0, 1) := by decide +kernel
theorem dX11_compile_47 : decode cX11_compile 47 = .ok (.invokevirtual 222, 3) := by decide +kernel
theorem dX11_compile_50 : decode cX11_compile 50 = .ok (.aload_n 0, 1) := by decide +kernel
theorem dX11_compile_51 : decode cX11_compile 51 = .ok (.iload_n 1, 1) := by decide +kernel
theorem dX11_compile_52 : decode cX11_compile 52 = .ok (.iconst 0, 1) := by decide +kernel
theorem dX11_compile_53 : decode cX11_compile 53 = .ok (.invokevirtual 115, 3) := by decide +kernel
theorem dX11_compile_56 : decode cX11_compile 56 = .ok (.ireturn, 1) := by decide +kernel
theorem dX11_copyPattern_0 : decode cX11_copyPattern 0 = .ok (.aload_n 0, 1) := by decide +kernel
theorem dX11_copyPattern_1 : decode cX11_copyPattern 1 = .ok (.iload_n 1, 1) := by decide +kernel
theorem dX11_copyPattern_2 : decode cX11_copyPattern 2 = .ok (.invokestatic 112, 3) := by decide +kernel
theorem dX11_copyPattern_5 : decode cX11_copyPattern 5 = .ok (.ifCond .ne 7, 3) := by decide +kernel
theorem dX11_copyPattern_8 : decode cX11_copyPattern 8 = .ok (.iconst 1, 1) := by decide +kernel
theorem dX11_copyPattern_9 : decode cX11_copyPattern 9 = .ok (.goto 4, 3) := by decide +kernel
theorem dX11_copyPattern_12 : decode cX11_copyPattern 12 = .ok (.iconst 0, 1) := by decide +kernel
theorem dX11_copyPattern_13 : decode cX11_copyPattern 13 = .ok (.invokevirtual 209, 3) := by decide +kernel
theorem dX11_copyPattern_16 : decode cX11_copyPattern 16 = .ok (.ifCond .eq 5, 3) := by decide +kernel
theorem dX11_copyPattern_19 : decode cX11_copyPattern 19 = .ok (.iconst 0, 1) := by decide +kernel
theorem dX11_copyPattern_20 : decode cX11_copyPattern 20 = .ok (.ireturn, 1) := by decide +kernel
theorem dX11_copyPattern_21 : decode cX11_copyPattern 21 = .ok (.aload_n 0, 1) := by decide +kernel
theorem dX11_copyPattern_22 : decode cX11_copyPattern 22 = .ok (.invokevirtual 216, 3) := by decide +kernel
theorem dX11_copyPattern_25 : decode cX11_copyPattern 25 = .ok (.iconst 0, 1) := by decide +kernel
theorem dX11_copyPattern_26 : decode cX11_copyPattern 26 = .ok (.istore_n 2, 1) := by decide +kernel
theorem dX11_copyPattern_27 : decode cX11_copyPattern 27 = .ok (.iload_n 2, 1) := by decide +kernel
theorem dX11_copyPattern_28 : decode cX11_copyPattern 28 = .ok (.sipush 476, 3) := by decide +kernel
theorem dX11_copyPattern_31 : decode cX11_copyPattern 31 = .ok (.if_icmp .ge 23, 3) := by decide +kernel
theorem dX11_copyPattern_34 : decode cX11_copyPattern 34 = .ok (.aload_n 0, 1) := by decide +kernel
theorem dX11_copyPattern_35 : decode cX11_copyPattern 35 = .ok (.iconst 1, 1) := by decide +kernel
theorem dX11_copyPattern_36 : decode cX11_copyPattern 36 = .ok (.iload_n 1, 1) := by decide +kernel
theorem dX11_copyPattern_37 : decode cX11_copyPattern 37 = .ok (.isub, 1) := by decide +kernel
theorem dX11_copyPattern_38 : decode cX11_copyPattern 38 = .ok (.iload_n 2, 1) := by decide +kernel
theorem dX11_copyPattern_39 : decode cX11_copyPattern 39 = .ok (.aload_n 0, 1) := by decide +kernel
theorem dX11_copyPattern_40 : decode cX11_copyPattern 40 = .ok (.iload_n 1, 1) := by decide +kernel
theorem dX11_copyPattern_41 : decode cX11_copyPattern 41 = .ok (.iload_n 2, 1) := by decide +kernel
theorem dX11_copyPattern_42 : decode cX11_copyPattern 42 = .ok (.invokevirtual 115, 3) := by decide +kernel
theorem dX11_copyPattern_45 : decode cX11_copyPattern 45 = .ok (.invokevirtual 172, 3) := by decide +kernel
theorem dX11_copyPattern_48 : decode cX11_copyPattern 48 = .ok (.iinc 2 1, 3) := by decide +kernel
theorem dX11_copyPattern_51 : decode cX11_copyPattern 51 = .ok (.goto (-24), 3) := by decide +kernel
theorem dX11_copyPattern_54 : decode cX11_copyPattern 54 = .ok (.aload_n 0, 1) := by decide +kernel
theorem dX11_copyPattern_55 : decode cX11_copyPattern 55 = .ok (.iconst 1, 1) := by decide +kernel
theorem dX11_copyPattern_56 : decode cX11_copyPattern 56 = .ok (.iload_n 1, 1) := by decide +kernel
theorem dX11_copyPattern_57 : decode cX11_copyPattern 57 = .ok (.isub, 1) := by decide +kernel
theorem dX11_copyPattern_58 : decode cX11_copyPattern 58 = .ok (.invokevirtual 203, 3) := by decide +kernel
theorem dX11_copyPattern_61 : decode cX11_copyPattern 61 = .ok (.aload_n 0, 1) := by decide +kernel
theorem dX11_copyPattern_62 : decode cX11_copyPattern 62 = .ok (.invokevirtual 222, 3) := by decide +kernel
theorem dX11_copyPattern_65 : decode cX11_copyPattern 65 = .ok (.aload_n 0, 1) := by decide +kernel
theorem dX11_copyPattern_66 : decode cX11_copyPattern 66 = .ok (.iload_n 1, 1) := by decide +kernel
theorem dX11_copyPattern_67 : decode cX11_copyPattern 67 = .ok (.iconst 5, 1) := by decide +kernel
theorem dX11_copyPattern_68 : decode cX11_copyPattern 68 = .ok (.invokevirtual 115, 3) := by decide +kernel
theorem dX11_copyPattern_71 : decode cX11_copyPattern 71 = .ok (.ireturn, 1) := by decide +kernel
theorem dX11_addWalker_0 : decode cX11_addWalker 0 = .ok (.iload_n 1, 1) := by decide +kernel
theorem dX11_addWalker_1 : decode cX11_addWalker 1 = .ok (.invokestatic 112, 3) := by decide +kernel
theorem dX11_addWalker_4 : decode cX11_addWalker 4 = .ok (.istore_n 2, 1) := by decide +kernel
theorem dX11_addWalker_5 : decode cX11_addWalker 5 = .ok (.aload_n 0, 1) := by decide +kernel
theorem dX11_addWalker_6 : decode cX11_addWalker 6 = .ok (.iload_n 2, 1) := by decide +kernel
theorem dX11_addWalker_7 : decode cX11_addWalker 7 = .ok (.ifCond .ne 7, 3) := by decide +kernel
theorem dX11_addWalker_10 : decode cX11_addWalker 10 = .ok (.iconst 1, 1) := by decide +kernel
theorem dX11_addWalker_11 : decode cX11_addWalker 11 = .ok (.goto 4, 3) := by decide +kernel
theorem dX11_addWalker_14 : decode cX11_addWalker 14 = .ok (.iconst 0, 1) := by decide +kernel
theorem dX11_addWalker_15 : decode cX11_addWalker 15 = .ok (.iload_n 2, 1) := by decide +kernel
theorem dX11_addWalker_16 : decode cX11_addWalker 16 = .ok (.ifCond .eq 20, 3) := by decide +kernel
theorem dX11_addWalker_19 : decode cX11_addWalker 19 = .ok (.aload_n 0, 1) := by decide +kernel
theorem dX11_addWalker_20 : decode cX11_addWalker 20 = .ok (.getfield 7, 3) := by decide +kernel
theorem dX11_addWalker_23 : decode cX11_addWalker 23 = .ok (.sipush 952, 3) := by decide +kernel
theorem dX11_addWalker_26 : decode cX11_addWalker 26 = .ok (.iaload, 1) := by decide +kernel
theorem dX11_addWalker_27 : decode cX11_addWalker 27 = .ok (.bipush 6, 2) := by decide +kernel
theorem dX11_addWalker_29 : decode cX11_addWalker 29 = .ok (.if_icmp .ne 7, 3) := by decide +kernel
theorem dX11_addWalker_32 : decode cX11_addWalker 32 = .ok (.iconst 1, 1) := by decide +kernel
theorem dX11_addWalker_33 : decode cX11_addWalker 33 = .ok (.goto 4, 3) := by decide +kernel
theorem dX11_addWalker_36 : decode cX11_addWalker 36 = .ok (.iconst 0, 1) := by decide +kernel
theorem dX11_addWalker_37 : decode cX11_addWalker 37 = .ok (.invokevirtual 225, 3) := by decide +kernel
theorem dX11_addWalker_40 : decode cX11_addWalker 40 = .ok (.ifCond .eq 5, 3) := by decide +kernel
theorem dX11_addWalker_43 : decode cX11_addWalker 43 = .ok (.iconst 0, 1) := by decide +kernel
theorem dX11_addWalker_44 : decode cX11_addWalker 44 = .ok (.ireturn, 1) := by decide +kernel
theorem dX11_addWalker_45 : decode cX11_addWalker 45 = .ok (.aload_n 0, 1) := by decide +kernel
theorem dX11_addWalker_46 : decode cX11_addWalker 46 = .ok (.invokevirtual 216, 3) := by decide +kernel
theorem dX11_addWalker_49 : decode cX11_addWalker 49 = .ok (.aload_n 0, 1) := by decide +kernel
theorem dX11_addWalker_50 : decode cX11_addWalker 50 = .ok (.getfield 7, 3) := by decide +kernel
theorem dX11_addWalker_53 : decode cX11_addWalker 53 = .ok (.sipush 952, 3) := by decide +kernel
theorem dX11_addWalker_56 : decode cX11_addWalker 56 = .ok (.iaload, 1) := by decide +kernel
theorem dX11_addWalker_57 : decode cX11_addWalker 57 = .ok (.istore_n 3, 1) := by decide +kernel
theorem dX11_addWalker_58 : decode cX11_addWalker 58 = .ok (.aload_n 0, 1) := by decide +kernel
theorem dX11_addWalker_59 : decode cX11_addWalker 59 = .ok (.getfield 7, 3) := by decide +kernel
theorem dX11_addWalker_62 : decode cX11_addWalker 62 = .ok (.sipush 953, 3) := by decide +kernel
theorem dX11_addWalker_65 : decode cX11_addWalker 65 = .ok (.iconst 3, 1) := by decide +kernel
theorem dX11_addWalker_66 : decode cX11_addWalker 66 = .ok (.iload_n 3, 1) := by decide +kernel
theorem dX11_addWalker_67 : decode cX11_addWalker 67 = .ok (.imul, 1) := by decide +kernel
theorem dX11_addWalker_68 : decode cX11_addWalker 68 = .ok (.iadd, 1) := by decide +kernel
theorem dX11_addWalker_69 : decode cX11_addWalker 69 = .ok (.iconst 0, 1) := by decide +kernel
theorem dX11_addWalker_70 : decode cX11_addWalker 70 = .ok (.iadd, 1) := by decide +kernel
theorem dX11_addWalker_71 : decode cX11_addWalker 71 = .ok (.iload_n 1, 1) := by decide +kernel
theorem dX11_addWalker_72 : decode cX11_addWalker 72 = .ok (.iastore, 1) := by decide +kernel
theorem dX11_addWalker_73 : decode cX11_addWalker 73 = .ok (.aload_n 0, 1) := by decide +kernel
theorem dX11_addWalker_74 : decode cX11_addWalker 74 = .ok (.getfield 7, 3) := by decide +kernel
theorem dX11_addWalker_77 : decode cX11_addWalker 77 = .ok (.sipush 953, 3) := by decide +kernel
theorem dX11_addWalker_80 : decode cX11_addWalker 80 = .ok (.iconst 3, 1) := by decide +kernel
theorem dX11_addWalker_81 : decode cX11_addWalker 81 = .ok (.iload_n 3, 1) := by decide +kernel
theorem dX11_addWalker_82 : decode cX11_addWalker 82 = .ok (.imul, 1) := by decide +kernel
theorem dX11_addWalker_83 : decode cX11_addWalker 83 = .ok (.iadd, 1) := by decide +kernel
theorem dX11_addWalker_84 : decode cX11_addWalker 84 = .ok (.iconst 1, 1) := by decide +kernel
theorem dX11_addWalker_85 : decode cX11_addWalker 85 = .ok (.iadd, 1) := by decide +kernel
theorem dX11_addWalker_86 : decode cX11_addWalker 86 = .ok (.iconst 0, 1) := by decide +kernel
theorem dX11_addWalker_87 : decode cX11_addWalker 87 = .ok (.iastore, 1) := by decide +kernel
theorem dX11_addWalker_88 : decode cX11_addWalker 88 = .ok (.aload_n 0, 1) := by decide +kernel
theorem dX11_addWalker_89 : decode cX11_addWalker 89 = .ok (.getfield 7, 3) := by decide +kernel
theorem dX11_addWalker_92 : decode cX11_addWalker 92 = .ok (.sipush 953, 3) := by decide +kernel
theorem dX11_addWalker_95 : decode cX11_addWalker 95 = .ok (.iconst 3, 1) := by decide +kernel
theorem dX11_addWalker_96 : decode cX11_addWalker 96 = .ok (.iload_n 3, 1) := by decide +kernel
theorem dX11_addWalker_97 : decode cX11_addWalker 97 = .ok (.imul, 1) := by decide +kernel
theorem dX11_addWalker_98 : decode cX11_addWalker 98 = .ok (.iadd, 1) := by decide +kernel
theorem dX11_addWalker_99 : decode cX11_addWalker 99 = .ok (.iconst 2, 1) := by decide +kernel
theorem dX11_addWalker_100 : decode cX11_addWalker 100 = .ok (.iadd, 1) := by decide +kernel
theorem dX11_addWalker_101 : decode cX11_addWalker 101 = .ok (.iconst 0, 1) := by decide +kernel
theorem dX11_addWalker_102 : decode cX11_addWalker 102 = .ok (.iastore, 1) := by decide +kernel
theorem dX11_addWalker_103 : decode cX11_addWalker 103 = .ok (.aload_n 0, 1) := by decide +kernel
theorem dX11_addWalker_104 : decode cX11_addWalker 104 = .ok (.getfield 7, 3) := by decide +kernel
theorem dX11_addWalker_107 : decode cX11_addWalker 107 = .ok (.sipush 952, 3) := by decide +kernel
theorem dX11_addWalker_110 : decode cX11_addWalker 110 = .ok (.dup2, 1) := by decide +kernel
theorem dX11_addWalker_111 : decode cX11_addWalker 111 = .ok (.iaload, 1) := by decide +kernel
theorem dX11_addWalker_112 : decode cX11_addWalker 112 = .ok (.iconst 1, 1) := by decide +kernel
theorem dX11_addWalker_113 : decode cX11_addWalker 113 = .ok (.iadd, 1) := by decide +kernel
theorem dX11_addWalker_114 : decode cX11_addWalker 114 = .ok (.iastore, 1) := by decide +kernel
theorem dX11_addWalker_115 : decode cX11_addWalker 115 = .ok (.aload_n 0, 1) := by decide +kernel
theorem dX11_addWalker_116 : decode cX11_addWalker 116 = .ok (.invokevirtual 222, 3) := by decide +kernel
theorem dX11_addWalker_119 : decode cX11_addWalker 119 = .ok (.iload_n 3, 1) := by decide +kernel
theorem dX11_addWalker_120 : decode cX11_addWalker 120 = .ok (.ireturn, 1) := by decide +kernel
theorem dX11_removeWalker_0 : decode cX11_removeWalker 0 = .ok (.aload_n 0, 1) := by decide +kernel
theorem dX11_removeWalker_1 : decode cX11_removeWalker 1 = .ok (.aload_n 0, 1) := by decide +kernel
theorem dX11_removeWalker_2 : decode cX11_removeWalker 2 = .ok (.iload_n 1, 1) := by decide +kernel
theorem dX11_removeWalker_3 : decode cX11_removeWalker 3 = .ok (.invokevirtual 228, 3) := by decide +kernel
theorem dX11_removeWalker_6 : decode cX11_removeWalker 6 = .ok (.ifCond .ne 7, 3) := by decide +kernel
theorem dX11_removeWalker_9 : decode cX11_removeWalker 9 = .ok (.iconst 1, 1) := by decide +kernel
theorem dX11_removeWalker_10 : decode cX11_removeWalker 10 = .ok (.goto 4, 3) := by decide +kernel
theorem dX11_removeWalker_13 : decode cX11_removeWalker 13 = .ok (.iconst 0, 1) := by decide +kernel
theorem dX11_removeWalker_14 : decode cX11_removeWalker 14 = .ok (.invokevirtual 209, 3) := by decide +kernel
theorem dX11_removeWalker_17 : decode cX11_removeWalker 17 = .ok (.ifCond .eq 5, 3) := by decide +kernel
theorem dX11_removeWalker_20 : decode cX11_removeWalker 20 = .ok (.iconst 0, 1) := by decide +kernel
theorem dX11_removeWalker_21 : decode cX11_removeWalker 21 = .ok (.ireturn, 1) := by decide +kernel
theorem dX11_removeWalker_22 : decode cX11_removeWalker 22 = .ok (.aload_n 0, 1) := by decide +kernel
theorem dX11_removeWalker_23 : decode cX11_removeWalker 23 = .ok (.invokevirtual 216, 3) := by decide +kernel
theorem dX11_removeWalker_26 : decode cX11_removeWalker 26 = .ok (.aload_n 0, 1) := by decide +kernel
theorem dX11_removeWalker_27 : decode cX11_removeWalker 27 = .ok (.iload_n 1, 1) := by decide +kernel
theorem dX11_removeWalker_28 : decode cX11_removeWalker 28 = .ok (.iconst 2, 1) := by decide +kernel
theorem dX11_removeWalker_29 : decode cX11_removeWalker 29 = .ok (.invokevirtual 190, 3) := by decide +kernel
theorem dX11_removeWalker_32 : decode cX11_removeWalker 32 = .ok (.istore_n 2, 1) := by decide +kernel
theorem dX11_removeWalker_33 : decode cX11_removeWalker 33 = .ok (.aload_n 0, 1) := by decide +kernel
theorem dX11_removeWalker_34 : decode cX11_removeWalker 34 = .ok (.getfield 7, 3) := by decide +kernel
theorem dX11_removeWalker_37 : decode cX11_removeWalker 37 = .ok (.sipush 952, 3) := by decide +kernel
theorem dX11_removeWalker_40 : decode cX11_removeWalker 40 = .ok (.dup2, 1) := by decide +kernel
theorem dX11_removeWalker_41 : decode cX11_removeWalker 41 = .ok (.iaload, 1) := by decide +kernel
theorem dX11_removeWalker_42 : decode cX11_removeWalker 42 = .ok (.iconst 1, 1) := by decide +kernel
theorem dX11_removeWalker_43 : decode cX11_removeWalker 43 = .ok (.isub, 1) := by decide +kernel
theorem dX11_removeWalker_44 : decode cX11_removeWalker 44 = .ok (.iastore, 1) := by decide +kernel
theorem dX11_removeWalker_45 : decode cX11_removeWalker 45 = .ok (.sipush 953, 3) := by decide +kernel
theorem dX11_removeWalker_48 : decode cX11_removeWalker 48 = .ok (.iconst 3, 1) := by decide +kernel
theorem dX11_removeWalker_49 : decode cX11_removeWalker 49 = .ok (.iload_n 1, 1) := by decide +kernel
theorem dX11_removeWalker_50 : decode cX11_removeWalker 50 = .ok (.imul, 1) := by decide +kernel
theorem dX11_removeWalker_51 : decode cX11_removeWalker 51 = .ok (.iadd, 1) := by decide +kernel
theorem dX11_removeWalker_52 : decode cX11_removeWalker 52 = .ok (.istore_n 3, 1) := by decide +kernel
theorem dX11_removeWalker_53 : decode cX11_removeWalker 53 = .ok (.iload_n 3, 1) := by decide +kernel
theorem dX11_removeWalker_54 : decode cX11_removeWalker 54 = .ok (.sipush 953, 3) := by decide +kernel
theorem dX11_removeWalker_57 : decode cX11_removeWalker 57 = .ok (.iconst 3, 1) := by decide +kernel
theorem dX11_removeWalker_58 : decode cX11_removeWalker 58 = .ok (.aload_n 0, 1) := by decide +kernel
theorem dX11_removeWalker_59 : decode cX11_removeWalker 59 = .ok (.getfield 7, 3) := by decide +kernel
theorem dX11_removeWalker_62 : decode cX11_removeWalker 62 = .ok (.sipush 952, 3) := by decide +kernel
theorem dX11_removeWalker_65 : decode cX11_removeWalker 65 = .ok (.iaload, 1) := by decide +kernel
theorem dX11_removeWalker_66 : decode cX11_removeWalker 66 = .ok (.imul, 1) := by decide +kernel
theorem dX11_removeWalker_67 : decode cX11_removeWalker 67 = .ok (.iadd, 1) := by decide +kernel
theorem dX11_removeWalker_68 : decode cX11_removeWalker 68 = .ok (.if_icmp .ge 23, 3) := by decide +kernel
theorem dX11_removeWalker_71 : decode cX11_removeWalker 71 = .ok (.aload_n 0, 1) := by decide +kernel
theorem dX11_removeWalker_72 : decode cX11_removeWalker 72 = .ok (.getfield 7, 3) := by decide +kernel
theorem dX11_removeWalker_75 : decode cX11_removeWalker 75 = .ok (.iload_n 3, 1) := by decide +kernel
theorem dX11_removeWalker_76 : decode cX11_removeWalker 76 = .ok (.aload_n 0, 1) := by decide +kernel
theorem dX11_removeWalker_77 : decode cX11_removeWalker 77 = .ok (.getfield 7, 3) := by decide +kernel
theorem dX11_removeWalker_80 : decode cX11_removeWalker 80 = .ok (.iload_n 3, 1) := by decide +kernel
theorem dX11_removeWalker_81 : decode cX11_removeWalker 81 = .ok (.iconst 3, 1) := by decide +kernel
theorem dX11_removeWalker_82 : decode cX11_removeWalker 82 = .ok (.iadd, 1) := by decide +kernel
theorem dX11_removeWalker_83 : decode cX11_removeWalker 83 = .ok (.iaload, 1) := by decide +kernel
theorem dX11_removeWalker_84 : decode cX11_removeWalker 84 = .ok (.iastore, 1) := by decide +kernel
theorem dX11_removeWalker_85 : decode cX11_removeWalker 85 = .ok (.iinc 3 1, 3) := by decide +kernel
theorem dX11_removeWalker_88 : decode cX11_removeWalker 88 = .ok (.goto (-35), 3) := by decide +kernel
theorem dX11_removeWalker_91 : decode cX11_removeWalker 91 = .ok (.iconst 0, 1) := by decide +kernel
theorem dX11_removeWalker_92 : decode cX11_removeWalker 92 = .ok (.istore_n 3, 1) := by decide +kernel
theorem dX11_removeWalker_93 : decode cX11_removeWalker 93 = .ok (.iload_n 3, 1) := by decide +kernel
theorem dX11_removeWalker_94 : decode cX11_removeWalker 94 = .ok (.iconst 3, 1) := by decide +kernel
theorem dX11_removeWalker_95 : decode cX11_removeWalker 95 = .ok (.if_icmp .ge 31, 3) := by decide +kernel
theorem dX11_removeWalker_98 : decode cX11_removeWalker 98 = .ok (.aload_n 0, 1) := by decide +kernel
theorem dX11_removeWalker_99 : decode cX11_removeWalker 99 = .ok (.getfield 7, 3) := by decide +kernel
theorem dX11_removeWalker_102 : decode cX11_removeWalker 102 = .ok (.sipush 953, 3) := by decide +kernel
theorem dX11_removeWalker_105 : decode cX11_removeWalker 105 = .ok (.iconst 3, 1) := by decide +kernel
theorem dX11_removeWalker_106 : decode cX11_removeWalker 106 = .ok (.aload_n 0, 1) := by decide +kernel
theorem dX11_removeWalker_107 : decode cX11_removeWalker 107 = .ok (.getfield 7, 3) := by decide +kernel
theorem dX11_removeWalker_110 : decode cX11_removeWalker 110 = .ok (.sipush 952, 3) := by decide +kernel
theorem dX11_removeWalker_113 : decode cX11_removeWalker 113 = .ok (.iaload, 1) := by decide +kernel
theorem dX11_removeWalker_114 : decode cX11_removeWalker 114 = .ok (.imul, 1) := by decide +kernel
theorem dX11_removeWalker_115 : decode cX11_removeWalker 115 = .ok (.iadd, 1) := by decide +kernel
theorem dX11_removeWalker_116 : decode cX11_removeWalker 116 = .ok (.iload_n 3, 1) := by decide +kernel
theorem dX11_removeWalker_117 : decode cX11_removeWalker 117 = .ok (.iadd, 1) := by decide +kernel
theorem dX11_removeWalker_118 : decode cX11_removeWalker 118 = .ok (.iconst 0, 1) := by decide +kernel
theorem dX11_removeWalker_119 : decode cX11_removeWalker 119 = .ok (.iastore, 1) := by decide +kernel
theorem dX11_removeWalker_120 : decode cX11_removeWalker 120 = .ok (.iinc 3 1, 3) := by decide +kernel
theorem dX11_removeWalker_123 : decode cX11_removeWalker 123 = .ok (.goto (-30), 3) := by decide +kernel
theorem dX11_removeWalker_126 : decode cX11_removeWalker 126 = .ok (.aload_n 0, 1) := by decide +kernel
theorem dX11_removeWalker_127 : decode cX11_removeWalker 127 = .ok (.invokevirtual 222, 3) := by decide +kernel
theorem dX11_removeWalker_130 : decode cX11_removeWalker 130 = .ok (.iload_n 2, 1) := by decide +kernel
theorem dX11_removeWalker_131 : decode cX11_removeWalker 131 = .ok (.ireturn, 1) := by decide +kernel
theorem dX11_passes_0 : decode cX11_passes 0 = .ok (.aload_n 0, 1) := by decide +kernel
theorem dX11_passes_1 : decode cX11_passes 1 = .ok (.getfield 7, 3) := by decide +kernel
theorem dX11_passes_4 : decode cX11_passes 4 = .ok (.sipush 971, 3) := by decide +kernel
theorem dX11_passes_7 : decode cX11_passes 7 = .ok (.iconst 2, 1) := by decide +kernel
theorem dX11_passes_8 : decode cX11_passes 8 = .ok (.iload_n 1, 1) := by decide +kernel
theorem dX11_passes_9 : decode cX11_passes 9 = .ok (.imul, 1) := by decide +kernel
theorem dX11_passes_10 : decode cX11_passes 10 = .ok (.iadd, 1) := by decide +kernel
theorem dX11_passes_11 : decode cX11_passes 11 = .ok (.aload_n 0, 1) := by decide +kernel
theorem dX11_passes_12 : decode cX11_passes 12 = .ok (.getfield 7, 3) := by decide +kernel
theorem dX11_passes_15 : decode cX11_passes 15 = .ok (.sipush 983, 3) := by decide +kernel
theorem dX11_passes_18 : decode cX11_passes 18 = .ok (.iaload, 1) := by decide +kernel
theorem dX11_passes_19 : decode cX11_passes 19 = .ok (.iadd, 1) := by decide +kernel
theorem dX11_passes_20 : decode cX11_passes 20 = .ok (.iaload, 1) := by decide +kernel
theorem dX11_passes_21 : decode cX11_passes 21 = .ok (.iconst 1, 1) := by decide +kernel
theorem dX11_passes_22 : decode cX11_passes 22 = .ok (.if_icmp .ne 7, 3) := by decide +kernel
theorem dX11_passes_25 : decode cX11_passes 25 = .ok (.iconst 1, 1) := by decide +kernel
theorem dX11_passes_26 : decode cX11_passes 26 = .ok (.goto 4, 3) := by decide +kernel
theorem dX11_passes_29 : decode cX11_passes 29 = .ok (.iconst 0, 1) := by decide +kernel
theorem dX11_passes_30 : decode cX11_passes 30 = .ok (.ireturn, 1) := by decide +kernel
theorem dX11_steps_0 : decode cX11_steps 0 = .ok (.aload_n 0, 1) := by decide +kernel
theorem dX11_steps_1 : decode cX11_steps 1 = .ok (.aload_n 0, 1) := by decide +kernel
theorem dX11_steps_2 : decode cX11_steps 2 = .ok (.iload_n 1, 1) := by decide +kernel
theorem dX11_steps_3 : decode cX11_steps 3 = .ok (.iconst 0, 1) := by decide +kernel
theorem dX11_steps_4 : decode cX11_steps 4 = .ok (.invokevirtual 190, 3) := by decide +kernel
theorem dX11_steps_7 : decode cX11_steps 7 = .ok (.aload_n 0, 1) := by decide +kernel
theorem dX11_steps_8 : decode cX11_steps 8 = .ok (.iload_n 1, 1) := by decide +kernel
theorem dX11_steps_9 : decode cX11_steps 9 = .ok (.iconst 1, 1) := by decide +kernel
theorem dX11_steps_10 : decode cX11_steps 10 = .ok (.invokevirtual 190, 3) := by decide +kernel
theorem dX11_steps_13 : decode cX11_steps 13 = .ok (.iload_n 2, 1) := by decide +kernel
theorem dX11_steps_14 : decode cX11_steps 14 = .ok (.invokevirtual 231, 3) := by decide +kernel
theorem dX11_steps_17 : decode cX11_steps 17 = .ok (.istore_n 3, 1) := by decide +kernel
theorem dX11_steps_18 : decode cX11_steps 18 = .ok (.aload_n 0, 1) := by decide +kernel
theorem dX11_steps_19 : decode cX11_steps 19 = .ok (.getfield 7, 3) := by decide +kernel
theorem dX11_steps_22 : decode cX11_steps 22 = .ok (.sipush 953, 3) := by decide +kernel
theorem dX11_steps_25 : decode cX11_steps 25 = .ok (.iconst 3, 1) := by decide +kernel
theorem dX11_steps_26 : decode cX11_steps 26 = .ok (.iload_n 1, 1) := by decide +kernel
theorem dX11_steps_27 : decode cX11_steps 27 = .ok (.imul, 1) := by decide +kernel
theorem dX11_steps_28 : decode cX11_steps 28 = .ok (.iadd, 1) := by decide +kernel
theorem dX11_steps_29 : decode cX11_steps 29 = .ok (.iconst 1, 1) := by decide +kernel
theorem dX11_steps_30 : decode cX11_steps 30 = .ok (.iadd, 1) := by decide +kernel
theorem dX11_steps_31 : decode cX11_steps 31 = .ok (.iload_n 3, 1) := by decide +kernel
theorem dX11_steps_32 : decode cX11_steps 32 = .ok (.iastore, 1) := by decide +kernel
theorem dX11_steps_33 : decode cX11_steps 33 = .ok (.aload_n 0, 1) := by decide +kernel
theorem dX11_steps_34 : decode cX11_steps 34 = .ok (.getfield 7, 3) := by decide +kernel
theorem dX11_steps_37 : decode cX11_steps 37 = .ok (.sipush 953, 3) := by decide +kernel
theorem dX11_steps_40 : decode cX11_steps 40 = .ok (.iconst 3, 1) := by decide +kernel
theorem dX11_steps_41 : decode cX11_steps 41 = .ok (.iload_n 1, 1) := by decide +kernel
theorem dX11_steps_42 : decode cX11_steps 42 = .ok (.imul, 1) := by decide +kernel
theorem dX11_steps_43 : decode cX11_steps 43 = .ok (.iadd, 1) := by decide +kernel
theorem dX11_steps_44 : decode cX11_steps 44 = .ok (.iconst 2, 1) := by decide +kernel
theorem dX11_steps_45 : decode cX11_steps 45 = .ok (.iadd, 1) := by decide +kernel
theorem dX11_steps_46 : decode cX11_steps 46 = .ok (.dup2, 1) := by decide +kernel
theorem dX11_steps_47 : decode cX11_steps 47 = .ok (.iaload, 1) := by decide +kernel
theorem dX11_steps_48 : decode cX11_steps 48 = .ok (.iconst 1, 1) := by decide +kernel
theorem dX11_steps_49 : decode cX11_steps 49 = .ok (.iadd, 1) := by decide +kernel
theorem dX11_steps_50 : decode cX11_steps 50 = .ok (.iastore, 1) := by decide +kernel
theorem dX11_steps_51 : decode cX11_steps 51 = .ok (.aload_n 0, 1) := by decide +kernel
theorem dX11_steps_52 : decode cX11_steps 52 = .ok (.getfield 7, 3) := by decide +kernel
theorem dX11_steps_55 : decode cX11_steps 55 = .ok (.sipush 984, 3) := by decide +kernel
theorem dX11_steps_58 : decode cX11_steps 58 = .ok (.dup2, 1) := by decide +kernel
theorem dX11_steps_59 : decode cX11_steps 59 = .ok (.iaload, 1) := by decide +kernel
theorem dX11_steps_60 : decode cX11_steps 60 = .ok (.iconst 1, 1) := by decide +kernel
theorem dX11_steps_61 : decode cX11_steps 61 = .ok (.iadd, 1) := by decide +kernel
theorem dX11_steps_62 : decode cX11_steps 62 = .ok (.iastore, 1) := by decide +kernel
theorem dX11_steps_63 : decode cX11_steps 63 = .ok (.iload_n 3, 1) := by decide +kernel
theorem dX11_steps_64 : decode cX11_steps 64 = .ok (.ireturn, 1) := by decide +kernel
theorem dX11_step_0 : decode cX11_step 0 = .ok (.aload_n 0, 1) := by decide +kernel
theorem dX11_step_1 : decode cX11_step 1 = .ok (.iload_n 1, 1) := by decide +kernel
theorem dX11_step_2 : decode cX11_step 2 = .ok (.invokevirtual 228, 3) := by decide +kernel
theorem dX11_step_5 : decode cX11_step 5 = .ok (.ifCond .eq 14, 3) := by decide +kernel
theorem dX11_step_8 : decode cX11_step 8 = .ok (.iload_n 2, 1) := by decide +kernel
theorem dX11_step_9 : decode cX11_step 9 = .ok (.invokestatic 234, 3) := by decide +kernel
theorem dX11_step_12 : decode cX11_step 12 = .ok (.ifCond .eq 7, 3) := by decide +kernel
theorem dX11_step_15 : decode cX11_step 15 = .ok (.iconst 1, 1) := by decide +kernel
theorem dX11_step_16 : decode cX11_step 16 = .ok (.goto 4, 3) := by decide +kernel
theorem dX11_step_19 : decode cX11_step 19 = .ok (.iconst 0, 1) := by decide +kernel
theorem dX11_step_20 : decode cX11_step 20 = .ok (.istore_n 3, 1) := by decide +kernel
theorem dX11_step_21 : decode cX11_step 21 = .ok (.aload_n 0, 1) := by decide +kernel
theorem dX11_step_22 : decode cX11_step 22 = .ok (.iload_n 3, 1) := by decide +kernel
theorem dX11_step_23 : decode cX11_step 23 = .ok (.ifCond .ne 7, 3) := by decide +kernel
theorem dX11_step_26 : decode cX11_step 26 = .ok (.iconst 1, 1) := by decide +kernel
theorem dX11_step_27 : decode cX11_step 27 = .ok (.goto 4, 3) := by decide +kernel
theorem dX11_step_30 : decode cX11_step 30 = .ok (.iconst 0, 1) := by decide +kernel
theorem dX11_step_31 : decode cX11_step 31 = .ok (.iload_n 3, 1) := by decide +kernel
theorem dX11_step_32 : decode cX11_step 32 = .ok (.ifCond .eq 15, 3) := by decide +kernel
theorem dX11_step_35 : decode cX11_step 35 = .ok (.aload_n 0, 1) := by decide +kernel
theorem dX11_step_36 : decode cX11_step 36 = .ok (.iload_n 2, 1) := by decide +kernel
theorem dX11_step_37 : decode cX11_step 37 = .ok (.invokevirtual 237, 3) := by decide +kernel
theorem dX11_step_40 : decode cX11_step 40 = .ok (.ifCond .ne 7, 3) := by decide +kernel
theorem dX11_step_43 : decode cX11_step 43 = .ok (.iconst 1, 1) := by decide +kernel
theorem dX11_step_44 : decode cX11_step 44 = .ok (.goto 4, 3) := by decide +kernel
theorem dX11_step_47 : decode cX11_step 47 = .ok (.iconst 0, 1) := by decide +kernel
theorem dX11_step_48 : decode cX11_step 48 = .ok (.invokevirtual 225, 3) := by decide +kernel
theorem dX11_step_51 : decode cX11_step 51 = .ok (.ifCond .eq 5, 3) := by decide +kernel
theorem dX11_step_54 : decode cX11_step 54 = .ok (.iconst 0, 1) := by decide +kernel
theorem dX11_step_55 : decode cX11_step 55 = .ok (.ireturn, 1) := by decide +kernel
theorem dX11_step_56 : decode cX11_step 56 = .ok (.aload_n 0, 1) := by decide +kernel
theorem dX11_step_57 : decode cX11_step 57 = .ok (.invokevirtual 216, 3) := by decide +kernel
theorem dX11_step_60 : decode cX11_step 60 = .ok (.aload_n 0, 1) := by decide +kernel
theorem dX11_step_61 : decode cX11_step 61 = .ok (.iload_n 1, 1) := by decide +kernel
theorem dX11_step_62 : decode cX11_step 62 = .ok (.iload_n 2, 1) := by decide +kernel
theorem dX11_step_63 : decode cX11_step 63 = .ok (.invokevirtual 240, 3) := by decide +kernel
theorem dX11_step_66 : decode cX11_step 66 = .ok (.istore 4, 2) := by decide +kernel
theorem dX11_step_68 : decode cX11_step 68 = .ok (.aload_n 0, 1) := by decide +kernel
theorem dX11_step_69 : decode cX11_step 69 = .ok (.invokevirtual 222, 3) := by decide +kernel
theorem dX11_step_72 : decode cX11_step 72 = .ok (.iload 4, 2) := by decide +kernel
theorem dX11_step_74 : decode cX11_step 74 = .ok (.ireturn, 1) := by decide +kernel
theorem dX11_walkWord_0 : decode cX11_walkWord 0 = .ok (.aload_n 0, 1) := by decide +kernel
theorem dX11_walkWord_1 : decode cX11_walkWord 1 = .ok (.aload_n 0, 1) := by decide +kernel
theorem dX11_walkWord_2 : decode cX11_walkWord 2 = .ok (.iload_n 1, 1) := by decide +kernel
theorem dX11_walkWord_3 : decode cX11_walkWord 3 = .ok (.invokevirtual 228, 3) := by decide +kernel
theorem dX11_walkWord_6 : decode cX11_walkWord 6 = .ok (.ifCond .ne 7, 3) := by decide +kernel
theorem dX11_walkWord_9 : decode cX11_walkWord 9 = .ok (.iconst 1, 1) := by decide +kernel
theorem dX11_walkWord_10 : decode cX11_walkWord 10 = .ok (.goto 4, 3) := by decide +kernel
theorem dX11_walkWord_13 : decode cX11_walkWord 13 = .ok (.iconst 0, 1) := by decide +kernel
theorem dX11_walkWord_14 : decode cX11_walkWord 14 = .ok (.invokevirtual 209, 3) := by decide +kernel
theorem dX11_walkWord_17 : decode cX11_walkWord 17 = .ok (.ifCond .eq 5, 3) := by decide +kernel
theorem dX11_walkWord_20 : decode cX11_walkWord 20 = .ok (.iconst 0, 1) := by decide +kernel
theorem dX11_walkWord_21 : decode cX11_walkWord 21 = .ok (.ireturn, 1) := by decide +kernel
theorem dX11_walkWord_22 : decode cX11_walkWord 22 = .ok (.aload_n 0, 1) := by decide +kernel
theorem dX11_walkWord_23 : decode cX11_walkWord 23 = .ok (.invokevirtual 216, 3) := by decide +kernel
theorem dX11_walkWord_26 : decode cX11_walkWord 26 = .ok (.iconst 0, 1) := by decide +kernel
theorem dX11_walkWord_27 : decode cX11_walkWord 27 = .ok (.istore_n 2, 1) := by decide +kernel
theorem dX11_walkWord_28 : decode cX11_walkWord 28 = .ok (.iload_n 2, 1) := by decide +kernel
theorem dX11_walkWord_29 : decode cX11_walkWord 29 = .ok (.aload_n 0, 1) := by decide +kernel
theorem dX11_walkWord_30 : decode cX11_walkWord 30 = .ok (.getfield 89, 3) := by decide +kernel
theorem dX11_walkWord_33 : decode cX11_walkWord 33 = .ok (.if_icmp .ge 55, 3) := by decide +kernel
theorem dX11_walkWord_36 : decode cX11_walkWord 36 = .ok (.aload_n 0, 1) := by decide +kernel
theorem dX11_walkWord_37 : decode cX11_walkWord 37 = .ok (.getfield 22, 3) := by decide +kernel
theorem dX11_walkWord_40 : decode cX11_walkWord 40 = .ok (.iload_n 2, 1) := by decide +kernel
theorem dX11_walkWord_41 : decode cX11_walkWord 41 = .ok (.iaload, 1) := by decide +kernel
theorem dX11_walkWord_42 : decode cX11_walkWord 42 = .ok (.bipush 97, 2) := by decide +kernel
theorem dX11_walkWord_44 : decode cX11_walkWord 44 = .ok (.isub, 1) := by decide +kernel
theorem dX11_walkWord_45 : decode cX11_walkWord 45 = .ok (.invokestatic 234, 3) := by decide +kernel
theorem dX11_walkWord_48 : decode cX11_walkWord 48 = .ok (.ifCond .eq 40, 3) := by decide +kernel
theorem dX11_walkWord_51 : decode cX11_walkWord 51 = .ok (.aload_n 0, 1) := by decide +kernel
theorem dX11_walkWord_52 : decode cX11_walkWord 52 = .ok (.aload_n 0, 1) := by decide +kernel
theorem dX11_walkWord_53 : decode cX11_walkWord 53 = .ok (.getfield 22, 3) := by decide +kernel
theorem dX11_walkWord_56 : decode cX11_walkWord 56 = .ok (.iload_n 2, 1) := by decide +kernel
theorem dX11_walkWord_57 : decode cX11_walkWord 57 = .ok (.iaload, 1) := by decide +kernel
theorem dX11_walkWord_58 : decode cX11_walkWord 58 = .ok (.bipush 97, 2) := by decide +kernel
theorem dX11_walkWord_60 : decode cX11_walkWord 60 = .ok (.isub, 1) := by decide +kernel
theorem dX11_walkWord_61 : decode cX11_walkWord 61 = .ok (.invokevirtual 237, 3) := by decide +kernel
theorem dX11_walkWord_64 : decode cX11_walkWord 64 = .ok (.ifCond .eq 24, 3) := by decide +kernel
theorem dX11_walkWord_67 : decode cX11_walkWord 67 = .ok (.aload_n 0, 1) := by decide +kernel
theorem dX11_walkWord_68 : decode cX11_walkWord 68 = .ok (.iload_n 1, 1) := by decide +kernel
theorem dX11_walkWord_69 : decode cX11_walkWord 69 = .ok (.aload_n 0, 1) := by decide +kernel
theorem dX11_walkWord_70 : decode cX11_walkWord 70 = .ok (.getfield 22, 3) := by decide +kernel
theorem dX11_walkWord_73 : decode cX11_walkWord 73 = .ok (.iload_n 2, 1) := by decide +kernel
theorem dX11_walkWord_74 : decode cX11_walkWord 74 = .ok (.iaload, 1) := by decide +kernel
theorem dX11_walkWord_75 : decode cX11_walkWord 75 = .ok (.bipush 97, 2) := by decide +kernel
theorem dX11_walkWord_77 : decode cX11_walkWord 77 = .ok (.isub, 1) := by decide +kernel
theorem dX11_walkWord_78 : decode cX11_walkWord 78 = .ok (.invokevirtual 240, 3) := by decide +kernel
theorem dX11_walkWord_81 : decode cX11_walkWord 81 = .ok (.pop, 1) := by decide +kernel
theorem dX11_walkWord_82 : decode cX11_walkWord 82 = .ok (.iinc 2 1, 3) := by decide +kernel
theorem dX11_walkWord_85 : decode cX11_walkWord 85 = .ok (.goto (-57), 3) := by decide +kernel
theorem dX11_walkWord_88 : decode cX11_walkWord 88 = .ok (.aload_n 0, 1) := by decide +kernel
theorem dX11_walkWord_89 : decode cX11_walkWord 89 = .ok (.iconst 0, 1) := by decide +kernel
theorem dX11_walkWord_90 : decode cX11_walkWord 90 = .ok (.putfield 89, 3) := by decide +kernel
theorem dX11_walkWord_93 : decode cX11_walkWord 93 = .ok (.aload_n 0, 1) := by decide +kernel
theorem dX11_walkWord_94 : decode cX11_walkWord 94 = .ok (.invokevirtual 222, 3) := by decide +kernel
theorem dX11_walkWord_97 : decode cX11_walkWord 97 = .ok (.iload_n 2, 1) := by decide +kernel
theorem dX11_walkWord_98 : decode cX11_walkWord 98 = .ok (.ireturn, 1) := by decide +kernel
theorem dX11_restartWalker_0 : decode cX11_restartWalker 0 = .ok (.aload_n 0, 1) := by decide +kernel
theorem dX11_restartWalker_1 : decode cX11_restartWalker 1 = .ok (.aload_n 0, 1) := by decide +kernel
theorem dX11_restartWalker_2 : decode cX11_restartWalker 2 = .ok (.iload_n 1, 1) := by decide +kernel
theorem dX11_restartWalker_3 : decode cX11_restartWalker 3 = .ok (.invokevirtual 228, 3) := by decide +kernel
theorem dX11_restartWalker_6 : decode cX11_restartWalker 6 = .ok (.ifCond .ne 7, 3) := by decide +kernel
theorem dX11_restartWalker_9 : decode cX11_restartWalker 9 = .ok (.iconst 1, 1) := by decide +kernel
theorem dX11_restartWalker_10 : decode cX11_restartWalker 10 = .ok (.goto 4, 3) := by decide +kernel
theorem dX11_restartWalker_13 : decode cX11_restartWalker 13 = .ok (.iconst 0, 1) := by decide +kernel
theorem dX11_restartWalker_14 : decode cX11_restartWalker 14 = .ok (.invokevirtual 209, 3) := by decide +kernel
theorem dX11_restartWalker_17 : decode cX11_restartWalker 17 = .ok (.ifCond .eq 5, 3) := by decide +kernel
theorem dX11_restartWalker_20 : decode cX11_restartWalker 20 = .ok (.iconst 0, 1) := by decide +kernel
theorem dX11_restartWalker_21 : decode cX11_restartWalker 21 = .ok (.ireturn, 1) := by decide +kernel
theorem dX11_restartWalker_22 : decode cX11_restartWalker 22 = .ok (.aload_n 0, 1) := by decide +kernel
theorem dX11_restartWalker_23 : decode cX11_restartWalker 23 = .ok (.invokevirtual 216, 3) := by decide +kernel
theorem dX11_restartWalker_26 : decode cX11_restartWalker 26 = .ok (.aload_n 0, 1) := by decide +kernel
theorem dX11_restartWalker_27 : decode cX11_restartWalker 27 = .ok (.iload_n 1, 1) := by decide +kernel
theorem dX11_restartWalker_28 : decode cX11_restartWalker 28 = .ok (.iconst 1, 1) := by decide +kernel
theorem dX11_restartWalker_29 : decode cX11_restartWalker 29 = .ok (.invokevirtual 190, 3) := by decide +kernel
theorem dX11_restartWalker_32 : decode cX11_restartWalker 32 = .ok (.istore_n 2, 1) := by decide +kernel
theorem dX11_restartWalker_33 : decode cX11_restartWalker 33 = .ok (.aload_n 0, 1) := by decide +kernel
theorem dX11_restartWalker_34 : decode cX11_restartWalker 34 = .ok (.getfield 7, 3) := by decide +kernel
theorem dX11_restartWalker_37 : decode cX11_restartWalker 37 = .ok (.sipush 953, 3) := by decide +kernel
theorem dX11_restartWalker_40 : decode cX11_restartWalker 40 = .ok (.iconst 3, 1) := by decide +kernel
theorem dX11_restartWalker_41 : decode cX11_restartWalker 41 = .ok (.iload_n 1, 1) := by decide +kernel
theorem dX11_restartWalker_42 : decode cX11_restartWalker 42 = .ok (.imul, 1) := by decide +kernel
theorem dX11_restartWalker_43 : decode cX11_restartWalker 43 = .ok (.iadd, 1) := by decide +kernel
theorem dX11_restartWalker_44 : decode cX11_restartWalker 44 = .ok (.iconst 1, 1) := by decide +kernel
theorem dX11_restartWalker_45 : decode cX11_restartWalker 45 = .ok (.iadd, 1) := by decide +kernel
theorem dX11_restartWalker_46 : decode cX11_restartWalker 46 = .ok (.iconst 0, 1) := by decide +kernel
theorem dX11_restartWalker_47 : decode cX11_restartWalker 47 = .ok (.iastore, 1) := by decide +kernel
theorem dX11_restartWalker_48 : decode cX11_restartWalker 48 = .ok (.aload_n 0, 1) := by decide +kernel
theorem dX11_restartWalker_49 : decode cX11_restartWalker 49 = .ok (.getfield 7, 3) := by decide +kernel
theorem dX11_restartWalker_52 : decode cX11_restartWalker 52 = .ok (.sipush 953, 3) := by decide +kernel
theorem dX11_restartWalker_55 : decode cX11_restartWalker 55 = .ok (.iconst 3, 1) := by decide +kernel
theorem dX11_restartWalker_56 : decode cX11_restartWalker 56 = .ok (.iload_n 1, 1) := by decide +kernel
theorem dX11_restartWalker_57 : decode cX11_restartWalker 57 = .ok (.imul, 1) := by decide +kernel
theorem dX11_restartWalker_58 : decode cX11_restartWalker 58 = .ok (.iadd, 1) := by decide +kernel
theorem dX11_restartWalker_59 : decode cX11_restartWalker 59 = .ok (.iconst 2, 1) := by decide +kernel
theorem dX11_restartWalker_60 : decode cX11_restartWalker 60 = .ok (.iadd, 1) := by decide +kernel
theorem dX11_restartWalker_61 : decode cX11_restartWalker 61 = .ok (.iconst 0, 1) := by decide +kernel
theorem dX11_restartWalker_62 : decode cX11_restartWalker 62 = .ok (.iastore, 1) := by decide +kernel
theorem dX11_restartWalker_63 : decode cX11_restartWalker 63 = .ok (.aload_n 0, 1) := by decide +kernel
theorem dX11_restartWalker_64 : decode cX11_restartWalker 64 = .ok (.invokevirtual 222, 3) := by decide +kernel
theorem dX11_restartWalker_67 : decode cX11_restartWalker 67 = .ok (.iload_n 2, 1) := by decide +kernel
theorem dX11_restartWalker_68 : decode cX11_restartWalker 68 = .ok (.ireturn, 1) := by decide +kernel
theorem dX11_setGate_0 : decode cX11_setGate 0 = .ok (.aload_n 0, 1) := by decide +kernel
theorem dX11_setGate_1 : decode cX11_setGate 1 = .ok (.iload_n 1, 1) := by decide +kernel
theorem dX11_setGate_2 : decode cX11_setGate 2 = .ok (.invokestatic 234, 3) := by decide +kernel
theorem dX11_setGate_5 : decode cX11_setGate 5 = .ok (.ifCond .ne 7, 3) := by decide +kernel
theorem dX11_setGate_8 : decode cX11_setGate 8 = .ok (.iconst 1, 1) := by decide +kernel
theorem dX11_setGate_9 : decode cX11_setGate 9 = .ok (.goto 4, 3) := by decide +kernel
theorem dX11_setGate_12 : decode cX11_setGate 12 = .ok (.iconst 0, 1) := by decide +kernel
theorem dX11_setGate_13 : decode cX11_setGate 13 = .ok (.invokevirtual 209, 3) := by decide +kernel
theorem dX11_setGate_16 : decode cX11_setGate 16 = .ok (.ifCond .eq 5, 3) := by decide +kernel
theorem dX11_setGate_19 : decode cX11_setGate 19 = .ok (.iconst 0, 1) := by decide +kernel
theorem dX11_setGate_20 : decode cX11_setGate 20 = .ok (.ireturn, 1) := by decide +kernel
theorem dX11_setGate_21 : decode cX11_setGate 21 = .ok (.aload_n 0, 1) := by decide +kernel
theorem dX11_setGate_22 : decode cX11_setGate 22 = .ok (.invokevirtual 216, 3) := by decide +kernel
theorem dX11_setGate_25 : decode cX11_setGate 25 = .ok (.sipush 971, 3) := by decide +kernel
theorem dX11_setGate_28 : decode cX11_setGate 28 = .ok (.iconst 2, 1) := by decide +kernel
theorem dX11_setGate_29 : decode cX11_setGate 29 = .ok (.iload_n 1, 1) := by decide +kernel
theorem dX11_setGate_30 : decode cX11_setGate 30 = .ok (.imul, 1) := by decide +kernel
theorem dX11_setGate_31 : decode cX11_setGate 31 = .ok (.iadd, 1) := by decide +kernel
theorem dX11_setGate_32 : decode cX11_setGate 32 = .ok (.iload_n 2, 1) := by decide +kernel
theorem dX11_setGate_33 : decode cX11_setGate 33 = .ok (.ifCond .eq 7, 3) := by decide +kernel
theorem dX11_setGate_36 : decode cX11_setGate 36 = .ok (.iconst 1, 1) := by decide +kernel
theorem dX11_setGate_37 : decode cX11_setGate 37 = .ok (.goto 4, 3) := by decide +kernel
theorem dX11_setGate_40 : decode cX11_setGate 40 = .ok (.iconst 0, 1) := by decide +kernel
theorem dX11_setGate_41 : decode cX11_setGate 41 = .ok (.iadd, 1) := by decide +kernel
theorem dX11_setGate_42 : decode cX11_setGate 42 = .ok (.istore 4, 2) := by decide +kernel
theorem dX11_setGate_44 : decode cX11_setGate 44 = .ok (.aload_n 0, 1) := by decide +kernel
theorem dX11_setGate_45 : decode cX11_setGate 45 = .ok (.getfield 7, 3) := by decide +kernel
theorem dX11_setGate_48 : decode cX11_setGate 48 = .ok (.iload 4, 2) := by decide +kernel
theorem dX11_setGate_50 : decode cX11_setGate 50 = .ok (.iaload, 1) := by decide +kernel
theorem dX11_setGate_51 : decode cX11_setGate 51 = .ok (.iconst 1, 1) := by decide +kernel
theorem dX11_setGate_52 : decode cX11_setGate 52 = .ok (.if_icmp .ne 7, 3) := by decide +kernel
theorem dX11_setGate_55 : decode cX11_setGate 55 = .ok (.iconst 1, 1) := by decide +kernel
theorem dX11_setGate_56 : decode cX11_setGate 56 = .ok (.goto 4, 3) := by decide +kernel
theorem dX11_setGate_59 : decode cX11_setGate 59 = .ok (.iconst 0, 1) := by decide +kernel
theorem dX11_setGate_60 : decode cX11_setGate 60 = .ok (.istore 5, 2) := by decide +kernel
theorem dX11_setGate_62 : decode cX11_setGate 62 = .ok (.aload_n 0, 1) := by decide +kernel
theorem dX11_setGate_63 : decode cX11_setGate 63 = .ok (.getfield 7, 3) := by decide +kernel
theorem dX11_setGate_66 : decode cX11_setGate 66 = .ok (.iload 4, 2) := by decide +kernel
theorem dX11_setGate_68 : decode cX11_setGate 68 = .ok (.iload_n 3, 1) := by decide +kernel
theorem dX11_setGate_69 : decode cX11_setGate 69 = .ok (.ifCond .eq 7, 3) := by decide +kernel
theorem dX11_setGate_72 : decode cX11_setGate 72 = .ok (.iconst 1, 1) := by decide +kernel
theorem dX11_setGate_73 : decode cX11_setGate 73 = .ok (.goto 4, 3) := by decide +kernel
theorem dX11_setGate_76 : decode cX11_setGate 76 = .ok (.iconst 0, 1) := by decide +kernel
theorem dX11_setGate_77 : decode cX11_setGate 77 = .ok (.iastore, 1) := by decide +kernel
theorem dX11_setGate_78 : decode cX11_setGate 78 = .ok (.aload_n 0, 1) := by decide +kernel
theorem dX11_setGate_79 : decode cX11_setGate 79 = .ok (.invokevirtual 222, 3) := by decide +kernel
theorem dX11_setGate_82 : decode cX11_setGate 82 = .ok (.iload 5, 2) := by decide +kernel
theorem dX11_setGate_84 : decode cX11_setGate 84 = .ok (.ireturn, 1) := by decide +kernel
theorem dX11_setNight_0 : decode cX11_setNight 0 = .ok (.aload_n 0, 1) := by decide +kernel
theorem dX11_setNight_1 : decode cX11_setNight 1 = .ok (.iconst 0, 1) := by decide +kernel
theorem dX11_setNight_2 : decode cX11_setNight 2 = .ok (.putfield 95, 3) := by decide +kernel
theorem dX11_setNight_5 : decode cX11_setNight 5 = .ok (.aload_n 0, 1) := by decide +kernel
theorem dX11_setNight_6 : decode cX11_setNight 6 = .ok (.invokevirtual 216, 3) := by decide +kernel
theorem dX11_setNight_9 : decode cX11_setNight 9 = .ok (.aload_n 0, 1) := by decide +kernel
theorem dX11_setNight_10 : decode cX11_setNight 10 = .ok (.getfield 7, 3) := by decide +kernel
theorem dX11_setNight_13 : decode cX11_setNight 13 = .ok (.sipush 983, 3) := by decide +kernel
theorem dX11_setNight_16 : decode cX11_setNight 16 = .ok (.iload_n 1, 1) := by decide +kernel
theorem dX11_setNight_17 : decode cX11_setNight 17 = .ok (.ifCond .eq 7, 3) := by decide +kernel
theorem dX11_setNight_20 : decode cX11_setNight 20 = .ok (.iconst 1, 1) := by decide +kernel
theorem dX11_setNight_21 : decode cX11_setNight 21 = .ok (.goto 4, 3) := by decide +kernel
theorem dX11_setNight_24 : decode cX11_setNight 24 = .ok (.iconst 0, 1) := by decide +kernel
theorem dX11_setNight_25 : decode cX11_setNight 25 = .ok (.iastore, 1) := by decide +kernel
theorem dX11_setNight_26 : decode cX11_setNight 26 = .ok (.aload_n 0, 1) := by decide +kernel
theorem dX11_setNight_27 : decode cX11_setNight 27 = .ok (.invokevirtual 222, 3) := by decide +kernel
theorem dX11_setNight_30 : decode cX11_setNight 30 = .ok (.iconst 0, 1) := by decide +kernel
theorem dX11_setNight_31 : decode cX11_setNight 31 = .ok (.istore_n 2, 1) := by decide +kernel
theorem dX11_setNight_32 : decode cX11_setNight 32 = .ok (.iconst 0, 1) := by decide +kernel
theorem dX11_setNight_33 : decode cX11_setNight 33 = .ok (.istore_n 3, 1) := by decide +kernel
theorem dX11_setNight_34 : decode cX11_setNight 34 = .ok (.iload_n 3, 1) := by decide +kernel
theorem dX11_setNight_35 : decode cX11_setNight 35 = .ok (.bipush 6, 2) := by decide +kernel
theorem dX11_setNight_37 : decode cX11_setNight 37 = .ok (.if_icmp .ge 25, 3) := by decide +kernel
theorem dX11_setNight_40 : decode cX11_setNight 40 = .ok (.iload_n 2, 1) := by decide +kernel
theorem dX11_setNight_41 : decode cX11_setNight 41 = .ok (.aload_n 0, 1) := by decide +kernel
theorem dX11_setNight_42 : decode cX11_setNight 42 = .ok (.iload_n 3, 1) := by decide +kernel
theorem dX11_setNight_43 : decode cX11_setNight 43 = .ok (.invokevirtual 237, 3) := by decide +kernel
theorem dX11_setNight_46 : decode cX11_setNight 46 = .ok (.ifCond .eq 7, 3) := by decide +kernel
theorem dX11_setNight_49 : decode cX11_setNight 49 = .ok (.iconst 1, 1) := by decide +kernel
theorem dX11_setNight_50 : decode cX11_setNight 50 = .ok (.goto 4, 3) := by decide +kernel
theorem dX11_setNight_53 : decode cX11_setNight 53 = .ok (.iconst 0, 1) := by decide +kernel
theorem dX11_setNight_54 : decode cX11_setNight 54 = .ok (.iadd, 1) := by decide +kernel
theorem dX11_setNight_55 : decode cX11_setNight 55 = .ok (.istore_n 2, 1) := by decide +kernel
theorem dX11_setNight_56 : decode cX11_setNight 56 = .ok (.iinc 3 1, 3) := by decide +kernel
theorem dX11_setNight_59 : decode cX11_setNight 59 = .ok (.goto (-25), 3) := by decide +kernel
theorem dX11_setNight_62 : decode cX11_setNight 62 = .ok (.iload_n 2, 1) := by decide +kernel
theorem dX11_setNight_63 : decode cX11_setNight 63 = .ok (.ireturn, 1) := by decide +kernel
theorem dX11_undo_0 : decode cX11_undo 0 = .ok (.aload_n 0, 1) := by decide +kernel
theorem dX11_undo_1 : decode cX11_undo 1 = .ok (.iconst 0, 1) := by decide +kernel
theorem dX11_undo_2 : decode cX11_undo 2 = .ok (.putfield 95, 3) := by decide +kernel
theorem dX11_undo_5 : decode cX11_undo 5 = .ok (.aload_n 0, 1) := by decide +kernel
theorem dX11_undo_6 : decode cX11_undo 6 = .ok (.getfield 213, 3) := by decide +kernel
theorem dX11_undo_9 : decode cX11_undo 9 = .ok (.ifCond .ne 5, 3) := by decide +kernel
theorem dX11_undo_12 : decode cX11_undo 12 = .ok (.iconst (-1), 1) := by decide +kernel
theorem dX11_undo_13 : decode cX11_undo 13 = .ok (.ireturn, 1) := by decide +kernel
theorem dX11_undo_14 : decode cX11_undo 14 = .ok (.aload_n 0, 1) := by decide +kernel
theorem dX11_undo_15 : decode cX11_undo 15 = .ok (.dup, 1) := by decide +kernel
theorem dX11_undo_16 : decode cX11_undo 16 = .ok (.getfield 213, 3) := by decide +kernel
theorem dX11_undo_19 : decode cX11_undo 19 = .ok (.iconst 1, 1) := by decide +kernel
theorem dX11_undo_20 : decode cX11_undo 20 = .ok (.isub, 1) := by decide +kernel
theorem dX11_undo_21 : decode cX11_undo 21 = .ok (.putfield 213, 3) := by decide +kernel
theorem dX11_undo_24 : decode cX11_undo 24 = .ok (.iconst 0, 1) := by decide +kernel
theorem dX11_undo_25 : decode cX11_undo 25 = .ok (.istore_n 1, 1) := by decide +kernel
theorem dX11_undo_26 : decode cX11_undo 26 = .ok (.iload_n 1, 1) := by decide +kernel
theorem dX11_undo_27 : decode cX11_undo 27 = .ok (.sipush 985, 3) := by decide +kernel
theorem dX11_undo_30 : decode cX11_undo 30 = .ok (.if_icmp .ge 30, 3) := by decide +kernel
theorem dX11_undo_33 : decode cX11_undo 33 = .ok (.aload_n 0, 1) := by decide +kernel
theorem dX11_undo_34 : decode cX11_undo 34 = .ok (.getfield 7, 3) := by decide +kernel
theorem dX11_undo_37 : decode cX11_undo 37 = .ok (.iload_n 1, 1) := by decide +kernel
theorem dX11_undo_38 : decode cX11_undo 38 = .ok (.aload_n 0, 1) := by decide +kernel
theorem dX11_undo_39 : decode cX11_undo 39 = .ok (.getfield 16, 3) := by decide +kernel
theorem dX11_undo_42 : decode cX11_undo 42 = .ok (.sipush 985, 3) := by decide +kernel
theorem dX11_undo_45 : decode cX11_undo 45 = .ok (.aload_n 0, 1) := by decide +kernel
theorem dX11_undo_46 : decode cX11_undo 46 = .ok (.getfield 213, 3) := by decide +kernel
theorem dX11_undo_49 : decode cX11_undo 49 = .ok (.imul, 1) := by decide +kernel
theorem dX11_undo_50 : decode cX11_undo 50 = .ok (.iload_n 1, 1) := by decide +kernel
theorem dX11_undo_51 : decode cX11_undo 51 = .ok (.iadd, 1) := by decide +kernel
theorem dX11_undo_52 : decode cX11_undo 52 = .ok (.iaload, 1) := by decide +kernel
theorem dX11_undo_53 : decode cX11_undo 53 = .ok (.iastore, 1) := by decide +kernel
theorem dX11_undo_54 : decode cX11_undo 54 = .ok (.iinc 1 1, 3) := by decide +kernel
theorem dX11_undo_57 : decode cX11_undo 57 = .ok (.goto (-31), 3) := by decide +kernel
theorem dX11_undo_60 : decode cX11_undo 60 = .ok (.aload_n 0, 1) := by decide +kernel
theorem dX11_undo_61 : decode cX11_undo 61 = .ok (.getfield 213, 3) := by decide +kernel
theorem dX11_undo_64 : decode cX11_undo 64 = .ok (.ireturn, 1) := by decide +kernel
theorem dX11_undoCount_0 : decode cX11_undoCount 0 = .ok (.aload_n 0, 1) := by decide +kernel
theorem dX11_undoCount_1 : decode cX11_undoCount 1 = .ok (.iconst 0, 1) := by decide +kernel
theorem dX11_undoCount_2 : decode cX11_undoCount 2 = .ok (.putfield 95, 3) := by decide +kernel
theorem dX11_undoCount_5 : decode cX11_undoCount 5 = .ok (.aload_n 0, 1) := by decide +kernel
theorem dX11_undoCount_6 : decode cX11_undoCount 6 = .ok (.getfield 213, 3) := by decide +kernel
theorem dX11_undoCount_9 : decode cX11_undoCount 9 = .ok (.ireturn, 1) := by decide +kernel
theorem dX11_saveSnapshot_0 : decode cX11_saveSnapshot 0 = .ok (.aload_n 0, 1) := by decide +kernel
theorem dX11_saveSnapshot_1 : decode cX11_saveSnapshot 1 = .ok (.iconst 0, 1) := by decide +kernel
theorem dX11_saveSnapshot_2 : decode cX11_saveSnapshot 2 = .ok (.putfield 95, 3) := by decide +kernel
theorem dX11_saveSnapshot_5 : decode cX11_saveSnapshot 5 = .ok (.aload_n 0, 1) := by decide +kernel
theorem dX11_saveSnapshot_6 : decode cX11_saveSnapshot 6 = .ok (.iconst 1, 1) := by decide +kernel
theorem dX11_saveSnapshot_7 : decode cX11_saveSnapshot 7 = .ok (.putfield 243, 3) := by decide +kernel
theorem dX11_saveSnapshot_10 : decode cX11_saveSnapshot 10 = .ok (.iconst 0, 1) := by decide +kernel
theorem dX11_saveSnapshot_11 : decode cX11_saveSnapshot 11 = .ok (.istore_n 1, 1) := by decide +kernel
theorem dX11_saveSnapshot_12 : decode cX11_saveSnapshot 12 = .ok (.iload_n 1, 1) := by decide +kernel
theorem dX11_saveSnapshot_13 : decode cX11_saveSnapshot 13 = .ok (.sipush 985, 3) := by decide +kernel
theorem dX11_saveSnapshot_16 : decode cX11_saveSnapshot 16 = .ok (.if_icmp .ge 21, 3) := by decide +kernel
theorem dX11_saveSnapshot_19 : decode cX11_saveSnapshot 19 = .ok (.aload_n 0, 1) := by decide +kernel
theorem dX11_saveSnapshot_20 : decode cX11_saveSnapshot 20 = .ok (.getfield 19, 3) := by decide +kernel
theorem dX11_saveSnapshot_23 : decode cX11_saveSnapshot 23 = .ok (.iload_n 1, 1) := by decide +kernel
theorem dX11_saveSnapshot_24 : decode cX11_saveSnapshot 24 = .ok (.aload_n 0, 1) := by decide +kernel
theorem dX11_saveSnapshot_25 : decode cX11_saveSnapshot 25 = .ok (.getfield 7, 3) := by decide +kernel
theorem dX11_saveSnapshot_28 : decode cX11_saveSnapshot 28 = .ok (.iload_n 1, 1) := by decide +kernel
theorem dX11_saveSnapshot_29 : decode cX11_saveSnapshot 29 = .ok (.iaload, 1) := by decide +kernel
theorem dX11_saveSnapshot_30 : decode cX11_saveSnapshot 30 = .ok (.iastore, 1) := by decide +kernel
theorem dX11_saveSnapshot_31 : decode cX11_saveSnapshot 31 = .ok (.iinc 1 1, 3) := by decide +kernel
theorem dX11_saveSnapshot_34 : decode cX11_saveSnapshot 34 = .ok (.goto (-22), 3) := by decide +kernel
theorem dX11_saveSnapshot_37 : decode cX11_saveSnapshot 37 = .ok (.aload_n 0, 1) := by decide +kernel
theorem dX11_saveSnapshot_38 : decode cX11_saveSnapshot 38 = .ok (.getfield 7, 3) := by decide +kernel
theorem dX11_saveSnapshot_41 : decode cX11_saveSnapshot 41 = .ok (.sipush 952, 3) := by decide +kernel
theorem dX11_saveSnapshot_44 : decode cX11_saveSnapshot 44 = .ok (.iaload, 1) := by decide +kernel
theorem dX11_saveSnapshot_45 : decode cX11_saveSnapshot 45 = .ok (.ireturn, 1) := by decide +kernel
theorem dX11_restoreSnapshot_0 : decode cX11_restoreSnapshot 0 = .ok (.aload_n 0, 1) := by decide +kernel
theorem dX11_restoreSnapshot_1 : decode cX11_restoreSnapshot 1 = .ok (.aload_n 0, 1) := by decide +kernel
theorem dX11_restoreSnapshot_2 : decode cX11_restoreSnapshot 2 = .ok (.getfield 243, 3) := by decide +kernel
theorem dX11_restoreSnapshot_5 : decode cX11_restoreSnapshot 5 = .ok (.ifCond .ne 7, 3) := by decide +kernel
theorem dX11_restoreSnapshot_8 : decode cX11_restoreSnapshot 8 = .ok (.iconst 1, 1) := by decide +kernel
theorem dX11_restoreSnapshot_9 : decode cX11_restoreSnapshot 9 = .ok (.goto 4, 3) := by decide +kernel
theorem dX11_restoreSnapshot_12 : decode cX11_restoreSnapshot 12 = .ok (.iconst 0, 1) := by decide +kernel
theorem dX11_restoreSnapshot_13 : decode cX11_restoreSnapshot 13 = .ok (.invokevirtual 209, 3) := by decide +kernel
theorem dX11_restoreSnapshot_16 : decode cX11_restoreSnapshot 16 = .ok (.ifCond .eq 5, 3) := by decide +kernel
theorem dX11_restoreSnapshot_19 : decode cX11_restoreSnapshot 19 = .ok (.iconst 0, 1) := by decide +kernel
theorem dX11_restoreSnapshot_20 : decode cX11_restoreSnapshot 20 = .ok (.ireturn, 1) := by decide +kernel
theorem dX11_restoreSnapshot_21 : decode cX11_restoreSnapshot 21 = .ok (.iconst 0, 1) := by decide +kernel
theorem dX11_restoreSnapshot_22 : decode cX11_restoreSnapshot 22 = .ok (.istore_n 1, 1) := by decide +kernel
theorem dX11_restoreSnapshot_23 : decode cX11_restoreSnapshot 23 = .ok (.iload_n 1, 1) := by decide +kernel
theorem dX11_restoreSnapshot_24 : decode cX11_restoreSnapshot 24 = .ok (.sipush 985, 3) := by decide +kernel
theorem dX11_restoreSnapshot_27 : decode cX11_restoreSnapshot 27 = .ok (.if_icmp .ge 21, 3) := by decide +kernel
theorem dX11_restoreSnapshot_30 : decode cX11_restoreSnapshot 30 = .ok (.aload_n 0, 1) := by decide +kernel
theorem dX11_restoreSnapshot_31 : decode cX11_restoreSnapshot 31 = .ok (.getfield 7, 3) := by decide +kernel
theorem dX11_restoreSnapshot_34 : decode cX11_restoreSnapshot 34 = .ok (.iload_n 1, 1) := by decide +kernel
theorem dX11_restoreSnapshot_35 : decode cX11_restoreSnapshot 35 = .ok (.aload_n 0, 1) := by decide +kernel
theorem dX11_restoreSnapshot_36 : decode cX11_restoreSnapshot 36 = .ok (.getfield 19, 3) := by decide +kernel
theorem dX11_restoreSnapshot_39 : decode cX11_restoreSnapshot 39 = .ok (.iload_n 1, 1) := by decide +kernel
theorem dX11_restoreSnapshot_40 : decode cX11_restoreSnapshot 40 = .ok (.iaload, 1) := by decide +kernel
theorem dX11_restoreSnapshot_41 : decode cX11_restoreSnapshot 41 = .ok (.iastore, 1) := by decide +kernel
theorem dX11_restoreSnapshot_42 : decode cX11_restoreSnapshot 42 = .ok (.iinc 1 1, 3) := by decide +kernel
theorem dX11_restoreSnapshot_45 : decode cX11_restoreSnapshot 45 = .ok (.goto (-22), 3) := by decide +kernel
theorem dX11_restoreSnapshot_48 : decode cX11_restoreSnapshot 48 = .ok (.aload_n 0, 1) := by decide +kernel
theorem dX11_restoreSnapshot_49 : decode cX11_restoreSnapshot 49 = .ok (.iconst 0, 1) := by decide +kernel
theorem dX11_restoreSnapshot_50 : decode cX11_restoreSnapshot 50 = .ok (.putfield 213, 3) := by decide +kernel
theorem dX11_restoreSnapshot_53 : decode cX11_restoreSnapshot 53 = .ok (.aload_n 0, 1) := by decide +kernel
theorem dX11_restoreSnapshot_54 : decode cX11_restoreSnapshot 54 = .ok (.getfield 7, 3) := by decide +kernel
theorem dX11_restoreSnapshot_57 : decode cX11_restoreSnapshot 57 = .ok (.sipush 952, 3) := by decide +kernel
theorem dX11_restoreSnapshot_60 : decode cX11_restoreSnapshot 60 = .ok (.iaload, 1) := by decide +kernel
theorem dX11_restoreSnapshot_61 : decode cX11_restoreSnapshot 61 = .ok (.ireturn, 1) := by decide +kernel
theorem dX11_patternErrorKind_0 : decode cX11_patternErrorKind 0 = .ok (.aload_n 0, 1) := by decide +kernel
theorem dX11_patternErrorKind_1 : decode cX11_patternErrorKind 1 = .ok (.iconst 0, 1) := by decide +kernel
theorem dX11_patternErrorKind_2 : decode cX11_patternErrorKind 2 = .ok (.putfield 95, 3) := by decide +kernel
theorem dX11_patternErrorKind_5 : decode cX11_patternErrorKind 5 = .ok (.aload_n 0, 1) := by decide +kernel
theorem dX11_patternErrorKind_6 : decode cX11_patternErrorKind 6 = .ok (.getfield 92, 3) := by decide +kernel
theorem dX11_patternErrorKind_9 : decode cX11_patternErrorKind 9 = .ok (.ireturn, 1) := by decide +kernel
theorem dX11_patternErrorOffset_0 : decode cX11_patternErrorOffset 0 = .ok (.aload_n 0, 1) := by decide +kernel
theorem dX11_patternErrorOffset_1 : decode cX11_patternErrorOffset 1 = .ok (.iconst 0, 1) := by decide +kernel
theorem dX11_patternErrorOffset_2 : decode cX11_patternErrorOffset 2 = .ok (.putfield 95, 3) := by decide +kernel
theorem dX11_patternErrorOffset_5 : decode cX11_patternErrorOffset 5 = .ok (.aload_n 0, 1) := by decide +kernel
theorem dX11_patternErrorOffset_6 : decode cX11_patternErrorOffset 6 = .ok (.getfield 25, 3) := by decide +kernel
theorem dX11_patternErrorOffset_9 : decode cX11_patternErrorOffset 9 = .ok (.ireturn, 1) := by decide +kernel
theorem dX11_told_0 : decode cX11_told 0 = .ok (.aload_n 0, 1) := by decide +kernel
theorem dX11_told_1 : decode cX11_told 1 = .ok (.iload_n 1, 1) := by decide +kernel
theorem dX11_told_2 : decode cX11_told 2 = .ok (.invokestatic 112, 3) := by decide +kernel
theorem dX11_told_5 : decode cX11_told 5 = .ok (.ifCond .ne 7, 3) := by decide +kernel
theorem dX11_told_8 : decode cX11_told 8 = .ok (.iconst 1, 1) := by decide +kernel
theorem dX11_told_9 : decode cX11_told 9 = .ok (.goto 4, 3) := by decide +kernel
theorem dX11_told_12 : decode cX11_told 12 = .ok (.iconst 0, 1) := by decide +kernel
theorem dX11_told_13 : decode cX11_told 13 = .ok (.invokevirtual 209, 3) := by decide +kernel
theorem dX11_told_16 : decode cX11_told 16 = .ok (.ifCond .eq 7, 3) := by decide +kernel
theorem dX11_told_19 : decode cX11_told 19 = .ok (.iconst 0, 1) := by decide +kernel
theorem dX11_told_20 : decode cX11_told 20 = .ok (.goto 9, 3) := by decide +kernel
theorem dX11_told_23 : decode cX11_told 23 = .ok (.aload_n 0, 1) := by decide +kernel
theorem dX11_told_24 : decode cX11_told 24 = .ok (.iload_n 1, 1) := by decide +kernel
theorem dX11_told_25 : decode cX11_told 25 = .ok (.iload_n 2, 1) := by decide +kernel
theorem dX11_told_26 : decode cX11_told 26 = .ok (.invokevirtual 115, 3) := by decide +kernel
theorem dX11_told_29 : decode cX11_told 29 = .ok (.ireturn, 1) := by decide +kernel
theorem dX11_positionCount_0 : decode cX11_positionCount 0 = .ok (.aload_n 0, 1) := by decide +kernel
theorem dX11_positionCount_1 : decode cX11_positionCount 1 = .ok (.iload_n 1, 1) := by decide +kernel
theorem dX11_positionCount_2 : decode cX11_positionCount 2 = .ok (.iconst 0, 1) := by decide +kernel
theorem dX11_positionCount_3 : decode cX11_positionCount 3 = .ok (.invokevirtual 247, 3) := by decide +kernel
theorem dX11_positionCount_6 : decode cX11_positionCount 6 = .ok (.ireturn, 1) := by decide +kernel
theorem dX11_streetAt_0 : decode cX11_streetAt 0 = .ok (.aload_n 0, 1) := by decide +kernel
theorem dX11_streetAt_1 : decode cX11_streetAt 1 = .ok (.aload_n 0, 1) := by decide +kernel
theorem dX11_streetAt_2 : decode cX11_streetAt 2 = .ok (.iload_n 1, 1) := by decide +kernel
theorem dX11_streetAt_3 : decode cX11_streetAt 3 = .ok (.iload_n 2, 1) := by decide +kernel
theorem dX11_streetAt_4 : decode cX11_streetAt 4 = .ok (.invokevirtual 250, 3) := by decide +kernel
theorem dX11_streetAt_7 : decode cX11_streetAt 7 = .ok (.ifCond .ne 7, 3) := by decide +kernel
theorem dX11_streetAt_10 : decode cX11_streetAt 10 = .ok (.iconst 1, 1) := by decide +kernel
theorem dX11_streetAt_11 : decode cX11_streetAt 11 = .ok (.goto 4, 3) := by decide +kernel
theorem dX11_streetAt_14 : decode cX11_streetAt 14 = .ok (.iconst 0, 1) := by decide +kernel
theorem dX11_streetAt_15 : decode cX11_streetAt 15 = .ok (.invokevirtual 209, 3) := by decide +kernel
theorem dX11_streetAt_18 : decode cX11_streetAt 18 = .ok (.ifCond .eq 5, 3) := by decide +kernel
theorem dX11_streetAt_21 : decode cX11_streetAt 21 = .ok (.iconst 0, 1) := by decide +kernel
theorem dX11_streetAt_22 : decode cX11_streetAt 22 = .ok (.ireturn, 1) := by decide +kernel
theorem dX11_streetAt_23 : decode cX11_streetAt 23 = .ok (.aload_n 0, 1) := by decide +kernel
theorem dX11_streetAt_24 : decode cX11_streetAt 24 = .ok (.iload_n 1, 1) := by decide +kernel
theorem dX11_streetAt_25 : decode cX11_streetAt 25 = .ok (.bipush 31, 2) := by decide +kernel
theorem dX11_streetAt_27 : decode cX11_streetAt 27 = .ok (.iload_n 2, 1) := by decide +kernel
theorem dX11_streetAt_28 : decode cX11_streetAt 28 = .ok (.iadd, 1) := by decide +kernel
theorem dX11_streetAt_29 : decode cX11_streetAt 29 = .ok (.invokevirtual 115, 3) := by decide +kernel
theorem dX11_streetAt_32 : decode cX11_streetAt 32 = .ok (.istore_n 3, 1) := by decide +kernel
theorem dX11_streetAt_33 : decode cX11_streetAt 33 = .ok (.iload_n 3, 1) := by decide +kernel
theorem dX11_streetAt_34 : decode cX11_streetAt 34 = .ok (.bipush 6, 2) := by decide +kernel
theorem dX11_streetAt_36 : decode cX11_streetAt 36 = .ok (.if_icmp .ne 7, 3) := by decide +kernel
theorem dX11_streetAt_39 : decode cX11_streetAt 39 = .ok (.iconst (-1), 1) := by decide +kernel
theorem dX11_streetAt_40 : decode cX11_streetAt 40 = .ok (.goto 4, 3) := by decide +kernel
theorem dX11_streetAt_43 : decode cX11_streetAt 43 = .ok (.iload_n 3, 1) := by decide +kernel
theorem dX11_streetAt_44 : decode cX11_streetAt 44 = .ok (.ireturn, 1) := by decide +kernel
theorem dX11_acceptsEmptyWord_0 : decode cX11_acceptsEmptyWord 0 = .ok (.aload_n 0, 1) := by decide +kernel
theorem dX11_acceptsEmptyWord_1 : decode cX11_acceptsEmptyWord 1 = .ok (.iload_n 1, 1) := by decide +kernel
theorem dX11_acceptsEmptyWord_2 : decode cX11_acceptsEmptyWord 2 = .ok (.iconst 1, 1) := by decide +kernel
theorem dX11_acceptsEmptyWord_3 : decode cX11_acceptsEmptyWord 3 = .ok (.invokevirtual 247, 3) := by decide +kernel
theorem dX11_acceptsEmptyWord_6 : decode cX11_acceptsEmptyWord 6 = .ok (.iconst 1, 1) := by decide +kernel
theorem dX11_acceptsEmptyWord_7 : decode cX11_acceptsEmptyWord 7 = .ok (.if_icmp .ne 7, 3) := by decide +kernel
theorem dX11_acceptsEmptyWord_10 : decode cX11_acceptsEmptyWord 10 = .ok (.iconst 1, 1) := by decide +kernel
theorem dX11_acceptsEmptyWord_11 : decode cX11_acceptsEmptyWord 11 = .ok (.goto 4, 3) := by decide +kernel
theorem dX11_acceptsEmptyWord_14 : decode cX11_acceptsEmptyWord 14 = .ok (.iconst 0, 1) := by decide +kernel
theorem dX11_acceptsEmptyWord_15 : decode cX11_acceptsEmptyWord 15 = .ok (.ireturn, 1) := by decide +kernel
theorem dX11_firstPositions_0 : decode cX11_firstPositions 0 = .ok (.aload_n 0, 1) := by decide +kernel
theorem dX11_firstPositions_1 : decode cX11_firstPositions 1 = .ok (.iload_n 1, 1) := by decide +kernel
theorem dX11_firstPositions_2 : decode cX11_firstPositions 2 = .ok (.iconst 2, 1) := by decide +kernel
theorem dX11_firstPositions_3 : decode cX11_firstPositions 3 = .ok (.invokevirtual 247, 3) := by decide +kernel
theorem dX11_firstPositions_6 : decode cX11_firstPositions 6 = .ok (.ireturn, 1) := by decide +kernel
theorem dX11_lastPositions_0 : decode cX11_lastPositions 0 = .ok (.aload_n 0, 1) := by decide +kernel
theorem dX11_lastPositions_1 : decode cX11_lastPositions 1 = .ok (.iload_n 1, 1) := by decide +kernel
theorem dX11_lastPositions_2 : decode cX11_lastPositions 2 = .ok (.iconst 3, 1) := by decide +kernel
theorem dX11_lastPositions_3 : decode cX11_lastPositions 3 = .ok (.invokevirtual 247, 3) := by decide +kernel
theorem dX11_lastPositions_6 : decode cX11_lastPositions 6 = .ok (.ireturn, 1) := by decide +kernel
theorem dX11_followPositions_0 : decode cX11_followPositions 0 = .ok (.aload_n 0, 1) := by decide +kernel
theorem dX11_followPositions_1 : decode cX11_followPositions 1 = .ok (.aload_n 0, 1) := by decide +kernel
theorem dX11_followPositions_2 : decode cX11_followPositions 2 = .ok (.iload_n 1, 1) := by decide +kernel
theorem dX11_followPositions_3 : decode cX11_followPositions 3 = .ok (.iload_n 2, 1) := by decide +kernel
theorem dX11_followPositions_4 : decode cX11_followPositions 4 = .ok (.invokevirtual 250, 3) := by decide +kernel
theorem dX11_followPositions_7 : decode cX11_followPositions 7 = .ok (.ifCond .ne 7, 3) := by decide +kernel
theorem dX11_followPositions_10 : decode cX11_followPositions 10 = .ok (.iconst 1, 1) := by decide +kernel
theorem dX11_followPositions_11 : decode cX11_followPositions 11 = .ok (.goto 4, 3) := by decide +kernel
theorem dX11_followPositions_14 : decode cX11_followPositions 14 = .ok (.iconst 0, 1) := by decide +kernel
theorem dX11_followPositions_15 : decode cX11_followPositions 15 = .ok (.invokevirtual 209, 3) := by decide +kernel
theorem dX11_followPositions_18 : decode cX11_followPositions 18 = .ok (.ifCond .eq 7, 3) := by decide +kernel
theorem dX11_followPositions_21 : decode cX11_followPositions 21 = .ok (.iconst 0, 1) := by decide +kernel
theorem dX11_followPositions_22 : decode cX11_followPositions 22 = .ok (.goto 12, 3) := by decide +kernel
theorem dX11_followPositions_25 : decode cX11_followPositions 25 = .ok (.aload_n 0, 1) := by decide +kernel
theorem dX11_followPositions_26 : decode cX11_followPositions 26 = .ok (.iload_n 1, 1) := by decide +kernel
theorem dX11_followPositions_27 : decode cX11_followPositions 27 = .ok (.bipush 6, 2) := by decide +kernel
theorem dX11_followPositions_29 : decode cX11_followPositions 29 = .ok (.iload_n 2, 1) := by decide +kernel
theorem dX11_followPositions_30 : decode cX11_followPositions 30 = .ok (.iadd, 1) := by decide +kernel
theorem dX11_followPositions_31 : decode cX11_followPositions 31 = .ok (.invokevirtual 115, 3) := by decide +kernel
theorem dX11_followPositions_34 : decode cX11_followPositions 34 = .ok (.ireturn, 1) := by decide +kernel
theorem dX11_loopCount_0 : decode cX11_loopCount 0 = .ok (.aload_n 0, 1) := by decide +kernel
theorem dX11_loopCount_1 : decode cX11_loopCount 1 = .ok (.iload_n 1, 1) := by decide +kernel
theorem dX11_loopCount_2 : decode cX11_loopCount 2 = .ok (.iconst 4, 1) := by decide +kernel
theorem dX11_loopCount_3 : decode cX11_loopCount 3 = .ok (.invokevirtual 247, 3) := by decide +kernel
theorem dX11_loopCount_6 : decode cX11_loopCount 6 = .ok (.ireturn, 1) := by decide +kernel
theorem dX11_isDeterministicAt_0 : decode cX11_isDeterministicAt 0 = .ok (.aload_n 0, 1) := by decide +kernel
theorem dX11_isDeterministicAt_1 : decode cX11_isDeterministicAt 1 = .ok (.aload_n 0, 1) := by decide +kernel
theorem dX11_isDeterministicAt_2 : decode cX11_isDeterministicAt 2 = .ok (.iload_n 1, 1) := by decide +kernel
theorem dX11_isDeterministicAt_3 : decode cX11_isDeterministicAt 3 = .ok (.iload_n 2, 1) := by decide +kernel
theorem dX11_isDeterministicAt_4 : decode cX11_isDeterministicAt 4 = .ok (.invokevirtual 250, 3) := by decide +kernel
theorem dX11_isDeterministicAt_7 : decode cX11_isDeterministicAt 7 = .ok (.ifCond .ne 7, 3) := by decide +kernel
theorem dX11_isDeterministicAt_10 : decode cX11_isDeterministicAt 10 = .ok (.iconst 1, 1) := by decide +kernel
theorem dX11_isDeterministicAt_11 : decode cX11_isDeterministicAt 11 = .ok (.goto 4, 3) := by decide +kernel
theorem dX11_isDeterministicAt_14 : decode cX11_isDeterministicAt 14 = .ok (.iconst 0, 1) := by decide +kernel
theorem dX11_isDeterministicAt_15 : decode cX11_isDeterministicAt 15 = .ok (.invokevirtual 209, 3) := by decide +kernel
theorem dX11_isDeterministicAt_18 : decode cX11_isDeterministicAt 18 = .ok (.ifCond .eq 5, 3) := by decide +kernel
theorem dX11_isDeterministicAt_21 : decode cX11_isDeterministicAt 21 = .ok (.iconst 0, 1) := by decide +kernel
theorem dX11_isDeterministicAt_22 : decode cX11_isDeterministicAt 22 = .ok (.ireturn, 1) := by decide +kernel
theorem dX11_isDeterministicAt_23 : decode cX11_isDeterministicAt 23 = .ok (.iconst 0, 1) := by decide +kernel
theorem dX11_isDeterministicAt_24 : decode cX11_isDeterministicAt 24 = .ok (.istore_n 3, 1) := by decide +kernel
theorem dX11_isDeterministicAt_25 : decode cX11_isDeterministicAt 25 = .ok (.iload_n 3, 1) := by decide +kernel
theorem dX11_isDeterministicAt_26 : decode cX11_isDeterministicAt 26 = .ok (.bipush 6, 2) := by decide +kernel
theorem dX11_isDeterministicAt_28 : decode cX11_isDeterministicAt 28 = .ok (.if_icmp .ge 93, 3) := by decide +kernel
theorem dX11_isDeterministicAt_31 : decode cX11_isDeterministicAt 31 = .ok (.iconst 0, 1) := by decide +kernel
theorem dX11_isDeterministicAt_32 : decode cX11_isDeterministicAt 32 = .ok (.istore 4, 2) := by decide +kernel
theorem dX11_isDeterministicAt_34 : decode cX11_isDeterministicAt 34 = .ok (.iconst 1, 1) := by decide +kernel
theorem dX11_isDeterministicAt_35 : decode cX11_isDeterministicAt 35 = .ok (.istore 5, 2) := by decide +kernel
theorem dX11_isDeterministicAt_37 : decode cX11_isDeterministicAt 37 = .ok (.iload 5, 2) := by decide +kernel
theorem dX11_isDeterministicAt_39 : decode cX11_isDeterministicAt 39 = .ok (.aload_n 0, 1) := by decide +kernel
theorem dX11_isDeterministicAt_40 : decode cX11_isDeterministicAt 40 = .ok (.iload_n 1, 1) := by decide +kernel
theorem dX11_isDeterministicAt_41 : decode cX11_isDeterministicAt 41 = .ok (.iconst 0, 1) := by decide +kernel
theorem dX11_isDeterministicAt_42 : decode cX11_isDeterministicAt 42 = .ok (.invokevirtual 115, 3) := by decide +kernel
theorem dX11_isDeterministicAt_45 : decode cX11_isDeterministicAt 45 = .ok (.if_icmp .gt 62, 3) := by decide +kernel
theorem dX11_isDeterministicAt_48 : decode cX11_isDeterministicAt 48 = .ok (.aload_n 0, 1) := by decide +kernel
theorem dX11_isDeterministicAt_49 : decode cX11_isDeterministicAt 49 = .ok (.iload_n 1, 1) := by decide +kernel
theorem dX11_isDeterministicAt_50 : decode cX11_isDeterministicAt 50 = .ok (.bipush 31, 2) := by decide +kernel
theorem dX11_isDeterministicAt_52 : decode cX11_isDeterministicAt 52 = .ok (.iload 5, 2) := by decide +kernel
theorem dX11_isDeterministicAt_54 : decode cX11_isDeterministicAt 54 = .ok (.iadd, 1) := by decide +kernel
theorem dX11_isDeterministicAt_55 : decode cX11_isDeterministicAt 55 = .ok (.invokevirtual 115, 3) := by decide +kernel
theorem dX11_isDeterministicAt_58 : decode cX11_isDeterministicAt 58 = .ok (.istore 6, 2) := by decide +kernel
theorem dX11_isDeterministicAt_60 : decode cX11_isDeterministicAt 60 = .ok (.iload 4, 2) := by decide +kernel
theorem dX11_isDeterministicAt_62 : decode cX11_isDeterministicAt 62 = .ok (.aload_n 0, 1) := by decide +kernel
theorem dX11_isDeterministicAt_63 : decode cX11_isDeterministicAt 63 = .ok (.iload_n 1, 1) := by decide +kernel
theorem dX11_isDeterministicAt_64 : decode cX11_isDeterministicAt 64 = .ok (.bipush 6, 2) := by decide +kernel
theorem dX11_isDeterministicAt_66 : decode cX11_isDeterministicAt 66 = .ok (.iload_n 2, 1) := by decide +kernel
theorem dX11_isDeterministicAt_67 : decode cX11_isDeterministicAt 67 = .ok (.iadd, 1) := by decide +kernel
theorem dX11_isDeterministicAt_68 : decode cX11_isDeterministicAt 68 = .ok (.invokevirtual 115, 3) := by decide +kernel
theorem dX11_isDeterministicAt_71 : decode cX11_isDeterministicAt 71 = .ok (.iload 5, 2) := by decide +kernel
theorem dX11_isDeterministicAt_73 : decode cX11_isDeterministicAt 73 = .ok (.ishr, 1) := by decide +kernel
theorem dX11_isDeterministicAt_74 : decode cX11_isDeterministicAt 74 = .ok (.iconst 1, 1) := by decide +kernel
theorem dX11_isDeterministicAt_75 : decode cX11_isDeterministicAt 75 = .ok (.iand, 1) := by decide +kernel
theorem dX11_isDeterministicAt_76 : decode cX11_isDeterministicAt 76 = .ok (.iconst 1, 1) := by decide +kernel
theorem dX11_isDeterministicAt_77 : decode cX11_isDeterministicAt 77 = .ok (.if_icmp .ne 20, 3) := by decide +kernel
theorem dX11_isDeterministicAt_80 : decode cX11_isDeterministicAt 80 = .ok (.iload 6, 2) := by decide +kernel
theorem dX11_isDeterministicAt_82 : decode cX11_isDeterministicAt 82 = .ok (.bipush 6, 2) := by decide +kernel
theorem dX11_isDeterministicAt_84 : decode cX11_isDeterministicAt 84 = .ok (.if_icmp .eq 9, 3) := by decide +kernel
theorem dX11_isDeterministicAt_87 : decode cX11_isDeterministicAt 87 = .ok (.iload 6, 2) := by decide +kernel
theorem dX11_isDeterministicAt_89 : decode cX11_isDeterministicAt 89 = .ok (.iload_n 3, 1) := by decide +kernel
theorem dX11_isDeterministicAt_90 : decode cX11_isDeterministicAt 90 = .ok (.if_icmp .ne 7, 3) := by decide +kernel
theorem dX11_isDeterministicAt_93 : decode cX11_isDeterministicAt 93 = .ok (.iconst 1, 1) := by decide +kernel
theorem dX11_isDeterministicAt_94 : decode cX11_isDeterministicAt 94 = .ok (.goto 4, 3) := by decide +kernel
theorem dX11_isDeterministicAt_97 : decode cX11_isDeterministicAt 97 = .ok (.iconst 0, 1) := by decide +kernel
theorem dX11_isDeterministicAt_98 : decode cX11_isDeterministicAt 98 = .ok (.iadd, 1) := by decide +kernel
theorem dX11_isDeterministicAt_99 : decode cX11_isDeterministicAt 99 = .ok (.istore 4, 2) := by decide +kernel
theorem dX11_isDeterministicAt_101 : decode cX11_isDeterministicAt 101 = .ok (.iinc 5 1, 3) := by decide +kernel
theorem dX11_isDeterministicAt_104 : decode cX11_isDeterministicAt 104 = .ok (.goto (-67), 3) := by decide +kernel
theorem dX11_isDeterministicAt_107 : decode cX11_isDeterministicAt 107 = .ok (.iload 4, 2) := by decide +kernel
theorem dX11_isDeterministicAt_109 : decode cX11_isDeterministicAt 109 = .ok (.iconst 1, 1) := by decide +kernel
theorem dX11_isDeterministicAt_110 : decode cX11_isDeterministicAt 110 = .ok (.if_icmp .le 5, 3) := by decide +kernel
theorem dX11_isDeterministicAt_113 : decode cX11_isDeterministicAt 113 = .ok (.iconst 0, 1) := by decide +kernel
theorem dX11_isDeterministicAt_114 : decode cX11_isDeterministicAt 114 = .ok (.ireturn, 1) := by decide +kernel
theorem dX11_isDeterministicAt_115 : decode cX11_isDeterministicAt 115 = .ok (.iinc 3 1, 3) := by decide +kernel
theorem dX11_isDeterministicAt_118 : decode cX11_isDeterministicAt 118 = .ok (.goto (-93), 3) := by decide +kernel
theorem dX11_isDeterministicAt_121 : decode cX11_isDeterministicAt 121 = .ok (.iconst 1, 1) := by decide +kernel
theorem dX11_isDeterministicAt_122 : decode cX11_isDeterministicAt 122 = .ok (.ireturn, 1) := by decide +kernel
theorem dX11_stateCount_0 : decode cX11_stateCount 0 = .ok (.aload_n 0, 1) := by decide +kernel
theorem dX11_stateCount_1 : decode cX11_stateCount 1 = .ok (.iload_n 1, 1) := by decide +kernel
theorem dX11_stateCount_2 : decode cX11_stateCount 2 = .ok (.iconst 5, 1) := by decide +kernel
theorem dX11_stateCount_3 : decode cX11_stateCount 3 = .ok (.invokevirtual 247, 3) := by decide +kernel
theorem dX11_stateCount_6 : decode cX11_stateCount 6 = .ok (.ireturn, 1) := by decide +kernel
theorem dX11_transition_0 : decode cX11_transition 0 = .ok (.aload_n 0, 1) := by decide +kernel
theorem dX11_transition_1 : decode cX11_transition 1 = .ok (.aload_n 0, 1) := by decide +kernel
theorem dX11_transition_2 : decode cX11_transition 2 = .ok (.iload_n 1, 1) := by decide +kernel
theorem dX11_transition_3 : decode cX11_transition 3 = .ok (.iload_n 2, 1) := by decide +kernel
theorem dX11_transition_4 : decode cX11_transition 4 = .ok (.invokevirtual 254, 3) := by decide +kernel
theorem dX11_transition_7 : decode cX11_transition 7 = .ok (.ifCond .eq 10, 3) := by decide +kernel
theorem dX11_transition_10 : decode cX11_transition 10 = .ok (.iload_n 3, 1) := by decide +kernel
theorem dX11_transition_11 : decode cX11_transition 11 = .ok (.invokestatic 234, 3) := by decide +kernel
theorem dX11_transition_14 : decode cX11_transition 14 = .ok (.ifCond .ne 7, 3) := by decide +kernel
theorem dX11_transition_17 : decode cX11_transition 17 = .ok (.iconst 1, 1) := by decide +kernel
theorem dX11_transition_18 : decode cX11_transition 18 = .ok (.goto 4, 3) := by decide +kernel
theorem dX11_transition_21 : decode cX11_transition 21 = .ok (.iconst 0, 1) := by decide +kernel
theorem dX11_transition_22 : decode cX11_transition 22 = .ok (.invokevirtual 209, 3) := by decide +kernel
theorem dX11_transition_25 : decode cX11_transition 25 = .ok (.ifCond .eq 7, 3) := by decide +kernel
theorem dX11_transition_28 : decode cX11_transition 28 = .ok (.iconst 0, 1) := by decide +kernel
theorem dX11_transition_29 : decode cX11_transition 29 = .ok (.goto 10, 3) := by decide +kernel
theorem dX11_transition_32 : decode cX11_transition 32 = .ok (.aload_n 0, 1) := by decide +kernel
theorem dX11_transition_33 : decode cX11_transition 33 = .ok (.iload_n 1, 1) := by decide +kernel
theorem dX11_transition_34 : decode cX11_transition 34 = .ok (.iload_n 2, 1) := by decide +kernel
theorem dX11_transition_35 : decode cX11_transition 35 = .ok (.iload_n 3, 1) := by decide +kernel
theorem dX11_transition_36 : decode cX11_transition 36 = .ok (.invokevirtual 231, 3) := by decide +kernel
theorem dX11_transition_39 : decode cX11_transition 39 = .ok (.ireturn, 1) := by decide +kernel
theorem dX11_isAccepting_0 : decode cX11_isAccepting 0 = .ok (.aload_n 0, 1) := by decide +kernel
theorem dX11_isAccepting_1 : decode cX11_isAccepting 1 = .ok (.aload_n 0, 1) := by decide +kernel
theorem dX11_isAccepting_2 : decode cX11_isAccepting 2 = .ok (.iload_n 1, 1) := by decide +kernel
theorem dX11_isAccepting_3 : decode cX11_isAccepting 3 = .ok (.iload_n 2, 1) := by decide +kernel
theorem dX11_isAccepting_4 : decode cX11_isAccepting 4 = .ok (.invokevirtual 254, 3) := by decide +kernel
theorem dX11_isAccepting_7 : decode cX11_isAccepting 7 = .ok (.ifCond .ne 7, 3) := by decide +kernel
theorem dX11_isAccepting_10 : decode cX11_isAccepting 10 = .ok (.iconst 1, 1) := by decide +kernel
theorem dX11_isAccepting_11 : decode cX11_isAccepting 11 = .ok (.goto 4, 3) := by decide +kernel
theorem dX11_isAccepting_14 : decode cX11_isAccepting 14 = .ok (.iconst 0, 1) := by decide +kernel
theorem dX11_isAccepting_15 : decode cX11_isAccepting 15 = .ok (.invokevirtual 209, 3) := by decide +kernel
theorem dX11_isAccepting_18 : decode cX11_isAccepting 18 = .ok (.ifCond .ne 16, 3) := by decide +kernel
theorem dX11_isAccepting_21 : decode cX11_isAccepting 21 = .ok (.aload_n 0, 1) := by decide +kernel
theorem dX11_isAccepting_22 : decode cX11_isAccepting 22 = .ok (.iload_n 1, 1) := by decide +kernel
theorem dX11_isAccepting_23 : decode cX11_isAccepting 23 = .ok (.iload_n 2, 1) := by decide +kernel
theorem dX11_isAccepting_24 : decode cX11_isAccepting 24 = .ok (.invokevirtual 257, 3) := by decide +kernel
theorem dX11_isAccepting_27 : decode cX11_isAccepting 27 = .ok (.ifCond .eq 7, 3) := by decide +kernel
theorem dX11_isAccepting_30 : decode cX11_isAccepting 30 = .ok (.iconst 1, 1) := by decide +kernel
theorem dX11_isAccepting_31 : decode cX11_isAccepting 31 = .ok (.goto 4, 3) := by decide +kernel
theorem dX11_isAccepting_34 : decode cX11_isAccepting 34 = .ok (.iconst 0, 1) := by decide +kernel
theorem dX11_isAccepting_35 : decode cX11_isAccepting 35 = .ok (.ireturn, 1) := by decide +kernel
theorem dX11_statePositions_0 : decode cX11_statePositions 0 = .ok (.aload_n 0, 1) := by decide +kernel
theorem dX11_statePositions_1 : decode cX11_statePositions 1 = .ok (.aload_n 0, 1) := by decide +kernel
theorem dX11_statePositions_2 : decode cX11_statePositions 2 = .ok (.iload_n 1, 1) := by decide +kernel
theorem dX11_statePositions_3 : decode cX11_statePositions 3 = .ok (.iload_n 2, 1) := by decide +kernel
theorem dX11_statePositions_4 : decode cX11_statePositions 4 = .ok (.invokevirtual 254, 3) := by decide +kernel
theorem dX11_statePositions_7 : decode cX11_statePositions 7 = .ok (.ifCond .ne 7, 3) := by decide +kernel
theorem dX11_statePositions_10 : decode cX11_statePositions 10 = .ok (.iconst 1, 1) := by decide +kernel
theorem dX11_statePositions_11 : decode cX11_statePositions 11 = .ok (.goto 4, 3) := by decide +kernel
theorem dX11_statePositions_14 : decode cX11_statePositions 14 = .ok (.iconst 0, 1) := by decide +kernel
theorem dX11_statePositions_15 : decode cX11_statePositions 15 = .ok (.invokevirtual 209, 3) := by decide +kernel
theorem dX11_statePositions_18 : decode cX11_statePositions 18 = .ok (.ifCond .eq 7, 3) := by decide +kernel
theorem dX11_statePositions_21 : decode cX11_statePositions 21 = .ok (.iconst 0, 1) := by decide +kernel
theorem dX11_statePositions_22 : decode cX11_statePositions 22 = .ok (.goto 15, 3) := by decide +kernel
theorem dX11_statePositions_25 : decode cX11_statePositions 25 = .ok (.aload_n 0, 1) := by decide +kernel
theorem dX11_statePositions_26 : decode cX11_statePositions 26 = .ok (.iload_n 1, 1) := by decide +kernel
theorem dX11_statePositions_27 : decode cX11_statePositions 27 = .ok (.bipush 56, 2) := by decide +kernel
theorem dX11_statePositions_29 : decode cX11_statePositions 29 = .ok (.iload_n 2, 1) := by decide +kernel
theorem dX11_statePositions_30 : decode cX11_statePositions 30 = .ok (.iadd, 1) := by decide +kernel
theorem dX11_statePositions_31 : decode cX11_statePositions 31 = .ok (.invokevirtual 115, 3) := by decide +kernel
theorem dX11_statePositions_34 : decode cX11_statePositions 34 = .ok (.bipush (-2), 2) := by decide +kernel
theorem dX11_statePositions_36 : decode cX11_statePositions 36 = .ok (.iand, 1) := by decide +kernel
theorem dX11_statePositions_37 : decode cX11_statePositions 37 = .ok (.ireturn, 1) := by decide +kernel
theorem dX11_deadState_0 : decode cX11_deadState 0 = .ok (.aload_n 0, 1) := by decide +kernel
theorem dX11_deadState_1 : decode cX11_deadState 1 = .ok (.iload_n 1, 1) := by decide +kernel
theorem dX11_deadState_2 : decode cX11_deadState 2 = .ok (.invokestatic 112, 3) := by decide +kernel
theorem dX11_deadState_5 : decode cX11_deadState 5 = .ok (.ifCond .ne 7, 3) := by decide +kernel
theorem dX11_deadState_8 : decode cX11_deadState 8 = .ok (.iconst 1, 1) := by decide +kernel
theorem dX11_deadState_9 : decode cX11_deadState 9 = .ok (.goto 4, 3) := by decide +kernel
theorem dX11_deadState_12 : decode cX11_deadState 12 = .ok (.iconst 0, 1) := by decide +kernel
theorem dX11_deadState_13 : decode cX11_deadState 13 = .ok (.invokevirtual 209, 3) := by decide +kernel
theorem dX11_deadState_16 : decode cX11_deadState 16 = .ok (.ifCond .eq 5, 3) := by decide +kernel
theorem dX11_deadState_19 : decode cX11_deadState 19 = .ok (.iconst 0, 1) := by decide +kernel
theorem dX11_deadState_20 : decode cX11_deadState 20 = .ok (.ireturn, 1) := by decide +kernel
theorem dX11_deadState_21 : decode cX11_deadState 21 = .ok (.iconst 0, 1) := by decide +kernel
theorem dX11_deadState_22 : decode cX11_deadState 22 = .ok (.istore_n 2, 1) := by decide +kernel
theorem dX11_deadState_23 : decode cX11_deadState 23 = .ok (.iload_n 2, 1) := by decide +kernel
theorem dX11_deadState_24 : decode cX11_deadState 24 = .ok (.aload_n 0, 1) := by decide +kernel
theorem dX11_deadState_25 : decode cX11_deadState 25 = .ok (.iload_n 1, 1) := by decide +kernel
theorem dX11_deadState_26 : decode cX11_deadState 26 = .ok (.iconst 5, 1) := by decide +kernel
theorem dX11_deadState_27 : decode cX11_deadState 27 = .ok (.invokevirtual 115, 3) := by decide +kernel
theorem dX11_deadState_30 : decode cX11_deadState 30 = .ok (.if_icmp .ge 23, 3) := by decide +kernel
theorem dX11_deadState_33 : decode cX11_deadState 33 = .ok (.aload_n 0, 1) := by decide +kernel
theorem dX11_deadState_34 : decode cX11_deadState 34 = .ok (.iload_n 1, 1) := by decide +kernel
theorem dX11_deadState_35 : decode cX11_deadState 35 = .ok (.bipush 56, 2) := by decide +kernel
theorem dX11_deadState_37 : decode cX11_deadState 37 = .ok (.iload_n 2, 1) := by decide +kernel
theorem dX11_deadState_38 : decode cX11_deadState 38 = .ok (.iadd, 1) := by decide +kernel
theorem dX11_deadState_39 : decode cX11_deadState 39 = .ok (.invokevirtual 115, 3) := by decide +kernel
theorem dX11_deadState_42 : decode cX11_deadState 42 = .ok (.ifCond .ne 5, 3) := by decide +kernel
theorem dX11_deadState_45 : decode cX11_deadState 45 = .ok (.iload_n 2, 1) := by decide +kernel
theorem dX11_deadState_46 : decode cX11_deadState 46 = .ok (.ireturn, 1) := by decide +kernel
theorem dX11_deadState_47 : decode cX11_deadState 47 = .ok (.iinc 2 1, 3) := by decide +kernel
theorem dX11_deadState_50 : decode cX11_deadState 50 = .ok (.goto (-27), 3) := by decide +kernel
theorem dX11_deadState_53 : decode cX11_deadState 53 = .ok (.iconst (-1), 1) := by decide +kernel
theorem dX11_deadState_54 : decode cX11_deadState 54 = .ok (.ireturn, 1) := by decide +kernel
theorem dX11_distance_0 : decode cX11_distance 0 = .ok (.aload_n 0, 1) := by decide +kernel
theorem dX11_distance_1 : decode cX11_distance 1 = .ok (.iload_n 1, 1) := by decide +kernel
theorem dX11_distance_2 : decode cX11_distance 2 = .ok (.iconst 5, 1) := by decide +kernel
theorem dX11_distance_3 : decode cX11_distance 3 = .ok (.invokevirtual 115, 3) := by decide +kernel
theorem dX11_distance_6 : decode cX11_distance 6 = .ok (.istore 4, 2) := by decide +kernel
theorem dX11_distance_8 : decode cX11_distance 8 = .ok (.iconst 0, 1) := by decide +kernel
theorem dX11_distance_9 : decode cX11_distance 9 = .ok (.istore 5, 2) := by decide +kernel
theorem dX11_distance_11 : decode cX11_distance 11 = .ok (.iload 5, 2) := by decide +kernel
theorem dX11_distance_13 : decode cX11_distance 13 = .ok (.iload 4, 2) := by decide +kernel
theorem dX11_distance_15 : decode cX11_distance 15 = .ok (.if_icmp .ge 17, 3) := by decide +kernel
theorem dX11_distance_18 : decode cX11_distance 18 = .ok (.aload_n 0, 1) := by decide +kernel
theorem dX11_distance_19 : decode cX11_distance 19 = .ok (.getfield 63, 3) := by decide +kernel
theorem dX11_distance_22 : decode cX11_distance 22 = .ok (.iload 5, 2) := by decide +kernel
theorem dX11_distance_24 : decode cX11_distance 24 = .ok (.iconst (-1), 1) := by decide +kernel
theorem dX11_distance_25 : decode cX11_distance 25 = .ok (.iastore, 1) := by decide +kernel
theorem dX11_distance_26 : decode cX11_distance 26 = .ok (.iinc 5 1, 3) := by decide +kernel
theorem dX11_distance_29 : decode cX11_distance 29 = .ok (.goto (-18), 3) := by decide +kernel
theorem dX11_distance_32 : decode cX11_distance 32 = .ok (.aload_n 0, 1) := by decide +kernel
theorem dX11_distance_33 : decode cX11_distance 33 = .ok (.getfield 63, 3) := by decide +kernel
theorem dX11_distance_36 : decode cX11_distance 36 = .ok (.iload_n 2, 1) := by decide +kernel
theorem dX11_distance_37 : decode cX11_distance 37 = .ok (.iconst 0, 1) := by decide +kernel
theorem dX11_distance_38 : decode cX11_distance 38 = .ok (.iastore, 1) := by decide +kernel
theorem dX11_distance_39 : decode cX11_distance 39 = .ok (.aload_n 0, 1) := by decide +kernel
theorem dX11_distance_40 : decode cX11_distance 40 = .ok (.getfield 54, 3) := by decide +kernel
theorem dX11_distance_43 : decode cX11_distance 43 = .ok (.iconst 0, 1) := by decide +kernel
theorem dX11_distance_44 : decode cX11_distance 44 = .ok (.iload_n 2, 1) := by decide +kernel
theorem dX11_distance_45 : decode cX11_distance 45 = .ok (.iastore, 1) := by decide +kernel
theorem dX11_distance_46 : decode cX11_distance 46 = .ok (.iconst 1, 1) := by decide +kernel
theorem dX11_distance_47 : decode cX11_distance 47 = .ok (.istore 5, 2) := by decide +kernel
theorem dX11_distance_49 : decode cX11_distance 49 = .ok (.iconst 0, 1) := by decide +kernel
theorem dX11_distance_50 : decode cX11_distance 50 = .ok (.istore 6, 2) := by decide +kernel
theorem dX11_distance_52 : decode cX11_distance 52 = .ok (.iload 6, 2) := by decide +kernel
theorem dX11_distance_54 : decode cX11_distance 54 = .ok (.iload 5, 2) := by decide +kernel
theorem dX11_distance_56 : decode cX11_distance 56 = .ok (.if_icmp .ge 115, 3) := by decide +kernel
theorem dX11_distance_59 : decode cX11_distance 59 = .ok (.aload_n 0, 1) := by decide +kernel
theorem dX11_distance_60 : decode cX11_distance 60 = .ok (.getfield 54, 3) := by decide +kernel
theorem dX11_distance_63 : decode cX11_distance 63 = .ok (.iload 6, 2) := by decide +kernel
theorem dX11_distance_65 : decode cX11_distance 65 = .ok (.iaload, 1) := by decide +kernel
theorem dX11_distance_66 : decode cX11_distance 66 = .ok (.istore 7, 2) := by decide +kernel
theorem dX11_distance_68 : decode cX11_distance 68 = .ok (.aload_n 0, 1) := by decide +kernel
theorem dX11_distance_69 : decode cX11_distance 69 = .ok (.iload_n 1, 1) := by decide +kernel
theorem dX11_distance_70 : decode cX11_distance 70 = .ok (.iload 7, 2) := by decide +kernel
theorem dX11_distance_72 : decode cX11_distance 72 = .ok (.invokevirtual 257, 3) := by decide +kernel
theorem dX11_distance_75 : decode cX11_distance 75 = .ok (.ifCond .eq 11, 3) := by decide +kernel
theorem dX11_distance_78 : decode cX11_distance 78 = .ok (.aload_n 0, 1) := by decide +kernel
theorem dX11_distance_79 : decode cX11_distance 79 = .ok (.getfield 63, 3) := by decide +kernel
theorem dX11_distance_82 : decode cX11_distance 82 = .ok (.iload 7, 2) := by decide +kernel
theorem dX11_distance_84 : decode cX11_distance 84 = .ok (.iaload, 1) := by decide +kernel
theorem dX11_distance_85 : decode cX11_distance 85 = .ok (.ireturn, 1) := by decide +kernel
theorem dX11_distance_86 : decode cX11_distance 86 = .ok (.iconst 0, 1) := by decide +kernel
theorem dX11_distance_87 : decode cX11_distance 87 = .ok (.istore 8, 2) := by decide +kernel
theorem dX11_distance_89 : decode cX11_distance 89 = .ok (.iload 8, 2) := by decide +kernel
theorem dX11_distance_91 : decode cX11_distance 91 = .ok (.bipush 6, 2) := by decide +kernel
theorem dX11_distance_93 : decode cX11_distance 93 = .ok (.if_icmp .ge 72, 3) := by decide +kernel
theorem dX11_distance_96 : decode cX11_distance 96 = .ok (.aload_n 0, 1) := by decide +kernel
theorem dX11_distance_97 : decode cX11_distance 97 = .ok (.iload_n 1, 1) := by decide +kernel
theorem dX11_distance_98 : decode cX11_distance 98 = .ok (.iload 7, 2) := by decide +kernel
theorem dX11_distance_100 : decode cX11_distance 100 = .ok (.iload 8, 2) := by decide +kernel
theorem dX11_distance_102 : decode cX11_distance 102 = .ok (.invokevirtual 231, 3) := by decide +kernel
theorem dX11_distance_105 : decode cX11_distance 105 = .ok (.istore 9, 2) := by decide +kernel
theorem dX11_distance_107 : decode cX11_distance 107 = .ok (.aload_n 0, 1) := by decide +kernel
theorem dX11_distance_108 : decode cX11_distance 108 = .ok (.getfield 63, 3) := by decide +kernel
theorem dX11_distance_111 : decode cX11_distance 111 = .ok (.iload 9, 2) := by decide +kernel
theorem dX11_distance_113 : decode cX11_distance 113 = .ok (.iaload, 1) := by decide +kernel
theorem dX11_distance_114 : decode cX11_distance 114 = .ok (.iconst (-1), 1) := by decide +kernel
theorem dX11_distance_115 : decode cX11_distance 115 = .ok (.if_icmp .ne 44, 3) := by decide +kernel
theorem dX11_distance_118 : decode cX11_distance 118 = .ok (.iload_n 3, 1) := by decide +kernel
theorem dX11_distance_119 : decode cX11_distance 119 = .ok (.ifCond .eq 12, 3) := by decide +kernel
theorem dX11_distance_122 : decode cX11_distance 122 = .ok (.aload_n 0, 1) := by decide +kernel
theorem dX11_distance_123 : decode cX11_distance 123 = .ok (.iload 8, 2) := by decide +kernel
theorem dX11_distance_125 : decode cX11_distance 125 = .ok (.invokevirtual 237, 3) := by decide +kernel
theorem dX11_distance_128 : decode cX11_distance 128 = .ok (.ifCond .eq 31, 3) := by decide +kernel
theorem dX11_distance_131 : decode cX11_distance 131 = .ok (.aload_n 0, 1) := by decide +kernel
theorem dX11_distance_132 : decode cX11_distance 132 = .ok (.getfield 63, 3) := by decide +kernel
theorem dX11_distance_135 : decode cX11_distance 135 = .ok (.iload 9, 2) := by decide +kernel
theorem dX11_distance_137 : decode cX11_distance 137 = .ok (.aload_n 0, 1) := by decide +kernel
theorem dX11_distance_138 : decode cX11_distance 138 = .ok (.getfield 63, 3) := by decide +kernel
theorem dX11_distance_141 : decode cX11_distance 141 = .ok (.iload 7, 2) := by decide +kernel
theorem dX11_distance_143 : decode cX11_distance 143 = .ok (.iaload, 1) := by decide +kernel
theorem dX11_distance_144 : decode cX11_distance 144 = .ok (.iconst 1, 1) := by decide +kernel
theorem dX11_distance_145 : decode cX11_distance 145 = .ok (.iadd, 1) := by decide +kernel
theorem dX11_distance_146 : decode cX11_distance 146 = .ok (.iastore, 1) := by decide +kernel
theorem dX11_distance_147 : decode cX11_distance 147 = .ok (.aload_n 0, 1) := by decide +kernel
theorem dX11_distance_148 : decode cX11_distance 148 = .ok (.getfield 54, 3) := by decide +kernel
theorem dX11_distance_151 : decode cX11_distance 151 = .ok (.iload 5, 2) := by decide +kernel
theorem dX11_distance_153 : decode cX11_distance 153 = .ok (.iload 9, 2) := by decide +kernel
theorem dX11_distance_155 : decode cX11_distance 155 = .ok (.iastore, 1) := by decide +kernel
theorem dX11_distance_156 : decode cX11_distance 156 = .ok (.iinc 5 1, 3) := by decide +kernel
theorem dX11_distance_159 : decode cX11_distance 159 = .ok (.iinc 8 1, 3) := by decide +kernel
theorem dX11_distance_162 : decode cX11_distance 162 = .ok (.goto (-73), 3) := by decide +kernel
theorem dX11_distance_165 : decode cX11_distance 165 = .ok (.iinc 6 1, 3) := by decide +kernel
theorem dX11_distance_168 : decode cX11_distance 168 = .ok (.goto (-116), 3) := by decide +kernel
theorem dX11_distance_171 : decode cX11_distance 171 = .ok (.iconst (-1), 1) := by decide +kernel
theorem dX11_distance_172 : decode cX11_distance 172 = .ok (.ireturn, 1) := by decide +kernel
theorem dX11_distanceToAccepting_0 : decode cX11_distanceToAccepting 0 = .ok (.aload_n 0, 1) := by decide +kernel
theorem dX11_distanceToAccepting_1 : decode cX11_distanceToAccepting 1 = .ok (.aload_n 0, 1) := by decide +kernel
theorem dX11_distanceToAccepting_2 : decode cX11_distanceToAccepting 2 = .ok (.iload_n 1, 1) := by decide +kernel
theorem dX11_distanceToAccepting_3 : decode cX11_distanceToAccepting 3 = .ok (.iload_n 2, 1) := by decide +kernel
theorem dX11_distanceToAccepting_4 : decode cX11_distanceToAccepting 4 = .ok (.invokevirtual 254, 3) := by decide +kernel
theorem dX11_distanceToAccepting_7 : decode cX11_distanceToAccepting 7 = .ok (.ifCond .ne 7, 3) := by decide +kernel
theorem dX11_distanceToAccepting_10 : decode cX11_distanceToAccepting 10 = .ok (.iconst 1, 1) := by decide +kernel
theorem dX11_distanceToAccepting_11 : decode cX11_distanceToAccepting 11 = .ok (.goto 4, 3) := by decide +kernel
theorem dX11_distanceToAccepting_14 : decode cX11_distanceToAccepting 14 = .ok (.iconst 0, 1) := by decide +kernel
theorem dX11_distanceToAccepting_15 : decode cX11_distanceToAccepting 15 = .ok (.invokevirtual 209, 3) := by decide +kernel
theorem dX11_distanceToAccepting_18 : decode cX11_distanceToAccepting 18 = .ok (.ifCond .eq 7, 3) := by decide +kernel
theorem dX11_distanceToAccepting_21 : decode cX11_distanceToAccepting 21 = .ok (.iconst 0, 1) := by decide +kernel
theorem dX11_distanceToAccepting_22 : decode cX11_distanceToAccepting 22 = .ok (.goto 10, 3) := by decide +kernel
theorem dX11_distanceToAccepting_25 : decode cX11_distanceToAccepting 25 = .ok (.aload_n 0, 1) := by decide +kernel
theorem dX11_distanceToAccepting_26 : decode cX11_distanceToAccepting 26 = .ok (.iload_n 1, 1) := by decide +kernel
theorem dX11_distanceToAccepting_27 : decode cX11_distanceToAccepting 27 = .ok (.iload_n 2, 1) := by decide +kernel
theorem dX11_distanceToAccepting_28 : decode cX11_distanceToAccepting 28 = .ok (.iconst 0, 1) := by decide +kernel
theorem dX11_distanceToAccepting_29 : decode cX11_distanceToAccepting 29 = .ok (.invokevirtual 260, 3) := by decide +kernel
theorem dX11_distanceToAccepting_32 : decode cX11_distanceToAccepting 32 = .ok (.ireturn, 1) := by decide +kernel
theorem dX11_tellsApart_0 : decode cX11_tellsApart 0 = .ok (.aload_n 0, 1) := by decide +kernel
theorem dX11_tellsApart_1 : decode cX11_tellsApart 1 = .ok (.iload_n 1, 1) := by decide +kernel
theorem dX11_tellsApart_2 : decode cX11_tellsApart 2 = .ok (.iconst 5, 1) := by decide +kernel
theorem dX11_tellsApart_3 : decode cX11_tellsApart 3 = .ok (.invokevirtual 115, 3) := by decide +kernel
theorem dX11_tellsApart_6 : decode cX11_tellsApart 6 = .ok (.istore_n 2, 1) := by decide +kernel
theorem dX11_tellsApart_7 : decode cX11_tellsApart 7 = .ok (.iconst 0, 1) := by decide +kernel
theorem dX11_tellsApart_8 : decode cX11_tellsApart 8 = .ok (.istore_n 3, 1) := by decide +kernel
theorem dX11_tellsApart_9 : decode cX11_tellsApart 9 = .ok (.iload_n 3, 1) := by decide +kernel
theorem dX11_tellsApart_10 : decode cX11_tellsApart 10 = .ok (.iload_n 2, 1) := by decide +kernel
theorem dX11_tellsApart_11 : decode cX11_tellsApart 11 = .ok (.if_icmp .ge 57, 3) := by decide +kernel
theorem dX11_tellsApart_14 : decode cX11_tellsApart 14 = .ok (.iconst 0, 1) := by decide +kernel
theorem dX11_tellsApart_15 : decode cX11_tellsApart 15 = .ok (.istore 4, 2) := by decide +kernel
theorem dX11_tellsApart_17 : decode cX11_tellsApart 17 = .ok (.iload 4, 2) := by decide +kernel
theorem dX11_tellsApart_19 : decode cX11_tellsApart 19 = .ok (.iload_n 2, 1) := by decide +kernel
theorem dX11_tellsApart_20 : decode cX11_tellsApart 20 = .ok (.if_icmp .ge 42, 3) := by decide +kernel
theorem dX11_tellsApart_23 : decode cX11_tellsApart 23 = .ok (.aload_n 0, 1) := by decide +kernel
theorem dX11_tellsApart_24 : decode cX11_tellsApart 24 = .ok (.getfield 70, 3) := by decide +kernel
theorem dX11_tellsApart_27 : decode cX11_tellsApart 27 = .ok (.bipush 60, 2) := by decide +kernel
theorem dX11_tellsApart_29 : decode cX11_tellsApart 29 = .ok (.iload_n 3, 1) := by decide +kernel
theorem dX11_tellsApart_30 : decode cX11_tellsApart 30 = .ok (.imul, 1) := by decide +kernel
theorem dX11_tellsApart_31 : decode cX11_tellsApart 31 = .ok (.iload 4, 2) := by decide +kernel
theorem dX11_tellsApart_33 : decode cX11_tellsApart 33 = .ok (.iadd, 1) := by decide +kernel
theorem dX11_tellsApart_34 : decode cX11_tellsApart 34 = .ok (.aload_n 0, 1) := by decide +kernel
theorem dX11_tellsApart_35 : decode cX11_tellsApart 35 = .ok (.iload_n 1, 1) := by decide +kernel
theorem dX11_tellsApart_36 : decode cX11_tellsApart 36 = .ok (.iload_n 3, 1) := by decide +kernel
theorem dX11_tellsApart_37 : decode cX11_tellsApart 37 = .ok (.invokevirtual 257, 3) := by decide +kernel
theorem dX11_tellsApart_40 : decode cX11_tellsApart 40 = .ok (.aload_n 0, 1) := by decide +kernel
theorem dX11_tellsApart_41 : decode cX11_tellsApart 41 = .ok (.iload_n 1, 1) := by decide +kernel
theorem dX11_tellsApart_42 : decode cX11_tellsApart 42 = .ok (.iload 4, 2) := by decide +kernel
theorem dX11_tellsApart_44 : decode cX11_tellsApart 44 = .ok (.invokevirtual 257, 3) := by decide +kernel
theorem dX11_tellsApart_47 : decode cX11_tellsApart 47 = .ok (.if_icmp .eq 7, 3) := by decide +kernel
theorem dX11_tellsApart_50 : decode cX11_tellsApart 50 = .ok (.iconst 1, 1) := by decide +kernel
theorem dX11_tellsApart_51 : decode cX11_tellsApart 51 = .ok (.goto 4, 3) := by decide +kernel
theorem dX11_tellsApart_54 : decode cX11_tellsApart 54 = .ok (.iconst 0, 1) := by decide +kernel
theorem dX11_tellsApart_55 : decode cX11_tellsApart 55 = .ok (.bastore, 1) := by decide +kernel
theorem dX11_tellsApart_56 : decode cX11_tellsApart 56 = .ok (.iinc 4 1, 3) := by decide +kernel
theorem dX11_tellsApart_59 : decode cX11_tellsApart 59 = .ok (.goto (-42), 3) := by decide +kernel
theorem dX11_tellsApart_62 : decode cX11_tellsApart 62 = .ok (.iinc 3 1, 3) := by decide +kernel
theorem dX11_tellsApart_65 : decode cX11_tellsApart 65 = .ok (.goto (-56), 3) := by decide +kernel
theorem dX11_tellsApart_68 : decode cX11_tellsApart 68 = .ok (.iconst 1, 1) := by decide +kernel
theorem dX11_tellsApart_69 : decode cX11_tellsApart 69 = .ok (.istore_n 3, 1) := by decide +kernel
theorem dX11_tellsApart_70 : decode cX11_tellsApart 70 = .ok (.iload_n 3, 1) := by decide +kernel
theorem dX11_tellsApart_71 : decode cX11_tellsApart 71 = .ok (.ifCond .eq 82, 3) := by decide +kernel
theorem dX11_tellsApart_74 : decode cX11_tellsApart 74 = .ok (.iconst 0, 1) := by decide +kernel
theorem dX11_tellsApart_75 : decode cX11_tellsApart 75 = .ok (.istore_n 3, 1) := by decide +kernel
theorem dX11_tellsApart_76 : decode cX11_tellsApart 76 = .ok (.iconst 0, 1) := by decide +kernel
theorem dX11_tellsApart_77 : decode cX11_tellsApart 77 = .ok (.istore 4, 2) := by decide +kernel
theorem dX11_tellsApart_79 : decode cX11_tellsApart 79 = .ok (.iload 4, 2) := by decide +kernel
theorem dX11_tellsApart_81 : decode cX11_tellsApart 81 = .ok (.iload_n 2, 1) := by decide +kernel
theorem dX11_tellsApart_82 : decode cX11_tellsApart 82 = .ok (.if_icmp .ge 68, 3) := by decide +kernel
theorem dX11_tellsApart_85 : decode cX11_tellsApart 85 = .ok (.iconst 0, 1) := by decide +kernel
theorem dX11_tellsApart_86 : decode cX11_tellsApart 86 = .ok (.istore 5, 2) := by decide +kernel
theorem dX11_tellsApart_88 : decode cX11_tellsApart 88 = .ok (.iload 5, 2) := by decide +kernel
theorem dX11_tellsApart_90 : decode cX11_tellsApart 90 = .ok (.iload_n 2, 1) := by decide +kernel
theorem dX11_tellsApart_91 : decode cX11_tellsApart 91 = .ok (.if_icmp .ge 53, 3) := by decide +kernel
theorem dX11_tellsApart_94 : decode cX11_tellsApart 94 = .ok (.aload_n 0, 1) := by decide +kernel
theorem dX11_tellsApart_95 : decode cX11_tellsApart 95 = .ok (.getfield 70, 3) := by decide +kernel
theorem dX11_tellsApart_98 : decode cX11_tellsApart 98 = .ok (.bipush 60, 2) := by decide +kernel
theorem dX11_tellsApart_100 : decode cX11_tellsApart 100 = .ok (.iload 4, 2) := by decide +kernel
theorem dX11_tellsApart_102 : decode cX11_tellsApart 102 = .ok (.imul, 1) := by decide +kernel
theorem dX11_tellsApart_103 : decode cX11_tellsApart 103 = .ok (.iload 5, 2) := by decide +kernel
theorem dX11_tellsApart_105 : decode cX11_tellsApart 105 = .ok (.iadd, 1) := by decide +kernel
theorem dX11_tellsApart_106 : decode cX11_tellsApart 106 = .ok (.baload, 1) := by decide +kernel
theorem dX11_tellsApart_107 : decode cX11_tellsApart 107 = .ok (.ifCond .ne 31, 3) := by decide +kernel
theorem dX11_tellsApart_110 : decode cX11_tellsApart 110 = .ok (.aload_n 0, 1) := by decide +kernel
theorem dX11_tellsApart_111 : decode cX11_tellsApart 111 = .ok (.iload_n 1, 1) := by decide +kernel
theorem dX11_tellsApart_112 : decode cX11_tellsApart 112 = .ok (.iload 4, 2) := by decide +kernel
theorem dX11_tellsApart_114 : decode cX11_tellsApart 114 = .ok (.iload 5, 2) := by decide +kernel
theorem dX11_tellsApart_116 : decode cX11_tellsApart 116 = .ok (.invokevirtual 264, 3) := by decide +kernel
theorem dX11_tellsApart_119 : decode cX11_tellsApart 119 = .ok (.ifCond .eq 19, 3) := by decide +kernel
theorem dX11_tellsApart_122 : decode cX11_tellsApart 122 = .ok (.aload_n 0, 1) := by decide +kernel
theorem dX11_tellsApart_123 : decode cX11_tellsApart 123 = .ok (.getfield 70, 3) := by decide +kernel
theorem dX11_tellsApart_126 : decode cX11_tellsApart 126 = .ok (.bipush 60, 2) := by decide +kernel
theorem dX11_tellsApart_128 : decode cX11_tellsApart 128 = .ok (.iload 4, 2) := by decide +kernel
theorem dX11_tellsApart_130 : decode cX11_tellsApart 130 = .ok (.imul, 1) := by decide +kernel
theorem dX11_tellsApart_131 : decode cX11_tellsApart 131 = .ok (.iload 5, 2) := by decide +kernel
theorem dX11_tellsApart_133 : decode cX11_tellsApart 133 = .ok (.iadd, 1) := by decide +kernel
theorem dX11_tellsApart_134 : decode cX11_tellsApart 134 = .ok (.iconst 1, 1) := by decide +kernel
theorem dX11_tellsApart_135 : decode cX11_tellsApart 135 = .ok (.bastore, 1) := by decide +kernel
theorem dX11_tellsApart_136 : decode cX11_tellsApart 136 = .ok (.iconst 1, 1) := by decide +kernel
theorem dX11_tellsApart_137 : decode cX11_tellsApart 137 = .ok (.istore_n 3, 1) := by decide +kernel
theorem dX11_tellsApart_138 : decode cX11_tellsApart 138 = .ok (.iinc 5 1, 3) := by decide +kernel
theorem dX11_tellsApart_141 : decode cX11_tellsApart 141 = .ok (.goto (-53), 3) := by decide +kernel
theorem dX11_tellsApart_144 : decode cX11_tellsApart 144 = .ok (.iinc 4 1, 3) := by decide +kernel
theorem dX11_tellsApart_147 : decode cX11_tellsApart 147 = .ok (.goto (-68), 3) := by decide +kernel
theorem dX11_tellsApart_150 : decode cX11_tellsApart 150 = .ok (.goto (-80), 3) := by decide +kernel
theorem dX11_tellsApart_153 : decode cX11_tellsApart 153 = .ok (.return_, 1) := by decide +kernel
theorem dX11_leadsApart_0 : decode cX11_leadsApart 0 = .ok (.iconst 0, 1) := by decide +kernel
theorem dX11_leadsApart_1 : decode cX11_leadsApart 1 = .ok (.istore 4, 2) := by decide +kernel
theorem dX11_leadsApart_3 : decode cX11_leadsApart 3 = .ok (.iload 4, 2) := by decide +kernel
theorem dX11_leadsApart_5 : decode cX11_leadsApart 5 = .ok (.bipush 6, 2) := by decide +kernel
theorem dX11_leadsApart_7 : decode cX11_leadsApart 7 = .ok (.if_icmp .ge 39, 3) := by decide +kernel
theorem dX11_leadsApart_10 : decode cX11_leadsApart 10 = .ok (.aload_n 0, 1) := by decide +kernel
theorem dX11_leadsApart_11 : decode cX11_leadsApart 11 = .ok (.getfield 70, 3) := by decide +kernel
theorem dX11_leadsApart_14 : decode cX11_leadsApart 14 = .ok (.bipush 60, 2) := by decide +kernel
theorem dX11_leadsApart_16 : decode cX11_leadsApart 16 = .ok (.aload_n 0, 1) := by decide +kernel
theorem dX11_leadsApart_17 : decode cX11_leadsApart 17 = .ok (.iload_n 1, 1) := by decide +kernel
theorem dX11_leadsApart_18 : decode cX11_leadsApart 18 = .ok (.iload_n 2, 1) := by decide +kernel
theorem dX11_leadsApart_19 : decode cX11_leadsApart 19 = .ok (.iload 4, 2) := by decide +kernel
theorem dX11_leadsApart_21 : decode cX11_leadsApart 21 = .ok (.invokevirtual 231, 3) := by decide +kernel
theorem dX11_leadsApart_24 : decode cX11_leadsApart 24 = .ok (.imul, 1) := by decide +kernel
theorem dX11_leadsApart_25 : decode cX11_leadsApart 25 = .ok (.aload_n 0, 1) := by decide +kernel
theorem dX11_leadsApart_26 : decode cX11_leadsApart 26 = .ok (.iload_n 1, 1) := by decide +kernel
theorem dX11_leadsApart_27 : decode cX11_leadsApart 27 = .ok (.iload_n 3, 1) := by decide +kernel
theorem dX11_leadsApart_28 : decode cX11_leadsApart 28 = .ok (.iload 4, 2) := by decide +kernel
theorem dX11_leadsApart_30 : decode cX11_leadsApart 30 = .ok (.invokevirtual 231, 3) := by decide +kernel
theorem dX11_leadsApart_33 : decode cX11_leadsApart 33 = .ok (.iadd, 1) := by decide +kernel
theorem dX11_leadsApart_34 : decode cX11_leadsApart 34 = .ok (.baload, 1) := by decide +kernel
theorem dX11_leadsApart_35 : decode cX11_leadsApart 35 = .ok (.ifCond .eq 5, 3) := by decide +kernel
theorem dX11_leadsApart_38 : decode cX11_leadsApart 38 = .ok (.iconst 1, 1) := by decide +kernel
theorem dX11_leadsApart_39 : decode cX11_leadsApart 39 = .ok (.ireturn, 1) := by decide +kernel
theorem dX11_leadsApart_40 : decode cX11_leadsApart 40 = .ok (.iinc 4 1, 3) := by decide +kernel
theorem dX11_leadsApart_43 : decode cX11_leadsApart 43 = .ok (.goto (-40), 3) := by decide +kernel
theorem dX11_leadsApart_46 : decode cX11_leadsApart 46 = .ok (.iconst 0, 1) := by decide +kernel
theorem dX11_leadsApart_47 : decode cX11_leadsApart 47 = .ok (.ireturn, 1) := by decide +kernel
theorem dX11_areEquivalentStates_0 : decode cX11_areEquivalentStates 0 = .ok (.aload_n 0, 1) := by decide +kernel
theorem dX11_areEquivalentStates_1 : decode cX11_areEquivalentStates 1 = .ok (.aload_n 0, 1) := by decide +kernel
theorem dX11_areEquivalentStates_2 : decode cX11_areEquivalentStates 2 = .ok (.iload_n 1, 1) := by decide +kernel
theorem dX11_areEquivalentStates_3 : decode cX11_areEquivalentStates 3 = .ok (.iload_n 2, 1) := by decide +kernel
theorem dX11_areEquivalentStates_4 : decode cX11_areEquivalentStates 4 = .ok (.invokevirtual 254, 3) := by decide +kernel
theorem dX11_areEquivalentStates_7 : decode cX11_areEquivalentStates 7 = .ok (.ifCond .eq 12, 3) := by decide +kernel
theorem dX11_areEquivalentStates_10 : decode cX11_areEquivalentStates 10 = .ok (.aload_n 0, 1) := by decide +kernel
theorem dX11_areEquivalentStates_11 : decode cX11_areEquivalentStates 11 = .ok (.iload_n 1, 1) := by decide +kernel
theorem dX11_areEquivalentStates_12 : decode cX11_areEquivalentStates 12 = .ok (.iload_n 3, 1) := by decide +kernel
theorem dX11_areEquivalentStates_13 : decode cX11_areEquivalentStates 13 = .ok (.invokevirtual 254, 3) := by decide +kernel
theorem dX11_areEquivalentStates_16 : decode cX11_areEquivalentStates 16 = .ok (.ifCond .ne 7, 3) := by decide +kernel
theorem dX11_areEquivalentStates_19 : decode cX11_areEquivalentStates 19 = .ok (.iconst 1, 1) := by decide +kernel
theorem dX11_areEquivalentStates_20 : decode cX11_areEquivalentStates 20 = .ok (.goto 4, 3) := by decide +kernel
theorem dX11_areEquivalentStates_23 : decode cX11_areEquivalentStates 23 = .ok (.iconst 0, 1) := by decide +kernel
theorem dX11_areEquivalentStates_24 : decode cX11_areEquivalentStates 24 = .ok (.invokevirtual 209, 3) := by decide +kernel
theorem dX11_areEquivalentStates_27 : decode cX11_areEquivalentStates 27 = .ok (.ifCond .eq 5, 3) := by decide +kernel
theorem dX11_areEquivalentStates_30 : decode cX11_areEquivalentStates 30 = .ok (.iconst 0, 1) := by decide +kernel
theorem dX11_areEquivalentStates_31 : decode cX11_areEquivalentStates 31 = .ok (.ireturn, 1) := by decide +kernel
theorem dX11_areEquivalentStates_32 : decode cX11_areEquivalentStates 32 = .ok (.aload_n 0, 1) := by decide +kernel
theorem dX11_areEquivalentStates_33 : decode cX11_areEquivalentStates 33 = .ok (.iload_n 1, 1) := by decide +kernel
theorem dX11_areEquivalentStates_34 : decode cX11_areEquivalentStates 34 = .ok (.invokevirtual 267, 3) := by decide +kernel
theorem dX11_areEquivalentStates_37 : decode cX11_areEquivalentStates 37 = .ok (.aload_n 0, 1) := by decide +kernel
theorem dX11_areEquivalentStates_38 : decode cX11_areEquivalentStates 38 = .ok (.getfield 70, 3) := by decide +kernel
theorem dX11_areEquivalentStates_41 : decode cX11_areEquivalentStates 41 = .ok (.bipush 60, 2) := by decide +kernel
theorem dX11_areEquivalentStates_43 : decode cX11_areEquivalentStates 43 = .ok (.iload_n 2, 1) := by decide +kernel
theorem dX11_areEquivalentStates_44 : decode cX11_areEquivalentStates 44 = .ok (.imul, 1) := by decide +kernel
theorem dX11_areEquivalentStates_45 : decode cX11_areEquivalentStates 45 = .ok (.iload_n 3, 1) := by decide +kernel
theorem dX11_areEquivalentStates_46 : decode cX11_areEquivalentStates 46 = .ok (.iadd, 1) := by decide +kernel
theorem dX11_areEquivalentStates_47 : decode cX11_areEquivalentStates 47 = .ok (.baload, 1) := by decide +kernel
theorem dX11_areEquivalentStates_48 : decode cX11_areEquivalentStates 48 = .ok (.ifCond .ne 7, 3) := by decide +kernel
theorem dX11_areEquivalentStates_51 : decode cX11_areEquivalentStates 51 = .ok (.iconst 1, 1) := by decide +kernel
theorem dX11_areEquivalentStates_52 : decode cX11_areEquivalentStates 52 = .ok (.goto 4, 3) := by decide +kernel
theorem dX11_areEquivalentStates_55 : decode cX11_areEquivalentStates 55 = .ok (.iconst 0, 1) := by decide +kernel
theorem dX11_areEquivalentStates_56 : decode cX11_areEquivalentStates 56 = .ok (.ireturn, 1) := by decide +kernel
theorem dX11_minimalStateCount_0 : decode cX11_minimalStateCount 0 = .ok (.aload_n 0, 1) := by decide +kernel
theorem dX11_minimalStateCount_1 : decode cX11_minimalStateCount 1 = .ok (.iload_n 1, 1) := by decide +kernel
theorem dX11_minimalStateCount_2 : decode cX11_minimalStateCount 2 = .ok (.invokestatic 112, 3) := by decide +kernel
theorem dX11_minimalStateCount_5 : decode cX11_minimalStateCount 5 = .ok (.ifCond .ne 7, 3) := by decide +kernel
theorem dX11_minimalStateCount_8 : decode cX11_minimalStateCount 8 = .ok (.iconst 1, 1) := by decide +kernel
theorem dX11_minimalStateCount_9 : decode cX11_minimalStateCount 9 = .ok (.goto 4, 3) := by decide +kernel
theorem dX11_minimalStateCount_12 : decode cX11_minimalStateCount 12 = .ok (.iconst 0, 1) := by decide +kernel
theorem dX11_minimalStateCount_13 : decode cX11_minimalStateCount 13 = .ok (.invokevirtual 209, 3) := by decide +kernel
theorem dX11_minimalStateCount_16 : decode cX11_minimalStateCount 16 = .ok (.ifCond .eq 5, 3) := by decide +kernel
theorem dX11_minimalStateCount_19 : decode cX11_minimalStateCount 19 = .ok (.iconst 0, 1) := by decide +kernel
theorem dX11_minimalStateCount_20 : decode cX11_minimalStateCount 20 = .ok (.ireturn, 1) := by decide +kernel
theorem dX11_minimalStateCount_21 : decode cX11_minimalStateCount 21 = .ok (.aload_n 0, 1) := by decide +kernel
theorem dX11_minimalStateCount_22 : decode cX11_minimalStateCount 22 = .ok (.iload_n 1, 1) := by decide +kernel
theorem dX11_minimalStateCount_23 : decode cX11_minimalStateCount 23 = .ok (.invokevirtual 267, 3) := by decide +kernel
theorem dX11_minimalStateCount_26 : decode cX11_minimalStateCount 26 = .ok (.iconst 0, 1) := by decide +kernel
theorem dX11_minimalStateCount_27 : decode cX11_minimalStateCount 27 = .ok (.istore_n 2, 1) := by decide +kernel
theorem dX11_minimalStateCount_28 : decode cX11_minimalStateCount 28 = .ok (.iconst 0, 1) := by decide +kernel
theorem dX11_minimalStateCount_29 : decode cX11_minimalStateCount 29 = .ok (.istore_n 3, 1) := by decide +kernel
theorem dX11_minimalStateCount_30 : decode cX11_minimalStateCount 30 = .ok (.iload_n 3, 1) := by decide +kernel
theorem dX11_minimalStateCount_31 : decode cX11_minimalStateCount 31 = .ok (.aload_n 0, 1) := by decide +kernel
theorem dX11_minimalStateCount_32 : decode cX11_minimalStateCount 32 = .ok (.iload_n 1, 1) := by decide +kernel
theorem dX11_minimalStateCount_33 : decode cX11_minimalStateCount 33 = .ok (.iconst 5, 1) := by decide +kernel
theorem dX11_minimalStateCount_34 : decode cX11_minimalStateCount 34 = .ok (.invokevirtual 115, 3) := by decide +kernel
theorem dX11_minimalStateCount_37 : decode cX11_minimalStateCount 37 = .ok (.if_icmp .ge 67, 3) := by decide +kernel
theorem dX11_minimalStateCount_40 : decode cX11_minimalStateCount 40 = .ok (.iconst 1, 1) := by decide +kernel
theorem dX11_minimalStateCount_41 : decode cX11_minimalStateCount 41 = .ok (.istore 4, 2) := by decide +kernel
theorem dX11_minimalStateCount_43 : decode cX11_minimalStateCount 43 = .ok (.iconst 0, 1) := by decide +kernel
theorem dX11_minimalStateCount_44 : decode cX11_minimalStateCount 44 = .ok (.istore 5, 2) := by decide +kernel
theorem dX11_minimalStateCount_46 : decode cX11_minimalStateCount 46 = .ok (.iload 5, 2) := by decide +kernel
theorem dX11_minimalStateCount_48 : decode cX11_minimalStateCount 48 = .ok (.iload_n 3, 1) := by decide +kernel
theorem dX11_minimalStateCount_49 : decode cX11_minimalStateCount 49 = .ok (.if_icmp .ge 36, 3) := by decide +kernel
theorem dX11_minimalStateCount_52 : decode cX11_minimalStateCount 52 = .ok (.iload 4, 2) := by decide +kernel
theorem dX11_minimalStateCount_54 : decode cX11_minimalStateCount 54 = .ok (.ifCond .eq 22, 3) := by decide +kernel
theorem dX11_minimalStateCount_57 : decode cX11_minimalStateCount 57 = .ok (.aload_n 0, 1) := by decide +kernel
theorem dX11_minimalStateCount_58 : decode cX11_minimalStateCount 58 = .ok (.getfield 70, 3) := by decide +kernel
theorem dX11_minimalStateCount_61 : decode cX11_minimalStateCount 61 = .ok (.bipush 60, 2) := by decide +kernel
theorem dX11_minimalStateCount_63 : decode cX11_minimalStateCount 63 = .ok (.iload_n 3, 1) := by decide +kernel
theorem dX11_minimalStateCount_64 : decode cX11_minimalStateCount 64 = .ok (.imul, 1) := by decide +kernel
theorem dX11_minimalStateCount_65 : decode cX11_minimalStateCount 65 = .ok (.iload 5, 2) := by decide +kernel
theorem dX11_minimalStateCount_67 : decode cX11_minimalStateCount 67 = .ok (.iadd, 1) := by decide +kernel
theorem dX11_minimalStateCount_68 : decode cX11_minimalStateCount 68 = .ok (.baload, 1) := by decide +kernel
theorem dX11_minimalStateCount_69 : decode cX11_minimalStateCount 69 = .ok (.ifCond .eq 7, 3) := by decide +kernel
theorem dX11_minimalStateCount_72 : decode cX11_minimalStateCount 72 = .ok (.iconst 1, 1) := by decide +kernel
theorem dX11_minimalStateCount_73 : decode cX11_minimalStateCount 73 = .ok (.goto 4, 3) := by decide +kernel
theorem dX11_minimalStateCount_76 : decode cX11_minimalStateCount 76 = .ok (.iconst 0, 1) := by decide +kernel
theorem dX11_minimalStateCount_77 : decode cX11_minimalStateCount 77 = .ok (.istore 4, 2) := by decide +kernel
theorem dX11_minimalStateCount_79 : decode cX11_minimalStateCount 79 = .ok (.iinc 5 1, 3) := by decide +kernel
theorem dX11_minimalStateCount_82 : decode cX11_minimalStateCount 82 = .ok (.goto (-36), 3) := by decide +kernel
theorem dX11_minimalStateCount_85 : decode cX11_minimalStateCount 85 = .ok (.iload_n 2, 1) := by decide +kernel
theorem dX11_minimalStateCount_86 : decode cX11_minimalStateCount 86 = .ok (.iload 4, 2) := by decide +kernel
theorem dX11_minimalStateCount_88 : decode cX11_minimalStateCount 88 = .ok (.ifCond .eq 7, 3) := by decide +kernel
theorem dX11_minimalStateCount_91 : decode cX11_minimalStateCount 91 = .ok (.iconst 1, 1) := by decide +kernel
theorem dX11_minimalStateCount_92 : decode cX11_minimalStateCount 92 = .ok (.goto 4, 3) := by decide +kernel
theorem dX11_minimalStateCount_95 : decode cX11_minimalStateCount 95 = .ok (.iconst 0, 1) := by decide +kernel
theorem dX11_minimalStateCount_96 : decode cX11_minimalStateCount 96 = .ok (.iadd, 1) := by decide +kernel
theorem dX11_minimalStateCount_97 : decode cX11_minimalStateCount 97 = .ok (.istore_n 2, 1) := by decide +kernel
theorem dX11_minimalStateCount_98 : decode cX11_minimalStateCount 98 = .ok (.iinc 3 1, 3) := by decide +kernel
theorem dX11_minimalStateCount_101 : decode cX11_minimalStateCount 101 = .ok (.goto (-71), 3) := by decide +kernel
theorem dX11_minimalStateCount_104 : decode cX11_minimalStateCount 104 = .ok (.iload_n 2, 1) := by decide +kernel
theorem dX11_minimalStateCount_105 : decode cX11_minimalStateCount 105 = .ok (.ireturn, 1) := by decide +kernel
theorem dX11_acceptsInput_0 : decode cX11_acceptsInput 0 = .ok (.aload_n 0, 1) := by decide +kernel
theorem dX11_acceptsInput_1 : decode cX11_acceptsInput 1 = .ok (.iload_n 1, 1) := by decide +kernel
theorem dX11_acceptsInput_2 : decode cX11_acceptsInput 2 = .ok (.invokestatic 112, 3) := by decide +kernel
theorem dX11_acceptsInput_5 : decode cX11_acceptsInput 5 = .ok (.ifCond .ne 7, 3) := by decide +kernel
theorem dX11_acceptsInput_8 : decode cX11_acceptsInput 8 = .ok (.iconst 1, 1) := by decide +kernel
theorem dX11_acceptsInput_9 : decode cX11_acceptsInput 9 = .ok (.goto 4, 3) := by decide +kernel
theorem dX11_acceptsInput_12 : decode cX11_acceptsInput 12 = .ok (.iconst 0, 1) := by decide +kernel
theorem dX11_acceptsInput_13 : decode cX11_acceptsInput 13 = .ok (.invokevirtual 209, 3) := by decide +kernel
theorem dX11_acceptsInput_16 : decode cX11_acceptsInput 16 = .ok (.ifCond .eq 5, 3) := by decide +kernel
theorem dX11_acceptsInput_19 : decode cX11_acceptsInput 19 = .ok (.iconst 0, 1) := by decide +kernel
theorem dX11_acceptsInput_20 : decode cX11_acceptsInput 20 = .ok (.ireturn, 1) := by decide +kernel
theorem dX11_acceptsInput_21 : decode cX11_acceptsInput 21 = .ok (.iconst 0, 1) := by decide +kernel
theorem dX11_acceptsInput_22 : decode cX11_acceptsInput 22 = .ok (.istore_n 2, 1) := by decide +kernel
theorem dX11_acceptsInput_23 : decode cX11_acceptsInput 23 = .ok (.iconst 0, 1) := by decide +kernel
theorem dX11_acceptsInput_24 : decode cX11_acceptsInput 24 = .ok (.istore_n 3, 1) := by decide +kernel
theorem dX11_acceptsInput_25 : decode cX11_acceptsInput 25 = .ok (.iload_n 3, 1) := by decide +kernel
theorem dX11_acceptsInput_26 : decode cX11_acceptsInput 26 = .ok (.aload_n 0, 1) := by decide +kernel
theorem dX11_acceptsInput_27 : decode cX11_acceptsInput 27 = .ok (.getfield 89, 3) := by decide +kernel
theorem dX11_acceptsInput_30 : decode cX11_acceptsInput 30 = .ok (.if_icmp .ge 42, 3) := by decide +kernel
theorem dX11_acceptsInput_33 : decode cX11_acceptsInput 33 = .ok (.aload_n 0, 1) := by decide +kernel
theorem dX11_acceptsInput_34 : decode cX11_acceptsInput 34 = .ok (.getfield 22, 3) := by decide +kernel
theorem dX11_acceptsInput_37 : decode cX11_acceptsInput 37 = .ok (.iload_n 3, 1) := by decide +kernel
theorem dX11_acceptsInput_38 : decode cX11_acceptsInput 38 = .ok (.iaload, 1) := by decide +kernel
theorem dX11_acceptsInput_39 : decode cX11_acceptsInput 39 = .ok (.bipush 97, 2) := by decide +kernel
theorem dX11_acceptsInput_41 : decode cX11_acceptsInput 41 = .ok (.isub, 1) := by decide +kernel
theorem dX11_acceptsInput_42 : decode cX11_acceptsInput 42 = .ok (.invokestatic 234, 3) := by decide +kernel
theorem dX11_acceptsInput_45 : decode cX11_acceptsInput 45 = .ok (.ifCond .ne 5, 3) := by decide +kernel
theorem dX11_acceptsInput_48 : decode cX11_acceptsInput 48 = .ok (.iconst 0, 1) := by decide +kernel
theorem dX11_acceptsInput_49 : decode cX11_acceptsInput 49 = .ok (.ireturn, 1) := by decide +kernel
theorem dX11_acceptsInput_50 : decode cX11_acceptsInput 50 = .ok (.aload_n 0, 1) := by decide +kernel
theorem dX11_acceptsInput_51 : decode cX11_acceptsInput 51 = .ok (.iload_n 1, 1) := by decide +kernel
theorem dX11_acceptsInput_52 : decode cX11_acceptsInput 52 = .ok (.iload_n 2, 1) := by decide +kernel
theorem dX11_acceptsInput_53 : decode cX11_acceptsInput 53 = .ok (.aload_n 0, 1) := by decide +kernel
theorem dX11_acceptsInput_54 : decode cX11_acceptsInput 54 = .ok (.getfield 22, 3) := by decide +kernel
theorem dX11_acceptsInput_57 : decode cX11_acceptsInput 57 = .ok (.iload_n 3, 1) := by decide +kernel
theorem dX11_acceptsInput_58 : decode cX11_acceptsInput 58 = .ok (.iaload, 1) := by decide +kernel
theorem dX11_acceptsInput_59 : decode cX11_acceptsInput 59 = .ok (.bipush 97, 2) := by decide +kernel
theorem dX11_acceptsInput_61 : decode cX11_acceptsInput 61 = .ok (.isub, 1) := by decide +kernel
theorem dX11_acceptsInput_62 : decode cX11_acceptsInput 62 = .ok (.invokevirtual 231, 3) := by decide +kernel
theorem dX11_acceptsInput_65 : decode cX11_acceptsInput 65 = .ok (.istore_n 2, 1) := by decide +kernel
theorem dX11_acceptsInput_66 : decode cX11_acceptsInput 66 = .ok (.iinc 3 1, 3) := by decide +kernel
theorem dX11_acceptsInput_69 : decode cX11_acceptsInput 69 = .ok (.goto (-44), 3) := by decide +kernel
theorem dX11_acceptsInput_72 : decode cX11_acceptsInput 72 = .ok (.aload_n 0, 1) := by decide +kernel
theorem dX11_acceptsInput_73 : decode cX11_acceptsInput 73 = .ok (.iload_n 1, 1) := by decide +kernel
theorem dX11_acceptsInput_74 : decode cX11_acceptsInput 74 = .ok (.iload_n 2, 1) := by decide +kernel
theorem dX11_acceptsInput_75 : decode cX11_acceptsInput 75 = .ok (.invokevirtual 257, 3) := by decide +kernel
theorem dX11_acceptsInput_78 : decode cX11_acceptsInput 78 = .ok (.ireturn, 1) := by decide +kernel
theorem dX11_countsWords_0 : decode cX11_countsWords 0 = .ok (.aload_n 0, 1) := by decide +kernel
theorem dX11_countsWords_1 : decode cX11_countsWords 1 = .ok (.iload_n 1, 1) := by decide +kernel
theorem dX11_countsWords_2 : decode cX11_countsWords 2 = .ok (.iconst 5, 1) := by decide +kernel
theorem dX11_countsWords_3 : decode cX11_countsWords 3 = .ok (.invokevirtual 115, 3) := by decide +kernel
theorem dX11_countsWords_6 : decode cX11_countsWords 6 = .ok (.istore_n 3, 1) := by decide +kernel
theorem dX11_countsWords_7 : decode cX11_countsWords 7 = .ok (.iconst 0, 1) := by decide +kernel
theorem dX11_countsWords_8 : decode cX11_countsWords 8 = .ok (.istore 4, 2) := by decide +kernel
theorem dX11_countsWords_10 : decode cX11_countsWords 10 = .ok (.iload 4, 2) := by decide +kernel
theorem dX11_countsWords_12 : decode cX11_countsWords 12 = .ok (.iload_n 2, 1) := by decide +kernel
theorem dX11_countsWords_13 : decode cX11_countsWords 13 = .ok (.if_icmp .gt 109, 3) := by decide +kernel
theorem dX11_countsWords_16 : decode cX11_countsWords 16 = .ok (.iconst 0, 1) := by decide +kernel
theorem dX11_countsWords_17 : decode cX11_countsWords 17 = .ok (.istore 5, 2) := by decide +kernel
theorem dX11_countsWords_19 : decode cX11_countsWords 19 = .ok (.iload 5, 2) := by decide +kernel
theorem dX11_countsWords_21 : decode cX11_countsWords 21 = .ok (.iload_n 3, 1) := by decide +kernel
theorem dX11_countsWords_22 : decode cX11_countsWords 22 = .ok (.if_icmp .ge 94, 3) := by decide +kernel
theorem dX11_countsWords_25 : decode cX11_countsWords 25 = .ok (.iload 4, 2) := by decide +kernel
theorem dX11_countsWords_27 : decode cX11_countsWords 27 = .ok (.ifCond .ne 17, 3) := by decide +kernel
theorem dX11_countsWords_30 : decode cX11_countsWords 30 = .ok (.aload_n 0, 1) := by decide +kernel
theorem dX11_countsWords_31 : decode cX11_countsWords 31 = .ok (.iload_n 1, 1) := by decide +kernel
theorem dX11_countsWords_32 : decode cX11_countsWords 32 = .ok (.iload 5, 2) := by decide +kernel
theorem dX11_countsWords_34 : decode cX11_countsWords 34 = .ok (.invokevirtual 257, 3) := by decide +kernel
theorem dX11_countsWords_37 : decode cX11_countsWords 37 = .ok (.ifCond .eq 7, 3) := by decide +kernel
theorem dX11_countsWords_40 : decode cX11_countsWords 40 = .ok (.lconst 1, 1) := by decide +kernel
theorem dX11_countsWords_41 : decode cX11_countsWords 41 = .ok (.goto 4, 3) := by decide +kernel
theorem dX11_countsWords_44 : decode cX11_countsWords 44 = .ok (.lconst 0, 1) := by decide +kernel
theorem dX11_countsWords_45 : decode cX11_countsWords 45 = .ok (.lstore 6, 2) := by decide +kernel
theorem dX11_countsWords_47 : decode cX11_countsWords 47 = .ok (.iconst 0, 1) := by decide +kernel
theorem dX11_countsWords_48 : decode cX11_countsWords 48 = .ok (.istore 8, 2) := by decide +kernel
theorem dX11_countsWords_50 : decode cX11_countsWords 50 = .ok (.iload 8, 2) := by decide +kernel
theorem dX11_countsWords_52 : decode cX11_countsWords 52 = .ok (.bipush 6, 2) := by decide +kernel
theorem dX11_countsWords_54 : decode cX11_countsWords 54 = .ok (.if_icmp .ge 41, 3) := by decide +kernel
theorem dX11_countsWords_57 : decode cX11_countsWords 57 = .ok (.iload 4, 2) := by decide +kernel
theorem dX11_countsWords_59 : decode cX11_countsWords 59 = .ok (.ifCond .le 36, 3) := by decide +kernel
theorem dX11_countsWords_62 : decode cX11_countsWords 62 = .ok (.lload 6, 2) := by decide +kernel
theorem dX11_countsWords_64 : decode cX11_countsWords 64 = .ok (.aload_n 0, 1) := by decide +kernel
theorem dX11_countsWords_65 : decode cX11_countsWords 65 = .ok (.getfield 66, 3) := by decide +kernel
theorem dX11_countsWords_68 : decode cX11_countsWords 68 = .ok (.bipush 60, 2) := by decide +kernel
theorem dX11_countsWords_70 : decode cX11_countsWords 70 = .ok (.iload 4, 2) := by decide +kernel
theorem dX11_countsWords_72 : decode cX11_countsWords 72 = .ok (.iconst 1, 1) := by decide +kernel
theorem dX11_countsWords_73 : decode cX11_countsWords 73 = .ok (.isub, 1) := by decide +kernel
theorem dX11_countsWords_74 : decode cX11_countsWords 74 = .ok (.imul, 1) := by decide +kernel
theorem dX11_countsWords_75 : decode cX11_countsWords 75 = .ok (.aload_n 0, 1) := by decide +kernel
theorem dX11_countsWords_76 : decode cX11_countsWords 76 = .ok (.iload_n 1, 1) := by decide +kernel
theorem dX11_countsWords_77 : decode cX11_countsWords 77 = .ok (.iload 5, 2) := by decide +kernel
theorem dX11_countsWords_79 : decode cX11_countsWords 79 = .ok (.iload 8, 2) := by decide +kernel
theorem dX11_countsWords_81 : decode cX11_countsWords 81 = .ok (.invokevirtual 231, 3) := by decide +kernel
theorem dX11_countsWords_84 : decode cX11_countsWords 84 = .ok (.iadd, 1) := by decide +kernel
theorem dX11_countsWords_85 : decode cX11_countsWords 85 = .ok (.laload, 1) := by decide +kernel
theorem dX11_countsWords_86 : decode cX11_countsWords 86 = .ok (.ladd, 1) := by decide +kernel
theorem dX11_countsWords_87 : decode cX11_countsWords 87 = .ok (.lstore 6, 2) := by decide +kernel
theorem dX11_countsWords_89 : decode cX11_countsWords 89 = .ok (.iinc 8 1, 3) := by decide +kernel
theorem dX11_countsWords_92 : decode cX11_countsWords 92 = .ok (.goto (-42), 3) := by decide +kernel
theorem dX11_countsWords_95 : decode cX11_countsWords 95 = .ok (.aload_n 0, 1) := by decide +kernel
theorem dX11_countsWords_96 : decode cX11_countsWords 96 = .ok (.getfield 66, 3) := by decide +kernel
theorem dX11_countsWords_99 : decode cX11_countsWords 99 = .ok (.bipush 60, 2) := by decide +kernel
theorem dX11_countsWords_101 : decode cX11_countsWords 101 = .ok (.iload 4, 2) := by decide +kernel
theorem dX11_countsWords_103 : decode cX11_countsWords 103 = .ok (.imul, 1) := by decide +kernel
theorem dX11_countsWords_104 : decode cX11_countsWords 104 = .ok (.iload 5, 2) := by decide +kernel
theorem dX11_countsWords_106 : decode cX11_countsWords 106 = .ok (.iadd, 1) := by decide +kernel
theorem dX11_countsWords_107 : decode cX11_countsWords 107 = .ok (.lload 6, 2) := by decide +kernel
theorem dX11_countsWords_109 : decode cX11_countsWords 109 = .ok (.lastore, 1) := by decide +kernel
theorem dX11_countsWords_110 : decode cX11_countsWords 110 = .ok (.iinc 5 1, 3) := by decide +kernel
theorem dX11_countsWords_113 : decode cX11_countsWords 113 = .ok (.goto (-94), 3) := by decide +kernel
theorem dX11_countsWords_116 : decode cX11_countsWords 116 = .ok (.iinc 4 1, 3) := by decide +kernel
theorem dX11_countsWords_119 : decode cX11_countsWords 119 = .ok (.goto (-109), 3) := by decide +kernel
theorem dX11_countsWords_122 : decode cX11_countsWords 122 = .ok (.return_, 1) := by decide +kernel
theorem dX11_wordCount_0 : decode cX11_wordCount 0 = .ok (.aload_n 0, 1) := by decide +kernel
theorem dX11_wordCount_1 : decode cX11_wordCount 1 = .ok (.iload_n 1, 1) := by decide +kernel
theorem dX11_wordCount_2 : decode cX11_wordCount 2 = .ok (.invokestatic 112, 3) := by decide +kernel
theorem dX11_wordCount_5 : decode cX11_wordCount 5 = .ok (.ifCond .ne 7, 3) := by decide +kernel
theorem dX11_wordCount_8 : decode cX11_wordCount 8 = .ok (.iconst 1, 1) := by decide +kernel
theorem dX11_wordCount_9 : decode cX11_wordCount 9 = .ok (.goto 4, 3) := by decide +kernel
theorem dX11_wordCount_12 : decode cX11_wordCount 12 = .ok (.iconst 0, 1) := by decide +kernel
theorem dX11_wordCount_13 : decode cX11_wordCount 13 = .ok (.iload_n 2, 1) := by decide +kernel
theorem dX11_wordCount_14 : decode cX11_wordCount 14 = .ok (.iconst 0, 1) := by decide +kernel
theorem dX11_wordCount_15 : decode cX11_wordCount 15 = .ok (.bipush 20, 2) := by decide +kernel
theorem dX11_wordCount_17 : decode cX11_wordCount 17 = .ok (.invokestatic 108, 3) := by decide +kernel
theorem dX11_wordCount_20 : decode cX11_wordCount 20 = .ok (.ifCond .ne 7, 3) := by decide +kernel
theorem dX11_wordCount_23 : decode cX11_wordCount 23 = .ok (.iconst 1, 1) := by decide +kernel
theorem dX11_wordCount_24 : decode cX11_wordCount 24 = .ok (.goto 4, 3) := by decide +kernel
theorem dX11_wordCount_27 : decode cX11_wordCount 27 = .ok (.iconst 0, 1) := by decide +kernel
theorem dX11_wordCount_28 : decode cX11_wordCount 28 = .ok (.invokevirtual 225, 3) := by decide +kernel
theorem dX11_wordCount_31 : decode cX11_wordCount 31 = .ok (.ifCond .eq 5, 3) := by decide +kernel
theorem dX11_wordCount_34 : decode cX11_wordCount 34 = .ok (.lconst 0, 1) := by decide +kernel
theorem dX11_wordCount_35 : decode cX11_wordCount 35 = .ok (.lreturn, 1) := by decide +kernel
theorem dX11_wordCount_36 : decode cX11_wordCount 36 = .ok (.aload_n 0, 1) := by decide +kernel
theorem dX11_wordCount_37 : decode cX11_wordCount 37 = .ok (.iload_n 1, 1) := by decide +kernel
theorem dX11_wordCount_38 : decode cX11_wordCount 38 = .ok (.iload_n 2, 1) := by decide +kernel
theorem dX11_wordCount_39 : decode cX11_wordCount 39 = .ok (.invokevirtual 270, 3) := by decide +kernel
theorem dX11_wordCount_42 : decode cX11_wordCount 42 = .ok (.aload_n 0, 1) := by decide +kernel
theorem dX11_wordCount_43 : decode cX11_wordCount 43 = .ok (.getfield 66, 3) := by decide +kernel
theorem dX11_wordCount_46 : decode cX11_wordCount 46 = .ok (.bipush 60, 2) := by decide +kernel
theorem dX11_wordCount_48 : decode cX11_wordCount 48 = .ok (.iload_n 2, 1) := by decide +kernel
theorem dX11_wordCount_49 : decode cX11_wordCount 49 = .ok (.imul, 1) := by decide +kernel
theorem dX11_wordCount_50 : decode cX11_wordCount 50 = .ok (.laload, 1) := by decide +kernel
theorem dX11_wordCount_51 : decode cX11_wordCount 51 = .ok (.lreturn, 1) := by decide +kernel
theorem dX11_wordCountWithPrefix_0 : decode cX11_wordCountWithPrefix 0 = .ok (.aload_n 0, 1) := by decide +kernel
theorem dX11_wordCountWithPrefix_1 : decode cX11_wordCountWithPrefix 1 = .ok (.iload_n 1, 1) := by decide +kernel
theorem dX11_wordCountWithPrefix_2 : decode cX11_wordCountWithPrefix 2 = .ok (.invokestatic 112, 3) := by decide +kernel
theorem dX11_wordCountWithPrefix_5 : decode cX11_wordCountWithPrefix 5 = .ok (.ifCond .ne 7, 3) := by decide +kernel
theorem dX11_wordCountWithPrefix_8 : decode cX11_wordCountWithPrefix 8 = .ok (.iconst 1, 1) := by decide +kernel
theorem dX11_wordCountWithPrefix_9 : decode cX11_wordCountWithPrefix 9 = .ok (.goto 4, 3) := by decide +kernel
theorem dX11_wordCountWithPrefix_12 : decode cX11_wordCountWithPrefix 12 = .ok (.iconst 0, 1) := by decide +kernel
theorem dX11_wordCountWithPrefix_13 : decode cX11_wordCountWithPrefix 13 = .ok (.iload_n 2, 1) := by decide +kernel
theorem dX11_wordCountWithPrefix_14 : decode cX11_wordCountWithPrefix 14 = .ok (.iconst 0, 1) := by decide +kernel
theorem dX11_wordCountWithPrefix_15 : decode cX11_wordCountWithPrefix 15 = .ok (.bipush 20, 2) := by decide +kernel
theorem dX11_wordCountWithPrefix_17 : decode cX11_wordCountWithPrefix 17 = .ok (.invokestatic 108, 3) := by decide +kernel
theorem dX11_wordCountWithPrefix_20 : decode cX11_wordCountWithPrefix 20 = .ok (.ifCond .ne 7, 3) := by decide +kernel
theorem dX11_wordCountWithPrefix_23 : decode cX11_wordCountWithPrefix 23 = .ok (.iconst 1, 1) := by decide +kernel
theorem dX11_wordCountWithPrefix_24 : decode cX11_wordCountWithPrefix 24 = .ok (.goto 4, 3) := by decide +kernel
theorem dX11_wordCountWithPrefix_27 : decode cX11_wordCountWithPrefix 27 = .ok (.iconst 0, 1) := by decide +kernel
theorem dX11_wordCountWithPrefix_28 : decode cX11_wordCountWithPrefix 28 = .ok (.invokevirtual 225, 3) := by decide +kernel
theorem dX11_wordCountWithPrefix_31 : decode cX11_wordCountWithPrefix 31 = .ok (.ifCond .ne 11, 3) := by decide +kernel
theorem dX11_wordCountWithPrefix_34 : decode cX11_wordCountWithPrefix 34 = .ok (.aload_n 0, 1) := by decide +kernel
theorem dX11_wordCountWithPrefix_35 : decode cX11_wordCountWithPrefix 35 = .ok (.getfield 89, 3) := by decide +kernel
theorem dX11_wordCountWithPrefix_38 : decode cX11_wordCountWithPrefix 38 = .ok (.iload_n 2, 1) := by decide +kernel
theorem dX11_wordCountWithPrefix_39 : decode cX11_wordCountWithPrefix 39 = .ok (.if_icmp .le 5, 3) := by decide +kernel
theorem dX11_wordCountWithPrefix_42 : decode cX11_wordCountWithPrefix 42 = .ok (.lconst 0, 1) := by decide +kernel
theorem dX11_wordCountWithPrefix_43 : decode cX11_wordCountWithPrefix 43 = .ok (.lreturn, 1) := by decide +kernel
theorem dX11_wordCountWithPrefix_44 : decode cX11_wordCountWithPrefix 44 = .ok (.iconst 0, 1) := by decide +kernel
theorem dX11_wordCountWithPrefix_45 : decode cX11_wordCountWithPrefix 45 = .ok (.istore_n 3, 1) := by decide +kernel
theorem dX11_wordCountWithPrefix_46 : decode cX11_wordCountWithPrefix 46 = .ok (.iconst 0, 1) := by decide +kernel
theorem dX11_wordCountWithPrefix_47 : decode cX11_wordCountWithPrefix 47 = .ok (.istore 4, 2) := by decide +kernel
theorem dX11_wordCountWithPrefix_49 : decode cX11_wordCountWithPrefix 49 = .ok (.iload 4, 2) := by decide +kernel
theorem dX11_wordCountWithPrefix_51 : decode cX11_wordCountWithPrefix 51 = .ok (.aload_n 0, 1) := by decide +kernel
theorem dX11_wordCountWithPrefix_52 : decode cX11_wordCountWithPrefix 52 = .ok (.getfield 89, 3) := by decide +kernel
theorem dX11_wordCountWithPrefix_55 : decode cX11_wordCountWithPrefix 55 = .ok (.if_icmp .ge 44, 3) := by decide +kernel
theorem dX11_wordCountWithPrefix_58 : decode cX11_wordCountWithPrefix 58 = .ok (.aload_n 0, 1) := by decide +kernel
theorem dX11_wordCountWithPrefix_59 : decode cX11_wordCountWithPrefix 59 = .ok (.getfield 22, 3) := by decide +kernel
theorem dX11_wordCountWithPrefix_62 : decode cX11_wordCountWithPrefix 62 = .ok (.iload 4, 2) := by decide +kernel
theorem dX11_wordCountWithPrefix_64 : decode cX11_wordCountWithPrefix 64 = .ok (.iaload, 1) := by decide +kernel
theorem dX11_wordCountWithPrefix_65 : decode cX11_wordCountWithPrefix 65 = .ok (.bipush 97, 2) := by decide +kernel
theorem dX11_wordCountWithPrefix_67 : decode cX11_wordCountWithPrefix 67 = .ok (.isub, 1) := by decide +kernel
theorem dX11_wordCountWithPrefix_68 : decode cX11_wordCountWithPrefix 68 = .ok (.invokestatic 234, 3) := by decide +kernel
theorem dX11_wordCountWithPrefix_71 : decode cX11_wordCountWithPrefix 71 = .ok (.ifCond .ne 5, 3) := by decide +kernel
theorem dX11_wordCountWithPrefix_74 : decode cX11_wordCountWithPrefix 74 = .ok (.lconst 0, 1) := by decide +kernel
theorem dX11_wordCountWithPrefix_75 : decode cX11_wordCountWithPrefix 75 = .ok (.lreturn, 1) := by decide +kernel
theorem dX11_wordCountWithPrefix_76 : decode cX11_wordCountWithPrefix 76 = .ok (.aload_n 0, 1) := by decide +kernel
theorem dX11_wordCountWithPrefix_77 : decode cX11_wordCountWithPrefix 77 = .ok (.iload_n 1, 1) := by decide +kernel
theorem dX11_wordCountWithPrefix_78 : decode cX11_wordCountWithPrefix 78 = .ok (.iload_n 3, 1) := by decide +kernel
theorem dX11_wordCountWithPrefix_79 : decode cX11_wordCountWithPrefix 79 = .ok (.aload_n 0, 1) := by decide +kernel
theorem dX11_wordCountWithPrefix_80 : decode cX11_wordCountWithPrefix 80 = .ok (.getfield 22, 3) := by decide +kernel
theorem dX11_wordCountWithPrefix_83 : decode cX11_wordCountWithPrefix 83 = .ok (.iload 4, 2) := by decide +kernel
theorem dX11_wordCountWithPrefix_85 : decode cX11_wordCountWithPrefix 85 = .ok (.iaload, 1) := by decide +kernel
theorem dX11_wordCountWithPrefix_86 : decode cX11_wordCountWithPrefix 86 = .ok (.bipush 97, 2) := by decide +kernel
theorem dX11_wordCountWithPrefix_88 : decode cX11_wordCountWithPrefix 88 = .ok (.isub, 1) := by decide +kernel
theorem dX11_wordCountWithPrefix_89 : decode cX11_wordCountWithPrefix 89 = .ok (.invokevirtual 231, 3) := by decide +kernel
theorem dX11_wordCountWithPrefix_92 : decode cX11_wordCountWithPrefix 92 = .ok (.istore_n 3, 1) := by decide +kernel
theorem dX11_wordCountWithPrefix_93 : decode cX11_wordCountWithPrefix 93 = .ok (.iinc 4 1, 3) := by decide +kernel
theorem dX11_wordCountWithPrefix_96 : decode cX11_wordCountWithPrefix 96 = .ok (.goto (-47), 3) := by decide +kernel
theorem dX11_wordCountWithPrefix_99 : decode cX11_wordCountWithPrefix 99 = .ok (.aload_n 0, 1) := by decide +kernel
theorem dX11_wordCountWithPrefix_100 : decode cX11_wordCountWithPrefix 100 = .ok (.iload_n 1, 1) := by decide +kernel
theorem dX11_wordCountWithPrefix_101 : decode cX11_wordCountWithPrefix 101 = .ok (.iload_n 2, 1) := by decide +kernel
theorem dX11_wordCountWithPrefix_102 : decode cX11_wordCountWithPrefix 102 = .ok (.aload_n 0, 1) := by decide +kernel
theorem dX11_wordCountWithPrefix_103 : decode cX11_wordCountWithPrefix 103 = .ok (.getfield 89, 3) := by decide +kernel
theorem dX11_wordCountWithPrefix_106 : decode cX11_wordCountWithPrefix 106 = .ok (.isub, 1) := by decide +kernel
theorem dX11_wordCountWithPrefix_107 : decode cX11_wordCountWithPrefix 107 = .ok (.invokevirtual 270, 3) := by decide +kernel
theorem dX11_wordCountWithPrefix_110 : decode cX11_wordCountWithPrefix 110 = .ok (.aload_n 0, 1) := by decide +kernel
theorem dX11_wordCountWithPrefix_111 : decode cX11_wordCountWithPrefix 111 = .ok (.getfield 66, 3) := by decide +kernel
theorem dX11_wordCountWithPrefix_114 : decode cX11_wordCountWithPrefix 114 = .ok (.bipush 60, 2) := by decide +kernel
theorem dX11_wordCountWithPrefix_116 : decode cX11_wordCountWithPrefix 116 = .ok (.iload_n 2, 1) := by decide +kernel
theorem dX11_wordCountWithPrefix_117 : decode cX11_wordCountWithPrefix 117 = .ok (.aload_n 0, 1) := by decide +kernel
theorem dX11_wordCountWithPrefix_118 : decode cX11_wordCountWithPrefix 118 = .ok (.getfield 89, 3) := by decide +kernel
theorem dX11_wordCountWithPrefix_121 : decode cX11_wordCountWithPrefix 121 = .ok (.isub, 1) := by decide +kernel
theorem dX11_wordCountWithPrefix_122 : decode cX11_wordCountWithPrefix 122 = .ok (.imul, 1) := by decide +kernel
theorem dX11_wordCountWithPrefix_123 : decode cX11_wordCountWithPrefix 123 = .ok (.iload_n 3, 1) := by decide +kernel
theorem dX11_wordCountWithPrefix_124 : decode cX11_wordCountWithPrefix 124 = .ok (.iadd, 1) := by decide +kernel
theorem dX11_wordCountWithPrefix_125 : decode cX11_wordCountWithPrefix 125 = .ok (.laload, 1) := by decide +kernel
theorem dX11_wordCountWithPrefix_126 : decode cX11_wordCountWithPrefix 126 = .ok (.lreturn, 1) := by decide +kernel
theorem dX11_shortestLength_0 : decode cX11_shortestLength 0 = .ok (.aload_n 0, 1) := by decide +kernel
theorem dX11_shortestLength_1 : decode cX11_shortestLength 1 = .ok (.iload_n 1, 1) := by decide +kernel
theorem dX11_shortestLength_2 : decode cX11_shortestLength 2 = .ok (.invokestatic 112, 3) := by decide +kernel
theorem dX11_shortestLength_5 : decode cX11_shortestLength 5 = .ok (.ifCond .ne 7, 3) := by decide +kernel
theorem dX11_shortestLength_8 : decode cX11_shortestLength 8 = .ok (.iconst 1, 1) := by decide +kernel
theorem dX11_shortestLength_9 : decode cX11_shortestLength 9 = .ok (.goto 4, 3) := by decide +kernel
theorem dX11_shortestLength_12 : decode cX11_shortestLength 12 = .ok (.iconst 0, 1) := by decide +kernel
theorem dX11_shortestLength_13 : decode cX11_shortestLength 13 = .ok (.invokevirtual 209, 3) := by decide +kernel
theorem dX11_shortestLength_16 : decode cX11_shortestLength 16 = .ok (.ifCond .eq 7, 3) := by decide +kernel
theorem dX11_shortestLength_19 : decode cX11_shortestLength 19 = .ok (.iconst 0, 1) := by decide +kernel
theorem dX11_shortestLength_20 : decode cX11_shortestLength 20 = .ok (.goto 10, 3) := by decide +kernel
theorem dX11_shortestLength_23 : decode cX11_shortestLength 23 = .ok (.aload_n 0, 1) := by decide +kernel
theorem dX11_shortestLength_24 : decode cX11_shortestLength 24 = .ok (.iload_n 1, 1) := by decide +kernel
theorem dX11_shortestLength_25 : decode cX11_shortestLength 25 = .ok (.iconst 0, 1) := by decide +kernel
theorem dX11_shortestLength_26 : decode cX11_shortestLength 26 = .ok (.iconst 0, 1) := by decide +kernel
theorem dX11_shortestLength_27 : decode cX11_shortestLength 27 = .ok (.invokevirtual 260, 3) := by decide +kernel
theorem dX11_shortestLength_30 : decode cX11_shortestLength 30 = .ok (.ireturn, 1) := by decide +kernel
theorem dX11_longest_0 : decode cX11_longest 0 = .ok (.aload_n 0, 1) := by decide +kernel
theorem dX11_longest_1 : decode cX11_longest 1 = .ok (.iload_n 1, 1) := by decide +kernel
theorem dX11_longest_2 : decode cX11_longest 2 = .ok (.iconst 5, 1) := by decide +kernel
theorem dX11_longest_3 : decode cX11_longest 3 = .ok (.invokevirtual 115, 3) := by decide +kernel
theorem dX11_longest_6 : decode cX11_longest 6 = .ok (.istore_n 2, 1) := by decide +kernel
theorem dX11_longest_7 : decode cX11_longest 7 = .ok (.iconst 0, 1) := by decide +kernel
theorem dX11_longest_8 : decode cX11_longest 8 = .ok (.istore_n 3, 1) := by decide +kernel
theorem dX11_longest_9 : decode cX11_longest 9 = .ok (.iload_n 3, 1) := by decide +kernel
theorem dX11_longest_10 : decode cX11_longest 10 = .ok (.iload_n 2, 1) := by decide +kernel
theorem dX11_longest_11 : decode cX11_longest 11 = .ok (.if_icmp .ge 29, 3) := by decide +kernel
theorem dX11_longest_14 : decode cX11_longest 14 = .ok (.aload_n 0, 1) := by decide +kernel
theorem dX11_longest_15 : decode cX11_longest 15 = .ok (.getfield 63, 3) := by decide +kernel
theorem dX11_longest_18 : decode cX11_longest 18 = .ok (.iload_n 3, 1) := by decide +kernel
theorem dX11_longest_19 : decode cX11_longest 19 = .ok (.aload_n 0, 1) := by decide +kernel
theorem dX11_longest_20 : decode cX11_longest 20 = .ok (.iload_n 1, 1) := by decide +kernel
theorem dX11_longest_21 : decode cX11_longest 21 = .ok (.iload_n 3, 1) := by decide +kernel
theorem dX11_longest_22 : decode cX11_longest 22 = .ok (.invokevirtual 257, 3) := by decide +kernel
theorem dX11_longest_25 : decode cX11_longest 25 = .ok (.ifCond .eq 7, 3) := by decide +kernel
theorem dX11_longest_28 : decode cX11_longest 28 = .ok (.iconst 0, 1) := by decide +kernel
theorem dX11_longest_29 : decode cX11_longest 29 = .ok (.goto 4, 3) := by decide +kernel
theorem dX11_longest_32 : decode cX11_longest 32 = .ok (.iconst (-1), 1) := by decide +kernel
theorem dX11_longest_33 : decode cX11_longest 33 = .ok (.iastore, 1) := by decide +kernel
theorem dX11_longest_34 : decode cX11_longest 34 = .ok (.iinc 3 1, 3) := by decide +kernel
theorem dX11_longest_37 : decode cX11_longest 37 = .ok (.goto (-28), 3) := by decide +kernel
theorem dX11_longest_40 : decode cX11_longest 40 = .ok (.iconst 1, 1) := by decide +kernel
theorem dX11_longest_41 : decode cX11_longest 41 = .ok (.istore_n 3, 1) := by decide +kernel
theorem dX11_longest_42 : decode cX11_longest 42 = .ok (.iload_n 3, 1) := by decide +kernel
theorem dX11_longest_43 : decode cX11_longest 43 = .ok (.ifCond .eq 101, 3) := by decide +kernel
theorem dX11_longest_46 : decode cX11_longest 46 = .ok (.iconst 0, 1) := by decide +kernel
theorem dX11_longest_47 : decode cX11_longest 47 = .ok (.istore_n 3, 1) := by decide +kernel
theorem dX11_longest_48 : decode cX11_longest 48 = .ok (.iconst 0, 1) := by decide +kernel
theorem dX11_longest_49 : decode cX11_longest 49 = .ok (.istore 4, 2) := by decide +kernel
theorem dX11_longest_51 : decode cX11_longest 51 = .ok (.iload 4, 2) := by decide +kernel
theorem dX11_longest_53 : decode cX11_longest 53 = .ok (.iload_n 2, 1) := by decide +kernel
theorem dX11_longest_54 : decode cX11_longest 54 = .ok (.if_icmp .ge 87, 3) := by decide +kernel
theorem dX11_longest_57 : decode cX11_longest 57 = .ok (.iconst 0, 1) := by decide +kernel
theorem dX11_longest_58 : decode cX11_longest 58 = .ok (.istore 5, 2) := by decide +kernel
theorem dX11_longest_60 : decode cX11_longest 60 = .ok (.iload 5, 2) := by decide +kernel
theorem dX11_longest_62 : decode cX11_longest 62 = .ok (.bipush 6, 2) := by decide +kernel
theorem dX11_longest_64 : decode cX11_longest 64 = .ok (.if_icmp .ge 58, 3) := by decide +kernel
theorem dX11_longest_67 : decode cX11_longest 67 = .ok (.aload_n 0, 1) := by decide +kernel
theorem dX11_longest_68 : decode cX11_longest 68 = .ok (.getfield 63, 3) := by decide +kernel
theorem dX11_longest_71 : decode cX11_longest 71 = .ok (.aload_n 0, 1) := by decide +kernel
theorem dX11_longest_72 : decode cX11_longest 72 = .ok (.iload_n 1, 1) := by decide +kernel
theorem dX11_longest_73 : decode cX11_longest 73 = .ok (.iload 4, 2) := by decide +kernel
theorem dX11_longest_75 : decode cX11_longest 75 = .ok (.iload 5, 2) := by decide +kernel
theorem dX11_longest_77 : decode cX11_longest 77 = .ok (.invokevirtual 231, 3) := by decide +kernel
theorem dX11_longest_80 : decode cX11_longest 80 = .ok (.iaload, 1) := by decide +kernel
theorem dX11_longest_81 : decode cX11_longest 81 = .ok (.istore 6, 2) := by decide +kernel
theorem dX11_longest_83 : decode cX11_longest 83 = .ok (.iload 6, 2) := by decide +kernel
theorem dX11_longest_85 : decode cX11_longest 85 = .ok (.iconst (-1), 1) := by decide +kernel
theorem dX11_longest_86 : decode cX11_longest 86 = .ok (.if_icmp .eq 30, 3) := by decide +kernel
theorem dX11_longest_89 : decode cX11_longest 89 = .ok (.iload 6, 2) := by decide +kernel
theorem dX11_longest_91 : decode cX11_longest 91 = .ok (.iconst 1, 1) := by decide +kernel
theorem dX11_longest_92 : decode cX11_longest 92 = .ok (.iadd, 1) := by decide +kernel
theorem dX11_longest_93 : decode cX11_longest 93 = .ok (.aload_n 0, 1) := by decide +kernel
theorem dX11_longest_94 : decode cX11_longest 94 = .ok (.getfield 63, 3) := by decide +kernel
theorem dX11_longest_97 : decode cX11_longest 97 = .ok (.iload 4, 2) := by decide +kernel
theorem dX11_longest_99 : decode cX11_longest 99 = .ok (.iaload, 1) := by decide +kernel
theorem dX11_longest_100 : decode cX11_longest 100 = .ok (.if_icmp .le 16, 3) := by decide +kernel
theorem dX11_longest_103 : decode cX11_longest 103 = .ok (.aload_n 0, 1) := by decide +kernel
theorem dX11_longest_104 : decode cX11_longest 104 = .ok (.getfield 63, 3) := by decide +kernel
theorem dX11_longest_107 : decode cX11_longest 107 = .ok (.iload 4, 2) := by decide +kernel
theorem dX11_longest_109 : decode cX11_longest 109 = .ok (.iload 6, 2) := by decide +kernel
theorem dX11_longest_111 : decode cX11_longest 111 = .ok (.iconst 1, 1) := by decide +kernel
theorem dX11_longest_112 : decode cX11_longest 112 = .ok (.iadd, 1) := by decide +kernel
theorem dX11_longest_113 : decode cX11_longest 113 = .ok (.iastore, 1) := by decide +kernel
theorem dX11_longest_114 : decode cX11_longest 114 = .ok (.iconst 1, 1) := by decide +kernel
theorem dX11_longest_115 : decode cX11_longest 115 = .ok (.istore_n 3, 1) := by decide +kernel
theorem dX11_longest_116 : decode cX11_longest 116 = .ok (.iinc 5 1, 3) := by decide +kernel
theorem dX11_longest_119 : decode cX11_longest 119 = .ok (.goto (-59), 3) := by decide +kernel
theorem dX11_longest_122 : decode cX11_longest 122 = .ok (.aload_n 0, 1) := by decide +kernel
theorem dX11_longest_123 : decode cX11_longest 123 = .ok (.getfield 63, 3) := by decide +kernel
theorem dX11_longest_126 : decode cX11_longest 126 = .ok (.iload 4, 2) := by decide +kernel
theorem dX11_longest_128 : decode cX11_longest 128 = .ok (.iaload, 1) := by decide +kernel
theorem dX11_longest_129 : decode cX11_longest 129 = .ok (.iload_n 2, 1) := by decide +kernel
theorem dX11_longest_130 : decode cX11_longest 130 = .ok (.if_icmp .le 5, 3) := by decide +kernel
theorem dX11_longest_133 : decode cX11_longest 133 = .ok (.iconst (-1), 1) := by decide +kernel
theorem dX11_longest_134 : decode cX11_longest 134 = .ok (.ireturn, 1) := by decide +kernel
theorem dX11_longest_135 : decode cX11_longest 135 = .ok (.iinc 4 1, 3) := by decide +kernel
theorem dX11_longest_138 : decode cX11_longest 138 = .ok (.goto (-87), 3) := by decide +kernel
theorem dX11_longest_141 : decode cX11_longest 141 = .ok (.goto (-99), 3) := by decide +kernel
theorem dX11_longest_144 : decode cX11_longest 144 = .ok (.aload_n 0, 1) := by decide +kernel
theorem dX11_longest_145 : decode cX11_longest 145 = .ok (.getfield 63, 3) := by decide +kernel
theorem dX11_longest_148 : decode cX11_longest 148 = .ok (.iconst 0, 1) := by decide +kernel
theorem dX11_longest_149 : decode cX11_longest 149 = .ok (.iaload, 1) := by decide +kernel
theorem dX11_longest_150 : decode cX11_longest 150 = .ok (.ireturn, 1) := by decide +kernel
theorem dX11_isFinite_0 : decode cX11_isFinite 0 = .ok (.aload_n 0, 1) := by decide +kernel
theorem dX11_isFinite_1 : decode cX11_isFinite 1 = .ok (.iload_n 1, 1) := by decide +kernel
theorem dX11_isFinite_2 : decode cX11_isFinite 2 = .ok (.invokestatic 112, 3) := by decide +kernel
theorem dX11_isFinite_5 : decode cX11_isFinite 5 = .ok (.ifCond .ne 7, 3) := by decide +kernel
theorem dX11_isFinite_8 : decode cX11_isFinite 8 = .ok (.iconst 1, 1) := by decide +kernel
theorem dX11_isFinite_9 : decode cX11_isFinite 9 = .ok (.goto 4, 3) := by decide +kernel
theorem dX11_isFinite_12 : decode cX11_isFinite 12 = .ok (.iconst 0, 1) := by decide +kernel
theorem dX11_isFinite_13 : decode cX11_isFinite 13 = .ok (.invokevirtual 209, 3) := by decide +kernel
theorem dX11_isFinite_16 : decode cX11_isFinite 16 = .ok (.ifCond .ne 16, 3) := by decide +kernel
theorem dX11_isFinite_19 : decode cX11_isFinite 19 = .ok (.aload_n 0, 1) := by decide +kernel
theorem dX11_isFinite_20 : decode cX11_isFinite 20 = .ok (.iload_n 1, 1) := by decide +kernel
theorem dX11_isFinite_21 : decode cX11_isFinite 21 = .ok (.invokevirtual 273, 3) := by decide +kernel
theorem dX11_isFinite_24 : decode cX11_isFinite 24 = .ok (.iconst (-1), 1) := by decide +kernel
theorem dX11_isFinite_25 : decode cX11_isFinite 25 = .ok (.if_icmp .eq 7, 3) := by decide +kernel
theorem dX11_isFinite_28 : decode cX11_isFinite 28 = .ok (.iconst 1, 1) := by decide +kernel
theorem dX11_isFinite_29 : decode cX11_isFinite 29 = .ok (.goto 4, 3) := by decide +kernel
theorem dX11_isFinite_32 : decode cX11_isFinite 32 = .ok (.iconst 0, 1) := by decide +kernel
theorem dX11_isFinite_33 : decode cX11_isFinite 33 = .ok (.ireturn, 1) := by decide +kernel
theorem dX11_longestLength_0 : decode cX11_longestLength 0 = .ok (.aload_n 0, 1) := by decide +kernel
theorem dX11_longestLength_1 : decode cX11_longestLength 1 = .ok (.iload_n 1, 1) := by decide +kernel
theorem dX11_longestLength_2 : decode cX11_longestLength 2 = .ok (.invokestatic 112, 3) := by decide +kernel
theorem dX11_longestLength_5 : decode cX11_longestLength 5 = .ok (.ifCond .ne 7, 3) := by decide +kernel
theorem dX11_longestLength_8 : decode cX11_longestLength 8 = .ok (.iconst 1, 1) := by decide +kernel
theorem dX11_longestLength_9 : decode cX11_longestLength 9 = .ok (.goto 4, 3) := by decide +kernel
theorem dX11_longestLength_12 : decode cX11_longestLength 12 = .ok (.iconst 0, 1) := by decide +kernel
theorem dX11_longestLength_13 : decode cX11_longestLength 13 = .ok (.invokevirtual 209, 3) := by decide +kernel
theorem dX11_longestLength_16 : decode cX11_longestLength 16 = .ok (.ifCond .eq 7, 3) := by decide +kernel
theorem dX11_longestLength_19 : decode cX11_longestLength 19 = .ok (.iconst 0, 1) := by decide +kernel
theorem dX11_longestLength_20 : decode cX11_longestLength 20 = .ok (.goto 8, 3) := by decide +kernel
theorem dX11_longestLength_23 : decode cX11_longestLength 23 = .ok (.aload_n 0, 1) := by decide +kernel
theorem dX11_longestLength_24 : decode cX11_longestLength 24 = .ok (.iload_n 1, 1) := by decide +kernel
theorem dX11_longestLength_25 : decode cX11_longestLength 25 = .ok (.invokevirtual 273, 3) := by decide +kernel
theorem dX11_longestLength_28 : decode cX11_longestLength 28 = .ok (.ireturn, 1) := by decide +kernel
theorem dX11_pairs_0 : decode cX11_pairs 0 = .ok (.iconst 0, 1) := by decide +kernel
theorem dX11_pairs_1 : decode cX11_pairs 1 = .ok (.istore_n 1, 1) := by decide +kernel
theorem dX11_pairs_2 : decode cX11_pairs 2 = .ok (.iload_n 1, 1) := by decide +kernel
theorem dX11_pairs_3 : decode cX11_pairs 3 = .ok (.sipush 3600, 3) := by decide +kernel
theorem dX11_pairs_6 : decode cX11_pairs 6 = .ok (.if_icmp .ge 16, 3) := by decide +kernel
theorem dX11_pairs_9 : decode cX11_pairs 9 = .ok (.aload_n 0, 1) := by decide +kernel
theorem dX11_pairs_10 : decode cX11_pairs 10 = .ok (.getfield 63, 3) := by decide +kernel
theorem dX11_pairs_13 : decode cX11_pairs 13 = .ok (.iload_n 1, 1) := by decide +kernel
theorem dX11_pairs_14 : decode cX11_pairs 14 = .ok (.iconst (-1), 1) := by decide +kernel
theorem dX11_pairs_15 : decode cX11_pairs 15 = .ok (.iastore, 1) := by decide +kernel
theorem dX11_pairs_16 : decode cX11_pairs 16 = .ok (.iinc 1 1, 3) := by decide +kernel
theorem dX11_pairs_19 : decode cX11_pairs 19 = .ok (.goto (-17), 3) := by decide +kernel
theorem dX11_pairs_22 : decode cX11_pairs 22 = .ok (.aload_n 0, 1) := by decide +kernel
theorem dX11_pairs_23 : decode cX11_pairs 23 = .ok (.iconst (-1), 1) := by decide +kernel
theorem dX11_pairs_24 : decode cX11_pairs 24 = .ok (.putfield 276, 3) := by decide +kernel
theorem dX11_pairs_27 : decode cX11_pairs 27 = .ok (.aload_n 0, 1) := by decide +kernel
theorem dX11_pairs_28 : decode cX11_pairs 28 = .ok (.iconst (-1), 1) := by decide +kernel
theorem dX11_pairs_29 : decode cX11_pairs 29 = .ok (.putfield 279, 3) := by decide +kernel
theorem dX11_pairs_32 : decode cX11_pairs 32 = .ok (.aload_n 0, 1) := by decide +kernel
theorem dX11_pairs_33 : decode cX11_pairs 33 = .ok (.getfield 63, 3) := by decide +kernel
theorem dX11_pairs_36 : decode cX11_pairs 36 = .ok (.iconst 0, 1) := by decide +kernel
theorem dX11_pairs_37 : decode cX11_pairs 37 = .ok (.iconst 0, 1) := by decide +kernel
theorem dX11_pairs_38 : decode cX11_pairs 38 = .ok (.iastore, 1) := by decide +kernel
theorem dX11_pairs_39 : decode cX11_pairs 39 = .ok (.aload_n 0, 1) := by decide +kernel
theorem dX11_pairs_40 : decode cX11_pairs 40 = .ok (.getfield 57, 3) := by decide +kernel
theorem dX11_pairs_43 : decode cX11_pairs 43 = .ok (.iconst 0, 1) := by decide +kernel
theorem dX11_pairs_44 : decode cX11_pairs 44 = .ok (.iconst (-1), 1) := by decide +kernel
theorem dX11_pairs_45 : decode cX11_pairs 45 = .ok (.iastore, 1) := by decide +kernel
theorem dX11_pairs_46 : decode cX11_pairs 46 = .ok (.aload_n 0, 1) := by decide +kernel
theorem dX11_pairs_47 : decode cX11_pairs 47 = .ok (.getfield 54, 3) := by decide +kernel
theorem dX11_pairs_50 : decode cX11_pairs 50 = .ok (.iconst 0, 1) := by decide +kernel
theorem dX11_pairs_51 : decode cX11_pairs 51 = .ok (.iconst 0, 1) := by decide +kernel
theorem dX11_pairs_52 : decode cX11_pairs 52 = .ok (.iastore, 1) := by decide +kernel
theorem dX11_pairs_53 : decode cX11_pairs 53 = .ok (.iconst 1, 1) := by decide +kernel
theorem dX11_pairs_54 : decode cX11_pairs 54 = .ok (.istore_n 1, 1) := by decide +kernel
theorem dX11_pairs_55 : decode cX11_pairs 55 = .ok (.iconst 0, 1) := by decide +kernel
theorem dX11_pairs_56 : decode cX11_pairs 56 = .ok (.istore_n 2, 1) := by decide +kernel
theorem dX11_pairs_57 : decode cX11_pairs 57 = .ok (.iload_n 2, 1) := by decide +kernel
theorem dX11_pairs_58 : decode cX11_pairs 58 = .ok (.iload_n 1, 1) := by decide +kernel
theorem dX11_pairs_59 : decode cX11_pairs 59 = .ok (.if_icmp .ge 204, 3) := by decide +kernel
theorem dX11_pairs_62 : decode cX11_pairs 62 = .ok (.aload_n 0, 1) := by decide +kernel
theorem dX11_pairs_63 : decode cX11_pairs 63 = .ok (.getfield 54, 3) := by decide +kernel
theorem dX11_pairs_66 : decode cX11_pairs 66 = .ok (.iload_n 2, 1) := by decide +kernel
theorem dX11_pairs_67 : decode cX11_pairs 67 = .ok (.iaload, 1) := by decide +kernel
theorem dX11_pairs_68 : decode cX11_pairs 68 = .ok (.bipush 60, 2) := by decide +kernel
theorem dX11_pairs_70 : decode cX11_pairs 70 = .ok (.idiv, 1) := by decide +kernel
theorem dX11_pairs_71 : decode cX11_pairs 71 = .ok (.istore_n 3, 1) := by decide +kernel
theorem dX11_pairs_72 : decode cX11_pairs 72 = .ok (.aload_n 0, 1) := by decide +kernel
theorem dX11_pairs_73 : decode cX11_pairs 73 = .ok (.getfield 54, 3) := by decide +kernel
theorem dX11_pairs_76 : decode cX11_pairs 76 = .ok (.iload_n 2, 1) := by decide +kernel
theorem dX11_pairs_77 : decode cX11_pairs 77 = .ok (.iaload, 1) := by decide +kernel
theorem dX11_pairs_78 : decode cX11_pairs 78 = .ok (.bipush 60, 2) := by decide +kernel
theorem dX11_pairs_80 : decode cX11_pairs 80 = .ok (.irem, 1) := by decide +kernel
theorem dX11_pairs_81 : decode cX11_pairs 81 = .ok (.istore 4, 2) := by decide +kernel
theorem dX11_pairs_83 : decode cX11_pairs 83 = .ok (.aload_n 0, 1) := by decide +kernel
theorem dX11_pairs_84 : decode cX11_pairs 84 = .ok (.getfield 276, 3) := by decide +kernel
theorem dX11_pairs_87 : decode cX11_pairs 87 = .ok (.iconst (-1), 1) := by decide +kernel
theorem dX11_pairs_88 : decode cX11_pairs 88 = .ok (.if_icmp .ne 29, 3) := by decide +kernel
theorem dX11_pairs_91 : decode cX11_pairs 91 = .ok (.aload_n 0, 1) := by decide +kernel
theorem dX11_pairs_92 : decode cX11_pairs 92 = .ok (.iconst 0, 1) := by decide +kernel
theorem dX11_pairs_93 : decode cX11_pairs 93 = .ok (.iload_n 3, 1) := by decide +kernel
theorem dX11_pairs_94 : decode cX11_pairs 94 = .ok (.invokevirtual 257, 3) := by decide +kernel
theorem dX11_pairs_97 : decode cX11_pairs 97 = .ok (.aload_n 0, 1) := by decide +kernel
theorem dX11_pairs_98 : decode cX11_pairs 98 = .ok (.iconst 1, 1) := by decide +kernel
theorem dX11_pairs_99 : decode cX11_pairs 99 = .ok (.iload 4, 2) := by decide +kernel
theorem dX11_pairs_101 : decode cX11_pairs 101 = .ok (.invokevirtual 257, 3) := by decide +kernel
theorem dX11_pairs_104 : decode cX11_pairs 104 = .ok (.if_icmp .eq 13, 3) := by decide +kernel
theorem dX11_pairs_107 : decode cX11_pairs 107 = .ok (.aload_n 0, 1) := by decide +kernel
theorem dX11_pairs_108 : decode cX11_pairs 108 = .ok (.aload_n 0, 1) := by decide +kernel
theorem dX11_pairs_109 : decode cX11_pairs 109 = .ok (.getfield 54, 3) := by decide +kernel
theorem dX11_pairs_112 : decode cX11_pairs 112 = .ok (.iload_n 2, 1) := by decide +kernel
theorem dX11_pairs_113 : decode cX11_pairs 113 = .ok (.iaload, 1) := by decide +kernel
theorem dX11_pairs_114 : decode cX11_pairs 114 = .ok (.putfield 276, 3) := by decide +kernel
theorem dX11_pairs_117 : decode cX11_pairs 117 = .ok (.aload_n 0, 1) := by decide +kernel
theorem dX11_pairs_118 : decode cX11_pairs 118 = .ok (.getfield 279, 3) := by decide +kernel
theorem dX11_pairs_121 : decode cX11_pairs 121 = .ok (.iconst (-1), 1) := by decide +kernel
theorem dX11_pairs_122 : decode cX11_pairs 122 = .ok (.if_icmp .ne 32, 3) := by decide +kernel
theorem dX11_pairs_125 : decode cX11_pairs 125 = .ok (.aload_n 0, 1) := by decide +kernel
theorem dX11_pairs_126 : decode cX11_pairs 126 = .ok (.iconst 0, 1) := by decide +kernel
theorem dX11_pairs_127 : decode cX11_pairs 127 = .ok (.iload_n 3, 1) := by decide +kernel
theorem dX11_pairs_128 : decode cX11_pairs 128 = .ok (.invokevirtual 257, 3) := by decide +kernel
theorem dX11_pairs_131 : decode cX11_pairs 131 = .ok (.ifCond .eq 23, 3) := by decide +kernel
theorem dX11_pairs_134 : decode cX11_pairs 134 = .ok (.aload_n 0, 1) := by decide +kernel
theorem dX11_pairs_135 : decode cX11_pairs 135 = .ok (.iconst 1, 1) := by decide +kernel
theorem dX11_pairs_136 : decode cX11_pairs 136 = .ok (.iload 4, 2) := by decide +kernel
theorem dX11_pairs_138 : decode cX11_pairs 138 = .ok (.invokevirtual 257, 3) := by decide +kernel
theorem dX11_pairs_141 : decode cX11_pairs 141 = .ok (.ifCond .eq 13, 3) := by decide +kernel
theorem dX11_pairs_144 : decode cX11_pairs 144 = .ok (.aload_n 0, 1) := by decide +kernel
theorem dX11_pairs_145 : decode cX11_pairs 145 = .ok (.aload_n 0, 1) := by decide +kernel
theorem dX11_pairs_146 : decode cX11_pairs 146 = .ok (.getfield 54, 3) := by decide +kernel
theorem dX11_pairs_149 : decode cX11_pairs 149 = .ok (.iload_n 2, 1) := by decide +kernel
theorem dX11_pairs_150 : decode cX11_pairs 150 = .ok (.iaload, 1) := by decide +kernel
theorem dX11_pairs_151 : decode cX11_pairs 151 = .ok (.putfield 279, 3) := by decide +kernel
theorem dX11_pairs_154 : decode cX11_pairs 154 = .ok (.iconst 0, 1) := by decide +kernel
theorem dX11_pairs_155 : decode cX11_pairs 155 = .ok (.istore 5, 2) := by decide +kernel
theorem dX11_pairs_157 : decode cX11_pairs 157 = .ok (.iload 5, 2) := by decide +kernel
theorem dX11_pairs_159 : decode cX11_pairs 159 = .ok (.bipush 6, 2) := by decide +kernel
theorem dX11_pairs_161 : decode cX11_pairs 161 = .ok (.if_icmp .ge 96, 3) := by decide +kernel
theorem dX11_pairs_164 : decode cX11_pairs 164 = .ok (.bipush 60, 2) := by decide +kernel
theorem dX11_pairs_166 : decode cX11_pairs 166 = .ok (.aload_n 0, 1) := by decide +kernel
theorem dX11_pairs_167 : decode cX11_pairs 167 = .ok (.iconst 0, 1) := by decide +kernel
theorem dX11_pairs_168 : decode cX11_pairs 168 = .ok (.iload_n 3, 1) := by decide +kernel
theorem dX11_pairs_169 : decode cX11_pairs 169 = .ok (.iload 5, 2) := by decide +kernel
theorem dX11_pairs_171 : decode cX11_pairs 171 = .ok (.invokevirtual 231, 3) := by decide +kernel
theorem dX11_pairs_174 : decode cX11_pairs 174 = .ok (.imul, 1) := by decide +kernel
theorem dX11_pairs_175 : decode cX11_pairs 175 = .ok (.aload_n 0, 1) := by decide +kernel
theorem dX11_pairs_176 : decode cX11_pairs 176 = .ok (.iconst 1, 1) := by decide +kernel
theorem dX11_pairs_177 : decode cX11_pairs 177 = .ok (.iload 4, 2) := by decide +kernel
theorem dX11_pairs_179 : decode cX11_pairs 179 = .ok (.iload 5, 2) := by decide +kernel
theorem dX11_pairs_181 : decode cX11_pairs 181 = .ok (.invokevirtual 231, 3) := by decide +kernel
theorem dX11_pairs_184 : decode cX11_pairs 184 = .ok (.iadd, 1) := by decide +kernel
theorem dX11_pairs_185 : decode cX11_pairs 185 = .ok (.istore 6, 2) := by decide +kernel
theorem dX11_pairs_187 : decode cX11_pairs 187 = .ok (.aload_n 0, 1) := by decide +kernel
theorem dX11_pairs_188 : decode cX11_pairs 188 = .ok (.getfield 63, 3) := by decide +kernel
theorem dX11_pairs_191 : decode cX11_pairs 191 = .ok (.iload 6, 2) := by decide +kernel
theorem dX11_pairs_193 : decode cX11_pairs 193 = .ok (.iaload, 1) := by decide +kernel
theorem dX11_pairs_194 : decode cX11_pairs 194 = .ok (.iconst (-1), 1) := by decide +kernel
theorem dX11_pairs_195 : decode cX11_pairs 195 = .ok (.if_icmp .ne 56, 3) := by decide +kernel
theorem dX11_pairs_198 : decode cX11_pairs 198 = .ok (.aload_n 0, 1) := by decide +kernel
theorem dX11_pairs_199 : decode cX11_pairs 199 = .ok (.getfield 63, 3) := by decide +kernel
theorem dX11_pairs_202 : decode cX11_pairs 202 = .ok (.iload 6, 2) := by decide +kernel
theorem dX11_pairs_204 : decode cX11_pairs 204 = .ok (.aload_n 0, 1) := by decide +kernel
theorem dX11_pairs_205 : decode cX11_pairs 205 = .ok (.getfield 63, 3) := by decide +kernel
theorem dX11_pairs_208 : decode cX11_pairs 208 = .ok (.aload_n 0, 1) := by decide +kernel
theorem dX11_pairs_209 : decode cX11_pairs 209 = .ok (.getfield 54, 3) := by decide +kernel
theorem dX11_pairs_212 : decode cX11_pairs 212 = .ok (.iload_n 2, 1) := by decide +kernel
theorem dX11_pairs_213 : decode cX11_pairs 213 = .ok (.iaload, 1) := by decide +kernel
theorem dX11_pairs_214 : decode cX11_pairs 214 = .ok (.iaload, 1) := by decide +kernel
theorem dX11_pairs_215 : decode cX11_pairs 215 = .ok (.iconst 1, 1) := by decide +kernel
theorem dX11_pairs_216 : decode cX11_pairs 216 = .ok (.iadd, 1) := by decide +kernel
theorem dX11_pairs_217 : decode cX11_pairs 217 = .ok (.iastore, 1) := by decide +kernel
theorem dX11_pairs_218 : decode cX11_pairs 218 = .ok (.aload_n 0, 1) := by decide +kernel
theorem dX11_pairs_219 : decode cX11_pairs 219 = .ok (.getfield 57, 3) := by decide +kernel
theorem dX11_pairs_222 : decode cX11_pairs 222 = .ok (.iload 6, 2) := by decide +kernel
theorem dX11_pairs_224 : decode cX11_pairs 224 = .ok (.aload_n 0, 1) := by decide +kernel
theorem dX11_pairs_225 : decode cX11_pairs 225 = .ok (.getfield 54, 3) := by decide +kernel
theorem dX11_pairs_228 : decode cX11_pairs 228 = .ok (.iload_n 2, 1) := by decide +kernel
theorem dX11_pairs_229 : decode cX11_pairs 229 = .ok (.iaload, 1) := by decide +kernel
theorem dX11_pairs_230 : decode cX11_pairs 230 = .ok (.iastore, 1) := by decide +kernel
theorem dX11_pairs_231 : decode cX11_pairs 231 = .ok (.aload_n 0, 1) := by decide +kernel
theorem dX11_pairs_232 : decode cX11_pairs 232 = .ok (.getfield 60, 3) := by decide +kernel
theorem dX11_pairs_235 : decode cX11_pairs 235 = .ok (.iload 6, 2) := by decide +kernel
theorem dX11_pairs_237 : decode cX11_pairs 237 = .ok (.iload 5, 2) := by decide +kernel
theorem dX11_pairs_239 : decode cX11_pairs 239 = .ok (.iastore, 1) := by decide +kernel
theorem dX11_pairs_240 : decode cX11_pairs 240 = .ok (.aload_n 0, 1) := by decide +kernel
theorem dX11_pairs_241 : decode cX11_pairs 241 = .ok (.getfield 54, 3) := by decide +kernel
theorem dX11_pairs_244 : decode cX11_pairs 244 = .ok (.iload_n 1, 1) := by decide +kernel
theorem dX11_pairs_245 : decode cX11_pairs 245 = .ok (.iload 6, 2) := by decide +kernel
theorem dX11_pairs_247 : decode cX11_pairs 247 = .ok (.iastore, 1) := by decide +kernel
theorem dX11_pairs_248 : decode cX11_pairs 248 = .ok (.iinc 1 1, 3) := by decide +kernel
theorem dX11_pairs_251 : decode cX11_pairs 251 = .ok (.iinc 5 1, 3) := by decide +kernel
theorem dX11_pairs_254 : decode cX11_pairs 254 = .ok (.goto (-97), 3) := by decide +kernel
theorem dX11_pairs_257 : decode cX11_pairs 257 = .ok (.iinc 2 1, 3) := by decide +kernel
theorem dX11_pairs_260 : decode cX11_pairs 260 = .ok (.goto (-203), 3) := by decide +kernel
theorem dX11_pairs_263 : decode cX11_pairs 263 = .ok (.iload_n 1, 1) := by decide +kernel
theorem dX11_pairs_264 : decode cX11_pairs 264 = .ok (.ireturn, 1) := by decide +kernel
theorem dX11_isSubset_0 : decode cX11_isSubset 0 = .ok (.aload_n 0, 1) := by decide +kernel
theorem dX11_isSubset_1 : decode cX11_isSubset 1 = .ok (.iload_n 1, 1) := by decide +kernel
theorem dX11_isSubset_2 : decode cX11_isSubset 2 = .ok (.invokestatic 112, 3) := by decide +kernel
theorem dX11_isSubset_5 : decode cX11_isSubset 5 = .ok (.ifCond .ne 7, 3) := by decide +kernel
theorem dX11_isSubset_8 : decode cX11_isSubset 8 = .ok (.iconst 1, 1) := by decide +kernel
theorem dX11_isSubset_9 : decode cX11_isSubset 9 = .ok (.goto 4, 3) := by decide +kernel
theorem dX11_isSubset_12 : decode cX11_isSubset 12 = .ok (.iconst 0, 1) := by decide +kernel
theorem dX11_isSubset_13 : decode cX11_isSubset 13 = .ok (.invokevirtual 209, 3) := by decide +kernel
theorem dX11_isSubset_16 : decode cX11_isSubset 16 = .ok (.ifCond .eq 5, 3) := by decide +kernel
theorem dX11_isSubset_19 : decode cX11_isSubset 19 = .ok (.iconst 0, 1) := by decide +kernel
theorem dX11_isSubset_20 : decode cX11_isSubset 20 = .ok (.ireturn, 1) := by decide +kernel
theorem dX11_isSubset_21 : decode cX11_isSubset 21 = .ok (.aload_n 0, 1) := by decide +kernel
theorem dX11_isSubset_22 : decode cX11_isSubset 22 = .ok (.invokevirtual 282, 3) := by decide +kernel
theorem dX11_isSubset_25 : decode cX11_isSubset 25 = .ok (.istore_n 2, 1) := by decide +kernel
theorem dX11_isSubset_26 : decode cX11_isSubset 26 = .ok (.iconst 0, 1) := by decide +kernel
theorem dX11_isSubset_27 : decode cX11_isSubset 27 = .ok (.istore_n 3, 1) := by decide +kernel
theorem dX11_isSubset_28 : decode cX11_isSubset 28 = .ok (.iload_n 3, 1) := by decide +kernel
theorem dX11_isSubset_29 : decode cX11_isSubset 29 = .ok (.iload_n 2, 1) := by decide +kernel
theorem dX11_isSubset_30 : decode cX11_isSubset 30 = .ok (.if_icmp .ge 70, 3) := by decide +kernel
theorem dX11_isSubset_33 : decode cX11_isSubset 33 = .ok (.aload_n 0, 1) := by decide +kernel
theorem dX11_isSubset_34 : decode cX11_isSubset 34 = .ok (.iconst 0, 1) := by decide +kernel
theorem dX11_isSubset_35 : decode cX11_isSubset 35 = .ok (.aload_n 0, 1) := by decide +kernel
theorem dX11_isSubset_36 : decode cX11_isSubset 36 = .ok (.getfield 54, 3) := by decide +kernel
theorem dX11_isSubset_39 : decode cX11_isSubset 39 = .ok (.iload_n 3, 1) := by decide +kernel
theorem dX11_isSubset_40 : decode cX11_isSubset 40 = .ok (.iaload, 1) := by decide +kernel
theorem dX11_isSubset_41 : decode cX11_isSubset 41 = .ok (.bipush 60, 2) := by decide +kernel
theorem dX11_isSubset_43 : decode cX11_isSubset 43 = .ok (.idiv, 1) := by decide +kernel
theorem dX11_isSubset_44 : decode cX11_isSubset 44 = .ok (.invokevirtual 257, 3) := by decide +kernel
theorem dX11_isSubset_47 : decode cX11_isSubset 47 = .ok (.istore 4, 2) := by decide +kernel
theorem dX11_isSubset_49 : decode cX11_isSubset 49 = .ok (.aload_n 0, 1) := by decide +kernel
theorem dX11_isSubset_50 : decode cX11_isSubset 50 = .ok (.iconst 1, 1) := by decide +kernel
theorem dX11_isSubset_51 : decode cX11_isSubset 51 = .ok (.aload_n 0, 1) := by decide +kernel
theorem dX11_isSubset_52 : decode cX11_isSubset 52 = .ok (.getfield 54, 3) := by decide +kernel
theorem dX11_isSubset_55 : decode cX11_isSubset 55 = .ok (.iload_n 3, 1) := by decide +kernel
theorem dX11_isSubset_56 : decode cX11_isSubset 56 = .ok (.iaload, 1) := by decide +kernel
theorem dX11_isSubset_57 : decode cX11_isSubset 57 = .ok (.bipush 60, 2) := by decide +kernel
theorem dX11_isSubset_59 : decode cX11_isSubset 59 = .ok (.irem, 1) := by decide +kernel
theorem dX11_isSubset_60 : decode cX11_isSubset 60 = .ok (.invokevirtual 257, 3) := by decide +kernel
theorem dX11_isSubset_63 : decode cX11_isSubset 63 = .ok (.istore 5, 2) := by decide +kernel
theorem dX11_isSubset_65 : decode cX11_isSubset 65 = .ok (.iload_n 1, 1) := by decide +kernel
theorem dX11_isSubset_66 : decode cX11_isSubset 66 = .ok (.ifCond .ne 16, 3) := by decide +kernel
theorem dX11_isSubset_69 : decode cX11_isSubset 69 = .ok (.iload 4, 2) := by decide +kernel
theorem dX11_isSubset_71 : decode cX11_isSubset 71 = .ok (.ifCond .eq 23, 3) := by decide +kernel
theorem dX11_isSubset_74 : decode cX11_isSubset 74 = .ok (.iload 5, 2) := by decide +kernel
theorem dX11_isSubset_76 : decode cX11_isSubset 76 = .ok (.ifCond .ne 18, 3) := by decide +kernel
theorem dX11_isSubset_79 : decode cX11_isSubset 79 = .ok (.goto 13, 3) := by decide +kernel
theorem dX11_isSubset_82 : decode cX11_isSubset 82 = .ok (.iload 5, 2) := by decide +kernel
theorem dX11_isSubset_84 : decode cX11_isSubset 84 = .ok (.ifCond .eq 10, 3) := by decide +kernel
theorem dX11_isSubset_87 : decode cX11_isSubset 87 = .ok (.iload 4, 2) := by decide +kernel
theorem dX11_isSubset_89 : decode cX11_isSubset 89 = .ok (.ifCond .ne 5, 3) := by decide +kernel
theorem dX11_isSubset_92 : decode cX11_isSubset 92 = .ok (.iconst 0, 1) := by decide +kernel
theorem dX11_isSubset_93 : decode cX11_isSubset 93 = .ok (.ireturn, 1) := by decide +kernel
theorem dX11_isSubset_94 : decode cX11_isSubset 94 = .ok (.iinc 3 1, 3) := by decide +kernel
theorem dX11_isSubset_97 : decode cX11_isSubset 97 = .ok (.goto (-69), 3) := by decide +kernel
theorem dX11_isSubset_100 : decode cX11_isSubset 100 = .ok (.iconst 1, 1) := by decide +kernel
theorem dX11_isSubset_101 : decode cX11_isSubset 101 = .ok (.ireturn, 1) := by decide +kernel
theorem dX11_differenceLength_0 : decode cX11_differenceLength 0 = .ok (.aload_n 0, 1) := by decide +kernel
theorem dX11_differenceLength_1 : decode cX11_differenceLength 1 = .ok (.iconst 0, 1) := by decide +kernel
theorem dX11_differenceLength_2 : decode cX11_differenceLength 2 = .ok (.putfield 95, 3) := by decide +kernel
theorem dX11_differenceLength_5 : decode cX11_differenceLength 5 = .ok (.aload_n 0, 1) := by decide +kernel
theorem dX11_differenceLength_6 : decode cX11_differenceLength 6 = .ok (.invokevirtual 282, 3) := by decide +kernel
theorem dX11_differenceLength_9 : decode cX11_differenceLength 9 = .ok (.pop, 1) := by decide +kernel
theorem dX11_differenceLength_10 : decode cX11_differenceLength 10 = .ok (.aload_n 0, 1) := by decide +kernel
theorem dX11_differenceLength_11 : decode cX11_differenceLength 11 = .ok (.getfield 276, 3) := by decide +kernel
theorem dX11_differenceLength_14 : decode cX11_differenceLength 14 = .ok (.iconst (-1), 1) := by decide +kernel
theorem dX11_differenceLength_15 : decode cX11_differenceLength 15 = .ok (.if_icmp .ne 7, 3) := by decide +kernel
theorem dX11_differenceLength_18 : decode cX11_differenceLength 18 = .ok (.iconst (-1), 1) := by decide +kernel
theorem dX11_differenceLength_19 : decode cX11_differenceLength 19 = .ok (.goto 12, 3) := by decide +kernel
theorem dX11_differenceLength_22 : decode cX11_differenceLength 22 = .ok (.aload_n 0, 1) := by decide +kernel
theorem dX11_differenceLength_23 : decode cX11_differenceLength 23 = .ok (.getfield 63, 3) := by decide +kernel
theorem dX11_differenceLength_26 : decode cX11_differenceLength 26 = .ok (.aload_n 0, 1) := by decide +kernel
theorem dX11_differenceLength_27 : decode cX11_differenceLength 27 = .ok (.getfield 276, 3) := by decide +kernel
theorem dX11_differenceLength_30 : decode cX11_differenceLength 30 = .ok (.iaload, 1) := by decide +kernel
theorem dX11_differenceLength_31 : decode cX11_differenceLength 31 = .ok (.ireturn, 1) := by decide +kernel
theorem dX11_sharedLength_0 : decode cX11_sharedLength 0 = .ok (.aload_n 0, 1) := by decide +kernel
theorem dX11_sharedLength_1 : decode cX11_sharedLength 1 = .ok (.iconst 0, 1) := by decide +kernel
theorem dX11_sharedLength_2 : decode cX11_sharedLength 2 = .ok (.putfield 95, 3) := by decide +kernel
theorem dX11_sharedLength_5 : decode cX11_sharedLength 5 = .ok (.aload_n 0, 1) := by decide +kernel
theorem dX11_sharedLength_6 : decode cX11_sharedLength 6 = .ok (.invokevirtual 282, 3) := by decide +kernel
theorem dX11_sharedLength_9 : decode cX11_sharedLength 9 = .ok (.pop, 1) := by decide +kernel
theorem dX11_sharedLength_10 : decode cX11_sharedLength 10 = .ok (.aload_n 0, 1) := by decide +kernel
theorem dX11_sharedLength_11 : decode cX11_sharedLength 11 = .ok (.getfield 279, 3) := by decide +kernel
theorem dX11_sharedLength_14 : decode cX11_sharedLength 14 = .ok (.iconst (-1), 1) := by decide +kernel
theorem dX11_sharedLength_15 : decode cX11_sharedLength 15 = .ok (.if_icmp .ne 7, 3) := by decide +kernel
theorem dX11_sharedLength_18 : decode cX11_sharedLength 18 = .ok (.iconst (-1), 1) := by decide +kernel
theorem dX11_sharedLength_19 : decode cX11_sharedLength 19 = .ok (.goto 12, 3) := by decide +kernel
theorem dX11_sharedLength_22 : decode cX11_sharedLength 22 = .ok (.aload_n 0, 1) := by decide +kernel
theorem dX11_sharedLength_23 : decode cX11_sharedLength 23 = .ok (.getfield 63, 3) := by decide +kernel
theorem dX11_sharedLength_26 : decode cX11_sharedLength 26 = .ok (.aload_n 0, 1) := by decide +kernel
theorem dX11_sharedLength_27 : decode cX11_sharedLength 27 = .ok (.getfield 279, 3) := by decide +kernel
theorem dX11_sharedLength_30 : decode cX11_sharedLength 30 = .ok (.iaload, 1) := by decide +kernel
theorem dX11_sharedLength_31 : decode cX11_sharedLength 31 = .ok (.ireturn, 1) := by decide +kernel
theorem dX11_reachablePairs_0 : decode cX11_reachablePairs 0 = .ok (.aload_n 0, 1) := by decide +kernel
theorem dX11_reachablePairs_1 : decode cX11_reachablePairs 1 = .ok (.iconst 0, 1) := by decide +kernel
theorem dX11_reachablePairs_2 : decode cX11_reachablePairs 2 = .ok (.putfield 95, 3) := by decide +kernel
theorem dX11_reachablePairs_5 : decode cX11_reachablePairs 5 = .ok (.aload_n 0, 1) := by decide +kernel
theorem dX11_reachablePairs_6 : decode cX11_reachablePairs 6 = .ok (.invokevirtual 282, 3) := by decide +kernel
theorem dX11_reachablePairs_9 : decode cX11_reachablePairs 9 = .ok (.ireturn, 1) := by decide +kernel
theorem dX11_isPassable_0 : decode cX11_isPassable 0 = .ok (.aload_n 0, 1) := by decide +kernel
theorem dX11_isPassable_1 : decode cX11_isPassable 1 = .ok (.iload_n 1, 1) := by decide +kernel
theorem dX11_isPassable_2 : decode cX11_isPassable 2 = .ok (.invokestatic 234, 3) := by decide +kernel
theorem dX11_isPassable_5 : decode cX11_isPassable 5 = .ok (.ifCond .ne 7, 3) := by decide +kernel
theorem dX11_isPassable_8 : decode cX11_isPassable 8 = .ok (.iconst 1, 1) := by decide +kernel
theorem dX11_isPassable_9 : decode cX11_isPassable 9 = .ok (.goto 4, 3) := by decide +kernel
theorem dX11_isPassable_12 : decode cX11_isPassable 12 = .ok (.iconst 0, 1) := by decide +kernel
theorem dX11_isPassable_13 : decode cX11_isPassable 13 = .ok (.invokevirtual 209, 3) := by decide +kernel
theorem dX11_isPassable_16 : decode cX11_isPassable 16 = .ok (.ifCond .ne 15, 3) := by decide +kernel
theorem dX11_isPassable_19 : decode cX11_isPassable 19 = .ok (.aload_n 0, 1) := by decide +kernel
theorem dX11_isPassable_20 : decode cX11_isPassable 20 = .ok (.iload_n 1, 1) := by decide +kernel
theorem dX11_isPassable_21 : decode cX11_isPassable 21 = .ok (.invokevirtual 237, 3) := by decide +kernel
theorem dX11_isPassable_24 : decode cX11_isPassable 24 = .ok (.ifCond .eq 7, 3) := by decide +kernel
theorem dX11_isPassable_27 : decode cX11_isPassable 27 = .ok (.iconst 1, 1) := by decide +kernel
theorem dX11_isPassable_28 : decode cX11_isPassable 28 = .ok (.goto 4, 3) := by decide +kernel
theorem dX11_isPassable_31 : decode cX11_isPassable 31 = .ok (.iconst 0, 1) := by decide +kernel
theorem dX11_isPassable_32 : decode cX11_isPassable 32 = .ok (.ireturn, 1) := by decide +kernel
theorem dX11_isNight_0 : decode cX11_isNight 0 = .ok (.aload_n 0, 1) := by decide +kernel
theorem dX11_isNight_1 : decode cX11_isNight 1 = .ok (.iconst 0, 1) := by decide +kernel
theorem dX11_isNight_2 : decode cX11_isNight 2 = .ok (.putfield 95, 3) := by decide +kernel
theorem dX11_isNight_5 : decode cX11_isNight 5 = .ok (.aload_n 0, 1) := by decide +kernel
theorem dX11_isNight_6 : decode cX11_isNight 6 = .ok (.getfield 7, 3) := by decide +kernel
theorem dX11_isNight_9 : decode cX11_isNight 9 = .ok (.sipush 983, 3) := by decide +kernel
theorem dX11_isNight_12 : decode cX11_isNight 12 = .ok (.iaload, 1) := by decide +kernel
theorem dX11_isNight_13 : decode cX11_isNight 13 = .ok (.iconst 1, 1) := by decide +kernel
theorem dX11_isNight_14 : decode cX11_isNight 14 = .ok (.if_icmp .ne 7, 3) := by decide +kernel
theorem dX11_isNight_17 : decode cX11_isNight 17 = .ok (.iconst 1, 1) := by decide +kernel
theorem dX11_isNight_18 : decode cX11_isNight 18 = .ok (.goto 4, 3) := by decide +kernel
theorem dX11_isNight_21 : decode cX11_isNight 21 = .ok (.iconst 0, 1) := by decide +kernel
theorem dX11_isNight_22 : decode cX11_isNight 22 = .ok (.ireturn, 1) := by decide +kernel
theorem dX11_walkerCount_0 : decode cX11_walkerCount 0 = .ok (.aload_n 0, 1) := by decide +kernel
theorem dX11_walkerCount_1 : decode cX11_walkerCount 1 = .ok (.iconst 0, 1) := by decide +kernel
theorem dX11_walkerCount_2 : decode cX11_walkerCount 2 = .ok (.putfield 95, 3) := by decide +kernel
theorem dX11_walkerCount_5 : decode cX11_walkerCount 5 = .ok (.aload_n 0, 1) := by decide +kernel
theorem dX11_walkerCount_6 : decode cX11_walkerCount 6 = .ok (.getfield 7, 3) := by decide +kernel
theorem dX11_walkerCount_9 : decode cX11_walkerCount 9 = .ok (.sipush 952, 3) := by decide +kernel
theorem dX11_walkerCount_12 : decode cX11_walkerCount 12 = .ok (.iaload, 1) := by decide +kernel
theorem dX11_walkerCount_13 : decode cX11_walkerCount 13 = .ok (.ireturn, 1) := by decide +kernel
theorem dX11_walkerTold_0 : decode cX11_walkerTold 0 = .ok (.aload_n 0, 1) := by decide +kernel
theorem dX11_walkerTold_1 : decode cX11_walkerTold 1 = .ok (.aload_n 0, 1) := by decide +kernel
theorem dX11_walkerTold_2 : decode cX11_walkerTold 2 = .ok (.iload_n 1, 1) := by decide +kernel
theorem dX11_walkerTold_3 : decode cX11_walkerTold 3 = .ok (.invokevirtual 228, 3) := by decide +kernel
theorem dX11_walkerTold_6 : decode cX11_walkerTold 6 = .ok (.ifCond .ne 7, 3) := by decide +kernel
theorem dX11_walkerTold_9 : decode cX11_walkerTold 9 = .ok (.iconst 1, 1) := by decide +kernel
theorem dX11_walkerTold_10 : decode cX11_walkerTold 10 = .ok (.goto 4, 3) := by decide +kernel
theorem dX11_walkerTold_13 : decode cX11_walkerTold 13 = .ok (.iconst 0, 1) := by decide +kernel
theorem dX11_walkerTold_14 : decode cX11_walkerTold 14 = .ok (.invokevirtual 209, 3) := by decide +kernel
theorem dX11_walkerTold_17 : decode cX11_walkerTold 17 = .ok (.ifCond .eq 7, 3) := by decide +kernel
theorem dX11_walkerTold_20 : decode cX11_walkerTold 20 = .ok (.iconst 0, 1) := by decide +kernel
theorem dX11_walkerTold_21 : decode cX11_walkerTold 21 = .ok (.goto 9, 3) := by decide +kernel
theorem dX11_walkerTold_24 : decode cX11_walkerTold 24 = .ok (.aload_n 0, 1) := by decide +kernel
theorem dX11_walkerTold_25 : decode cX11_walkerTold 25 = .ok (.iload_n 1, 1) := by decide +kernel
theorem dX11_walkerTold_26 : decode cX11_walkerTold 26 = .ok (.iload_n 2, 1) := by decide +kernel
theorem dX11_walkerTold_27 : decode cX11_walkerTold 27 = .ok (.invokevirtual 190, 3) := by decide +kernel
theorem dX11_walkerTold_30 : decode cX11_walkerTold 30 = .ok (.ireturn, 1) := by decide +kernel
theorem dX11_walkerSlot_0 : decode cX11_walkerSlot 0 = .ok (.aload_n 0, 1) := by decide +kernel
theorem dX11_walkerSlot_1 : decode cX11_walkerSlot 1 = .ok (.iload_n 1, 1) := by decide +kernel
theorem dX11_walkerSlot_2 : decode cX11_walkerSlot 2 = .ok (.iconst 0, 1) := by decide +kernel
theorem dX11_walkerSlot_3 : decode cX11_walkerSlot 3 = .ok (.invokevirtual 285, 3) := by decide +kernel
theorem dX11_walkerSlot_6 : decode cX11_walkerSlot 6 = .ok (.ireturn, 1) := by decide +kernel
theorem dX11_walkerState_0 : decode cX11_walkerState 0 = .ok (.aload_n 0, 1) := by decide +kernel
theorem dX11_walkerState_1 : decode cX11_walkerState 1 = .ok (.iload_n 1, 1) := by decide +kernel
theorem dX11_walkerState_2 : decode cX11_walkerState 2 = .ok (.iconst 1, 1) := by decide +kernel
theorem dX11_walkerState_3 : decode cX11_walkerState 3 = .ok (.invokevirtual 285, 3) := by decide +kernel
theorem dX11_walkerState_6 : decode cX11_walkerState 6 = .ok (.ireturn, 1) := by decide +kernel
theorem dX11_walkerSteps_0 : decode cX11_walkerSteps 0 = .ok (.aload_n 0, 1) := by decide +kernel
theorem dX11_walkerSteps_1 : decode cX11_walkerSteps 1 = .ok (.iload_n 1, 1) := by decide +kernel
theorem dX11_walkerSteps_2 : decode cX11_walkerSteps 2 = .ok (.iconst 2, 1) := by decide +kernel
theorem dX11_walkerSteps_3 : decode cX11_walkerSteps 3 = .ok (.invokevirtual 285, 3) := by decide +kernel
theorem dX11_walkerSteps_6 : decode cX11_walkerSteps 6 = .ok (.ireturn, 1) := by decide +kernel
theorem dX11_stepsHome_0 : decode cX11_stepsHome 0 = .ok (.aload_n 0, 1) := by decide +kernel
theorem dX11_stepsHome_1 : decode cX11_stepsHome 1 = .ok (.aload_n 0, 1) := by decide +kernel
theorem dX11_stepsHome_2 : decode cX11_stepsHome 2 = .ok (.iload_n 1, 1) := by decide +kernel
theorem dX11_stepsHome_3 : decode cX11_stepsHome 3 = .ok (.invokevirtual 228, 3) := by decide +kernel
theorem dX11_stepsHome_6 : decode cX11_stepsHome 6 = .ok (.ifCond .ne 7, 3) := by decide +kernel
theorem dX11_stepsHome_9 : decode cX11_stepsHome 9 = .ok (.iconst 1, 1) := by decide +kernel
theorem dX11_stepsHome_10 : decode cX11_stepsHome 10 = .ok (.goto 4, 3) := by decide +kernel
theorem dX11_stepsHome_13 : decode cX11_stepsHome 13 = .ok (.iconst 0, 1) := by decide +kernel
theorem dX11_stepsHome_14 : decode cX11_stepsHome 14 = .ok (.invokevirtual 209, 3) := by decide +kernel
theorem dX11_stepsHome_17 : decode cX11_stepsHome 17 = .ok (.ifCond .eq 7, 3) := by decide +kernel
theorem dX11_stepsHome_20 : decode cX11_stepsHome 20 = .ok (.iconst 0, 1) := by decide +kernel
theorem dX11_stepsHome_21 : decode cX11_stepsHome 21 = .ok (.goto 20, 3) := by decide +kernel
theorem dX11_stepsHome_24 : decode cX11_stepsHome 24 = .ok (.aload_n 0, 1) := by decide +kernel
theorem dX11_stepsHome_25 : decode cX11_stepsHome 25 = .ok (.aload_n 0, 1) := by decide +kernel
theorem dX11_stepsHome_26 : decode cX11_stepsHome 26 = .ok (.iload_n 1, 1) := by decide +kernel
theorem dX11_stepsHome_27 : decode cX11_stepsHome 27 = .ok (.iconst 0, 1) := by decide +kernel
theorem dX11_stepsHome_28 : decode cX11_stepsHome 28 = .ok (.invokevirtual 190, 3) := by decide +kernel
theorem dX11_stepsHome_31 : decode cX11_stepsHome 31 = .ok (.aload_n 0, 1) := by decide +kernel
theorem dX11_stepsHome_32 : decode cX11_stepsHome 32 = .ok (.iload_n 1, 1) := by decide +kernel
theorem dX11_stepsHome_33 : decode cX11_stepsHome 33 = .ok (.iconst 1, 1) := by decide +kernel
theorem dX11_stepsHome_34 : decode cX11_stepsHome 34 = .ok (.invokevirtual 190, 3) := by decide +kernel
theorem dX11_stepsHome_37 : decode cX11_stepsHome 37 = .ok (.iconst 1, 1) := by decide +kernel
theorem dX11_stepsHome_38 : decode cX11_stepsHome 38 = .ok (.invokevirtual 260, 3) := by decide +kernel
theorem dX11_stepsHome_41 : decode cX11_stepsHome 41 = .ok (.ireturn, 1) := by decide +kernel
theorem dX11_streetHome_0 : decode cX11_streetHome 0 = .ok (.aload_n 0, 1) := by decide +kernel
theorem dX11_streetHome_1 : decode cX11_streetHome 1 = .ok (.aload_n 0, 1) := by decide +kernel
theorem dX11_streetHome_2 : decode cX11_streetHome 2 = .ok (.iload_n 1, 1) := by decide +kernel
theorem dX11_streetHome_3 : decode cX11_streetHome 3 = .ok (.invokevirtual 228, 3) := by decide +kernel
theorem dX11_streetHome_6 : decode cX11_streetHome 6 = .ok (.ifCond .ne 7, 3) := by decide +kernel
theorem dX11_streetHome_9 : decode cX11_streetHome 9 = .ok (.iconst 1, 1) := by decide +kernel
theorem dX11_streetHome_10 : decode cX11_streetHome 10 = .ok (.goto 4, 3) := by decide +kernel
theorem dX11_streetHome_13 : decode cX11_streetHome 13 = .ok (.iconst 0, 1) := by decide +kernel
theorem dX11_streetHome_14 : decode cX11_streetHome 14 = .ok (.invokevirtual 209, 3) := by decide +kernel
theorem dX11_streetHome_17 : decode cX11_streetHome 17 = .ok (.ifCond .eq 5, 3) := by decide +kernel
theorem dX11_streetHome_20 : decode cX11_streetHome 20 = .ok (.iconst 0, 1) := by decide +kernel
theorem dX11_streetHome_21 : decode cX11_streetHome 21 = .ok (.ireturn, 1) := by decide +kernel
theorem dX11_streetHome_22 : decode cX11_streetHome 22 = .ok (.aload_n 0, 1) := by decide +kernel
theorem dX11_streetHome_23 : decode cX11_streetHome 23 = .ok (.iload_n 1, 1) := by decide +kernel
theorem dX11_streetHome_24 : decode cX11_streetHome 24 = .ok (.iconst 0, 1) := by decide +kernel
theorem dX11_streetHome_25 : decode cX11_streetHome 25 = .ok (.invokevirtual 190, 3) := by decide +kernel
theorem dX11_streetHome_28 : decode cX11_streetHome 28 = .ok (.istore_n 2, 1) := by decide +kernel
theorem dX11_streetHome_29 : decode cX11_streetHome 29 = .ok (.aload_n 0, 1) := by decide +kernel
theorem dX11_streetHome_30 : decode cX11_streetHome 30 = .ok (.iload_n 1, 1) := by decide +kernel
theorem dX11_streetHome_31 : decode cX11_streetHome 31 = .ok (.iconst 1, 1) := by decide +kernel
theorem dX11_streetHome_32 : decode cX11_streetHome 32 = .ok (.invokevirtual 190, 3) := by decide +kernel
theorem dX11_streetHome_35 : decode cX11_streetHome 35 = .ok (.istore_n 3, 1) := by decide +kernel
theorem dX11_streetHome_36 : decode cX11_streetHome 36 = .ok (.aload_n 0, 1) := by decide +kernel
theorem dX11_streetHome_37 : decode cX11_streetHome 37 = .ok (.iload_n 2, 1) := by decide +kernel
theorem dX11_streetHome_38 : decode cX11_streetHome 38 = .ok (.iload_n 3, 1) := by decide +kernel
theorem dX11_streetHome_39 : decode cX11_streetHome 39 = .ok (.iconst 1, 1) := by decide +kernel
theorem dX11_streetHome_40 : decode cX11_streetHome 40 = .ok (.invokevirtual 260, 3) := by decide +kernel
theorem dX11_streetHome_43 : decode cX11_streetHome 43 = .ok (.istore 4, 2) := by decide +kernel
theorem dX11_streetHome_45 : decode cX11_streetHome 45 = .ok (.iconst 0, 1) := by decide +kernel
theorem dX11_streetHome_46 : decode cX11_streetHome 46 = .ok (.istore 5, 2) := by decide +kernel
theorem dX11_streetHome_48 : decode cX11_streetHome 48 = .ok (.iload 5, 2) := by decide +kernel
theorem dX11_streetHome_50 : decode cX11_streetHome 50 = .ok (.bipush 6, 2) := by decide +kernel
theorem dX11_streetHome_52 : decode cX11_streetHome 52 = .ok (.if_icmp .ge 47, 3) := by decide +kernel
theorem dX11_streetHome_55 : decode cX11_streetHome 55 = .ok (.iload 4, 2) := by decide +kernel
theorem dX11_streetHome_57 : decode cX11_streetHome 57 = .ok (.ifCond .le 42, 3) := by decide +kernel
theorem dX11_streetHome_60 : decode cX11_streetHome 60 = .ok (.aload_n 0, 1) := by decide +kernel
theorem dX11_streetHome_61 : decode cX11_streetHome 61 = .ok (.iload 5, 2) := by decide +kernel
theorem dX11_streetHome_63 : decode cX11_streetHome 63 = .ok (.invokevirtual 237, 3) := by decide +kernel
theorem dX11_streetHome_66 : decode cX11_streetHome 66 = .ok (.ifCond .eq 27, 3) := by decide +kernel
theorem dX11_streetHome_69 : decode cX11_streetHome 69 = .ok (.aload_n 0, 1) := by decide +kernel
theorem dX11_streetHome_70 : decode cX11_streetHome 70 = .ok (.iload_n 2, 1) := by decide +kernel
theorem dX11_streetHome_71 : decode cX11_streetHome 71 = .ok (.aload_n 0, 1) := by decide +kernel
theorem dX11_streetHome_72 : decode cX11_streetHome 72 = .ok (.iload_n 2, 1) := by decide +kernel
theorem dX11_streetHome_73 : decode cX11_streetHome 73 = .ok (.iload_n 3, 1) := by decide +kernel
theorem dX11_streetHome_74 : decode cX11_streetHome 74 = .ok (.iload 5, 2) := by decide +kernel
theorem dX11_streetHome_76 : decode cX11_streetHome 76 = .ok (.invokevirtual 231, 3) := by decide +kernel
theorem dX11_streetHome_79 : decode cX11_streetHome 79 = .ok (.iconst 1, 1) := by decide +kernel
theorem dX11_streetHome_80 : decode cX11_streetHome 80 = .ok (.invokevirtual 260, 3) := by decide +kernel
theorem dX11_streetHome_83 : decode cX11_streetHome 83 = .ok (.iload 4, 2) := by decide +kernel
theorem dX11_streetHome_85 : decode cX11_streetHome 85 = .ok (.iconst 1, 1) := by decide +kernel
theorem dX11_streetHome_86 : decode cX11_streetHome 86 = .ok (.isub, 1) := by decide +kernel
theorem dX11_streetHome_87 : decode cX11_streetHome 87 = .ok (.if_icmp .ne 6, 3) := by decide +kernel
theorem dX11_streetHome_90 : decode cX11_streetHome 90 = .ok (.iload 5, 2) := by decide +kernel
theorem dX11_streetHome_92 : decode cX11_streetHome 92 = .ok (.ireturn, 1) := by decide +kernel
theorem dX11_streetHome_93 : decode cX11_streetHome 93 = .ok (.iinc 5 1, 3) := by decide +kernel
theorem dX11_streetHome_96 : decode cX11_streetHome 96 = .ok (.goto (-48), 3) := by decide +kernel
theorem dX11_streetHome_99 : decode cX11_streetHome 99 = .ok (.iconst (-1), 1) := by decide +kernel
theorem dX11_streetHome_100 : decode cX11_streetHome 100 = .ok (.ireturn, 1) := by decide +kernel
theorem dX11_walkersInState_0 : decode cX11_walkersInState 0 = .ok (.aload_n 0, 1) := by decide +kernel
theorem dX11_walkersInState_1 : decode cX11_walkersInState 1 = .ok (.aload_n 0, 1) := by decide +kernel
theorem dX11_walkersInState_2 : decode cX11_walkersInState 2 = .ok (.iload_n 1, 1) := by decide +kernel
theorem dX11_walkersInState_3 : decode cX11_walkersInState 3 = .ok (.iload_n 2, 1) := by decide +kernel
theorem dX11_walkersInState_4 : decode cX11_walkersInState 4 = .ok (.invokevirtual 254, 3) := by decide +kernel
theorem dX11_walkersInState_7 : decode cX11_walkersInState 7 = .ok (.ifCond .ne 7, 3) := by decide +kernel
theorem dX11_walkersInState_10 : decode cX11_walkersInState 10 = .ok (.iconst 1, 1) := by decide +kernel
theorem dX11_walkersInState_11 : decode cX11_walkersInState 11 = .ok (.goto 4, 3) := by decide +kernel
theorem dX11_walkersInState_14 : decode cX11_walkersInState 14 = .ok (.iconst 0, 1) := by decide +kernel
theorem dX11_walkersInState_15 : decode cX11_walkersInState 15 = .ok (.invokevirtual 209, 3) := by decide +kernel
theorem dX11_walkersInState_18 : decode cX11_walkersInState 18 = .ok (.ifCond .eq 5, 3) := by decide +kernel
theorem dX11_walkersInState_21 : decode cX11_walkersInState 21 = .ok (.iconst 0, 1) := by decide +kernel
theorem dX11_walkersInState_22 : decode cX11_walkersInState 22 = .ok (.ireturn, 1) := by decide +kernel
theorem dX11_walkersInState_23 : decode cX11_walkersInState 23 = .ok (.iconst 0, 1) := by decide +kernel
theorem dX11_walkersInState_24 : decode cX11_walkersInState 24 = .ok (.istore_n 3, 1) := by decide +kernel
theorem dX11_walkersInState_25 : decode cX11_walkersInState 25 = .ok (.iconst 0, 1) := by decide +kernel
theorem dX11_walkersInState_26 : decode cX11_walkersInState 26 = .ok (.istore 4, 2) := by decide +kernel
theorem dX11_walkersInState_28 : decode cX11_walkersInState 28 = .ok (.iload 4, 2) := by decide +kernel
theorem dX11_walkersInState_30 : decode cX11_walkersInState 30 = .ok (.aload_n 0, 1) := by decide +kernel
theorem dX11_walkersInState_31 : decode cX11_walkersInState 31 = .ok (.getfield 7, 3) := by decide +kernel
theorem dX11_walkersInState_34 : decode cX11_walkersInState 34 = .ok (.sipush 952, 3) := by decide +kernel
theorem dX11_walkersInState_37 : decode cX11_walkersInState 37 = .ok (.iaload, 1) := by decide +kernel
theorem dX11_walkersInState_38 : decode cX11_walkersInState 38 = .ok (.if_icmp .ge 39, 3) := by decide +kernel
theorem dX11_walkersInState_41 : decode cX11_walkersInState 41 = .ok (.iload_n 3, 1) := by decide +kernel
theorem dX11_walkersInState_42 : decode cX11_walkersInState 42 = .ok (.aload_n 0, 1) := by decide +kernel
theorem dX11_walkersInState_43 : decode cX11_walkersInState 43 = .ok (.iload 4, 2) := by decide +kernel
theorem dX11_walkersInState_45 : decode cX11_walkersInState 45 = .ok (.iconst 0, 1) := by decide +kernel
theorem dX11_walkersInState_46 : decode cX11_walkersInState 46 = .ok (.invokevirtual 190, 3) := by decide +kernel
theorem dX11_walkersInState_49 : decode cX11_walkersInState 49 = .ok (.iload_n 1, 1) := by decide +kernel
theorem dX11_walkersInState_50 : decode cX11_walkersInState 50 = .ok (.if_icmp .ne 18, 3) := by decide +kernel
theorem dX11_walkersInState_53 : decode cX11_walkersInState 53 = .ok (.aload_n 0, 1) := by decide +kernel
theorem dX11_walkersInState_54 : decode cX11_walkersInState 54 = .ok (.iload 4, 2) := by decide +kernel
theorem dX11_walkersInState_56 : decode cX11_walkersInState 56 = .ok (.iconst 1, 1) := by decide +kernel
theorem dX11_walkersInState_57 : decode cX11_walkersInState 57 = .ok (.invokevirtual 190, 3) := by decide +kernel
theorem dX11_walkersInState_60 : decode cX11_walkersInState 60 = .ok (.iload_n 2, 1) := by decide +kernel
theorem dX11_walkersInState_61 : decode cX11_walkersInState 61 = .ok (.if_icmp .ne 7, 3) := by decide +kernel
theorem dX11_walkersInState_64 : decode cX11_walkersInState 64 = .ok (.iconst 1, 1) := by decide +kernel
theorem dX11_walkersInState_65 : decode cX11_walkersInState 65 = .ok (.goto 4, 3) := by decide +kernel
theorem dX11_walkersInState_68 : decode cX11_walkersInState 68 = .ok (.iconst 0, 1) := by decide +kernel
theorem dX11_walkersInState_69 : decode cX11_walkersInState 69 = .ok (.iadd, 1) := by decide +kernel
theorem dX11_walkersInState_70 : decode cX11_walkersInState 70 = .ok (.istore_n 3, 1) := by decide +kernel
theorem dX11_walkersInState_71 : decode cX11_walkersInState 71 = .ok (.iinc 4 1, 3) := by decide +kernel
theorem dX11_walkersInState_74 : decode cX11_walkersInState 74 = .ok (.goto (-46), 3) := by decide +kernel
theorem dX11_walkersInState_77 : decode cX11_walkersInState 77 = .ok (.iload_n 3, 1) := by decide +kernel
theorem dX11_walkersInState_78 : decode cX11_walkersInState 78 = .ok (.ireturn, 1) := by decide +kernel
theorem dX11_bothHome_0 : decode cX11_bothHome 0 = .ok (.iconst 0, 1) := by decide +kernel
theorem dX11_bothHome_1 : decode cX11_bothHome 1 = .ok (.istore 5, 2) := by decide +kernel
theorem dX11_bothHome_3 : decode cX11_bothHome 3 = .ok (.iload 5, 2) := by decide +kernel
theorem dX11_bothHome_5 : decode cX11_bothHome 5 = .ok (.sipush 3600, 3) := by decide +kernel
theorem dX11_bothHome_8 : decode cX11_bothHome 8 = .ok (.if_icmp .ge 17, 3) := by decide +kernel
theorem dX11_bothHome_11 : decode cX11_bothHome 11 = .ok (.aload_n 0, 1) := by decide +kernel
theorem dX11_bothHome_12 : decode cX11_bothHome 12 = .ok (.getfield 63, 3) := by decide +kernel
theorem dX11_bothHome_15 : decode cX11_bothHome 15 = .ok (.iload 5, 2) := by decide +kernel
theorem dX11_bothHome_17 : decode cX11_bothHome 17 = .ok (.iconst (-1), 1) := by decide +kernel
theorem dX11_bothHome_18 : decode cX11_bothHome 18 = .ok (.iastore, 1) := by decide +kernel
theorem dX11_bothHome_19 : decode cX11_bothHome 19 = .ok (.iinc 5 1, 3) := by decide +kernel
theorem dX11_bothHome_22 : decode cX11_bothHome 22 = .ok (.goto (-19), 3) := by decide +kernel
theorem dX11_bothHome_25 : decode cX11_bothHome 25 = .ok (.aload_n 0, 1) := by decide +kernel
theorem dX11_bothHome_26 : decode cX11_bothHome 26 = .ok (.getfield 54, 3) := by decide +kernel
theorem dX11_bothHome_29 : decode cX11_bothHome 29 = .ok (.iconst 0, 1) := by decide +kernel
theorem dX11_bothHome_30 : decode cX11_bothHome 30 = .ok (.bipush 60, 2) := by decide +kernel
theorem dX11_bothHome_32 : decode cX11_bothHome 32 = .ok (.iload_n 2, 1) := by decide +kernel
theorem dX11_bothHome_33 : decode cX11_bothHome 33 = .ok (.imul, 1) := by decide +kernel
theorem dX11_bothHome_34 : decode cX11_bothHome 34 = .ok (.iload 4, 2) := by decide +kernel
theorem dX11_bothHome_36 : decode cX11_bothHome 36 = .ok (.iadd, 1) := by decide +kernel
theorem dX11_bothHome_37 : decode cX11_bothHome 37 = .ok (.iastore, 1) := by decide +kernel
theorem dX11_bothHome_38 : decode cX11_bothHome 38 = .ok (.aload_n 0, 1) := by decide +kernel
theorem dX11_bothHome_39 : decode cX11_bothHome 39 = .ok (.getfield 63, 3) := by decide +kernel
theorem dX11_bothHome_42 : decode cX11_bothHome 42 = .ok (.aload_n 0, 1) := by decide +kernel
theorem dX11_bothHome_43 : decode cX11_bothHome 43 = .ok (.getfield 54, 3) := by decide +kernel
theorem dX11_bothHome_46 : decode cX11_bothHome 46 = .ok (.iconst 0, 1) := by decide +kernel
theorem dX11_bothHome_47 : decode cX11_bothHome 47 = .ok (.iaload, 1) := by decide +kernel
theorem dX11_bothHome_48 : decode cX11_bothHome 48 = .ok (.iconst 0, 1) := by decide +kernel
theorem dX11_bothHome_49 : decode cX11_bothHome 49 = .ok (.iastore, 1) := by decide +kernel
theorem dX11_bothHome_50 : decode cX11_bothHome 50 = .ok (.iconst 1, 1) := by decide +kernel
theorem dX11_bothHome_51 : decode cX11_bothHome 51 = .ok (.istore 5, 2) := by decide +kernel
theorem dX11_bothHome_53 : decode cX11_bothHome 53 = .ok (.iconst 0, 1) := by decide +kernel
theorem dX11_bothHome_54 : decode cX11_bothHome 54 = .ok (.istore 6, 2) := by decide +kernel
theorem dX11_bothHome_56 : decode cX11_bothHome 56 = .ok (.iload 6, 2) := by decide +kernel
theorem dX11_bothHome_58 : decode cX11_bothHome 58 = .ok (.iload 5, 2) := by decide +kernel
theorem dX11_bothHome_60 : decode cX11_bothHome 60 = .ok (.if_icmp .ge 159, 3) := by decide +kernel
theorem dX11_bothHome_63 : decode cX11_bothHome 63 = .ok (.aload_n 0, 1) := by decide +kernel
theorem dX11_bothHome_64 : decode cX11_bothHome 64 = .ok (.getfield 54, 3) := by decide +kernel
theorem dX11_bothHome_67 : decode cX11_bothHome 67 = .ok (.iload 6, 2) := by decide +kernel
theorem dX11_bothHome_69 : decode cX11_bothHome 69 = .ok (.iaload, 1) := by decide +kernel
theorem dX11_bothHome_70 : decode cX11_bothHome 70 = .ok (.bipush 60, 2) := by decide +kernel
theorem dX11_bothHome_72 : decode cX11_bothHome 72 = .ok (.idiv, 1) := by decide +kernel
theorem dX11_bothHome_73 : decode cX11_bothHome 73 = .ok (.istore 7, 2) := by decide +kernel
theorem dX11_bothHome_75 : decode cX11_bothHome 75 = .ok (.aload_n 0, 1) := by decide +kernel
theorem dX11_bothHome_76 : decode cX11_bothHome 76 = .ok (.getfield 54, 3) := by decide +kernel
theorem dX11_bothHome_79 : decode cX11_bothHome 79 = .ok (.iload 6, 2) := by decide +kernel
theorem dX11_bothHome_81 : decode cX11_bothHome 81 = .ok (.iaload, 1) := by decide +kernel
theorem dX11_bothHome_82 : decode cX11_bothHome 82 = .ok (.bipush 60, 2) := by decide +kernel
theorem dX11_bothHome_84 : decode cX11_bothHome 84 = .ok (.irem, 1) := by decide +kernel
theorem dX11_bothHome_85 : decode cX11_bothHome 85 = .ok (.istore 8, 2) := by decide +kernel
theorem dX11_bothHome_87 : decode cX11_bothHome 87 = .ok (.aload_n 0, 1) := by decide +kernel
theorem dX11_bothHome_88 : decode cX11_bothHome 88 = .ok (.iload_n 1, 1) := by decide +kernel
theorem dX11_bothHome_89 : decode cX11_bothHome 89 = .ok (.iload 7, 2) := by decide +kernel
theorem dX11_bothHome_91 : decode cX11_bothHome 91 = .ok (.invokevirtual 257, 3) := by decide +kernel
theorem dX11_bothHome_94 : decode cX11_bothHome 94 = .ok (.ifCond .eq 26, 3) := by decide +kernel
theorem dX11_bothHome_97 : decode cX11_bothHome 97 = .ok (.aload_n 0, 1) := by decide +kernel
theorem dX11_bothHome_98 : decode cX11_bothHome 98 = .ok (.iload_n 3, 1) := by decide +kernel
theorem dX11_bothHome_99 : decode cX11_bothHome 99 = .ok (.iload 8, 2) := by decide +kernel
theorem dX11_bothHome_101 : decode cX11_bothHome 101 = .ok (.invokevirtual 257, 3) := by decide +kernel
theorem dX11_bothHome_104 : decode cX11_bothHome 104 = .ok (.ifCond .eq 16, 3) := by decide +kernel
theorem dX11_bothHome_107 : decode cX11_bothHome 107 = .ok (.aload_n 0, 1) := by decide +kernel
theorem dX11_bothHome_108 : decode cX11_bothHome 108 = .ok (.getfield 63, 3) := by decide +kernel
theorem dX11_bothHome_111 : decode cX11_bothHome 111 = .ok (.aload_n 0, 1) := by decide +kernel
theorem dX11_bothHome_112 : decode cX11_bothHome 112 = .ok (.getfield 54, 3) := by decide +kernel
theorem dX11_bothHome_115 : decode cX11_bothHome 115 = .ok (.iload 6, 2) := by decide +kernel
theorem dX11_bothHome_117 : decode cX11_bothHome 117 = .ok (.iaload, 1) := by decide +kernel
theorem dX11_bothHome_118 : decode cX11_bothHome 118 = .ok (.iaload, 1) := by decide +kernel
theorem dX11_bothHome_119 : decode cX11_bothHome 119 = .ok (.ireturn, 1) := by decide +kernel
theorem dX11_bothHome_120 : decode cX11_bothHome 120 = .ok (.iconst 0, 1) := by decide +kernel
theorem dX11_bothHome_121 : decode cX11_bothHome 121 = .ok (.istore 9, 2) := by decide +kernel
theorem dX11_bothHome_123 : decode cX11_bothHome 123 = .ok (.iload 9, 2) := by decide +kernel
theorem dX11_bothHome_125 : decode cX11_bothHome 125 = .ok (.bipush 6, 2) := by decide +kernel
theorem dX11_bothHome_127 : decode cX11_bothHome 127 = .ok (.if_icmp .ge 86, 3) := by decide +kernel
theorem dX11_bothHome_130 : decode cX11_bothHome 130 = .ok (.bipush 60, 2) := by decide +kernel
theorem dX11_bothHome_132 : decode cX11_bothHome 132 = .ok (.aload_n 0, 1) := by decide +kernel
theorem dX11_bothHome_133 : decode cX11_bothHome 133 = .ok (.iload_n 1, 1) := by decide +kernel
theorem dX11_bothHome_134 : decode cX11_bothHome 134 = .ok (.iload 7, 2) := by decide +kernel
theorem dX11_bothHome_136 : decode cX11_bothHome 136 = .ok (.iload 9, 2) := by decide +kernel
theorem dX11_bothHome_138 : decode cX11_bothHome 138 = .ok (.invokevirtual 231, 3) := by decide +kernel
theorem dX11_bothHome_141 : decode cX11_bothHome 141 = .ok (.imul, 1) := by decide +kernel
theorem dX11_bothHome_142 : decode cX11_bothHome 142 = .ok (.aload_n 0, 1) := by decide +kernel
theorem dX11_bothHome_143 : decode cX11_bothHome 143 = .ok (.iload_n 3, 1) := by decide +kernel
theorem dX11_bothHome_144 : decode cX11_bothHome 144 = .ok (.iload 8, 2) := by decide +kernel
theorem dX11_bothHome_146 : decode cX11_bothHome 146 = .ok (.iload 9, 2) := by decide +kernel
theorem dX11_bothHome_148 : decode cX11_bothHome 148 = .ok (.invokevirtual 231, 3) := by decide +kernel
theorem dX11_bothHome_151 : decode cX11_bothHome 151 = .ok (.iadd, 1) := by decide +kernel
theorem dX11_bothHome_152 : decode cX11_bothHome 152 = .ok (.istore 10, 2) := by decide +kernel
theorem dX11_bothHome_154 : decode cX11_bothHome 154 = .ok (.aload_n 0, 1) := by decide +kernel
theorem dX11_bothHome_155 : decode cX11_bothHome 155 = .ok (.iload 9, 2) := by decide +kernel
theorem dX11_bothHome_157 : decode cX11_bothHome 157 = .ok (.invokevirtual 237, 3) := by decide +kernel
theorem dX11_bothHome_160 : decode cX11_bothHome 160 = .ok (.ifCond .eq 47, 3) := by decide +kernel
theorem dX11_bothHome_163 : decode cX11_bothHome 163 = .ok (.aload_n 0, 1) := by decide +kernel
theorem dX11_bothHome_164 : decode cX11_bothHome 164 = .ok (.getfield 63, 3) := by decide +kernel
theorem dX11_bothHome_167 : decode cX11_bothHome 167 = .ok (.iload 10, 2) := by decide +kernel
theorem dX11_bothHome_169 : decode cX11_bothHome 169 = .ok (.iaload, 1) := by decide +kernel
theorem dX11_bothHome_170 : decode cX11_bothHome 170 = .ok (.iconst (-1), 1) := by decide +kernel
theorem dX11_bothHome_171 : decode cX11_bothHome 171 = .ok (.if_icmp .ne 36, 3) := by decide +kernel
theorem dX11_bothHome_174 : decode cX11_bothHome 174 = .ok (.aload_n 0, 1) := by decide +kernel
theorem dX11_bothHome_175 : decode cX11_bothHome 175 = .ok (.getfield 63, 3) := by decide +kernel
theorem dX11_bothHome_178 : decode cX11_bothHome 178 = .ok (.iload 10, 2) := by decide +kernel
theorem dX11_bothHome_180 : decode cX11_bothHome 180 = .ok (.aload_n 0, 1) := by decide +kernel
theorem dX11_bothHome_181 : decode cX11_bothHome 181 = .ok (.getfield 63, 3) := by decide +kernel
theorem dX11_bothHome_184 : decode cX11_bothHome 184 = .ok (.aload_n 0, 1) := by decide +kernel
theorem dX11_bothHome_185 : decode cX11_bothHome 185 = .ok (.getfield 54, 3) := by decide +kernel
theorem dX11_bothHome_188 : decode cX11_bothHome 188 = .ok (.iload 6, 2) := by decide +kernel
theorem dX11_bothHome_190 : decode cX11_bothHome 190 = .ok (.iaload, 1) := by decide +kernel
theorem dX11_bothHome_191 : decode cX11_bothHome 191 = .ok (.iaload, 1) := by decide +kernel
theorem dX11_bothHome_192 : decode cX11_bothHome 192 = .ok (.iconst 1, 1) := by decide +kernel
theorem dX11_bothHome_193 : decode cX11_bothHome 193 = .ok (.iadd, 1) := by decide +kernel
theorem dX11_bothHome_194 : decode cX11_bothHome 194 = .ok (.iastore, 1) := by decide +kernel
theorem dX11_bothHome_195 : decode cX11_bothHome 195 = .ok (.aload_n 0, 1) := by decide +kernel
theorem dX11_bothHome_196 : decode cX11_bothHome 196 = .ok (.getfield 54, 3) := by decide +kernel
theorem dX11_bothHome_199 : decode cX11_bothHome 199 = .ok (.iload 5, 2) := by decide +kernel
theorem dX11_bothHome_201 : decode cX11_bothHome 201 = .ok (.iload 10, 2) := by decide +kernel
theorem dX11_bothHome_203 : decode cX11_bothHome 203 = .ok (.iastore, 1) := by decide +kernel
theorem dX11_bothHome_204 : decode cX11_bothHome 204 = .ok (.iinc 5 1, 3) := by decide +kernel
theorem dX11_bothHome_207 : decode cX11_bothHome 207 = .ok (.iinc 9 1, 3) := by decide +kernel
theorem dX11_bothHome_210 : decode cX11_bothHome 210 = .ok (.goto (-87), 3) := by decide +kernel
theorem dX11_bothHome_213 : decode cX11_bothHome 213 = .ok (.iinc 6 1, 3) := by decide +kernel
theorem dX11_bothHome_216 : decode cX11_bothHome 216 = .ok (.goto (-160), 3) := by decide +kernel
theorem dX11_bothHome_219 : decode cX11_bothHome 219 = .ok (.iconst (-1), 1) := by decide +kernel
theorem dX11_bothHome_220 : decode cX11_bothHome 220 = .ok (.ireturn, 1) := by decide +kernel
theorem dX11_meetingSteps_0 : decode cX11_meetingSteps 0 = .ok (.aload_n 0, 1) := by decide +kernel
theorem dX11_meetingSteps_1 : decode cX11_meetingSteps 1 = .ok (.aload_n 0, 1) := by decide +kernel
theorem dX11_meetingSteps_2 : decode cX11_meetingSteps 2 = .ok (.iload_n 1, 1) := by decide +kernel
theorem dX11_meetingSteps_3 : decode cX11_meetingSteps 3 = .ok (.invokevirtual 228, 3) := by decide +kernel
theorem dX11_meetingSteps_6 : decode cX11_meetingSteps 6 = .ok (.ifCond .eq 11, 3) := by decide +kernel
theorem dX11_meetingSteps_9 : decode cX11_meetingSteps 9 = .ok (.aload_n 0, 1) := by decide +kernel
theorem dX11_meetingSteps_10 : decode cX11_meetingSteps 10 = .ok (.iload_n 2, 1) := by decide +kernel
theorem dX11_meetingSteps_11 : decode cX11_meetingSteps 11 = .ok (.invokevirtual 228, 3) := by decide +kernel
theorem dX11_meetingSteps_14 : decode cX11_meetingSteps 14 = .ok (.ifCond .ne 7, 3) := by decide +kernel
theorem dX11_meetingSteps_17 : decode cX11_meetingSteps 17 = .ok (.iconst 1, 1) := by decide +kernel
theorem dX11_meetingSteps_18 : decode cX11_meetingSteps 18 = .ok (.goto 4, 3) := by decide +kernel
theorem dX11_meetingSteps_21 : decode cX11_meetingSteps 21 = .ok (.iconst 0, 1) := by decide +kernel
theorem dX11_meetingSteps_22 : decode cX11_meetingSteps 22 = .ok (.invokevirtual 209, 3) := by decide +kernel
theorem dX11_meetingSteps_25 : decode cX11_meetingSteps 25 = .ok (.ifCond .eq 5, 3) := by decide +kernel
theorem dX11_meetingSteps_28 : decode cX11_meetingSteps 28 = .ok (.iconst 0, 1) := by decide +kernel
theorem dX11_meetingSteps_29 : decode cX11_meetingSteps 29 = .ok (.ireturn, 1) := by decide +kernel
theorem dX11_meetingSteps_30 : decode cX11_meetingSteps 30 = .ok (.aload_n 0, 1) := by decide +kernel
theorem dX11_meetingSteps_31 : decode cX11_meetingSteps 31 = .ok (.aload_n 0, 1) := by decide +kernel
theorem dX11_meetingSteps_32 : decode cX11_meetingSteps 32 = .ok (.iload_n 1, 1) := by decide +kernel
theorem dX11_meetingSteps_33 : decode cX11_meetingSteps 33 = .ok (.iconst 0, 1) := by decide +kernel
theorem dX11_meetingSteps_34 : decode cX11_meetingSteps 34 = .ok (.invokevirtual 190, 3) := by decide +kernel
theorem dX11_meetingSteps_37 : decode cX11_meetingSteps 37 = .ok (.aload_n 0, 1) := by decide +kernel
theorem dX11_meetingSteps_38 : decode cX11_meetingSteps 38 = .ok (.iload_n 1, 1) := by decide +kernel
theorem dX11_meetingSteps_39 : decode cX11_meetingSteps 39 = .ok (.iconst 1, 1) := by decide +kernel
theorem dX11_meetingSteps_40 : decode cX11_meetingSteps 40 = .ok (.invokevirtual 190, 3) := by decide +kernel
theorem dX11_meetingSteps_43 : decode cX11_meetingSteps 43 = .ok (.aload_n 0, 1) := by decide +kernel
theorem dX11_meetingSteps_44 : decode cX11_meetingSteps 44 = .ok (.iload_n 2, 1) := by decide +kernel
theorem dX11_meetingSteps_45 : decode cX11_meetingSteps 45 = .ok (.iconst 0, 1) := by decide +kernel
theorem dX11_meetingSteps_46 : decode cX11_meetingSteps 46 = .ok (.invokevirtual 190, 3) := by decide +kernel
theorem dX11_meetingSteps_49 : decode cX11_meetingSteps 49 = .ok (.aload_n 0, 1) := by decide +kernel
theorem dX11_meetingSteps_50 : decode cX11_meetingSteps 50 = .ok (.iload_n 2, 1) := by decide +kernel
theorem dX11_meetingSteps_51 : decode cX11_meetingSteps 51 = .ok (.iconst 1, 1) := by decide +kernel
theorem dX11_meetingSteps_52 : decode cX11_meetingSteps 52 = .ok (.invokevirtual 190, 3) := by decide +kernel
theorem dX11_meetingSteps_55 : decode cX11_meetingSteps 55 = .ok (.invokevirtual 288, 3) := by decide +kernel
theorem dX11_meetingSteps_58 : decode cX11_meetingSteps 58 = .ok (.ireturn, 1) := by decide +kernel
theorem dX11_totalSteps_0 : decode cX11_totalSteps 0 = .ok (.aload_n 0, 1) := by decide +kernel
theorem dX11_totalSteps_1 : decode cX11_totalSteps 1 = .ok (.iconst 0, 1) := by decide +kernel
theorem dX11_totalSteps_2 : decode cX11_totalSteps 2 = .ok (.putfield 95, 3) := by decide +kernel
theorem dX11_totalSteps_5 : decode cX11_totalSteps 5 = .ok (.aload_n 0, 1) := by decide +kernel
theorem dX11_totalSteps_6 : decode cX11_totalSteps 6 = .ok (.getfield 7, 3) := by decide +kernel
theorem dX11_totalSteps_9 : decode cX11_totalSteps 9 = .ok (.sipush 984, 3) := by decide +kernel
theorem dX11_totalSteps_12 : decode cX11_totalSteps 12 = .ok (.iaload, 1) := by decide +kernel
theorem dX11_totalSteps_13 : decode cX11_totalSteps 13 = .ok (.ireturn, 1) := by decide +kernel
theorem dX11_homeShare_0 : decode cX11_homeShare 0 = .ok (.aload_n 0, 1) := by decide +kernel
theorem dX11_homeShare_1 : decode cX11_homeShare 1 = .ok (.iconst 0, 1) := by decide +kernel
theorem dX11_homeShare_2 : decode cX11_homeShare 2 = .ok (.putfield 95, 3) := by decide +kernel
theorem dX11_homeShare_5 : decode cX11_homeShare 5 = .ok (.iconst 0, 1) := by decide +kernel
theorem dX11_homeShare_6 : decode cX11_homeShare 6 = .ok (.istore_n 1, 1) := by decide +kernel
theorem dX11_homeShare_7 : decode cX11_homeShare 7 = .ok (.iconst 0, 1) := by decide +kernel
theorem dX11_homeShare_8 : decode cX11_homeShare 8 = .ok (.istore_n 2, 1) := by decide +kernel
theorem dX11_homeShare_9 : decode cX11_homeShare 9 = .ok (.iload_n 2, 1) := by decide +kernel
theorem dX11_homeShare_10 : decode cX11_homeShare 10 = .ok (.aload_n 0, 1) := by decide +kernel
theorem dX11_homeShare_11 : decode cX11_homeShare 11 = .ok (.getfield 7, 3) := by decide +kernel
theorem dX11_homeShare_14 : decode cX11_homeShare 14 = .ok (.sipush 952, 3) := by decide +kernel
theorem dX11_homeShare_17 : decode cX11_homeShare 17 = .ok (.iaload, 1) := by decide +kernel
theorem dX11_homeShare_18 : decode cX11_homeShare 18 = .ok (.if_icmp .ge 36, 3) := by decide +kernel
theorem dX11_homeShare_21 : decode cX11_homeShare 21 = .ok (.iload_n 1, 1) := by decide +kernel
theorem dX11_homeShare_22 : decode cX11_homeShare 22 = .ok (.aload_n 0, 1) := by decide +kernel
theorem dX11_homeShare_23 : decode cX11_homeShare 23 = .ok (.aload_n 0, 1) := by decide +kernel
theorem dX11_homeShare_24 : decode cX11_homeShare 24 = .ok (.iload_n 2, 1) := by decide +kernel
theorem dX11_homeShare_25 : decode cX11_homeShare 25 = .ok (.iconst 0, 1) := by decide +kernel
theorem dX11_homeShare_26 : decode cX11_homeShare 26 = .ok (.invokevirtual 190, 3) := by decide +kernel
theorem dX11_homeShare_29 : decode cX11_homeShare 29 = .ok (.aload_n 0, 1) := by decide +kernel
theorem dX11_homeShare_30 : decode cX11_homeShare 30 = .ok (.iload_n 2, 1) := by decide +kernel
theorem dX11_homeShare_31 : decode cX11_homeShare 31 = .ok (.iconst 1, 1) := by decide +kernel
theorem dX11_homeShare_32 : decode cX11_homeShare 32 = .ok (.invokevirtual 190, 3) := by decide +kernel
theorem dX11_homeShare_35 : decode cX11_homeShare 35 = .ok (.invokevirtual 257, 3) := by decide +kernel
theorem dX11_homeShare_38 : decode cX11_homeShare 38 = .ok (.ifCond .eq 7, 3) := by decide +kernel
theorem dX11_homeShare_41 : decode cX11_homeShare 41 = .ok (.iconst 1, 1) := by decide +kernel
theorem dX11_homeShare_42 : decode cX11_homeShare 42 = .ok (.goto 4, 3) := by decide +kernel
theorem dX11_homeShare_45 : decode cX11_homeShare 45 = .ok (.iconst 0, 1) := by decide +kernel
theorem dX11_homeShare_46 : decode cX11_homeShare 46 = .ok (.iadd, 1) := by decide +kernel
theorem dX11_homeShare_47 : decode cX11_homeShare 47 = .ok (.istore_n 1, 1) := by decide +kernel
theorem dX11_homeShare_48 : decode cX11_homeShare 48 = .ok (.iinc 2 1, 3) := by decide +kernel
theorem dX11_homeShare_51 : decode cX11_homeShare 51 = .ok (.goto (-42), 3) := by decide +kernel
theorem dX11_homeShare_54 : decode cX11_homeShare 54 = .ok (.aload_n 0, 1) := by decide +kernel
theorem dX11_homeShare_55 : decode cX11_homeShare 55 = .ok (.getfield 7, 3) := by decide +kernel
theorem dX11_homeShare_58 : decode cX11_homeShare 58 = .ok (.sipush 952, 3) := by decide +kernel
theorem dX11_homeShare_61 : decode cX11_homeShare 61 = .ok (.iaload, 1) := by decide +kernel
theorem dX11_homeShare_62 : decode cX11_homeShare 62 = .ok (.ifCond .ne 7, 3) := by decide +kernel
theorem dX11_homeShare_65 : decode cX11_homeShare 65 = .ok (.fconst 0, 1) := by decide +kernel
theorem dX11_homeShare_66 : decode cX11_homeShare 66 = .ok (.goto 15, 3) := by decide +kernel
theorem dX11_homeShare_69 : decode cX11_homeShare 69 = .ok (.iload_n 1, 1) := by decide +kernel
theorem dX11_homeShare_70 : decode cX11_homeShare 70 = .ok (.i2f, 1) := by decide +kernel
theorem dX11_homeShare_71 : decode cX11_homeShare 71 = .ok (.aload_n 0, 1) := by decide +kernel
theorem dX11_homeShare_72 : decode cX11_homeShare 72 = .ok (.getfield 7, 3) := by decide +kernel
theorem dX11_homeShare_75 : decode cX11_homeShare 75 = .ok (.sipush 952, 3) := by decide +kernel
theorem dX11_homeShare_78 : decode cX11_homeShare 78 = .ok (.iaload, 1) := by decide +kernel
theorem dX11_homeShare_79 : decode cX11_homeShare 79 = .ok (.i2f, 1) := by decide +kernel
theorem dX11_homeShare_80 : decode cX11_homeShare 80 = .ok (.fdiv, 1) := by decide +kernel
theorem dX11_homeShare_81 : decode cX11_homeShare 81 = .ok (.freturn, 1) := by decide +kernel
theorem dX11_meanSetSize_0 : decode cX11_meanSetSize 0 = .ok (.aload_n 0, 1) := by decide +kernel
theorem dX11_meanSetSize_1 : decode cX11_meanSetSize 1 = .ok (.iload_n 1, 1) := by decide +kernel
theorem dX11_meanSetSize_2 : decode cX11_meanSetSize 2 = .ok (.invokestatic 112, 3) := by decide +kernel
theorem dX11_meanSetSize_5 : decode cX11_meanSetSize 5 = .ok (.ifCond .ne 7, 3) := by decide +kernel
theorem dX11_meanSetSize_8 : decode cX11_meanSetSize 8 = .ok (.iconst 1, 1) := by decide +kernel
theorem dX11_meanSetSize_9 : decode cX11_meanSetSize 9 = .ok (.goto 4, 3) := by decide +kernel
theorem dX11_meanSetSize_12 : decode cX11_meanSetSize 12 = .ok (.iconst 0, 1) := by decide +kernel
theorem dX11_meanSetSize_13 : decode cX11_meanSetSize 13 = .ok (.invokevirtual 209, 3) := by decide +kernel
theorem dX11_meanSetSize_16 : decode cX11_meanSetSize 16 = .ok (.ifCond .eq 5, 3) := by decide +kernel
theorem dX11_meanSetSize_19 : decode cX11_meanSetSize 19 = .ok (.dconst 0, 1) := by decide +kernel
theorem dX11_meanSetSize_20 : decode cX11_meanSetSize 20 = .ok (.dreturn, 1) := by decide +kernel
theorem dX11_meanSetSize_21 : decode cX11_meanSetSize 21 = .ok (.iconst 0, 1) := by decide +kernel
theorem dX11_meanSetSize_22 : decode cX11_meanSetSize 22 = .ok (.istore_n 2, 1) := by decide +kernel
theorem dX11_meanSetSize_23 : decode cX11_meanSetSize 23 = .ok (.iconst 0, 1) := by decide +kernel
theorem dX11_meanSetSize_24 : decode cX11_meanSetSize 24 = .ok (.istore_n 3, 1) := by decide +kernel
theorem dX11_meanSetSize_25 : decode cX11_meanSetSize 25 = .ok (.iload_n 3, 1) := by decide +kernel
theorem dX11_meanSetSize_26 : decode cX11_meanSetSize 26 = .ok (.aload_n 0, 1) := by decide +kernel
theorem dX11_meanSetSize_27 : decode cX11_meanSetSize 27 = .ok (.iload_n 1, 1) := by decide +kernel
theorem dX11_meanSetSize_28 : decode cX11_meanSetSize 28 = .ok (.iconst 5, 1) := by decide +kernel
theorem dX11_meanSetSize_29 : decode cX11_meanSetSize 29 = .ok (.invokevirtual 115, 3) := by decide +kernel
theorem dX11_meanSetSize_32 : decode cX11_meanSetSize 32 = .ok (.if_icmp .ge 27, 3) := by decide +kernel
theorem dX11_meanSetSize_35 : decode cX11_meanSetSize 35 = .ok (.iload_n 2, 1) := by decide +kernel
theorem dX11_meanSetSize_36 : decode cX11_meanSetSize 36 = .ok (.aload_n 0, 1) := by decide +kernel
theorem dX11_meanSetSize_37 : decode cX11_meanSetSize 37 = .ok (.iload_n 1, 1) := by decide +kernel
theorem dX11_meanSetSize_38 : decode cX11_meanSetSize 38 = .ok (.bipush 56, 2) := by decide +kernel
theorem dX11_meanSetSize_40 : decode cX11_meanSetSize 40 = .ok (.iload_n 3, 1) := by decide +kernel
theorem dX11_meanSetSize_41 : decode cX11_meanSetSize 41 = .ok (.iadd, 1) := by decide +kernel
theorem dX11_meanSetSize_42 : decode cX11_meanSetSize 42 = .ok (.invokevirtual 115, 3) := by decide +kernel
theorem dX11_meanSetSize_45 : decode cX11_meanSetSize 45 = .ok (.bipush (-2), 2) := by decide +kernel
theorem dX11_meanSetSize_47 : decode cX11_meanSetSize 47 = .ok (.iand, 1) := by decide +kernel
theorem dX11_meanSetSize_48 : decode cX11_meanSetSize 48 = .ok (.invokestatic 292, 3) := by decide +kernel
theorem dX11_meanSetSize_51 : decode cX11_meanSetSize 51 = .ok (.iadd, 1) := by decide +kernel
theorem dX11_meanSetSize_52 : decode cX11_meanSetSize 52 = .ok (.istore_n 2, 1) := by decide +kernel
theorem dX11_meanSetSize_53 : decode cX11_meanSetSize 53 = .ok (.iinc 3 1, 3) := by decide +kernel
theorem dX11_meanSetSize_56 : decode cX11_meanSetSize 56 = .ok (.goto (-31), 3) := by decide +kernel
theorem dX11_meanSetSize_59 : decode cX11_meanSetSize 59 = .ok (.iload_n 2, 1) := by decide +kernel
theorem dX11_meanSetSize_60 : decode cX11_meanSetSize 60 = .ok (.i2d, 1) := by decide +kernel
theorem dX11_meanSetSize_61 : decode cX11_meanSetSize 61 = .ok (.aload_n 0, 1) := by decide +kernel
theorem dX11_meanSetSize_62 : decode cX11_meanSetSize 62 = .ok (.iload_n 1, 1) := by decide +kernel
theorem dX11_meanSetSize_63 : decode cX11_meanSetSize 63 = .ok (.iconst 5, 1) := by decide +kernel
theorem dX11_meanSetSize_64 : decode cX11_meanSetSize 64 = .ok (.invokevirtual 115, 3) := by decide +kernel
theorem dX11_meanSetSize_67 : decode cX11_meanSetSize 67 = .ok (.i2d, 1) := by decide +kernel
theorem dX11_meanSetSize_68 : decode cX11_meanSetSize 68 = .ok (.ddiv, 1) := by decide +kernel
theorem dX11_meanSetSize_69 : decode cX11_meanSetSize 69 = .ok (.dreturn, 1) := by decide +kernel
theorem dX11_writeWord_0 : decode cX11_writeWord 0 = .ok (.aload_n 0, 1) := by decide +kernel
theorem dX11_writeWord_1 : decode cX11_writeWord 1 = .ok (.iload_n 1, 1) := by decide +kernel
theorem dX11_writeWord_2 : decode cX11_writeWord 2 = .ok (.invokestatic 112, 3) := by decide +kernel
theorem dX11_writeWord_5 : decode cX11_writeWord 5 = .ok (.ifCond .ne 7, 3) := by decide +kernel
theorem dX11_writeWord_8 : decode cX11_writeWord 8 = .ok (.iconst 1, 1) := by decide +kernel
theorem dX11_writeWord_9 : decode cX11_writeWord 9 = .ok (.goto 4, 3) := by decide +kernel
theorem dX11_writeWord_12 : decode cX11_writeWord 12 = .ok (.iconst 0, 1) := by decide +kernel
theorem dX11_writeWord_13 : decode cX11_writeWord 13 = .ok (.iload_n 2, 1) := by decide +kernel
theorem dX11_writeWord_14 : decode cX11_writeWord 14 = .ok (.iconst 0, 1) := by decide +kernel
theorem dX11_writeWord_15 : decode cX11_writeWord 15 = .ok (.bipush 20, 2) := by decide +kernel
theorem dX11_writeWord_17 : decode cX11_writeWord 17 = .ok (.invokestatic 108, 3) := by decide +kernel
theorem dX11_writeWord_20 : decode cX11_writeWord 20 = .ok (.ifCond .ne 7, 3) := by decide +kernel
theorem dX11_writeWord_23 : decode cX11_writeWord 23 = .ok (.iconst 1, 1) := by decide +kernel
theorem dX11_writeWord_24 : decode cX11_writeWord 24 = .ok (.goto 4, 3) := by decide +kernel
theorem dX11_writeWord_27 : decode cX11_writeWord 27 = .ok (.iconst 0, 1) := by decide +kernel
theorem dX11_writeWord_28 : decode cX11_writeWord 28 = .ok (.invokevirtual 225, 3) := by decide +kernel
theorem dX11_writeWord_31 : decode cX11_writeWord 31 = .ok (.ifCond .eq 5, 3) := by decide +kernel
theorem dX11_writeWord_34 : decode cX11_writeWord 34 = .ok (.iconst 0, 1) := by decide +kernel
theorem dX11_writeWord_35 : decode cX11_writeWord 35 = .ok (.ireturn, 1) := by decide +kernel
theorem dX11_writeWord_36 : decode cX11_writeWord 36 = .ok (.aload_n 0, 1) := by decide +kernel
theorem dX11_writeWord_37 : decode cX11_writeWord 37 = .ok (.iload_n 1, 1) := by decide +kernel
theorem dX11_writeWord_38 : decode cX11_writeWord 38 = .ok (.iload_n 2, 1) := by decide +kernel
theorem dX11_writeWord_39 : decode cX11_writeWord 39 = .ok (.invokevirtual 270, 3) := by decide +kernel
theorem dX11_writeWord_42 : decode cX11_writeWord 42 = .ok (.lload_n 3, 1) := by decide +kernel
theorem dX11_writeWord_43 : decode cX11_writeWord 43 = .ok (.lconst 0, 1) := by decide +kernel
theorem dX11_writeWord_44 : decode cX11_writeWord 44 = .ok (.lcmp, 1) := by decide +kernel
theorem dX11_writeWord_45 : decode cX11_writeWord 45 = .ok (.ifCond .lt 17, 3) := by decide +kernel
theorem dX11_writeWord_48 : decode cX11_writeWord 48 = .ok (.lload_n 3, 1) := by decide +kernel
theorem dX11_writeWord_49 : decode cX11_writeWord 49 = .ok (.aload_n 0, 1) := by decide +kernel
theorem dX11_writeWord_50 : decode cX11_writeWord 50 = .ok (.getfield 66, 3) := by decide +kernel
theorem dX11_writeWord_53 : decode cX11_writeWord 53 = .ok (.bipush 60, 2) := by decide +kernel
theorem dX11_writeWord_55 : decode cX11_writeWord 55 = .ok (.iload_n 2, 1) := by decide +kernel
theorem dX11_writeWord_56 : decode cX11_writeWord 56 = .ok (.imul, 1) := by decide +kernel
theorem dX11_writeWord_57 : decode cX11_writeWord 57 = .ok (.laload, 1) := by decide +kernel
theorem dX11_writeWord_58 : decode cX11_writeWord 58 = .ok (.lcmp, 1) := by decide +kernel
theorem dX11_writeWord_59 : decode cX11_writeWord 59 = .ok (.ifCond .lt 5, 3) := by decide +kernel
theorem dX11_writeWord_62 : decode cX11_writeWord 62 = .ok (.iconst (-1), 1) := by decide +kernel
theorem dX11_writeWord_63 : decode cX11_writeWord 63 = .ok (.ireturn, 1) := by decide +kernel
theorem dX11_writeWord_64 : decode cX11_writeWord 64 = .ok (.lload_n 3, 1) := by decide +kernel
theorem dX11_writeWord_65 : decode cX11_writeWord 65 = .ok (.lstore 5, 2) := by decide +kernel
theorem dX11_writeWord_67 : decode cX11_writeWord 67 = .ok (.iconst 0, 1) := by decide +kernel
theorem dX11_writeWord_68 : decode cX11_writeWord 68 = .ok (.istore 7, 2) := by decide +kernel
theorem dX11_writeWord_70 : decode cX11_writeWord 70 = .ok (.aload_n 0, 1) := by decide +kernel
theorem dX11_writeWord_71 : decode cX11_writeWord 71 = .ok (.iconst 0, 1) := by decide +kernel
theorem dX11_writeWord_72 : decode cX11_writeWord 72 = .ok (.putfield 295, 3) := by decide +kernel
theorem dX11_writeWord_75 : decode cX11_writeWord 75 = .ok (.iload_n 2, 1) := by decide +kernel
theorem dX11_writeWord_76 : decode cX11_writeWord 76 = .ok (.iconst 1, 1) := by decide +kernel
theorem dX11_writeWord_77 : decode cX11_writeWord 77 = .ok (.isub, 1) := by decide +kernel
theorem dX11_writeWord_78 : decode cX11_writeWord 78 = .ok (.istore 8, 2) := by decide +kernel
theorem dX11_writeWord_80 : decode cX11_writeWord 80 = .ok (.iload 8, 2) := by decide +kernel
theorem dX11_writeWord_82 : decode cX11_writeWord 82 = .ok (.ifCond .lt 113, 3) := by decide +kernel
theorem dX11_writeWord_85 : decode cX11_writeWord 85 = .ok (.iconst 0, 1) := by decide +kernel
theorem dX11_writeWord_86 : decode cX11_writeWord 86 = .ok (.istore 9, 2) := by decide +kernel
theorem dX11_writeWord_88 : decode cX11_writeWord 88 = .ok (.aload_n 0, 1) := by decide +kernel
theorem dX11_writeWord_89 : decode cX11_writeWord 89 = .ok (.getfield 66, 3) := by decide +kernel
theorem dX11_writeWord_92 : decode cX11_writeWord 92 = .ok (.bipush 60, 2) := by decide +kernel
theorem dX11_writeWord_94 : decode cX11_writeWord 94 = .ok (.iload 8, 2) := by decide +kernel
theorem dX11_writeWord_96 : decode cX11_writeWord 96 = .ok (.imul, 1) := by decide +kernel
theorem dX11_writeWord_97 : decode cX11_writeWord 97 = .ok (.aload_n 0, 1) := by decide +kernel
theorem dX11_writeWord_98 : decode cX11_writeWord 98 = .ok (.iload_n 1, 1) := by decide +kernel
theorem dX11_writeWord_99 : decode cX11_writeWord 99 = .ok (.iload 7, 2) := by decide +kernel
theorem dX11_writeWord_101 : decode cX11_writeWord 101 = .ok (.iload 9, 2) := by decide +kernel
theorem dX11_writeWord_103 : decode cX11_writeWord 103 = .ok (.invokevirtual 231, 3) := by decide +kernel
theorem dX11_writeWord_106 : decode cX11_writeWord 106 = .ok (.iadd, 1) := by decide +kernel
theorem dX11_writeWord_107 : decode cX11_writeWord 107 = .ok (.laload, 1) := by decide +kernel
theorem dX11_writeWord_108 : decode cX11_writeWord 108 = .ok (.lstore 10, 2) := by decide +kernel
theorem dX11_writeWord_110 : decode cX11_writeWord 110 = .ok (.lload 5, 2) := by decide +kernel
theorem dX11_writeWord_112 : decode cX11_writeWord 112 = .ok (.lload 10, 2) := by decide +kernel
theorem dX11_writeWord_114 : decode cX11_writeWord 114 = .ok (.lcmp, 1) := by decide +kernel
theorem dX11_writeWord_115 : decode cX11_writeWord 115 = .ok (.ifCond .lt 38, 3) := by decide +kernel
theorem dX11_writeWord_118 : decode cX11_writeWord 118 = .ok (.lload 5, 2) := by decide +kernel
theorem dX11_writeWord_120 : decode cX11_writeWord 120 = .ok (.lload 10, 2) := by decide +kernel
theorem dX11_writeWord_122 : decode cX11_writeWord 122 = .ok (.lsub, 1) := by decide +kernel
theorem dX11_writeWord_123 : decode cX11_writeWord 123 = .ok (.lstore 5, 2) := by decide +kernel
theorem dX11_writeWord_125 : decode cX11_writeWord 125 = .ok (.iinc 9 1, 3) := by decide +kernel
theorem dX11_writeWord_128 : decode cX11_writeWord 128 = .ok (.aload_n 0, 1) := by decide +kernel
theorem dX11_writeWord_129 : decode cX11_writeWord 129 = .ok (.getfield 66, 3) := by decide +kernel
theorem dX11_writeWord_132 : decode cX11_writeWord 132 = .ok (.bipush 60, 2) := by decide +kernel
theorem dX11_writeWord_134 : decode cX11_writeWord 134 = .ok (.iload 8, 2) := by decide +kernel
theorem dX11_writeWord_136 : decode cX11_writeWord 136 = .ok (.imul, 1) := by decide +kernel
theorem dX11_writeWord_137 : decode cX11_writeWord 137 = .ok (.aload_n 0, 1) := by decide +kernel
theorem dX11_writeWord_138 : decode cX11_writeWord 138 = .ok (.iload_n 1, 1) := by decide +kernel
theorem dX11_writeWord_139 : decode cX11_writeWord 139 = .ok (.iload 7, 2) := by decide +kernel
theorem dX11_writeWord_141 : decode cX11_writeWord 141 = .ok (.iload 9, 2) := by decide +kernel
theorem dX11_writeWord_143 : decode cX11_writeWord 143 = .ok (.invokevirtual 231, 3) := by decide +kernel
theorem dX11_writeWord_146 : decode cX11_writeWord 146 = .ok (.iadd, 1) := by decide +kernel
theorem dX11_writeWord_147 : decode cX11_writeWord 147 = .ok (.laload, 1) := by decide +kernel
theorem dX11_writeWord_148 : decode cX11_writeWord 148 = .ok (.lstore 10, 2) := by decide +kernel
theorem dX11_writeWord_150 : decode cX11_writeWord 150 = .ok (.goto (-40), 3) := by decide +kernel
theorem dX11_writeWord_153 : decode cX11_writeWord 153 = .ok (.aload_n 0, 1) := by decide +kernel
theorem dX11_writeWord_154 : decode cX11_writeWord 154 = .ok (.iload_n 1, 1) := by decide +kernel
theorem dX11_writeWord_155 : decode cX11_writeWord 155 = .ok (.iload 7, 2) := by decide +kernel
theorem dX11_writeWord_157 : decode cX11_writeWord 157 = .ok (.iload 9, 2) := by decide +kernel
theorem dX11_writeWord_159 : decode cX11_writeWord 159 = .ok (.invokevirtual 231, 3) := by decide +kernel
theorem dX11_writeWord_162 : decode cX11_writeWord 162 = .ok (.istore 7, 2) := by decide +kernel
theorem dX11_writeWord_164 : decode cX11_writeWord 164 = .ok (.aload_n 0, 1) := by decide +kernel
theorem dX11_writeWord_165 : decode cX11_writeWord 165 = .ok (.getfield 29, 3) := by decide +kernel
theorem dX11_writeWord_168 : decode cX11_writeWord 168 = .ok (.aload_n 0, 1) := by decide +kernel
theorem dX11_writeWord_169 : decode cX11_writeWord 169 = .ok (.getfield 295, 3) := by decide +kernel
theorem dX11_writeWord_172 : decode cX11_writeWord 172 = .ok (.bipush 97, 2) := by decide +kernel
theorem dX11_writeWord_174 : decode cX11_writeWord 174 = .ok (.iload 9, 2) := by decide +kernel
theorem dX11_writeWord_176 : decode cX11_writeWord 176 = .ok (.iadd, 1) := by decide +kernel
theorem dX11_writeWord_177 : decode cX11_writeWord 177 = .ok (.i2c, 1) := by decide +kernel
theorem dX11_writeWord_178 : decode cX11_writeWord 178 = .ok (.castore, 1) := by decide +kernel
theorem dX11_writeWord_179 : decode cX11_writeWord 179 = .ok (.aload_n 0, 1) := by decide +kernel
theorem dX11_writeWord_180 : decode cX11_writeWord 180 = .ok (.dup, 1) := by decide +kernel
theorem dX11_writeWord_181 : decode cX11_writeWord 181 = .ok (.getfield 295, 3) := by decide +kernel
theorem dX11_writeWord_184 : decode cX11_writeWord 184 = .ok (.iconst 1, 1) := by decide +kernel
theorem dX11_writeWord_185 : decode cX11_writeWord 185 = .ok (.iadd, 1) := by decide +kernel
theorem dX11_writeWord_186 : decode cX11_writeWord 186 = .ok (.putfield 295, 3) := by decide +kernel
theorem dX11_writeWord_189 : decode cX11_writeWord 189 = .ok (.iinc 8 (-1), 3) := by decide +kernel
theorem dX11_writeWord_192 : decode cX11_writeWord 192 = .ok (.goto (-112), 3) := by decide +kernel
theorem dX11_writeWord_195 : decode cX11_writeWord 195 = .ok (.aload_n 0, 1) := by decide +kernel
theorem dX11_writeWord_196 : decode cX11_writeWord 196 = .ok (.getfield 295, 3) := by decide +kernel
theorem dX11_writeWord_199 : decode cX11_writeWord 199 = .ok (.ireturn, 1) := by decide +kernel
theorem dX11_writeDifference_0 : decode cX11_writeDifference 0 = .ok (.aload_n 0, 1) := by decide +kernel
theorem dX11_writeDifference_1 : decode cX11_writeDifference 1 = .ok (.iconst 0, 1) := by decide +kernel
theorem dX11_writeDifference_2 : decode cX11_writeDifference 2 = .ok (.putfield 95, 3) := by decide +kernel
theorem dX11_writeDifference_5 : decode cX11_writeDifference 5 = .ok (.aload_n 0, 1) := by decide +kernel
theorem dX11_writeDifference_6 : decode cX11_writeDifference 6 = .ok (.invokevirtual 282, 3) := by decide +kernel
theorem dX11_writeDifference_9 : decode cX11_writeDifference 9 = .ok (.pop, 1) := by decide +kernel
theorem dX11_writeDifference_10 : decode cX11_writeDifference 10 = .ok (.aload_n 0, 1) := by decide +kernel
theorem dX11_writeDifference_11 : decode cX11_writeDifference 11 = .ok (.aload_n 0, 1) := by decide +kernel
theorem dX11_writeDifference_12 : decode cX11_writeDifference 12 = .ok (.getfield 276, 3) := by decide +kernel
theorem dX11_writeDifference_15 : decode cX11_writeDifference 15 = .ok (.invokevirtual 298, 3) := by decide +kernel
theorem dX11_writeDifference_18 : decode cX11_writeDifference 18 = .ok (.ireturn, 1) := by decide +kernel
theorem dX11_writeSharedWord_0 : decode cX11_writeSharedWord 0 = .ok (.aload_n 0, 1) := by decide +kernel
theorem dX11_writeSharedWord_1 : decode cX11_writeSharedWord 1 = .ok (.iconst 0, 1) := by decide +kernel
theorem dX11_writeSharedWord_2 : decode cX11_writeSharedWord 2 = .ok (.putfield 95, 3) := by decide +kernel
theorem dX11_writeSharedWord_5 : decode cX11_writeSharedWord 5 = .ok (.aload_n 0, 1) := by decide +kernel
theorem dX11_writeSharedWord_6 : decode cX11_writeSharedWord 6 = .ok (.invokevirtual 282, 3) := by decide +kernel
theorem dX11_writeSharedWord_9 : decode cX11_writeSharedWord 9 = .ok (.pop, 1) := by decide +kernel
theorem dX11_writeSharedWord_10 : decode cX11_writeSharedWord 10 = .ok (.aload_n 0, 1) := by decide +kernel
theorem dX11_writeSharedWord_11 : decode cX11_writeSharedWord 11 = .ok (.aload_n 0, 1) := by decide +kernel
theorem dX11_writeSharedWord_12 : decode cX11_writeSharedWord 12 = .ok (.getfield 279, 3) := by decide +kernel
theorem dX11_writeSharedWord_15 : decode cX11_writeSharedWord 15 = .ok (.invokevirtual 298, 3) := by decide +kernel
theorem dX11_writeSharedWord_18 : decode cX11_writeSharedWord 18 = .ok (.ireturn, 1) := by decide +kernel
theorem dX11_writeWay_0 : decode cX11_writeWay 0 = .ok (.iload_n 1, 1) := by decide +kernel
theorem dX11_writeWay_1 : decode cX11_writeWay 1 = .ok (.iconst (-1), 1) := by decide +kernel
theorem dX11_writeWay_2 : decode cX11_writeWay 2 = .ok (.if_icmp .ne 5, 3) := by decide +kernel
theorem dX11_writeWay_5 : decode cX11_writeWay 5 = .ok (.iconst (-1), 1) := by decide +kernel
theorem dX11_writeWay_6 : decode cX11_writeWay 6 = .ok (.ireturn, 1) := by decide +kernel
theorem dX11_writeWay_7 : decode cX11_writeWay 7 = .ok (.iconst 0, 1) := by decide +kernel
theorem dX11_writeWay_8 : decode cX11_writeWay 8 = .ok (.istore_n 2, 1) := by decide +kernel
theorem dX11_writeWay_9 : decode cX11_writeWay 9 = .ok (.iload_n 1, 1) := by decide +kernel
theorem dX11_writeWay_10 : decode cX11_writeWay 10 = .ok (.istore_n 3, 1) := by decide +kernel
theorem dX11_writeWay_11 : decode cX11_writeWay 11 = .ok (.aload_n 0, 1) := by decide +kernel
theorem dX11_writeWay_12 : decode cX11_writeWay 12 = .ok (.getfield 57, 3) := by decide +kernel
theorem dX11_writeWay_15 : decode cX11_writeWay 15 = .ok (.iload_n 3, 1) := by decide +kernel
theorem dX11_writeWay_16 : decode cX11_writeWay 16 = .ok (.iaload, 1) := by decide +kernel
theorem dX11_writeWay_17 : decode cX11_writeWay 17 = .ok (.iconst (-1), 1) := by decide +kernel
theorem dX11_writeWay_18 : decode cX11_writeWay 18 = .ok (.if_icmp .eq 28, 3) := by decide +kernel
theorem dX11_writeWay_21 : decode cX11_writeWay 21 = .ok (.aload_n 0, 1) := by decide +kernel
theorem dX11_writeWay_22 : decode cX11_writeWay 22 = .ok (.getfield 74, 3) := by decide +kernel
theorem dX11_writeWay_25 : decode cX11_writeWay 25 = .ok (.iload_n 2, 1) := by decide +kernel
theorem dX11_writeWay_26 : decode cX11_writeWay 26 = .ok (.aload_n 0, 1) := by decide +kernel
theorem dX11_writeWay_27 : decode cX11_writeWay 27 = .ok (.getfield 60, 3) := by decide +kernel
theorem dX11_writeWay_30 : decode cX11_writeWay 30 = .ok (.iload_n 3, 1) := by decide +kernel
theorem dX11_writeWay_31 : decode cX11_writeWay 31 = .ok (.iaload, 1) := by decide +kernel
theorem dX11_writeWay_32 : decode cX11_writeWay 32 = .ok (.iastore, 1) := by decide +kernel
theorem dX11_writeWay_33 : decode cX11_writeWay 33 = .ok (.iinc 2 1, 3) := by decide +kernel
theorem dX11_writeWay_36 : decode cX11_writeWay 36 = .ok (.aload_n 0, 1) := by decide +kernel
theorem dX11_writeWay_37 : decode cX11_writeWay 37 = .ok (.getfield 57, 3) := by decide +kernel
theorem dX11_writeWay_40 : decode cX11_writeWay 40 = .ok (.iload_n 3, 1) := by decide +kernel
theorem dX11_writeWay_41 : decode cX11_writeWay 41 = .ok (.iaload, 1) := by decide +kernel
theorem dX11_writeWay_42 : decode cX11_writeWay 42 = .ok (.istore_n 3, 1) := by decide +kernel
theorem dX11_writeWay_43 : decode cX11_writeWay 43 = .ok (.goto (-32), 3) := by decide +kernel
theorem dX11_writeWay_46 : decode cX11_writeWay 46 = .ok (.aload_n 0, 1) := by decide +kernel
theorem dX11_writeWay_47 : decode cX11_writeWay 47 = .ok (.iconst 0, 1) := by decide +kernel
theorem dX11_writeWay_48 : decode cX11_writeWay 48 = .ok (.putfield 295, 3) := by decide +kernel
theorem dX11_writeWay_51 : decode cX11_writeWay 51 = .ok (.iload_n 2, 1) := by decide +kernel
theorem dX11_writeWay_52 : decode cX11_writeWay 52 = .ok (.iconst 1, 1) := by decide +kernel
theorem dX11_writeWay_53 : decode cX11_writeWay 53 = .ok (.isub, 1) := by decide +kernel
theorem dX11_writeWay_54 : decode cX11_writeWay 54 = .ok (.istore_n 3, 1) := by decide +kernel
theorem dX11_writeWay_55 : decode cX11_writeWay 55 = .ok (.iload_n 3, 1) := by decide +kernel
theorem dX11_writeWay_56 : decode cX11_writeWay 56 = .ok (.ifCond .lt 38, 3) := by decide +kernel
theorem dX11_writeWay_59 : decode cX11_writeWay 59 = .ok (.aload_n 0, 1) := by decide +kernel
theorem dX11_writeWay_60 : decode cX11_writeWay 60 = .ok (.getfield 29, 3) := by decide +kernel
theorem dX11_writeWay_63 : decode cX11_writeWay 63 = .ok (.aload_n 0, 1) := by decide +kernel
theorem dX11_writeWay_64 : decode cX11_writeWay 64 = .ok (.getfield 295, 3) := by decide +kernel
theorem dX11_writeWay_67 : decode cX11_writeWay 67 = .ok (.bipush 97, 2) := by decide +kernel
theorem dX11_writeWay_69 : decode cX11_writeWay 69 = .ok (.aload_n 0, 1) := by decide +kernel
theorem dX11_writeWay_70 : decode cX11_writeWay 70 = .ok (.getfield 74, 3) := by decide +kernel
theorem dX11_writeWay_73 : decode cX11_writeWay 73 = .ok (.iload_n 3, 1) := by decide +kernel
theorem dX11_writeWay_74 : decode cX11_writeWay 74 = .ok (.iaload, 1) := by decide +kernel
theorem dX11_writeWay_75 : decode cX11_writeWay 75 = .ok (.iadd, 1) := by decide +kernel
theorem dX11_writeWay_76 : decode cX11_writeWay 76 = .ok (.i2c, 1) := by decide +kernel
theorem dX11_writeWay_77 : decode cX11_writeWay 77 = .ok (.castore, 1) := by decide +kernel
theorem dX11_writeWay_78 : decode cX11_writeWay 78 = .ok (.aload_n 0, 1) := by decide +kernel
theorem dX11_writeWay_79 : decode cX11_writeWay 79 = .ok (.dup, 1) := by decide +kernel
theorem dX11_writeWay_80 : decode cX11_writeWay 80 = .ok (.getfield 295, 3) := by decide +kernel
theorem dX11_writeWay_83 : decode cX11_writeWay 83 = .ok (.iconst 1, 1) := by decide +kernel
theorem dX11_writeWay_84 : decode cX11_writeWay 84 = .ok (.iadd, 1) := by decide +kernel
theorem dX11_writeWay_85 : decode cX11_writeWay 85 = .ok (.putfield 295, 3) := by decide +kernel
theorem dX11_writeWay_88 : decode cX11_writeWay 88 = .ok (.iinc 3 (-1), 3) := by decide +kernel
theorem dX11_writeWay_91 : decode cX11_writeWay 91 = .ok (.goto (-36), 3) := by decide +kernel
theorem dX11_writeWay_94 : decode cX11_writeWay 94 = .ok (.aload_n 0, 1) := by decide +kernel
theorem dX11_writeWay_95 : decode cX11_writeWay 95 = .ok (.getfield 295, 3) := by decide +kernel
theorem dX11_writeWay_98 : decode cX11_writeWay 98 = .ok (.ireturn, 1) := by decide +kernel
theorem dX11_reportByte_0 : decode cX11_reportByte 0 = .ok (.aload_n 0, 1) := by decide +kernel
theorem dX11_reportByte_1 : decode cX11_reportByte 1 = .ok (.iconst 0, 1) := by decide +kernel
theorem dX11_reportByte_2 : decode cX11_reportByte 2 = .ok (.putfield 95, 3) := by decide +kernel
theorem dX11_reportByte_5 : decode cX11_reportByte 5 = .ok (.iload_n 1, 1) := by decide +kernel
theorem dX11_reportByte_6 : decode cX11_reportByte 6 = .ok (.iconst 0, 1) := by decide +kernel
theorem dX11_reportByte_7 : decode cX11_reportByte 7 = .ok (.aload_n 0, 1) := by decide +kernel
theorem dX11_reportByte_8 : decode cX11_reportByte 8 = .ok (.getfield 295, 3) := by decide +kernel
theorem dX11_reportByte_11 : decode cX11_reportByte 11 = .ok (.iconst 1, 1) := by decide +kernel
theorem dX11_reportByte_12 : decode cX11_reportByte 12 = .ok (.isub, 1) := by decide +kernel
theorem dX11_reportByte_13 : decode cX11_reportByte 13 = .ok (.invokestatic 108, 3) := by decide +kernel
theorem dX11_reportByte_16 : decode cX11_reportByte 16 = .ok (.ifCond .eq 12, 3) := by decide +kernel
theorem dX11_reportByte_19 : decode cX11_reportByte 19 = .ok (.aload_n 0, 1) := by decide +kernel
theorem dX11_reportByte_20 : decode cX11_reportByte 20 = .ok (.getfield 29, 3) := by decide +kernel
theorem dX11_reportByte_23 : decode cX11_reportByte 23 = .ok (.iload_n 1, 1) := by decide +kernel
theorem dX11_reportByte_24 : decode cX11_reportByte 24 = .ok (.caload, 1) := by decide +kernel
theorem dX11_reportByte_25 : decode cX11_reportByte 25 = .ok (.goto 4, 3) := by decide +kernel
theorem dX11_reportByte_28 : decode cX11_reportByte 28 = .ok (.iconst (-1), 1) := by decide +kernel
theorem dX11_reportByte_29 : decode cX11_reportByte 29 = .ok (.ireturn, 1) := by decide +kernel
