/-! decode rows of the law's helpers, printed -/
theorem dL_cell_0 : decode cL_cell 0 = .ok (.iload_n 1, 1) := by decide +kernel
theorem dL_cell_1 : decode cL_cell 1 = .ok (.aload_n 0, 1) := by decide +kernel
theorem dL_cell_2 : decode cL_cell 2 = .ok (.arraylength, 1) := by decide +kernel
theorem dL_cell_3 : decode cL_cell 3 = .ok (.if_icmp .ge 9, 3) := by decide +kernel
theorem dL_cell_6 : decode cL_cell 6 = .ok (.aload_n 0, 1) := by decide +kernel
theorem dL_cell_7 : decode cL_cell 7 = .ok (.iload_n 1, 1) := by decide +kernel
theorem dL_cell_8 : decode cL_cell 8 = .ok (.iaload, 1) := by decide +kernel
theorem dL_cell_9 : decode cL_cell 9 = .ok (.goto 4, 3) := by decide +kernel
theorem dL_cell_12 : decode cL_cell 12 = .ok (.iconst 0, 1) := by decide +kernel
theorem dL_cell_13 : decode cL_cell 13 = .ok (.ireturn, 1) := by decide +kernel
theorem dL_compiled_0 : decode cL_compiled 0 = .ok (.bipush 20, 2) := by decide +kernel
theorem dL_compiled_2 : decode cL_compiled 2 = .ok (.newarray .int, 2) := by decide +kernel
theorem dL_compiled_4 : decode cL_compiled 4 = .ok (.astore_n 3, 1) := by decide +kernel
theorem dL_compiled_5 : decode cL_compiled 5 = .ok (.iconst 0, 1) := by decide +kernel
theorem dL_compiled_6 : decode cL_compiled 6 = .ok (.istore 4, 2) := by decide +kernel
theorem dL_compiled_8 : decode cL_compiled 8 = .ok (.iload_n 2, 1) := by decide +kernel
theorem dL_compiled_9 : decode cL_compiled 9 = .ok (.istore 5, 2) := by decide +kernel
theorem dL_compiled_11 : decode cL_compiled 11 = .ok (.iconst 0, 1) := by decide +kernel
theorem dL_compiled_12 : decode cL_compiled 12 = .ok (.istore 6, 2) := by decide +kernel
theorem dL_compiled_14 : decode cL_compiled 14 = .ok (.iload 6, 2) := by decide +kernel
theorem dL_compiled_16 : decode cL_compiled 16 = .ok (.iconst 5, 1) := by decide +kernel
theorem dL_compiled_17 : decode cL_compiled 17 = .ok (.if_icmp .ge 197, 3) := by decide +kernel
theorem dL_compiled_20 : decode cL_compiled 20 = .ok (.iload 5, 2) := by decide +kernel
theorem dL_compiled_22 : decode cL_compiled 22 = .ok (.bipush 15, 2) := by decide +kernel
theorem dL_compiled_24 : decode cL_compiled 24 = .ok (.iand, 1) := by decide +kernel
theorem dL_compiled_25 : decode cL_compiled 25 = .ok (.istore 7, 2) := by decide +kernel
theorem dL_compiled_27 : decode cL_compiled 27 = .ok (.iload 5, 2) := by decide +kernel
theorem dL_compiled_29 : decode cL_compiled 29 = .ok (.iconst 4, 1) := by decide +kernel
theorem dL_compiled_30 : decode cL_compiled 30 = .ok (.iushr, 1) := by decide +kernel
theorem dL_compiled_31 : decode cL_compiled 31 = .ok (.istore 5, 2) := by decide +kernel
theorem dL_compiled_33 : decode cL_compiled 33 = .ok (.iload 7, 2) := by decide +kernel
theorem dL_compiled_35 : decode cL_compiled 35 = .ok (.bipush 7, 2) := by decide +kernel
theorem dL_compiled_37 : decode cL_compiled 37 = .ok (.if_icmp .ge 30, 3) := by decide +kernel
theorem dL_compiled_40 : decode cL_compiled 40 = .ok (.aload_n 3, 1) := by decide +kernel
theorem dL_compiled_41 : decode cL_compiled 41 = .ok (.iload 4, 2) := by decide +kernel
theorem dL_compiled_43 : decode cL_compiled 43 = .ok (.iinc 4 1, 3) := by decide +kernel
theorem dL_compiled_46 : decode cL_compiled 46 = .ok (.iload 7, 2) := by decide +kernel
theorem dL_compiled_48 : decode cL_compiled 48 = .ok (.bipush 6, 2) := by decide +kernel
theorem dL_compiled_50 : decode cL_compiled 50 = .ok (.if_icmp .ne 8, 3) := by decide +kernel
theorem dL_compiled_53 : decode cL_compiled 53 = .ok (.bipush 46, 2) := by decide +kernel
theorem dL_compiled_55 : decode cL_compiled 55 = .ok (.goto 8, 3) := by decide +kernel
theorem dL_compiled_58 : decode cL_compiled 58 = .ok (.bipush 97, 2) := by decide +kernel
theorem dL_compiled_60 : decode cL_compiled 60 = .ok (.iload 7, 2) := by decide +kernel
theorem dL_compiled_62 : decode cL_compiled 62 = .ok (.iadd, 1) := by decide +kernel
theorem dL_compiled_63 : decode cL_compiled 63 = .ok (.iastore, 1) := by decide +kernel
theorem dL_compiled_64 : decode cL_compiled 64 = .ok (.goto 144, 3) := by decide +kernel
theorem dL_compiled_67 : decode cL_compiled 67 = .ok (.iload 7, 2) := by decide +kernel
theorem dL_compiled_69 : decode cL_compiled 69 = .ok (.bipush 11, 2) := by decide +kernel
theorem dL_compiled_71 : decode cL_compiled 71 = .ok (.if_icmp .ge 65, 3) := by decide +kernel
theorem dL_compiled_74 : decode cL_compiled 74 = .ok (.aload_n 3, 1) := by decide +kernel
theorem dL_compiled_75 : decode cL_compiled 75 = .ok (.iload 4, 2) := by decide +kernel
theorem dL_compiled_77 : decode cL_compiled 77 = .ok (.iinc 4 1, 3) := by decide +kernel
theorem dL_compiled_80 : decode cL_compiled 80 = .ok (.bipush 97, 2) := by decide +kernel
theorem dL_compiled_82 : decode cL_compiled 82 = .ok (.iload 7, 2) := by decide +kernel
theorem dL_compiled_84 : decode cL_compiled 84 = .ok (.iconst 4, 1) := by decide +kernel
theorem dL_compiled_85 : decode cL_compiled 85 = .ok (.irem, 1) := by decide +kernel
theorem dL_compiled_86 : decode cL_compiled 86 = .ok (.iadd, 1) := by decide +kernel
theorem dL_compiled_87 : decode cL_compiled 87 = .ok (.iastore, 1) := by decide +kernel
theorem dL_compiled_88 : decode cL_compiled 88 = .ok (.aload_n 3, 1) := by decide +kernel
theorem dL_compiled_89 : decode cL_compiled 89 = .ok (.iload 4, 2) := by decide +kernel
theorem dL_compiled_91 : decode cL_compiled 91 = .ok (.iinc 4 1, 3) := by decide +kernel
theorem dL_compiled_94 : decode cL_compiled 94 = .ok (.iload 7, 2) := by decide +kernel
theorem dL_compiled_96 : decode cL_compiled 96 = .ok (.bipush 7, 2) := by decide +kernel
theorem dL_compiled_98 : decode cL_compiled 98 = .ok (.if_icmp .ne 8, 3) := by decide +kernel
theorem dL_compiled_101 : decode cL_compiled 101 = .ok (.bipush 42, 2) := by decide +kernel
theorem dL_compiled_103 : decode cL_compiled 103 = .ok (.goto 29, 3) := by decide +kernel
theorem dL_compiled_106 : decode cL_compiled 106 = .ok (.iload 7, 2) := by decide +kernel
theorem dL_compiled_108 : decode cL_compiled 108 = .ok (.bipush 8, 2) := by decide +kernel
theorem dL_compiled_110 : decode cL_compiled 110 = .ok (.if_icmp .ne 8, 3) := by decide +kernel
theorem dL_compiled_113 : decode cL_compiled 113 = .ok (.bipush 43, 2) := by decide +kernel
theorem dL_compiled_115 : decode cL_compiled 115 = .ok (.goto 17, 3) := by decide +kernel
theorem dL_compiled_118 : decode cL_compiled 118 = .ok (.iload 7, 2) := by decide +kernel
theorem dL_compiled_120 : decode cL_compiled 120 = .ok (.bipush 9, 2) := by decide +kernel
theorem dL_compiled_122 : decode cL_compiled 122 = .ok (.if_icmp .ne 8, 3) := by decide +kernel
theorem dL_compiled_125 : decode cL_compiled 125 = .ok (.bipush 63, 2) := by decide +kernel
theorem dL_compiled_127 : decode cL_compiled 127 = .ok (.goto 5, 3) := by decide +kernel
theorem dL_compiled_130 : decode cL_compiled 130 = .ok (.bipush 42, 2) := by decide +kernel
theorem dL_compiled_132 : decode cL_compiled 132 = .ok (.iastore, 1) := by decide +kernel
theorem dL_compiled_133 : decode cL_compiled 133 = .ok (.goto 75, 3) := by decide +kernel
theorem dL_compiled_136 : decode cL_compiled 136 = .ok (.iload 7, 2) := by decide +kernel
theorem dL_compiled_138 : decode cL_compiled 138 = .ok (.bipush 13, 2) := by decide +kernel
theorem dL_compiled_140 : decode cL_compiled 140 = .ok (.if_icmp .ge 15, 3) := by decide +kernel
theorem dL_compiled_143 : decode cL_compiled 143 = .ok (.aload_n 3, 1) := by decide +kernel
theorem dL_compiled_144 : decode cL_compiled 144 = .ok (.iload 4, 2) := by decide +kernel
theorem dL_compiled_146 : decode cL_compiled 146 = .ok (.iinc 4 1, 3) := by decide +kernel
theorem dL_compiled_149 : decode cL_compiled 149 = .ok (.bipush 124, 2) := by decide +kernel
theorem dL_compiled_151 : decode cL_compiled 151 = .ok (.iastore, 1) := by decide +kernel
theorem dL_compiled_152 : decode cL_compiled 152 = .ok (.goto 56, 3) := by decide +kernel
theorem dL_compiled_155 : decode cL_compiled 155 = .ok (.aload_n 3, 1) := by decide +kernel
theorem dL_compiled_156 : decode cL_compiled 156 = .ok (.iload 4, 2) := by decide +kernel
theorem dL_compiled_158 : decode cL_compiled 158 = .ok (.iinc 4 1, 3) := by decide +kernel
theorem dL_compiled_161 : decode cL_compiled 161 = .ok (.bipush 40, 2) := by decide +kernel
theorem dL_compiled_163 : decode cL_compiled 163 = .ok (.iastore, 1) := by decide +kernel
theorem dL_compiled_164 : decode cL_compiled 164 = .ok (.aload_n 3, 1) := by decide +kernel
theorem dL_compiled_165 : decode cL_compiled 165 = .ok (.iload 4, 2) := by decide +kernel
theorem dL_compiled_167 : decode cL_compiled 167 = .ok (.iinc 4 1, 3) := by decide +kernel
theorem dL_compiled_170 : decode cL_compiled 170 = .ok (.bipush 97, 2) := by decide +kernel
theorem dL_compiled_172 : decode cL_compiled 172 = .ok (.iload 7, 2) := by decide +kernel
theorem dL_compiled_174 : decode cL_compiled 174 = .ok (.iconst 3, 1) := by decide +kernel
theorem dL_compiled_175 : decode cL_compiled 175 = .ok (.irem, 1) := by decide +kernel
theorem dL_compiled_176 : decode cL_compiled 176 = .ok (.iadd, 1) := by decide +kernel
theorem dL_compiled_177 : decode cL_compiled 177 = .ok (.iastore, 1) := by decide +kernel
theorem dL_compiled_178 : decode cL_compiled 178 = .ok (.aload_n 3, 1) := by decide +kernel
theorem dL_compiled_179 : decode cL_compiled 179 = .ok (.iload 4, 2) := by decide +kernel
theorem dL_compiled_181 : decode cL_compiled 181 = .ok (.iinc 4 1, 3) := by decide +kernel
theorem dL_compiled_184 : decode cL_compiled 184 = .ok (.bipush 41, 2) := by decide +kernel
theorem dL_compiled_186 : decode cL_compiled 186 = .ok (.iastore, 1) := by decide +kernel
theorem dL_compiled_187 : decode cL_compiled 187 = .ok (.aload_n 3, 1) := by decide +kernel
theorem dL_compiled_188 : decode cL_compiled 188 = .ok (.iload 4, 2) := by decide +kernel
theorem dL_compiled_190 : decode cL_compiled 190 = .ok (.iinc 4 1, 3) := by decide +kernel
theorem dL_compiled_193 : decode cL_compiled 193 = .ok (.iload 7, 2) := by decide +kernel
theorem dL_compiled_195 : decode cL_compiled 195 = .ok (.bipush 14, 2) := by decide +kernel
theorem dL_compiled_197 : decode cL_compiled 197 = .ok (.if_icmp .ne 8, 3) := by decide +kernel
theorem dL_compiled_200 : decode cL_compiled 200 = .ok (.bipush 42, 2) := by decide +kernel
theorem dL_compiled_202 : decode cL_compiled 202 = .ok (.goto 5, 3) := by decide +kernel
theorem dL_compiled_205 : decode cL_compiled 205 = .ok (.bipush 63, 2) := by decide +kernel
theorem dL_compiled_207 : decode cL_compiled 207 = .ok (.iastore, 1) := by decide +kernel
theorem dL_compiled_208 : decode cL_compiled 208 = .ok (.iinc 6 1, 3) := by decide +kernel
theorem dL_compiled_211 : decode cL_compiled 211 = .ok (.goto (-197), 3) := by decide +kernel
theorem dL_compiled_214 : decode cL_compiled 214 = .ok (.iload 4, 2) := by decide +kernel
theorem dL_compiled_216 : decode cL_compiled 216 = .ok (.iconst 4, 1) := by decide +kernel
theorem dL_compiled_217 : decode cL_compiled 217 = .ok (.irem, 1) := by decide +kernel
theorem dL_compiled_218 : decode cL_compiled 218 = .ok (.ifCond .ne 18, 3) := by decide +kernel
theorem dL_compiled_221 : decode cL_compiled 221 = .ok (.iload 4, 2) := by decide +kernel
theorem dL_compiled_223 : decode cL_compiled 223 = .ok (.bipush 20, 2) := by decide +kernel
theorem dL_compiled_225 : decode cL_compiled 225 = .ok (.if_icmp .ge 23, 3) := by decide +kernel
theorem dL_compiled_228 : decode cL_compiled 228 = .ok (.iload 4, 2) := by decide +kernel
theorem dL_compiled_230 : decode cL_compiled 230 = .ok (.bipush 20, 2) := by decide +kernel
theorem dL_compiled_232 : decode cL_compiled 232 = .ok (.irem, 1) := by decide +kernel
theorem dL_compiled_233 : decode cL_compiled 233 = .ok (.ifCond .eq 15, 3) := by decide +kernel
theorem dL_compiled_236 : decode cL_compiled 236 = .ok (.aload_n 3, 1) := by decide +kernel
theorem dL_compiled_237 : decode cL_compiled 237 = .ok (.iload 4, 2) := by decide +kernel
theorem dL_compiled_239 : decode cL_compiled 239 = .ok (.iinc 4 1, 3) := by decide +kernel
theorem dL_compiled_242 : decode cL_compiled 242 = .ok (.bipush 97, 2) := by decide +kernel
theorem dL_compiled_244 : decode cL_compiled 244 = .ok (.iastore, 1) := by decide +kernel
theorem dL_compiled_245 : decode cL_compiled 245 = .ok (.goto (-31), 3) := by decide +kernel
theorem dL_compiled_248 : decode cL_compiled 248 = .ok (.aload_n 0, 1) := by decide +kernel
theorem dL_compiled_249 : decode cL_compiled 249 = .ok (.aload_n 3, 1) := by decide +kernel
theorem dL_compiled_250 : decode cL_compiled 250 = .ok (.iconst 0, 1) := by decide +kernel
theorem dL_compiled_251 : decode cL_compiled 251 = .ok (.iaload, 1) := by decide +kernel
theorem dL_compiled_252 : decode cL_compiled 252 = .ok (.bipush 24, 2) := by decide +kernel
theorem dL_compiled_254 : decode cL_compiled 254 = .ok (.ishl, 1) := by decide +kernel
theorem dL_compiled_255 : decode cL_compiled 255 = .ok (.aload_n 3, 1) := by decide +kernel
theorem dL_compiled_256 : decode cL_compiled 256 = .ok (.iconst 1, 1) := by decide +kernel
theorem dL_compiled_257 : decode cL_compiled 257 = .ok (.iaload, 1) := by decide +kernel
theorem dL_compiled_258 : decode cL_compiled 258 = .ok (.bipush 16, 2) := by decide +kernel
theorem dL_compiled_260 : decode cL_compiled 260 = .ok (.ishl, 1) := by decide +kernel
theorem dL_compiled_261 : decode cL_compiled 261 = .ok (.ior, 1) := by decide +kernel
theorem dL_compiled_262 : decode cL_compiled 262 = .ok (.aload_n 3, 1) := by decide +kernel
theorem dL_compiled_263 : decode cL_compiled 263 = .ok (.iconst 2, 1) := by decide +kernel
theorem dL_compiled_264 : decode cL_compiled 264 = .ok (.iaload, 1) := by decide +kernel
theorem dL_compiled_265 : decode cL_compiled 265 = .ok (.bipush 8, 2) := by decide +kernel
theorem dL_compiled_267 : decode cL_compiled 267 = .ok (.ishl, 1) := by decide +kernel
theorem dL_compiled_268 : decode cL_compiled 268 = .ok (.ior, 1) := by decide +kernel
theorem dL_compiled_269 : decode cL_compiled 269 = .ok (.aload_n 3, 1) := by decide +kernel
theorem dL_compiled_270 : decode cL_compiled 270 = .ok (.iconst 3, 1) := by decide +kernel
theorem dL_compiled_271 : decode cL_compiled 271 = .ok (.iaload, 1) := by decide +kernel
theorem dL_compiled_272 : decode cL_compiled 272 = .ok (.ior, 1) := by decide +kernel
theorem dL_compiled_273 : decode cL_compiled 273 = .ok (.aload_n 3, 1) := by decide +kernel
theorem dL_compiled_274 : decode cL_compiled 274 = .ok (.iconst 4, 1) := by decide +kernel
theorem dL_compiled_275 : decode cL_compiled 275 = .ok (.iaload, 1) := by decide +kernel
theorem dL_compiled_276 : decode cL_compiled 276 = .ok (.bipush 24, 2) := by decide +kernel
theorem dL_compiled_278 : decode cL_compiled 278 = .ok (.ishl, 1) := by decide +kernel
theorem dL_compiled_279 : decode cL_compiled 279 = .ok (.aload_n 3, 1) := by decide +kernel
theorem dL_compiled_280 : decode cL_compiled 280 = .ok (.iconst 5, 1) := by decide +kernel
theorem dL_compiled_281 : decode cL_compiled 281 = .ok (.iaload, 1) := by decide +kernel
theorem dL_compiled_282 : decode cL_compiled 282 = .ok (.bipush 16, 2) := by decide +kernel
theorem dL_compiled_284 : decode cL_compiled 284 = .ok (.ishl, 1) := by decide +kernel
theorem dL_compiled_285 : decode cL_compiled 285 = .ok (.ior, 1) := by decide +kernel
theorem dL_compiled_286 : decode cL_compiled 286 = .ok (.aload_n 3, 1) := by decide +kernel
theorem dL_compiled_287 : decode cL_compiled 287 = .ok (.bipush 6, 2) := by decide +kernel
theorem dL_compiled_289 : decode cL_compiled 289 = .ok (.iaload, 1) := by decide +kernel
theorem dL_compiled_290 : decode cL_compiled 290 = .ok (.bipush 8, 2) := by decide +kernel
theorem dL_compiled_292 : decode cL_compiled 292 = .ok (.ishl, 1) := by decide +kernel
theorem dL_compiled_293 : decode cL_compiled 293 = .ok (.ior, 1) := by decide +kernel
theorem dL_compiled_294 : decode cL_compiled 294 = .ok (.aload_n 3, 1) := by decide +kernel
theorem dL_compiled_295 : decode cL_compiled 295 = .ok (.bipush 7, 2) := by decide +kernel
theorem dL_compiled_297 : decode cL_compiled 297 = .ok (.iaload, 1) := by decide +kernel
theorem dL_compiled_298 : decode cL_compiled 298 = .ok (.ior, 1) := by decide +kernel
theorem dL_compiled_299 : decode cL_compiled 299 = .ok (.aload_n 3, 1) := by decide +kernel
theorem dL_compiled_300 : decode cL_compiled 300 = .ok (.bipush 8, 2) := by decide +kernel
theorem dL_compiled_302 : decode cL_compiled 302 = .ok (.iaload, 1) := by decide +kernel
theorem dL_compiled_303 : decode cL_compiled 303 = .ok (.bipush 24, 2) := by decide +kernel
theorem dL_compiled_305 : decode cL_compiled 305 = .ok (.ishl, 1) := by decide +kernel
theorem dL_compiled_306 : decode cL_compiled 306 = .ok (.aload_n 3, 1) := by decide +kernel
theorem dL_compiled_307 : decode cL_compiled 307 = .ok (.bipush 9, 2) := by decide +kernel
theorem dL_compiled_309 : decode cL_compiled 309 = .ok (.iaload, 1) := by decide +kernel
theorem dL_compiled_310 : decode cL_compiled 310 = .ok (.bipush 16, 2) := by decide +kernel
theorem dL_compiled_312 : decode cL_compiled 312 = .ok (.ishl, 1) := by decide +kernel
theorem dL_compiled_313 : decode cL_compiled 313 = .ok (.ior, 1) := by decide +kernel
theorem dL_compiled_314 : decode cL_compiled 314 = .ok (.aload_n 3, 1) := by decide +kernel
theorem dL_compiled_315 : decode cL_compiled 315 = .ok (.bipush 10, 2) := by decide +kernel
theorem dL_compiled_317 : decode cL_compiled 317 = .ok (.iaload, 1) := by decide +kernel
theorem dL_compiled_318 : decode cL_compiled 318 = .ok (.bipush 8, 2) := by decide +kernel
theorem dL_compiled_320 : decode cL_compiled 320 = .ok (.ishl, 1) := by decide +kernel
theorem dL_compiled_321 : decode cL_compiled 321 = .ok (.ior, 1) := by decide +kernel
theorem dL_compiled_322 : decode cL_compiled 322 = .ok (.aload_n 3, 1) := by decide +kernel
theorem dL_compiled_323 : decode cL_compiled 323 = .ok (.bipush 11, 2) := by decide +kernel
theorem dL_compiled_325 : decode cL_compiled 325 = .ok (.iaload, 1) := by decide +kernel
theorem dL_compiled_326 : decode cL_compiled 326 = .ok (.ior, 1) := by decide +kernel
theorem dL_compiled_327 : decode cL_compiled 327 = .ok (.aload_n 3, 1) := by decide +kernel
theorem dL_compiled_328 : decode cL_compiled 328 = .ok (.bipush 12, 2) := by decide +kernel
theorem dL_compiled_330 : decode cL_compiled 330 = .ok (.iaload, 1) := by decide +kernel
theorem dL_compiled_331 : decode cL_compiled 331 = .ok (.bipush 24, 2) := by decide +kernel
theorem dL_compiled_333 : decode cL_compiled 333 = .ok (.ishl, 1) := by decide +kernel
theorem dL_compiled_334 : decode cL_compiled 334 = .ok (.aload_n 3, 1) := by decide +kernel
theorem dL_compiled_335 : decode cL_compiled 335 = .ok (.bipush 13, 2) := by decide +kernel
theorem dL_compiled_337 : decode cL_compiled 337 = .ok (.iaload, 1) := by decide +kernel
theorem dL_compiled_338 : decode cL_compiled 338 = .ok (.bipush 16, 2) := by decide +kernel
theorem dL_compiled_340 : decode cL_compiled 340 = .ok (.ishl, 1) := by decide +kernel
theorem dL_compiled_341 : decode cL_compiled 341 = .ok (.ior, 1) := by decide +kernel
theorem dL_compiled_342 : decode cL_compiled 342 = .ok (.aload_n 3, 1) := by decide +kernel
theorem dL_compiled_343 : decode cL_compiled 343 = .ok (.bipush 14, 2) := by decide +kernel
theorem dL_compiled_345 : decode cL_compiled 345 = .ok (.iaload, 1) := by decide +kernel
theorem dL_compiled_346 : decode cL_compiled 346 = .ok (.bipush 8, 2) := by decide +kernel
theorem dL_compiled_348 : decode cL_compiled 348 = .ok (.ishl, 1) := by decide +kernel
theorem dL_compiled_349 : decode cL_compiled 349 = .ok (.ior, 1) := by decide +kernel
theorem dL_compiled_350 : decode cL_compiled 350 = .ok (.aload_n 3, 1) := by decide +kernel
theorem dL_compiled_351 : decode cL_compiled 351 = .ok (.bipush 15, 2) := by decide +kernel
theorem dL_compiled_353 : decode cL_compiled 353 = .ok (.iaload, 1) := by decide +kernel
theorem dL_compiled_354 : decode cL_compiled 354 = .ok (.ior, 1) := by decide +kernel
theorem dL_compiled_355 : decode cL_compiled 355 = .ok (.aload_n 3, 1) := by decide +kernel
theorem dL_compiled_356 : decode cL_compiled 356 = .ok (.bipush 16, 2) := by decide +kernel
theorem dL_compiled_358 : decode cL_compiled 358 = .ok (.iaload, 1) := by decide +kernel
theorem dL_compiled_359 : decode cL_compiled 359 = .ok (.bipush 24, 2) := by decide +kernel
theorem dL_compiled_361 : decode cL_compiled 361 = .ok (.ishl, 1) := by decide +kernel
theorem dL_compiled_362 : decode cL_compiled 362 = .ok (.aload_n 3, 1) := by decide +kernel
theorem dL_compiled_363 : decode cL_compiled 363 = .ok (.bipush 17, 2) := by decide +kernel
theorem dL_compiled_365 : decode cL_compiled 365 = .ok (.iaload, 1) := by decide +kernel
theorem dL_compiled_366 : decode cL_compiled 366 = .ok (.bipush 16, 2) := by decide +kernel
theorem dL_compiled_368 : decode cL_compiled 368 = .ok (.ishl, 1) := by decide +kernel
theorem dL_compiled_369 : decode cL_compiled 369 = .ok (.ior, 1) := by decide +kernel
theorem dL_compiled_370 : decode cL_compiled 370 = .ok (.aload_n 3, 1) := by decide +kernel
theorem dL_compiled_371 : decode cL_compiled 371 = .ok (.bipush 18, 2) := by decide +kernel
theorem dL_compiled_373 : decode cL_compiled 373 = .ok (.iaload, 1) := by decide +kernel
theorem dL_compiled_374 : decode cL_compiled 374 = .ok (.bipush 8, 2) := by decide +kernel
theorem dL_compiled_376 : decode cL_compiled 376 = .ok (.ishl, 1) := by decide +kernel
theorem dL_compiled_377 : decode cL_compiled 377 = .ok (.ior, 1) := by decide +kernel
theorem dL_compiled_378 : decode cL_compiled 378 = .ok (.aload_n 3, 1) := by decide +kernel
theorem dL_compiled_379 : decode cL_compiled 379 = .ok (.bipush 19, 2) := by decide +kernel
theorem dL_compiled_381 : decode cL_compiled 381 = .ok (.iaload, 1) := by decide +kernel
theorem dL_compiled_382 : decode cL_compiled 382 = .ok (.ior, 1) := by decide +kernel
theorem dL_compiled_383 : decode cL_compiled 383 = .ok (.invokevirtual 7, 3) := by decide +kernel
theorem dL_compiled_386 : decode cL_compiled 386 = .ok (.pop, 1) := by decide +kernel
theorem dL_compiled_387 : decode cL_compiled 387 = .ok (.aload_n 0, 1) := by decide +kernel
theorem dL_compiled_388 : decode cL_compiled 388 = .ok (.iload_n 2, 1) := by decide +kernel
theorem dL_compiled_389 : decode cL_compiled 389 = .ok (.invokestatic 13, 3) := by decide +kernel
theorem dL_compiled_392 : decode cL_compiled 392 = .ok (.invokevirtual 19, 3) := by decide +kernel
theorem dL_compiled_395 : decode cL_compiled 395 = .ok (.iload_n 2, 1) := by decide +kernel
theorem dL_compiled_396 : decode cL_compiled 396 = .ok (.invokestatic 13, 3) := by decide +kernel
theorem dL_compiled_399 : decode cL_compiled 399 = .ok (.if_icmp .ne 16, 3) := by decide +kernel
theorem dL_compiled_402 : decode cL_compiled 402 = .ok (.aload_n 0, 1) := by decide +kernel
theorem dL_compiled_403 : decode cL_compiled 403 = .ok (.iload_n 1, 1) := by decide +kernel
theorem dL_compiled_404 : decode cL_compiled 404 = .ok (.invokevirtual 22, 3) := by decide +kernel
theorem dL_compiled_407 : decode cL_compiled 407 = .ok (.iconst (-1), 1) := by decide +kernel
theorem dL_compiled_408 : decode cL_compiled 408 = .ok (.if_icmp .eq 7, 3) := by decide +kernel
theorem dL_compiled_411 : decode cL_compiled 411 = .ok (.iconst 1, 1) := by decide +kernel
theorem dL_compiled_412 : decode cL_compiled 412 = .ok (.goto 4, 3) := by decide +kernel
theorem dL_compiled_415 : decode cL_compiled 415 = .ok (.iconst 0, 1) := by decide +kernel
theorem dL_compiled_416 : decode cL_compiled 416 = .ok (.ireturn, 1) := by decide +kernel
theorem dL_len_0 : decode cL_len 0 = .ok (.iconst 0, 1) := by decide +kernel
theorem dL_len_1 : decode cL_len 1 = .ok (.istore_n 1, 1) := by decide +kernel
theorem dL_len_2 : decode cL_len 2 = .ok (.iload_n 0, 1) := by decide +kernel
theorem dL_len_3 : decode cL_len 3 = .ok (.istore_n 2, 1) := by decide +kernel
theorem dL_len_4 : decode cL_len 4 = .ok (.iconst 0, 1) := by decide +kernel
theorem dL_len_5 : decode cL_len 5 = .ok (.istore_n 3, 1) := by decide +kernel
theorem dL_len_6 : decode cL_len 6 = .ok (.iload_n 3, 1) := by decide +kernel
theorem dL_len_7 : decode cL_len 7 = .ok (.iconst 5, 1) := by decide +kernel
theorem dL_len_8 : decode cL_len 8 = .ok (.if_icmp .ge 56, 3) := by decide +kernel
theorem dL_len_11 : decode cL_len 11 = .ok (.iload_n 2, 1) := by decide +kernel
theorem dL_len_12 : decode cL_len 12 = .ok (.bipush 15, 2) := by decide +kernel
theorem dL_len_14 : decode cL_len 14 = .ok (.iand, 1) := by decide +kernel
theorem dL_len_15 : decode cL_len 15 = .ok (.istore 4, 2) := by decide +kernel
theorem dL_len_17 : decode cL_len 17 = .ok (.iload_n 2, 1) := by decide +kernel
theorem dL_len_18 : decode cL_len 18 = .ok (.iconst 4, 1) := by decide +kernel
theorem dL_len_19 : decode cL_len 19 = .ok (.iushr, 1) := by decide +kernel
theorem dL_len_20 : decode cL_len 20 = .ok (.istore_n 2, 1) := by decide +kernel
theorem dL_len_21 : decode cL_len 21 = .ok (.iload_n 1, 1) := by decide +kernel
theorem dL_len_22 : decode cL_len 22 = .ok (.iload 4, 2) := by decide +kernel
theorem dL_len_24 : decode cL_len 24 = .ok (.bipush 7, 2) := by decide +kernel
theorem dL_len_26 : decode cL_len 26 = .ok (.if_icmp .ge 7, 3) := by decide +kernel
theorem dL_len_29 : decode cL_len 29 = .ok (.iconst 1, 1) := by decide +kernel
theorem dL_len_30 : decode cL_len 30 = .ok (.goto 26, 3) := by decide +kernel
theorem dL_len_33 : decode cL_len 33 = .ok (.iload 4, 2) := by decide +kernel
theorem dL_len_35 : decode cL_len 35 = .ok (.bipush 11, 2) := by decide +kernel
theorem dL_len_37 : decode cL_len 37 = .ok (.if_icmp .ge 7, 3) := by decide +kernel
theorem dL_len_40 : decode cL_len 40 = .ok (.iconst 2, 1) := by decide +kernel
theorem dL_len_41 : decode cL_len 41 = .ok (.goto 15, 3) := by decide +kernel
theorem dL_len_44 : decode cL_len 44 = .ok (.iload 4, 2) := by decide +kernel
theorem dL_len_46 : decode cL_len 46 = .ok (.bipush 13, 2) := by decide +kernel
theorem dL_len_48 : decode cL_len 48 = .ok (.if_icmp .ge 7, 3) := by decide +kernel
theorem dL_len_51 : decode cL_len 51 = .ok (.iconst 1, 1) := by decide +kernel
theorem dL_len_52 : decode cL_len 52 = .ok (.goto 4, 3) := by decide +kernel
theorem dL_len_55 : decode cL_len 55 = .ok (.iconst 4, 1) := by decide +kernel
theorem dL_len_56 : decode cL_len 56 = .ok (.iadd, 1) := by decide +kernel
theorem dL_len_57 : decode cL_len 57 = .ok (.istore_n 1, 1) := by decide +kernel
theorem dL_len_58 : decode cL_len 58 = .ok (.iinc 3 1, 3) := by decide +kernel
theorem dL_len_61 : decode cL_len 61 = .ok (.goto (-55), 3) := by decide +kernel
theorem dL_len_64 : decode cL_len 64 = .ok (.iload_n 1, 1) := by decide +kernel
theorem dL_len_65 : decode cL_len 65 = .ok (.ireturn, 1) := by decide +kernel
theorem dL_word_0 : decode cL_word 0 = .ok (.iload_n 1, 1) := by decide +kernel
theorem dL_word_1 : decode cL_word 1 = .ok (.istore_n 3, 1) := by decide +kernel
theorem dL_word_2 : decode cL_word 2 = .ok (.iconst 0, 1) := by decide +kernel
theorem dL_word_3 : decode cL_word 3 = .ok (.istore 4, 2) := by decide +kernel
theorem dL_word_5 : decode cL_word 5 = .ok (.iconst 0, 1) := by decide +kernel
theorem dL_word_6 : decode cL_word 6 = .ok (.istore 5, 2) := by decide +kernel
theorem dL_word_8 : decode cL_word 8 = .ok (.iconst 0, 1) := by decide +kernel
theorem dL_word_9 : decode cL_word 9 = .ok (.istore 6, 2) := by decide +kernel
theorem dL_word_11 : decode cL_word 11 = .ok (.iload 6, 2) := by decide +kernel
theorem dL_word_13 : decode cL_word 13 = .ok (.iload_n 2, 1) := by decide +kernel
theorem dL_word_14 : decode cL_word 14 = .ok (.if_icmp .ge 66, 3) := by decide +kernel
theorem dL_word_17 : decode cL_word 17 = .ok (.bipush 97, 2) := by decide +kernel
theorem dL_word_19 : decode cL_word 19 = .ok (.iload_n 3, 1) := by decide +kernel
theorem dL_word_20 : decode cL_word 20 = .ok (.bipush 6, 2) := by decide +kernel
theorem dL_word_22 : decode cL_word 22 = .ok (.irem, 1) := by decide +kernel
theorem dL_word_23 : decode cL_word 23 = .ok (.iadd, 1) := by decide +kernel
theorem dL_word_24 : decode cL_word 24 = .ok (.istore 7, 2) := by decide +kernel
theorem dL_word_26 : decode cL_word 26 = .ok (.iload_n 3, 1) := by decide +kernel
theorem dL_word_27 : decode cL_word 27 = .ok (.bipush 6, 2) := by decide +kernel
theorem dL_word_29 : decode cL_word 29 = .ok (.idiv, 1) := by decide +kernel
theorem dL_word_30 : decode cL_word 30 = .ok (.istore_n 3, 1) := by decide +kernel
theorem dL_word_31 : decode cL_word 31 = .ok (.iload 6, 2) := by decide +kernel
theorem dL_word_33 : decode cL_word 33 = .ok (.iconst 4, 1) := by decide +kernel
theorem dL_word_34 : decode cL_word 34 = .ok (.if_icmp .ge 22, 3) := by decide +kernel
theorem dL_word_37 : decode cL_word 37 = .ok (.iload 4, 2) := by decide +kernel
theorem dL_word_39 : decode cL_word 39 = .ok (.iload 7, 2) := by decide +kernel
theorem dL_word_41 : decode cL_word 41 = .ok (.bipush 24, 2) := by decide +kernel
theorem dL_word_43 : decode cL_word 43 = .ok (.bipush 8, 2) := by decide +kernel
theorem dL_word_45 : decode cL_word 45 = .ok (.iload 6, 2) := by decide +kernel
theorem dL_word_47 : decode cL_word 47 = .ok (.imul, 1) := by decide +kernel
theorem dL_word_48 : decode cL_word 48 = .ok (.isub, 1) := by decide +kernel
theorem dL_word_49 : decode cL_word 49 = .ok (.ishl, 1) := by decide +kernel
theorem dL_word_50 : decode cL_word 50 = .ok (.ior, 1) := by decide +kernel
theorem dL_word_51 : decode cL_word 51 = .ok (.istore 4, 2) := by decide +kernel
theorem dL_word_53 : decode cL_word 53 = .ok (.goto 21, 3) := by decide +kernel
theorem dL_word_56 : decode cL_word 56 = .ok (.iload 5, 2) := by decide +kernel
theorem dL_word_58 : decode cL_word 58 = .ok (.iload 7, 2) := by decide +kernel
theorem dL_word_60 : decode cL_word 60 = .ok (.bipush 24, 2) := by decide +kernel
theorem dL_word_62 : decode cL_word 62 = .ok (.bipush 8, 2) := by decide +kernel
theorem dL_word_64 : decode cL_word 64 = .ok (.iload 6, 2) := by decide +kernel
theorem dL_word_66 : decode cL_word 66 = .ok (.iconst 4, 1) := by decide +kernel
theorem dL_word_67 : decode cL_word 67 = .ok (.isub, 1) := by decide +kernel
theorem dL_word_68 : decode cL_word 68 = .ok (.imul, 1) := by decide +kernel
theorem dL_word_69 : decode cL_word 69 = .ok (.isub, 1) := by decide +kernel
theorem dL_word_70 : decode cL_word 70 = .ok (.ishl, 1) := by decide +kernel
theorem dL_word_71 : decode cL_word 71 = .ok (.ior, 1) := by decide +kernel
theorem dL_word_72 : decode cL_word 72 = .ok (.istore 5, 2) := by decide +kernel
theorem dL_word_74 : decode cL_word 74 = .ok (.iinc 6 1, 3) := by decide +kernel
theorem dL_word_77 : decode cL_word 77 = .ok (.goto (-66), 3) := by decide +kernel
theorem dL_word_80 : decode cL_word 80 = .ok (.aload_n 0, 1) := by decide +kernel
theorem dL_word_81 : decode cL_word 81 = .ok (.iconst 0, 1) := by decide +kernel
theorem dL_word_82 : decode cL_word 82 = .ok (.invokevirtual 19, 3) := by decide +kernel
theorem dL_word_85 : decode cL_word 85 = .ok (.pop, 1) := by decide +kernel
theorem dL_word_86 : decode cL_word 86 = .ok (.aload_n 0, 1) := by decide +kernel
theorem dL_word_87 : decode cL_word 87 = .ok (.iload 4, 2) := by decide +kernel
theorem dL_word_89 : decode cL_word 89 = .ok (.iload 5, 2) := by decide +kernel
theorem dL_word_91 : decode cL_word 91 = .ok (.iconst 0, 1) := by decide +kernel
theorem dL_word_92 : decode cL_word 92 = .ok (.iconst 0, 1) := by decide +kernel
theorem dL_word_93 : decode cL_word 93 = .ok (.iconst 0, 1) := by decide +kernel
theorem dL_word_94 : decode cL_word 94 = .ok (.invokevirtual 7, 3) := by decide +kernel
theorem dL_word_97 : decode cL_word 97 = .ok (.pop, 1) := by decide +kernel
theorem dL_word_98 : decode cL_word 98 = .ok (.aload_n 0, 1) := by decide +kernel
theorem dL_word_99 : decode cL_word 99 = .ok (.iload_n 2, 1) := by decide +kernel
theorem dL_word_100 : decode cL_word 100 = .ok (.invokevirtual 19, 3) := by decide +kernel
theorem dL_word_103 : decode cL_word 103 = .ok (.pop, 1) := by decide +kernel
theorem dL_word_104 : decode cL_word 104 = .ok (.return_, 1) := by decide +kernel
theorem dL_isPath_0 : decode cL_isPath 0 = .ok (.iload_n 3, 1) := by decide +kernel
theorem dL_isPath_1 : decode cL_isPath 1 = .ok (.ifCond .ne 9, 3) := by decide +kernel
theorem dL_isPath_4 : decode cL_isPath 4 = .ok (.aload_n 0, 1) := by decide +kernel
theorem dL_isPath_5 : decode cL_isPath 5 = .ok (.iload_n 1, 1) := by decide +kernel
theorem dL_isPath_6 : decode cL_isPath 6 = .ok (.invokevirtual 25, 3) := by decide +kernel
theorem dL_isPath_9 : decode cL_isPath 9 = .ok (.ireturn, 1) := by decide +kernel
theorem dL_isPath_10 : decode cL_isPath 10 = .ok (.iload_n 2, 1) := by decide +kernel
theorem dL_isPath_11 : decode cL_isPath 11 = .ok (.istore 4, 2) := by decide +kernel
theorem dL_isPath_13 : decode cL_isPath 13 = .ok (.iconst 0, 1) := by decide +kernel
theorem dL_isPath_14 : decode cL_isPath 14 = .ok (.istore 5, 2) := by decide +kernel
theorem dL_isPath_16 : decode cL_isPath 16 = .ok (.iconst 0, 1) := by decide +kernel
theorem dL_isPath_17 : decode cL_isPath 17 = .ok (.istore 6, 2) := by decide +kernel
theorem dL_isPath_19 : decode cL_isPath 19 = .ok (.iload 6, 2) := by decide +kernel
theorem dL_isPath_21 : decode cL_isPath 21 = .ok (.iload_n 3, 1) := by decide +kernel
theorem dL_isPath_22 : decode cL_isPath 22 = .ok (.if_icmp .ge 162, 3) := by decide +kernel
theorem dL_isPath_25 : decode cL_isPath 25 = .ok (.iload 4, 2) := by decide +kernel
theorem dL_isPath_27 : decode cL_isPath 27 = .ok (.bipush 6, 2) := by decide +kernel
theorem dL_isPath_29 : decode cL_isPath 29 = .ok (.irem, 1) := by decide +kernel
theorem dL_isPath_30 : decode cL_isPath 30 = .ok (.istore 7, 2) := by decide +kernel
theorem dL_isPath_32 : decode cL_isPath 32 = .ok (.iconst 0, 1) := by decide +kernel
theorem dL_isPath_33 : decode cL_isPath 33 = .ok (.istore 8, 2) := by decide +kernel
theorem dL_isPath_35 : decode cL_isPath 35 = .ok (.iconst 0, 1) := by decide +kernel
theorem dL_isPath_36 : decode cL_isPath 36 = .ok (.istore 9, 2) := by decide +kernel
theorem dL_isPath_38 : decode cL_isPath 38 = .ok (.iload 4, 2) := by decide +kernel
theorem dL_isPath_40 : decode cL_isPath 40 = .ok (.bipush 6, 2) := by decide +kernel
theorem dL_isPath_42 : decode cL_isPath 42 = .ok (.idiv, 1) := by decide +kernel
theorem dL_isPath_43 : decode cL_isPath 43 = .ok (.istore 4, 2) := by decide +kernel
theorem dL_isPath_45 : decode cL_isPath 45 = .ok (.iload 6, 2) := by decide +kernel
theorem dL_isPath_47 : decode cL_isPath 47 = .ok (.ifCond .ne 10, 3) := by decide +kernel
theorem dL_isPath_50 : decode cL_isPath 50 = .ok (.aload_n 0, 1) := by decide +kernel
theorem dL_isPath_51 : decode cL_isPath 51 = .ok (.iload_n 1, 1) := by decide +kernel
theorem dL_isPath_52 : decode cL_isPath 52 = .ok (.invokevirtual 29, 3) := by decide +kernel
theorem dL_isPath_55 : decode cL_isPath 55 = .ok (.istore 8, 2) := by decide +kernel
theorem dL_isPath_57 : decode cL_isPath 57 = .ok (.iconst 1, 1) := by decide +kernel
theorem dL_isPath_58 : decode cL_isPath 58 = .ok (.istore 10, 2) := by decide +kernel
theorem dL_isPath_60 : decode cL_isPath 60 = .ok (.iload 10, 2) := by decide +kernel
theorem dL_isPath_62 : decode cL_isPath 62 = .ok (.aload_n 0, 1) := by decide +kernel
theorem dL_isPath_63 : decode cL_isPath 63 = .ok (.iload_n 1, 1) := by decide +kernel
theorem dL_isPath_64 : decode cL_isPath 64 = .ok (.invokevirtual 32, 3) := by decide +kernel
theorem dL_isPath_67 : decode cL_isPath 67 = .ok (.if_icmp .gt 41, 3) := by decide +kernel
theorem dL_isPath_70 : decode cL_isPath 70 = .ok (.iload 6, 2) := by decide +kernel
theorem dL_isPath_72 : decode cL_isPath 72 = .ok (.ifCond .le 36, 3) := by decide +kernel
theorem dL_isPath_75 : decode cL_isPath 75 = .ok (.iload 8, 2) := by decide +kernel
theorem dL_isPath_77 : decode cL_isPath 77 = .ok (.iload 5, 2) := by decide +kernel
theorem dL_isPath_79 : decode cL_isPath 79 = .ok (.iload 10, 2) := by decide +kernel
theorem dL_isPath_81 : decode cL_isPath 81 = .ok (.ishr, 1) := by decide +kernel
theorem dL_isPath_82 : decode cL_isPath 82 = .ok (.iconst 1, 1) := by decide +kernel
theorem dL_isPath_83 : decode cL_isPath 83 = .ok (.iand, 1) := by decide +kernel
theorem dL_isPath_84 : decode cL_isPath 84 = .ok (.iconst 1, 1) := by decide +kernel
theorem dL_isPath_85 : decode cL_isPath 85 = .ok (.if_icmp .ne 13, 3) := by decide +kernel
theorem dL_isPath_88 : decode cL_isPath 88 = .ok (.aload_n 0, 1) := by decide +kernel
theorem dL_isPath_89 : decode cL_isPath 89 = .ok (.iload_n 1, 1) := by decide +kernel
theorem dL_isPath_90 : decode cL_isPath 90 = .ok (.iload 10, 2) := by decide +kernel
theorem dL_isPath_92 : decode cL_isPath 92 = .ok (.invokevirtual 35, 3) := by decide +kernel
theorem dL_isPath_95 : decode cL_isPath 95 = .ok (.goto 4, 3) := by decide +kernel
theorem dL_isPath_98 : decode cL_isPath 98 = .ok (.iconst 0, 1) := by decide +kernel
theorem dL_isPath_99 : decode cL_isPath 99 = .ok (.ior, 1) := by decide +kernel
theorem dL_isPath_100 : decode cL_isPath 100 = .ok (.istore 8, 2) := by decide +kernel
theorem dL_isPath_102 : decode cL_isPath 102 = .ok (.iinc 10 1, 3) := by decide +kernel
theorem dL_isPath_105 : decode cL_isPath 105 = .ok (.goto (-45), 3) := by decide +kernel
theorem dL_isPath_108 : decode cL_isPath 108 = .ok (.iconst 1, 1) := by decide +kernel
theorem dL_isPath_109 : decode cL_isPath 109 = .ok (.istore 10, 2) := by decide +kernel
theorem dL_isPath_111 : decode cL_isPath 111 = .ok (.iload 10, 2) := by decide +kernel
theorem dL_isPath_113 : decode cL_isPath 113 = .ok (.aload_n 0, 1) := by decide +kernel
theorem dL_isPath_114 : decode cL_isPath 114 = .ok (.iload_n 1, 1) := by decide +kernel
theorem dL_isPath_115 : decode cL_isPath 115 = .ok (.invokevirtual 32, 3) := by decide +kernel
theorem dL_isPath_118 : decode cL_isPath 118 = .ok (.if_icmp .gt 56, 3) := by decide +kernel
theorem dL_isPath_121 : decode cL_isPath 121 = .ok (.iload 9, 2) := by decide +kernel
theorem dL_isPath_123 : decode cL_isPath 123 = .ok (.iload 8, 2) := by decide +kernel
theorem dL_isPath_125 : decode cL_isPath 125 = .ok (.iload 10, 2) := by decide +kernel
theorem dL_isPath_127 : decode cL_isPath 127 = .ok (.ishr, 1) := by decide +kernel
theorem dL_isPath_128 : decode cL_isPath 128 = .ok (.iconst 1, 1) := by decide +kernel
theorem dL_isPath_129 : decode cL_isPath 129 = .ok (.iand, 1) := by decide +kernel
theorem dL_isPath_130 : decode cL_isPath 130 = .ok (.iconst 1, 1) := by decide +kernel
theorem dL_isPath_131 : decode cL_isPath 131 = .ok (.if_icmp .ne 33, 3) := by decide +kernel
theorem dL_isPath_134 : decode cL_isPath 134 = .ok (.aload_n 0, 1) := by decide +kernel
theorem dL_isPath_135 : decode cL_isPath 135 = .ok (.iload_n 1, 1) := by decide +kernel
theorem dL_isPath_136 : decode cL_isPath 136 = .ok (.iload 10, 2) := by decide +kernel
theorem dL_isPath_138 : decode cL_isPath 138 = .ok (.invokevirtual 39, 3) := by decide +kernel
theorem dL_isPath_141 : decode cL_isPath 141 = .ok (.iload 7, 2) := by decide +kernel
theorem dL_isPath_143 : decode cL_isPath 143 = .ok (.if_icmp .eq 14, 3) := by decide +kernel
theorem dL_isPath_146 : decode cL_isPath 146 = .ok (.aload_n 0, 1) := by decide +kernel
theorem dL_isPath_147 : decode cL_isPath 147 = .ok (.iload_n 1, 1) := by decide +kernel
theorem dL_isPath_148 : decode cL_isPath 148 = .ok (.iload 10, 2) := by decide +kernel
theorem dL_isPath_150 : decode cL_isPath 150 = .ok (.invokevirtual 39, 3) := by decide +kernel
theorem dL_isPath_153 : decode cL_isPath 153 = .ok (.iconst (-1), 1) := by decide +kernel
theorem dL_isPath_154 : decode cL_isPath 154 = .ok (.if_icmp .ne 10, 3) := by decide +kernel
theorem dL_isPath_157 : decode cL_isPath 157 = .ok (.iconst 1, 1) := by decide +kernel
theorem dL_isPath_158 : decode cL_isPath 158 = .ok (.iload 10, 2) := by decide +kernel
theorem dL_isPath_160 : decode cL_isPath 160 = .ok (.ishl, 1) := by decide +kernel
theorem dL_isPath_161 : decode cL_isPath 161 = .ok (.goto 4, 3) := by decide +kernel
theorem dL_isPath_164 : decode cL_isPath 164 = .ok (.iconst 0, 1) := by decide +kernel
theorem dL_isPath_165 : decode cL_isPath 165 = .ok (.ior, 1) := by decide +kernel
theorem dL_isPath_166 : decode cL_isPath 166 = .ok (.istore 9, 2) := by decide +kernel
theorem dL_isPath_168 : decode cL_isPath 168 = .ok (.iinc 10 1, 3) := by decide +kernel
theorem dL_isPath_171 : decode cL_isPath 171 = .ok (.goto (-60), 3) := by decide +kernel
theorem dL_isPath_174 : decode cL_isPath 174 = .ok (.iload 9, 2) := by decide +kernel
theorem dL_isPath_176 : decode cL_isPath 176 = .ok (.istore 5, 2) := by decide +kernel
theorem dL_isPath_178 : decode cL_isPath 178 = .ok (.iinc 6 1, 3) := by decide +kernel
theorem dL_isPath_181 : decode cL_isPath 181 = .ok (.goto (-162), 3) := by decide +kernel
theorem dL_isPath_184 : decode cL_isPath 184 = .ok (.iload 5, 2) := by decide +kernel
theorem dL_isPath_186 : decode cL_isPath 186 = .ok (.aload_n 0, 1) := by decide +kernel
theorem dL_isPath_187 : decode cL_isPath 187 = .ok (.iload_n 1, 1) := by decide +kernel
theorem dL_isPath_188 : decode cL_isPath 188 = .ok (.invokevirtual 42, 3) := by decide +kernel
theorem dL_isPath_191 : decode cL_isPath 191 = .ok (.iand, 1) := by decide +kernel
theorem dL_isPath_192 : decode cL_isPath 192 = .ok (.ifCond .eq 7, 3) := by decide +kernel
theorem dL_isPath_195 : decode cL_isPath 195 = .ok (.iconst 1, 1) := by decide +kernel
theorem dL_isPath_196 : decode cL_isPath 196 = .ok (.goto 4, 3) := by decide +kernel
theorem dL_isPath_199 : decode cL_isPath 199 = .ok (.iconst 0, 1) := by decide +kernel
theorem dL_isPath_200 : decode cL_isPath 200 = .ok (.ireturn, 1) := by decide +kernel
theorem dL_isRun_0 : decode cL_isRun 0 = .ok (.iload_n 2, 1) := by decide +kernel
theorem dL_isRun_1 : decode cL_isRun 1 = .ok (.istore 4, 2) := by decide +kernel
theorem dL_isRun_3 : decode cL_isRun 3 = .ok (.iconst 0, 1) := by decide +kernel
theorem dL_isRun_4 : decode cL_isRun 4 = .ok (.istore 5, 2) := by decide +kernel
theorem dL_isRun_6 : decode cL_isRun 6 = .ok (.iconst 0, 1) := by decide +kernel
theorem dL_isRun_7 : decode cL_isRun 7 = .ok (.istore 6, 2) := by decide +kernel
theorem dL_isRun_9 : decode cL_isRun 9 = .ok (.iload 6, 2) := by decide +kernel
theorem dL_isRun_11 : decode cL_isRun 11 = .ok (.iload_n 3, 1) := by decide +kernel
theorem dL_isRun_12 : decode cL_isRun 12 = .ok (.if_icmp .ge 30, 3) := by decide +kernel
theorem dL_isRun_15 : decode cL_isRun 15 = .ok (.aload_n 0, 1) := by decide +kernel
theorem dL_isRun_16 : decode cL_isRun 16 = .ok (.iload_n 1, 1) := by decide +kernel
theorem dL_isRun_17 : decode cL_isRun 17 = .ok (.iload 5, 2) := by decide +kernel
theorem dL_isRun_19 : decode cL_isRun 19 = .ok (.iload 4, 2) := by decide +kernel
theorem dL_isRun_21 : decode cL_isRun 21 = .ok (.bipush 6, 2) := by decide +kernel
theorem dL_isRun_23 : decode cL_isRun 23 = .ok (.irem, 1) := by decide +kernel
theorem dL_isRun_24 : decode cL_isRun 24 = .ok (.invokevirtual 45, 3) := by decide +kernel
theorem dL_isRun_27 : decode cL_isRun 27 = .ok (.istore 5, 2) := by decide +kernel
theorem dL_isRun_29 : decode cL_isRun 29 = .ok (.iload 4, 2) := by decide +kernel
theorem dL_isRun_31 : decode cL_isRun 31 = .ok (.bipush 6, 2) := by decide +kernel
theorem dL_isRun_33 : decode cL_isRun 33 = .ok (.idiv, 1) := by decide +kernel
theorem dL_isRun_34 : decode cL_isRun 34 = .ok (.istore 4, 2) := by decide +kernel
theorem dL_isRun_36 : decode cL_isRun 36 = .ok (.iinc 6 1, 3) := by decide +kernel
theorem dL_isRun_39 : decode cL_isRun 39 = .ok (.goto (-30), 3) := by decide +kernel
theorem dL_isRun_42 : decode cL_isRun 42 = .ok (.aload_n 0, 1) := by decide +kernel
theorem dL_isRun_43 : decode cL_isRun 43 = .ok (.iload_n 1, 1) := by decide +kernel
theorem dL_isRun_44 : decode cL_isRun 44 = .ok (.iload 5, 2) := by decide +kernel
theorem dL_isRun_46 : decode cL_isRun 46 = .ok (.invokevirtual 49, 3) := by decide +kernel
theorem dL_isRun_49 : decode cL_isRun 49 = .ok (.ireturn, 1) := by decide +kernel
theorem dL_knows_0 : decode cL_knows 0 = .ok (.iconst 0, 1) := by decide +kernel
theorem dL_knows_1 : decode cL_knows 1 = .ok (.istore_n 3, 1) := by decide +kernel
theorem dL_knows_2 : decode cL_knows 2 = .ok (.iload_n 3, 1) := by decide +kernel
theorem dL_knows_3 : decode cL_knows 3 = .ok (.bipush 24, 2) := by decide +kernel
theorem dL_knows_5 : decode cL_knows 5 = .ok (.if_icmp .ge 147, 3) := by decide +kernel
theorem dL_knows_8 : decode cL_knows 8 = .ok (.iload_n 3, 1) := by decide +kernel
theorem dL_knows_9 : decode cL_knows 9 = .ok (.bipush 6, 2) := by decide +kernel
theorem dL_knows_11 : decode cL_knows 11 = .ok (.if_icmp .ge 7, 3) := by decide +kernel
theorem dL_knows_14 : decode cL_knows 14 = .ok (.iconst 1, 1) := by decide +kernel
theorem dL_knows_15 : decode cL_knows 15 = .ok (.goto 35, 3) := by decide +kernel
theorem dL_knows_18 : decode cL_knows 18 = .ok (.iload_n 3, 1) := by decide +kernel
theorem dL_knows_19 : decode cL_knows 19 = .ok (.bipush 16, 2) := by decide +kernel
theorem dL_knows_21 : decode cL_knows 21 = .ok (.if_icmp .ge 7, 3) := by decide +kernel
theorem dL_knows_24 : decode cL_knows 24 = .ok (.iconst 2, 1) := by decide +kernel
theorem dL_knows_25 : decode cL_knows 25 = .ok (.goto 25, 3) := by decide +kernel
theorem dL_knows_28 : decode cL_knows 28 = .ok (.iload_n 3, 1) := by decide +kernel
theorem dL_knows_29 : decode cL_knows 29 = .ok (.bipush 20, 2) := by decide +kernel
theorem dL_knows_31 : decode cL_knows 31 = .ok (.if_icmp .ge 7, 3) := by decide +kernel
theorem dL_knows_34 : decode cL_knows 34 = .ok (.iconst 3, 1) := by decide +kernel
theorem dL_knows_35 : decode cL_knows 35 = .ok (.goto 15, 3) := by decide +kernel
theorem dL_knows_38 : decode cL_knows 38 = .ok (.iload_n 3, 1) := by decide +kernel
theorem dL_knows_39 : decode cL_knows 39 = .ok (.bipush 22, 2) := by decide +kernel
theorem dL_knows_41 : decode cL_knows 41 = .ok (.if_icmp .ge 7, 3) := by decide +kernel
theorem dL_knows_44 : decode cL_knows 44 = .ok (.iconst 5, 1) := by decide +kernel
theorem dL_knows_45 : decode cL_knows 45 = .ok (.goto 5, 3) := by decide +kernel
theorem dL_knows_48 : decode cL_knows 48 = .ok (.bipush 8, 2) := by decide +kernel
theorem dL_knows_50 : decode cL_knows 50 = .ok (.istore 4, 2) := by decide +kernel
theorem dL_knows_52 : decode cL_knows 52 = .ok (.iload_n 2, 1) := by decide +kernel
theorem dL_knows_53 : decode cL_knows 53 = .ok (.iload_n 3, 1) := by decide +kernel
theorem dL_knows_54 : decode cL_knows 54 = .ok (.bipush 13, 2) := by decide +kernel
theorem dL_knows_56 : decode cL_knows 56 = .ok (.irem, 1) := by decide +kernel
theorem dL_knows_57 : decode cL_knows 57 = .ok (.iushr, 1) := by decide +kernel
theorem dL_knows_58 : decode cL_knows 58 = .ok (.iconst 2, 1) := by decide +kernel
theorem dL_knows_59 : decode cL_knows 59 = .ok (.iload_n 3, 1) := by decide +kernel
theorem dL_knows_60 : decode cL_knows 60 = .ok (.imul, 1) := by decide +kernel
theorem dL_knows_61 : decode cL_knows 61 = .ok (.iconst 1, 1) := by decide +kernel
theorem dL_knows_62 : decode cL_knows 62 = .ok (.iadd, 1) := by decide +kernel
theorem dL_knows_63 : decode cL_knows 63 = .ok (.imul, 1) := by decide +kernel
theorem dL_knows_64 : decode cL_knows 64 = .ok (.ldc 53, 2) := by decide +kernel
theorem dL_knows_66 : decode cL_knows 66 = .ok (.iand, 1) := by decide +kernel
theorem dL_knows_67 : decode cL_knows 67 = .ok (.istore 5, 2) := by decide +kernel
theorem dL_knows_69 : decode cL_knows 69 = .ok (.aload_n 0, 1) := by decide +kernel
theorem dL_knows_70 : decode cL_knows 70 = .ok (.iload_n 1, 1) := by decide +kernel
theorem dL_knows_71 : decode cL_knows 71 = .ok (.iload_n 3, 1) := by decide +kernel
theorem dL_knows_72 : decode cL_knows 72 = .ok (.bipush 6, 2) := by decide +kernel
theorem dL_knows_74 : decode cL_knows 74 = .ok (.if_icmp .ge 7, 3) := by decide +kernel
theorem dL_knows_77 : decode cL_knows 77 = .ok (.iload_n 3, 1) := by decide +kernel
theorem dL_knows_78 : decode cL_knows 78 = .ok (.goto 5, 3) := by decide +kernel
theorem dL_knows_81 : decode cL_knows 81 = .ok (.iload 5, 2) := by decide +kernel
theorem dL_knows_83 : decode cL_knows 83 = .ok (.iload 4, 2) := by decide +kernel
theorem dL_knows_85 : decode cL_knows 85 = .ok (.invokestatic 54, 3) := by decide +kernel
theorem dL_knows_88 : decode cL_knows 88 = .ok (.istore 6, 2) := by decide +kernel
theorem dL_knows_90 : decode cL_knows 90 = .ok (.aload_n 0, 1) := by decide +kernel
theorem dL_knows_91 : decode cL_knows 91 = .ok (.iload_n 1, 1) := by decide +kernel
theorem dL_knows_92 : decode cL_knows 92 = .ok (.iload_n 3, 1) := by decide +kernel
theorem dL_knows_93 : decode cL_knows 93 = .ok (.bipush 6, 2) := by decide +kernel
theorem dL_knows_95 : decode cL_knows 95 = .ok (.if_icmp .ge 7, 3) := by decide +kernel
theorem dL_knows_98 : decode cL_knows 98 = .ok (.iload_n 3, 1) := by decide +kernel
theorem dL_knows_99 : decode cL_knows 99 = .ok (.goto 5, 3) := by decide +kernel
theorem dL_knows_102 : decode cL_knows 102 = .ok (.iload 5, 2) := by decide +kernel
theorem dL_knows_104 : decode cL_knows 104 = .ok (.iload 4, 2) := by decide +kernel
theorem dL_knows_106 : decode cL_knows 106 = .ok (.invokestatic 58, 3) := by decide +kernel
theorem dL_knows_109 : decode cL_knows 109 = .ok (.iload 6, 2) := by decide +kernel
theorem dL_knows_111 : decode cL_knows 111 = .ok (.if_icmp .eq 5, 3) := by decide +kernel
theorem dL_knows_114 : decode cL_knows 114 = .ok (.iconst 0, 1) := by decide +kernel
theorem dL_knows_115 : decode cL_knows 115 = .ok (.ireturn, 1) := by decide +kernel
theorem dL_knows_116 : decode cL_knows 116 = .ok (.aload_n 0, 1) := by decide +kernel
theorem dL_knows_117 : decode cL_knows 117 = .ok (.iload_n 3, 1) := by decide +kernel
theorem dL_knows_118 : decode cL_knows 118 = .ok (.bipush 6, 2) := by decide +kernel
theorem dL_knows_120 : decode cL_knows 120 = .ok (.if_icmp .ge 7, 3) := by decide +kernel
theorem dL_knows_123 : decode cL_knows 123 = .ok (.iload_n 3, 1) := by decide +kernel
theorem dL_knows_124 : decode cL_knows 124 = .ok (.goto 5, 3) := by decide +kernel
theorem dL_knows_127 : decode cL_knows 127 = .ok (.iload 5, 2) := by decide +kernel
theorem dL_knows_129 : decode cL_knows 129 = .ok (.iload 4, 2) := by decide +kernel
theorem dL_knows_131 : decode cL_knows 131 = .ok (.invokestatic 61, 3) := by decide +kernel
theorem dL_knows_134 : decode cL_knows 134 = .ok (.aload_n 0, 1) := by decide +kernel
theorem dL_knows_135 : decode cL_knows 135 = .ok (.iload_n 1, 1) := by decide +kernel
theorem dL_knows_136 : decode cL_knows 136 = .ok (.invokevirtual 65, 3) := by decide +kernel
theorem dL_knows_139 : decode cL_knows 139 = .ok (.iload 6, 2) := by decide +kernel
theorem dL_knows_141 : decode cL_knows 141 = .ok (.if_icmp .eq 5, 3) := by decide +kernel
theorem dL_knows_144 : decode cL_knows 144 = .ok (.iconst 0, 1) := by decide +kernel
theorem dL_knows_145 : decode cL_knows 145 = .ok (.ireturn, 1) := by decide +kernel
theorem dL_knows_146 : decode cL_knows 146 = .ok (.iinc 3 1, 3) := by decide +kernel
theorem dL_knows_149 : decode cL_knows 149 = .ok (.goto (-147), 3) := by decide +kernel
theorem dL_knows_152 : decode cL_knows 152 = .ok (.aload_n 0, 1) := by decide +kernel
theorem dL_knows_153 : decode cL_knows 153 = .ok (.iconst 0, 1) := by decide +kernel
theorem dL_knows_154 : decode cL_knows 154 = .ok (.invokevirtual 19, 3) := by decide +kernel
theorem dL_knows_157 : decode cL_knows 157 = .ok (.pop, 1) := by decide +kernel
theorem dL_knows_158 : decode cL_knows 158 = .ok (.aload_n 0, 1) := by decide +kernel
theorem dL_knows_159 : decode cL_knows 159 = .ok (.iload_n 1, 1) := by decide +kernel
theorem dL_knows_160 : decode cL_knows 160 = .ok (.invokevirtual 65, 3) := by decide +kernel
theorem dL_knows_163 : decode cL_knows 163 = .ok (.aload_n 0, 1) := by decide +kernel
theorem dL_knows_164 : decode cL_knows 164 = .ok (.iload_n 1, 1) := by decide +kernel
theorem dL_knows_165 : decode cL_knows 165 = .ok (.invokevirtual 25, 3) := by decide +kernel
theorem dL_knows_168 : decode cL_knows 168 = .ok (.if_icmp .ne 21, 3) := by decide +kernel
theorem dL_knows_171 : decode cL_knows 171 = .ok (.aload_n 0, 1) := by decide +kernel
theorem dL_knows_172 : decode cL_knows 172 = .ok (.iload_n 1, 1) := by decide +kernel
theorem dL_knows_173 : decode cL_knows 173 = .ok (.iconst 0, 1) := by decide +kernel
theorem dL_knows_174 : decode cL_knows 174 = .ok (.invokevirtual 49, 3) := by decide +kernel
theorem dL_knows_177 : decode cL_knows 177 = .ok (.aload_n 0, 1) := by decide +kernel
theorem dL_knows_178 : decode cL_knows 178 = .ok (.iload_n 1, 1) := by decide +kernel
theorem dL_knows_179 : decode cL_knows 179 = .ok (.invokevirtual 25, 3) := by decide +kernel
theorem dL_knows_182 : decode cL_knows 182 = .ok (.if_icmp .ne 7, 3) := by decide +kernel
theorem dL_knows_185 : decode cL_knows 185 = .ok (.iconst 1, 1) := by decide +kernel
theorem dL_knows_186 : decode cL_knows 186 = .ok (.goto 4, 3) := by decide +kernel
theorem dL_knows_189 : decode cL_knows 189 = .ok (.iconst 0, 1) := by decide +kernel
theorem dL_knows_190 : decode cL_knows 190 = .ok (.ireturn, 1) := by decide +kernel
theorem dL_isListed_0 : decode cL_isListed 0 = .ok (.aload_n 0, 1) := by decide +kernel
theorem dL_isListed_1 : decode cL_isListed 1 = .ok (.iload_n 1, 1) := by decide +kernel
theorem dL_isListed_2 : decode cL_isListed 2 = .ok (.iload_n 2, 1) := by decide +kernel
theorem dL_isListed_3 : decode cL_isListed 3 = .ok (.invokevirtual 68, 3) := by decide +kernel
theorem dL_isListed_6 : decode cL_isListed 6 = .ok (.lstore_n 3, 1) := by decide +kernel
theorem dL_isListed_7 : decode cL_isListed 7 = .ok (.iconst (-1), 1) := by decide +kernel
theorem dL_isListed_8 : decode cL_isListed 8 = .ok (.istore 5, 2) := by decide +kernel
theorem dL_isListed_10 : decode cL_isListed 10 = .ok (.iconst 0, 1) := by decide +kernel
theorem dL_isListed_11 : decode cL_isListed 11 = .ok (.istore 6, 2) := by decide +kernel
theorem dL_isListed_13 : decode cL_isListed 13 = .ok (.iload 6, 2) := by decide +kernel
theorem dL_isListed_15 : decode cL_isListed 15 = .ok (.bipush 12, 2) := by decide +kernel
theorem dL_isListed_17 : decode cL_isListed 17 = .ok (.if_icmp .ge 121, 3) := by decide +kernel
theorem dL_isListed_20 : decode cL_isListed 20 = .ok (.iload 6, 2) := by decide +kernel
theorem dL_isListed_22 : decode cL_isListed 22 = .ok (.i2l, 1) := by decide +kernel
theorem dL_isListed_23 : decode cL_isListed 23 = .ok (.lload_n 3, 1) := by decide +kernel
theorem dL_isListed_24 : decode cL_isListed 24 = .ok (.lcmp, 1) := by decide +kernel
theorem dL_isListed_25 : decode cL_isListed 25 = .ok (.ifCond .ge 113, 3) := by decide +kernel
theorem dL_isListed_28 : decode cL_isListed 28 = .ok (.aload_n 0, 1) := by decide +kernel
theorem dL_isListed_29 : decode cL_isListed 29 = .ok (.iload_n 1, 1) := by decide +kernel
theorem dL_isListed_30 : decode cL_isListed 30 = .ok (.iload_n 2, 1) := by decide +kernel
theorem dL_isListed_31 : decode cL_isListed 31 = .ok (.iload 6, 2) := by decide +kernel
theorem dL_isListed_33 : decode cL_isListed 33 = .ok (.i2l, 1) := by decide +kernel
theorem dL_isListed_34 : decode cL_isListed 34 = .ok (.invokevirtual 72, 3) := by decide +kernel
theorem dL_isListed_37 : decode cL_isListed 37 = .ok (.iload_n 2, 1) := by decide +kernel
theorem dL_isListed_38 : decode cL_isListed 38 = .ok (.if_icmp .eq 5, 3) := by decide +kernel
theorem dL_isListed_41 : decode cL_isListed 41 = .ok (.iconst 0, 1) := by decide +kernel
theorem dL_isListed_42 : decode cL_isListed 42 = .ok (.ireturn, 1) := by decide +kernel
theorem dL_isListed_43 : decode cL_isListed 43 = .ok (.iconst 0, 1) := by decide +kernel
theorem dL_isListed_44 : decode cL_isListed 44 = .ok (.istore 7, 2) := by decide +kernel
theorem dL_isListed_46 : decode cL_isListed 46 = .ok (.iconst 0, 1) := by decide +kernel
theorem dL_isListed_47 : decode cL_isListed 47 = .ok (.istore 8, 2) := by decide +kernel
theorem dL_isListed_49 : decode cL_isListed 49 = .ok (.iconst 0, 1) := by decide +kernel
theorem dL_isListed_50 : decode cL_isListed 50 = .ok (.istore 9, 2) := by decide +kernel
theorem dL_isListed_52 : decode cL_isListed 52 = .ok (.iload 9, 2) := by decide +kernel
theorem dL_isListed_54 : decode cL_isListed 54 = .ok (.iload_n 2, 1) := by decide +kernel
theorem dL_isListed_55 : decode cL_isListed 55 = .ok (.if_icmp .ge 54, 3) := by decide +kernel
theorem dL_isListed_58 : decode cL_isListed 58 = .ok (.aload_n 0, 1) := by decide +kernel
theorem dL_isListed_59 : decode cL_isListed 59 = .ok (.iload 9, 2) := by decide +kernel
theorem dL_isListed_61 : decode cL_isListed 61 = .ok (.invokevirtual 76, 3) := by decide +kernel
theorem dL_isListed_64 : decode cL_isListed 64 = .ok (.bipush 97, 2) := by decide +kernel
theorem dL_isListed_66 : decode cL_isListed 66 = .ok (.isub, 1) := by decide +kernel
theorem dL_isListed_67 : decode cL_isListed 67 = .ok (.istore 10, 2) := by decide +kernel
theorem dL_isListed_69 : decode cL_isListed 69 = .ok (.iload 10, 2) := by decide +kernel
theorem dL_isListed_71 : decode cL_isListed 71 = .ok (.ifCond .lt 9, 3) := by decide +kernel
theorem dL_isListed_74 : decode cL_isListed 74 = .ok (.iload 10, 2) := by decide +kernel
theorem dL_isListed_76 : decode cL_isListed 76 = .ok (.iconst 5, 1) := by decide +kernel
theorem dL_isListed_77 : decode cL_isListed 77 = .ok (.if_icmp .le 5, 3) := by decide +kernel
theorem dL_isListed_80 : decode cL_isListed 80 = .ok (.iconst 0, 1) := by decide +kernel
theorem dL_isListed_81 : decode cL_isListed 81 = .ok (.ireturn, 1) := by decide +kernel
theorem dL_isListed_82 : decode cL_isListed 82 = .ok (.aload_n 0, 1) := by decide +kernel
theorem dL_isListed_83 : decode cL_isListed 83 = .ok (.iload_n 1, 1) := by decide +kernel
theorem dL_isListed_84 : decode cL_isListed 84 = .ok (.iload 7, 2) := by decide +kernel
theorem dL_isListed_86 : decode cL_isListed 86 = .ok (.iload 10, 2) := by decide +kernel
theorem dL_isListed_88 : decode cL_isListed 88 = .ok (.invokevirtual 45, 3) := by decide +kernel
theorem dL_isListed_91 : decode cL_isListed 91 = .ok (.istore 7, 2) := by decide +kernel
theorem dL_isListed_93 : decode cL_isListed 93 = .ok (.bipush 6, 2) := by decide +kernel
theorem dL_isListed_95 : decode cL_isListed 95 = .ok (.iload 8, 2) := by decide +kernel
theorem dL_isListed_97 : decode cL_isListed 97 = .ok (.imul, 1) := by decide +kernel
theorem dL_isListed_98 : decode cL_isListed 98 = .ok (.iload 10, 2) := by decide +kernel
theorem dL_isListed_100 : decode cL_isListed 100 = .ok (.iadd, 1) := by decide +kernel
theorem dL_isListed_101 : decode cL_isListed 101 = .ok (.istore 8, 2) := by decide +kernel
theorem dL_isListed_103 : decode cL_isListed 103 = .ok (.iinc 9 1, 3) := by decide +kernel
theorem dL_isListed_106 : decode cL_isListed 106 = .ok (.goto (-54), 3) := by decide +kernel
theorem dL_isListed_109 : decode cL_isListed 109 = .ok (.aload_n 0, 1) := by decide +kernel
theorem dL_isListed_110 : decode cL_isListed 110 = .ok (.iload_n 1, 1) := by decide +kernel
theorem dL_isListed_111 : decode cL_isListed 111 = .ok (.iload 7, 2) := by decide +kernel
theorem dL_isListed_113 : decode cL_isListed 113 = .ok (.invokevirtual 49, 3) := by decide +kernel
theorem dL_isListed_116 : decode cL_isListed 116 = .ok (.ifCond .eq 10, 3) := by decide +kernel
theorem dL_isListed_119 : decode cL_isListed 119 = .ok (.iload 8, 2) := by decide +kernel
theorem dL_isListed_121 : decode cL_isListed 121 = .ok (.iload 5, 2) := by decide +kernel
theorem dL_isListed_123 : decode cL_isListed 123 = .ok (.if_icmp .gt 5, 3) := by decide +kernel
theorem dL_isListed_126 : decode cL_isListed 126 = .ok (.iconst 0, 1) := by decide +kernel
theorem dL_isListed_127 : decode cL_isListed 127 = .ok (.ireturn, 1) := by decide +kernel
theorem dL_isListed_128 : decode cL_isListed 128 = .ok (.iload 8, 2) := by decide +kernel
theorem dL_isListed_130 : decode cL_isListed 130 = .ok (.istore 5, 2) := by decide +kernel
theorem dL_isListed_132 : decode cL_isListed 132 = .ok (.iinc 6 1, 3) := by decide +kernel
theorem dL_isListed_135 : decode cL_isListed 135 = .ok (.goto (-122), 3) := by decide +kernel
theorem dL_isListed_138 : decode cL_isListed 138 = .ok (.aload_n 0, 1) := by decide +kernel
theorem dL_isListed_139 : decode cL_isListed 139 = .ok (.iload_n 1, 1) := by decide +kernel
theorem dL_isListed_140 : decode cL_isListed 140 = .ok (.iload_n 2, 1) := by decide +kernel
theorem dL_isListed_141 : decode cL_isListed 141 = .ok (.lload_n 3, 1) := by decide +kernel
theorem dL_isListed_142 : decode cL_isListed 142 = .ok (.invokevirtual 72, 3) := by decide +kernel
theorem dL_isListed_145 : decode cL_isListed 145 = .ok (.iconst (-1), 1) := by decide +kernel
theorem dL_isListed_146 : decode cL_isListed 146 = .ok (.if_icmp .ne 20, 3) := by decide +kernel
theorem dL_isListed_149 : decode cL_isListed 149 = .ok (.aload_n 0, 1) := by decide +kernel
theorem dL_isListed_150 : decode cL_isListed 150 = .ok (.iload_n 1, 1) := by decide +kernel
theorem dL_isListed_151 : decode cL_isListed 151 = .ok (.iload_n 2, 1) := by decide +kernel
theorem dL_isListed_152 : decode cL_isListed 152 = .ok (.ldc2_w 79, 3) := by decide +kernel
theorem dL_isListed_155 : decode cL_isListed 155 = .ok (.invokevirtual 72, 3) := by decide +kernel
theorem dL_isListed_158 : decode cL_isListed 158 = .ok (.iconst (-1), 1) := by decide +kernel
theorem dL_isListed_159 : decode cL_isListed 159 = .ok (.if_icmp .ne 7, 3) := by decide +kernel
theorem dL_isListed_162 : decode cL_isListed 162 = .ok (.iconst 1, 1) := by decide +kernel
theorem dL_isListed_163 : decode cL_isListed 163 = .ok (.goto 4, 3) := by decide +kernel
theorem dL_isListed_166 : decode cL_isListed 166 = .ok (.iconst 0, 1) := by decide +kernel
theorem dL_isListed_167 : decode cL_isListed 167 = .ok (.ireturn, 1) := by decide +kernel
theorem dL_sum_0 : decode cL_sum 0 = .ok (.aload_n 0, 1) := by decide +kernel
theorem dL_sum_1 : decode cL_sum 1 = .ok (.invokevirtual 81, 3) := by decide +kernel
theorem dL_sum_4 : decode cL_sum 4 = .ok (.i2l, 1) := by decide +kernel
theorem dL_sum_5 : decode cL_sum 5 = .ok (.ldc2_w 85, 3) := by decide +kernel
theorem dL_sum_8 : decode cL_sum 8 = .ok (.aload_n 0, 1) := by decide +kernel
theorem dL_sum_9 : decode cL_sum 9 = .ok (.invokevirtual 87, 3) := by decide +kernel
theorem dL_sum_12 : decode cL_sum 12 = .ok (.i2l, 1) := by decide +kernel
theorem dL_sum_13 : decode cL_sum 13 = .ok (.lmul, 1) := by decide +kernel
theorem dL_sum_14 : decode cL_sum 14 = .ok (.ladd, 1) := by decide +kernel
theorem dL_sum_15 : decode cL_sum 15 = .ok (.aload_n 0, 1) := by decide +kernel
theorem dL_sum_16 : decode cL_sum 16 = .ok (.invokevirtual 90, 3) := by decide +kernel
theorem dL_sum_19 : decode cL_sum 19 = .ok (.ifCond .eq 9, 3) := by decide +kernel
theorem dL_sum_22 : decode cL_sum 22 = .ok (.ldc2_w 94, 3) := by decide +kernel
theorem dL_sum_25 : decode cL_sum 25 = .ok (.goto 4, 3) := by decide +kernel
theorem dL_sum_28 : decode cL_sum 28 = .ok (.lconst 0, 1) := by decide +kernel
theorem dL_sum_29 : decode cL_sum 29 = .ok (.ladd, 1) := by decide +kernel
theorem dL_sum_30 : decode cL_sum 30 = .ok (.lstore_n 1, 1) := by decide +kernel
theorem dL_sum_31 : decode cL_sum 31 = .ok (.iconst 0, 1) := by decide +kernel
theorem dL_sum_32 : decode cL_sum 32 = .ok (.istore_n 3, 1) := by decide +kernel
theorem dL_sum_33 : decode cL_sum 33 = .ok (.iload_n 3, 1) := by decide +kernel
theorem dL_sum_34 : decode cL_sum 34 = .ok (.iconst 2, 1) := by decide +kernel
theorem dL_sum_35 : decode cL_sum 35 = .ok (.if_icmp .ge 113, 3) := by decide +kernel
theorem dL_sum_38 : decode cL_sum 38 = .ok (.ldc2_w 96, 3) := by decide +kernel
theorem dL_sum_41 : decode cL_sum 41 = .ok (.lload_n 1, 1) := by decide +kernel
theorem dL_sum_42 : decode cL_sum 42 = .ok (.lmul, 1) := by decide +kernel
theorem dL_sum_43 : decode cL_sum 43 = .ok (.aload_n 0, 1) := by decide +kernel
theorem dL_sum_44 : decode cL_sum 44 = .ok (.iload_n 3, 1) := by decide +kernel
theorem dL_sum_45 : decode cL_sum 45 = .ok (.invokevirtual 32, 3) := by decide +kernel
theorem dL_sum_48 : decode cL_sum 48 = .ok (.i2l, 1) := by decide +kernel
theorem dL_sum_49 : decode cL_sum 49 = .ok (.ladd, 1) := by decide +kernel
theorem dL_sum_50 : decode cL_sum 50 = .ok (.lstore_n 1, 1) := by decide +kernel
theorem dL_sum_51 : decode cL_sum 51 = .ok (.ldc2_w 96, 3) := by decide +kernel
theorem dL_sum_54 : decode cL_sum 54 = .ok (.lload_n 1, 1) := by decide +kernel
theorem dL_sum_55 : decode cL_sum 55 = .ok (.lmul, 1) := by decide +kernel
theorem dL_sum_56 : decode cL_sum 56 = .ok (.aload_n 0, 1) := by decide +kernel
theorem dL_sum_57 : decode cL_sum 57 = .ok (.iload_n 3, 1) := by decide +kernel
theorem dL_sum_58 : decode cL_sum 58 = .ok (.invokevirtual 29, 3) := by decide +kernel
theorem dL_sum_61 : decode cL_sum 61 = .ok (.i2l, 1) := by decide +kernel
theorem dL_sum_62 : decode cL_sum 62 = .ok (.ladd, 1) := by decide +kernel
theorem dL_sum_63 : decode cL_sum 63 = .ok (.lstore_n 1, 1) := by decide +kernel
theorem dL_sum_64 : decode cL_sum 64 = .ok (.ldc2_w 96, 3) := by decide +kernel
theorem dL_sum_67 : decode cL_sum 67 = .ok (.lload_n 1, 1) := by decide +kernel
theorem dL_sum_68 : decode cL_sum 68 = .ok (.lmul, 1) := by decide +kernel
theorem dL_sum_69 : decode cL_sum 69 = .ok (.aload_n 0, 1) := by decide +kernel
theorem dL_sum_70 : decode cL_sum 70 = .ok (.iload_n 3, 1) := by decide +kernel
theorem dL_sum_71 : decode cL_sum 71 = .ok (.invokevirtual 42, 3) := by decide +kernel
theorem dL_sum_74 : decode cL_sum 74 = .ok (.i2l, 1) := by decide +kernel
theorem dL_sum_75 : decode cL_sum 75 = .ok (.ladd, 1) := by decide +kernel
theorem dL_sum_76 : decode cL_sum 76 = .ok (.lstore_n 1, 1) := by decide +kernel
theorem dL_sum_77 : decode cL_sum 77 = .ok (.ldc2_w 96, 3) := by decide +kernel
theorem dL_sum_80 : decode cL_sum 80 = .ok (.lload_n 1, 1) := by decide +kernel
theorem dL_sum_81 : decode cL_sum 81 = .ok (.lmul, 1) := by decide +kernel
theorem dL_sum_82 : decode cL_sum 82 = .ok (.aload_n 0, 1) := by decide +kernel
theorem dL_sum_83 : decode cL_sum 83 = .ok (.iload_n 3, 1) := by decide +kernel
theorem dL_sum_84 : decode cL_sum 84 = .ok (.invokevirtual 98, 3) := by decide +kernel
theorem dL_sum_87 : decode cL_sum 87 = .ok (.i2l, 1) := by decide +kernel
theorem dL_sum_88 : decode cL_sum 88 = .ok (.ladd, 1) := by decide +kernel
theorem dL_sum_89 : decode cL_sum 89 = .ok (.lstore_n 1, 1) := by decide +kernel
theorem dL_sum_90 : decode cL_sum 90 = .ok (.iconst 0, 1) := by decide +kernel
theorem dL_sum_91 : decode cL_sum 91 = .ok (.istore 4, 2) := by decide +kernel
theorem dL_sum_93 : decode cL_sum 93 = .ok (.iload 4, 2) := by decide +kernel
theorem dL_sum_95 : decode cL_sum 95 = .ok (.aload_n 0, 1) := by decide +kernel
theorem dL_sum_96 : decode cL_sum 96 = .ok (.iload_n 3, 1) := by decide +kernel
theorem dL_sum_97 : decode cL_sum 97 = .ok (.invokevirtual 98, 3) := by decide +kernel
theorem dL_sum_100 : decode cL_sum 100 = .ok (.if_icmp .ge 42, 3) := by decide +kernel
theorem dL_sum_103 : decode cL_sum 103 = .ok (.ldc2_w 96, 3) := by decide +kernel
theorem dL_sum_106 : decode cL_sum 106 = .ok (.lload_n 1, 1) := by decide +kernel
theorem dL_sum_107 : decode cL_sum 107 = .ok (.lmul, 1) := by decide +kernel
theorem dL_sum_108 : decode cL_sum 108 = .ok (.aload_n 0, 1) := by decide +kernel
theorem dL_sum_109 : decode cL_sum 109 = .ok (.iload_n 3, 1) := by decide +kernel
theorem dL_sum_110 : decode cL_sum 110 = .ok (.iload 4, 2) := by decide +kernel
theorem dL_sum_112 : decode cL_sum 112 = .ok (.invokevirtual 101, 3) := by decide +kernel
theorem dL_sum_115 : decode cL_sum 115 = .ok (.i2l, 1) := by decide +kernel
theorem dL_sum_116 : decode cL_sum 116 = .ok (.ladd, 1) := by decide +kernel
theorem dL_sum_117 : decode cL_sum 117 = .ok (.ldc2_w 104, 3) := by decide +kernel
theorem dL_sum_120 : decode cL_sum 120 = .ok (.aload_n 0, 1) := by decide +kernel
theorem dL_sum_121 : decode cL_sum 121 = .ok (.iload_n 3, 1) := by decide +kernel
theorem dL_sum_122 : decode cL_sum 122 = .ok (.iload 4, 2) := by decide +kernel
theorem dL_sum_124 : decode cL_sum 124 = .ok (.iload 4, 2) := by decide +kernel
theorem dL_sum_126 : decode cL_sum 126 = .ok (.bipush 6, 2) := by decide +kernel
theorem dL_sum_128 : decode cL_sum 128 = .ok (.irem, 1) := by decide +kernel
theorem dL_sum_129 : decode cL_sum 129 = .ok (.invokevirtual 45, 3) := by decide +kernel
theorem dL_sum_132 : decode cL_sum 132 = .ok (.i2l, 1) := by decide +kernel
theorem dL_sum_133 : decode cL_sum 133 = .ok (.lmul, 1) := by decide +kernel
theorem dL_sum_134 : decode cL_sum 134 = .ok (.ladd, 1) := by decide +kernel
theorem dL_sum_135 : decode cL_sum 135 = .ok (.lstore_n 1, 1) := by decide +kernel
theorem dL_sum_136 : decode cL_sum 136 = .ok (.iinc 4 1, 3) := by decide +kernel
theorem dL_sum_139 : decode cL_sum 139 = .ok (.goto (-46), 3) := by decide +kernel
theorem dL_sum_142 : decode cL_sum 142 = .ok (.iinc 3 1, 3) := by decide +kernel
theorem dL_sum_145 : decode cL_sum 145 = .ok (.goto (-112), 3) := by decide +kernel
theorem dL_sum_148 : decode cL_sum 148 = .ok (.iconst 0, 1) := by decide +kernel
theorem dL_sum_149 : decode cL_sum 149 = .ok (.istore_n 3, 1) := by decide +kernel
theorem dL_sum_150 : decode cL_sum 150 = .ok (.iload_n 3, 1) := by decide +kernel
theorem dL_sum_151 : decode cL_sum 151 = .ok (.aload_n 0, 1) := by decide +kernel
theorem dL_sum_152 : decode cL_sum 152 = .ok (.invokevirtual 81, 3) := by decide +kernel
theorem dL_sum_155 : decode cL_sum 155 = .ok (.if_icmp .ge 44, 3) := by decide +kernel
theorem dL_sum_158 : decode cL_sum 158 = .ok (.ldc2_w 96, 3) := by decide +kernel
theorem dL_sum_161 : decode cL_sum 161 = .ok (.lload_n 1, 1) := by decide +kernel
theorem dL_sum_162 : decode cL_sum 162 = .ok (.lmul, 1) := by decide +kernel
theorem dL_sum_163 : decode cL_sum 163 = .ok (.ldc2_w 106, 3) := by decide +kernel
theorem dL_sum_166 : decode cL_sum 166 = .ok (.aload_n 0, 1) := by decide +kernel
theorem dL_sum_167 : decode cL_sum 167 = .ok (.iload_n 3, 1) := by decide +kernel
theorem dL_sum_168 : decode cL_sum 168 = .ok (.invokevirtual 108, 3) := by decide +kernel
theorem dL_sum_171 : decode cL_sum 171 = .ok (.i2l, 1) := by decide +kernel
theorem dL_sum_172 : decode cL_sum 172 = .ok (.lmul, 1) := by decide +kernel
theorem dL_sum_173 : decode cL_sum 173 = .ok (.ladd, 1) := by decide +kernel
theorem dL_sum_174 : decode cL_sum 174 = .ok (.ldc2_w 111, 3) := by decide +kernel
theorem dL_sum_177 : decode cL_sum 177 = .ok (.aload_n 0, 1) := by decide +kernel
theorem dL_sum_178 : decode cL_sum 178 = .ok (.iload_n 3, 1) := by decide +kernel
theorem dL_sum_179 : decode cL_sum 179 = .ok (.invokevirtual 113, 3) := by decide +kernel
theorem dL_sum_182 : decode cL_sum 182 = .ok (.i2l, 1) := by decide +kernel
theorem dL_sum_183 : decode cL_sum 183 = .ok (.lmul, 1) := by decide +kernel
theorem dL_sum_184 : decode cL_sum 184 = .ok (.ladd, 1) := by decide +kernel
theorem dL_sum_185 : decode cL_sum 185 = .ok (.aload_n 0, 1) := by decide +kernel
theorem dL_sum_186 : decode cL_sum 186 = .ok (.iload_n 3, 1) := by decide +kernel
theorem dL_sum_187 : decode cL_sum 187 = .ok (.invokevirtual 116, 3) := by decide +kernel
theorem dL_sum_190 : decode cL_sum 190 = .ok (.i2l, 1) := by decide +kernel
theorem dL_sum_191 : decode cL_sum 191 = .ok (.ladd, 1) := by decide +kernel
theorem dL_sum_192 : decode cL_sum 192 = .ok (.lstore_n 1, 1) := by decide +kernel
theorem dL_sum_193 : decode cL_sum 193 = .ok (.iinc 3 1, 3) := by decide +kernel
theorem dL_sum_196 : decode cL_sum 196 = .ok (.goto (-46), 3) := by decide +kernel
theorem dL_sum_199 : decode cL_sum 199 = .ok (.iconst 0, 1) := by decide +kernel
theorem dL_sum_200 : decode cL_sum 200 = .ok (.istore_n 3, 1) := by decide +kernel
theorem dL_sum_201 : decode cL_sum 201 = .ok (.iload_n 3, 1) := by decide +kernel
theorem dL_sum_202 : decode cL_sum 202 = .ok (.bipush 6, 2) := by decide +kernel
theorem dL_sum_204 : decode cL_sum 204 = .ok (.if_icmp .ge 30, 3) := by decide +kernel
theorem dL_sum_207 : decode cL_sum 207 = .ok (.ldc2_w 96, 3) := by decide +kernel
theorem dL_sum_210 : decode cL_sum 210 = .ok (.lload_n 1, 1) := by decide +kernel
theorem dL_sum_211 : decode cL_sum 211 = .ok (.lmul, 1) := by decide +kernel
theorem dL_sum_212 : decode cL_sum 212 = .ok (.aload_n 0, 1) := by decide +kernel
theorem dL_sum_213 : decode cL_sum 213 = .ok (.iload_n 3, 1) := by decide +kernel
theorem dL_sum_214 : decode cL_sum 214 = .ok (.invokevirtual 119, 3) := by decide +kernel
theorem dL_sum_217 : decode cL_sum 217 = .ok (.ifCond .eq 7, 3) := by decide +kernel
theorem dL_sum_220 : decode cL_sum 220 = .ok (.iconst 1, 1) := by decide +kernel
theorem dL_sum_221 : decode cL_sum 221 = .ok (.goto 4, 3) := by decide +kernel
theorem dL_sum_224 : decode cL_sum 224 = .ok (.iconst 0, 1) := by decide +kernel
theorem dL_sum_225 : decode cL_sum 225 = .ok (.i2l, 1) := by decide +kernel
theorem dL_sum_226 : decode cL_sum 226 = .ok (.ladd, 1) := by decide +kernel
theorem dL_sum_227 : decode cL_sum 227 = .ok (.lstore_n 1, 1) := by decide +kernel
theorem dL_sum_228 : decode cL_sum 228 = .ok (.iinc 3 1, 3) := by decide +kernel
theorem dL_sum_231 : decode cL_sum 231 = .ok (.goto (-30), 3) := by decide +kernel
theorem dL_sum_234 : decode cL_sum 234 = .ok (.lload_n 1, 1) := by decide +kernel
theorem dL_sum_235 : decode cL_sum 235 = .ok (.lreturn, 1) := by decide +kernel
