theorem dL_pulse_0 : decode cL_pulse 0 = .ok (.aload_n 0, 1) := by decide +kernel
theorem dL_pulse_1 : decode cL_pulse 1 = .ok (.iconst 0, 1) := by decide +kernel
theorem dL_pulse_2 : decode cL_pulse 2 = .ok (.invokevirtual 9, 3) := by decide +kernel
theorem dL_pulse_5 : decode cL_pulse 5 = .ok (.istore_n 3, 1) := by decide +kernel
theorem dL_pulse_6 : decode cL_pulse 6 = .ok (.aload_n 0, 1) := by decide +kernel
theorem dL_pulse_7 : decode cL_pulse 7 = .ok (.iconst 1, 1) := by decide +kernel
theorem dL_pulse_8 : decode cL_pulse 8 = .ok (.invokevirtual 37, 3) := by decide +kernel
theorem dL_pulse_11 : decode cL_pulse 11 = .ok (.istore 4, 2) := by decide +kernel
theorem dL_pulse_13 : decode cL_pulse 13 = .ok (.iload 4, 2) := by decide +kernel
theorem dL_pulse_15 : decode cL_pulse 15 = .ok (.bipush 60, 2) := by decide +kernel
theorem dL_pulse_17 : decode cL_pulse 17 = .ok (.if_icmp .ne 29, 3) := by decide +kernel
theorem dL_pulse_20 : decode cL_pulse 20 = .ok (.aload_n 0, 1) := by decide +kernel
theorem dL_pulse_21 : decode cL_pulse 21 = .ok (.iload_n 1, 1) := by decide +kernel
theorem dL_pulse_22 : decode cL_pulse 22 = .ok (.iload_n 2, 1) := by decide +kernel
theorem dL_pulse_23 : decode cL_pulse 23 = .ok (.invokevirtual 40, 3) := by decide +kernel
theorem dL_pulse_26 : decode cL_pulse 26 = .ok (.bipush (-4), 2) := by decide +kernel
theorem dL_pulse_28 : decode cL_pulse 28 = .ok (.if_icmp .ne 16, 3) := by decide +kernel
theorem dL_pulse_31 : decode cL_pulse 31 = .ok (.aload_n 0, 1) := by decide +kernel
theorem dL_pulse_32 : decode cL_pulse 32 = .ok (.invokevirtual 43, 3) := by decide +kernel
theorem dL_pulse_35 : decode cL_pulse 35 = .ok (.bipush 60, 2) := by decide +kernel
theorem dL_pulse_37 : decode cL_pulse 37 = .ok (.if_icmp .ne 7, 3) := by decide +kernel
theorem dL_pulse_40 : decode cL_pulse 40 = .ok (.iconst 1, 1) := by decide +kernel
theorem dL_pulse_41 : decode cL_pulse 41 = .ok (.goto 4, 3) := by decide +kernel
theorem dL_pulse_44 : decode cL_pulse 44 = .ok (.iconst 0, 1) := by decide +kernel
theorem dL_pulse_45 : decode cL_pulse 45 = .ok (.ireturn, 1) := by decide +kernel
theorem dL_pulse_46 : decode cL_pulse 46 = .ok (.aload_n 0, 1) := by decide +kernel
theorem dL_pulse_47 : decode cL_pulse 47 = .ok (.iconst 0, 1) := by decide +kernel
theorem dL_pulse_48 : decode cL_pulse 48 = .ok (.invokevirtual 15, 3) := by decide +kernel
theorem dL_pulse_51 : decode cL_pulse 51 = .ok (.aload_n 0, 1) := by decide +kernel
theorem dL_pulse_52 : decode cL_pulse 52 = .ok (.iload_n 3, 1) := by decide +kernel
theorem dL_pulse_53 : decode cL_pulse 53 = .ok (.iconst 0, 1) := by decide +kernel
theorem dL_pulse_54 : decode cL_pulse 54 = .ok (.invokevirtual 18, 3) := by decide +kernel
theorem dL_pulse_57 : decode cL_pulse 57 = .ok (.ishr, 1) := by decide +kernel
theorem dL_pulse_58 : decode cL_pulse 58 = .ok (.iconst 1, 1) := by decide +kernel
theorem dL_pulse_59 : decode cL_pulse 59 = .ok (.iand, 1) := by decide +kernel
theorem dL_pulse_60 : decode cL_pulse 60 = .ok (.iconst 1, 1) := by decide +kernel
theorem dL_pulse_61 : decode cL_pulse 61 = .ok (.if_icmp .ne 7, 3) := by decide +kernel
theorem dL_pulse_64 : decode cL_pulse 64 = .ok (.iconst 1, 1) := by decide +kernel
theorem dL_pulse_65 : decode cL_pulse 65 = .ok (.goto 4, 3) := by decide +kernel
theorem dL_pulse_68 : decode cL_pulse 68 = .ok (.iconst 0, 1) := by decide +kernel
theorem dL_pulse_69 : decode cL_pulse 69 = .ok (.istore 5, 2) := by decide +kernel
theorem dL_pulse_71 : decode cL_pulse 71 = .ok (.aload_n 0, 1) := by decide +kernel
theorem dL_pulse_72 : decode cL_pulse 72 = .ok (.iload_n 1, 1) := by decide +kernel
theorem dL_pulse_73 : decode cL_pulse 73 = .ok (.iconst 0, 1) := by decide +kernel
theorem dL_pulse_74 : decode cL_pulse 74 = .ok (.invokevirtual 22, 3) := by decide +kernel
theorem dL_pulse_77 : decode cL_pulse 77 = .ok (.sipush 10000, 3) := by decide +kernel
theorem dL_pulse_80 : decode cL_pulse 80 = .ok (.isub, 1) := by decide +kernel
theorem dL_pulse_81 : decode cL_pulse 81 = .ok (.istore 6, 2) := by decide +kernel
theorem dL_pulse_83 : decode cL_pulse 83 = .ok (.aload_n 0, 1) := by decide +kernel
theorem dL_pulse_84 : decode cL_pulse 84 = .ok (.iload_n 3, 1) := by decide +kernel
theorem dL_pulse_85 : decode cL_pulse 85 = .ok (.iconst 2, 1) := by decide +kernel
theorem dL_pulse_86 : decode cL_pulse 86 = .ok (.invokevirtual 18, 3) := by decide +kernel
theorem dL_pulse_89 : decode cL_pulse 89 = .ok (.iconst 3, 1) := by decide +kernel
theorem dL_pulse_90 : decode cL_pulse 90 = .ok (.if_icmp .ne 48, 3) := by decide +kernel
theorem dL_pulse_93 : decode cL_pulse 93 = .ok (.aload_n 0, 1) := by decide +kernel
theorem dL_pulse_94 : decode cL_pulse 94 = .ok (.iload_n 3, 1) := by decide +kernel
theorem dL_pulse_95 : decode cL_pulse 95 = .ok (.iconst 4, 1) := by decide +kernel
theorem dL_pulse_96 : decode cL_pulse 96 = .ok (.invokevirtual 18, 3) := by decide +kernel
theorem dL_pulse_99 : decode cL_pulse 99 = .ok (.ifCond .ne 39, 3) := by decide +kernel
theorem dL_pulse_102 : decode cL_pulse 102 = .ok (.aload_n 0, 1) := by decide +kernel
theorem dL_pulse_103 : decode cL_pulse 103 = .ok (.iload_n 3, 1) := by decide +kernel
theorem dL_pulse_104 : decode cL_pulse 104 = .ok (.iconst 5, 1) := by decide +kernel
theorem dL_pulse_105 : decode cL_pulse 105 = .ok (.invokevirtual 18, 3) := by decide +kernel
theorem dL_pulse_108 : decode cL_pulse 108 = .ok (.ifCond .ne 30, 3) := by decide +kernel
theorem dL_pulse_111 : decode cL_pulse 111 = .ok (.iload 5, 2) := by decide +kernel
theorem dL_pulse_113 : decode cL_pulse 113 = .ok (.ifCond .eq 8, 3) := by decide +kernel
theorem dL_pulse_116 : decode cL_pulse 116 = .ok (.iload 6, 2) := by decide +kernel
theorem dL_pulse_118 : decode cL_pulse 118 = .ok (.goto 6, 3) := by decide +kernel
theorem dL_pulse_121 : decode cL_pulse 121 = .ok (.iload 6, 2) := by decide +kernel
theorem dL_pulse_123 : decode cL_pulse 123 = .ok (.ineg, 1) := by decide +kernel
theorem dL_pulse_124 : decode cL_pulse 124 = .ok (.aload_n 0, 1) := by decide +kernel
theorem dL_pulse_125 : decode cL_pulse 125 = .ok (.iload_n 3, 1) := by decide +kernel
theorem dL_pulse_126 : decode cL_pulse 126 = .ok (.bipush 11, 2) := by decide +kernel
theorem dL_pulse_128 : decode cL_pulse 128 = .ok (.invokevirtual 18, 3) := by decide +kernel
theorem dL_pulse_131 : decode cL_pulse 131 = .ok (.if_icmp .lt 7, 3) := by decide +kernel
theorem dL_pulse_134 : decode cL_pulse 134 = .ok (.iconst 1, 1) := by decide +kernel
theorem dL_pulse_135 : decode cL_pulse 135 = .ok (.goto 4, 3) := by decide +kernel
theorem dL_pulse_138 : decode cL_pulse 138 = .ok (.iconst 0, 1) := by decide +kernel
theorem dL_pulse_139 : decode cL_pulse 139 = .ok (.istore 7, 2) := by decide +kernel
theorem dL_pulse_141 : decode cL_pulse 141 = .ok (.aload_n 0, 1) := by decide +kernel
theorem dL_pulse_142 : decode cL_pulse 142 = .ok (.iload_n 1, 1) := by decide +kernel
theorem dL_pulse_143 : decode cL_pulse 143 = .ok (.iconst 1, 1) := by decide +kernel
theorem dL_pulse_144 : decode cL_pulse 144 = .ok (.invokevirtual 22, 3) := by decide +kernel
theorem dL_pulse_147 : decode cL_pulse 147 = .ok (.ldc 25, 2) := by decide +kernel
theorem dL_pulse_149 : decode cL_pulse 149 = .ok (.isub, 1) := by decide +kernel
theorem dL_pulse_150 : decode cL_pulse 150 = .ok (.istore 8, 2) := by decide +kernel
theorem dL_pulse_152 : decode cL_pulse 152 = .ok (.aload_n 0, 1) := by decide +kernel
theorem dL_pulse_153 : decode cL_pulse 153 = .ok (.iload_n 3, 1) := by decide +kernel
theorem dL_pulse_154 : decode cL_pulse 154 = .ok (.iconst 3, 1) := by decide +kernel
theorem dL_pulse_155 : decode cL_pulse 155 = .ok (.invokevirtual 18, 3) := by decide +kernel
theorem dL_pulse_158 : decode cL_pulse 158 = .ok (.istore 9, 2) := by decide +kernel
theorem dL_pulse_160 : decode cL_pulse 160 = .ok (.aload_n 0, 1) := by decide +kernel
theorem dL_pulse_161 : decode cL_pulse 161 = .ok (.iload_n 3, 1) := by decide +kernel
theorem dL_pulse_162 : decode cL_pulse 162 = .ok (.iconst 4, 1) := by decide +kernel
theorem dL_pulse_163 : decode cL_pulse 163 = .ok (.invokevirtual 18, 3) := by decide +kernel
theorem dL_pulse_166 : decode cL_pulse 166 = .ok (.istore 10, 2) := by decide +kernel
theorem dL_pulse_168 : decode cL_pulse 168 = .ok (.aload_n 0, 1) := by decide +kernel
theorem dL_pulse_169 : decode cL_pulse 169 = .ok (.iload_n 1, 1) := by decide +kernel
theorem dL_pulse_170 : decode cL_pulse 170 = .ok (.iconst 2, 1) := by decide +kernel
theorem dL_pulse_171 : decode cL_pulse 171 = .ok (.invokevirtual 22, 3) := by decide +kernel
theorem dL_pulse_174 : decode cL_pulse 174 = .ok (.istore 11, 2) := by decide +kernel
theorem dL_pulse_176 : decode cL_pulse 176 = .ok (.aload_n 0, 1) := by decide +kernel
theorem dL_pulse_177 : decode cL_pulse 177 = .ok (.iload_n 1, 1) := by decide +kernel
theorem dL_pulse_178 : decode cL_pulse 178 = .ok (.iload_n 2, 1) := by decide +kernel
theorem dL_pulse_179 : decode cL_pulse 179 = .ok (.invokevirtual 40, 3) := by decide +kernel
theorem dL_pulse_182 : decode cL_pulse 182 = .ok (.iload 4, 2) := by decide +kernel
theorem dL_pulse_184 : decode cL_pulse 184 = .ok (.iconst 1, 1) := by decide +kernel
theorem dL_pulse_185 : decode cL_pulse 185 = .ok (.iadd, 1) := by decide +kernel
theorem dL_pulse_186 : decode cL_pulse 186 = .ok (.if_icmp .ne 18, 3) := by decide +kernel
theorem dL_pulse_189 : decode cL_pulse 189 = .ok (.aload_n 0, 1) := by decide +kernel
theorem dL_pulse_190 : decode cL_pulse 190 = .ok (.iload 4, 2) := by decide +kernel
theorem dL_pulse_192 : decode cL_pulse 192 = .ok (.iconst 0, 1) := by decide +kernel
theorem dL_pulse_193 : decode cL_pulse 193 = .ok (.invokevirtual 47, 3) := by decide +kernel
theorem dL_pulse_196 : decode cL_pulse 196 = .ok (.iload_n 1, 1) := by decide +kernel
theorem dL_pulse_197 : decode cL_pulse 197 = .ok (.sipush 10000, 3) := by decide +kernel
theorem dL_pulse_200 : decode cL_pulse 200 = .ok (.iadd, 1) := by decide +kernel
theorem dL_pulse_201 : decode cL_pulse 201 = .ok (.if_icmp .eq 5, 3) := by decide +kernel
theorem dL_pulse_204 : decode cL_pulse 204 = .ok (.iconst 0, 1) := by decide +kernel
theorem dL_pulse_205 : decode cL_pulse 205 = .ok (.ireturn, 1) := by decide +kernel
theorem dL_pulse_206 : decode cL_pulse 206 = .ok (.aload_n 0, 1) := by decide +kernel
theorem dL_pulse_207 : decode cL_pulse 207 = .ok (.iload 4, 2) := by decide +kernel
theorem dL_pulse_209 : decode cL_pulse 209 = .ok (.iconst 1, 1) := by decide +kernel
theorem dL_pulse_210 : decode cL_pulse 210 = .ok (.invokevirtual 47, 3) := by decide +kernel
theorem dL_pulse_213 : decode cL_pulse 213 = .ok (.sipush 10000, 3) := by decide +kernel
theorem dL_pulse_216 : decode cL_pulse 216 = .ok (.isub, 1) := by decide +kernel
theorem dL_pulse_217 : decode cL_pulse 217 = .ok (.istore 12, 2) := by decide +kernel
theorem dL_pulse_219 : decode cL_pulse 219 = .ok (.aload_n 0, 1) := by decide +kernel
theorem dL_pulse_220 : decode cL_pulse 220 = .ok (.iload 4, 2) := by decide +kernel
theorem dL_pulse_222 : decode cL_pulse 222 = .ok (.iconst 2, 1) := by decide +kernel
theorem dL_pulse_223 : decode cL_pulse 223 = .ok (.invokevirtual 47, 3) := by decide +kernel
theorem dL_pulse_226 : decode cL_pulse 226 = .ok (.ldc 25, 2) := by decide +kernel
theorem dL_pulse_228 : decode cL_pulse 228 = .ok (.isub, 1) := by decide +kernel
theorem dL_pulse_229 : decode cL_pulse 229 = .ok (.istore 13, 2) := by decide +kernel
theorem dL_pulse_231 : decode cL_pulse 231 = .ok (.iload 7, 2) := by decide +kernel
theorem dL_pulse_233 : decode cL_pulse 233 = .ok (.ifCond .ne 239, 3) := by decide +kernel
theorem dL_pulse_236 : decode cL_pulse 236 = .ok (.iload 6, 2) := by decide +kernel
theorem dL_pulse_238 : decode cL_pulse 238 = .ok (.invokestatic 26, 3) := by decide +kernel
theorem dL_pulse_241 : decode cL_pulse 241 = .ok (.i2l, 1) := by decide +kernel
theorem dL_pulse_242 : decode cL_pulse 242 = .ok (.iload 8, 2) := by decide +kernel
theorem dL_pulse_244 : decode cL_pulse 244 = .ok (.invokestatic 26, 3) := by decide +kernel
theorem dL_pulse_247 : decode cL_pulse 247 = .ok (.i2l, 1) := by decide +kernel
theorem dL_pulse_248 : decode cL_pulse 248 = .ok (.lmul, 1) := by decide +kernel
theorem dL_pulse_249 : decode cL_pulse 249 = .ok (.iload_n 2, 1) := by decide +kernel
theorem dL_pulse_250 : decode cL_pulse 250 = .ok (.i2l, 1) := by decide +kernel
theorem dL_pulse_251 : decode cL_pulse 251 = .ok (.lmul, 1) := by decide +kernel
theorem dL_pulse_252 : decode cL_pulse 252 = .ok (.ldc2_w 50, 3) := by decide +kernel
theorem dL_pulse_255 : decode cL_pulse 255 = .ok (.ldiv, 1) := by decide +kernel
theorem dL_pulse_256 : decode cL_pulse 256 = .ok (.lstore 14, 2) := by decide +kernel
theorem dL_pulse_258 : decode cL_pulse 258 = .ok (.iload 9, 2) := by decide +kernel
theorem dL_pulse_260 : decode cL_pulse 260 = .ok (.i2l, 1) := by decide +kernel
theorem dL_pulse_261 : decode cL_pulse 261 = .ok (.lload 14, 2) := by decide +kernel
theorem dL_pulse_263 : decode cL_pulse 263 = .ok (.ladd, 1) := by decide +kernel
theorem dL_pulse_264 : decode cL_pulse 264 = .ok (.lstore 16, 2) := by decide +kernel
theorem dL_pulse_266 : decode cL_pulse 266 = .ok (.lload 16, 2) := by decide +kernel
theorem dL_pulse_268 : decode cL_pulse 268 = .ok (.ldc2_w 52, 3) := by decide +kernel
theorem dL_pulse_271 : decode cL_pulse 271 = .ok (.lcmp, 1) := by decide +kernel
theorem dL_pulse_272 : decode cL_pulse 272 = .ok (.ifCond .le 12, 3) := by decide +kernel
theorem dL_pulse_275 : decode cL_pulse 275 = .ok (.iload 10, 2) := by decide +kernel
theorem dL_pulse_277 : decode cL_pulse 277 = .ok (.ifCond .ne 7, 3) := by decide +kernel
theorem dL_pulse_280 : decode cL_pulse 280 = .ok (.iconst 1, 1) := by decide +kernel
theorem dL_pulse_281 : decode cL_pulse 281 = .ok (.goto 4, 3) := by decide +kernel
theorem dL_pulse_284 : decode cL_pulse 284 = .ok (.iconst 0, 1) := by decide +kernel
theorem dL_pulse_285 : decode cL_pulse 285 = .ok (.istore 18, 2) := by decide +kernel
theorem dL_pulse_287 : decode cL_pulse 287 = .ok (.aload_n 0, 1) := by decide +kernel
theorem dL_pulse_288 : decode cL_pulse 288 = .ok (.iconst 1, 1) := by decide +kernel
theorem dL_pulse_289 : decode cL_pulse 289 = .ok (.invokevirtual 9, 3) := by decide +kernel
theorem dL_pulse_292 : decode cL_pulse 292 = .ok (.iconst 2, 1) := by decide +kernel
theorem dL_pulse_293 : decode cL_pulse 293 = .ok (.if_icmp .ne 20, 3) := by decide +kernel
theorem dL_pulse_296 : decode cL_pulse 296 = .ok (.iload 8, 2) := by decide +kernel
theorem dL_pulse_298 : decode cL_pulse 298 = .ok (.aload_n 0, 1) := by decide +kernel
theorem dL_pulse_299 : decode cL_pulse 299 = .ok (.iconst 4, 1) := by decide +kernel
theorem dL_pulse_300 : decode cL_pulse 300 = .ok (.invokevirtual 9, 3) := by decide +kernel
theorem dL_pulse_303 : decode cL_pulse 303 = .ok (.imul, 1) := by decide +kernel
theorem dL_pulse_304 : decode cL_pulse 304 = .ok (.sipush 1000, 3) := by decide +kernel
theorem dL_pulse_307 : decode cL_pulse 307 = .ok (.invokestatic 34, 3) := by decide +kernel
theorem dL_pulse_310 : decode cL_pulse 310 = .ok (.goto 4, 3) := by decide +kernel
theorem dL_pulse_313 : decode cL_pulse 313 = .ok (.iconst 0, 1) := by decide +kernel
theorem dL_pulse_314 : decode cL_pulse 314 = .ok (.istore 19, 2) := by decide +kernel
theorem dL_pulse_316 : decode cL_pulse 316 = .ok (.iload 13, 2) := by decide +kernel
theorem dL_pulse_318 : decode cL_pulse 318 = .ok (.iload 8, 2) := by decide +kernel
theorem dL_pulse_320 : decode cL_pulse 320 = .ok (.if_icmp .ne 72, 3) := by decide +kernel
theorem dL_pulse_323 : decode cL_pulse 323 = .ok (.iload 12, 2) := by decide +kernel
theorem dL_pulse_325 : decode cL_pulse 325 = .ok (.iload 6, 2) := by decide +kernel
theorem dL_pulse_327 : decode cL_pulse 327 = .ok (.iload 19, 2) := by decide +kernel
theorem dL_pulse_329 : decode cL_pulse 329 = .ok (.iadd, 1) := by decide +kernel
theorem dL_pulse_330 : decode cL_pulse 330 = .ok (.if_icmp .ne 62, 3) := by decide +kernel
theorem dL_pulse_333 : decode cL_pulse 333 = .ok (.aload_n 0, 1) := by decide +kernel
theorem dL_pulse_334 : decode cL_pulse 334 = .ok (.iload 4, 2) := by decide +kernel
theorem dL_pulse_336 : decode cL_pulse 336 = .ok (.iconst 3, 1) := by decide +kernel
theorem dL_pulse_337 : decode cL_pulse 337 = .ok (.invokevirtual 47, 3) := by decide +kernel
theorem dL_pulse_340 : decode cL_pulse 340 = .ok (.iload 11, 2) := by decide +kernel
theorem dL_pulse_342 : decode cL_pulse 342 = .ok (.if_icmp .ne 50, 3) := by decide +kernel
theorem dL_pulse_345 : decode cL_pulse 345 = .ok (.aload_n 0, 1) := by decide +kernel
theorem dL_pulse_346 : decode cL_pulse 346 = .ok (.iload_n 3, 1) := by decide +kernel
theorem dL_pulse_347 : decode cL_pulse 347 = .ok (.iconst 3, 1) := by decide +kernel
theorem dL_pulse_348 : decode cL_pulse 348 = .ok (.invokevirtual 18, 3) := by decide +kernel
theorem dL_pulse_351 : decode cL_pulse 351 = .ok (.lload 16, 2) := by decide +kernel
theorem dL_pulse_353 : decode cL_pulse 353 = .ok (.ldc2_w 52, 3) := by decide +kernel
theorem dL_pulse_356 : decode cL_pulse 356 = .ok (.lcmp, 1) := by decide +kernel
theorem dL_pulse_357 : decode cL_pulse 357 = .ok (.ifCond .le 9, 3) := by decide +kernel
theorem dL_pulse_360 : decode cL_pulse 360 = .ok (.sipush 1000, 3) := by decide +kernel
theorem dL_pulse_363 : decode cL_pulse 363 = .ok (.goto 6, 3) := by decide +kernel
theorem dL_pulse_366 : decode cL_pulse 366 = .ok (.lload 16, 2) := by decide +kernel
theorem dL_pulse_368 : decode cL_pulse 368 = .ok (.l2i, 1) := by decide +kernel
theorem dL_pulse_369 : decode cL_pulse 369 = .ok (.if_icmp .ne 23, 3) := by decide +kernel
theorem dL_pulse_372 : decode cL_pulse 372 = .ok (.aload_n 0, 1) := by decide +kernel
theorem dL_pulse_373 : decode cL_pulse 373 = .ok (.iload_n 3, 1) := by decide +kernel
theorem dL_pulse_374 : decode cL_pulse 374 = .ok (.iconst 4, 1) := by decide +kernel
theorem dL_pulse_375 : decode cL_pulse 375 = .ok (.invokevirtual 18, 3) := by decide +kernel
theorem dL_pulse_378 : decode cL_pulse 378 = .ok (.iload 18, 2) := by decide +kernel
theorem dL_pulse_380 : decode cL_pulse 380 = .ok (.ifCond .eq 7, 3) := by decide +kernel
theorem dL_pulse_383 : decode cL_pulse 383 = .ok (.iconst 1, 1) := by decide +kernel
theorem dL_pulse_384 : decode cL_pulse 384 = .ok (.goto 5, 3) := by decide +kernel
theorem dL_pulse_387 : decode cL_pulse 387 = .ok (.iload 10, 2) := by decide +kernel
theorem dL_pulse_389 : decode cL_pulse 389 = .ok (.if_icmp .eq 5, 3) := by decide +kernel
theorem dL_pulse_392 : decode cL_pulse 392 = .ok (.iconst 0, 1) := by decide +kernel
theorem dL_pulse_393 : decode cL_pulse 393 = .ok (.ireturn, 1) := by decide +kernel
theorem dL_pulse_394 : decode cL_pulse 394 = .ok (.iload 18, 2) := by decide +kernel
theorem dL_pulse_396 : decode cL_pulse 396 = .ok (.ifCond .eq 63, 3) := by decide +kernel
theorem dL_pulse_399 : decode cL_pulse 399 = .ok (.aload_n 0, 1) := by decide +kernel
theorem dL_pulse_400 : decode cL_pulse 400 = .ok (.iconst 0, 1) := by decide +kernel
theorem dL_pulse_401 : decode cL_pulse 401 = .ok (.iconst 0, 1) := by decide +kernel
theorem dL_pulse_402 : decode cL_pulse 402 = .ok (.invokevirtual 54, 3) := by decide +kernel
theorem dL_pulse_405 : decode cL_pulse 405 = .ok (.iconst 2, 1) := by decide +kernel
theorem dL_pulse_406 : decode cL_pulse 406 = .ok (.if_icmp .ne 64, 3) := by decide +kernel
theorem dL_pulse_409 : decode cL_pulse 409 = .ok (.aload_n 0, 1) := by decide +kernel
theorem dL_pulse_410 : decode cL_pulse 410 = .ok (.iconst 0, 1) := by decide +kernel
theorem dL_pulse_411 : decode cL_pulse 411 = .ok (.iconst 1, 1) := by decide +kernel
theorem dL_pulse_412 : decode cL_pulse 412 = .ok (.invokevirtual 54, 3) := by decide +kernel
theorem dL_pulse_415 : decode cL_pulse 415 = .ok (.iload_n 3, 1) := by decide +kernel
theorem dL_pulse_416 : decode cL_pulse 416 = .ok (.if_icmp .ne 54, 3) := by decide +kernel
theorem dL_pulse_419 : decode cL_pulse 419 = .ok (.aload_n 0, 1) := by decide +kernel
theorem dL_pulse_420 : decode cL_pulse 420 = .ok (.iconst 1, 1) := by decide +kernel
theorem dL_pulse_421 : decode cL_pulse 421 = .ok (.iconst 0, 1) := by decide +kernel
theorem dL_pulse_422 : decode cL_pulse 422 = .ok (.invokevirtual 54, 3) := by decide +kernel
theorem dL_pulse_425 : decode cL_pulse 425 = .ok (.iconst 3, 1) := by decide +kernel
theorem dL_pulse_426 : decode cL_pulse 426 = .ok (.if_icmp .ne 44, 3) := by decide +kernel
theorem dL_pulse_429 : decode cL_pulse 429 = .ok (.aload_n 0, 1) := by decide +kernel
theorem dL_pulse_430 : decode cL_pulse 430 = .ok (.iconst 1, 1) := by decide +kernel
theorem dL_pulse_431 : decode cL_pulse 431 = .ok (.iconst 1, 1) := by decide +kernel
theorem dL_pulse_432 : decode cL_pulse 432 = .ok (.invokevirtual 54, 3) := by decide +kernel
theorem dL_pulse_435 : decode cL_pulse 435 = .ok (.lload 16, 2) := by decide +kernel
theorem dL_pulse_437 : decode cL_pulse 437 = .ok (.l2i, 1) := by decide +kernel
theorem dL_pulse_438 : decode cL_pulse 438 = .ok (.sipush 999, 3) := by decide +kernel
theorem dL_pulse_441 : decode cL_pulse 441 = .ok (.isub, 1) := by decide +kernel
theorem dL_pulse_442 : decode cL_pulse 442 = .ok (.if_icmp .ne 28, 3) := by decide +kernel
theorem dL_pulse_445 : decode cL_pulse 445 = .ok (.aload_n 0, 1) := by decide +kernel
theorem dL_pulse_446 : decode cL_pulse 446 = .ok (.iconst 2, 1) := by decide +kernel
theorem dL_pulse_447 : decode cL_pulse 447 = .ok (.iconst 0, 1) := by decide +kernel
theorem dL_pulse_448 : decode cL_pulse 448 = .ok (.invokevirtual 54, 3) := by decide +kernel
theorem dL_pulse_451 : decode cL_pulse 451 = .ok (.bipush (-9), 2) := by decide +kernel
theorem dL_pulse_453 : decode cL_pulse 453 = .ok (.if_icmp .eq 19, 3) := by decide +kernel
theorem dL_pulse_456 : decode cL_pulse 456 = .ok (.goto 14, 3) := by decide +kernel
theorem dL_pulse_459 : decode cL_pulse 459 = .ok (.aload_n 0, 1) := by decide +kernel
theorem dL_pulse_460 : decode cL_pulse 460 = .ok (.iconst 0, 1) := by decide +kernel
theorem dL_pulse_461 : decode cL_pulse 461 = .ok (.iconst 0, 1) := by decide +kernel
theorem dL_pulse_462 : decode cL_pulse 462 = .ok (.invokevirtual 54, 3) := by decide +kernel
theorem dL_pulse_465 : decode cL_pulse 465 = .ok (.bipush (-9), 2) := by decide +kernel
theorem dL_pulse_467 : decode cL_pulse 467 = .ok (.if_icmp .eq 5, 3) := by decide +kernel
theorem dL_pulse_470 : decode cL_pulse 470 = .ok (.iconst 0, 1) := by decide +kernel
theorem dL_pulse_471 : decode cL_pulse 471 = .ok (.ireturn, 1) := by decide +kernel
theorem dL_pulse_472 : decode cL_pulse 472 = .ok (.aload_n 0, 1) := by decide +kernel
theorem dL_pulse_473 : decode cL_pulse 473 = .ok (.iload_n 3, 1) := by decide +kernel
theorem dL_pulse_474 : decode cL_pulse 474 = .ok (.iconst 2, 1) := by decide +kernel
theorem dL_pulse_475 : decode cL_pulse 475 = .ok (.invokevirtual 18, 3) := by decide +kernel
theorem dL_pulse_478 : decode cL_pulse 478 = .ok (.iconst 3, 1) := by decide +kernel
theorem dL_pulse_479 : decode cL_pulse 479 = .ok (.if_icmp .ne 30, 3) := by decide +kernel
theorem dL_pulse_482 : decode cL_pulse 482 = .ok (.iload 5, 2) := by decide +kernel
theorem dL_pulse_484 : decode cL_pulse 484 = .ok (.ifCond .eq 8, 3) := by decide +kernel
theorem dL_pulse_487 : decode cL_pulse 487 = .ok (.iload 13, 2) := by decide +kernel
theorem dL_pulse_489 : decode cL_pulse 489 = .ok (.goto 6, 3) := by decide +kernel
theorem dL_pulse_492 : decode cL_pulse 492 = .ok (.iload 13, 2) := by decide +kernel
theorem dL_pulse_494 : decode cL_pulse 494 = .ok (.ineg, 1) := by decide +kernel
theorem dL_pulse_495 : decode cL_pulse 495 = .ok (.aload_n 0, 1) := by decide +kernel
theorem dL_pulse_496 : decode cL_pulse 496 = .ok (.iload_n 3, 1) := by decide +kernel
theorem dL_pulse_497 : decode cL_pulse 497 = .ok (.bipush 13, 2) := by decide +kernel
theorem dL_pulse_499 : decode cL_pulse 499 = .ok (.invokevirtual 18, 3) := by decide +kernel
theorem dL_pulse_502 : decode cL_pulse 502 = .ok (.if_icmp .ge 7, 3) := by decide +kernel
theorem dL_pulse_505 : decode cL_pulse 505 = .ok (.iconst 1, 1) := by decide +kernel
theorem dL_pulse_506 : decode cL_pulse 506 = .ok (.goto 4, 3) := by decide +kernel
theorem dL_pulse_509 : decode cL_pulse 509 = .ok (.iconst 0, 1) := by decide +kernel
theorem dL_pulse_510 : decode cL_pulse 510 = .ok (.istore 14, 2) := by decide +kernel
theorem dL_pulse_512 : decode cL_pulse 512 = .ok (.iload 13, 2) := by decide +kernel
theorem dL_pulse_514 : decode cL_pulse 514 = .ok (.invokestatic 26, 3) := by decide +kernel
theorem dL_pulse_517 : decode cL_pulse 517 = .ok (.aload_n 0, 1) := by decide +kernel
theorem dL_pulse_518 : decode cL_pulse 518 = .ok (.iconst 3, 1) := by decide +kernel
theorem dL_pulse_519 : decode cL_pulse 519 = .ok (.invokevirtual 9, 3) := by decide +kernel
theorem dL_pulse_522 : decode cL_pulse 522 = .ok (.if_icmp .gt 34, 3) := by decide +kernel
theorem dL_pulse_525 : decode cL_pulse 525 = .ok (.iload 12, 2) := by decide +kernel
theorem dL_pulse_527 : decode cL_pulse 527 = .ok (.invokestatic 26, 3) := by decide +kernel
theorem dL_pulse_530 : decode cL_pulse 530 = .ok (.iload_n 1, 1) := by decide +kernel
theorem dL_pulse_531 : decode cL_pulse 531 = .ok (.invokestatic 26, 3) := by decide +kernel
theorem dL_pulse_534 : decode cL_pulse 534 = .ok (.if_icmp .gt 22, 3) := by decide +kernel
theorem dL_pulse_537 : decode cL_pulse 537 = .ok (.iload 14, 2) := by decide +kernel
theorem dL_pulse_539 : decode cL_pulse 539 = .ok (.ifCond .eq 13, 3) := by decide +kernel
theorem dL_pulse_542 : decode cL_pulse 542 = .ok (.aload_n 0, 1) := by decide +kernel
theorem dL_pulse_543 : decode cL_pulse 543 = .ok (.iload_n 3, 1) := by decide +kernel
theorem dL_pulse_544 : decode cL_pulse 544 = .ok (.iconst 5, 1) := by decide +kernel
theorem dL_pulse_545 : decode cL_pulse 545 = .ok (.invokevirtual 18, 3) := by decide +kernel
theorem dL_pulse_548 : decode cL_pulse 548 = .ok (.iconst 1, 1) := by decide +kernel
theorem dL_pulse_549 : decode cL_pulse 549 = .ok (.if_icmp .eq 7, 3) := by decide +kernel
theorem dL_pulse_552 : decode cL_pulse 552 = .ok (.iconst 1, 1) := by decide +kernel
theorem dL_pulse_553 : decode cL_pulse 553 = .ok (.goto 4, 3) := by decide +kernel
theorem dL_pulse_556 : decode cL_pulse 556 = .ok (.iconst 0, 1) := by decide +kernel
theorem dL_pulse_557 : decode cL_pulse 557 = .ok (.ireturn, 1) := by decide +kernel
theorem dL_sweep_0 : decode cL_sweep 0 = .ok (.iload_n 2, 1) := by decide +kernel
theorem dL_sweep_1 : decode cL_sweep 1 = .ok (.sipush 1200, 3) := by decide +kernel
theorem dL_sweep_4 : decode cL_sweep 4 = .ok (.invokestatic 57, 3) := by decide +kernel
theorem dL_sweep_7 : decode cL_sweep 7 = .ok (.sipush 600, 3) := by decide +kernel
theorem dL_sweep_10 : decode cL_sweep 10 = .ok (.isub, 1) := by decide +kernel
theorem dL_sweep_11 : decode cL_sweep 11 = .ok (.istore_n 3, 1) := by decide +kernel
theorem dL_sweep_12 : decode cL_sweep 12 = .ok (.iload_n 2, 1) := by decide +kernel
theorem dL_sweep_13 : decode cL_sweep 13 = .ok (.iconst 5, 1) := by decide +kernel
theorem dL_sweep_14 : decode cL_sweep 14 = .ok (.ishr, 1) := by decide +kernel
theorem dL_sweep_15 : decode cL_sweep 15 = .ok (.sipush 1200, 3) := by decide +kernel
theorem dL_sweep_18 : decode cL_sweep 18 = .ok (.invokestatic 57, 3) := by decide +kernel
theorem dL_sweep_21 : decode cL_sweep 21 = .ok (.sipush 600, 3) := by decide +kernel
theorem dL_sweep_24 : decode cL_sweep 24 = .ok (.isub, 1) := by decide +kernel
theorem dL_sweep_25 : decode cL_sweep 25 = .ok (.istore 4, 2) := by decide +kernel
theorem dL_sweep_27 : decode cL_sweep 27 = .ok (.bipush 40, 2) := by decide +kernel
theorem dL_sweep_29 : decode cL_sweep 29 = .ok (.iload_n 2, 1) := by decide +kernel
theorem dL_sweep_30 : decode cL_sweep 30 = .ok (.bipush 9, 2) := by decide +kernel
theorem dL_sweep_32 : decode cL_sweep 32 = .ok (.ishr, 1) := by decide +kernel
theorem dL_sweep_33 : decode cL_sweep 33 = .ok (.sipush 300, 3) := by decide +kernel
theorem dL_sweep_36 : decode cL_sweep 36 = .ok (.invokestatic 57, 3) := by decide +kernel
theorem dL_sweep_39 : decode cL_sweep 39 = .ok (.iadd, 1) := by decide +kernel
theorem dL_sweep_40 : decode cL_sweep 40 = .ok (.istore 5, 2) := by decide +kernel
theorem dL_sweep_42 : decode cL_sweep 42 = .ok (.iconst 1, 1) := by decide +kernel
theorem dL_sweep_43 : decode cL_sweep 43 = .ok (.iload_n 2, 1) := by decide +kernel
theorem dL_sweep_44 : decode cL_sweep 44 = .ok (.bipush 13, 2) := by decide +kernel
theorem dL_sweep_46 : decode cL_sweep 46 = .ok (.ishr, 1) := by decide +kernel
theorem dL_sweep_47 : decode cL_sweep 47 = .ok (.bipush 20, 2) := by decide +kernel
theorem dL_sweep_49 : decode cL_sweep 49 = .ok (.invokestatic 57, 3) := by decide +kernel
theorem dL_sweep_52 : decode cL_sweep 52 = .ok (.iadd, 1) := by decide +kernel
theorem dL_sweep_53 : decode cL_sweep 53 = .ok (.istore 6, 2) := by decide +kernel
theorem dL_sweep_55 : decode cL_sweep 55 = .ok (.iload_n 2, 1) := by decide +kernel
theorem dL_sweep_56 : decode cL_sweep 56 = .ok (.bipush 17, 2) := by decide +kernel
theorem dL_sweep_58 : decode cL_sweep 58 = .ok (.ishr, 1) := by decide +kernel
theorem dL_sweep_59 : decode cL_sweep 59 = .ok (.iconst 4, 1) := by decide +kernel
theorem dL_sweep_60 : decode cL_sweep 60 = .ok (.invokestatic 57, 3) := by decide +kernel
theorem dL_sweep_63 : decode cL_sweep 63 = .ok (.istore 7, 2) := by decide +kernel
theorem dL_sweep_65 : decode cL_sweep 65 = .ok (.iload_n 2, 1) := by decide +kernel
theorem dL_sweep_66 : decode cL_sweep 66 = .ok (.bipush 20, 2) := by decide +kernel
theorem dL_sweep_68 : decode cL_sweep 68 = .ok (.ishr, 1) := by decide +kernel
theorem dL_sweep_69 : decode cL_sweep 69 = .ok (.iconst 1, 1) := by decide +kernel
theorem dL_sweep_70 : decode cL_sweep 70 = .ok (.iand, 1) := by decide +kernel
theorem dL_sweep_71 : decode cL_sweep 71 = .ok (.istore 8, 2) := by decide +kernel
theorem dL_sweep_73 : decode cL_sweep 73 = .ok (.aload_n 0, 1) := by decide +kernel
theorem dL_sweep_74 : decode cL_sweep 74 = .ok (.invokevirtual 43, 3) := by decide +kernel
theorem dL_sweep_77 : decode cL_sweep 77 = .ok (.ifCond .lt 10, 3) := by decide +kernel
theorem dL_sweep_80 : decode cL_sweep 80 = .ok (.aload_n 1, 1) := by decide +kernel
theorem dL_sweep_81 : decode cL_sweep 81 = .ok (.invokevirtual 43, 3) := by decide +kernel
theorem dL_sweep_84 : decode cL_sweep 84 = .ok (.ifCond .ge 5, 3) := by decide +kernel
theorem dL_sweep_87 : decode cL_sweep 87 = .ok (.iconst 0, 1) := by decide +kernel
theorem dL_sweep_88 : decode cL_sweep 88 = .ok (.ireturn, 1) := by decide +kernel
theorem dL_sweep_89 : decode cL_sweep 89 = .ok (.iload 4, 2) := by decide +kernel
theorem dL_sweep_91 : decode cL_sweep 91 = .ok (.iload_n 3, 1) := by decide +kernel
theorem dL_sweep_92 : decode cL_sweep 92 = .ok (.isub, 1) := by decide +kernel
theorem dL_sweep_93 : decode cL_sweep 93 = .ok (.invokestatic 26, 3) := by decide +kernel
theorem dL_sweep_96 : decode cL_sweep 96 = .ok (.iload 5, 2) := by decide +kernel
theorem dL_sweep_98 : decode cL_sweep 98 = .ok (.idiv, 1) := by decide +kernel
theorem dL_sweep_99 : decode cL_sweep 99 = .ok (.iconst 1, 1) := by decide +kernel
theorem dL_sweep_100 : decode cL_sweep 100 = .ok (.iadd, 1) := by decide +kernel
theorem dL_sweep_101 : decode cL_sweep 101 = .ok (.istore 9, 2) := by decide +kernel
theorem dL_sweep_103 : decode cL_sweep 103 = .ok (.iload 8, 2) := by decide +kernel
theorem dL_sweep_105 : decode cL_sweep 105 = .ok (.iconst 1, 1) := by decide +kernel
theorem dL_sweep_106 : decode cL_sweep 106 = .ok (.if_icmp .ne 12, 3) := by decide +kernel
theorem dL_sweep_109 : decode cL_sweep 109 = .ok (.iconst 2, 1) := by decide +kernel
theorem dL_sweep_110 : decode cL_sweep 110 = .ok (.iload 9, 2) := by decide +kernel
theorem dL_sweep_112 : decode cL_sweep 112 = .ok (.imul, 1) := by decide +kernel
theorem dL_sweep_113 : decode cL_sweep 113 = .ok (.iconst 1, 1) := by decide +kernel
theorem dL_sweep_114 : decode cL_sweep 114 = .ok (.isub, 1) := by decide +kernel
theorem dL_sweep_115 : decode cL_sweep 115 = .ok (.goto 5, 3) := by decide +kernel
theorem dL_sweep_118 : decode cL_sweep 118 = .ok (.iload 9, 2) := by decide +kernel
theorem dL_sweep_120 : decode cL_sweep 120 = .ok (.istore 10, 2) := by decide +kernel
theorem dL_sweep_122 : decode cL_sweep 122 = .ok (.aload_n 0, 1) := by decide +kernel
theorem dL_sweep_123 : decode cL_sweep 123 = .ok (.iload_n 3, 1) := by decide +kernel
theorem dL_sweep_124 : decode cL_sweep 124 = .ok (.iload 4, 2) := by decide +kernel
theorem dL_sweep_126 : decode cL_sweep 126 = .ok (.iload 5, 2) := by decide +kernel
theorem dL_sweep_128 : decode cL_sweep 128 = .ok (.iload 6, 2) := by decide +kernel
theorem dL_sweep_130 : decode cL_sweep 130 = .ok (.iload 7, 2) := by decide +kernel
theorem dL_sweep_132 : decode cL_sweep 132 = .ok (.iload 8, 2) := by decide +kernel
theorem dL_sweep_134 : decode cL_sweep 134 = .ok (.invokevirtual 60, 3) := by decide +kernel
theorem dL_sweep_137 : decode cL_sweep 137 = .ok (.istore 11, 2) := by decide +kernel
theorem dL_sweep_139 : decode cL_sweep 139 = .ok (.iload 10, 2) := by decide +kernel
theorem dL_sweep_141 : decode cL_sweep 141 = .ok (.bipush 60, 2) := by decide +kernel
theorem dL_sweep_143 : decode cL_sweep 143 = .ok (.if_icmp .le 24, 3) := by decide +kernel
theorem dL_sweep_146 : decode cL_sweep 146 = .ok (.iload 11, 2) := by decide +kernel
theorem dL_sweep_148 : decode cL_sweep 148 = .ok (.bipush (-4), 2) := by decide +kernel
theorem dL_sweep_150 : decode cL_sweep 150 = .ok (.if_icmp .ne 15, 3) := by decide +kernel
theorem dL_sweep_153 : decode cL_sweep 153 = .ok (.aload_n 0, 1) := by decide +kernel
theorem dL_sweep_154 : decode cL_sweep 154 = .ok (.iconst 1, 1) := by decide +kernel
theorem dL_sweep_155 : decode cL_sweep 155 = .ok (.invokevirtual 37, 3) := by decide +kernel
theorem dL_sweep_158 : decode cL_sweep 158 = .ok (.ifCond .ne 7, 3) := by decide +kernel
theorem dL_sweep_161 : decode cL_sweep 161 = .ok (.iconst 1, 1) := by decide +kernel
theorem dL_sweep_162 : decode cL_sweep 162 = .ok (.goto 4, 3) := by decide +kernel
theorem dL_sweep_165 : decode cL_sweep 165 = .ok (.iconst 0, 1) := by decide +kernel
theorem dL_sweep_166 : decode cL_sweep 166 = .ok (.ireturn, 1) := by decide +kernel
theorem dL_sweep_167 : decode cL_sweep 167 = .ok (.iconst 0, 1) := by decide +kernel
theorem dL_sweep_168 : decode cL_sweep 168 = .ok (.istore 12, 2) := by decide +kernel
theorem dL_sweep_170 : decode cL_sweep 170 = .ok (.iconst 0, 1) := by decide +kernel
theorem dL_sweep_171 : decode cL_sweep 171 = .ok (.istore 13, 2) := by decide +kernel
theorem dL_sweep_173 : decode cL_sweep 173 = .ok (.iconst 0, 1) := by decide +kernel
theorem dL_sweep_174 : decode cL_sweep 174 = .ok (.istore 14, 2) := by decide +kernel
theorem dL_sweep_176 : decode cL_sweep 176 = .ok (.iload 14, 2) := by decide +kernel
theorem dL_sweep_178 : decode cL_sweep 178 = .ok (.iload 10, 2) := by decide +kernel
theorem dL_sweep_180 : decode cL_sweep 180 = .ok (.if_icmp .ge 127, 3) := by decide +kernel
theorem dL_sweep_183 : decode cL_sweep 183 = .ok (.iload 13, 2) := by decide +kernel
theorem dL_sweep_185 : decode cL_sweep 185 = .ok (.ifCond .ne 122, 3) := by decide +kernel
theorem dL_sweep_188 : decode cL_sweep 188 = .ok (.iload 14, 2) := by decide +kernel
theorem dL_sweep_190 : decode cL_sweep 190 = .ok (.iload 9, 2) := by decide +kernel
theorem dL_sweep_192 : decode cL_sweep 192 = .ok (.if_icmp .ge 8, 3) := by decide +kernel
theorem dL_sweep_195 : decode cL_sweep 195 = .ok (.iload 14, 2) := by decide +kernel
theorem dL_sweep_197 : decode cL_sweep 197 = .ok (.goto 10, 3) := by decide +kernel
theorem dL_sweep_200 : decode cL_sweep 200 = .ok (.iload 10, 2) := by decide +kernel
theorem dL_sweep_202 : decode cL_sweep 202 = .ok (.iconst 1, 1) := by decide +kernel
theorem dL_sweep_203 : decode cL_sweep 203 = .ok (.isub, 1) := by decide +kernel
theorem dL_sweep_204 : decode cL_sweep 204 = .ok (.iload 14, 2) := by decide +kernel
theorem dL_sweep_206 : decode cL_sweep 206 = .ok (.isub, 1) := by decide +kernel
theorem dL_sweep_207 : decode cL_sweep 207 = .ok (.istore 15, 2) := by decide +kernel
theorem dL_sweep_209 : decode cL_sweep 209 = .ok (.aload_n 1, 1) := by decide +kernel
theorem dL_sweep_210 : decode cL_sweep 210 = .ok (.iconst 0, 1) := by decide +kernel
theorem dL_sweep_211 : decode cL_sweep 211 = .ok (.invokevirtual 9, 3) := by decide +kernel
theorem dL_sweep_214 : decode cL_sweep 214 = .ok (.istore 16, 2) := by decide +kernel
theorem dL_sweep_216 : decode cL_sweep 216 = .ok (.aload_n 1, 1) := by decide +kernel
theorem dL_sweep_217 : decode cL_sweep 217 = .ok (.iload 16, 2) := by decide +kernel
theorem dL_sweep_219 : decode cL_sweep 219 = .ok (.iconst 4, 1) := by decide +kernel
theorem dL_sweep_220 : decode cL_sweep 220 = .ok (.invokevirtual 18, 3) := by decide +kernel
theorem dL_sweep_223 : decode cL_sweep 223 = .ok (.istore 17, 2) := by decide +kernel
theorem dL_sweep_225 : decode cL_sweep 225 = .ok (.aload_n 1, 1) := by decide +kernel
theorem dL_sweep_226 : decode cL_sweep 226 = .ok (.iload 4, 2) := by decide +kernel
theorem dL_sweep_228 : decode cL_sweep 228 = .ok (.iload_n 3, 1) := by decide +kernel
theorem dL_sweep_229 : decode cL_sweep 229 = .ok (.if_icmp .ge 13, 3) := by decide +kernel
theorem dL_sweep_232 : decode cL_sweep 232 = .ok (.iload_n 3, 1) := by decide +kernel
theorem dL_sweep_233 : decode cL_sweep 233 = .ok (.iload 5, 2) := by decide +kernel
theorem dL_sweep_235 : decode cL_sweep 235 = .ok (.iload 15, 2) := by decide +kernel
theorem dL_sweep_237 : decode cL_sweep 237 = .ok (.imul, 1) := by decide +kernel
theorem dL_sweep_238 : decode cL_sweep 238 = .ok (.isub, 1) := by decide +kernel
theorem dL_sweep_239 : decode cL_sweep 239 = .ok (.goto 10, 3) := by decide +kernel
theorem dL_sweep_242 : decode cL_sweep 242 = .ok (.iload_n 3, 1) := by decide +kernel
theorem dL_sweep_243 : decode cL_sweep 243 = .ok (.iload 5, 2) := by decide +kernel
theorem dL_sweep_245 : decode cL_sweep 245 = .ok (.iload 15, 2) := by decide +kernel
theorem dL_sweep_247 : decode cL_sweep 247 = .ok (.imul, 1) := by decide +kernel
theorem dL_sweep_248 : decode cL_sweep 248 = .ok (.iadd, 1) := by decide +kernel
theorem dL_sweep_249 : decode cL_sweep 249 = .ok (.iload 6, 2) := by decide +kernel
theorem dL_sweep_251 : decode cL_sweep 251 = .ok (.invokevirtual 40, 3) := by decide +kernel
theorem dL_sweep_254 : decode cL_sweep 254 = .ok (.iload 14, 2) := by decide +kernel
theorem dL_sweep_256 : decode cL_sweep 256 = .ok (.iconst 1, 1) := by decide +kernel
theorem dL_sweep_257 : decode cL_sweep 257 = .ok (.iadd, 1) := by decide +kernel
theorem dL_sweep_258 : decode cL_sweep 258 = .ok (.if_icmp .eq 5, 3) := by decide +kernel
theorem dL_sweep_261 : decode cL_sweep 261 = .ok (.iconst 0, 1) := by decide +kernel
theorem dL_sweep_262 : decode cL_sweep 262 = .ok (.ireturn, 1) := by decide +kernel
theorem dL_sweep_263 : decode cL_sweep 263 = .ok (.iinc 12 1, 3) := by decide +kernel
theorem dL_sweep_266 : decode cL_sweep 266 = .ok (.aload_n 1, 1) := by decide +kernel
theorem dL_sweep_267 : decode cL_sweep 267 = .ok (.iload 16, 2) := by decide +kernel
theorem dL_sweep_269 : decode cL_sweep 269 = .ok (.iconst 4, 1) := by decide +kernel
theorem dL_sweep_270 : decode cL_sweep 270 = .ok (.invokevirtual 18, 3) := by decide +kernel
theorem dL_sweep_273 : decode cL_sweep 273 = .ok (.iload 17, 2) := by decide +kernel
theorem dL_sweep_275 : decode cL_sweep 275 = .ok (.if_icmp .eq 7, 3) := by decide +kernel
theorem dL_sweep_278 : decode cL_sweep 278 = .ok (.iconst 1, 1) := by decide +kernel
theorem dL_sweep_279 : decode cL_sweep 279 = .ok (.goto 4, 3) := by decide +kernel
theorem dL_sweep_282 : decode cL_sweep 282 = .ok (.iconst 0, 1) := by decide +kernel
theorem dL_sweep_283 : decode cL_sweep 283 = .ok (.istore 13, 2) := by decide +kernel
theorem dL_sweep_285 : decode cL_sweep 285 = .ok (.iload 13, 2) := by decide +kernel
theorem dL_sweep_287 : decode cL_sweep 287 = .ok (.ifCond .ne 14, 3) := by decide +kernel
theorem dL_sweep_290 : decode cL_sweep 290 = .ok (.aload_n 1, 1) := by decide +kernel
theorem dL_sweep_291 : decode cL_sweep 291 = .ok (.iload 7, 2) := by decide +kernel
theorem dL_sweep_293 : decode cL_sweep 293 = .ok (.invokevirtual 64, 3) := by decide +kernel
theorem dL_sweep_296 : decode cL_sweep 296 = .ok (.ifCond .ge 5, 3) := by decide +kernel
theorem dL_sweep_299 : decode cL_sweep 299 = .ok (.iconst 0, 1) := by decide +kernel
theorem dL_sweep_300 : decode cL_sweep 300 = .ok (.ireturn, 1) := by decide +kernel
theorem dL_sweep_301 : decode cL_sweep 301 = .ok (.iinc 14 1, 3) := by decide +kernel
theorem dL_sweep_304 : decode cL_sweep 304 = .ok (.goto (-128), 3) := by decide +kernel
theorem dL_sweep_307 : decode cL_sweep 307 = .ok (.iload 11, 2) := by decide +kernel
theorem dL_sweep_309 : decode cL_sweep 309 = .ok (.iload 13, 2) := by decide +kernel
theorem dL_sweep_311 : decode cL_sweep 311 = .ok (.ifCond .eq 11, 3) := by decide +kernel
theorem dL_sweep_314 : decode cL_sweep 314 = .ok (.bipush (-100), 2) := by decide +kernel
theorem dL_sweep_316 : decode cL_sweep 316 = .ok (.iload 12, 2) := by decide +kernel
theorem dL_sweep_318 : decode cL_sweep 318 = .ok (.isub, 1) := by decide +kernel
theorem dL_sweep_319 : decode cL_sweep 319 = .ok (.goto 5, 3) := by decide +kernel
theorem dL_sweep_322 : decode cL_sweep 322 = .ok (.iload 12, 2) := by decide +kernel
theorem dL_sweep_324 : decode cL_sweep 324 = .ok (.if_icmp .ne 85, 3) := by decide +kernel
theorem dL_sweep_327 : decode cL_sweep 327 = .ok (.aload_n 0, 1) := by decide +kernel
theorem dL_sweep_328 : decode cL_sweep 328 = .ok (.iconst 1, 1) := by decide +kernel
theorem dL_sweep_329 : decode cL_sweep 329 = .ok (.invokevirtual 37, 3) := by decide +kernel
theorem dL_sweep_332 : decode cL_sweep 332 = .ok (.iload 12, 2) := by decide +kernel
theorem dL_sweep_334 : decode cL_sweep 334 = .ok (.if_icmp .ne 75, 3) := by decide +kernel
theorem dL_sweep_337 : decode cL_sweep 337 = .ok (.iload 13, 2) := by decide +kernel
theorem dL_sweep_339 : decode cL_sweep 339 = .ok (.ifCond .eq 59, 3) := by decide +kernel
theorem dL_sweep_342 : decode cL_sweep 342 = .ok (.aload_n 0, 1) := by decide +kernel
theorem dL_sweep_343 : decode cL_sweep 343 = .ok (.iconst 0, 1) := by decide +kernel
theorem dL_sweep_344 : decode cL_sweep 344 = .ok (.iconst 0, 1) := by decide +kernel
theorem dL_sweep_345 : decode cL_sweep 345 = .ok (.invokevirtual 54, 3) := by decide +kernel
theorem dL_sweep_348 : decode cL_sweep 348 = .ok (.iconst 1, 1) := by decide +kernel
theorem dL_sweep_349 : decode cL_sweep 349 = .ok (.if_icmp .ne 60, 3) := by decide +kernel
theorem dL_sweep_352 : decode cL_sweep 352 = .ok (.aload_n 0, 1) := by decide +kernel
theorem dL_sweep_353 : decode cL_sweep 353 = .ok (.iconst 0, 1) := by decide +kernel
theorem dL_sweep_354 : decode cL_sweep 354 = .ok (.iconst 1, 1) := by decide +kernel
theorem dL_sweep_355 : decode cL_sweep 355 = .ok (.invokevirtual 54, 3) := by decide +kernel
theorem dL_sweep_358 : decode cL_sweep 358 = .ok (.iload 12, 2) := by decide +kernel
theorem dL_sweep_360 : decode cL_sweep 360 = .ok (.iconst 1, 1) := by decide +kernel
theorem dL_sweep_361 : decode cL_sweep 361 = .ok (.isub, 1) := by decide +kernel
theorem dL_sweep_362 : decode cL_sweep 362 = .ok (.if_icmp .ne 47, 3) := by decide +kernel
theorem dL_sweep_365 : decode cL_sweep 365 = .ok (.aload_n 0, 1) := by decide +kernel
theorem dL_sweep_366 : decode cL_sweep 366 = .ok (.iconst 1, 1) := by decide +kernel
theorem dL_sweep_367 : decode cL_sweep 367 = .ok (.iconst 1, 1) := by decide +kernel
theorem dL_sweep_368 : decode cL_sweep 368 = .ok (.invokevirtual 54, 3) := by decide +kernel
theorem dL_sweep_371 : decode cL_sweep 371 = .ok (.aload_n 1, 1) := by decide +kernel
theorem dL_sweep_372 : decode cL_sweep 372 = .ok (.iconst 0, 1) := by decide +kernel
theorem dL_sweep_373 : decode cL_sweep 373 = .ok (.iconst 1, 1) := by decide +kernel
theorem dL_sweep_374 : decode cL_sweep 374 = .ok (.invokevirtual 54, 3) := by decide +kernel
theorem dL_sweep_377 : decode cL_sweep 377 = .ok (.if_icmp .ne 32, 3) := by decide +kernel
theorem dL_sweep_380 : decode cL_sweep 380 = .ok (.aload_n 0, 1) := by decide +kernel
theorem dL_sweep_381 : decode cL_sweep 381 = .ok (.iconst 2, 1) := by decide +kernel
theorem dL_sweep_382 : decode cL_sweep 382 = .ok (.iconst 1, 1) := by decide +kernel
theorem dL_sweep_383 : decode cL_sweep 383 = .ok (.invokevirtual 54, 3) := by decide +kernel
theorem dL_sweep_386 : decode cL_sweep 386 = .ok (.aload_n 1, 1) := by decide +kernel
theorem dL_sweep_387 : decode cL_sweep 387 = .ok (.iconst 1, 1) := by decide +kernel
theorem dL_sweep_388 : decode cL_sweep 388 = .ok (.iconst 1, 1) := by decide +kernel
theorem dL_sweep_389 : decode cL_sweep 389 = .ok (.invokevirtual 54, 3) := by decide +kernel
theorem dL_sweep_392 : decode cL_sweep 392 = .ok (.if_icmp .eq 19, 3) := by decide +kernel
theorem dL_sweep_395 : decode cL_sweep 395 = .ok (.goto 14, 3) := by decide +kernel
theorem dL_sweep_398 : decode cL_sweep 398 = .ok (.aload_n 0, 1) := by decide +kernel
theorem dL_sweep_399 : decode cL_sweep 399 = .ok (.iconst 0, 1) := by decide +kernel
theorem dL_sweep_400 : decode cL_sweep 400 = .ok (.iconst 0, 1) := by decide +kernel
theorem dL_sweep_401 : decode cL_sweep 401 = .ok (.invokevirtual 54, 3) := by decide +kernel
theorem dL_sweep_404 : decode cL_sweep 404 = .ok (.bipush (-9), 2) := by decide +kernel
theorem dL_sweep_406 : decode cL_sweep 406 = .ok (.if_icmp .eq 5, 3) := by decide +kernel
theorem dL_sweep_409 : decode cL_sweep 409 = .ok (.iconst 0, 1) := by decide +kernel
theorem dL_sweep_410 : decode cL_sweep 410 = .ok (.ireturn, 1) := by decide +kernel
theorem dL_sweep_411 : decode cL_sweep 411 = .ok (.iconst 0, 1) := by decide +kernel
theorem dL_sweep_412 : decode cL_sweep 412 = .ok (.istore 14, 2) := by decide +kernel
theorem dL_sweep_414 : decode cL_sweep 414 = .ok (.iload 14, 2) := by decide +kernel
theorem dL_sweep_416 : decode cL_sweep 416 = .ok (.iload 12, 2) := by decide +kernel
theorem dL_sweep_418 : decode cL_sweep 418 = .ok (.if_icmp .ge 45, 3) := by decide +kernel
theorem dL_sweep_421 : decode cL_sweep 421 = .ok (.iconst 0, 1) := by decide +kernel
theorem dL_sweep_422 : decode cL_sweep 422 = .ok (.istore 15, 2) := by decide +kernel
theorem dL_sweep_424 : decode cL_sweep 424 = .ok (.iload 15, 2) := by decide +kernel
theorem dL_sweep_426 : decode cL_sweep 426 = .ok (.iconst 4, 1) := by decide +kernel
theorem dL_sweep_427 : decode cL_sweep 427 = .ok (.if_icmp .ge 30, 3) := by decide +kernel
theorem dL_sweep_430 : decode cL_sweep 430 = .ok (.aload_n 0, 1) := by decide +kernel
theorem dL_sweep_431 : decode cL_sweep 431 = .ok (.iload 14, 2) := by decide +kernel
theorem dL_sweep_433 : decode cL_sweep 433 = .ok (.iload 15, 2) := by decide +kernel
theorem dL_sweep_435 : decode cL_sweep 435 = .ok (.invokevirtual 47, 3) := by decide +kernel
theorem dL_sweep_438 : decode cL_sweep 438 = .ok (.aload_n 1, 1) := by decide +kernel
theorem dL_sweep_439 : decode cL_sweep 439 = .ok (.iload 14, 2) := by decide +kernel
theorem dL_sweep_441 : decode cL_sweep 441 = .ok (.iload 15, 2) := by decide +kernel
theorem dL_sweep_443 : decode cL_sweep 443 = .ok (.invokevirtual 47, 3) := by decide +kernel
theorem dL_sweep_446 : decode cL_sweep 446 = .ok (.if_icmp .eq 5, 3) := by decide +kernel
theorem dL_sweep_449 : decode cL_sweep 449 = .ok (.iconst 0, 1) := by decide +kernel
theorem dL_sweep_450 : decode cL_sweep 450 = .ok (.ireturn, 1) := by decide +kernel
theorem dL_sweep_451 : decode cL_sweep 451 = .ok (.iinc 15 1, 3) := by decide +kernel
theorem dL_sweep_454 : decode cL_sweep 454 = .ok (.goto (-30), 3) := by decide +kernel
theorem dL_sweep_457 : decode cL_sweep 457 = .ok (.iinc 14 1, 3) := by decide +kernel
theorem dL_sweep_460 : decode cL_sweep 460 = .ok (.goto (-46), 3) := by decide +kernel
theorem dL_sweep_463 : decode cL_sweep 463 = .ok (.iconst 0, 1) := by decide +kernel
theorem dL_sweep_464 : decode cL_sweep 464 = .ok (.istore 14, 2) := by decide +kernel
theorem dL_sweep_466 : decode cL_sweep 466 = .ok (.iload 14, 2) := by decide +kernel
theorem dL_sweep_468 : decode cL_sweep 468 = .ok (.iconst 4, 1) := by decide +kernel
theorem dL_sweep_469 : decode cL_sweep 469 = .ok (.if_icmp .ge 46, 3) := by decide +kernel
theorem dL_sweep_472 : decode cL_sweep 472 = .ok (.iconst 0, 1) := by decide +kernel
theorem dL_sweep_473 : decode cL_sweep 473 = .ok (.istore 15, 2) := by decide +kernel
theorem dL_sweep_475 : decode cL_sweep 475 = .ok (.iload 15, 2) := by decide +kernel
theorem dL_sweep_477 : decode cL_sweep 477 = .ok (.bipush 6, 2) := by decide +kernel
theorem dL_sweep_479 : decode cL_sweep 479 = .ok (.if_icmp .ge 30, 3) := by decide +kernel
theorem dL_sweep_482 : decode cL_sweep 482 = .ok (.aload_n 0, 1) := by decide +kernel
theorem dL_sweep_483 : decode cL_sweep 483 = .ok (.iload 14, 2) := by decide +kernel
theorem dL_sweep_485 : decode cL_sweep 485 = .ok (.iload 15, 2) := by decide +kernel
theorem dL_sweep_487 : decode cL_sweep 487 = .ok (.invokevirtual 18, 3) := by decide +kernel
theorem dL_sweep_490 : decode cL_sweep 490 = .ok (.aload_n 1, 1) := by decide +kernel
theorem dL_sweep_491 : decode cL_sweep 491 = .ok (.iload 14, 2) := by decide +kernel
theorem dL_sweep_493 : decode cL_sweep 493 = .ok (.iload 15, 2) := by decide +kernel
theorem dL_sweep_495 : decode cL_sweep 495 = .ok (.invokevirtual 18, 3) := by decide +kernel
theorem dL_sweep_498 : decode cL_sweep 498 = .ok (.if_icmp .eq 5, 3) := by decide +kernel
theorem dL_sweep_501 : decode cL_sweep 501 = .ok (.iconst 0, 1) := by decide +kernel
theorem dL_sweep_502 : decode cL_sweep 502 = .ok (.ireturn, 1) := by decide +kernel
theorem dL_sweep_503 : decode cL_sweep 503 = .ok (.iinc 15 1, 3) := by decide +kernel
theorem dL_sweep_506 : decode cL_sweep 506 = .ok (.goto (-31), 3) := by decide +kernel
theorem dL_sweep_509 : decode cL_sweep 509 = .ok (.iinc 14 1, 3) := by decide +kernel
theorem dL_sweep_512 : decode cL_sweep 512 = .ok (.goto (-46), 3) := by decide +kernel
theorem dL_sweep_515 : decode cL_sweep 515 = .ok (.aload_n 0, 1) := by decide +kernel
theorem dL_sweep_516 : decode cL_sweep 516 = .ok (.iload 12, 2) := by decide +kernel
theorem dL_sweep_518 : decode cL_sweep 518 = .ok (.iconst 0, 1) := by decide +kernel
theorem dL_sweep_519 : decode cL_sweep 519 = .ok (.invokevirtual 47, 3) := by decide +kernel
theorem dL_sweep_522 : decode cL_sweep 522 = .ok (.iconst (-1), 1) := by decide +kernel
theorem dL_sweep_523 : decode cL_sweep 523 = .ok (.if_icmp .ne 7, 3) := by decide +kernel
theorem dL_sweep_526 : decode cL_sweep 526 = .ok (.iconst 1, 1) := by decide +kernel
theorem dL_sweep_527 : decode cL_sweep 527 = .ok (.goto 4, 3) := by decide +kernel
theorem dL_sweep_530 : decode cL_sweep 530 = .ok (.iconst 0, 1) := by decide +kernel
theorem dL_sweep_531 : decode cL_sweep 531 = .ok (.ireturn, 1) := by decide +kernel
