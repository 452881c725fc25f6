theorem dL_chances_0 : decode cL_chances 0 = .ok (.iconst 0, 1) := by decide +kernel
theorem dL_chances_1 : decode cL_chances 1 = .ok (.istore 5, 2) := by decide +kernel
theorem dL_chances_3 : decode cL_chances 3 = .ok (.bipush 6, 2) := by decide +kernel
theorem dL_chances_5 : decode cL_chances 5 = .ok (.newarray .int, 2) := by decide +kernel
theorem dL_chances_7 : decode cL_chances 7 = .ok (.astore 6, 2) := by decide +kernel
theorem dL_chances_9 : decode cL_chances 9 = .ok (.iconst 0, 1) := by decide +kernel
theorem dL_chances_10 : decode cL_chances 10 = .ok (.istore 7, 2) := by decide +kernel
theorem dL_chances_12 : decode cL_chances 12 = .ok (.iload 7, 2) := by decide +kernel
theorem dL_chances_14 : decode cL_chances 14 = .ok (.aload 4, 2) := by decide +kernel
theorem dL_chances_16 : decode cL_chances 16 = .ok (.iconst 2, 1) := by decide +kernel
theorem dL_chances_17 : decode cL_chances 17 = .ok (.iaload, 1) := by decide +kernel
theorem dL_chances_18 : decode cL_chances 18 = .ok (.if_icmp .ge 174, 3) := by decide +kernel
theorem dL_chances_21 : decode cL_chances 21 = .ok (.aload_n 0, 1) := by decide +kernel
theorem dL_chances_22 : decode cL_chances 22 = .ok (.iload 7, 2) := by decide +kernel
theorem dL_chances_24 : decode cL_chances 24 = .ok (.invokestatic 107, 3) := by decide +kernel
theorem dL_chances_27 : decode cL_chances 27 = .ok (.istore 8, 2) := by decide +kernel
theorem dL_chances_29 : decode cL_chances 29 = .ok (.iconst 0, 1) := by decide +kernel
theorem dL_chances_30 : decode cL_chances 30 = .ok (.istore 9, 2) := by decide +kernel
theorem dL_chances_32 : decode cL_chances 32 = .ok (.iconst 0, 1) := by decide +kernel
theorem dL_chances_33 : decode cL_chances 33 = .ok (.istore 10, 2) := by decide +kernel
theorem dL_chances_35 : decode cL_chances 35 = .ok (.iload 10, 2) := by decide +kernel
theorem dL_chances_37 : decode cL_chances 37 = .ok (.bipush 6, 2) := by decide +kernel
theorem dL_chances_39 : decode cL_chances 39 = .ok (.if_icmp .ge 22, 3) := by decide +kernel
theorem dL_chances_42 : decode cL_chances 42 = .ok (.iload 9, 2) := by decide +kernel
theorem dL_chances_44 : decode cL_chances 44 = .ok (.aload_n 0, 1) := by decide +kernel
theorem dL_chances_45 : decode cL_chances 45 = .ok (.iload 7, 2) := by decide +kernel
theorem dL_chances_47 : decode cL_chances 47 = .ok (.iload 10, 2) := by decide +kernel
theorem dL_chances_49 : decode cL_chances 49 = .ok (.invokestatic 110, 3) := by decide +kernel
theorem dL_chances_52 : decode cL_chances 52 = .ok (.iadd, 1) := by decide +kernel
theorem dL_chances_53 : decode cL_chances 53 = .ok (.istore 9, 2) := by decide +kernel
theorem dL_chances_55 : decode cL_chances 55 = .ok (.iinc 10 1, 3) := by decide +kernel
theorem dL_chances_58 : decode cL_chances 58 = .ok (.goto (-23), 3) := by decide +kernel
theorem dL_chances_61 : decode cL_chances 61 = .ok (.aload_n 2, 1) := by decide +kernel
theorem dL_chances_62 : decode cL_chances 62 = .ok (.iconst 4, 1) := by decide +kernel
theorem dL_chances_63 : decode cL_chances 63 = .ok (.iload 7, 2) := by decide +kernel
theorem dL_chances_65 : decode cL_chances 65 = .ok (.imul, 1) := by decide +kernel
theorem dL_chances_66 : decode cL_chances 66 = .ok (.iconst 3, 1) := by decide +kernel
theorem dL_chances_67 : decode cL_chances 67 = .ok (.iadd, 1) := by decide +kernel
theorem dL_chances_68 : decode cL_chances 68 = .ok (.iaload, 1) := by decide +kernel
theorem dL_chances_69 : decode cL_chances 69 = .ok (.istore 10, 2) := by decide +kernel
theorem dL_chances_71 : decode cL_chances 71 = .ok (.iload 10, 2) := by decide +kernel
theorem dL_chances_73 : decode cL_chances 73 = .ok (.ifCond .ge 12, 3) := by decide +kernel
theorem dL_chances_76 : decode cL_chances 76 = .ok (.aload_n 2, 1) := by decide +kernel
theorem dL_chances_77 : decode cL_chances 77 = .ok (.iconst 4, 1) := by decide +kernel
theorem dL_chances_78 : decode cL_chances 78 = .ok (.iload 7, 2) := by decide +kernel
theorem dL_chances_80 : decode cL_chances 80 = .ok (.imul, 1) := by decide +kernel
theorem dL_chances_81 : decode cL_chances 81 = .ok (.iaload, 1) := by decide +kernel
theorem dL_chances_82 : decode cL_chances 82 = .ok (.goto 28, 3) := by decide +kernel
theorem dL_chances_85 : decode cL_chances 85 = .ok (.aload_n 2, 1) := by decide +kernel
theorem dL_chances_86 : decode cL_chances 86 = .ok (.iconst 4, 1) := by decide +kernel
theorem dL_chances_87 : decode cL_chances 87 = .ok (.iload 7, 2) := by decide +kernel
theorem dL_chances_89 : decode cL_chances 89 = .ok (.imul, 1) := by decide +kernel
theorem dL_chances_90 : decode cL_chances 90 = .ok (.iaload, 1) := by decide +kernel
theorem dL_chances_91 : decode cL_chances 91 = .ok (.bipush 100, 2) := by decide +kernel
theorem dL_chances_93 : decode cL_chances 93 = .ok (.aload_n 3, 1) := by decide +kernel
theorem dL_chances_94 : decode cL_chances 94 = .ok (.iload 10, 2) := by decide +kernel
theorem dL_chances_96 : decode cL_chances 96 = .ok (.iaload, 1) := by decide +kernel
theorem dL_chances_97 : decode cL_chances 97 = .ok (.sipush 1000, 3) := by decide +kernel
theorem dL_chances_100 : decode cL_chances 100 = .ok (.idiv, 1) := by decide +kernel
theorem dL_chances_101 : decode cL_chances 101 = .ok (.sipush 1000, 3) := by decide +kernel
theorem dL_chances_104 : decode cL_chances 104 = .ok (.irem, 1) := by decide +kernel
theorem dL_chances_105 : decode cL_chances 105 = .ok (.isub, 1) := by decide +kernel
theorem dL_chances_106 : decode cL_chances 106 = .ok (.imul, 1) := by decide +kernel
theorem dL_chances_107 : decode cL_chances 107 = .ok (.bipush 100, 2) := by decide +kernel
theorem dL_chances_109 : decode cL_chances 109 = .ok (.idiv, 1) := by decide +kernel
theorem dL_chances_110 : decode cL_chances 110 = .ok (.istore 11, 2) := by decide +kernel
theorem dL_chances_112 : decode cL_chances 112 = .ok (.iload 8, 2) := by decide +kernel
theorem dL_chances_114 : decode cL_chances 114 = .ok (.ifCond .lt 60, 3) := by decide +kernel
theorem dL_chances_117 : decode cL_chances 117 = .ok (.iload 8, 2) := by decide +kernel
theorem dL_chances_119 : decode cL_chances 119 = .ok (.iconst 5, 1) := by decide +kernel
theorem dL_chances_120 : decode cL_chances 120 = .ok (.if_icmp .gt 54, 3) := by decide +kernel
theorem dL_chances_123 : decode cL_chances 123 = .ok (.iload 9, 2) := by decide +kernel
theorem dL_chances_125 : decode cL_chances 125 = .ok (.aload 4, 2) := by decide +kernel
theorem dL_chances_127 : decode cL_chances 127 = .ok (.bipush 6, 2) := by decide +kernel
theorem dL_chances_129 : decode cL_chances 129 = .ok (.iaload, 1) := by decide +kernel
theorem dL_chances_130 : decode cL_chances 130 = .ok (.aload_n 2, 1) := by decide +kernel
theorem dL_chances_131 : decode cL_chances 131 = .ok (.iconst 4, 1) := by decide +kernel
theorem dL_chances_132 : decode cL_chances 132 = .ok (.iload 7, 2) := by decide +kernel
theorem dL_chances_134 : decode cL_chances 134 = .ok (.imul, 1) := by decide +kernel
theorem dL_chances_135 : decode cL_chances 135 = .ok (.iconst 2, 1) := by decide +kernel
theorem dL_chances_136 : decode cL_chances 136 = .ok (.iadd, 1) := by decide +kernel
theorem dL_chances_137 : decode cL_chances 137 = .ok (.iaload, 1) := by decide +kernel
theorem dL_chances_138 : decode cL_chances 138 = .ok (.isub, 1) := by decide +kernel
theorem dL_chances_139 : decode cL_chances 139 = .ok (.if_icmp .ne 35, 3) := by decide +kernel
theorem dL_chances_142 : decode cL_chances 142 = .ok (.aload_n 0, 1) := by decide +kernel
theorem dL_chances_143 : decode cL_chances 143 = .ok (.iload 7, 2) := by decide +kernel
theorem dL_chances_145 : decode cL_chances 145 = .ok (.invokestatic 113, 3) := by decide +kernel
theorem dL_chances_148 : decode cL_chances 148 = .ok (.iload 11, 2) := by decide +kernel
theorem dL_chances_150 : decode cL_chances 150 = .ok (.if_icmp .ne 24, 3) := by decide +kernel
theorem dL_chances_153 : decode cL_chances 153 = .ok (.aload_n 0, 1) := by decide +kernel
theorem dL_chances_154 : decode cL_chances 154 = .ok (.iload 7, 2) := by decide +kernel
theorem dL_chances_156 : decode cL_chances 156 = .ok (.invokestatic 115, 3) := by decide +kernel
theorem dL_chances_159 : decode cL_chances 159 = .ok (.iload 10, 2) := by decide +kernel
theorem dL_chances_161 : decode cL_chances 161 = .ok (.ifCond .ge 8, 3) := by decide +kernel
theorem dL_chances_164 : decode cL_chances 164 = .ok (.ldc 18, 2) := by decide +kernel
theorem dL_chances_166 : decode cL_chances 166 = .ok (.goto 5, 3) := by decide +kernel
theorem dL_chances_169 : decode cL_chances 169 = .ok (.iload 10, 2) := by decide +kernel
theorem dL_chances_171 : decode cL_chances 171 = .ok (.if_icmp .eq 5, 3) := by decide +kernel
theorem dL_chances_174 : decode cL_chances 174 = .ok (.iconst 0, 1) := by decide +kernel
theorem dL_chances_175 : decode cL_chances 175 = .ok (.ireturn, 1) := by decide +kernel
theorem dL_chances_176 : decode cL_chances 176 = .ok (.aload 6, 2) := by decide +kernel
theorem dL_chances_178 : decode cL_chances 178 = .ok (.iload 8, 2) := by decide +kernel
theorem dL_chances_180 : decode cL_chances 180 = .ok (.dup2, 1) := by decide +kernel
theorem dL_chances_181 : decode cL_chances 181 = .ok (.iaload, 1) := by decide +kernel
theorem dL_chances_182 : decode cL_chances 182 = .ok (.iload 11, 2) := by decide +kernel
theorem dL_chances_184 : decode cL_chances 184 = .ok (.iadd, 1) := by decide +kernel
theorem dL_chances_185 : decode cL_chances 185 = .ok (.iastore, 1) := by decide +kernel
theorem dL_chances_186 : decode cL_chances 186 = .ok (.iinc 7 1, 3) := by decide +kernel
theorem dL_chances_189 : decode cL_chances 189 = .ok (.goto (-177), 3) := by decide +kernel
theorem dL_chances_192 : decode cL_chances 192 = .ok (.iconst 0, 1) := by decide +kernel
theorem dL_chances_193 : decode cL_chances 193 = .ok (.istore 7, 2) := by decide +kernel
theorem dL_chances_195 : decode cL_chances 195 = .ok (.iload 7, 2) := by decide +kernel
theorem dL_chances_197 : decode cL_chances 197 = .ok (.aload 4, 2) := by decide +kernel
theorem dL_chances_199 : decode cL_chances 199 = .ok (.iconst 3, 1) := by decide +kernel
theorem dL_chances_200 : decode cL_chances 200 = .ok (.iaload, 1) := by decide +kernel
theorem dL_chances_201 : decode cL_chances 201 = .ok (.if_icmp .ge 47, 3) := by decide +kernel
theorem dL_chances_204 : decode cL_chances 204 = .ok (.iload 5, 2) := by decide +kernel
theorem dL_chances_206 : decode cL_chances 206 = .ok (.aload_n 3, 1) := by decide +kernel
theorem dL_chances_207 : decode cL_chances 207 = .ok (.iload 7, 2) := by decide +kernel
theorem dL_chances_209 : decode cL_chances 209 = .ok (.iaload, 1) := by decide +kernel
theorem dL_chances_210 : decode cL_chances 210 = .ok (.bipush 10, 2) := by decide +kernel
theorem dL_chances_212 : decode cL_chances 212 = .ok (.irem, 1) := by decide +kernel
theorem dL_chances_213 : decode cL_chances 213 = .ok (.ifCond .ne 25, 3) := by decide +kernel
theorem dL_chances_216 : decode cL_chances 216 = .ok (.aload_n 0, 1) := by decide +kernel
theorem dL_chances_217 : decode cL_chances 217 = .ok (.aload_n 3, 1) := by decide +kernel
theorem dL_chances_218 : decode cL_chances 218 = .ok (.iload 7, 2) := by decide +kernel
theorem dL_chances_220 : decode cL_chances 220 = .ok (.iaload, 1) := by decide +kernel
theorem dL_chances_221 : decode cL_chances 221 = .ok (.ldc 117, 2) := by decide +kernel
theorem dL_chances_223 : decode cL_chances 223 = .ok (.idiv, 1) := by decide +kernel
theorem dL_chances_224 : decode cL_chances 224 = .ok (.bipush 10, 2) := by decide +kernel
theorem dL_chances_226 : decode cL_chances 226 = .ok (.idiv, 1) := by decide +kernel
theorem dL_chances_227 : decode cL_chances 227 = .ok (.invokestatic 107, 3) := by decide +kernel
theorem dL_chances_230 : decode cL_chances 230 = .ok (.iconst 4, 1) := by decide +kernel
theorem dL_chances_231 : decode cL_chances 231 = .ok (.if_icmp .ge 7, 3) := by decide +kernel
theorem dL_chances_234 : decode cL_chances 234 = .ok (.iconst 1, 1) := by decide +kernel
theorem dL_chances_235 : decode cL_chances 235 = .ok (.goto 4, 3) := by decide +kernel
theorem dL_chances_238 : decode cL_chances 238 = .ok (.iconst 0, 1) := by decide +kernel
theorem dL_chances_239 : decode cL_chances 239 = .ok (.iadd, 1) := by decide +kernel
theorem dL_chances_240 : decode cL_chances 240 = .ok (.istore 5, 2) := by decide +kernel
theorem dL_chances_242 : decode cL_chances 242 = .ok (.iinc 7 1, 3) := by decide +kernel
theorem dL_chances_245 : decode cL_chances 245 = .ok (.goto (-50), 3) := by decide +kernel
theorem dL_chances_248 : decode cL_chances 248 = .ok (.iconst 0, 1) := by decide +kernel
theorem dL_chances_249 : decode cL_chances 249 = .ok (.istore 7, 2) := by decide +kernel
theorem dL_chances_251 : decode cL_chances 251 = .ok (.iload 7, 2) := by decide +kernel
theorem dL_chances_253 : decode cL_chances 253 = .ok (.bipush 6, 2) := by decide +kernel
theorem dL_chances_255 : decode cL_chances 255 = .ok (.if_icmp .ge 52, 3) := by decide +kernel
theorem dL_chances_258 : decode cL_chances 258 = .ok (.iconst 0, 1) := by decide +kernel
theorem dL_chances_259 : decode cL_chances 259 = .ok (.istore 8, 2) := by decide +kernel
theorem dL_chances_261 : decode cL_chances 261 = .ok (.iconst 0, 1) := by decide +kernel
theorem dL_chances_262 : decode cL_chances 262 = .ok (.istore 9, 2) := by decide +kernel
theorem dL_chances_264 : decode cL_chances 264 = .ok (.iload 9, 2) := by decide +kernel
theorem dL_chances_266 : decode cL_chances 266 = .ok (.iconst 4, 1) := by decide +kernel
theorem dL_chances_267 : decode cL_chances 267 = .ok (.if_icmp .ge 22, 3) := by decide +kernel
theorem dL_chances_270 : decode cL_chances 270 = .ok (.iload 8, 2) := by decide +kernel
theorem dL_chances_272 : decode cL_chances 272 = .ok (.aload_n 0, 1) := by decide +kernel
theorem dL_chances_273 : decode cL_chances 273 = .ok (.iload 9, 2) := by decide +kernel
theorem dL_chances_275 : decode cL_chances 275 = .ok (.iload 7, 2) := by decide +kernel
theorem dL_chances_277 : decode cL_chances 277 = .ok (.invokestatic 118, 3) := by decide +kernel
theorem dL_chances_280 : decode cL_chances 280 = .ok (.iadd, 1) := by decide +kernel
theorem dL_chances_281 : decode cL_chances 281 = .ok (.istore 8, 2) := by decide +kernel
theorem dL_chances_283 : decode cL_chances 283 = .ok (.iinc 9 1, 3) := by decide +kernel
theorem dL_chances_286 : decode cL_chances 286 = .ok (.goto (-22), 3) := by decide +kernel
theorem dL_chances_289 : decode cL_chances 289 = .ok (.iload 8, 2) := by decide +kernel
theorem dL_chances_291 : decode cL_chances 291 = .ok (.aload 6, 2) := by decide +kernel
theorem dL_chances_293 : decode cL_chances 293 = .ok (.iload 7, 2) := by decide +kernel
theorem dL_chances_295 : decode cL_chances 295 = .ok (.iaload, 1) := by decide +kernel
theorem dL_chances_296 : decode cL_chances 296 = .ok (.if_icmp .eq 5, 3) := by decide +kernel
theorem dL_chances_299 : decode cL_chances 299 = .ok (.iconst 0, 1) := by decide +kernel
theorem dL_chances_300 : decode cL_chances 300 = .ok (.ireturn, 1) := by decide +kernel
theorem dL_chances_301 : decode cL_chances 301 = .ok (.iinc 7 1, 3) := by decide +kernel
theorem dL_chances_304 : decode cL_chances 304 = .ok (.goto (-53), 3) := by decide +kernel
theorem dL_chances_307 : decode cL_chances 307 = .ok (.iconst 0, 1) := by decide +kernel
theorem dL_chances_308 : decode cL_chances 308 = .ok (.istore 7, 2) := by decide +kernel
theorem dL_chances_310 : decode cL_chances 310 = .ok (.iconst 0, 1) := by decide +kernel
theorem dL_chances_311 : decode cL_chances 311 = .ok (.istore 8, 2) := by decide +kernel
theorem dL_chances_313 : decode cL_chances 313 = .ok (.iload 8, 2) := by decide +kernel
theorem dL_chances_315 : decode cL_chances 315 = .ok (.aload 4, 2) := by decide +kernel
theorem dL_chances_317 : decode cL_chances 317 = .ok (.iconst 2, 1) := by decide +kernel
theorem dL_chances_318 : decode cL_chances 318 = .ok (.iaload, 1) := by decide +kernel
theorem dL_chances_319 : decode cL_chances 319 = .ok (.if_icmp .ge 29, 3) := by decide +kernel
theorem dL_chances_322 : decode cL_chances 322 = .ok (.iload 7, 2) := by decide +kernel
theorem dL_chances_324 : decode cL_chances 324 = .ok (.aload_n 0, 1) := by decide +kernel
theorem dL_chances_325 : decode cL_chances 325 = .ok (.iload 8, 2) := by decide +kernel
theorem dL_chances_327 : decode cL_chances 327 = .ok (.invokestatic 107, 3) := by decide +kernel
theorem dL_chances_330 : decode cL_chances 330 = .ok (.iconst 4, 1) := by decide +kernel
theorem dL_chances_331 : decode cL_chances 331 = .ok (.if_icmp .ge 7, 3) := by decide +kernel
theorem dL_chances_334 : decode cL_chances 334 = .ok (.iconst 1, 1) := by decide +kernel
theorem dL_chances_335 : decode cL_chances 335 = .ok (.goto 4, 3) := by decide +kernel
theorem dL_chances_338 : decode cL_chances 338 = .ok (.iconst 0, 1) := by decide +kernel
theorem dL_chances_339 : decode cL_chances 339 = .ok (.iadd, 1) := by decide +kernel
theorem dL_chances_340 : decode cL_chances 340 = .ok (.istore 7, 2) := by decide +kernel
theorem dL_chances_342 : decode cL_chances 342 = .ok (.iinc 8 1, 3) := by decide +kernel
theorem dL_chances_345 : decode cL_chances 345 = .ok (.goto (-32), 3) := by decide +kernel
theorem dL_chances_348 : decode cL_chances 348 = .ok (.iconst 0, 1) := by decide +kernel
theorem dL_chances_349 : decode cL_chances 349 = .ok (.istore 8, 2) := by decide +kernel
theorem dL_chances_351 : decode cL_chances 351 = .ok (.iconst 0, 1) := by decide +kernel
theorem dL_chances_352 : decode cL_chances 352 = .ok (.istore 9, 2) := by decide +kernel
theorem dL_chances_354 : decode cL_chances 354 = .ok (.iload 9, 2) := by decide +kernel
theorem dL_chances_356 : decode cL_chances 356 = .ok (.aload 4, 2) := by decide +kernel
theorem dL_chances_358 : decode cL_chances 358 = .ok (.iconst 0, 1) := by decide +kernel
theorem dL_chances_359 : decode cL_chances 359 = .ok (.iaload, 1) := by decide +kernel
theorem dL_chances_360 : decode cL_chances 360 = .ok (.if_icmp .ge 145, 3) := by decide +kernel
theorem dL_chances_363 : decode cL_chances 363 = .ok (.iconst 0, 1) := by decide +kernel
theorem dL_chances_364 : decode cL_chances 364 = .ok (.istore 10, 2) := by decide +kernel
theorem dL_chances_366 : decode cL_chances 366 = .ok (.iconst 0, 1) := by decide +kernel
theorem dL_chances_367 : decode cL_chances 367 = .ok (.istore 11, 2) := by decide +kernel
theorem dL_chances_369 : decode cL_chances 369 = .ok (.iload 11, 2) := by decide +kernel
theorem dL_chances_371 : decode cL_chances 371 = .ok (.aload 4, 2) := by decide +kernel
theorem dL_chances_373 : decode cL_chances 373 = .ok (.iconst 2, 1) := by decide +kernel
theorem dL_chances_374 : decode cL_chances 374 = .ok (.iaload, 1) := by decide +kernel
theorem dL_chances_375 : decode cL_chances 375 = .ok (.if_icmp .ge 47, 3) := by decide +kernel
theorem dL_chances_378 : decode cL_chances 378 = .ok (.iload 10, 2) := by decide +kernel
theorem dL_chances_380 : decode cL_chances 380 = .ok (.aload_n 2, 1) := by decide +kernel
theorem dL_chances_381 : decode cL_chances 381 = .ok (.iconst 4, 1) := by decide +kernel
theorem dL_chances_382 : decode cL_chances 382 = .ok (.iload 11, 2) := by decide +kernel
theorem dL_chances_384 : decode cL_chances 384 = .ok (.imul, 1) := by decide +kernel
theorem dL_chances_385 : decode cL_chances 385 = .ok (.iconst 1, 1) := by decide +kernel
theorem dL_chances_386 : decode cL_chances 386 = .ok (.iadd, 1) := by decide +kernel
theorem dL_chances_387 : decode cL_chances 387 = .ok (.iaload, 1) := by decide +kernel
theorem dL_chances_388 : decode cL_chances 388 = .ok (.iload 9, 2) := by decide +kernel
theorem dL_chances_390 : decode cL_chances 390 = .ok (.if_icmp .ne 22, 3) := by decide +kernel
theorem dL_chances_393 : decode cL_chances 393 = .ok (.aload_n 0, 1) := by decide +kernel
theorem dL_chances_394 : decode cL_chances 394 = .ok (.iload 11, 2) := by decide +kernel
theorem dL_chances_396 : decode cL_chances 396 = .ok (.invokestatic 107, 3) := by decide +kernel
theorem dL_chances_399 : decode cL_chances 399 = .ok (.iconst 4, 1) := by decide +kernel
theorem dL_chances_400 : decode cL_chances 400 = .ok (.if_icmp .ne 12, 3) := by decide +kernel
theorem dL_chances_403 : decode cL_chances 403 = .ok (.aload_n 0, 1) := by decide +kernel
theorem dL_chances_404 : decode cL_chances 404 = .ok (.iload 11, 2) := by decide +kernel
theorem dL_chances_406 : decode cL_chances 406 = .ok (.invokestatic 113, 3) := by decide +kernel
theorem dL_chances_409 : decode cL_chances 409 = .ok (.goto 4, 3) := by decide +kernel
theorem dL_chances_412 : decode cL_chances 412 = .ok (.iconst 0, 1) := by decide +kernel
theorem dL_chances_413 : decode cL_chances 413 = .ok (.iadd, 1) := by decide +kernel
theorem dL_chances_414 : decode cL_chances 414 = .ok (.istore 10, 2) := by decide +kernel
theorem dL_chances_416 : decode cL_chances 416 = .ok (.iinc 11 1, 3) := by decide +kernel
theorem dL_chances_419 : decode cL_chances 419 = .ok (.goto (-50), 3) := by decide +kernel
theorem dL_chances_422 : decode cL_chances 422 = .ok (.iconst 0, 1) := by decide +kernel
theorem dL_chances_423 : decode cL_chances 423 = .ok (.istore 11, 2) := by decide +kernel
theorem dL_chances_425 : decode cL_chances 425 = .ok (.iload 11, 2) := by decide +kernel
theorem dL_chances_427 : decode cL_chances 427 = .ok (.aload 4, 2) := by decide +kernel
theorem dL_chances_429 : decode cL_chances 429 = .ok (.iconst 0, 1) := by decide +kernel
theorem dL_chances_430 : decode cL_chances 430 = .ok (.iaload, 1) := by decide +kernel
theorem dL_chances_431 : decode cL_chances 431 = .ok (.if_icmp .ge 35, 3) := by decide +kernel
theorem dL_chances_434 : decode cL_chances 434 = .ok (.iload 10, 2) := by decide +kernel
theorem dL_chances_436 : decode cL_chances 436 = .ok (.aload_n 1, 1) := by decide +kernel
theorem dL_chances_437 : decode cL_chances 437 = .ok (.iconst 4, 1) := by decide +kernel
theorem dL_chances_438 : decode cL_chances 438 = .ok (.iload 11, 2) := by decide +kernel
theorem dL_chances_440 : decode cL_chances 440 = .ok (.imul, 1) := by decide +kernel
theorem dL_chances_441 : decode cL_chances 441 = .ok (.iaload, 1) := by decide +kernel
theorem dL_chances_442 : decode cL_chances 442 = .ok (.iload 9, 2) := by decide +kernel
theorem dL_chances_444 : decode cL_chances 444 = .ok (.if_icmp .ne 12, 3) := by decide +kernel
theorem dL_chances_447 : decode cL_chances 447 = .ok (.aload_n 0, 1) := by decide +kernel
theorem dL_chances_448 : decode cL_chances 448 = .ok (.iload 11, 2) := by decide +kernel
theorem dL_chances_450 : decode cL_chances 450 = .ok (.invokestatic 120, 3) := by decide +kernel
theorem dL_chances_453 : decode cL_chances 453 = .ok (.goto 4, 3) := by decide +kernel
theorem dL_chances_456 : decode cL_chances 456 = .ok (.iconst 0, 1) := by decide +kernel
theorem dL_chances_457 : decode cL_chances 457 = .ok (.iadd, 1) := by decide +kernel
theorem dL_chances_458 : decode cL_chances 458 = .ok (.istore 10, 2) := by decide +kernel
theorem dL_chances_460 : decode cL_chances 460 = .ok (.iinc 11 1, 3) := by decide +kernel
theorem dL_chances_463 : decode cL_chances 463 = .ok (.goto (-38), 3) := by decide +kernel
theorem dL_chances_466 : decode cL_chances 466 = .ok (.iload 8, 2) := by decide +kernel
theorem dL_chances_468 : decode cL_chances 468 = .ok (.aload_n 1, 1) := by decide +kernel
theorem dL_chances_469 : decode cL_chances 469 = .ok (.iconst 4, 1) := by decide +kernel
theorem dL_chances_470 : decode cL_chances 470 = .ok (.iload 9, 2) := by decide +kernel
theorem dL_chances_472 : decode cL_chances 472 = .ok (.imul, 1) := by decide +kernel
theorem dL_chances_473 : decode cL_chances 473 = .ok (.iaload, 1) := by decide +kernel
theorem dL_chances_474 : decode cL_chances 474 = .ok (.ifCond .ge 8, 3) := by decide +kernel
theorem dL_chances_477 : decode cL_chances 477 = .ok (.iload 10, 2) := by decide +kernel
theorem dL_chances_479 : decode cL_chances 479 = .ok (.goto 4, 3) := by decide +kernel
theorem dL_chances_482 : decode cL_chances 482 = .ok (.iconst 0, 1) := by decide +kernel
theorem dL_chances_483 : decode cL_chances 483 = .ok (.iadd, 1) := by decide +kernel
theorem dL_chances_484 : decode cL_chances 484 = .ok (.istore 8, 2) := by decide +kernel
theorem dL_chances_486 : decode cL_chances 486 = .ok (.aload_n 0, 1) := by decide +kernel
theorem dL_chances_487 : decode cL_chances 487 = .ok (.iload 9, 2) := by decide +kernel
theorem dL_chances_489 : decode cL_chances 489 = .ok (.invokestatic 120, 3) := by decide +kernel
theorem dL_chances_492 : decode cL_chances 492 = .ok (.iload 10, 2) := by decide +kernel
theorem dL_chances_494 : decode cL_chances 494 = .ok (.if_icmp .eq 5, 3) := by decide +kernel
theorem dL_chances_497 : decode cL_chances 497 = .ok (.iconst 0, 1) := by decide +kernel
theorem dL_chances_498 : decode cL_chances 498 = .ok (.ireturn, 1) := by decide +kernel
theorem dL_chances_499 : decode cL_chances 499 = .ok (.iinc 9 1, 3) := by decide +kernel
theorem dL_chances_502 : decode cL_chances 502 = .ok (.goto (-148), 3) := by decide +kernel
theorem dL_chances_505 : decode cL_chances 505 = .ok (.aload_n 0, 1) := by decide +kernel
theorem dL_chances_506 : decode cL_chances 506 = .ok (.invokevirtual 122, 3) := by decide +kernel
theorem dL_chances_509 : decode cL_chances 509 = .ok (.iload 5, 2) := by decide +kernel
theorem dL_chances_511 : decode cL_chances 511 = .ok (.if_icmp .ne 121, 3) := by decide +kernel
theorem dL_chances_514 : decode cL_chances 514 = .ok (.iload 8, 2) := by decide +kernel
theorem dL_chances_516 : decode cL_chances 516 = .ok (.aload 6, 2) := by decide +kernel
theorem dL_chances_518 : decode cL_chances 518 = .ok (.iconst 4, 1) := by decide +kernel
theorem dL_chances_519 : decode cL_chances 519 = .ok (.iaload, 1) := by decide +kernel
theorem dL_chances_520 : decode cL_chances 520 = .ok (.if_icmp .ne 112, 3) := by decide +kernel
theorem dL_chances_523 : decode cL_chances 523 = .ok (.aload_n 0, 1) := by decide +kernel
theorem dL_chances_524 : decode cL_chances 524 = .ok (.aload 4, 2) := by decide +kernel
theorem dL_chances_526 : decode cL_chances 526 = .ok (.bipush 6, 2) := by decide +kernel
theorem dL_chances_528 : decode cL_chances 528 = .ok (.iaload, 1) := by decide +kernel
theorem dL_chances_529 : decode cL_chances 529 = .ok (.invokestatic 125, 3) := by decide +kernel
theorem dL_chances_532 : decode cL_chances 532 = .ok (.ifCond .ne 100, 3) := by decide +kernel
theorem dL_chances_535 : decode cL_chances 535 = .ok (.aload_n 0, 1) := by decide +kernel
theorem dL_chances_536 : decode cL_chances 536 = .ok (.iconst 0, 1) := by decide +kernel
theorem dL_chances_537 : decode cL_chances 537 = .ok (.invokestatic 125, 3) := by decide +kernel
theorem dL_chances_540 : decode cL_chances 540 = .ok (.iload 7, 2) := by decide +kernel
theorem dL_chances_542 : decode cL_chances 542 = .ok (.if_icmp .gt 90, 3) := by decide +kernel
theorem dL_chances_545 : decode cL_chances 545 = .ok (.aload_n 0, 1) := by decide +kernel
theorem dL_chances_546 : decode cL_chances 546 = .ok (.ldc 127, 2) := by decide +kernel
theorem dL_chances_548 : decode cL_chances 548 = .ok (.invokestatic 125, 3) := by decide +kernel
theorem dL_chances_551 : decode cL_chances 551 = .ok (.ldc 18, 2) := by decide +kernel
theorem dL_chances_553 : decode cL_chances 553 = .ok (.if_icmp .ne 79, 3) := by decide +kernel
theorem dL_chances_556 : decode cL_chances 556 = .ok (.aload_n 0, 1) := by decide +kernel
theorem dL_chances_557 : decode cL_chances 557 = .ok (.aload 4, 2) := by decide +kernel
theorem dL_chances_559 : decode cL_chances 559 = .ok (.iconst 2, 1) := by decide +kernel
theorem dL_chances_560 : decode cL_chances 560 = .ok (.iaload, 1) := by decide +kernel
theorem dL_chances_561 : decode cL_chances 561 = .ok (.invokestatic 107, 3) := by decide +kernel
theorem dL_chances_564 : decode cL_chances 564 = .ok (.ldc 28, 2) := by decide +kernel
theorem dL_chances_566 : decode cL_chances 566 = .ok (.if_icmp .ne 66, 3) := by decide +kernel
theorem dL_chances_569 : decode cL_chances 569 = .ok (.aload_n 0, 1) := by decide +kernel
theorem dL_chances_570 : decode cL_chances 570 = .ok (.iconst (-1), 1) := by decide +kernel
theorem dL_chances_571 : decode cL_chances 571 = .ok (.invokestatic 113, 3) := by decide +kernel
theorem dL_chances_574 : decode cL_chances 574 = .ok (.ldc 28, 2) := by decide +kernel
theorem dL_chances_576 : decode cL_chances 576 = .ok (.if_icmp .ne 56, 3) := by decide +kernel
theorem dL_chances_579 : decode cL_chances 579 = .ok (.aload_n 0, 1) := by decide +kernel
theorem dL_chances_580 : decode cL_chances 580 = .ok (.aload 4, 2) := by decide +kernel
theorem dL_chances_582 : decode cL_chances 582 = .ok (.iconst 2, 1) := by decide +kernel
theorem dL_chances_583 : decode cL_chances 583 = .ok (.iaload, 1) := by decide +kernel
theorem dL_chances_584 : decode cL_chances 584 = .ok (.invokestatic 115, 3) := by decide +kernel
theorem dL_chances_587 : decode cL_chances 587 = .ok (.ldc 28, 2) := by decide +kernel
theorem dL_chances_589 : decode cL_chances 589 = .ok (.if_icmp .ne 43, 3) := by decide +kernel
theorem dL_chances_592 : decode cL_chances 592 = .ok (.aload_n 0, 1) := by decide +kernel
theorem dL_chances_593 : decode cL_chances 593 = .ok (.iconst 4, 1) := by decide +kernel
theorem dL_chances_594 : decode cL_chances 594 = .ok (.iconst 0, 1) := by decide +kernel
theorem dL_chances_595 : decode cL_chances 595 = .ok (.invokestatic 118, 3) := by decide +kernel
theorem dL_chances_598 : decode cL_chances 598 = .ok (.ldc 18, 2) := by decide +kernel
theorem dL_chances_600 : decode cL_chances 600 = .ok (.if_icmp .ne 32, 3) := by decide +kernel
theorem dL_chances_603 : decode cL_chances 603 = .ok (.aload_n 0, 1) := by decide +kernel
theorem dL_chances_604 : decode cL_chances 604 = .ok (.iconst 0, 1) := by decide +kernel
theorem dL_chances_605 : decode cL_chances 605 = .ok (.bipush 6, 2) := by decide +kernel
theorem dL_chances_607 : decode cL_chances 607 = .ok (.invokestatic 118, 3) := by decide +kernel
theorem dL_chances_610 : decode cL_chances 610 = .ok (.ldc 18, 2) := by decide +kernel
theorem dL_chances_612 : decode cL_chances 612 = .ok (.if_icmp .ne 20, 3) := by decide +kernel
theorem dL_chances_615 : decode cL_chances 615 = .ok (.aload_n 0, 1) := by decide +kernel
theorem dL_chances_616 : decode cL_chances 616 = .ok (.aload 4, 2) := by decide +kernel
theorem dL_chances_618 : decode cL_chances 618 = .ok (.iconst 0, 1) := by decide +kernel
theorem dL_chances_619 : decode cL_chances 619 = .ok (.iaload, 1) := by decide +kernel
theorem dL_chances_620 : decode cL_chances 620 = .ok (.invokestatic 120, 3) := by decide +kernel
theorem dL_chances_623 : decode cL_chances 623 = .ok (.ldc 28, 2) := by decide +kernel
theorem dL_chances_625 : decode cL_chances 625 = .ok (.if_icmp .ne 7, 3) := by decide +kernel
theorem dL_chances_628 : decode cL_chances 628 = .ok (.iconst 1, 1) := by decide +kernel
theorem dL_chances_629 : decode cL_chances 629 = .ok (.goto 4, 3) := by decide +kernel
theorem dL_chances_632 : decode cL_chances 632 = .ok (.iconst 0, 1) := by decide +kernel
theorem dL_chances_633 : decode cL_chances 633 = .ok (.ireturn, 1) := by decide +kernel
theorem dL_sellers_0 : decode cL_sellers 0 = .ok (.iconst 0, 1) := by decide +kernel
theorem dL_sellers_1 : decode cL_sellers 1 = .ok (.istore_n 3, 1) := by decide +kernel
theorem dL_sellers_2 : decode cL_sellers 2 = .ok (.iconst 0, 1) := by decide +kernel
theorem dL_sellers_3 : decode cL_sellers 3 = .ok (.istore 4, 2) := by decide +kernel
theorem dL_sellers_5 : decode cL_sellers 5 = .ok (.iconst 0, 1) := by decide +kernel
theorem dL_sellers_6 : decode cL_sellers 6 = .ok (.istore 5, 2) := by decide +kernel
theorem dL_sellers_8 : decode cL_sellers 8 = .ok (.iload 5, 2) := by decide +kernel
theorem dL_sellers_10 : decode cL_sellers 10 = .ok (.aload_n 2, 1) := by decide +kernel
theorem dL_sellers_11 : decode cL_sellers 11 = .ok (.iconst 1, 1) := by decide +kernel
theorem dL_sellers_12 : decode cL_sellers 12 = .ok (.iaload, 1) := by decide +kernel
theorem dL_sellers_13 : decode cL_sellers 13 = .ok (.if_icmp .ge 103, 3) := by decide +kernel
theorem dL_sellers_16 : decode cL_sellers 16 = .ok (.aload_n 0, 1) := by decide +kernel
theorem dL_sellers_17 : decode cL_sellers 17 = .ok (.iload 5, 2) := by decide +kernel
theorem dL_sellers_19 : decode cL_sellers 19 = .ok (.invokestatic 128, 3) := by decide +kernel
theorem dL_sellers_22 : decode cL_sellers 22 = .ok (.aload_n 1, 1) := by decide +kernel
theorem dL_sellers_23 : decode cL_sellers 23 = .ok (.iconst 3, 1) := by decide +kernel
theorem dL_sellers_24 : decode cL_sellers 24 = .ok (.iload 5, 2) := by decide +kernel
theorem dL_sellers_26 : decode cL_sellers 26 = .ok (.imul, 1) := by decide +kernel
theorem dL_sellers_27 : decode cL_sellers 27 = .ok (.iconst 2, 1) := by decide +kernel
theorem dL_sellers_28 : decode cL_sellers 28 = .ok (.iadd, 1) := by decide +kernel
theorem dL_sellers_29 : decode cL_sellers 29 = .ok (.iaload, 1) := by decide +kernel
theorem dL_sellers_30 : decode cL_sellers 30 = .ok (.iadd, 1) := by decide +kernel
theorem dL_sellers_31 : decode cL_sellers 31 = .ok (.istore 6, 2) := by decide +kernel
theorem dL_sellers_33 : decode cL_sellers 33 = .ok (.iload 5, 2) := by decide +kernel
theorem dL_sellers_35 : decode cL_sellers 35 = .ok (.iconst 1, 1) := by decide +kernel
theorem dL_sellers_36 : decode cL_sellers 36 = .ok (.iadd, 1) := by decide +kernel
theorem dL_sellers_37 : decode cL_sellers 37 = .ok (.istore 7, 2) := by decide +kernel
theorem dL_sellers_39 : decode cL_sellers 39 = .ok (.iload 7, 2) := by decide +kernel
theorem dL_sellers_41 : decode cL_sellers 41 = .ok (.aload_n 2, 1) := by decide +kernel
theorem dL_sellers_42 : decode cL_sellers 42 = .ok (.iconst 1, 1) := by decide +kernel
theorem dL_sellers_43 : decode cL_sellers 43 = .ok (.iaload, 1) := by decide +kernel
theorem dL_sellers_44 : decode cL_sellers 44 = .ok (.if_icmp .ge 35, 3) := by decide +kernel
theorem dL_sellers_47 : decode cL_sellers 47 = .ok (.iload 6, 2) := by decide +kernel
theorem dL_sellers_49 : decode cL_sellers 49 = .ok (.aload_n 1, 1) := by decide +kernel
theorem dL_sellers_50 : decode cL_sellers 50 = .ok (.iconst 3, 1) := by decide +kernel
theorem dL_sellers_51 : decode cL_sellers 51 = .ok (.iload 7, 2) := by decide +kernel
theorem dL_sellers_53 : decode cL_sellers 53 = .ok (.imul, 1) := by decide +kernel
theorem dL_sellers_54 : decode cL_sellers 54 = .ok (.iaload, 1) := by decide +kernel
theorem dL_sellers_55 : decode cL_sellers 55 = .ok (.iload 5, 2) := by decide +kernel
theorem dL_sellers_57 : decode cL_sellers 57 = .ok (.if_icmp .ne 12, 3) := by decide +kernel
theorem dL_sellers_60 : decode cL_sellers 60 = .ok (.aload_n 0, 1) := by decide +kernel
theorem dL_sellers_61 : decode cL_sellers 61 = .ok (.iload 7, 2) := by decide +kernel
theorem dL_sellers_63 : decode cL_sellers 63 = .ok (.invokestatic 130, 3) := by decide +kernel
theorem dL_sellers_66 : decode cL_sellers 66 = .ok (.goto 4, 3) := by decide +kernel
theorem dL_sellers_69 : decode cL_sellers 69 = .ok (.iconst 0, 1) := by decide +kernel
theorem dL_sellers_70 : decode cL_sellers 70 = .ok (.iadd, 1) := by decide +kernel
theorem dL_sellers_71 : decode cL_sellers 71 = .ok (.istore 6, 2) := by decide +kernel
theorem dL_sellers_73 : decode cL_sellers 73 = .ok (.iinc 7 1, 3) := by decide +kernel
theorem dL_sellers_76 : decode cL_sellers 76 = .ok (.goto (-37), 3) := by decide +kernel
theorem dL_sellers_79 : decode cL_sellers 79 = .ok (.iload_n 3, 1) := by decide +kernel
theorem dL_sellers_80 : decode cL_sellers 80 = .ok (.aload_n 0, 1) := by decide +kernel
theorem dL_sellers_81 : decode cL_sellers 81 = .ok (.iload 5, 2) := by decide +kernel
theorem dL_sellers_83 : decode cL_sellers 83 = .ok (.invokestatic 128, 3) := by decide +kernel
theorem dL_sellers_86 : decode cL_sellers 86 = .ok (.iadd, 1) := by decide +kernel
theorem dL_sellers_87 : decode cL_sellers 87 = .ok (.istore_n 3, 1) := by decide +kernel
theorem dL_sellers_88 : decode cL_sellers 88 = .ok (.aload_n 0, 1) := by decide +kernel
theorem dL_sellers_89 : decode cL_sellers 89 = .ok (.iload 5, 2) := by decide +kernel
theorem dL_sellers_91 : decode cL_sellers 91 = .ok (.invokestatic 130, 3) := by decide +kernel
theorem dL_sellers_94 : decode cL_sellers 94 = .ok (.iload 6, 2) := by decide +kernel
theorem dL_sellers_96 : decode cL_sellers 96 = .ok (.if_icmp .ne 12, 3) := by decide +kernel
theorem dL_sellers_99 : decode cL_sellers 99 = .ok (.aload_n 0, 1) := by decide +kernel
theorem dL_sellers_100 : decode cL_sellers 100 = .ok (.iload 5, 2) := by decide +kernel
theorem dL_sellers_102 : decode cL_sellers 102 = .ok (.invokestatic 128, 3) := by decide +kernel
theorem dL_sellers_105 : decode cL_sellers 105 = .ok (.ifCond .ge 5, 3) := by decide +kernel
theorem dL_sellers_108 : decode cL_sellers 108 = .ok (.iconst 0, 1) := by decide +kernel
theorem dL_sellers_109 : decode cL_sellers 109 = .ok (.ireturn, 1) := by decide +kernel
theorem dL_sellers_110 : decode cL_sellers 110 = .ok (.iinc 5 1, 3) := by decide +kernel
theorem dL_sellers_113 : decode cL_sellers 113 = .ok (.goto (-105), 3) := by decide +kernel
theorem dL_sellers_116 : decode cL_sellers 116 = .ok (.iconst 0, 1) := by decide +kernel
theorem dL_sellers_117 : decode cL_sellers 117 = .ok (.istore 5, 2) := by decide +kernel
theorem dL_sellers_119 : decode cL_sellers 119 = .ok (.iload 5, 2) := by decide +kernel
theorem dL_sellers_121 : decode cL_sellers 121 = .ok (.aload_n 2, 1) := by decide +kernel
theorem dL_sellers_122 : decode cL_sellers 122 = .ok (.iconst 2, 1) := by decide +kernel
theorem dL_sellers_123 : decode cL_sellers 123 = .ok (.iaload, 1) := by decide +kernel
theorem dL_sellers_124 : decode cL_sellers 124 = .ok (.if_icmp .ge 59, 3) := by decide +kernel
theorem dL_sellers_127 : decode cL_sellers 127 = .ok (.aload_n 0, 1) := by decide +kernel
theorem dL_sellers_128 : decode cL_sellers 128 = .ok (.iload 5, 2) := by decide +kernel
theorem dL_sellers_130 : decode cL_sellers 130 = .ok (.invokestatic 113, 3) := by decide +kernel
theorem dL_sellers_133 : decode cL_sellers 133 = .ok (.aload_n 0, 1) := by decide +kernel
theorem dL_sellers_134 : decode cL_sellers 134 = .ok (.iload 5, 2) := by decide +kernel
theorem dL_sellers_136 : decode cL_sellers 136 = .ok (.invokestatic 107, 3) := by decide +kernel
theorem dL_sellers_139 : decode cL_sellers 139 = .ok (.invokestatic 132, 3) := by decide +kernel
theorem dL_sellers_142 : decode cL_sellers 142 = .ok (.imul, 1) := by decide +kernel
theorem dL_sellers_143 : decode cL_sellers 143 = .ok (.bipush 100, 2) := by decide +kernel
theorem dL_sellers_145 : decode cL_sellers 145 = .ok (.idiv, 1) := by decide +kernel
theorem dL_sellers_146 : decode cL_sellers 146 = .ok (.istore 6, 2) := by decide +kernel
theorem dL_sellers_148 : decode cL_sellers 148 = .ok (.iload 4, 2) := by decide +kernel
theorem dL_sellers_150 : decode cL_sellers 150 = .ok (.iload 6, 2) := by decide +kernel
theorem dL_sellers_152 : decode cL_sellers 152 = .ok (.iadd, 1) := by decide +kernel
theorem dL_sellers_153 : decode cL_sellers 153 = .ok (.istore 4, 2) := by decide +kernel
theorem dL_sellers_155 : decode cL_sellers 155 = .ok (.iload_n 3, 1) := by decide +kernel
theorem dL_sellers_156 : decode cL_sellers 156 = .ok (.aload_n 0, 1) := by decide +kernel
theorem dL_sellers_157 : decode cL_sellers 157 = .ok (.iload 5, 2) := by decide +kernel
theorem dL_sellers_159 : decode cL_sellers 159 = .ok (.invokestatic 107, 3) := by decide +kernel
theorem dL_sellers_162 : decode cL_sellers 162 = .ok (.iconst 5, 1) := by decide +kernel
theorem dL_sellers_163 : decode cL_sellers 163 = .ok (.if_icmp .ne 7, 3) := by decide +kernel
theorem dL_sellers_166 : decode cL_sellers 166 = .ok (.iconst 0, 1) := by decide +kernel
theorem dL_sellers_167 : decode cL_sellers 167 = .ok (.goto 8, 3) := by decide +kernel
theorem dL_sellers_170 : decode cL_sellers 170 = .ok (.iconst 2, 1) := by decide +kernel
theorem dL_sellers_171 : decode cL_sellers 171 = .ok (.aload_n 2, 1) := by decide +kernel
theorem dL_sellers_172 : decode cL_sellers 172 = .ok (.iconst 1, 1) := by decide +kernel
theorem dL_sellers_173 : decode cL_sellers 173 = .ok (.iaload, 1) := by decide +kernel
theorem dL_sellers_174 : decode cL_sellers 174 = .ok (.imul, 1) := by decide +kernel
theorem dL_sellers_175 : decode cL_sellers 175 = .ok (.iadd, 1) := by decide +kernel
theorem dL_sellers_176 : decode cL_sellers 176 = .ok (.istore_n 3, 1) := by decide +kernel
theorem dL_sellers_177 : decode cL_sellers 177 = .ok (.iinc 5 1, 3) := by decide +kernel
theorem dL_sellers_180 : decode cL_sellers 180 = .ok (.goto (-61), 3) := by decide +kernel
theorem dL_sellers_183 : decode cL_sellers 183 = .ok (.iload_n 3, 1) := by decide +kernel
theorem dL_sellers_184 : decode cL_sellers 184 = .ok (.iload 4, 2) := by decide +kernel
theorem dL_sellers_186 : decode cL_sellers 186 = .ok (.if_icmp .lt 29, 3) := by decide +kernel
theorem dL_sellers_189 : decode cL_sellers 189 = .ok (.aload_n 0, 1) := by decide +kernel
theorem dL_sellers_190 : decode cL_sellers 190 = .ok (.aload_n 2, 1) := by decide +kernel
theorem dL_sellers_191 : decode cL_sellers 191 = .ok (.iconst 1, 1) := by decide +kernel
theorem dL_sellers_192 : decode cL_sellers 192 = .ok (.iaload, 1) := by decide +kernel
theorem dL_sellers_193 : decode cL_sellers 193 = .ok (.invokestatic 130, 3) := by decide +kernel
theorem dL_sellers_196 : decode cL_sellers 196 = .ok (.ldc 94, 2) := by decide +kernel
theorem dL_sellers_198 : decode cL_sellers 198 = .ok (.if_icmp .ne 17, 3) := by decide +kernel
theorem dL_sellers_201 : decode cL_sellers 201 = .ok (.aload_n 0, 1) := by decide +kernel
theorem dL_sellers_202 : decode cL_sellers 202 = .ok (.iconst (-1), 1) := by decide +kernel
theorem dL_sellers_203 : decode cL_sellers 203 = .ok (.invokestatic 128, 3) := by decide +kernel
theorem dL_sellers_206 : decode cL_sellers 206 = .ok (.ldc 28, 2) := by decide +kernel
theorem dL_sellers_208 : decode cL_sellers 208 = .ok (.if_icmp .ne 7, 3) := by decide +kernel
theorem dL_sellers_211 : decode cL_sellers 211 = .ok (.iconst 1, 1) := by decide +kernel
theorem dL_sellers_212 : decode cL_sellers 212 = .ok (.goto 4, 3) := by decide +kernel
theorem dL_sellers_215 : decode cL_sellers 215 = .ok (.iconst 0, 1) := by decide +kernel
theorem dL_sellers_216 : decode cL_sellers 216 = .ok (.ireturn, 1) := by decide +kernel
theorem dL_moves_0 : decode cL_moves 0 = .ok (.aload_n 0, 1) := by decide +kernel
theorem dL_moves_1 : decode cL_moves 1 = .ok (.iload 4, 2) := by decide +kernel
theorem dL_moves_3 : decode cL_moves 3 = .ok (.invokestatic 107, 3) := by decide +kernel
theorem dL_moves_6 : decode cL_moves 6 = .ok (.istore 6, 2) := by decide +kernel
theorem dL_moves_8 : decode cL_moves 8 = .ok (.aload_n 0, 1) := by decide +kernel
theorem dL_moves_9 : decode cL_moves 9 = .ok (.iload 4, 2) := by decide +kernel
theorem dL_moves_11 : decode cL_moves 11 = .ok (.iload 6, 2) := by decide +kernel
theorem dL_moves_13 : decode cL_moves 13 = .ok (.invokestatic 110, 3) := by decide +kernel
theorem dL_moves_16 : decode cL_moves 16 = .ok (.istore 7, 2) := by decide +kernel
theorem dL_moves_18 : decode cL_moves 18 = .ok (.aload_n 2, 1) := by decide +kernel
theorem dL_moves_19 : decode cL_moves 19 = .ok (.iconst 4, 1) := by decide +kernel
theorem dL_moves_20 : decode cL_moves 20 = .ok (.iload 4, 2) := by decide +kernel
theorem dL_moves_22 : decode cL_moves 22 = .ok (.imul, 1) := by decide +kernel
theorem dL_moves_23 : decode cL_moves 23 = .ok (.iconst 1, 1) := by decide +kernel
theorem dL_moves_24 : decode cL_moves 24 = .ok (.iadd, 1) := by decide +kernel
theorem dL_moves_25 : decode cL_moves 25 = .ok (.iaload, 1) := by decide +kernel
theorem dL_moves_26 : decode cL_moves 26 = .ok (.istore 8, 2) := by decide +kernel
theorem dL_moves_28 : decode cL_moves 28 = .ok (.iload 6, 2) := by decide +kernel
theorem dL_moves_30 : decode cL_moves 30 = .ok (.iconst 4, 1) := by decide +kernel
theorem dL_moves_31 : decode cL_moves 31 = .ok (.if_icmp .ge 46, 3) := by decide +kernel
theorem dL_moves_34 : decode cL_moves 34 = .ok (.iload 5, 2) := by decide +kernel
theorem dL_moves_36 : decode cL_moves 36 = .ok (.iload 6, 2) := by decide +kernel
theorem dL_moves_38 : decode cL_moves 38 = .ok (.if_icmp .lt 35, 3) := by decide +kernel
theorem dL_moves_41 : decode cL_moves 41 = .ok (.iload 5, 2) := by decide +kernel
theorem dL_moves_43 : decode cL_moves 43 = .ok (.iconst 5, 1) := by decide +kernel
theorem dL_moves_44 : decode cL_moves 44 = .ok (.if_icmp .eq 29, 3) := by decide +kernel
theorem dL_moves_47 : decode cL_moves 47 = .ok (.iload 5, 2) := by decide +kernel
theorem dL_moves_49 : decode cL_moves 49 = .ok (.iload 6, 2) := by decide +kernel
theorem dL_moves_51 : decode cL_moves 51 = .ok (.iconst 1, 1) := by decide +kernel
theorem dL_moves_52 : decode cL_moves 52 = .ok (.iadd, 1) := by decide +kernel
theorem dL_moves_53 : decode cL_moves 53 = .ok (.if_icmp .ne 24, 3) := by decide +kernel
theorem dL_moves_56 : decode cL_moves 56 = .ok (.iload 6, 2) := by decide +kernel
theorem dL_moves_58 : decode cL_moves 58 = .ok (.iconst 2, 1) := by decide +kernel
theorem dL_moves_59 : decode cL_moves 59 = .ok (.if_icmp .ne 14, 3) := by decide +kernel
theorem dL_moves_62 : decode cL_moves 62 = .ok (.aload_n 2, 1) := by decide +kernel
theorem dL_moves_63 : decode cL_moves 63 = .ok (.iconst 4, 1) := by decide +kernel
theorem dL_moves_64 : decode cL_moves 64 = .ok (.iload 4, 2) := by decide +kernel
theorem dL_moves_66 : decode cL_moves 66 = .ok (.imul, 1) := by decide +kernel
theorem dL_moves_67 : decode cL_moves 67 = .ok (.iconst 3, 1) := by decide +kernel
theorem dL_moves_68 : decode cL_moves 68 = .ok (.iadd, 1) := by decide +kernel
theorem dL_moves_69 : decode cL_moves 69 = .ok (.iaload, 1) := by decide +kernel
theorem dL_moves_70 : decode cL_moves 70 = .ok (.ifCond .lt 7, 3) := by decide +kernel
theorem dL_moves_73 : decode cL_moves 73 = .ok (.iconst 1, 1) := by decide +kernel
theorem dL_moves_74 : decode cL_moves 74 = .ok (.goto 4, 3) := by decide +kernel
theorem dL_moves_77 : decode cL_moves 77 = .ok (.iconst 0, 1) := by decide +kernel
theorem dL_moves_78 : decode cL_moves 78 = .ok (.istore 9, 2) := by decide +kernel
theorem dL_moves_80 : decode cL_moves 80 = .ok (.aload_n 0, 1) := by decide +kernel
theorem dL_moves_81 : decode cL_moves 81 = .ok (.iload 4, 2) := by decide +kernel
theorem dL_moves_83 : decode cL_moves 83 = .ok (.iload 5, 2) := by decide +kernel
theorem dL_moves_85 : decode cL_moves 85 = .ok (.invokestatic 135, 3) := by decide +kernel
theorem dL_moves_88 : decode cL_moves 88 = .ok (.istore 10, 2) := by decide +kernel
theorem dL_moves_90 : decode cL_moves 90 = .ok (.aload_n 1, 1) := by decide +kernel
theorem dL_moves_91 : decode cL_moves 91 = .ok (.iload 4, 2) := by decide +kernel
theorem dL_moves_93 : decode cL_moves 93 = .ok (.iload 5, 2) := by decide +kernel
theorem dL_moves_95 : decode cL_moves 95 = .ok (.invokestatic 135, 3) := by decide +kernel
theorem dL_moves_98 : decode cL_moves 98 = .ok (.iload 10, 2) := by decide +kernel
theorem dL_moves_100 : decode cL_moves 100 = .ok (.if_icmp .ne 82, 3) := by decide +kernel
theorem dL_moves_103 : decode cL_moves 103 = .ok (.iload 9, 2) := by decide +kernel
theorem dL_moves_105 : decode cL_moves 105 = .ok (.ifCond .eq 18, 3) := by decide +kernel
theorem dL_moves_108 : decode cL_moves 108 = .ok (.iload 10, 2) := by decide +kernel
theorem dL_moves_110 : decode cL_moves 110 = .ok (.ifCond .lt 72, 3) := by decide +kernel
theorem dL_moves_113 : decode cL_moves 113 = .ok (.iload 10, 2) := by decide +kernel
theorem dL_moves_115 : decode cL_moves 115 = .ok (.iload 7, 2) := by decide +kernel
theorem dL_moves_117 : decode cL_moves 117 = .ok (.if_icmp .gt 65, 3) := by decide +kernel
theorem dL_moves_120 : decode cL_moves 120 = .ok (.goto 10, 3) := by decide +kernel
theorem dL_moves_123 : decode cL_moves 123 = .ok (.iload 10, 2) := by decide +kernel
theorem dL_moves_125 : decode cL_moves 125 = .ok (.ldc 21, 2) := by decide +kernel
theorem dL_moves_127 : decode cL_moves 127 = .ok (.if_icmp .ne 55, 3) := by decide +kernel
theorem dL_moves_130 : decode cL_moves 130 = .ok (.aload_n 0, 1) := by decide +kernel
theorem dL_moves_131 : decode cL_moves 131 = .ok (.iload 4, 2) := by decide +kernel
theorem dL_moves_133 : decode cL_moves 133 = .ok (.invokestatic 107, 3) := by decide +kernel
theorem dL_moves_136 : decode cL_moves 136 = .ok (.iload 9, 2) := by decide +kernel
theorem dL_moves_138 : decode cL_moves 138 = .ok (.ifCond .eq 8, 3) := by decide +kernel
theorem dL_moves_141 : decode cL_moves 141 = .ok (.iload 5, 2) := by decide +kernel
theorem dL_moves_143 : decode cL_moves 143 = .ok (.goto 5, 3) := by decide +kernel
theorem dL_moves_146 : decode cL_moves 146 = .ok (.iload 6, 2) := by decide +kernel
theorem dL_moves_148 : decode cL_moves 148 = .ok (.if_icmp .ne 34, 3) := by decide +kernel
theorem dL_moves_151 : decode cL_moves 151 = .ok (.aload_n 0, 1) := by decide +kernel
theorem dL_moves_152 : decode cL_moves 152 = .ok (.iload 4, 2) := by decide +kernel
theorem dL_moves_154 : decode cL_moves 154 = .ok (.bipush 6, 2) := by decide +kernel
theorem dL_moves_156 : decode cL_moves 156 = .ok (.invokestatic 135, 3) := by decide +kernel
theorem dL_moves_159 : decode cL_moves 159 = .ok (.ldc 18, 2) := by decide +kernel
theorem dL_moves_161 : decode cL_moves 161 = .ok (.if_icmp .ne 21, 3) := by decide +kernel
theorem dL_moves_164 : decode cL_moves 164 = .ok (.aload_n 0, 1) := by decide +kernel
theorem dL_moves_165 : decode cL_moves 165 = .ok (.aload_n 3, 1) := by decide +kernel
theorem dL_moves_166 : decode cL_moves 166 = .ok (.iconst 2, 1) := by decide +kernel
theorem dL_moves_167 : decode cL_moves 167 = .ok (.iaload, 1) := by decide +kernel
theorem dL_moves_168 : decode cL_moves 168 = .ok (.bipush 6, 2) := by decide +kernel
theorem dL_moves_170 : decode cL_moves 170 = .ok (.invokestatic 135, 3) := by decide +kernel
theorem dL_moves_173 : decode cL_moves 173 = .ok (.ldc 28, 2) := by decide +kernel
theorem dL_moves_175 : decode cL_moves 175 = .ok (.if_icmp .ne 7, 3) := by decide +kernel
theorem dL_moves_178 : decode cL_moves 178 = .ok (.iconst 1, 1) := by decide +kernel
theorem dL_moves_179 : decode cL_moves 179 = .ok (.goto 4, 3) := by decide +kernel
theorem dL_moves_182 : decode cL_moves 182 = .ok (.iconst 0, 1) := by decide +kernel
theorem dL_moves_183 : decode cL_moves 183 = .ok (.istore 11, 2) := by decide +kernel
theorem dL_moves_185 : decode cL_moves 185 = .ok (.iload 11, 2) := by decide +kernel
theorem dL_moves_187 : decode cL_moves 187 = .ok (.ifCond .eq 14, 3) := by decide +kernel
theorem dL_moves_190 : decode cL_moves 190 = .ok (.iload 9, 2) := by decide +kernel
theorem dL_moves_192 : decode cL_moves 192 = .ok (.ifCond .eq 9, 3) := by decide +kernel
theorem dL_moves_195 : decode cL_moves 195 = .ok (.iload 5, 2) := by decide +kernel
theorem dL_moves_197 : decode cL_moves 197 = .ok (.iconst 4, 1) := by decide +kernel
theorem dL_moves_198 : decode cL_moves 198 = .ok (.if_icmp .ge 6, 3) := by decide +kernel
theorem dL_moves_201 : decode cL_moves 201 = .ok (.iload 11, 2) := by decide +kernel
theorem dL_moves_203 : decode cL_moves 203 = .ok (.ireturn, 1) := by decide +kernel
theorem dL_moves_204 : decode cL_moves 204 = .ok (.aload_n 0, 1) := by decide +kernel
theorem dL_moves_205 : decode cL_moves 205 = .ok (.iload 8, 2) := by decide +kernel
theorem dL_moves_207 : decode cL_moves 207 = .ok (.invokestatic 137, 3) := by decide +kernel
theorem dL_moves_210 : decode cL_moves 210 = .ok (.istore 12, 2) := by decide +kernel
theorem dL_moves_212 : decode cL_moves 212 = .ok (.aload_n 0, 1) := by decide +kernel
theorem dL_moves_213 : decode cL_moves 213 = .ok (.iload 12, 2) := by decide +kernel
theorem dL_moves_215 : decode cL_moves 215 = .ok (.iload 5, 2) := by decide +kernel
theorem dL_moves_217 : decode cL_moves 217 = .ok (.invokestatic 118, 3) := by decide +kernel
theorem dL_moves_220 : decode cL_moves 220 = .ok (.istore 13, 2) := by decide +kernel
theorem dL_moves_222 : decode cL_moves 222 = .ok (.aload_n 0, 1) := by decide +kernel
theorem dL_moves_223 : decode cL_moves 223 = .ok (.iload 8, 2) := by decide +kernel
theorem dL_moves_225 : decode cL_moves 225 = .ok (.iload 12, 2) := by decide +kernel
theorem dL_moves_227 : decode cL_moves 227 = .ok (.iconst 1, 1) := by decide +kernel
theorem dL_moves_228 : decode cL_moves 228 = .ok (.iadd, 1) := by decide +kernel
theorem dL_moves_229 : decode cL_moves 229 = .ok (.iconst 4, 1) := by decide +kernel
theorem dL_moves_230 : decode cL_moves 230 = .ok (.irem, 1) := by decide +kernel
theorem dL_moves_231 : decode cL_moves 231 = .ok (.invokestatic 139, 3) := by decide +kernel
theorem dL_moves_234 : decode cL_moves 234 = .ok (.istore 14, 2) := by decide +kernel
theorem dL_moves_236 : decode cL_moves 236 = .ok (.aload_n 0, 1) := by decide +kernel
theorem dL_moves_237 : decode cL_moves 237 = .ok (.iload 8, 2) := by decide +kernel
theorem dL_moves_239 : decode cL_moves 239 = .ok (.invokestatic 137, 3) := by decide +kernel
theorem dL_moves_242 : decode cL_moves 242 = .ok (.iload 12, 2) := by decide +kernel
theorem dL_moves_244 : decode cL_moves 244 = .ok (.iconst 1, 1) := by decide +kernel
theorem dL_moves_245 : decode cL_moves 245 = .ok (.iadd, 1) := by decide +kernel
theorem dL_moves_246 : decode cL_moves 246 = .ok (.iconst 4, 1) := by decide +kernel
theorem dL_moves_247 : decode cL_moves 247 = .ok (.irem, 1) := by decide +kernel
theorem dL_moves_248 : decode cL_moves 248 = .ok (.if_icmp .ne 48, 3) := by decide +kernel
theorem dL_moves_251 : decode cL_moves 251 = .ok (.aload_n 0, 1) := by decide +kernel
theorem dL_moves_252 : decode cL_moves 252 = .ok (.iload 12, 2) := by decide +kernel
theorem dL_moves_254 : decode cL_moves 254 = .ok (.iload 5, 2) := by decide +kernel
theorem dL_moves_256 : decode cL_moves 256 = .ok (.invokestatic 118, 3) := by decide +kernel
theorem dL_moves_259 : decode cL_moves 259 = .ok (.iload 13, 2) := by decide +kernel
theorem dL_moves_261 : decode cL_moves 261 = .ok (.if_icmp .ne 35, 3) := by decide +kernel
theorem dL_moves_264 : decode cL_moves 264 = .ok (.aload_n 0, 1) := by decide +kernel
theorem dL_moves_265 : decode cL_moves 265 = .ok (.iload 8, 2) := by decide +kernel
theorem dL_moves_267 : decode cL_moves 267 = .ok (.iload 14, 2) := by decide +kernel
theorem dL_moves_269 : decode cL_moves 269 = .ok (.invokestatic 139, 3) := by decide +kernel
theorem dL_moves_272 : decode cL_moves 272 = .ok (.iload 12, 2) := by decide +kernel
theorem dL_moves_274 : decode cL_moves 274 = .ok (.iconst 1, 1) := by decide +kernel
theorem dL_moves_275 : decode cL_moves 275 = .ok (.iadd, 1) := by decide +kernel
theorem dL_moves_276 : decode cL_moves 276 = .ok (.iconst 4, 1) := by decide +kernel
theorem dL_moves_277 : decode cL_moves 277 = .ok (.irem, 1) := by decide +kernel
theorem dL_moves_278 : decode cL_moves 278 = .ok (.if_icmp .ne 18, 3) := by decide +kernel
theorem dL_moves_281 : decode cL_moves 281 = .ok (.aload_n 0, 1) := by decide +kernel
theorem dL_moves_282 : decode cL_moves 282 = .ok (.iload 8, 2) := by decide +kernel
theorem dL_moves_284 : decode cL_moves 284 = .ok (.invokestatic 137, 3) := by decide +kernel
theorem dL_moves_287 : decode cL_moves 287 = .ok (.iload 12, 2) := by decide +kernel
theorem dL_moves_289 : decode cL_moves 289 = .ok (.if_icmp .ne 7, 3) := by decide +kernel
theorem dL_moves_292 : decode cL_moves 292 = .ok (.iconst 1, 1) := by decide +kernel
theorem dL_moves_293 : decode cL_moves 293 = .ok (.goto 4, 3) := by decide +kernel
theorem dL_moves_296 : decode cL_moves 296 = .ok (.iconst 0, 1) := by decide +kernel
theorem dL_moves_297 : decode cL_moves 297 = .ok (.istore 11, 2) := by decide +kernel
theorem dL_moves_299 : decode cL_moves 299 = .ok (.iload 11, 2) := by decide +kernel
theorem dL_moves_301 : decode cL_moves 301 = .ok (.ifCond .eq 46, 3) := by decide +kernel
theorem dL_moves_304 : decode cL_moves 304 = .ok (.aload_n 0, 1) := by decide +kernel
theorem dL_moves_305 : decode cL_moves 305 = .ok (.iload 4, 2) := by decide +kernel
theorem dL_moves_307 : decode cL_moves 307 = .ok (.iconst 0, 1) := by decide +kernel
theorem dL_moves_308 : decode cL_moves 308 = .ok (.invokestatic 135, 3) := by decide +kernel
theorem dL_moves_311 : decode cL_moves 311 = .ok (.ldc 21, 2) := by decide +kernel
theorem dL_moves_313 : decode cL_moves 313 = .ok (.if_icmp .ne 34, 3) := by decide +kernel
theorem dL_moves_316 : decode cL_moves 316 = .ok (.aload_n 0, 1) := by decide +kernel
theorem dL_moves_317 : decode cL_moves 317 = .ok (.iload 4, 2) := by decide +kernel
theorem dL_moves_319 : decode cL_moves 319 = .ok (.iconst 0, 1) := by decide +kernel
theorem dL_moves_320 : decode cL_moves 320 = .ok (.iconst 1, 1) := by decide +kernel
theorem dL_moves_321 : decode cL_moves 321 = .ok (.iconst 1, 1) := by decide +kernel
theorem dL_moves_322 : decode cL_moves 322 = .ok (.invokestatic 141, 3) := by decide +kernel
theorem dL_moves_325 : decode cL_moves 325 = .ok (.ldc 21, 2) := by decide +kernel
theorem dL_moves_327 : decode cL_moves 327 = .ok (.if_icmp .ne 20, 3) := by decide +kernel
theorem dL_moves_330 : decode cL_moves 330 = .ok (.aload_n 0, 1) := by decide +kernel
theorem dL_moves_331 : decode cL_moves 331 = .ok (.iload 4, 2) := by decide +kernel
theorem dL_moves_333 : decode cL_moves 333 = .ok (.iconst 0, 1) := by decide +kernel
theorem dL_moves_334 : decode cL_moves 334 = .ok (.iconst 0, 1) := by decide +kernel
theorem dL_moves_335 : decode cL_moves 335 = .ok (.invokestatic 144, 3) := by decide +kernel
theorem dL_moves_338 : decode cL_moves 338 = .ok (.ldc 21, 2) := by decide +kernel
theorem dL_moves_340 : decode cL_moves 340 = .ok (.if_icmp .ne 7, 3) := by decide +kernel
theorem dL_moves_343 : decode cL_moves 343 = .ok (.iconst 1, 1) := by decide +kernel
theorem dL_moves_344 : decode cL_moves 344 = .ok (.goto 4, 3) := by decide +kernel
theorem dL_moves_347 : decode cL_moves 347 = .ok (.iconst 0, 1) := by decide +kernel
theorem dL_moves_348 : decode cL_moves 348 = .ok (.ireturn, 1) := by decide +kernel
theorem dL_law_0 : decode cL_law 0 = .ok (.new 11, 3) := by decide +kernel
theorem dL_law_3 : decode cL_law 3 = .ok (.dup, 1) := by decide +kernel
theorem dL_law_4 : decode cL_law 4 = .ok (.invokespecial 178, 3) := by decide +kernel
theorem dL_law_7 : decode cL_law 7 = .ok (.astore_n 1, 1) := by decide +kernel
theorem dL_law_8 : decode cL_law 8 = .ok (.new 11, 3) := by decide +kernel
theorem dL_law_11 : decode cL_law 11 = .ok (.dup, 1) := by decide +kernel
theorem dL_law_12 : decode cL_law 12 = .ok (.invokespecial 178, 3) := by decide +kernel
theorem dL_law_15 : decode cL_law 15 = .ok (.astore_n 2, 1) := by decide +kernel
theorem dL_law_16 : decode cL_law 16 = .ok (.bipush 64, 2) := by decide +kernel
theorem dL_law_18 : decode cL_law 18 = .ok (.newarray .int, 2) := by decide +kernel
theorem dL_law_20 : decode cL_law 20 = .ok (.astore_n 3, 1) := by decide +kernel
theorem dL_law_21 : decode cL_law 21 = .ok (.bipush 24, 2) := by decide +kernel
theorem dL_law_23 : decode cL_law 23 = .ok (.newarray .int, 2) := by decide +kernel
theorem dL_law_25 : decode cL_law 25 = .ok (.astore 4, 2) := by decide +kernel
theorem dL_law_27 : decode cL_law 27 = .ok (.bipush 64, 2) := by decide +kernel
theorem dL_law_29 : decode cL_law 29 = .ok (.newarray .int, 2) := by decide +kernel
theorem dL_law_31 : decode cL_law 31 = .ok (.astore 5, 2) := by decide +kernel
theorem dL_law_33 : decode cL_law 33 = .ok (.bipush 30, 2) := by decide +kernel
theorem dL_law_35 : decode cL_law 35 = .ok (.newarray .int, 2) := by decide +kernel
theorem dL_law_37 : decode cL_law 37 = .ok (.astore 6, 2) := by decide +kernel
theorem dL_law_39 : decode cL_law 39 = .ok (.bipush 7, 2) := by decide +kernel
theorem dL_law_41 : decode cL_law 41 = .ok (.newarray .int, 2) := by decide +kernel
theorem dL_law_43 : decode cL_law 43 = .ok (.astore 7, 2) := by decide +kernel
theorem dL_law_45 : decode cL_law 45 = .ok (.aload_n 1, 1) := by decide +kernel
theorem dL_law_46 : decode cL_law 46 = .ok (.invokevirtual 122, 3) := by decide +kernel
theorem dL_law_49 : decode cL_law 49 = .ok (.ifCond .ne 44, 3) := by decide +kernel
theorem dL_law_52 : decode cL_law 52 = .ok (.aload_n 1, 1) := by decide +kernel
theorem dL_law_53 : decode cL_law 53 = .ok (.iconst 0, 1) := by decide +kernel
theorem dL_law_54 : decode cL_law 54 = .ok (.invokestatic 125, 3) := by decide +kernel
theorem dL_law_57 : decode cL_law 57 = .ok (.ifCond .ne 36, 3) := by decide +kernel
theorem dL_law_60 : decode cL_law 60 = .ok (.aload_n 1, 1) := by decide +kernel
theorem dL_law_61 : decode cL_law 61 = .ok (.iconst 0, 1) := by decide +kernel
theorem dL_law_62 : decode cL_law 62 = .ok (.invokestatic 130, 3) := by decide +kernel
theorem dL_law_65 : decode cL_law 65 = .ok (.ldc 94, 2) := by decide +kernel
theorem dL_law_67 : decode cL_law 67 = .ok (.if_icmp .ne 26, 3) := by decide +kernel
theorem dL_law_70 : decode cL_law 70 = .ok (.aload_n 1, 1) := by decide +kernel
theorem dL_law_71 : decode cL_law 71 = .ok (.iconst 0, 1) := by decide +kernel
theorem dL_law_72 : decode cL_law 72 = .ok (.invokestatic 137, 3) := by decide +kernel
theorem dL_law_75 : decode cL_law 75 = .ok (.ldc 28, 2) := by decide +kernel
theorem dL_law_77 : decode cL_law 77 = .ok (.if_icmp .ne 16, 3) := by decide +kernel
theorem dL_law_80 : decode cL_law 80 = .ok (.aload_n 1, 1) := by decide +kernel
theorem dL_law_81 : decode cL_law 81 = .ok (.iconst 0, 1) := by decide +kernel
theorem dL_law_82 : decode cL_law 82 = .ok (.iconst 0, 1) := by decide +kernel
theorem dL_law_83 : decode cL_law 83 = .ok (.invokestatic 118, 3) := by decide +kernel
theorem dL_law_86 : decode cL_law 86 = .ok (.ifCond .ne 7, 3) := by decide +kernel
theorem dL_law_89 : decode cL_law 89 = .ok (.iconst 1, 1) := by decide +kernel
theorem dL_law_90 : decode cL_law 90 = .ok (.goto 4, 3) := by decide +kernel
theorem dL_law_93 : decode cL_law 93 = .ok (.iconst 0, 1) := by decide +kernel
theorem dL_law_94 : decode cL_law 94 = .ok (.istore 8, 2) := by decide +kernel
theorem dL_law_96 : decode cL_law 96 = .ok (.iconst 0, 1) := by decide +kernel
theorem dL_law_97 : decode cL_law 97 = .ok (.istore 9, 2) := by decide +kernel
theorem dL_law_99 : decode cL_law 99 = .ok (.iload 9, 2) := by decide +kernel
theorem dL_law_101 : decode cL_law 101 = .ok (.bipush 95, 2) := by decide +kernel
theorem dL_law_103 : decode cL_law 103 = .ok (.if_icmp .ge 118, 3) := by decide +kernel
theorem dL_law_106 : decode cL_law 106 = .ok (.iload 8, 2) := by decide +kernel
theorem dL_law_108 : decode cL_law 108 = .ok (.ifCond .eq 113, 3) := by decide +kernel
theorem dL_law_111 : decode cL_law 111 = .ok (.aload_n 1, 1) := by decide +kernel
theorem dL_law_112 : decode cL_law 112 = .ok (.aload_n 2, 1) := by decide +kernel
theorem dL_law_113 : decode cL_law 113 = .ok (.aload_n 3, 1) := by decide +kernel
theorem dL_law_114 : decode cL_law 114 = .ok (.aload 4, 2) := by decide +kernel
theorem dL_law_116 : decode cL_law 116 = .ok (.aload 5, 2) := by decide +kernel
theorem dL_law_118 : decode cL_law 118 = .ok (.aload 6, 2) := by decide +kernel
theorem dL_law_120 : decode cL_law 120 = .ok (.aload 7, 2) := by decide +kernel
theorem dL_law_122 : decode cL_law 122 = .ok (.aload_n 0, 1) := by decide +kernel
theorem dL_law_123 : decode cL_law 123 = .ok (.iconst 2, 1) := by decide +kernel
theorem dL_law_124 : decode cL_law 124 = .ok (.iload 9, 2) := by decide +kernel
theorem dL_law_126 : decode cL_law 126 = .ok (.imul, 1) := by decide +kernel
theorem dL_law_127 : decode cL_law 127 = .ok (.invokestatic 179, 3) := by decide +kernel
theorem dL_law_130 : decode cL_law 130 = .ok (.aload_n 0, 1) := by decide +kernel
theorem dL_law_131 : decode cL_law 131 = .ok (.iconst 2, 1) := by decide +kernel
theorem dL_law_132 : decode cL_law 132 = .ok (.iload 9, 2) := by decide +kernel
theorem dL_law_134 : decode cL_law 134 = .ok (.imul, 1) := by decide +kernel
theorem dL_law_135 : decode cL_law 135 = .ok (.iconst 1, 1) := by decide +kernel
theorem dL_law_136 : decode cL_law 136 = .ok (.iadd, 1) := by decide +kernel
theorem dL_law_137 : decode cL_law 137 = .ok (.invokestatic 179, 3) := by decide +kernel
theorem dL_law_140 : decode cL_law 140 = .ok (.invokestatic 183, 3) := by decide +kernel
theorem dL_law_143 : decode cL_law 143 = .ok (.istore 8, 2) := by decide +kernel
theorem dL_law_145 : decode cL_law 145 = .ok (.iload 8, 2) := by decide +kernel
theorem dL_law_147 : decode cL_law 147 = .ok (.ifCond .eq 68, 3) := by decide +kernel
theorem dL_law_150 : decode cL_law 150 = .ok (.iload 9, 2) := by decide +kernel
theorem dL_law_152 : decode cL_law 152 = .ok (.iconst 4, 1) := by decide +kernel
theorem dL_law_153 : decode cL_law 153 = .ok (.irem, 1) := by decide +kernel
theorem dL_law_154 : decode cL_law 154 = .ok (.iconst 3, 1) := by decide +kernel
theorem dL_law_155 : decode cL_law 155 = .ok (.if_icmp .ne 60, 3) := by decide +kernel
theorem dL_law_158 : decode cL_law 158 = .ok (.aload_n 1, 1) := by decide +kernel
theorem dL_law_159 : decode cL_law 159 = .ok (.aload_n 3, 1) := by decide +kernel
theorem dL_law_160 : decode cL_law 160 = .ok (.aload 5, 2) := by decide +kernel
theorem dL_law_162 : decode cL_law 162 = .ok (.aload 6, 2) := by decide +kernel
theorem dL_law_164 : decode cL_law 164 = .ok (.aload 7, 2) := by decide +kernel
theorem dL_law_166 : decode cL_law 166 = .ok (.invokestatic 187, 3) := by decide +kernel
theorem dL_law_169 : decode cL_law 169 = .ok (.ifCond .eq 43, 3) := by decide +kernel
theorem dL_law_172 : decode cL_law 172 = .ok (.aload_n 2, 1) := by decide +kernel
theorem dL_law_173 : decode cL_law 173 = .ok (.aload_n 3, 1) := by decide +kernel
theorem dL_law_174 : decode cL_law 174 = .ok (.aload 5, 2) := by decide +kernel
theorem dL_law_176 : decode cL_law 176 = .ok (.aload 6, 2) := by decide +kernel
theorem dL_law_178 : decode cL_law 178 = .ok (.aload 7, 2) := by decide +kernel
theorem dL_law_180 : decode cL_law 180 = .ok (.invokestatic 187, 3) := by decide +kernel
theorem dL_law_183 : decode cL_law 183 = .ok (.ifCond .eq 29, 3) := by decide +kernel
theorem dL_law_186 : decode cL_law 186 = .ok (.aload_n 1, 1) := by decide +kernel
theorem dL_law_187 : decode cL_law 187 = .ok (.aload 4, 2) := by decide +kernel
theorem dL_law_189 : decode cL_law 189 = .ok (.aload 7, 2) := by decide +kernel
theorem dL_law_191 : decode cL_law 191 = .ok (.invokestatic 191, 3) := by decide +kernel
theorem dL_law_194 : decode cL_law 194 = .ok (.ifCond .eq 18, 3) := by decide +kernel
theorem dL_law_197 : decode cL_law 197 = .ok (.aload_n 2, 1) := by decide +kernel
theorem dL_law_198 : decode cL_law 198 = .ok (.aload 4, 2) := by decide +kernel
theorem dL_law_200 : decode cL_law 200 = .ok (.aload 7, 2) := by decide +kernel
theorem dL_law_202 : decode cL_law 202 = .ok (.invokestatic 191, 3) := by decide +kernel
theorem dL_law_205 : decode cL_law 205 = .ok (.ifCond .eq 7, 3) := by decide +kernel
theorem dL_law_208 : decode cL_law 208 = .ok (.iconst 1, 1) := by decide +kernel
theorem dL_law_209 : decode cL_law 209 = .ok (.goto 4, 3) := by decide +kernel
theorem dL_law_212 : decode cL_law 212 = .ok (.iconst 0, 1) := by decide +kernel
theorem dL_law_213 : decode cL_law 213 = .ok (.istore 8, 2) := by decide +kernel
theorem dL_law_215 : decode cL_law 215 = .ok (.iinc 9 1, 3) := by decide +kernel
theorem dL_law_218 : decode cL_law 218 = .ok (.goto (-119), 3) := by decide +kernel
theorem dL_law_221 : decode cL_law 221 = .ok (.iload 8, 2) := by decide +kernel
theorem dL_law_223 : decode cL_law 223 = .ok (.ireturn, 1) := by decide +kernel
