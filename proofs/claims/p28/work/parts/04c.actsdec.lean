theorem dL_acts_0 : decode cL_acts 0 = .ok (.iload 7, 2) := by decide +kernel
theorem dL_acts_2 : decode cL_acts 2 = .ok (.bipush 30, 2) := by decide +kernel
theorem dL_acts_4 : decode cL_acts 4 = .ok (.invokestatic 147, 3) := by decide +kernel
theorem dL_acts_7 : decode cL_acts 7 = .ok (.istore 9, 2) := by decide +kernel
theorem dL_acts_9 : decode cL_acts 9 = .ok (.aload 6, 2) := by decide +kernel
theorem dL_acts_11 : decode cL_acts 11 = .ok (.iconst 0, 1) := by decide +kernel
theorem dL_acts_12 : decode cL_acts 12 = .ok (.iaload, 1) := by decide +kernel
theorem dL_acts_13 : decode cL_acts 13 = .ok (.ifCond .eq 8, 3) := by decide +kernel
theorem dL_acts_16 : decode cL_acts 16 = .ok (.iload 9, 2) := by decide +kernel
theorem dL_acts_18 : decode cL_acts 18 = .ok (.ifCond .ne 166, 3) := by decide +kernel
theorem dL_acts_21 : decode cL_acts 21 = .ok (.aload 6, 2) := by decide +kernel
theorem dL_acts_23 : decode cL_acts 23 = .ok (.iconst 0, 1) := by decide +kernel
theorem dL_acts_24 : decode cL_acts 24 = .ok (.iaload, 1) := by decide +kernel
theorem dL_acts_25 : decode cL_acts 25 = .ok (.istore 10, 2) := by decide +kernel
theorem dL_acts_27 : decode cL_acts 27 = .ok (.iload 8, 2) := by decide +kernel
theorem dL_acts_29 : decode cL_acts 29 = .ok (.iload 10, 2) := by decide +kernel
theorem dL_acts_31 : decode cL_acts 31 = .ok (.iconst 1, 1) := by decide +kernel
theorem dL_acts_32 : decode cL_acts 32 = .ok (.iadd, 1) := by decide +kernel
theorem dL_acts_33 : decode cL_acts 33 = .ok (.invokestatic 147, 3) := by decide +kernel
theorem dL_acts_36 : decode cL_acts 36 = .ok (.iconst 1, 1) := by decide +kernel
theorem dL_acts_37 : decode cL_acts 37 = .ok (.isub, 1) := by decide +kernel
theorem dL_acts_38 : decode cL_acts 38 = .ok (.istore 11, 2) := by decide +kernel
theorem dL_acts_40 : decode cL_acts 40 = .ok (.iload 10, 2) := by decide +kernel
theorem dL_acts_42 : decode cL_acts 42 = .ok (.bipush 16, 2) := by decide +kernel
theorem dL_acts_44 : decode cL_acts 44 = .ok (.if_icmp .ge 8, 3) := by decide +kernel
theorem dL_acts_47 : decode cL_acts 47 = .ok (.iload 10, 2) := by decide +kernel
theorem dL_acts_49 : decode cL_acts 49 = .ok (.goto 5, 3) := by decide +kernel
theorem dL_acts_52 : decode cL_acts 52 = .ok (.ldc 21, 2) := by decide +kernel
theorem dL_acts_54 : decode cL_acts 54 = .ok (.istore 12, 2) := by decide +kernel
theorem dL_acts_56 : decode cL_acts 56 = .ok (.iload 12, 2) := by decide +kernel
theorem dL_acts_58 : decode cL_acts 58 = .ok (.ifCond .lt 19, 3) := by decide +kernel
theorem dL_acts_61 : decode cL_acts 61 = .ok (.aload_n 2, 1) := by decide +kernel
theorem dL_acts_62 : decode cL_acts 62 = .ok (.iconst 4, 1) := by decide +kernel
theorem dL_acts_63 : decode cL_acts 63 = .ok (.iload 10, 2) := by decide +kernel
theorem dL_acts_65 : decode cL_acts 65 = .ok (.imul, 1) := by decide +kernel
theorem dL_acts_66 : decode cL_acts 66 = .ok (.iload 11, 2) := by decide +kernel
theorem dL_acts_68 : decode cL_acts 68 = .ok (.iastore, 1) := by decide +kernel
theorem dL_acts_69 : decode cL_acts 69 = .ok (.aload 6, 2) := by decide +kernel
theorem dL_acts_71 : decode cL_acts 71 = .ok (.iconst 0, 1) := by decide +kernel
theorem dL_acts_72 : decode cL_acts 72 = .ok (.dup2, 1) := by decide +kernel
theorem dL_acts_73 : decode cL_acts 73 = .ok (.iaload, 1) := by decide +kernel
theorem dL_acts_74 : decode cL_acts 74 = .ok (.iconst 1, 1) := by decide +kernel
theorem dL_acts_75 : decode cL_acts 75 = .ok (.iadd, 1) := by decide +kernel
theorem dL_acts_76 : decode cL_acts 76 = .ok (.iastore, 1) := by decide +kernel
theorem dL_acts_77 : decode cL_acts 77 = .ok (.aload_n 0, 1) := by decide +kernel
theorem dL_acts_78 : decode cL_acts 78 = .ok (.iload 11, 2) := by decide +kernel
theorem dL_acts_80 : decode cL_acts 80 = .ok (.iload 8, 2) := by decide +kernel
theorem dL_acts_82 : decode cL_acts 82 = .ok (.iconst 4, 1) := by decide +kernel
theorem dL_acts_83 : decode cL_acts 83 = .ok (.ishr, 1) := by decide +kernel
theorem dL_acts_84 : decode cL_acts 84 = .ok (.bipush 10, 2) := by decide +kernel
theorem dL_acts_86 : decode cL_acts 86 = .ok (.invokestatic 147, 3) := by decide +kernel
theorem dL_acts_89 : decode cL_acts 89 = .ok (.iload 8, 2) := by decide +kernel
theorem dL_acts_91 : decode cL_acts 91 = .ok (.bipush 8, 2) := by decide +kernel
theorem dL_acts_93 : decode cL_acts 93 = .ok (.ishr, 1) := by decide +kernel
theorem dL_acts_94 : decode cL_acts 94 = .ok (.bipush 10, 2) := by decide +kernel
theorem dL_acts_96 : decode cL_acts 96 = .ok (.invokestatic 147, 3) := by decide +kernel
theorem dL_acts_99 : decode cL_acts 99 = .ok (.invokestatic 150, 3) := by decide +kernel
theorem dL_acts_102 : decode cL_acts 102 = .ok (.iload 12, 2) := by decide +kernel
theorem dL_acts_104 : decode cL_acts 104 = .ok (.if_icmp .ne 78, 3) := by decide +kernel
theorem dL_acts_107 : decode cL_acts 107 = .ok (.aload_n 1, 1) := by decide +kernel
theorem dL_acts_108 : decode cL_acts 108 = .ok (.iload 11, 2) := by decide +kernel
theorem dL_acts_110 : decode cL_acts 110 = .ok (.iload 8, 2) := by decide +kernel
theorem dL_acts_112 : decode cL_acts 112 = .ok (.iconst 4, 1) := by decide +kernel
theorem dL_acts_113 : decode cL_acts 113 = .ok (.ishr, 1) := by decide +kernel
theorem dL_acts_114 : decode cL_acts 114 = .ok (.bipush 10, 2) := by decide +kernel
theorem dL_acts_116 : decode cL_acts 116 = .ok (.invokestatic 147, 3) := by decide +kernel
theorem dL_acts_119 : decode cL_acts 119 = .ok (.iload 8, 2) := by decide +kernel
theorem dL_acts_121 : decode cL_acts 121 = .ok (.bipush 8, 2) := by decide +kernel
theorem dL_acts_123 : decode cL_acts 123 = .ok (.ishr, 1) := by decide +kernel
theorem dL_acts_124 : decode cL_acts 124 = .ok (.bipush 10, 2) := by decide +kernel
theorem dL_acts_126 : decode cL_acts 126 = .ok (.invokestatic 147, 3) := by decide +kernel
theorem dL_acts_129 : decode cL_acts 129 = .ok (.invokestatic 150, 3) := by decide +kernel
theorem dL_acts_132 : decode cL_acts 132 = .ok (.iload 12, 2) := by decide +kernel
theorem dL_acts_134 : decode cL_acts 134 = .ok (.if_icmp .ne 48, 3) := by decide +kernel
theorem dL_acts_137 : decode cL_acts 137 = .ok (.aload_n 0, 1) := by decide +kernel
theorem dL_acts_138 : decode cL_acts 138 = .ok (.aload 6, 2) := by decide +kernel
theorem dL_acts_140 : decode cL_acts 140 = .ok (.iconst 0, 1) := by decide +kernel
theorem dL_acts_141 : decode cL_acts 141 = .ok (.iaload, 1) := by decide +kernel
theorem dL_acts_142 : decode cL_acts 142 = .ok (.bipush 10, 2) := by decide +kernel
theorem dL_acts_144 : decode cL_acts 144 = .ok (.iconst 0, 1) := by decide +kernel
theorem dL_acts_145 : decode cL_acts 145 = .ok (.invokestatic 150, 3) := by decide +kernel
theorem dL_acts_148 : decode cL_acts 148 = .ok (.ldc 28, 2) := by decide +kernel
theorem dL_acts_150 : decode cL_acts 150 = .ok (.if_icmp .ne 32, 3) := by decide +kernel
theorem dL_acts_153 : decode cL_acts 153 = .ok (.aload_n 0, 1) := by decide +kernel
theorem dL_acts_154 : decode cL_acts 154 = .ok (.iconst (-1), 1) := by decide +kernel
theorem dL_acts_155 : decode cL_acts 155 = .ok (.bipush 10, 2) := by decide +kernel
theorem dL_acts_157 : decode cL_acts 157 = .ok (.iconst 0, 1) := by decide +kernel
theorem dL_acts_158 : decode cL_acts 158 = .ok (.invokestatic 150, 3) := by decide +kernel
theorem dL_acts_161 : decode cL_acts 161 = .ok (.ldc 18, 2) := by decide +kernel
theorem dL_acts_163 : decode cL_acts 163 = .ok (.if_icmp .ne 19, 3) := by decide +kernel
theorem dL_acts_166 : decode cL_acts 166 = .ok (.aload_n 0, 1) := by decide +kernel
theorem dL_acts_167 : decode cL_acts 167 = .ok (.iconst (-1), 1) := by decide +kernel
theorem dL_acts_168 : decode cL_acts 168 = .ok (.iconst 0, 1) := by decide +kernel
theorem dL_acts_169 : decode cL_acts 169 = .ok (.iconst (-1), 1) := by decide +kernel
theorem dL_acts_170 : decode cL_acts 170 = .ok (.invokestatic 150, 3) := by decide +kernel
theorem dL_acts_173 : decode cL_acts 173 = .ok (.ldc 18, 2) := by decide +kernel
theorem dL_acts_175 : decode cL_acts 175 = .ok (.if_icmp .ne 7, 3) := by decide +kernel
theorem dL_acts_178 : decode cL_acts 178 = .ok (.iconst 1, 1) := by decide +kernel
theorem dL_acts_179 : decode cL_acts 179 = .ok (.goto 4, 3) := by decide +kernel
theorem dL_acts_182 : decode cL_acts 182 = .ok (.iconst 0, 1) := by decide +kernel
theorem dL_acts_183 : decode cL_acts 183 = .ok (.ireturn, 1) := by decide +kernel
theorem dL_acts_184 : decode cL_acts 184 = .ok (.aload 6, 2) := by decide +kernel
theorem dL_acts_186 : decode cL_acts 186 = .ok (.iconst 1, 1) := by decide +kernel
theorem dL_acts_187 : decode cL_acts 187 = .ok (.iaload, 1) := by decide +kernel
theorem dL_acts_188 : decode cL_acts 188 = .ok (.iconst 2, 1) := by decide +kernel
theorem dL_acts_189 : decode cL_acts 189 = .ok (.if_icmp .lt 9, 3) := by decide +kernel
theorem dL_acts_192 : decode cL_acts 192 = .ok (.iload 9, 2) := by decide +kernel
theorem dL_acts_194 : decode cL_acts 194 = .ok (.iconst 1, 1) := by decide +kernel
theorem dL_acts_195 : decode cL_acts 195 = .ok (.if_icmp .ne 136, 3) := by decide +kernel
theorem dL_acts_198 : decode cL_acts 198 = .ok (.aload 6, 2) := by decide +kernel
theorem dL_acts_200 : decode cL_acts 200 = .ok (.iconst 1, 1) := by decide +kernel
theorem dL_acts_201 : decode cL_acts 201 = .ok (.iaload, 1) := by decide +kernel
theorem dL_acts_202 : decode cL_acts 202 = .ok (.istore 10, 2) := by decide +kernel
theorem dL_acts_204 : decode cL_acts 204 = .ok (.iload 8, 2) := by decide +kernel
theorem dL_acts_206 : decode cL_acts 206 = .ok (.iload 10, 2) := by decide +kernel
theorem dL_acts_208 : decode cL_acts 208 = .ok (.iconst 1, 1) := by decide +kernel
theorem dL_acts_209 : decode cL_acts 209 = .ok (.iadd, 1) := by decide +kernel
theorem dL_acts_210 : decode cL_acts 210 = .ok (.invokestatic 147, 3) := by decide +kernel
theorem dL_acts_213 : decode cL_acts 213 = .ok (.iconst 1, 1) := by decide +kernel
theorem dL_acts_214 : decode cL_acts 214 = .ok (.isub, 1) := by decide +kernel
theorem dL_acts_215 : decode cL_acts 215 = .ok (.istore 11, 2) := by decide +kernel
theorem dL_acts_217 : decode cL_acts 217 = .ok (.iload 8, 2) := by decide +kernel
theorem dL_acts_219 : decode cL_acts 219 = .ok (.iconst 4, 1) := by decide +kernel
theorem dL_acts_220 : decode cL_acts 220 = .ok (.ishr, 1) := by decide +kernel
theorem dL_acts_221 : decode cL_acts 221 = .ok (.bipush 100, 2) := by decide +kernel
theorem dL_acts_223 : decode cL_acts 223 = .ok (.invokestatic 147, 3) := by decide +kernel
theorem dL_acts_226 : decode cL_acts 226 = .ok (.istore 12, 2) := by decide +kernel
theorem dL_acts_228 : decode cL_acts 228 = .ok (.iload 10, 2) := by decide +kernel
theorem dL_acts_230 : decode cL_acts 230 = .ok (.bipush 8, 2) := by decide +kernel
theorem dL_acts_232 : decode cL_acts 232 = .ok (.if_icmp .ge 8, 3) := by decide +kernel
theorem dL_acts_235 : decode cL_acts 235 = .ok (.iload 10, 2) := by decide +kernel
theorem dL_acts_237 : decode cL_acts 237 = .ok (.goto 5, 3) := by decide +kernel
theorem dL_acts_240 : decode cL_acts 240 = .ok (.ldc 21, 2) := by decide +kernel
theorem dL_acts_242 : decode cL_acts 242 = .ok (.istore 13, 2) := by decide +kernel
theorem dL_acts_244 : decode cL_acts 244 = .ok (.iload 13, 2) := by decide +kernel
theorem dL_acts_246 : decode cL_acts 246 = .ok (.ifCond .lt 29, 3) := by decide +kernel
theorem dL_acts_249 : decode cL_acts 249 = .ok (.aload_n 3, 1) := by decide +kernel
theorem dL_acts_250 : decode cL_acts 250 = .ok (.iconst 3, 1) := by decide +kernel
theorem dL_acts_251 : decode cL_acts 251 = .ok (.iload 10, 2) := by decide +kernel
theorem dL_acts_253 : decode cL_acts 253 = .ok (.imul, 1) := by decide +kernel
theorem dL_acts_254 : decode cL_acts 254 = .ok (.iload 11, 2) := by decide +kernel
theorem dL_acts_256 : decode cL_acts 256 = .ok (.iastore, 1) := by decide +kernel
theorem dL_acts_257 : decode cL_acts 257 = .ok (.aload_n 3, 1) := by decide +kernel
theorem dL_acts_258 : decode cL_acts 258 = .ok (.iconst 3, 1) := by decide +kernel
theorem dL_acts_259 : decode cL_acts 259 = .ok (.iload 10, 2) := by decide +kernel
theorem dL_acts_261 : decode cL_acts 261 = .ok (.imul, 1) := by decide +kernel
theorem dL_acts_262 : decode cL_acts 262 = .ok (.iconst 1, 1) := by decide +kernel
theorem dL_acts_263 : decode cL_acts 263 = .ok (.iadd, 1) := by decide +kernel
theorem dL_acts_264 : decode cL_acts 264 = .ok (.iload 12, 2) := by decide +kernel
theorem dL_acts_266 : decode cL_acts 266 = .ok (.iastore, 1) := by decide +kernel
theorem dL_acts_267 : decode cL_acts 267 = .ok (.aload 6, 2) := by decide +kernel
theorem dL_acts_269 : decode cL_acts 269 = .ok (.iconst 1, 1) := by decide +kernel
theorem dL_acts_270 : decode cL_acts 270 = .ok (.dup2, 1) := by decide +kernel
theorem dL_acts_271 : decode cL_acts 271 = .ok (.iaload, 1) := by decide +kernel
theorem dL_acts_272 : decode cL_acts 272 = .ok (.iconst 1, 1) := by decide +kernel
theorem dL_acts_273 : decode cL_acts 273 = .ok (.iadd, 1) := by decide +kernel
theorem dL_acts_274 : decode cL_acts 274 = .ok (.iastore, 1) := by decide +kernel
theorem dL_acts_275 : decode cL_acts 275 = .ok (.aload_n 0, 1) := by decide +kernel
theorem dL_acts_276 : decode cL_acts 276 = .ok (.iload 11, 2) := by decide +kernel
theorem dL_acts_278 : decode cL_acts 278 = .ok (.iload 12, 2) := by decide +kernel
theorem dL_acts_280 : decode cL_acts 280 = .ok (.invokestatic 152, 3) := by decide +kernel
theorem dL_acts_283 : decode cL_acts 283 = .ok (.iload 13, 2) := by decide +kernel
theorem dL_acts_285 : decode cL_acts 285 = .ok (.if_icmp .ne 44, 3) := by decide +kernel
theorem dL_acts_288 : decode cL_acts 288 = .ok (.aload_n 1, 1) := by decide +kernel
theorem dL_acts_289 : decode cL_acts 289 = .ok (.iload 11, 2) := by decide +kernel
theorem dL_acts_291 : decode cL_acts 291 = .ok (.iload 12, 2) := by decide +kernel
theorem dL_acts_293 : decode cL_acts 293 = .ok (.invokestatic 152, 3) := by decide +kernel
theorem dL_acts_296 : decode cL_acts 296 = .ok (.iload 13, 2) := by decide +kernel
theorem dL_acts_298 : decode cL_acts 298 = .ok (.if_icmp .ne 31, 3) := by decide +kernel
theorem dL_acts_301 : decode cL_acts 301 = .ok (.aload_n 0, 1) := by decide +kernel
theorem dL_acts_302 : decode cL_acts 302 = .ok (.bipush (-2), 2) := by decide +kernel
theorem dL_acts_304 : decode cL_acts 304 = .ok (.iconst 0, 1) := by decide +kernel
theorem dL_acts_305 : decode cL_acts 305 = .ok (.invokestatic 152, 3) := by decide +kernel
theorem dL_acts_308 : decode cL_acts 308 = .ok (.ldc 28, 2) := by decide +kernel
theorem dL_acts_310 : decode cL_acts 310 = .ok (.if_icmp .ne 19, 3) := by decide +kernel
theorem dL_acts_313 : decode cL_acts 313 = .ok (.aload_n 0, 1) := by decide +kernel
theorem dL_acts_314 : decode cL_acts 314 = .ok (.iconst (-1), 1) := by decide +kernel
theorem dL_acts_315 : decode cL_acts 315 = .ok (.bipush 100, 2) := by decide +kernel
theorem dL_acts_317 : decode cL_acts 317 = .ok (.invokestatic 152, 3) := by decide +kernel
theorem dL_acts_320 : decode cL_acts 320 = .ok (.ldc 18, 2) := by decide +kernel
theorem dL_acts_322 : decode cL_acts 322 = .ok (.if_icmp .ne 7, 3) := by decide +kernel
theorem dL_acts_325 : decode cL_acts 325 = .ok (.iconst 1, 1) := by decide +kernel
theorem dL_acts_326 : decode cL_acts 326 = .ok (.goto 4, 3) := by decide +kernel
theorem dL_acts_329 : decode cL_acts 329 = .ok (.iconst 0, 1) := by decide +kernel
theorem dL_acts_330 : decode cL_acts 330 = .ok (.ireturn, 1) := by decide +kernel
theorem dL_acts_331 : decode cL_acts 331 = .ok (.iload 8, 2) := by decide +kernel
theorem dL_acts_333 : decode cL_acts 333 = .ok (.aload 6, 2) := by decide +kernel
theorem dL_acts_335 : decode cL_acts 335 = .ok (.iconst 0, 1) := by decide +kernel
theorem dL_acts_336 : decode cL_acts 336 = .ok (.iaload, 1) := by decide +kernel
theorem dL_acts_337 : decode cL_acts 337 = .ok (.invokestatic 147, 3) := by decide +kernel
theorem dL_acts_340 : decode cL_acts 340 = .ok (.istore 10, 2) := by decide +kernel
theorem dL_acts_342 : decode cL_acts 342 = .ok (.iload 7, 2) := by decide +kernel
theorem dL_acts_344 : decode cL_acts 344 = .ok (.iconst 5, 1) := by decide +kernel
theorem dL_acts_345 : decode cL_acts 345 = .ok (.ishr, 1) := by decide +kernel
theorem dL_acts_346 : decode cL_acts 346 = .ok (.aload 6, 2) := by decide +kernel
theorem dL_acts_348 : decode cL_acts 348 = .ok (.iconst 1, 1) := by decide +kernel
theorem dL_acts_349 : decode cL_acts 349 = .ok (.iaload, 1) := by decide +kernel
theorem dL_acts_350 : decode cL_acts 350 = .ok (.invokestatic 147, 3) := by decide +kernel
theorem dL_acts_353 : decode cL_acts 353 = .ok (.istore 11, 2) := by decide +kernel
theorem dL_acts_355 : decode cL_acts 355 = .ok (.aload 6, 2) := by decide +kernel
theorem dL_acts_357 : decode cL_acts 357 = .ok (.iconst 2, 1) := by decide +kernel
theorem dL_acts_358 : decode cL_acts 358 = .ok (.iaload, 1) := by decide +kernel
theorem dL_acts_359 : decode cL_acts 359 = .ok (.ifCond .eq 18, 3) := by decide +kernel
theorem dL_acts_362 : decode cL_acts 362 = .ok (.iload 9, 2) := by decide +kernel
theorem dL_acts_364 : decode cL_acts 364 = .ok (.iconst 4, 1) := by decide +kernel
theorem dL_acts_365 : decode cL_acts 365 = .ok (.if_icmp .ge 185, 3) := by decide +kernel
theorem dL_acts_368 : decode cL_acts 368 = .ok (.aload 6, 2) := by decide +kernel
theorem dL_acts_370 : decode cL_acts 370 = .ok (.iconst 2, 1) := by decide +kernel
theorem dL_acts_371 : decode cL_acts 371 = .ok (.iaload, 1) := by decide +kernel
theorem dL_acts_372 : decode cL_acts 372 = .ok (.bipush 16, 2) := by decide +kernel
theorem dL_acts_374 : decode cL_acts 374 = .ok (.if_icmp .ge 176, 3) := by decide +kernel
theorem dL_acts_377 : decode cL_acts 377 = .ok (.iconst 1, 1) := by decide +kernel
theorem dL_acts_378 : decode cL_acts 378 = .ok (.iload 8, 2) := by decide +kernel
theorem dL_acts_380 : decode cL_acts 380 = .ok (.iconst 4, 1) := by decide +kernel
theorem dL_acts_381 : decode cL_acts 381 = .ok (.ishr, 1) := by decide +kernel
theorem dL_acts_382 : decode cL_acts 382 = .ok (.iload 7, 2) := by decide +kernel
theorem dL_acts_384 : decode cL_acts 384 = .ok (.bipush 8, 2) := by decide +kernel
theorem dL_acts_386 : decode cL_acts 386 = .ok (.ishr, 1) := by decide +kernel
theorem dL_acts_387 : decode cL_acts 387 = .ok (.iconst 3, 1) := by decide +kernel
theorem dL_acts_388 : decode cL_acts 388 = .ok (.invokestatic 147, 3) := by decide +kernel
theorem dL_acts_391 : decode cL_acts 391 = .ok (.ifCond .ne 8, 3) := by decide +kernel
theorem dL_acts_394 : decode cL_acts 394 = .ok (.ldc 117, 2) := by decide +kernel
theorem dL_acts_396 : decode cL_acts 396 = .ok (.goto 6, 3) := by decide +kernel
theorem dL_acts_399 : decode cL_acts 399 = .ok (.sipush 500, 3) := by decide +kernel
theorem dL_acts_402 : decode cL_acts 402 = .ok (.invokestatic 147, 3) := by decide +kernel
theorem dL_acts_405 : decode cL_acts 405 = .ok (.iadd, 1) := by decide +kernel
theorem dL_acts_406 : decode cL_acts 406 = .ok (.istore 12, 2) := by decide +kernel
theorem dL_acts_408 : decode cL_acts 408 = .ok (.iconst 4, 1) := by decide +kernel
theorem dL_acts_409 : decode cL_acts 409 = .ok (.aload 6, 2) := by decide +kernel
theorem dL_acts_411 : decode cL_acts 411 = .ok (.iconst 2, 1) := by decide +kernel
theorem dL_acts_412 : decode cL_acts 412 = .ok (.iaload, 1) := by decide +kernel
theorem dL_acts_413 : decode cL_acts 413 = .ok (.imul, 1) := by decide +kernel
theorem dL_acts_414 : decode cL_acts 414 = .ok (.istore 13, 2) := by decide +kernel
theorem dL_acts_416 : decode cL_acts 416 = .ok (.aload 4, 2) := by decide +kernel
theorem dL_acts_418 : decode cL_acts 418 = .ok (.iload 13, 2) := by decide +kernel
theorem dL_acts_420 : decode cL_acts 420 = .ok (.iload 12, 2) := by decide +kernel
theorem dL_acts_422 : decode cL_acts 422 = .ok (.iastore, 1) := by decide +kernel
theorem dL_acts_423 : decode cL_acts 423 = .ok (.aload 4, 2) := by decide +kernel
theorem dL_acts_425 : decode cL_acts 425 = .ok (.iload 13, 2) := by decide +kernel
theorem dL_acts_427 : decode cL_acts 427 = .ok (.iconst 1, 1) := by decide +kernel
theorem dL_acts_428 : decode cL_acts 428 = .ok (.iadd, 1) := by decide +kernel
theorem dL_acts_429 : decode cL_acts 429 = .ok (.iload 10, 2) := by decide +kernel
theorem dL_acts_431 : decode cL_acts 431 = .ok (.iastore, 1) := by decide +kernel
theorem dL_acts_432 : decode cL_acts 432 = .ok (.aload 4, 2) := by decide +kernel
theorem dL_acts_434 : decode cL_acts 434 = .ok (.iload 13, 2) := by decide +kernel
theorem dL_acts_436 : decode cL_acts 436 = .ok (.iconst 2, 1) := by decide +kernel
theorem dL_acts_437 : decode cL_acts 437 = .ok (.iadd, 1) := by decide +kernel
theorem dL_acts_438 : decode cL_acts 438 = .ok (.aload 6, 2) := by decide +kernel
theorem dL_acts_440 : decode cL_acts 440 = .ok (.bipush 6, 2) := by decide +kernel
theorem dL_acts_442 : decode cL_acts 442 = .ok (.iaload, 1) := by decide +kernel
theorem dL_acts_443 : decode cL_acts 443 = .ok (.iastore, 1) := by decide +kernel
theorem dL_acts_444 : decode cL_acts 444 = .ok (.aload 4, 2) := by decide +kernel
theorem dL_acts_446 : decode cL_acts 446 = .ok (.iload 13, 2) := by decide +kernel
theorem dL_acts_448 : decode cL_acts 448 = .ok (.iconst 3, 1) := by decide +kernel
theorem dL_acts_449 : decode cL_acts 449 = .ok (.iadd, 1) := by decide +kernel
theorem dL_acts_450 : decode cL_acts 450 = .ok (.iconst (-1), 1) := by decide +kernel
theorem dL_acts_451 : decode cL_acts 451 = .ok (.iastore, 1) := by decide +kernel
theorem dL_acts_452 : decode cL_acts 452 = .ok (.aload 6, 2) := by decide +kernel
theorem dL_acts_454 : decode cL_acts 454 = .ok (.iconst 2, 1) := by decide +kernel
theorem dL_acts_455 : decode cL_acts 455 = .ok (.dup2, 1) := by decide +kernel
theorem dL_acts_456 : decode cL_acts 456 = .ok (.iaload, 1) := by decide +kernel
theorem dL_acts_457 : decode cL_acts 457 = .ok (.iconst 1, 1) := by decide +kernel
theorem dL_acts_458 : decode cL_acts 458 = .ok (.iadd, 1) := by decide +kernel
theorem dL_acts_459 : decode cL_acts 459 = .ok (.iastore, 1) := by decide +kernel
theorem dL_acts_460 : decode cL_acts 460 = .ok (.aload_n 0, 1) := by decide +kernel
theorem dL_acts_461 : decode cL_acts 461 = .ok (.iload 10, 2) := by decide +kernel
theorem dL_acts_463 : decode cL_acts 463 = .ok (.iload 11, 2) := by decide +kernel
theorem dL_acts_465 : decode cL_acts 465 = .ok (.iload 12, 2) := by decide +kernel
theorem dL_acts_467 : decode cL_acts 467 = .ok (.invokestatic 154, 3) := by decide +kernel
theorem dL_acts_470 : decode cL_acts 470 = .ok (.aload 6, 2) := by decide +kernel
theorem dL_acts_472 : decode cL_acts 472 = .ok (.iconst 2, 1) := by decide +kernel
theorem dL_acts_473 : decode cL_acts 473 = .ok (.iaload, 1) := by decide +kernel
theorem dL_acts_474 : decode cL_acts 474 = .ok (.iconst 1, 1) := by decide +kernel
theorem dL_acts_475 : decode cL_acts 475 = .ok (.isub, 1) := by decide +kernel
theorem dL_acts_476 : decode cL_acts 476 = .ok (.if_icmp .ne 72, 3) := by decide +kernel
theorem dL_acts_479 : decode cL_acts 479 = .ok (.aload_n 1, 1) := by decide +kernel
theorem dL_acts_480 : decode cL_acts 480 = .ok (.iload 10, 2) := by decide +kernel
theorem dL_acts_482 : decode cL_acts 482 = .ok (.iload 11, 2) := by decide +kernel
theorem dL_acts_484 : decode cL_acts 484 = .ok (.iload 12, 2) := by decide +kernel
theorem dL_acts_486 : decode cL_acts 486 = .ok (.invokestatic 154, 3) := by decide +kernel
theorem dL_acts_489 : decode cL_acts 489 = .ok (.aload 6, 2) := by decide +kernel
theorem dL_acts_491 : decode cL_acts 491 = .ok (.iconst 2, 1) := by decide +kernel
theorem dL_acts_492 : decode cL_acts 492 = .ok (.iaload, 1) := by decide +kernel
theorem dL_acts_493 : decode cL_acts 493 = .ok (.iconst 1, 1) := by decide +kernel
theorem dL_acts_494 : decode cL_acts 494 = .ok (.isub, 1) := by decide +kernel
theorem dL_acts_495 : decode cL_acts 495 = .ok (.if_icmp .ne 53, 3) := by decide +kernel
theorem dL_acts_498 : decode cL_acts 498 = .ok (.aload_n 0, 1) := by decide +kernel
theorem dL_acts_499 : decode cL_acts 499 = .ok (.iload 10, 2) := by decide +kernel
theorem dL_acts_501 : decode cL_acts 501 = .ok (.iload 11, 2) := by decide +kernel
theorem dL_acts_503 : decode cL_acts 503 = .ok (.iconst 0, 1) := by decide +kernel
theorem dL_acts_504 : decode cL_acts 504 = .ok (.invokestatic 154, 3) := by decide +kernel
theorem dL_acts_507 : decode cL_acts 507 = .ok (.ldc 18, 2) := by decide +kernel
theorem dL_acts_509 : decode cL_acts 509 = .ok (.if_icmp .ne 39, 3) := by decide +kernel
theorem dL_acts_512 : decode cL_acts 512 = .ok (.aload_n 0, 1) := by decide +kernel
theorem dL_acts_513 : decode cL_acts 513 = .ok (.iload 10, 2) := by decide +kernel
theorem dL_acts_515 : decode cL_acts 515 = .ok (.aload 6, 2) := by decide +kernel
theorem dL_acts_517 : decode cL_acts 517 = .ok (.iconst 1, 1) := by decide +kernel
theorem dL_acts_518 : decode cL_acts 518 = .ok (.iaload, 1) := by decide +kernel
theorem dL_acts_519 : decode cL_acts 519 = .ok (.iconst 1, 1) := by decide +kernel
theorem dL_acts_520 : decode cL_acts 520 = .ok (.invokestatic 154, 3) := by decide +kernel
theorem dL_acts_523 : decode cL_acts 523 = .ok (.ldc 28, 2) := by decide +kernel
theorem dL_acts_525 : decode cL_acts 525 = .ok (.if_icmp .ne 23, 3) := by decide +kernel
theorem dL_acts_528 : decode cL_acts 528 = .ok (.aload_n 0, 1) := by decide +kernel
theorem dL_acts_529 : decode cL_acts 529 = .ok (.aload 6, 2) := by decide +kernel
theorem dL_acts_531 : decode cL_acts 531 = .ok (.iconst 0, 1) := by decide +kernel
theorem dL_acts_532 : decode cL_acts 532 = .ok (.iaload, 1) := by decide +kernel
theorem dL_acts_533 : decode cL_acts 533 = .ok (.iload 11, 2) := by decide +kernel
theorem dL_acts_535 : decode cL_acts 535 = .ok (.iconst 0, 1) := by decide +kernel
theorem dL_acts_536 : decode cL_acts 536 = .ok (.invokestatic 154, 3) := by decide +kernel
theorem dL_acts_539 : decode cL_acts 539 = .ok (.ldc 28, 2) := by decide +kernel
theorem dL_acts_541 : decode cL_acts 541 = .ok (.if_icmp .ne 7, 3) := by decide +kernel
theorem dL_acts_544 : decode cL_acts 544 = .ok (.iconst 1, 1) := by decide +kernel
theorem dL_acts_545 : decode cL_acts 545 = .ok (.goto 4, 3) := by decide +kernel
theorem dL_acts_548 : decode cL_acts 548 = .ok (.iconst 0, 1) := by decide +kernel
theorem dL_acts_549 : decode cL_acts 549 = .ok (.ireturn, 1) := by decide +kernel
theorem dL_acts_550 : decode cL_acts 550 = .ok (.iload 8, 2) := by decide +kernel
theorem dL_acts_552 : decode cL_acts 552 = .ok (.iconst 4, 1) := by decide +kernel
theorem dL_acts_553 : decode cL_acts 553 = .ok (.ishr, 1) := by decide +kernel
theorem dL_acts_554 : decode cL_acts 554 = .ok (.aload 6, 2) := by decide +kernel
theorem dL_acts_556 : decode cL_acts 556 = .ok (.iconst 2, 1) := by decide +kernel
theorem dL_acts_557 : decode cL_acts 557 = .ok (.iaload, 1) := by decide +kernel
theorem dL_acts_558 : decode cL_acts 558 = .ok (.invokestatic 147, 3) := by decide +kernel
theorem dL_acts_561 : decode cL_acts 561 = .ok (.istore 12, 2) := by decide +kernel
theorem dL_acts_563 : decode cL_acts 563 = .ok (.iload 9, 2) := by decide +kernel
theorem dL_acts_565 : decode cL_acts 565 = .ok (.bipush 7, 2) := by decide +kernel
theorem dL_acts_567 : decode cL_acts 567 = .ok (.if_icmp .ge 306, 3) := by decide +kernel
theorem dL_acts_570 : decode cL_acts 570 = .ok (.iload 8, 2) := by decide +kernel
theorem dL_acts_572 : decode cL_acts 572 = .ok (.bipush 8, 2) := by decide +kernel
theorem dL_acts_574 : decode cL_acts 574 = .ok (.ishr, 1) := by decide +kernel
theorem dL_acts_575 : decode cL_acts 575 = .ok (.aload 6, 2) := by decide +kernel
theorem dL_acts_577 : decode cL_acts 577 = .ok (.iconst 4, 1) := by decide +kernel
theorem dL_acts_578 : decode cL_acts 578 = .ok (.iaload, 1) := by decide +kernel
theorem dL_acts_579 : decode cL_acts 579 = .ok (.iconst 1, 1) := by decide +kernel
theorem dL_acts_580 : decode cL_acts 580 = .ok (.iadd, 1) := by decide +kernel
theorem dL_acts_581 : decode cL_acts 581 = .ok (.invokestatic 147, 3) := by decide +kernel
theorem dL_acts_584 : decode cL_acts 584 = .ok (.istore 13, 2) := by decide +kernel
theorem dL_acts_586 : decode cL_acts 586 = .ok (.iload 8, 2) := by decide +kernel
theorem dL_acts_588 : decode cL_acts 588 = .ok (.bipush 12, 2) := by decide +kernel
theorem dL_acts_590 : decode cL_acts 590 = .ok (.ishr, 1) := by decide +kernel
theorem dL_acts_591 : decode cL_acts 591 = .ok (.bipush 10, 2) := by decide +kernel
theorem dL_acts_593 : decode cL_acts 593 = .ok (.invokestatic 147, 3) := by decide +kernel
theorem dL_acts_596 : decode cL_acts 596 = .ok (.istore 14, 2) := by decide +kernel
theorem dL_acts_598 : decode cL_acts 598 = .ok (.iload 14, 2) := by decide +kernel
theorem dL_acts_600 : decode cL_acts 600 = .ok (.iload 8, 2) := by decide +kernel
theorem dL_acts_602 : decode cL_acts 602 = .ok (.bipush 16, 2) := by decide +kernel
theorem dL_acts_604 : decode cL_acts 604 = .ok (.ishr, 1) := by decide +kernel
theorem dL_acts_605 : decode cL_acts 605 = .ok (.bipush 10, 2) := by decide +kernel
theorem dL_acts_607 : decode cL_acts 607 = .ok (.iload 14, 2) := by decide +kernel
theorem dL_acts_609 : decode cL_acts 609 = .ok (.isub, 1) := by decide +kernel
theorem dL_acts_610 : decode cL_acts 610 = .ok (.invokestatic 147, 3) := by decide +kernel
theorem dL_acts_613 : decode cL_acts 613 = .ok (.iadd, 1) := by decide +kernel
theorem dL_acts_614 : decode cL_acts 614 = .ok (.istore 15, 2) := by decide +kernel
theorem dL_acts_616 : decode cL_acts 616 = .ok (.aload 6, 2) := by decide +kernel
theorem dL_acts_618 : decode cL_acts 618 = .ok (.iconst 4, 1) := by decide +kernel
theorem dL_acts_619 : decode cL_acts 619 = .ok (.iaload, 1) := by decide +kernel
theorem dL_acts_620 : decode cL_acts 620 = .ok (.bipush 8, 2) := by decide +kernel
theorem dL_acts_622 : decode cL_acts 622 = .ok (.if_icmp .ge 12, 3) := by decide +kernel
theorem dL_acts_625 : decode cL_acts 625 = .ok (.aload 6, 2) := by decide +kernel
theorem dL_acts_627 : decode cL_acts 627 = .ok (.iconst 4, 1) := by decide +kernel
theorem dL_acts_628 : decode cL_acts 628 = .ok (.iaload, 1) := by decide +kernel
theorem dL_acts_629 : decode cL_acts 629 = .ok (.iconst 1, 1) := by decide +kernel
theorem dL_acts_630 : decode cL_acts 630 = .ok (.iadd, 1) := by decide +kernel
theorem dL_acts_631 : decode cL_acts 631 = .ok (.goto 5, 3) := by decide +kernel
theorem dL_acts_634 : decode cL_acts 634 = .ok (.ldc 21, 2) := by decide +kernel
theorem dL_acts_636 : decode cL_acts 636 = .ok (.istore 16, 2) := by decide +kernel
theorem dL_acts_638 : decode cL_acts 638 = .ok (.iload 8, 2) := by decide +kernel
theorem dL_acts_640 : decode cL_acts 640 = .ok (.iconst 3, 1) := by decide +kernel
theorem dL_acts_641 : decode cL_acts 641 = .ok (.invokestatic 147, 3) := by decide +kernel
theorem dL_acts_644 : decode cL_acts 644 = .ok (.ifCond .ne 93, 3) := by decide +kernel
theorem dL_acts_647 : decode cL_acts 647 = .ok (.aload 6, 2) := by decide +kernel
theorem dL_acts_649 : decode cL_acts 649 = .ok (.iconst 4, 1) := by decide +kernel
theorem dL_acts_650 : decode cL_acts 650 = .ok (.iaload, 1) := by decide +kernel
theorem dL_acts_651 : decode cL_acts 651 = .ok (.ifCond .le 86, 3) := by decide +kernel
theorem dL_acts_654 : decode cL_acts 654 = .ok (.aload 6, 2) := by decide +kernel
theorem dL_acts_656 : decode cL_acts 656 = .ok (.iconst 4, 1) := by decide +kernel
theorem dL_acts_657 : decode cL_acts 657 = .ok (.dup2, 1) := by decide +kernel
theorem dL_acts_658 : decode cL_acts 658 = .ok (.iaload, 1) := by decide +kernel
theorem dL_acts_659 : decode cL_acts 659 = .ok (.iconst 1, 1) := by decide +kernel
theorem dL_acts_660 : decode cL_acts 660 = .ok (.isub, 1) := by decide +kernel
theorem dL_acts_661 : decode cL_acts 661 = .ok (.iastore, 1) := by decide +kernel
theorem dL_acts_662 : decode cL_acts 662 = .ok (.aload_n 0, 1) := by decide +kernel
theorem dL_acts_663 : decode cL_acts 663 = .ok (.iload 13, 2) := by decide +kernel
theorem dL_acts_665 : decode cL_acts 665 = .ok (.aload 6, 2) := by decide +kernel
theorem dL_acts_667 : decode cL_acts 667 = .ok (.iconst 4, 1) := by decide +kernel
theorem dL_acts_668 : decode cL_acts 668 = .ok (.iaload, 1) := by decide +kernel
theorem dL_acts_669 : decode cL_acts 669 = .ok (.iconst 1, 1) := by decide +kernel
theorem dL_acts_670 : decode cL_acts 670 = .ok (.iadd, 1) := by decide +kernel
theorem dL_acts_671 : decode cL_acts 671 = .ok (.if_icmp .ne 7, 3) := by decide +kernel
theorem dL_acts_674 : decode cL_acts 674 = .ok (.iconst 0, 1) := by decide +kernel
theorem dL_acts_675 : decode cL_acts 675 = .ok (.goto 5, 3) := by decide +kernel
theorem dL_acts_678 : decode cL_acts 678 = .ok (.iload 13, 2) := by decide +kernel
theorem dL_acts_680 : decode cL_acts 680 = .ok (.invokestatic 156, 3) := by decide +kernel
theorem dL_acts_683 : decode cL_acts 683 = .ok (.aload 6, 2) := by decide +kernel
theorem dL_acts_685 : decode cL_acts 685 = .ok (.iconst 4, 1) := by decide +kernel
theorem dL_acts_686 : decode cL_acts 686 = .ok (.iaload, 1) := by decide +kernel
theorem dL_acts_687 : decode cL_acts 687 = .ok (.if_icmp .ne 48, 3) := by decide +kernel
theorem dL_acts_690 : decode cL_acts 690 = .ok (.aload_n 1, 1) := by decide +kernel
theorem dL_acts_691 : decode cL_acts 691 = .ok (.iload 13, 2) := by decide +kernel
theorem dL_acts_693 : decode cL_acts 693 = .ok (.aload 6, 2) := by decide +kernel
theorem dL_acts_695 : decode cL_acts 695 = .ok (.iconst 4, 1) := by decide +kernel
