theorem dL_conkers_63 : decode cL_conkers 63 = .ok (.iaload, 1) := by decide +kernel
theorem dL_conkers_64 : decode cL_conkers 64 = .ok (.iconst 1, 1) := by decide +kernel
theorem dL_conkers_65 : decode cL_conkers 65 = .ok (.iadd, 1) := by decide +kernel
theorem dL_conkers_66 : decode cL_conkers 66 = .ok (.iastore, 1) := by decide +kernel
theorem dL_conkers_67 : decode cL_conkers 67 = .ok (.iload_n 2, 1) := by decide +kernel
theorem dL_conkers_68 : decode cL_conkers 68 = .ok (.aload_n 0, 1) := by decide +kernel
theorem dL_conkers_69 : decode cL_conkers 69 = .ok (.iload 7, 2) := by decide +kernel
theorem dL_conkers_71 : decode cL_conkers 71 = .ok (.iconst 4, 1) := by decide +kernel
theorem dL_conkers_72 : decode cL_conkers 72 = .ok (.invokevirtual 51, 3) := by decide +kernel
theorem dL_conkers_75 : decode cL_conkers 75 = .ok (.iadd, 1) := by decide +kernel
theorem dL_conkers_76 : decode cL_conkers 76 = .ok (.istore_n 2, 1) := by decide +kernel
theorem dL_conkers_77 : decode cL_conkers 77 = .ok (.iload_n 3, 1) := by decide +kernel
theorem dL_conkers_78 : decode cL_conkers 78 = .ok (.iload 10, 2) := by decide +kernel
theorem dL_conkers_80 : decode cL_conkers 80 = .ok (.bipush (-5), 2) := by decide +kernel
theorem dL_conkers_82 : decode cL_conkers 82 = .ok (.if_icmp .ne 7, 3) := by decide +kernel
theorem dL_conkers_85 : decode cL_conkers 85 = .ok (.iconst 0, 1) := by decide +kernel
theorem dL_conkers_86 : decode cL_conkers 86 = .ok (.goto 4, 3) := by decide +kernel
theorem dL_conkers_89 : decode cL_conkers 89 = .ok (.iconst 1, 1) := by decide +kernel
theorem dL_conkers_90 : decode cL_conkers 90 = .ok (.iadd, 1) := by decide +kernel
theorem dL_conkers_91 : decode cL_conkers 91 = .ok (.istore_n 3, 1) := by decide +kernel
theorem dL_conkers_92 : decode cL_conkers 92 = .ok (.iload 4, 2) := by decide +kernel
theorem dL_conkers_94 : decode cL_conkers 94 = .ok (.iload 10, 2) := by decide +kernel
theorem dL_conkers_96 : decode cL_conkers 96 = .ok (.aload_n 0, 1) := by decide +kernel
theorem dL_conkers_97 : decode cL_conkers 97 = .ok (.iload 7, 2) := by decide +kernel
theorem dL_conkers_99 : decode cL_conkers 99 = .ok (.iconst 4, 1) := by decide +kernel
theorem dL_conkers_100 : decode cL_conkers 100 = .ok (.invokevirtual 51, 3) := by decide +kernel
theorem dL_conkers_103 : decode cL_conkers 103 = .ok (.if_icmp .le 7, 3) := by decide +kernel
theorem dL_conkers_106 : decode cL_conkers 106 = .ok (.iconst 1, 1) := by decide +kernel
theorem dL_conkers_107 : decode cL_conkers 107 = .ok (.goto 4, 3) := by decide +kernel
theorem dL_conkers_110 : decode cL_conkers 110 = .ok (.iconst 0, 1) := by decide +kernel
theorem dL_conkers_111 : decode cL_conkers 111 = .ok (.iadd, 1) := by decide +kernel
theorem dL_conkers_112 : decode cL_conkers 112 = .ok (.istore 4, 2) := by decide +kernel
theorem dL_conkers_114 : decode cL_conkers 114 = .ok (.iload 5, 2) := by decide +kernel
theorem dL_conkers_116 : decode cL_conkers 116 = .ok (.iload 9, 2) := by decide +kernel
theorem dL_conkers_118 : decode cL_conkers 118 = .ok (.bipush (-5), 2) := by decide +kernel
theorem dL_conkers_120 : decode cL_conkers 120 = .ok (.if_icmp .ne 7, 3) := by decide +kernel
theorem dL_conkers_123 : decode cL_conkers 123 = .ok (.iconst 0, 1) := by decide +kernel
theorem dL_conkers_124 : decode cL_conkers 124 = .ok (.goto 4, 3) := by decide +kernel
theorem dL_conkers_127 : decode cL_conkers 127 = .ok (.iconst 1, 1) := by decide +kernel
theorem dL_conkers_128 : decode cL_conkers 128 = .ok (.iadd, 1) := by decide +kernel
theorem dL_conkers_129 : decode cL_conkers 129 = .ok (.istore 5, 2) := by decide +kernel
theorem dL_conkers_131 : decode cL_conkers 131 = .ok (.iload 6, 2) := by decide +kernel
theorem dL_conkers_133 : decode cL_conkers 133 = .ok (.aload_n 0, 1) := by decide +kernel
theorem dL_conkers_134 : decode cL_conkers 134 = .ok (.iload 7, 2) := by decide +kernel
theorem dL_conkers_136 : decode cL_conkers 136 = .ok (.bipush 8, 2) := by decide +kernel
theorem dL_conkers_138 : decode cL_conkers 138 = .ok (.invokevirtual 51, 3) := by decide +kernel
theorem dL_conkers_141 : decode cL_conkers 141 = .ok (.iadd, 1) := by decide +kernel
theorem dL_conkers_142 : decode cL_conkers 142 = .ok (.istore 6, 2) := by decide +kernel
theorem dL_conkers_144 : decode cL_conkers 144 = .ok (.iconst 0, 1) := by decide +kernel
theorem dL_conkers_145 : decode cL_conkers 145 = .ok (.istore 11, 2) := by decide +kernel
theorem dL_conkers_147 : decode cL_conkers 147 = .ok (.iconst 0, 1) := by decide +kernel
theorem dL_conkers_148 : decode cL_conkers 148 = .ok (.istore 12, 2) := by decide +kernel
theorem dL_conkers_150 : decode cL_conkers 150 = .ok (.iload 12, 2) := by decide +kernel
theorem dL_conkers_152 : decode cL_conkers 152 = .ok (.aload_n 0, 1) := by decide +kernel
theorem dL_conkers_153 : decode cL_conkers 153 = .ok (.iconst 0, 1) := by decide +kernel
theorem dL_conkers_154 : decode cL_conkers 154 = .ok (.invokevirtual 48, 3) := by decide +kernel
theorem dL_conkers_157 : decode cL_conkers 157 = .ok (.if_icmp .ge 39, 3) := by decide +kernel
theorem dL_conkers_160 : decode cL_conkers 160 = .ok (.iload 11, 2) := by decide +kernel
theorem dL_conkers_162 : decode cL_conkers 162 = .ok (.aload_n 0, 1) := by decide +kernel
theorem dL_conkers_163 : decode cL_conkers 163 = .ok (.iload 12, 2) := by decide +kernel
theorem dL_conkers_165 : decode cL_conkers 165 = .ok (.bipush 7, 2) := by decide +kernel
theorem dL_conkers_167 : decode cL_conkers 167 = .ok (.invokevirtual 51, 3) := by decide +kernel
theorem dL_conkers_170 : decode cL_conkers 170 = .ok (.iload 7, 2) := by decide +kernel
theorem dL_conkers_172 : decode cL_conkers 172 = .ok (.if_icmp .ne 14, 3) := by decide +kernel
theorem dL_conkers_175 : decode cL_conkers 175 = .ok (.iconst 1, 1) := by decide +kernel
theorem dL_conkers_176 : decode cL_conkers 176 = .ok (.aload_n 0, 1) := by decide +kernel
theorem dL_conkers_177 : decode cL_conkers 177 = .ok (.iload 12, 2) := by decide +kernel
theorem dL_conkers_179 : decode cL_conkers 179 = .ok (.invokevirtual 54, 3) := by decide +kernel
theorem dL_conkers_182 : decode cL_conkers 182 = .ok (.iadd, 1) := by decide +kernel
theorem dL_conkers_183 : decode cL_conkers 183 = .ok (.goto 4, 3) := by decide +kernel
theorem dL_conkers_186 : decode cL_conkers 186 = .ok (.iconst 0, 1) := by decide +kernel
theorem dL_conkers_187 : decode cL_conkers 187 = .ok (.iadd, 1) := by decide +kernel
theorem dL_conkers_188 : decode cL_conkers 188 = .ok (.istore 11, 2) := by decide +kernel
theorem dL_conkers_190 : decode cL_conkers 190 = .ok (.iinc 12 1, 3) := by decide +kernel
theorem dL_conkers_193 : decode cL_conkers 193 = .ok (.goto (-43), 3) := by decide +kernel
theorem dL_conkers_196 : decode cL_conkers 196 = .ok (.iload 8, 2) := by decide +kernel
theorem dL_conkers_198 : decode cL_conkers 198 = .ok (.iconst 2, 1) := by decide +kernel
theorem dL_conkers_199 : decode cL_conkers 199 = .ok (.if_icmp .ne 23, 3) := by decide +kernel
theorem dL_conkers_202 : decode cL_conkers 202 = .ok (.aload_n 0, 1) := by decide +kernel
theorem dL_conkers_203 : decode cL_conkers 203 = .ok (.iload 7, 2) := by decide +kernel
theorem dL_conkers_205 : decode cL_conkers 205 = .ok (.iconst 4, 1) := by decide +kernel
theorem dL_conkers_206 : decode cL_conkers 206 = .ok (.invokevirtual 51, 3) := by decide +kernel
theorem dL_conkers_209 : decode cL_conkers 209 = .ok (.ifCond .ne 32, 3) := by decide +kernel
theorem dL_conkers_212 : decode cL_conkers 212 = .ok (.iload 10, 2) := by decide +kernel
theorem dL_conkers_214 : decode cL_conkers 214 = .ok (.bipush (-5), 2) := by decide +kernel
theorem dL_conkers_216 : decode cL_conkers 216 = .ok (.if_icmp .eq 27, 3) := by decide +kernel
theorem dL_conkers_219 : decode cL_conkers 219 = .ok (.goto 22, 3) := by decide +kernel
theorem dL_conkers_222 : decode cL_conkers 222 = .ok (.iload 9, 2) := by decide +kernel
theorem dL_conkers_224 : decode cL_conkers 224 = .ok (.bipush (-5), 2) := by decide +kernel
theorem dL_conkers_226 : decode cL_conkers 226 = .ok (.if_icmp .ne 15, 3) := by decide +kernel
theorem dL_conkers_229 : decode cL_conkers 229 = .ok (.aload_n 0, 1) := by decide +kernel
theorem dL_conkers_230 : decode cL_conkers 230 = .ok (.iload 7, 2) := by decide +kernel
theorem dL_conkers_232 : decode cL_conkers 232 = .ok (.iconst 2, 1) := by decide +kernel
theorem dL_conkers_233 : decode cL_conkers 233 = .ok (.invokevirtual 51, 3) := by decide +kernel
theorem dL_conkers_236 : decode cL_conkers 236 = .ok (.bipush 99, 2) := by decide +kernel
theorem dL_conkers_238 : decode cL_conkers 238 = .ok (.if_icmp .le 5, 3) := by decide +kernel
theorem dL_conkers_241 : decode cL_conkers 241 = .ok (.iconst 0, 1) := by decide +kernel
theorem dL_conkers_242 : decode cL_conkers 242 = .ok (.ireturn, 1) := by decide +kernel
theorem dL_conkers_243 : decode cL_conkers 243 = .ok (.iload 8, 2) := by decide +kernel
theorem dL_conkers_245 : decode cL_conkers 245 = .ok (.ifCond .ne 15, 3) := by decide +kernel
theorem dL_conkers_248 : decode cL_conkers 248 = .ok (.aload_n 0, 1) := by decide +kernel
theorem dL_conkers_249 : decode cL_conkers 249 = .ok (.iload 7, 2) := by decide +kernel
theorem dL_conkers_251 : decode cL_conkers 251 = .ok (.iconst 3, 1) := by decide +kernel
theorem dL_conkers_252 : decode cL_conkers 252 = .ok (.invokevirtual 51, 3) := by decide +kernel
theorem dL_conkers_255 : decode cL_conkers 255 = .ok (.bipush 19, 2) := by decide +kernel
theorem dL_conkers_257 : decode cL_conkers 257 = .ok (.if_icmp .gt 91, 3) := by decide +kernel
theorem dL_conkers_260 : decode cL_conkers 260 = .ok (.iload 8, 2) := by decide +kernel
theorem dL_conkers_262 : decode cL_conkers 262 = .ok (.iconst 1, 1) := by decide +kernel
theorem dL_conkers_263 : decode cL_conkers 263 = .ok (.if_icmp .ne 15, 3) := by decide +kernel
theorem dL_conkers_266 : decode cL_conkers 266 = .ok (.aload_n 0, 1) := by decide +kernel
theorem dL_conkers_267 : decode cL_conkers 267 = .ok (.iload 7, 2) := by decide +kernel
theorem dL_conkers_269 : decode cL_conkers 269 = .ok (.iconst 3, 1) := by decide +kernel
theorem dL_conkers_270 : decode cL_conkers 270 = .ok (.invokevirtual 51, 3) := by decide +kernel
theorem dL_conkers_273 : decode cL_conkers 273 = .ok (.bipush 20, 2) := by decide +kernel
theorem dL_conkers_275 : decode cL_conkers 275 = .ok (.if_icmp .ne 73, 3) := by decide +kernel
theorem dL_conkers_278 : decode cL_conkers 278 = .ok (.aload_n 0, 1) := by decide +kernel
theorem dL_conkers_279 : decode cL_conkers 279 = .ok (.iload 7, 2) := by decide +kernel
theorem dL_conkers_281 : decode cL_conkers 281 = .ok (.iconst 2, 1) := by decide +kernel
theorem dL_conkers_282 : decode cL_conkers 282 = .ok (.invokevirtual 51, 3) := by decide +kernel
theorem dL_conkers_285 : decode cL_conkers 285 = .ok (.bipush 100, 2) := by decide +kernel
theorem dL_conkers_287 : decode cL_conkers 287 = .ok (.if_icmp .gt 61, 3) := by decide +kernel
theorem dL_conkers_290 : decode cL_conkers 290 = .ok (.iload 9, 2) := by decide +kernel
theorem dL_conkers_292 : decode cL_conkers 292 = .ok (.ifCond .lt 32, 3) := by decide +kernel
theorem dL_conkers_295 : decode cL_conkers 295 = .ok (.aload_n 0, 1) := by decide +kernel
theorem dL_conkers_296 : decode cL_conkers 296 = .ok (.iload 9, 2) := by decide +kernel
theorem dL_conkers_298 : decode cL_conkers 298 = .ok (.iconst 0, 1) := by decide +kernel
theorem dL_conkers_299 : decode cL_conkers 299 = .ok (.invokevirtual 51, 3) := by decide +kernel
theorem dL_conkers_302 : decode cL_conkers 302 = .ok (.aload_n 0, 1) := by decide +kernel
theorem dL_conkers_303 : decode cL_conkers 303 = .ok (.iload 7, 2) := by decide +kernel
theorem dL_conkers_305 : decode cL_conkers 305 = .ok (.iconst 0, 1) := by decide +kernel
theorem dL_conkers_306 : decode cL_conkers 306 = .ok (.invokevirtual 51, 3) := by decide +kernel
theorem dL_conkers_309 : decode cL_conkers 309 = .ok (.if_icmp .eq 39, 3) := by decide +kernel
theorem dL_conkers_312 : decode cL_conkers 312 = .ok (.aload_n 0, 1) := by decide +kernel
theorem dL_conkers_313 : decode cL_conkers 313 = .ok (.iload 7, 2) := by decide +kernel
theorem dL_conkers_315 : decode cL_conkers 315 = .ok (.iconst 2, 1) := by decide +kernel
theorem dL_conkers_316 : decode cL_conkers 316 = .ok (.invokevirtual 51, 3) := by decide +kernel
theorem dL_conkers_319 : decode cL_conkers 319 = .ok (.bipush 100, 2) := by decide +kernel
theorem dL_conkers_321 : decode cL_conkers 321 = .ok (.if_icmp .ne 27, 3) := by decide +kernel
theorem dL_conkers_324 : decode cL_conkers 324 = .ok (.aload_n 0, 1) := by decide +kernel
theorem dL_conkers_325 : decode cL_conkers 325 = .ok (.iload 7, 2) := by decide +kernel
theorem dL_conkers_327 : decode cL_conkers 327 = .ok (.invokevirtual 54, 3) := by decide +kernel
theorem dL_conkers_330 : decode cL_conkers 330 = .ok (.iload 11, 2) := by decide +kernel
theorem dL_conkers_332 : decode cL_conkers 332 = .ok (.if_icmp .ne 16, 3) := by decide +kernel
theorem dL_conkers_335 : decode cL_conkers 335 = .ok (.aload_n 0, 1) := by decide +kernel
theorem dL_conkers_336 : decode cL_conkers 336 = .ok (.iload 7, 2) := by decide +kernel
theorem dL_conkers_338 : decode cL_conkers 338 = .ok (.bipush 8, 2) := by decide +kernel
theorem dL_conkers_340 : decode cL_conkers 340 = .ok (.invokevirtual 51, 3) := by decide +kernel
theorem dL_conkers_343 : decode cL_conkers 343 = .ok (.iload 11, 2) := by decide +kernel
theorem dL_conkers_345 : decode cL_conkers 345 = .ok (.if_icmp .le 5, 3) := by decide +kernel
theorem dL_conkers_348 : decode cL_conkers 348 = .ok (.iconst 0, 1) := by decide +kernel
theorem dL_conkers_349 : decode cL_conkers 349 = .ok (.ireturn, 1) := by decide +kernel
theorem dL_conkers_350 : decode cL_conkers 350 = .ok (.iinc 7 1, 3) := by decide +kernel
theorem dL_conkers_353 : decode cL_conkers 353 = .ok (.goto (-333), 3) := by decide +kernel
theorem dL_conkers_356 : decode cL_conkers 356 = .ok (.aload_n 0, 1) := by decide +kernel
theorem dL_conkers_357 : decode cL_conkers 357 = .ok (.iconst 1, 1) := by decide +kernel
theorem dL_conkers_358 : decode cL_conkers 358 = .ok (.invokevirtual 48, 3) := by decide +kernel
theorem dL_conkers_361 : decode cL_conkers 361 = .ok (.aload_n 1, 1) := by decide +kernel
theorem dL_conkers_362 : decode cL_conkers 362 = .ok (.iconst 0, 1) := by decide +kernel
theorem dL_conkers_363 : decode cL_conkers 363 = .ok (.iaload, 1) := by decide +kernel
theorem dL_conkers_364 : decode cL_conkers 364 = .ok (.if_icmp .ne 77, 3) := by decide +kernel
theorem dL_conkers_367 : decode cL_conkers 367 = .ok (.aload_n 0, 1) := by decide +kernel
theorem dL_conkers_368 : decode cL_conkers 368 = .ok (.iconst 2, 1) := by decide +kernel
theorem dL_conkers_369 : decode cL_conkers 369 = .ok (.invokevirtual 48, 3) := by decide +kernel
theorem dL_conkers_372 : decode cL_conkers 372 = .ok (.aload_n 1, 1) := by decide +kernel
theorem dL_conkers_373 : decode cL_conkers 373 = .ok (.iconst 1, 1) := by decide +kernel
theorem dL_conkers_374 : decode cL_conkers 374 = .ok (.iaload, 1) := by decide +kernel
theorem dL_conkers_375 : decode cL_conkers 375 = .ok (.if_icmp .ne 66, 3) := by decide +kernel
theorem dL_conkers_378 : decode cL_conkers 378 = .ok (.aload_n 0, 1) := by decide +kernel
theorem dL_conkers_379 : decode cL_conkers 379 = .ok (.iconst 3, 1) := by decide +kernel
theorem dL_conkers_380 : decode cL_conkers 380 = .ok (.invokevirtual 48, 3) := by decide +kernel
theorem dL_conkers_383 : decode cL_conkers 383 = .ok (.aload_n 1, 1) := by decide +kernel
theorem dL_conkers_384 : decode cL_conkers 384 = .ok (.iconst 2, 1) := by decide +kernel
theorem dL_conkers_385 : decode cL_conkers 385 = .ok (.iaload, 1) := by decide +kernel
theorem dL_conkers_386 : decode cL_conkers 386 = .ok (.if_icmp .ne 55, 3) := by decide +kernel
theorem dL_conkers_389 : decode cL_conkers 389 = .ok (.aload_n 0, 1) := by decide +kernel
theorem dL_conkers_390 : decode cL_conkers 390 = .ok (.iconst 4, 1) := by decide +kernel
theorem dL_conkers_391 : decode cL_conkers 391 = .ok (.invokevirtual 48, 3) := by decide +kernel
theorem dL_conkers_394 : decode cL_conkers 394 = .ok (.iload_n 2, 1) := by decide +kernel
theorem dL_conkers_395 : decode cL_conkers 395 = .ok (.if_icmp .ne 46, 3) := by decide +kernel
theorem dL_conkers_398 : decode cL_conkers 398 = .ok (.aload_n 0, 1) := by decide +kernel
theorem dL_conkers_399 : decode cL_conkers 399 = .ok (.bipush 8, 2) := by decide +kernel
theorem dL_conkers_401 : decode cL_conkers 401 = .ok (.invokevirtual 48, 3) := by decide +kernel
theorem dL_conkers_404 : decode cL_conkers 404 = .ok (.iload_n 3, 1) := by decide +kernel
theorem dL_conkers_405 : decode cL_conkers 405 = .ok (.if_icmp .ne 36, 3) := by decide +kernel
theorem dL_conkers_408 : decode cL_conkers 408 = .ok (.aload_n 0, 1) := by decide +kernel
theorem dL_conkers_409 : decode cL_conkers 409 = .ok (.bipush 9, 2) := by decide +kernel
theorem dL_conkers_411 : decode cL_conkers 411 = .ok (.invokevirtual 48, 3) := by decide +kernel
theorem dL_conkers_414 : decode cL_conkers 414 = .ok (.iload 4, 2) := by decide +kernel
theorem dL_conkers_416 : decode cL_conkers 416 = .ok (.if_icmp .ne 25, 3) := by decide +kernel
theorem dL_conkers_419 : decode cL_conkers 419 = .ok (.aload_n 0, 1) := by decide +kernel
theorem dL_conkers_420 : decode cL_conkers 420 = .ok (.bipush 7, 2) := by decide +kernel
theorem dL_conkers_422 : decode cL_conkers 422 = .ok (.invokevirtual 48, 3) := by decide +kernel
theorem dL_conkers_425 : decode cL_conkers 425 = .ok (.iload 5, 2) := by decide +kernel
theorem dL_conkers_427 : decode cL_conkers 427 = .ok (.if_icmp .ne 14, 3) := by decide +kernel
theorem dL_conkers_430 : decode cL_conkers 430 = .ok (.iload 6, 2) := by decide +kernel
theorem dL_conkers_432 : decode cL_conkers 432 = .ok (.iload 5, 2) := by decide +kernel
theorem dL_conkers_434 : decode cL_conkers 434 = .ok (.if_icmp .ne 7, 3) := by decide +kernel
theorem dL_conkers_437 : decode cL_conkers 437 = .ok (.iconst 1, 1) := by decide +kernel
theorem dL_conkers_438 : decode cL_conkers 438 = .ok (.goto 4, 3) := by decide +kernel
theorem dL_conkers_441 : decode cL_conkers 441 = .ok (.iconst 0, 1) := by decide +kernel
theorem dL_conkers_442 : decode cL_conkers 442 = .ok (.istore 7, 2) := by decide +kernel
theorem dL_conkers_444 : decode cL_conkers 444 = .ok (.iload 7, 2) := by decide +kernel
theorem dL_conkers_446 : decode cL_conkers 446 = .ok (.ifCond .eq 23, 3) := by decide +kernel
theorem dL_conkers_449 : decode cL_conkers 449 = .ok (.iload_n 2, 1) := by decide +kernel
theorem dL_conkers_450 : decode cL_conkers 450 = .ok (.aload_n 0, 1) := by decide +kernel
theorem dL_conkers_451 : decode cL_conkers 451 = .ok (.iconst 5, 1) := by decide +kernel
theorem dL_conkers_452 : decode cL_conkers 452 = .ok (.invokevirtual 48, 3) := by decide +kernel
theorem dL_conkers_455 : decode cL_conkers 455 = .ok (.iadd, 1) := by decide +kernel
theorem dL_conkers_456 : decode cL_conkers 456 = .ok (.aload_n 0, 1) := by decide +kernel
theorem dL_conkers_457 : decode cL_conkers 457 = .ok (.bipush 7, 2) := by decide +kernel
theorem dL_conkers_459 : decode cL_conkers 459 = .ok (.invokevirtual 48, 3) := by decide +kernel
theorem dL_conkers_462 : decode cL_conkers 462 = .ok (.if_icmp .ne 7, 3) := by decide +kernel
theorem dL_conkers_465 : decode cL_conkers 465 = .ok (.iconst 1, 1) := by decide +kernel
theorem dL_conkers_466 : decode cL_conkers 466 = .ok (.goto 4, 3) := by decide +kernel
theorem dL_conkers_469 : decode cL_conkers 469 = .ok (.iconst 0, 1) := by decide +kernel
theorem dL_conkers_470 : decode cL_conkers 470 = .ok (.ireturn, 1) := by decide +kernel
set_option maxRecDepth 20000 in
theorem ggL_hangs_X5_count : GoodIn wsL_hangs wsX5_count := goodIn_r _ [5, 6, 7, 8, 9, 10, 11, 12, 13, 14, 15, 16, 17, 18, 19, 20, 21, 22, 23, 24, 25, 26, 27, 28, 29, 30, 31, 32, 33, 34, 35, 36, 37, 38, 39, 40, 41, 42, 43, 44, 45, 46, 47, 48, 116, 117, 118, 119, 120, 121, 122, 123, 124, 125, 126, 127, 128, 129, 130, 131, 132, 133, 134, 135, 136, 137, 138, 139, 140, 141, 142, 143, 144, 145] (by decide +kernel) (by decide +kernel)
set_option maxRecDepth 20000 in
theorem gL_hangs_X5_count : GoodIn wsL_hangs (wsV RL 48 RX5 yX5_count wsX5_count) := goodIn_app (goodIn_of _ (by decide +kernel)) ggL_hangs_X5_count
set_option maxRecDepth 20000 in
theorem ggL_hangs_X5_ranked : GoodIn wsL_hangs wsX5_ranked := goodIn_r _ [52, 6, 53, 54, 55, 17, 56, 19, 20, 57, 58, 59, 60, 30, 116, 117, 118, 119, 120, 121, 122, 123, 124, 125, 126, 127, 128, 129, 130, 131, 132, 133, 134, 135, 136] (by decide +kernel) (by decide +kernel)
set_option maxRecDepth 20000 in
theorem gL_hangs_X5_ranked : GoodIn wsL_hangs (wsV RL 57 RX5 yX5_ranked wsX5_ranked) := goodIn_app (goodIn_of _ (by decide +kernel)) ggL_hangs_X5_ranked
set_option maxRecDepth 20000 in
theorem ggL_hangs_X5_conker : GoodIn wsL_hangs wsX5_conker := goodIn_r _ [64, 6, 65, 66, 67, 68, 69, 70, 71, 72, 73, 74, 75, 17, 76, 19, 77, 4, 78, 79, 36, 37, 38, 39, 116, 117, 118, 119, 120, 121, 122, 123, 124, 125, 126, 127, 128, 129, 130, 131, 132, 133, 134, 135, 136] (by decide +kernel) (by decide +kernel)
set_option maxRecDepth 20000 in
theorem gL_hangs_X5_conker : GoodIn wsL_hangs (wsV RL 51 RX5 yX5_conker wsX5_conker) := goodIn_app (goodIn_of _ (by decide +kernel)) ggL_hangs_X5_conker
set_option maxRecDepth 20000 in
theorem ggL_hangs_X5_player : GoodIn wsL_hangs wsX5_player := goodIn_r _ [83, 6, 84, 85, 86, 87, 4, 88, 89, 77, 78, 14, 15, 16, 17, 18, 19, 20, 21, 22, 23, 24, 25, 26, 27, 28, 29, 30, 90, 91, 92, 93, 116, 117, 118, 119, 120, 121, 122, 123, 124, 125, 126, 127, 128, 129, 130, 131, 132, 133, 134, 135, 136] (by decide +kernel) (by decide +kernel)
set_option maxRecDepth 20000 in
theorem gL_hangs_X5_player : GoodIn wsL_hangs (wsV RL 60 RX5 yX5_player wsX5_player) := goodIn_app (goodIn_of _ (by decide +kernel)) ggL_hangs_X5_player
set_option maxRecDepth 20000 in
theorem ggL_hangs_X5_share : GoodIn wsL_hangs wsX5_share := goodIn_r _ [97, 6, 26, 27, 28, 17, 29, 19, 30, 21, 22, 23, 24, 25, 86, 87, 4, 88, 89, 77, 78, 116, 117, 118, 119, 120, 121, 122, 123, 124, 125, 126, 127, 128, 129, 130, 131, 132, 133, 134, 135, 136] (by decide +kernel) (by decide +kernel)
set_option maxRecDepth 20000 in
theorem gL_hangs_X5_share : GoodIn wsL_hangs (wsV RL 63 RX5 yX5_share wsX5_share) := goodIn_app (goodIn_of _ (by decide +kernel)) ggL_hangs_X5_share
set_option maxRecDepth 20000 in
theorem ggL_hangs_L_conkers : GoodIn wsL_hangs wsL_conkers := goodIn_r _ [101, 102, 1, 2, 3, 4, 5, 6, 7, 8, 9, 10, 11, 12, 13, 14, 15, 16, 17, 18, 19, 20, 21, 22, 23, 24, 25, 26, 27, 28, 29, 30, 31, 32, 33, 34, 35, 36, 37, 38, 39, 40, 41, 42, 43, 44, 45, 46, 47, 48, 61, 62, 63, 64, 65, 66, 67, 68, 69, 70, 71, 72, 73, 74, 75, 76, 77, 78, 79, 103, 104, 105, 106, 107, 108, 109, 110, 111, 112, 113, 114, 115, 116, 117, 118, 119, 120, 121, 122, 123, 124, 125, 126, 127, 128, 129, 130, 131, 132, 133, 134, 135, 136, 137, 138, 139, 140, 141, 142, 143, 144, 145] (by decide +kernel) (by decide +kernel)
set_option maxRecDepth 20000 in
theorem gL_hangs_L_conkers : GoodIn wsL_hangs (va_wsS RL 67 yL_conkers wsL_conkers) := goodIn_app (goodIn_of _ (by decide +kernel)) ggL_hangs_L_conkers
theorem dL_hangs_0 : decode cL_hangs 0 = .ok (.aload_n 0, 1) := by decide +kernel
theorem dL_hangs_1 : decode cL_hangs 1 = .ok (.iconst 1, 1) := by decide +kernel
theorem dL_hangs_2 : decode cL_hangs 2 = .ok (.invokevirtual 48, 3) := by decide +kernel
theorem dL_hangs_5 : decode cL_hangs 5 = .ok (.aload_n 0, 1) := by decide +kernel
theorem dL_hangs_6 : decode cL_hangs 6 = .ok (.iconst 2, 1) := by decide +kernel
theorem dL_hangs_7 : decode cL_hangs 7 = .ok (.invokevirtual 48, 3) := by decide +kernel
theorem dL_hangs_10 : decode cL_hangs 10 = .ok (.iadd, 1) := by decide +kernel
theorem dL_hangs_11 : decode cL_hangs 11 = .ok (.istore_n 1, 1) := by decide +kernel
theorem dL_hangs_12 : decode cL_hangs 12 = .ok (.iconst (-1), 1) := by decide +kernel
theorem dL_hangs_13 : decode cL_hangs 13 = .ok (.istore_n 2, 1) := by decide +kernel
theorem dL_hangs_14 : decode cL_hangs 14 = .ok (.iconst 0, 1) := by decide +kernel
theorem dL_hangs_15 : decode cL_hangs 15 = .ok (.istore_n 3, 1) := by decide +kernel
theorem dL_hangs_16 : decode cL_hangs 16 = .ok (.iload_n 3, 1) := by decide +kernel
theorem dL_hangs_17 : decode cL_hangs 17 = .ok (.iload_n 1, 1) := by decide +kernel
theorem dL_hangs_18 : decode cL_hangs 18 = .ok (.if_icmp .ge 80, 3) := by decide +kernel
theorem dL_hangs_21 : decode cL_hangs 21 = .ok (.aload_n 0, 1) := by decide +kernel
theorem dL_hangs_22 : decode cL_hangs 22 = .ok (.iload_n 3, 1) := by decide +kernel
theorem dL_hangs_23 : decode cL_hangs 23 = .ok (.invokevirtual 57, 3) := by decide +kernel
theorem dL_hangs_26 : decode cL_hangs 26 = .ok (.istore 4, 2) := by decide +kernel
theorem dL_hangs_28 : decode cL_hangs 28 = .ok (.iload 4, 2) := by decide +kernel
theorem dL_hangs_30 : decode cL_hangs 30 = .ok (.ifCond .lt 57, 3) := by decide +kernel
theorem dL_hangs_33 : decode cL_hangs 33 = .ok (.aload_n 0, 1) := by decide +kernel
theorem dL_hangs_34 : decode cL_hangs 34 = .ok (.iload 4, 2) := by decide +kernel
theorem dL_hangs_36 : decode cL_hangs 36 = .ok (.bipush 6, 2) := by decide +kernel
theorem dL_hangs_38 : decode cL_hangs 38 = .ok (.invokevirtual 51, 3) := by decide +kernel
theorem dL_hangs_41 : decode cL_hangs 41 = .ok (.iconst 2, 1) := by decide +kernel
theorem dL_hangs_42 : decode cL_hangs 42 = .ok (.if_icmp .eq 45, 3) := by decide +kernel
theorem dL_hangs_45 : decode cL_hangs 45 = .ok (.iload_n 2, 1) := by decide +kernel
theorem dL_hangs_46 : decode cL_hangs 46 = .ok (.ifCond .lt 43, 3) := by decide +kernel
theorem dL_hangs_49 : decode cL_hangs 49 = .ok (.aload_n 0, 1) := by decide +kernel
theorem dL_hangs_50 : decode cL_hangs 50 = .ok (.iload 4, 2) := by decide +kernel
theorem dL_hangs_52 : decode cL_hangs 52 = .ok (.iconst 4, 1) := by decide +kernel
theorem dL_hangs_53 : decode cL_hangs 53 = .ok (.invokevirtual 51, 3) := by decide +kernel
theorem dL_hangs_56 : decode cL_hangs 56 = .ok (.aload_n 0, 1) := by decide +kernel
theorem dL_hangs_57 : decode cL_hangs 57 = .ok (.iload_n 2, 1) := by decide +kernel
theorem dL_hangs_58 : decode cL_hangs 58 = .ok (.iconst 4, 1) := by decide +kernel
theorem dL_hangs_59 : decode cL_hangs 59 = .ok (.invokevirtual 51, 3) := by decide +kernel
theorem dL_hangs_62 : decode cL_hangs 62 = .ok (.if_icmp .gt 25, 3) := by decide +kernel
theorem dL_hangs_65 : decode cL_hangs 65 = .ok (.aload_n 0, 1) := by decide +kernel
theorem dL_hangs_66 : decode cL_hangs 66 = .ok (.iload 4, 2) := by decide +kernel
theorem dL_hangs_68 : decode cL_hangs 68 = .ok (.iconst 4, 1) := by decide +kernel
theorem dL_hangs_69 : decode cL_hangs 69 = .ok (.invokevirtual 51, 3) := by decide +kernel
theorem dL_hangs_72 : decode cL_hangs 72 = .ok (.aload_n 0, 1) := by decide +kernel
theorem dL_hangs_73 : decode cL_hangs 73 = .ok (.iload_n 2, 1) := by decide +kernel
theorem dL_hangs_74 : decode cL_hangs 74 = .ok (.iconst 4, 1) := by decide +kernel
theorem dL_hangs_75 : decode cL_hangs 75 = .ok (.invokevirtual 51, 3) := by decide +kernel
theorem dL_hangs_78 : decode cL_hangs 78 = .ok (.if_icmp .ne 11, 3) := by decide +kernel
theorem dL_hangs_81 : decode cL_hangs 81 = .ok (.iload 4, 2) := by decide +kernel
theorem dL_hangs_83 : decode cL_hangs 83 = .ok (.iload_n 2, 1) := by decide +kernel
theorem dL_hangs_84 : decode cL_hangs 84 = .ok (.if_icmp .ge 5, 3) := by decide +kernel
theorem dL_hangs_87 : decode cL_hangs 87 = .ok (.iconst 0, 1) := by decide +kernel
theorem dL_hangs_88 : decode cL_hangs 88 = .ok (.ireturn, 1) := by decide +kernel
theorem dL_hangs_89 : decode cL_hangs 89 = .ok (.iload 4, 2) := by decide +kernel
theorem dL_hangs_91 : decode cL_hangs 91 = .ok (.istore_n 2, 1) := by decide +kernel
theorem dL_hangs_92 : decode cL_hangs 92 = .ok (.iinc 3 1, 3) := by decide +kernel
theorem dL_hangs_95 : decode cL_hangs 95 = .ok (.goto (-79), 3) := by decide +kernel
theorem dL_hangs_98 : decode cL_hangs 98 = .ok (.iconst 0, 1) := by decide +kernel
theorem dL_hangs_99 : decode cL_hangs 99 = .ok (.istore_n 3, 1) := by decide +kernel
theorem dL_hangs_100 : decode cL_hangs 100 = .ok (.iconst 0, 1) := by decide +kernel
theorem dL_hangs_101 : decode cL_hangs 101 = .ok (.istore 4, 2) := by decide +kernel
theorem dL_hangs_103 : decode cL_hangs 103 = .ok (.iload 4, 2) := by decide +kernel
theorem dL_hangs_105 : decode cL_hangs 105 = .ok (.bipush 6, 2) := by decide +kernel
theorem dL_hangs_107 : decode cL_hangs 107 = .ok (.if_icmp .ge 298, 3) := by decide +kernel
theorem dL_hangs_110 : decode cL_hangs 110 = .ok (.aload_n 0, 1) := by decide +kernel
theorem dL_hangs_111 : decode cL_hangs 111 = .ok (.iload 4, 2) := by decide +kernel
theorem dL_hangs_113 : decode cL_hangs 113 = .ok (.bipush 6, 2) := by decide +kernel
theorem dL_hangs_115 : decode cL_hangs 115 = .ok (.invokevirtual 60, 3) := by decide +kernel
theorem dL_hangs_118 : decode cL_hangs 118 = .ok (.istore 5, 2) := by decide +kernel
theorem dL_hangs_120 : decode cL_hangs 120 = .ok (.aload_n 0, 1) := by decide +kernel
theorem dL_hangs_121 : decode cL_hangs 121 = .ok (.iload 4, 2) := by decide +kernel
theorem dL_hangs_123 : decode cL_hangs 123 = .ok (.iconst 2, 1) := by decide +kernel
theorem dL_hangs_124 : decode cL_hangs 124 = .ok (.invokevirtual 60, 3) := by decide +kernel
theorem dL_hangs_127 : decode cL_hangs 127 = .ok (.aload_n 0, 1) := by decide +kernel
theorem dL_hangs_128 : decode cL_hangs 128 = .ok (.iload 4, 2) := by decide +kernel
theorem dL_hangs_130 : decode cL_hangs 130 = .ok (.iconst 3, 1) := by decide +kernel
theorem dL_hangs_131 : decode cL_hangs 131 = .ok (.invokevirtual 60, 3) := by decide +kernel
theorem dL_hangs_134 : decode cL_hangs 134 = .ok (.iadd, 1) := by decide +kernel
theorem dL_hangs_135 : decode cL_hangs 135 = .ok (.aload_n 0, 1) := by decide +kernel
theorem dL_hangs_136 : decode cL_hangs 136 = .ok (.iload 4, 2) := by decide +kernel
theorem dL_hangs_138 : decode cL_hangs 138 = .ok (.iconst 4, 1) := by decide +kernel
theorem dL_hangs_139 : decode cL_hangs 139 = .ok (.invokevirtual 60, 3) := by decide +kernel
theorem dL_hangs_142 : decode cL_hangs 142 = .ok (.iadd, 1) := by decide +kernel
theorem dL_hangs_143 : decode cL_hangs 143 = .ok (.istore 6, 2) := by decide +kernel
theorem dL_hangs_145 : decode cL_hangs 145 = .ok (.iconst 0, 1) := by decide +kernel
theorem dL_hangs_146 : decode cL_hangs 146 = .ok (.istore 7, 2) := by decide +kernel
theorem dL_hangs_148 : decode cL_hangs 148 = .ok (.iconst 0, 1) := by decide +kernel
theorem dL_hangs_149 : decode cL_hangs 149 = .ok (.istore 8, 2) := by decide +kernel
theorem dL_hangs_151 : decode cL_hangs 151 = .ok (.iload 8, 2) := by decide +kernel
theorem dL_hangs_153 : decode cL_hangs 153 = .ok (.aload_n 0, 1) := by decide +kernel
theorem dL_hangs_154 : decode cL_hangs 154 = .ok (.iconst 0, 1) := by decide +kernel
theorem dL_hangs_155 : decode cL_hangs 155 = .ok (.invokevirtual 48, 3) := by decide +kernel
theorem dL_hangs_158 : decode cL_hangs 158 = .ok (.if_icmp .ge 107, 3) := by decide +kernel
theorem dL_hangs_161 : decode cL_hangs 161 = .ok (.aload_n 0, 1) := by decide +kernel
theorem dL_hangs_162 : decode cL_hangs 162 = .ok (.iload 8, 2) := by decide +kernel
theorem dL_hangs_164 : decode cL_hangs 164 = .ok (.iconst 0, 1) := by decide +kernel
theorem dL_hangs_165 : decode cL_hangs 165 = .ok (.invokevirtual 51, 3) := by decide +kernel
theorem dL_hangs_168 : decode cL_hangs 168 = .ok (.iload 4, 2) := by decide +kernel
theorem dL_hangs_170 : decode cL_hangs 170 = .ok (.if_icmp .ne 7, 3) := by decide +kernel
theorem dL_hangs_173 : decode cL_hangs 173 = .ok (.iconst 1, 1) := by decide +kernel
theorem dL_hangs_174 : decode cL_hangs 174 = .ok (.goto 4, 3) := by decide +kernel
theorem dL_hangs_177 : decode cL_hangs 177 = .ok (.iconst 0, 1) := by decide +kernel
theorem dL_hangs_178 : decode cL_hangs 178 = .ok (.istore 9, 2) := by decide +kernel
theorem dL_hangs_180 : decode cL_hangs 180 = .ok (.iload 7, 2) := by decide +kernel
theorem dL_hangs_182 : decode cL_hangs 182 = .ok (.iload 9, 2) := by decide +kernel
theorem dL_hangs_184 : decode cL_hangs 184 = .ok (.ifCond .eq 7, 3) := by decide +kernel
theorem dL_hangs_187 : decode cL_hangs 187 = .ok (.iconst 1, 1) := by decide +kernel
theorem dL_hangs_188 : decode cL_hangs 188 = .ok (.goto 4, 3) := by decide +kernel
theorem dL_hangs_191 : decode cL_hangs 191 = .ok (.iconst 0, 1) := by decide +kernel
theorem dL_hangs_192 : decode cL_hangs 192 = .ok (.iadd, 1) := by decide +kernel
theorem dL_hangs_193 : decode cL_hangs 193 = .ok (.istore 7, 2) := by decide +kernel
theorem dL_hangs_195 : decode cL_hangs 195 = .ok (.iload 9, 2) := by decide +kernel
theorem dL_hangs_197 : decode cL_hangs 197 = .ok (.ifCond .eq 62, 3) := by decide +kernel
theorem dL_hangs_200 : decode cL_hangs 200 = .ok (.aload_n 0, 1) := by decide +kernel
theorem dL_hangs_201 : decode cL_hangs 201 = .ok (.iload 8, 2) := by decide +kernel
theorem dL_hangs_203 : decode cL_hangs 203 = .ok (.bipush 6, 2) := by decide +kernel
theorem dL_hangs_205 : decode cL_hangs 205 = .ok (.invokevirtual 51, 3) := by decide +kernel
theorem dL_hangs_208 : decode cL_hangs 208 = .ok (.ifCond .ne 51, 3) := by decide +kernel
theorem dL_hangs_211 : decode cL_hangs 211 = .ok (.iload 5, 2) := by decide +kernel
theorem dL_hangs_213 : decode cL_hangs 213 = .ok (.ifCond .lt 44, 3) := by decide +kernel
theorem dL_hangs_216 : decode cL_hangs 216 = .ok (.aload_n 0, 1) := by decide +kernel
theorem dL_hangs_217 : decode cL_hangs 217 = .ok (.iload 8, 2) := by decide +kernel
theorem dL_hangs_219 : decode cL_hangs 219 = .ok (.iconst 4, 1) := by decide +kernel
theorem dL_hangs_220 : decode cL_hangs 220 = .ok (.invokevirtual 51, 3) := by decide +kernel
theorem dL_hangs_223 : decode cL_hangs 223 = .ok (.aload_n 0, 1) := by decide +kernel
theorem dL_hangs_224 : decode cL_hangs 224 = .ok (.iload 5, 2) := by decide +kernel
theorem dL_hangs_226 : decode cL_hangs 226 = .ok (.iconst 4, 1) := by decide +kernel
theorem dL_hangs_227 : decode cL_hangs 227 = .ok (.invokevirtual 51, 3) := by decide +kernel
theorem dL_hangs_230 : decode cL_hangs 230 = .ok (.if_icmp .gt 27, 3) := by decide +kernel
theorem dL_hangs_233 : decode cL_hangs 233 = .ok (.aload_n 0, 1) := by decide +kernel
theorem dL_hangs_234 : decode cL_hangs 234 = .ok (.iload 8, 2) := by decide +kernel
theorem dL_hangs_236 : decode cL_hangs 236 = .ok (.iconst 4, 1) := by decide +kernel
theorem dL_hangs_237 : decode cL_hangs 237 = .ok (.invokevirtual 51, 3) := by decide +kernel
theorem dL_hangs_240 : decode cL_hangs 240 = .ok (.aload_n 0, 1) := by decide +kernel
theorem dL_hangs_241 : decode cL_hangs 241 = .ok (.iload 5, 2) := by decide +kernel
theorem dL_hangs_243 : decode cL_hangs 243 = .ok (.iconst 4, 1) := by decide +kernel
theorem dL_hangs_244 : decode cL_hangs 244 = .ok (.invokevirtual 51, 3) := by decide +kernel
theorem dL_hangs_247 : decode cL_hangs 247 = .ok (.if_icmp .ne 12, 3) := by decide +kernel
theorem dL_hangs_250 : decode cL_hangs 250 = .ok (.iload 8, 2) := by decide +kernel
theorem dL_hangs_252 : decode cL_hangs 252 = .ok (.iload 5, 2) := by decide +kernel
theorem dL_hangs_254 : decode cL_hangs 254 = .ok (.if_icmp .ge 5, 3) := by decide +kernel
theorem dL_hangs_257 : decode cL_hangs 257 = .ok (.iconst 0, 1) := by decide +kernel
theorem dL_hangs_258 : decode cL_hangs 258 = .ok (.ireturn, 1) := by decide +kernel
theorem dL_hangs_259 : decode cL_hangs 259 = .ok (.iinc 8 1, 3) := by decide +kernel
theorem dL_hangs_262 : decode cL_hangs 262 = .ok (.goto (-111), 3) := by decide +kernel
theorem dL_hangs_265 : decode cL_hangs 265 = .ok (.iload_n 3, 1) := by decide +kernel
theorem dL_hangs_266 : decode cL_hangs 266 = .ok (.aload_n 0, 1) := by decide +kernel
theorem dL_hangs_267 : decode cL_hangs 267 = .ok (.iload 4, 2) := by decide +kernel
theorem dL_hangs_269 : decode cL_hangs 269 = .ok (.iconst 5, 1) := by decide +kernel
theorem dL_hangs_270 : decode cL_hangs 270 = .ok (.invokevirtual 60, 3) := by decide +kernel
theorem dL_hangs_273 : decode cL_hangs 273 = .ok (.iadd, 1) := by decide +kernel
theorem dL_hangs_274 : decode cL_hangs 274 = .ok (.istore_n 3, 1) := by decide +kernel
theorem dL_hangs_275 : decode cL_hangs 275 = .ok (.iload 6, 2) := by decide +kernel
theorem dL_hangs_277 : decode cL_hangs 277 = .ok (.iload 7, 2) := by decide +kernel
theorem dL_hangs_279 : decode cL_hangs 279 = .ok (.if_icmp .ne 118, 3) := by decide +kernel
theorem dL_hangs_282 : decode cL_hangs 282 = .ok (.iload 5, 2) := by decide +kernel
theorem dL_hangs_284 : decode cL_hangs 284 = .ok (.ifCond .ge 7, 3) := by decide +kernel
theorem dL_hangs_287 : decode cL_hangs 287 = .ok (.iconst 1, 1) := by decide +kernel
theorem dL_hangs_288 : decode cL_hangs 288 = .ok (.goto 4, 3) := by decide +kernel
theorem dL_hangs_291 : decode cL_hangs 291 = .ok (.iconst 0, 1) := by decide +kernel
theorem dL_hangs_292 : decode cL_hangs 292 = .ok (.aload_n 0, 1) := by decide +kernel
theorem dL_hangs_293 : decode cL_hangs 293 = .ok (.iload 4, 2) := by decide +kernel
theorem dL_hangs_295 : decode cL_hangs 295 = .ok (.iconst 2, 1) := by decide +kernel
theorem dL_hangs_296 : decode cL_hangs 296 = .ok (.invokevirtual 60, 3) := by decide +kernel
theorem dL_hangs_299 : decode cL_hangs 299 = .ok (.ifCond .ne 7, 3) := by decide +kernel
theorem dL_hangs_302 : decode cL_hangs 302 = .ok (.iconst 1, 1) := by decide +kernel
theorem dL_hangs_303 : decode cL_hangs 303 = .ok (.goto 4, 3) := by decide +kernel
theorem dL_hangs_306 : decode cL_hangs 306 = .ok (.iconst 0, 1) := by decide +kernel
theorem dL_hangs_307 : decode cL_hangs 307 = .ok (.if_icmp .ne 90, 3) := by decide +kernel
theorem dL_hangs_310 : decode cL_hangs 310 = .ok (.iload 5, 2) := by decide +kernel
theorem dL_hangs_312 : decode cL_hangs 312 = .ok (.ifCond .lt 26, 3) := by decide +kernel
theorem dL_hangs_315 : decode cL_hangs 315 = .ok (.aload_n 0, 1) := by decide +kernel
theorem dL_hangs_316 : decode cL_hangs 316 = .ok (.iload 5, 2) := by decide +kernel
theorem dL_hangs_318 : decode cL_hangs 318 = .ok (.iconst 0, 1) := by decide +kernel
theorem dL_hangs_319 : decode cL_hangs 319 = .ok (.invokevirtual 51, 3) := by decide +kernel
theorem dL_hangs_322 : decode cL_hangs 322 = .ok (.iload 4, 2) := by decide +kernel
theorem dL_hangs_324 : decode cL_hangs 324 = .ok (.if_icmp .ne 73, 3) := by decide +kernel
theorem dL_hangs_327 : decode cL_hangs 327 = .ok (.aload_n 0, 1) := by decide +kernel
theorem dL_hangs_328 : decode cL_hangs 328 = .ok (.iload 5, 2) := by decide +kernel
theorem dL_hangs_330 : decode cL_hangs 330 = .ok (.bipush 6, 2) := by decide +kernel
theorem dL_hangs_332 : decode cL_hangs 332 = .ok (.invokevirtual 51, 3) := by decide +kernel
theorem dL_hangs_335 : decode cL_hangs 335 = .ok (.ifCond .ne 62, 3) := by decide +kernel
theorem dL_hangs_338 : decode cL_hangs 338 = .ok (.aload_n 0, 1) := by decide +kernel
theorem dL_hangs_339 : decode cL_hangs 339 = .ok (.iload 4, 2) := by decide +kernel
theorem dL_hangs_341 : decode cL_hangs 341 = .ok (.iconst 0, 1) := by decide +kernel
theorem dL_hangs_342 : decode cL_hangs 342 = .ok (.invokevirtual 60, 3) := by decide +kernel
theorem dL_hangs_345 : decode cL_hangs 345 = .ok (.ifCond .lt 52, 3) := by decide +kernel
theorem dL_hangs_348 : decode cL_hangs 348 = .ok (.aload_n 0, 1) := by decide +kernel
theorem dL_hangs_349 : decode cL_hangs 349 = .ok (.iload 4, 2) := by decide +kernel
theorem dL_hangs_351 : decode cL_hangs 351 = .ok (.iconst 0, 1) := by decide +kernel
theorem dL_hangs_352 : decode cL_hangs 352 = .ok (.invokevirtual 60, 3) := by decide +kernel
theorem dL_hangs_355 : decode cL_hangs 355 = .ok (.bipush 20, 2) := by decide +kernel
theorem dL_hangs_357 : decode cL_hangs 357 = .ok (.if_icmp .gt 40, 3) := by decide +kernel
theorem dL_hangs_360 : decode cL_hangs 360 = .ok (.aload_n 0, 1) := by decide +kernel
theorem dL_hangs_361 : decode cL_hangs 361 = .ok (.iload 4, 2) := by decide +kernel
theorem dL_hangs_363 : decode cL_hangs 363 = .ok (.invokevirtual 63, 3) := by decide +kernel
theorem dL_hangs_366 : decode cL_hangs 366 = .ok (.aload_n 0, 1) := by decide +kernel
theorem dL_hangs_367 : decode cL_hangs 367 = .ok (.iconst 4, 1) := by decide +kernel
theorem dL_hangs_368 : decode cL_hangs 368 = .ok (.invokevirtual 48, 3) := by decide +kernel
theorem dL_hangs_371 : decode cL_hangs 371 = .ok (.ifCond .ne 7, 3) := by decide +kernel
theorem dL_hangs_374 : decode cL_hangs 374 = .ok (.fconst 0, 1) := by decide +kernel
theorem dL_hangs_375 : decode cL_hangs 375 = .ok (.goto 18, 3) := by decide +kernel
theorem dL_hangs_378 : decode cL_hangs 378 = .ok (.aload_n 0, 1) := by decide +kernel
