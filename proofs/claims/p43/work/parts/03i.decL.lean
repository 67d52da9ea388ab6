theorem dL_law_15 : decode cL_law 15 = .ok (.newarray .int, 2) := by decide +kernel
theorem dL_law_17 : decode cL_law 17 = .ok (.astore_n 3, 1) := by decide +kernel
theorem dL_law_18 : decode cL_law 18 = .ok (.bipush 20, 2) := by decide +kernel
theorem dL_law_20 : decode cL_law 20 = .ok (.newarray .int, 2) := by decide +kernel
theorem dL_law_22 : decode cL_law 22 = .ok (.astore 4, 2) := by decide +kernel
theorem dL_law_24 : decode cL_law 24 = .ok (.bipush 64, 2) := by decide +kernel
theorem dL_law_26 : decode cL_law 26 = .ok (.newarray .int, 2) := by decide +kernel
theorem dL_law_28 : decode cL_law 28 = .ok (.astore 5, 2) := by decide +kernel
theorem dL_law_30 : decode cL_law 30 = .ok (.bipush 48, 2) := by decide +kernel
theorem dL_law_32 : decode cL_law 32 = .ok (.newarray .int, 2) := by decide +kernel
theorem dL_law_34 : decode cL_law 34 = .ok (.astore 6, 2) := by decide +kernel
theorem dL_law_36 : decode cL_law 36 = .ok (.bipush 20, 2) := by decide +kernel
theorem dL_law_38 : decode cL_law 38 = .ok (.newarray .int, 2) := by decide +kernel
theorem dL_law_40 : decode cL_law 40 = .ok (.astore 7, 2) := by decide +kernel
theorem dL_law_42 : decode cL_law 42 = .ok (.iconst 0, 1) := by decide +kernel
theorem dL_law_43 : decode cL_law 43 = .ok (.istore 8, 2) := by decide +kernel
theorem dL_law_45 : decode cL_law 45 = .ok (.iload 8, 2) := by decide +kernel
theorem dL_law_47 : decode cL_law 47 = .ok (.bipush 8, 2) := by decide +kernel
theorem dL_law_49 : decode cL_law 49 = .ok (.if_icmp .ge 44, 3) := by decide +kernel
theorem dL_law_52 : decode cL_law 52 = .ok (.aload_n 2, 1) := by decide +kernel
theorem dL_law_53 : decode cL_law 53 = .ok (.iload 8, 2) := by decide +kernel
theorem dL_law_55 : decode cL_law 55 = .ok (.iconst 3, 1) := by decide +kernel
theorem dL_law_56 : decode cL_law 56 = .ok (.iastore, 1) := by decide +kernel
theorem dL_law_57 : decode cL_law 57 = .ok (.aload_n 2, 1) := by decide +kernel
theorem dL_law_58 : decode cL_law 58 = .ok (.bipush 16, 2) := by decide +kernel
theorem dL_law_60 : decode cL_law 60 = .ok (.iload 8, 2) := by decide +kernel
theorem dL_law_62 : decode cL_law 62 = .ok (.iadd, 1) := by decide +kernel
theorem dL_law_63 : decode cL_law 63 = .ok (.iconst 4, 1) := by decide +kernel
theorem dL_law_64 : decode cL_law 64 = .ok (.iastore, 1) := by decide +kernel
theorem dL_law_65 : decode cL_law 65 = .ok (.aload_n 2, 1) := by decide +kernel
theorem dL_law_66 : decode cL_law 66 = .ok (.bipush 24, 2) := by decide +kernel
theorem dL_law_68 : decode cL_law 68 = .ok (.iload 8, 2) := by decide +kernel
theorem dL_law_70 : decode cL_law 70 = .ok (.iadd, 1) := by decide +kernel
theorem dL_law_71 : decode cL_law 71 = .ok (.iload 8, 2) := by decide +kernel
theorem dL_law_73 : decode cL_law 73 = .ok (.iconst 4, 1) := by decide +kernel
theorem dL_law_74 : decode cL_law 74 = .ok (.irem, 1) := by decide +kernel
theorem dL_law_75 : decode cL_law 75 = .ok (.iastore, 1) := by decide +kernel
theorem dL_law_76 : decode cL_law 76 = .ok (.aload 4, 2) := by decide +kernel
theorem dL_law_78 : decode cL_law 78 = .ok (.bipush 6, 2) := by decide +kernel
theorem dL_law_80 : decode cL_law 80 = .ok (.iload 8, 2) := by decide +kernel
theorem dL_law_82 : decode cL_law 82 = .ok (.iconst 3, 1) := by decide +kernel
theorem dL_law_83 : decode cL_law 83 = .ok (.irem, 1) := by decide +kernel
theorem dL_law_84 : decode cL_law 84 = .ok (.iadd, 1) := by decide +kernel
theorem dL_law_85 : decode cL_law 85 = .ok (.iconst (-1), 1) := by decide +kernel
theorem dL_law_86 : decode cL_law 86 = .ok (.iastore, 1) := by decide +kernel
theorem dL_law_87 : decode cL_law 87 = .ok (.iinc 8 1, 3) := by decide +kernel
theorem dL_law_90 : decode cL_law 90 = .ok (.goto (-45), 3) := by decide +kernel
theorem dL_law_93 : decode cL_law 93 = .ok (.aload 4, 2) := by decide +kernel
theorem dL_law_95 : decode cL_law 95 = .ok (.bipush 15, 2) := by decide +kernel
theorem dL_law_97 : decode cL_law 97 = .ok (.iconst 3, 1) := by decide +kernel
theorem dL_law_98 : decode cL_law 98 = .ok (.iastore, 1) := by decide +kernel
theorem dL_law_99 : decode cL_law 99 = .ok (.aload 4, 2) := by decide +kernel
theorem dL_law_101 : decode cL_law 101 = .ok (.bipush 16, 2) := by decide +kernel
theorem dL_law_103 : decode cL_law 103 = .ok (.iconst 3, 1) := by decide +kernel
theorem dL_law_104 : decode cL_law 104 = .ok (.iastore, 1) := by decide +kernel
theorem dL_law_105 : decode cL_law 105 = .ok (.iconst 0, 1) := by decide +kernel
theorem dL_law_106 : decode cL_law 106 = .ok (.istore 8, 2) := by decide +kernel
theorem dL_law_108 : decode cL_law 108 = .ok (.iload 8, 2) := by decide +kernel
theorem dL_law_110 : decode cL_law 110 = .ok (.bipush 60, 2) := by decide +kernel
theorem dL_law_112 : decode cL_law 112 = .ok (.if_icmp .ge 579, 3) := by decide +kernel
theorem dL_law_115 : decode cL_law 115 = .ok (.aload_n 0, 1) := by decide +kernel
theorem dL_law_116 : decode cL_law 116 = .ok (.iconst 2, 1) := by decide +kernel
theorem dL_law_117 : decode cL_law 117 = .ok (.iload 8, 2) := by decide +kernel
theorem dL_law_119 : decode cL_law 119 = .ok (.imul, 1) := by decide +kernel
theorem dL_law_120 : decode cL_law 120 = .ok (.invokestatic 186, 3) := by decide +kernel
theorem dL_law_123 : decode cL_law 123 = .ok (.istore 9, 2) := by decide +kernel
theorem dL_law_125 : decode cL_law 125 = .ok (.aload_n 0, 1) := by decide +kernel
theorem dL_law_126 : decode cL_law 126 = .ok (.iconst 2, 1) := by decide +kernel
theorem dL_law_127 : decode cL_law 127 = .ok (.iload 8, 2) := by decide +kernel
theorem dL_law_129 : decode cL_law 129 = .ok (.imul, 1) := by decide +kernel
theorem dL_law_130 : decode cL_law 130 = .ok (.iconst 1, 1) := by decide +kernel
theorem dL_law_131 : decode cL_law 131 = .ok (.iadd, 1) := by decide +kernel
theorem dL_law_132 : decode cL_law 132 = .ok (.invokestatic 186, 3) := by decide +kernel
theorem dL_law_135 : decode cL_law 135 = .ok (.istore 10, 2) := by decide +kernel
theorem dL_law_137 : decode cL_law 137 = .ok (.iload 9, 2) := by decide +kernel
theorem dL_law_139 : decode cL_law 139 = .ok (.bipush 24, 2) := by decide +kernel
theorem dL_law_141 : decode cL_law 141 = .ok (.invokestatic 190, 3) := by decide +kernel
theorem dL_law_144 : decode cL_law 144 = .ok (.istore 11, 2) := by decide +kernel
theorem dL_law_146 : decode cL_law 146 = .ok (.iload 11, 2) := by decide +kernel
theorem dL_law_148 : decode cL_law 148 = .ok (.bipush 11, 2) := by decide +kernel
theorem dL_law_150 : decode cL_law 150 = .ok (.if_icmp .le 140, 3) := by decide +kernel
theorem dL_law_153 : decode cL_law 153 = .ok (.iload 10, 2) := by decide +kernel
theorem dL_law_155 : decode cL_law 155 = .ok (.iload 10, 2) := by decide +kernel
theorem dL_law_157 : decode cL_law 157 = .ok (.bipush 8, 2) := by decide +kernel
theorem dL_law_159 : decode cL_law 159 = .ok (.ishr, 1) := by decide +kernel
theorem dL_law_160 : decode cL_law 160 = .ok (.iconst 5, 1) := by decide +kernel
theorem dL_law_161 : decode cL_law 161 = .ok (.invokestatic 190, 3) := by decide +kernel
theorem dL_law_164 : decode cL_law 164 = .ok (.ifCond .ne 8, 3) := by decide +kernel
theorem dL_law_167 : decode cL_law 167 = .ok (.bipush 40, 2) := by decide +kernel
theorem dL_law_169 : decode cL_law 169 = .ok (.goto 5, 3) := by decide +kernel
theorem dL_law_172 : decode cL_law 172 = .ok (.bipush 9, 2) := by decide +kernel
theorem dL_law_174 : decode cL_law 174 = .ok (.invokestatic 190, 3) := by decide +kernel
theorem dL_law_177 : decode cL_law 177 = .ok (.istore 12, 2) := by decide +kernel
theorem dL_law_179 : decode cL_law 179 = .ok (.iload 12, 2) := by decide +kernel
theorem dL_law_181 : decode cL_law 181 = .ok (.ifCond .lt 92, 3) := by decide +kernel
theorem dL_law_184 : decode cL_law 184 = .ok (.aload 4, 2) := by decide +kernel
theorem dL_law_186 : decode cL_law 186 = .ok (.bipush 18, 2) := by decide +kernel
theorem dL_law_188 : decode cL_law 188 = .ok (.iaload, 1) := by decide +kernel
theorem dL_law_189 : decode cL_law 189 = .ok (.istore 13, 2) := by decide +kernel
theorem dL_law_191 : decode cL_law 191 = .ok (.aload 4, 2) := by decide +kernel
theorem dL_law_193 : decode cL_law 193 = .ok (.bipush 19, 2) := by decide +kernel
theorem dL_law_195 : decode cL_law 195 = .ok (.iaload, 1) := by decide +kernel
theorem dL_law_196 : decode cL_law 196 = .ok (.istore 14, 2) := by decide +kernel
theorem dL_law_198 : decode cL_law 198 = .ok (.iload 13, 2) := by decide +kernel
theorem dL_law_200 : decode cL_law 200 = .ok (.bipush 8, 2) := by decide +kernel
theorem dL_law_202 : decode cL_law 202 = .ok (.irem, 1) := by decide +kernel
theorem dL_law_203 : decode cL_law 203 = .ok (.aload_n 2, 1) := by decide +kernel
theorem dL_law_204 : decode cL_law 204 = .ok (.aload_n 3, 1) := by decide +kernel
theorem dL_law_205 : decode cL_law 205 = .ok (.aload 4, 2) := by decide +kernel
theorem dL_law_207 : decode cL_law 207 = .ok (.invokestatic 114, 3) := by decide +kernel
theorem dL_law_210 : decode cL_law 210 = .ok (.istore 15, 2) := by decide +kernel
theorem dL_law_212 : decode cL_law 212 = .ok (.aload_n 2, 1) := by decide +kernel
theorem dL_law_213 : decode cL_law 213 = .ok (.aload_n 3, 1) := by decide +kernel
theorem dL_law_214 : decode cL_law 214 = .ok (.aload 4, 2) := by decide +kernel
theorem dL_law_216 : decode cL_law 216 = .ok (.aload 5, 2) := by decide +kernel
theorem dL_law_218 : decode cL_law 218 = .ok (.aload 6, 2) := by decide +kernel
theorem dL_law_220 : decode cL_law 220 = .ok (.aload 7, 2) := by decide +kernel
theorem dL_law_222 : decode cL_law 222 = .ok (.invokestatic 193, 3) := by decide +kernel
theorem dL_law_225 : decode cL_law 225 = .ok (.aload_n 1, 1) := by decide +kernel
theorem dL_law_226 : decode cL_law 226 = .ok (.iconst 1, 1) := by decide +kernel
theorem dL_law_227 : decode cL_law 227 = .ok (.invokestatic 197, 3) := by decide +kernel
theorem dL_law_230 : decode cL_law 230 = .ok (.aload 4, 2) := by decide +kernel
theorem dL_law_232 : decode cL_law 232 = .ok (.bipush 19, 2) := by decide +kernel
theorem dL_law_234 : decode cL_law 234 = .ok (.iaload, 1) := by decide +kernel
theorem dL_law_235 : decode cL_law 235 = .ok (.iload 14, 2) := by decide +kernel
theorem dL_law_237 : decode cL_law 237 = .ok (.isub, 1) := by decide +kernel
theorem dL_law_238 : decode cL_law 238 = .ok (.if_icmp .ne 27, 3) := by decide +kernel
theorem dL_law_241 : decode cL_law 241 = .ok (.aload 4, 2) := by decide +kernel
theorem dL_law_243 : decode cL_law 243 = .ok (.bipush 18, 2) := by decide +kernel
theorem dL_law_245 : decode cL_law 245 = .ok (.iaload, 1) := by decide +kernel
theorem dL_law_246 : decode cL_law 246 = .ok (.ifCond .le 21, 3) := by decide +kernel
theorem dL_law_249 : decode cL_law 249 = .ok (.aload_n 1, 1) := by decide +kernel
theorem dL_law_250 : decode cL_law 250 = .ok (.iload 13, 2) := by decide +kernel
theorem dL_law_252 : decode cL_law 252 = .ok (.bipush 8, 2) := by decide +kernel
theorem dL_law_254 : decode cL_law 254 = .ok (.irem, 1) := by decide +kernel
theorem dL_law_255 : decode cL_law 255 = .ok (.iload 13, 2) := by decide +kernel
theorem dL_law_257 : decode cL_law 257 = .ok (.invokestatic 158, 3) := by decide +kernel
theorem dL_law_260 : decode cL_law 260 = .ok (.iload 15, 2) := by decide +kernel
theorem dL_law_262 : decode cL_law 262 = .ok (.if_icmp .eq 5, 3) := by decide +kernel
theorem dL_law_265 : decode cL_law 265 = .ok (.iconst 0, 1) := by decide +kernel
theorem dL_law_266 : decode cL_law 266 = .ok (.ireturn, 1) := by decide +kernel
theorem dL_law_267 : decode cL_law 267 = .ok (.iinc 12 (-1), 3) := by decide +kernel
theorem dL_law_270 : decode cL_law 270 = .ok (.goto (-91), 3) := by decide +kernel
theorem dL_law_273 : decode cL_law 273 = .ok (.aload_n 1, 1) := by decide +kernel
theorem dL_law_274 : decode cL_law 274 = .ok (.aload_n 2, 1) := by decide +kernel
theorem dL_law_275 : decode cL_law 275 = .ok (.aload_n 3, 1) := by decide +kernel
theorem dL_law_276 : decode cL_law 276 = .ok (.aload 4, 2) := by decide +kernel
theorem dL_law_278 : decode cL_law 278 = .ok (.aload 6, 2) := by decide +kernel
theorem dL_law_280 : decode cL_law 280 = .ok (.aload 7, 2) := by decide +kernel
theorem dL_law_282 : decode cL_law 282 = .ok (.invokestatic 199, 3) := by decide +kernel
theorem dL_law_285 : decode cL_law 285 = .ok (.ifCond .ne 400, 3) := by decide +kernel
theorem dL_law_288 : decode cL_law 288 = .ok (.iconst 0, 1) := by decide +kernel
theorem dL_law_289 : decode cL_law 289 = .ok (.ireturn, 1) := by decide +kernel
theorem dL_law_290 : decode cL_law 290 = .ok (.iload 11, 2) := by decide +kernel
theorem dL_law_292 : decode cL_law 292 = .ok (.iconst 3, 1) := by decide +kernel
theorem dL_law_293 : decode cL_law 293 = .ok (.if_icmp .ge 7, 3) := by decide +kernel
theorem dL_law_296 : decode cL_law 296 = .ok (.iconst 0, 1) := by decide +kernel
theorem dL_law_297 : decode cL_law 297 = .ok (.goto 47, 3) := by decide +kernel
theorem dL_law_300 : decode cL_law 300 = .ok (.iload 11, 2) := by decide +kernel
theorem dL_law_302 : decode cL_law 302 = .ok (.iconst 5, 1) := by decide +kernel
theorem dL_law_303 : decode cL_law 303 = .ok (.if_icmp .ge 7, 3) := by decide +kernel
theorem dL_law_306 : decode cL_law 306 = .ok (.iconst 1, 1) := by decide +kernel
theorem dL_law_307 : decode cL_law 307 = .ok (.goto 37, 3) := by decide +kernel
theorem dL_law_310 : decode cL_law 310 = .ok (.iload 11, 2) := by decide +kernel
theorem dL_law_312 : decode cL_law 312 = .ok (.bipush 8, 2) := by decide +kernel
theorem dL_law_314 : decode cL_law 314 = .ok (.if_icmp .ge 7, 3) := by decide +kernel
theorem dL_law_317 : decode cL_law 317 = .ok (.iconst 2, 1) := by decide +kernel
theorem dL_law_318 : decode cL_law 318 = .ok (.goto 26, 3) := by decide +kernel
theorem dL_law_321 : decode cL_law 321 = .ok (.iload 11, 2) := by decide +kernel
theorem dL_law_323 : decode cL_law 323 = .ok (.bipush 8, 2) := by decide +kernel
theorem dL_law_325 : decode cL_law 325 = .ok (.if_icmp .ne 7, 3) := by decide +kernel
theorem dL_law_328 : decode cL_law 328 = .ok (.iconst 3, 1) := by decide +kernel
theorem dL_law_329 : decode cL_law 329 = .ok (.goto 15, 3) := by decide +kernel
theorem dL_law_332 : decode cL_law 332 = .ok (.iload 11, 2) := by decide +kernel
theorem dL_law_334 : decode cL_law 334 = .ok (.bipush 9, 2) := by decide +kernel
theorem dL_law_336 : decode cL_law 336 = .ok (.if_icmp .ne 7, 3) := by decide +kernel
theorem dL_law_339 : decode cL_law 339 = .ok (.iconst 4, 1) := by decide +kernel
theorem dL_law_340 : decode cL_law 340 = .ok (.goto 4, 3) := by decide +kernel
theorem dL_law_343 : decode cL_law 343 = .ok (.iconst 5, 1) := by decide +kernel
theorem dL_law_344 : decode cL_law 344 = .ok (.istore 11, 2) := by decide +kernel
theorem dL_law_346 : decode cL_law 346 = .ok (.iload 11, 2) := by decide +kernel
theorem dL_law_348 : decode cL_law 348 = .ok (.ifCond .ne 13, 3) := by decide +kernel
theorem dL_law_351 : decode cL_law 351 = .ok (.iload 10, 2) := by decide +kernel
theorem dL_law_353 : decode cL_law 353 = .ok (.bipush 8, 2) := by decide +kernel
theorem dL_law_355 : decode cL_law 355 = .ok (.invokestatic 190, 3) := by decide +kernel
theorem dL_law_358 : decode cL_law 358 = .ok (.goto 63, 3) := by decide +kernel
theorem dL_law_361 : decode cL_law 361 = .ok (.iload 11, 2) := by decide +kernel
theorem dL_law_363 : decode cL_law 363 = .ok (.iconst 1, 1) := by decide +kernel
theorem dL_law_364 : decode cL_law 364 = .ok (.if_icmp .ne 13, 3) := by decide +kernel
theorem dL_law_367 : decode cL_law 367 = .ok (.iload 10, 2) := by decide +kernel
theorem dL_law_369 : decode cL_law 369 = .ok (.bipush 24, 2) := by decide +kernel
theorem dL_law_371 : decode cL_law 371 = .ok (.invokestatic 190, 3) := by decide +kernel
theorem dL_law_374 : decode cL_law 374 = .ok (.goto 47, 3) := by decide +kernel
theorem dL_law_377 : decode cL_law 377 = .ok (.iload 11, 2) := by decide +kernel
theorem dL_law_379 : decode cL_law 379 = .ok (.iconst 4, 1) := by decide +kernel
theorem dL_law_380 : decode cL_law 380 = .ok (.if_icmp .ge 12, 3) := by decide +kernel
theorem dL_law_383 : decode cL_law 383 = .ok (.iload 10, 2) := by decide +kernel
theorem dL_law_385 : decode cL_law 385 = .ok (.iconst 3, 1) := by decide +kernel
theorem dL_law_386 : decode cL_law 386 = .ok (.invokestatic 190, 3) := by decide +kernel
theorem dL_law_389 : decode cL_law 389 = .ok (.goto 32, 3) := by decide +kernel
theorem dL_law_392 : decode cL_law 392 = .ok (.iload 11, 2) := by decide +kernel
theorem dL_law_394 : decode cL_law 394 = .ok (.iconst 4, 1) := by decide +kernel
theorem dL_law_395 : decode cL_law 395 = .ok (.if_icmp .ne 14, 3) := by decide +kernel
theorem dL_law_398 : decode cL_law 398 = .ok (.iconst 1, 1) := by decide +kernel
theorem dL_law_399 : decode cL_law 399 = .ok (.iload 10, 2) := by decide +kernel
theorem dL_law_401 : decode cL_law 401 = .ok (.iconst 5, 1) := by decide +kernel
theorem dL_law_402 : decode cL_law 402 = .ok (.invokestatic 190, 3) := by decide +kernel
theorem dL_law_405 : decode cL_law 405 = .ok (.iadd, 1) := by decide +kernel
theorem dL_law_406 : decode cL_law 406 = .ok (.goto 15, 3) := by decide +kernel
theorem dL_law_409 : decode cL_law 409 = .ok (.iload 10, 2) := by decide +kernel
theorem dL_law_411 : decode cL_law 411 = .ok (.aload 4, 2) := by decide +kernel
theorem dL_law_413 : decode cL_law 413 = .ok (.bipush 19, 2) := by decide +kernel
theorem dL_law_415 : decode cL_law 415 = .ok (.iaload, 1) := by decide +kernel
theorem dL_law_416 : decode cL_law 416 = .ok (.iconst 1, 1) := by decide +kernel
theorem dL_law_417 : decode cL_law 417 = .ok (.iadd, 1) := by decide +kernel
theorem dL_law_418 : decode cL_law 418 = .ok (.invokestatic 190, 3) := by decide +kernel
theorem dL_law_421 : decode cL_law 421 = .ok (.istore 12, 2) := by decide +kernel
theorem dL_law_423 : decode cL_law 423 = .ok (.iload 11, 2) := by decide +kernel
theorem dL_law_425 : decode cL_law 425 = .ok (.ifCond .ne 15, 3) := by decide +kernel
theorem dL_law_428 : decode cL_law 428 = .ok (.iload 10, 2) := by decide +kernel
theorem dL_law_430 : decode cL_law 430 = .ok (.iconst 5, 1) := by decide +kernel
theorem dL_law_431 : decode cL_law 431 = .ok (.ishr, 1) := by decide +kernel
theorem dL_law_432 : decode cL_law 432 = .ok (.bipush 10, 2) := by decide +kernel
theorem dL_law_434 : decode cL_law 434 = .ok (.invokestatic 190, 3) := by decide +kernel
theorem dL_law_437 : decode cL_law 437 = .ok (.goto 86, 3) := by decide +kernel
theorem dL_law_440 : decode cL_law 440 = .ok (.iload 11, 2) := by decide +kernel
theorem dL_law_442 : decode cL_law 442 = .ok (.iconst 1, 1) := by decide +kernel
theorem dL_law_443 : decode cL_law 443 = .ok (.if_icmp .ne 14, 3) := by decide +kernel
theorem dL_law_446 : decode cL_law 446 = .ok (.iload 10, 2) := by decide +kernel
theorem dL_law_448 : decode cL_law 448 = .ok (.iconst 5, 1) := by decide +kernel
theorem dL_law_449 : decode cL_law 449 = .ok (.ishr, 1) := by decide +kernel
theorem dL_law_450 : decode cL_law 450 = .ok (.iconst 5, 1) := by decide +kernel
theorem dL_law_451 : decode cL_law 451 = .ok (.invokestatic 190, 3) := by decide +kernel
theorem dL_law_454 : decode cL_law 454 = .ok (.goto 69, 3) := by decide +kernel
theorem dL_law_457 : decode cL_law 457 = .ok (.iload 11, 2) := by decide +kernel
theorem dL_law_459 : decode cL_law 459 = .ok (.iconst 2, 1) := by decide +kernel
theorem dL_law_460 : decode cL_law 460 = .ok (.if_icmp .ne 17, 3) := by decide +kernel
theorem dL_law_463 : decode cL_law 463 = .ok (.iload 10, 2) := by decide +kernel
theorem dL_law_465 : decode cL_law 465 = .ok (.iconst 5, 1) := by decide +kernel
theorem dL_law_466 : decode cL_law 466 = .ok (.ishr, 1) := by decide +kernel
theorem dL_law_467 : decode cL_law 467 = .ok (.bipush 9, 2) := by decide +kernel
theorem dL_law_469 : decode cL_law 469 = .ok (.invokestatic 190, 3) := by decide +kernel
theorem dL_law_472 : decode cL_law 472 = .ok (.iconst 1, 1) := by decide +kernel
theorem dL_law_473 : decode cL_law 473 = .ok (.isub, 1) := by decide +kernel
theorem dL_law_474 : decode cL_law 474 = .ok (.goto 49, 3) := by decide +kernel
theorem dL_law_477 : decode cL_law 477 = .ok (.iload 11, 2) := by decide +kernel
theorem dL_law_479 : decode cL_law 479 = .ok (.iconst 3, 1) := by decide +kernel
theorem dL_law_480 : decode cL_law 480 = .ok (.if_icmp .ne 16, 3) := by decide +kernel
theorem dL_law_483 : decode cL_law 483 = .ok (.iload 10, 2) := by decide +kernel
theorem dL_law_485 : decode cL_law 485 = .ok (.iconst 5, 1) := by decide +kernel
theorem dL_law_486 : decode cL_law 486 = .ok (.ishr, 1) := by decide +kernel
theorem dL_law_487 : decode cL_law 487 = .ok (.iconst 3, 1) := by decide +kernel
theorem dL_law_488 : decode cL_law 488 = .ok (.invokestatic 190, 3) := by decide +kernel
theorem dL_law_491 : decode cL_law 491 = .ok (.iconst 1, 1) := by decide +kernel
theorem dL_law_492 : decode cL_law 492 = .ok (.isub, 1) := by decide +kernel
theorem dL_law_493 : decode cL_law 493 = .ok (.goto 30, 3) := by decide +kernel
theorem dL_law_496 : decode cL_law 496 = .ok (.iconst 1, 1) := by decide +kernel
theorem dL_law_497 : decode cL_law 497 = .ok (.iload 10, 2) := by decide +kernel
theorem dL_law_499 : decode cL_law 499 = .ok (.iconst 5, 1) := by decide +kernel
theorem dL_law_500 : decode cL_law 500 = .ok (.ishr, 1) := by decide +kernel
theorem dL_law_501 : decode cL_law 501 = .ok (.iload 10, 2) := by decide +kernel
theorem dL_law_503 : decode cL_law 503 = .ok (.bipush 12, 2) := by decide +kernel
theorem dL_law_505 : decode cL_law 505 = .ok (.ishr, 1) := by decide +kernel
theorem dL_law_506 : decode cL_law 506 = .ok (.iconst 2, 1) := by decide +kernel
theorem dL_law_507 : decode cL_law 507 = .ok (.invokestatic 190, 3) := by decide +kernel
theorem dL_law_510 : decode cL_law 510 = .ok (.ifCond .ne 8, 3) := by decide +kernel
theorem dL_law_513 : decode cL_law 513 = .ok (.bipush 8, 2) := by decide +kernel
theorem dL_law_515 : decode cL_law 515 = .ok (.goto 4, 3) := by decide +kernel
theorem dL_law_518 : decode cL_law 518 = .ok (.iconst 3, 1) := by decide +kernel
theorem dL_law_519 : decode cL_law 519 = .ok (.invokestatic 190, 3) := by decide +kernel
theorem dL_law_522 : decode cL_law 522 = .ok (.iadd, 1) := by decide +kernel
theorem dL_law_523 : decode cL_law 523 = .ok (.istore 13, 2) := by decide +kernel
theorem dL_law_525 : decode cL_law 525 = .ok (.iload 10, 2) := by decide +kernel
theorem dL_law_527 : decode cL_law 527 = .ok (.bipush 9, 2) := by decide +kernel
theorem dL_law_529 : decode cL_law 529 = .ok (.ishr, 1) := by decide +kernel
theorem dL_law_530 : decode cL_law 530 = .ok (.sipush 200, 3) := by decide +kernel
theorem dL_law_533 : decode cL_law 533 = .ok (.invokestatic 190, 3) := by decide +kernel
theorem dL_law_536 : decode cL_law 536 = .ok (.istore 14, 2) := by decide +kernel
theorem dL_law_538 : decode cL_law 538 = .ok (.aload_n 1, 1) := by decide +kernel
theorem dL_law_539 : decode cL_law 539 = .ok (.invokestatic 203, 3) := by decide +kernel
theorem dL_law_542 : decode cL_law 542 = .ok (.lstore 15, 2) := by decide +kernel
theorem dL_law_544 : decode cL_law 544 = .ok (.aload_n 1, 1) := by decide +kernel
theorem dL_law_545 : decode cL_law 545 = .ok (.iload 11, 2) := by decide +kernel
theorem dL_law_547 : decode cL_law 547 = .ok (.iload 12, 2) := by decide +kernel
theorem dL_law_549 : decode cL_law 549 = .ok (.iload 13, 2) := by decide +kernel
theorem dL_law_551 : decode cL_law 551 = .ok (.iload 14, 2) := by decide +kernel
theorem dL_law_553 : decode cL_law 553 = .ok (.invokestatic 207, 3) := by decide +kernel
theorem dL_law_556 : decode cL_law 556 = .ok (.istore 17, 2) := by decide +kernel
theorem dL_law_558 : decode cL_law 558 = .ok (.iload 17, 2) := by decide +kernel
theorem dL_law_560 : decode cL_law 560 = .ok (.bipush (-100), 2) := by decide +kernel
theorem dL_law_562 : decode cL_law 562 = .ok (.if_icmp .ge 15, 3) := by decide +kernel
theorem dL_law_565 : decode cL_law 565 = .ok (.aload_n 1, 1) := by decide +kernel
theorem dL_law_566 : decode cL_law 566 = .ok (.invokestatic 203, 3) := by decide +kernel
theorem dL_law_569 : decode cL_law 569 = .ok (.lload 15, 2) := by decide +kernel
theorem dL_law_571 : decode cL_law 571 = .ok (.lcmp, 1) := by decide +kernel
theorem dL_law_572 : decode cL_law 572 = .ok (.ifCond .eq 5, 3) := by decide +kernel
theorem dL_law_575 : decode cL_law 575 = .ok (.iconst 0, 1) := by decide +kernel
theorem dL_law_576 : decode cL_law 576 = .ok (.ireturn, 1) := by decide +kernel
theorem dL_law_577 : decode cL_law 577 = .ok (.iload 17, 2) := by decide +kernel
theorem dL_law_579 : decode cL_law 579 = .ok (.bipush (-100), 2) := by decide +kernel
theorem dL_law_581 : decode cL_law 581 = .ok (.if_icmp .le 65, 3) := by decide +kernel
theorem dL_law_584 : decode cL_law 584 = .ok (.iload 9, 2) := by decide +kernel
theorem dL_law_586 : decode cL_law 586 = .ok (.bipush 24, 2) := by decide +kernel
theorem dL_law_588 : decode cL_law 588 = .ok (.ishr, 1) := by decide +kernel
theorem dL_law_589 : decode cL_law 589 = .ok (.iconst 3, 1) := by decide +kernel
theorem dL_law_590 : decode cL_law 590 = .ok (.iand, 1) := by decide +kernel
theorem dL_law_591 : decode cL_law 591 = .ok (.ifCond .ne 55, 3) := by decide +kernel
theorem dL_law_594 : decode cL_law 594 = .ok (.aload_n 1, 1) := by decide +kernel
theorem dL_law_595 : decode cL_law 595 = .ok (.invokestatic 203, 3) := by decide +kernel
theorem dL_law_598 : decode cL_law 598 = .ok (.lstore 18, 2) := by decide +kernel
theorem dL_law_600 : decode cL_law 600 = .ok (.aload_n 1, 1) := by decide +kernel
theorem dL_law_601 : decode cL_law 601 = .ok (.iconst 1, 1) := by decide +kernel
theorem dL_law_602 : decode cL_law 602 = .ok (.invokestatic 211, 3) := by decide +kernel
theorem dL_law_605 : decode cL_law 605 = .ok (.istore 20, 2) := by decide +kernel
theorem dL_law_607 : decode cL_law 607 = .ok (.aload_n 1, 1) := by decide +kernel
theorem dL_law_608 : decode cL_law 608 = .ok (.invokestatic 213, 3) := by decide +kernel
theorem dL_law_611 : decode cL_law 611 = .ok (.ifCond .lt 33, 3) := by decide +kernel
theorem dL_law_614 : decode cL_law 614 = .ok (.aload_n 1, 1) := by decide +kernel
theorem dL_law_615 : decode cL_law 615 = .ok (.invokestatic 203, 3) := by decide +kernel
theorem dL_law_618 : decode cL_law 618 = .ok (.lload 15, 2) := by decide +kernel
theorem dL_law_620 : decode cL_law 620 = .ok (.lcmp, 1) := by decide +kernel
theorem dL_law_621 : decode cL_law 621 = .ok (.ifCond .ne 23, 3) := by decide +kernel
theorem dL_law_624 : decode cL_law 624 = .ok (.aload_n 1, 1) := by decide +kernel
theorem dL_law_625 : decode cL_law 625 = .ok (.iconst 1, 1) := by decide +kernel
theorem dL_law_626 : decode cL_law 626 = .ok (.invokestatic 216, 3) := by decide +kernel
theorem dL_law_629 : decode cL_law 629 = .ok (.iload 20, 2) := by decide +kernel
theorem dL_law_631 : decode cL_law 631 = .ok (.if_icmp .ne 13, 3) := by decide +kernel
theorem dL_law_634 : decode cL_law 634 = .ok (.aload_n 1, 1) := by decide +kernel
theorem dL_law_635 : decode cL_law 635 = .ok (.invokestatic 203, 3) := by decide +kernel
theorem dL_law_638 : decode cL_law 638 = .ok (.lload 18, 2) := by decide +kernel
theorem dL_law_640 : decode cL_law 640 = .ok (.lcmp, 1) := by decide +kernel
theorem dL_law_641 : decode cL_law 641 = .ok (.ifCond .eq 5, 3) := by decide +kernel
theorem dL_law_644 : decode cL_law 644 = .ok (.iconst 0, 1) := by decide +kernel
theorem dL_law_645 : decode cL_law 645 = .ok (.ireturn, 1) := by decide +kernel
theorem dL_law_646 : decode cL_law 646 = .ok (.iload 17, 2) := by decide +kernel
theorem dL_law_648 : decode cL_law 648 = .ok (.iload 11, 2) := by decide +kernel
theorem dL_law_650 : decode cL_law 650 = .ok (.iload 12, 2) := by decide +kernel
theorem dL_law_652 : decode cL_law 652 = .ok (.iload 13, 2) := by decide +kernel
theorem dL_law_654 : decode cL_law 654 = .ok (.iload 14, 2) := by decide +kernel
theorem dL_law_656 : decode cL_law 656 = .ok (.aload_n 2, 1) := by decide +kernel
theorem dL_law_657 : decode cL_law 657 = .ok (.aload_n 3, 1) := by decide +kernel
theorem dL_law_658 : decode cL_law 658 = .ok (.aload 4, 2) := by decide +kernel
theorem dL_law_660 : decode cL_law 660 = .ok (.aload 7, 2) := by decide +kernel
theorem dL_law_662 : decode cL_law 662 = .ok (.invokestatic 218, 3) := by decide +kernel
theorem dL_law_665 : decode cL_law 665 = .ok (.if_icmp .ne 18, 3) := by decide +kernel
theorem dL_law_668 : decode cL_law 668 = .ok (.aload_n 1, 1) := by decide +kernel
theorem dL_law_669 : decode cL_law 669 = .ok (.aload_n 2, 1) := by decide +kernel
theorem dL_law_670 : decode cL_law 670 = .ok (.aload_n 3, 1) := by decide +kernel
theorem dL_law_671 : decode cL_law 671 = .ok (.aload 4, 2) := by decide +kernel
theorem dL_law_673 : decode cL_law 673 = .ok (.aload 6, 2) := by decide +kernel
theorem dL_law_675 : decode cL_law 675 = .ok (.aload 7, 2) := by decide +kernel
theorem dL_law_677 : decode cL_law 677 = .ok (.invokestatic 199, 3) := by decide +kernel
theorem dL_law_680 : decode cL_law 680 = .ok (.ifCond .ne 5, 3) := by decide +kernel
theorem dL_law_683 : decode cL_law 683 = .ok (.iconst 0, 1) := by decide +kernel
theorem dL_law_684 : decode cL_law 684 = .ok (.ireturn, 1) := by decide +kernel
theorem dL_law_685 : decode cL_law 685 = .ok (.iinc 8 1, 3) := by decide +kernel
theorem dL_law_688 : decode cL_law 688 = .ok (.goto (-580), 3) := by decide +kernel
theorem dL_law_691 : decode cL_law 691 = .ok (.iconst 1, 1) := by decide +kernel
theorem dL_law_692 : decode cL_law 692 = .ok (.ireturn, 1) := by decide +kernel
