theorem dL_tick_360 : decode cL_tick 360 = .ok (.iadd, 1) := by decide +kernel
theorem dL_tick_361 : decode cL_tick 361 = .ok (.iaload, 1) := by decide +kernel
theorem dL_tick_362 : decode cL_tick 362 = .ok (.bipush 127, 2) := by decide +kernel
theorem dL_tick_364 : decode cL_tick 364 = .ok (.iand, 1) := by decide +kernel
theorem dL_tick_365 : decode cL_tick 365 = .ok (.aload_n 2, 1) := by decide +kernel
theorem dL_tick_366 : decode cL_tick 366 = .ok (.bipush 16, 2) := by decide +kernel
theorem dL_tick_368 : decode cL_tick 368 = .ok (.iaload, 1) := by decide +kernel
theorem dL_tick_369 : decode cL_tick 369 = .ok (.if_icmp .ne 47, 3) := by decide +kernel
theorem dL_tick_372 : decode cL_tick 372 = .ok (.aload 5, 2) := by decide +kernel
theorem dL_tick_374 : decode cL_tick 374 = .ok (.aload_n 2, 1) := by decide +kernel
theorem dL_tick_375 : decode cL_tick 375 = .ok (.bipush 19, 2) := by decide +kernel
theorem dL_tick_377 : decode cL_tick 377 = .ok (.iaload, 1) := by decide +kernel
theorem dL_tick_378 : decode cL_tick 378 = .ok (.iload 6, 2) := by decide +kernel
theorem dL_tick_380 : decode cL_tick 380 = .ok (.bipush 8, 2) := by decide +kernel
theorem dL_tick_382 : decode cL_tick 382 = .ok (.iconst 1, 1) := by decide +kernel
theorem dL_tick_383 : decode cL_tick 383 = .ok (.iload 6, 2) := by decide +kernel
theorem dL_tick_385 : decode cL_tick 385 = .ok (.aload_n 2, 1) := by decide +kernel
theorem dL_tick_386 : decode cL_tick 386 = .ok (.aload 5, 2) := by decide +kernel
theorem dL_tick_388 : decode cL_tick 388 = .ok (.invokestatic 118, 3) := by decide +kernel
theorem dL_tick_391 : decode cL_tick 391 = .ok (.iadd, 1) := by decide +kernel
theorem dL_tick_392 : decode cL_tick 392 = .ok (.imul, 1) := by decide +kernel
theorem dL_tick_393 : decode cL_tick 393 = .ok (.iadd, 1) := by decide +kernel
theorem dL_tick_394 : decode cL_tick 394 = .ok (.sipush 1024, 3) := by decide +kernel
theorem dL_tick_397 : decode cL_tick 397 = .ok (.iload 6, 2) := by decide +kernel
theorem dL_tick_399 : decode cL_tick 399 = .ok (.aload_n 1, 1) := by decide +kernel
theorem dL_tick_400 : decode cL_tick 400 = .ok (.aload_n 2, 1) := by decide +kernel
theorem dL_tick_401 : decode cL_tick 401 = .ok (.aload_n 3, 1) := by decide +kernel
theorem dL_tick_402 : decode cL_tick 402 = .ok (.invokestatic 122, 3) := by decide +kernel
theorem dL_tick_405 : decode cL_tick 405 = .ok (.imul, 1) := by decide +kernel
theorem dL_tick_406 : decode cL_tick 406 = .ok (.iadd, 1) := by decide +kernel
theorem dL_tick_407 : decode cL_tick 407 = .ok (.iastore, 1) := by decide +kernel
theorem dL_tick_408 : decode cL_tick 408 = .ok (.aload_n 2, 1) := by decide +kernel
theorem dL_tick_409 : decode cL_tick 409 = .ok (.bipush 19, 2) := by decide +kernel
theorem dL_tick_411 : decode cL_tick 411 = .ok (.dup2, 1) := by decide +kernel
theorem dL_tick_412 : decode cL_tick 412 = .ok (.iaload, 1) := by decide +kernel
theorem dL_tick_413 : decode cL_tick 413 = .ok (.iconst 1, 1) := by decide +kernel
theorem dL_tick_414 : decode cL_tick 414 = .ok (.iadd, 1) := by decide +kernel
theorem dL_tick_415 : decode cL_tick 415 = .ok (.iastore, 1) := by decide +kernel
theorem dL_tick_416 : decode cL_tick 416 = .ok (.iinc 6 1, 3) := by decide +kernel
theorem dL_tick_419 : decode cL_tick 419 = .ok (.goto (-86), 3) := by decide +kernel
theorem dL_tick_422 : decode cL_tick 422 = .ok (.aload_n 2, 1) := by decide +kernel
theorem dL_tick_423 : decode cL_tick 423 = .ok (.bipush 18, 2) := by decide +kernel
theorem dL_tick_425 : decode cL_tick 425 = .ok (.dup2, 1) := by decide +kernel
theorem dL_tick_426 : decode cL_tick 426 = .ok (.iaload, 1) := by decide +kernel
theorem dL_tick_427 : decode cL_tick 427 = .ok (.iconst 1, 1) := by decide +kernel
theorem dL_tick_428 : decode cL_tick 428 = .ok (.iadd, 1) := by decide +kernel
theorem dL_tick_429 : decode cL_tick 429 = .ok (.iastore, 1) := by decide +kernel
theorem dL_tick_430 : decode cL_tick 430 = .ok (.aload_n 2, 1) := by decide +kernel
theorem dL_tick_431 : decode cL_tick 431 = .ok (.bipush 18, 2) := by decide +kernel
theorem dL_tick_433 : decode cL_tick 433 = .ok (.iaload, 1) := by decide +kernel
theorem dL_tick_434 : decode cL_tick 434 = .ok (.bipush 96, 2) := by decide +kernel
theorem dL_tick_436 : decode cL_tick 436 = .ok (.if_icmp .ne 38, 3) := by decide +kernel
theorem dL_tick_439 : decode cL_tick 439 = .ok (.aload_n 2, 1) := by decide +kernel
theorem dL_tick_440 : decode cL_tick 440 = .ok (.bipush 18, 2) := by decide +kernel
theorem dL_tick_442 : decode cL_tick 442 = .ok (.iconst 0, 1) := by decide +kernel
theorem dL_tick_443 : decode cL_tick 443 = .ok (.iastore, 1) := by decide +kernel
theorem dL_tick_444 : decode cL_tick 444 = .ok (.aload_n 2, 1) := by decide +kernel
theorem dL_tick_445 : decode cL_tick 445 = .ok (.bipush 17, 2) := by decide +kernel
theorem dL_tick_447 : decode cL_tick 447 = .ok (.dup2, 1) := by decide +kernel
theorem dL_tick_448 : decode cL_tick 448 = .ok (.iaload, 1) := by decide +kernel
theorem dL_tick_449 : decode cL_tick 449 = .ok (.iconst 1, 1) := by decide +kernel
theorem dL_tick_450 : decode cL_tick 450 = .ok (.iadd, 1) := by decide +kernel
theorem dL_tick_451 : decode cL_tick 451 = .ok (.iastore, 1) := by decide +kernel
theorem dL_tick_452 : decode cL_tick 452 = .ok (.iconst 0, 1) := by decide +kernel
theorem dL_tick_453 : decode cL_tick 453 = .ok (.istore 6, 2) := by decide +kernel
theorem dL_tick_455 : decode cL_tick 455 = .ok (.iload 6, 2) := by decide +kernel
theorem dL_tick_457 : decode cL_tick 457 = .ok (.bipush 48, 2) := by decide +kernel
theorem dL_tick_459 : decode cL_tick 459 = .ok (.if_icmp .ge 15, 3) := by decide +kernel
theorem dL_tick_462 : decode cL_tick 462 = .ok (.aload 4, 2) := by decide +kernel
theorem dL_tick_464 : decode cL_tick 464 = .ok (.iload 6, 2) := by decide +kernel
theorem dL_tick_466 : decode cL_tick 466 = .ok (.iconst 0, 1) := by decide +kernel
theorem dL_tick_467 : decode cL_tick 467 = .ok (.iastore, 1) := by decide +kernel
theorem dL_tick_468 : decode cL_tick 468 = .ok (.iinc 6 1, 3) := by decide +kernel
theorem dL_tick_471 : decode cL_tick 471 = .ok (.goto (-16), 3) := by decide +kernel
theorem dL_tick_474 : decode cL_tick 474 = .ok (.return_, 1) := by decide +kernel
theorem dL_sets_0 : decode cL_sets 0 = .ok (.iload_n 0, 1) := by decide +kernel
theorem dL_sets_1 : decode cL_sets 1 = .ok (.ifCond .ne 54, 3) := by decide +kernel
theorem dL_sets_4 : decode cL_sets 4 = .ok (.aload 4, 2) := by decide +kernel
theorem dL_sets_6 : decode cL_sets 6 = .ok (.iload_n 1, 1) := by decide +kernel
theorem dL_sets_7 : decode cL_sets 7 = .ok (.iload_n 2, 1) := by decide +kernel
theorem dL_sets_8 : decode cL_sets 8 = .ok (.iastore, 1) := by decide +kernel
theorem dL_sets_9 : decode cL_sets 9 = .ok (.aload 4, 2) := by decide +kernel
theorem dL_sets_11 : decode cL_sets 11 = .ok (.bipush 8, 2) := by decide +kernel
theorem dL_sets_13 : decode cL_sets 13 = .ok (.iload_n 1, 1) := by decide +kernel
theorem dL_sets_14 : decode cL_sets 14 = .ok (.iadd, 1) := by decide +kernel
theorem dL_sets_15 : decode cL_sets 15 = .ok (.iload_n 3, 1) := by decide +kernel
theorem dL_sets_16 : decode cL_sets 16 = .ok (.iconst 3, 1) := by decide +kernel
theorem dL_sets_17 : decode cL_sets 17 = .ok (.irem, 1) := by decide +kernel
theorem dL_sets_18 : decode cL_sets 18 = .ok (.iastore, 1) := by decide +kernel
theorem dL_sets_19 : decode cL_sets 19 = .ok (.aload 4, 2) := by decide +kernel
theorem dL_sets_21 : decode cL_sets 21 = .ok (.bipush 16, 2) := by decide +kernel
theorem dL_sets_23 : decode cL_sets 23 = .ok (.iload_n 1, 1) := by decide +kernel
theorem dL_sets_24 : decode cL_sets 24 = .ok (.iadd, 1) := by decide +kernel
theorem dL_sets_25 : decode cL_sets 25 = .ok (.iconst 2, 1) := by decide +kernel
theorem dL_sets_26 : decode cL_sets 26 = .ok (.iload_n 3, 1) := by decide +kernel
theorem dL_sets_27 : decode cL_sets 27 = .ok (.bipush 11, 2) := by decide +kernel
theorem dL_sets_29 : decode cL_sets 29 = .ok (.irem, 1) := by decide +kernel
theorem dL_sets_30 : decode cL_sets 30 = .ok (.iadd, 1) := by decide +kernel
theorem dL_sets_31 : decode cL_sets 31 = .ok (.iastore, 1) := by decide +kernel
theorem dL_sets_32 : decode cL_sets 32 = .ok (.aload 4, 2) := by decide +kernel
theorem dL_sets_34 : decode cL_sets 34 = .ok (.bipush 24, 2) := by decide +kernel
theorem dL_sets_36 : decode cL_sets 36 = .ok (.iload_n 1, 1) := by decide +kernel
theorem dL_sets_37 : decode cL_sets 37 = .ok (.iadd, 1) := by decide +kernel
theorem dL_sets_38 : decode cL_sets 38 = .ok (.iload_n 3, 1) := by decide +kernel
theorem dL_sets_39 : decode cL_sets 39 = .ok (.bipush 12, 2) := by decide +kernel
theorem dL_sets_41 : decode cL_sets 41 = .ok (.irem, 1) := by decide +kernel
theorem dL_sets_42 : decode cL_sets 42 = .ok (.iastore, 1) := by decide +kernel
theorem dL_sets_43 : decode cL_sets 43 = .ok (.iload_n 1, 1) := by decide +kernel
theorem dL_sets_44 : decode cL_sets 44 = .ok (.aload 6, 2) := by decide +kernel
theorem dL_sets_46 : decode cL_sets 46 = .ok (.bipush 18, 2) := by decide +kernel
theorem dL_sets_48 : decode cL_sets 48 = .ok (.iaload, 1) := by decide +kernel
theorem dL_sets_49 : decode cL_sets 49 = .ok (.aload 4, 2) := by decide +kernel
theorem dL_sets_51 : decode cL_sets 51 = .ok (.invokestatic 104, 3) := by decide +kernel
theorem dL_sets_54 : decode cL_sets 54 = .ok (.ireturn, 1) := by decide +kernel
theorem dL_sets_55 : decode cL_sets 55 = .ok (.iload_n 0, 1) := by decide +kernel
theorem dL_sets_56 : decode cL_sets 56 = .ok (.iconst 1, 1) := by decide +kernel
theorem dL_sets_57 : decode cL_sets 57 = .ok (.if_icmp .ne 17, 3) := by decide +kernel
theorem dL_sets_60 : decode cL_sets 60 = .ok (.aload 5, 2) := by decide +kernel
theorem dL_sets_62 : decode cL_sets 62 = .ok (.iload_n 1, 1) := by decide +kernel
theorem dL_sets_63 : decode cL_sets 63 = .ok (.iaload, 1) := by decide +kernel
theorem dL_sets_64 : decode cL_sets 64 = .ok (.istore 8, 2) := by decide +kernel
theorem dL_sets_66 : decode cL_sets 66 = .ok (.aload 5, 2) := by decide +kernel
theorem dL_sets_68 : decode cL_sets 68 = .ok (.iload_n 1, 1) := by decide +kernel
theorem dL_sets_69 : decode cL_sets 69 = .ok (.iload_n 2, 1) := by decide +kernel
theorem dL_sets_70 : decode cL_sets 70 = .ok (.iastore, 1) := by decide +kernel
theorem dL_sets_71 : decode cL_sets 71 = .ok (.iload 8, 2) := by decide +kernel
theorem dL_sets_73 : decode cL_sets 73 = .ok (.ireturn, 1) := by decide +kernel
theorem dL_sets_74 : decode cL_sets 74 = .ok (.iload_n 0, 1) := by decide +kernel
theorem dL_sets_75 : decode cL_sets 75 = .ok (.iconst 4, 1) := by decide +kernel
theorem dL_sets_76 : decode cL_sets 76 = .ok (.if_icmp .ge 45, 3) := by decide +kernel
theorem dL_sets_79 : decode cL_sets 79 = .ok (.iload_n 0, 1) := by decide +kernel
theorem dL_sets_80 : decode cL_sets 80 = .ok (.iconst 2, 1) := by decide +kernel
theorem dL_sets_81 : decode cL_sets 81 = .ok (.if_icmp .ne 10, 3) := by decide +kernel
theorem dL_sets_84 : decode cL_sets 84 = .ok (.bipush 6, 2) := by decide +kernel
theorem dL_sets_86 : decode cL_sets 86 = .ok (.iload_n 1, 1) := by decide +kernel
theorem dL_sets_87 : decode cL_sets 87 = .ok (.iadd, 1) := by decide +kernel
theorem dL_sets_88 : decode cL_sets 88 = .ok (.goto 4, 3) := by decide +kernel
theorem dL_sets_91 : decode cL_sets 91 = .ok (.iload_n 1, 1) := by decide +kernel
theorem dL_sets_92 : decode cL_sets 92 = .ok (.istore 8, 2) := by decide +kernel
theorem dL_sets_94 : decode cL_sets 94 = .ok (.aload 6, 2) := by decide +kernel
theorem dL_sets_96 : decode cL_sets 96 = .ok (.iload 8, 2) := by decide +kernel
theorem dL_sets_98 : decode cL_sets 98 = .ok (.iaload, 1) := by decide +kernel
theorem dL_sets_99 : decode cL_sets 99 = .ok (.iload_n 0, 1) := by decide +kernel
theorem dL_sets_100 : decode cL_sets 100 = .ok (.iconst 3, 1) := by decide +kernel
theorem dL_sets_101 : decode cL_sets 101 = .ok (.if_icmp .ne 7, 3) := by decide +kernel
theorem dL_sets_104 : decode cL_sets 104 = .ok (.iconst 1, 1) := by decide +kernel
theorem dL_sets_105 : decode cL_sets 105 = .ok (.goto 4, 3) := by decide +kernel
theorem dL_sets_108 : decode cL_sets 108 = .ok (.iconst 0, 1) := by decide +kernel
theorem dL_sets_109 : decode cL_sets 109 = .ok (.iadd, 1) := by decide +kernel
theorem dL_sets_110 : decode cL_sets 110 = .ok (.istore 9, 2) := by decide +kernel
theorem dL_sets_112 : decode cL_sets 112 = .ok (.aload 6, 2) := by decide +kernel
theorem dL_sets_114 : decode cL_sets 114 = .ok (.iload 8, 2) := by decide +kernel
theorem dL_sets_116 : decode cL_sets 116 = .ok (.iload_n 2, 1) := by decide +kernel
theorem dL_sets_117 : decode cL_sets 117 = .ok (.iastore, 1) := by decide +kernel
theorem dL_sets_118 : decode cL_sets 118 = .ok (.iload 9, 2) := by decide +kernel
theorem dL_sets_120 : decode cL_sets 120 = .ok (.ireturn, 1) := by decide +kernel
theorem dL_sets_121 : decode cL_sets 121 = .ok (.iload_n 0, 1) := by decide +kernel
theorem dL_sets_122 : decode cL_sets 122 = .ok (.iconst 4, 1) := by decide +kernel
theorem dL_sets_123 : decode cL_sets 123 = .ok (.if_icmp .ne 25, 3) := by decide +kernel
theorem dL_sets_126 : decode cL_sets 126 = .ok (.aload 6, 2) := by decide +kernel
theorem dL_sets_128 : decode cL_sets 128 = .ok (.bipush 15, 2) := by decide +kernel
theorem dL_sets_130 : decode cL_sets 130 = .ok (.iaload, 1) := by decide +kernel
theorem dL_sets_131 : decode cL_sets 131 = .ok (.istore 8, 2) := by decide +kernel
theorem dL_sets_133 : decode cL_sets 133 = .ok (.aload 6, 2) := by decide +kernel
theorem dL_sets_135 : decode cL_sets 135 = .ok (.bipush 15, 2) := by decide +kernel
theorem dL_sets_137 : decode cL_sets 137 = .ok (.iload_n 1, 1) := by decide +kernel
theorem dL_sets_138 : decode cL_sets 138 = .ok (.iastore, 1) := by decide +kernel
theorem dL_sets_139 : decode cL_sets 139 = .ok (.aload 6, 2) := by decide +kernel
theorem dL_sets_141 : decode cL_sets 141 = .ok (.bipush 16, 2) := by decide +kernel
theorem dL_sets_143 : decode cL_sets 143 = .ok (.iload_n 2, 1) := by decide +kernel
theorem dL_sets_144 : decode cL_sets 144 = .ok (.iastore, 1) := by decide +kernel
theorem dL_sets_145 : decode cL_sets 145 = .ok (.iload 8, 2) := by decide +kernel
theorem dL_sets_147 : decode cL_sets 147 = .ok (.ireturn, 1) := by decide +kernel
theorem dL_sets_148 : decode cL_sets 148 = .ok (.iload_n 1, 1) := by decide +kernel
theorem dL_sets_149 : decode cL_sets 149 = .ok (.aload 6, 2) := by decide +kernel
theorem dL_sets_151 : decode cL_sets 151 = .ok (.bipush 19, 2) := by decide +kernel
theorem dL_sets_153 : decode cL_sets 153 = .ok (.iaload, 1) := by decide +kernel
theorem dL_sets_154 : decode cL_sets 154 = .ok (.if_icmp .lt 6, 3) := by decide +kernel
theorem dL_sets_157 : decode cL_sets 157 = .ok (.bipush (-101), 2) := by decide +kernel
theorem dL_sets_159 : decode cL_sets 159 = .ok (.ireturn, 1) := by decide +kernel
theorem dL_sets_160 : decode cL_sets 160 = .ok (.aload 7, 2) := by decide +kernel
theorem dL_sets_162 : decode cL_sets 162 = .ok (.iload_n 1, 1) := by decide +kernel
theorem dL_sets_163 : decode cL_sets 163 = .ok (.iaload, 1) := by decide +kernel
theorem dL_sets_164 : decode cL_sets 164 = .ok (.bipush 8, 2) := by decide +kernel
theorem dL_sets_166 : decode cL_sets 166 = .ok (.ishr, 1) := by decide +kernel
theorem dL_sets_167 : decode cL_sets 167 = .ok (.iconst 3, 1) := by decide +kernel
theorem dL_sets_168 : decode cL_sets 168 = .ok (.iand, 1) := by decide +kernel
theorem dL_sets_169 : decode cL_sets 169 = .ok (.ifCond .le 6, 3) := by decide +kernel
theorem dL_sets_172 : decode cL_sets 172 = .ok (.bipush (-103), 2) := by decide +kernel
theorem dL_sets_174 : decode cL_sets 174 = .ok (.ireturn, 1) := by decide +kernel
theorem dL_sets_175 : decode cL_sets 175 = .ok (.aload 7, 2) := by decide +kernel
theorem dL_sets_177 : decode cL_sets 177 = .ok (.iload_n 1, 1) := by decide +kernel
theorem dL_sets_178 : decode cL_sets 178 = .ok (.iaload, 1) := by decide +kernel
theorem dL_sets_179 : decode cL_sets 179 = .ok (.bipush 10, 2) := by decide +kernel
theorem dL_sets_181 : decode cL_sets 181 = .ok (.ishr, 1) := by decide +kernel
theorem dL_sets_182 : decode cL_sets 182 = .ok (.iconst 2, 1) := by decide +kernel
theorem dL_sets_183 : decode cL_sets 183 = .ok (.if_icmp .ge 7, 3) := by decide +kernel
theorem dL_sets_186 : decode cL_sets 186 = .ok (.iconst 1, 1) := by decide +kernel
theorem dL_sets_187 : decode cL_sets 187 = .ok (.goto 4, 3) := by decide +kernel
theorem dL_sets_190 : decode cL_sets 190 = .ok (.iconst 0, 1) := by decide +kernel
theorem dL_sets_191 : decode cL_sets 191 = .ok (.istore 8, 2) := by decide +kernel
theorem dL_sets_193 : decode cL_sets 193 = .ok (.aload 7, 2) := by decide +kernel
theorem dL_sets_195 : decode cL_sets 195 = .ok (.iload_n 1, 1) := by decide +kernel
theorem dL_sets_196 : decode cL_sets 196 = .ok (.dup2, 1) := by decide +kernel
theorem dL_sets_197 : decode cL_sets 197 = .ok (.iaload, 1) := by decide +kernel
theorem dL_sets_198 : decode cL_sets 198 = .ok (.iload 8, 2) := by decide +kernel
theorem dL_sets_200 : decode cL_sets 200 = .ok (.ifCond .eq 9, 3) := by decide +kernel
theorem dL_sets_203 : decode cL_sets 203 = .ok (.sipush 512, 3) := by decide +kernel
theorem dL_sets_206 : decode cL_sets 206 = .ok (.goto 6, 3) := by decide +kernel
theorem dL_sets_209 : decode cL_sets 209 = .ok (.sipush 256, 3) := by decide +kernel
theorem dL_sets_212 : decode cL_sets 212 = .ok (.iadd, 1) := by decide +kernel
theorem dL_sets_213 : decode cL_sets 213 = .ok (.iastore, 1) := by decide +kernel
theorem dL_sets_214 : decode cL_sets 214 = .ok (.iload 8, 2) := by decide +kernel
theorem dL_sets_216 : decode cL_sets 216 = .ok (.ifCond .eq 7, 3) := by decide +kernel
theorem dL_sets_219 : decode cL_sets 219 = .ok (.iconst 1, 1) := by decide +kernel
theorem dL_sets_220 : decode cL_sets 220 = .ok (.goto 4, 3) := by decide +kernel
theorem dL_sets_223 : decode cL_sets 223 = .ok (.iconst 0, 1) := by decide +kernel
theorem dL_sets_224 : decode cL_sets 224 = .ok (.ireturn, 1) := by decide +kernel
theorem dL_call_0 : decode cL_call 0 = .ok (.iload_n 1, 1) := by decide +kernel
theorem dL_call_1 : decode cL_call 1 = .ok (.tableswitch 86 0 4 #[35, 58, 65, 72, 79], 35) := by decide +kernel
theorem dL_call_36 : decode cL_call 36 = .ok (.aload_n 0, 1) := by decide +kernel
theorem dL_call_37 : decode cL_call 37 = .ok (.iload_n 2, 1) := by decide +kernel
theorem dL_call_38 : decode cL_call 38 = .ok (.iload_n 3, 1) := by decide +kernel
theorem dL_call_39 : decode cL_call 39 = .ok (.iload 4, 2) := by decide +kernel
theorem dL_call_41 : decode cL_call 41 = .ok (.iconst 3, 1) := by decide +kernel
theorem dL_call_42 : decode cL_call 42 = .ok (.irem, 1) := by decide +kernel
theorem dL_call_43 : decode cL_call 43 = .ok (.iconst 2, 1) := by decide +kernel
theorem dL_call_44 : decode cL_call 44 = .ok (.iload 4, 2) := by decide +kernel
theorem dL_call_46 : decode cL_call 46 = .ok (.bipush 11, 2) := by decide +kernel
theorem dL_call_48 : decode cL_call 48 = .ok (.irem, 1) := by decide +kernel
theorem dL_call_49 : decode cL_call 49 = .ok (.iadd, 1) := by decide +kernel
theorem dL_call_50 : decode cL_call 50 = .ok (.iload 4, 2) := by decide +kernel
theorem dL_call_52 : decode cL_call 52 = .ok (.bipush 12, 2) := by decide +kernel
theorem dL_call_54 : decode cL_call 54 = .ok (.irem, 1) := by decide +kernel
theorem dL_call_55 : decode cL_call 55 = .ok (.invokestatic 125, 3) := by decide +kernel
theorem dL_call_58 : decode cL_call 58 = .ok (.ireturn, 1) := by decide +kernel
theorem dL_call_59 : decode cL_call 59 = .ok (.aload_n 0, 1) := by decide +kernel
theorem dL_call_60 : decode cL_call 60 = .ok (.iload_n 2, 1) := by decide +kernel
theorem dL_call_61 : decode cL_call 61 = .ok (.iload_n 3, 1) := by decide +kernel
theorem dL_call_62 : decode cL_call 62 = .ok (.invokestatic 128, 3) := by decide +kernel
theorem dL_call_65 : decode cL_call 65 = .ok (.ireturn, 1) := by decide +kernel
theorem dL_call_66 : decode cL_call 66 = .ok (.aload_n 0, 1) := by decide +kernel
theorem dL_call_67 : decode cL_call 67 = .ok (.iload_n 2, 1) := by decide +kernel
theorem dL_call_68 : decode cL_call 68 = .ok (.iload_n 3, 1) := by decide +kernel
theorem dL_call_69 : decode cL_call 69 = .ok (.invokestatic 131, 3) := by decide +kernel
theorem dL_call_72 : decode cL_call 72 = .ok (.ireturn, 1) := by decide +kernel
theorem dL_call_73 : decode cL_call 73 = .ok (.aload_n 0, 1) := by decide +kernel
theorem dL_call_74 : decode cL_call 74 = .ok (.iload_n 2, 1) := by decide +kernel
theorem dL_call_75 : decode cL_call 75 = .ok (.iload_n 3, 1) := by decide +kernel
theorem dL_call_76 : decode cL_call 76 = .ok (.invokestatic 133, 3) := by decide +kernel
theorem dL_call_79 : decode cL_call 79 = .ok (.ireturn, 1) := by decide +kernel
theorem dL_call_80 : decode cL_call 80 = .ok (.aload_n 0, 1) := by decide +kernel
theorem dL_call_81 : decode cL_call 81 = .ok (.iload_n 2, 1) := by decide +kernel
theorem dL_call_82 : decode cL_call 82 = .ok (.iload_n 3, 1) := by decide +kernel
theorem dL_call_83 : decode cL_call 83 = .ok (.invokestatic 135, 3) := by decide +kernel
theorem dL_call_86 : decode cL_call 86 = .ok (.ireturn, 1) := by decide +kernel
theorem dL_call_87 : decode cL_call 87 = .ok (.aload_n 0, 1) := by decide +kernel
theorem dL_call_88 : decode cL_call 88 = .ok (.iload_n 2, 1) := by decide +kernel
theorem dL_call_89 : decode cL_call 89 = .ok (.invokestatic 137, 3) := by decide +kernel
theorem dL_call_92 : decode cL_call 92 = .ok (.ireturn, 1) := by decide +kernel
theorem dL_isSo_0 : decode cL_isSo 0 = .ok (.aload_n 3, 1) := by decide +kernel
theorem dL_isSo_1 : decode cL_isSo 1 = .ok (.bipush 18, 2) := by decide +kernel
theorem dL_isSo_3 : decode cL_isSo 3 = .ok (.iaload, 1) := by decide +kernel
theorem dL_isSo_4 : decode cL_isSo 4 = .ok (.bipush 6, 2) := by decide +kernel
theorem dL_isSo_6 : decode cL_isSo 6 = .ok (.irem, 1) := by decide +kernel
theorem dL_isSo_7 : decode cL_isSo 7 = .ok (.istore 6, 2) := by decide +kernel
theorem dL_isSo_9 : decode cL_isSo 9 = .ok (.aload_n 0, 1) := by decide +kernel
theorem dL_isSo_10 : decode cL_isSo 10 = .ok (.invokevirtual 140, 3) := by decide +kernel
theorem dL_isSo_13 : decode cL_isSo 13 = .ok (.bipush 96, 2) := by decide +kernel
theorem dL_isSo_15 : decode cL_isSo 15 = .ok (.aload_n 3, 1) := by decide +kernel
theorem dL_isSo_16 : decode cL_isSo 16 = .ok (.bipush 17, 2) := by decide +kernel
theorem dL_isSo_18 : decode cL_isSo 18 = .ok (.iaload, 1) := by decide +kernel
theorem dL_isSo_19 : decode cL_isSo 19 = .ok (.imul, 1) := by decide +kernel
theorem dL_isSo_20 : decode cL_isSo 20 = .ok (.aload_n 3, 1) := by decide +kernel
theorem dL_isSo_21 : decode cL_isSo 21 = .ok (.bipush 18, 2) := by decide +kernel
theorem dL_isSo_23 : decode cL_isSo 23 = .ok (.iaload, 1) := by decide +kernel
theorem dL_isSo_24 : decode cL_isSo 24 = .ok (.iadd, 1) := by decide +kernel
theorem dL_isSo_25 : decode cL_isSo 25 = .ok (.if_icmp .ne 39, 3) := by decide +kernel
theorem dL_isSo_28 : decode cL_isSo 28 = .ok (.aload_n 0, 1) := by decide +kernel
theorem dL_isSo_29 : decode cL_isSo 29 = .ok (.invokevirtual 143, 3) := by decide +kernel
theorem dL_isSo_32 : decode cL_isSo 32 = .ok (.aload_n 3, 1) := by decide +kernel
theorem dL_isSo_33 : decode cL_isSo 33 = .ok (.bipush 19, 2) := by decide +kernel
theorem dL_isSo_35 : decode cL_isSo 35 = .ok (.iaload, 1) := by decide +kernel
theorem dL_isSo_36 : decode cL_isSo 36 = .ok (.if_icmp .ne 28, 3) := by decide +kernel
theorem dL_isSo_39 : decode cL_isSo 39 = .ok (.aload_n 0, 1) := by decide +kernel
theorem dL_isSo_40 : decode cL_isSo 40 = .ok (.aload_n 3, 1) := by decide +kernel
theorem dL_isSo_41 : decode cL_isSo 41 = .ok (.bipush 18, 2) := by decide +kernel
theorem dL_isSo_43 : decode cL_isSo 43 = .ok (.iaload, 1) := by decide +kernel
theorem dL_isSo_44 : decode cL_isSo 44 = .ok (.iconst 4, 1) := by decide +kernel
theorem dL_isSo_45 : decode cL_isSo 45 = .ok (.idiv, 1) := by decide +kernel
theorem dL_isSo_46 : decode cL_isSo 46 = .ok (.invokestatic 146, 3) := by decide +kernel
theorem dL_isSo_49 : decode cL_isSo 49 = .ok (.aload_n 2, 1) := by decide +kernel
theorem dL_isSo_50 : decode cL_isSo 50 = .ok (.aload_n 3, 1) := by decide +kernel
theorem dL_isSo_51 : decode cL_isSo 51 = .ok (.bipush 18, 2) := by decide +kernel
theorem dL_isSo_53 : decode cL_isSo 53 = .ok (.iaload, 1) := by decide +kernel
theorem dL_isSo_54 : decode cL_isSo 54 = .ok (.iconst 4, 1) := by decide +kernel
theorem dL_isSo_55 : decode cL_isSo 55 = .ok (.idiv, 1) := by decide +kernel
theorem dL_isSo_56 : decode cL_isSo 56 = .ok (.iaload, 1) := by decide +kernel
theorem dL_isSo_57 : decode cL_isSo 57 = .ok (.if_icmp .ne 7, 3) := by decide +kernel
theorem dL_isSo_60 : decode cL_isSo 60 = .ok (.iconst 1, 1) := by decide +kernel
theorem dL_isSo_61 : decode cL_isSo 61 = .ok (.goto 4, 3) := by decide +kernel
theorem dL_isSo_64 : decode cL_isSo 64 = .ok (.iconst 0, 1) := by decide +kernel
theorem dL_isSo_65 : decode cL_isSo 65 = .ok (.istore 7, 2) := by decide +kernel
theorem dL_isSo_67 : decode cL_isSo 67 = .ok (.iconst 0, 1) := by decide +kernel
theorem dL_isSo_68 : decode cL_isSo 68 = .ok (.istore 8, 2) := by decide +kernel
theorem dL_isSo_70 : decode cL_isSo 70 = .ok (.iload 8, 2) := by decide +kernel
theorem dL_isSo_72 : decode cL_isSo 72 = .ok (.bipush 8, 2) := by decide +kernel
theorem dL_isSo_74 : decode cL_isSo 74 = .ok (.if_icmp .ge 218, 3) := by decide +kernel
theorem dL_isSo_77 : decode cL_isSo 77 = .ok (.iconst 0, 1) := by decide +kernel
theorem dL_isSo_78 : decode cL_isSo 78 = .ok (.istore 9, 2) := by decide +kernel
theorem dL_isSo_80 : decode cL_isSo 80 = .ok (.aload 4, 2) := by decide +kernel
theorem dL_isSo_82 : decode cL_isSo 82 = .ok (.bipush 6, 2) := by decide +kernel
theorem dL_isSo_84 : decode cL_isSo 84 = .ok (.iload 8, 2) := by decide +kernel
theorem dL_isSo_86 : decode cL_isSo 86 = .ok (.imul, 1) := by decide +kernel
theorem dL_isSo_87 : decode cL_isSo 87 = .ok (.iload 6, 2) := by decide +kernel
theorem dL_isSo_89 : decode cL_isSo 89 = .ok (.iadd, 1) := by decide +kernel
theorem dL_isSo_90 : decode cL_isSo 90 = .ok (.iaload, 1) := by decide +kernel
theorem dL_isSo_91 : decode cL_isSo 91 = .ok (.istore 10, 2) := by decide +kernel
theorem dL_isSo_93 : decode cL_isSo 93 = .ok (.iconst 0, 1) := by decide +kernel
theorem dL_isSo_94 : decode cL_isSo 94 = .ok (.istore 11, 2) := by decide +kernel
theorem dL_isSo_96 : decode cL_isSo 96 = .ok (.iload 11, 2) := by decide +kernel
theorem dL_isSo_98 : decode cL_isSo 98 = .ok (.aload_n 3, 1) := by decide +kernel
theorem dL_isSo_99 : decode cL_isSo 99 = .ok (.bipush 19, 2) := by decide +kernel
theorem dL_isSo_101 : decode cL_isSo 101 = .ok (.iaload, 1) := by decide +kernel
theorem dL_isSo_102 : decode cL_isSo 102 = .ok (.if_icmp .ge 58, 3) := by decide +kernel
theorem dL_isSo_105 : decode cL_isSo 105 = .ok (.iload 9, 2) := by decide +kernel
theorem dL_isSo_107 : decode cL_isSo 107 = .ok (.aload 5, 2) := by decide +kernel
theorem dL_isSo_109 : decode cL_isSo 109 = .ok (.iload 11, 2) := by decide +kernel
theorem dL_isSo_111 : decode cL_isSo 111 = .ok (.iaload, 1) := by decide +kernel
theorem dL_isSo_112 : decode cL_isSo 112 = .ok (.bipush 7, 2) := by decide +kernel
theorem dL_isSo_114 : decode cL_isSo 114 = .ok (.iand, 1) := by decide +kernel
theorem dL_isSo_115 : decode cL_isSo 115 = .ok (.iload 8, 2) := by decide +kernel
theorem dL_isSo_117 : decode cL_isSo 117 = .ok (.if_icmp .ne 33, 3) := by decide +kernel
theorem dL_isSo_120 : decode cL_isSo 120 = .ok (.aload 5, 2) := by decide +kernel
theorem dL_isSo_122 : decode cL_isSo 122 = .ok (.iload 11, 2) := by decide +kernel
theorem dL_isSo_124 : decode cL_isSo 124 = .ok (.iaload, 1) := by decide +kernel
theorem dL_isSo_125 : decode cL_isSo 125 = .ok (.bipush 8, 2) := by decide +kernel
theorem dL_isSo_127 : decode cL_isSo 127 = .ok (.ishr, 1) := by decide +kernel
theorem dL_isSo_128 : decode cL_isSo 128 = .ok (.iconst 3, 1) := by decide +kernel
theorem dL_isSo_129 : decode cL_isSo 129 = .ok (.iand, 1) := by decide +kernel
theorem dL_isSo_130 : decode cL_isSo 130 = .ok (.iconst 2, 1) := by decide +kernel
theorem dL_isSo_131 : decode cL_isSo 131 = .ok (.if_icmp .ge 19, 3) := by decide +kernel
theorem dL_isSo_134 : decode cL_isSo 134 = .ok (.bipush 10, 2) := by decide +kernel
theorem dL_isSo_136 : decode cL_isSo 136 = .ok (.aload 5, 2) := by decide +kernel
theorem dL_isSo_138 : decode cL_isSo 138 = .ok (.iload 11, 2) := by decide +kernel
theorem dL_isSo_140 : decode cL_isSo 140 = .ok (.iaload, 1) := by decide +kernel
theorem dL_isSo_141 : decode cL_isSo 141 = .ok (.iconst 3, 1) := by decide +kernel
theorem dL_isSo_142 : decode cL_isSo 142 = .ok (.ishr, 1) := by decide +kernel
theorem dL_isSo_143 : decode cL_isSo 143 = .ok (.bipush 31, 2) := by decide +kernel
theorem dL_isSo_145 : decode cL_isSo 145 = .ok (.iand, 1) := by decide +kernel
theorem dL_isSo_146 : decode cL_isSo 146 = .ok (.imul, 1) := by decide +kernel
theorem dL_isSo_147 : decode cL_isSo 147 = .ok (.goto 4, 3) := by decide +kernel
theorem dL_isSo_150 : decode cL_isSo 150 = .ok (.iconst 0, 1) := by decide +kernel
theorem dL_isSo_151 : decode cL_isSo 151 = .ok (.iadd, 1) := by decide +kernel
theorem dL_isSo_152 : decode cL_isSo 152 = .ok (.istore 9, 2) := by decide +kernel
theorem dL_isSo_154 : decode cL_isSo 154 = .ok (.iinc 11 1, 3) := by decide +kernel
theorem dL_isSo_157 : decode cL_isSo 157 = .ok (.goto (-61), 3) := by decide +kernel
theorem dL_isSo_160 : decode cL_isSo 160 = .ok (.iload 7, 2) := by decide +kernel
theorem dL_isSo_162 : decode cL_isSo 162 = .ok (.ifCond .eq 121, 3) := by decide +kernel
