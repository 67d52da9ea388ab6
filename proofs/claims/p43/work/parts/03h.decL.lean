theorem dL_isSo_165 : decode cL_isSo 165 = .ok (.aload_n 0, 1) := by decide +kernel
theorem dL_isSo_166 : decode cL_isSo 166 = .ok (.iload 8, 2) := by decide +kernel
theorem dL_isSo_168 : decode cL_isSo 168 = .ok (.aload_n 3, 1) := by decide +kernel
theorem dL_isSo_169 : decode cL_isSo 169 = .ok (.bipush 18, 2) := by decide +kernel
theorem dL_isSo_171 : decode cL_isSo 171 = .ok (.iaload, 1) := by decide +kernel
theorem dL_isSo_172 : decode cL_isSo 172 = .ok (.invokestatic 148, 3) := by decide +kernel
theorem dL_isSo_175 : decode cL_isSo 175 = .ok (.iload 8, 2) := by decide +kernel
theorem dL_isSo_177 : decode cL_isSo 177 = .ok (.aload_n 3, 1) := by decide +kernel
theorem dL_isSo_178 : decode cL_isSo 178 = .ok (.bipush 18, 2) := by decide +kernel
theorem dL_isSo_180 : decode cL_isSo 180 = .ok (.iaload, 1) := by decide +kernel
theorem dL_isSo_181 : decode cL_isSo 181 = .ok (.aload_n 1, 1) := by decide +kernel
theorem dL_isSo_182 : decode cL_isSo 182 = .ok (.invokestatic 104, 3) := by decide +kernel
theorem dL_isSo_185 : decode cL_isSo 185 = .ok (.if_icmp .ne 98, 3) := by decide +kernel
theorem dL_isSo_188 : decode cL_isSo 188 = .ok (.aload_n 0, 1) := by decide +kernel
theorem dL_isSo_189 : decode cL_isSo 189 = .ok (.iload 8, 2) := by decide +kernel
theorem dL_isSo_191 : decode cL_isSo 191 = .ok (.iload 6, 2) := by decide +kernel
theorem dL_isSo_193 : decode cL_isSo 193 = .ok (.invokestatic 150, 3) := by decide +kernel
theorem dL_isSo_196 : decode cL_isSo 196 = .ok (.iload 10, 2) := by decide +kernel
theorem dL_isSo_198 : decode cL_isSo 198 = .ok (.bipush 7, 2) := by decide +kernel
theorem dL_isSo_200 : decode cL_isSo 200 = .ok (.ishr, 1) := by decide +kernel
theorem dL_isSo_201 : decode cL_isSo 201 = .ok (.bipush 127, 2) := by decide +kernel
theorem dL_isSo_203 : decode cL_isSo 203 = .ok (.iand, 1) := by decide +kernel
theorem dL_isSo_204 : decode cL_isSo 204 = .ok (.if_icmp .ne 79, 3) := by decide +kernel
theorem dL_isSo_207 : decode cL_isSo 207 = .ok (.aload_n 0, 1) := by decide +kernel
theorem dL_isSo_208 : decode cL_isSo 208 = .ok (.iload 8, 2) := by decide +kernel
theorem dL_isSo_210 : decode cL_isSo 210 = .ok (.iload 6, 2) := by decide +kernel
theorem dL_isSo_212 : decode cL_isSo 212 = .ok (.iconst 1, 1) := by decide +kernel
theorem dL_isSo_213 : decode cL_isSo 213 = .ok (.invokestatic 152, 3) := by decide +kernel
theorem dL_isSo_216 : decode cL_isSo 216 = .ok (.iload 10, 2) := by decide +kernel
theorem dL_isSo_218 : decode cL_isSo 218 = .ok (.bipush 14, 2) := by decide +kernel
theorem dL_isSo_220 : decode cL_isSo 220 = .ok (.ishr, 1) := by decide +kernel
theorem dL_isSo_221 : decode cL_isSo 221 = .ok (.if_icmp .ne 62, 3) := by decide +kernel
theorem dL_isSo_224 : decode cL_isSo 224 = .ok (.aload_n 0, 1) := by decide +kernel
theorem dL_isSo_225 : decode cL_isSo 225 = .ok (.iload 8, 2) := by decide +kernel
theorem dL_isSo_227 : decode cL_isSo 227 = .ok (.iload 6, 2) := by decide +kernel
theorem dL_isSo_229 : decode cL_isSo 229 = .ok (.iconst 0, 1) := by decide +kernel
theorem dL_isSo_230 : decode cL_isSo 230 = .ok (.invokestatic 152, 3) := by decide +kernel
theorem dL_isSo_233 : decode cL_isSo 233 = .ok (.iload 10, 2) := by decide +kernel
theorem dL_isSo_235 : decode cL_isSo 235 = .ok (.bipush 14, 2) := by decide +kernel
theorem dL_isSo_237 : decode cL_isSo 237 = .ok (.ishr, 1) := by decide +kernel
theorem dL_isSo_238 : decode cL_isSo 238 = .ok (.if_icmp .ne 45, 3) := by decide +kernel
theorem dL_isSo_241 : decode cL_isSo 241 = .ok (.aload_n 0, 1) := by decide +kernel
theorem dL_isSo_242 : decode cL_isSo 242 = .ok (.iload 8, 2) := by decide +kernel
theorem dL_isSo_244 : decode cL_isSo 244 = .ok (.iconst 0, 1) := by decide +kernel
theorem dL_isSo_245 : decode cL_isSo 245 = .ok (.invokestatic 155, 3) := by decide +kernel
theorem dL_isSo_248 : decode cL_isSo 248 = .ok (.iload 9, 2) := by decide +kernel
theorem dL_isSo_250 : decode cL_isSo 250 = .ok (.if_icmp .ne 33, 3) := by decide +kernel
theorem dL_isSo_253 : decode cL_isSo 253 = .ok (.aload_n 0, 1) := by decide +kernel
theorem dL_isSo_254 : decode cL_isSo 254 = .ok (.iload 8, 2) := by decide +kernel
theorem dL_isSo_256 : decode cL_isSo 256 = .ok (.iconst 1, 1) := by decide +kernel
theorem dL_isSo_257 : decode cL_isSo 257 = .ok (.invokestatic 155, 3) := by decide +kernel
theorem dL_isSo_260 : decode cL_isSo 260 = .ok (.iload 9, 2) := by decide +kernel
theorem dL_isSo_262 : decode cL_isSo 262 = .ok (.if_icmp .ne 21, 3) := by decide +kernel
theorem dL_isSo_265 : decode cL_isSo 265 = .ok (.aload_n 0, 1) := by decide +kernel
theorem dL_isSo_266 : decode cL_isSo 266 = .ok (.iload 8, 2) := by decide +kernel
theorem dL_isSo_268 : decode cL_isSo 268 = .ok (.aload_n 3, 1) := by decide +kernel
theorem dL_isSo_269 : decode cL_isSo 269 = .ok (.bipush 18, 2) := by decide +kernel
theorem dL_isSo_271 : decode cL_isSo 271 = .ok (.iaload, 1) := by decide +kernel
theorem dL_isSo_272 : decode cL_isSo 272 = .ok (.invokestatic 158, 3) := by decide +kernel
theorem dL_isSo_275 : decode cL_isSo 275 = .ok (.iconst (-1), 1) := by decide +kernel
theorem dL_isSo_276 : decode cL_isSo 276 = .ok (.if_icmp .ne 7, 3) := by decide +kernel
theorem dL_isSo_279 : decode cL_isSo 279 = .ok (.iconst 1, 1) := by decide +kernel
theorem dL_isSo_280 : decode cL_isSo 280 = .ok (.goto 4, 3) := by decide +kernel
theorem dL_isSo_283 : decode cL_isSo 283 = .ok (.iconst 0, 1) := by decide +kernel
theorem dL_isSo_284 : decode cL_isSo 284 = .ok (.istore 7, 2) := by decide +kernel
theorem dL_isSo_286 : decode cL_isSo 286 = .ok (.iinc 8 1, 3) := by decide +kernel
theorem dL_isSo_289 : decode cL_isSo 289 = .ok (.goto (-219), 3) := by decide +kernel
theorem dL_isSo_292 : decode cL_isSo 292 = .ok (.iconst 0, 1) := by decide +kernel
theorem dL_isSo_293 : decode cL_isSo 293 = .ok (.istore 8, 2) := by decide +kernel
theorem dL_isSo_295 : decode cL_isSo 295 = .ok (.iload 8, 2) := by decide +kernel
theorem dL_isSo_297 : decode cL_isSo 297 = .ok (.iconst 3, 1) := by decide +kernel
theorem dL_isSo_298 : decode cL_isSo 298 = .ok (.if_icmp .ge 89, 3) := by decide +kernel
theorem dL_isSo_301 : decode cL_isSo 301 = .ok (.iload 7, 2) := by decide +kernel
theorem dL_isSo_303 : decode cL_isSo 303 = .ok (.ifCond .eq 75, 3) := by decide +kernel
theorem dL_isSo_306 : decode cL_isSo 306 = .ok (.aload_n 0, 1) := by decide +kernel
theorem dL_isSo_307 : decode cL_isSo 307 = .ok (.iload 8, 2) := by decide +kernel
theorem dL_isSo_309 : decode cL_isSo 309 = .ok (.invokestatic 160, 3) := by decide +kernel
theorem dL_isSo_312 : decode cL_isSo 312 = .ok (.aload_n 3, 1) := by decide +kernel
theorem dL_isSo_313 : decode cL_isSo 313 = .ok (.bipush 6, 2) := by decide +kernel
theorem dL_isSo_315 : decode cL_isSo 315 = .ok (.iload 8, 2) := by decide +kernel
theorem dL_isSo_317 : decode cL_isSo 317 = .ok (.iadd, 1) := by decide +kernel
theorem dL_isSo_318 : decode cL_isSo 318 = .ok (.iaload, 1) := by decide +kernel
theorem dL_isSo_319 : decode cL_isSo 319 = .ok (.if_icmp .ne 59, 3) := by decide +kernel
theorem dL_isSo_322 : decode cL_isSo 322 = .ok (.aload_n 0, 1) := by decide +kernel
theorem dL_isSo_323 : decode cL_isSo 323 = .ok (.iload 8, 2) := by decide +kernel
theorem dL_isSo_325 : decode cL_isSo 325 = .ok (.invokestatic 162, 3) := by decide +kernel
theorem dL_isSo_328 : decode cL_isSo 328 = .ok (.aload_n 3, 1) := by decide +kernel
theorem dL_isSo_329 : decode cL_isSo 329 = .ok (.iconst 3, 1) := by decide +kernel
theorem dL_isSo_330 : decode cL_isSo 330 = .ok (.iload 8, 2) := by decide +kernel
theorem dL_isSo_332 : decode cL_isSo 332 = .ok (.iadd, 1) := by decide +kernel
theorem dL_isSo_333 : decode cL_isSo 333 = .ok (.iaload, 1) := by decide +kernel
theorem dL_isSo_334 : decode cL_isSo 334 = .ok (.if_icmp .ne 44, 3) := by decide +kernel
theorem dL_isSo_337 : decode cL_isSo 337 = .ok (.aload_n 0, 1) := by decide +kernel
theorem dL_isSo_338 : decode cL_isSo 338 = .ok (.iload 8, 2) := by decide +kernel
theorem dL_isSo_340 : decode cL_isSo 340 = .ok (.invokestatic 164, 3) := by decide +kernel
theorem dL_isSo_343 : decode cL_isSo 343 = .ok (.aload_n 3, 1) := by decide +kernel
theorem dL_isSo_344 : decode cL_isSo 344 = .ok (.bipush 9, 2) := by decide +kernel
theorem dL_isSo_346 : decode cL_isSo 346 = .ok (.iload 8, 2) := by decide +kernel
theorem dL_isSo_348 : decode cL_isSo 348 = .ok (.iadd, 1) := by decide +kernel
theorem dL_isSo_349 : decode cL_isSo 349 = .ok (.iaload, 1) := by decide +kernel
theorem dL_isSo_350 : decode cL_isSo 350 = .ok (.if_icmp .ne 28, 3) := by decide +kernel
theorem dL_isSo_353 : decode cL_isSo 353 = .ok (.aload_n 0, 1) := by decide +kernel
theorem dL_isSo_354 : decode cL_isSo 354 = .ok (.iload 8, 2) := by decide +kernel
theorem dL_isSo_356 : decode cL_isSo 356 = .ok (.iload 6, 2) := by decide +kernel
theorem dL_isSo_358 : decode cL_isSo 358 = .ok (.invokestatic 166, 3) := by decide +kernel
theorem dL_isSo_361 : decode cL_isSo 361 = .ok (.iload 8, 2) := by decide +kernel
theorem dL_isSo_363 : decode cL_isSo 363 = .ok (.iload 6, 2) := by decide +kernel
theorem dL_isSo_365 : decode cL_isSo 365 = .ok (.aload_n 1, 1) := by decide +kernel
theorem dL_isSo_366 : decode cL_isSo 366 = .ok (.aload_n 2, 1) := by decide +kernel
theorem dL_isSo_367 : decode cL_isSo 367 = .ok (.aload_n 3, 1) := by decide +kernel
theorem dL_isSo_368 : decode cL_isSo 368 = .ok (.invokestatic 110, 3) := by decide +kernel
theorem dL_isSo_371 : decode cL_isSo 371 = .ok (.if_icmp .ne 7, 3) := by decide +kernel
theorem dL_isSo_374 : decode cL_isSo 374 = .ok (.iconst 1, 1) := by decide +kernel
theorem dL_isSo_375 : decode cL_isSo 375 = .ok (.goto 4, 3) := by decide +kernel
theorem dL_isSo_378 : decode cL_isSo 378 = .ok (.iconst 0, 1) := by decide +kernel
theorem dL_isSo_379 : decode cL_isSo 379 = .ok (.istore 7, 2) := by decide +kernel
theorem dL_isSo_381 : decode cL_isSo 381 = .ok (.iinc 8 1, 3) := by decide +kernel
theorem dL_isSo_384 : decode cL_isSo 384 = .ok (.goto (-89), 3) := by decide +kernel
theorem dL_isSo_387 : decode cL_isSo 387 = .ok (.iconst 0, 1) := by decide +kernel
theorem dL_isSo_388 : decode cL_isSo 388 = .ok (.istore 8, 2) := by decide +kernel
theorem dL_isSo_390 : decode cL_isSo 390 = .ok (.iload 8, 2) := by decide +kernel
theorem dL_isSo_392 : decode cL_isSo 392 = .ok (.aload_n 3, 1) := by decide +kernel
theorem dL_isSo_393 : decode cL_isSo 393 = .ok (.bipush 19, 2) := by decide +kernel
theorem dL_isSo_395 : decode cL_isSo 395 = .ok (.iaload, 1) := by decide +kernel
theorem dL_isSo_396 : decode cL_isSo 396 = .ok (.if_icmp .ge 118, 3) := by decide +kernel
theorem dL_isSo_399 : decode cL_isSo 399 = .ok (.aload 5, 2) := by decide +kernel
theorem dL_isSo_401 : decode cL_isSo 401 = .ok (.iload 8, 2) := by decide +kernel
theorem dL_isSo_403 : decode cL_isSo 403 = .ok (.iaload, 1) := by decide +kernel
theorem dL_isSo_404 : decode cL_isSo 404 = .ok (.bipush 8, 2) := by decide +kernel
theorem dL_isSo_406 : decode cL_isSo 406 = .ok (.ishr, 1) := by decide +kernel
theorem dL_isSo_407 : decode cL_isSo 407 = .ok (.iconst 3, 1) := by decide +kernel
theorem dL_isSo_408 : decode cL_isSo 408 = .ok (.iand, 1) := by decide +kernel
theorem dL_isSo_409 : decode cL_isSo 409 = .ok (.istore 9, 2) := by decide +kernel
theorem dL_isSo_411 : decode cL_isSo 411 = .ok (.iload 7, 2) := by decide +kernel
theorem dL_isSo_413 : decode cL_isSo 413 = .ok (.ifCond .eq 92, 3) := by decide +kernel
theorem dL_isSo_416 : decode cL_isSo 416 = .ok (.aload_n 0, 1) := by decide +kernel
theorem dL_isSo_417 : decode cL_isSo 417 = .ok (.iload 8, 2) := by decide +kernel
theorem dL_isSo_419 : decode cL_isSo 419 = .ok (.invokestatic 168, 3) := by decide +kernel
theorem dL_isSo_422 : decode cL_isSo 422 = .ok (.aload 5, 2) := by decide +kernel
theorem dL_isSo_424 : decode cL_isSo 424 = .ok (.iload 8, 2) := by decide +kernel
theorem dL_isSo_426 : decode cL_isSo 426 = .ok (.iaload, 1) := by decide +kernel
theorem dL_isSo_427 : decode cL_isSo 427 = .ok (.bipush 7, 2) := by decide +kernel
theorem dL_isSo_429 : decode cL_isSo 429 = .ok (.iand, 1) := by decide +kernel
theorem dL_isSo_430 : decode cL_isSo 430 = .ok (.if_icmp .ne 75, 3) := by decide +kernel
theorem dL_isSo_433 : decode cL_isSo 433 = .ok (.aload_n 0, 1) := by decide +kernel
theorem dL_isSo_434 : decode cL_isSo 434 = .ok (.iload 8, 2) := by decide +kernel
theorem dL_isSo_436 : decode cL_isSo 436 = .ok (.invokestatic 170, 3) := by decide +kernel
theorem dL_isSo_439 : decode cL_isSo 439 = .ok (.bipush 10, 2) := by decide +kernel
theorem dL_isSo_441 : decode cL_isSo 441 = .ok (.aload 5, 2) := by decide +kernel
theorem dL_isSo_443 : decode cL_isSo 443 = .ok (.iload 8, 2) := by decide +kernel
theorem dL_isSo_445 : decode cL_isSo 445 = .ok (.iaload, 1) := by decide +kernel
theorem dL_isSo_446 : decode cL_isSo 446 = .ok (.iconst 3, 1) := by decide +kernel
theorem dL_isSo_447 : decode cL_isSo 447 = .ok (.ishr, 1) := by decide +kernel
theorem dL_isSo_448 : decode cL_isSo 448 = .ok (.bipush 31, 2) := by decide +kernel
theorem dL_isSo_450 : decode cL_isSo 450 = .ok (.iand, 1) := by decide +kernel
theorem dL_isSo_451 : decode cL_isSo 451 = .ok (.imul, 1) := by decide +kernel
theorem dL_isSo_452 : decode cL_isSo 452 = .ok (.if_icmp .ne 53, 3) := by decide +kernel
theorem dL_isSo_455 : decode cL_isSo 455 = .ok (.aload_n 0, 1) := by decide +kernel
theorem dL_isSo_456 : decode cL_isSo 456 = .ok (.iload 8, 2) := by decide +kernel
theorem dL_isSo_458 : decode cL_isSo 458 = .ok (.invokestatic 172, 3) := by decide +kernel
theorem dL_isSo_461 : decode cL_isSo 461 = .ok (.iload 9, 2) := by decide +kernel
theorem dL_isSo_463 : decode cL_isSo 463 = .ok (.iconst 2, 1) := by decide +kernel
theorem dL_isSo_464 : decode cL_isSo 464 = .ok (.if_icmp .ge 7, 3) := by decide +kernel
theorem dL_isSo_467 : decode cL_isSo 467 = .ok (.iconst 1, 1) := by decide +kernel
theorem dL_isSo_468 : decode cL_isSo 468 = .ok (.goto 4, 3) := by decide +kernel
theorem dL_isSo_471 : decode cL_isSo 471 = .ok (.iconst 0, 1) := by decide +kernel
theorem dL_isSo_472 : decode cL_isSo 472 = .ok (.if_icmp .ne 33, 3) := by decide +kernel
theorem dL_isSo_475 : decode cL_isSo 475 = .ok (.aload_n 0, 1) := by decide +kernel
theorem dL_isSo_476 : decode cL_isSo 476 = .ok (.iload 8, 2) := by decide +kernel
theorem dL_isSo_478 : decode cL_isSo 478 = .ok (.invokestatic 174, 3) := by decide +kernel
theorem dL_isSo_481 : decode cL_isSo 481 = .ok (.iload 9, 2) := by decide +kernel
theorem dL_isSo_483 : decode cL_isSo 483 = .ok (.ifCond .le 7, 3) := by decide +kernel
theorem dL_isSo_486 : decode cL_isSo 486 = .ok (.iconst 3, 1) := by decide +kernel
theorem dL_isSo_487 : decode cL_isSo 487 = .ok (.goto 11, 3) := by decide +kernel
theorem dL_isSo_490 : decode cL_isSo 490 = .ok (.aload 5, 2) := by decide +kernel
theorem dL_isSo_492 : decode cL_isSo 492 = .ok (.iload 8, 2) := by decide +kernel
theorem dL_isSo_494 : decode cL_isSo 494 = .ok (.iaload, 1) := by decide +kernel
theorem dL_isSo_495 : decode cL_isSo 495 = .ok (.bipush 10, 2) := by decide +kernel
theorem dL_isSo_497 : decode cL_isSo 497 = .ok (.ishr, 1) := by decide +kernel
theorem dL_isSo_498 : decode cL_isSo 498 = .ok (.if_icmp .ne 7, 3) := by decide +kernel
theorem dL_isSo_501 : decode cL_isSo 501 = .ok (.iconst 1, 1) := by decide +kernel
theorem dL_isSo_502 : decode cL_isSo 502 = .ok (.goto 4, 3) := by decide +kernel
theorem dL_isSo_505 : decode cL_isSo 505 = .ok (.iconst 0, 1) := by decide +kernel
theorem dL_isSo_506 : decode cL_isSo 506 = .ok (.istore 7, 2) := by decide +kernel
theorem dL_isSo_508 : decode cL_isSo 508 = .ok (.iinc 8 1, 3) := by decide +kernel
theorem dL_isSo_511 : decode cL_isSo 511 = .ok (.goto (-121), 3) := by decide +kernel
theorem dL_isSo_514 : decode cL_isSo 514 = .ok (.iload 7, 2) := by decide +kernel
theorem dL_isSo_516 : decode cL_isSo 516 = .ok (.ireturn, 1) := by decide +kernel
theorem dL_told_0 : decode cL_told 0 = .ok (.ldc2_w 176, 3) := by decide +kernel
theorem dL_told_3 : decode cL_told 3 = .ok (.lstore_n 1, 1) := by decide +kernel
theorem dL_told_4 : decode cL_told 4 = .ok (.iconst 0, 1) := by decide +kernel
theorem dL_told_5 : decode cL_told 5 = .ok (.istore_n 3, 1) := by decide +kernel
theorem dL_told_6 : decode cL_told 6 = .ok (.iload_n 3, 1) := by decide +kernel
theorem dL_told_7 : decode cL_told 7 = .ok (.bipush 8, 2) := by decide +kernel
theorem dL_told_9 : decode cL_told 9 = .ok (.if_icmp .ge 89, 3) := by decide +kernel
theorem dL_told_12 : decode cL_told 12 = .ok (.ldc2_w 178, 3) := by decide +kernel
theorem dL_told_15 : decode cL_told 15 = .ok (.ldc2_w 178, 3) := by decide +kernel
theorem dL_told_18 : decode cL_told 18 = .ok (.ldc2_w 178, 3) := by decide +kernel
theorem dL_told_21 : decode cL_told 21 = .ok (.lload_n 1, 1) := by decide +kernel
theorem dL_told_22 : decode cL_told 22 = .ok (.lmul, 1) := by decide +kernel
theorem dL_told_23 : decode cL_told 23 = .ok (.aload_n 0, 1) := by decide +kernel
theorem dL_told_24 : decode cL_told 24 = .ok (.iload_n 3, 1) := by decide +kernel
theorem dL_told_25 : decode cL_told 25 = .ok (.iconst 0, 1) := by decide +kernel
theorem dL_told_26 : decode cL_told 26 = .ok (.bipush 95, 2) := by decide +kernel
theorem dL_told_28 : decode cL_told 28 = .ok (.iconst 0, 1) := by decide +kernel
theorem dL_told_29 : decode cL_told 29 = .ok (.invokestatic 180, 3) := by decide +kernel
theorem dL_told_32 : decode cL_told 32 = .ok (.i2l, 1) := by decide +kernel
theorem dL_told_33 : decode cL_told 33 = .ok (.ladd, 1) := by decide +kernel
theorem dL_told_34 : decode cL_told 34 = .ok (.lmul, 1) := by decide +kernel
theorem dL_told_35 : decode cL_told 35 = .ok (.aload_n 0, 1) := by decide +kernel
theorem dL_told_36 : decode cL_told 36 = .ok (.iload_n 3, 1) := by decide +kernel
theorem dL_told_37 : decode cL_told 37 = .ok (.iconst 0, 1) := by decide +kernel
theorem dL_told_38 : decode cL_told 38 = .ok (.invokestatic 183, 3) := by decide +kernel
theorem dL_told_41 : decode cL_told 41 = .ok (.i2l, 1) := by decide +kernel
theorem dL_told_42 : decode cL_told 42 = .ok (.ladd, 1) := by decide +kernel
theorem dL_told_43 : decode cL_told 43 = .ok (.lmul, 1) := by decide +kernel
theorem dL_told_44 : decode cL_told 44 = .ok (.aload_n 0, 1) := by decide +kernel
theorem dL_told_45 : decode cL_told 45 = .ok (.iload_n 3, 1) := by decide +kernel
theorem dL_told_46 : decode cL_told 46 = .ok (.iconst 1, 1) := by decide +kernel
theorem dL_told_47 : decode cL_told 47 = .ok (.invokestatic 155, 3) := by decide +kernel
theorem dL_told_50 : decode cL_told 50 = .ok (.i2l, 1) := by decide +kernel
theorem dL_told_51 : decode cL_told 51 = .ok (.ladd, 1) := by decide +kernel
theorem dL_told_52 : decode cL_told 52 = .ok (.lstore_n 1, 1) := by decide +kernel
theorem dL_told_53 : decode cL_told 53 = .ok (.ldc2_w 178, 3) := by decide +kernel
theorem dL_told_56 : decode cL_told 56 = .ok (.ldc2_w 178, 3) := by decide +kernel
theorem dL_told_59 : decode cL_told 59 = .ok (.ldc2_w 178, 3) := by decide +kernel
theorem dL_told_62 : decode cL_told 62 = .ok (.lload_n 1, 1) := by decide +kernel
theorem dL_told_63 : decode cL_told 63 = .ok (.lmul, 1) := by decide +kernel
theorem dL_told_64 : decode cL_told 64 = .ok (.aload_n 0, 1) := by decide +kernel
theorem dL_told_65 : decode cL_told 65 = .ok (.iload_n 3, 1) := by decide +kernel
theorem dL_told_66 : decode cL_told 66 = .ok (.iconst 0, 1) := by decide +kernel
theorem dL_told_67 : decode cL_told 67 = .ok (.invokestatic 150, 3) := by decide +kernel
theorem dL_told_70 : decode cL_told 70 = .ok (.i2l, 1) := by decide +kernel
theorem dL_told_71 : decode cL_told 71 = .ok (.ladd, 1) := by decide +kernel
theorem dL_told_72 : decode cL_told 72 = .ok (.lmul, 1) := by decide +kernel
theorem dL_told_73 : decode cL_told 73 = .ok (.aload_n 0, 1) := by decide +kernel
theorem dL_told_74 : decode cL_told 74 = .ok (.iload_n 3, 1) := by decide +kernel
theorem dL_told_75 : decode cL_told 75 = .ok (.iconst 2, 1) := by decide +kernel
theorem dL_told_76 : decode cL_told 76 = .ok (.iconst 0, 1) := by decide +kernel
theorem dL_told_77 : decode cL_told 77 = .ok (.invokestatic 152, 3) := by decide +kernel
theorem dL_told_80 : decode cL_told 80 = .ok (.i2l, 1) := by decide +kernel
theorem dL_told_81 : decode cL_told 81 = .ok (.ladd, 1) := by decide +kernel
theorem dL_told_82 : decode cL_told 82 = .ok (.lmul, 1) := by decide +kernel
theorem dL_told_83 : decode cL_told 83 = .ok (.aload_n 0, 1) := by decide +kernel
theorem dL_told_84 : decode cL_told 84 = .ok (.iload_n 3, 1) := by decide +kernel
theorem dL_told_85 : decode cL_told 85 = .ok (.iconst 4, 1) := by decide +kernel
theorem dL_told_86 : decode cL_told 86 = .ok (.invokestatic 150, 3) := by decide +kernel
theorem dL_told_89 : decode cL_told 89 = .ok (.i2l, 1) := by decide +kernel
theorem dL_told_90 : decode cL_told 90 = .ok (.ladd, 1) := by decide +kernel
theorem dL_told_91 : decode cL_told 91 = .ok (.lstore_n 1, 1) := by decide +kernel
theorem dL_told_92 : decode cL_told 92 = .ok (.iinc 3 1, 3) := by decide +kernel
theorem dL_told_95 : decode cL_told 95 = .ok (.goto (-89), 3) := by decide +kernel
theorem dL_told_98 : decode cL_told 98 = .ok (.iconst 0, 1) := by decide +kernel
theorem dL_told_99 : decode cL_told 99 = .ok (.istore_n 3, 1) := by decide +kernel
theorem dL_told_100 : decode cL_told 100 = .ok (.iload_n 3, 1) := by decide +kernel
theorem dL_told_101 : decode cL_told 101 = .ok (.bipush 24, 2) := by decide +kernel
theorem dL_told_103 : decode cL_told 103 = .ok (.if_icmp .ge 22, 3) := by decide +kernel
theorem dL_told_106 : decode cL_told 106 = .ok (.ldc2_w 178, 3) := by decide +kernel
theorem dL_told_109 : decode cL_told 109 = .ok (.lload_n 1, 1) := by decide +kernel
theorem dL_told_110 : decode cL_told 110 = .ok (.lmul, 1) := by decide +kernel
theorem dL_told_111 : decode cL_told 111 = .ok (.aload_n 0, 1) := by decide +kernel
theorem dL_told_112 : decode cL_told 112 = .ok (.iload_n 3, 1) := by decide +kernel
theorem dL_told_113 : decode cL_told 113 = .ok (.invokestatic 146, 3) := by decide +kernel
theorem dL_told_116 : decode cL_told 116 = .ok (.i2l, 1) := by decide +kernel
theorem dL_told_117 : decode cL_told 117 = .ok (.ladd, 1) := by decide +kernel
theorem dL_told_118 : decode cL_told 118 = .ok (.lstore_n 1, 1) := by decide +kernel
theorem dL_told_119 : decode cL_told 119 = .ok (.iinc 3 1, 3) := by decide +kernel
theorem dL_told_122 : decode cL_told 122 = .ok (.goto (-22), 3) := by decide +kernel
theorem dL_told_125 : decode cL_told 125 = .ok (.iconst 0, 1) := by decide +kernel
theorem dL_told_126 : decode cL_told 126 = .ok (.istore_n 3, 1) := by decide +kernel
theorem dL_told_127 : decode cL_told 127 = .ok (.iload_n 3, 1) := by decide +kernel
theorem dL_told_128 : decode cL_told 128 = .ok (.iconst 3, 1) := by decide +kernel
theorem dL_told_129 : decode cL_told 129 = .ok (.if_icmp .ge 56, 3) := by decide +kernel
theorem dL_told_132 : decode cL_told 132 = .ok (.ldc2_w 178, 3) := by decide +kernel
theorem dL_told_135 : decode cL_told 135 = .ok (.ldc2_w 178, 3) := by decide +kernel
theorem dL_told_138 : decode cL_told 138 = .ok (.ldc2_w 178, 3) := by decide +kernel
theorem dL_told_141 : decode cL_told 141 = .ok (.ldc2_w 178, 3) := by decide +kernel
theorem dL_told_144 : decode cL_told 144 = .ok (.lload_n 1, 1) := by decide +kernel
theorem dL_told_145 : decode cL_told 145 = .ok (.lmul, 1) := by decide +kernel
theorem dL_told_146 : decode cL_told 146 = .ok (.aload_n 0, 1) := by decide +kernel
theorem dL_told_147 : decode cL_told 147 = .ok (.iload_n 3, 1) := by decide +kernel
theorem dL_told_148 : decode cL_told 148 = .ok (.invokestatic 160, 3) := by decide +kernel
theorem dL_told_151 : decode cL_told 151 = .ok (.i2l, 1) := by decide +kernel
theorem dL_told_152 : decode cL_told 152 = .ok (.ladd, 1) := by decide +kernel
theorem dL_told_153 : decode cL_told 153 = .ok (.lmul, 1) := by decide +kernel
theorem dL_told_154 : decode cL_told 154 = .ok (.aload_n 0, 1) := by decide +kernel
theorem dL_told_155 : decode cL_told 155 = .ok (.iload_n 3, 1) := by decide +kernel
theorem dL_told_156 : decode cL_told 156 = .ok (.invokestatic 162, 3) := by decide +kernel
theorem dL_told_159 : decode cL_told 159 = .ok (.i2l, 1) := by decide +kernel
theorem dL_told_160 : decode cL_told 160 = .ok (.ladd, 1) := by decide +kernel
theorem dL_told_161 : decode cL_told 161 = .ok (.lmul, 1) := by decide +kernel
theorem dL_told_162 : decode cL_told 162 = .ok (.aload_n 0, 1) := by decide +kernel
theorem dL_told_163 : decode cL_told 163 = .ok (.iload_n 3, 1) := by decide +kernel
theorem dL_told_164 : decode cL_told 164 = .ok (.invokestatic 164, 3) := by decide +kernel
theorem dL_told_167 : decode cL_told 167 = .ok (.i2l, 1) := by decide +kernel
theorem dL_told_168 : decode cL_told 168 = .ok (.ladd, 1) := by decide +kernel
theorem dL_told_169 : decode cL_told 169 = .ok (.lmul, 1) := by decide +kernel
theorem dL_told_170 : decode cL_told 170 = .ok (.aload_n 0, 1) := by decide +kernel
theorem dL_told_171 : decode cL_told 171 = .ok (.iload_n 3, 1) := by decide +kernel
theorem dL_told_172 : decode cL_told 172 = .ok (.iconst 0, 1) := by decide +kernel
theorem dL_told_173 : decode cL_told 173 = .ok (.invokestatic 166, 3) := by decide +kernel
theorem dL_told_176 : decode cL_told 176 = .ok (.i2l, 1) := by decide +kernel
theorem dL_told_177 : decode cL_told 177 = .ok (.ladd, 1) := by decide +kernel
theorem dL_told_178 : decode cL_told 178 = .ok (.lstore_n 1, 1) := by decide +kernel
theorem dL_told_179 : decode cL_told 179 = .ok (.iinc 3 1, 3) := by decide +kernel
theorem dL_told_182 : decode cL_told 182 = .ok (.goto (-55), 3) := by decide +kernel
theorem dL_told_185 : decode cL_told 185 = .ok (.iconst 0, 1) := by decide +kernel
theorem dL_told_186 : decode cL_told 186 = .ok (.istore_n 3, 1) := by decide +kernel
theorem dL_told_187 : decode cL_told 187 = .ok (.iload_n 3, 1) := by decide +kernel
theorem dL_told_188 : decode cL_told 188 = .ok (.aload_n 0, 1) := by decide +kernel
theorem dL_told_189 : decode cL_told 189 = .ok (.invokevirtual 143, 3) := by decide +kernel
theorem dL_told_192 : decode cL_told 192 = .ok (.if_icmp .ge 44, 3) := by decide +kernel
theorem dL_told_195 : decode cL_told 195 = .ok (.ldc2_w 178, 3) := by decide +kernel
theorem dL_told_198 : decode cL_told 198 = .ok (.ldc2_w 178, 3) := by decide +kernel
theorem dL_told_201 : decode cL_told 201 = .ok (.ldc2_w 178, 3) := by decide +kernel
theorem dL_told_204 : decode cL_told 204 = .ok (.lload_n 1, 1) := by decide +kernel
theorem dL_told_205 : decode cL_told 205 = .ok (.lmul, 1) := by decide +kernel
theorem dL_told_206 : decode cL_told 206 = .ok (.aload_n 0, 1) := by decide +kernel
theorem dL_told_207 : decode cL_told 207 = .ok (.iload_n 3, 1) := by decide +kernel
theorem dL_told_208 : decode cL_told 208 = .ok (.invokestatic 168, 3) := by decide +kernel
theorem dL_told_211 : decode cL_told 211 = .ok (.i2l, 1) := by decide +kernel
theorem dL_told_212 : decode cL_told 212 = .ok (.ladd, 1) := by decide +kernel
theorem dL_told_213 : decode cL_told 213 = .ok (.lmul, 1) := by decide +kernel
theorem dL_told_214 : decode cL_told 214 = .ok (.aload_n 0, 1) := by decide +kernel
theorem dL_told_215 : decode cL_told 215 = .ok (.iload_n 3, 1) := by decide +kernel
theorem dL_told_216 : decode cL_told 216 = .ok (.invokestatic 170, 3) := by decide +kernel
theorem dL_told_219 : decode cL_told 219 = .ok (.i2l, 1) := by decide +kernel
theorem dL_told_220 : decode cL_told 220 = .ok (.ladd, 1) := by decide +kernel
theorem dL_told_221 : decode cL_told 221 = .ok (.lmul, 1) := by decide +kernel
theorem dL_told_222 : decode cL_told 222 = .ok (.aload_n 0, 1) := by decide +kernel
theorem dL_told_223 : decode cL_told 223 = .ok (.iload_n 3, 1) := by decide +kernel
theorem dL_told_224 : decode cL_told 224 = .ok (.invokestatic 174, 3) := by decide +kernel
theorem dL_told_227 : decode cL_told 227 = .ok (.i2l, 1) := by decide +kernel
theorem dL_told_228 : decode cL_told 228 = .ok (.ladd, 1) := by decide +kernel
theorem dL_told_229 : decode cL_told 229 = .ok (.lstore_n 1, 1) := by decide +kernel
theorem dL_told_230 : decode cL_told 230 = .ok (.iinc 3 1, 3) := by decide +kernel
theorem dL_told_233 : decode cL_told 233 = .ok (.goto (-46), 3) := by decide +kernel
theorem dL_told_236 : decode cL_told 236 = .ok (.ldc2_w 178, 3) := by decide +kernel
theorem dL_told_239 : decode cL_told 239 = .ok (.ldc2_w 178, 3) := by decide +kernel
theorem dL_told_242 : decode cL_told 242 = .ok (.lload_n 1, 1) := by decide +kernel
theorem dL_told_243 : decode cL_told 243 = .ok (.lmul, 1) := by decide +kernel
theorem dL_told_244 : decode cL_told 244 = .ok (.aload_n 0, 1) := by decide +kernel
theorem dL_told_245 : decode cL_told 245 = .ok (.invokevirtual 140, 3) := by decide +kernel
theorem dL_told_248 : decode cL_told 248 = .ok (.i2l, 1) := by decide +kernel
theorem dL_told_249 : decode cL_told 249 = .ok (.ladd, 1) := by decide +kernel
theorem dL_told_250 : decode cL_told 250 = .ok (.lmul, 1) := by decide +kernel
theorem dL_told_251 : decode cL_told 251 = .ok (.aload_n 0, 1) := by decide +kernel
theorem dL_told_252 : decode cL_told 252 = .ok (.invokevirtual 143, 3) := by decide +kernel
theorem dL_told_255 : decode cL_told 255 = .ok (.i2l, 1) := by decide +kernel
theorem dL_told_256 : decode cL_told 256 = .ok (.ladd, 1) := by decide +kernel
theorem dL_told_257 : decode cL_told 257 = .ok (.lreturn, 1) := by decide +kernel
theorem dL_law_0 : decode cL_law 0 = .ok (.new 11, 3) := by decide +kernel
theorem dL_law_3 : decode cL_law 3 = .ok (.dup, 1) := by decide +kernel
theorem dL_law_4 : decode cL_law 4 = .ok (.invokespecial 185, 3) := by decide +kernel
theorem dL_law_7 : decode cL_law 7 = .ok (.astore_n 1, 1) := by decide +kernel
theorem dL_law_8 : decode cL_law 8 = .ok (.bipush 32, 2) := by decide +kernel
theorem dL_law_10 : decode cL_law 10 = .ok (.newarray .int, 2) := by decide +kernel
theorem dL_law_12 : decode cL_law 12 = .ok (.astore_n 2, 1) := by decide +kernel
theorem dL_law_13 : decode cL_law 13 = .ok (.bipush 32, 2) := by decide +kernel
