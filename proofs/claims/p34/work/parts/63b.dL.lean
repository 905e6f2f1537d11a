theorem dL_times_141 : decode cL_times 141 = .ok (.iconst 0, 1) := by decide +kernel
theorem dL_times_142 : decode cL_times 142 = .ok (.istore 14, 2) := by decide +kernel
theorem dL_times_144 : decode cL_times 144 = .ok (.iload 4, 2) := by decide +kernel
theorem dL_times_146 : decode cL_times 146 = .ok (.iconst 4, 1) := by decide +kernel
theorem dL_times_147 : decode cL_times 147 = .ok (.if_icmp .ge 195, 3) := by decide +kernel
theorem dL_times_150 : decode cL_times 150 = .ok (.iload_n 3, 1) := by decide +kernel
theorem dL_times_151 : decode cL_times 151 = .ok (.ifCond .eq 18, 3) := by decide +kernel
theorem dL_times_154 : decode cL_times 154 = .ok (.iload_n 2, 1) := by decide +kernel
theorem dL_times_155 : decode cL_times 155 = .ok (.bipush 6, 2) := by decide +kernel
theorem dL_times_157 : decode cL_times 157 = .ok (.ishr, 1) := by decide +kernel
theorem dL_times_158 : decode cL_times 158 = .ok (.sipush 510, 3) := by decide +kernel
theorem dL_times_161 : decode cL_times 161 = .ok (.invokestatic 119, 3) := by decide +kernel
theorem dL_times_164 : decode cL_times 164 = .ok (.iconst 5, 1) := by decide +kernel
theorem dL_times_165 : decode cL_times 165 = .ok (.isub, 1) := by decide +kernel
theorem dL_times_166 : decode cL_times 166 = .ok (.goto 12, 3) := by decide +kernel
theorem dL_times_169 : decode cL_times 169 = .ok (.iload_n 2, 1) := by decide +kernel
theorem dL_times_170 : decode cL_times 170 = .ok (.bipush 6, 2) := by decide +kernel
theorem dL_times_172 : decode cL_times 172 = .ok (.ishr, 1) := by decide +kernel
theorem dL_times_173 : decode cL_times 173 = .ok (.bipush 30, 2) := by decide +kernel
theorem dL_times_175 : decode cL_times 175 = .ok (.invokestatic 119, 3) := by decide +kernel
theorem dL_times_178 : decode cL_times 178 = .ok (.istore 15, 2) := by decide +kernel
theorem dL_times_180 : decode cL_times 180 = .ok (.aload_n 0, 1) := by decide +kernel
theorem dL_times_181 : decode cL_times 181 = .ok (.iconst 5, 1) := by decide +kernel
theorem dL_times_182 : decode cL_times 182 = .ok (.iload 10, 2) := by decide +kernel
theorem dL_times_184 : decode cL_times 184 = .ok (.iload 15, 2) := by decide +kernel
theorem dL_times_186 : decode cL_times 186 = .ok (.iload 11, 2) := by decide +kernel
theorem dL_times_188 : decode cL_times 188 = .ok (.invokestatic 135, 3) := by decide +kernel
theorem dL_times_191 : decode cL_times 191 = .ok (.istore 16, 2) := by decide +kernel
theorem dL_times_193 : decode cL_times 193 = .ok (.iload 14, 2) := by decide +kernel
theorem dL_times_195 : decode cL_times 195 = .ok (.ifCond .ne 23, 3) := by decide +kernel
theorem dL_times_198 : decode cL_times 198 = .ok (.iload 15, 2) := by decide +kernel
theorem dL_times_200 : decode cL_times 200 = .ok (.ifCond .lt 18, 3) := by decide +kernel
theorem dL_times_203 : decode cL_times 203 = .ok (.iload 15, 2) := by decide +kernel
theorem dL_times_205 : decode cL_times 205 = .ok (.sipush 500, 3) := by decide +kernel
theorem dL_times_208 : decode cL_times 208 = .ok (.if_icmp .gt 10, 3) := by decide +kernel
theorem dL_times_211 : decode cL_times 211 = .ok (.iload 12, 2) := by decide +kernel
theorem dL_times_213 : decode cL_times 213 = .ok (.bipush 12, 2) := by decide +kernel
theorem dL_times_215 : decode cL_times 215 = .ok (.if_icmp .ne 49, 3) := by decide +kernel
theorem dL_times_218 : decode cL_times 218 = .ok (.iload 16, 2) := by decide +kernel
theorem dL_times_220 : decode cL_times 220 = .ok (.iload 14, 2) := by decide +kernel
theorem dL_times_222 : decode cL_times 222 = .ok (.ifCond .ne 16, 3) := by decide +kernel
theorem dL_times_225 : decode cL_times 225 = .ok (.iload 15, 2) := by decide +kernel
theorem dL_times_227 : decode cL_times 227 = .ok (.ifCond .lt 11, 3) := by decide +kernel
theorem dL_times_230 : decode cL_times 230 = .ok (.iload 15, 2) := by decide +kernel
theorem dL_times_232 : decode cL_times 232 = .ok (.sipush 500, 3) := by decide +kernel
theorem dL_times_235 : decode cL_times 235 = .ok (.if_icmp .le 8, 3) := by decide +kernel
theorem dL_times_238 : decode cL_times 238 = .ok (.bipush (-82), 2) := by decide +kernel
theorem dL_times_240 : decode cL_times 240 = .ok (.goto 5, 3) := by decide +kernel
theorem dL_times_243 : decode cL_times 243 = .ok (.bipush (-83), 2) := by decide +kernel
theorem dL_times_245 : decode cL_times 245 = .ok (.if_icmp .ne 17, 3) := by decide +kernel
theorem dL_times_248 : decode cL_times 248 = .ok (.aload_n 0, 1) := by decide +kernel
theorem dL_times_249 : decode cL_times 249 = .ok (.invokestatic 124, 3) := by decide +kernel
theorem dL_times_252 : decode cL_times 252 = .ok (.lload 8, 2) := by decide +kernel
theorem dL_times_254 : decode cL_times 254 = .ok (.lcmp, 1) := by decide +kernel
theorem dL_times_255 : decode cL_times 255 = .ok (.ifCond .ne 7, 3) := by decide +kernel
theorem dL_times_258 : decode cL_times 258 = .ok (.iconst 1, 1) := by decide +kernel
theorem dL_times_259 : decode cL_times 259 = .ok (.goto 4, 3) := by decide +kernel
theorem dL_times_262 : decode cL_times 262 = .ok (.iconst 0, 1) := by decide +kernel
theorem dL_times_263 : decode cL_times 263 = .ok (.ireturn, 1) := by decide +kernel
theorem dL_times_264 : decode cL_times 264 = .ok (.iload 16, 2) := by decide +kernel
theorem dL_times_266 : decode cL_times 266 = .ok (.iload 12, 2) := by decide +kernel
theorem dL_times_268 : decode cL_times 268 = .ok (.iconst 1, 1) := by decide +kernel
theorem dL_times_269 : decode cL_times 269 = .ok (.iadd, 1) := by decide +kernel
theorem dL_times_270 : decode cL_times 270 = .ok (.if_icmp .ne 70, 3) := by decide +kernel
theorem dL_times_273 : decode cL_times 273 = .ok (.aload_n 0, 1) := by decide +kernel
theorem dL_times_274 : decode cL_times 274 = .ok (.invokevirtual 94, 3) := by decide +kernel
theorem dL_times_277 : decode cL_times 277 = .ok (.iload 16, 2) := by decide +kernel
theorem dL_times_279 : decode cL_times 279 = .ok (.if_icmp .ne 61, 3) := by decide +kernel
theorem dL_times_282 : decode cL_times 282 = .ok (.aload_n 0, 1) := by decide +kernel
theorem dL_times_283 : decode cL_times 283 = .ok (.invokevirtual 102, 3) := by decide +kernel
theorem dL_times_286 : decode cL_times 286 = .ok (.iload 13, 2) := by decide +kernel
theorem dL_times_288 : decode cL_times 288 = .ok (.ifCond .lt 13, 3) := by decide +kernel
theorem dL_times_291 : decode cL_times 291 = .ok (.iload 10, 2) := by decide +kernel
theorem dL_times_293 : decode cL_times 293 = .ok (.iload 15, 2) := by decide +kernel
theorem dL_times_295 : decode cL_times 295 = .ok (.iadd, 1) := by decide +kernel
theorem dL_times_296 : decode cL_times 296 = .ok (.iload 13, 2) := by decide +kernel
theorem dL_times_298 : decode cL_times 298 = .ok (.if_icmp .ge 11, 3) := by decide +kernel
theorem dL_times_301 : decode cL_times 301 = .ok (.iload 10, 2) := by decide +kernel
theorem dL_times_303 : decode cL_times 303 = .ok (.iload 15, 2) := by decide +kernel
theorem dL_times_305 : decode cL_times 305 = .ok (.iadd, 1) := by decide +kernel
theorem dL_times_306 : decode cL_times 306 = .ok (.goto 5, 3) := by decide +kernel
theorem dL_times_309 : decode cL_times 309 = .ok (.iload 13, 2) := by decide +kernel
theorem dL_times_311 : decode cL_times 311 = .ok (.if_icmp .ne 29, 3) := by decide +kernel
theorem dL_times_314 : decode cL_times 314 = .ok (.aload_n 0, 1) := by decide +kernel
theorem dL_times_315 : decode cL_times 315 = .ok (.iload 5, 2) := by decide +kernel
theorem dL_times_317 : decode cL_times 317 = .ok (.lload 6, 2) := by decide +kernel
theorem dL_times_319 : decode cL_times 319 = .ok (.aload_n 1, 1) := by decide +kernel
theorem dL_times_320 : decode cL_times 320 = .ok (.iconst 0, 1) := by decide +kernel
theorem dL_times_321 : decode cL_times 321 = .ok (.iaload, 1) := by decide +kernel
theorem dL_times_322 : decode cL_times 322 = .ok (.aload_n 1, 1) := by decide +kernel
theorem dL_times_323 : decode cL_times 323 = .ok (.bipush 8, 2) := by decide +kernel
theorem dL_times_325 : decode cL_times 325 = .ok (.iload 5, 2) := by decide +kernel
theorem dL_times_327 : decode cL_times 327 = .ok (.iadd, 1) := by decide +kernel
theorem dL_times_328 : decode cL_times 328 = .ok (.iaload, 1) := by decide +kernel
theorem dL_times_329 : decode cL_times 329 = .ok (.imul, 1) := by decide +kernel
theorem dL_times_330 : decode cL_times 330 = .ok (.invokestatic 131, 3) := by decide +kernel
theorem dL_times_333 : decode cL_times 333 = .ok (.ifCond .eq 7, 3) := by decide +kernel
theorem dL_times_336 : decode cL_times 336 = .ok (.iconst 1, 1) := by decide +kernel
theorem dL_times_337 : decode cL_times 337 = .ok (.goto 4, 3) := by decide +kernel
theorem dL_times_340 : decode cL_times 340 = .ok (.iconst 0, 1) := by decide +kernel
theorem dL_times_341 : decode cL_times 341 = .ok (.ireturn, 1) := by decide +kernel
theorem dL_times_342 : decode cL_times 342 = .ok (.iload 4, 2) := by decide +kernel
theorem dL_times_344 : decode cL_times 344 = .ok (.bipush 7, 2) := by decide +kernel
theorem dL_times_346 : decode cL_times 346 = .ok (.if_icmp .ge 66, 3) := by decide +kernel
theorem dL_times_349 : decode cL_times 349 = .ok (.aload_n 0, 1) := by decide +kernel
theorem dL_times_350 : decode cL_times 350 = .ok (.bipush 6, 2) := by decide +kernel
theorem dL_times_352 : decode cL_times 352 = .ok (.iload 10, 2) := by decide +kernel
theorem dL_times_354 : decode cL_times 354 = .ok (.iload 11, 2) := by decide +kernel
theorem dL_times_356 : decode cL_times 356 = .ok (.iconst 0, 1) := by decide +kernel
theorem dL_times_357 : decode cL_times 357 = .ok (.invokestatic 135, 3) := by decide +kernel
theorem dL_times_360 : decode cL_times 360 = .ok (.istore 15, 2) := by decide +kernel
theorem dL_times_362 : decode cL_times 362 = .ok (.iload 14, 2) := by decide +kernel
theorem dL_times_364 : decode cL_times 364 = .ok (.ifCond .eq 13, 3) := by decide +kernel
theorem dL_times_367 : decode cL_times 367 = .ok (.iload 15, 2) := by decide +kernel
theorem dL_times_369 : decode cL_times 369 = .ok (.bipush (-82), 2) := by decide +kernel
theorem dL_times_371 : decode cL_times 371 = .ok (.if_icmp .ne 39, 3) := by decide +kernel
theorem dL_times_374 : decode cL_times 374 = .ok (.goto 22, 3) := by decide +kernel
theorem dL_times_377 : decode cL_times 377 = .ok (.iload 15, 2) := by decide +kernel
theorem dL_times_379 : decode cL_times 379 = .ok (.bipush (-83), 2) := by decide +kernel
theorem dL_times_381 : decode cL_times 381 = .ok (.if_icmp .eq 15, 3) := by decide +kernel
theorem dL_times_384 : decode cL_times 384 = .ok (.iload 15, 2) := by decide +kernel
theorem dL_times_386 : decode cL_times 386 = .ok (.ifCond .le 24, 3) := by decide +kernel
theorem dL_times_389 : decode cL_times 389 = .ok (.iload 15, 2) := by decide +kernel
theorem dL_times_391 : decode cL_times 391 = .ok (.bipush 13, 2) := by decide +kernel
theorem dL_times_393 : decode cL_times 393 = .ok (.if_icmp .ge 17, 3) := by decide +kernel
theorem dL_times_396 : decode cL_times 396 = .ok (.aload_n 0, 1) := by decide +kernel
theorem dL_times_397 : decode cL_times 397 = .ok (.invokestatic 124, 3) := by decide +kernel
theorem dL_times_400 : decode cL_times 400 = .ok (.lload 8, 2) := by decide +kernel
theorem dL_times_402 : decode cL_times 402 = .ok (.lcmp, 1) := by decide +kernel
theorem dL_times_403 : decode cL_times 403 = .ok (.ifCond .ne 7, 3) := by decide +kernel
theorem dL_times_406 : decode cL_times 406 = .ok (.iconst 1, 1) := by decide +kernel
theorem dL_times_407 : decode cL_times 407 = .ok (.goto 4, 3) := by decide +kernel
theorem dL_times_410 : decode cL_times 410 = .ok (.iconst 0, 1) := by decide +kernel
theorem dL_times_411 : decode cL_times 411 = .ok (.ireturn, 1) := by decide +kernel
theorem dL_times_412 : decode cL_times 412 = .ok (.iload_n 3, 1) := by decide +kernel
theorem dL_times_413 : decode cL_times 413 = .ok (.ifCond .eq 16, 3) := by decide +kernel
theorem dL_times_416 : decode cL_times 416 = .ok (.iload_n 2, 1) := by decide +kernel
theorem dL_times_417 : decode cL_times 417 = .ok (.iconst 3, 1) := by decide +kernel
theorem dL_times_418 : decode cL_times 418 = .ok (.ishr, 1) := by decide +kernel
theorem dL_times_419 : decode cL_times 419 = .ok (.bipush 28, 2) := by decide +kernel
theorem dL_times_421 : decode cL_times 421 = .ok (.invokestatic 119, 3) := by decide +kernel
theorem dL_times_424 : decode cL_times 424 = .ok (.iconst 2, 1) := by decide +kernel
theorem dL_times_425 : decode cL_times 425 = .ok (.isub, 1) := by decide +kernel
theorem dL_times_426 : decode cL_times 426 = .ok (.goto 11, 3) := by decide +kernel
theorem dL_times_429 : decode cL_times 429 = .ok (.iload_n 2, 1) := by decide +kernel
theorem dL_times_430 : decode cL_times 430 = .ok (.iconst 3, 1) := by decide +kernel
theorem dL_times_431 : decode cL_times 431 = .ok (.ishr, 1) := by decide +kernel
theorem dL_times_432 : decode cL_times 432 = .ok (.bipush 24, 2) := by decide +kernel
theorem dL_times_434 : decode cL_times 434 = .ok (.invokestatic 119, 3) := by decide +kernel
theorem dL_times_437 : decode cL_times 437 = .ok (.istore 15, 2) := by decide +kernel
theorem dL_times_439 : decode cL_times 439 = .ok (.iload_n 3, 1) := by decide +kernel
theorem dL_times_440 : decode cL_times 440 = .ok (.ifCond .eq 18, 3) := by decide +kernel
theorem dL_times_443 : decode cL_times 443 = .ok (.iload_n 2, 1) := by decide +kernel
theorem dL_times_444 : decode cL_times 444 = .ok (.bipush 8, 2) := by decide +kernel
theorem dL_times_446 : decode cL_times 446 = .ok (.ishr, 1) := by decide +kernel
theorem dL_times_447 : decode cL_times 447 = .ok (.sipush 1010, 3) := by decide +kernel
theorem dL_times_450 : decode cL_times 450 = .ok (.invokestatic 119, 3) := by decide +kernel
theorem dL_times_453 : decode cL_times 453 = .ok (.iconst 5, 1) := by decide +kernel
theorem dL_times_454 : decode cL_times 454 = .ok (.isub, 1) := by decide +kernel
theorem dL_times_455 : decode cL_times 455 = .ok (.goto 13, 3) := by decide +kernel
theorem dL_times_458 : decode cL_times 458 = .ok (.iload_n 2, 1) := by decide +kernel
theorem dL_times_459 : decode cL_times 459 = .ok (.bipush 8, 2) := by decide +kernel
theorem dL_times_461 : decode cL_times 461 = .ok (.ishr, 1) := by decide +kernel
theorem dL_times_462 : decode cL_times 462 = .ok (.sipush 300, 3) := by decide +kernel
theorem dL_times_465 : decode cL_times 465 = .ok (.invokestatic 119, 3) := by decide +kernel
theorem dL_times_468 : decode cL_times 468 = .ok (.istore 16, 2) := by decide +kernel
theorem dL_times_470 : decode cL_times 470 = .ok (.aload_n 0, 1) := by decide +kernel
theorem dL_times_471 : decode cL_times 471 = .ok (.bipush 9, 2) := by decide +kernel
theorem dL_times_473 : decode cL_times 473 = .ok (.iload 15, 2) := by decide +kernel
theorem dL_times_475 : decode cL_times 475 = .ok (.iload 16, 2) := by decide +kernel
theorem dL_times_477 : decode cL_times 477 = .ok (.iconst 0, 1) := by decide +kernel
theorem dL_times_478 : decode cL_times 478 = .ok (.invokestatic 135, 3) := by decide +kernel
theorem dL_times_481 : decode cL_times 481 = .ok (.istore 17, 2) := by decide +kernel
theorem dL_times_483 : decode cL_times 483 = .ok (.iload 15, 2) := by decide +kernel
theorem dL_times_485 : decode cL_times 485 = .ok (.ifCond .lt 23, 3) := by decide +kernel
theorem dL_times_488 : decode cL_times 488 = .ok (.iload 15, 2) := by decide +kernel
theorem dL_times_490 : decode cL_times 490 = .ok (.bipush 23, 2) := by decide +kernel
theorem dL_times_492 : decode cL_times 492 = .ok (.if_icmp .gt 16, 3) := by decide +kernel
theorem dL_times_495 : decode cL_times 495 = .ok (.iload 16, 2) := by decide +kernel
theorem dL_times_497 : decode cL_times 497 = .ok (.ifCond .lt 11, 3) := by decide +kernel
theorem dL_times_500 : decode cL_times 500 = .ok (.iload 16, 2) := by decide +kernel
theorem dL_times_502 : decode cL_times 502 = .ok (.sipush 1000, 3) := by decide +kernel
theorem dL_times_505 : decode cL_times 505 = .ok (.if_icmp .le 13, 3) := by decide +kernel
theorem dL_times_508 : decode cL_times 508 = .ok (.iload 17, 2) := by decide +kernel
theorem dL_times_510 : decode cL_times 510 = .ok (.bipush (-82), 2) := by decide +kernel
theorem dL_times_512 : decode cL_times 512 = .ok (.if_icmp .ne 49, 3) := by decide +kernel
theorem dL_times_515 : decode cL_times 515 = .ok (.goto 32, 3) := by decide +kernel
theorem dL_times_518 : decode cL_times 518 = .ok (.iload 17, 2) := by decide +kernel
theorem dL_times_520 : decode cL_times 520 = .ok (.ifCond .lt 41, 3) := by decide +kernel
theorem dL_times_523 : decode cL_times 523 = .ok (.iload 17, 2) := by decide +kernel
theorem dL_times_525 : decode cL_times 525 = .ok (.sipush 1000, 3) := by decide +kernel
theorem dL_times_528 : decode cL_times 528 = .ok (.if_icmp .gt 33, 3) := by decide +kernel
theorem dL_times_531 : decode cL_times 531 = .ok (.aload_n 0, 1) := by decide +kernel
theorem dL_times_532 : decode cL_times 532 = .ok (.bipush 9, 2) := by decide +kernel
theorem dL_times_534 : decode cL_times 534 = .ok (.iload 15, 2) := by decide +kernel
theorem dL_times_536 : decode cL_times 536 = .ok (.iload 16, 2) := by decide +kernel
theorem dL_times_538 : decode cL_times 538 = .ok (.iconst 0, 1) := by decide +kernel
theorem dL_times_539 : decode cL_times 539 = .ok (.invokestatic 135, 3) := by decide +kernel
theorem dL_times_542 : decode cL_times 542 = .ok (.iload 16, 2) := by decide +kernel
theorem dL_times_544 : decode cL_times 544 = .ok (.if_icmp .ne 17, 3) := by decide +kernel
theorem dL_times_547 : decode cL_times 547 = .ok (.aload_n 0, 1) := by decide +kernel
theorem dL_times_548 : decode cL_times 548 = .ok (.invokestatic 124, 3) := by decide +kernel
theorem dL_times_551 : decode cL_times 551 = .ok (.lload 8, 2) := by decide +kernel
theorem dL_times_553 : decode cL_times 553 = .ok (.lcmp, 1) := by decide +kernel
theorem dL_times_554 : decode cL_times 554 = .ok (.ifCond .ne 7, 3) := by decide +kernel
theorem dL_times_557 : decode cL_times 557 = .ok (.iconst 1, 1) := by decide +kernel
theorem dL_times_558 : decode cL_times 558 = .ok (.goto 4, 3) := by decide +kernel
theorem dL_times_561 : decode cL_times 561 = .ok (.iconst 0, 1) := by decide +kernel
theorem dL_times_562 : decode cL_times 562 = .ok (.ireturn, 1) := by decide +kernel
theorem dL_plays_0 : decode cL_plays 0 = .ok (.iconst 1, 1) := by decide +kernel
theorem dL_plays_1 : decode cL_plays 1 = .ok (.istore_n 3, 1) := by decide +kernel
theorem dL_plays_2 : decode cL_plays 2 = .ok (.iconst 0, 1) := by decide +kernel
theorem dL_plays_3 : decode cL_plays 3 = .ok (.istore 4, 2) := by decide +kernel
theorem dL_plays_5 : decode cL_plays 5 = .ok (.iload 4, 2) := by decide +kernel
theorem dL_plays_7 : decode cL_plays 7 = .ok (.iload_n 2, 1) := by decide +kernel
theorem dL_plays_8 : decode cL_plays 8 = .ok (.if_icmp .ge 485, 3) := by decide +kernel
theorem dL_plays_11 : decode cL_plays 11 = .ok (.iload_n 3, 1) := by decide +kernel
theorem dL_plays_12 : decode cL_plays 12 = .ok (.ifCond .eq 481, 3) := by decide +kernel
theorem dL_plays_15 : decode cL_plays 15 = .ok (.aload_n 0, 1) := by decide +kernel
theorem dL_plays_16 : decode cL_plays 16 = .ok (.invokevirtual 53, 3) := by decide +kernel
theorem dL_plays_19 : decode cL_plays 19 = .ok (.istore 5, 2) := by decide +kernel
theorem dL_plays_21 : decode cL_plays 21 = .ok (.aload_n 0, 1) := by decide +kernel
theorem dL_plays_22 : decode cL_plays 22 = .ok (.invokevirtual 59, 3) := by decide +kernel
theorem dL_plays_25 : decode cL_plays 25 = .ok (.istore 6, 2) := by decide +kernel
theorem dL_plays_27 : decode cL_plays 27 = .ok (.aload_n 0, 1) := by decide +kernel
theorem dL_plays_28 : decode cL_plays 28 = .ok (.invokevirtual 102, 3) := by decide +kernel
theorem dL_plays_31 : decode cL_plays 31 = .ok (.istore 7, 2) := by decide +kernel
theorem dL_plays_33 : decode cL_plays 33 = .ok (.aload_n 0, 1) := by decide +kernel
theorem dL_plays_34 : decode cL_plays 34 = .ok (.invokevirtual 76, 3) := by decide +kernel
theorem dL_plays_37 : decode cL_plays 37 = .ok (.istore 8, 2) := by decide +kernel
theorem dL_plays_39 : decode cL_plays 39 = .ok (.aload_n 0, 1) := by decide +kernel
theorem dL_plays_40 : decode cL_plays 40 = .ok (.invokevirtual 70, 3) := by decide +kernel
theorem dL_plays_43 : decode cL_plays 43 = .ok (.istore 9, 2) := by decide +kernel
theorem dL_plays_45 : decode cL_plays 45 = .ok (.aload_n 0, 1) := by decide +kernel
theorem dL_plays_46 : decode cL_plays 46 = .ok (.invokevirtual 73, 3) := by decide +kernel
theorem dL_plays_49 : decode cL_plays 49 = .ok (.istore 10, 2) := by decide +kernel
theorem dL_plays_51 : decode cL_plays 51 = .ok (.aload_n 0, 1) := by decide +kernel
theorem dL_plays_52 : decode cL_plays 52 = .ok (.iconst 1, 1) := by decide +kernel
theorem dL_plays_53 : decode cL_plays 53 = .ok (.invokevirtual 110, 3) := by decide +kernel
theorem dL_plays_56 : decode cL_plays 56 = .ok (.aload_n 0, 1) := by decide +kernel
theorem dL_plays_57 : decode cL_plays 57 = .ok (.iconst 2, 1) := by decide +kernel
theorem dL_plays_58 : decode cL_plays 58 = .ok (.invokevirtual 110, 3) := by decide +kernel
theorem dL_plays_61 : decode cL_plays 61 = .ok (.iadd, 1) := by decide +kernel
theorem dL_plays_62 : decode cL_plays 62 = .ok (.aload_n 0, 1) := by decide +kernel
theorem dL_plays_63 : decode cL_plays 63 = .ok (.iconst 3, 1) := by decide +kernel
theorem dL_plays_64 : decode cL_plays 64 = .ok (.invokevirtual 110, 3) := by decide +kernel
theorem dL_plays_67 : decode cL_plays 67 = .ok (.iadd, 1) := by decide +kernel
theorem dL_plays_68 : decode cL_plays 68 = .ok (.aload_n 0, 1) := by decide +kernel
theorem dL_plays_69 : decode cL_plays 69 = .ok (.iconst 0, 1) := by decide +kernel
theorem dL_plays_70 : decode cL_plays 70 = .ok (.invokevirtual 110, 3) := by decide +kernel
theorem dL_plays_73 : decode cL_plays 73 = .ok (.iadd, 1) := by decide +kernel
theorem dL_plays_74 : decode cL_plays 74 = .ok (.istore 11, 2) := by decide +kernel
theorem dL_plays_76 : decode cL_plays 76 = .ok (.aload_n 0, 1) := by decide +kernel
theorem dL_plays_77 : decode cL_plays 77 = .ok (.invokevirtual 64, 3) := by decide +kernel
theorem dL_plays_80 : decode cL_plays 80 = .ok (.lstore 12, 2) := by decide +kernel
theorem dL_plays_82 : decode cL_plays 82 = .ok (.aload_n 0, 1) := by decide +kernel
theorem dL_plays_83 : decode cL_plays 83 = .ok (.invokevirtual 81, 3) := by decide +kernel
theorem dL_plays_86 : decode cL_plays 86 = .ok (.i2l, 1) := by decide +kernel
theorem dL_plays_87 : decode cL_plays 87 = .ok (.aload_n 0, 1) := by decide +kernel
theorem dL_plays_88 : decode cL_plays 88 = .ok (.invokevirtual 86, 3) := by decide +kernel
theorem dL_plays_91 : decode cL_plays 91 = .ok (.i2l, 1) := by decide +kernel
theorem dL_plays_92 : decode cL_plays 92 = .ok (.ladd, 1) := by decide +kernel
theorem dL_plays_93 : decode cL_plays 93 = .ok (.lstore 14, 2) := by decide +kernel
theorem dL_plays_95 : decode cL_plays 95 = .ok (.aload_n 0, 1) := by decide +kernel
theorem dL_plays_96 : decode cL_plays 96 = .ok (.iconst 1, 1) := by decide +kernel
theorem dL_plays_97 : decode cL_plays 97 = .ok (.invokevirtual 37, 3) := by decide +kernel
theorem dL_plays_100 : decode cL_plays 100 = .ok (.iload 5, 2) := by decide +kernel
theorem dL_plays_102 : decode cL_plays 102 = .ok (.iconst 1, 1) := by decide +kernel
theorem dL_plays_103 : decode cL_plays 103 = .ok (.iadd, 1) := by decide +kernel
theorem dL_plays_104 : decode cL_plays 104 = .ok (.if_icmp .ne 48, 3) := by decide +kernel
theorem dL_plays_107 : decode cL_plays 107 = .ok (.aload_n 0, 1) := by decide +kernel
theorem dL_plays_108 : decode cL_plays 108 = .ok (.invokevirtual 53, 3) := by decide +kernel
theorem dL_plays_111 : decode cL_plays 111 = .ok (.iload 5, 2) := by decide +kernel
theorem dL_plays_113 : decode cL_plays 113 = .ok (.iconst 1, 1) := by decide +kernel
theorem dL_plays_114 : decode cL_plays 114 = .ok (.iadd, 1) := by decide +kernel
theorem dL_plays_115 : decode cL_plays 115 = .ok (.if_icmp .ne 37, 3) := by decide +kernel
theorem dL_plays_118 : decode cL_plays 118 = .ok (.aload_n 0, 1) := by decide +kernel
theorem dL_plays_119 : decode cL_plays 119 = .ok (.iconst 0, 1) := by decide +kernel
theorem dL_plays_120 : decode cL_plays 120 = .ok (.invokevirtual 110, 3) := by decide +kernel
theorem dL_plays_123 : decode cL_plays 123 = .ok (.aload_n 0, 1) := by decide +kernel
theorem dL_plays_124 : decode cL_plays 124 = .ok (.iconst 1, 1) := by decide +kernel
theorem dL_plays_125 : decode cL_plays 125 = .ok (.invokevirtual 110, 3) := by decide +kernel
theorem dL_plays_128 : decode cL_plays 128 = .ok (.iadd, 1) := by decide +kernel
theorem dL_plays_129 : decode cL_plays 129 = .ok (.aload_n 0, 1) := by decide +kernel
theorem dL_plays_130 : decode cL_plays 130 = .ok (.iconst 2, 1) := by decide +kernel
theorem dL_plays_131 : decode cL_plays 131 = .ok (.invokevirtual 110, 3) := by decide +kernel
theorem dL_plays_134 : decode cL_plays 134 = .ok (.iadd, 1) := by decide +kernel
theorem dL_plays_135 : decode cL_plays 135 = .ok (.aload_n 0, 1) := by decide +kernel
theorem dL_plays_136 : decode cL_plays 136 = .ok (.iconst 3, 1) := by decide +kernel
theorem dL_plays_137 : decode cL_plays 137 = .ok (.invokevirtual 110, 3) := by decide +kernel
