theorem dL_plays_140 : decode cL_plays 140 = .ok (.iadd, 1) := by decide +kernel
theorem dL_plays_141 : decode cL_plays 141 = .ok (.iload 11, 2) := by decide +kernel
theorem dL_plays_143 : decode cL_plays 143 = .ok (.iconst 1, 1) := by decide +kernel
theorem dL_plays_144 : decode cL_plays 144 = .ok (.iadd, 1) := by decide +kernel
theorem dL_plays_145 : decode cL_plays 145 = .ok (.if_icmp .ne 7, 3) := by decide +kernel
theorem dL_plays_148 : decode cL_plays 148 = .ok (.iconst 1, 1) := by decide +kernel
theorem dL_plays_149 : decode cL_plays 149 = .ok (.goto 4, 3) := by decide +kernel
theorem dL_plays_152 : decode cL_plays 152 = .ok (.iconst 0, 1) := by decide +kernel
theorem dL_plays_153 : decode cL_plays 153 = .ok (.istore_n 3, 1) := by decide +kernel
theorem dL_plays_154 : decode cL_plays 154 = .ok (.aload_n 0, 1) := by decide +kernel
theorem dL_plays_155 : decode cL_plays 155 = .ok (.invokevirtual 59, 3) := by decide +kernel
theorem dL_plays_158 : decode cL_plays 158 = .ok (.istore 16, 2) := by decide +kernel
theorem dL_plays_160 : decode cL_plays 160 = .ok (.aload_n 0, 1) := by decide +kernel
theorem dL_plays_161 : decode cL_plays 161 = .ok (.invokevirtual 102, 3) := by decide +kernel
theorem dL_plays_164 : decode cL_plays 164 = .ok (.ifCond .ge 8, 3) := by decide +kernel
theorem dL_plays_167 : decode cL_plays 167 = .ok (.ldc 142, 2) := by decide +kernel
theorem dL_plays_169 : decode cL_plays 169 = .ok (.goto 10, 3) := by decide +kernel
theorem dL_plays_172 : decode cL_plays 172 = .ok (.aload_n 0, 1) := by decide +kernel
theorem dL_plays_173 : decode cL_plays 173 = .ok (.invokevirtual 102, 3) := by decide +kernel
theorem dL_plays_176 : decode cL_plays 176 = .ok (.iload 5, 2) := by decide +kernel
theorem dL_plays_178 : decode cL_plays 178 = .ok (.isub, 1) := by decide +kernel
theorem dL_plays_179 : decode cL_plays 179 = .ok (.istore 17, 2) := by decide +kernel
theorem dL_plays_181 : decode cL_plays 181 = .ok (.iload 16, 2) := by decide +kernel
theorem dL_plays_183 : decode cL_plays 183 = .ok (.ifCond .le 23, 3) := by decide +kernel
theorem dL_plays_186 : decode cL_plays 186 = .ok (.iload 17, 2) := by decide +kernel
theorem dL_plays_188 : decode cL_plays 188 = .ok (.aload_n 1, 1) := by decide +kernel
theorem dL_plays_189 : decode cL_plays 189 = .ok (.bipush 8, 2) := by decide +kernel
theorem dL_plays_191 : decode cL_plays 191 = .ok (.iload 16, 2) := by decide +kernel
theorem dL_plays_193 : decode cL_plays 193 = .ok (.iadd, 1) := by decide +kernel
theorem dL_plays_194 : decode cL_plays 194 = .ok (.iaload, 1) := by decide +kernel
theorem dL_plays_195 : decode cL_plays 195 = .ok (.if_icmp .le 11, 3) := by decide +kernel
theorem dL_plays_198 : decode cL_plays 198 = .ok (.aload_n 1, 1) := by decide +kernel
theorem dL_plays_199 : decode cL_plays 199 = .ok (.iload 16, 2) := by decide +kernel
theorem dL_plays_201 : decode cL_plays 201 = .ok (.iaload, 1) := by decide +kernel
theorem dL_plays_202 : decode cL_plays 202 = .ok (.i2l, 1) := by decide +kernel
theorem dL_plays_203 : decode cL_plays 203 = .ok (.goto 7, 3) := by decide +kernel
theorem dL_plays_206 : decode cL_plays 206 = .ok (.aload_n 1, 1) := by decide +kernel
theorem dL_plays_207 : decode cL_plays 207 = .ok (.iconst 0, 1) := by decide +kernel
theorem dL_plays_208 : decode cL_plays 208 = .ok (.iaload, 1) := by decide +kernel
theorem dL_plays_209 : decode cL_plays 209 = .ok (.i2l, 1) := by decide +kernel
theorem dL_plays_210 : decode cL_plays 210 = .ok (.lstore 18, 2) := by decide +kernel
theorem dL_plays_212 : decode cL_plays 212 = .ok (.aload_n 0, 1) := by decide +kernel
theorem dL_plays_213 : decode cL_plays 213 = .ok (.invokevirtual 70, 3) := by decide +kernel
theorem dL_plays_216 : decode cL_plays 216 = .ok (.iload 9, 2) := by decide +kernel
theorem dL_plays_218 : decode cL_plays 218 = .ok (.if_icmp .le 7, 3) := by decide +kernel
theorem dL_plays_221 : decode cL_plays 221 = .ok (.iconst 1, 1) := by decide +kernel
theorem dL_plays_222 : decode cL_plays 222 = .ok (.goto 4, 3) := by decide +kernel
theorem dL_plays_225 : decode cL_plays 225 = .ok (.iconst 0, 1) := by decide +kernel
theorem dL_plays_226 : decode cL_plays 226 = .ok (.istore 20, 2) := by decide +kernel
theorem dL_plays_228 : decode cL_plays 228 = .ok (.lload 18, 2) := by decide +kernel
theorem dL_plays_230 : decode cL_plays 230 = .ok (.aload_n 1, 1) := by decide +kernel
theorem dL_plays_231 : decode cL_plays 231 = .ok (.iconst 0, 1) := by decide +kernel
theorem dL_plays_232 : decode cL_plays 232 = .ok (.iaload, 1) := by decide +kernel
theorem dL_plays_233 : decode cL_plays 233 = .ok (.i2l, 1) := by decide +kernel
theorem dL_plays_234 : decode cL_plays 234 = .ok (.aload_n 0, 1) := by decide +kernel
theorem dL_plays_235 : decode cL_plays 235 = .ok (.invokevirtual 76, 3) := by decide +kernel
theorem dL_plays_238 : decode cL_plays 238 = .ok (.iload 8, 2) := by decide +kernel
theorem dL_plays_240 : decode cL_plays 240 = .ok (.isub, 1) := by decide +kernel
theorem dL_plays_241 : decode cL_plays 241 = .ok (.i2l, 1) := by decide +kernel
theorem dL_plays_242 : decode cL_plays 242 = .ok (.lmul, 1) := by decide +kernel
theorem dL_plays_243 : decode cL_plays 243 = .ok (.ladd, 1) := by decide +kernel
theorem dL_plays_244 : decode cL_plays 244 = .ok (.iload 20, 2) := by decide +kernel
theorem dL_plays_246 : decode cL_plays 246 = .ok (.ifCond .eq 13, 3) := by decide +kernel
theorem dL_plays_249 : decode cL_plays 249 = .ok (.aload_n 1, 1) := by decide +kernel
theorem dL_plays_250 : decode cL_plays 250 = .ok (.iconst 4, 1) := by decide +kernel
theorem dL_plays_251 : decode cL_plays 251 = .ok (.iload 16, 2) := by decide +kernel
theorem dL_plays_253 : decode cL_plays 253 = .ok (.iadd, 1) := by decide +kernel
theorem dL_plays_254 : decode cL_plays 254 = .ok (.iaload, 1) := by decide +kernel
theorem dL_plays_255 : decode cL_plays 255 = .ok (.i2l, 1) := by decide +kernel
theorem dL_plays_256 : decode cL_plays 256 = .ok (.goto 4, 3) := by decide +kernel
theorem dL_plays_259 : decode cL_plays 259 = .ok (.lconst 0, 1) := by decide +kernel
theorem dL_plays_260 : decode cL_plays 260 = .ok (.ladd, 1) := by decide +kernel
theorem dL_plays_261 : decode cL_plays 261 = .ok (.aload_n 1, 1) := by decide +kernel
theorem dL_plays_262 : decode cL_plays 262 = .ok (.iconst 0, 1) := by decide +kernel
theorem dL_plays_263 : decode cL_plays 263 = .ok (.iaload, 1) := by decide +kernel
theorem dL_plays_264 : decode cL_plays 264 = .ok (.i2l, 1) := by decide +kernel
theorem dL_plays_265 : decode cL_plays 265 = .ok (.aload_n 0, 1) := by decide +kernel
theorem dL_plays_266 : decode cL_plays 266 = .ok (.invokevirtual 73, 3) := by decide +kernel
theorem dL_plays_269 : decode cL_plays 269 = .ok (.iload 10, 2) := by decide +kernel
theorem dL_plays_271 : decode cL_plays 271 = .ok (.isub, 1) := by decide +kernel
theorem dL_plays_272 : decode cL_plays 272 = .ok (.i2l, 1) := by decide +kernel
theorem dL_plays_273 : decode cL_plays 273 = .ok (.lmul, 1) := by decide +kernel
theorem dL_plays_274 : decode cL_plays 274 = .ok (.ladd, 1) := by decide +kernel
theorem dL_plays_275 : decode cL_plays 275 = .ok (.lstore 21, 2) := by decide +kernel
theorem dL_plays_277 : decode cL_plays 277 = .ok (.iload_n 3, 1) := by decide +kernel
theorem dL_plays_278 : decode cL_plays 278 = .ok (.ifCond .eq 85, 3) := by decide +kernel
theorem dL_plays_281 : decode cL_plays 281 = .ok (.aload_n 0, 1) := by decide +kernel
theorem dL_plays_282 : decode cL_plays 282 = .ok (.invokevirtual 64, 3) := by decide +kernel
theorem dL_plays_285 : decode cL_plays 285 = .ok (.lload 12, 2) := by decide +kernel
theorem dL_plays_287 : decode cL_plays 287 = .ok (.lload 21, 2) := by decide +kernel
theorem dL_plays_289 : decode cL_plays 289 = .ok (.ladd, 1) := by decide +kernel
theorem dL_plays_290 : decode cL_plays 290 = .ok (.lcmp, 1) := by decide +kernel
theorem dL_plays_291 : decode cL_plays 291 = .ok (.ifCond .ne 72, 3) := by decide +kernel
theorem dL_plays_294 : decode cL_plays 294 = .ok (.aload_n 0, 1) := by decide +kernel
theorem dL_plays_295 : decode cL_plays 295 = .ok (.invokevirtual 70, 3) := by decide +kernel
theorem dL_plays_298 : decode cL_plays 298 = .ok (.iload 9, 2) := by decide +kernel
theorem dL_plays_300 : decode cL_plays 300 = .ok (.isub, 1) := by decide +kernel
theorem dL_plays_301 : decode cL_plays 301 = .ok (.iload 20, 2) := by decide +kernel
theorem dL_plays_303 : decode cL_plays 303 = .ok (.ifCond .eq 7, 3) := by decide +kernel
theorem dL_plays_306 : decode cL_plays 306 = .ok (.iconst 1, 1) := by decide +kernel
theorem dL_plays_307 : decode cL_plays 307 = .ok (.goto 4, 3) := by decide +kernel
theorem dL_plays_310 : decode cL_plays 310 = .ok (.iconst 0, 1) := by decide +kernel
theorem dL_plays_311 : decode cL_plays 311 = .ok (.if_icmp .ne 52, 3) := by decide +kernel
theorem dL_plays_314 : decode cL_plays 314 = .ok (.iload 20, 2) := by decide +kernel
theorem dL_plays_316 : decode cL_plays 316 = .ok (.ifCond .ne 15, 3) := by decide +kernel
theorem dL_plays_319 : decode cL_plays 319 = .ok (.iload 16, 2) := by decide +kernel
theorem dL_plays_321 : decode cL_plays 321 = .ok (.ifCond .eq 10, 3) := by decide +kernel
theorem dL_plays_324 : decode cL_plays 324 = .ok (.iload 6, 2) := by decide +kernel
theorem dL_plays_326 : decode cL_plays 326 = .ok (.iload 16, 2) := by decide +kernel
theorem dL_plays_328 : decode cL_plays 328 = .ok (.if_icmp .ne 35, 3) := by decide +kernel
theorem dL_plays_331 : decode cL_plays 331 = .ok (.iload 20, 2) := by decide +kernel
theorem dL_plays_333 : decode cL_plays 333 = .ok (.ifCond .eq 8, 3) := by decide +kernel
theorem dL_plays_336 : decode cL_plays 336 = .ok (.iload 16, 2) := by decide +kernel
theorem dL_plays_338 : decode cL_plays 338 = .ok (.ifCond .le 25, 3) := by decide +kernel
theorem dL_plays_341 : decode cL_plays 341 = .ok (.iload 16, 2) := by decide +kernel
theorem dL_plays_343 : decode cL_plays 343 = .ok (.iload 20, 2) := by decide +kernel
theorem dL_plays_345 : decode cL_plays 345 = .ok (.ifCond .eq 10, 3) := by decide +kernel
theorem dL_plays_348 : decode cL_plays 348 = .ok (.aload_n 0, 1) := by decide +kernel
theorem dL_plays_349 : decode cL_plays 349 = .ok (.invokevirtual 97, 3) := by decide +kernel
theorem dL_plays_352 : decode cL_plays 352 = .ok (.goto 4, 3) := by decide +kernel
theorem dL_plays_355 : decode cL_plays 355 = .ok (.iconst 3, 1) := by decide +kernel
theorem dL_plays_356 : decode cL_plays 356 = .ok (.if_icmp .gt 7, 3) := by decide +kernel
theorem dL_plays_359 : decode cL_plays 359 = .ok (.iconst 1, 1) := by decide +kernel
theorem dL_plays_360 : decode cL_plays 360 = .ok (.goto 4, 3) := by decide +kernel
theorem dL_plays_363 : decode cL_plays 363 = .ok (.iconst 0, 1) := by decide +kernel
theorem dL_plays_364 : decode cL_plays 364 = .ok (.istore_n 3, 1) := by decide +kernel
theorem dL_plays_365 : decode cL_plays 365 = .ok (.iload_n 3, 1) := by decide +kernel
theorem dL_plays_366 : decode cL_plays 366 = .ok (.ifCond .eq 119, 3) := by decide +kernel
theorem dL_plays_369 : decode cL_plays 369 = .ok (.iload 6, 2) := by decide +kernel
theorem dL_plays_371 : decode cL_plays 371 = .ok (.ifCond .eq 20, 3) := by decide +kernel
theorem dL_plays_374 : decode cL_plays 374 = .ok (.iload 20, 2) := by decide +kernel
theorem dL_plays_376 : decode cL_plays 376 = .ok (.ifCond .ne 15, 3) := by decide +kernel
theorem dL_plays_379 : decode cL_plays 379 = .ok (.iload 16, 2) := by decide +kernel
theorem dL_plays_381 : decode cL_plays 381 = .ok (.ifCond .eq 10, 3) := by decide +kernel
theorem dL_plays_384 : decode cL_plays 384 = .ok (.iload 7, 2) := by decide +kernel
theorem dL_plays_386 : decode cL_plays 386 = .ok (.iload 5, 2) := by decide +kernel
theorem dL_plays_388 : decode cL_plays 388 = .ok (.if_icmp .eq 97, 3) := by decide +kernel
theorem dL_plays_391 : decode cL_plays 391 = .ok (.iload 10, 2) := by decide +kernel
theorem dL_plays_393 : decode cL_plays 393 = .ok (.aload_n 0, 1) := by decide +kernel
theorem dL_plays_394 : decode cL_plays 394 = .ok (.invokevirtual 73, 3) := by decide +kernel
theorem dL_plays_397 : decode cL_plays 397 = .ok (.if_icmp .eq 32, 3) := by decide +kernel
theorem dL_plays_400 : decode cL_plays 400 = .ok (.iload 6, 2) := by decide +kernel
theorem dL_plays_402 : decode cL_plays 402 = .ok (.ifCond .le 83, 3) := by decide +kernel
theorem dL_plays_405 : decode cL_plays 405 = .ok (.aload_n 0, 1) := by decide +kernel
theorem dL_plays_406 : decode cL_plays 406 = .ok (.invokevirtual 73, 3) := by decide +kernel
theorem dL_plays_409 : decode cL_plays 409 = .ok (.iload 10, 2) := by decide +kernel
theorem dL_plays_411 : decode cL_plays 411 = .ok (.aload_n 1, 1) := by decide +kernel
theorem dL_plays_412 : decode cL_plays 412 = .ok (.bipush 8, 2) := by decide +kernel
theorem dL_plays_414 : decode cL_plays 414 = .ok (.iload 6, 2) := by decide +kernel
theorem dL_plays_416 : decode cL_plays 416 = .ok (.iadd, 1) := by decide +kernel
theorem dL_plays_417 : decode cL_plays 417 = .ok (.iaload, 1) := by decide +kernel
theorem dL_plays_418 : decode cL_plays 418 = .ok (.iadd, 1) := by decide +kernel
theorem dL_plays_419 : decode cL_plays 419 = .ok (.if_icmp .ne 66, 3) := by decide +kernel
theorem dL_plays_422 : decode cL_plays 422 = .ok (.iload 7, 2) := by decide +kernel
theorem dL_plays_424 : decode cL_plays 424 = .ok (.iload 5, 2) := by decide +kernel
theorem dL_plays_426 : decode cL_plays 426 = .ok (.if_icmp .eq 59, 3) := by decide +kernel
theorem dL_plays_429 : decode cL_plays 429 = .ok (.aload_n 0, 1) := by decide +kernel
theorem dL_plays_430 : decode cL_plays 430 = .ok (.invokevirtual 81, 3) := by decide +kernel
theorem dL_plays_433 : decode cL_plays 433 = .ok (.ifCond .lt 52, 3) := by decide +kernel
theorem dL_plays_436 : decode cL_plays 436 = .ok (.aload_n 0, 1) := by decide +kernel
theorem dL_plays_437 : decode cL_plays 437 = .ok (.invokevirtual 81, 3) := by decide +kernel
theorem dL_plays_440 : decode cL_plays 440 = .ok (.ldc 143, 2) := by decide +kernel
theorem dL_plays_442 : decode cL_plays 442 = .ok (.if_icmp .gt 43, 3) := by decide +kernel
theorem dL_plays_445 : decode cL_plays 445 = .ok (.aload_n 0, 1) := by decide +kernel
theorem dL_plays_446 : decode cL_plays 446 = .ok (.invokevirtual 86, 3) := by decide +kernel
theorem dL_plays_449 : decode cL_plays 449 = .ok (.ifCond .lt 36, 3) := by decide +kernel
theorem dL_plays_452 : decode cL_plays 452 = .ok (.aload_n 0, 1) := by decide +kernel
theorem dL_plays_453 : decode cL_plays 453 = .ok (.invokevirtual 86, 3) := by decide +kernel
theorem dL_plays_456 : decode cL_plays 456 = .ok (.ldc 142, 2) := by decide +kernel
theorem dL_plays_458 : decode cL_plays 458 = .ok (.if_icmp .gt 27, 3) := by decide +kernel
theorem dL_plays_461 : decode cL_plays 461 = .ok (.aload_n 0, 1) := by decide +kernel
theorem dL_plays_462 : decode cL_plays 462 = .ok (.invokevirtual 81, 3) := by decide +kernel
theorem dL_plays_465 : decode cL_plays 465 = .ok (.aload_n 0, 1) := by decide +kernel
theorem dL_plays_466 : decode cL_plays 466 = .ok (.invokevirtual 86, 3) := by decide +kernel
theorem dL_plays_469 : decode cL_plays 469 = .ok (.iadd, 1) := by decide +kernel
theorem dL_plays_470 : decode cL_plays 470 = .ok (.i2l, 1) := by decide +kernel
theorem dL_plays_471 : decode cL_plays 471 = .ok (.lload 14, 2) := by decide +kernel
theorem dL_plays_473 : decode cL_plays 473 = .ok (.ldc2_w 144, 3) := by decide +kernel
theorem dL_plays_476 : decode cL_plays 476 = .ok (.ladd, 1) := by decide +kernel
theorem dL_plays_477 : decode cL_plays 477 = .ok (.lcmp, 1) := by decide +kernel
theorem dL_plays_478 : decode cL_plays 478 = .ok (.ifCond .gt 7, 3) := by decide +kernel
theorem dL_plays_481 : decode cL_plays 481 = .ok (.iconst 1, 1) := by decide +kernel
theorem dL_plays_482 : decode cL_plays 482 = .ok (.goto 4, 3) := by decide +kernel
theorem dL_plays_485 : decode cL_plays 485 = .ok (.iconst 0, 1) := by decide +kernel
theorem dL_plays_486 : decode cL_plays 486 = .ok (.istore_n 3, 1) := by decide +kernel
theorem dL_plays_487 : decode cL_plays 487 = .ok (.iinc 4 1, 3) := by decide +kernel
theorem dL_plays_490 : decode cL_plays 490 = .ok (.goto (-485), 3) := by decide +kernel
theorem dL_plays_493 : decode cL_plays 493 = .ok (.iload_n 3, 1) := by decide +kernel
theorem dL_plays_494 : decode cL_plays 494 = .ok (.ireturn, 1) := by decide +kernel
theorem dL_begins_0 : decode cL_begins 0 = .ok (.aload_n 0, 1) := by decide +kernel
theorem dL_begins_1 : decode cL_begins 1 = .ok (.iconst 0, 1) := by decide +kernel
theorem dL_begins_2 : decode cL_begins 2 = .ok (.bipush 100, 2) := by decide +kernel
theorem dL_begins_4 : decode cL_begins 4 = .ok (.iastore, 1) := by decide +kernel
theorem dL_begins_5 : decode cL_begins 5 = .ok (.aload_n 0, 1) := by decide +kernel
theorem dL_begins_6 : decode cL_begins 6 = .ok (.iconst 1, 1) := by decide +kernel
theorem dL_begins_7 : decode cL_begins 7 = .ok (.bipush 40, 2) := by decide +kernel
theorem dL_begins_9 : decode cL_begins 9 = .ok (.iastore, 1) := by decide +kernel
theorem dL_begins_10 : decode cL_begins 10 = .ok (.aload_n 0, 1) := by decide +kernel
theorem dL_begins_11 : decode cL_begins 11 = .ok (.iconst 2, 1) := by decide +kernel
theorem dL_begins_12 : decode cL_begins 12 = .ok (.bipush 10, 2) := by decide +kernel
theorem dL_begins_14 : decode cL_begins 14 = .ok (.iastore, 1) := by decide +kernel
theorem dL_begins_15 : decode cL_begins 15 = .ok (.aload_n 0, 1) := by decide +kernel
theorem dL_begins_16 : decode cL_begins 16 = .ok (.iconst 3, 1) := by decide +kernel
theorem dL_begins_17 : decode cL_begins 17 = .ok (.iconst 1, 1) := by decide +kernel
theorem dL_begins_18 : decode cL_begins 18 = .ok (.iastore, 1) := by decide +kernel
theorem dL_begins_19 : decode cL_begins 19 = .ok (.aload_n 0, 1) := by decide +kernel
theorem dL_begins_20 : decode cL_begins 20 = .ok (.iconst 5, 1) := by decide +kernel
theorem dL_begins_21 : decode cL_begins 21 = .ok (.bipush 20, 2) := by decide +kernel
theorem dL_begins_23 : decode cL_begins 23 = .ok (.iastore, 1) := by decide +kernel
theorem dL_begins_24 : decode cL_begins 24 = .ok (.aload_n 0, 1) := by decide +kernel
theorem dL_begins_25 : decode cL_begins 25 = .ok (.bipush 6, 2) := by decide +kernel
theorem dL_begins_27 : decode cL_begins 27 = .ok (.sipush 150, 3) := by decide +kernel
theorem dL_begins_30 : decode cL_begins 30 = .ok (.iastore, 1) := by decide +kernel
theorem dL_begins_31 : decode cL_begins 31 = .ok (.aload_n 0, 1) := by decide +kernel
theorem dL_begins_32 : decode cL_begins 32 = .ok (.bipush 7, 2) := by decide +kernel
theorem dL_begins_34 : decode cL_begins 34 = .ok (.sipush 600, 3) := by decide +kernel
theorem dL_begins_37 : decode cL_begins 37 = .ok (.iastore, 1) := by decide +kernel
theorem dL_begins_38 : decode cL_begins 38 = .ok (.aload_n 0, 1) := by decide +kernel
theorem dL_begins_39 : decode cL_begins 39 = .ok (.bipush 9, 2) := by decide +kernel
theorem dL_begins_41 : decode cL_begins 41 = .ok (.iconst 1, 1) := by decide +kernel
theorem dL_begins_42 : decode cL_begins 42 = .ok (.iastore, 1) := by decide +kernel
theorem dL_begins_43 : decode cL_begins 43 = .ok (.aload_n 0, 1) := by decide +kernel
theorem dL_begins_44 : decode cL_begins 44 = .ok (.bipush 10, 2) := by decide +kernel
theorem dL_begins_46 : decode cL_begins 46 = .ok (.iconst 3, 1) := by decide +kernel
theorem dL_begins_47 : decode cL_begins 47 = .ok (.iastore, 1) := by decide +kernel
theorem dL_begins_48 : decode cL_begins 48 = .ok (.aload_n 0, 1) := by decide +kernel
theorem dL_begins_49 : decode cL_begins 49 = .ok (.bipush 11, 2) := by decide +kernel
theorem dL_begins_51 : decode cL_begins 51 = .ok (.bipush 8, 2) := by decide +kernel
theorem dL_begins_53 : decode cL_begins 53 = .ok (.iastore, 1) := by decide +kernel
theorem dL_begins_54 : decode cL_begins 54 = .ok (.return_, 1) := by decide +kernel
theorem dL_law_0 : decode cL_law 0 = .ok (.new 9, 3) := by decide +kernel
theorem dL_law_3 : decode cL_law 3 = .ok (.dup, 1) := by decide +kernel
theorem dL_law_4 : decode cL_law 4 = .ok (.invokespecial 146, 3) := by decide +kernel
theorem dL_law_7 : decode cL_law 7 = .ok (.astore_n 1, 1) := by decide +kernel
theorem dL_law_8 : decode cL_law 8 = .ok (.bipush 12, 2) := by decide +kernel
theorem dL_law_10 : decode cL_law 10 = .ok (.newarray .int, 2) := by decide +kernel
theorem dL_law_12 : decode cL_law 12 = .ok (.astore_n 2, 1) := by decide +kernel
theorem dL_law_13 : decode cL_law 13 = .ok (.aload_n 2, 1) := by decide +kernel
theorem dL_law_14 : decode cL_law 14 = .ok (.invokestatic 147, 3) := by decide +kernel
theorem dL_law_17 : decode cL_law 17 = .ok (.aload_n 1, 1) := by decide +kernel
theorem dL_law_18 : decode cL_law 18 = .ok (.invokestatic 124, 3) := by decide +kernel
theorem dL_law_21 : decode cL_law 21 = .ok (.aload_n 1, 1) := by decide +kernel
theorem dL_law_22 : decode cL_law 22 = .ok (.invokestatic 124, 3) := by decide +kernel
theorem dL_law_25 : decode cL_law 25 = .ok (.lcmp, 1) := by decide +kernel
theorem dL_law_26 : decode cL_law 26 = .ok (.ifCond .ne 14, 3) := by decide +kernel
theorem dL_law_29 : decode cL_law 29 = .ok (.aload_n 1, 1) := by decide +kernel
theorem dL_law_30 : decode cL_law 30 = .ok (.invokevirtual 59, 3) := by decide +kernel
theorem dL_law_33 : decode cL_law 33 = .ok (.ifCond .ne 7, 3) := by decide +kernel
theorem dL_law_36 : decode cL_law 36 = .ok (.iconst 1, 1) := by decide +kernel
theorem dL_law_37 : decode cL_law 37 = .ok (.goto 4, 3) := by decide +kernel
theorem dL_law_40 : decode cL_law 40 = .ok (.iconst 0, 1) := by decide +kernel
theorem dL_law_41 : decode cL_law 41 = .ok (.istore_n 3, 1) := by decide +kernel
theorem dL_law_42 : decode cL_law 42 = .ok (.iconst 0, 1) := by decide +kernel
theorem dL_law_43 : decode cL_law 43 = .ok (.istore 4, 2) := by decide +kernel
theorem dL_law_45 : decode cL_law 45 = .ok (.iload 4, 2) := by decide +kernel
theorem dL_law_47 : decode cL_law 47 = .ok (.bipush 44, 2) := by decide +kernel
theorem dL_law_49 : decode cL_law 49 = .ok (.if_icmp .ge 202, 3) := by decide +kernel
theorem dL_law_52 : decode cL_law 52 = .ok (.iload_n 3, 1) := by decide +kernel
theorem dL_law_53 : decode cL_law 53 = .ok (.ifCond .eq 198, 3) := by decide +kernel
theorem dL_law_56 : decode cL_law 56 = .ok (.aload_n 0, 1) := by decide +kernel
theorem dL_law_57 : decode cL_law 57 = .ok (.iconst 2, 1) := by decide +kernel
theorem dL_law_58 : decode cL_law 58 = .ok (.iload 4, 2) := by decide +kernel
theorem dL_law_60 : decode cL_law 60 = .ok (.imul, 1) := by decide +kernel
theorem dL_law_61 : decode cL_law 61 = .ok (.invokestatic 151, 3) := by decide +kernel
theorem dL_law_64 : decode cL_law 64 = .ok (.istore 5, 2) := by decide +kernel
theorem dL_law_66 : decode cL_law 66 = .ok (.aload_n 0, 1) := by decide +kernel
theorem dL_law_67 : decode cL_law 67 = .ok (.iconst 2, 1) := by decide +kernel
theorem dL_law_68 : decode cL_law 68 = .ok (.iload 4, 2) := by decide +kernel
theorem dL_law_70 : decode cL_law 70 = .ok (.imul, 1) := by decide +kernel
theorem dL_law_71 : decode cL_law 71 = .ok (.iconst 1, 1) := by decide +kernel
theorem dL_law_72 : decode cL_law 72 = .ok (.iadd, 1) := by decide +kernel
theorem dL_law_73 : decode cL_law 73 = .ok (.invokestatic 151, 3) := by decide +kernel
theorem dL_law_76 : decode cL_law 76 = .ok (.istore 6, 2) := by decide +kernel
theorem dL_law_78 : decode cL_law 78 = .ok (.iload 5, 2) := by decide +kernel
theorem dL_law_80 : decode cL_law 80 = .ok (.bipush 9, 2) := by decide +kernel
theorem dL_law_82 : decode cL_law 82 = .ok (.ishr, 1) := by decide +kernel
theorem dL_law_83 : decode cL_law 83 = .ok (.bipush 10, 2) := by decide +kernel
theorem dL_law_85 : decode cL_law 85 = .ok (.invokestatic 119, 3) := by decide +kernel
theorem dL_law_88 : decode cL_law 88 = .ok (.ifCond .ne 7, 3) := by decide +kernel
theorem dL_law_91 : decode cL_law 91 = .ok (.iconst 1, 1) := by decide +kernel
theorem dL_law_92 : decode cL_law 92 = .ok (.goto 4, 3) := by decide +kernel
theorem dL_law_95 : decode cL_law 95 = .ok (.iconst 0, 1) := by decide +kernel
theorem dL_law_96 : decode cL_law 96 = .ok (.istore 7, 2) := by decide +kernel
theorem dL_law_98 : decode cL_law 98 = .ok (.iload 5, 2) := by decide +kernel
theorem dL_law_100 : decode cL_law 100 = .ok (.bipush 14, 2) := by decide +kernel
theorem dL_law_102 : decode cL_law 102 = .ok (.invokestatic 119, 3) := by decide +kernel
theorem dL_law_105 : decode cL_law 105 = .ok (.istore 8, 2) := by decide +kernel
theorem dL_law_107 : decode cL_law 107 = .ok (.iload 8, 2) := by decide +kernel
theorem dL_law_109 : decode cL_law 109 = .ok (.iconst 3, 1) := by decide +kernel
theorem dL_law_110 : decode cL_law 110 = .ok (.if_icmp .ge 15, 3) := by decide +kernel
