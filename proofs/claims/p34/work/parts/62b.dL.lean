theorem dL_changes_59 : decode cL_changes 59 = .ok (.goto 12, 3) := by decide +kernel
theorem dL_changes_62 : decode cL_changes 62 = .ok (.iconst 1, 1) := by decide +kernel
theorem dL_changes_63 : decode cL_changes 63 = .ok (.iload_n 2, 1) := by decide +kernel
theorem dL_changes_64 : decode cL_changes 64 = .ok (.iconst 3, 1) := by decide +kernel
theorem dL_changes_65 : decode cL_changes 65 = .ok (.ishr, 1) := by decide +kernel
theorem dL_changes_66 : decode cL_changes 66 = .ok (.iconst 3, 1) := by decide +kernel
theorem dL_changes_67 : decode cL_changes 67 = .ok (.invokestatic 119, 3) := by decide +kernel
theorem dL_changes_70 : decode cL_changes 70 = .ok (.iadd, 1) := by decide +kernel
theorem dL_changes_71 : decode cL_changes 71 = .ok (.istore 11, 2) := by decide +kernel
theorem dL_changes_73 : decode cL_changes 73 = .ok (.iload_n 3, 1) := by decide +kernel
theorem dL_changes_74 : decode cL_changes 74 = .ok (.ifCond .eq 19, 3) := by decide +kernel
theorem dL_changes_77 : decode cL_changes 77 = .ok (.iload_n 2, 1) := by decide +kernel
theorem dL_changes_78 : decode cL_changes 78 = .ok (.bipush 6, 2) := by decide +kernel
theorem dL_changes_80 : decode cL_changes 80 = .ok (.ishr, 1) := by decide +kernel
theorem dL_changes_81 : decode cL_changes 81 = .ok (.sipush 1020, 3) := by decide +kernel
theorem dL_changes_84 : decode cL_changes 84 = .ok (.invokestatic 119, 3) := by decide +kernel
theorem dL_changes_87 : decode cL_changes 87 = .ok (.bipush 10, 2) := by decide +kernel
theorem dL_changes_89 : decode cL_changes 89 = .ok (.isub, 1) := by decide +kernel
theorem dL_changes_90 : decode cL_changes 90 = .ok (.goto 12, 3) := by decide +kernel
theorem dL_changes_93 : decode cL_changes 93 = .ok (.iload_n 2, 1) := by decide +kernel
theorem dL_changes_94 : decode cL_changes 94 = .ok (.bipush 6, 2) := by decide +kernel
theorem dL_changes_96 : decode cL_changes 96 = .ok (.ishr, 1) := by decide +kernel
theorem dL_changes_97 : decode cL_changes 97 = .ok (.bipush 80, 2) := by decide +kernel
theorem dL_changes_99 : decode cL_changes 99 = .ok (.invokestatic 119, 3) := by decide +kernel
theorem dL_changes_102 : decode cL_changes 102 = .ok (.istore 12, 2) := by decide +kernel
theorem dL_changes_104 : decode cL_changes 104 = .ok (.iload_n 3, 1) := by decide +kernel
theorem dL_changes_105 : decode cL_changes 105 = .ok (.ifCond .eq 19, 3) := by decide +kernel
theorem dL_changes_108 : decode cL_changes 108 = .ok (.iload_n 2, 1) := by decide +kernel
theorem dL_changes_109 : decode cL_changes 109 = .ok (.bipush 9, 2) := by decide +kernel
theorem dL_changes_111 : decode cL_changes 111 = .ok (.ishr, 1) := by decide +kernel
theorem dL_changes_112 : decode cL_changes 112 = .ok (.sipush 10020, 3) := by decide +kernel
theorem dL_changes_115 : decode cL_changes 115 = .ok (.invokestatic 119, 3) := by decide +kernel
theorem dL_changes_118 : decode cL_changes 118 = .ok (.bipush 10, 2) := by decide +kernel
theorem dL_changes_120 : decode cL_changes 120 = .ok (.isub, 1) := by decide +kernel
theorem dL_changes_121 : decode cL_changes 121 = .ok (.goto 13, 3) := by decide +kernel
theorem dL_changes_124 : decode cL_changes 124 = .ok (.iload_n 2, 1) := by decide +kernel
theorem dL_changes_125 : decode cL_changes 125 = .ok (.bipush 9, 2) := by decide +kernel
theorem dL_changes_127 : decode cL_changes 127 = .ok (.ishr, 1) := by decide +kernel
theorem dL_changes_128 : decode cL_changes 128 = .ok (.sipush 400, 3) := by decide +kernel
theorem dL_changes_131 : decode cL_changes 131 = .ok (.invokestatic 119, 3) := by decide +kernel
theorem dL_changes_134 : decode cL_changes 134 = .ok (.istore 13, 2) := by decide +kernel
theorem dL_changes_136 : decode cL_changes 136 = .ok (.iload_n 3, 1) := by decide +kernel
theorem dL_changes_137 : decode cL_changes 137 = .ok (.ifCond .eq 18, 3) := by decide +kernel
theorem dL_changes_140 : decode cL_changes 140 = .ok (.iload_n 2, 1) := by decide +kernel
theorem dL_changes_141 : decode cL_changes 141 = .ok (.bipush 12, 2) := by decide +kernel
theorem dL_changes_143 : decode cL_changes 143 = .ok (.ishr, 1) := by decide +kernel
theorem dL_changes_144 : decode cL_changes 144 = .ok (.bipush 120, 2) := by decide +kernel
theorem dL_changes_146 : decode cL_changes 146 = .ok (.invokestatic 119, 3) := by decide +kernel
theorem dL_changes_149 : decode cL_changes 149 = .ok (.bipush 10, 2) := by decide +kernel
theorem dL_changes_151 : decode cL_changes 151 = .ok (.isub, 1) := by decide +kernel
theorem dL_changes_152 : decode cL_changes 152 = .ok (.goto 12, 3) := by decide +kernel
theorem dL_changes_155 : decode cL_changes 155 = .ok (.iload_n 2, 1) := by decide +kernel
theorem dL_changes_156 : decode cL_changes 156 = .ok (.bipush 12, 2) := by decide +kernel
theorem dL_changes_158 : decode cL_changes 158 = .ok (.ishr, 1) := by decide +kernel
theorem dL_changes_159 : decode cL_changes 159 = .ok (.bipush 9, 2) := by decide +kernel
theorem dL_changes_161 : decode cL_changes 161 = .ok (.invokestatic 119, 3) := by decide +kernel
theorem dL_changes_164 : decode cL_changes 164 = .ok (.istore 14, 2) := by decide +kernel
theorem dL_changes_166 : decode cL_changes 166 = .ok (.iload 11, 2) := by decide +kernel
theorem dL_changes_168 : decode cL_changes 168 = .ok (.iconst 1, 1) := by decide +kernel
theorem dL_changes_169 : decode cL_changes 169 = .ok (.if_icmp .lt 47, 3) := by decide +kernel
theorem dL_changes_172 : decode cL_changes 172 = .ok (.iload 11, 2) := by decide +kernel
theorem dL_changes_174 : decode cL_changes 174 = .ok (.iconst 3, 1) := by decide +kernel
theorem dL_changes_175 : decode cL_changes 175 = .ok (.if_icmp .gt 41, 3) := by decide +kernel
theorem dL_changes_178 : decode cL_changes 178 = .ok (.iload 12, 2) := by decide +kernel
theorem dL_changes_180 : decode cL_changes 180 = .ok (.ifCond .lt 36, 3) := by decide +kernel
theorem dL_changes_183 : decode cL_changes 183 = .ok (.iload 12, 2) := by decide +kernel
theorem dL_changes_185 : decode cL_changes 185 = .ok (.sipush 1000, 3) := by decide +kernel
theorem dL_changes_188 : decode cL_changes 188 = .ok (.if_icmp .gt 28, 3) := by decide +kernel
theorem dL_changes_191 : decode cL_changes 191 = .ok (.iload 13, 2) := by decide +kernel
theorem dL_changes_193 : decode cL_changes 193 = .ok (.ifCond .lt 23, 3) := by decide +kernel
theorem dL_changes_196 : decode cL_changes 196 = .ok (.iload 13, 2) := by decide +kernel
theorem dL_changes_198 : decode cL_changes 198 = .ok (.sipush 10000, 3) := by decide +kernel
theorem dL_changes_201 : decode cL_changes 201 = .ok (.if_icmp .gt 15, 3) := by decide +kernel
theorem dL_changes_204 : decode cL_changes 204 = .ok (.iload 14, 2) := by decide +kernel
theorem dL_changes_206 : decode cL_changes 206 = .ok (.ifCond .lt 10, 3) := by decide +kernel
theorem dL_changes_209 : decode cL_changes 209 = .ok (.iload 14, 2) := by decide +kernel
theorem dL_changes_211 : decode cL_changes 211 = .ok (.bipush 100, 2) := by decide +kernel
theorem dL_changes_213 : decode cL_changes 213 = .ok (.if_icmp .le 36, 3) := by decide +kernel
theorem dL_changes_216 : decode cL_changes 216 = .ok (.aload_n 0, 1) := by decide +kernel
theorem dL_changes_217 : decode cL_changes 217 = .ok (.iload 11, 2) := by decide +kernel
theorem dL_changes_219 : decode cL_changes 219 = .ok (.iload 12, 2) := by decide +kernel
theorem dL_changes_221 : decode cL_changes 221 = .ok (.iload 13, 2) := by decide +kernel
theorem dL_changes_223 : decode cL_changes 223 = .ok (.iload 14, 2) := by decide +kernel
theorem dL_changes_225 : decode cL_changes 225 = .ok (.invokestatic 128, 3) := by decide +kernel
theorem dL_changes_228 : decode cL_changes 228 = .ok (.bipush (-82), 2) := by decide +kernel
theorem dL_changes_230 : decode cL_changes 230 = .ok (.if_icmp .ne 17, 3) := by decide +kernel
theorem dL_changes_233 : decode cL_changes 233 = .ok (.aload_n 0, 1) := by decide +kernel
theorem dL_changes_234 : decode cL_changes 234 = .ok (.invokestatic 124, 3) := by decide +kernel
theorem dL_changes_237 : decode cL_changes 237 = .ok (.lload 8, 2) := by decide +kernel
theorem dL_changes_239 : decode cL_changes 239 = .ok (.lcmp, 1) := by decide +kernel
theorem dL_changes_240 : decode cL_changes 240 = .ok (.ifCond .ne 7, 3) := by decide +kernel
theorem dL_changes_243 : decode cL_changes 243 = .ok (.iconst 1, 1) := by decide +kernel
theorem dL_changes_244 : decode cL_changes 244 = .ok (.goto 4, 3) := by decide +kernel
theorem dL_changes_247 : decode cL_changes 247 = .ok (.iconst 0, 1) := by decide +kernel
theorem dL_changes_248 : decode cL_changes 248 = .ok (.ireturn, 1) := by decide +kernel
theorem dL_changes_249 : decode cL_changes 249 = .ok (.aload_n 0, 1) := by decide +kernel
theorem dL_changes_250 : decode cL_changes 250 = .ok (.iload 11, 2) := by decide +kernel
theorem dL_changes_252 : decode cL_changes 252 = .ok (.iload 12, 2) := by decide +kernel
theorem dL_changes_254 : decode cL_changes 254 = .ok (.iload 13, 2) := by decide +kernel
theorem dL_changes_256 : decode cL_changes 256 = .ok (.iload 14, 2) := by decide +kernel
theorem dL_changes_258 : decode cL_changes 258 = .ok (.invokestatic 128, 3) := by decide +kernel
theorem dL_changes_261 : decode cL_changes 261 = .ok (.ifCond .ne 20, 3) := by decide +kernel
theorem dL_changes_264 : decode cL_changes 264 = .ok (.aload_n 0, 1) := by decide +kernel
theorem dL_changes_265 : decode cL_changes 265 = .ok (.iload 5, 2) := by decide +kernel
theorem dL_changes_267 : decode cL_changes 267 = .ok (.lload 6, 2) := by decide +kernel
theorem dL_changes_269 : decode cL_changes 269 = .ok (.iload 10, 2) := by decide +kernel
theorem dL_changes_271 : decode cL_changes 271 = .ok (.invokestatic 131, 3) := by decide +kernel
theorem dL_changes_274 : decode cL_changes 274 = .ok (.ifCond .eq 7, 3) := by decide +kernel
theorem dL_changes_277 : decode cL_changes 277 = .ok (.iconst 1, 1) := by decide +kernel
theorem dL_changes_278 : decode cL_changes 278 = .ok (.goto 4, 3) := by decide +kernel
theorem dL_changes_281 : decode cL_changes 281 = .ok (.iconst 0, 1) := by decide +kernel
theorem dL_changes_282 : decode cL_changes 282 = .ok (.istore 15, 2) := by decide +kernel
theorem dL_changes_284 : decode cL_changes 284 = .ok (.aload_n 1, 1) := by decide +kernel
theorem dL_changes_285 : decode cL_changes 285 = .ok (.iload 11, 2) := by decide +kernel
theorem dL_changes_287 : decode cL_changes 287 = .ok (.iload 12, 2) := by decide +kernel
theorem dL_changes_289 : decode cL_changes 289 = .ok (.iastore, 1) := by decide +kernel
theorem dL_changes_290 : decode cL_changes 290 = .ok (.aload_n 1, 1) := by decide +kernel
theorem dL_changes_291 : decode cL_changes 291 = .ok (.iconst 4, 1) := by decide +kernel
theorem dL_changes_292 : decode cL_changes 292 = .ok (.iload 11, 2) := by decide +kernel
theorem dL_changes_294 : decode cL_changes 294 = .ok (.iadd, 1) := by decide +kernel
theorem dL_changes_295 : decode cL_changes 295 = .ok (.iload 13, 2) := by decide +kernel
theorem dL_changes_297 : decode cL_changes 297 = .ok (.iastore, 1) := by decide +kernel
theorem dL_changes_298 : decode cL_changes 298 = .ok (.aload_n 1, 1) := by decide +kernel
theorem dL_changes_299 : decode cL_changes 299 = .ok (.bipush 8, 2) := by decide +kernel
theorem dL_changes_301 : decode cL_changes 301 = .ok (.iload 11, 2) := by decide +kernel
theorem dL_changes_303 : decode cL_changes 303 = .ok (.iadd, 1) := by decide +kernel
theorem dL_changes_304 : decode cL_changes 304 = .ok (.iload 14, 2) := by decide +kernel
theorem dL_changes_306 : decode cL_changes 306 = .ok (.iastore, 1) := by decide +kernel
theorem dL_changes_307 : decode cL_changes 307 = .ok (.aload_n 0, 1) := by decide +kernel
theorem dL_changes_308 : decode cL_changes 308 = .ok (.iload 11, 2) := by decide +kernel
theorem dL_changes_310 : decode cL_changes 310 = .ok (.invokevirtual 107, 3) := by decide +kernel
theorem dL_changes_313 : decode cL_changes 313 = .ok (.istore 16, 2) := by decide +kernel
theorem dL_changes_315 : decode cL_changes 315 = .ok (.iload 15, 2) := by decide +kernel
theorem dL_changes_317 : decode cL_changes 317 = .ok (.ifCond .eq 109, 3) := by decide +kernel
theorem dL_changes_320 : decode cL_changes 320 = .ok (.iload 16, 2) := by decide +kernel
theorem dL_changes_322 : decode cL_changes 322 = .ok (.iconst (-1), 1) := by decide +kernel
theorem dL_changes_323 : decode cL_changes 323 = .ok (.if_icmp .eq 99, 3) := by decide +kernel
theorem dL_changes_326 : decode cL_changes 326 = .ok (.iload 16, 2) := by decide +kernel
theorem dL_changes_328 : decode cL_changes 328 = .ok (.iload 14, 2) := by decide +kernel
theorem dL_changes_330 : decode cL_changes 330 = .ok (.if_icmp .lt 96, 3) := by decide +kernel
theorem dL_changes_333 : decode cL_changes 333 = .ok (.iload 16, 2) := by decide +kernel
theorem dL_changes_335 : decode cL_changes 335 = .ok (.sipush 5000, 3) := by decide +kernel
theorem dL_changes_338 : decode cL_changes 338 = .ok (.if_icmp .gt 88, 3) := by decide +kernel
theorem dL_changes_341 : decode cL_changes 341 = .ok (.iload 13, 2) := by decide +kernel
theorem dL_changes_343 : decode cL_changes 343 = .ok (.i2l, 1) := by decide +kernel
theorem dL_changes_344 : decode cL_changes 344 = .ok (.iload 12, 2) := by decide +kernel
theorem dL_changes_346 : decode cL_changes 346 = .ok (.i2l, 1) := by decide +kernel
theorem dL_changes_347 : decode cL_changes 347 = .ok (.iload 16, 2) := by decide +kernel
theorem dL_changes_349 : decode cL_changes 349 = .ok (.iload 14, 2) := by decide +kernel
theorem dL_changes_351 : decode cL_changes 351 = .ok (.isub, 1) := by decide +kernel
theorem dL_changes_352 : decode cL_changes 352 = .ok (.i2l, 1) := by decide +kernel
theorem dL_changes_353 : decode cL_changes 353 = .ok (.lmul, 1) := by decide +kernel
theorem dL_changes_354 : decode cL_changes 354 = .ok (.ladd, 1) := by decide +kernel
theorem dL_changes_355 : decode cL_changes 355 = .ok (.aload_n 1, 1) := by decide +kernel
theorem dL_changes_356 : decode cL_changes 356 = .ok (.iconst 0, 1) := by decide +kernel
theorem dL_changes_357 : decode cL_changes 357 = .ok (.iaload, 1) := by decide +kernel
theorem dL_changes_358 : decode cL_changes 358 = .ok (.i2l, 1) := by decide +kernel
theorem dL_changes_359 : decode cL_changes 359 = .ok (.iload 14, 2) := by decide +kernel
theorem dL_changes_361 : decode cL_changes 361 = .ok (.i2l, 1) := by decide +kernel
theorem dL_changes_362 : decode cL_changes 362 = .ok (.lmul, 1) := by decide +kernel
theorem dL_changes_363 : decode cL_changes 363 = .ok (.ladd, 1) := by decide +kernel
theorem dL_changes_364 : decode cL_changes 364 = .ok (.aload_n 1, 1) := by decide +kernel
theorem dL_changes_365 : decode cL_changes 365 = .ok (.iconst 0, 1) := by decide +kernel
theorem dL_changes_366 : decode cL_changes 366 = .ok (.iaload, 1) := by decide +kernel
theorem dL_changes_367 : decode cL_changes 367 = .ok (.i2l, 1) := by decide +kernel
theorem dL_changes_368 : decode cL_changes 368 = .ok (.iload 16, 2) := by decide +kernel
theorem dL_changes_370 : decode cL_changes 370 = .ok (.i2l, 1) := by decide +kernel
theorem dL_changes_371 : decode cL_changes 371 = .ok (.lmul, 1) := by decide +kernel
theorem dL_changes_372 : decode cL_changes 372 = .ok (.lcmp, 1) := by decide +kernel
theorem dL_changes_373 : decode cL_changes 373 = .ok (.ifCond .gt 53, 3) := by decide +kernel
theorem dL_changes_376 : decode cL_changes 376 = .ok (.iload 16, 2) := by decide +kernel
theorem dL_changes_378 : decode cL_changes 378 = .ok (.iload 14, 2) := by decide +kernel
theorem dL_changes_380 : decode cL_changes 380 = .ok (.if_icmp .eq 42, 3) := by decide +kernel
theorem dL_changes_383 : decode cL_changes 383 = .ok (.iload 13, 2) := by decide +kernel
theorem dL_changes_385 : decode cL_changes 385 = .ok (.i2l, 1) := by decide +kernel
theorem dL_changes_386 : decode cL_changes 386 = .ok (.iload 12, 2) := by decide +kernel
theorem dL_changes_388 : decode cL_changes 388 = .ok (.i2l, 1) := by decide +kernel
theorem dL_changes_389 : decode cL_changes 389 = .ok (.iload 16, 2) := by decide +kernel
theorem dL_changes_391 : decode cL_changes 391 = .ok (.iconst 1, 1) := by decide +kernel
theorem dL_changes_392 : decode cL_changes 392 = .ok (.isub, 1) := by decide +kernel
theorem dL_changes_393 : decode cL_changes 393 = .ok (.iload 14, 2) := by decide +kernel
theorem dL_changes_395 : decode cL_changes 395 = .ok (.isub, 1) := by decide +kernel
theorem dL_changes_396 : decode cL_changes 396 = .ok (.i2l, 1) := by decide +kernel
theorem dL_changes_397 : decode cL_changes 397 = .ok (.lmul, 1) := by decide +kernel
theorem dL_changes_398 : decode cL_changes 398 = .ok (.ladd, 1) := by decide +kernel
theorem dL_changes_399 : decode cL_changes 399 = .ok (.aload_n 1, 1) := by decide +kernel
theorem dL_changes_400 : decode cL_changes 400 = .ok (.iconst 0, 1) := by decide +kernel
theorem dL_changes_401 : decode cL_changes 401 = .ok (.iaload, 1) := by decide +kernel
theorem dL_changes_402 : decode cL_changes 402 = .ok (.i2l, 1) := by decide +kernel
theorem dL_changes_403 : decode cL_changes 403 = .ok (.iload 14, 2) := by decide +kernel
theorem dL_changes_405 : decode cL_changes 405 = .ok (.i2l, 1) := by decide +kernel
theorem dL_changes_406 : decode cL_changes 406 = .ok (.lmul, 1) := by decide +kernel
theorem dL_changes_407 : decode cL_changes 407 = .ok (.ladd, 1) := by decide +kernel
theorem dL_changes_408 : decode cL_changes 408 = .ok (.aload_n 1, 1) := by decide +kernel
theorem dL_changes_409 : decode cL_changes 409 = .ok (.iconst 0, 1) := by decide +kernel
theorem dL_changes_410 : decode cL_changes 410 = .ok (.iaload, 1) := by decide +kernel
theorem dL_changes_411 : decode cL_changes 411 = .ok (.i2l, 1) := by decide +kernel
theorem dL_changes_412 : decode cL_changes 412 = .ok (.iload 16, 2) := by decide +kernel
theorem dL_changes_414 : decode cL_changes 414 = .ok (.iconst 1, 1) := by decide +kernel
theorem dL_changes_415 : decode cL_changes 415 = .ok (.isub, 1) := by decide +kernel
theorem dL_changes_416 : decode cL_changes 416 = .ok (.i2l, 1) := by decide +kernel
theorem dL_changes_417 : decode cL_changes 417 = .ok (.lmul, 1) := by decide +kernel
theorem dL_changes_418 : decode cL_changes 418 = .ok (.lcmp, 1) := by decide +kernel
theorem dL_changes_419 : decode cL_changes 419 = .ok (.ifCond .le 7, 3) := by decide +kernel
theorem dL_changes_422 : decode cL_changes 422 = .ok (.iconst 1, 1) := by decide +kernel
theorem dL_changes_423 : decode cL_changes 423 = .ok (.goto 4, 3) := by decide +kernel
theorem dL_changes_426 : decode cL_changes 426 = .ok (.iconst 0, 1) := by decide +kernel
theorem dL_changes_427 : decode cL_changes 427 = .ok (.ireturn, 1) := by decide +kernel
theorem dL_changes_428 : decode cL_changes 428 = .ok (.iload 4, 2) := by decide +kernel
theorem dL_changes_430 : decode cL_changes 430 = .ok (.iconst 3, 1) := by decide +kernel
theorem dL_changes_431 : decode cL_changes 431 = .ok (.if_icmp .ge 122, 3) := by decide +kernel
theorem dL_changes_434 : decode cL_changes 434 = .ok (.iload_n 3, 1) := by decide +kernel
theorem dL_changes_435 : decode cL_changes 435 = .ok (.ifCond .eq 18, 3) := by decide +kernel
theorem dL_changes_438 : decode cL_changes 438 = .ok (.iload_n 2, 1) := by decide +kernel
theorem dL_changes_439 : decode cL_changes 439 = .ok (.iconst 3, 1) := by decide +kernel
theorem dL_changes_440 : decode cL_changes 440 = .ok (.ishr, 1) := by decide +kernel
theorem dL_changes_441 : decode cL_changes 441 = .ok (.sipush 1020, 3) := by decide +kernel
theorem dL_changes_444 : decode cL_changes 444 = .ok (.invokestatic 119, 3) := by decide +kernel
theorem dL_changes_447 : decode cL_changes 447 = .ok (.bipush 10, 2) := by decide +kernel
theorem dL_changes_449 : decode cL_changes 449 = .ok (.isub, 1) := by decide +kernel
theorem dL_changes_450 : decode cL_changes 450 = .ok (.goto 15, 3) := by decide +kernel
theorem dL_changes_453 : decode cL_changes 453 = .ok (.bipush 60, 2) := by decide +kernel
theorem dL_changes_455 : decode cL_changes 455 = .ok (.iload_n 2, 1) := by decide +kernel
theorem dL_changes_456 : decode cL_changes 456 = .ok (.iconst 3, 1) := by decide +kernel
theorem dL_changes_457 : decode cL_changes 457 = .ok (.ishr, 1) := by decide +kernel
theorem dL_changes_458 : decode cL_changes 458 = .ok (.sipush 200, 3) := by decide +kernel
theorem dL_changes_461 : decode cL_changes 461 = .ok (.invokestatic 119, 3) := by decide +kernel
theorem dL_changes_464 : decode cL_changes 464 = .ok (.iadd, 1) := by decide +kernel
theorem dL_changes_465 : decode cL_changes 465 = .ok (.istore 11, 2) := by decide +kernel
theorem dL_changes_467 : decode cL_changes 467 = .ok (.iload 11, 2) := by decide +kernel
theorem dL_changes_469 : decode cL_changes 469 = .ok (.ifCond .lt 11, 3) := by decide +kernel
theorem dL_changes_472 : decode cL_changes 472 = .ok (.iload 11, 2) := by decide +kernel
theorem dL_changes_474 : decode cL_changes 474 = .ok (.sipush 1000, 3) := by decide +kernel
theorem dL_changes_477 : decode cL_changes 477 = .ok (.if_icmp .le 33, 3) := by decide +kernel
theorem dL_changes_480 : decode cL_changes 480 = .ok (.aload_n 0, 1) := by decide +kernel
theorem dL_changes_481 : decode cL_changes 481 = .ok (.iconst 0, 1) := by decide +kernel
theorem dL_changes_482 : decode cL_changes 482 = .ok (.iload 11, 2) := by decide +kernel
theorem dL_changes_484 : decode cL_changes 484 = .ok (.iconst 0, 1) := by decide +kernel
theorem dL_changes_485 : decode cL_changes 485 = .ok (.iconst 0, 1) := by decide +kernel
theorem dL_changes_486 : decode cL_changes 486 = .ok (.invokestatic 135, 3) := by decide +kernel
theorem dL_changes_489 : decode cL_changes 489 = .ok (.bipush (-82), 2) := by decide +kernel
theorem dL_changes_491 : decode cL_changes 491 = .ok (.if_icmp .ne 17, 3) := by decide +kernel
theorem dL_changes_494 : decode cL_changes 494 = .ok (.aload_n 0, 1) := by decide +kernel
theorem dL_changes_495 : decode cL_changes 495 = .ok (.invokestatic 124, 3) := by decide +kernel
theorem dL_changes_498 : decode cL_changes 498 = .ok (.lload 8, 2) := by decide +kernel
theorem dL_changes_500 : decode cL_changes 500 = .ok (.lcmp, 1) := by decide +kernel
theorem dL_changes_501 : decode cL_changes 501 = .ok (.ifCond .ne 7, 3) := by decide +kernel
theorem dL_changes_504 : decode cL_changes 504 = .ok (.iconst 1, 1) := by decide +kernel
theorem dL_changes_505 : decode cL_changes 505 = .ok (.goto 4, 3) := by decide +kernel
theorem dL_changes_508 : decode cL_changes 508 = .ok (.iconst 0, 1) := by decide +kernel
theorem dL_changes_509 : decode cL_changes 509 = .ok (.ireturn, 1) := by decide +kernel
theorem dL_changes_510 : decode cL_changes 510 = .ok (.aload_n 0, 1) := by decide +kernel
theorem dL_changes_511 : decode cL_changes 511 = .ok (.iconst 0, 1) := by decide +kernel
theorem dL_changes_512 : decode cL_changes 512 = .ok (.iload 11, 2) := by decide +kernel
theorem dL_changes_514 : decode cL_changes 514 = .ok (.iconst 0, 1) := by decide +kernel
theorem dL_changes_515 : decode cL_changes 515 = .ok (.iconst 0, 1) := by decide +kernel
theorem dL_changes_516 : decode cL_changes 516 = .ok (.invokestatic 135, 3) := by decide +kernel
theorem dL_changes_519 : decode cL_changes 519 = .ok (.aload_n 1, 1) := by decide +kernel
theorem dL_changes_520 : decode cL_changes 520 = .ok (.iconst 0, 1) := by decide +kernel
theorem dL_changes_521 : decode cL_changes 521 = .ok (.iaload, 1) := by decide +kernel
theorem dL_changes_522 : decode cL_changes 522 = .ok (.if_icmp .ne 20, 3) := by decide +kernel
theorem dL_changes_525 : decode cL_changes 525 = .ok (.aload_n 0, 1) := by decide +kernel
theorem dL_changes_526 : decode cL_changes 526 = .ok (.iload 5, 2) := by decide +kernel
theorem dL_changes_528 : decode cL_changes 528 = .ok (.lload 6, 2) := by decide +kernel
theorem dL_changes_530 : decode cL_changes 530 = .ok (.iload 10, 2) := by decide +kernel
theorem dL_changes_532 : decode cL_changes 532 = .ok (.invokestatic 131, 3) := by decide +kernel
theorem dL_changes_535 : decode cL_changes 535 = .ok (.ifCond .eq 7, 3) := by decide +kernel
theorem dL_changes_538 : decode cL_changes 538 = .ok (.iconst 1, 1) := by decide +kernel
theorem dL_changes_539 : decode cL_changes 539 = .ok (.goto 4, 3) := by decide +kernel
theorem dL_changes_542 : decode cL_changes 542 = .ok (.iconst 0, 1) := by decide +kernel
theorem dL_changes_543 : decode cL_changes 543 = .ok (.istore 12, 2) := by decide +kernel
theorem dL_changes_545 : decode cL_changes 545 = .ok (.aload_n 1, 1) := by decide +kernel
theorem dL_changes_546 : decode cL_changes 546 = .ok (.iconst 0, 1) := by decide +kernel
theorem dL_changes_547 : decode cL_changes 547 = .ok (.iload 11, 2) := by decide +kernel
theorem dL_changes_549 : decode cL_changes 549 = .ok (.iastore, 1) := by decide +kernel
theorem dL_changes_550 : decode cL_changes 550 = .ok (.iload 12, 2) := by decide +kernel
theorem dL_changes_552 : decode cL_changes 552 = .ok (.ireturn, 1) := by decide +kernel
theorem dL_changes_553 : decode cL_changes 553 = .ok (.iload 4, 2) := by decide +kernel
theorem dL_changes_555 : decode cL_changes 555 = .ok (.iconst 5, 1) := by decide +kernel
theorem dL_changes_556 : decode cL_changes 556 = .ok (.if_icmp .ge 191, 3) := by decide +kernel
theorem dL_changes_559 : decode cL_changes 559 = .ok (.iload_n 3, 1) := by decide +kernel
theorem dL_changes_560 : decode cL_changes 560 = .ok (.ifCond .eq 16, 3) := by decide +kernel
theorem dL_changes_563 : decode cL_changes 563 = .ok (.iload_n 2, 1) := by decide +kernel
theorem dL_changes_564 : decode cL_changes 564 = .ok (.iconst 3, 1) := by decide +kernel
theorem dL_changes_565 : decode cL_changes 565 = .ok (.ishr, 1) := by decide +kernel
theorem dL_changes_566 : decode cL_changes 566 = .ok (.bipush 9, 2) := by decide +kernel
theorem dL_changes_568 : decode cL_changes 568 = .ok (.invokestatic 119, 3) := by decide +kernel
theorem dL_changes_571 : decode cL_changes 571 = .ok (.iconst 1, 1) := by decide +kernel
theorem dL_changes_572 : decode cL_changes 572 = .ok (.isub, 1) := by decide +kernel
theorem dL_changes_573 : decode cL_changes 573 = .ok (.goto 11, 3) := by decide +kernel
