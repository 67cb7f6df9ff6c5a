theorem dL_isWell_142 : decode cL_isWell 142 = .ok (.invokevirtual 9, 3) := by decide +kernel
theorem dL_isWell_145 : decode cL_isWell 145 = .ok (.sipush 1000, 3) := by decide +kernel
theorem dL_isWell_148 : decode cL_isWell 148 = .ok (.if_icmp .ne 50, 3) := by decide +kernel
theorem dL_isWell_151 : decode cL_isWell 151 = .ok (.iload_n 3, 1) := by decide +kernel
theorem dL_isWell_152 : decode cL_isWell 152 = .ok (.iconst 1, 1) := by decide +kernel
theorem dL_isWell_153 : decode cL_isWell 153 = .ok (.if_icmp .ne 41, 3) := by decide +kernel
theorem dL_isWell_156 : decode cL_isWell 156 = .ok (.aload_n 0, 1) := by decide +kernel
theorem dL_isWell_157 : decode cL_isWell 157 = .ok (.bipush 8, 2) := by decide +kernel
theorem dL_isWell_159 : decode cL_isWell 159 = .ok (.invokevirtual 9, 3) := by decide +kernel
theorem dL_isWell_162 : decode cL_isWell 162 = .ok (.aload_n 0, 1) := by decide +kernel
theorem dL_isWell_163 : decode cL_isWell 163 = .ok (.bipush 16, 2) := by decide +kernel
theorem dL_isWell_165 : decode cL_isWell 165 = .ok (.invokevirtual 9, 3) := by decide +kernel
theorem dL_isWell_168 : decode cL_isWell 168 = .ok (.sipush 1000, 3) := by decide +kernel
theorem dL_isWell_171 : decode cL_isWell 171 = .ok (.isub, 1) := by decide +kernel
theorem dL_isWell_172 : decode cL_isWell 172 = .ok (.if_icmp .lt 26, 3) := by decide +kernel
theorem dL_isWell_175 : decode cL_isWell 175 = .ok (.aload_n 0, 1) := by decide +kernel
theorem dL_isWell_176 : decode cL_isWell 176 = .ok (.bipush 8, 2) := by decide +kernel
theorem dL_isWell_178 : decode cL_isWell 178 = .ok (.invokevirtual 9, 3) := by decide +kernel
theorem dL_isWell_181 : decode cL_isWell 181 = .ok (.aload_n 0, 1) := by decide +kernel
theorem dL_isWell_182 : decode cL_isWell 182 = .ok (.bipush 17, 2) := by decide +kernel
theorem dL_isWell_184 : decode cL_isWell 184 = .ok (.invokevirtual 9, 3) := by decide +kernel
theorem dL_isWell_187 : decode cL_isWell 187 = .ok (.sipush 1000, 3) := by decide +kernel
theorem dL_isWell_190 : decode cL_isWell 190 = .ok (.isub, 1) := by decide +kernel
theorem dL_isWell_191 : decode cL_isWell 191 = .ok (.if_icmp .lt 7, 3) := by decide +kernel
theorem dL_isWell_194 : decode cL_isWell 194 = .ok (.iconst 1, 1) := by decide +kernel
theorem dL_isWell_195 : decode cL_isWell 195 = .ok (.goto 4, 3) := by decide +kernel
theorem dL_isWell_198 : decode cL_isWell 198 = .ok (.iconst 0, 1) := by decide +kernel
theorem dL_isWell_199 : decode cL_isWell 199 = .ok (.istore 6, 2) := by decide +kernel
theorem dL_isWell_201 : decode cL_isWell 201 = .ok (.iconst 0, 1) := by decide +kernel
theorem dL_isWell_202 : decode cL_isWell 202 = .ok (.istore 7, 2) := by decide +kernel
theorem dL_isWell_204 : decode cL_isWell 204 = .ok (.iload 7, 2) := by decide +kernel
theorem dL_isWell_206 : decode cL_isWell 206 = .ok (.iload_n 1, 1) := by decide +kernel
theorem dL_isWell_207 : decode cL_isWell 207 = .ok (.if_icmp .ge 328, 3) := by decide +kernel
theorem dL_isWell_210 : decode cL_isWell 210 = .ok (.iload 6, 2) := by decide +kernel
theorem dL_isWell_212 : decode cL_isWell 212 = .ok (.ifCond .eq 323, 3) := by decide +kernel
theorem dL_isWell_215 : decode cL_isWell 215 = .ok (.aload_n 0, 1) := by decide +kernel
theorem dL_isWell_216 : decode cL_isWell 216 = .ok (.iload 7, 2) := by decide +kernel
theorem dL_isWell_218 : decode cL_isWell 218 = .ok (.iconst 0, 1) := by decide +kernel
theorem dL_isWell_219 : decode cL_isWell 219 = .ok (.invokevirtual 46, 3) := by decide +kernel
theorem dL_isWell_222 : decode cL_isWell 222 = .ok (.istore 8, 2) := by decide +kernel
theorem dL_isWell_224 : decode cL_isWell 224 = .ok (.aload_n 0, 1) := by decide +kernel
theorem dL_isWell_225 : decode cL_isWell 225 = .ok (.iload 7, 2) := by decide +kernel
theorem dL_isWell_227 : decode cL_isWell 227 = .ok (.iconst 1, 1) := by decide +kernel
theorem dL_isWell_228 : decode cL_isWell 228 = .ok (.invokevirtual 46, 3) := by decide +kernel
theorem dL_isWell_231 : decode cL_isWell 231 = .ok (.istore 9, 2) := by decide +kernel
theorem dL_isWell_233 : decode cL_isWell 233 = .ok (.aload_n 0, 1) := by decide +kernel
theorem dL_isWell_234 : decode cL_isWell 234 = .ok (.iload 7, 2) := by decide +kernel
theorem dL_isWell_236 : decode cL_isWell 236 = .ok (.iconst 2, 1) := by decide +kernel
theorem dL_isWell_237 : decode cL_isWell 237 = .ok (.invokevirtual 46, 3) := by decide +kernel
theorem dL_isWell_240 : decode cL_isWell 240 = .ok (.istore 10, 2) := by decide +kernel
theorem dL_isWell_242 : decode cL_isWell 242 = .ok (.iload 8, 2) := by decide +kernel
theorem dL_isWell_244 : decode cL_isWell 244 = .ok (.iload 10, 2) := by decide +kernel
theorem dL_isWell_246 : decode cL_isWell 246 = .ok (.isub, 1) := by decide +kernel
theorem dL_isWell_247 : decode cL_isWell 247 = .ok (.istore 11, 2) := by decide +kernel
theorem dL_isWell_249 : decode cL_isWell 249 = .ok (.iconst 0, 1) := by decide +kernel
theorem dL_isWell_250 : decode cL_isWell 250 = .ok (.istore 12, 2) := by decide +kernel
theorem dL_isWell_252 : decode cL_isWell 252 = .ok (.iconst 0, 1) := by decide +kernel
theorem dL_isWell_253 : decode cL_isWell 253 = .ok (.istore 13, 2) := by decide +kernel
theorem dL_isWell_255 : decode cL_isWell 255 = .ok (.iload 10, 2) := by decide +kernel
theorem dL_isWell_257 : decode cL_isWell 257 = .ok (.iload 9, 2) := by decide +kernel
theorem dL_isWell_259 : decode cL_isWell 259 = .ok (.if_icmp .ge 23, 3) := by decide +kernel
theorem dL_isWell_262 : decode cL_isWell 262 = .ok (.iload 11, 2) := by decide +kernel
theorem dL_isWell_264 : decode cL_isWell 264 = .ok (.iload 5, 2) := by decide +kernel
theorem dL_isWell_266 : decode cL_isWell 266 = .ok (.if_icmp .le 16, 3) := by decide +kernel
theorem dL_isWell_269 : decode cL_isWell 269 = .ok (.iload 11, 2) := by decide +kernel
theorem dL_isWell_271 : decode cL_isWell 271 = .ok (.iload 9, 2) := by decide +kernel
theorem dL_isWell_273 : decode cL_isWell 273 = .ok (.iadd, 1) := by decide +kernel
theorem dL_isWell_274 : decode cL_isWell 274 = .ok (.iload_n 2, 1) := by decide +kernel
theorem dL_isWell_275 : decode cL_isWell 275 = .ok (.if_icmp .gt 7, 3) := by decide +kernel
theorem dL_isWell_278 : decode cL_isWell 278 = .ok (.iconst 1, 1) := by decide +kernel
theorem dL_isWell_279 : decode cL_isWell 279 = .ok (.goto 4, 3) := by decide +kernel
theorem dL_isWell_282 : decode cL_isWell 282 = .ok (.iconst 0, 1) := by decide +kernel
theorem dL_isWell_283 : decode cL_isWell 283 = .ok (.istore 6, 2) := by decide +kernel
theorem dL_isWell_285 : decode cL_isWell 285 = .ok (.iconst 0, 1) := by decide +kernel
theorem dL_isWell_286 : decode cL_isWell 286 = .ok (.istore 14, 2) := by decide +kernel
theorem dL_isWell_288 : decode cL_isWell 288 = .ok (.iload 14, 2) := by decide +kernel
theorem dL_isWell_290 : decode cL_isWell 290 = .ok (.iload 9, 2) := by decide +kernel
theorem dL_isWell_292 : decode cL_isWell 292 = .ok (.if_icmp .ge 110, 3) := by decide +kernel
theorem dL_isWell_295 : decode cL_isWell 295 = .ok (.iload 6, 2) := by decide +kernel
theorem dL_isWell_297 : decode cL_isWell 297 = .ok (.ifCond .eq 105, 3) := by decide +kernel
theorem dL_isWell_300 : decode cL_isWell 300 = .ok (.aload_n 0, 1) := by decide +kernel
theorem dL_isWell_301 : decode cL_isWell 301 = .ok (.iload 7, 2) := by decide +kernel
theorem dL_isWell_303 : decode cL_isWell 303 = .ok (.iload 14, 2) := by decide +kernel
theorem dL_isWell_305 : decode cL_isWell 305 = .ok (.invokevirtual 55, 3) := by decide +kernel
theorem dL_isWell_308 : decode cL_isWell 308 = .ok (.istore 15, 2) := by decide +kernel
theorem dL_isWell_310 : decode cL_isWell 310 = .ok (.iload 15, 2) := by decide +kernel
theorem dL_isWell_312 : decode cL_isWell 312 = .ok (.aload_n 0, 1) := by decide +kernel
theorem dL_isWell_313 : decode cL_isWell 313 = .ok (.iload 11, 2) := by decide +kernel
theorem dL_isWell_315 : decode cL_isWell 315 = .ok (.iload 14, 2) := by decide +kernel
theorem dL_isWell_317 : decode cL_isWell 317 = .ok (.iadd, 1) := by decide +kernel
theorem dL_isWell_318 : decode cL_isWell 318 = .ok (.invokevirtual 24, 3) := by decide +kernel
theorem dL_isWell_321 : decode cL_isWell 321 = .ok (.if_icmp .ne 31, 3) := by decide +kernel
theorem dL_isWell_324 : decode cL_isWell 324 = .ok (.iload 15, 2) := by decide +kernel
theorem dL_isWell_326 : decode cL_isWell 326 = .ok (.aload_n 0, 1) := by decide +kernel
theorem dL_isWell_327 : decode cL_isWell 327 = .ok (.iload 7, 2) := by decide +kernel
theorem dL_isWell_329 : decode cL_isWell 329 = .ok (.iconst 4, 1) := by decide +kernel
theorem dL_isWell_330 : decode cL_isWell 330 = .ok (.invokevirtual 46, 3) := by decide +kernel
theorem dL_isWell_333 : decode cL_isWell 333 = .ok (.if_icmp .lt 19, 3) := by decide +kernel
theorem dL_isWell_336 : decode cL_isWell 336 = .ok (.iload 15, 2) := by decide +kernel
theorem dL_isWell_338 : decode cL_isWell 338 = .ok (.aload_n 0, 1) := by decide +kernel
theorem dL_isWell_339 : decode cL_isWell 339 = .ok (.iload 7, 2) := by decide +kernel
theorem dL_isWell_341 : decode cL_isWell 341 = .ok (.iconst 5, 1) := by decide +kernel
theorem dL_isWell_342 : decode cL_isWell 342 = .ok (.invokevirtual 46, 3) := by decide +kernel
theorem dL_isWell_345 : decode cL_isWell 345 = .ok (.if_icmp .gt 7, 3) := by decide +kernel
theorem dL_isWell_348 : decode cL_isWell 348 = .ok (.iconst 1, 1) := by decide +kernel
theorem dL_isWell_349 : decode cL_isWell 349 = .ok (.goto 4, 3) := by decide +kernel
theorem dL_isWell_352 : decode cL_isWell 352 = .ok (.iconst 0, 1) := by decide +kernel
theorem dL_isWell_353 : decode cL_isWell 353 = .ok (.istore 6, 2) := by decide +kernel
theorem dL_isWell_355 : decode cL_isWell 355 = .ok (.iload 12, 2) := by decide +kernel
theorem dL_isWell_357 : decode cL_isWell 357 = .ok (.iload 15, 2) := by decide +kernel
theorem dL_isWell_359 : decode cL_isWell 359 = .ok (.sipush 1000, 3) := by decide +kernel
theorem dL_isWell_362 : decode cL_isWell 362 = .ok (.isub, 1) := by decide +kernel
theorem dL_isWell_363 : decode cL_isWell 363 = .ok (.iadd, 1) := by decide +kernel
theorem dL_isWell_364 : decode cL_isWell 364 = .ok (.istore 12, 2) := by decide +kernel
theorem dL_isWell_366 : decode cL_isWell 366 = .ok (.iload 13, 2) := by decide +kernel
theorem dL_isWell_368 : decode cL_isWell 368 = .ok (.iload 14, 2) := by decide +kernel
theorem dL_isWell_370 : decode cL_isWell 370 = .ok (.ifCond .le 22, 3) := by decide +kernel
theorem dL_isWell_373 : decode cL_isWell 373 = .ok (.iload 15, 2) := by decide +kernel
theorem dL_isWell_375 : decode cL_isWell 375 = .ok (.aload_n 0, 1) := by decide +kernel
theorem dL_isWell_376 : decode cL_isWell 376 = .ok (.iload 7, 2) := by decide +kernel
theorem dL_isWell_378 : decode cL_isWell 378 = .ok (.iload 14, 2) := by decide +kernel
theorem dL_isWell_380 : decode cL_isWell 380 = .ok (.iconst 1, 1) := by decide +kernel
theorem dL_isWell_381 : decode cL_isWell 381 = .ok (.isub, 1) := by decide +kernel
theorem dL_isWell_382 : decode cL_isWell 382 = .ok (.invokevirtual 55, 3) := by decide +kernel
theorem dL_isWell_385 : decode cL_isWell 385 = .ok (.if_icmp .le 7, 3) := by decide +kernel
theorem dL_isWell_388 : decode cL_isWell 388 = .ok (.iconst 1, 1) := by decide +kernel
theorem dL_isWell_389 : decode cL_isWell 389 = .ok (.goto 4, 3) := by decide +kernel
theorem dL_isWell_392 : decode cL_isWell 392 = .ok (.iconst 0, 1) := by decide +kernel
theorem dL_isWell_393 : decode cL_isWell 393 = .ok (.iadd, 1) := by decide +kernel
theorem dL_isWell_394 : decode cL_isWell 394 = .ok (.istore 13, 2) := by decide +kernel
theorem dL_isWell_396 : decode cL_isWell 396 = .ok (.iinc 14 1, 3) := by decide +kernel
theorem dL_isWell_399 : decode cL_isWell 399 = .ok (.goto (-111), 3) := by decide +kernel
theorem dL_isWell_402 : decode cL_isWell 402 = .ok (.iload 6, 2) := by decide +kernel
theorem dL_isWell_404 : decode cL_isWell 404 = .ok (.ifCond .eq 49, 3) := by decide +kernel
theorem dL_isWell_407 : decode cL_isWell 407 = .ok (.iload 12, 2) := by decide +kernel
theorem dL_isWell_409 : decode cL_isWell 409 = .ok (.aload_n 0, 1) := by decide +kernel
theorem dL_isWell_410 : decode cL_isWell 410 = .ok (.iload 7, 2) := by decide +kernel
theorem dL_isWell_412 : decode cL_isWell 412 = .ok (.bipush 6, 2) := by decide +kernel
theorem dL_isWell_414 : decode cL_isWell 414 = .ok (.invokevirtual 46, 3) := by decide +kernel
theorem dL_isWell_417 : decode cL_isWell 417 = .ok (.sipush 10000, 3) := by decide +kernel
theorem dL_isWell_420 : decode cL_isWell 420 = .ok (.isub, 1) := by decide +kernel
theorem dL_isWell_421 : decode cL_isWell 421 = .ok (.if_icmp .ne 32, 3) := by decide +kernel
theorem dL_isWell_424 : decode cL_isWell 424 = .ok (.iload 13, 2) := by decide +kernel
theorem dL_isWell_426 : decode cL_isWell 426 = .ok (.aload_n 0, 1) := by decide +kernel
theorem dL_isWell_427 : decode cL_isWell 427 = .ok (.iload 7, 2) := by decide +kernel
theorem dL_isWell_429 : decode cL_isWell 429 = .ok (.bipush 7, 2) := by decide +kernel
theorem dL_isWell_431 : decode cL_isWell 431 = .ok (.invokevirtual 46, 3) := by decide +kernel
theorem dL_isWell_434 : decode cL_isWell 434 = .ok (.if_icmp .ne 19, 3) := by decide +kernel
theorem dL_isWell_437 : decode cL_isWell 437 = .ok (.aload_n 0, 1) := by decide +kernel
theorem dL_isWell_438 : decode cL_isWell 438 = .ok (.iload 7, 2) := by decide +kernel
theorem dL_isWell_440 : decode cL_isWell 440 = .ok (.iload 9, 2) := by decide +kernel
theorem dL_isWell_442 : decode cL_isWell 442 = .ok (.invokevirtual 55, 3) := by decide +kernel
theorem dL_isWell_445 : decode cL_isWell 445 = .ok (.iconst (-1), 1) := by decide +kernel
theorem dL_isWell_446 : decode cL_isWell 446 = .ok (.if_icmp .ne 7, 3) := by decide +kernel
theorem dL_isWell_449 : decode cL_isWell 449 = .ok (.iconst 1, 1) := by decide +kernel
theorem dL_isWell_450 : decode cL_isWell 450 = .ok (.goto 4, 3) := by decide +kernel
theorem dL_isWell_453 : decode cL_isWell 453 = .ok (.iconst 0, 1) := by decide +kernel
theorem dL_isWell_454 : decode cL_isWell 454 = .ok (.istore 6, 2) := by decide +kernel
theorem dL_isWell_456 : decode cL_isWell 456 = .ok (.iload 6, 2) := by decide +kernel
theorem dL_isWell_458 : decode cL_isWell 458 = .ok (.ifCond .eq 59, 3) := by decide +kernel
theorem dL_isWell_461 : decode cL_isWell 461 = .ok (.iload 8, 2) := by decide +kernel
theorem dL_isWell_463 : decode cL_isWell 463 = .ok (.ifCond .le 54, 3) := by decide +kernel
theorem dL_isWell_466 : decode cL_isWell 466 = .ok (.aload_n 0, 1) := by decide +kernel
theorem dL_isWell_467 : decode cL_isWell 467 = .ok (.iload 7, 2) := by decide +kernel
theorem dL_isWell_469 : decode cL_isWell 469 = .ok (.iconst 3, 1) := by decide +kernel
theorem dL_isWell_470 : decode cL_isWell 470 = .ok (.invokevirtual 46, 3) := by decide +kernel
theorem dL_isWell_473 : decode cL_isWell 473 = .ok (.ifCond .ne 23, 3) := by decide +kernel
theorem dL_isWell_476 : decode cL_isWell 476 = .ok (.aload_n 0, 1) := by decide +kernel
theorem dL_isWell_477 : decode cL_isWell 477 = .ok (.iload 8, 2) := by decide +kernel
theorem dL_isWell_479 : decode cL_isWell 479 = .ok (.invokevirtual 24, 3) := by decide +kernel
theorem dL_isWell_482 : decode cL_isWell 482 = .ok (.aload_n 0, 1) := by decide +kernel
theorem dL_isWell_483 : decode cL_isWell 483 = .ok (.iload 8, 2) := by decide +kernel
theorem dL_isWell_485 : decode cL_isWell 485 = .ok (.iconst 1, 1) := by decide +kernel
theorem dL_isWell_486 : decode cL_isWell 486 = .ok (.isub, 1) := by decide +kernel
theorem dL_isWell_487 : decode cL_isWell 487 = .ok (.invokevirtual 24, 3) := by decide +kernel
theorem dL_isWell_490 : decode cL_isWell 490 = .ok (.if_icmp .le 27, 3) := by decide +kernel
theorem dL_isWell_493 : decode cL_isWell 493 = .ok (.goto 20, 3) := by decide +kernel
theorem dL_isWell_496 : decode cL_isWell 496 = .ok (.aload_n 0, 1) := by decide +kernel
theorem dL_isWell_497 : decode cL_isWell 497 = .ok (.iload 8, 2) := by decide +kernel
theorem dL_isWell_499 : decode cL_isWell 499 = .ok (.invokevirtual 24, 3) := by decide +kernel
theorem dL_isWell_502 : decode cL_isWell 502 = .ok (.aload_n 0, 1) := by decide +kernel
theorem dL_isWell_503 : decode cL_isWell 503 = .ok (.iload 8, 2) := by decide +kernel
theorem dL_isWell_505 : decode cL_isWell 505 = .ok (.iconst 1, 1) := by decide +kernel
theorem dL_isWell_506 : decode cL_isWell 506 = .ok (.isub, 1) := by decide +kernel
theorem dL_isWell_507 : decode cL_isWell 507 = .ok (.invokevirtual 24, 3) := by decide +kernel
theorem dL_isWell_510 : decode cL_isWell 510 = .ok (.if_icmp .ge 7, 3) := by decide +kernel
theorem dL_isWell_513 : decode cL_isWell 513 = .ok (.iconst 1, 1) := by decide +kernel
theorem dL_isWell_514 : decode cL_isWell 514 = .ok (.goto 4, 3) := by decide +kernel
theorem dL_isWell_517 : decode cL_isWell 517 = .ok (.iconst 0, 1) := by decide +kernel
theorem dL_isWell_518 : decode cL_isWell 518 = .ok (.istore 6, 2) := by decide +kernel
theorem dL_isWell_520 : decode cL_isWell 520 = .ok (.iload 11, 2) := by decide +kernel
theorem dL_isWell_522 : decode cL_isWell 522 = .ok (.iload 9, 2) := by decide +kernel
theorem dL_isWell_524 : decode cL_isWell 524 = .ok (.iadd, 1) := by decide +kernel
theorem dL_isWell_525 : decode cL_isWell 525 = .ok (.iconst 1, 1) := by decide +kernel
theorem dL_isWell_526 : decode cL_isWell 526 = .ok (.isub, 1) := by decide +kernel
theorem dL_isWell_527 : decode cL_isWell 527 = .ok (.istore 5, 2) := by decide +kernel
theorem dL_isWell_529 : decode cL_isWell 529 = .ok (.iinc 7 1, 3) := by decide +kernel
theorem dL_isWell_532 : decode cL_isWell 532 = .ok (.goto (-328), 3) := by decide +kernel
theorem dL_isWell_535 : decode cL_isWell 535 = .ok (.iload 6, 2) := by decide +kernel
theorem dL_isWell_537 : decode cL_isWell 537 = .ok (.ifCond .eq 36, 3) := by decide +kernel
theorem dL_isWell_540 : decode cL_isWell 540 = .ok (.iload_n 1, 1) := by decide +kernel
theorem dL_isWell_541 : decode cL_isWell 541 = .ok (.ifCond .eq 18, 3) := by decide +kernel
theorem dL_isWell_544 : decode cL_isWell 544 = .ok (.iload_n 2, 1) := by decide +kernel
theorem dL_isWell_545 : decode cL_isWell 545 = .ok (.iload 5, 2) := by decide +kernel
theorem dL_isWell_547 : decode cL_isWell 547 = .ok (.isub, 1) := by decide +kernel
theorem dL_isWell_548 : decode cL_isWell 548 = .ok (.iconst 1, 1) := by decide +kernel
theorem dL_isWell_549 : decode cL_isWell 549 = .ok (.isub, 1) := by decide +kernel
theorem dL_isWell_550 : decode cL_isWell 550 = .ok (.aload_n 0, 1) := by decide +kernel
theorem dL_isWell_551 : decode cL_isWell 551 = .ok (.bipush 8, 2) := by decide +kernel
theorem dL_isWell_553 : decode cL_isWell 553 = .ok (.invokevirtual 9, 3) := by decide +kernel
theorem dL_isWell_556 : decode cL_isWell 556 = .ok (.if_icmp .lt 17, 3) := by decide +kernel
theorem dL_isWell_559 : decode cL_isWell 559 = .ok (.aload_n 0, 1) := by decide +kernel
theorem dL_isWell_560 : decode cL_isWell 560 = .ok (.iload_n 1, 1) := by decide +kernel
theorem dL_isWell_561 : decode cL_isWell 561 = .ok (.iconst 0, 1) := by decide +kernel
theorem dL_isWell_562 : decode cL_isWell 562 = .ok (.invokevirtual 46, 3) := by decide +kernel
theorem dL_isWell_565 : decode cL_isWell 565 = .ok (.iconst (-1), 1) := by decide +kernel
theorem dL_isWell_566 : decode cL_isWell 566 = .ok (.if_icmp .ne 7, 3) := by decide +kernel
theorem dL_isWell_569 : decode cL_isWell 569 = .ok (.iconst 1, 1) := by decide +kernel
theorem dL_isWell_570 : decode cL_isWell 570 = .ok (.goto 4, 3) := by decide +kernel
theorem dL_isWell_573 : decode cL_isWell 573 = .ok (.iconst 0, 1) := by decide +kernel
theorem dL_isWell_574 : decode cL_isWell 574 = .ok (.ireturn, 1) := by decide +kernel
theorem dL_law_0 : decode cL_law 0 = .ok (.new 10, 3) := by decide +kernel
theorem dL_law_3 : decode cL_law 3 = .ok (.dup, 1) := by decide +kernel
theorem dL_law_4 : decode cL_law 4 = .ok (.invokespecial 58, 3) := by decide +kernel
theorem dL_law_7 : decode cL_law 7 = .ok (.astore_n 1, 1) := by decide +kernel
theorem dL_law_8 : decode cL_law 8 = .ok (.new 10, 3) := by decide +kernel
theorem dL_law_11 : decode cL_law 11 = .ok (.dup, 1) := by decide +kernel
theorem dL_law_12 : decode cL_law 12 = .ok (.invokespecial 58, 3) := by decide +kernel
theorem dL_law_15 : decode cL_law 15 = .ok (.astore_n 2, 1) := by decide +kernel
theorem dL_law_16 : decode cL_law 16 = .ok (.aload_n 2, 1) := by decide +kernel
theorem dL_law_17 : decode cL_law 17 = .ok (.iconst 0, 1) := by decide +kernel
theorem dL_law_18 : decode cL_law 18 = .ok (.iconst 1, 1) := by decide +kernel
theorem dL_law_19 : decode cL_law 19 = .ok (.invokevirtual 37, 3) := by decide +kernel
theorem dL_law_22 : decode cL_law 22 = .ok (.sipush 1000, 3) := by decide +kernel
theorem dL_law_25 : decode cL_law 25 = .ok (.if_icmp .ne 20, 3) := by decide +kernel
theorem dL_law_28 : decode cL_law 28 = .ok (.aload_n 1, 1) := by decide +kernel
theorem dL_law_29 : decode cL_law 29 = .ok (.bipush 9, 2) := by decide +kernel
theorem dL_law_31 : decode cL_law 31 = .ok (.iconst 0, 1) := by decide +kernel
theorem dL_law_32 : decode cL_law 32 = .ok (.invokevirtual 37, 3) := by decide +kernel
theorem dL_law_35 : decode cL_law 35 = .ok (.sipush 1000, 3) := by decide +kernel
theorem dL_law_38 : decode cL_law 38 = .ok (.if_icmp .ne 7, 3) := by decide +kernel
theorem dL_law_41 : decode cL_law 41 = .ok (.iconst 1, 1) := by decide +kernel
theorem dL_law_42 : decode cL_law 42 = .ok (.goto 4, 3) := by decide +kernel
theorem dL_law_45 : decode cL_law 45 = .ok (.iconst 0, 1) := by decide +kernel
theorem dL_law_46 : decode cL_law 46 = .ok (.istore_n 3, 1) := by decide +kernel
theorem dL_law_47 : decode cL_law 47 = .ok (.iconst 0, 1) := by decide +kernel
theorem dL_law_48 : decode cL_law 48 = .ok (.istore 4, 2) := by decide +kernel
theorem dL_law_50 : decode cL_law 50 = .ok (.iload 4, 2) := by decide +kernel
theorem dL_law_52 : decode cL_law 52 = .ok (.bipush 60, 2) := by decide +kernel
theorem dL_law_54 : decode cL_law 54 = .ok (.if_icmp .ge 47, 3) := by decide +kernel
theorem dL_law_57 : decode cL_law 57 = .ok (.iload_n 3, 1) := by decide +kernel
theorem dL_law_58 : decode cL_law 58 = .ok (.ifCond .eq 43, 3) := by decide +kernel
theorem dL_law_61 : decode cL_law 61 = .ok (.aload_n 1, 1) := by decide +kernel
theorem dL_law_62 : decode cL_law 62 = .ok (.aload_n 2, 1) := by decide +kernel
theorem dL_law_63 : decode cL_law 63 = .ok (.aload_n 0, 1) := by decide +kernel
theorem dL_law_64 : decode cL_law 64 = .ok (.iload 4, 2) := by decide +kernel
theorem dL_law_66 : decode cL_law 66 = .ok (.invokestatic 59, 3) := by decide +kernel
theorem dL_law_69 : decode cL_law 69 = .ok (.invokestatic 63, 3) := by decide +kernel
theorem dL_law_72 : decode cL_law 72 = .ok (.ifCond .eq 21, 3) := by decide +kernel
theorem dL_law_75 : decode cL_law 75 = .ok (.iload 4, 2) := by decide +kernel
theorem dL_law_77 : decode cL_law 77 = .ok (.iconst 4, 1) := by decide +kernel
theorem dL_law_78 : decode cL_law 78 = .ok (.irem, 1) := by decide +kernel
theorem dL_law_79 : decode cL_law 79 = .ok (.ifCond .gt 10, 3) := by decide +kernel
theorem dL_law_82 : decode cL_law 82 = .ok (.aload_n 1, 1) := by decide +kernel
theorem dL_law_83 : decode cL_law 83 = .ok (.invokestatic 67, 3) := by decide +kernel
theorem dL_law_86 : decode cL_law 86 = .ok (.ifCond .eq 7, 3) := by decide +kernel
theorem dL_law_89 : decode cL_law 89 = .ok (.iconst 1, 1) := by decide +kernel
theorem dL_law_90 : decode cL_law 90 = .ok (.goto 4, 3) := by decide +kernel
theorem dL_law_93 : decode cL_law 93 = .ok (.iconst 0, 1) := by decide +kernel
theorem dL_law_94 : decode cL_law 94 = .ok (.istore_n 3, 1) := by decide +kernel
theorem dL_law_95 : decode cL_law 95 = .ok (.iinc 4 1, 3) := by decide +kernel
theorem dL_law_98 : decode cL_law 98 = .ok (.goto (-48), 3) := by decide +kernel
theorem dL_law_101 : decode cL_law 101 = .ok (.iload_n 3, 1) := by decide +kernel
theorem dL_law_102 : decode cL_law 102 = .ok (.ifCond .eq 36, 3) := by decide +kernel
theorem dL_law_105 : decode cL_law 105 = .ok (.aload_n 1, 1) := by decide +kernel
theorem dL_law_106 : decode cL_law 106 = .ok (.invokestatic 67, 3) := by decide +kernel
theorem dL_law_109 : decode cL_law 109 = .ok (.ifCond .eq 29, 3) := by decide +kernel
theorem dL_law_112 : decode cL_law 112 = .ok (.aload_n 1, 1) := by decide +kernel
theorem dL_law_113 : decode cL_law 113 = .ok (.aload_n 2, 1) := by decide +kernel
theorem dL_law_114 : decode cL_law 114 = .ok (.aload_n 0, 1) := by decide +kernel
theorem dL_law_115 : decode cL_law 115 = .ok (.bipush 60, 2) := by decide +kernel
theorem dL_law_117 : decode cL_law 117 = .ok (.invokestatic 59, 3) := by decide +kernel
theorem dL_law_120 : decode cL_law 120 = .ok (.bipush 61, 2) := by decide +kernel
theorem dL_law_122 : decode cL_law 122 = .ok (.invokestatic 15, 3) := by decide +kernel
theorem dL_law_125 : decode cL_law 125 = .ok (.bipush 30, 2) := by decide +kernel
theorem dL_law_127 : decode cL_law 127 = .ok (.isub, 1) := by decide +kernel
theorem dL_law_128 : decode cL_law 128 = .ok (.invokestatic 71, 3) := by decide +kernel
theorem dL_law_131 : decode cL_law 131 = .ok (.ifCond .eq 7, 3) := by decide +kernel
theorem dL_law_134 : decode cL_law 134 = .ok (.iconst 1, 1) := by decide +kernel
theorem dL_law_135 : decode cL_law 135 = .ok (.goto 4, 3) := by decide +kernel
theorem dL_law_138 : decode cL_law 138 = .ok (.iconst 0, 1) := by decide +kernel
theorem dL_law_139 : decode cL_law 139 = .ok (.ireturn, 1) := by decide +kernel
