/-! THE LAW: instructions and calls (of claim/NAMES.whole.lean.txt) -/
theorem dL_isSo_248 : decode cL_isSo 248 = .ok (.imul, 1) := by decide +kernel
theorem dL_isSo_249 : decode cL_isSo 249 = .ok (.iconst 4, 1) := by decide +kernel
theorem dL_isSo_250 : decode cL_isSo 250 = .ok (.iadd, 1) := by decide +kernel
theorem dL_isSo_251 : decode cL_isSo 251 = .ok (.iaload, 1) := by decide +kernel
theorem dL_isSo_252 : decode cL_isSo 252 = .ok (.if_icmp .ne 39, 3) := by decide +kernel
theorem dL_isSo_255 : decode cL_isSo 255 = .ok (.aload_n 0, 1) := by decide +kernel
theorem dL_isSo_256 : decode cL_isSo 256 = .ok (.iload 11, 2) := by decide +kernel
theorem dL_isSo_258 : decode cL_isSo 258 = .ok (.bipush 7, 2) := by decide +kernel
theorem dL_isSo_260 : decode cL_isSo 260 = .ok (.invokevirtual 77, 3) := by decide +kernel
theorem dL_isSo_263 : decode cL_isSo 263 = .ok (.iload 12, 2) := by decide +kernel
theorem dL_isSo_265 : decode cL_isSo 265 = .ok (.if_icmp .ne 26, 3) := by decide +kernel
theorem dL_isSo_268 : decode cL_isSo 268 = .ok (.aload_n 0, 1) := by decide +kernel
theorem dL_isSo_269 : decode cL_isSo 269 = .ok (.iload 11, 2) := by decide +kernel
theorem dL_isSo_271 : decode cL_isSo 271 = .ok (.bipush 8, 2) := by decide +kernel
theorem dL_isSo_273 : decode cL_isSo 273 = .ok (.invokevirtual 77, 3) := by decide +kernel
theorem dL_isSo_276 : decode cL_isSo 276 = .ok (.aload_n 1, 1) := by decide +kernel
theorem dL_isSo_277 : decode cL_isSo 277 = .ok (.aload 5, 2) := by decide +kernel
theorem dL_isSo_279 : decode cL_isSo 279 = .ok (.iload 11, 2) := by decide +kernel
theorem dL_isSo_281 : decode cL_isSo 281 = .ok (.invokestatic 9, 3) := by decide +kernel
theorem dL_isSo_284 : decode cL_isSo 284 = .ok (.if_icmp .ne 7, 3) := by decide +kernel
theorem dL_isSo_287 : decode cL_isSo 287 = .ok (.iconst 1, 1) := by decide +kernel
theorem dL_isSo_288 : decode cL_isSo 288 = .ok (.goto 4, 3) := by decide +kernel
theorem dL_isSo_291 : decode cL_isSo 291 = .ok (.iconst 0, 1) := by decide +kernel
theorem dL_isSo_292 : decode cL_isSo 292 = .ok (.istore 10, 2) := by decide +kernel
theorem dL_isSo_294 : decode cL_isSo 294 = .ok (.iinc 11 1, 3) := by decide +kernel
theorem dL_isSo_297 : decode cL_isSo 297 = .ok (.goto (-279), 3) := by decide +kernel
theorem dL_isSo_300 : decode cL_isSo 300 = .ok (.iconst 0, 1) := by decide +kernel
theorem dL_isSo_301 : decode cL_isSo 301 = .ok (.istore 11, 2) := by decide +kernel
theorem dL_isSo_303 : decode cL_isSo 303 = .ok (.iload 11, 2) := by decide +kernel
theorem dL_isSo_305 : decode cL_isSo 305 = .ok (.aload_n 1, 1) := by decide +kernel
theorem dL_isSo_306 : decode cL_isSo 306 = .ok (.iconst 1, 1) := by decide +kernel
theorem dL_isSo_307 : decode cL_isSo 307 = .ok (.iaload, 1) := by decide +kernel
theorem dL_isSo_308 : decode cL_isSo 308 = .ok (.if_icmp .ge 185, 3) := by decide +kernel
theorem dL_isSo_311 : decode cL_isSo 311 = .ok (.iload 10, 2) := by decide +kernel
theorem dL_isSo_313 : decode cL_isSo 313 = .ok (.ifCond .eq 180, 3) := by decide +kernel
theorem dL_isSo_316 : decode cL_isSo 316 = .ok (.iload 9, 2) := by decide +kernel
theorem dL_isSo_318 : decode cL_isSo 318 = .ok (.aload 4, 2) := by decide +kernel
theorem dL_isSo_320 : decode cL_isSo 320 = .ok (.iload 11, 2) := by decide +kernel
theorem dL_isSo_322 : decode cL_isSo 322 = .ok (.invokestatic 83, 3) := by decide +kernel
theorem dL_isSo_325 : decode cL_isSo 325 = .ok (.iadd, 1) := by decide +kernel
theorem dL_isSo_326 : decode cL_isSo 326 = .ok (.istore 9, 2) := by decide +kernel
theorem dL_isSo_328 : decode cL_isSo 328 = .ok (.iconst 0, 1) := by decide +kernel
theorem dL_isSo_329 : decode cL_isSo 329 = .ok (.istore 12, 2) := by decide +kernel
theorem dL_isSo_331 : decode cL_isSo 331 = .ok (.iload 12, 2) := by decide +kernel
theorem dL_isSo_333 : decode cL_isSo 333 = .ok (.bipush 8, 2) := by decide +kernel
theorem dL_isSo_335 : decode cL_isSo 335 = .ok (.if_icmp .ge 42, 3) := by decide +kernel
theorem dL_isSo_338 : decode cL_isSo 338 = .ok (.iload 10, 2) := by decide +kernel
theorem dL_isSo_340 : decode cL_isSo 340 = .ok (.ifCond .eq 28, 3) := by decide +kernel
theorem dL_isSo_343 : decode cL_isSo 343 = .ok (.aload_n 0, 1) := by decide +kernel
theorem dL_isSo_344 : decode cL_isSo 344 = .ok (.iload 11, 2) := by decide +kernel
theorem dL_isSo_346 : decode cL_isSo 346 = .ok (.iload 12, 2) := by decide +kernel
theorem dL_isSo_348 : decode cL_isSo 348 = .ok (.invokevirtual 87, 3) := by decide +kernel
theorem dL_isSo_351 : decode cL_isSo 351 = .ok (.aload_n 3, 1) := by decide +kernel
theorem dL_isSo_352 : decode cL_isSo 352 = .ok (.bipush 10, 2) := by decide +kernel
theorem dL_isSo_354 : decode cL_isSo 354 = .ok (.iload 11, 2) := by decide +kernel
theorem dL_isSo_356 : decode cL_isSo 356 = .ok (.imul, 1) := by decide +kernel
theorem dL_isSo_357 : decode cL_isSo 357 = .ok (.iload 12, 2) := by decide +kernel
theorem dL_isSo_359 : decode cL_isSo 359 = .ok (.iadd, 1) := by decide +kernel
theorem dL_isSo_360 : decode cL_isSo 360 = .ok (.iaload, 1) := by decide +kernel
theorem dL_isSo_361 : decode cL_isSo 361 = .ok (.if_icmp .ne 7, 3) := by decide +kernel
theorem dL_isSo_364 : decode cL_isSo 364 = .ok (.iconst 1, 1) := by decide +kernel
theorem dL_isSo_365 : decode cL_isSo 365 = .ok (.goto 4, 3) := by decide +kernel
theorem dL_isSo_368 : decode cL_isSo 368 = .ok (.iconst 0, 1) := by decide +kernel
theorem dL_isSo_369 : decode cL_isSo 369 = .ok (.istore 10, 2) := by decide +kernel
theorem dL_isSo_371 : decode cL_isSo 371 = .ok (.iinc 12 1, 3) := by decide +kernel
theorem dL_isSo_374 : decode cL_isSo 374 = .ok (.goto (-43), 3) := by decide +kernel
theorem dL_isSo_377 : decode cL_isSo 377 = .ok (.iload 10, 2) := by decide +kernel
theorem dL_isSo_379 : decode cL_isSo 379 = .ok (.ifCond .eq 105, 3) := by decide +kernel
theorem dL_isSo_382 : decode cL_isSo 382 = .ok (.aload_n 0, 1) := by decide +kernel
theorem dL_isSo_383 : decode cL_isSo 383 = .ok (.iload 11, 2) := by decide +kernel
theorem dL_isSo_385 : decode cL_isSo 385 = .ok (.bipush 8, 2) := by decide +kernel
theorem dL_isSo_387 : decode cL_isSo 387 = .ok (.invokevirtual 87, 3) := by decide +kernel
theorem dL_isSo_390 : decode cL_isSo 390 = .ok (.aload 4, 2) := by decide +kernel
theorem dL_isSo_392 : decode cL_isSo 392 = .ok (.iload 11, 2) := by decide +kernel
theorem dL_isSo_394 : decode cL_isSo 394 = .ok (.invokestatic 83, 3) := by decide +kernel
theorem dL_isSo_397 : decode cL_isSo 397 = .ok (.if_icmp .ne 87, 3) := by decide +kernel
theorem dL_isSo_400 : decode cL_isSo 400 = .ok (.aload_n 0, 1) := by decide +kernel
theorem dL_isSo_401 : decode cL_isSo 401 = .ok (.iload 11, 2) := by decide +kernel
theorem dL_isSo_403 : decode cL_isSo 403 = .ok (.bipush 9, 2) := by decide +kernel
theorem dL_isSo_405 : decode cL_isSo 405 = .ok (.invokevirtual 87, 3) := by decide +kernel
theorem dL_isSo_408 : decode cL_isSo 408 = .ok (.aload_n 3, 1) := by decide +kernel
theorem dL_isSo_409 : decode cL_isSo 409 = .ok (.bipush 10, 2) := by decide +kernel
theorem dL_isSo_411 : decode cL_isSo 411 = .ok (.iload 11, 2) := by decide +kernel
theorem dL_isSo_413 : decode cL_isSo 413 = .ok (.imul, 1) := by decide +kernel
theorem dL_isSo_414 : decode cL_isSo 414 = .ok (.bipush 8, 2) := by decide +kernel
theorem dL_isSo_416 : decode cL_isSo 416 = .ok (.iadd, 1) := by decide +kernel
theorem dL_isSo_417 : decode cL_isSo 417 = .ok (.iaload, 1) := by decide +kernel
theorem dL_isSo_418 : decode cL_isSo 418 = .ok (.if_icmp .ne 66, 3) := by decide +kernel
theorem dL_isSo_421 : decode cL_isSo 421 = .ok (.aload_n 0, 1) := by decide +kernel
theorem dL_isSo_422 : decode cL_isSo 422 = .ok (.iload 11, 2) := by decide +kernel
theorem dL_isSo_424 : decode cL_isSo 424 = .ok (.bipush 10, 2) := by decide +kernel
theorem dL_isSo_426 : decode cL_isSo 426 = .ok (.invokevirtual 87, 3) := by decide +kernel
theorem dL_isSo_429 : decode cL_isSo 429 = .ok (.aload_n 3, 1) := by decide +kernel
theorem dL_isSo_430 : decode cL_isSo 430 = .ok (.bipush 10, 2) := by decide +kernel
theorem dL_isSo_432 : decode cL_isSo 432 = .ok (.iload 11, 2) := by decide +kernel
theorem dL_isSo_434 : decode cL_isSo 434 = .ok (.imul, 1) := by decide +kernel
theorem dL_isSo_435 : decode cL_isSo 435 = .ok (.bipush 9, 2) := by decide +kernel
theorem dL_isSo_437 : decode cL_isSo 437 = .ok (.iadd, 1) := by decide +kernel
theorem dL_isSo_438 : decode cL_isSo 438 = .ok (.iaload, 1) := by decide +kernel
theorem dL_isSo_439 : decode cL_isSo 439 = .ok (.if_icmp .ne 45, 3) := by decide +kernel
theorem dL_isSo_442 : decode cL_isSo 442 = .ok (.aload_n 0, 1) := by decide +kernel
theorem dL_isSo_443 : decode cL_isSo 443 = .ok (.iload 11, 2) := by decide +kernel
theorem dL_isSo_445 : decode cL_isSo 445 = .ok (.bipush 11, 2) := by decide +kernel
theorem dL_isSo_447 : decode cL_isSo 447 = .ok (.invokevirtual 87, 3) := by decide +kernel
theorem dL_isSo_450 : decode cL_isSo 450 = .ok (.aload_n 2, 1) := by decide +kernel
theorem dL_isSo_451 : decode cL_isSo 451 = .ok (.aload_n 3, 1) := by decide +kernel
theorem dL_isSo_452 : decode cL_isSo 452 = .ok (.iload 11, 2) := by decide +kernel
theorem dL_isSo_454 : decode cL_isSo 454 = .ok (.iconst 0, 1) := by decide +kernel
theorem dL_isSo_455 : decode cL_isSo 455 = .ok (.invokestatic 21, 3) := by decide +kernel
theorem dL_isSo_458 : decode cL_isSo 458 = .ok (.if_icmp .ne 26, 3) := by decide +kernel
theorem dL_isSo_461 : decode cL_isSo 461 = .ok (.aload_n 0, 1) := by decide +kernel
theorem dL_isSo_462 : decode cL_isSo 462 = .ok (.iload 11, 2) := by decide +kernel
theorem dL_isSo_464 : decode cL_isSo 464 = .ok (.bipush 12, 2) := by decide +kernel
theorem dL_isSo_466 : decode cL_isSo 466 = .ok (.invokevirtual 87, 3) := by decide +kernel
theorem dL_isSo_469 : decode cL_isSo 469 = .ok (.aload_n 2, 1) := by decide +kernel
theorem dL_isSo_470 : decode cL_isSo 470 = .ok (.aload_n 3, 1) := by decide +kernel
theorem dL_isSo_471 : decode cL_isSo 471 = .ok (.iload 11, 2) := by decide +kernel
theorem dL_isSo_473 : decode cL_isSo 473 = .ok (.iconst 1, 1) := by decide +kernel
theorem dL_isSo_474 : decode cL_isSo 474 = .ok (.invokestatic 21, 3) := by decide +kernel
theorem dL_isSo_477 : decode cL_isSo 477 = .ok (.if_icmp .ne 7, 3) := by decide +kernel
theorem dL_isSo_480 : decode cL_isSo 480 = .ok (.iconst 1, 1) := by decide +kernel
theorem dL_isSo_481 : decode cL_isSo 481 = .ok (.goto 4, 3) := by decide +kernel
theorem dL_isSo_484 : decode cL_isSo 484 = .ok (.iconst 0, 1) := by decide +kernel
theorem dL_isSo_485 : decode cL_isSo 485 = .ok (.istore 10, 2) := by decide +kernel
theorem dL_isSo_487 : decode cL_isSo 487 = .ok (.iinc 11 1, 3) := by decide +kernel
theorem dL_isSo_490 : decode cL_isSo 490 = .ok (.goto (-187), 3) := by decide +kernel
theorem dL_isSo_493 : decode cL_isSo 493 = .ok (.iconst 0, 1) := by decide +kernel
theorem dL_isSo_494 : decode cL_isSo 494 = .ok (.istore 11, 2) := by decide +kernel
theorem dL_isSo_496 : decode cL_isSo 496 = .ok (.iload 11, 2) := by decide +kernel
theorem dL_isSo_498 : decode cL_isSo 498 = .ok (.iconst 5, 1) := by decide +kernel
theorem dL_isSo_499 : decode cL_isSo 499 = .ok (.aload_n 1, 1) := by decide +kernel
theorem dL_isSo_500 : decode cL_isSo 500 = .ok (.iconst 2, 1) := by decide +kernel
theorem dL_isSo_501 : decode cL_isSo 501 = .ok (.iaload, 1) := by decide +kernel
theorem dL_isSo_502 : decode cL_isSo 502 = .ok (.imul, 1) := by decide +kernel
theorem dL_isSo_503 : decode cL_isSo 503 = .ok (.if_icmp .ge 41, 3) := by decide +kernel
theorem dL_isSo_506 : decode cL_isSo 506 = .ok (.iload 10, 2) := by decide +kernel
theorem dL_isSo_508 : decode cL_isSo 508 = .ok (.ifCond .eq 36, 3) := by decide +kernel
theorem dL_isSo_511 : decode cL_isSo 511 = .ok (.aload_n 0, 1) := by decide +kernel
theorem dL_isSo_512 : decode cL_isSo 512 = .ok (.iload 11, 2) := by decide +kernel
theorem dL_isSo_514 : decode cL_isSo 514 = .ok (.iconst 5, 1) := by decide +kernel
theorem dL_isSo_515 : decode cL_isSo 515 = .ok (.idiv, 1) := by decide +kernel
theorem dL_isSo_516 : decode cL_isSo 516 = .ok (.iload 11, 2) := by decide +kernel
theorem dL_isSo_518 : decode cL_isSo 518 = .ok (.iconst 5, 1) := by decide +kernel
theorem dL_isSo_519 : decode cL_isSo 519 = .ok (.irem, 1) := by decide +kernel
theorem dL_isSo_520 : decode cL_isSo 520 = .ok (.invokevirtual 90, 3) := by decide +kernel
theorem dL_isSo_523 : decode cL_isSo 523 = .ok (.aload 5, 2) := by decide +kernel
theorem dL_isSo_525 : decode cL_isSo 525 = .ok (.iload 11, 2) := by decide +kernel
theorem dL_isSo_527 : decode cL_isSo 527 = .ok (.iaload, 1) := by decide +kernel
theorem dL_isSo_528 : decode cL_isSo 528 = .ok (.if_icmp .ne 7, 3) := by decide +kernel
theorem dL_isSo_531 : decode cL_isSo 531 = .ok (.iconst 1, 1) := by decide +kernel
