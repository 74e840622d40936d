/-! THE LAW: instructions and calls (of claim/NAMES.whole.lean.txt) -/
theorem dL_step_241 : decode cL_step 241 = .ok (.aload 4, 2) := by decide +kernel
theorem dL_step_243 : decode cL_step 243 = .ok (.aload_n 2, 1) := by decide +kernel
theorem dL_step_244 : decode cL_step 244 = .ok (.bipush 10, 2) := by decide +kernel
theorem dL_step_246 : decode cL_step 246 = .ok (.iload 6, 2) := by decide +kernel
theorem dL_step_248 : decode cL_step 248 = .ok (.imul, 1) := by decide +kernel
theorem dL_step_249 : decode cL_step 249 = .ok (.iaload, 1) := by decide +kernel
theorem dL_step_250 : decode cL_step 250 = .ok (.invokestatic 9, 3) := by decide +kernel
theorem dL_step_253 : decode cL_step 253 = .ok (.ifCond .gt 21, 3) := by decide +kernel
theorem dL_step_256 : decode cL_step 256 = .ok (.aload_n 0, 1) := by decide +kernel
theorem dL_step_257 : decode cL_step 257 = .ok (.aload 4, 2) := by decide +kernel
theorem dL_step_259 : decode cL_step 259 = .ok (.aload_n 2, 1) := by decide +kernel
theorem dL_step_260 : decode cL_step 260 = .ok (.bipush 10, 2) := by decide +kernel
theorem dL_step_262 : decode cL_step 262 = .ok (.iload 6, 2) := by decide +kernel
theorem dL_step_264 : decode cL_step 264 = .ok (.imul, 1) := by decide +kernel
theorem dL_step_265 : decode cL_step 265 = .ok (.iconst 1, 1) := by decide +kernel
theorem dL_step_266 : decode cL_step 266 = .ok (.iadd, 1) := by decide +kernel
theorem dL_step_267 : decode cL_step 267 = .ok (.iaload, 1) := by decide +kernel
theorem dL_step_268 : decode cL_step 268 = .ok (.invokestatic 9, 3) := by decide +kernel
theorem dL_step_271 : decode cL_step 271 = .ok (.ifCond .le 7, 3) := by decide +kernel
theorem dL_step_274 : decode cL_step 274 = .ok (.iconst 1, 1) := by decide +kernel
theorem dL_step_275 : decode cL_step 275 = .ok (.goto 4, 3) := by decide +kernel
theorem dL_step_278 : decode cL_step 278 = .ok (.iconst 0, 1) := by decide +kernel
theorem dL_step_279 : decode cL_step 279 = .ok (.istore 10, 2) := by decide +kernel
theorem dL_step_281 : decode cL_step 281 = .ok (.aload_n 0, 1) := by decide +kernel
theorem dL_step_282 : decode cL_step 282 = .ok (.bipush 6, 2) := by decide +kernel
theorem dL_step_284 : decode cL_step 284 = .ok (.dup2, 1) := by decide +kernel
theorem dL_step_285 : decode cL_step 285 = .ok (.iaload, 1) := by decide +kernel
theorem dL_step_286 : decode cL_step 286 = .ok (.iload 10, 2) := by decide +kernel
theorem dL_step_288 : decode cL_step 288 = .ok (.ifCond .eq 21, 3) := by decide +kernel
theorem dL_step_291 : decode cL_step 291 = .ok (.aload_n 2, 1) := by decide +kernel
theorem dL_step_292 : decode cL_step 292 = .ok (.bipush 10, 2) := by decide +kernel
theorem dL_step_294 : decode cL_step 294 = .ok (.iload 6, 2) := by decide +kernel
theorem dL_step_296 : decode cL_step 296 = .ok (.imul, 1) := by decide +kernel
theorem dL_step_297 : decode cL_step 297 = .ok (.iconst 5, 1) := by decide +kernel
theorem dL_step_298 : decode cL_step 298 = .ok (.iadd, 1) := by decide +kernel
theorem dL_step_299 : decode cL_step 299 = .ok (.iaload, 1) := by decide +kernel
theorem dL_step_300 : decode cL_step 300 = .ok (.iload 7, 2) := by decide +kernel
theorem dL_step_302 : decode cL_step 302 = .ok (.if_icmp .le 7, 3) := by decide +kernel
theorem dL_step_305 : decode cL_step 305 = .ok (.iconst 1, 1) := by decide +kernel
theorem dL_step_306 : decode cL_step 306 = .ok (.goto 4, 3) := by decide +kernel
theorem dL_step_309 : decode cL_step 309 = .ok (.iconst 0, 1) := by decide +kernel
theorem dL_step_310 : decode cL_step 310 = .ok (.iadd, 1) := by decide +kernel
theorem dL_step_311 : decode cL_step 311 = .ok (.iastore, 1) := by decide +kernel
theorem dL_step_312 : decode cL_step 312 = .ok (.iinc 6 1, 3) := by decide +kernel
theorem dL_step_315 : decode cL_step 315 = .ok (.goto (-164), 3) := by decide +kernel
theorem dL_step_318 : decode cL_step 318 = .ok (.aload_n 0, 1) := by decide +kernel
theorem dL_step_319 : decode cL_step 319 = .ok (.iconst 2, 1) := by decide +kernel
theorem dL_step_320 : decode cL_step 320 = .ok (.iaload, 1) := by decide +kernel
theorem dL_step_321 : decode cL_step 321 = .ok (.iconst 1, 1) := by decide +kernel
theorem dL_step_322 : decode cL_step 322 = .ok (.isub, 1) := by decide +kernel
theorem dL_step_323 : decode cL_step 323 = .ok (.istore 6, 2) := by decide +kernel
theorem dL_step_325 : decode cL_step 325 = .ok (.iload 6, 2) := by decide +kernel
theorem dL_step_327 : decode cL_step 327 = .ok (.ifCond .lt 160, 3) := by decide +kernel
theorem dL_step_330 : decode cL_step 330 = .ok (.aload 4, 2) := by decide +kernel
theorem dL_step_332 : decode cL_step 332 = .ok (.iconst 5, 1) := by decide +kernel
theorem dL_step_333 : decode cL_step 333 = .ok (.iload 6, 2) := by decide +kernel
theorem dL_step_335 : decode cL_step 335 = .ok (.imul, 1) := by decide +kernel
theorem dL_step_336 : decode cL_step 336 = .ok (.iconst 1, 1) := by decide +kernel
theorem dL_step_337 : decode cL_step 337 = .ok (.iadd, 1) := by decide +kernel
theorem dL_step_338 : decode cL_step 338 = .ok (.iaload, 1) := by decide +kernel
theorem dL_step_339 : decode cL_step 339 = .ok (.ifCond .ne 7, 3) := by decide +kernel
theorem dL_step_342 : decode cL_step 342 = .ok (.iconst 1, 1) := by decide +kernel
theorem dL_step_343 : decode cL_step 343 = .ok (.goto 4, 3) := by decide +kernel
theorem dL_step_346 : decode cL_step 346 = .ok (.iconst 0, 1) := by decide +kernel
theorem dL_step_347 : decode cL_step 347 = .ok (.istore 7, 2) := by decide +kernel
theorem dL_step_349 : decode cL_step 349 = .ok (.aload 4, 2) := by decide +kernel
theorem dL_step_351 : decode cL_step 351 = .ok (.iconst 5, 1) := by decide +kernel
theorem dL_step_352 : decode cL_step 352 = .ok (.iload 6, 2) := by decide +kernel
theorem dL_step_354 : decode cL_step 354 = .ok (.imul, 1) := by decide +kernel
theorem dL_step_355 : decode cL_step 355 = .ok (.iaload, 1) := by decide +kernel
theorem dL_step_356 : decode cL_step 356 = .ok (.aload 4, 2) := by decide +kernel
theorem dL_step_358 : decode cL_step 358 = .ok (.iconst 5, 1) := by decide +kernel
theorem dL_step_359 : decode cL_step 359 = .ok (.iload 6, 2) := by decide +kernel
theorem dL_step_361 : decode cL_step 361 = .ok (.imul, 1) := by decide +kernel
theorem dL_step_362 : decode cL_step 362 = .ok (.iconst 3, 1) := by decide +kernel
theorem dL_step_363 : decode cL_step 363 = .ok (.iadd, 1) := by decide +kernel
theorem dL_step_364 : decode cL_step 364 = .ok (.iaload, 1) := by decide +kernel
theorem dL_step_365 : decode cL_step 365 = .ok (.iadd, 1) := by decide +kernel
theorem dL_step_366 : decode cL_step 366 = .ok (.iconst 1, 1) := by decide +kernel
theorem dL_step_367 : decode cL_step 367 = .ok (.isub, 1) := by decide +kernel
theorem dL_step_368 : decode cL_step 368 = .ok (.istore 8, 2) := by decide +kernel
theorem dL_step_370 : decode cL_step 370 = .ok (.iload 7, 2) := by decide +kernel
theorem dL_step_372 : decode cL_step 372 = .ok (.ifCond .eq 72, 3) := by decide +kernel
theorem dL_step_375 : decode cL_step 375 = .ok (.aload 4, 2) := by decide +kernel
theorem dL_step_377 : decode cL_step 377 = .ok (.iconst 5, 1) := by decide +kernel
theorem dL_step_378 : decode cL_step 378 = .ok (.iload 6, 2) := by decide +kernel
theorem dL_step_380 : decode cL_step 380 = .ok (.imul, 1) := by decide +kernel
theorem dL_step_381 : decode cL_step 381 = .ok (.iaload, 1) := by decide +kernel
theorem dL_step_382 : decode cL_step 382 = .ok (.aload_n 0, 1) := by decide +kernel
theorem dL_step_383 : decode cL_step 383 = .ok (.iconst 3, 1) := by decide +kernel
theorem dL_step_384 : decode cL_step 384 = .ok (.iaload, 1) := by decide +kernel
theorem dL_step_385 : decode cL_step 385 = .ok (.if_icmp .gt 59, 3) := by decide +kernel
theorem dL_step_388 : decode cL_step 388 = .ok (.aload_n 1, 1) := by decide +kernel
theorem dL_step_389 : decode cL_step 389 = .ok (.bipush 6, 2) := by decide +kernel
theorem dL_step_391 : decode cL_step 391 = .ok (.aload 4, 2) := by decide +kernel
theorem dL_step_393 : decode cL_step 393 = .ok (.iconst 5, 1) := by decide +kernel
theorem dL_step_394 : decode cL_step 394 = .ok (.iload 6, 2) := by decide +kernel
theorem dL_step_396 : decode cL_step 396 = .ok (.imul, 1) := by decide +kernel
theorem dL_step_397 : decode cL_step 397 = .ok (.iconst 2, 1) := by decide +kernel
theorem dL_step_398 : decode cL_step 398 = .ok (.iadd, 1) := by decide +kernel
theorem dL_step_399 : decode cL_step 399 = .ok (.iaload, 1) := by decide +kernel
theorem dL_step_400 : decode cL_step 400 = .ok (.imul, 1) := by decide +kernel
theorem dL_step_401 : decode cL_step 401 = .ok (.iconst 2, 1) := by decide +kernel
theorem dL_step_402 : decode cL_step 402 = .ok (.iadd, 1) := by decide +kernel
theorem dL_step_403 : decode cL_step 403 = .ok (.dup2, 1) := by decide +kernel
theorem dL_step_404 : decode cL_step 404 = .ok (.iaload, 1) := by decide +kernel
theorem dL_step_405 : decode cL_step 405 = .ok (.aload 4, 2) := by decide +kernel
theorem dL_step_407 : decode cL_step 407 = .ok (.iconst 5, 1) := by decide +kernel
theorem dL_step_408 : decode cL_step 408 = .ok (.iload 6, 2) := by decide +kernel
theorem dL_step_410 : decode cL_step 410 = .ok (.imul, 1) := by decide +kernel
theorem dL_step_411 : decode cL_step 411 = .ok (.iconst 4, 1) := by decide +kernel
theorem dL_step_412 : decode cL_step 412 = .ok (.iadd, 1) := by decide +kernel
theorem dL_step_413 : decode cL_step 413 = .ok (.iaload, 1) := by decide +kernel
theorem dL_step_414 : decode cL_step 414 = .ok (.iadd, 1) := by decide +kernel
theorem dL_step_415 : decode cL_step 415 = .ok (.iastore, 1) := by decide +kernel
theorem dL_step_416 : decode cL_step 416 = .ok (.aload_n 1, 1) := by decide +kernel
theorem dL_step_417 : decode cL_step 417 = .ok (.bipush 6, 2) := by decide +kernel
theorem dL_step_419 : decode cL_step 419 = .ok (.aload 4, 2) := by decide +kernel
theorem dL_step_421 : decode cL_step 421 = .ok (.iconst 5, 1) := by decide +kernel
theorem dL_step_422 : decode cL_step 422 = .ok (.iload 6, 2) := by decide +kernel
theorem dL_step_424 : decode cL_step 424 = .ok (.imul, 1) := by decide +kernel
theorem dL_step_425 : decode cL_step 425 = .ok (.iconst 2, 1) := by decide +kernel
theorem dL_step_426 : decode cL_step 426 = .ok (.iadd, 1) := by decide +kernel
theorem dL_step_427 : decode cL_step 427 = .ok (.iaload, 1) := by decide +kernel
theorem dL_step_428 : decode cL_step 428 = .ok (.imul, 1) := by decide +kernel
theorem dL_step_429 : decode cL_step 429 = .ok (.iconst 4, 1) := by decide +kernel
theorem dL_step_430 : decode cL_step 430 = .ok (.iadd, 1) := by decide +kernel
theorem dL_step_431 : decode cL_step 431 = .ok (.dup2, 1) := by decide +kernel
theorem dL_step_432 : decode cL_step 432 = .ok (.iaload, 1) := by decide +kernel
theorem dL_step_433 : decode cL_step 433 = .ok (.aload 4, 2) := by decide +kernel
theorem dL_step_435 : decode cL_step 435 = .ok (.iconst 5, 1) := by decide +kernel
theorem dL_step_436 : decode cL_step 436 = .ok (.iload 6, 2) := by decide +kernel
theorem dL_step_438 : decode cL_step 438 = .ok (.imul, 1) := by decide +kernel
theorem dL_step_439 : decode cL_step 439 = .ok (.iconst 4, 1) := by decide +kernel
theorem dL_step_440 : decode cL_step 440 = .ok (.iadd, 1) := by decide +kernel
theorem dL_step_441 : decode cL_step 441 = .ok (.iaload, 1) := by decide +kernel
theorem dL_step_442 : decode cL_step 442 = .ok (.iadd, 1) := by decide +kernel
theorem dL_step_443 : decode cL_step 443 = .ok (.iastore, 1) := by decide +kernel
theorem dL_step_444 : decode cL_step 444 = .ok (.iload 7, 2) := by decide +kernel
theorem dL_step_446 : decode cL_step 446 = .ok (.ifCond .eq 14, 3) := by decide +kernel
theorem dL_step_449 : decode cL_step 449 = .ok (.iload 8, 2) := by decide +kernel
theorem dL_step_451 : decode cL_step 451 = .ok (.aload_n 0, 1) := by decide +kernel
theorem dL_step_452 : decode cL_step 452 = .ok (.iconst 3, 1) := by decide +kernel
theorem dL_step_453 : decode cL_step 453 = .ok (.iaload, 1) := by decide +kernel
theorem dL_step_454 : decode cL_step 454 = .ok (.if_icmp .ne 27, 3) := by decide +kernel
theorem dL_step_457 : decode cL_step 457 = .ok (.goto 16, 3) := by decide +kernel
theorem dL_step_460 : decode cL_step 460 = .ok (.aload 4, 2) := by decide +kernel
theorem dL_step_462 : decode cL_step 462 = .ok (.iconst 5, 1) := by decide +kernel
theorem dL_step_463 : decode cL_step 463 = .ok (.iload 6, 2) := by decide +kernel
theorem dL_step_465 : decode cL_step 465 = .ok (.imul, 1) := by decide +kernel
