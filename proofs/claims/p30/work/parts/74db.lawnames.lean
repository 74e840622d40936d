/-! THE LAW: instructions and calls (of claim/NAMES.whole.lean.txt) -/
theorem dL_acts_231 : decode cL_acts 231 = .ok (.iaload, 1) := by decide +kernel
theorem dL_acts_232 : decode cL_acts 232 = .ok (.iconst 1, 1) := by decide +kernel
theorem dL_acts_233 : decode cL_acts 233 = .ok (.iadd, 1) := by decide +kernel
theorem dL_acts_234 : decode cL_acts 234 = .ok (.irem, 1) := by decide +kernel
theorem dL_acts_235 : decode cL_acts 235 = .ok (.aload_n 1, 1) := by decide +kernel
theorem dL_acts_236 : decode cL_acts 236 = .ok (.iconst 0, 1) := by decide +kernel
theorem dL_acts_237 : decode cL_acts 237 = .ok (.iaload, 1) := by decide +kernel
theorem dL_acts_238 : decode cL_acts 238 = .ok (.if_icmp .ne 8, 3) := by decide +kernel
theorem dL_acts_241 : decode cL_acts 241 = .ok (.bipush 8, 2) := by decide +kernel
theorem dL_acts_243 : decode cL_acts 243 = .ok (.goto 13, 3) := by decide +kernel
theorem dL_acts_246 : decode cL_acts 246 = .ok (.iload 8, 2) := by decide +kernel
theorem dL_acts_248 : decode cL_acts 248 = .ok (.iconst 4, 1) := by decide +kernel
theorem dL_acts_249 : decode cL_acts 249 = .ok (.idiv, 1) := by decide +kernel
theorem dL_acts_250 : decode cL_acts 250 = .ok (.aload_n 1, 1) := by decide +kernel
theorem dL_acts_251 : decode cL_acts 251 = .ok (.iconst 0, 1) := by decide +kernel
theorem dL_acts_252 : decode cL_acts 252 = .ok (.iaload, 1) := by decide +kernel
theorem dL_acts_253 : decode cL_acts 253 = .ok (.iconst 1, 1) := by decide +kernel
theorem dL_acts_254 : decode cL_acts 254 = .ok (.iadd, 1) := by decide +kernel
theorem dL_acts_255 : decode cL_acts 255 = .ok (.irem, 1) := by decide +kernel
theorem dL_acts_256 : decode cL_acts 256 = .ok (.istore 11, 2) := by decide +kernel
theorem dL_acts_258 : decode cL_acts 258 = .ok (.iconst 1, 1) := by decide +kernel
theorem dL_acts_259 : decode cL_acts 259 = .ok (.iload 8, 2) := by decide +kernel
theorem dL_acts_261 : decode cL_acts 261 = .ok (.bipush 20, 2) := by decide +kernel
theorem dL_acts_263 : decode cL_acts 263 = .ok (.idiv, 1) := by decide +kernel
theorem dL_acts_264 : decode cL_acts 264 = .ok (.iload 8, 2) := by decide +kernel
theorem dL_acts_266 : decode cL_acts 266 = .ok (.iconst 5, 1) := by decide +kernel
theorem dL_acts_267 : decode cL_acts 267 = .ok (.irem, 1) := by decide +kernel
theorem dL_acts_268 : decode cL_acts 268 = .ok (.ifCond .ne 9, 3) := by decide +kernel
theorem dL_acts_271 : decode cL_acts 271 = .ok (.sipush 1000, 3) := by decide +kernel
theorem dL_acts_274 : decode cL_acts 274 = .ok (.goto 5, 3) := by decide +kernel
theorem dL_acts_277 : decode cL_acts 277 = .ok (.bipush 20, 2) := by decide +kernel
theorem dL_acts_279 : decode cL_acts 279 = .ok (.irem, 1) := by decide +kernel
theorem dL_acts_280 : decode cL_acts 280 = .ok (.iadd, 1) := by decide +kernel
theorem dL_acts_281 : decode cL_acts 281 = .ok (.istore 12, 2) := by decide +kernel
theorem dL_acts_283 : decode cL_acts 283 = .ok (.bipush 9, 2) := by decide +kernel
theorem dL_acts_285 : decode cL_acts 285 = .ok (.newarray .int, 2) := by decide +kernel
theorem dL_acts_287 : decode cL_acts 287 = .ok (.astore 13, 2) := by decide +kernel
theorem dL_acts_289 : decode cL_acts 289 = .ok (.iconst 0, 1) := by decide +kernel
theorem dL_acts_290 : decode cL_acts 290 = .ok (.istore 14, 2) := by decide +kernel
theorem dL_acts_292 : decode cL_acts 292 = .ok (.iload 14, 2) := by decide +kernel
theorem dL_acts_294 : decode cL_acts 294 = .ok (.aload_n 1, 1) := by decide +kernel
theorem dL_acts_295 : decode cL_acts 295 = .ok (.iconst 1, 1) := by decide +kernel
theorem dL_acts_296 : decode cL_acts 296 = .ok (.iaload, 1) := by decide +kernel
theorem dL_acts_297 : decode cL_acts 297 = .ok (.if_icmp .ge 55, 3) := by decide +kernel
theorem dL_acts_300 : decode cL_acts 300 = .ok (.aload 13, 2) := by decide +kernel
theorem dL_acts_302 : decode cL_acts 302 = .ok (.aload_n 3, 1) := by decide +kernel
theorem dL_acts_303 : decode cL_acts 303 = .ok (.bipush 10, 2) := by decide +kernel
theorem dL_acts_305 : decode cL_acts 305 = .ok (.iload 14, 2) := by decide +kernel
theorem dL_acts_307 : decode cL_acts 307 = .ok (.imul, 1) := by decide +kernel
theorem dL_acts_308 : decode cL_acts 308 = .ok (.iaload, 1) := by decide +kernel
theorem dL_acts_309 : decode cL_acts 309 = .ok (.dup2, 1) := by decide +kernel
theorem dL_acts_310 : decode cL_acts 310 = .ok (.iaload, 1) := by decide +kernel
theorem dL_acts_311 : decode cL_acts 311 = .ok (.aload_n 3, 1) := by decide +kernel
theorem dL_acts_312 : decode cL_acts 312 = .ok (.bipush 10, 2) := by decide +kernel
theorem dL_acts_314 : decode cL_acts 314 = .ok (.iload 14, 2) := by decide +kernel
theorem dL_acts_316 : decode cL_acts 316 = .ok (.imul, 1) := by decide +kernel
theorem dL_acts_317 : decode cL_acts 317 = .ok (.iconst 2, 1) := by decide +kernel
theorem dL_acts_318 : decode cL_acts 318 = .ok (.iadd, 1) := by decide +kernel
theorem dL_acts_319 : decode cL_acts 319 = .ok (.iaload, 1) := by decide +kernel
theorem dL_acts_320 : decode cL_acts 320 = .ok (.iadd, 1) := by decide +kernel
theorem dL_acts_321 : decode cL_acts 321 = .ok (.iastore, 1) := by decide +kernel
theorem dL_acts_322 : decode cL_acts 322 = .ok (.aload 13, 2) := by decide +kernel
theorem dL_acts_324 : decode cL_acts 324 = .ok (.aload_n 3, 1) := by decide +kernel
theorem dL_acts_325 : decode cL_acts 325 = .ok (.bipush 10, 2) := by decide +kernel
theorem dL_acts_327 : decode cL_acts 327 = .ok (.iload 14, 2) := by decide +kernel
theorem dL_acts_329 : decode cL_acts 329 = .ok (.imul, 1) := by decide +kernel
theorem dL_acts_330 : decode cL_acts 330 = .ok (.iconst 1, 1) := by decide +kernel
theorem dL_acts_331 : decode cL_acts 331 = .ok (.iadd, 1) := by decide +kernel
theorem dL_acts_332 : decode cL_acts 332 = .ok (.iaload, 1) := by decide +kernel
theorem dL_acts_333 : decode cL_acts 333 = .ok (.dup2, 1) := by decide +kernel
theorem dL_acts_334 : decode cL_acts 334 = .ok (.iaload, 1) := by decide +kernel
theorem dL_acts_335 : decode cL_acts 335 = .ok (.aload_n 3, 1) := by decide +kernel
theorem dL_acts_336 : decode cL_acts 336 = .ok (.bipush 10, 2) := by decide +kernel
theorem dL_acts_338 : decode cL_acts 338 = .ok (.iload 14, 2) := by decide +kernel
theorem dL_acts_340 : decode cL_acts 340 = .ok (.imul, 1) := by decide +kernel
theorem dL_acts_341 : decode cL_acts 341 = .ok (.iconst 2, 1) := by decide +kernel
theorem dL_acts_342 : decode cL_acts 342 = .ok (.iadd, 1) := by decide +kernel
theorem dL_acts_343 : decode cL_acts 343 = .ok (.iaload, 1) := by decide +kernel
theorem dL_acts_344 : decode cL_acts 344 = .ok (.iadd, 1) := by decide +kernel
theorem dL_acts_345 : decode cL_acts 345 = .ok (.iastore, 1) := by decide +kernel
theorem dL_acts_346 : decode cL_acts 346 = .ok (.iinc 14 1, 3) := by decide +kernel
theorem dL_acts_349 : decode cL_acts 349 = .ok (.goto (-57), 3) := by decide +kernel
theorem dL_acts_352 : decode cL_acts 352 = .ok (.iload 10, 2) := by decide +kernel
theorem dL_acts_354 : decode cL_acts 354 = .ok (.iload 11, 2) := by decide +kernel
theorem dL_acts_356 : decode cL_acts 356 = .ok (.if_icmp .ne 25, 3) := by decide +kernel
theorem dL_acts_359 : decode cL_acts 359 = .ok (.aload_n 0, 1) := by decide +kernel
theorem dL_acts_360 : decode cL_acts 360 = .ok (.iload 10, 2) := by decide +kernel
theorem dL_acts_362 : decode cL_acts 362 = .ok (.iload 11, 2) := by decide +kernel
theorem dL_acts_364 : decode cL_acts 364 = .ok (.iload 12, 2) := by decide +kernel
theorem dL_acts_366 : decode cL_acts 366 = .ok (.iconst 1, 1) := by decide +kernel
theorem dL_acts_367 : decode cL_acts 367 = .ok (.iconst 0, 1) := by decide +kernel
theorem dL_acts_368 : decode cL_acts 368 = .ok (.invokevirtual 35, 3) := by decide +kernel
theorem dL_acts_371 : decode cL_acts 371 = .ok (.iconst (-1), 1) := by decide +kernel
theorem dL_acts_372 : decode cL_acts 372 = .ok (.if_icmp .ne 7, 3) := by decide +kernel
theorem dL_acts_375 : decode cL_acts 375 = .ok (.iconst 1, 1) := by decide +kernel
theorem dL_acts_376 : decode cL_acts 376 = .ok (.goto 4, 3) := by decide +kernel
theorem dL_acts_379 : decode cL_acts 379 = .ok (.iconst 0, 1) := by decide +kernel
theorem dL_acts_380 : decode cL_acts 380 = .ok (.ireturn, 1) := by decide +kernel
theorem dL_acts_381 : decode cL_acts 381 = .ok (.aload 13, 2) := by decide +kernel
theorem dL_acts_383 : decode cL_acts 383 = .ok (.iload 10, 2) := by decide +kernel
theorem dL_acts_385 : decode cL_acts 385 = .ok (.iaload, 1) := by decide +kernel
theorem dL_acts_386 : decode cL_acts 386 = .ok (.iload 12, 2) := by decide +kernel
theorem dL_acts_388 : decode cL_acts 388 = .ok (.iadd, 1) := by decide +kernel
theorem dL_acts_389 : decode cL_acts 389 = .ok (.aload_n 2, 1) := by decide +kernel
theorem dL_acts_390 : decode cL_acts 390 = .ok (.bipush 6, 2) := by decide +kernel
theorem dL_acts_392 : decode cL_acts 392 = .ok (.iload 10, 2) := by decide +kernel
theorem dL_acts_394 : decode cL_acts 394 = .ok (.imul, 1) := by decide +kernel
theorem dL_acts_395 : decode cL_acts 395 = .ok (.iaload, 1) := by decide +kernel
theorem dL_acts_396 : decode cL_acts 396 = .ok (.if_icmp .gt 28, 3) := by decide +kernel
theorem dL_acts_399 : decode cL_acts 399 = .ok (.iload 11, 2) := by decide +kernel
theorem dL_acts_401 : decode cL_acts 401 = .ok (.bipush 8, 2) := by decide +kernel
theorem dL_acts_403 : decode cL_acts 403 = .ok (.if_icmp .ge 44, 3) := by decide +kernel
theorem dL_acts_406 : decode cL_acts 406 = .ok (.aload 13, 2) := by decide +kernel
theorem dL_acts_408 : decode cL_acts 408 = .ok (.iload 11, 2) := by decide +kernel
theorem dL_acts_410 : decode cL_acts 410 = .ok (.iaload, 1) := by decide +kernel
theorem dL_acts_411 : decode cL_acts 411 = .ok (.iload 12, 2) := by decide +kernel
theorem dL_acts_413 : decode cL_acts 413 = .ok (.iadd, 1) := by decide +kernel
theorem dL_acts_414 : decode cL_acts 414 = .ok (.aload_n 2, 1) := by decide +kernel
theorem dL_acts_415 : decode cL_acts 415 = .ok (.bipush 6, 2) := by decide +kernel
theorem dL_acts_417 : decode cL_acts 417 = .ok (.iload 11, 2) := by decide +kernel
theorem dL_acts_419 : decode cL_acts 419 = .ok (.imul, 1) := by decide +kernel
theorem dL_acts_420 : decode cL_acts 420 = .ok (.iaload, 1) := by decide +kernel
theorem dL_acts_421 : decode cL_acts 421 = .ok (.if_icmp .le 26, 3) := by decide +kernel
theorem dL_acts_424 : decode cL_acts 424 = .ok (.aload_n 0, 1) := by decide +kernel
theorem dL_acts_425 : decode cL_acts 425 = .ok (.iload 10, 2) := by decide +kernel
theorem dL_acts_427 : decode cL_acts 427 = .ok (.iload 11, 2) := by decide +kernel
theorem dL_acts_429 : decode cL_acts 429 = .ok (.iload 12, 2) := by decide +kernel
theorem dL_acts_431 : decode cL_acts 431 = .ok (.iconst 1, 1) := by decide +kernel
theorem dL_acts_432 : decode cL_acts 432 = .ok (.iconst 0, 1) := by decide +kernel
theorem dL_acts_433 : decode cL_acts 433 = .ok (.invokevirtual 35, 3) := by decide +kernel
theorem dL_acts_436 : decode cL_acts 436 = .ok (.bipush (-2), 2) := by decide +kernel
theorem dL_acts_438 : decode cL_acts 438 = .ok (.if_icmp .ne 7, 3) := by decide +kernel
theorem dL_acts_441 : decode cL_acts 441 = .ok (.iconst 1, 1) := by decide +kernel
theorem dL_acts_442 : decode cL_acts 442 = .ok (.goto 4, 3) := by decide +kernel
theorem dL_acts_445 : decode cL_acts 445 = .ok (.iconst 0, 1) := by decide +kernel
theorem dL_acts_446 : decode cL_acts 446 = .ok (.ireturn, 1) := by decide +kernel
theorem dL_acts_447 : decode cL_acts 447 = .ok (.aload_n 1, 1) := by decide +kernel
theorem dL_acts_448 : decode cL_acts 448 = .ok (.iconst 1, 1) := by decide +kernel
theorem dL_acts_449 : decode cL_acts 449 = .ok (.iaload, 1) := by decide +kernel
theorem dL_acts_450 : decode cL_acts 450 = .ok (.iconst 4, 1) := by decide +kernel
theorem dL_acts_451 : decode cL_acts 451 = .ok (.if_icmp .ne 42, 3) := by decide +kernel
theorem dL_acts_454 : decode cL_acts 454 = .ok (.aload_n 0, 1) := by decide +kernel
theorem dL_acts_455 : decode cL_acts 455 = .ok (.iload 10, 2) := by decide +kernel
theorem dL_acts_457 : decode cL_acts 457 = .ok (.iload 11, 2) := by decide +kernel
theorem dL_acts_459 : decode cL_acts 459 = .ok (.iload 12, 2) := by decide +kernel
theorem dL_acts_461 : decode cL_acts 461 = .ok (.iconst 0, 1) := by decide +kernel
theorem dL_acts_462 : decode cL_acts 462 = .ok (.iconst 0, 1) := by decide +kernel
theorem dL_acts_463 : decode cL_acts 463 = .ok (.invokevirtual 35, 3) := by decide +kernel
theorem dL_acts_466 : decode cL_acts 466 = .ok (.iconst (-1), 1) := by decide +kernel
theorem dL_acts_467 : decode cL_acts 467 = .ok (.if_icmp .ne 24, 3) := by decide +kernel
