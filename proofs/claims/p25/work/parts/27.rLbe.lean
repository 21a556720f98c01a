theorem dL_texts_292 : decode cL_texts 292 = .ok (.iconst 0, 1) := by decide +kernel
theorem dL_texts_293 : decode cL_texts 293 = .ok (.invokevirtual 19, 3) := by decide +kernel
theorem dL_texts_296 : decode cL_texts 296 = .ok (.iconst (-1), 1) := by decide +kernel
theorem dL_texts_297 : decode cL_texts 297 = .ok (.if_icmp .ne 91, 3) := by decide +kernel
theorem dL_texts_300 : decode cL_texts 300 = .ok (.aload_n 0, 1) := by decide +kernel
theorem dL_texts_301 : decode cL_texts 301 = .ok (.iconst 0, 1) := by decide +kernel
theorem dL_texts_302 : decode cL_texts 302 = .ok (.iconst 0, 1) := by decide +kernel
theorem dL_texts_303 : decode cL_texts 303 = .ok (.invokevirtual 19, 3) := by decide +kernel
theorem dL_texts_306 : decode cL_texts 306 = .ok (.sipush 128, 3) := by decide +kernel
theorem dL_texts_309 : decode cL_texts 309 = .ok (.if_icmp .ne 79, 3) := by decide +kernel
theorem dL_texts_312 : decode cL_texts 312 = .ok (.aload_n 0, 1) := by decide +kernel
theorem dL_texts_313 : decode cL_texts 313 = .ok (.iconst 0, 1) := by decide +kernel
theorem dL_texts_314 : decode cL_texts 314 = .ok (.iconst 3, 1) := by decide +kernel
theorem dL_texts_315 : decode cL_texts 315 = .ok (.invokevirtual 19, 3) := by decide +kernel
theorem dL_texts_318 : decode cL_texts 318 = .ok (.bipush 33, 2) := by decide +kernel
theorem dL_texts_320 : decode cL_texts 320 = .ok (.if_icmp .ne 68, 3) := by decide +kernel
theorem dL_texts_323 : decode cL_texts 323 = .ok (.aload_n 0, 1) := by decide +kernel
theorem dL_texts_324 : decode cL_texts 324 = .ok (.iconst 2, 1) := by decide +kernel
theorem dL_texts_325 : decode cL_texts 325 = .ok (.iconst 0, 1) := by decide +kernel
theorem dL_texts_326 : decode cL_texts 326 = .ok (.invokevirtual 19, 3) := by decide +kernel
theorem dL_texts_329 : decode cL_texts 329 = .ok (.sipush 254, 3) := by decide +kernel
theorem dL_texts_332 : decode cL_texts 332 = .ok (.if_icmp .ne 56, 3) := by decide +kernel
theorem dL_texts_335 : decode cL_texts 335 = .ok (.aload_n 0, 1) := by decide +kernel
theorem dL_texts_336 : decode cL_texts 336 = .ok (.iconst 2, 1) := by decide +kernel
theorem dL_texts_337 : decode cL_texts 337 = .ok (.iconst 3, 1) := by decide +kernel
theorem dL_texts_338 : decode cL_texts 338 = .ok (.invokevirtual 19, 3) := by decide +kernel
theorem dL_texts_341 : decode cL_texts 341 = .ok (.bipush 32, 2) := by decide +kernel
theorem dL_texts_343 : decode cL_texts 343 = .ok (.if_icmp .ne 45, 3) := by decide +kernel
theorem dL_texts_346 : decode cL_texts 346 = .ok (.aload_n 0, 1) := by decide +kernel
theorem dL_texts_347 : decode cL_texts 347 = .ok (.iconst 2, 1) := by decide +kernel
theorem dL_texts_348 : decode cL_texts 348 = .ok (.invokevirtual 56, 3) := by decide +kernel
theorem dL_texts_351 : decode cL_texts 351 = .ok (.sipush 160, 3) := by decide +kernel
theorem dL_texts_354 : decode cL_texts 354 = .ok (.if_icmp .ne 34, 3) := by decide +kernel
theorem dL_texts_357 : decode cL_texts 357 = .ok (.aload_n 0, 1) := by decide +kernel
theorem dL_texts_358 : decode cL_texts 358 = .ok (.bipush 10, 2) := by decide +kernel
theorem dL_texts_360 : decode cL_texts 360 = .ok (.invokevirtual 13, 3) := by decide +kernel
theorem dL_texts_363 : decode cL_texts 363 = .ok (.bipush 23, 2) := by decide +kernel
theorem dL_texts_365 : decode cL_texts 365 = .ok (.if_icmp .ne 23, 3) := by decide +kernel
theorem dL_texts_368 : decode cL_texts 368 = .ok (.aload_n 0, 1) := by decide +kernel
theorem dL_texts_369 : decode cL_texts 369 = .ok (.invokevirtual 74, 3) := by decide +kernel
theorem dL_texts_372 : decode cL_texts 372 = .ok (.iconst 1, 1) := by decide +kernel
theorem dL_texts_373 : decode cL_texts 373 = .ok (.if_icmp .ne 15, 3) := by decide +kernel
theorem dL_texts_376 : decode cL_texts 376 = .ok (.aload_n 0, 1) := by decide +kernel
theorem dL_texts_377 : decode cL_texts 377 = .ok (.bipush 9, 2) := by decide +kernel
theorem dL_texts_379 : decode cL_texts 379 = .ok (.iconst 0, 1) := by decide +kernel
theorem dL_texts_380 : decode cL_texts 380 = .ok (.invokevirtual 19, 3) := by decide +kernel
theorem dL_texts_383 : decode cL_texts 383 = .ok (.bipush 9, 2) := by decide +kernel
theorem dL_texts_385 : decode cL_texts 385 = .ok (.if_icmp .eq 5, 3) := by decide +kernel
theorem dL_texts_388 : decode cL_texts 388 = .ok (.iconst 0, 1) := by decide +kernel
theorem dL_texts_389 : decode cL_texts 389 = .ok (.ireturn, 1) := by decide +kernel
theorem dL_texts_390 : decode cL_texts 390 = .ok (.bipush 23, 2) := by decide +kernel
theorem dL_texts_392 : decode cL_texts 392 = .ok (.istore_n 1, 1) := by decide +kernel
theorem dL_texts_393 : decode cL_texts 393 = .ok (.iload_n 1, 1) := by decide +kernel
theorem dL_texts_394 : decode cL_texts 394 = .ok (.bipush 80, 2) := by decide +kernel
theorem dL_texts_396 : decode cL_texts 396 = .ok (.if_icmp .ge 23, 3) := by decide +kernel
theorem dL_texts_399 : decode cL_texts 399 = .ok (.aload_n 0, 1) := by decide +kernel
theorem dL_texts_400 : decode cL_texts 400 = .ok (.iload_n 1, 1) := by decide +kernel
theorem dL_texts_401 : decode cL_texts 401 = .ok (.i2c, 1) := by decide +kernel
theorem dL_texts_402 : decode cL_texts 402 = .ok (.invokevirtual 92, 3) := by decide +kernel
theorem dL_texts_405 : decode cL_texts 405 = .ok (.iload_n 1, 1) := by decide +kernel
theorem dL_texts_406 : decode cL_texts 406 = .ok (.iconst 1, 1) := by decide +kernel
theorem dL_texts_407 : decode cL_texts 407 = .ok (.iadd, 1) := by decide +kernel
theorem dL_texts_408 : decode cL_texts 408 = .ok (.if_icmp .eq 5, 3) := by decide +kernel
theorem dL_texts_411 : decode cL_texts 411 = .ok (.iconst 0, 1) := by decide +kernel
theorem dL_texts_412 : decode cL_texts 412 = .ok (.ireturn, 1) := by decide +kernel
theorem dL_texts_413 : decode cL_texts 413 = .ok (.iinc 1 1, 3) := by decide +kernel
theorem dL_texts_416 : decode cL_texts 416 = .ok (.goto (-23), 3) := by decide +kernel
theorem dL_texts_419 : decode cL_texts 419 = .ok (.aload_n 0, 1) := by decide +kernel
theorem dL_texts_420 : decode cL_texts 420 = .ok (.bipush 49, 2) := by decide +kernel
theorem dL_texts_422 : decode cL_texts 422 = .ok (.invokevirtual 92, 3) := by decide +kernel
theorem dL_texts_425 : decode cL_texts 425 = .ok (.bipush (-6), 2) := by decide +kernel
theorem dL_texts_427 : decode cL_texts 427 = .ok (.if_icmp .ne 43, 3) := by decide +kernel
theorem dL_texts_430 : decode cL_texts 430 = .ok (.aload_n 0, 1) := by decide +kernel
theorem dL_texts_431 : decode cL_texts 431 = .ok (.invokevirtual 100, 3) := by decide +kernel
theorem dL_texts_434 : decode cL_texts 434 = .ok (.bipush (-123), 2) := by decide +kernel
theorem dL_texts_436 : decode cL_texts 436 = .ok (.if_icmp .ne 34, 3) := by decide +kernel
theorem dL_texts_439 : decode cL_texts 439 = .ok (.aload_n 0, 1) := by decide +kernel
theorem dL_texts_440 : decode cL_texts 440 = .ok (.invokevirtual 153, 3) := by decide +kernel
theorem dL_texts_443 : decode cL_texts 443 = .ok (.bipush 80, 2) := by decide +kernel
theorem dL_texts_445 : decode cL_texts 445 = .ok (.if_icmp .ne 25, 3) := by decide +kernel
