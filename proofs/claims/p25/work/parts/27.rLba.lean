theorem dL_crowded_352 : decode cL_crowded 352 = .ok (.if_icmp .ne 139, 3) := by decide +kernel
theorem dL_crowded_355 : decode cL_crowded 355 = .ok (.aload_n 0, 1) := by decide +kernel
theorem dL_crowded_356 : decode cL_crowded 356 = .ok (.bipush 8, 2) := by decide +kernel
theorem dL_crowded_358 : decode cL_crowded 358 = .ok (.iconst 0, 1) := by decide +kernel
theorem dL_crowded_359 : decode cL_crowded 359 = .ok (.iconst 1, 1) := by decide +kernel
theorem dL_crowded_360 : decode cL_crowded 360 = .ok (.invokevirtual 26, 3) := by decide +kernel
theorem dL_crowded_363 : decode cL_crowded 363 = .ok (.bipush 6, 2) := by decide +kernel
theorem dL_crowded_365 : decode cL_crowded 365 = .ok (.if_icmp .ne 126, 3) := by decide +kernel
theorem dL_crowded_368 : decode cL_crowded 368 = .ok (.aload_n 0, 1) := by decide +kernel
theorem dL_crowded_369 : decode cL_crowded 369 = .ok (.bipush 8, 2) := by decide +kernel
theorem dL_crowded_371 : decode cL_crowded 371 = .ok (.iconst 0, 1) := by decide +kernel
theorem dL_crowded_372 : decode cL_crowded 372 = .ok (.iconst 2, 1) := by decide +kernel
theorem dL_crowded_373 : decode cL_crowded 373 = .ok (.invokevirtual 26, 3) := by decide +kernel
theorem dL_crowded_376 : decode cL_crowded 376 = .ok (.bipush 7, 2) := by decide +kernel
theorem dL_crowded_378 : decode cL_crowded 378 = .ok (.if_icmp .ne 113, 3) := by decide +kernel
theorem dL_crowded_381 : decode cL_crowded 381 = .ok (.aload_n 0, 1) := by decide +kernel
theorem dL_crowded_382 : decode cL_crowded 382 = .ok (.iconst 0, 1) := by decide +kernel
theorem dL_crowded_383 : decode cL_crowded 383 = .ok (.iconst 1, 1) := by decide +kernel
theorem dL_crowded_384 : decode cL_crowded 384 = .ok (.invokevirtual 23, 3) := by decide +kernel
theorem dL_crowded_387 : decode cL_crowded 387 = .ok (.iconst 3, 1) := by decide +kernel
theorem dL_crowded_388 : decode cL_crowded 388 = .ok (.if_icmp .ne 103, 3) := by decide +kernel
theorem dL_crowded_391 : decode cL_crowded 391 = .ok (.aload_n 0, 1) := by decide +kernel
theorem dL_crowded_392 : decode cL_crowded 392 = .ok (.iconst 1, 1) := by decide +kernel
theorem dL_crowded_393 : decode cL_crowded 393 = .ok (.invokevirtual 47, 3) := by decide +kernel
theorem dL_crowded_396 : decode cL_crowded 396 = .ok (.bipush 12, 2) := by decide +kernel
theorem dL_crowded_398 : decode cL_crowded 398 = .ok (.if_icmp .ne 93, 3) := by decide +kernel
theorem dL_crowded_401 : decode cL_crowded 401 = .ok (.aload_n 0, 1) := by decide +kernel
theorem dL_crowded_402 : decode cL_crowded 402 = .ok (.bipush 8, 2) := by decide +kernel
theorem dL_crowded_404 : decode cL_crowded 404 = .ok (.iconst 0, 1) := by decide +kernel
theorem dL_crowded_405 : decode cL_crowded 405 = .ok (.iconst 1, 1) := by decide +kernel
theorem dL_crowded_406 : decode cL_crowded 406 = .ok (.invokevirtual 26, 3) := by decide +kernel
theorem dL_crowded_409 : decode cL_crowded 409 = .ok (.iconst 1, 1) := by decide +kernel
theorem dL_crowded_410 : decode cL_crowded 410 = .ok (.if_icmp .ne 81, 3) := by decide +kernel
theorem dL_crowded_413 : decode cL_crowded 413 = .ok (.aload_n 0, 1) := by decide +kernel
theorem dL_crowded_414 : decode cL_crowded 414 = .ok (.bipush 8, 2) := by decide +kernel
theorem dL_crowded_416 : decode cL_crowded 416 = .ok (.iconst 0, 1) := by decide +kernel
theorem dL_crowded_417 : decode cL_crowded 417 = .ok (.iconst 2, 1) := by decide +kernel
theorem dL_crowded_418 : decode cL_crowded 418 = .ok (.invokevirtual 26, 3) := by decide +kernel
theorem dL_crowded_421 : decode cL_crowded 421 = .ok (.iconst 2, 1) := by decide +kernel
theorem dL_crowded_422 : decode cL_crowded 422 = .ok (.if_icmp .ne 69, 3) := by decide +kernel
theorem dL_crowded_425 : decode cL_crowded 425 = .ok (.aload_n 0, 1) := by decide +kernel
theorem dL_crowded_426 : decode cL_crowded 426 = .ok (.bipush 8, 2) := by decide +kernel
theorem dL_crowded_428 : decode cL_crowded 428 = .ok (.iconst 1, 1) := by decide +kernel
theorem dL_crowded_429 : decode cL_crowded 429 = .ok (.iconst 2, 1) := by decide +kernel
theorem dL_crowded_430 : decode cL_crowded 430 = .ok (.invokevirtual 26, 3) := by decide +kernel
theorem dL_crowded_433 : decode cL_crowded 433 = .ok (.iconst 2, 1) := by decide +kernel
theorem dL_crowded_434 : decode cL_crowded 434 = .ok (.if_icmp .ne 57, 3) := by decide +kernel
theorem dL_crowded_437 : decode cL_crowded 437 = .ok (.aload_n 0, 1) := by decide +kernel
theorem dL_crowded_438 : decode cL_crowded 438 = .ok (.bipush 7, 2) := by decide +kernel
theorem dL_crowded_440 : decode cL_crowded 440 = .ok (.iconst 0, 1) := by decide +kernel
theorem dL_crowded_441 : decode cL_crowded 441 = .ok (.iconst 1, 1) := by decide +kernel
theorem dL_crowded_442 : decode cL_crowded 442 = .ok (.invokevirtual 26, 3) := by decide +kernel
theorem dL_crowded_445 : decode cL_crowded 445 = .ok (.iconst 1, 1) := by decide +kernel
theorem dL_crowded_446 : decode cL_crowded 446 = .ok (.if_icmp .ne 45, 3) := by decide +kernel
theorem dL_crowded_449 : decode cL_crowded 449 = .ok (.aload_n 0, 1) := by decide +kernel
theorem dL_crowded_450 : decode cL_crowded 450 = .ok (.bipush 7, 2) := by decide +kernel
theorem dL_crowded_452 : decode cL_crowded 452 = .ok (.iconst 1, 1) := by decide +kernel
theorem dL_crowded_453 : decode cL_crowded 453 = .ok (.iconst 1, 1) := by decide +kernel
theorem dL_crowded_454 : decode cL_crowded 454 = .ok (.invokevirtual 26, 3) := by decide +kernel
theorem dL_crowded_457 : decode cL_crowded 457 = .ok (.bipush 6, 2) := by decide +kernel
theorem dL_crowded_459 : decode cL_crowded 459 = .ok (.if_icmp .ne 32, 3) := by decide +kernel
theorem dL_crowded_462 : decode cL_crowded 462 = .ok (.aload_n 0, 1) := by decide +kernel
theorem dL_crowded_463 : decode cL_crowded 463 = .ok (.iconst 2, 1) := by decide +kernel
theorem dL_crowded_464 : decode cL_crowded 464 = .ok (.invokevirtual 47, 3) := by decide +kernel
theorem dL_crowded_467 : decode cL_crowded 467 = .ok (.bipush 12, 2) := by decide +kernel
theorem dL_crowded_469 : decode cL_crowded 469 = .ok (.if_icmp .ne 22, 3) := by decide +kernel
theorem dL_crowded_472 : decode cL_crowded 472 = .ok (.aload_n 0, 1) := by decide +kernel
theorem dL_crowded_473 : decode cL_crowded 473 = .ok (.bipush 7, 2) := by decide +kernel
theorem dL_crowded_475 : decode cL_crowded 475 = .ok (.iconst 2, 1) := by decide +kernel
theorem dL_crowded_476 : decode cL_crowded 476 = .ok (.iconst 1, 1) := by decide +kernel
theorem dL_crowded_477 : decode cL_crowded 477 = .ok (.invokevirtual 26, 3) := by decide +kernel
theorem dL_crowded_480 : decode cL_crowded 480 = .ok (.iconst 1, 1) := by decide +kernel
theorem dL_crowded_481 : decode cL_crowded 481 = .ok (.if_icmp .ne 10, 3) := by decide +kernel
theorem dL_crowded_484 : decode cL_crowded 484 = .ok (.aload_n 0, 1) := by decide +kernel
theorem dL_crowded_485 : decode cL_crowded 485 = .ok (.invokevirtual 81, 3) := by decide +kernel
theorem dL_crowded_488 : decode cL_crowded 488 = .ok (.ifCond .eq 5, 3) := by decide +kernel
theorem dL_crowded_491 : decode cL_crowded 491 = .ok (.iconst 0, 1) := by decide +kernel
theorem dL_crowded_492 : decode cL_crowded 492 = .ok (.ireturn, 1) := by decide +kernel
theorem dL_crowded_493 : decode cL_crowded 493 = .ok (.aload_n 0, 1) := by decide +kernel
theorem dL_crowded_494 : decode cL_crowded 494 = .ok (.bipush 9, 2) := by decide +kernel
