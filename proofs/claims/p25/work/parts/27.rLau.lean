theorem dL_two_308 : decode cL_two 308 = .ok (.aload_n 0, 1) := by decide +kernel
theorem dL_two_309 : decode cL_two 309 = .ok (.iconst 0, 1) := by decide +kernel
theorem dL_two_310 : decode cL_two 310 = .ok (.iconst 1, 1) := by decide +kernel
theorem dL_two_311 : decode cL_two 311 = .ok (.invokevirtual 53, 3) := by decide +kernel
theorem dL_two_314 : decode cL_two 314 = .ok (.ifCond .ne 152, 3) := by decide +kernel
theorem dL_two_317 : decode cL_two 317 = .ok (.aload_n 0, 1) := by decide +kernel
theorem dL_two_318 : decode cL_two 318 = .ok (.iconst 2, 1) := by decide +kernel
theorem dL_two_319 : decode cL_two 319 = .ok (.iconst 3, 1) := by decide +kernel
theorem dL_two_320 : decode cL_two 320 = .ok (.invokevirtual 53, 3) := by decide +kernel
theorem dL_two_323 : decode cL_two 323 = .ok (.iconst 1, 1) := by decide +kernel
theorem dL_two_324 : decode cL_two 324 = .ok (.if_icmp .ne 142, 3) := by decide +kernel
theorem dL_two_327 : decode cL_two 327 = .ok (.aload_n 0, 1) := by decide +kernel
theorem dL_two_328 : decode cL_two 328 = .ok (.iconst 2, 1) := by decide +kernel
theorem dL_two_329 : decode cL_two 329 = .ok (.iconst 0, 1) := by decide +kernel
theorem dL_two_330 : decode cL_two 330 = .ok (.invokevirtual 53, 3) := by decide +kernel
theorem dL_two_333 : decode cL_two 333 = .ok (.ifCond .ne 133, 3) := by decide +kernel
theorem dL_two_336 : decode cL_two 336 = .ok (.aload_n 0, 1) := by decide +kernel
theorem dL_two_337 : decode cL_two 337 = .ok (.iconst 2, 1) := by decide +kernel
theorem dL_two_338 : decode cL_two 338 = .ok (.bipush 16, 2) := by decide +kernel
theorem dL_two_340 : decode cL_two 340 = .ok (.invokevirtual 53, 3) := by decide +kernel
theorem dL_two_343 : decode cL_two 343 = .ok (.iconst 1, 1) := by decide +kernel
theorem dL_two_344 : decode cL_two 344 = .ok (.if_icmp .ne 122, 3) := by decide +kernel
theorem dL_two_347 : decode cL_two 347 = .ok (.aload_n 0, 1) := by decide +kernel
theorem dL_two_348 : decode cL_two 348 = .ok (.iconst 0, 1) := by decide +kernel
theorem dL_two_349 : decode cL_two 349 = .ok (.invokevirtual 56, 3) := by decide +kernel
theorem dL_two_352 : decode cL_two 352 = .ok (.bipush 64, 2) := by decide +kernel
theorem dL_two_354 : decode cL_two 354 = .ok (.if_icmp .ne 112, 3) := by decide +kernel
theorem dL_two_357 : decode cL_two 357 = .ok (.aload_n 0, 1) := by decide +kernel
theorem dL_two_358 : decode cL_two 358 = .ok (.iconst 2, 1) := by decide +kernel
theorem dL_two_359 : decode cL_two 359 = .ok (.invokevirtual 56, 3) := by decide +kernel
theorem dL_two_362 : decode cL_two 362 = .ok (.sipush 160, 3) := by decide +kernel
theorem dL_two_365 : decode cL_two 365 = .ok (.if_icmp .ne 101, 3) := by decide +kernel
theorem dL_two_368 : decode cL_two 368 = .ok (.aload_n 0, 1) := by decide +kernel
theorem dL_two_369 : decode cL_two 369 = .ok (.iconst 0, 1) := by decide +kernel
theorem dL_two_370 : decode cL_two 370 = .ok (.iconst 4, 1) := by decide +kernel
theorem dL_two_371 : decode cL_two 371 = .ok (.invokevirtual 19, 3) := by decide +kernel
theorem dL_two_374 : decode cL_two 374 = .ok (.iconst 1, 1) := by decide +kernel
theorem dL_two_375 : decode cL_two 375 = .ok (.if_icmp .ne 91, 3) := by decide +kernel
theorem dL_two_378 : decode cL_two 378 = .ok (.aload_n 0, 1) := by decide +kernel
theorem dL_two_379 : decode cL_two 379 = .ok (.iconst 2, 1) := by decide +kernel
theorem dL_two_380 : decode cL_two 380 = .ok (.iconst 4, 1) := by decide +kernel
theorem dL_two_381 : decode cL_two 381 = .ok (.invokevirtual 19, 3) := by decide +kernel
theorem dL_two_384 : decode cL_two 384 = .ok (.iconst 2, 1) := by decide +kernel
theorem dL_two_385 : decode cL_two 385 = .ok (.if_icmp .ne 81, 3) := by decide +kernel
theorem dL_two_388 : decode cL_two 388 = .ok (.aload_n 0, 1) := by decide +kernel
theorem dL_two_389 : decode cL_two 389 = .ok (.bipush 6, 2) := by decide +kernel
theorem dL_two_391 : decode cL_two 391 = .ok (.invokevirtual 13, 3) := by decide +kernel
theorem dL_two_394 : decode cL_two 394 = .ok (.iconst 2, 1) := by decide +kernel
theorem dL_two_395 : decode cL_two 395 = .ok (.if_icmp .ne 71, 3) := by decide +kernel
theorem dL_two_398 : decode cL_two 398 = .ok (.aload_n 0, 1) := by decide +kernel
theorem dL_two_399 : decode cL_two 399 = .ok (.iconst 5, 1) := by decide +kernel
theorem dL_two_400 : decode cL_two 400 = .ok (.invokevirtual 13, 3) := by decide +kernel
theorem dL_two_403 : decode cL_two 403 = .ok (.ifCond .ne 63, 3) := by decide +kernel
theorem dL_two_406 : decode cL_two 406 = .ok (.aload_n 0, 1) := by decide +kernel
theorem dL_two_407 : decode cL_two 407 = .ok (.iconst 0, 1) := by decide +kernel
theorem dL_two_408 : decode cL_two 408 = .ok (.iconst 5, 1) := by decide +kernel
theorem dL_two_409 : decode cL_two 409 = .ok (.invokevirtual 19, 3) := by decide +kernel
theorem dL_two_412 : decode cL_two 412 = .ok (.iconst 1, 1) := by decide +kernel
theorem dL_two_413 : decode cL_two 413 = .ok (.if_icmp .ne 53, 3) := by decide +kernel
theorem dL_two_416 : decode cL_two 416 = .ok (.aload_n 0, 1) := by decide +kernel
theorem dL_two_417 : decode cL_two 417 = .ok (.iconst 2, 1) := by decide +kernel
theorem dL_two_418 : decode cL_two 418 = .ok (.iconst 5, 1) := by decide +kernel
theorem dL_two_419 : decode cL_two 419 = .ok (.invokevirtual 19, 3) := by decide +kernel
theorem dL_two_422 : decode cL_two 422 = .ok (.ifCond .ne 44, 3) := by decide +kernel
theorem dL_two_425 : decode cL_two 425 = .ok (.aload_n 0, 1) := by decide +kernel
theorem dL_two_426 : decode cL_two 426 = .ok (.iconst 2, 1) := by decide +kernel
theorem dL_two_427 : decode cL_two 427 = .ok (.bipush 6, 2) := by decide +kernel
theorem dL_two_429 : decode cL_two 429 = .ok (.invokevirtual 19, 3) := by decide +kernel
theorem dL_two_432 : decode cL_two 432 = .ok (.iconst 5, 1) := by decide +kernel
theorem dL_two_433 : decode cL_two 433 = .ok (.if_icmp .ne 33, 3) := by decide +kernel
theorem dL_two_436 : decode cL_two 436 = .ok (.aload_n 0, 1) := by decide +kernel
theorem dL_two_437 : decode cL_two 437 = .ok (.iconst 0, 1) := by decide +kernel
theorem dL_two_438 : decode cL_two 438 = .ok (.invokevirtual 35, 3) := by decide +kernel
theorem dL_two_441 : decode cL_two 441 = .ok (.bipush (-4), 2) := by decide +kernel
theorem dL_two_443 : decode cL_two 443 = .ok (.if_icmp .ne 23, 3) := by decide +kernel
theorem dL_two_446 : decode cL_two 446 = .ok (.aload_n 0, 1) := by decide +kernel
theorem dL_two_447 : decode cL_two 447 = .ok (.iconst 0, 1) := by decide +kernel
theorem dL_two_448 : decode cL_two 448 = .ok (.iconst 2, 1) := by decide +kernel
theorem dL_two_449 : decode cL_two 449 = .ok (.bipush 7, 2) := by decide +kernel
theorem dL_two_451 : decode cL_two 451 = .ok (.invokevirtual 41, 3) := by decide +kernel
