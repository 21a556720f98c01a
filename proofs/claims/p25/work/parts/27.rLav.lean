theorem dL_two_454 : decode cL_two 454 = .ok (.iconst (-1), 1) := by decide +kernel
theorem dL_two_455 : decode cL_two 455 = .ok (.if_icmp .ne 11, 3) := by decide +kernel
theorem dL_two_458 : decode cL_two 458 = .ok (.aload_n 0, 1) := by decide +kernel
theorem dL_two_459 : decode cL_two 459 = .ok (.invokevirtual 87, 3) := by decide +kernel
theorem dL_two_462 : decode cL_two 462 = .ok (.iconst 2, 1) := by decide +kernel
theorem dL_two_463 : decode cL_two 463 = .ok (.if_icmp .eq 5, 3) := by decide +kernel
theorem dL_two_466 : decode cL_two 466 = .ok (.iconst 0, 1) := by decide +kernel
theorem dL_two_467 : decode cL_two 467 = .ok (.ireturn, 1) := by decide +kernel
theorem dL_two_468 : decode cL_two 468 = .ok (.aload_n 0, 1) := by decide +kernel
theorem dL_two_469 : decode cL_two 469 = .ok (.iconst 0, 1) := by decide +kernel
theorem dL_two_470 : decode cL_two 470 = .ok (.iconst 2, 1) := by decide +kernel
theorem dL_two_471 : decode cL_two 471 = .ok (.iconst 2, 1) := by decide +kernel
theorem dL_two_472 : decode cL_two 472 = .ok (.invokevirtual 41, 3) := by decide +kernel
theorem dL_two_475 : decode cL_two 475 = .ok (.iconst 2, 1) := by decide +kernel
theorem dL_two_476 : decode cL_two 476 = .ok (.if_icmp .ne 159, 3) := by decide +kernel
theorem dL_two_479 : decode cL_two 479 = .ok (.aload_n 0, 1) := by decide +kernel
theorem dL_two_480 : decode cL_two 480 = .ok (.iconst 0, 1) := by decide +kernel
theorem dL_two_481 : decode cL_two 481 = .ok (.iconst 1, 1) := by decide +kernel
theorem dL_two_482 : decode cL_two 482 = .ok (.invokevirtual 23, 3) := by decide +kernel
theorem dL_two_485 : decode cL_two 485 = .ok (.iconst 2, 1) := by decide +kernel
theorem dL_two_486 : decode cL_two 486 = .ok (.if_icmp .ne 149, 3) := by decide +kernel
theorem dL_two_489 : decode cL_two 489 = .ok (.aload_n 0, 1) := by decide +kernel
theorem dL_two_490 : decode cL_two 490 = .ok (.iconst 3, 1) := by decide +kernel
theorem dL_two_491 : decode cL_two 491 = .ok (.invokevirtual 13, 3) := by decide +kernel
theorem dL_two_494 : decode cL_two 494 = .ok (.iconst 2, 1) := by decide +kernel
theorem dL_two_495 : decode cL_two 495 = .ok (.if_icmp .ne 140, 3) := by decide +kernel
theorem dL_two_498 : decode cL_two 498 = .ok (.aload_n 0, 1) := by decide +kernel
theorem dL_two_499 : decode cL_two 499 = .ok (.iconst 5, 1) := by decide +kernel
theorem dL_two_500 : decode cL_two 500 = .ok (.invokevirtual 13, 3) := by decide +kernel
theorem dL_two_503 : decode cL_two 503 = .ok (.iconst 2, 1) := by decide +kernel
theorem dL_two_504 : decode cL_two 504 = .ok (.if_icmp .ne 131, 3) := by decide +kernel
theorem dL_two_507 : decode cL_two 507 = .ok (.aload_n 0, 1) := by decide +kernel
theorem dL_two_508 : decode cL_two 508 = .ok (.bipush 6, 2) := by decide +kernel
theorem dL_two_510 : decode cL_two 510 = .ok (.invokevirtual 13, 3) := by decide +kernel
theorem dL_two_513 : decode cL_two 513 = .ok (.ifCond .ne 122, 3) := by decide +kernel
theorem dL_two_516 : decode cL_two 516 = .ok (.aload_n 0, 1) := by decide +kernel
theorem dL_two_517 : decode cL_two 517 = .ok (.iconst 0, 1) := by decide +kernel
theorem dL_two_518 : decode cL_two 518 = .ok (.iconst 3, 1) := by decide +kernel
theorem dL_two_519 : decode cL_two 519 = .ok (.invokevirtual 53, 3) := by decide +kernel
theorem dL_two_522 : decode cL_two 522 = .ok (.bipush (-5), 2) := by decide +kernel
theorem dL_two_524 : decode cL_two 524 = .ok (.if_icmp .ne 111, 3) := by decide +kernel
theorem dL_two_527 : decode cL_two 527 = .ok (.aload_n 0, 1) := by decide +kernel
theorem dL_two_528 : decode cL_two 528 = .ok (.iconst 2, 1) := by decide +kernel
theorem dL_two_529 : decode cL_two 529 = .ok (.iconst 4, 1) := by decide +kernel
theorem dL_two_530 : decode cL_two 530 = .ok (.invokevirtual 19, 3) := by decide +kernel
theorem dL_two_533 : decode cL_two 533 = .ok (.bipush (-5), 2) := by decide +kernel
theorem dL_two_535 : decode cL_two 535 = .ok (.if_icmp .ne 100, 3) := by decide +kernel
theorem dL_two_538 : decode cL_two 538 = .ok (.aload_n 0, 1) := by decide +kernel
theorem dL_two_539 : decode cL_two 539 = .ok (.iconst 2, 1) := by decide +kernel
theorem dL_two_540 : decode cL_two 540 = .ok (.invokevirtual 56, 3) := by decide +kernel
theorem dL_two_543 : decode cL_two 543 = .ok (.bipush (-5), 2) := by decide +kernel
theorem dL_two_545 : decode cL_two 545 = .ok (.if_icmp .ne 90, 3) := by decide +kernel
theorem dL_two_548 : decode cL_two 548 = .ok (.aload_n 0, 1) := by decide +kernel
theorem dL_two_549 : decode cL_two 549 = .ok (.iconst 0, 1) := by decide +kernel
theorem dL_two_550 : decode cL_two 550 = .ok (.iconst 3, 1) := by decide +kernel
theorem dL_two_551 : decode cL_two 551 = .ok (.invokevirtual 19, 3) := by decide +kernel
theorem dL_two_554 : decode cL_two 554 = .ok (.iconst 2, 1) := by decide +kernel
theorem dL_two_555 : decode cL_two 555 = .ok (.if_icmp .ne 80, 3) := by decide +kernel
theorem dL_two_558 : decode cL_two 558 = .ok (.aload_n 0, 1) := by decide +kernel
theorem dL_two_559 : decode cL_two 559 = .ok (.iconst 0, 1) := by decide +kernel
theorem dL_two_560 : decode cL_two 560 = .ok (.iconst 1, 1) := by decide +kernel
theorem dL_two_561 : decode cL_two 561 = .ok (.invokevirtual 50, 3) := by decide +kernel
theorem dL_two_564 : decode cL_two 564 = .ok (.bipush (-4), 2) := by decide +kernel
theorem dL_two_566 : decode cL_two 566 = .ok (.if_icmp .ne 69, 3) := by decide +kernel
theorem dL_two_569 : decode cL_two 569 = .ok (.aload_n 0, 1) := by decide +kernel
theorem dL_two_570 : decode cL_two 570 = .ok (.iconst 2, 1) := by decide +kernel
theorem dL_two_571 : decode cL_two 571 = .ok (.invokevirtual 35, 3) := by decide +kernel
theorem dL_two_574 : decode cL_two 574 = .ok (.bipush (-4), 2) := by decide +kernel
theorem dL_two_576 : decode cL_two 576 = .ok (.if_icmp .ne 59, 3) := by decide +kernel
theorem dL_two_579 : decode cL_two 579 = .ok (.aload_n 0, 1) := by decide +kernel
theorem dL_two_580 : decode cL_two 580 = .ok (.iconst 2, 1) := by decide +kernel
theorem dL_two_581 : decode cL_two 581 = .ok (.iconst 0, 1) := by decide +kernel
theorem dL_two_582 : decode cL_two 582 = .ok (.bipush 32, 2) := by decide +kernel
theorem dL_two_584 : decode cL_two 584 = .ok (.invokevirtual 41, 3) := by decide +kernel
theorem dL_two_587 : decode cL_two 587 = .ok (.ifCond .ne 48, 3) := by decide +kernel
theorem dL_two_590 : decode cL_two 590 = .ok (.aload_n 0, 1) := by decide +kernel
theorem dL_two_591 : decode cL_two 591 = .ok (.iconst 5, 1) := by decide +kernel
theorem dL_two_592 : decode cL_two 592 = .ok (.invokevirtual 13, 3) := by decide +kernel
theorem dL_two_595 : decode cL_two 595 = .ok (.ifCond .ne 40, 3) := by decide +kernel
theorem dL_two_598 : decode cL_two 598 = .ok (.aload_n 0, 1) := by decide +kernel
