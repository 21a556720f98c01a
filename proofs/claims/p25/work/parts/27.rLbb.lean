theorem dL_crowded_496 : decode cL_crowded 496 = .ok (.invokevirtual 13, 3) := by decide +kernel
theorem dL_crowded_499 : decode cL_crowded 499 = .ok (.iconst 4, 1) := by decide +kernel
theorem dL_crowded_500 : decode cL_crowded 500 = .ok (.if_icmp .ne 79, 3) := by decide +kernel
theorem dL_crowded_503 : decode cL_crowded 503 = .ok (.aload_n 0, 1) := by decide +kernel
theorem dL_crowded_504 : decode cL_crowded 504 = .ok (.invokevirtual 74, 3) := by decide +kernel
theorem dL_crowded_507 : decode cL_crowded 507 = .ok (.iconst 3, 1) := by decide +kernel
theorem dL_crowded_508 : decode cL_crowded 508 = .ok (.if_icmp .ne 71, 3) := by decide +kernel
theorem dL_crowded_511 : decode cL_crowded 511 = .ok (.aload_n 0, 1) := by decide +kernel
theorem dL_crowded_512 : decode cL_crowded 512 = .ok (.bipush 8, 2) := by decide +kernel
theorem dL_crowded_514 : decode cL_crowded 514 = .ok (.iconst 0, 1) := by decide +kernel
theorem dL_crowded_515 : decode cL_crowded 515 = .ok (.iconst 1, 1) := by decide +kernel
theorem dL_crowded_516 : decode cL_crowded 516 = .ok (.invokevirtual 26, 3) := by decide +kernel
theorem dL_crowded_519 : decode cL_crowded 519 = .ok (.iconst 1, 1) := by decide +kernel
theorem dL_crowded_520 : decode cL_crowded 520 = .ok (.if_icmp .ne 59, 3) := by decide +kernel
theorem dL_crowded_523 : decode cL_crowded 523 = .ok (.aload_n 0, 1) := by decide +kernel
theorem dL_crowded_524 : decode cL_crowded 524 = .ok (.invokevirtual 74, 3) := by decide +kernel
theorem dL_crowded_527 : decode cL_crowded 527 = .ok (.iconst 2, 1) := by decide +kernel
theorem dL_crowded_528 : decode cL_crowded 528 = .ok (.if_icmp .ne 51, 3) := by decide +kernel
theorem dL_crowded_531 : decode cL_crowded 531 = .ok (.aload_n 0, 1) := by decide +kernel
theorem dL_crowded_532 : decode cL_crowded 532 = .ok (.iconst 0, 1) := by decide +kernel
theorem dL_crowded_533 : decode cL_crowded 533 = .ok (.iconst 1, 1) := by decide +kernel
theorem dL_crowded_534 : decode cL_crowded 534 = .ok (.invokevirtual 23, 3) := by decide +kernel
theorem dL_crowded_537 : decode cL_crowded 537 = .ok (.iconst 3, 1) := by decide +kernel
theorem dL_crowded_538 : decode cL_crowded 538 = .ok (.if_icmp .ne 41, 3) := by decide +kernel
theorem dL_crowded_541 : decode cL_crowded 541 = .ok (.aload_n 0, 1) := by decide +kernel
theorem dL_crowded_542 : decode cL_crowded 542 = .ok (.invokevirtual 74, 3) := by decide +kernel
theorem dL_crowded_545 : decode cL_crowded 545 = .ok (.iconst 1, 1) := by decide +kernel
theorem dL_crowded_546 : decode cL_crowded 546 = .ok (.if_icmp .ne 33, 3) := by decide +kernel
theorem dL_crowded_549 : decode cL_crowded 549 = .ok (.aload_n 0, 1) := by decide +kernel
theorem dL_crowded_550 : decode cL_crowded 550 = .ok (.bipush 8, 2) := by decide +kernel
theorem dL_crowded_552 : decode cL_crowded 552 = .ok (.invokevirtual 13, 3) := by decide +kernel
theorem dL_crowded_555 : decode cL_crowded 555 = .ok (.ifCond .ne 24, 3) := by decide +kernel
theorem dL_crowded_558 : decode cL_crowded 558 = .ok (.aload_n 0, 1) := by decide +kernel
theorem dL_crowded_559 : decode cL_crowded 559 = .ok (.invokevirtual 74, 3) := by decide +kernel
theorem dL_crowded_562 : decode cL_crowded 562 = .ok (.ifCond .ne 17, 3) := by decide +kernel
theorem dL_crowded_565 : decode cL_crowded 565 = .ok (.aload_n 0, 1) := by decide +kernel
theorem dL_crowded_566 : decode cL_crowded 566 = .ok (.bipush 8, 2) := by decide +kernel
theorem dL_crowded_568 : decode cL_crowded 568 = .ok (.invokevirtual 13, 3) := by decide +kernel
theorem dL_crowded_571 : decode cL_crowded 571 = .ok (.iconst 1, 1) := by decide +kernel
theorem dL_crowded_572 : decode cL_crowded 572 = .ok (.if_icmp .ne 7, 3) := by decide +kernel
theorem dL_crowded_575 : decode cL_crowded 575 = .ok (.iconst 1, 1) := by decide +kernel
theorem dL_crowded_576 : decode cL_crowded 576 = .ok (.goto 4, 3) := by decide +kernel
theorem dL_crowded_579 : decode cL_crowded 579 = .ok (.iconst 0, 1) := by decide +kernel
theorem dL_crowded_580 : decode cL_crowded 580 = .ok (.ireturn, 1) := by decide +kernel
theorem dL_types_0 : decode cL_types 0 = .ok (.iconst 1, 1) := by decide +kernel
theorem dL_types_1 : decode cL_types 1 = .ok (.istore_n 3, 1) := by decide +kernel
theorem dL_types_2 : decode cL_types 2 = .ok (.bipush 56, 2) := by decide +kernel
theorem dL_types_4 : decode cL_types 4 = .ok (.istore 4, 2) := by decide +kernel
theorem dL_types_6 : decode cL_types 6 = .ok (.iload 4, 2) := by decide +kernel
theorem dL_types_8 : decode cL_types 8 = .ok (.ifCond .lt 45, 3) := by decide +kernel
theorem dL_types_11 : decode cL_types 11 = .ok (.lload_n 1, 1) := by decide +kernel
theorem dL_types_12 : decode cL_types 12 = .ok (.iload 4, 2) := by decide +kernel
theorem dL_types_14 : decode cL_types 14 = .ok (.lshr, 1) := by decide +kernel
theorem dL_types_15 : decode cL_types 15 = .ok (.ldc2_w 90, 3) := by decide +kernel
theorem dL_types_18 : decode cL_types 18 = .ok (.land, 1) := by decide +kernel
theorem dL_types_19 : decode cL_types 19 = .ok (.l2i, 1) := by decide +kernel
theorem dL_types_20 : decode cL_types 20 = .ok (.istore 5, 2) := by decide +kernel
theorem dL_types_22 : decode cL_types 22 = .ok (.iload_n 3, 1) := by decide +kernel
theorem dL_types_23 : decode cL_types 23 = .ok (.ifCond .eq 22, 3) := by decide +kernel
theorem dL_types_26 : decode cL_types 26 = .ok (.iload 5, 2) := by decide +kernel
theorem dL_types_28 : decode cL_types 28 = .ok (.ifCond .eq 13, 3) := by decide +kernel
theorem dL_types_31 : decode cL_types 31 = .ok (.aload_n 0, 1) := by decide +kernel
theorem dL_types_32 : decode cL_types 32 = .ok (.iload 5, 2) := by decide +kernel
theorem dL_types_34 : decode cL_types 34 = .ok (.i2c, 1) := by decide +kernel
theorem dL_types_35 : decode cL_types 35 = .ok (.invokevirtual 92, 3) := by decide +kernel
theorem dL_types_38 : decode cL_types 38 = .ok (.ifCond .le 7, 3) := by decide +kernel
theorem dL_types_41 : decode cL_types 41 = .ok (.iconst 1, 1) := by decide +kernel
theorem dL_types_42 : decode cL_types 42 = .ok (.goto 4, 3) := by decide +kernel
theorem dL_types_45 : decode cL_types 45 = .ok (.iconst 0, 1) := by decide +kernel
theorem dL_types_46 : decode cL_types 46 = .ok (.istore_n 3, 1) := by decide +kernel
theorem dL_types_47 : decode cL_types 47 = .ok (.iinc 4 (-8), 3) := by decide +kernel
theorem dL_types_50 : decode cL_types 50 = .ok (.goto (-44), 3) := by decide +kernel
theorem dL_types_53 : decode cL_types 53 = .ok (.iload_n 3, 1) := by decide +kernel
theorem dL_types_54 : decode cL_types 54 = .ok (.ireturn, 1) := by decide +kernel
theorem dL_told_0 : decode cL_told 0 = .ok (.new 14, 3) := by decide +kernel
theorem dL_told_3 : decode cL_told 3 = .ok (.dup, 1) := by decide +kernel
theorem dL_told_4 : decode cL_told 4 = .ok (.invokespecial 73, 3) := by decide +kernel
theorem dL_told_7 : decode cL_told 7 = .ok (.astore 4, 2) := by decide +kernel
theorem dL_told_9 : decode cL_told 9 = .ok (.aload 4, 2) := by decide +kernel
theorem dL_told_11 : decode cL_told 11 = .ok (.lload_n 0, 1) := by decide +kernel
