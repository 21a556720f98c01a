theorem dL_texts_448 : decode cL_texts 448 = .ok (.aload_n 0, 1) := by decide +kernel
theorem dL_texts_449 : decode cL_texts 449 = .ok (.invokevirtual 100, 3) := by decide +kernel
theorem dL_texts_452 : decode cL_texts 452 = .ok (.bipush (-100), 2) := by decide +kernel
theorem dL_texts_454 : decode cL_texts 454 = .ok (.if_icmp .ne 16, 3) := by decide +kernel
theorem dL_texts_457 : decode cL_texts 457 = .ok (.aload_n 0, 1) := by decide +kernel
theorem dL_texts_458 : decode cL_texts 458 = .ok (.iconst 0, 1) := by decide +kernel
theorem dL_texts_459 : decode cL_texts 459 = .ok (.invokevirtual 13, 3) := by decide +kernel
theorem dL_texts_462 : decode cL_texts 462 = .ok (.iconst 1, 1) := by decide +kernel
theorem dL_texts_463 : decode cL_texts 463 = .ok (.if_icmp .ne 7, 3) := by decide +kernel
theorem dL_texts_466 : decode cL_texts 466 = .ok (.iconst 1, 1) := by decide +kernel
theorem dL_texts_467 : decode cL_texts 467 = .ok (.goto 4, 3) := by decide +kernel
theorem dL_texts_470 : decode cL_texts 470 = .ok (.iconst 0, 1) := by decide +kernel
theorem dL_texts_471 : decode cL_texts 471 = .ok (.ireturn, 1) := by decide +kernel
theorem dL_whole_0 : decode cL_whole 0 = .ok (.new 14, 3) := by decide +kernel
theorem dL_whole_3 : decode cL_whole 3 = .ok (.dup, 1) := by decide +kernel
theorem dL_whole_4 : decode cL_whole 4 = .ok (.invokespecial 73, 3) := by decide +kernel
theorem dL_whole_7 : decode cL_whole 7 = .ok (.astore_n 0, 1) := by decide +kernel
theorem dL_whole_8 : decode cL_whole 8 = .ok (.iconst 0, 1) := by decide +kernel
theorem dL_whole_9 : decode cL_whole 9 = .ok (.istore_n 1, 1) := by decide +kernel
theorem dL_whole_10 : decode cL_whole 10 = .ok (.iload_n 1, 1) := by decide +kernel
theorem dL_whole_11 : decode cL_whole 11 = .ok (.bipush 24, 2) := by decide +kernel
theorem dL_whole_13 : decode cL_whole 13 = .ok (.if_icmp .ge 89, 3) := by decide +kernel
theorem dL_whole_16 : decode cL_whole 16 = .ok (.aload_n 0, 1) := by decide +kernel
theorem dL_whole_17 : decode cL_whole 17 = .ok (.iload_n 1, 1) := by decide +kernel
theorem dL_whole_18 : decode cL_whole 18 = .ok (.iload_n 1, 1) := by decide +kernel
theorem dL_whole_19 : decode cL_whole 19 = .ok (.bipush 23, 2) := by decide +kernel
theorem dL_whole_21 : decode cL_whole 21 = .ok (.if_icmp .ne 8, 3) := by decide +kernel
theorem dL_whole_24 : decode cL_whole 24 = .ok (.bipush 85, 2) := by decide +kernel
theorem dL_whole_26 : decode cL_whole 26 = .ok (.goto 6, 3) := by decide +kernel
theorem dL_whole_29 : decode cL_whole 29 = .ok (.sipush 170, 3) := by decide +kernel
theorem dL_whole_32 : decode cL_whole 32 = .ok (.invokevirtual 30, 3) := by decide +kernel
theorem dL_whole_35 : decode cL_whole 35 = .ok (.iload_n 1, 1) := by decide +kernel
theorem dL_whole_36 : decode cL_whole 36 = .ok (.iconst 1, 1) := by decide +kernel
theorem dL_whole_37 : decode cL_whole 37 = .ok (.iadd, 1) := by decide +kernel
theorem dL_whole_38 : decode cL_whole 38 = .ok (.if_icmp .eq 5, 3) := by decide +kernel
theorem dL_whole_41 : decode cL_whole 41 = .ok (.iconst 0, 1) := by decide +kernel
theorem dL_whole_42 : decode cL_whole 42 = .ok (.ireturn, 1) := by decide +kernel
theorem dL_whole_43 : decode cL_whole 43 = .ok (.iload_n 1, 1) := by decide +kernel
theorem dL_whole_44 : decode cL_whole 44 = .ok (.ifCond .ne 14, 3) := by decide +kernel
theorem dL_whole_47 : decode cL_whole 47 = .ok (.aload_n 0, 1) := by decide +kernel
theorem dL_whole_48 : decode cL_whole 48 = .ok (.iconst 0, 1) := by decide +kernel
theorem dL_whole_49 : decode cL_whole 49 = .ok (.iconst 0, 1) := by decide +kernel
theorem dL_whole_50 : decode cL_whole 50 = .ok (.bipush 31, 2) := by decide +kernel
theorem dL_whole_52 : decode cL_whole 52 = .ok (.invokevirtual 41, 3) := by decide +kernel
theorem dL_whole_55 : decode cL_whole 55 = .ok (.goto 12, 3) := by decide +kernel
theorem dL_whole_58 : decode cL_whole 58 = .ok (.aload_n 0, 1) := by decide +kernel
theorem dL_whole_59 : decode cL_whole 59 = .ok (.iload_n 1, 1) := by decide +kernel
theorem dL_whole_60 : decode cL_whole 60 = .ok (.iconst 0, 1) := by decide +kernel
theorem dL_whole_61 : decode cL_whole 61 = .ok (.iload_n 1, 1) := by decide +kernel
theorem dL_whole_62 : decode cL_whole 62 = .ok (.iconst 1, 1) := by decide +kernel
theorem dL_whole_63 : decode cL_whole 63 = .ok (.isub, 1) := by decide +kernel
theorem dL_whole_64 : decode cL_whole 64 = .ok (.invokevirtual 41, 3) := by decide +kernel
theorem dL_whole_67 : decode cL_whole 67 = .ok (.istore_n 2, 1) := by decide +kernel
theorem dL_whole_68 : decode cL_whole 68 = .ok (.iload_n 2, 1) := by decide +kernel
theorem dL_whole_69 : decode cL_whole 69 = .ok (.iload_n 1, 1) := by decide +kernel
theorem dL_whole_70 : decode cL_whole 70 = .ok (.ifCond .ne 8, 3) := by decide +kernel
theorem dL_whole_73 : decode cL_whole 73 = .ok (.bipush 8, 2) := by decide +kernel
theorem dL_whole_75 : decode cL_whole 75 = .ok (.goto 16, 3) := by decide +kernel
theorem dL_whole_78 : decode cL_whole 78 = .ok (.iload_n 1, 1) := by decide +kernel
theorem dL_whole_79 : decode cL_whole 79 = .ok (.bipush 6, 2) := by decide +kernel
theorem dL_whole_81 : decode cL_whole 81 = .ok (.irem, 1) := by decide +kernel
theorem dL_whole_82 : decode cL_whole 82 = .ok (.ifCond .ne 8, 3) := by decide +kernel
theorem dL_whole_85 : decode cL_whole 85 = .ok (.bipush 6, 2) := by decide +kernel
theorem dL_whole_87 : decode cL_whole 87 = .ok (.goto 4, 3) := by decide +kernel
theorem dL_whole_90 : decode cL_whole 90 = .ok (.iconst 1, 1) := by decide +kernel
theorem dL_whole_91 : decode cL_whole 91 = .ok (.if_icmp .eq 5, 3) := by decide +kernel
theorem dL_whole_94 : decode cL_whole 94 = .ok (.iconst 0, 1) := by decide +kernel
theorem dL_whole_95 : decode cL_whole 95 = .ok (.ireturn, 1) := by decide +kernel
theorem dL_whole_96 : decode cL_whole 96 = .ok (.iinc 1 1, 3) := by decide +kernel
theorem dL_whole_99 : decode cL_whole 99 = .ok (.goto (-89), 3) := by decide +kernel
theorem dL_whole_102 : decode cL_whole 102 = .ok (.aload_n 0, 1) := by decide +kernel
theorem dL_whole_103 : decode cL_whole 103 = .ok (.iconst 0, 1) := by decide +kernel
theorem dL_whole_104 : decode cL_whole 104 = .ok (.invokevirtual 13, 3) := by decide +kernel
theorem dL_whole_107 : decode cL_whole 107 = .ok (.bipush 24, 2) := by decide +kernel
theorem dL_whole_109 : decode cL_whole 109 = .ok (.if_icmp .ne 114, 3) := by decide +kernel
theorem dL_whole_112 : decode cL_whole 112 = .ok (.aload_n 0, 1) := by decide +kernel
theorem dL_whole_113 : decode cL_whole 113 = .ok (.iconst 1, 1) := by decide +kernel
theorem dL_whole_114 : decode cL_whole 114 = .ok (.invokevirtual 13, 3) := by decide +kernel
theorem dL_whole_117 : decode cL_whole 117 = .ok (.bipush 24, 2) := by decide +kernel
theorem dL_whole_119 : decode cL_whole 119 = .ok (.if_icmp .ne 104, 3) := by decide +kernel
