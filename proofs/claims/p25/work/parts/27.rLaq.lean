theorem dL_refusesAny_353 : decode cL_refusesAny 353 = .ok (.goto 4, 3) := by decide +kernel
theorem dL_refusesAny_356 : decode cL_refusesAny 356 = .ok (.iconst 0, 1) := by decide +kernel
theorem dL_refusesAny_357 : decode cL_refusesAny 357 = .ok (.ireturn, 1) := by decide +kernel
theorem dL_refused_0 : decode cL_refused 0 = .ok (.aload_n 0, 1) := by decide +kernel
theorem dL_refused_1 : decode cL_refused 1 = .ok (.invokestatic 65, 3) := by decide +kernel
theorem dL_refused_4 : decode cL_refused 4 = .ok (.lstore_n 2, 1) := by decide +kernel
theorem dL_refused_5 : decode cL_refused 5 = .ok (.aload_n 0, 1) := by decide +kernel
theorem dL_refused_6 : decode cL_refused 6 = .ok (.bipush 9, 2) := by decide +kernel
theorem dL_refused_8 : decode cL_refused 8 = .ok (.invokevirtual 13, 3) := by decide +kernel
theorem dL_refused_11 : decode cL_refused 11 = .ok (.istore 4, 2) := by decide +kernel
theorem dL_refused_13 : decode cL_refused 13 = .ok (.iconst 0, 1) := by decide +kernel
theorem dL_refused_14 : decode cL_refused 14 = .ok (.istore 5, 2) := by decide +kernel
theorem dL_refused_16 : decode cL_refused 16 = .ok (.iload 5, 2) := by decide +kernel
theorem dL_refused_18 : decode cL_refused 18 = .ok (.iconst 2, 1) := by decide +kernel
theorem dL_refused_19 : decode cL_refused 19 = .ok (.if_icmp .ge 219, 3) := by decide +kernel
theorem dL_refused_22 : decode cL_refused 22 = .ok (.aload_n 0, 1) := by decide +kernel
theorem dL_refused_23 : decode cL_refused 23 = .ok (.iload_n 1, 1) := by decide +kernel
theorem dL_refused_24 : decode cL_refused 24 = .ok (.iconst 0, 1) := by decide +kernel
theorem dL_refused_25 : decode cL_refused 25 = .ok (.invokevirtual 19, 3) := by decide +kernel
theorem dL_refused_28 : decode cL_refused 28 = .ok (.ifCond .lt 210, 3) := by decide +kernel
theorem dL_refused_31 : decode cL_refused 31 = .ok (.aload_n 0, 1) := by decide +kernel
theorem dL_refused_32 : decode cL_refused 32 = .ok (.iload_n 1, 1) := by decide +kernel
theorem dL_refused_33 : decode cL_refused 33 = .ok (.iconst 1, 1) := by decide +kernel
theorem dL_refused_34 : decode cL_refused 34 = .ok (.invokevirtual 30, 3) := by decide +kernel
theorem dL_refused_37 : decode cL_refused 37 = .ok (.bipush (-4), 2) := by decide +kernel
theorem dL_refused_39 : decode cL_refused 39 = .ok (.if_icmp .ne 191, 3) := by decide +kernel
theorem dL_refused_42 : decode cL_refused 42 = .ok (.aload_n 0, 1) := by decide +kernel
theorem dL_refused_43 : decode cL_refused 43 = .ok (.iload_n 1, 1) := by decide +kernel
theorem dL_refused_44 : decode cL_refused 44 = .ok (.sipush 256, 3) := by decide +kernel
theorem dL_refused_47 : decode cL_refused 47 = .ok (.invokevirtual 30, 3) := by decide +kernel
theorem dL_refused_50 : decode cL_refused 50 = .ok (.bipush (-2), 2) := by decide +kernel
theorem dL_refused_52 : decode cL_refused 52 = .ok (.if_icmp .ne 178, 3) := by decide +kernel
theorem dL_refused_55 : decode cL_refused 55 = .ok (.aload_n 0, 1) := by decide +kernel
theorem dL_refused_56 : decode cL_refused 56 = .ok (.iload_n 1, 1) := by decide +kernel
theorem dL_refused_57 : decode cL_refused 57 = .ok (.iload 5, 2) := by decide +kernel
theorem dL_refused_59 : decode cL_refused 59 = .ok (.ifCond .ne 7, 3) := by decide +kernel
theorem dL_refused_62 : decode cL_refused 62 = .ok (.iconst (-1), 1) := by decide +kernel
theorem dL_refused_63 : decode cL_refused 63 = .ok (.goto 6, 3) := by decide +kernel
theorem dL_refused_66 : decode cL_refused 66 = .ok (.sipush 256, 3) := by decide +kernel
theorem dL_refused_69 : decode cL_refused 69 = .ok (.invokevirtual 38, 3) := by decide +kernel
theorem dL_refused_72 : decode cL_refused 72 = .ok (.bipush (-2), 2) := by decide +kernel
theorem dL_refused_74 : decode cL_refused 74 = .ok (.if_icmp .ne 156, 3) := by decide +kernel
theorem dL_refused_77 : decode cL_refused 77 = .ok (.aload_n 0, 1) := by decide +kernel
theorem dL_refused_78 : decode cL_refused 78 = .ok (.iload_n 1, 1) := by decide +kernel
theorem dL_refused_79 : decode cL_refused 79 = .ok (.aload_n 0, 1) := by decide +kernel
theorem dL_refused_80 : decode cL_refused 80 = .ok (.iload_n 1, 1) := by decide +kernel
theorem dL_refused_81 : decode cL_refused 81 = .ok (.iconst 0, 1) := by decide +kernel
theorem dL_refused_82 : decode cL_refused 82 = .ok (.invokevirtual 19, 3) := by decide +kernel
theorem dL_refused_85 : decode cL_refused 85 = .ok (.invokevirtual 38, 3) := by decide +kernel
theorem dL_refused_88 : decode cL_refused 88 = .ok (.bipush (-5), 2) := by decide +kernel
theorem dL_refused_90 : decode cL_refused 90 = .ok (.if_icmp .ne 140, 3) := by decide +kernel
theorem dL_refused_93 : decode cL_refused 93 = .ok (.aload_n 0, 1) := by decide +kernel
theorem dL_refused_94 : decode cL_refused 94 = .ok (.iload_n 1, 1) := by decide +kernel
theorem dL_refused_95 : decode cL_refused 95 = .ok (.iload 5, 2) := by decide +kernel
theorem dL_refused_97 : decode cL_refused 97 = .ok (.ifCond .ne 7, 3) := by decide +kernel
theorem dL_refused_100 : decode cL_refused 100 = .ok (.iconst (-1), 1) := by decide +kernel
theorem dL_refused_101 : decode cL_refused 101 = .ok (.goto 4, 3) := by decide +kernel
theorem dL_refused_104 : decode cL_refused 104 = .ok (.iconst 3, 1) := by decide +kernel
theorem dL_refused_105 : decode cL_refused 105 = .ok (.bipush 33, 2) := by decide +kernel
theorem dL_refused_107 : decode cL_refused 107 = .ok (.invokevirtual 41, 3) := by decide +kernel
theorem dL_refused_110 : decode cL_refused 110 = .ok (.iconst (-1), 1) := by decide +kernel
theorem dL_refused_111 : decode cL_refused 111 = .ok (.if_icmp .ne 119, 3) := by decide +kernel
theorem dL_refused_114 : decode cL_refused 114 = .ok (.aload_n 0, 1) := by decide +kernel
theorem dL_refused_115 : decode cL_refused 115 = .ok (.iload_n 1, 1) := by decide +kernel
theorem dL_refused_116 : decode cL_refused 116 = .ok (.iconst 0, 1) := by decide +kernel
theorem dL_refused_117 : decode cL_refused 117 = .ok (.iload 5, 2) := by decide +kernel
theorem dL_refused_119 : decode cL_refused 119 = .ok (.ifCond .ne 7, 3) := by decide +kernel
theorem dL_refused_122 : decode cL_refused 122 = .ok (.iconst (-1), 1) := by decide +kernel
theorem dL_refused_123 : decode cL_refused 123 = .ok (.goto 5, 3) := by decide +kernel
theorem dL_refused_126 : decode cL_refused 126 = .ok (.bipush 34, 2) := by decide +kernel
theorem dL_refused_128 : decode cL_refused 128 = .ok (.invokevirtual 41, 3) := by decide +kernel
theorem dL_refused_131 : decode cL_refused 131 = .ok (.iconst (-1), 1) := by decide +kernel
theorem dL_refused_132 : decode cL_refused 132 = .ok (.if_icmp .ne 98, 3) := by decide +kernel
theorem dL_refused_135 : decode cL_refused 135 = .ok (.aload_n 0, 1) := by decide +kernel
theorem dL_refused_136 : decode cL_refused 136 = .ok (.iload_n 1, 1) := by decide +kernel
theorem dL_refused_137 : decode cL_refused 137 = .ok (.iconst 0, 1) := by decide +kernel
theorem dL_refused_138 : decode cL_refused 138 = .ok (.aload_n 0, 1) := by decide +kernel
theorem dL_refused_139 : decode cL_refused 139 = .ok (.iload_n 1, 1) := by decide +kernel
theorem dL_refused_140 : decode cL_refused 140 = .ok (.iconst 1, 1) := by decide +kernel
theorem dL_refused_141 : decode cL_refused 141 = .ok (.invokevirtual 19, 3) := by decide +kernel
