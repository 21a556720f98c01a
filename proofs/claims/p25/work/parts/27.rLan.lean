theorem dL_seen_77 : decode cL_seen 77 = .ok (.lmul, 1) := by decide +kernel
theorem dL_seen_78 : decode cL_seen 78 = .ok (.aload_n 0, 1) := by decide +kernel
theorem dL_seen_79 : decode cL_seen 79 = .ok (.iload_n 3, 1) := by decide +kernel
theorem dL_seen_80 : decode cL_seen 80 = .ok (.iload_n 3, 1) := by decide +kernel
theorem dL_seen_81 : decode cL_seen 81 = .ok (.iconst 1, 1) := by decide +kernel
theorem dL_seen_82 : decode cL_seen 82 = .ok (.iadd, 1) := by decide +kernel
theorem dL_seen_83 : decode cL_seen 83 = .ok (.invokevirtual 23, 3) := by decide +kernel
theorem dL_seen_86 : decode cL_seen 86 = .ok (.i2l, 1) := by decide +kernel
theorem dL_seen_87 : decode cL_seen 87 = .ok (.ladd, 1) := by decide +kernel
theorem dL_seen_88 : decode cL_seen 88 = .ok (.lmul, 1) := by decide +kernel
theorem dL_seen_89 : decode cL_seen 89 = .ok (.aload_n 0, 1) := by decide +kernel
theorem dL_seen_90 : decode cL_seen 90 = .ok (.iload_n 3, 1) := by decide +kernel
theorem dL_seen_91 : decode cL_seen 91 = .ok (.iload_n 3, 1) := by decide +kernel
theorem dL_seen_92 : decode cL_seen 92 = .ok (.bipush 6, 2) := by decide +kernel
theorem dL_seen_94 : decode cL_seen 94 = .ok (.iadd, 1) := by decide +kernel
theorem dL_seen_95 : decode cL_seen 95 = .ok (.invokevirtual 23, 3) := by decide +kernel
theorem dL_seen_98 : decode cL_seen 98 = .ok (.i2l, 1) := by decide +kernel
theorem dL_seen_99 : decode cL_seen 99 = .ok (.ladd, 1) := by decide +kernel
theorem dL_seen_100 : decode cL_seen 100 = .ok (.lstore_n 1, 1) := by decide +kernel
theorem dL_seen_101 : decode cL_seen 101 = .ok (.iconst 0, 1) := by decide +kernel
theorem dL_seen_102 : decode cL_seen 102 = .ok (.istore 4, 2) := by decide +kernel
theorem dL_seen_104 : decode cL_seen 104 = .ok (.iload 4, 2) := by decide +kernel
theorem dL_seen_106 : decode cL_seen 106 = .ok (.iconst 4, 1) := by decide +kernel
theorem dL_seen_107 : decode cL_seen 107 = .ok (.if_icmp .ge 39, 3) := by decide +kernel
theorem dL_seen_110 : decode cL_seen 110 = .ok (.ldc2_w 11, 3) := by decide +kernel
theorem dL_seen_113 : decode cL_seen 113 = .ok (.ldc2_w 11, 3) := by decide +kernel
theorem dL_seen_116 : decode cL_seen 116 = .ok (.lload_n 1, 1) := by decide +kernel
theorem dL_seen_117 : decode cL_seen 117 = .ok (.lmul, 1) := by decide +kernel
theorem dL_seen_118 : decode cL_seen 118 = .ok (.aload_n 0, 1) := by decide +kernel
theorem dL_seen_119 : decode cL_seen 119 = .ok (.iload_n 3, 1) := by decide +kernel
theorem dL_seen_120 : decode cL_seen 120 = .ok (.iconst 0, 1) := by decide +kernel
theorem dL_seen_121 : decode cL_seen 121 = .ok (.iload 4, 2) := by decide +kernel
theorem dL_seen_123 : decode cL_seen 123 = .ok (.invokevirtual 26, 3) := by decide +kernel
theorem dL_seen_126 : decode cL_seen 126 = .ok (.i2l, 1) := by decide +kernel
theorem dL_seen_127 : decode cL_seen 127 = .ok (.ladd, 1) := by decide +kernel
theorem dL_seen_128 : decode cL_seen 128 = .ok (.lmul, 1) := by decide +kernel
theorem dL_seen_129 : decode cL_seen 129 = .ok (.aload_n 0, 1) := by decide +kernel
theorem dL_seen_130 : decode cL_seen 130 = .ok (.iload_n 3, 1) := by decide +kernel
theorem dL_seen_131 : decode cL_seen 131 = .ok (.iconst 1, 1) := by decide +kernel
theorem dL_seen_132 : decode cL_seen 132 = .ok (.iload 4, 2) := by decide +kernel
theorem dL_seen_134 : decode cL_seen 134 = .ok (.invokevirtual 26, 3) := by decide +kernel
theorem dL_seen_137 : decode cL_seen 137 = .ok (.i2l, 1) := by decide +kernel
theorem dL_seen_138 : decode cL_seen 138 = .ok (.ladd, 1) := by decide +kernel
theorem dL_seen_139 : decode cL_seen 139 = .ok (.lstore_n 1, 1) := by decide +kernel
theorem dL_seen_140 : decode cL_seen 140 = .ok (.iinc 4 1, 3) := by decide +kernel
theorem dL_seen_143 : decode cL_seen 143 = .ok (.goto (-39), 3) := by decide +kernel
theorem dL_seen_146 : decode cL_seen 146 = .ok (.iinc 3 1, 3) := by decide +kernel
theorem dL_seen_149 : decode cL_seen 149 = .ok (.goto (-116), 3) := by decide +kernel
theorem dL_seen_152 : decode cL_seen 152 = .ok (.lload_n 1, 1) := by decide +kernel
theorem dL_seen_153 : decode cL_seen 153 = .ok (.lreturn, 1) := by decide +kernel
theorem dL_refusesAny_0 : decode cL_refusesAny 0 = .ok (.iload_n 1, 1) := by decide +kernel
theorem dL_refusesAny_1 : decode cL_refusesAny 1 = .ok (.ifCond .ne 7, 3) := by decide +kernel
theorem dL_refusesAny_4 : decode cL_refusesAny 4 = .ok (.iconst (-1), 1) := by decide +kernel
theorem dL_refusesAny_5 : decode cL_refusesAny 5 = .ok (.goto 5, 3) := by decide +kernel
theorem dL_refusesAny_8 : decode cL_refusesAny 8 = .ok (.bipush 24, 2) := by decide +kernel
theorem dL_refusesAny_10 : decode cL_refusesAny 10 = .ok (.istore_n 2, 1) := by decide +kernel
theorem dL_refusesAny_11 : decode cL_refusesAny 11 = .ok (.aload_n 0, 1) := by decide +kernel
theorem dL_refusesAny_12 : decode cL_refusesAny 12 = .ok (.iload_n 2, 1) := by decide +kernel
theorem dL_refusesAny_13 : decode cL_refusesAny 13 = .ok (.sipush 999, 3) := by decide +kernel
theorem dL_refusesAny_16 : decode cL_refusesAny 16 = .ok (.invokevirtual 30, 3) := by decide +kernel
theorem dL_refusesAny_19 : decode cL_refusesAny 19 = .ok (.iconst (-1), 1) := by decide +kernel
theorem dL_refusesAny_20 : decode cL_refusesAny 20 = .ok (.if_icmp .ne 165, 3) := by decide +kernel
theorem dL_refusesAny_23 : decode cL_refusesAny 23 = .ok (.aload_n 0, 1) := by decide +kernel
theorem dL_refusesAny_24 : decode cL_refusesAny 24 = .ok (.bipush 23, 2) := by decide +kernel
theorem dL_refusesAny_26 : decode cL_refusesAny 26 = .ok (.iload_n 1, 1) := by decide +kernel
theorem dL_refusesAny_27 : decode cL_refusesAny 27 = .ok (.ifCond .ne 7, 3) := by decide +kernel
theorem dL_refusesAny_30 : decode cL_refusesAny 30 = .ok (.iconst (-1), 1) := by decide +kernel
theorem dL_refusesAny_31 : decode cL_refusesAny 31 = .ok (.goto 6, 3) := by decide +kernel
theorem dL_refusesAny_34 : decode cL_refusesAny 34 = .ok (.sipush 256, 3) := by decide +kernel
theorem dL_refusesAny_37 : decode cL_refusesAny 37 = .ok (.invokevirtual 30, 3) := by decide +kernel
theorem dL_refusesAny_40 : decode cL_refusesAny 40 = .ok (.bipush (-2), 2) := by decide +kernel
theorem dL_refusesAny_42 : decode cL_refusesAny 42 = .ok (.if_icmp .ne 143, 3) := by decide +kernel
theorem dL_refusesAny_45 : decode cL_refusesAny 45 = .ok (.aload_n 0, 1) := by decide +kernel
theorem dL_refusesAny_46 : decode cL_refusesAny 46 = .ok (.iload_n 2, 1) := by decide +kernel
theorem dL_refusesAny_47 : decode cL_refusesAny 47 = .ok (.invokevirtual 35, 3) := by decide +kernel
theorem dL_refusesAny_50 : decode cL_refusesAny 50 = .ok (.iconst (-1), 1) := by decide +kernel
theorem dL_refusesAny_51 : decode cL_refusesAny 51 = .ok (.if_icmp .ne 134, 3) := by decide +kernel
theorem dL_refusesAny_54 : decode cL_refusesAny 54 = .ok (.aload_n 0, 1) := by decide +kernel
theorem dL_refusesAny_55 : decode cL_refusesAny 55 = .ok (.iload_n 2, 1) := by decide +kernel
theorem dL_refusesAny_56 : decode cL_refusesAny 56 = .ok (.sipush 999, 3) := by decide +kernel
