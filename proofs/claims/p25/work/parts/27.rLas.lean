theorem dL_two_23 : decode cL_two 23 = .ok (.if_icmp .ne 273, 3) := by decide +kernel
theorem dL_two_26 : decode cL_two 26 = .ok (.aload_n 0, 1) := by decide +kernel
theorem dL_two_27 : decode cL_two 27 = .ok (.iconst 0, 1) := by decide +kernel
theorem dL_two_28 : decode cL_two 28 = .ok (.invokevirtual 35, 3) := by decide +kernel
theorem dL_two_31 : decode cL_two 31 = .ok (.iconst (-1), 1) := by decide +kernel
theorem dL_two_32 : decode cL_two 32 = .ok (.if_icmp .ne 264, 3) := by decide +kernel
theorem dL_two_35 : decode cL_two 35 = .ok (.aload_n 0, 1) := by decide +kernel
theorem dL_two_36 : decode cL_two 36 = .ok (.iconst 0, 1) := by decide +kernel
theorem dL_two_37 : decode cL_two 37 = .ok (.invokevirtual 47, 3) := by decide +kernel
theorem dL_two_40 : decode cL_two 40 = .ok (.ifCond .ne 256, 3) := by decide +kernel
theorem dL_two_43 : decode cL_two 43 = .ok (.aload_n 0, 1) := by decide +kernel
theorem dL_two_44 : decode cL_two 44 = .ok (.invokevirtual 74, 3) := by decide +kernel
theorem dL_two_47 : decode cL_two 47 = .ok (.ifCond .ne 249, 3) := by decide +kernel
theorem dL_two_50 : decode cL_two 50 = .ok (.aload_n 0, 1) := by decide +kernel
theorem dL_two_51 : decode cL_two 51 = .ok (.invokevirtual 81, 3) := by decide +kernel
theorem dL_two_54 : decode cL_two 54 = .ok (.ifCond .ne 242, 3) := by decide +kernel
theorem dL_two_57 : decode cL_two 57 = .ok (.aload_n 0, 1) := by decide +kernel
theorem dL_two_58 : decode cL_two 58 = .ok (.iconst 0, 1) := by decide +kernel
theorem dL_two_59 : decode cL_two 59 = .ok (.iconst 1, 1) := by decide +kernel
theorem dL_two_60 : decode cL_two 60 = .ok (.invokevirtual 44, 3) := by decide +kernel
theorem dL_two_63 : decode cL_two 63 = .ok (.bipush (-5), 2) := by decide +kernel
theorem dL_two_65 : decode cL_two 65 = .ok (.if_icmp .ne 231, 3) := by decide +kernel
theorem dL_two_68 : decode cL_two 68 = .ok (.aload_n 0, 1) := by decide +kernel
theorem dL_two_69 : decode cL_two 69 = .ok (.iconst 0, 1) := by decide +kernel
theorem dL_two_70 : decode cL_two 70 = .ok (.sipush 128, 3) := by decide +kernel
theorem dL_two_73 : decode cL_two 73 = .ok (.invokevirtual 30, 3) := by decide +kernel
theorem dL_two_76 : decode cL_two 76 = .ok (.iconst 1, 1) := by decide +kernel
theorem dL_two_77 : decode cL_two 77 = .ok (.if_icmp .ne 219, 3) := by decide +kernel
theorem dL_two_80 : decode cL_two 80 = .ok (.aload_n 0, 1) := by decide +kernel
theorem dL_two_81 : decode cL_two 81 = .ok (.iconst 2, 1) := by decide +kernel
theorem dL_two_82 : decode cL_two 82 = .ok (.sipush 254, 3) := by decide +kernel
theorem dL_two_85 : decode cL_two 85 = .ok (.invokevirtual 30, 3) := by decide +kernel
theorem dL_two_88 : decode cL_two 88 = .ok (.iconst 2, 1) := by decide +kernel
theorem dL_two_89 : decode cL_two 89 = .ok (.if_icmp .ne 207, 3) := by decide +kernel
theorem dL_two_92 : decode cL_two 92 = .ok (.aload_n 0, 1) := by decide +kernel
theorem dL_two_93 : decode cL_two 93 = .ok (.iconst 0, 1) := by decide +kernel
theorem dL_two_94 : decode cL_two 94 = .ok (.iconst 0, 1) := by decide +kernel
theorem dL_two_95 : decode cL_two 95 = .ok (.bipush 24, 2) := by decide +kernel
theorem dL_two_97 : decode cL_two 97 = .ok (.invokevirtual 41, 3) := by decide +kernel
theorem dL_two_100 : decode cL_two 100 = .ok (.ifCond .ne 196, 3) := by decide +kernel
theorem dL_two_103 : decode cL_two 103 = .ok (.aload_n 0, 1) := by decide +kernel
theorem dL_two_104 : decode cL_two 104 = .ok (.iconst 0, 1) := by decide +kernel
theorem dL_two_105 : decode cL_two 105 = .ok (.iconst 1, 1) := by decide +kernel
theorem dL_two_106 : decode cL_two 106 = .ok (.bipush 25, 2) := by decide +kernel
theorem dL_two_108 : decode cL_two 108 = .ok (.invokevirtual 41, 3) := by decide +kernel
theorem dL_two_111 : decode cL_two 111 = .ok (.iconst 1, 1) := by decide +kernel
theorem dL_two_112 : decode cL_two 112 = .ok (.if_icmp .ne 184, 3) := by decide +kernel
theorem dL_two_115 : decode cL_two 115 = .ok (.aload_n 0, 1) := by decide +kernel
theorem dL_two_116 : decode cL_two 116 = .ok (.iconst 0, 1) := by decide +kernel
theorem dL_two_117 : decode cL_two 117 = .ok (.iconst 2, 1) := by decide +kernel
theorem dL_two_118 : decode cL_two 118 = .ok (.bipush 33, 2) := by decide +kernel
theorem dL_two_120 : decode cL_two 120 = .ok (.invokevirtual 41, 3) := by decide +kernel
theorem dL_two_123 : decode cL_two 123 = .ok (.ifCond .ne 173, 3) := by decide +kernel
theorem dL_two_126 : decode cL_two 126 = .ok (.aload_n 0, 1) := by decide +kernel
theorem dL_two_127 : decode cL_two 127 = .ok (.iconst 2, 1) := by decide +kernel
theorem dL_two_128 : decode cL_two 128 = .ok (.iconst 0, 1) := by decide +kernel
theorem dL_two_129 : decode cL_two 129 = .ok (.iconst 0, 1) := by decide +kernel
theorem dL_two_130 : decode cL_two 130 = .ok (.invokevirtual 41, 3) := by decide +kernel
theorem dL_two_133 : decode cL_two 133 = .ok (.iconst 2, 1) := by decide +kernel
theorem dL_two_134 : decode cL_two 134 = .ok (.if_icmp .ne 162, 3) := by decide +kernel
theorem dL_two_137 : decode cL_two 137 = .ok (.aload_n 0, 1) := by decide +kernel
theorem dL_two_138 : decode cL_two 138 = .ok (.iconst 2, 1) := by decide +kernel
theorem dL_two_139 : decode cL_two 139 = .ok (.iconst 1, 1) := by decide +kernel
theorem dL_two_140 : decode cL_two 140 = .ok (.bipush 28, 2) := by decide +kernel
theorem dL_two_142 : decode cL_two 142 = .ok (.invokevirtual 41, 3) := by decide +kernel
theorem dL_two_145 : decode cL_two 145 = .ok (.iconst 3, 1) := by decide +kernel
theorem dL_two_146 : decode cL_two 146 = .ok (.if_icmp .ne 150, 3) := by decide +kernel
theorem dL_two_149 : decode cL_two 149 = .ok (.aload_n 0, 1) := by decide +kernel
theorem dL_two_150 : decode cL_two 150 = .ok (.iconst 1, 1) := by decide +kernel
theorem dL_two_151 : decode cL_two 151 = .ok (.invokevirtual 13, 3) := by decide +kernel
theorem dL_two_154 : decode cL_two 154 = .ok (.iconst 4, 1) := by decide +kernel
theorem dL_two_155 : decode cL_two 155 = .ok (.if_icmp .ne 141, 3) := by decide +kernel
theorem dL_two_158 : decode cL_two 158 = .ok (.aload_n 0, 1) := by decide +kernel
theorem dL_two_159 : decode cL_two 159 = .ok (.iconst 2, 1) := by decide +kernel
theorem dL_two_160 : decode cL_two 160 = .ok (.invokevirtual 13, 3) := by decide +kernel
theorem dL_two_163 : decode cL_two 163 = .ok (.bipush 6, 2) := by decide +kernel
theorem dL_two_165 : decode cL_two 165 = .ok (.if_icmp .ne 131, 3) := by decide +kernel
theorem dL_two_168 : decode cL_two 168 = .ok (.aload_n 0, 1) := by decide +kernel
theorem dL_two_169 : decode cL_two 169 = .ok (.iconst 0, 1) := by decide +kernel
theorem dL_two_170 : decode cL_two 170 = .ok (.iconst 1, 1) := by decide +kernel
