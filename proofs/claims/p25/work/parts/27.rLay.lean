theorem dL_crowded_60 : decode cL_crowded 60 = .ok (.iconst 1, 1) := by decide +kernel
theorem dL_crowded_61 : decode cL_crowded 61 = .ok (.iconst 1, 1) := by decide +kernel
theorem dL_crowded_62 : decode cL_crowded 62 = .ok (.invokevirtual 26, 3) := by decide +kernel
theorem dL_crowded_65 : decode cL_crowded 65 = .ok (.bipush 6, 2) := by decide +kernel
theorem dL_crowded_67 : decode cL_crowded 67 = .ok (.if_icmp .ne 242, 3) := by decide +kernel
theorem dL_crowded_70 : decode cL_crowded 70 = .ok (.aload_n 0, 1) := by decide +kernel
theorem dL_crowded_71 : decode cL_crowded 71 = .ok (.bipush 7, 2) := by decide +kernel
theorem dL_crowded_73 : decode cL_crowded 73 = .ok (.iconst 2, 1) := by decide +kernel
theorem dL_crowded_74 : decode cL_crowded 74 = .ok (.bipush 24, 2) := by decide +kernel
theorem dL_crowded_76 : decode cL_crowded 76 = .ok (.invokevirtual 41, 3) := by decide +kernel
theorem dL_crowded_79 : decode cL_crowded 79 = .ok (.iconst 2, 1) := by decide +kernel
theorem dL_crowded_80 : decode cL_crowded 80 = .ok (.if_icmp .ne 229, 3) := by decide +kernel
theorem dL_crowded_83 : decode cL_crowded 83 = .ok (.aload_n 0, 1) := by decide +kernel
theorem dL_crowded_84 : decode cL_crowded 84 = .ok (.bipush 7, 2) := by decide +kernel
theorem dL_crowded_86 : decode cL_crowded 86 = .ok (.iconst 2, 1) := by decide +kernel
theorem dL_crowded_87 : decode cL_crowded 87 = .ok (.iconst 1, 1) := by decide +kernel
theorem dL_crowded_88 : decode cL_crowded 88 = .ok (.invokevirtual 26, 3) := by decide +kernel
theorem dL_crowded_91 : decode cL_crowded 91 = .ok (.iconst 1, 1) := by decide +kernel
theorem dL_crowded_92 : decode cL_crowded 92 = .ok (.if_icmp .ne 217, 3) := by decide +kernel
theorem dL_crowded_95 : decode cL_crowded 95 = .ok (.aload_n 0, 1) := by decide +kernel
theorem dL_crowded_96 : decode cL_crowded 96 = .ok (.iconst 0, 1) := by decide +kernel
theorem dL_crowded_97 : decode cL_crowded 97 = .ok (.iconst 1, 1) := by decide +kernel
theorem dL_crowded_98 : decode cL_crowded 98 = .ok (.invokevirtual 23, 3) := by decide +kernel
theorem dL_crowded_101 : decode cL_crowded 101 = .ok (.iconst 2, 1) := by decide +kernel
theorem dL_crowded_102 : decode cL_crowded 102 = .ok (.if_icmp .ne 207, 3) := by decide +kernel
theorem dL_crowded_105 : decode cL_crowded 105 = .ok (.aload_n 0, 1) := by decide +kernel
theorem dL_crowded_106 : decode cL_crowded 106 = .ok (.iconst 1, 1) := by decide +kernel
theorem dL_crowded_107 : decode cL_crowded 107 = .ok (.bipush 7, 2) := by decide +kernel
theorem dL_crowded_109 : decode cL_crowded 109 = .ok (.invokevirtual 23, 3) := by decide +kernel
theorem dL_crowded_112 : decode cL_crowded 112 = .ok (.iconst 2, 1) := by decide +kernel
theorem dL_crowded_113 : decode cL_crowded 113 = .ok (.if_icmp .ne 196, 3) := by decide +kernel
theorem dL_crowded_116 : decode cL_crowded 116 = .ok (.aload_n 0, 1) := by decide +kernel
theorem dL_crowded_117 : decode cL_crowded 117 = .ok (.iconst 0, 1) := by decide +kernel
theorem dL_crowded_118 : decode cL_crowded 118 = .ok (.bipush 6, 2) := by decide +kernel
theorem dL_crowded_120 : decode cL_crowded 120 = .ok (.invokevirtual 23, 3) := by decide +kernel
theorem dL_crowded_123 : decode cL_crowded 123 = .ok (.iconst 1, 1) := by decide +kernel
theorem dL_crowded_124 : decode cL_crowded 124 = .ok (.if_icmp .ne 185, 3) := by decide +kernel
theorem dL_crowded_127 : decode cL_crowded 127 = .ok (.aload_n 0, 1) := by decide +kernel
theorem dL_crowded_128 : decode cL_crowded 128 = .ok (.iconst 3, 1) := by decide +kernel
theorem dL_crowded_129 : decode cL_crowded 129 = .ok (.invokevirtual 13, 3) := by decide +kernel
theorem dL_crowded_132 : decode cL_crowded 132 = .ok (.iconst 2, 1) := by decide +kernel
theorem dL_crowded_133 : decode cL_crowded 133 = .ok (.if_icmp .ne 176, 3) := by decide +kernel
theorem dL_crowded_136 : decode cL_crowded 136 = .ok (.aload_n 0, 1) := by decide +kernel
theorem dL_crowded_137 : decode cL_crowded 137 = .ok (.iconst 4, 1) := by decide +kernel
theorem dL_crowded_138 : decode cL_crowded 138 = .ok (.invokevirtual 13, 3) := by decide +kernel
theorem dL_crowded_141 : decode cL_crowded 141 = .ok (.iconst 2, 1) := by decide +kernel
theorem dL_crowded_142 : decode cL_crowded 142 = .ok (.if_icmp .ne 167, 3) := by decide +kernel
theorem dL_crowded_145 : decode cL_crowded 145 = .ok (.aload_n 0, 1) := by decide +kernel
theorem dL_crowded_146 : decode cL_crowded 146 = .ok (.bipush 8, 2) := by decide +kernel
theorem dL_crowded_148 : decode cL_crowded 148 = .ok (.iconst 1, 1) := by decide +kernel
theorem dL_crowded_149 : decode cL_crowded 149 = .ok (.invokevirtual 30, 3) := by decide +kernel
theorem dL_crowded_152 : decode cL_crowded 152 = .ok (.iconst 2, 1) := by decide +kernel
theorem dL_crowded_153 : decode cL_crowded 153 = .ok (.if_icmp .ne 156, 3) := by decide +kernel
theorem dL_crowded_156 : decode cL_crowded 156 = .ok (.aload_n 0, 1) := by decide +kernel
theorem dL_crowded_157 : decode cL_crowded 157 = .ok (.bipush 8, 2) := by decide +kernel
theorem dL_crowded_159 : decode cL_crowded 159 = .ok (.iconst 0, 1) := by decide +kernel
theorem dL_crowded_160 : decode cL_crowded 160 = .ok (.bipush 24, 2) := by decide +kernel
theorem dL_crowded_162 : decode cL_crowded 162 = .ok (.invokevirtual 41, 3) := by decide +kernel
theorem dL_crowded_165 : decode cL_crowded 165 = .ok (.iconst 3, 1) := by decide +kernel
theorem dL_crowded_166 : decode cL_crowded 166 = .ok (.if_icmp .ne 143, 3) := by decide +kernel
theorem dL_crowded_169 : decode cL_crowded 169 = .ok (.aload_n 0, 1) := by decide +kernel
theorem dL_crowded_170 : decode cL_crowded 170 = .ok (.bipush 8, 2) := by decide +kernel
theorem dL_crowded_172 : decode cL_crowded 172 = .ok (.iconst 0, 1) := by decide +kernel
theorem dL_crowded_173 : decode cL_crowded 173 = .ok (.iconst 1, 1) := by decide +kernel
theorem dL_crowded_174 : decode cL_crowded 174 = .ok (.invokevirtual 26, 3) := by decide +kernel
theorem dL_crowded_177 : decode cL_crowded 177 = .ok (.bipush 6, 2) := by decide +kernel
theorem dL_crowded_179 : decode cL_crowded 179 = .ok (.if_icmp .ne 130, 3) := by decide +kernel
theorem dL_crowded_182 : decode cL_crowded 182 = .ok (.aload_n 0, 1) := by decide +kernel
theorem dL_crowded_183 : decode cL_crowded 183 = .ok (.bipush 8, 2) := by decide +kernel
theorem dL_crowded_185 : decode cL_crowded 185 = .ok (.iconst 0, 1) := by decide +kernel
theorem dL_crowded_186 : decode cL_crowded 186 = .ok (.iconst 2, 1) := by decide +kernel
theorem dL_crowded_187 : decode cL_crowded 187 = .ok (.invokevirtual 26, 3) := by decide +kernel
theorem dL_crowded_190 : decode cL_crowded 190 = .ok (.bipush 7, 2) := by decide +kernel
theorem dL_crowded_192 : decode cL_crowded 192 = .ok (.if_icmp .ne 117, 3) := by decide +kernel
theorem dL_crowded_195 : decode cL_crowded 195 = .ok (.aload_n 0, 1) := by decide +kernel
theorem dL_crowded_196 : decode cL_crowded 196 = .ok (.iconst 0, 1) := by decide +kernel
theorem dL_crowded_197 : decode cL_crowded 197 = .ok (.bipush 6, 2) := by decide +kernel
theorem dL_crowded_199 : decode cL_crowded 199 = .ok (.invokevirtual 23, 3) := by decide +kernel
theorem dL_crowded_202 : decode cL_crowded 202 = .ok (.iconst 2, 1) := by decide +kernel
theorem dL_crowded_203 : decode cL_crowded 203 = .ok (.if_icmp .ne 106, 3) := by decide +kernel
