theorem dL_whole_122 : decode cL_whole 122 = .ok (.aload_n 0, 1) := by decide +kernel
theorem dL_whole_123 : decode cL_whole 123 = .ok (.iconst 2, 1) := by decide +kernel
theorem dL_whole_124 : decode cL_whole 124 = .ok (.invokevirtual 13, 3) := by decide +kernel
theorem dL_whole_127 : decode cL_whole 127 = .ok (.bipush 46, 2) := by decide +kernel
theorem dL_whole_129 : decode cL_whole 129 = .ok (.if_icmp .ne 94, 3) := by decide +kernel
theorem dL_whole_132 : decode cL_whole 132 = .ok (.aload_n 0, 1) := by decide +kernel
theorem dL_whole_133 : decode cL_whole 133 = .ok (.bipush 23, 2) := by decide +kernel
theorem dL_whole_135 : decode cL_whole 135 = .ok (.iconst 4, 1) := by decide +kernel
theorem dL_whole_136 : decode cL_whole 136 = .ok (.invokevirtual 19, 3) := by decide +kernel
theorem dL_whole_139 : decode cL_whole 139 = .ok (.bipush 24, 2) := by decide +kernel
theorem dL_whole_141 : decode cL_whole 141 = .ok (.if_icmp .ne 82, 3) := by decide +kernel
theorem dL_whole_144 : decode cL_whole 144 = .ok (.aload_n 0, 1) := by decide +kernel
theorem dL_whole_145 : decode cL_whole 145 = .ok (.bipush 6, 2) := by decide +kernel
theorem dL_whole_147 : decode cL_whole 147 = .ok (.invokevirtual 13, 3) := by decide +kernel
theorem dL_whole_150 : decode cL_whole 150 = .ok (.bipush 24, 2) := by decide +kernel
theorem dL_whole_152 : decode cL_whole 152 = .ok (.if_icmp .ne 71, 3) := by decide +kernel
theorem dL_whole_155 : decode cL_whole 155 = .ok (.aload_n 0, 1) := by decide +kernel
theorem dL_whole_156 : decode cL_whole 156 = .ok (.bipush 23, 2) := by decide +kernel
theorem dL_whole_158 : decode cL_whole 158 = .ok (.sipush 128, 3) := by decide +kernel
theorem dL_whole_161 : decode cL_whole 161 = .ok (.invokevirtual 53, 3) := by decide +kernel
theorem dL_whole_164 : decode cL_whole 164 = .ok (.ifCond .ne 59, 3) := by decide +kernel
theorem dL_whole_167 : decode cL_whole 167 = .ok (.aload_n 0, 1) := by decide +kernel
theorem dL_whole_168 : decode cL_whole 168 = .ok (.bipush 23, 2) := by decide +kernel
theorem dL_whole_170 : decode cL_whole 170 = .ok (.bipush 127, 2) := by decide +kernel
theorem dL_whole_172 : decode cL_whole 172 = .ok (.invokevirtual 53, 3) := by decide +kernel
theorem dL_whole_175 : decode cL_whole 175 = .ok (.iconst 1, 1) := by decide +kernel
theorem dL_whole_176 : decode cL_whole 176 = .ok (.if_icmp .ne 47, 3) := by decide +kernel
theorem dL_whole_179 : decode cL_whole 179 = .ok (.aload_n 0, 1) := by decide +kernel
theorem dL_whole_180 : decode cL_whole 180 = .ok (.bipush 22, 2) := by decide +kernel
theorem dL_whole_182 : decode cL_whole 182 = .ok (.sipush 128, 3) := by decide +kernel
theorem dL_whole_185 : decode cL_whole 185 = .ok (.invokevirtual 53, 3) := by decide +kernel
theorem dL_whole_188 : decode cL_whole 188 = .ok (.iconst 1, 1) := by decide +kernel
theorem dL_whole_189 : decode cL_whole 189 = .ok (.if_icmp .ne 34, 3) := by decide +kernel
theorem dL_whole_192 : decode cL_whole 192 = .ok (.aload_n 0, 1) := by decide +kernel
theorem dL_whole_193 : decode cL_whole 193 = .ok (.bipush 23, 2) := by decide +kernel
theorem dL_whole_195 : decode cL_whole 195 = .ok (.invokevirtual 56, 3) := by decide +kernel
theorem dL_whole_198 : decode cL_whole 198 = .ok (.sipush 128, 3) := by decide +kernel
theorem dL_whole_201 : decode cL_whole 201 = .ok (.if_icmp .ne 22, 3) := by decide +kernel
theorem dL_whole_204 : decode cL_whole 204 = .ok (.aload_n 0, 1) := by decide +kernel
theorem dL_whole_205 : decode cL_whole 205 = .ok (.iconst 0, 1) := by decide +kernel
theorem dL_whole_206 : decode cL_whole 206 = .ok (.invokevirtual 35, 3) := by decide +kernel
theorem dL_whole_209 : decode cL_whole 209 = .ok (.bipush (-4), 2) := by decide +kernel
theorem dL_whole_211 : decode cL_whole 211 = .ok (.if_icmp .ne 12, 3) := by decide +kernel
theorem dL_whole_214 : decode cL_whole 214 = .ok (.aload_n 0, 1) := by decide +kernel
theorem dL_whole_215 : decode cL_whole 215 = .ok (.bipush 23, 2) := by decide +kernel
theorem dL_whole_217 : decode cL_whole 217 = .ok (.invokestatic 84, 3) := by decide +kernel
theorem dL_whole_220 : decode cL_whole 220 = .ok (.ifCond .ne 5, 3) := by decide +kernel
theorem dL_whole_223 : decode cL_whole 223 = .ok (.iconst 0, 1) := by decide +kernel
theorem dL_whole_224 : decode cL_whole 224 = .ok (.ireturn, 1) := by decide +kernel
theorem dL_whole_225 : decode cL_whole 225 = .ok (.aload_n 0, 1) := by decide +kernel
theorem dL_whole_226 : decode cL_whole 226 = .ok (.iconst 0, 1) := by decide +kernel
theorem dL_whole_227 : decode cL_whole 227 = .ok (.iconst 0, 1) := by decide +kernel
theorem dL_whole_228 : decode cL_whole 228 = .ok (.iconst 0, 1) := by decide +kernel
theorem dL_whole_229 : decode cL_whole 229 = .ok (.invokevirtual 41, 3) := by decide +kernel
theorem dL_whole_232 : decode cL_whole 232 = .ok (.ifCond .ne 78, 3) := by decide +kernel
theorem dL_whole_235 : decode cL_whole 235 = .ok (.aload_n 0, 1) := by decide +kernel
theorem dL_whole_236 : decode cL_whole 236 = .ok (.iconst 5, 1) := by decide +kernel
theorem dL_whole_237 : decode cL_whole 237 = .ok (.invokevirtual 13, 3) := by decide +kernel
theorem dL_whole_240 : decode cL_whole 240 = .ok (.bipush 24, 2) := by decide +kernel
theorem dL_whole_242 : decode cL_whole 242 = .ok (.if_icmp .ne 68, 3) := by decide +kernel
theorem dL_whole_245 : decode cL_whole 245 = .ok (.aload_n 0, 1) := by decide +kernel
theorem dL_whole_246 : decode cL_whole 246 = .ok (.bipush 6, 2) := by decide +kernel
theorem dL_whole_248 : decode cL_whole 248 = .ok (.invokevirtual 13, 3) := by decide +kernel
theorem dL_whole_251 : decode cL_whole 251 = .ok (.ifCond .ne 59, 3) := by decide +kernel
theorem dL_whole_254 : decode cL_whole 254 = .ok (.aload_n 0, 1) := by decide +kernel
theorem dL_whole_255 : decode cL_whole 255 = .ok (.iconst 0, 1) := by decide +kernel
theorem dL_whole_256 : decode cL_whole 256 = .ok (.iconst 5, 1) := by decide +kernel
theorem dL_whole_257 : decode cL_whole 257 = .ok (.invokevirtual 19, 3) := by decide +kernel
theorem dL_whole_260 : decode cL_whole 260 = .ok (.iconst 2, 1) := by decide +kernel
theorem dL_whole_261 : decode cL_whole 261 = .ok (.if_icmp .ne 49, 3) := by decide +kernel
theorem dL_whole_264 : decode cL_whole 264 = .ok (.aload_n 0, 1) := by decide +kernel
theorem dL_whole_265 : decode cL_whole 265 = .ok (.iconst 5, 1) := by decide +kernel
theorem dL_whole_266 : decode cL_whole 266 = .ok (.iconst 1, 1) := by decide +kernel
theorem dL_whole_267 : decode cL_whole 267 = .ok (.invokevirtual 53, 3) := by decide +kernel
theorem dL_whole_270 : decode cL_whole 270 = .ok (.bipush (-5), 2) := by decide +kernel
theorem dL_whole_272 : decode cL_whole 272 = .ok (.if_icmp .ne 38, 3) := by decide +kernel
theorem dL_whole_275 : decode cL_whole 275 = .ok (.aload_n 0, 1) := by decide +kernel
theorem dL_whole_276 : decode cL_whole 276 = .ok (.bipush 23, 2) := by decide +kernel
theorem dL_whole_278 : decode cL_whole 278 = .ok (.invokevirtual 35, 3) := by decide +kernel
theorem dL_whole_281 : decode cL_whole 281 = .ok (.bipush 23, 2) := by decide +kernel
