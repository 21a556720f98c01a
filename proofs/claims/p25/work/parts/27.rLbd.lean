theorem dL_texts_112 : decode cL_texts 112 = .ok (.ldc2_w 127, 3) := by decide +kernel
theorem dL_texts_115 : decode cL_texts 115 = .ok (.lconst 0, 1) := by decide +kernel
theorem dL_texts_116 : decode cL_texts 116 = .ok (.invokestatic 105, 3) := by decide +kernel
theorem dL_texts_119 : decode cL_texts 119 = .ok (.bipush (-101), 2) := by decide +kernel
theorem dL_texts_121 : decode cL_texts 121 = .ok (.if_icmp .ne 98, 3) := by decide +kernel
theorem dL_texts_124 : decode cL_texts 124 = .ok (.ldc2_w 129, 3) := by decide +kernel
theorem dL_texts_127 : decode cL_texts 127 = .ok (.lconst 0, 1) := by decide +kernel
theorem dL_texts_128 : decode cL_texts 128 = .ok (.invokestatic 105, 3) := by decide +kernel
theorem dL_texts_131 : decode cL_texts 131 = .ok (.bipush (-105), 2) := by decide +kernel
theorem dL_texts_133 : decode cL_texts 133 = .ok (.if_icmp .ne 86, 3) := by decide +kernel
theorem dL_texts_136 : decode cL_texts 136 = .ok (.lconst 0, 1) := by decide +kernel
theorem dL_texts_137 : decode cL_texts 137 = .ok (.lconst 0, 1) := by decide +kernel
theorem dL_texts_138 : decode cL_texts 138 = .ok (.invokestatic 105, 3) := by decide +kernel
theorem dL_texts_141 : decode cL_texts 141 = .ok (.bipush (-100), 2) := by decide +kernel
theorem dL_texts_143 : decode cL_texts 143 = .ok (.if_icmp .ne 76, 3) := by decide +kernel
theorem dL_texts_146 : decode cL_texts 146 = .ok (.ldc2_w 131, 3) := by decide +kernel
theorem dL_texts_149 : decode cL_texts 149 = .ok (.lconst 0, 1) := by decide +kernel
theorem dL_texts_150 : decode cL_texts 150 = .ok (.invokestatic 105, 3) := by decide +kernel
theorem dL_texts_153 : decode cL_texts 153 = .ok (.iconst 1, 1) := by decide +kernel
theorem dL_texts_154 : decode cL_texts 154 = .ok (.if_icmp .ne 65, 3) := by decide +kernel
theorem dL_texts_157 : decode cL_texts 157 = .ok (.ldc2_w 133, 3) := by decide +kernel
theorem dL_texts_160 : decode cL_texts 160 = .ok (.ldc2_w 135, 3) := by decide +kernel
theorem dL_texts_163 : decode cL_texts 163 = .ok (.invokestatic 105, 3) := by decide +kernel
theorem dL_texts_166 : decode cL_texts 166 = .ok (.iconst 2, 1) := by decide +kernel
theorem dL_texts_167 : decode cL_texts 167 = .ok (.if_icmp .ne 52, 3) := by decide +kernel
theorem dL_texts_170 : decode cL_texts 170 = .ok (.ldc2_w 137, 3) := by decide +kernel
theorem dL_texts_173 : decode cL_texts 173 = .ok (.ldc2_w 135, 3) := by decide +kernel
theorem dL_texts_176 : decode cL_texts 176 = .ok (.invokestatic 105, 3) := by decide +kernel
theorem dL_texts_179 : decode cL_texts 179 = .ok (.iconst 1, 1) := by decide +kernel
theorem dL_texts_180 : decode cL_texts 180 = .ok (.if_icmp .ne 39, 3) := by decide +kernel
theorem dL_texts_183 : decode cL_texts 183 = .ok (.ldc2_w 139, 3) := by decide +kernel
theorem dL_texts_186 : decode cL_texts 186 = .ok (.lconst 0, 1) := by decide +kernel
theorem dL_texts_187 : decode cL_texts 187 = .ok (.invokestatic 105, 3) := by decide +kernel
theorem dL_texts_190 : decode cL_texts 190 = .ok (.bipush (-4), 2) := by decide +kernel
theorem dL_texts_192 : decode cL_texts 192 = .ok (.if_icmp .ne 27, 3) := by decide +kernel
theorem dL_texts_195 : decode cL_texts 195 = .ok (.ldc2_w 141, 3) := by decide +kernel
theorem dL_texts_198 : decode cL_texts 198 = .ok (.lconst 0, 1) := by decide +kernel
theorem dL_texts_199 : decode cL_texts 199 = .ok (.invokestatic 105, 3) := by decide +kernel
theorem dL_texts_202 : decode cL_texts 202 = .ok (.iconst 1, 1) := by decide +kernel
theorem dL_texts_203 : decode cL_texts 203 = .ok (.if_icmp .ne 16, 3) := by decide +kernel
theorem dL_texts_206 : decode cL_texts 206 = .ok (.ldc2_w 143, 3) := by decide +kernel
theorem dL_texts_209 : decode cL_texts 209 = .ok (.ldc2_w 145, 3) := by decide +kernel
theorem dL_texts_212 : decode cL_texts 212 = .ok (.invokestatic 105, 3) := by decide +kernel
theorem dL_texts_215 : decode cL_texts 215 = .ok (.iconst 2, 1) := by decide +kernel
theorem dL_texts_216 : decode cL_texts 216 = .ok (.if_icmp .eq 5, 3) := by decide +kernel
theorem dL_texts_219 : decode cL_texts 219 = .ok (.iconst 0, 1) := by decide +kernel
theorem dL_texts_220 : decode cL_texts 220 = .ok (.ireturn, 1) := by decide +kernel
theorem dL_texts_221 : decode cL_texts 221 = .ok (.new 14, 3) := by decide +kernel
theorem dL_texts_224 : decode cL_texts 224 = .ok (.dup, 1) := by decide +kernel
theorem dL_texts_225 : decode cL_texts 225 = .ok (.invokespecial 73, 3) := by decide +kernel
theorem dL_texts_228 : decode cL_texts 228 = .ok (.astore_n 0, 1) := by decide +kernel
theorem dL_texts_229 : decode cL_texts 229 = .ok (.aload_n 0, 1) := by decide +kernel
theorem dL_texts_230 : decode cL_texts 230 = .ok (.ldc2_w 147, 3) := by decide +kernel
theorem dL_texts_233 : decode cL_texts 233 = .ok (.invokestatic 96, 3) := by decide +kernel
theorem dL_texts_236 : decode cL_texts 236 = .ok (.ifCond .eq 152, 3) := by decide +kernel
theorem dL_texts_239 : decode cL_texts 239 = .ok (.aload_n 0, 1) := by decide +kernel
theorem dL_texts_240 : decode cL_texts 240 = .ok (.ldc2_w 149, 3) := by decide +kernel
theorem dL_texts_243 : decode cL_texts 243 = .ok (.invokestatic 96, 3) := by decide +kernel
theorem dL_texts_246 : decode cL_texts 246 = .ok (.ifCond .eq 142, 3) := by decide +kernel
theorem dL_texts_249 : decode cL_texts 249 = .ok (.aload_n 0, 1) := by decide +kernel
theorem dL_texts_250 : decode cL_texts 250 = .ok (.ldc2_w 151, 3) := by decide +kernel
theorem dL_texts_253 : decode cL_texts 253 = .ok (.invokestatic 96, 3) := by decide +kernel
theorem dL_texts_256 : decode cL_texts 256 = .ok (.ifCond .eq 132, 3) := by decide +kernel
theorem dL_texts_259 : decode cL_texts 259 = .ok (.aload_n 0, 1) := by decide +kernel
theorem dL_texts_260 : decode cL_texts 260 = .ok (.bipush 9, 2) := by decide +kernel
theorem dL_texts_262 : decode cL_texts 262 = .ok (.bipush 9, 2) := by decide +kernel
theorem dL_texts_264 : decode cL_texts 264 = .ok (.invokevirtual 30, 3) := by decide +kernel
theorem dL_texts_267 : decode cL_texts 267 = .ok (.iconst 1, 1) := by decide +kernel
theorem dL_texts_268 : decode cL_texts 268 = .ok (.if_icmp .ne 120, 3) := by decide +kernel
theorem dL_texts_271 : decode cL_texts 271 = .ok (.aload_n 0, 1) := by decide +kernel
theorem dL_texts_272 : decode cL_texts 272 = .ok (.invokevirtual 100, 3) := by decide +kernel
theorem dL_texts_275 : decode cL_texts 275 = .ok (.iconst 2, 1) := by decide +kernel
theorem dL_texts_276 : decode cL_texts 276 = .ok (.if_icmp .ne 112, 3) := by decide +kernel
theorem dL_texts_279 : decode cL_texts 279 = .ok (.aload_n 0, 1) := by decide +kernel
theorem dL_texts_280 : decode cL_texts 280 = .ok (.iconst 2, 1) := by decide +kernel
theorem dL_texts_281 : decode cL_texts 281 = .ok (.invokevirtual 13, 3) := by decide +kernel
theorem dL_texts_284 : decode cL_texts 284 = .ok (.bipush 6, 2) := by decide +kernel
theorem dL_texts_286 : decode cL_texts 286 = .ok (.if_icmp .ne 102, 3) := by decide +kernel
theorem dL_texts_289 : decode cL_texts 289 = .ok (.aload_n 0, 1) := by decide +kernel
theorem dL_texts_290 : decode cL_texts 290 = .ok (.bipush 9, 2) := by decide +kernel
