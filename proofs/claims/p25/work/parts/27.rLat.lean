theorem dL_two_171 : decode cL_two 171 = .ok (.invokevirtual 23, 3) := by decide +kernel
theorem dL_two_174 : decode cL_two 174 = .ok (.iconst 1, 1) := by decide +kernel
theorem dL_two_175 : decode cL_two 175 = .ok (.if_icmp .ne 121, 3) := by decide +kernel
theorem dL_two_178 : decode cL_two 178 = .ok (.aload_n 0, 1) := by decide +kernel
theorem dL_two_179 : decode cL_two 179 = .ok (.bipush 6, 2) := by decide +kernel
theorem dL_two_181 : decode cL_two 181 = .ok (.iconst 0, 1) := by decide +kernel
theorem dL_two_182 : decode cL_two 182 = .ok (.invokevirtual 23, 3) := by decide +kernel
theorem dL_two_185 : decode cL_two 185 = .ok (.iconst 1, 1) := by decide +kernel
theorem dL_two_186 : decode cL_two 186 = .ok (.if_icmp .ne 110, 3) := by decide +kernel
theorem dL_two_189 : decode cL_two 189 = .ok (.aload_n 0, 1) := by decide +kernel
theorem dL_two_190 : decode cL_two 190 = .ok (.iconst 2, 1) := by decide +kernel
theorem dL_two_191 : decode cL_two 191 = .ok (.iconst 3, 1) := by decide +kernel
theorem dL_two_192 : decode cL_two 192 = .ok (.invokevirtual 23, 3) := by decide +kernel
theorem dL_two_195 : decode cL_two 195 = .ok (.iconst 1, 1) := by decide +kernel
theorem dL_two_196 : decode cL_two 196 = .ok (.if_icmp .ne 100, 3) := by decide +kernel
theorem dL_two_199 : decode cL_two 199 = .ok (.aload_n 0, 1) := by decide +kernel
theorem dL_two_200 : decode cL_two 200 = .ok (.iconst 1, 1) := by decide +kernel
theorem dL_two_201 : decode cL_two 201 = .ok (.bipush 7, 2) := by decide +kernel
theorem dL_two_203 : decode cL_two 203 = .ok (.invokevirtual 23, 3) := by decide +kernel
theorem dL_two_206 : decode cL_two 206 = .ok (.ifCond .ne 90, 3) := by decide +kernel
theorem dL_two_209 : decode cL_two 209 = .ok (.aload_n 0, 1) := by decide +kernel
theorem dL_two_210 : decode cL_two 210 = .ok (.iconst 0, 1) := by decide +kernel
theorem dL_two_211 : decode cL_two 211 = .ok (.iconst 0, 1) := by decide +kernel
theorem dL_two_212 : decode cL_two 212 = .ok (.iconst 0, 1) := by decide +kernel
theorem dL_two_213 : decode cL_two 213 = .ok (.invokevirtual 26, 3) := by decide +kernel
theorem dL_two_216 : decode cL_two 216 = .ok (.ifCond .ne 80, 3) := by decide +kernel
theorem dL_two_219 : decode cL_two 219 = .ok (.aload_n 0, 1) := by decide +kernel
theorem dL_two_220 : decode cL_two 220 = .ok (.iconst 0, 1) := by decide +kernel
theorem dL_two_221 : decode cL_two 221 = .ok (.iconst 0, 1) := by decide +kernel
theorem dL_two_222 : decode cL_two 222 = .ok (.iconst 1, 1) := by decide +kernel
theorem dL_two_223 : decode cL_two 223 = .ok (.invokevirtual 26, 3) := by decide +kernel
theorem dL_two_226 : decode cL_two 226 = .ok (.bipush (-5), 2) := by decide +kernel
theorem dL_two_228 : decode cL_two 228 = .ok (.if_icmp .ne 68, 3) := by decide +kernel
theorem dL_two_231 : decode cL_two 231 = .ok (.aload_n 0, 1) := by decide +kernel
theorem dL_two_232 : decode cL_two 232 = .ok (.iconst 0, 1) := by decide +kernel
theorem dL_two_233 : decode cL_two 233 = .ok (.iconst 2, 1) := by decide +kernel
theorem dL_two_234 : decode cL_two 234 = .ok (.iconst 0, 1) := by decide +kernel
theorem dL_two_235 : decode cL_two 235 = .ok (.invokevirtual 26, 3) := by decide +kernel
theorem dL_two_238 : decode cL_two 238 = .ok (.bipush (-5), 2) := by decide +kernel
theorem dL_two_240 : decode cL_two 240 = .ok (.if_icmp .ne 56, 3) := by decide +kernel
theorem dL_two_243 : decode cL_two 243 = .ok (.aload_n 0, 1) := by decide +kernel
theorem dL_two_244 : decode cL_two 244 = .ok (.iconst 2, 1) := by decide +kernel
theorem dL_two_245 : decode cL_two 245 = .ok (.iconst 1, 1) := by decide +kernel
theorem dL_two_246 : decode cL_two 246 = .ok (.iconst 0, 1) := by decide +kernel
theorem dL_two_247 : decode cL_two 247 = .ok (.invokevirtual 26, 3) := by decide +kernel
theorem dL_two_250 : decode cL_two 250 = .ok (.iconst 5, 1) := by decide +kernel
theorem dL_two_251 : decode cL_two 251 = .ok (.if_icmp .ne 45, 3) := by decide +kernel
theorem dL_two_254 : decode cL_two 254 = .ok (.aload_n 0, 1) := by decide +kernel
theorem dL_two_255 : decode cL_two 255 = .ok (.iconst 2, 1) := by decide +kernel
theorem dL_two_256 : decode cL_two 256 = .ok (.iconst 1, 1) := by decide +kernel
theorem dL_two_257 : decode cL_two 257 = .ok (.iconst 1, 1) := by decide +kernel
theorem dL_two_258 : decode cL_two 258 = .ok (.invokevirtual 26, 3) := by decide +kernel
theorem dL_two_261 : decode cL_two 261 = .ok (.iconst 4, 1) := by decide +kernel
theorem dL_two_262 : decode cL_two 262 = .ok (.if_icmp .ne 34, 3) := by decide +kernel
theorem dL_two_265 : decode cL_two 265 = .ok (.aload_n 0, 1) := by decide +kernel
theorem dL_two_266 : decode cL_two 266 = .ok (.iconst 2, 1) := by decide +kernel
theorem dL_two_267 : decode cL_two 267 = .ok (.iconst 1, 1) := by decide +kernel
theorem dL_two_268 : decode cL_two 268 = .ok (.iconst 3, 1) := by decide +kernel
theorem dL_two_269 : decode cL_two 269 = .ok (.invokevirtual 26, 3) := by decide +kernel
theorem dL_two_272 : decode cL_two 272 = .ok (.iconst 2, 1) := by decide +kernel
theorem dL_two_273 : decode cL_two 273 = .ok (.if_icmp .ne 23, 3) := by decide +kernel
theorem dL_two_276 : decode cL_two 276 = .ok (.aload_n 0, 1) := by decide +kernel
theorem dL_two_277 : decode cL_two 277 = .ok (.iconst 2, 1) := by decide +kernel
theorem dL_two_278 : decode cL_two 278 = .ok (.iconst 1, 1) := by decide +kernel
theorem dL_two_279 : decode cL_two 279 = .ok (.iconst 4, 1) := by decide +kernel
theorem dL_two_280 : decode cL_two 280 = .ok (.invokevirtual 26, 3) := by decide +kernel
theorem dL_two_283 : decode cL_two 283 = .ok (.bipush (-5), 2) := by decide +kernel
theorem dL_two_285 : decode cL_two 285 = .ok (.if_icmp .ne 11, 3) := by decide +kernel
theorem dL_two_288 : decode cL_two 288 = .ok (.aload_n 0, 1) := by decide +kernel
theorem dL_two_289 : decode cL_two 289 = .ok (.iconst 2, 1) := by decide +kernel
theorem dL_two_290 : decode cL_two 290 = .ok (.invokestatic 84, 3) := by decide +kernel
theorem dL_two_293 : decode cL_two 293 = .ok (.ifCond .ne 5, 3) := by decide +kernel
theorem dL_two_296 : decode cL_two 296 = .ok (.iconst 0, 1) := by decide +kernel
theorem dL_two_297 : decode cL_two 297 = .ok (.ireturn, 1) := by decide +kernel
theorem dL_two_298 : decode cL_two 298 = .ok (.aload_n 0, 1) := by decide +kernel
theorem dL_two_299 : decode cL_two 299 = .ok (.iconst 0, 1) := by decide +kernel
theorem dL_two_300 : decode cL_two 300 = .ok (.iconst 3, 1) := by decide +kernel
theorem dL_two_301 : decode cL_two 301 = .ok (.invokevirtual 53, 3) := by decide +kernel
theorem dL_two_304 : decode cL_two 304 = .ok (.iconst 1, 1) := by decide +kernel
theorem dL_two_305 : decode cL_two 305 = .ok (.if_icmp .ne 161, 3) := by decide +kernel
