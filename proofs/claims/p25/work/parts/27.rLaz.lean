theorem dL_crowded_206 : decode cL_crowded 206 = .ok (.aload_n 0, 1) := by decide +kernel
theorem dL_crowded_207 : decode cL_crowded 207 = .ok (.bipush 8, 2) := by decide +kernel
theorem dL_crowded_209 : decode cL_crowded 209 = .ok (.iconst 1, 1) := by decide +kernel
theorem dL_crowded_210 : decode cL_crowded 210 = .ok (.bipush 24, 2) := by decide +kernel
theorem dL_crowded_212 : decode cL_crowded 212 = .ok (.invokevirtual 41, 3) := by decide +kernel
theorem dL_crowded_215 : decode cL_crowded 215 = .ok (.bipush (-3), 2) := by decide +kernel
theorem dL_crowded_217 : decode cL_crowded 217 = .ok (.if_icmp .ne 92, 3) := by decide +kernel
theorem dL_crowded_220 : decode cL_crowded 220 = .ok (.aload_n 0, 1) := by decide +kernel
theorem dL_crowded_221 : decode cL_crowded 221 = .ok (.bipush 8, 2) := by decide +kernel
theorem dL_crowded_223 : decode cL_crowded 223 = .ok (.iconst 2, 1) := by decide +kernel
theorem dL_crowded_224 : decode cL_crowded 224 = .ok (.invokevirtual 19, 3) := by decide +kernel
theorem dL_crowded_227 : decode cL_crowded 227 = .ok (.bipush 32, 2) := by decide +kernel
theorem dL_crowded_229 : decode cL_crowded 229 = .ok (.if_icmp .ne 80, 3) := by decide +kernel
theorem dL_crowded_232 : decode cL_crowded 232 = .ok (.aload_n 0, 1) := by decide +kernel
theorem dL_crowded_233 : decode cL_crowded 233 = .ok (.bipush 8, 2) := by decide +kernel
theorem dL_crowded_235 : decode cL_crowded 235 = .ok (.iconst 1, 1) := by decide +kernel
theorem dL_crowded_236 : decode cL_crowded 236 = .ok (.iconst 0, 1) := by decide +kernel
theorem dL_crowded_237 : decode cL_crowded 237 = .ok (.invokevirtual 26, 3) := by decide +kernel
theorem dL_crowded_240 : decode cL_crowded 240 = .ok (.bipush (-5), 2) := by decide +kernel
theorem dL_crowded_242 : decode cL_crowded 242 = .ok (.if_icmp .ne 67, 3) := by decide +kernel
theorem dL_crowded_245 : decode cL_crowded 245 = .ok (.aload_n 0, 1) := by decide +kernel
theorem dL_crowded_246 : decode cL_crowded 246 = .ok (.bipush 8, 2) := by decide +kernel
theorem dL_crowded_248 : decode cL_crowded 248 = .ok (.invokestatic 84, 3) := by decide +kernel
theorem dL_crowded_251 : decode cL_crowded 251 = .ok (.ifCond .eq 58, 3) := by decide +kernel
theorem dL_crowded_254 : decode cL_crowded 254 = .ok (.aload_n 0, 1) := by decide +kernel
theorem dL_crowded_255 : decode cL_crowded 255 = .ok (.iconst 0, 1) := by decide +kernel
theorem dL_crowded_256 : decode cL_crowded 256 = .ok (.iconst 1, 1) := by decide +kernel
theorem dL_crowded_257 : decode cL_crowded 257 = .ok (.invokevirtual 50, 3) := by decide +kernel
theorem dL_crowded_260 : decode cL_crowded 260 = .ok (.bipush (-4), 2) := by decide +kernel
theorem dL_crowded_262 : decode cL_crowded 262 = .ok (.if_icmp .ne 47, 3) := by decide +kernel
theorem dL_crowded_265 : decode cL_crowded 265 = .ok (.aload_n 0, 1) := by decide +kernel
theorem dL_crowded_266 : decode cL_crowded 266 = .ok (.iconst 0, 1) := by decide +kernel
theorem dL_crowded_267 : decode cL_crowded 267 = .ok (.iconst 3, 1) := by decide +kernel
theorem dL_crowded_268 : decode cL_crowded 268 = .ok (.invokevirtual 50, 3) := by decide +kernel
theorem dL_crowded_271 : decode cL_crowded 271 = .ok (.iconst 2, 1) := by decide +kernel
theorem dL_crowded_272 : decode cL_crowded 272 = .ok (.if_icmp .ne 37, 3) := by decide +kernel
theorem dL_crowded_275 : decode cL_crowded 275 = .ok (.aload_n 0, 1) := by decide +kernel
theorem dL_crowded_276 : decode cL_crowded 276 = .ok (.iconst 0, 1) := by decide +kernel
theorem dL_crowded_277 : decode cL_crowded 277 = .ok (.iconst 3, 1) := by decide +kernel
theorem dL_crowded_278 : decode cL_crowded 278 = .ok (.invokevirtual 50, 3) := by decide +kernel
theorem dL_crowded_281 : decode cL_crowded 281 = .ok (.bipush (-5), 2) := by decide +kernel
theorem dL_crowded_283 : decode cL_crowded 283 = .ok (.if_icmp .ne 26, 3) := by decide +kernel
theorem dL_crowded_286 : decode cL_crowded 286 = .ok (.aload_n 0, 1) := by decide +kernel
theorem dL_crowded_287 : decode cL_crowded 287 = .ok (.bipush 8, 2) := by decide +kernel
theorem dL_crowded_289 : decode cL_crowded 289 = .ok (.iconst 1, 1) := by decide +kernel
theorem dL_crowded_290 : decode cL_crowded 290 = .ok (.bipush 24, 2) := by decide +kernel
theorem dL_crowded_292 : decode cL_crowded 292 = .ok (.invokevirtual 41, 3) := by decide +kernel
theorem dL_crowded_295 : decode cL_crowded 295 = .ok (.iconst 3, 1) := by decide +kernel
theorem dL_crowded_296 : decode cL_crowded 296 = .ok (.if_icmp .ne 13, 3) := by decide +kernel
theorem dL_crowded_299 : decode cL_crowded 299 = .ok (.aload_n 0, 1) := by decide +kernel
theorem dL_crowded_300 : decode cL_crowded 300 = .ok (.iconst 2, 1) := by decide +kernel
theorem dL_crowded_301 : decode cL_crowded 301 = .ok (.invokevirtual 13, 3) := by decide +kernel
theorem dL_crowded_304 : decode cL_crowded 304 = .ok (.bipush 12, 2) := by decide +kernel
theorem dL_crowded_306 : decode cL_crowded 306 = .ok (.if_icmp .eq 5, 3) := by decide +kernel
theorem dL_crowded_309 : decode cL_crowded 309 = .ok (.iconst 0, 1) := by decide +kernel
theorem dL_crowded_310 : decode cL_crowded 310 = .ok (.ireturn, 1) := by decide +kernel
theorem dL_crowded_311 : decode cL_crowded 311 = .ok (.aload_n 0, 1) := by decide +kernel
theorem dL_crowded_312 : decode cL_crowded 312 = .ok (.iconst 1, 1) := by decide +kernel
theorem dL_crowded_313 : decode cL_crowded 313 = .ok (.iconst 0, 1) := by decide +kernel
theorem dL_crowded_314 : decode cL_crowded 314 = .ok (.invokevirtual 50, 3) := by decide +kernel
theorem dL_crowded_317 : decode cL_crowded 317 = .ok (.iconst 1, 1) := by decide +kernel
theorem dL_crowded_318 : decode cL_crowded 318 = .ok (.if_icmp .ne 173, 3) := by decide +kernel
theorem dL_crowded_321 : decode cL_crowded 321 = .ok (.aload_n 0, 1) := by decide +kernel
theorem dL_crowded_322 : decode cL_crowded 322 = .ok (.iconst 0, 1) := by decide +kernel
theorem dL_crowded_323 : decode cL_crowded 323 = .ok (.invokevirtual 47, 3) := by decide +kernel
theorem dL_crowded_326 : decode cL_crowded 326 = .ok (.bipush 12, 2) := by decide +kernel
theorem dL_crowded_328 : decode cL_crowded 328 = .ok (.if_icmp .ne 163, 3) := by decide +kernel
theorem dL_crowded_331 : decode cL_crowded 331 = .ok (.aload_n 0, 1) := by decide +kernel
theorem dL_crowded_332 : decode cL_crowded 332 = .ok (.bipush 7, 2) := by decide +kernel
theorem dL_crowded_334 : decode cL_crowded 334 = .ok (.iconst 1, 1) := by decide +kernel
theorem dL_crowded_335 : decode cL_crowded 335 = .ok (.iconst 1, 1) := by decide +kernel
theorem dL_crowded_336 : decode cL_crowded 336 = .ok (.invokevirtual 26, 3) := by decide +kernel
theorem dL_crowded_339 : decode cL_crowded 339 = .ok (.iconst 1, 1) := by decide +kernel
theorem dL_crowded_340 : decode cL_crowded 340 = .ok (.if_icmp .ne 151, 3) := by decide +kernel
theorem dL_crowded_343 : decode cL_crowded 343 = .ok (.aload_n 0, 1) := by decide +kernel
theorem dL_crowded_344 : decode cL_crowded 344 = .ok (.bipush 7, 2) := by decide +kernel
theorem dL_crowded_346 : decode cL_crowded 346 = .ok (.iconst 2, 1) := by decide +kernel
theorem dL_crowded_347 : decode cL_crowded 347 = .ok (.iconst 1, 1) := by decide +kernel
theorem dL_crowded_348 : decode cL_crowded 348 = .ok (.invokevirtual 26, 3) := by decide +kernel
theorem dL_crowded_351 : decode cL_crowded 351 = .ok (.iconst 1, 1) := by decide +kernel
