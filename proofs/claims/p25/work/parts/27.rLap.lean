theorem dL_refusesAny_205 : decode cL_refusesAny 205 = .ok (.iconst (-1), 1) := by decide +kernel
theorem dL_refusesAny_206 : decode cL_refusesAny 206 = .ok (.if_icmp .ne 150, 3) := by decide +kernel
theorem dL_refusesAny_209 : decode cL_refusesAny 209 = .ok (.aload_n 0, 1) := by decide +kernel
theorem dL_refusesAny_210 : decode cL_refusesAny 210 = .ok (.iload_n 2, 1) := by decide +kernel
theorem dL_refusesAny_211 : decode cL_refusesAny 211 = .ok (.iconst 0, 1) := by decide +kernel
theorem dL_refusesAny_212 : decode cL_refusesAny 212 = .ok (.invokevirtual 23, 3) := by decide +kernel
theorem dL_refusesAny_215 : decode cL_refusesAny 215 = .ok (.iconst (-1), 1) := by decide +kernel
theorem dL_refusesAny_216 : decode cL_refusesAny 216 = .ok (.if_icmp .ne 140, 3) := by decide +kernel
theorem dL_refusesAny_219 : decode cL_refusesAny 219 = .ok (.aload_n 0, 1) := by decide +kernel
theorem dL_refusesAny_220 : decode cL_refusesAny 220 = .ok (.iconst 0, 1) := by decide +kernel
theorem dL_refusesAny_221 : decode cL_refusesAny 221 = .ok (.iload_n 2, 1) := by decide +kernel
theorem dL_refusesAny_222 : decode cL_refusesAny 222 = .ok (.invokevirtual 23, 3) := by decide +kernel
theorem dL_refusesAny_225 : decode cL_refusesAny 225 = .ok (.iconst (-1), 1) := by decide +kernel
theorem dL_refusesAny_226 : decode cL_refusesAny 226 = .ok (.if_icmp .ne 130, 3) := by decide +kernel
theorem dL_refusesAny_229 : decode cL_refusesAny 229 = .ok (.aload_n 0, 1) := by decide +kernel
theorem dL_refusesAny_230 : decode cL_refusesAny 230 = .ok (.iconst 5, 1) := by decide +kernel
theorem dL_refusesAny_231 : decode cL_refusesAny 231 = .ok (.bipush 6, 2) := by decide +kernel
theorem dL_refusesAny_233 : decode cL_refusesAny 233 = .ok (.invokevirtual 23, 3) := by decide +kernel
theorem dL_refusesAny_236 : decode cL_refusesAny 236 = .ok (.iconst (-1), 1) := by decide +kernel
theorem dL_refusesAny_237 : decode cL_refusesAny 237 = .ok (.if_icmp .ne 119, 3) := by decide +kernel
theorem dL_refusesAny_240 : decode cL_refusesAny 240 = .ok (.aload_n 0, 1) := by decide +kernel
theorem dL_refusesAny_241 : decode cL_refusesAny 241 = .ok (.iconst 0, 1) := by decide +kernel
theorem dL_refusesAny_242 : decode cL_refusesAny 242 = .ok (.iconst 0, 1) := by decide +kernel
theorem dL_refusesAny_243 : decode cL_refusesAny 243 = .ok (.invokevirtual 23, 3) := by decide +kernel
theorem dL_refusesAny_246 : decode cL_refusesAny 246 = .ok (.iconst (-1), 1) := by decide +kernel
theorem dL_refusesAny_247 : decode cL_refusesAny 247 = .ok (.if_icmp .ne 109, 3) := by decide +kernel
theorem dL_refusesAny_250 : decode cL_refusesAny 250 = .ok (.aload_n 0, 1) := by decide +kernel
theorem dL_refusesAny_251 : decode cL_refusesAny 251 = .ok (.iconst 0, 1) := by decide +kernel
theorem dL_refusesAny_252 : decode cL_refusesAny 252 = .ok (.iload_n 1, 1) := by decide +kernel
theorem dL_refusesAny_253 : decode cL_refusesAny 253 = .ok (.ifCond .ne 8, 3) := by decide +kernel
theorem dL_refusesAny_256 : decode cL_refusesAny 256 = .ok (.bipush 7, 2) := by decide +kernel
theorem dL_refusesAny_258 : decode cL_refusesAny 258 = .ok (.goto 5, 3) := by decide +kernel
theorem dL_refusesAny_261 : decode cL_refusesAny 261 = .ok (.bipush 12, 2) := by decide +kernel
theorem dL_refusesAny_263 : decode cL_refusesAny 263 = .ok (.invokevirtual 23, 3) := by decide +kernel
theorem dL_refusesAny_266 : decode cL_refusesAny 266 = .ok (.iconst (-1), 1) := by decide +kernel
theorem dL_refusesAny_267 : decode cL_refusesAny 267 = .ok (.if_icmp .ne 89, 3) := by decide +kernel
theorem dL_refusesAny_270 : decode cL_refusesAny 270 = .ok (.aload_n 0, 1) := by decide +kernel
theorem dL_refusesAny_271 : decode cL_refusesAny 271 = .ok (.iload_n 2, 1) := by decide +kernel
theorem dL_refusesAny_272 : decode cL_refusesAny 272 = .ok (.sipush 999, 3) := by decide +kernel
theorem dL_refusesAny_275 : decode cL_refusesAny 275 = .ok (.invokevirtual 53, 3) := by decide +kernel
theorem dL_refusesAny_278 : decode cL_refusesAny 278 = .ok (.iconst (-1), 1) := by decide +kernel
theorem dL_refusesAny_279 : decode cL_refusesAny 279 = .ok (.if_icmp .ne 77, 3) := by decide +kernel
theorem dL_refusesAny_282 : decode cL_refusesAny 282 = .ok (.aload_n 0, 1) := by decide +kernel
theorem dL_refusesAny_283 : decode cL_refusesAny 283 = .ok (.iload_n 2, 1) := by decide +kernel
theorem dL_refusesAny_284 : decode cL_refusesAny 284 = .ok (.invokevirtual 56, 3) := by decide +kernel
theorem dL_refusesAny_287 : decode cL_refusesAny 287 = .ok (.iconst (-1), 1) := by decide +kernel
theorem dL_refusesAny_288 : decode cL_refusesAny 288 = .ok (.if_icmp .ne 68, 3) := by decide +kernel
theorem dL_refusesAny_291 : decode cL_refusesAny 291 = .ok (.aload_n 0, 1) := by decide +kernel
theorem dL_refusesAny_292 : decode cL_refusesAny 292 = .ok (.iload_n 2, 1) := by decide +kernel
theorem dL_refusesAny_293 : decode cL_refusesAny 293 = .ok (.iconst 0, 1) := by decide +kernel
theorem dL_refusesAny_294 : decode cL_refusesAny 294 = .ok (.invokevirtual 59, 3) := by decide +kernel
theorem dL_refusesAny_297 : decode cL_refusesAny 297 = .ok (.iconst (-1), 1) := by decide +kernel
theorem dL_refusesAny_298 : decode cL_refusesAny 298 = .ok (.if_icmp .ne 58, 3) := by decide +kernel
theorem dL_refusesAny_301 : decode cL_refusesAny 301 = .ok (.aload_n 0, 1) := by decide +kernel
theorem dL_refusesAny_302 : decode cL_refusesAny 302 = .ok (.iconst 0, 1) := by decide +kernel
theorem dL_refusesAny_303 : decode cL_refusesAny 303 = .ok (.iload_n 2, 1) := by decide +kernel
theorem dL_refusesAny_304 : decode cL_refusesAny 304 = .ok (.invokevirtual 59, 3) := by decide +kernel
theorem dL_refusesAny_307 : decode cL_refusesAny 307 = .ok (.iconst (-1), 1) := by decide +kernel
theorem dL_refusesAny_308 : decode cL_refusesAny 308 = .ok (.if_icmp .ne 48, 3) := by decide +kernel
theorem dL_refusesAny_311 : decode cL_refusesAny 311 = .ok (.aload_n 0, 1) := by decide +kernel
theorem dL_refusesAny_312 : decode cL_refusesAny 312 = .ok (.bipush 9, 2) := by decide +kernel
theorem dL_refusesAny_314 : decode cL_refusesAny 314 = .ok (.bipush 9, 2) := by decide +kernel
theorem dL_refusesAny_316 : decode cL_refusesAny 316 = .ok (.invokevirtual 59, 3) := by decide +kernel
theorem dL_refusesAny_319 : decode cL_refusesAny 319 = .ok (.bipush (-5), 2) := by decide +kernel
theorem dL_refusesAny_321 : decode cL_refusesAny 321 = .ok (.if_icmp .ne 35, 3) := by decide +kernel
theorem dL_refusesAny_324 : decode cL_refusesAny 324 = .ok (.aload_n 0, 1) := by decide +kernel
theorem dL_refusesAny_325 : decode cL_refusesAny 325 = .ok (.iload_n 2, 1) := by decide +kernel
theorem dL_refusesAny_326 : decode cL_refusesAny 326 = .ok (.invokevirtual 62, 3) := by decide +kernel
theorem dL_refusesAny_329 : decode cL_refusesAny 329 = .ok (.iconst (-1), 1) := by decide +kernel
theorem dL_refusesAny_330 : decode cL_refusesAny 330 = .ok (.if_icmp .ne 26, 3) := by decide +kernel
theorem dL_refusesAny_333 : decode cL_refusesAny 333 = .ok (.aload_n 0, 1) := by decide +kernel
theorem dL_refusesAny_334 : decode cL_refusesAny 334 = .ok (.iload_n 1, 1) := by decide +kernel
theorem dL_refusesAny_335 : decode cL_refusesAny 335 = .ok (.ifCond .ne 7, 3) := by decide +kernel
theorem dL_refusesAny_338 : decode cL_refusesAny 338 = .ok (.iconst (-1), 1) := by decide +kernel
theorem dL_refusesAny_339 : decode cL_refusesAny 339 = .ok (.goto 5, 3) := by decide +kernel
theorem dL_refusesAny_342 : decode cL_refusesAny 342 = .ok (.bipush 11, 2) := by decide +kernel
theorem dL_refusesAny_344 : decode cL_refusesAny 344 = .ok (.invokevirtual 13, 3) := by decide +kernel
theorem dL_refusesAny_347 : decode cL_refusesAny 347 = .ok (.bipush (-2), 2) := by decide +kernel
theorem dL_refusesAny_349 : decode cL_refusesAny 349 = .ok (.if_icmp .ne 7, 3) := by decide +kernel
theorem dL_refusesAny_352 : decode cL_refusesAny 352 = .ok (.iconst 1, 1) := by decide +kernel
