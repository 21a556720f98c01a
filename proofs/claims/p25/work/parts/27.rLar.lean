theorem dL_refused_144 : decode cL_refused 144 = .ok (.invokevirtual 41, 3) := by decide +kernel
theorem dL_refused_147 : decode cL_refused 147 = .ok (.bipush (-5), 2) := by decide +kernel
theorem dL_refused_149 : decode cL_refused 149 = .ok (.if_icmp .ne 81, 3) := by decide +kernel
theorem dL_refused_152 : decode cL_refused 152 = .ok (.aload_n 0, 1) := by decide +kernel
theorem dL_refused_153 : decode cL_refused 153 = .ok (.iload_n 1, 1) := by decide +kernel
theorem dL_refused_154 : decode cL_refused 154 = .ok (.iload 5, 2) := by decide +kernel
theorem dL_refused_156 : decode cL_refused 156 = .ok (.ifCond .ne 7, 3) := by decide +kernel
theorem dL_refused_159 : decode cL_refused 159 = .ok (.iconst (-1), 1) := by decide +kernel
theorem dL_refused_160 : decode cL_refused 160 = .ok (.goto 5, 3) := by decide +kernel
theorem dL_refused_163 : decode cL_refused 163 = .ok (.bipush 7, 2) := by decide +kernel
theorem dL_refused_165 : decode cL_refused 165 = .ok (.invokevirtual 19, 3) := by decide +kernel
theorem dL_refused_168 : decode cL_refused 168 = .ok (.bipush (-2), 2) := by decide +kernel
theorem dL_refused_170 : decode cL_refused 170 = .ok (.if_icmp .ne 60, 3) := by decide +kernel
theorem dL_refused_173 : decode cL_refused 173 = .ok (.aload_n 0, 1) := by decide +kernel
theorem dL_refused_174 : decode cL_refused 174 = .ok (.iload_n 1, 1) := by decide +kernel
theorem dL_refused_175 : decode cL_refused 175 = .ok (.iload 5, 2) := by decide +kernel
theorem dL_refused_177 : decode cL_refused 177 = .ok (.ifCond .ne 7, 3) := by decide +kernel
theorem dL_refused_180 : decode cL_refused 180 = .ok (.iconst (-1), 1) := by decide +kernel
theorem dL_refused_181 : decode cL_refused 181 = .ok (.goto 4, 3) := by decide +kernel
theorem dL_refused_184 : decode cL_refused 184 = .ok (.iconst 3, 1) := by decide +kernel
theorem dL_refused_185 : decode cL_refused 185 = .ok (.iconst (-1), 1) := by decide +kernel
theorem dL_refused_186 : decode cL_refused 186 = .ok (.invokevirtual 26, 3) := by decide +kernel
theorem dL_refused_189 : decode cL_refused 189 = .ok (.iconst (-1), 1) := by decide +kernel
theorem dL_refused_190 : decode cL_refused 190 = .ok (.if_icmp .ne 40, 3) := by decide +kernel
theorem dL_refused_193 : decode cL_refused 193 = .ok (.aload_n 0, 1) := by decide +kernel
theorem dL_refused_194 : decode cL_refused 194 = .ok (.iload_n 1, 1) := by decide +kernel
theorem dL_refused_195 : decode cL_refused 195 = .ok (.iconst 0, 1) := by decide +kernel
theorem dL_refused_196 : decode cL_refused 196 = .ok (.iconst (-1), 1) := by decide +kernel
theorem dL_refused_197 : decode cL_refused 197 = .ok (.iload 5, 2) := by decide +kernel
theorem dL_refused_199 : decode cL_refused 199 = .ok (.isub, 1) := by decide +kernel
theorem dL_refused_200 : decode cL_refused 200 = .ok (.invokevirtual 26, 3) := by decide +kernel
theorem dL_refused_203 : decode cL_refused 203 = .ok (.bipush (-2), 2) := by decide +kernel
theorem dL_refused_205 : decode cL_refused 205 = .ok (.if_icmp .ne 25, 3) := by decide +kernel
theorem dL_refused_208 : decode cL_refused 208 = .ok (.aload_n 0, 1) := by decide +kernel
theorem dL_refused_209 : decode cL_refused 209 = .ok (.iload_n 1, 1) := by decide +kernel
theorem dL_refused_210 : decode cL_refused 210 = .ok (.iload 5, 2) := by decide +kernel
theorem dL_refused_212 : decode cL_refused 212 = .ok (.ifCond .ne 7, 3) := by decide +kernel
theorem dL_refused_215 : decode cL_refused 215 = .ok (.iconst (-1), 1) := by decide +kernel
theorem dL_refused_216 : decode cL_refused 216 = .ok (.goto 6, 3) := by decide +kernel
theorem dL_refused_219 : decode cL_refused 219 = .ok (.sipush 256, 3) := by decide +kernel
theorem dL_refused_222 : decode cL_refused 222 = .ok (.invokevirtual 53, 3) := by decide +kernel
theorem dL_refused_225 : decode cL_refused 225 = .ok (.bipush (-2), 2) := by decide +kernel
theorem dL_refused_227 : decode cL_refused 227 = .ok (.if_icmp .eq 5, 3) := by decide +kernel
theorem dL_refused_230 : decode cL_refused 230 = .ok (.iconst 0, 1) := by decide +kernel
theorem dL_refused_231 : decode cL_refused 231 = .ok (.ireturn, 1) := by decide +kernel
theorem dL_refused_232 : decode cL_refused 232 = .ok (.iinc 5 1, 3) := by decide +kernel
theorem dL_refused_235 : decode cL_refused 235 = .ok (.goto (-219), 3) := by decide +kernel
theorem dL_refused_238 : decode cL_refused 238 = .ok (.aload_n 0, 1) := by decide +kernel
theorem dL_refused_239 : decode cL_refused 239 = .ok (.iconst 0, 1) := by decide +kernel
theorem dL_refused_240 : decode cL_refused 240 = .ok (.invokestatic 69, 3) := by decide +kernel
theorem dL_refused_243 : decode cL_refused 243 = .ok (.ifCond .eq 35, 3) := by decide +kernel
theorem dL_refused_246 : decode cL_refused 246 = .ok (.aload_n 0, 1) := by decide +kernel
theorem dL_refused_247 : decode cL_refused 247 = .ok (.iconst 1, 1) := by decide +kernel
theorem dL_refused_248 : decode cL_refused 248 = .ok (.invokestatic 69, 3) := by decide +kernel
theorem dL_refused_251 : decode cL_refused 251 = .ok (.ifCond .eq 27, 3) := by decide +kernel
theorem dL_refused_254 : decode cL_refused 254 = .ok (.aload_n 0, 1) := by decide +kernel
theorem dL_refused_255 : decode cL_refused 255 = .ok (.invokestatic 65, 3) := by decide +kernel
theorem dL_refused_258 : decode cL_refused 258 = .ok (.lload_n 2, 1) := by decide +kernel
theorem dL_refused_259 : decode cL_refused 259 = .ok (.lcmp, 1) := by decide +kernel
theorem dL_refused_260 : decode cL_refused 260 = .ok (.ifCond .ne 18, 3) := by decide +kernel
theorem dL_refused_263 : decode cL_refused 263 = .ok (.aload_n 0, 1) := by decide +kernel
theorem dL_refused_264 : decode cL_refused 264 = .ok (.bipush 9, 2) := by decide +kernel
theorem dL_refused_266 : decode cL_refused 266 = .ok (.invokevirtual 13, 3) := by decide +kernel
theorem dL_refused_269 : decode cL_refused 269 = .ok (.iload 4, 2) := by decide +kernel
theorem dL_refused_271 : decode cL_refused 271 = .ok (.if_icmp .ne 7, 3) := by decide +kernel
theorem dL_refused_274 : decode cL_refused 274 = .ok (.iconst 1, 1) := by decide +kernel
theorem dL_refused_275 : decode cL_refused 275 = .ok (.goto 4, 3) := by decide +kernel
theorem dL_refused_278 : decode cL_refused 278 = .ok (.iconst 0, 1) := by decide +kernel
theorem dL_refused_279 : decode cL_refused 279 = .ok (.ireturn, 1) := by decide +kernel
theorem dL_two_0 : decode cL_two 0 = .ok (.new 14, 3) := by decide +kernel
theorem dL_two_3 : decode cL_two 3 = .ok (.dup, 1) := by decide +kernel
theorem dL_two_4 : decode cL_two 4 = .ok (.invokespecial 73, 3) := by decide +kernel
theorem dL_two_7 : decode cL_two 7 = .ok (.astore_n 0, 1) := by decide +kernel
theorem dL_two_8 : decode cL_two 8 = .ok (.aload_n 0, 1) := by decide +kernel
theorem dL_two_9 : decode cL_two 9 = .ok (.invokevirtual 74, 3) := by decide +kernel
theorem dL_two_12 : decode cL_two 12 = .ok (.bipush (-5), 2) := by decide +kernel
theorem dL_two_14 : decode cL_two 14 = .ok (.if_icmp .ne 282, 3) := by decide +kernel
theorem dL_two_17 : decode cL_two 17 = .ok (.aload_n 0, 1) := by decide +kernel
theorem dL_two_18 : decode cL_two 18 = .ok (.invokevirtual 78, 3) := by decide +kernel
theorem dL_two_21 : decode cL_two 21 = .ok (.bipush (-5), 2) := by decide +kernel
