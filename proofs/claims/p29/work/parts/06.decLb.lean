theorem dL_areDancers_317 : decode cL_areDancers 317 = .ok (.iaload, 1) := by decide +kernel
theorem dL_areDancers_318 : decode cL_areDancers 318 = .ok (.if_icmp .ne 44, 3) := by decide +kernel
theorem dL_areDancers_321 : decode cL_areDancers 321 = .ok (.aload_n 0, 1) := by decide +kernel
theorem dL_areDancers_322 : decode cL_areDancers 322 = .ok (.iconst 2, 1) := by decide +kernel
theorem dL_areDancers_323 : decode cL_areDancers 323 = .ok (.invokevirtual 59, 3) := by decide +kernel
theorem dL_areDancers_326 : decode cL_areDancers 326 = .ok (.aload 5, 2) := by decide +kernel
theorem dL_areDancers_328 : decode cL_areDancers 328 = .ok (.iconst 2, 1) := by decide +kernel
theorem dL_areDancers_329 : decode cL_areDancers 329 = .ok (.iaload, 1) := by decide +kernel
theorem dL_areDancers_330 : decode cL_areDancers 330 = .ok (.if_icmp .ne 32, 3) := by decide +kernel
theorem dL_areDancers_333 : decode cL_areDancers 333 = .ok (.aload_n 0, 1) := by decide +kernel
theorem dL_areDancers_334 : decode cL_areDancers 334 = .ok (.iconst 3, 1) := by decide +kernel
theorem dL_areDancers_335 : decode cL_areDancers 335 = .ok (.invokevirtual 59, 3) := by decide +kernel
theorem dL_areDancers_338 : decode cL_areDancers 338 = .ok (.bipush (-2), 2) := by decide +kernel
theorem dL_areDancers_340 : decode cL_areDancers 340 = .ok (.if_icmp .ne 22, 3) := by decide +kernel
theorem dL_areDancers_343 : decode cL_areDancers 343 = .ok (.aload_n 0, 1) := by decide +kernel
theorem dL_areDancers_344 : decode cL_areDancers 344 = .ok (.invokevirtual 62, 3) := by decide +kernel
theorem dL_areDancers_347 : decode cL_areDancers 347 = .ok (.iload 7, 2) := by decide +kernel
theorem dL_areDancers_349 : decode cL_areDancers 349 = .ok (.i2d, 1) := by decide +kernel
theorem dL_areDancers_350 : decode cL_areDancers 350 = .ok (.ldc2_w 66, 3) := by decide +kernel
theorem dL_areDancers_353 : decode cL_areDancers 353 = .ok (.ddiv, 1) := by decide +kernel
theorem dL_areDancers_354 : decode cL_areDancers 354 = .ok (.dcmp .l, 1) := by decide +kernel
theorem dL_areDancers_355 : decode cL_areDancers 355 = .ok (.ifCond .ne 7, 3) := by decide +kernel
theorem dL_areDancers_358 : decode cL_areDancers 358 = .ok (.iconst 1, 1) := by decide +kernel
theorem dL_areDancers_359 : decode cL_areDancers 359 = .ok (.goto 4, 3) := by decide +kernel
theorem dL_areDancers_362 : decode cL_areDancers 362 = .ok (.iconst 0, 1) := by decide +kernel
theorem dL_areDancers_363 : decode cL_areDancers 363 = .ok (.ireturn, 1) := by decide +kernel
theorem dL_isFigure_0 : decode cL_isFigure 0 = .ok (.aload 4, 2) := by decide +kernel
theorem dL_isFigure_2 : decode cL_isFigure 2 = .ok (.aload 5, 2) := by decide +kernel
theorem dL_isFigure_4 : decode cL_isFigure 4 = .ok (.aload_n 1, 1) := by decide +kernel
theorem dL_isFigure_5 : decode cL_isFigure 5 = .ok (.aload_n 2, 1) := by decide +kernel
theorem dL_isFigure_6 : decode cL_isFigure 6 = .ok (.aload_n 3, 1) := by decide +kernel
theorem dL_isFigure_7 : decode cL_isFigure 7 = .ok (.iload 6, 2) := by decide +kernel
theorem dL_isFigure_9 : decode cL_isFigure 9 = .ok (.invokestatic 68, 3) := by decide +kernel
theorem dL_isFigure_12 : decode cL_isFigure 12 = .ok (.iconst 0, 1) := by decide +kernel
theorem dL_isFigure_13 : decode cL_isFigure 13 = .ok (.istore 7, 2) := by decide +kernel
theorem dL_isFigure_15 : decode cL_isFigure 15 = .ok (.iconst 0, 1) := by decide +kernel
theorem dL_isFigure_16 : decode cL_isFigure 16 = .ok (.istore 8, 2) := by decide +kernel
theorem dL_isFigure_18 : decode cL_isFigure 18 = .ok (.iconst 0, 1) := by decide +kernel
theorem dL_isFigure_19 : decode cL_isFigure 19 = .ok (.istore 9, 2) := by decide +kernel
theorem dL_isFigure_21 : decode cL_isFigure 21 = .ok (.iconst 0, 1) := by decide +kernel
theorem dL_isFigure_22 : decode cL_isFigure 22 = .ok (.istore 10, 2) := by decide +kernel
theorem dL_isFigure_24 : decode cL_isFigure 24 = .ok (.aload_n 0, 1) := by decide +kernel
theorem dL_isFigure_25 : decode cL_isFigure 25 = .ok (.iload 6, 2) := by decide +kernel
theorem dL_isFigure_27 : decode cL_isFigure 27 = .ok (.iconst 0, 1) := by decide +kernel
theorem dL_isFigure_28 : decode cL_isFigure 28 = .ok (.invokevirtual 72, 3) := by decide +kernel
theorem dL_isFigure_31 : decode cL_isFigure 31 = .ok (.aload_n 3, 1) := by decide +kernel
theorem dL_isFigure_32 : decode cL_isFigure 32 = .ok (.iload 6, 2) := by decide +kernel
theorem dL_isFigure_34 : decode cL_isFigure 34 = .ok (.iaload, 1) := by decide +kernel
theorem dL_isFigure_35 : decode cL_isFigure 35 = .ok (.if_icmp .ne 69, 3) := by decide +kernel
theorem dL_isFigure_38 : decode cL_isFigure 38 = .ok (.aload_n 0, 1) := by decide +kernel
theorem dL_isFigure_39 : decode cL_isFigure 39 = .ok (.iload 6, 2) := by decide +kernel
theorem dL_isFigure_41 : decode cL_isFigure 41 = .ok (.iconst 1, 1) := by decide +kernel
theorem dL_isFigure_42 : decode cL_isFigure 42 = .ok (.invokevirtual 72, 3) := by decide +kernel
theorem dL_isFigure_45 : decode cL_isFigure 45 = .ok (.aload_n 3, 1) := by decide +kernel
theorem dL_isFigure_46 : decode cL_isFigure 46 = .ok (.bipush 8, 2) := by decide +kernel
theorem dL_isFigure_48 : decode cL_isFigure 48 = .ok (.iload 6, 2) := by decide +kernel
theorem dL_isFigure_50 : decode cL_isFigure 50 = .ok (.iadd, 1) := by decide +kernel
theorem dL_isFigure_51 : decode cL_isFigure 51 = .ok (.iaload, 1) := by decide +kernel
theorem dL_isFigure_52 : decode cL_isFigure 52 = .ok (.if_icmp .ne 52, 3) := by decide +kernel
theorem dL_isFigure_55 : decode cL_isFigure 55 = .ok (.aload_n 0, 1) := by decide +kernel
theorem dL_isFigure_56 : decode cL_isFigure 56 = .ok (.iload 6, 2) := by decide +kernel
theorem dL_isFigure_58 : decode cL_isFigure 58 = .ok (.iconst 2, 1) := by decide +kernel
theorem dL_isFigure_59 : decode cL_isFigure 59 = .ok (.invokevirtual 72, 3) := by decide +kernel
theorem dL_isFigure_62 : decode cL_isFigure 62 = .ok (.aload 4, 2) := by decide +kernel
theorem dL_isFigure_64 : decode cL_isFigure 64 = .ok (.aload 5, 2) := by decide +kernel
theorem dL_isFigure_66 : decode cL_isFigure 66 = .ok (.invokestatic 75, 3) := by decide +kernel
theorem dL_isFigure_69 : decode cL_isFigure 69 = .ok (.if_icmp .ne 35, 3) := by decide +kernel
theorem dL_isFigure_72 : decode cL_isFigure 72 = .ok (.aload_n 0, 1) := by decide +kernel
theorem dL_isFigure_73 : decode cL_isFigure 73 = .ok (.iload 6, 2) := by decide +kernel
theorem dL_isFigure_75 : decode cL_isFigure 75 = .ok (.bipush 8, 2) := by decide +kernel
theorem dL_isFigure_77 : decode cL_isFigure 77 = .ok (.invokevirtual 72, 3) := by decide +kernel
theorem dL_isFigure_80 : decode cL_isFigure 80 = .ok (.bipush (-2), 2) := by decide +kernel
theorem dL_isFigure_82 : decode cL_isFigure 82 = .ok (.if_icmp .ne 22, 3) := by decide +kernel
theorem dL_isFigure_85 : decode cL_isFigure 85 = .ok (.aload_n 0, 1) := by decide +kernel
theorem dL_isFigure_86 : decode cL_isFigure 86 = .ok (.iload 6, 2) := by decide +kernel
theorem dL_isFigure_88 : decode cL_isFigure 88 = .ok (.aload_n 3, 1) := by decide +kernel
theorem dL_isFigure_89 : decode cL_isFigure 89 = .ok (.iload 6, 2) := by decide +kernel
theorem dL_isFigure_91 : decode cL_isFigure 91 = .ok (.iaload, 1) := by decide +kernel
theorem dL_isFigure_92 : decode cL_isFigure 92 = .ok (.iconst 0, 1) := by decide +kernel
theorem dL_isFigure_93 : decode cL_isFigure 93 = .ok (.invokevirtual 79, 3) := by decide +kernel
theorem dL_isFigure_96 : decode cL_isFigure 96 = .ok (.iconst (-1), 1) := by decide +kernel
theorem dL_isFigure_97 : decode cL_isFigure 97 = .ok (.if_icmp .ne 7, 3) := by decide +kernel
theorem dL_isFigure_100 : decode cL_isFigure 100 = .ok (.iconst 1, 1) := by decide +kernel
theorem dL_isFigure_101 : decode cL_isFigure 101 = .ok (.goto 4, 3) := by decide +kernel
theorem dL_isFigure_104 : decode cL_isFigure 104 = .ok (.iconst 0, 1) := by decide +kernel
theorem dL_isFigure_105 : decode cL_isFigure 105 = .ok (.istore 11, 2) := by decide +kernel
theorem dL_isFigure_107 : decode cL_isFigure 107 = .ok (.iconst 0, 1) := by decide +kernel
theorem dL_isFigure_108 : decode cL_isFigure 108 = .ok (.istore 12, 2) := by decide +kernel
theorem dL_isFigure_110 : decode cL_isFigure 110 = .ok (.iload 12, 2) := by decide +kernel
theorem dL_isFigure_112 : decode cL_isFigure 112 = .ok (.aload_n 3, 1) := by decide +kernel
theorem dL_isFigure_113 : decode cL_isFigure 113 = .ok (.iload 6, 2) := by decide +kernel
theorem dL_isFigure_115 : decode cL_isFigure 115 = .ok (.iaload, 1) := by decide +kernel
theorem dL_isFigure_116 : decode cL_isFigure 116 = .ok (.if_icmp .ge 86, 3) := by decide +kernel
theorem dL_isFigure_119 : decode cL_isFigure 119 = .ok (.aload_n 1, 1) := by decide +kernel
theorem dL_isFigure_120 : decode cL_isFigure 120 = .ok (.aload_n 2, 1) := by decide +kernel
theorem dL_isFigure_121 : decode cL_isFigure 121 = .ok (.iload 6, 2) := by decide +kernel
theorem dL_isFigure_123 : decode cL_isFigure 123 = .ok (.iload 12, 2) := by decide +kernel
theorem dL_isFigure_125 : decode cL_isFigure 125 = .ok (.invokestatic 9, 3) := by decide +kernel
theorem dL_isFigure_128 : decode cL_isFigure 128 = .ok (.istore 13, 2) := by decide +kernel
theorem dL_isFigure_130 : decode cL_isFigure 130 = .ok (.iload 11, 2) := by decide +kernel
theorem dL_isFigure_132 : decode cL_isFigure 132 = .ok (.ifCond .eq 61, 3) := by decide +kernel
theorem dL_isFigure_135 : decode cL_isFigure 135 = .ok (.aload_n 0, 1) := by decide +kernel
theorem dL_isFigure_136 : decode cL_isFigure 136 = .ok (.iload 6, 2) := by decide +kernel
theorem dL_isFigure_138 : decode cL_isFigure 138 = .ok (.iload 12, 2) := by decide +kernel
theorem dL_isFigure_140 : decode cL_isFigure 140 = .ok (.iconst 0, 1) := by decide +kernel
theorem dL_isFigure_141 : decode cL_isFigure 141 = .ok (.invokevirtual 79, 3) := by decide +kernel
theorem dL_isFigure_144 : decode cL_isFigure 144 = .ok (.iload 13, 2) := by decide +kernel
theorem dL_isFigure_146 : decode cL_isFigure 146 = .ok (.bipush 100, 2) := by decide +kernel
theorem dL_isFigure_148 : decode cL_isFigure 148 = .ok (.idiv, 1) := by decide +kernel
theorem dL_isFigure_149 : decode cL_isFigure 149 = .ok (.if_icmp .ne 44, 3) := by decide +kernel
theorem dL_isFigure_152 : decode cL_isFigure 152 = .ok (.aload_n 0, 1) := by decide +kernel
theorem dL_isFigure_153 : decode cL_isFigure 153 = .ok (.iload 6, 2) := by decide +kernel
theorem dL_isFigure_155 : decode cL_isFigure 155 = .ok (.iload 12, 2) := by decide +kernel
theorem dL_isFigure_157 : decode cL_isFigure 157 = .ok (.iconst 1, 1) := by decide +kernel
theorem dL_isFigure_158 : decode cL_isFigure 158 = .ok (.invokevirtual 79, 3) := by decide +kernel
theorem dL_isFigure_161 : decode cL_isFigure 161 = .ok (.iload 13, 2) := by decide +kernel
theorem dL_isFigure_163 : decode cL_isFigure 163 = .ok (.bipush 10, 2) := by decide +kernel
theorem dL_isFigure_165 : decode cL_isFigure 165 = .ok (.idiv, 1) := by decide +kernel
theorem dL_isFigure_166 : decode cL_isFigure 166 = .ok (.bipush 10, 2) := by decide +kernel
theorem dL_isFigure_168 : decode cL_isFigure 168 = .ok (.irem, 1) := by decide +kernel
theorem dL_isFigure_169 : decode cL_isFigure 169 = .ok (.if_icmp .ne 24, 3) := by decide +kernel
theorem dL_isFigure_172 : decode cL_isFigure 172 = .ok (.aload_n 0, 1) := by decide +kernel
theorem dL_isFigure_173 : decode cL_isFigure 173 = .ok (.iload 6, 2) := by decide +kernel
theorem dL_isFigure_175 : decode cL_isFigure 175 = .ok (.iload 12, 2) := by decide +kernel
theorem dL_isFigure_177 : decode cL_isFigure 177 = .ok (.iconst 2, 1) := by decide +kernel
theorem dL_isFigure_178 : decode cL_isFigure 178 = .ok (.invokevirtual 79, 3) := by decide +kernel
theorem dL_isFigure_181 : decode cL_isFigure 181 = .ok (.iload 13, 2) := by decide +kernel
theorem dL_isFigure_183 : decode cL_isFigure 183 = .ok (.bipush 10, 2) := by decide +kernel
theorem dL_isFigure_185 : decode cL_isFigure 185 = .ok (.irem, 1) := by decide +kernel
theorem dL_isFigure_186 : decode cL_isFigure 186 = .ok (.if_icmp .ne 7, 3) := by decide +kernel
theorem dL_isFigure_189 : decode cL_isFigure 189 = .ok (.iconst 1, 1) := by decide +kernel
theorem dL_isFigure_190 : decode cL_isFigure 190 = .ok (.goto 4, 3) := by decide +kernel
theorem dL_isFigure_193 : decode cL_isFigure 193 = .ok (.iconst 0, 1) := by decide +kernel
theorem dL_isFigure_194 : decode cL_isFigure 194 = .ok (.istore 11, 2) := by decide +kernel
theorem dL_isFigure_196 : decode cL_isFigure 196 = .ok (.iinc 12 1, 3) := by decide +kernel
theorem dL_isFigure_199 : decode cL_isFigure 199 = .ok (.goto (-89), 3) := by decide +kernel
theorem dL_isFigure_202 : decode cL_isFigure 202 = .ok (.iconst 0, 1) := by decide +kernel
theorem dL_isFigure_203 : decode cL_isFigure 203 = .ok (.istore 12, 2) := by decide +kernel
theorem dL_isFigure_205 : decode cL_isFigure 205 = .ok (.iload 12, 2) := by decide +kernel
theorem dL_isFigure_207 : decode cL_isFigure 207 = .ok (.bipush 10, 2) := by decide +kernel
theorem dL_isFigure_209 : decode cL_isFigure 209 = .ok (.if_icmp .ge 146, 3) := by decide +kernel
theorem dL_isFigure_212 : decode cL_isFigure 212 = .ok (.iload 11, 2) := by decide +kernel
theorem dL_isFigure_214 : decode cL_isFigure 214 = .ok (.ifCond .eq 41, 3) := by decide +kernel
theorem dL_isFigure_217 : decode cL_isFigure 217 = .ok (.aload_n 0, 1) := by decide +kernel
theorem dL_isFigure_218 : decode cL_isFigure 218 = .ok (.iload 6, 2) := by decide +kernel
theorem dL_isFigure_220 : decode cL_isFigure 220 = .ok (.iload 12, 2) := by decide +kernel
theorem dL_isFigure_222 : decode cL_isFigure 222 = .ok (.iconst 0, 1) := by decide +kernel
theorem dL_isFigure_223 : decode cL_isFigure 223 = .ok (.invokevirtual 82, 3) := by decide +kernel
theorem dL_isFigure_226 : decode cL_isFigure 226 = .ok (.aload 4, 2) := by decide +kernel
theorem dL_isFigure_228 : decode cL_isFigure 228 = .ok (.iload 12, 2) := by decide +kernel
theorem dL_isFigure_230 : decode cL_isFigure 230 = .ok (.iaload, 1) := by decide +kernel
theorem dL_isFigure_231 : decode cL_isFigure 231 = .ok (.if_icmp .ne 24, 3) := by decide +kernel
theorem dL_isFigure_234 : decode cL_isFigure 234 = .ok (.aload_n 0, 1) := by decide +kernel
theorem dL_isFigure_235 : decode cL_isFigure 235 = .ok (.iload 6, 2) := by decide +kernel
theorem dL_isFigure_237 : decode cL_isFigure 237 = .ok (.iload 12, 2) := by decide +kernel
theorem dL_isFigure_239 : decode cL_isFigure 239 = .ok (.iconst 1, 1) := by decide +kernel
theorem dL_isFigure_240 : decode cL_isFigure 240 = .ok (.invokevirtual 82, 3) := by decide +kernel
theorem dL_isFigure_243 : decode cL_isFigure 243 = .ok (.aload 5, 2) := by decide +kernel
theorem dL_isFigure_245 : decode cL_isFigure 245 = .ok (.iload 12, 2) := by decide +kernel
theorem dL_isFigure_247 : decode cL_isFigure 247 = .ok (.iaload, 1) := by decide +kernel
theorem dL_isFigure_248 : decode cL_isFigure 248 = .ok (.if_icmp .ne 7, 3) := by decide +kernel
theorem dL_isFigure_251 : decode cL_isFigure 251 = .ok (.iconst 1, 1) := by decide +kernel
theorem dL_isFigure_252 : decode cL_isFigure 252 = .ok (.goto 4, 3) := by decide +kernel
theorem dL_isFigure_255 : decode cL_isFigure 255 = .ok (.iconst 0, 1) := by decide +kernel
theorem dL_isFigure_256 : decode cL_isFigure 256 = .ok (.istore 11, 2) := by decide +kernel
theorem dL_isFigure_258 : decode cL_isFigure 258 = .ok (.iload 7, 2) := by decide +kernel
theorem dL_isFigure_260 : decode cL_isFigure 260 = .ok (.aload 4, 2) := by decide +kernel
theorem dL_isFigure_262 : decode cL_isFigure 262 = .ok (.iload 12, 2) := by decide +kernel
theorem dL_isFigure_264 : decode cL_isFigure 264 = .ok (.iaload, 1) := by decide +kernel
theorem dL_isFigure_265 : decode cL_isFigure 265 = .ok (.iload 12, 2) := by decide +kernel
theorem dL_isFigure_267 : decode cL_isFigure 267 = .ok (.if_icmp .eq 7, 3) := by decide +kernel
theorem dL_isFigure_270 : decode cL_isFigure 270 = .ok (.iconst 1, 1) := by decide +kernel
theorem dL_isFigure_271 : decode cL_isFigure 271 = .ok (.goto 4, 3) := by decide +kernel
theorem dL_isFigure_274 : decode cL_isFigure 274 = .ok (.iconst 0, 1) := by decide +kernel
theorem dL_isFigure_275 : decode cL_isFigure 275 = .ok (.iadd, 1) := by decide +kernel
theorem dL_isFigure_276 : decode cL_isFigure 276 = .ok (.istore 7, 2) := by decide +kernel
theorem dL_isFigure_278 : decode cL_isFigure 278 = .ok (.iload 8, 2) := by decide +kernel
theorem dL_isFigure_280 : decode cL_isFigure 280 = .ok (.aload 5, 2) := by decide +kernel
theorem dL_isFigure_282 : decode cL_isFigure 282 = .ok (.iload 12, 2) := by decide +kernel
theorem dL_isFigure_284 : decode cL_isFigure 284 = .ok (.iaload, 1) := by decide +kernel
theorem dL_isFigure_285 : decode cL_isFigure 285 = .ok (.ifCond .le 7, 3) := by decide +kernel
theorem dL_isFigure_288 : decode cL_isFigure 288 = .ok (.iconst 1, 1) := by decide +kernel
theorem dL_isFigure_289 : decode cL_isFigure 289 = .ok (.goto 4, 3) := by decide +kernel
theorem dL_isFigure_292 : decode cL_isFigure 292 = .ok (.iconst 0, 1) := by decide +kernel
theorem dL_isFigure_293 : decode cL_isFigure 293 = .ok (.iadd, 1) := by decide +kernel
theorem dL_isFigure_294 : decode cL_isFigure 294 = .ok (.istore 8, 2) := by decide +kernel
theorem dL_isFigure_296 : decode cL_isFigure 296 = .ok (.iload 9, 2) := by decide +kernel
theorem dL_isFigure_298 : decode cL_isFigure 298 = .ok (.iload 10, 2) := by decide +kernel
theorem dL_isFigure_300 : decode cL_isFigure 300 = .ok (.iload 12, 2) := by decide +kernel
theorem dL_isFigure_302 : decode cL_isFigure 302 = .ok (.ishr, 1) := by decide +kernel
theorem dL_isFigure_303 : decode cL_isFigure 303 = .ok (.iconst 1, 1) := by decide +kernel
theorem dL_isFigure_304 : decode cL_isFigure 304 = .ok (.iand, 1) := by decide +kernel
theorem dL_isFigure_305 : decode cL_isFigure 305 = .ok (.ifCond .ne 7, 3) := by decide +kernel
theorem dL_isFigure_308 : decode cL_isFigure 308 = .ok (.iconst 1, 1) := by decide +kernel
theorem dL_isFigure_309 : decode cL_isFigure 309 = .ok (.goto 4, 3) := by decide +kernel
theorem dL_isFigure_312 : decode cL_isFigure 312 = .ok (.iconst 0, 1) := by decide +kernel
theorem dL_isFigure_313 : decode cL_isFigure 313 = .ok (.iadd, 1) := by decide +kernel
theorem dL_isFigure_314 : decode cL_isFigure 314 = .ok (.istore 9, 2) := by decide +kernel
theorem dL_isFigure_316 : decode cL_isFigure 316 = .ok (.iload 12, 2) := by decide +kernel
theorem dL_isFigure_318 : decode cL_isFigure 318 = .ok (.istore 13, 2) := by decide +kernel
theorem dL_isFigure_320 : decode cL_isFigure 320 = .ok (.iload 10, 2) := by decide +kernel
theorem dL_isFigure_322 : decode cL_isFigure 322 = .ok (.iload 13, 2) := by decide +kernel
theorem dL_isFigure_324 : decode cL_isFigure 324 = .ok (.ishr, 1) := by decide +kernel
theorem dL_isFigure_325 : decode cL_isFigure 325 = .ok (.iconst 1, 1) := by decide +kernel
theorem dL_isFigure_326 : decode cL_isFigure 326 = .ok (.iand, 1) := by decide +kernel
theorem dL_isFigure_327 : decode cL_isFigure 327 = .ok (.ifCond .ne 22, 3) := by decide +kernel
theorem dL_isFigure_330 : decode cL_isFigure 330 = .ok (.iload 10, 2) := by decide +kernel
theorem dL_isFigure_332 : decode cL_isFigure 332 = .ok (.iconst 1, 1) := by decide +kernel
theorem dL_isFigure_333 : decode cL_isFigure 333 = .ok (.iload 13, 2) := by decide +kernel
theorem dL_isFigure_335 : decode cL_isFigure 335 = .ok (.ishl, 1) := by decide +kernel
theorem dL_isFigure_336 : decode cL_isFigure 336 = .ok (.ior, 1) := by decide +kernel
theorem dL_isFigure_337 : decode cL_isFigure 337 = .ok (.istore 10, 2) := by decide +kernel
theorem dL_isFigure_339 : decode cL_isFigure 339 = .ok (.aload 4, 2) := by decide +kernel
theorem dL_isFigure_341 : decode cL_isFigure 341 = .ok (.iload 13, 2) := by decide +kernel
theorem dL_isFigure_343 : decode cL_isFigure 343 = .ok (.iaload, 1) := by decide +kernel
theorem dL_isFigure_344 : decode cL_isFigure 344 = .ok (.istore 13, 2) := by decide +kernel
theorem dL_isFigure_346 : decode cL_isFigure 346 = .ok (.goto (-26), 3) := by decide +kernel
theorem dL_isFigure_349 : decode cL_isFigure 349 = .ok (.iinc 12 1, 3) := by decide +kernel
theorem dL_isFigure_352 : decode cL_isFigure 352 = .ok (.goto (-147), 3) := by decide +kernel
theorem dL_isFigure_355 : decode cL_isFigure 355 = .ok (.iconst 0, 1) := by decide +kernel
theorem dL_isFigure_356 : decode cL_isFigure 356 = .ok (.istore 12, 2) := by decide +kernel
theorem dL_isFigure_358 : decode cL_isFigure 358 = .ok (.iconst 0, 1) := by decide +kernel
theorem dL_isFigure_359 : decode cL_isFigure 359 = .ok (.istore 13, 2) := by decide +kernel
theorem dL_isFigure_361 : decode cL_isFigure 361 = .ok (.iconst 0, 1) := by decide +kernel
theorem dL_isFigure_362 : decode cL_isFigure 362 = .ok (.istore 14, 2) := by decide +kernel
theorem dL_isFigure_364 : decode cL_isFigure 364 = .ok (.iload 14, 2) := by decide +kernel
theorem dL_isFigure_366 : decode cL_isFigure 366 = .ok (.bipush 8, 2) := by decide +kernel
theorem dL_isFigure_368 : decode cL_isFigure 368 = .ok (.if_icmp .ge 61, 3) := by decide +kernel
theorem dL_isFigure_371 : decode cL_isFigure 371 = .ok (.iload 12, 2) := by decide +kernel
theorem dL_isFigure_373 : decode cL_isFigure 373 = .ok (.aload_n 1, 1) := by decide +kernel
theorem dL_isFigure_374 : decode cL_isFigure 374 = .ok (.aload_n 2, 1) := by decide +kernel
theorem dL_isFigure_375 : decode cL_isFigure 375 = .ok (.aload_n 3, 1) := by decide +kernel
theorem dL_isFigure_376 : decode cL_isFigure 376 = .ok (.iload 6, 2) := by decide +kernel
theorem dL_isFigure_378 : decode cL_isFigure 378 = .ok (.iload 14, 2) := by decide +kernel
theorem dL_isFigure_380 : decode cL_isFigure 380 = .ok (.invokestatic 85, 3) := by decide +kernel
theorem dL_isFigure_383 : decode cL_isFigure 383 = .ok (.ifCond .eq 10, 3) := by decide +kernel
theorem dL_isFigure_386 : decode cL_isFigure 386 = .ok (.iconst 1, 1) := by decide +kernel
theorem dL_isFigure_387 : decode cL_isFigure 387 = .ok (.iload 14, 2) := by decide +kernel
theorem dL_isFigure_389 : decode cL_isFigure 389 = .ok (.ishl, 1) := by decide +kernel
theorem dL_isFigure_390 : decode cL_isFigure 390 = .ok (.goto 4, 3) := by decide +kernel
theorem dL_isFigure_393 : decode cL_isFigure 393 = .ok (.iconst 0, 1) := by decide +kernel
theorem dL_isFigure_394 : decode cL_isFigure 394 = .ok (.ior, 1) := by decide +kernel
theorem dL_isFigure_395 : decode cL_isFigure 395 = .ok (.istore 12, 2) := by decide +kernel
theorem dL_isFigure_397 : decode cL_isFigure 397 = .ok (.iload 13, 2) := by decide +kernel
theorem dL_isFigure_399 : decode cL_isFigure 399 = .ok (.aload_n 1, 1) := by decide +kernel
theorem dL_isFigure_400 : decode cL_isFigure 400 = .ok (.aload_n 2, 1) := by decide +kernel
theorem dL_isFigure_401 : decode cL_isFigure 401 = .ok (.aload_n 3, 1) := by decide +kernel
theorem dL_isFigure_402 : decode cL_isFigure 402 = .ok (.iload 14, 2) := by decide +kernel
theorem dL_isFigure_404 : decode cL_isFigure 404 = .ok (.iload 6, 2) := by decide +kernel
theorem dL_isFigure_406 : decode cL_isFigure 406 = .ok (.invokestatic 85, 3) := by decide +kernel
theorem dL_isFigure_409 : decode cL_isFigure 409 = .ok (.ifCond .eq 10, 3) := by decide +kernel
theorem dL_isFigure_412 : decode cL_isFigure 412 = .ok (.iconst 1, 1) := by decide +kernel
theorem dL_isFigure_413 : decode cL_isFigure 413 = .ok (.iload 14, 2) := by decide +kernel
theorem dL_isFigure_415 : decode cL_isFigure 415 = .ok (.ishl, 1) := by decide +kernel
theorem dL_isFigure_416 : decode cL_isFigure 416 = .ok (.goto 4, 3) := by decide +kernel
theorem dL_isFigure_419 : decode cL_isFigure 419 = .ok (.iconst 0, 1) := by decide +kernel
theorem dL_isFigure_420 : decode cL_isFigure 420 = .ok (.ior, 1) := by decide +kernel
theorem dL_isFigure_421 : decode cL_isFigure 421 = .ok (.istore 13, 2) := by decide +kernel
theorem dL_isFigure_423 : decode cL_isFigure 423 = .ok (.iinc 14 1, 3) := by decide +kernel
theorem dL_isFigure_426 : decode cL_isFigure 426 = .ok (.goto (-62), 3) := by decide +kernel
theorem dL_isFigure_429 : decode cL_isFigure 429 = .ok (.iload 11, 2) := by decide +kernel
theorem dL_isFigure_431 : decode cL_isFigure 431 = .ok (.ifCond .eq 74, 3) := by decide +kernel
theorem dL_isFigure_434 : decode cL_isFigure 434 = .ok (.aload_n 0, 1) := by decide +kernel
theorem dL_isFigure_435 : decode cL_isFigure 435 = .ok (.iload 6, 2) := by decide +kernel
theorem dL_isFigure_437 : decode cL_isFigure 437 = .ok (.iconst 3, 1) := by decide +kernel
theorem dL_isFigure_438 : decode cL_isFigure 438 = .ok (.invokevirtual 72, 3) := by decide +kernel
theorem dL_isFigure_441 : decode cL_isFigure 441 = .ok (.iload 7, 2) := by decide +kernel
theorem dL_isFigure_443 : decode cL_isFigure 443 = .ok (.if_icmp .ne 62, 3) := by decide +kernel
theorem dL_isFigure_446 : decode cL_isFigure 446 = .ok (.aload_n 0, 1) := by decide +kernel
theorem dL_isFigure_447 : decode cL_isFigure 447 = .ok (.iload 6, 2) := by decide +kernel
theorem dL_isFigure_449 : decode cL_isFigure 449 = .ok (.iconst 4, 1) := by decide +kernel
theorem dL_isFigure_450 : decode cL_isFigure 450 = .ok (.invokevirtual 72, 3) := by decide +kernel
theorem dL_isFigure_453 : decode cL_isFigure 453 = .ok (.iload 8, 2) := by decide +kernel
theorem dL_isFigure_455 : decode cL_isFigure 455 = .ok (.if_icmp .ne 50, 3) := by decide +kernel
theorem dL_isFigure_458 : decode cL_isFigure 458 = .ok (.aload_n 0, 1) := by decide +kernel
theorem dL_isFigure_459 : decode cL_isFigure 459 = .ok (.iload 6, 2) := by decide +kernel
theorem dL_isFigure_461 : decode cL_isFigure 461 = .ok (.iconst 5, 1) := by decide +kernel
theorem dL_isFigure_462 : decode cL_isFigure 462 = .ok (.invokevirtual 72, 3) := by decide +kernel
theorem dL_isFigure_465 : decode cL_isFigure 465 = .ok (.bipush 10, 2) := by decide +kernel
theorem dL_isFigure_467 : decode cL_isFigure 467 = .ok (.iload 9, 2) := by decide +kernel
theorem dL_isFigure_469 : decode cL_isFigure 469 = .ok (.isub, 1) := by decide +kernel
theorem dL_isFigure_470 : decode cL_isFigure 470 = .ok (.iconst 1, 1) := by decide +kernel
theorem dL_isFigure_471 : decode cL_isFigure 471 = .ok (.iand, 1) := by decide +kernel
theorem dL_isFigure_472 : decode cL_isFigure 472 = .ok (.if_icmp .ne 33, 3) := by decide +kernel
theorem dL_isFigure_475 : decode cL_isFigure 475 = .ok (.aload_n 0, 1) := by decide +kernel
theorem dL_isFigure_476 : decode cL_isFigure 476 = .ok (.iload 6, 2) := by decide +kernel
theorem dL_isFigure_478 : decode cL_isFigure 478 = .ok (.bipush 6, 2) := by decide +kernel
theorem dL_isFigure_480 : decode cL_isFigure 480 = .ok (.invokevirtual 72, 3) := by decide +kernel
theorem dL_isFigure_483 : decode cL_isFigure 483 = .ok (.iload 12, 2) := by decide +kernel
theorem dL_isFigure_485 : decode cL_isFigure 485 = .ok (.if_icmp .ne 20, 3) := by decide +kernel
theorem dL_isFigure_488 : decode cL_isFigure 488 = .ok (.aload_n 0, 1) := by decide +kernel
theorem dL_isFigure_489 : decode cL_isFigure 489 = .ok (.iload 6, 2) := by decide +kernel
theorem dL_isFigure_491 : decode cL_isFigure 491 = .ok (.bipush 7, 2) := by decide +kernel
theorem dL_isFigure_493 : decode cL_isFigure 493 = .ok (.invokevirtual 72, 3) := by decide +kernel
theorem dL_isFigure_496 : decode cL_isFigure 496 = .ok (.iload 13, 2) := by decide +kernel
theorem dL_isFigure_498 : decode cL_isFigure 498 = .ok (.if_icmp .ne 7, 3) := by decide +kernel
theorem dL_isFigure_501 : decode cL_isFigure 501 = .ok (.iconst 1, 1) := by decide +kernel
theorem dL_isFigure_502 : decode cL_isFigure 502 = .ok (.goto 4, 3) := by decide +kernel
theorem dL_isFigure_505 : decode cL_isFigure 505 = .ok (.iconst 0, 1) := by decide +kernel
theorem dL_isFigure_506 : decode cL_isFigure 506 = .ok (.ireturn, 1) := by decide +kernel
theorem dL_arePairs_0 : decode cL_arePairs 0 = .ok (.bipush 10, 2) := by decide +kernel
theorem dL_arePairs_2 : decode cL_arePairs 2 = .ok (.newarray .int, 2) := by decide +kernel
theorem dL_arePairs_4 : decode cL_arePairs 4 = .ok (.astore 6, 2) := by decide +kernel
theorem dL_arePairs_6 : decode cL_arePairs 6 = .ok (.bipush 10, 2) := by decide +kernel
theorem dL_arePairs_8 : decode cL_arePairs 8 = .ok (.newarray .int, 2) := by decide +kernel
theorem dL_arePairs_10 : decode cL_arePairs 10 = .ok (.astore 7, 2) := by decide +kernel
theorem dL_arePairs_12 : decode cL_arePairs 12 = .ok (.bipush 10, 2) := by decide +kernel
theorem dL_arePairs_14 : decode cL_arePairs 14 = .ok (.newarray .int, 2) := by decide +kernel
theorem dL_arePairs_16 : decode cL_arePairs 16 = .ok (.astore 8, 2) := by decide +kernel
theorem dL_arePairs_18 : decode cL_arePairs 18 = .ok (.bipush 10, 2) := by decide +kernel
theorem dL_arePairs_20 : decode cL_arePairs 20 = .ok (.newarray .int, 2) := by decide +kernel
theorem dL_arePairs_22 : decode cL_arePairs 22 = .ok (.astore 9, 2) := by decide +kernel
theorem dL_arePairs_24 : decode cL_arePairs 24 = .ok (.aload 6, 2) := by decide +kernel
theorem dL_arePairs_26 : decode cL_arePairs 26 = .ok (.aload 7, 2) := by decide +kernel
theorem dL_arePairs_28 : decode cL_arePairs 28 = .ok (.aload_n 1, 1) := by decide +kernel
theorem dL_arePairs_29 : decode cL_arePairs 29 = .ok (.aload_n 2, 1) := by decide +kernel
theorem dL_arePairs_30 : decode cL_arePairs 30 = .ok (.aload_n 3, 1) := by decide +kernel
theorem dL_arePairs_31 : decode cL_arePairs 31 = .ok (.iload 4, 2) := by decide +kernel
theorem dL_arePairs_33 : decode cL_arePairs 33 = .ok (.invokestatic 68, 3) := by decide +kernel
theorem dL_arePairs_36 : decode cL_arePairs 36 = .ok (.aload 8, 2) := by decide +kernel
theorem dL_arePairs_38 : decode cL_arePairs 38 = .ok (.aload 9, 2) := by decide +kernel
theorem dL_arePairs_40 : decode cL_arePairs 40 = .ok (.aload_n 1, 1) := by decide +kernel
theorem dL_arePairs_41 : decode cL_arePairs 41 = .ok (.aload_n 2, 1) := by decide +kernel
theorem dL_arePairs_42 : decode cL_arePairs 42 = .ok (.aload_n 3, 1) := by decide +kernel
theorem dL_arePairs_43 : decode cL_arePairs 43 = .ok (.iload 5, 2) := by decide +kernel
theorem dL_arePairs_45 : decode cL_arePairs 45 = .ok (.invokestatic 68, 3) := by decide +kernel
theorem dL_arePairs_48 : decode cL_arePairs 48 = .ok (.iconst 1, 1) := by decide +kernel
theorem dL_arePairs_49 : decode cL_arePairs 49 = .ok (.istore 10, 2) := by decide +kernel
theorem dL_arePairs_51 : decode cL_arePairs 51 = .ok (.iconst 1, 1) := by decide +kernel
theorem dL_arePairs_52 : decode cL_arePairs 52 = .ok (.istore 11, 2) := by decide +kernel
theorem dL_arePairs_54 : decode cL_arePairs 54 = .ok (.iconst 0, 1) := by decide +kernel
theorem dL_arePairs_55 : decode cL_arePairs 55 = .ok (.istore 12, 2) := by decide +kernel
theorem dL_arePairs_57 : decode cL_arePairs 57 = .ok (.iload 12, 2) := by decide +kernel
theorem dL_arePairs_59 : decode cL_arePairs 59 = .ok (.bipush 10, 2) := by decide +kernel
theorem dL_arePairs_61 : decode cL_arePairs 61 = .ok (.if_icmp .ge 104, 3) := by decide +kernel
theorem dL_arePairs_64 : decode cL_arePairs 64 = .ok (.aload 6, 2) := by decide +kernel
theorem dL_arePairs_66 : decode cL_arePairs 66 = .ok (.iload 12, 2) := by decide +kernel
theorem dL_arePairs_68 : decode cL_arePairs 68 = .ok (.iaload, 1) := by decide +kernel
theorem dL_arePairs_69 : decode cL_arePairs 69 = .ok (.aload 8, 2) := by decide +kernel
theorem dL_arePairs_71 : decode cL_arePairs 71 = .ok (.iload 12, 2) := by decide +kernel
theorem dL_arePairs_73 : decode cL_arePairs 73 = .ok (.iaload, 1) := by decide +kernel
theorem dL_arePairs_74 : decode cL_arePairs 74 = .ok (.if_icmp .ne 21, 3) := by decide +kernel
theorem dL_arePairs_77 : decode cL_arePairs 77 = .ok (.aload 7, 2) := by decide +kernel
theorem dL_arePairs_79 : decode cL_arePairs 79 = .ok (.iload 12, 2) := by decide +kernel
theorem dL_arePairs_81 : decode cL_arePairs 81 = .ok (.iaload, 1) := by decide +kernel
theorem dL_arePairs_82 : decode cL_arePairs 82 = .ok (.aload 9, 2) := by decide +kernel
theorem dL_arePairs_84 : decode cL_arePairs 84 = .ok (.iload 12, 2) := by decide +kernel
theorem dL_arePairs_86 : decode cL_arePairs 86 = .ok (.iaload, 1) := by decide +kernel
theorem dL_arePairs_87 : decode cL_arePairs 87 = .ok (.if_icmp .ne 8, 3) := by decide +kernel
theorem dL_arePairs_90 : decode cL_arePairs 90 = .ok (.iload 10, 2) := by decide +kernel
theorem dL_arePairs_92 : decode cL_arePairs 92 = .ok (.goto 4, 3) := by decide +kernel
theorem dL_arePairs_95 : decode cL_arePairs 95 = .ok (.iconst 0, 1) := by decide +kernel
theorem dL_arePairs_96 : decode cL_arePairs 96 = .ok (.istore 10, 2) := by decide +kernel
theorem dL_arePairs_98 : decode cL_arePairs 98 = .ok (.aload 8, 2) := by decide +kernel
theorem dL_arePairs_100 : decode cL_arePairs 100 = .ok (.aload 6, 2) := by decide +kernel
theorem dL_arePairs_102 : decode cL_arePairs 102 = .ok (.iload 12, 2) := by decide +kernel
theorem dL_arePairs_104 : decode cL_arePairs 104 = .ok (.iaload, 1) := by decide +kernel
theorem dL_arePairs_105 : decode cL_arePairs 105 = .ok (.iaload, 1) := by decide +kernel
theorem dL_arePairs_106 : decode cL_arePairs 106 = .ok (.aload 6, 2) := by decide +kernel
theorem dL_arePairs_108 : decode cL_arePairs 108 = .ok (.aload 8, 2) := by decide +kernel
theorem dL_arePairs_110 : decode cL_arePairs 110 = .ok (.iload 12, 2) := by decide +kernel
theorem dL_arePairs_112 : decode cL_arePairs 112 = .ok (.iaload, 1) := by decide +kernel
theorem dL_arePairs_113 : decode cL_arePairs 113 = .ok (.iaload, 1) := by decide +kernel
theorem dL_arePairs_114 : decode cL_arePairs 114 = .ok (.if_icmp .ne 42, 3) := by decide +kernel
theorem dL_arePairs_117 : decode cL_arePairs 117 = .ok (.aload 7, 2) := by decide +kernel
theorem dL_arePairs_119 : decode cL_arePairs 119 = .ok (.iload 12, 2) := by decide +kernel
theorem dL_arePairs_121 : decode cL_arePairs 121 = .ok (.iaload, 1) := by decide +kernel
theorem dL_arePairs_122 : decode cL_arePairs 122 = .ok (.aload 9, 2) := by decide +kernel
theorem dL_arePairs_124 : decode cL_arePairs 124 = .ok (.aload 6, 2) := by decide +kernel
theorem dL_arePairs_126 : decode cL_arePairs 126 = .ok (.iload 12, 2) := by decide +kernel
theorem dL_arePairs_128 : decode cL_arePairs 128 = .ok (.iaload, 1) := by decide +kernel
theorem dL_arePairs_129 : decode cL_arePairs 129 = .ok (.iaload, 1) := by decide +kernel
theorem dL_arePairs_130 : decode cL_arePairs 130 = .ok (.iadd, 1) := by decide +kernel
theorem dL_arePairs_131 : decode cL_arePairs 131 = .ok (.aload 9, 2) := by decide +kernel
theorem dL_arePairs_133 : decode cL_arePairs 133 = .ok (.iload 12, 2) := by decide +kernel
theorem dL_arePairs_135 : decode cL_arePairs 135 = .ok (.iaload, 1) := by decide +kernel
theorem dL_arePairs_136 : decode cL_arePairs 136 = .ok (.isub, 1) := by decide +kernel
theorem dL_arePairs_137 : decode cL_arePairs 137 = .ok (.aload 7, 2) := by decide +kernel
theorem dL_arePairs_139 : decode cL_arePairs 139 = .ok (.aload 8, 2) := by decide +kernel
theorem dL_arePairs_141 : decode cL_arePairs 141 = .ok (.iload 12, 2) := by decide +kernel
theorem dL_arePairs_143 : decode cL_arePairs 143 = .ok (.iaload, 1) := by decide +kernel
theorem dL_arePairs_144 : decode cL_arePairs 144 = .ok (.iaload, 1) := by decide +kernel
theorem dL_arePairs_145 : decode cL_arePairs 145 = .ok (.isub, 1) := by decide +kernel
theorem dL_arePairs_146 : decode cL_arePairs 146 = .ok (.iconst 4, 1) := by decide +kernel
theorem dL_arePairs_147 : decode cL_arePairs 147 = .ok (.irem, 1) := by decide +kernel
theorem dL_arePairs_148 : decode cL_arePairs 148 = .ok (.ifCond .ne 8, 3) := by decide +kernel
theorem dL_arePairs_151 : decode cL_arePairs 151 = .ok (.iload 11, 2) := by decide +kernel
theorem dL_arePairs_153 : decode cL_arePairs 153 = .ok (.goto 4, 3) := by decide +kernel
theorem dL_arePairs_156 : decode cL_arePairs 156 = .ok (.iconst 0, 1) := by decide +kernel
theorem dL_arePairs_157 : decode cL_arePairs 157 = .ok (.istore 11, 2) := by decide +kernel
theorem dL_arePairs_159 : decode cL_arePairs 159 = .ok (.iinc 12 1, 3) := by decide +kernel
theorem dL_arePairs_162 : decode cL_arePairs 162 = .ok (.goto (-105), 3) := by decide +kernel
theorem dL_arePairs_165 : decode cL_arePairs 165 = .ok (.aload_n 0, 1) := by decide +kernel
theorem dL_arePairs_166 : decode cL_arePairs 166 = .ok (.iload 4, 2) := by decide +kernel
theorem dL_arePairs_168 : decode cL_arePairs 168 = .ok (.iload 5, 2) := by decide +kernel
theorem dL_arePairs_170 : decode cL_arePairs 170 = .ok (.invokevirtual 89, 3) := by decide +kernel
theorem dL_arePairs_173 : decode cL_arePairs 173 = .ok (.iload 10, 2) := by decide +kernel
theorem dL_arePairs_175 : decode cL_arePairs 175 = .ok (.if_icmp .ne 44, 3) := by decide +kernel
theorem dL_arePairs_178 : decode cL_arePairs 178 = .ok (.aload_n 0, 1) := by decide +kernel
theorem dL_arePairs_179 : decode cL_arePairs 179 = .ok (.iload 4, 2) := by decide +kernel
theorem dL_arePairs_181 : decode cL_arePairs 181 = .ok (.iload 5, 2) := by decide +kernel
theorem dL_arePairs_183 : decode cL_arePairs 183 = .ok (.invokevirtual 92, 3) := by decide +kernel
theorem dL_arePairs_186 : decode cL_arePairs 186 = .ok (.iload 11, 2) := by decide +kernel
theorem dL_arePairs_188 : decode cL_arePairs 188 = .ok (.if_icmp .ne 31, 3) := by decide +kernel
theorem dL_arePairs_191 : decode cL_arePairs 191 = .ok (.aload_n 0, 1) := by decide +kernel
theorem dL_arePairs_192 : decode cL_arePairs 192 = .ok (.iload 5, 2) := by decide +kernel
theorem dL_arePairs_194 : decode cL_arePairs 194 = .ok (.iload 4, 2) := by decide +kernel
theorem dL_arePairs_196 : decode cL_arePairs 196 = .ok (.invokevirtual 92, 3) := by decide +kernel
theorem dL_arePairs_199 : decode cL_arePairs 199 = .ok (.iload 11, 2) := by decide +kernel
theorem dL_arePairs_201 : decode cL_arePairs 201 = .ok (.if_icmp .ne 18, 3) := by decide +kernel
theorem dL_arePairs_204 : decode cL_arePairs 204 = .ok (.aload_n 0, 1) := by decide +kernel
theorem dL_arePairs_205 : decode cL_arePairs 205 = .ok (.bipush 8, 2) := by decide +kernel
theorem dL_arePairs_207 : decode cL_arePairs 207 = .ok (.iconst 0, 1) := by decide +kernel
theorem dL_arePairs_208 : decode cL_arePairs 208 = .ok (.invokevirtual 89, 3) := by decide +kernel
theorem dL_arePairs_211 : decode cL_arePairs 211 = .ok (.iconst (-1), 1) := by decide +kernel
theorem dL_arePairs_212 : decode cL_arePairs 212 = .ok (.if_icmp .ne 7, 3) := by decide +kernel
theorem dL_arePairs_215 : decode cL_arePairs 215 = .ok (.iconst 1, 1) := by decide +kernel
theorem dL_arePairs_216 : decode cL_arePairs 216 = .ok (.goto 4, 3) := by decide +kernel
theorem dL_arePairs_219 : decode cL_arePairs 219 = .ok (.iconst 0, 1) := by decide +kernel
theorem dL_arePairs_220 : decode cL_arePairs 220 = .ok (.ireturn, 1) := by decide +kernel
theorem dL_would_0 : decode cL_would 0 = .ok (.bipush 10, 2) := by decide +kernel
theorem dL_would_2 : decode cL_would 2 = .ok (.newarray .int, 2) := by decide +kernel
theorem dL_would_4 : decode cL_would 4 = .ok (.astore 9, 2) := by decide +kernel
theorem dL_would_6 : decode cL_would 6 = .ok (.bipush 10, 2) := by decide +kernel
theorem dL_would_8 : decode cL_would 8 = .ok (.newarray .int, 2) := by decide +kernel
theorem dL_would_10 : decode cL_would 10 = .ok (.astore 10, 2) := by decide +kernel
theorem dL_would_12 : decode cL_would 12 = .ok (.bipush 10, 2) := by decide +kernel
theorem dL_would_14 : decode cL_would 14 = .ok (.newarray .int, 2) := by decide +kernel
theorem dL_would_16 : decode cL_would 16 = .ok (.astore 11, 2) := by decide +kernel
theorem dL_would_18 : decode cL_would 18 = .ok (.bipush 10, 2) := by decide +kernel
theorem dL_would_20 : decode cL_would 20 = .ok (.newarray .int, 2) := by decide +kernel
theorem dL_would_22 : decode cL_would 22 = .ok (.astore 12, 2) := by decide +kernel
theorem dL_would_24 : decode cL_would 24 = .ok (.aload_n 1, 1) := by decide +kernel
theorem dL_would_25 : decode cL_would 25 = .ok (.aload 9, 2) := by decide +kernel
theorem dL_would_27 : decode cL_would 27 = .ok (.invokestatic 27, 3) := by decide +kernel
theorem dL_would_30 : decode cL_would 30 = .ok (.aload_n 2, 1) := by decide +kernel
theorem dL_would_31 : decode cL_would 31 = .ok (.aload 10, 2) := by decide +kernel
theorem dL_would_33 : decode cL_would 33 = .ok (.invokestatic 27, 3) := by decide +kernel
theorem dL_would_36 : decode cL_would 36 = .ok (.aload 9, 2) := by decide +kernel
theorem dL_would_38 : decode cL_would 38 = .ok (.aload 10, 2) := by decide +kernel
theorem dL_would_40 : decode cL_would 40 = .ok (.aload_n 3, 1) := by decide +kernel
theorem dL_would_41 : decode cL_would 41 = .ok (.aload 4, 2) := by decide +kernel
theorem dL_would_43 : decode cL_would 43 = .ok (.aload 5, 2) := by decide +kernel
theorem dL_would_45 : decode cL_would 45 = .ok (.aload 6, 2) := by decide +kernel
theorem dL_would_47 : decode cL_would 47 = .ok (.iload 7, 2) := by decide +kernel
theorem dL_would_49 : decode cL_would 49 = .ok (.iconst 1, 1) := by decide +kernel
theorem dL_would_50 : decode cL_would 50 = .ok (.iload 8, 2) := by decide +kernel
theorem dL_would_52 : decode cL_would 52 = .ok (.invokestatic 95, 3) := by decide +kernel
theorem dL_would_55 : decode cL_would 55 = .ok (.istore 13, 2) := by decide +kernel
theorem dL_would_57 : decode cL_would 57 = .ok (.aload 11, 2) := by decide +kernel
theorem dL_would_59 : decode cL_would 59 = .ok (.aload 12, 2) := by decide +kernel
theorem dL_would_61 : decode cL_would 61 = .ok (.aload 4, 2) := by decide +kernel
theorem dL_would_63 : decode cL_would 63 = .ok (.aload 5, 2) := by decide +kernel
theorem dL_would_65 : decode cL_would 65 = .ok (.aload 6, 2) := by decide +kernel
theorem dL_would_67 : decode cL_would 67 = .ok (.iload 7, 2) := by decide +kernel
theorem dL_would_69 : decode cL_would 69 = .ok (.invokestatic 68, 3) := by decide +kernel
theorem dL_would_72 : decode cL_would 72 = .ok (.aload_n 1, 1) := by decide +kernel
theorem dL_would_73 : decode cL_would 73 = .ok (.aload 9, 2) := by decide +kernel
theorem dL_would_75 : decode cL_would 75 = .ok (.invokestatic 27, 3) := by decide +kernel
theorem dL_would_78 : decode cL_would 78 = .ok (.aload_n 2, 1) := by decide +kernel
theorem dL_would_79 : decode cL_would 79 = .ok (.aload 10, 2) := by decide +kernel
theorem dL_would_81 : decode cL_would 81 = .ok (.invokestatic 27, 3) := by decide +kernel
theorem dL_would_84 : decode cL_would 84 = .ok (.aload 11, 2) := by decide +kernel
theorem dL_would_86 : decode cL_would 86 = .ok (.aload 12, 2) := by decide +kernel
theorem dL_would_88 : decode cL_would 88 = .ok (.invokestatic 75, 3) := by decide +kernel
theorem dL_would_91 : decode cL_would 91 = .ok (.istore 14, 2) := by decide +kernel
theorem dL_would_93 : decode cL_would 93 = .ok (.iconst 0, 1) := by decide +kernel
theorem dL_would_94 : decode cL_would 94 = .ok (.istore 15, 2) := by decide +kernel
theorem dL_would_96 : decode cL_would 96 = .ok (.iload 15, 2) := by decide +kernel
theorem dL_would_98 : decode cL_would 98 = .ok (.iload 14, 2) := by decide +kernel
theorem dL_would_100 : decode cL_would 100 = .ok (.if_icmp .ge 33, 3) := by decide +kernel
theorem dL_would_103 : decode cL_would 103 = .ok (.aload 9, 2) := by decide +kernel
theorem dL_would_105 : decode cL_would 105 = .ok (.aload 10, 2) := by decide +kernel
theorem dL_would_107 : decode cL_would 107 = .ok (.iconst 1, 1) := by decide +kernel
theorem dL_would_108 : decode cL_would 108 = .ok (.invokestatic 39, 3) := by decide +kernel
theorem dL_would_111 : decode cL_would 111 = .ok (.bipush 10, 2) := by decide +kernel
theorem dL_would_113 : decode cL_would 113 = .ok (.if_icmp .ge 20, 3) := by decide +kernel
theorem dL_would_116 : decode cL_would 116 = .ok (.aload 9, 2) := by decide +kernel
theorem dL_would_118 : decode cL_would 118 = .ok (.aload 10, 2) := by decide +kernel
theorem dL_would_120 : decode cL_would 120 = .ok (.aload 11, 2) := by decide +kernel
theorem dL_would_122 : decode cL_would 122 = .ok (.aload 12, 2) := by decide +kernel
theorem dL_would_124 : decode cL_would 124 = .ok (.invokestatic 43, 3) := by decide +kernel
theorem dL_would_127 : decode cL_would 127 = .ok (.iinc 15 1, 3) := by decide +kernel
theorem dL_would_130 : decode cL_would 130 = .ok (.goto (-34), 3) := by decide +kernel
theorem dL_would_133 : decode cL_would 133 = .ok (.aload_n 0, 1) := by decide +kernel
theorem dL_would_134 : decode cL_would 134 = .ok (.iload 7, 2) := by decide +kernel
theorem dL_would_136 : decode cL_would 136 = .ok (.iload 8, 2) := by decide +kernel
theorem dL_would_138 : decode cL_would 138 = .ok (.invokevirtual 99, 3) := by decide +kernel
theorem dL_would_141 : decode cL_would 141 = .ok (.iload 13, 2) := by decide +kernel
theorem dL_would_143 : decode cL_would 143 = .ok (.aload 6, 2) := by decide +kernel
theorem dL_would_145 : decode cL_would 145 = .ok (.bipush 8, 2) := by decide +kernel
theorem dL_would_147 : decode cL_would 147 = .ok (.iload 7, 2) := by decide +kernel
theorem dL_would_149 : decode cL_would 149 = .ok (.iadd, 1) := by decide +kernel
theorem dL_would_150 : decode cL_would 150 = .ok (.iaload, 1) := by decide +kernel
theorem dL_would_151 : decode cL_would 151 = .ok (.if_icmp .ge 8, 3) := by decide +kernel
theorem dL_would_154 : decode cL_would 154 = .ok (.iload 13, 2) := by decide +kernel
theorem dL_would_156 : decode cL_would 156 = .ok (.goto 5, 3) := by decide +kernel
theorem dL_would_159 : decode cL_would 159 = .ok (.bipush (-5), 2) := by decide +kernel
theorem dL_would_161 : decode cL_would 161 = .ok (.if_icmp .ne 36, 3) := by decide +kernel
theorem dL_would_164 : decode cL_would 164 = .ok (.aload_n 0, 1) := by decide +kernel
theorem dL_would_165 : decode cL_would 165 = .ok (.iload 7, 2) := by decide +kernel
theorem dL_would_167 : decode cL_would 167 = .ok (.invokevirtual 103, 3) := by decide +kernel
theorem dL_would_170 : decode cL_would 170 = .ok (.aload 9, 2) := by decide +kernel
theorem dL_would_172 : decode cL_would 172 = .ok (.aload 10, 2) := by decide +kernel
theorem dL_would_174 : decode cL_would 174 = .ok (.iconst 1, 1) := by decide +kernel
theorem dL_would_175 : decode cL_would 175 = .ok (.invokestatic 39, 3) := by decide +kernel
theorem dL_would_178 : decode cL_would 178 = .ok (.bipush 10, 2) := by decide +kernel
theorem dL_would_180 : decode cL_would 180 = .ok (.if_icmp .ne 8, 3) := by decide +kernel
theorem dL_would_183 : decode cL_would 183 = .ok (.iload 15, 2) := by decide +kernel
theorem dL_would_185 : decode cL_would 185 = .ok (.goto 5, 3) := by decide +kernel
theorem dL_would_188 : decode cL_would 188 = .ok (.bipush (-5), 2) := by decide +kernel
theorem dL_would_190 : decode cL_would 190 = .ok (.if_icmp .ne 7, 3) := by decide +kernel
theorem dL_would_193 : decode cL_would 193 = .ok (.iconst 1, 1) := by decide +kernel
theorem dL_would_194 : decode cL_would 194 = .ok (.goto 4, 3) := by decide +kernel
theorem dL_would_197 : decode cL_would 197 = .ok (.iconst 0, 1) := by decide +kernel
theorem dL_would_198 : decode cL_would 198 = .ok (.ireturn, 1) := by decide +kernel
theorem dL_isRow_0 : decode cL_isRow 0 = .ok (.aload_n 0, 1) := by decide +kernel
theorem dL_isRow_1 : decode cL_isRow 1 = .ok (.iconst 0, 1) := by decide +kernel
theorem dL_isRow_2 : decode cL_isRow 2 = .ok (.invokevirtual 106, 3) := by decide +kernel
theorem dL_isRow_5 : decode cL_isRow 5 = .ok (.iload_n 2, 1) := by decide +kernel
theorem dL_isRow_6 : decode cL_isRow 6 = .ok (.if_icmp .ne 17, 3) := by decide +kernel
theorem dL_isRow_9 : decode cL_isRow 9 = .ok (.aload_n 0, 1) := by decide +kernel
theorem dL_isRow_10 : decode cL_isRow 10 = .ok (.iconst 5, 1) := by decide +kernel
theorem dL_isRow_11 : decode cL_isRow 11 = .ok (.invokevirtual 106, 3) := by decide +kernel
theorem dL_isRow_14 : decode cL_isRow 14 = .ok (.bipush (-2), 2) := by decide +kernel
theorem dL_isRow_16 : decode cL_isRow 16 = .ok (.if_icmp .ne 7, 3) := by decide +kernel
theorem dL_isRow_19 : decode cL_isRow 19 = .ok (.iconst 1, 1) := by decide +kernel
theorem dL_isRow_20 : decode cL_isRow 20 = .ok (.goto 4, 3) := by decide +kernel
theorem dL_isRow_23 : decode cL_isRow 23 = .ok (.iconst 0, 1) := by decide +kernel
theorem dL_isRow_24 : decode cL_isRow 24 = .ok (.istore_n 3, 1) := by decide +kernel
theorem dL_isRow_25 : decode cL_isRow 25 = .ok (.iconst 1, 1) := by decide +kernel
theorem dL_isRow_26 : decode cL_isRow 26 = .ok (.istore 4, 2) := by decide +kernel
theorem dL_isRow_28 : decode cL_isRow 28 = .ok (.iload_n 2, 1) := by decide +kernel
theorem dL_isRow_29 : decode cL_isRow 29 = .ok (.istore 5, 2) := by decide +kernel
theorem dL_isRow_31 : decode cL_isRow 31 = .ok (.iload 5, 2) := by decide +kernel
theorem dL_isRow_33 : decode cL_isRow 33 = .ok (.ifCond .le 42, 3) := by decide +kernel
theorem dL_isRow_36 : decode cL_isRow 36 = .ok (.iload_n 3, 1) := by decide +kernel
theorem dL_isRow_37 : decode cL_isRow 37 = .ok (.ifCond .eq 23, 3) := by decide +kernel
theorem dL_isRow_40 : decode cL_isRow 40 = .ok (.aload_n 0, 1) := by decide +kernel
theorem dL_isRow_41 : decode cL_isRow 41 = .ok (.iload 5, 2) := by decide +kernel
theorem dL_isRow_43 : decode cL_isRow 43 = .ok (.invokevirtual 106, 3) := by decide +kernel
theorem dL_isRow_46 : decode cL_isRow 46 = .ok (.iload_n 1, 1) := by decide +kernel
theorem dL_isRow_47 : decode cL_isRow 47 = .ok (.iload 4, 2) := by decide +kernel
theorem dL_isRow_49 : decode cL_isRow 49 = .ok (.idiv, 1) := by decide +kernel
theorem dL_isRow_50 : decode cL_isRow 50 = .ok (.bipush 6, 2) := by decide +kernel
theorem dL_isRow_52 : decode cL_isRow 52 = .ok (.irem, 1) := by decide +kernel
theorem dL_isRow_53 : decode cL_isRow 53 = .ok (.if_icmp .ne 7, 3) := by decide +kernel
theorem dL_isRow_56 : decode cL_isRow 56 = .ok (.iconst 1, 1) := by decide +kernel
theorem dL_isRow_57 : decode cL_isRow 57 = .ok (.goto 4, 3) := by decide +kernel
theorem dL_isRow_60 : decode cL_isRow 60 = .ok (.iconst 0, 1) := by decide +kernel
theorem dL_isRow_61 : decode cL_isRow 61 = .ok (.istore_n 3, 1) := by decide +kernel
theorem dL_isRow_62 : decode cL_isRow 62 = .ok (.iload 4, 2) := by decide +kernel
theorem dL_isRow_64 : decode cL_isRow 64 = .ok (.bipush 6, 2) := by decide +kernel
theorem dL_isRow_66 : decode cL_isRow 66 = .ok (.imul, 1) := by decide +kernel
theorem dL_isRow_67 : decode cL_isRow 67 = .ok (.istore 4, 2) := by decide +kernel
theorem dL_isRow_69 : decode cL_isRow 69 = .ok (.iinc 5 (-1), 3) := by decide +kernel
theorem dL_isRow_72 : decode cL_isRow 72 = .ok (.goto (-41), 3) := by decide +kernel
theorem dL_isRow_75 : decode cL_isRow 75 = .ok (.iload_n 3, 1) := by decide +kernel
theorem dL_isRow_76 : decode cL_isRow 76 = .ok (.ifCond .eq 24, 3) := by decide +kernel
theorem dL_isRow_79 : decode cL_isRow 79 = .ok (.iload_n 2, 1) := by decide +kernel
theorem dL_isRow_80 : decode cL_isRow 80 = .ok (.iconst 4, 1) := by decide +kernel
theorem dL_isRow_81 : decode cL_isRow 81 = .ok (.if_icmp .eq 15, 3) := by decide +kernel
theorem dL_isRow_84 : decode cL_isRow 84 = .ok (.aload_n 0, 1) := by decide +kernel
theorem dL_isRow_85 : decode cL_isRow 85 = .ok (.iload_n 2, 1) := by decide +kernel
theorem dL_isRow_86 : decode cL_isRow 86 = .ok (.iconst 1, 1) := by decide +kernel
theorem dL_isRow_87 : decode cL_isRow 87 = .ok (.iadd, 1) := by decide +kernel
theorem dL_isRow_88 : decode cL_isRow 88 = .ok (.invokevirtual 106, 3) := by decide +kernel
theorem dL_isRow_91 : decode cL_isRow 91 = .ok (.bipush (-5), 2) := by decide +kernel
theorem dL_isRow_93 : decode cL_isRow 93 = .ok (.if_icmp .ne 7, 3) := by decide +kernel
theorem dL_isRow_96 : decode cL_isRow 96 = .ok (.iconst 1, 1) := by decide +kernel
theorem dL_isRow_97 : decode cL_isRow 97 = .ok (.goto 4, 3) := by decide +kernel
theorem dL_isRow_100 : decode cL_isRow 100 = .ok (.iconst 0, 1) := by decide +kernel
theorem dL_isRow_101 : decode cL_isRow 101 = .ok (.ireturn, 1) := by decide +kernel
theorem dL_isWay_0 : decode cL_isWay 0 = .ok (.bipush 10, 2) := by decide +kernel
theorem dL_isWay_2 : decode cL_isWay 2 = .ok (.newarray .int, 2) := by decide +kernel
theorem dL_isWay_4 : decode cL_isWay 4 = .ok (.astore 6, 2) := by decide +kernel
theorem dL_isWay_6 : decode cL_isWay 6 = .ok (.bipush 10, 2) := by decide +kernel
theorem dL_isWay_8 : decode cL_isWay 8 = .ok (.newarray .int, 2) := by decide +kernel
theorem dL_isWay_10 : decode cL_isWay 10 = .ok (.astore 7, 2) := by decide +kernel
theorem dL_isWay_12 : decode cL_isWay 12 = .ok (.bipush 60, 2) := by decide +kernel
theorem dL_isWay_14 : decode cL_isWay 14 = .ok (.newarray .int, 2) := by decide +kernel
theorem dL_isWay_16 : decode cL_isWay 16 = .ok (.astore 8, 2) := by decide +kernel
theorem dL_isWay_18 : decode cL_isWay 18 = .ok (.bipush 60, 2) := by decide +kernel
theorem dL_isWay_20 : decode cL_isWay 20 = .ok (.newarray .int, 2) := by decide +kernel
theorem dL_isWay_22 : decode cL_isWay 22 = .ok (.astore 9, 2) := by decide +kernel
theorem dL_isWay_24 : decode cL_isWay 24 = .ok (.iconst 0, 1) := by decide +kernel
theorem dL_isWay_25 : decode cL_isWay 25 = .ok (.istore 10, 2) := by decide +kernel
theorem dL_isWay_27 : decode cL_isWay 27 = .ok (.iload 10, 2) := by decide +kernel
theorem dL_isWay_29 : decode cL_isWay 29 = .ok (.bipush 6, 2) := by decide +kernel
theorem dL_isWay_31 : decode cL_isWay 31 = .ok (.if_icmp .ge 71, 3) := by decide +kernel
theorem dL_isWay_34 : decode cL_isWay 34 = .ok (.aload 6, 2) := by decide +kernel
theorem dL_isWay_36 : decode cL_isWay 36 = .ok (.aload 7, 2) := by decide +kernel
theorem dL_isWay_38 : decode cL_isWay 38 = .ok (.aload_n 3, 1) := by decide +kernel
theorem dL_isWay_39 : decode cL_isWay 39 = .ok (.aload 4, 2) := by decide +kernel
theorem dL_isWay_41 : decode cL_isWay 41 = .ok (.aload 5, 2) := by decide +kernel
theorem dL_isWay_43 : decode cL_isWay 43 = .ok (.iload 10, 2) := by decide +kernel
theorem dL_isWay_45 : decode cL_isWay 45 = .ok (.invokestatic 68, 3) := by decide +kernel
theorem dL_isWay_48 : decode cL_isWay 48 = .ok (.iconst 0, 1) := by decide +kernel
theorem dL_isWay_49 : decode cL_isWay 49 = .ok (.istore 11, 2) := by decide +kernel
theorem dL_isWay_51 : decode cL_isWay 51 = .ok (.iload 11, 2) := by decide +kernel
theorem dL_isWay_53 : decode cL_isWay 53 = .ok (.bipush 10, 2) := by decide +kernel
theorem dL_isWay_55 : decode cL_isWay 55 = .ok (.if_icmp .ge 41, 3) := by decide +kernel
theorem dL_isWay_58 : decode cL_isWay 58 = .ok (.aload 8, 2) := by decide +kernel
theorem dL_isWay_60 : decode cL_isWay 60 = .ok (.bipush 10, 2) := by decide +kernel
theorem dL_isWay_62 : decode cL_isWay 62 = .ok (.iload 10, 2) := by decide +kernel
theorem dL_isWay_64 : decode cL_isWay 64 = .ok (.imul, 1) := by decide +kernel
theorem dL_isWay_65 : decode cL_isWay 65 = .ok (.iload 11, 2) := by decide +kernel
theorem dL_isWay_67 : decode cL_isWay 67 = .ok (.iadd, 1) := by decide +kernel
theorem dL_isWay_68 : decode cL_isWay 68 = .ok (.aload 6, 2) := by decide +kernel
theorem dL_isWay_70 : decode cL_isWay 70 = .ok (.iload 11, 2) := by decide +kernel
theorem dL_isWay_72 : decode cL_isWay 72 = .ok (.iaload, 1) := by decide +kernel
theorem dL_isWay_73 : decode cL_isWay 73 = .ok (.iastore, 1) := by decide +kernel
theorem dL_isWay_74 : decode cL_isWay 74 = .ok (.aload 9, 2) := by decide +kernel
theorem dL_isWay_76 : decode cL_isWay 76 = .ok (.bipush 10, 2) := by decide +kernel
theorem dL_isWay_78 : decode cL_isWay 78 = .ok (.iload 10, 2) := by decide +kernel
theorem dL_isWay_80 : decode cL_isWay 80 = .ok (.imul, 1) := by decide +kernel
theorem dL_isWay_81 : decode cL_isWay 81 = .ok (.iload 11, 2) := by decide +kernel
theorem dL_isWay_83 : decode cL_isWay 83 = .ok (.iadd, 1) := by decide +kernel
theorem dL_isWay_84 : decode cL_isWay 84 = .ok (.aload 7, 2) := by decide +kernel
theorem dL_isWay_86 : decode cL_isWay 86 = .ok (.iload 11, 2) := by decide +kernel
theorem dL_isWay_88 : decode cL_isWay 88 = .ok (.iaload, 1) := by decide +kernel
theorem dL_isWay_89 : decode cL_isWay 89 = .ok (.iastore, 1) := by decide +kernel
theorem dL_isWay_90 : decode cL_isWay 90 = .ok (.iinc 11 1, 3) := by decide +kernel
theorem dL_isWay_93 : decode cL_isWay 93 = .ok (.goto (-42), 3) := by decide +kernel
theorem dL_isWay_96 : decode cL_isWay 96 = .ok (.iinc 10 1, 3) := by decide +kernel
theorem dL_isWay_99 : decode cL_isWay 99 = .ok (.goto (-72), 3) := by decide +kernel
theorem dL_isWay_102 : decode cL_isWay 102 = .ok (.iconst 1, 1) := by decide +kernel
theorem dL_isWay_103 : decode cL_isWay 103 = .ok (.istore 10, 2) := by decide +kernel
theorem dL_isWay_105 : decode cL_isWay 105 = .ok (.iconst 0, 1) := by decide +kernel
theorem dL_isWay_106 : decode cL_isWay 106 = .ok (.istore 11, 2) := by decide +kernel
theorem dL_isWay_108 : decode cL_isWay 108 = .ok (.iload 11, 2) := by decide +kernel
theorem dL_isWay_110 : decode cL_isWay 110 = .ok (.iconst 5, 1) := by decide +kernel
theorem dL_isWay_111 : decode cL_isWay 111 = .ok (.if_icmp .ge 157, 3) := by decide +kernel
theorem dL_isWay_114 : decode cL_isWay 114 = .ok (.iconst 0, 1) := by decide +kernel
theorem dL_isWay_115 : decode cL_isWay 115 = .ok (.istore 12, 2) := by decide +kernel
theorem dL_isWay_117 : decode cL_isWay 117 = .ok (.iload 12, 2) := by decide +kernel
theorem dL_isWay_119 : decode cL_isWay 119 = .ok (.iload 10, 2) := by decide +kernel
theorem dL_isWay_121 : decode cL_isWay 121 = .ok (.if_icmp .ge 134, 3) := by decide +kernel
theorem dL_isWay_124 : decode cL_isWay 124 = .ok (.aload_n 1, 1) := by decide +kernel
theorem dL_isWay_125 : decode cL_isWay 125 = .ok (.aload 6, 2) := by decide +kernel
theorem dL_isWay_127 : decode cL_isWay 127 = .ok (.invokestatic 27, 3) := by decide +kernel
theorem dL_isWay_130 : decode cL_isWay 130 = .ok (.aload_n 2, 1) := by decide +kernel
theorem dL_isWay_131 : decode cL_isWay 131 = .ok (.aload 7, 2) := by decide +kernel
theorem dL_isWay_133 : decode cL_isWay 133 = .ok (.invokestatic 27, 3) := by decide +kernel
theorem dL_isWay_136 : decode cL_isWay 136 = .ok (.iload 10, 2) := by decide +kernel
theorem dL_isWay_138 : decode cL_isWay 138 = .ok (.bipush 6, 2) := by decide +kernel
theorem dL_isWay_140 : decode cL_isWay 140 = .ok (.idiv, 1) := by decide +kernel
theorem dL_isWay_141 : decode cL_isWay 141 = .ok (.istore 13, 2) := by decide +kernel
theorem dL_isWay_143 : decode cL_isWay 143 = .ok (.iload 13, 2) := by decide +kernel
theorem dL_isWay_145 : decode cL_isWay 145 = .ok (.ifCond .le 82, 3) := by decide +kernel
theorem dL_isWay_148 : decode cL_isWay 148 = .ok (.bipush 10, 2) := by decide +kernel
theorem dL_isWay_150 : decode cL_isWay 150 = .ok (.iload 12, 2) := by decide +kernel
theorem dL_isWay_152 : decode cL_isWay 152 = .ok (.iload 13, 2) := by decide +kernel
theorem dL_isWay_154 : decode cL_isWay 154 = .ok (.idiv, 1) := by decide +kernel
theorem dL_isWay_155 : decode cL_isWay 155 = .ok (.bipush 6, 2) := by decide +kernel
theorem dL_isWay_157 : decode cL_isWay 157 = .ok (.irem, 1) := by decide +kernel
theorem dL_isWay_158 : decode cL_isWay 158 = .ok (.imul, 1) := by decide +kernel
theorem dL_isWay_159 : decode cL_isWay 159 = .ok (.istore 14, 2) := by decide +kernel
theorem dL_isWay_161 : decode cL_isWay 161 = .ok (.iconst 0, 1) := by decide +kernel
theorem dL_isWay_162 : decode cL_isWay 162 = .ok (.istore 15, 2) := by decide +kernel
theorem dL_isWay_164 : decode cL_isWay 164 = .ok (.iload 15, 2) := by decide +kernel
theorem dL_isWay_166 : decode cL_isWay 166 = .ok (.bipush 10, 2) := by decide +kernel
theorem dL_isWay_168 : decode cL_isWay 168 = .ok (.if_icmp .ge 49, 3) := by decide +kernel
theorem dL_isWay_171 : decode cL_isWay 171 = .ok (.aload 7, 2) := by decide +kernel
theorem dL_isWay_173 : decode cL_isWay 173 = .ok (.iload 15, 2) := by decide +kernel
theorem dL_isWay_175 : decode cL_isWay 175 = .ok (.aload 7, 2) := by decide +kernel
theorem dL_isWay_177 : decode cL_isWay 177 = .ok (.iload 15, 2) := by decide +kernel
theorem dL_isWay_179 : decode cL_isWay 179 = .ok (.iaload, 1) := by decide +kernel
theorem dL_isWay_180 : decode cL_isWay 180 = .ok (.aload 9, 2) := by decide +kernel
theorem dL_isWay_182 : decode cL_isWay 182 = .ok (.iload 14, 2) := by decide +kernel
theorem dL_isWay_184 : decode cL_isWay 184 = .ok (.aload 6, 2) := by decide +kernel
theorem dL_isWay_186 : decode cL_isWay 186 = .ok (.iload 15, 2) := by decide +kernel
theorem dL_isWay_188 : decode cL_isWay 188 = .ok (.iaload, 1) := by decide +kernel
theorem dL_isWay_189 : decode cL_isWay 189 = .ok (.iadd, 1) := by decide +kernel
theorem dL_isWay_190 : decode cL_isWay 190 = .ok (.iaload, 1) := by decide +kernel
theorem dL_isWay_191 : decode cL_isWay 191 = .ok (.iadd, 1) := by decide +kernel
theorem dL_isWay_192 : decode cL_isWay 192 = .ok (.iconst 4, 1) := by decide +kernel
theorem dL_isWay_193 : decode cL_isWay 193 = .ok (.irem, 1) := by decide +kernel
theorem dL_isWay_194 : decode cL_isWay 194 = .ok (.iastore, 1) := by decide +kernel
theorem dL_isWay_195 : decode cL_isWay 195 = .ok (.aload 6, 2) := by decide +kernel
theorem dL_isWay_197 : decode cL_isWay 197 = .ok (.iload 15, 2) := by decide +kernel
theorem dL_isWay_199 : decode cL_isWay 199 = .ok (.aload 8, 2) := by decide +kernel
theorem dL_isWay_201 : decode cL_isWay 201 = .ok (.iload 14, 2) := by decide +kernel
theorem dL_isWay_203 : decode cL_isWay 203 = .ok (.aload 6, 2) := by decide +kernel
theorem dL_isWay_205 : decode cL_isWay 205 = .ok (.iload 15, 2) := by decide +kernel
theorem dL_isWay_207 : decode cL_isWay 207 = .ok (.iaload, 1) := by decide +kernel
theorem dL_isWay_208 : decode cL_isWay 208 = .ok (.iadd, 1) := by decide +kernel
theorem dL_isWay_209 : decode cL_isWay 209 = .ok (.iaload, 1) := by decide +kernel
theorem dL_isWay_210 : decode cL_isWay 210 = .ok (.iastore, 1) := by decide +kernel
theorem dL_isWay_211 : decode cL_isWay 211 = .ok (.iinc 15 1, 3) := by decide +kernel
theorem dL_isWay_214 : decode cL_isWay 214 = .ok (.goto (-50), 3) := by decide +kernel
theorem dL_isWay_217 : decode cL_isWay 217 = .ok (.iload 13, 2) := by decide +kernel
theorem dL_isWay_219 : decode cL_isWay 219 = .ok (.bipush 6, 2) := by decide +kernel
theorem dL_isWay_221 : decode cL_isWay 221 = .ok (.idiv, 1) := by decide +kernel
theorem dL_isWay_222 : decode cL_isWay 222 = .ok (.istore 13, 2) := by decide +kernel
theorem dL_isWay_224 : decode cL_isWay 224 = .ok (.goto (-81), 3) := by decide +kernel
theorem dL_isWay_227 : decode cL_isWay 227 = .ok (.aload 6, 2) := by decide +kernel
theorem dL_isWay_229 : decode cL_isWay 229 = .ok (.aload 7, 2) := by decide +kernel
theorem dL_isWay_231 : decode cL_isWay 231 = .ok (.iconst 1, 1) := by decide +kernel
theorem dL_isWay_232 : decode cL_isWay 232 = .ok (.invokestatic 39, 3) := by decide +kernel
theorem dL_isWay_235 : decode cL_isWay 235 = .ok (.bipush 10, 2) := by decide +kernel
theorem dL_isWay_237 : decode cL_isWay 237 = .ok (.if_icmp .ne 12, 3) := by decide +kernel
theorem dL_isWay_240 : decode cL_isWay 240 = .ok (.aload_n 0, 1) := by decide +kernel
theorem dL_isWay_241 : decode cL_isWay 241 = .ok (.iload 12, 2) := by decide +kernel
theorem dL_isWay_243 : decode cL_isWay 243 = .ok (.iload 11, 2) := by decide +kernel
theorem dL_isWay_245 : decode cL_isWay 245 = .ok (.invokestatic 109, 3) := by decide +kernel
theorem dL_isWay_248 : decode cL_isWay 248 = .ok (.ireturn, 1) := by decide +kernel
theorem dL_isWay_249 : decode cL_isWay 249 = .ok (.iinc 12 1, 3) := by decide +kernel
theorem dL_isWay_252 : decode cL_isWay 252 = .ok (.goto (-135), 3) := by decide +kernel
theorem dL_isWay_255 : decode cL_isWay 255 = .ok (.iload 10, 2) := by decide +kernel
theorem dL_isWay_257 : decode cL_isWay 257 = .ok (.bipush 6, 2) := by decide +kernel
theorem dL_isWay_259 : decode cL_isWay 259 = .ok (.imul, 1) := by decide +kernel
theorem dL_isWay_260 : decode cL_isWay 260 = .ok (.istore 10, 2) := by decide +kernel
theorem dL_isWay_262 : decode cL_isWay 262 = .ok (.iinc 11 1, 3) := by decide +kernel
theorem dL_isWay_265 : decode cL_isWay 265 = .ok (.goto (-157), 3) := by decide +kernel
theorem dL_isWay_268 : decode cL_isWay 268 = .ok (.aload_n 0, 1) := by decide +kernel
theorem dL_isWay_269 : decode cL_isWay 269 = .ok (.iconst 0, 1) := by decide +kernel
theorem dL_isWay_270 : decode cL_isWay 270 = .ok (.invokevirtual 106, 3) := by decide +kernel
theorem dL_isWay_273 : decode cL_isWay 273 = .ok (.bipush (-5), 2) := by decide +kernel
theorem dL_isWay_275 : decode cL_isWay 275 = .ok (.if_icmp .ne 27, 3) := by decide +kernel
theorem dL_isWay_278 : decode cL_isWay 278 = .ok (.aload_n 0, 1) := by decide +kernel
theorem dL_isWay_279 : decode cL_isWay 279 = .ok (.iconst 1, 1) := by decide +kernel
theorem dL_isWay_280 : decode cL_isWay 280 = .ok (.invokevirtual 106, 3) := by decide +kernel
theorem dL_isWay_283 : decode cL_isWay 283 = .ok (.bipush (-5), 2) := by decide +kernel
theorem dL_isWay_285 : decode cL_isWay 285 = .ok (.if_icmp .ne 17, 3) := by decide +kernel
theorem dL_isWay_288 : decode cL_isWay 288 = .ok (.aload_n 0, 1) := by decide +kernel
theorem dL_isWay_289 : decode cL_isWay 289 = .ok (.iconst 4, 1) := by decide +kernel
theorem dL_isWay_290 : decode cL_isWay 290 = .ok (.invokevirtual 106, 3) := by decide +kernel
theorem dL_isWay_293 : decode cL_isWay 293 = .ok (.bipush (-5), 2) := by decide +kernel
theorem dL_isWay_295 : decode cL_isWay 295 = .ok (.if_icmp .ne 7, 3) := by decide +kernel
theorem dL_isWay_298 : decode cL_isWay 298 = .ok (.iconst 1, 1) := by decide +kernel
theorem dL_isWay_299 : decode cL_isWay 299 = .ok (.goto 4, 3) := by decide +kernel
theorem dL_isWay_302 : decode cL_isWay 302 = .ok (.iconst 0, 1) := by decide +kernel
theorem dL_isWay_303 : decode cL_isWay 303 = .ok (.ireturn, 1) := by decide +kernel
theorem dL_adds_0 : decode cL_adds 0 = .ok (.iload 4, 2) := by decide +kernel
theorem dL_adds_2 : decode cL_adds 2 = .ok (.bipush 6, 2) := by decide +kernel
theorem dL_adds_4 : decode cL_adds 4 = .ok (.invokestatic 113, 3) := by decide +kernel
theorem dL_adds_7 : decode cL_adds 7 = .ok (.istore 5, 2) := by decide +kernel
theorem dL_adds_9 : decode cL_adds 9 = .ok (.iload 4, 2) := by decide +kernel
theorem dL_adds_11 : decode cL_adds 11 = .ok (.iconst 3, 1) := by decide +kernel
theorem dL_adds_12 : decode cL_adds 12 = .ok (.ishr, 1) := by decide +kernel
theorem dL_adds_13 : decode cL_adds 13 = .ok (.bipush 6, 2) := by decide +kernel
theorem dL_adds_15 : decode cL_adds 15 = .ok (.invokestatic 113, 3) := by decide +kernel
theorem dL_adds_18 : decode cL_adds 18 = .ok (.iconst 5, 1) := by decide +kernel
theorem dL_adds_19 : decode cL_adds 19 = .ok (.irem, 1) := by decide +kernel
theorem dL_adds_20 : decode cL_adds 20 = .ok (.istore 6, 2) := by decide +kernel
theorem dL_adds_22 : decode cL_adds 22 = .ok (.iload 4, 2) := by decide +kernel
theorem dL_adds_24 : decode cL_adds 24 = .ok (.bipush 6, 2) := by decide +kernel
theorem dL_adds_26 : decode cL_adds 26 = .ok (.ishr, 1) := by decide +kernel
theorem dL_adds_27 : decode cL_adds 27 = .ok (.bipush 10, 2) := by decide +kernel
theorem dL_adds_29 : decode cL_adds 29 = .ok (.invokestatic 113, 3) := by decide +kernel
theorem dL_adds_32 : decode cL_adds 32 = .ok (.istore 7, 2) := by decide +kernel
theorem dL_adds_34 : decode cL_adds 34 = .ok (.iload 4, 2) := by decide +kernel
theorem dL_adds_36 : decode cL_adds 36 = .ok (.bipush 10, 2) := by decide +kernel
theorem dL_adds_38 : decode cL_adds 38 = .ok (.ishr, 1) := by decide +kernel
theorem dL_adds_39 : decode cL_adds 39 = .ok (.bipush 10, 2) := by decide +kernel
theorem dL_adds_41 : decode cL_adds 41 = .ok (.invokestatic 113, 3) := by decide +kernel
theorem dL_adds_44 : decode cL_adds 44 = .ok (.istore 8, 2) := by decide +kernel
theorem dL_adds_46 : decode cL_adds 46 = .ok (.iload 6, 2) := by decide +kernel
theorem dL_adds_48 : decode cL_adds 48 = .ok (.iconst 1, 1) := by decide +kernel
theorem dL_adds_49 : decode cL_adds 49 = .ok (.if_icmp .ne 10, 3) := by decide +kernel
theorem dL_adds_52 : decode cL_adds 52 = .ok (.iload 8, 2) := by decide +kernel
theorem dL_adds_54 : decode cL_adds 54 = .ok (.iconst 4, 1) := by decide +kernel
theorem dL_adds_55 : decode cL_adds 55 = .ok (.irem, 1) := by decide +kernel
theorem dL_adds_56 : decode cL_adds 56 = .ok (.goto 21, 3) := by decide +kernel
theorem dL_adds_59 : decode cL_adds 59 = .ok (.iload 6, 2) := by decide +kernel
theorem dL_adds_61 : decode cL_adds 61 = .ok (.iconst 2, 1) := by decide +kernel
theorem dL_adds_62 : decode cL_adds 62 = .ok (.if_icmp .eq 9, 3) := by decide +kernel
theorem dL_adds_65 : decode cL_adds 65 = .ok (.iload 6, 2) := by decide +kernel
theorem dL_adds_67 : decode cL_adds 67 = .ok (.iconst 4, 1) := by decide +kernel
theorem dL_adds_68 : decode cL_adds 68 = .ok (.if_icmp .ne 7, 3) := by decide +kernel
theorem dL_adds_71 : decode cL_adds 71 = .ok (.iconst 0, 1) := by decide +kernel
theorem dL_adds_72 : decode cL_adds 72 = .ok (.goto 5, 3) := by decide +kernel
theorem dL_adds_75 : decode cL_adds 75 = .ok (.iload 8, 2) := by decide +kernel
theorem dL_adds_77 : decode cL_adds 77 = .ok (.istore 8, 2) := by decide +kernel
theorem dL_adds_79 : decode cL_adds 79 = .ok (.iload 6, 2) := by decide +kernel
theorem dL_adds_81 : decode cL_adds 81 = .ok (.iconst 4, 1) := by decide +kernel
theorem dL_adds_82 : decode cL_adds 82 = .ok (.if_icmp .ne 16, 3) := by decide +kernel
theorem dL_adds_85 : decode cL_adds 85 = .ok (.iload 5, 2) := by decide +kernel
theorem dL_adds_87 : decode cL_adds 87 = .ok (.ifCond .le 11, 3) := by decide +kernel
theorem dL_adds_90 : decode cL_adds 90 = .ok (.iload 7, 2) := by decide +kernel
theorem dL_adds_92 : decode cL_adds 92 = .ok (.iload 5, 2) := by decide +kernel
theorem dL_adds_94 : decode cL_adds 94 = .ok (.irem, 1) := by decide +kernel
theorem dL_adds_95 : decode cL_adds 95 = .ok (.goto 5, 3) := by decide +kernel
theorem dL_adds_98 : decode cL_adds 98 = .ok (.iload 7, 2) := by decide +kernel
theorem dL_adds_100 : decode cL_adds 100 = .ok (.istore 7, 2) := by decide +kernel
theorem dL_adds_102 : decode cL_adds 102 = .ok (.iload 6, 2) := by decide +kernel
theorem dL_adds_104 : decode cL_adds 104 = .ok (.ifCond .eq 9, 3) := by decide +kernel
theorem dL_adds_107 : decode cL_adds 107 = .ok (.iload 6, 2) := by decide +kernel
theorem dL_adds_109 : decode cL_adds 109 = .ok (.iconst 3, 1) := by decide +kernel
theorem dL_adds_110 : decode cL_adds 110 = .ok (.if_icmp .ne 18, 3) := by decide +kernel
theorem dL_adds_113 : decode cL_adds 113 = .ok (.iload 7, 2) := by decide +kernel
theorem dL_adds_115 : decode cL_adds 115 = .ok (.iload 8, 2) := by decide +kernel
theorem dL_adds_117 : decode cL_adds 117 = .ok (.if_icmp .lt 7, 3) := by decide +kernel
theorem dL_adds_120 : decode cL_adds 120 = .ok (.iconst 1, 1) := by decide +kernel
theorem dL_adds_121 : decode cL_adds 121 = .ok (.goto 57, 3) := by decide +kernel
theorem dL_adds_124 : decode cL_adds 124 = .ok (.iconst 0, 1) := by decide +kernel
theorem dL_adds_125 : decode cL_adds 125 = .ok (.goto 53, 3) := by decide +kernel
theorem dL_adds_128 : decode cL_adds 128 = .ok (.iload 6, 2) := by decide +kernel
theorem dL_adds_130 : decode cL_adds 130 = .ok (.iconst 1, 1) := by decide +kernel
