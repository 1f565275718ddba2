theorem dL_adds_131 : decode cL_adds 131 = .ok (.if_icmp .ne 16, 3) := by decide +kernel
theorem dL_adds_134 : decode cL_adds 134 = .ok (.iload 8, 2) := by decide +kernel
theorem dL_adds_136 : decode cL_adds 136 = .ok (.ifCond .ne 7, 3) := by decide +kernel
theorem dL_adds_139 : decode cL_adds 139 = .ok (.iconst 1, 1) := by decide +kernel
theorem dL_adds_140 : decode cL_adds 140 = .ok (.goto 38, 3) := by decide +kernel
theorem dL_adds_143 : decode cL_adds 143 = .ok (.iconst 0, 1) := by decide +kernel
theorem dL_adds_144 : decode cL_adds 144 = .ok (.goto 34, 3) := by decide +kernel
theorem dL_adds_147 : decode cL_adds 147 = .ok (.iload 6, 2) := by decide +kernel
theorem dL_adds_149 : decode cL_adds 149 = .ok (.iconst 2, 1) := by decide +kernel
theorem dL_adds_150 : decode cL_adds 150 = .ok (.if_icmp .ne 16, 3) := by decide +kernel
theorem dL_adds_153 : decode cL_adds 153 = .ok (.iload 7, 2) := by decide +kernel
theorem dL_adds_155 : decode cL_adds 155 = .ok (.ifCond .ne 7, 3) := by decide +kernel
theorem dL_adds_158 : decode cL_adds 158 = .ok (.iconst 1, 1) := by decide +kernel
theorem dL_adds_159 : decode cL_adds 159 = .ok (.goto 19, 3) := by decide +kernel
theorem dL_adds_162 : decode cL_adds 162 = .ok (.iconst 0, 1) := by decide +kernel
theorem dL_adds_163 : decode cL_adds 163 = .ok (.goto 15, 3) := by decide +kernel
theorem dL_adds_166 : decode cL_adds 166 = .ok (.iload 7, 2) := by decide +kernel
theorem dL_adds_168 : decode cL_adds 168 = .ok (.iload 5, 2) := by decide +kernel
theorem dL_adds_170 : decode cL_adds 170 = .ok (.if_icmp .lt 7, 3) := by decide +kernel
theorem dL_adds_173 : decode cL_adds 173 = .ok (.iconst 1, 1) := by decide +kernel
theorem dL_adds_174 : decode cL_adds 174 = .ok (.goto 4, 3) := by decide +kernel
theorem dL_adds_177 : decode cL_adds 177 = .ok (.iconst 0, 1) := by decide +kernel
theorem dL_adds_178 : decode cL_adds 178 = .ok (.istore 9, 2) := by decide +kernel
theorem dL_adds_180 : decode cL_adds 180 = .ok (.iload 9, 2) := by decide +kernel
theorem dL_adds_182 : decode cL_adds 182 = .ok (.ifCond .eq 26, 3) := by decide +kernel
theorem dL_adds_185 : decode cL_adds 185 = .ok (.aload_n 0, 1) := by decide +kernel
theorem dL_adds_186 : decode cL_adds 186 = .ok (.iload 5, 2) := by decide +kernel
theorem dL_adds_188 : decode cL_adds 188 = .ok (.iload 6, 2) := by decide +kernel
theorem dL_adds_190 : decode cL_adds 190 = .ok (.iload 7, 2) := by decide +kernel
theorem dL_adds_192 : decode cL_adds 192 = .ok (.iload 8, 2) := by decide +kernel
theorem dL_adds_194 : decode cL_adds 194 = .ok (.invokevirtual 116, 3) := by decide +kernel
theorem dL_adds_197 : decode cL_adds 197 = .ok (.bipush (-2), 2) := by decide +kernel
theorem dL_adds_199 : decode cL_adds 199 = .ok (.if_icmp .ne 7, 3) := by decide +kernel
theorem dL_adds_202 : decode cL_adds 202 = .ok (.iconst 1, 1) := by decide +kernel
theorem dL_adds_203 : decode cL_adds 203 = .ok (.goto 4, 3) := by decide +kernel
theorem dL_adds_206 : decode cL_adds 206 = .ok (.iconst 0, 1) := by decide +kernel
theorem dL_adds_207 : decode cL_adds 207 = .ok (.ireturn, 1) := by decide +kernel
theorem dL_adds_208 : decode cL_adds 208 = .ok (.aload_n 3, 1) := by decide +kernel
theorem dL_adds_209 : decode cL_adds 209 = .ok (.iload 5, 2) := by decide +kernel
theorem dL_adds_211 : decode cL_adds 211 = .ok (.iaload, 1) := by decide +kernel
theorem dL_adds_212 : decode cL_adds 212 = .ok (.bipush 10, 2) := by decide +kernel
theorem dL_adds_214 : decode cL_adds 214 = .ok (.if_icmp .ne 26, 3) := by decide +kernel
theorem dL_adds_217 : decode cL_adds 217 = .ok (.aload_n 0, 1) := by decide +kernel
theorem dL_adds_218 : decode cL_adds 218 = .ok (.iload 5, 2) := by decide +kernel
theorem dL_adds_220 : decode cL_adds 220 = .ok (.iload 6, 2) := by decide +kernel
theorem dL_adds_222 : decode cL_adds 222 = .ok (.iload 7, 2) := by decide +kernel
theorem dL_adds_224 : decode cL_adds 224 = .ok (.iload 8, 2) := by decide +kernel
theorem dL_adds_226 : decode cL_adds 226 = .ok (.invokevirtual 116, 3) := by decide +kernel
theorem dL_adds_229 : decode cL_adds 229 = .ok (.bipush (-3), 2) := by decide +kernel
theorem dL_adds_231 : decode cL_adds 231 = .ok (.if_icmp .ne 7, 3) := by decide +kernel
theorem dL_adds_234 : decode cL_adds 234 = .ok (.iconst 1, 1) := by decide +kernel
theorem dL_adds_235 : decode cL_adds 235 = .ok (.goto 4, 3) := by decide +kernel
theorem dL_adds_238 : decode cL_adds 238 = .ok (.iconst 0, 1) := by decide +kernel
theorem dL_adds_239 : decode cL_adds 239 = .ok (.ireturn, 1) := by decide +kernel
theorem dL_adds_240 : decode cL_adds 240 = .ok (.bipush 100, 2) := by decide +kernel
theorem dL_adds_242 : decode cL_adds 242 = .ok (.iload 6, 2) := by decide +kernel
theorem dL_adds_244 : decode cL_adds 244 = .ok (.imul, 1) := by decide +kernel
theorem dL_adds_245 : decode cL_adds 245 = .ok (.bipush 10, 2) := by decide +kernel
theorem dL_adds_247 : decode cL_adds 247 = .ok (.iload 7, 2) := by decide +kernel
theorem dL_adds_249 : decode cL_adds 249 = .ok (.imul, 1) := by decide +kernel
theorem dL_adds_250 : decode cL_adds 250 = .ok (.iadd, 1) := by decide +kernel
theorem dL_adds_251 : decode cL_adds 251 = .ok (.iload 8, 2) := by decide +kernel
theorem dL_adds_253 : decode cL_adds 253 = .ok (.iadd, 1) := by decide +kernel
theorem dL_adds_254 : decode cL_adds 254 = .ok (.istore 10, 2) := by decide +kernel
theorem dL_adds_256 : decode cL_adds 256 = .ok (.aload_n 1, 1) := by decide +kernel
theorem dL_adds_257 : decode cL_adds 257 = .ok (.iload 5, 2) := by decide +kernel
theorem dL_adds_259 : decode cL_adds 259 = .ok (.iconst 4, 1) := by decide +kernel
theorem dL_adds_260 : decode cL_adds 260 = .ok (.if_icmp .ge 16, 3) := by decide +kernel
theorem dL_adds_263 : decode cL_adds 263 = .ok (.bipush 10, 2) := by decide +kernel
theorem dL_adds_265 : decode cL_adds 265 = .ok (.iload 5, 2) := by decide +kernel
theorem dL_adds_267 : decode cL_adds 267 = .ok (.imul, 1) := by decide +kernel
theorem dL_adds_268 : decode cL_adds 268 = .ok (.aload_n 3, 1) := by decide +kernel
theorem dL_adds_269 : decode cL_adds 269 = .ok (.iload 5, 2) := by decide +kernel
theorem dL_adds_271 : decode cL_adds 271 = .ok (.iaload, 1) := by decide +kernel
theorem dL_adds_272 : decode cL_adds 272 = .ok (.iadd, 1) := by decide +kernel
theorem dL_adds_273 : decode cL_adds 273 = .ok (.goto 5, 3) := by decide +kernel
theorem dL_adds_276 : decode cL_adds 276 = .ok (.bipush 39, 2) := by decide +kernel
theorem dL_adds_278 : decode cL_adds 278 = .ok (.iload 5, 2) := by decide +kernel
theorem dL_adds_280 : decode cL_adds 280 = .ok (.iconst 4, 1) := by decide +kernel
theorem dL_adds_281 : decode cL_adds 281 = .ok (.if_icmp .ge 8, 3) := by decide +kernel
theorem dL_adds_284 : decode cL_adds 284 = .ok (.iload 10, 2) := by decide +kernel
theorem dL_adds_286 : decode cL_adds 286 = .ok (.goto 7, 3) := by decide +kernel
theorem dL_adds_289 : decode cL_adds 289 = .ok (.aload_n 1, 1) := by decide +kernel
theorem dL_adds_290 : decode cL_adds 290 = .ok (.bipush 39, 2) := by decide +kernel
theorem dL_adds_292 : decode cL_adds 292 = .ok (.iaload, 1) := by decide +kernel
theorem dL_adds_293 : decode cL_adds 293 = .ok (.iastore, 1) := by decide +kernel
theorem dL_adds_294 : decode cL_adds 294 = .ok (.aload_n 2, 1) := by decide +kernel
theorem dL_adds_295 : decode cL_adds 295 = .ok (.iload 5, 2) := by decide +kernel
theorem dL_adds_297 : decode cL_adds 297 = .ok (.iconst 4, 1) := by decide +kernel
theorem dL_adds_298 : decode cL_adds 298 = .ok (.if_icmp .ge 8, 3) := by decide +kernel
theorem dL_adds_301 : decode cL_adds 301 = .ok (.bipush 39, 2) := by decide +kernel
theorem dL_adds_303 : decode cL_adds 303 = .ok (.goto 15, 3) := by decide +kernel
theorem dL_adds_306 : decode cL_adds 306 = .ok (.bipush 10, 2) := by decide +kernel
theorem dL_adds_308 : decode cL_adds 308 = .ok (.iload 5, 2) := by decide +kernel
theorem dL_adds_310 : decode cL_adds 310 = .ok (.iconst 4, 1) := by decide +kernel
theorem dL_adds_311 : decode cL_adds 311 = .ok (.isub, 1) := by decide +kernel
theorem dL_adds_312 : decode cL_adds 312 = .ok (.imul, 1) := by decide +kernel
theorem dL_adds_313 : decode cL_adds 313 = .ok (.aload_n 3, 1) := by decide +kernel
theorem dL_adds_314 : decode cL_adds 314 = .ok (.iload 5, 2) := by decide +kernel
theorem dL_adds_316 : decode cL_adds 316 = .ok (.iaload, 1) := by decide +kernel
theorem dL_adds_317 : decode cL_adds 317 = .ok (.iadd, 1) := by decide +kernel
theorem dL_adds_318 : decode cL_adds 318 = .ok (.iload 5, 2) := by decide +kernel
theorem dL_adds_320 : decode cL_adds 320 = .ok (.iconst 4, 1) := by decide +kernel
theorem dL_adds_321 : decode cL_adds 321 = .ok (.if_icmp .ge 10, 3) := by decide +kernel
theorem dL_adds_324 : decode cL_adds 324 = .ok (.aload_n 2, 1) := by decide +kernel
theorem dL_adds_325 : decode cL_adds 325 = .ok (.bipush 39, 2) := by decide +kernel
theorem dL_adds_327 : decode cL_adds 327 = .ok (.iaload, 1) := by decide +kernel
theorem dL_adds_328 : decode cL_adds 328 = .ok (.goto 5, 3) := by decide +kernel
theorem dL_adds_331 : decode cL_adds 331 = .ok (.iload 10, 2) := by decide +kernel
theorem dL_adds_333 : decode cL_adds 333 = .ok (.iastore, 1) := by decide +kernel
theorem dL_adds_334 : decode cL_adds 334 = .ok (.aload_n 3, 1) := by decide +kernel
theorem dL_adds_335 : decode cL_adds 335 = .ok (.iload 5, 2) := by decide +kernel
theorem dL_adds_337 : decode cL_adds 337 = .ok (.dup2, 1) := by decide +kernel
theorem dL_adds_338 : decode cL_adds 338 = .ok (.iaload, 1) := by decide +kernel
theorem dL_adds_339 : decode cL_adds 339 = .ok (.iconst 1, 1) := by decide +kernel
theorem dL_adds_340 : decode cL_adds 340 = .ok (.iadd, 1) := by decide +kernel
theorem dL_adds_341 : decode cL_adds 341 = .ok (.iastore, 1) := by decide +kernel
theorem dL_adds_342 : decode cL_adds 342 = .ok (.aload_n 1, 1) := by decide +kernel
theorem dL_adds_343 : decode cL_adds 343 = .ok (.aload_n 2, 1) := by decide +kernel
theorem dL_adds_344 : decode cL_adds 344 = .ok (.aload_n 3, 1) := by decide +kernel
theorem dL_adds_345 : decode cL_adds 345 = .ok (.invokestatic 120, 3) := by decide +kernel
theorem dL_adds_348 : decode cL_adds 348 = .ok (.iconst 0, 1) := by decide +kernel
theorem dL_adds_349 : decode cL_adds 349 = .ok (.istore 11, 2) := by decide +kernel
theorem dL_adds_351 : decode cL_adds 351 = .ok (.iconst 0, 1) := by decide +kernel
theorem dL_adds_352 : decode cL_adds 352 = .ok (.istore 12, 2) := by decide +kernel
theorem dL_adds_354 : decode cL_adds 354 = .ok (.iload 12, 2) := by decide +kernel
theorem dL_adds_356 : decode cL_adds 356 = .ok (.bipush 8, 2) := by decide +kernel
theorem dL_adds_358 : decode cL_adds 358 = .ok (.if_icmp .ge 33, 3) := by decide +kernel
theorem dL_adds_361 : decode cL_adds 361 = .ok (.iload 11, 2) := by decide +kernel
theorem dL_adds_363 : decode cL_adds 363 = .ok (.ifCond .ne 15, 3) := by decide +kernel
theorem dL_adds_366 : decode cL_adds 366 = .ok (.aload_n 3, 1) := by decide +kernel
theorem dL_adds_367 : decode cL_adds 367 = .ok (.bipush 8, 2) := by decide +kernel
theorem dL_adds_369 : decode cL_adds 369 = .ok (.iload 12, 2) := by decide +kernel
theorem dL_adds_371 : decode cL_adds 371 = .ok (.iadd, 1) := by decide +kernel
theorem dL_adds_372 : decode cL_adds 372 = .ok (.iaload, 1) := by decide +kernel
theorem dL_adds_373 : decode cL_adds 373 = .ok (.bipush 120, 2) := by decide +kernel
theorem dL_adds_375 : decode cL_adds 375 = .ok (.if_icmp .le 7, 3) := by decide +kernel
theorem dL_adds_378 : decode cL_adds 378 = .ok (.iconst 1, 1) := by decide +kernel
theorem dL_adds_379 : decode cL_adds 379 = .ok (.goto 4, 3) := by decide +kernel
theorem dL_adds_382 : decode cL_adds 382 = .ok (.iconst 0, 1) := by decide +kernel
theorem dL_adds_383 : decode cL_adds 383 = .ok (.istore 11, 2) := by decide +kernel
theorem dL_adds_385 : decode cL_adds 385 = .ok (.iinc 12 1, 3) := by decide +kernel
theorem dL_adds_388 : decode cL_adds 388 = .ok (.goto (-34), 3) := by decide +kernel
theorem dL_adds_391 : decode cL_adds 391 = .ok (.iload 11, 2) := by decide +kernel
theorem dL_adds_393 : decode cL_adds 393 = .ok (.ifCond .eq 40, 3) := by decide +kernel
theorem dL_adds_396 : decode cL_adds 396 = .ok (.aload_n 3, 1) := by decide +kernel
theorem dL_adds_397 : decode cL_adds 397 = .ok (.iload 5, 2) := by decide +kernel
theorem dL_adds_399 : decode cL_adds 399 = .ok (.dup2, 1) := by decide +kernel
theorem dL_adds_400 : decode cL_adds 400 = .ok (.iaload, 1) := by decide +kernel
theorem dL_adds_401 : decode cL_adds 401 = .ok (.iconst 1, 1) := by decide +kernel
theorem dL_adds_402 : decode cL_adds 402 = .ok (.isub, 1) := by decide +kernel
theorem dL_adds_403 : decode cL_adds 403 = .ok (.iastore, 1) := by decide +kernel
theorem dL_adds_404 : decode cL_adds 404 = .ok (.aload_n 1, 1) := by decide +kernel
theorem dL_adds_405 : decode cL_adds 405 = .ok (.aload_n 2, 1) := by decide +kernel
theorem dL_adds_406 : decode cL_adds 406 = .ok (.aload_n 3, 1) := by decide +kernel
theorem dL_adds_407 : decode cL_adds 407 = .ok (.invokestatic 120, 3) := by decide +kernel
theorem dL_adds_410 : decode cL_adds 410 = .ok (.aload_n 0, 1) := by decide +kernel
theorem dL_adds_411 : decode cL_adds 411 = .ok (.iload 5, 2) := by decide +kernel
theorem dL_adds_413 : decode cL_adds 413 = .ok (.iload 6, 2) := by decide +kernel
theorem dL_adds_415 : decode cL_adds 415 = .ok (.iload 7, 2) := by decide +kernel
theorem dL_adds_417 : decode cL_adds 417 = .ok (.iload 8, 2) := by decide +kernel
theorem dL_adds_419 : decode cL_adds 419 = .ok (.invokevirtual 116, 3) := by decide +kernel
theorem dL_adds_422 : decode cL_adds 422 = .ok (.bipush (-3), 2) := by decide +kernel
theorem dL_adds_424 : decode cL_adds 424 = .ok (.if_icmp .ne 7, 3) := by decide +kernel
theorem dL_adds_427 : decode cL_adds 427 = .ok (.iconst 1, 1) := by decide +kernel
theorem dL_adds_428 : decode cL_adds 428 = .ok (.goto 4, 3) := by decide +kernel
theorem dL_adds_431 : decode cL_adds 431 = .ok (.iconst 0, 1) := by decide +kernel
theorem dL_adds_432 : decode cL_adds 432 = .ok (.ireturn, 1) := by decide +kernel
theorem dL_adds_433 : decode cL_adds 433 = .ok (.aload_n 0, 1) := by decide +kernel
theorem dL_adds_434 : decode cL_adds 434 = .ok (.iload 5, 2) := by decide +kernel
theorem dL_adds_436 : decode cL_adds 436 = .ok (.iload 6, 2) := by decide +kernel
theorem dL_adds_438 : decode cL_adds 438 = .ok (.iload 7, 2) := by decide +kernel
theorem dL_adds_440 : decode cL_adds 440 = .ok (.iload 8, 2) := by decide +kernel
theorem dL_adds_442 : decode cL_adds 442 = .ok (.invokevirtual 116, 3) := by decide +kernel
theorem dL_adds_445 : decode cL_adds 445 = .ok (.aload_n 3, 1) := by decide +kernel
theorem dL_adds_446 : decode cL_adds 446 = .ok (.iload 5, 2) := by decide +kernel
theorem dL_adds_448 : decode cL_adds 448 = .ok (.iaload, 1) := by decide +kernel
theorem dL_adds_449 : decode cL_adds 449 = .ok (.if_icmp .ne 7, 3) := by decide +kernel
theorem dL_adds_452 : decode cL_adds 452 = .ok (.iconst 1, 1) := by decide +kernel
theorem dL_adds_453 : decode cL_adds 453 = .ok (.goto 4, 3) := by decide +kernel
theorem dL_adds_456 : decode cL_adds 456 = .ok (.iconst 0, 1) := by decide +kernel
theorem dL_adds_457 : decode cL_adds 457 = .ok (.ireturn, 1) := by decide +kernel
theorem dL_holdsNow_0 : decode cL_holdsNow 0 = .ok (.iload_n 3, 1) := by decide +kernel
theorem dL_holdsNow_1 : decode cL_holdsNow 1 = .ok (.bipush 10, 2) := by decide +kernel
theorem dL_holdsNow_3 : decode cL_holdsNow 3 = .ok (.invokestatic 113, 3) := by decide +kernel
theorem dL_holdsNow_6 : decode cL_holdsNow 6 = .ok (.istore 4, 2) := by decide +kernel
theorem dL_holdsNow_8 : decode cL_holdsNow 8 = .ok (.iload_n 3, 1) := by decide +kernel
theorem dL_holdsNow_9 : decode cL_holdsNow 9 = .ok (.iconst 4, 1) := by decide +kernel
theorem dL_holdsNow_10 : decode cL_holdsNow 10 = .ok (.ishr, 1) := by decide +kernel
theorem dL_holdsNow_11 : decode cL_holdsNow 11 = .ok (.iconst 3, 1) := by decide +kernel
theorem dL_holdsNow_12 : decode cL_holdsNow 12 = .ok (.invokestatic 113, 3) := by decide +kernel
theorem dL_holdsNow_15 : decode cL_holdsNow 15 = .ok (.ifCond .ne 15, 3) := by decide +kernel
theorem dL_holdsNow_18 : decode cL_holdsNow 18 = .ok (.iload_n 3, 1) := by decide +kernel
theorem dL_holdsNow_19 : decode cL_holdsNow 19 = .ok (.bipush 6, 2) := by decide +kernel
theorem dL_holdsNow_21 : decode cL_holdsNow 21 = .ok (.ishr, 1) := by decide +kernel
theorem dL_holdsNow_22 : decode cL_holdsNow 22 = .ok (.bipush 10, 2) := by decide +kernel
theorem dL_holdsNow_24 : decode cL_holdsNow 24 = .ok (.invokestatic 113, 3) := by decide +kernel
theorem dL_holdsNow_27 : decode cL_holdsNow 27 = .ok (.goto 16, 3) := by decide +kernel
theorem dL_holdsNow_30 : decode cL_holdsNow 30 = .ok (.aload_n 0, 1) := by decide +kernel
theorem dL_holdsNow_31 : decode cL_holdsNow 31 = .ok (.aload_n 1, 1) := by decide +kernel
theorem dL_holdsNow_32 : decode cL_holdsNow 32 = .ok (.iload 4, 2) := by decide +kernel
theorem dL_holdsNow_34 : decode cL_holdsNow 34 = .ok (.iaload, 1) := by decide +kernel
theorem dL_holdsNow_35 : decode cL_holdsNow 35 = .ok (.iconst 1, 1) := by decide +kernel
theorem dL_holdsNow_36 : decode cL_holdsNow 36 = .ok (.iadd, 1) := by decide +kernel
theorem dL_holdsNow_37 : decode cL_holdsNow 37 = .ok (.bipush 10, 2) := by decide +kernel
theorem dL_holdsNow_39 : decode cL_holdsNow 39 = .ok (.irem, 1) := by decide +kernel
theorem dL_holdsNow_40 : decode cL_holdsNow 40 = .ok (.invokevirtual 47, 3) := by decide +kernel
theorem dL_holdsNow_43 : decode cL_holdsNow 43 = .ok (.istore 5, 2) := by decide +kernel
theorem dL_holdsNow_45 : decode cL_holdsNow 45 = .ok (.iconst 0, 1) := by decide +kernel
theorem dL_holdsNow_46 : decode cL_holdsNow 46 = .ok (.istore 6, 2) := by decide +kernel
theorem dL_holdsNow_48 : decode cL_holdsNow 48 = .ok (.iload 4, 2) := by decide +kernel
theorem dL_holdsNow_50 : decode cL_holdsNow 50 = .ok (.iload 5, 2) := by decide +kernel
theorem dL_holdsNow_52 : decode cL_holdsNow 52 = .ok (.if_icmp .eq 35, 3) := by decide +kernel
theorem dL_holdsNow_55 : decode cL_holdsNow 55 = .ok (.aload_n 2, 1) := by decide +kernel
theorem dL_holdsNow_56 : decode cL_holdsNow 56 = .ok (.iload 4, 2) := by decide +kernel
theorem dL_holdsNow_58 : decode cL_holdsNow 58 = .ok (.iaload, 1) := by decide +kernel
theorem dL_holdsNow_59 : decode cL_holdsNow 59 = .ok (.ifCond .ge 28, 3) := by decide +kernel
theorem dL_holdsNow_62 : decode cL_holdsNow 62 = .ok (.aload_n 2, 1) := by decide +kernel
theorem dL_holdsNow_63 : decode cL_holdsNow 63 = .ok (.iload 5, 2) := by decide +kernel
theorem dL_holdsNow_65 : decode cL_holdsNow 65 = .ok (.iaload, 1) := by decide +kernel
theorem dL_holdsNow_66 : decode cL_holdsNow 66 = .ok (.ifCond .ge 21, 3) := by decide +kernel
theorem dL_holdsNow_69 : decode cL_holdsNow 69 = .ok (.aload_n 1, 1) := by decide +kernel
theorem dL_holdsNow_70 : decode cL_holdsNow 70 = .ok (.iload 4, 2) := by decide +kernel
theorem dL_holdsNow_72 : decode cL_holdsNow 72 = .ok (.iaload, 1) := by decide +kernel
theorem dL_holdsNow_73 : decode cL_holdsNow 73 = .ok (.aload_n 1, 1) := by decide +kernel
theorem dL_holdsNow_74 : decode cL_holdsNow 74 = .ok (.iload 5, 2) := by decide +kernel
theorem dL_holdsNow_76 : decode cL_holdsNow 76 = .ok (.iaload, 1) := by decide +kernel
theorem dL_holdsNow_77 : decode cL_holdsNow 77 = .ok (.invokestatic 15, 3) := by decide +kernel
theorem dL_holdsNow_80 : decode cL_holdsNow 80 = .ok (.ifCond .eq 7, 3) := by decide +kernel
theorem dL_holdsNow_83 : decode cL_holdsNow 83 = .ok (.iconst 1, 1) := by decide +kernel
theorem dL_holdsNow_84 : decode cL_holdsNow 84 = .ok (.goto 4, 3) := by decide +kernel
theorem dL_holdsNow_87 : decode cL_holdsNow 87 = .ok (.iconst 0, 1) := by decide +kernel
theorem dL_holdsNow_88 : decode cL_holdsNow 88 = .ok (.istore 7, 2) := by decide +kernel
theorem dL_holdsNow_90 : decode cL_holdsNow 90 = .ok (.iload 7, 2) := by decide +kernel
theorem dL_holdsNow_92 : decode cL_holdsNow 92 = .ok (.ifCond .eq 15, 3) := by decide +kernel
theorem dL_holdsNow_95 : decode cL_holdsNow 95 = .ok (.aload_n 2, 1) := by decide +kernel
theorem dL_holdsNow_96 : decode cL_holdsNow 96 = .ok (.iload 4, 2) := by decide +kernel
theorem dL_holdsNow_98 : decode cL_holdsNow 98 = .ok (.iload 5, 2) := by decide +kernel
theorem dL_holdsNow_100 : decode cL_holdsNow 100 = .ok (.iastore, 1) := by decide +kernel
theorem dL_holdsNow_101 : decode cL_holdsNow 101 = .ok (.aload_n 2, 1) := by decide +kernel
theorem dL_holdsNow_102 : decode cL_holdsNow 102 = .ok (.iload 5, 2) := by decide +kernel
theorem dL_holdsNow_104 : decode cL_holdsNow 104 = .ok (.iload 4, 2) := by decide +kernel
theorem dL_holdsNow_106 : decode cL_holdsNow 106 = .ok (.iastore, 1) := by decide +kernel
theorem dL_holdsNow_107 : decode cL_holdsNow 107 = .ok (.iconst 0, 1) := by decide +kernel
theorem dL_holdsNow_108 : decode cL_holdsNow 108 = .ok (.istore 8, 2) := by decide +kernel
theorem dL_holdsNow_110 : decode cL_holdsNow 110 = .ok (.iload 8, 2) := by decide +kernel
theorem dL_holdsNow_112 : decode cL_holdsNow 112 = .ok (.bipush 10, 2) := by decide +kernel
theorem dL_holdsNow_114 : decode cL_holdsNow 114 = .ok (.if_icmp .ge 26, 3) := by decide +kernel
theorem dL_holdsNow_117 : decode cL_holdsNow 117 = .ok (.iload 6, 2) := by decide +kernel
theorem dL_holdsNow_119 : decode cL_holdsNow 119 = .ok (.aload_n 2, 1) := by decide +kernel
theorem dL_holdsNow_120 : decode cL_holdsNow 120 = .ok (.iload 8, 2) := by decide +kernel
theorem dL_holdsNow_122 : decode cL_holdsNow 122 = .ok (.iaload, 1) := by decide +kernel
theorem dL_holdsNow_123 : decode cL_holdsNow 123 = .ok (.ifCond .lt 7, 3) := by decide +kernel
theorem dL_holdsNow_126 : decode cL_holdsNow 126 = .ok (.iconst 1, 1) := by decide +kernel
theorem dL_holdsNow_127 : decode cL_holdsNow 127 = .ok (.goto 4, 3) := by decide +kernel
theorem dL_holdsNow_130 : decode cL_holdsNow 130 = .ok (.iconst 0, 1) := by decide +kernel
theorem dL_holdsNow_131 : decode cL_holdsNow 131 = .ok (.iadd, 1) := by decide +kernel
theorem dL_holdsNow_132 : decode cL_holdsNow 132 = .ok (.istore 6, 2) := by decide +kernel
theorem dL_holdsNow_134 : decode cL_holdsNow 134 = .ok (.iinc 8 1, 3) := by decide +kernel
theorem dL_holdsNow_137 : decode cL_holdsNow 137 = .ok (.goto (-27), 3) := by decide +kernel
theorem dL_holdsNow_140 : decode cL_holdsNow 140 = .ok (.aload_n 0, 1) := by decide +kernel
theorem dL_holdsNow_141 : decode cL_holdsNow 141 = .ok (.iload 4, 2) := by decide +kernel
theorem dL_holdsNow_143 : decode cL_holdsNow 143 = .ok (.iload 5, 2) := by decide +kernel
theorem dL_holdsNow_145 : decode cL_holdsNow 145 = .ok (.invokevirtual 123, 3) := by decide +kernel
theorem dL_holdsNow_148 : decode cL_holdsNow 148 = .ok (.iload 7, 2) := by decide +kernel
theorem dL_holdsNow_150 : decode cL_holdsNow 150 = .ok (.ifCond .eq 10, 3) := by decide +kernel
theorem dL_holdsNow_153 : decode cL_holdsNow 153 = .ok (.iload 6, 2) := by decide +kernel
theorem dL_holdsNow_155 : decode cL_holdsNow 155 = .ok (.iconst 2, 1) := by decide +kernel
theorem dL_holdsNow_156 : decode cL_holdsNow 156 = .ok (.idiv, 1) := by decide +kernel
theorem dL_holdsNow_157 : decode cL_holdsNow 157 = .ok (.goto 17, 3) := by decide +kernel
theorem dL_holdsNow_160 : decode cL_holdsNow 160 = .ok (.iload 4, 2) := by decide +kernel
theorem dL_holdsNow_162 : decode cL_holdsNow 162 = .ok (.iload 5, 2) := by decide +kernel
theorem dL_holdsNow_164 : decode cL_holdsNow 164 = .ok (.if_icmp .ne 8, 3) := by decide +kernel
theorem dL_holdsNow_167 : decode cL_holdsNow 167 = .ok (.bipush (-2), 2) := by decide +kernel
theorem dL_holdsNow_169 : decode cL_holdsNow 169 = .ok (.goto 5, 3) := by decide +kernel
theorem dL_holdsNow_172 : decode cL_holdsNow 172 = .ok (.bipush (-4), 2) := by decide +kernel
theorem dL_holdsNow_174 : decode cL_holdsNow 174 = .ok (.if_icmp .ne 7, 3) := by decide +kernel
theorem dL_holdsNow_177 : decode cL_holdsNow 177 = .ok (.iconst 1, 1) := by decide +kernel
theorem dL_holdsNow_178 : decode cL_holdsNow 178 = .ok (.goto 4, 3) := by decide +kernel
theorem dL_holdsNow_181 : decode cL_holdsNow 181 = .ok (.iconst 0, 1) := by decide +kernel
theorem dL_holdsNow_182 : decode cL_holdsNow 182 = .ok (.ireturn, 1) := by decide +kernel
theorem dL_acts_0 : decode cL_acts 0 = .ok (.iload 8, 2) := by decide +kernel
theorem dL_acts_2 : decode cL_acts 2 = .ok (.tableswitch 296 0 7 #[46, 46, 46, 46, 59, 134, 143, 202], 46) := by decide +kernel
theorem dL_acts_48 : decode cL_acts 48 = .ok (.aload_n 0, 1) := by decide +kernel
theorem dL_acts_49 : decode cL_acts 49 = .ok (.aload 4, 2) := by decide +kernel
theorem dL_acts_51 : decode cL_acts 51 = .ok (.aload 5, 2) := by decide +kernel
theorem dL_acts_53 : decode cL_acts 53 = .ok (.aload 6, 2) := by decide +kernel
theorem dL_acts_55 : decode cL_acts 55 = .ok (.iload 9, 2) := by decide +kernel
theorem dL_acts_57 : decode cL_acts 57 = .ok (.invokestatic 126, 3) := by decide +kernel
theorem dL_acts_60 : decode cL_acts 60 = .ok (.ireturn, 1) := by decide +kernel
theorem dL_acts_61 : decode cL_acts 61 = .ok (.iload 9, 2) := by decide +kernel
theorem dL_acts_63 : decode cL_acts 63 = .ok (.bipush 6, 2) := by decide +kernel
theorem dL_acts_65 : decode cL_acts 65 = .ok (.invokestatic 113, 3) := by decide +kernel
theorem dL_acts_68 : decode cL_acts 68 = .ok (.istore 10, 2) := by decide +kernel
theorem dL_acts_70 : decode cL_acts 70 = .ok (.aload 6, 2) := by decide +kernel
theorem dL_acts_72 : decode cL_acts 72 = .ok (.iload 10, 2) := by decide +kernel
theorem dL_acts_74 : decode cL_acts 74 = .ok (.iaload, 1) := by decide +kernel
theorem dL_acts_75 : decode cL_acts 75 = .ok (.ifCond .ne 8, 3) := by decide +kernel
theorem dL_acts_78 : decode cL_acts 78 = .ok (.bipush (-4), 2) := by decide +kernel
theorem dL_acts_80 : decode cL_acts 80 = .ok (.goto 10, 3) := by decide +kernel
theorem dL_acts_83 : decode cL_acts 83 = .ok (.aload 6, 2) := by decide +kernel
theorem dL_acts_85 : decode cL_acts 85 = .ok (.iload 10, 2) := by decide +kernel
theorem dL_acts_87 : decode cL_acts 87 = .ok (.iaload, 1) := by decide +kernel
theorem dL_acts_88 : decode cL_acts 88 = .ok (.iconst 1, 1) := by decide +kernel
theorem dL_acts_89 : decode cL_acts 89 = .ok (.isub, 1) := by decide +kernel
theorem dL_acts_90 : decode cL_acts 90 = .ok (.istore 11, 2) := by decide +kernel
theorem dL_acts_92 : decode cL_acts 92 = .ok (.aload 6, 2) := by decide +kernel
theorem dL_acts_94 : decode cL_acts 94 = .ok (.iload 10, 2) := by decide +kernel
theorem dL_acts_96 : decode cL_acts 96 = .ok (.dup2, 1) := by decide +kernel
theorem dL_acts_97 : decode cL_acts 97 = .ok (.iaload, 1) := by decide +kernel
theorem dL_acts_98 : decode cL_acts 98 = .ok (.iload 11, 2) := by decide +kernel
theorem dL_acts_100 : decode cL_acts 100 = .ok (.ifCond .ge 7, 3) := by decide +kernel
theorem dL_acts_103 : decode cL_acts 103 = .ok (.iconst 0, 1) := by decide +kernel
theorem dL_acts_104 : decode cL_acts 104 = .ok (.goto 4, 3) := by decide +kernel
theorem dL_acts_107 : decode cL_acts 107 = .ok (.iconst 1, 1) := by decide +kernel
theorem dL_acts_108 : decode cL_acts 108 = .ok (.isub, 1) := by decide +kernel
theorem dL_acts_109 : decode cL_acts 109 = .ok (.iastore, 1) := by decide +kernel
theorem dL_acts_110 : decode cL_acts 110 = .ok (.aload 4, 2) := by decide +kernel
theorem dL_acts_112 : decode cL_acts 112 = .ok (.aload 5, 2) := by decide +kernel
theorem dL_acts_114 : decode cL_acts 114 = .ok (.aload 6, 2) := by decide +kernel
theorem dL_acts_116 : decode cL_acts 116 = .ok (.invokestatic 120, 3) := by decide +kernel
theorem dL_acts_119 : decode cL_acts 119 = .ok (.aload_n 0, 1) := by decide +kernel
theorem dL_acts_120 : decode cL_acts 120 = .ok (.iload 10, 2) := by decide +kernel
theorem dL_acts_122 : decode cL_acts 122 = .ok (.invokevirtual 130, 3) := by decide +kernel
theorem dL_acts_125 : decode cL_acts 125 = .ok (.iload 11, 2) := by decide +kernel
theorem dL_acts_127 : decode cL_acts 127 = .ok (.if_icmp .ne 7, 3) := by decide +kernel
theorem dL_acts_130 : decode cL_acts 130 = .ok (.iconst 1, 1) := by decide +kernel
theorem dL_acts_131 : decode cL_acts 131 = .ok (.goto 4, 3) := by decide +kernel
theorem dL_acts_134 : decode cL_acts 134 = .ok (.iconst 0, 1) := by decide +kernel
theorem dL_acts_135 : decode cL_acts 135 = .ok (.ireturn, 1) := by decide +kernel
theorem dL_acts_136 : decode cL_acts 136 = .ok (.aload_n 0, 1) := by decide +kernel
theorem dL_acts_137 : decode cL_acts 137 = .ok (.aload_n 1, 1) := by decide +kernel
theorem dL_acts_138 : decode cL_acts 138 = .ok (.aload_n 3, 1) := by decide +kernel
theorem dL_acts_139 : decode cL_acts 139 = .ok (.iload 9, 2) := by decide +kernel
theorem dL_acts_141 : decode cL_acts 141 = .ok (.invokestatic 133, 3) := by decide +kernel
theorem dL_acts_144 : decode cL_acts 144 = .ok (.ireturn, 1) := by decide +kernel
theorem dL_acts_145 : decode cL_acts 145 = .ok (.iload 9, 2) := by decide +kernel
theorem dL_acts_147 : decode cL_acts 147 = .ok (.bipush 10, 2) := by decide +kernel
theorem dL_acts_149 : decode cL_acts 149 = .ok (.invokestatic 113, 3) := by decide +kernel
theorem dL_acts_152 : decode cL_acts 152 = .ok (.istore 12, 2) := by decide +kernel
theorem dL_acts_154 : decode cL_acts 154 = .ok (.aload_n 3, 1) := by decide +kernel
theorem dL_acts_155 : decode cL_acts 155 = .ok (.iload 12, 2) := by decide +kernel
theorem dL_acts_157 : decode cL_acts 157 = .ok (.iaload, 1) := by decide +kernel
theorem dL_acts_158 : decode cL_acts 158 = .ok (.istore 13, 2) := by decide +kernel
theorem dL_acts_160 : decode cL_acts 160 = .ok (.iload 13, 2) := by decide +kernel
theorem dL_acts_162 : decode cL_acts 162 = .ok (.ifCond .lt 15, 3) := by decide +kernel
theorem dL_acts_165 : decode cL_acts 165 = .ok (.aload_n 3, 1) := by decide +kernel
theorem dL_acts_166 : decode cL_acts 166 = .ok (.iload 12, 2) := by decide +kernel
theorem dL_acts_168 : decode cL_acts 168 = .ok (.bipush (-5), 2) := by decide +kernel
theorem dL_acts_170 : decode cL_acts 170 = .ok (.iastore, 1) := by decide +kernel
theorem dL_acts_171 : decode cL_acts 171 = .ok (.aload_n 3, 1) := by decide +kernel
theorem dL_acts_172 : decode cL_acts 172 = .ok (.iload 13, 2) := by decide +kernel
theorem dL_acts_174 : decode cL_acts 174 = .ok (.bipush (-5), 2) := by decide +kernel
theorem dL_acts_176 : decode cL_acts 176 = .ok (.iastore, 1) := by decide +kernel
theorem dL_acts_177 : decode cL_acts 177 = .ok (.aload_n 0, 1) := by decide +kernel
theorem dL_acts_178 : decode cL_acts 178 = .ok (.iload 12, 2) := by decide +kernel
theorem dL_acts_180 : decode cL_acts 180 = .ok (.invokevirtual 137, 3) := by decide +kernel
theorem dL_acts_183 : decode cL_acts 183 = .ok (.iload 13, 2) := by decide +kernel
theorem dL_acts_185 : decode cL_acts 185 = .ok (.ifCond .ge 8, 3) := by decide +kernel
theorem dL_acts_188 : decode cL_acts 188 = .ok (.bipush (-4), 2) := by decide +kernel
theorem dL_acts_190 : decode cL_acts 190 = .ok (.goto 5, 3) := by decide +kernel
theorem dL_acts_193 : decode cL_acts 193 = .ok (.iload 13, 2) := by decide +kernel
theorem dL_acts_195 : decode cL_acts 195 = .ok (.if_icmp .ne 7, 3) := by decide +kernel
theorem dL_acts_198 : decode cL_acts 198 = .ok (.iconst 1, 1) := by decide +kernel
theorem dL_acts_199 : decode cL_acts 199 = .ok (.goto 4, 3) := by decide +kernel
theorem dL_acts_202 : decode cL_acts 202 = .ok (.iconst 0, 1) := by decide +kernel
theorem dL_acts_203 : decode cL_acts 203 = .ok (.ireturn, 1) := by decide +kernel
theorem dL_acts_204 : decode cL_acts 204 = .ok (.bipush 10, 2) := by decide +kernel
theorem dL_acts_206 : decode cL_acts 206 = .ok (.aload_n 1, 1) := by decide +kernel
theorem dL_acts_207 : decode cL_acts 207 = .ok (.aload_n 2, 1) := by decide +kernel
theorem dL_acts_208 : decode cL_acts 208 = .ok (.iconst 1, 1) := by decide +kernel
theorem dL_acts_209 : decode cL_acts 209 = .ok (.invokestatic 39, 3) := by decide +kernel
theorem dL_acts_212 : decode cL_acts 212 = .ok (.isub, 1) := by decide +kernel
theorem dL_acts_213 : decode cL_acts 213 = .ok (.istore 14, 2) := by decide +kernel
theorem dL_acts_215 : decode cL_acts 215 = .ok (.iconst 0, 1) := by decide +kernel
theorem dL_acts_216 : decode cL_acts 216 = .ok (.istore 15, 2) := by decide +kernel
theorem dL_acts_218 : decode cL_acts 218 = .ok (.iload 15, 2) := by decide +kernel
theorem dL_acts_220 : decode cL_acts 220 = .ok (.bipush 10, 2) := by decide +kernel
theorem dL_acts_222 : decode cL_acts 222 = .ok (.if_icmp .ge 61, 3) := by decide +kernel
theorem dL_acts_225 : decode cL_acts 225 = .ok (.aload_n 1, 1) := by decide +kernel
theorem dL_acts_226 : decode cL_acts 226 = .ok (.iload 15, 2) := by decide +kernel
theorem dL_acts_228 : decode cL_acts 228 = .ok (.iload 15, 2) := by decide +kernel
theorem dL_acts_230 : decode cL_acts 230 = .ok (.iastore, 1) := by decide +kernel
theorem dL_acts_231 : decode cL_acts 231 = .ok (.aload_n 2, 1) := by decide +kernel
theorem dL_acts_232 : decode cL_acts 232 = .ok (.iload 15, 2) := by decide +kernel
theorem dL_acts_234 : decode cL_acts 234 = .ok (.iconst 0, 1) := by decide +kernel
theorem dL_acts_235 : decode cL_acts 235 = .ok (.iastore, 1) := by decide +kernel
theorem dL_acts_236 : decode cL_acts 236 = .ok (.aload_n 3, 1) := by decide +kernel
theorem dL_acts_237 : decode cL_acts 237 = .ok (.iload 15, 2) := by decide +kernel
theorem dL_acts_239 : decode cL_acts 239 = .ok (.iaload, 1) := by decide +kernel
theorem dL_acts_240 : decode cL_acts 240 = .ok (.ifCond .lt 37, 3) := by decide +kernel
theorem dL_acts_243 : decode cL_acts 243 = .ok (.iload 15, 2) := by decide +kernel
theorem dL_acts_245 : decode cL_acts 245 = .ok (.aload_n 3, 1) := by decide +kernel
theorem dL_acts_246 : decode cL_acts 246 = .ok (.iload 15, 2) := by decide +kernel
theorem dL_acts_248 : decode cL_acts 248 = .ok (.iaload, 1) := by decide +kernel
theorem dL_acts_249 : decode cL_acts 249 = .ok (.invokestatic 15, 3) := by decide +kernel
theorem dL_acts_252 : decode cL_acts 252 = .ok (.ifCond .ne 25, 3) := by decide +kernel
theorem dL_acts_255 : decode cL_acts 255 = .ok (.aload_n 3, 1) := by decide +kernel
theorem dL_acts_256 : decode cL_acts 256 = .ok (.aload_n 3, 1) := by decide +kernel
theorem dL_acts_257 : decode cL_acts 257 = .ok (.iload 15, 2) := by decide +kernel
theorem dL_acts_259 : decode cL_acts 259 = .ok (.iaload, 1) := by decide +kernel
theorem dL_acts_260 : decode cL_acts 260 = .ok (.bipush (-5), 2) := by decide +kernel
theorem dL_acts_262 : decode cL_acts 262 = .ok (.iastore, 1) := by decide +kernel
theorem dL_acts_263 : decode cL_acts 263 = .ok (.aload_n 3, 1) := by decide +kernel
theorem dL_acts_264 : decode cL_acts 264 = .ok (.iload 15, 2) := by decide +kernel
theorem dL_acts_266 : decode cL_acts 266 = .ok (.bipush (-5), 2) := by decide +kernel
theorem dL_acts_268 : decode cL_acts 268 = .ok (.iastore, 1) := by decide +kernel
theorem dL_acts_269 : decode cL_acts 269 = .ok (.aload 7, 2) := by decide +kernel
theorem dL_acts_271 : decode cL_acts 271 = .ok (.iconst 2, 1) := by decide +kernel
theorem dL_acts_272 : decode cL_acts 272 = .ok (.dup2, 1) := by decide +kernel
theorem dL_acts_273 : decode cL_acts 273 = .ok (.iaload, 1) := by decide +kernel
theorem dL_acts_274 : decode cL_acts 274 = .ok (.iconst 1, 1) := by decide +kernel
theorem dL_acts_275 : decode cL_acts 275 = .ok (.iadd, 1) := by decide +kernel
theorem dL_acts_276 : decode cL_acts 276 = .ok (.iastore, 1) := by decide +kernel
theorem dL_acts_277 : decode cL_acts 277 = .ok (.iinc 15 1, 3) := by decide +kernel
theorem dL_acts_280 : decode cL_acts 280 = .ok (.goto (-62), 3) := by decide +kernel
theorem dL_acts_283 : decode cL_acts 283 = .ok (.aload_n 0, 1) := by decide +kernel
theorem dL_acts_284 : decode cL_acts 284 = .ok (.invokevirtual 140, 3) := by decide +kernel
theorem dL_acts_287 : decode cL_acts 287 = .ok (.iload 14, 2) := by decide +kernel
theorem dL_acts_289 : decode cL_acts 289 = .ok (.if_icmp .ne 7, 3) := by decide +kernel
theorem dL_acts_292 : decode cL_acts 292 = .ok (.iconst 1, 1) := by decide +kernel
theorem dL_acts_293 : decode cL_acts 293 = .ok (.goto 4, 3) := by decide +kernel
theorem dL_acts_296 : decode cL_acts 296 = .ok (.iconst 0, 1) := by decide +kernel
theorem dL_acts_297 : decode cL_acts 297 = .ok (.ireturn, 1) := by decide +kernel
theorem dL_acts_298 : decode cL_acts 298 = .ok (.bipush 10, 2) := by decide +kernel
theorem dL_acts_300 : decode cL_acts 300 = .ok (.newarray .int, 2) := by decide +kernel
theorem dL_acts_302 : decode cL_acts 302 = .ok (.astore 15, 2) := by decide +kernel
theorem dL_acts_304 : decode cL_acts 304 = .ok (.bipush 10, 2) := by decide +kernel
theorem dL_acts_306 : decode cL_acts 306 = .ok (.newarray .int, 2) := by decide +kernel
theorem dL_acts_308 : decode cL_acts 308 = .ok (.astore 16, 2) := by decide +kernel
theorem dL_acts_310 : decode cL_acts 310 = .ok (.iload 9, 2) := by decide +kernel
theorem dL_acts_312 : decode cL_acts 312 = .ok (.bipush 6, 2) := by decide +kernel
theorem dL_acts_314 : decode cL_acts 314 = .ok (.invokestatic 113, 3) := by decide +kernel
theorem dL_acts_317 : decode cL_acts 317 = .ok (.istore 17, 2) := by decide +kernel
theorem dL_acts_319 : decode cL_acts 319 = .ok (.iconst 1, 1) := by decide +kernel
theorem dL_acts_320 : decode cL_acts 320 = .ok (.iload 9, 2) := by decide +kernel
theorem dL_acts_322 : decode cL_acts 322 = .ok (.iconst 4, 1) := by decide +kernel
theorem dL_acts_323 : decode cL_acts 323 = .ok (.ishr, 1) := by decide +kernel
theorem dL_acts_324 : decode cL_acts 324 = .ok (.iload 9, 2) := by decide +kernel
theorem dL_acts_326 : decode cL_acts 326 = .ok (.bipush 8, 2) := by decide +kernel
theorem dL_acts_328 : decode cL_acts 328 = .ok (.ishr, 1) := by decide +kernel
theorem dL_acts_329 : decode cL_acts 329 = .ok (.iconst 2, 1) := by decide +kernel
theorem dL_acts_330 : decode cL_acts 330 = .ok (.invokestatic 113, 3) := by decide +kernel
theorem dL_acts_333 : decode cL_acts 333 = .ok (.ifCond .ne 8, 3) := by decide +kernel
theorem dL_acts_336 : decode cL_acts 336 = .ok (.bipush 9, 2) := by decide +kernel
theorem dL_acts_338 : decode cL_acts 338 = .ok (.goto 4, 3) := by decide +kernel
theorem dL_acts_341 : decode cL_acts 341 = .ok (.iconst 2, 1) := by decide +kernel
theorem dL_acts_342 : decode cL_acts 342 = .ok (.invokestatic 113, 3) := by decide +kernel
theorem dL_acts_345 : decode cL_acts 345 = .ok (.iadd, 1) := by decide +kernel
theorem dL_acts_346 : decode cL_acts 346 = .ok (.istore 18, 2) := by decide +kernel
theorem dL_acts_348 : decode cL_acts 348 = .ok (.iload 9, 2) := by decide +kernel
theorem dL_acts_350 : decode cL_acts 350 = .ok (.bipush 9, 2) := by decide +kernel
theorem dL_acts_352 : decode cL_acts 352 = .ok (.ishr, 1) := by decide +kernel
theorem dL_acts_353 : decode cL_acts 353 = .ok (.iconst 2, 1) := by decide +kernel
theorem dL_acts_354 : decode cL_acts 354 = .ok (.invokestatic 113, 3) := by decide +kernel
theorem dL_acts_357 : decode cL_acts 357 = .ok (.ifCond .ne 7, 3) := by decide +kernel
theorem dL_acts_360 : decode cL_acts 360 = .ok (.iconst 1, 1) := by decide +kernel
theorem dL_acts_361 : decode cL_acts 361 = .ok (.goto 4, 3) := by decide +kernel
theorem dL_acts_364 : decode cL_acts 364 = .ok (.iconst 0, 1) := by decide +kernel
theorem dL_acts_365 : decode cL_acts 365 = .ok (.istore 19, 2) := by decide +kernel
theorem dL_acts_367 : decode cL_acts 367 = .ok (.aload_n 1, 1) := by decide +kernel
theorem dL_acts_368 : decode cL_acts 368 = .ok (.aload 15, 2) := by decide +kernel
theorem dL_acts_370 : decode cL_acts 370 = .ok (.invokestatic 27, 3) := by decide +kernel
theorem dL_acts_373 : decode cL_acts 373 = .ok (.aload_n 2, 1) := by decide +kernel
theorem dL_acts_374 : decode cL_acts 374 = .ok (.aload 16, 2) := by decide +kernel
theorem dL_acts_376 : decode cL_acts 376 = .ok (.invokestatic 27, 3) := by decide +kernel
theorem dL_acts_379 : decode cL_acts 379 = .ok (.aload 15, 2) := by decide +kernel
theorem dL_acts_381 : decode cL_acts 381 = .ok (.aload 16, 2) := by decide +kernel
theorem dL_acts_383 : decode cL_acts 383 = .ok (.aload_n 3, 1) := by decide +kernel
theorem dL_acts_384 : decode cL_acts 384 = .ok (.aload 4, 2) := by decide +kernel
theorem dL_acts_386 : decode cL_acts 386 = .ok (.aload 5, 2) := by decide +kernel
theorem dL_acts_388 : decode cL_acts 388 = .ok (.aload 6, 2) := by decide +kernel
theorem dL_acts_390 : decode cL_acts 390 = .ok (.iload 17, 2) := by decide +kernel
theorem dL_acts_392 : decode cL_acts 392 = .ok (.iload 18, 2) := by decide +kernel
theorem dL_acts_394 : decode cL_acts 394 = .ok (.iload 19, 2) := by decide +kernel
theorem dL_acts_396 : decode cL_acts 396 = .ok (.invokestatic 95, 3) := by decide +kernel
theorem dL_acts_399 : decode cL_acts 399 = .ok (.istore 20, 2) := by decide +kernel
theorem dL_acts_401 : decode cL_acts 401 = .ok (.iload 20, 2) := by decide +kernel
theorem dL_acts_403 : decode cL_acts 403 = .ok (.iload 18, 2) := by decide +kernel
theorem dL_acts_405 : decode cL_acts 405 = .ok (.aload 6, 2) := by decide +kernel
theorem dL_acts_407 : decode cL_acts 407 = .ok (.bipush 8, 2) := by decide +kernel
theorem dL_acts_409 : decode cL_acts 409 = .ok (.iload 17, 2) := by decide +kernel
theorem dL_acts_411 : decode cL_acts 411 = .ok (.iadd, 1) := by decide +kernel
theorem dL_acts_412 : decode cL_acts 412 = .ok (.iaload, 1) := by decide +kernel
theorem dL_acts_413 : decode cL_acts 413 = .ok (.imul, 1) := by decide +kernel
theorem dL_acts_414 : decode cL_acts 414 = .ok (.if_icmp .ne 7, 3) := by decide +kernel
theorem dL_acts_417 : decode cL_acts 417 = .ok (.iconst 1, 1) := by decide +kernel
theorem dL_acts_418 : decode cL_acts 418 = .ok (.goto 4, 3) := by decide +kernel
theorem dL_acts_421 : decode cL_acts 421 = .ok (.iconst 0, 1) := by decide +kernel
theorem dL_acts_422 : decode cL_acts 422 = .ok (.istore 21, 2) := by decide +kernel
theorem dL_acts_424 : decode cL_acts 424 = .ok (.iload 21, 2) := by decide +kernel
theorem dL_acts_426 : decode cL_acts 426 = .ok (.ifCond .eq 32, 3) := by decide +kernel
theorem dL_acts_429 : decode cL_acts 429 = .ok (.aload 15, 2) := by decide +kernel
theorem dL_acts_431 : decode cL_acts 431 = .ok (.aload_n 1, 1) := by decide +kernel
theorem dL_acts_432 : decode cL_acts 432 = .ok (.invokestatic 27, 3) := by decide +kernel
theorem dL_acts_435 : decode cL_acts 435 = .ok (.aload 16, 2) := by decide +kernel
theorem dL_acts_437 : decode cL_acts 437 = .ok (.aload_n 2, 1) := by decide +kernel
theorem dL_acts_438 : decode cL_acts 438 = .ok (.invokestatic 27, 3) := by decide +kernel
theorem dL_acts_441 : decode cL_acts 441 = .ok (.aload 7, 2) := by decide +kernel
theorem dL_acts_443 : decode cL_acts 443 = .ok (.iconst 0, 1) := by decide +kernel
theorem dL_acts_444 : decode cL_acts 444 = .ok (.dup2, 1) := by decide +kernel
theorem dL_acts_445 : decode cL_acts 445 = .ok (.iaload, 1) := by decide +kernel
theorem dL_acts_446 : decode cL_acts 446 = .ok (.iconst 1, 1) := by decide +kernel
theorem dL_acts_447 : decode cL_acts 447 = .ok (.iadd, 1) := by decide +kernel
theorem dL_acts_448 : decode cL_acts 448 = .ok (.iastore, 1) := by decide +kernel
theorem dL_acts_449 : decode cL_acts 449 = .ok (.aload 7, 2) := by decide +kernel
theorem dL_acts_451 : decode cL_acts 451 = .ok (.iconst 1, 1) := by decide +kernel
theorem dL_acts_452 : decode cL_acts 452 = .ok (.dup2, 1) := by decide +kernel
theorem dL_acts_453 : decode cL_acts 453 = .ok (.iaload, 1) := by decide +kernel
theorem dL_acts_454 : decode cL_acts 454 = .ok (.iload 20, 2) := by decide +kernel
theorem dL_acts_456 : decode cL_acts 456 = .ok (.iadd, 1) := by decide +kernel
theorem dL_acts_457 : decode cL_acts 457 = .ok (.iastore, 1) := by decide +kernel
theorem dL_acts_458 : decode cL_acts 458 = .ok (.aload_n 0, 1) := by decide +kernel
theorem dL_acts_459 : decode cL_acts 459 = .ok (.iload 17, 2) := by decide +kernel
theorem dL_acts_461 : decode cL_acts 461 = .ok (.iload 18, 2) := by decide +kernel
theorem dL_acts_463 : decode cL_acts 463 = .ok (.iload 19, 2) := by decide +kernel
theorem dL_acts_465 : decode cL_acts 465 = .ok (.invokevirtual 144, 3) := by decide +kernel
theorem dL_acts_468 : decode cL_acts 468 = .ok (.iload 21, 2) := by decide +kernel
theorem dL_acts_470 : decode cL_acts 470 = .ok (.ifCond .eq 8, 3) := by decide +kernel
theorem dL_acts_473 : decode cL_acts 473 = .ok (.iload 20, 2) := by decide +kernel
theorem dL_acts_475 : decode cL_acts 475 = .ok (.goto 8, 3) := by decide +kernel
theorem dL_acts_478 : decode cL_acts 478 = .ok (.bipush (-100), 2) := by decide +kernel
theorem dL_acts_480 : decode cL_acts 480 = .ok (.iload 20, 2) := by decide +kernel
theorem dL_acts_482 : decode cL_acts 482 = .ok (.isub, 1) := by decide +kernel
theorem dL_acts_483 : decode cL_acts 483 = .ok (.if_icmp .ne 7, 3) := by decide +kernel
theorem dL_acts_486 : decode cL_acts 486 = .ok (.iconst 1, 1) := by decide +kernel
theorem dL_acts_487 : decode cL_acts 487 = .ok (.goto 4, 3) := by decide +kernel
theorem dL_acts_490 : decode cL_acts 490 = .ok (.iconst 0, 1) := by decide +kernel
theorem dL_acts_491 : decode cL_acts 491 = .ok (.ireturn, 1) := by decide +kernel
theorem dL_law_0 : decode cL_law 0 = .ok (.new 48, 3) := by decide +kernel
theorem dL_law_3 : decode cL_law 3 = .ok (.dup, 1) := by decide +kernel
theorem dL_law_4 : decode cL_law 4 = .ok (.invokespecial 147, 3) := by decide +kernel
theorem dL_law_7 : decode cL_law 7 = .ok (.astore_n 1, 1) := by decide +kernel
theorem dL_law_8 : decode cL_law 8 = .ok (.bipush 10, 2) := by decide +kernel
theorem dL_law_10 : decode cL_law 10 = .ok (.newarray .int, 2) := by decide +kernel
theorem dL_law_12 : decode cL_law 12 = .ok (.astore_n 2, 1) := by decide +kernel
theorem dL_law_13 : decode cL_law 13 = .ok (.bipush 10, 2) := by decide +kernel
theorem dL_law_15 : decode cL_law 15 = .ok (.newarray .int, 2) := by decide +kernel
theorem dL_law_17 : decode cL_law 17 = .ok (.astore_n 3, 1) := by decide +kernel
theorem dL_law_18 : decode cL_law 18 = .ok (.bipush 10, 2) := by decide +kernel
theorem dL_law_20 : decode cL_law 20 = .ok (.newarray .int, 2) := by decide +kernel
theorem dL_law_22 : decode cL_law 22 = .ok (.astore 4, 2) := by decide +kernel
theorem dL_law_24 : decode cL_law 24 = .ok (.bipush 40, 2) := by decide +kernel
theorem dL_law_26 : decode cL_law 26 = .ok (.newarray .int, 2) := by decide +kernel
theorem dL_law_28 : decode cL_law 28 = .ok (.astore 5, 2) := by decide +kernel
theorem dL_law_30 : decode cL_law 30 = .ok (.bipush 40, 2) := by decide +kernel
theorem dL_law_32 : decode cL_law 32 = .ok (.newarray .int, 2) := by decide +kernel
theorem dL_law_34 : decode cL_law 34 = .ok (.astore 6, 2) := by decide +kernel
theorem dL_law_36 : decode cL_law 36 = .ok (.bipush 16, 2) := by decide +kernel
theorem dL_law_38 : decode cL_law 38 = .ok (.newarray .int, 2) := by decide +kernel
theorem dL_law_40 : decode cL_law 40 = .ok (.astore 7, 2) := by decide +kernel
theorem dL_law_42 : decode cL_law 42 = .ok (.iconst 3, 1) := by decide +kernel
theorem dL_law_43 : decode cL_law 43 = .ok (.newarray .int, 2) := by decide +kernel
theorem dL_law_45 : decode cL_law 45 = .ok (.astore 8, 2) := by decide +kernel
theorem dL_law_47 : decode cL_law 47 = .ok (.bipush 10, 2) := by decide +kernel
theorem dL_law_49 : decode cL_law 49 = .ok (.newarray .int, 2) := by decide +kernel
theorem dL_law_51 : decode cL_law 51 = .ok (.astore 9, 2) := by decide +kernel
theorem dL_law_53 : decode cL_law 53 = .ok (.bipush 10, 2) := by decide +kernel
theorem dL_law_55 : decode cL_law 55 = .ok (.newarray .int, 2) := by decide +kernel
theorem dL_law_57 : decode cL_law 57 = .ok (.astore 10, 2) := by decide +kernel
theorem dL_law_59 : decode cL_law 59 = .ok (.iconst 0, 1) := by decide +kernel
theorem dL_law_60 : decode cL_law 60 = .ok (.istore 11, 2) := by decide +kernel
theorem dL_law_62 : decode cL_law 62 = .ok (.iload 11, 2) := by decide +kernel
theorem dL_law_64 : decode cL_law 64 = .ok (.bipush 10, 2) := by decide +kernel
theorem dL_law_66 : decode cL_law 66 = .ok (.if_icmp .ge 22, 3) := by decide +kernel
theorem dL_law_69 : decode cL_law 69 = .ok (.aload_n 2, 1) := by decide +kernel
theorem dL_law_70 : decode cL_law 70 = .ok (.iload 11, 2) := by decide +kernel
theorem dL_law_72 : decode cL_law 72 = .ok (.iload 11, 2) := by decide +kernel
theorem dL_law_74 : decode cL_law 74 = .ok (.iastore, 1) := by decide +kernel
theorem dL_law_75 : decode cL_law 75 = .ok (.aload 4, 2) := by decide +kernel
theorem dL_law_77 : decode cL_law 77 = .ok (.iload 11, 2) := by decide +kernel
theorem dL_law_79 : decode cL_law 79 = .ok (.bipush (-5), 2) := by decide +kernel
theorem dL_law_81 : decode cL_law 81 = .ok (.iastore, 1) := by decide +kernel
theorem dL_law_82 : decode cL_law 82 = .ok (.iinc 11 1, 3) := by decide +kernel
theorem dL_law_85 : decode cL_law 85 = .ok (.goto (-23), 3) := by decide +kernel
theorem dL_law_88 : decode cL_law 88 = .ok (.aload_n 1, 1) := by decide +kernel
theorem dL_law_89 : decode cL_law 89 = .ok (.aload_n 2, 1) := by decide +kernel
theorem dL_law_90 : decode cL_law 90 = .ok (.aload_n 3, 1) := by decide +kernel
theorem dL_law_91 : decode cL_law 91 = .ok (.aload 4, 2) := by decide +kernel
theorem dL_law_93 : decode cL_law 93 = .ok (.aload 7, 2) := by decide +kernel
theorem dL_law_95 : decode cL_law 95 = .ok (.aload 8, 2) := by decide +kernel
theorem dL_law_97 : decode cL_law 97 = .ok (.invokestatic 148, 3) := by decide +kernel
theorem dL_law_100 : decode cL_law 100 = .ok (.ifCond .eq 25, 3) := by decide +kernel
theorem dL_law_103 : decode cL_law 103 = .ok (.aload_n 1, 1) := by decide +kernel
theorem dL_law_104 : decode cL_law 104 = .ok (.iconst 0, 1) := by decide +kernel
theorem dL_law_105 : decode cL_law 105 = .ok (.invokevirtual 106, 3) := by decide +kernel
theorem dL_law_108 : decode cL_law 108 = .ok (.ifCond .ne 17, 3) := by decide +kernel
theorem dL_law_111 : decode cL_law 111 = .ok (.aload_n 1, 1) := by decide +kernel
theorem dL_law_112 : decode cL_law 112 = .ok (.iconst 1, 1) := by decide +kernel
theorem dL_law_113 : decode cL_law 113 = .ok (.invokevirtual 106, 3) := by decide +kernel
theorem dL_law_116 : decode cL_law 116 = .ok (.bipush (-5), 2) := by decide +kernel
theorem dL_law_118 : decode cL_law 118 = .ok (.if_icmp .ne 7, 3) := by decide +kernel
theorem dL_law_121 : decode cL_law 121 = .ok (.iconst 1, 1) := by decide +kernel
theorem dL_law_122 : decode cL_law 122 = .ok (.goto 4, 3) := by decide +kernel
theorem dL_law_125 : decode cL_law 125 = .ok (.iconst 0, 1) := by decide +kernel
theorem dL_law_126 : decode cL_law 126 = .ok (.istore 11, 2) := by decide +kernel
theorem dL_law_128 : decode cL_law 128 = .ok (.iconst 0, 1) := by decide +kernel
theorem dL_law_129 : decode cL_law 129 = .ok (.istore 12, 2) := by decide +kernel
theorem dL_law_131 : decode cL_law 131 = .ok (.iload 12, 2) := by decide +kernel
theorem dL_law_133 : decode cL_law 133 = .ok (.bipush 44, 2) := by decide +kernel
theorem dL_law_135 : decode cL_law 135 = .ok (.if_icmp .ge 210, 3) := by decide +kernel
theorem dL_law_138 : decode cL_law 138 = .ok (.iload 11, 2) := by decide +kernel
theorem dL_law_140 : decode cL_law 140 = .ok (.ifCond .eq 205, 3) := by decide +kernel
theorem dL_law_143 : decode cL_law 143 = .ok (.aload_n 0, 1) := by decide +kernel
theorem dL_law_144 : decode cL_law 144 = .ok (.iload 12, 2) := by decide +kernel
theorem dL_law_146 : decode cL_law 146 = .ok (.invokestatic 152, 3) := by decide +kernel
theorem dL_law_149 : decode cL_law 149 = .ok (.istore 13, 2) := by decide +kernel
theorem dL_law_151 : decode cL_law 151 = .ok (.aload_n 1, 1) := by decide +kernel
theorem dL_law_152 : decode cL_law 152 = .ok (.aload_n 2, 1) := by decide +kernel
theorem dL_law_153 : decode cL_law 153 = .ok (.aload_n 3, 1) := by decide +kernel
theorem dL_law_154 : decode cL_law 154 = .ok (.aload 4, 2) := by decide +kernel
theorem dL_law_156 : decode cL_law 156 = .ok (.aload 5, 2) := by decide +kernel
theorem dL_law_158 : decode cL_law 158 = .ok (.aload 6, 2) := by decide +kernel
theorem dL_law_160 : decode cL_law 160 = .ok (.aload 7, 2) := by decide +kernel
theorem dL_law_162 : decode cL_law 162 = .ok (.aload 8, 2) := by decide +kernel
theorem dL_law_164 : decode cL_law 164 = .ok (.iload 12, 2) := by decide +kernel
theorem dL_law_166 : decode cL_law 166 = .ok (.bipush 10, 2) := by decide +kernel
theorem dL_law_168 : decode cL_law 168 = .ok (.if_icmp .ge 7, 3) := by decide +kernel
theorem dL_law_171 : decode cL_law 171 = .ok (.iconst 0, 1) := by decide +kernel
theorem dL_law_172 : decode cL_law 172 = .ok (.goto 13, 3) := by decide +kernel
theorem dL_law_175 : decode cL_law 175 = .ok (.iload 13, 2) := by decide +kernel
theorem dL_law_177 : decode cL_law 177 = .ok (.bipush 18, 2) := by decide +kernel
theorem dL_law_179 : decode cL_law 179 = .ok (.ishr, 1) := by decide +kernel
theorem dL_law_180 : decode cL_law 180 = .ok (.bipush 14, 2) := by decide +kernel
theorem dL_law_182 : decode cL_law 182 = .ok (.invokestatic 113, 3) := by decide +kernel
theorem dL_law_185 : decode cL_law 185 = .ok (.iload 13, 2) := by decide +kernel
theorem dL_law_187 : decode cL_law 187 = .ok (.invokestatic 156, 3) := by decide +kernel
theorem dL_law_190 : decode cL_law 190 = .ok (.ifCond .eq 146, 3) := by decide +kernel
theorem dL_law_193 : decode cL_law 193 = .ok (.aload_n 1, 1) := by decide +kernel
theorem dL_law_194 : decode cL_law 194 = .ok (.aload_n 2, 1) := by decide +kernel
theorem dL_law_195 : decode cL_law 195 = .ok (.aload_n 3, 1) := by decide +kernel
theorem dL_law_196 : decode cL_law 196 = .ok (.aload 4, 2) := by decide +kernel
theorem dL_law_198 : decode cL_law 198 = .ok (.aload 7, 2) := by decide +kernel
theorem dL_law_200 : decode cL_law 200 = .ok (.aload 8, 2) := by decide +kernel
theorem dL_law_202 : decode cL_law 202 = .ok (.invokestatic 148, 3) := by decide +kernel
theorem dL_law_205 : decode cL_law 205 = .ok (.ifCond .eq 131, 3) := by decide +kernel
theorem dL_law_208 : decode cL_law 208 = .ok (.aload_n 1, 1) := by decide +kernel
theorem dL_law_209 : decode cL_law 209 = .ok (.aload 5, 2) := by decide +kernel
theorem dL_law_211 : decode cL_law 211 = .ok (.aload 6, 2) := by decide +kernel
theorem dL_law_213 : decode cL_law 213 = .ok (.aload 7, 2) := by decide +kernel
theorem dL_law_215 : decode cL_law 215 = .ok (.aload 9, 2) := by decide +kernel
theorem dL_law_217 : decode cL_law 217 = .ok (.aload 10, 2) := by decide +kernel
theorem dL_law_219 : decode cL_law 219 = .ok (.iload 13, 2) := by decide +kernel
theorem dL_law_221 : decode cL_law 221 = .ok (.iconst 5, 1) := by decide +kernel
theorem dL_law_222 : decode cL_law 222 = .ok (.ishr, 1) := by decide +kernel
theorem dL_law_223 : decode cL_law 223 = .ok (.bipush 8, 2) := by decide +kernel
theorem dL_law_225 : decode cL_law 225 = .ok (.invokestatic 113, 3) := by decide +kernel
theorem dL_law_228 : decode cL_law 228 = .ok (.invokestatic 160, 3) := by decide +kernel
theorem dL_law_231 : decode cL_law 231 = .ok (.ifCond .eq 105, 3) := by decide +kernel
theorem dL_law_234 : decode cL_law 234 = .ok (.aload_n 1, 1) := by decide +kernel
theorem dL_law_235 : decode cL_law 235 = .ok (.aload 5, 2) := by decide +kernel
theorem dL_law_237 : decode cL_law 237 = .ok (.aload 6, 2) := by decide +kernel
theorem dL_law_239 : decode cL_law 239 = .ok (.aload 7, 2) := by decide +kernel
theorem dL_law_241 : decode cL_law 241 = .ok (.iload 13, 2) := by decide +kernel
theorem dL_law_243 : decode cL_law 243 = .ok (.iconst 4, 1) := by decide +kernel
theorem dL_law_244 : decode cL_law 244 = .ok (.ishr, 1) := by decide +kernel
theorem dL_law_245 : decode cL_law 245 = .ok (.bipush 8, 2) := by decide +kernel
theorem dL_law_247 : decode cL_law 247 = .ok (.invokestatic 113, 3) := by decide +kernel
theorem dL_law_250 : decode cL_law 250 = .ok (.iload 13, 2) := by decide +kernel
theorem dL_law_252 : decode cL_law 252 = .ok (.bipush 7, 2) := by decide +kernel
theorem dL_law_254 : decode cL_law 254 = .ok (.ishr, 1) := by decide +kernel
theorem dL_law_255 : decode cL_law 255 = .ok (.bipush 8, 2) := by decide +kernel
theorem dL_law_257 : decode cL_law 257 = .ok (.invokestatic 113, 3) := by decide +kernel
theorem dL_law_260 : decode cL_law 260 = .ok (.invokestatic 164, 3) := by decide +kernel
theorem dL_law_263 : decode cL_law 263 = .ok (.ifCond .eq 73, 3) := by decide +kernel
theorem dL_law_266 : decode cL_law 266 = .ok (.aload_n 1, 1) := by decide +kernel
theorem dL_law_267 : decode cL_law 267 = .ok (.aload_n 2, 1) := by decide +kernel
theorem dL_law_268 : decode cL_law 268 = .ok (.aload_n 3, 1) := by decide +kernel
theorem dL_law_269 : decode cL_law 269 = .ok (.aload 4, 2) := by decide +kernel
theorem dL_law_271 : decode cL_law 271 = .ok (.aload 5, 2) := by decide +kernel
theorem dL_law_273 : decode cL_law 273 = .ok (.aload 6, 2) := by decide +kernel
theorem dL_law_275 : decode cL_law 275 = .ok (.aload 7, 2) := by decide +kernel
theorem dL_law_277 : decode cL_law 277 = .ok (.iload 13, 2) := by decide +kernel
theorem dL_law_279 : decode cL_law 279 = .ok (.iconst 3, 1) := by decide +kernel
theorem dL_law_280 : decode cL_law 280 = .ok (.ishr, 1) := by decide +kernel
theorem dL_law_281 : decode cL_law 281 = .ok (.bipush 8, 2) := by decide +kernel
theorem dL_law_283 : decode cL_law 283 = .ok (.invokestatic 113, 3) := by decide +kernel
theorem dL_law_286 : decode cL_law 286 = .ok (.iload 13, 2) := by decide +kernel
theorem dL_law_288 : decode cL_law 288 = .ok (.bipush 6, 2) := by decide +kernel
theorem dL_law_290 : decode cL_law 290 = .ok (.ishr, 1) := by decide +kernel
theorem dL_law_291 : decode cL_law 291 = .ok (.iconst 2, 1) := by decide +kernel
theorem dL_law_292 : decode cL_law 292 = .ok (.invokestatic 113, 3) := by decide +kernel
theorem dL_law_295 : decode cL_law 295 = .ok (.ifCond .ne 7, 3) := by decide +kernel
theorem dL_law_298 : decode cL_law 298 = .ok (.iconst 1, 1) := by decide +kernel
theorem dL_law_299 : decode cL_law 299 = .ok (.goto 4, 3) := by decide +kernel
theorem dL_law_302 : decode cL_law 302 = .ok (.iconst 0, 1) := by decide +kernel
theorem dL_law_303 : decode cL_law 303 = .ok (.invokestatic 168, 3) := by decide +kernel
theorem dL_law_306 : decode cL_law 306 = .ok (.ifCond .eq 30, 3) := by decide +kernel
theorem dL_law_309 : decode cL_law 309 = .ok (.iload 12, 2) := by decide +kernel
theorem dL_law_311 : decode cL_law 311 = .ok (.iconst 5, 1) := by decide +kernel
theorem dL_law_312 : decode cL_law 312 = .ok (.irem, 1) := by decide +kernel
theorem dL_law_313 : decode cL_law 313 = .ok (.iconst 4, 1) := by decide +kernel
theorem dL_law_314 : decode cL_law 314 = .ok (.if_icmp .ne 18, 3) := by decide +kernel
theorem dL_law_317 : decode cL_law 317 = .ok (.aload_n 1, 1) := by decide +kernel
theorem dL_law_318 : decode cL_law 318 = .ok (.aload_n 2, 1) := by decide +kernel
theorem dL_law_319 : decode cL_law 319 = .ok (.aload_n 3, 1) := by decide +kernel
theorem dL_law_320 : decode cL_law 320 = .ok (.aload 5, 2) := by decide +kernel
theorem dL_law_322 : decode cL_law 322 = .ok (.aload 6, 2) := by decide +kernel
theorem dL_law_324 : decode cL_law 324 = .ok (.aload 7, 2) := by decide +kernel
theorem dL_law_326 : decode cL_law 326 = .ok (.invokestatic 172, 3) := by decide +kernel
theorem dL_law_329 : decode cL_law 329 = .ok (.ifCond .eq 7, 3) := by decide +kernel
theorem dL_law_332 : decode cL_law 332 = .ok (.iconst 1, 1) := by decide +kernel
theorem dL_law_333 : decode cL_law 333 = .ok (.goto 4, 3) := by decide +kernel
theorem dL_law_336 : decode cL_law 336 = .ok (.iconst 0, 1) := by decide +kernel
theorem dL_law_337 : decode cL_law 337 = .ok (.istore 11, 2) := by decide +kernel
theorem dL_law_339 : decode cL_law 339 = .ok (.iinc 12 1, 3) := by decide +kernel
theorem dL_law_342 : decode cL_law 342 = .ok (.goto (-211), 3) := by decide +kernel
theorem dL_law_345 : decode cL_law 345 = .ok (.iload 11, 2) := by decide +kernel
theorem dL_law_347 : decode cL_law 347 = .ok (.ireturn, 1) := by decide +kernel
