theorem dL_law_0 : decode cL_law 0 = .ok (.aload_n 0, 1) := by decide +kernel
theorem dL_law_1 : decode cL_law 1 = .ok (.invokestatic 163, 3) := by decide +kernel
theorem dL_law_4 : decode cL_law 4 = .ok (.astore_n 1, 1) := by decide +kernel
theorem dL_law_5 : decode cL_law 5 = .ok (.aload_n 0, 1) := by decide +kernel
theorem dL_law_6 : decode cL_law 6 = .ok (.invokestatic 163, 3) := by decide +kernel
theorem dL_law_9 : decode cL_law 9 = .ok (.astore_n 2, 1) := by decide +kernel
theorem dL_law_10 : decode cL_law 10 = .ok (.aload_n 1, 1) := by decide +kernel
theorem dL_law_11 : decode cL_law 11 = .ok (.invokevirtual 167, 3) := by decide +kernel
theorem dL_law_14 : decode cL_law 14 = .ok (.istore_n 3, 1) := by decide +kernel
theorem dL_law_15 : decode cL_law 15 = .ok (.aload_n 1, 1) := by decide +kernel
theorem dL_law_16 : decode cL_law 16 = .ok (.invokestatic 170, 3) := by decide +kernel
theorem dL_law_19 : decode cL_law 19 = .ok (.istore 4, 2) := by decide +kernel
theorem dL_law_21 : decode cL_law 21 = .ok (.aload_n 1, 1) := by decide +kernel
theorem dL_law_22 : decode cL_law 22 = .ok (.ldc 174, 2) := by decide +kernel
theorem dL_law_24 : decode cL_law 24 = .ok (.invokestatic 176, 3) := by decide +kernel
theorem dL_law_27 : decode cL_law 27 = .ok (.aload_n 2, 1) := by decide +kernel
theorem dL_law_28 : decode cL_law 28 = .ok (.iconst 0, 1) := by decide +kernel
theorem dL_law_29 : decode cL_law 29 = .ok (.iconst 1, 1) := by decide +kernel
theorem dL_law_30 : decode cL_law 30 = .ok (.invokevirtual 72, 3) := by decide +kernel
theorem dL_law_33 : decode cL_law 33 = .ok (.istore 5, 2) := by decide +kernel
theorem dL_law_35 : decode cL_law 35 = .ok (.aload_n 2, 1) := by decide +kernel
theorem dL_law_36 : decode cL_law 36 = .ok (.iconst 0, 1) := by decide +kernel
theorem dL_law_37 : decode cL_law 37 = .ok (.iconst 0, 1) := by decide +kernel
theorem dL_law_38 : decode cL_law 38 = .ok (.invokevirtual 72, 3) := by decide +kernel
theorem dL_law_41 : decode cL_law 41 = .ok (.istore 5, 2) := by decide +kernel
theorem dL_law_43 : decode cL_law 43 = .ok (.aload_n 2, 1) := by decide +kernel
theorem dL_law_44 : decode cL_law 44 = .ok (.iconst 1, 1) := by decide +kernel
theorem dL_law_45 : decode cL_law 45 = .ok (.iconst 1, 1) := by decide +kernel
theorem dL_law_46 : decode cL_law 46 = .ok (.invokevirtual 72, 3) := by decide +kernel
theorem dL_law_49 : decode cL_law 49 = .ok (.istore 5, 2) := by decide +kernel
theorem dL_law_51 : decode cL_law 51 = .ok (.aload_n 1, 1) := by decide +kernel
theorem dL_law_52 : decode cL_law 52 = .ok (.invokevirtual 180, 3) := by decide +kernel
theorem dL_law_55 : decode cL_law 55 = .ok (.iconst 3, 1) := by decide +kernel
theorem dL_law_56 : decode cL_law 56 = .ok (.if_icmp .ne 14, 3) := by decide +kernel
theorem dL_law_59 : decode cL_law 59 = .ok (.aload_n 1, 1) := by decide +kernel
theorem dL_law_60 : decode cL_law 60 = .ok (.invokestatic 170, 3) := by decide +kernel
theorem dL_law_63 : decode cL_law 63 = .ok (.aload_n 2, 1) := by decide +kernel
theorem dL_law_64 : decode cL_law 64 = .ok (.invokestatic 170, 3) := by decide +kernel
theorem dL_law_67 : decode cL_law 67 = .ok (.if_icmp .eq 5, 3) := by decide +kernel
theorem dL_law_70 : decode cL_law 70 = .ok (.iconst 0, 1) := by decide +kernel
theorem dL_law_71 : decode cL_law 71 = .ok (.ireturn, 1) := by decide +kernel
theorem dL_law_72 : decode cL_law 72 = .ok (.aload_n 1, 1) := by decide +kernel
theorem dL_law_73 : decode cL_law 73 = .ok (.invokevirtual 183, 3) := by decide +kernel
theorem dL_law_76 : decode cL_law 76 = .ok (.ifCond .lt 42, 3) := by decide +kernel
theorem dL_law_79 : decode cL_law 79 = .ok (.aload_n 1, 1) := by decide +kernel
theorem dL_law_80 : decode cL_law 80 = .ok (.invokestatic 170, 3) := by decide +kernel
theorem dL_law_83 : decode cL_law 83 = .ok (.iload 4, 2) := by decide +kernel
theorem dL_law_85 : decode cL_law 85 = .ok (.if_icmp .ne 33, 3) := by decide +kernel
theorem dL_law_88 : decode cL_law 88 = .ok (.aload_n 2, 1) := by decide +kernel
theorem dL_law_89 : decode cL_law 89 = .ok (.invokevirtual 183, 3) := by decide +kernel
theorem dL_law_92 : decode cL_law 92 = .ok (.ifCond .lt 26, 3) := by decide +kernel
theorem dL_law_95 : decode cL_law 95 = .ok (.aload_n 2, 1) := by decide +kernel
theorem dL_law_96 : decode cL_law 96 = .ok (.invokevirtual 183, 3) := by decide +kernel
theorem dL_law_99 : decode cL_law 99 = .ok (.ifCond .lt 19, 3) := by decide +kernel
theorem dL_law_102 : decode cL_law 102 = .ok (.aload_n 2, 1) := by decide +kernel
theorem dL_law_103 : decode cL_law 103 = .ok (.invokevirtual 183, 3) := by decide +kernel
theorem dL_law_106 : decode cL_law 106 = .ok (.ifCond .lt 12, 3) := by decide +kernel
theorem dL_law_109 : decode cL_law 109 = .ok (.aload_n 2, 1) := by decide +kernel
theorem dL_law_110 : decode cL_law 110 = .ok (.invokestatic 170, 3) := by decide +kernel
theorem dL_law_113 : decode cL_law 113 = .ok (.iload 4, 2) := by decide +kernel
theorem dL_law_115 : decode cL_law 115 = .ok (.if_icmp .eq 5, 3) := by decide +kernel
theorem dL_law_118 : decode cL_law 118 = .ok (.iconst 0, 1) := by decide +kernel
theorem dL_law_119 : decode cL_law 119 = .ok (.ireturn, 1) := by decide +kernel
theorem dL_law_120 : decode cL_law 120 = .ok (.aload_n 1, 1) := by decide +kernel
theorem dL_law_121 : decode cL_law 121 = .ok (.ldc 186, 2) := by decide +kernel
theorem dL_law_123 : decode cL_law 123 = .ok (.invokestatic 176, 3) := by decide +kernel
theorem dL_law_126 : decode cL_law 126 = .ok (.aload_n 1, 1) := by decide +kernel
theorem dL_law_127 : decode cL_law 127 = .ok (.invokestatic 188, 3) := by decide +kernel
theorem dL_law_130 : decode cL_law 130 = .ok (.bipush (-2), 2) := by decide +kernel
theorem dL_law_132 : decode cL_law 132 = .ok (.if_icmp .ne 20, 3) := by decide +kernel
theorem dL_law_135 : decode cL_law 135 = .ok (.aload_n 1, 1) := by decide +kernel
theorem dL_law_136 : decode cL_law 136 = .ok (.invokevirtual 191, 3) := by decide +kernel
theorem dL_law_139 : decode cL_law 139 = .ok (.iconst 1, 1) := by decide +kernel
theorem dL_law_140 : decode cL_law 140 = .ok (.if_icmp .ne 12, 3) := by decide +kernel
theorem dL_law_143 : decode cL_law 143 = .ok (.aload_n 1, 1) := by decide +kernel
theorem dL_law_144 : decode cL_law 144 = .ok (.invokestatic 170, 3) := by decide +kernel
theorem dL_law_147 : decode cL_law 147 = .ok (.iload 4, 2) := by decide +kernel
theorem dL_law_149 : decode cL_law 149 = .ok (.if_icmp .eq 5, 3) := by decide +kernel
theorem dL_law_152 : decode cL_law 152 = .ok (.iconst 0, 1) := by decide +kernel
theorem dL_law_153 : decode cL_law 153 = .ok (.ireturn, 1) := by decide +kernel
theorem dL_law_154 : decode cL_law 154 = .ok (.aload_n 1, 1) := by decide +kernel
theorem dL_law_155 : decode cL_law 155 = .ok (.ldc 194, 2) := by decide +kernel
theorem dL_law_157 : decode cL_law 157 = .ok (.invokestatic 176, 3) := by decide +kernel
theorem dL_law_160 : decode cL_law 160 = .ok (.aload_n 1, 1) := by decide +kernel
theorem dL_law_161 : decode cL_law 161 = .ok (.invokestatic 188, 3) := by decide +kernel
theorem dL_law_164 : decode cL_law 164 = .ok (.bipush (-2), 2) := by decide +kernel
theorem dL_law_166 : decode cL_law 166 = .ok (.if_icmp .ne 19, 3) := by decide +kernel
theorem dL_law_169 : decode cL_law 169 = .ok (.aload_n 1, 1) := by decide +kernel
theorem dL_law_170 : decode cL_law 170 = .ok (.invokevirtual 191, 3) := by decide +kernel
theorem dL_law_173 : decode cL_law 173 = .ok (.ifCond .ne 12, 3) := by decide +kernel
theorem dL_law_176 : decode cL_law 176 = .ok (.aload_n 1, 1) := by decide +kernel
theorem dL_law_177 : decode cL_law 177 = .ok (.invokestatic 170, 3) := by decide +kernel
theorem dL_law_180 : decode cL_law 180 = .ok (.iload 4, 2) := by decide +kernel
theorem dL_law_182 : decode cL_law 182 = .ok (.if_icmp .eq 5, 3) := by decide +kernel
theorem dL_law_185 : decode cL_law 185 = .ok (.iconst 0, 1) := by decide +kernel
theorem dL_law_186 : decode cL_law 186 = .ok (.ireturn, 1) := by decide +kernel
theorem dL_law_187 : decode cL_law 187 = .ok (.aload_n 1, 1) := by decide +kernel
theorem dL_law_188 : decode cL_law 188 = .ok (.ldc 196, 2) := by decide +kernel
theorem dL_law_190 : decode cL_law 190 = .ok (.iconst 1, 1) := by decide +kernel
theorem dL_law_191 : decode cL_law 191 = .ok (.invokestatic 198, 3) := by decide +kernel
theorem dL_law_194 : decode cL_law 194 = .ok (.ifCond .eq 114, 3) := by decide +kernel
theorem dL_law_197 : decode cL_law 197 = .ok (.aload_n 1, 1) := by decide +kernel
theorem dL_law_198 : decode cL_law 198 = .ok (.ldc 202, 2) := by decide +kernel
theorem dL_law_200 : decode cL_law 200 = .ok (.iconst 2, 1) := by decide +kernel
theorem dL_law_201 : decode cL_law 201 = .ok (.invokestatic 198, 3) := by decide +kernel
theorem dL_law_204 : decode cL_law 204 = .ok (.ifCond .eq 104, 3) := by decide +kernel
theorem dL_law_207 : decode cL_law 207 = .ok (.aload_n 1, 1) := by decide +kernel
theorem dL_law_208 : decode cL_law 208 = .ok (.ldc 204, 2) := by decide +kernel
theorem dL_law_210 : decode cL_law 210 = .ok (.bipush 6, 2) := by decide +kernel
theorem dL_law_212 : decode cL_law 212 = .ok (.invokestatic 198, 3) := by decide +kernel
theorem dL_law_215 : decode cL_law 215 = .ok (.ifCond .eq 93, 3) := by decide +kernel
theorem dL_law_218 : decode cL_law 218 = .ok (.aload_n 1, 1) := by decide +kernel
theorem dL_law_219 : decode cL_law 219 = .ok (.ldc 206, 2) := by decide +kernel
theorem dL_law_221 : decode cL_law 221 = .ok (.bipush 8, 2) := by decide +kernel
theorem dL_law_223 : decode cL_law 223 = .ok (.invokestatic 198, 3) := by decide +kernel
theorem dL_law_226 : decode cL_law 226 = .ok (.ifCond .eq 82, 3) := by decide +kernel
theorem dL_law_229 : decode cL_law 229 = .ok (.aload_n 1, 1) := by decide +kernel
theorem dL_law_230 : decode cL_law 230 = .ok (.ldc 208, 2) := by decide +kernel
theorem dL_law_232 : decode cL_law 232 = .ok (.bipush 8, 2) := by decide +kernel
theorem dL_law_234 : decode cL_law 234 = .ok (.invokestatic 198, 3) := by decide +kernel
theorem dL_law_237 : decode cL_law 237 = .ok (.ifCond .eq 71, 3) := by decide +kernel
theorem dL_law_240 : decode cL_law 240 = .ok (.aload_n 1, 1) := by decide +kernel
theorem dL_law_241 : decode cL_law 241 = .ok (.ldc 210, 2) := by decide +kernel
theorem dL_law_243 : decode cL_law 243 = .ok (.iconst 0, 1) := by decide +kernel
theorem dL_law_244 : decode cL_law 244 = .ok (.invokestatic 198, 3) := by decide +kernel
theorem dL_law_247 : decode cL_law 247 = .ok (.ifCond .eq 61, 3) := by decide +kernel
theorem dL_law_250 : decode cL_law 250 = .ok (.aload_n 1, 1) := by decide +kernel
theorem dL_law_251 : decode cL_law 251 = .ok (.ldc 212, 2) := by decide +kernel
theorem dL_law_253 : decode cL_law 253 = .ok (.bipush 6, 2) := by decide +kernel
theorem dL_law_255 : decode cL_law 255 = .ok (.invokestatic 198, 3) := by decide +kernel
theorem dL_law_258 : decode cL_law 258 = .ok (.ifCond .eq 50, 3) := by decide +kernel
theorem dL_law_261 : decode cL_law 261 = .ok (.aload_n 1, 1) := by decide +kernel
theorem dL_law_262 : decode cL_law 262 = .ok (.ldc 214, 2) := by decide +kernel
theorem dL_law_264 : decode cL_law 264 = .ok (.iconst 1, 1) := by decide +kernel
theorem dL_law_265 : decode cL_law 265 = .ok (.invokestatic 198, 3) := by decide +kernel
theorem dL_law_268 : decode cL_law 268 = .ok (.ifCond .eq 40, 3) := by decide +kernel
theorem dL_law_271 : decode cL_law 271 = .ok (.aload_n 1, 1) := by decide +kernel
theorem dL_law_272 : decode cL_law 272 = .ok (.ldc 216, 2) := by decide +kernel
theorem dL_law_274 : decode cL_law 274 = .ok (.bipush 9, 2) := by decide +kernel
theorem dL_law_276 : decode cL_law 276 = .ok (.invokestatic 198, 3) := by decide +kernel
theorem dL_law_279 : decode cL_law 279 = .ok (.ifCond .eq 29, 3) := by decide +kernel
theorem dL_law_282 : decode cL_law 282 = .ok (.aload_n 1, 1) := by decide +kernel
theorem dL_law_283 : decode cL_law 283 = .ok (.ldc 218, 2) := by decide +kernel
theorem dL_law_285 : decode cL_law 285 = .ok (.iconst 0, 1) := by decide +kernel
theorem dL_law_286 : decode cL_law 286 = .ok (.invokestatic 198, 3) := by decide +kernel
theorem dL_law_289 : decode cL_law 289 = .ok (.ifCond .eq 19, 3) := by decide +kernel
theorem dL_law_292 : decode cL_law 292 = .ok (.aload_n 1, 1) := by decide +kernel
theorem dL_law_293 : decode cL_law 293 = .ok (.invokevirtual 191, 3) := by decide +kernel
theorem dL_law_296 : decode cL_law 296 = .ok (.ifCond .ne 12, 3) := by decide +kernel
theorem dL_law_299 : decode cL_law 299 = .ok (.aload_n 1, 1) := by decide +kernel
theorem dL_law_300 : decode cL_law 300 = .ok (.invokestatic 170, 3) := by decide +kernel
theorem dL_law_303 : decode cL_law 303 = .ok (.iload 4, 2) := by decide +kernel
theorem dL_law_305 : decode cL_law 305 = .ok (.if_icmp .eq 5, 3) := by decide +kernel
theorem dL_law_308 : decode cL_law 308 = .ok (.iconst 0, 1) := by decide +kernel
theorem dL_law_309 : decode cL_law 309 = .ok (.ireturn, 1) := by decide +kernel
theorem dL_law_310 : decode cL_law 310 = .ok (.iconst 1, 1) := by decide +kernel
theorem dL_law_311 : decode cL_law 311 = .ok (.aload_n 0, 1) := by decide +kernel
theorem dL_law_312 : decode cL_law 312 = .ok (.bipush 13, 2) := by decide +kernel
theorem dL_law_314 : decode cL_law 314 = .ok (.invokestatic 24, 3) := by decide +kernel
theorem dL_law_317 : decode cL_law 317 = .ok (.iconst 3, 1) := by decide +kernel
theorem dL_law_318 : decode cL_law 318 = .ok (.iand, 1) := by decide +kernel
theorem dL_law_319 : decode cL_law 319 = .ok (.iadd, 1) := by decide +kernel
theorem dL_law_320 : decode cL_law 320 = .ok (.istore 6, 2) := by decide +kernel
theorem dL_law_322 : decode cL_law 322 = .ok (.new 18, 3) := by decide +kernel
theorem dL_law_325 : decode cL_law 325 = .ok (.dup, 1) := by decide +kernel
theorem dL_law_326 : decode cL_law 326 = .ok (.invokespecial 23, 3) := by decide +kernel
theorem dL_law_329 : decode cL_law 329 = .ok (.astore 7, 2) := by decide +kernel
theorem dL_law_331 : decode cL_law 331 = .ok (.aload 7, 2) := by decide +kernel
theorem dL_law_333 : decode cL_law 333 = .ok (.invokevirtual 220, 3) := by decide +kernel
theorem dL_law_336 : decode cL_law 336 = .ok (.ifCond .eq 85, 3) := by decide +kernel
theorem dL_law_339 : decode cL_law 339 = .ok (.aload 7, 2) := by decide +kernel
theorem dL_law_341 : decode cL_law 341 = .ok (.invokevirtual 124, 3) := by decide +kernel
theorem dL_law_344 : decode cL_law 344 = .ok (.ifCond .ne 77, 3) := by decide +kernel
theorem dL_law_347 : decode cL_law 347 = .ok (.aload 7, 2) := by decide +kernel
theorem dL_law_349 : decode cL_law 349 = .ok (.invokevirtual 127, 3) := by decide +kernel
theorem dL_law_352 : decode cL_law 352 = .ok (.bipush 12, 2) := by decide +kernel
theorem dL_law_354 : decode cL_law 354 = .ok (.if_icmp .ne 67, 3) := by decide +kernel
theorem dL_law_357 : decode cL_law 357 = .ok (.aload 7, 2) := by decide +kernel
theorem dL_law_359 : decode cL_law 359 = .ok (.invokevirtual 224, 3) := by decide +kernel
theorem dL_law_362 : decode cL_law 362 = .ok (.ifCond .ne 59, 3) := by decide +kernel
theorem dL_law_365 : decode cL_law 365 = .ok (.aload 7, 2) := by decide +kernel
theorem dL_law_367 : decode cL_law 367 = .ok (.bipush 7, 2) := by decide +kernel
theorem dL_law_369 : decode cL_law 369 = .ok (.iconst 0, 1) := by decide +kernel
theorem dL_law_370 : decode cL_law 370 = .ok (.iconst 1, 1) := by decide +kernel
theorem dL_law_371 : decode cL_law 371 = .ok (.invokestatic 34, 3) := by decide +kernel
theorem dL_law_374 : decode cL_law 374 = .ok (.iconst (-1), 1) := by decide +kernel
theorem dL_law_375 : decode cL_law 375 = .ok (.if_icmp .ne 46, 3) := by decide +kernel
theorem dL_law_378 : decode cL_law 378 = .ok (.aload 7, 2) := by decide +kernel
theorem dL_law_380 : decode cL_law 380 = .ok (.bipush 17, 2) := by decide +kernel
theorem dL_law_382 : decode cL_law 382 = .ok (.iconst 1, 1) := by decide +kernel
theorem dL_law_383 : decode cL_law 383 = .ok (.iconst 1, 1) := by decide +kernel
theorem dL_law_384 : decode cL_law 384 = .ok (.invokestatic 34, 3) := by decide +kernel
theorem dL_law_387 : decode cL_law 387 = .ok (.bipush (-5), 2) := by decide +kernel
theorem dL_law_389 : decode cL_law 389 = .ok (.if_icmp .ne 32, 3) := by decide +kernel
theorem dL_law_392 : decode cL_law 392 = .ok (.aload 7, 2) := by decide +kernel
theorem dL_law_394 : decode cL_law 394 = .ok (.bipush 17, 2) := by decide +kernel
theorem dL_law_396 : decode cL_law 396 = .ok (.iconst 0, 1) := by decide +kernel
theorem dL_law_397 : decode cL_law 397 = .ok (.iconst 1, 1) := by decide +kernel
theorem dL_law_398 : decode cL_law 398 = .ok (.invokestatic 34, 3) := by decide +kernel
theorem dL_law_401 : decode cL_law 401 = .ok (.bipush (-2), 2) := by decide +kernel
theorem dL_law_403 : decode cL_law 403 = .ok (.if_icmp .ne 18, 3) := by decide +kernel
theorem dL_law_406 : decode cL_law 406 = .ok (.aload 7, 2) := by decide +kernel
theorem dL_law_408 : decode cL_law 408 = .ok (.bipush 11, 2) := by decide +kernel
theorem dL_law_410 : decode cL_law 410 = .ok (.bipush 51, 2) := by decide +kernel
theorem dL_law_412 : decode cL_law 412 = .ok (.iconst 0, 1) := by decide +kernel
theorem dL_law_413 : decode cL_law 413 = .ok (.invokestatic 34, 3) := by decide +kernel
theorem dL_law_416 : decode cL_law 416 = .ok (.bipush (-2), 2) := by decide +kernel
theorem dL_law_418 : decode cL_law 418 = .ok (.if_icmp .eq 5, 3) := by decide +kernel
theorem dL_law_421 : decode cL_law 421 = .ok (.iconst 0, 1) := by decide +kernel
theorem dL_law_422 : decode cL_law 422 = .ok (.ireturn, 1) := by decide +kernel
theorem dL_law_423 : decode cL_law 423 = .ok (.aload 7, 2) := by decide +kernel
theorem dL_law_425 : decode cL_law 425 = .ok (.ldc 227, 2) := by decide +kernel
theorem dL_law_427 : decode cL_law 427 = .ok (.invokestatic 176, 3) := by decide +kernel
theorem dL_law_430 : decode cL_law 430 = .ok (.aload 7, 2) := by decide +kernel
theorem dL_law_432 : decode cL_law 432 = .ok (.invokevirtual 180, 3) := by decide +kernel
theorem dL_law_435 : decode cL_law 435 = .ok (.bipush 7, 2) := by decide +kernel
theorem dL_law_437 : decode cL_law 437 = .ok (.if_icmp .ne 155, 3) := by decide +kernel
theorem dL_law_440 : decode cL_law 440 = .ok (.aload 7, 2) := by decide +kernel
theorem dL_law_442 : decode cL_law 442 = .ok (.iconst 0, 1) := by decide +kernel
theorem dL_law_443 : decode cL_law 443 = .ok (.iconst 1, 1) := by decide +kernel
theorem dL_law_444 : decode cL_law 444 = .ok (.invokevirtual 229, 3) := by decide +kernel
theorem dL_law_447 : decode cL_law 447 = .ok (.ldc2_w 233, 3) := by decide +kernel
theorem dL_law_450 : decode cL_law 450 = .ok (.lcmp, 1) := by decide +kernel
theorem dL_law_451 : decode cL_law 451 = .ok (.ifCond .ne 141, 3) := by decide +kernel
theorem dL_law_454 : decode cL_law 454 = .ok (.aload 7, 2) := by decide +kernel
theorem dL_law_456 : decode cL_law 456 = .ok (.iconst 0, 1) := by decide +kernel
theorem dL_law_457 : decode cL_law 457 = .ok (.iconst 1, 1) := by decide +kernel
theorem dL_law_458 : decode cL_law 458 = .ok (.invokevirtual 235, 3) := by decide +kernel
theorem dL_law_461 : decode cL_law 461 = .ok (.ldc2_w 233, 3) := by decide +kernel
theorem dL_law_464 : decode cL_law 464 = .ok (.lcmp, 1) := by decide +kernel
theorem dL_law_465 : decode cL_law 465 = .ok (.ifCond .ne 127, 3) := by decide +kernel
theorem dL_law_468 : decode cL_law 468 = .ok (.aload 7, 2) := by decide +kernel
theorem dL_law_470 : decode cL_law 470 = .ok (.iconst 0, 1) := by decide +kernel
theorem dL_law_471 : decode cL_law 471 = .ok (.iconst 3, 1) := by decide +kernel
theorem dL_law_472 : decode cL_law 472 = .ok (.invokevirtual 229, 3) := by decide +kernel
