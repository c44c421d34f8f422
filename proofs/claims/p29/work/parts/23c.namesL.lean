theorem dL_isSound_35 : decode cL_isSound 35 = .ok (.invokevirtual 61, 3) := by decide +kernel
theorem dL_isSound_38 : decode cL_isSound 38 = .ok (.aload_n 0, 1) := by decide +kernel
theorem dL_isSound_39 : decode cL_isSound 39 = .ok (.iconst 2, 1) := by decide +kernel
theorem dL_isSound_40 : decode cL_isSound 40 = .ok (.invokevirtual 61, 3) := by decide +kernel
theorem dL_isSound_43 : decode cL_isSound 43 = .ok (.if_icmp .lt 25, 3) := by decide +kernel
theorem dL_isSound_46 : decode cL_isSound 46 = .ok (.aload_n 0, 1) := by decide +kernel
theorem dL_isSound_47 : decode cL_isSound 47 = .ok (.aload_n 0, 1) := by decide +kernel
theorem dL_isSound_48 : decode cL_isSound 48 = .ok (.iconst 1, 1) := by decide +kernel
theorem dL_isSound_49 : decode cL_isSound 49 = .ok (.invokevirtual 61, 3) := by decide +kernel
theorem dL_isSound_52 : decode cL_isSound 52 = .ok (.iconst 0, 1) := by decide +kernel
theorem dL_isSound_53 : decode cL_isSound 53 = .ok (.invokevirtual 54, 3) := by decide +kernel
theorem dL_isSound_56 : decode cL_isSound 56 = .ok (.aload_n 0, 1) := by decide +kernel
theorem dL_isSound_57 : decode cL_isSound 57 = .ok (.iconst 0, 1) := by decide +kernel
theorem dL_isSound_58 : decode cL_isSound 58 = .ok (.invokevirtual 61, 3) := by decide +kernel
theorem dL_isSound_61 : decode cL_isSound 61 = .ok (.if_icmp .ne 7, 3) := by decide +kernel
theorem dL_isSound_64 : decode cL_isSound 64 = .ok (.iconst 1, 1) := by decide +kernel
theorem dL_isSound_65 : decode cL_isSound 65 = .ok (.goto 4, 3) := by decide +kernel
theorem dL_isSound_68 : decode cL_isSound 68 = .ok (.iconst 0, 1) := by decide +kernel
theorem dL_isSound_69 : decode cL_isSound 69 = .ok (.istore_n 3, 1) := by decide +kernel
theorem dL_isSound_70 : decode cL_isSound 70 = .ok (.iconst 0, 1) := by decide +kernel
theorem dL_isSound_71 : decode cL_isSound 71 = .ok (.istore 4, 2) := by decide +kernel
theorem dL_isSound_73 : decode cL_isSound 73 = .ok (.iconst 0, 1) := by decide +kernel
theorem dL_isSound_74 : decode cL_isSound 74 = .ok (.istore 5, 2) := by decide +kernel
theorem dL_isSound_76 : decode cL_isSound 76 = .ok (.iconst 0, 1) := by decide +kernel
theorem dL_isSound_77 : decode cL_isSound 77 = .ok (.istore 6, 2) := by decide +kernel
theorem dL_isSound_79 : decode cL_isSound 79 = .ok (.iload 6, 2) := by decide +kernel
theorem dL_isSound_81 : decode cL_isSound 81 = .ok (.aload_n 0, 1) := by decide +kernel
theorem dL_isSound_82 : decode cL_isSound 82 = .ok (.iconst 4, 1) := by decide +kernel
theorem dL_isSound_83 : decode cL_isSound 83 = .ok (.invokevirtual 9, 3) := by decide +kernel
theorem dL_isSound_86 : decode cL_isSound 86 = .ok (.aload_n 0, 1) := by decide +kernel
theorem dL_isSound_87 : decode cL_isSound 87 = .ok (.iconst 5, 1) := by decide +kernel
theorem dL_isSound_88 : decode cL_isSound 88 = .ok (.invokevirtual 9, 3) := by decide +kernel
theorem dL_isSound_91 : decode cL_isSound 91 = .ok (.imul, 1) := by decide +kernel
theorem dL_isSound_92 : decode cL_isSound 92 = .ok (.if_icmp .ge 167, 3) := by decide +kernel
theorem dL_isSound_95 : decode cL_isSound 95 = .ok (.aload_n 0, 1) := by decide +kernel
theorem dL_isSound_96 : decode cL_isSound 96 = .ok (.iload 6, 2) := by decide +kernel
theorem dL_isSound_98 : decode cL_isSound 98 = .ok (.iconst 0, 1) := by decide +kernel
theorem dL_isSound_99 : decode cL_isSound 99 = .ok (.invokevirtual 54, 3) := by decide +kernel
theorem dL_isSound_102 : decode cL_isSound 102 = .ok (.istore 7, 2) := by decide +kernel
theorem dL_isSound_104 : decode cL_isSound 104 = .ok (.iload 4, 2) := by decide +kernel
theorem dL_isSound_106 : decode cL_isSound 106 = .ok (.iload 7, 2) := by decide +kernel
theorem dL_isSound_108 : decode cL_isSound 108 = .ok (.iadd, 1) := by decide +kernel
theorem dL_isSound_109 : decode cL_isSound 109 = .ok (.istore 4, 2) := by decide +kernel
theorem dL_isSound_111 : decode cL_isSound 111 = .ok (.iload 5, 2) := by decide +kernel
theorem dL_isSound_113 : decode cL_isSound 113 = .ok (.iload 7, 2) := by decide +kernel
theorem dL_isSound_115 : decode cL_isSound 115 = .ok (.ifCond .ne 7, 3) := by decide +kernel
theorem dL_isSound_118 : decode cL_isSound 118 = .ok (.iconst 1, 1) := by decide +kernel
theorem dL_isSound_119 : decode cL_isSound 119 = .ok (.goto 4, 3) := by decide +kernel
theorem dL_isSound_122 : decode cL_isSound 122 = .ok (.iconst 0, 1) := by decide +kernel
theorem dL_isSound_123 : decode cL_isSound 123 = .ok (.iadd, 1) := by decide +kernel
theorem dL_isSound_124 : decode cL_isSound 124 = .ok (.istore 5, 2) := by decide +kernel
theorem dL_isSound_126 : decode cL_isSound 126 = .ok (.aload_n 0, 1) := by decide +kernel
theorem dL_isSound_127 : decode cL_isSound 127 = .ok (.iload 6, 2) := by decide +kernel
theorem dL_isSound_129 : decode cL_isSound 129 = .ok (.iconst 2, 1) := by decide +kernel
theorem dL_isSound_130 : decode cL_isSound 130 = .ok (.invokevirtual 54, 3) := by decide +kernel
theorem dL_isSound_133 : decode cL_isSound 133 = .ok (.ifCond .le 7, 3) := by decide +kernel
theorem dL_isSound_136 : decode cL_isSound 136 = .ok (.iconst 1, 1) := by decide +kernel
theorem dL_isSound_137 : decode cL_isSound 137 = .ok (.goto 4, 3) := by decide +kernel
theorem dL_isSound_140 : decode cL_isSound 140 = .ok (.iconst 0, 1) := by decide +kernel
theorem dL_isSound_141 : decode cL_isSound 141 = .ok (.istore 8, 2) := by decide +kernel
theorem dL_isSound_143 : decode cL_isSound 143 = .ok (.iload_n 3, 1) := by decide +kernel
theorem dL_isSound_144 : decode cL_isSound 144 = .ok (.ifCond .eq 107, 3) := by decide +kernel
theorem dL_isSound_147 : decode cL_isSound 147 = .ok (.iload 7, 2) := by decide +kernel
theorem dL_isSound_149 : decode cL_isSound 149 = .ok (.ifCond .lt 102, 3) := by decide +kernel
theorem dL_isSound_152 : decode cL_isSound 152 = .ok (.iload 7, 2) := by decide +kernel
theorem dL_isSound_154 : decode cL_isSound 154 = .ok (.aload_n 0, 1) := by decide +kernel
theorem dL_isSound_155 : decode cL_isSound 155 = .ok (.iconst 0, 1) := by decide +kernel
theorem dL_isSound_156 : decode cL_isSound 156 = .ok (.invokevirtual 61, 3) := by decide +kernel
theorem dL_isSound_159 : decode cL_isSound 159 = .ok (.if_icmp .gt 92, 3) := by decide +kernel
theorem dL_isSound_162 : decode cL_isSound 162 = .ok (.aload_n 0, 1) := by decide +kernel
theorem dL_isSound_163 : decode cL_isSound 163 = .ok (.iload 6, 2) := by decide +kernel
theorem dL_isSound_165 : decode cL_isSound 165 = .ok (.iconst 3, 1) := by decide +kernel
theorem dL_isSound_166 : decode cL_isSound 166 = .ok (.invokevirtual 54, 3) := by decide +kernel
theorem dL_isSound_169 : decode cL_isSound 169 = .ok (.aload_n 0, 1) := by decide +kernel
theorem dL_isSound_170 : decode cL_isSound 170 = .ok (.iload 6, 2) := by decide +kernel
theorem dL_isSound_172 : decode cL_isSound 172 = .ok (.iconst 2, 1) := by decide +kernel
theorem dL_isSound_173 : decode cL_isSound 173 = .ok (.invokevirtual 54, 3) := by decide +kernel
theorem dL_isSound_176 : decode cL_isSound 176 = .ok (.if_icmp .gt 75, 3) := by decide +kernel
theorem dL_isSound_179 : decode cL_isSound 179 = .ok (.iload 8, 2) := by decide +kernel
theorem dL_isSound_181 : decode cL_isSound 181 = .ok (.aload_n 0, 1) := by decide +kernel
theorem dL_isSound_182 : decode cL_isSound 182 = .ok (.iload 6, 2) := by decide +kernel
theorem dL_isSound_184 : decode cL_isSound 184 = .ok (.iconst 3, 1) := by decide +kernel
theorem dL_isSound_185 : decode cL_isSound 185 = .ok (.invokevirtual 54, 3) := by decide +kernel
theorem dL_isSound_188 : decode cL_isSound 188 = .ok (.ifCond .lt 7, 3) := by decide +kernel
theorem dL_isSound_191 : decode cL_isSound 191 = .ok (.iconst 1, 1) := by decide +kernel
theorem dL_isSound_192 : decode cL_isSound 192 = .ok (.goto 4, 3) := by decide +kernel
theorem dL_isSound_195 : decode cL_isSound 195 = .ok (.iconst 0, 1) := by decide +kernel
theorem dL_isSound_196 : decode cL_isSound 196 = .ok (.if_icmp .ne 55, 3) := by decide +kernel
theorem dL_isSound_199 : decode cL_isSound 199 = .ok (.aload_n 0, 1) := by decide +kernel
theorem dL_isSound_200 : decode cL_isSound 200 = .ok (.iload 6, 2) := by decide +kernel
theorem dL_isSound_202 : decode cL_isSound 202 = .ok (.iload_n 1, 1) := by decide +kernel
theorem dL_isSound_203 : decode cL_isSound 203 = .ok (.invokevirtual 64, 3) := by decide +kernel
theorem dL_isSound_206 : decode cL_isSound 206 = .ok (.ifCond .le 7, 3) := by decide +kernel
theorem dL_isSound_209 : decode cL_isSound 209 = .ok (.iconst 1, 1) := by decide +kernel
theorem dL_isSound_210 : decode cL_isSound 210 = .ok (.goto 4, 3) := by decide +kernel
theorem dL_isSound_213 : decode cL_isSound 213 = .ok (.iconst 0, 1) := by decide +kernel
theorem dL_isSound_214 : decode cL_isSound 214 = .ok (.iload 7, 2) := by decide +kernel
theorem dL_isSound_216 : decode cL_isSound 216 = .ok (.iload_n 1, 1) := by decide +kernel
theorem dL_isSound_217 : decode cL_isSound 217 = .ok (.if_icmp .lt 7, 3) := by decide +kernel
theorem dL_isSound_220 : decode cL_isSound 220 = .ok (.iconst 1, 1) := by decide +kernel
theorem dL_isSound_221 : decode cL_isSound 221 = .ok (.goto 4, 3) := by decide +kernel
theorem dL_isSound_224 : decode cL_isSound 224 = .ok (.iconst 0, 1) := by decide +kernel
theorem dL_isSound_225 : decode cL_isSound 225 = .ok (.if_icmp .ne 26, 3) := by decide +kernel
theorem dL_isSound_228 : decode cL_isSound 228 = .ok (.aload_n 0, 1) := by decide +kernel
theorem dL_isSound_229 : decode cL_isSound 229 = .ok (.iload 6, 2) := by decide +kernel
theorem dL_isSound_231 : decode cL_isSound 231 = .ok (.iload_n 1, 1) := by decide +kernel
theorem dL_isSound_232 : decode cL_isSound 232 = .ok (.invokevirtual 64, 3) := by decide +kernel
theorem dL_isSound_235 : decode cL_isSound 235 = .ok (.aload_n 0, 1) := by decide +kernel
theorem dL_isSound_236 : decode cL_isSound 236 = .ok (.iload 6, 2) := by decide +kernel
theorem dL_isSound_238 : decode cL_isSound 238 = .ok (.iload_n 1, 1) := by decide +kernel
theorem dL_isSound_239 : decode cL_isSound 239 = .ok (.iconst 1, 1) := by decide +kernel
theorem dL_isSound_240 : decode cL_isSound 240 = .ok (.iadd, 1) := by decide +kernel
theorem dL_isSound_241 : decode cL_isSound 241 = .ok (.invokevirtual 64, 3) := by decide +kernel
theorem dL_isSound_244 : decode cL_isSound 244 = .ok (.if_icmp .lt 7, 3) := by decide +kernel
theorem dL_isSound_247 : decode cL_isSound 247 = .ok (.iconst 1, 1) := by decide +kernel
theorem dL_isSound_248 : decode cL_isSound 248 = .ok (.goto 4, 3) := by decide +kernel
theorem dL_isSound_251 : decode cL_isSound 251 = .ok (.iconst 0, 1) := by decide +kernel
theorem dL_isSound_252 : decode cL_isSound 252 = .ok (.istore_n 3, 1) := by decide +kernel
theorem dL_isSound_253 : decode cL_isSound 253 = .ok (.iinc 6 1, 3) := by decide +kernel
theorem dL_isSound_256 : decode cL_isSound 256 = .ok (.goto (-177), 3) := by decide +kernel
theorem dL_isSound_259 : decode cL_isSound 259 = .ok (.aload_n 0, 1) := by decide +kernel
theorem dL_isSound_260 : decode cL_isSound 260 = .ok (.iconst 0, 1) := by decide +kernel
theorem dL_isSound_261 : decode cL_isSound 261 = .ok (.invokevirtual 51, 3) := by decide +kernel
theorem dL_isSound_264 : decode cL_isSound 264 = .ok (.istore 6, 2) := by decide +kernel
theorem dL_isSound_266 : decode cL_isSound 266 = .ok (.aload_n 0, 1) := by decide +kernel
theorem dL_isSound_267 : decode cL_isSound 267 = .ok (.iconst 1, 1) := by decide +kernel
theorem dL_isSound_268 : decode cL_isSound 268 = .ok (.invokevirtual 67, 3) := by decide +kernel
theorem dL_isSound_271 : decode cL_isSound 271 = .ok (.istore 7, 2) := by decide +kernel
theorem dL_isSound_273 : decode cL_isSound 273 = .ok (.iload 6, 2) := by decide +kernel
theorem dL_isSound_275 : decode cL_isSound 275 = .ok (.ifCond .ne 7, 3) := by decide +kernel
theorem dL_isSound_278 : decode cL_isSound 278 = .ok (.iconst 1, 1) := by decide +kernel
theorem dL_isSound_279 : decode cL_isSound 279 = .ok (.goto 4, 3) := by decide +kernel
theorem dL_isSound_282 : decode cL_isSound 282 = .ok (.iconst 0, 1) := by decide +kernel
theorem dL_isSound_283 : decode cL_isSound 283 = .ok (.istore 8, 2) := by decide +kernel
theorem dL_isSound_285 : decode cL_isSound 285 = .ok (.iload_n 3, 1) := by decide +kernel
theorem dL_isSound_286 : decode cL_isSound 286 = .ok (.ifCond .eq 84, 3) := by decide +kernel
theorem dL_isSound_289 : decode cL_isSound 289 = .ok (.iload 8, 2) := by decide +kernel
theorem dL_isSound_291 : decode cL_isSound 291 = .ok (.ifCond .eq 21, 3) := by decide +kernel
theorem dL_isSound_294 : decode cL_isSound 294 = .ok (.iload 7, 2) := by decide +kernel
theorem dL_isSound_296 : decode cL_isSound 296 = .ok (.iconst (-1), 1) := by decide +kernel
theorem dL_isSound_297 : decode cL_isSound 297 = .ok (.if_icmp .ne 73, 3) := by decide +kernel
theorem dL_isSound_300 : decode cL_isSound 300 = .ok (.aload_n 0, 1) := by decide +kernel
theorem dL_isSound_301 : decode cL_isSound 301 = .ok (.iconst 0, 1) := by decide +kernel
theorem dL_isSound_302 : decode cL_isSound 302 = .ok (.invokevirtual 67, 3) := by decide +kernel
theorem dL_isSound_305 : decode cL_isSound 305 = .ok (.iconst (-1), 1) := by decide +kernel
theorem dL_isSound_306 : decode cL_isSound 306 = .ok (.if_icmp .ne 64, 3) := by decide +kernel
theorem dL_isSound_309 : decode cL_isSound 309 = .ok (.goto 57, 3) := by decide +kernel
theorem dL_isSound_312 : decode cL_isSound 312 = .ok (.iload 7, 2) := by decide +kernel
theorem dL_isSound_314 : decode cL_isSound 314 = .ok (.ifCond .lt 56, 3) := by decide +kernel
theorem dL_isSound_317 : decode cL_isSound 317 = .ok (.aload_n 0, 1) := by decide +kernel
theorem dL_isSound_318 : decode cL_isSound 318 = .ok (.iconst 0, 1) := by decide +kernel
theorem dL_isSound_319 : decode cL_isSound 319 = .ok (.invokevirtual 67, 3) := by decide +kernel
theorem dL_isSound_322 : decode cL_isSound 322 = .ok (.ifCond .le 48, 3) := by decide +kernel
theorem dL_isSound_325 : decode cL_isSound 325 = .ok (.aload_n 0, 1) := by decide +kernel
theorem dL_isSound_326 : decode cL_isSound 326 = .ok (.iconst 0, 1) := by decide +kernel
theorem dL_isSound_327 : decode cL_isSound 327 = .ok (.invokevirtual 67, 3) := by decide +kernel
theorem dL_isSound_330 : decode cL_isSound 330 = .ok (.iconst 5, 1) := by decide +kernel
theorem dL_isSound_331 : decode cL_isSound 331 = .ok (.if_icmp .ge 7, 3) := by decide +kernel
theorem dL_isSound_334 : decode cL_isSound 334 = .ok (.iconst 1, 1) := by decide +kernel
theorem dL_isSound_335 : decode cL_isSound 335 = .ok (.goto 4, 3) := by decide +kernel
theorem dL_isSound_338 : decode cL_isSound 338 = .ok (.iconst 0, 1) := by decide +kernel
theorem dL_isSound_339 : decode cL_isSound 339 = .ok (.aload_n 0, 1) := by decide +kernel
theorem dL_isSound_340 : decode cL_isSound 340 = .ok (.iconst 2, 1) := by decide +kernel
theorem dL_isSound_341 : decode cL_isSound 341 = .ok (.invokevirtual 67, 3) := by decide +kernel
theorem dL_isSound_344 : decode cL_isSound 344 = .ok (.iconst (-1), 1) := by decide +kernel
theorem dL_isSound_345 : decode cL_isSound 345 = .ok (.if_icmp .ne 7, 3) := by decide +kernel
theorem dL_isSound_348 : decode cL_isSound 348 = .ok (.iconst 1, 1) := by decide +kernel
theorem dL_isSound_349 : decode cL_isSound 349 = .ok (.goto 4, 3) := by decide +kernel
theorem dL_isSound_352 : decode cL_isSound 352 = .ok (.iconst 0, 1) := by decide +kernel
theorem dL_isSound_353 : decode cL_isSound 353 = .ok (.if_icmp .ne 17, 3) := by decide +kernel
theorem dL_isSound_356 : decode cL_isSound 356 = .ok (.aload_n 0, 1) := by decide +kernel
theorem dL_isSound_357 : decode cL_isSound 357 = .ok (.iconst 3, 1) := by decide +kernel
theorem dL_isSound_358 : decode cL_isSound 358 = .ok (.invokevirtual 67, 3) := by decide +kernel
theorem dL_isSound_361 : decode cL_isSound 361 = .ok (.bipush 12, 2) := by decide +kernel
theorem dL_isSound_363 : decode cL_isSound 363 = .ok (.if_icmp .gt 7, 3) := by decide +kernel
theorem dL_isSound_366 : decode cL_isSound 366 = .ok (.iconst 1, 1) := by decide +kernel
theorem dL_isSound_367 : decode cL_isSound 367 = .ok (.goto 4, 3) := by decide +kernel
theorem dL_isSound_370 : decode cL_isSound 370 = .ok (.iconst 0, 1) := by decide +kernel
theorem dL_isSound_371 : decode cL_isSound 371 = .ok (.istore_n 3, 1) := by decide +kernel
theorem dL_isSound_372 : decode cL_isSound 372 = .ok (.iload_n 3, 1) := by decide +kernel
theorem dL_isSound_373 : decode cL_isSound 373 = .ok (.ifCond .eq 66, 3) := by decide +kernel
theorem dL_isSound_376 : decode cL_isSound 376 = .ok (.iload 4, 2) := by decide +kernel
theorem dL_isSound_378 : decode cL_isSound 378 = .ok (.aload_n 0, 1) := by decide +kernel
theorem dL_isSound_379 : decode cL_isSound 379 = .ok (.invokevirtual 41, 3) := by decide +kernel
theorem dL_isSound_382 : decode cL_isSound 382 = .ok (.if_icmp .ne 57, 3) := by decide +kernel
theorem dL_isSound_385 : decode cL_isSound 385 = .ok (.iload 5, 2) := by decide +kernel
theorem dL_isSound_387 : decode cL_isSound 387 = .ok (.aload_n 0, 1) := by decide +kernel
theorem dL_isSound_388 : decode cL_isSound 388 = .ok (.iconst 3, 1) := by decide +kernel
theorem dL_isSound_389 : decode cL_isSound 389 = .ok (.invokevirtual 61, 3) := by decide +kernel
theorem dL_isSound_392 : decode cL_isSound 392 = .ok (.if_icmp .ne 47, 3) := by decide +kernel
theorem dL_isSound_395 : decode cL_isSound 395 = .ok (.aload_n 0, 1) := by decide +kernel
theorem dL_isSound_396 : decode cL_isSound 396 = .ok (.iload_n 1, 1) := by decide +kernel
theorem dL_isSound_397 : decode cL_isSound 397 = .ok (.invokevirtual 70, 3) := by decide +kernel
theorem dL_isSound_400 : decode cL_isSound 400 = .ok (.ifCond .le 7, 3) := by decide +kernel
theorem dL_isSound_403 : decode cL_isSound 403 = .ok (.iconst 1, 1) := by decide +kernel
theorem dL_isSound_404 : decode cL_isSound 404 = .ok (.goto 4, 3) := by decide +kernel
theorem dL_isSound_407 : decode cL_isSound 407 = .ok (.iconst 0, 1) := by decide +kernel
theorem dL_isSound_408 : decode cL_isSound 408 = .ok (.aload_n 0, 1) := by decide +kernel
theorem dL_isSound_409 : decode cL_isSound 409 = .ok (.iconst 0, 1) := by decide +kernel
theorem dL_isSound_410 : decode cL_isSound 410 = .ok (.invokevirtual 61, 3) := by decide +kernel
theorem dL_isSound_413 : decode cL_isSound 413 = .ok (.iload_n 1, 1) := by decide +kernel
theorem dL_isSound_414 : decode cL_isSound 414 = .ok (.if_icmp .lt 7, 3) := by decide +kernel
theorem dL_isSound_417 : decode cL_isSound 417 = .ok (.iconst 1, 1) := by decide +kernel
theorem dL_isSound_418 : decode cL_isSound 418 = .ok (.goto 4, 3) := by decide +kernel
theorem dL_isSound_421 : decode cL_isSound 421 = .ok (.iconst 0, 1) := by decide +kernel
theorem dL_isSound_422 : decode cL_isSound 422 = .ok (.if_icmp .ne 17, 3) := by decide +kernel
theorem dL_isSound_425 : decode cL_isSound 425 = .ok (.aload_n 0, 1) := by decide +kernel
theorem dL_isSound_426 : decode cL_isSound 426 = .ok (.iload_n 1, 1) := by decide +kernel
theorem dL_isSound_427 : decode cL_isSound 427 = .ok (.invokevirtual 73, 3) := by decide +kernel
theorem dL_isSound_430 : decode cL_isSound 430 = .ok (.iload 4, 2) := by decide +kernel
theorem dL_isSound_432 : decode cL_isSound 432 = .ok (.if_icmp .gt 7, 3) := by decide +kernel
theorem dL_isSound_435 : decode cL_isSound 435 = .ok (.iconst 1, 1) := by decide +kernel
theorem dL_isSound_436 : decode cL_isSound 436 = .ok (.goto 4, 3) := by decide +kernel
theorem dL_isSound_439 : decode cL_isSound 439 = .ok (.iconst 0, 1) := by decide +kernel
theorem dL_isSound_440 : decode cL_isSound 440 = .ok (.ireturn, 1) := by decide +kernel
theorem dL_law_0 : decode cL_law 0 = .ok (.new 10, 3) := by decide +kernel
theorem dL_law_3 : decode cL_law 3 = .ok (.dup, 1) := by decide +kernel
theorem dL_law_4 : decode cL_law 4 = .ok (.invokespecial 76, 3) := by decide +kernel
theorem dL_law_7 : decode cL_law 7 = .ok (.astore_n 1, 1) := by decide +kernel
theorem dL_law_8 : decode cL_law 8 = .ok (.new 10, 3) := by decide +kernel
theorem dL_law_11 : decode cL_law 11 = .ok (.dup, 1) := by decide +kernel
theorem dL_law_12 : decode cL_law 12 = .ok (.invokespecial 76, 3) := by decide +kernel
theorem dL_law_15 : decode cL_law 15 = .ok (.astore_n 2, 1) := by decide +kernel
theorem dL_law_16 : decode cL_law 16 = .ok (.aload_n 0, 1) := by decide +kernel
theorem dL_law_17 : decode cL_law 17 = .ok (.iconst 0, 1) := by decide +kernel
theorem dL_law_18 : decode cL_law 18 = .ok (.invokestatic 77, 3) := by decide +kernel
theorem dL_law_21 : decode cL_law 21 = .ok (.istore_n 3, 1) := by decide +kernel
theorem dL_law_22 : decode cL_law 22 = .ok (.aload_n 1, 1) := by decide +kernel
theorem dL_law_23 : decode cL_law 23 = .ok (.iconst 3, 1) := by decide +kernel
theorem dL_law_24 : decode cL_law 24 = .ok (.iload_n 3, 1) := by decide +kernel
theorem dL_law_25 : decode cL_law 25 = .ok (.bipush 6, 2) := by decide +kernel
theorem dL_law_27 : decode cL_law 27 = .ok (.invokestatic 15, 3) := by decide +kernel
theorem dL_law_30 : decode cL_law 30 = .ok (.iadd, 1) := by decide +kernel
theorem dL_law_31 : decode cL_law 31 = .ok (.iconst 3, 1) := by decide +kernel
theorem dL_law_32 : decode cL_law 32 = .ok (.iload_n 3, 1) := by decide +kernel
theorem dL_law_33 : decode cL_law 33 = .ok (.iconst 3, 1) := by decide +kernel
theorem dL_law_34 : decode cL_law 34 = .ok (.ishr, 1) := by decide +kernel
theorem dL_law_35 : decode cL_law 35 = .ok (.bipush 8, 2) := by decide +kernel
theorem dL_law_37 : decode cL_law 37 = .ok (.invokestatic 15, 3) := by decide +kernel
theorem dL_law_40 : decode cL_law 40 = .ok (.iadd, 1) := by decide +kernel
theorem dL_law_41 : decode cL_law 41 = .ok (.iload_n 3, 1) := by decide +kernel
theorem dL_law_42 : decode cL_law 42 = .ok (.bipush 6, 2) := by decide +kernel
theorem dL_law_44 : decode cL_law 44 = .ok (.ishr, 1) := by decide +kernel
theorem dL_law_45 : decode cL_law 45 = .ok (.bipush 6, 2) := by decide +kernel
theorem dL_law_47 : decode cL_law 47 = .ok (.invokestatic 15, 3) := by decide +kernel
theorem dL_law_50 : decode cL_law 50 = .ok (.invokevirtual 80, 3) := by decide +kernel
theorem dL_law_53 : decode cL_law 53 = .ok (.istore 4, 2) := by decide +kernel
theorem dL_law_55 : decode cL_law 55 = .ok (.iload 4, 2) := by decide +kernel
theorem dL_law_57 : decode cL_law 57 = .ok (.aload_n 2, 1) := by decide +kernel
theorem dL_law_58 : decode cL_law 58 = .ok (.iconst 3, 1) := by decide +kernel
theorem dL_law_59 : decode cL_law 59 = .ok (.iload_n 3, 1) := by decide +kernel
theorem dL_law_60 : decode cL_law 60 = .ok (.bipush 6, 2) := by decide +kernel
theorem dL_law_62 : decode cL_law 62 = .ok (.invokestatic 15, 3) := by decide +kernel
theorem dL_law_65 : decode cL_law 65 = .ok (.iadd, 1) := by decide +kernel
theorem dL_law_66 : decode cL_law 66 = .ok (.iconst 3, 1) := by decide +kernel
theorem dL_law_67 : decode cL_law 67 = .ok (.iload_n 3, 1) := by decide +kernel
theorem dL_law_68 : decode cL_law 68 = .ok (.iconst 3, 1) := by decide +kernel
theorem dL_law_69 : decode cL_law 69 = .ok (.ishr, 1) := by decide +kernel
theorem dL_law_70 : decode cL_law 70 = .ok (.bipush 8, 2) := by decide +kernel
theorem dL_law_72 : decode cL_law 72 = .ok (.invokestatic 15, 3) := by decide +kernel
theorem dL_law_75 : decode cL_law 75 = .ok (.iadd, 1) := by decide +kernel
theorem dL_law_76 : decode cL_law 76 = .ok (.iload_n 3, 1) := by decide +kernel
theorem dL_law_77 : decode cL_law 77 = .ok (.bipush 6, 2) := by decide +kernel
theorem dL_law_79 : decode cL_law 79 = .ok (.ishr, 1) := by decide +kernel
theorem dL_law_80 : decode cL_law 80 = .ok (.bipush 6, 2) := by decide +kernel
theorem dL_law_82 : decode cL_law 82 = .ok (.invokestatic 15, 3) := by decide +kernel
theorem dL_law_85 : decode cL_law 85 = .ok (.invokevirtual 80, 3) := by decide +kernel
theorem dL_law_88 : decode cL_law 88 = .ok (.if_icmp .ne 7, 3) := by decide +kernel
theorem dL_law_91 : decode cL_law 91 = .ok (.iconst 1, 1) := by decide +kernel
theorem dL_law_92 : decode cL_law 92 = .ok (.goto 4, 3) := by decide +kernel
theorem dL_law_95 : decode cL_law 95 = .ok (.iconst 0, 1) := by decide +kernel
theorem dL_law_96 : decode cL_law 96 = .ok (.istore 5, 2) := by decide +kernel
theorem dL_law_98 : decode cL_law 98 = .ok (.iconst 1, 1) := by decide +kernel
theorem dL_law_99 : decode cL_law 99 = .ok (.istore 6, 2) := by decide +kernel
theorem dL_law_101 : decode cL_law 101 = .ok (.iload 6, 2) := by decide +kernel
theorem dL_law_103 : decode cL_law 103 = .ok (.bipush 24, 2) := by decide +kernel
theorem dL_law_105 : decode cL_law 105 = .ok (.if_icmp .ge 43, 3) := by decide +kernel
theorem dL_law_108 : decode cL_law 108 = .ok (.iload 5, 2) := by decide +kernel
theorem dL_law_110 : decode cL_law 110 = .ok (.ifCond .eq 38, 3) := by decide +kernel
theorem dL_law_113 : decode cL_law 113 = .ok (.aload_n 1, 1) := by decide +kernel
theorem dL_law_114 : decode cL_law 114 = .ok (.aload_n 2, 1) := by decide +kernel
theorem dL_law_115 : decode cL_law 115 = .ok (.aload_n 0, 1) := by decide +kernel
theorem dL_law_116 : decode cL_law 116 = .ok (.iload 6, 2) := by decide +kernel
theorem dL_law_118 : decode cL_law 118 = .ok (.invokestatic 77, 3) := by decide +kernel
theorem dL_law_121 : decode cL_law 121 = .ok (.invokestatic 84, 3) := by decide +kernel
theorem dL_law_124 : decode cL_law 124 = .ok (.ifCond .eq 15, 3) := by decide +kernel
theorem dL_law_127 : decode cL_law 127 = .ok (.aload_n 1, 1) := by decide +kernel
theorem dL_law_128 : decode cL_law 128 = .ok (.aload_n 2, 1) := by decide +kernel
theorem dL_law_129 : decode cL_law 129 = .ok (.invokestatic 88, 3) := by decide +kernel
theorem dL_law_132 : decode cL_law 132 = .ok (.ifCond .eq 7, 3) := by decide +kernel
theorem dL_law_135 : decode cL_law 135 = .ok (.iconst 1, 1) := by decide +kernel
theorem dL_law_136 : decode cL_law 136 = .ok (.goto 4, 3) := by decide +kernel
theorem dL_law_139 : decode cL_law 139 = .ok (.iconst 0, 1) := by decide +kernel
theorem dL_law_140 : decode cL_law 140 = .ok (.istore 5, 2) := by decide +kernel
theorem dL_law_142 : decode cL_law 142 = .ok (.iinc 6 1, 3) := by decide +kernel
theorem dL_law_145 : decode cL_law 145 = .ok (.goto (-44), 3) := by decide +kernel
theorem dL_law_148 : decode cL_law 148 = .ok (.iload 5, 2) := by decide +kernel
theorem dL_law_150 : decode cL_law 150 = .ok (.ifCond .eq 27, 3) := by decide +kernel
theorem dL_law_153 : decode cL_law 153 = .ok (.aload_n 1, 1) := by decide +kernel
theorem dL_law_154 : decode cL_law 154 = .ok (.iconst 1, 1) := by decide +kernel
theorem dL_law_155 : decode cL_law 155 = .ok (.aload_n 0, 1) := by decide +kernel
theorem dL_law_156 : decode cL_law 156 = .ok (.bipush 25, 2) := by decide +kernel
theorem dL_law_158 : decode cL_law 158 = .ok (.invokestatic 77, 3) := by decide +kernel
theorem dL_law_161 : decode cL_law 161 = .ok (.bipush 8, 2) := by decide +kernel
theorem dL_law_163 : decode cL_law 163 = .ok (.invokestatic 15, 3) := by decide +kernel
theorem dL_law_166 : decode cL_law 166 = .ok (.iadd, 1) := by decide +kernel
theorem dL_law_167 : decode cL_law 167 = .ok (.invokestatic 92, 3) := by decide +kernel
theorem dL_law_170 : decode cL_law 170 = .ok (.ifCond .eq 7, 3) := by decide +kernel
theorem dL_law_173 : decode cL_law 173 = .ok (.iconst 1, 1) := by decide +kernel
theorem dL_law_174 : decode cL_law 174 = .ok (.goto 4, 3) := by decide +kernel
theorem dL_law_177 : decode cL_law 177 = .ok (.iconst 0, 1) := by decide +kernel
theorem dL_law_178 : decode cL_law 178 = .ok (.istore 5, 2) := by decide +kernel
theorem dL_law_180 : decode cL_law 180 = .ok (.aload_n 0, 1) := by decide +kernel
theorem dL_law_181 : decode cL_law 181 = .ok (.bipush 26, 2) := by decide +kernel
theorem dL_law_183 : decode cL_law 183 = .ok (.invokestatic 77, 3) := by decide +kernel
theorem dL_law_186 : decode cL_law 186 = .ok (.sipush 200, 3) := by decide +kernel
theorem dL_law_189 : decode cL_law 189 = .ok (.invokestatic 15, 3) := by decide +kernel
theorem dL_law_192 : decode cL_law 192 = .ok (.istore 6, 2) := by decide +kernel
theorem dL_law_194 : decode cL_law 194 = .ok (.iload 5, 2) := by decide +kernel
theorem dL_law_196 : decode cL_law 196 = .ok (.ifCond .eq 56, 3) := by decide +kernel
theorem dL_law_199 : decode cL_law 199 = .ok (.aload_n 1, 1) := by decide +kernel
theorem dL_law_200 : decode cL_law 200 = .ok (.iload 6, 2) := by decide +kernel
theorem dL_law_202 : decode cL_law 202 = .ok (.invokevirtual 96, 3) := by decide +kernel
theorem dL_law_205 : decode cL_law 205 = .ok (.aload_n 2, 1) := by decide +kernel
theorem dL_law_206 : decode cL_law 206 = .ok (.iload 6, 2) := by decide +kernel
theorem dL_law_208 : decode cL_law 208 = .ok (.invokevirtual 96, 3) := by decide +kernel
theorem dL_law_211 : decode cL_law 211 = .ok (.if_icmp .ne 41, 3) := by decide +kernel
theorem dL_law_214 : decode cL_law 214 = .ok (.aload_n 1, 1) := by decide +kernel
theorem dL_law_215 : decode cL_law 215 = .ok (.iload 6, 2) := by decide +kernel
theorem dL_law_217 : decode cL_law 217 = .ok (.iconst 2, 1) := by decide +kernel
theorem dL_law_218 : decode cL_law 218 = .ok (.invokevirtual 99, 3) := by decide +kernel
theorem dL_law_221 : decode cL_law 221 = .ok (.aload_n 2, 1) := by decide +kernel
theorem dL_law_222 : decode cL_law 222 = .ok (.iload 6, 2) := by decide +kernel
theorem dL_law_224 : decode cL_law 224 = .ok (.iconst 2, 1) := by decide +kernel
theorem dL_law_225 : decode cL_law 225 = .ok (.invokevirtual 99, 3) := by decide +kernel
theorem dL_law_228 : decode cL_law 228 = .ok (.if_icmp .ne 24, 3) := by decide +kernel
theorem dL_law_231 : decode cL_law 231 = .ok (.aload_n 1, 1) := by decide +kernel
theorem dL_law_232 : decode cL_law 232 = .ok (.iconst 1, 1) := by decide +kernel
theorem dL_law_233 : decode cL_law 233 = .ok (.iload 6, 2) := by decide +kernel
theorem dL_law_235 : decode cL_law 235 = .ok (.invokevirtual 102, 3) := by decide +kernel
theorem dL_law_238 : decode cL_law 238 = .ok (.aload_n 2, 1) := by decide +kernel
theorem dL_law_239 : decode cL_law 239 = .ok (.iconst 1, 1) := by decide +kernel
theorem dL_law_240 : decode cL_law 240 = .ok (.iload 6, 2) := by decide +kernel
theorem dL_law_242 : decode cL_law 242 = .ok (.invokevirtual 102, 3) := by decide +kernel
theorem dL_law_245 : decode cL_law 245 = .ok (.if_icmp .ne 7, 3) := by decide +kernel
theorem dL_law_248 : decode cL_law 248 = .ok (.iconst 1, 1) := by decide +kernel
theorem dL_law_249 : decode cL_law 249 = .ok (.goto 4, 3) := by decide +kernel
theorem dL_law_252 : decode cL_law 252 = .ok (.iconst 0, 1) := by decide +kernel
theorem dL_law_253 : decode cL_law 253 = .ok (.istore 5, 2) := by decide +kernel
theorem dL_law_255 : decode cL_law 255 = .ok (.aload_n 1, 1) := by decide +kernel
theorem dL_law_256 : decode cL_law 256 = .ok (.invokevirtual 105, 3) := by decide +kernel
theorem dL_law_259 : decode cL_law 259 = .ok (.lstore 7, 2) := by decide +kernel
theorem dL_law_261 : decode cL_law 261 = .ok (.iload 5, 2) := by decide +kernel
theorem dL_law_263 : decode cL_law 263 = .ok (.ifCond .eq 23, 3) := by decide +kernel
theorem dL_law_266 : decode cL_law 266 = .ok (.aload_n 1, 1) := by decide +kernel
theorem dL_law_267 : decode cL_law 267 = .ok (.iload 6, 2) := by decide +kernel
theorem dL_law_269 : decode cL_law 269 = .ok (.invokevirtual 48, 3) := by decide +kernel
theorem dL_law_272 : decode cL_law 272 = .ok (.ifCond .lt 14, 3) := by decide +kernel
theorem dL_law_275 : decode cL_law 275 = .ok (.aload_n 1, 1) := by decide +kernel
theorem dL_law_276 : decode cL_law 276 = .ok (.invokevirtual 109, 3) := by decide +kernel
theorem dL_law_279 : decode cL_law 279 = .ok (.ifCond .lt 7, 3) := by decide +kernel
theorem dL_law_282 : decode cL_law 282 = .ok (.iconst 1, 1) := by decide +kernel
theorem dL_law_283 : decode cL_law 283 = .ok (.goto 4, 3) := by decide +kernel
theorem dL_law_286 : decode cL_law 286 = .ok (.iconst 0, 1) := by decide +kernel
theorem dL_law_287 : decode cL_law 287 = .ok (.istore 5, 2) := by decide +kernel
theorem dL_law_289 : decode cL_law 289 = .ok (.iload 5, 2) := by decide +kernel
theorem dL_law_291 : decode cL_law 291 = .ok (.ifCond .eq 29, 3) := by decide +kernel
theorem dL_law_294 : decode cL_law 294 = .ok (.aload_n 1, 1) := by decide +kernel
theorem dL_law_295 : decode cL_law 295 = .ok (.invokevirtual 105, 3) := by decide +kernel
theorem dL_law_298 : decode cL_law 298 = .ok (.lload 7, 2) := by decide +kernel
theorem dL_law_300 : decode cL_law 300 = .ok (.lcmp, 1) := by decide +kernel
theorem dL_law_301 : decode cL_law 301 = .ok (.ifCond .eq 15, 3) := by decide +kernel
theorem dL_law_304 : decode cL_law 304 = .ok (.aload_n 1, 1) := by decide +kernel
theorem dL_law_305 : decode cL_law 305 = .ok (.invokevirtual 105, 3) := by decide +kernel
theorem dL_law_308 : decode cL_law 308 = .ok (.lload 7, 2) := by decide +kernel
theorem dL_law_310 : decode cL_law 310 = .ok (.lconst 1, 1) := by decide +kernel
theorem dL_law_311 : decode cL_law 311 = .ok (.lsub, 1) := by decide +kernel
theorem dL_law_312 : decode cL_law 312 = .ok (.lcmp, 1) := by decide +kernel
theorem dL_law_313 : decode cL_law 313 = .ok (.ifCond .ne 7, 3) := by decide +kernel
theorem dL_law_316 : decode cL_law 316 = .ok (.iconst 1, 1) := by decide +kernel
theorem dL_law_317 : decode cL_law 317 = .ok (.goto 4, 3) := by decide +kernel
theorem dL_law_320 : decode cL_law 320 = .ok (.iconst 0, 1) := by decide +kernel
theorem dL_law_321 : decode cL_law 321 = .ok (.ireturn, 1) := by decide +kernel
