theorem dL_cell_0 : decode cL_cell 0 = .ok (.iload_n 1, 1) := by decide +kernel
theorem dL_cell_1 : decode cL_cell 1 = .ok (.aload_n 0, 1) := by decide +kernel
theorem dL_cell_2 : decode cL_cell 2 = .ok (.arraylength, 1) := by decide +kernel
theorem dL_cell_3 : decode cL_cell 3 = .ok (.if_icmp .ge 9, 3) := by decide +kernel
theorem dL_cell_6 : decode cL_cell 6 = .ok (.aload_n 0, 1) := by decide +kernel
theorem dL_cell_7 : decode cL_cell 7 = .ok (.iload_n 1, 1) := by decide +kernel
theorem dL_cell_8 : decode cL_cell 8 = .ok (.iaload, 1) := by decide +kernel
theorem dL_cell_9 : decode cL_cell 9 = .ok (.goto 11, 3) := by decide +kernel
theorem dL_cell_12 : decode cL_cell 12 = .ok (.ldc 7, 2) := by decide +kernel
theorem dL_cell_14 : decode cL_cell 14 = .ok (.iload_n 1, 1) := by decide +kernel
theorem dL_cell_15 : decode cL_cell 15 = .ok (.sipush 541, 3) := by decide +kernel
theorem dL_cell_18 : decode cL_cell 18 = .ok (.iadd, 1) := by decide +kernel
theorem dL_cell_19 : decode cL_cell 19 = .ok (.imul, 1) := by decide +kernel
theorem dL_cell_20 : decode cL_cell 20 = .ok (.ireturn, 1) := by decide +kernel
theorem dL_up_0 : decode cL_up 0 = .ok (.iload_n 0, 1) := by decide +kernel
theorem dL_up_1 : decode cL_up 1 = .ok (.ldc 8, 2) := by decide +kernel
theorem dL_up_3 : decode cL_up 3 = .ok (.iand, 1) := by decide +kernel
theorem dL_up_4 : decode cL_up 4 = .ok (.iload_n 1, 1) := by decide +kernel
theorem dL_up_5 : decode cL_up 5 = .ok (.irem, 1) := by decide +kernel
theorem dL_up_6 : decode cL_up 6 = .ok (.ireturn, 1) := by decide +kernel
theorem dL_isStep_0 : decode cL_isStep 0 = .ok (.iload_n 2, 1) := by decide +kernel
theorem dL_isStep_1 : decode cL_isStep 1 = .ok (.iconst 4, 1) := by decide +kernel
theorem dL_isStep_2 : decode cL_isStep 2 = .ok (.ishr, 1) := by decide +kernel
theorem dL_isStep_3 : decode cL_isStep 3 = .ok (.aload_n 0, 1) := by decide +kernel
theorem dL_isStep_4 : decode cL_isStep 4 = .ok (.iconst 4, 1) := by decide +kernel
theorem dL_isStep_5 : decode cL_isStep 5 = .ok (.invokevirtual 9, 3) := by decide +kernel
theorem dL_isStep_8 : decode cL_isStep 8 = .ok (.aload_n 0, 1) := by decide +kernel
theorem dL_isStep_9 : decode cL_isStep 9 = .ok (.iconst 5, 1) := by decide +kernel
theorem dL_isStep_10 : decode cL_isStep 10 = .ok (.invokevirtual 9, 3) := by decide +kernel
theorem dL_isStep_13 : decode cL_isStep 13 = .ok (.imul, 1) := by decide +kernel
theorem dL_isStep_14 : decode cL_isStep 14 = .ok (.invokestatic 15, 3) := by decide +kernel
theorem dL_isStep_17 : decode cL_isStep 17 = .ok (.istore_n 3, 1) := by decide +kernel
theorem dL_isStep_18 : decode cL_isStep 18 = .ok (.iload_n 2, 1) := by decide +kernel
theorem dL_isStep_19 : decode cL_isStep 19 = .ok (.bipush 10, 2) := by decide +kernel
theorem dL_isStep_21 : decode cL_isStep 21 = .ok (.invokestatic 15, 3) := by decide +kernel
theorem dL_isStep_24 : decode cL_isStep 24 = .ok (.tableswitch 312 0 5 #[40, 77, 114, 163, 246, 295], 40) := by decide +kernel
theorem dL_isStep_64 : decode cL_isStep 64 = .ok (.aload_n 0, 1) := by decide +kernel
theorem dL_isStep_65 : decode cL_isStep 65 = .ok (.iload_n 3, 1) := by decide +kernel
theorem dL_isStep_66 : decode cL_isStep 66 = .ok (.iload_n 2, 1) := by decide +kernel
theorem dL_isStep_67 : decode cL_isStep 67 = .ok (.bipush 12, 2) := by decide +kernel
theorem dL_isStep_69 : decode cL_isStep 69 = .ok (.ishr, 1) := by decide +kernel
theorem dL_isStep_70 : decode cL_isStep 70 = .ok (.bipush 15, 2) := by decide +kernel
theorem dL_isStep_72 : decode cL_isStep 72 = .ok (.invokestatic 15, 3) := by decide +kernel
theorem dL_isStep_75 : decode cL_isStep 75 = .ok (.invokevirtual 21, 3) := by decide +kernel
theorem dL_isStep_78 : decode cL_isStep 78 = .ok (.aload_n 1, 1) := by decide +kernel
theorem dL_isStep_79 : decode cL_isStep 79 = .ok (.iload_n 3, 1) := by decide +kernel
theorem dL_isStep_80 : decode cL_isStep 80 = .ok (.iload_n 2, 1) := by decide +kernel
theorem dL_isStep_81 : decode cL_isStep 81 = .ok (.bipush 12, 2) := by decide +kernel
theorem dL_isStep_83 : decode cL_isStep 83 = .ok (.ishr, 1) := by decide +kernel
theorem dL_isStep_84 : decode cL_isStep 84 = .ok (.bipush 15, 2) := by decide +kernel
theorem dL_isStep_86 : decode cL_isStep 86 = .ok (.invokestatic 15, 3) := by decide +kernel
theorem dL_isStep_89 : decode cL_isStep 89 = .ok (.invokevirtual 21, 3) := by decide +kernel
theorem dL_isStep_92 : decode cL_isStep 92 = .ok (.if_icmp .ne 7, 3) := by decide +kernel
theorem dL_isStep_95 : decode cL_isStep 95 = .ok (.iconst 1, 1) := by decide +kernel
theorem dL_isStep_96 : decode cL_isStep 96 = .ok (.goto 4, 3) := by decide +kernel
theorem dL_isStep_99 : decode cL_isStep 99 = .ok (.iconst 0, 1) := by decide +kernel
theorem dL_isStep_100 : decode cL_isStep 100 = .ok (.ireturn, 1) := by decide +kernel
theorem dL_isStep_101 : decode cL_isStep 101 = .ok (.aload_n 0, 1) := by decide +kernel
theorem dL_isStep_102 : decode cL_isStep 102 = .ok (.iload_n 3, 1) := by decide +kernel
theorem dL_isStep_103 : decode cL_isStep 103 = .ok (.iload_n 2, 1) := by decide +kernel
theorem dL_isStep_104 : decode cL_isStep 104 = .ok (.bipush 12, 2) := by decide +kernel
theorem dL_isStep_106 : decode cL_isStep 106 = .ok (.ishr, 1) := by decide +kernel
theorem dL_isStep_107 : decode cL_isStep 107 = .ok (.bipush 101, 2) := by decide +kernel
theorem dL_isStep_109 : decode cL_isStep 109 = .ok (.invokestatic 15, 3) := by decide +kernel
theorem dL_isStep_112 : decode cL_isStep 112 = .ok (.invokevirtual 24, 3) := by decide +kernel
theorem dL_isStep_115 : decode cL_isStep 115 = .ok (.aload_n 1, 1) := by decide +kernel
theorem dL_isStep_116 : decode cL_isStep 116 = .ok (.iload_n 3, 1) := by decide +kernel
theorem dL_isStep_117 : decode cL_isStep 117 = .ok (.iload_n 2, 1) := by decide +kernel
theorem dL_isStep_118 : decode cL_isStep 118 = .ok (.bipush 12, 2) := by decide +kernel
theorem dL_isStep_120 : decode cL_isStep 120 = .ok (.ishr, 1) := by decide +kernel
theorem dL_isStep_121 : decode cL_isStep 121 = .ok (.bipush 101, 2) := by decide +kernel
theorem dL_isStep_123 : decode cL_isStep 123 = .ok (.invokestatic 15, 3) := by decide +kernel
theorem dL_isStep_126 : decode cL_isStep 126 = .ok (.invokevirtual 24, 3) := by decide +kernel
theorem dL_isStep_129 : decode cL_isStep 129 = .ok (.if_icmp .ne 7, 3) := by decide +kernel
theorem dL_isStep_132 : decode cL_isStep 132 = .ok (.iconst 1, 1) := by decide +kernel
theorem dL_isStep_133 : decode cL_isStep 133 = .ok (.goto 4, 3) := by decide +kernel
theorem dL_isStep_136 : decode cL_isStep 136 = .ok (.iconst 0, 1) := by decide +kernel
theorem dL_isStep_137 : decode cL_isStep 137 = .ok (.ireturn, 1) := by decide +kernel
theorem dL_isStep_138 : decode cL_isStep 138 = .ok (.iload_n 2, 1) := by decide +kernel
theorem dL_isStep_139 : decode cL_isStep 139 = .ok (.bipush 12, 2) := by decide +kernel
theorem dL_isStep_141 : decode cL_isStep 141 = .ok (.ishr, 1) := by decide +kernel
theorem dL_isStep_142 : decode cL_isStep 142 = .ok (.iconst 1, 1) := by decide +kernel
theorem dL_isStep_143 : decode cL_isStep 143 = .ok (.iand, 1) := by decide +kernel
theorem dL_isStep_144 : decode cL_isStep 144 = .ok (.ifCond .ne 7, 3) := by decide +kernel
theorem dL_isStep_147 : decode cL_isStep 147 = .ok (.iconst (-1), 1) := by decide +kernel
theorem dL_isStep_148 : decode cL_isStep 148 = .ok (.goto 14, 3) := by decide +kernel
theorem dL_isStep_151 : decode cL_isStep 151 = .ok (.iconst 1, 1) := by decide +kernel
theorem dL_isStep_152 : decode cL_isStep 152 = .ok (.iload_n 2, 1) := by decide +kernel
theorem dL_isStep_153 : decode cL_isStep 153 = .ok (.bipush 13, 2) := by decide +kernel
theorem dL_isStep_155 : decode cL_isStep 155 = .ok (.ishr, 1) := by decide +kernel
theorem dL_isStep_156 : decode cL_isStep 156 = .ok (.bipush 50, 2) := by decide +kernel
theorem dL_isStep_158 : decode cL_isStep 158 = .ok (.invokestatic 15, 3) := by decide +kernel
theorem dL_isStep_161 : decode cL_isStep 161 = .ok (.iadd, 1) := by decide +kernel
theorem dL_isStep_162 : decode cL_isStep 162 = .ok (.istore 4, 2) := by decide +kernel
theorem dL_isStep_164 : decode cL_isStep 164 = .ok (.aload_n 0, 1) := by decide +kernel
theorem dL_isStep_165 : decode cL_isStep 165 = .ok (.iload_n 3, 1) := by decide +kernel
theorem dL_isStep_166 : decode cL_isStep 166 = .ok (.iload 4, 2) := by decide +kernel
theorem dL_isStep_168 : decode cL_isStep 168 = .ok (.invokevirtual 27, 3) := by decide +kernel
theorem dL_isStep_171 : decode cL_isStep 171 = .ok (.aload_n 1, 1) := by decide +kernel
theorem dL_isStep_172 : decode cL_isStep 172 = .ok (.iload_n 3, 1) := by decide +kernel
theorem dL_isStep_173 : decode cL_isStep 173 = .ok (.iload 4, 2) := by decide +kernel
theorem dL_isStep_175 : decode cL_isStep 175 = .ok (.invokevirtual 27, 3) := by decide +kernel
theorem dL_isStep_178 : decode cL_isStep 178 = .ok (.if_icmp .ne 7, 3) := by decide +kernel
theorem dL_isStep_181 : decode cL_isStep 181 = .ok (.iconst 1, 1) := by decide +kernel
theorem dL_isStep_182 : decode cL_isStep 182 = .ok (.goto 4, 3) := by decide +kernel
theorem dL_isStep_185 : decode cL_isStep 185 = .ok (.iconst 0, 1) := by decide +kernel
theorem dL_isStep_186 : decode cL_isStep 186 = .ok (.ireturn, 1) := by decide +kernel
theorem dL_isStep_187 : decode cL_isStep 187 = .ok (.iload_n 2, 1) := by decide +kernel
theorem dL_isStep_188 : decode cL_isStep 188 = .ok (.iconst 4, 1) := by decide +kernel
theorem dL_isStep_189 : decode cL_isStep 189 = .ok (.ishr, 1) := by decide +kernel
theorem dL_isStep_190 : decode cL_isStep 190 = .ok (.iconst 4, 1) := by decide +kernel
theorem dL_isStep_191 : decode cL_isStep 191 = .ok (.invokestatic 15, 3) := by decide +kernel
theorem dL_isStep_194 : decode cL_isStep 194 = .ok (.istore 4, 2) := by decide +kernel
theorem dL_isStep_196 : decode cL_isStep 196 = .ok (.iload 4, 2) := by decide +kernel
theorem dL_isStep_198 : decode cL_isStep 198 = .ok (.ifCond .ne 17, 3) := by decide +kernel
theorem dL_isStep_201 : decode cL_isStep 201 = .ok (.iconst 1, 1) := by decide +kernel
theorem dL_isStep_202 : decode cL_isStep 202 = .ok (.iload_n 2, 1) := by decide +kernel
theorem dL_isStep_203 : decode cL_isStep 203 = .ok (.bipush 6, 2) := by decide +kernel
theorem dL_isStep_205 : decode cL_isStep 205 = .ok (.ishr, 1) := by decide +kernel
theorem dL_isStep_206 : decode cL_isStep 206 = .ok (.bipush 8, 2) := by decide +kernel
theorem dL_isStep_208 : decode cL_isStep 208 = .ok (.invokestatic 15, 3) := by decide +kernel
theorem dL_isStep_211 : decode cL_isStep 211 = .ok (.iadd, 1) := by decide +kernel
theorem dL_isStep_212 : decode cL_isStep 212 = .ok (.goto 31, 3) := by decide +kernel
theorem dL_isStep_215 : decode cL_isStep 215 = .ok (.iload 4, 2) := by decide +kernel
theorem dL_isStep_217 : decode cL_isStep 217 = .ok (.iconst 3, 1) := by decide +kernel
theorem dL_isStep_218 : decode cL_isStep 218 = .ok (.if_icmp .ne 16, 3) := by decide +kernel
theorem dL_isStep_221 : decode cL_isStep 221 = .ok (.iconst 1, 1) := by decide +kernel
theorem dL_isStep_222 : decode cL_isStep 222 = .ok (.iload_n 2, 1) := by decide +kernel
theorem dL_isStep_223 : decode cL_isStep 223 = .ok (.bipush 6, 2) := by decide +kernel
theorem dL_isStep_225 : decode cL_isStep 225 = .ok (.ishr, 1) := by decide +kernel
theorem dL_isStep_226 : decode cL_isStep 226 = .ok (.iconst 5, 1) := by decide +kernel
theorem dL_isStep_227 : decode cL_isStep 227 = .ok (.invokestatic 15, 3) := by decide +kernel
theorem dL_isStep_230 : decode cL_isStep 230 = .ok (.iadd, 1) := by decide +kernel
theorem dL_isStep_231 : decode cL_isStep 231 = .ok (.goto 12, 3) := by decide +kernel
theorem dL_isStep_234 : decode cL_isStep 234 = .ok (.iload_n 2, 1) := by decide +kernel
theorem dL_isStep_235 : decode cL_isStep 235 = .ok (.bipush 6, 2) := by decide +kernel
theorem dL_isStep_237 : decode cL_isStep 237 = .ok (.ishr, 1) := by decide +kernel
theorem dL_isStep_238 : decode cL_isStep 238 = .ok (.bipush 101, 2) := by decide +kernel
theorem dL_isStep_240 : decode cL_isStep 240 = .ok (.invokestatic 15, 3) := by decide +kernel
theorem dL_isStep_243 : decode cL_isStep 243 = .ok (.istore 5, 2) := by decide +kernel
theorem dL_isStep_245 : decode cL_isStep 245 = .ok (.aload_n 0, 1) := by decide +kernel
theorem dL_isStep_246 : decode cL_isStep 246 = .ok (.iload 4, 2) := by decide +kernel
theorem dL_isStep_248 : decode cL_isStep 248 = .ok (.iload 5, 2) := by decide +kernel
theorem dL_isStep_250 : decode cL_isStep 250 = .ok (.invokevirtual 30, 3) := by decide +kernel
theorem dL_isStep_253 : decode cL_isStep 253 = .ok (.aload_n 1, 1) := by decide +kernel
theorem dL_isStep_254 : decode cL_isStep 254 = .ok (.iload 4, 2) := by decide +kernel
theorem dL_isStep_256 : decode cL_isStep 256 = .ok (.iload 5, 2) := by decide +kernel
theorem dL_isStep_258 : decode cL_isStep 258 = .ok (.invokevirtual 30, 3) := by decide +kernel
theorem dL_isStep_261 : decode cL_isStep 261 = .ok (.if_icmp .ne 7, 3) := by decide +kernel
theorem dL_isStep_264 : decode cL_isStep 264 = .ok (.iconst 1, 1) := by decide +kernel
theorem dL_isStep_265 : decode cL_isStep 265 = .ok (.goto 4, 3) := by decide +kernel
theorem dL_isStep_268 : decode cL_isStep 268 = .ok (.iconst 0, 1) := by decide +kernel
theorem dL_isStep_269 : decode cL_isStep 269 = .ok (.ireturn, 1) := by decide +kernel
theorem dL_isStep_270 : decode cL_isStep 270 = .ok (.aload_n 0, 1) := by decide +kernel
theorem dL_isStep_271 : decode cL_isStep 271 = .ok (.iload_n 2, 1) := by decide +kernel
theorem dL_isStep_272 : decode cL_isStep 272 = .ok (.iconst 4, 1) := by decide +kernel
theorem dL_isStep_273 : decode cL_isStep 273 = .ok (.ishr, 1) := by decide +kernel
theorem dL_isStep_274 : decode cL_isStep 274 = .ok (.iconst 4, 1) := by decide +kernel
theorem dL_isStep_275 : decode cL_isStep 275 = .ok (.invokestatic 15, 3) := by decide +kernel
theorem dL_isStep_278 : decode cL_isStep 278 = .ok (.iload_n 2, 1) := by decide +kernel
theorem dL_isStep_279 : decode cL_isStep 279 = .ok (.bipush 6, 2) := by decide +kernel
theorem dL_isStep_281 : decode cL_isStep 281 = .ok (.ishr, 1) := by decide +kernel
theorem dL_isStep_282 : decode cL_isStep 282 = .ok (.ldc 33, 2) := by decide +kernel
theorem dL_isStep_284 : decode cL_isStep 284 = .ok (.invokestatic 15, 3) := by decide +kernel
theorem dL_isStep_287 : decode cL_isStep 287 = .ok (.invokevirtual 34, 3) := by decide +kernel
theorem dL_isStep_290 : decode cL_isStep 290 = .ok (.aload_n 1, 1) := by decide +kernel
theorem dL_isStep_291 : decode cL_isStep 291 = .ok (.iload_n 2, 1) := by decide +kernel
theorem dL_isStep_292 : decode cL_isStep 292 = .ok (.iconst 4, 1) := by decide +kernel
theorem dL_isStep_293 : decode cL_isStep 293 = .ok (.ishr, 1) := by decide +kernel
theorem dL_isStep_294 : decode cL_isStep 294 = .ok (.iconst 4, 1) := by decide +kernel
theorem dL_isStep_295 : decode cL_isStep 295 = .ok (.invokestatic 15, 3) := by decide +kernel
theorem dL_isStep_298 : decode cL_isStep 298 = .ok (.iload_n 2, 1) := by decide +kernel
theorem dL_isStep_299 : decode cL_isStep 299 = .ok (.bipush 6, 2) := by decide +kernel
theorem dL_isStep_301 : decode cL_isStep 301 = .ok (.ishr, 1) := by decide +kernel
theorem dL_isStep_302 : decode cL_isStep 302 = .ok (.ldc 33, 2) := by decide +kernel
theorem dL_isStep_304 : decode cL_isStep 304 = .ok (.invokestatic 15, 3) := by decide +kernel
theorem dL_isStep_307 : decode cL_isStep 307 = .ok (.invokevirtual 34, 3) := by decide +kernel
theorem dL_isStep_310 : decode cL_isStep 310 = .ok (.if_icmp .ne 7, 3) := by decide +kernel
theorem dL_isStep_313 : decode cL_isStep 313 = .ok (.iconst 1, 1) := by decide +kernel
theorem dL_isStep_314 : decode cL_isStep 314 = .ok (.goto 4, 3) := by decide +kernel
theorem dL_isStep_317 : decode cL_isStep 317 = .ok (.iconst 0, 1) := by decide +kernel
theorem dL_isStep_318 : decode cL_isStep 318 = .ok (.ireturn, 1) := by decide +kernel
theorem dL_isStep_319 : decode cL_isStep 319 = .ok (.aload_n 0, 1) := by decide +kernel
theorem dL_isStep_320 : decode cL_isStep 320 = .ok (.invokevirtual 37, 3) := by decide +kernel
theorem dL_isStep_323 : decode cL_isStep 323 = .ok (.aload_n 1, 1) := by decide +kernel
theorem dL_isStep_324 : decode cL_isStep 324 = .ok (.invokevirtual 37, 3) := by decide +kernel
theorem dL_isStep_327 : decode cL_isStep 327 = .ok (.if_icmp .ne 7, 3) := by decide +kernel
theorem dL_isStep_330 : decode cL_isStep 330 = .ok (.iconst 1, 1) := by decide +kernel
theorem dL_isStep_331 : decode cL_isStep 331 = .ok (.goto 4, 3) := by decide +kernel
theorem dL_isStep_334 : decode cL_isStep 334 = .ok (.iconst 0, 1) := by decide +kernel
theorem dL_isStep_335 : decode cL_isStep 335 = .ok (.ireturn, 1) := by decide +kernel
theorem dL_isStep_336 : decode cL_isStep 336 = .ok (.iload_n 2, 1) := by decide +kernel
theorem dL_isStep_337 : decode cL_isStep 337 = .ok (.iconst 4, 1) := by decide +kernel
theorem dL_isStep_338 : decode cL_isStep 338 = .ok (.ishr, 1) := by decide +kernel
theorem dL_isStep_339 : decode cL_isStep 339 = .ok (.sipush 300, 3) := by decide +kernel
theorem dL_isStep_342 : decode cL_isStep 342 = .ok (.invokestatic 15, 3) := by decide +kernel
theorem dL_isStep_345 : decode cL_isStep 345 = .ok (.istore 4, 2) := by decide +kernel
theorem dL_isStep_347 : decode cL_isStep 347 = .ok (.iload_n 2, 1) := by decide +kernel
theorem dL_isStep_348 : decode cL_isStep 348 = .ok (.bipush 13, 2) := by decide +kernel
theorem dL_isStep_350 : decode cL_isStep 350 = .ok (.ishr, 1) := by decide +kernel
theorem dL_isStep_351 : decode cL_isStep 351 = .ok (.iload 4, 2) := by decide +kernel
theorem dL_isStep_353 : decode cL_isStep 353 = .ok (.iconst 1, 1) := by decide +kernel
theorem dL_isStep_354 : decode cL_isStep 354 = .ok (.iadd, 1) := by decide +kernel
theorem dL_isStep_355 : decode cL_isStep 355 = .ok (.invokestatic 15, 3) := by decide +kernel
theorem dL_isStep_358 : decode cL_isStep 358 = .ok (.istore 5, 2) := by decide +kernel
theorem dL_isStep_360 : decode cL_isStep 360 = .ok (.aload_n 0, 1) := by decide +kernel
theorem dL_isStep_361 : decode cL_isStep 361 = .ok (.invokevirtual 41, 3) := by decide +kernel
theorem dL_isStep_364 : decode cL_isStep 364 = .ok (.istore 6, 2) := by decide +kernel
theorem dL_isStep_366 : decode cL_isStep 366 = .ok (.aload_n 0, 1) := by decide +kernel
theorem dL_isStep_367 : decode cL_isStep 367 = .ok (.invokestatic 44, 3) := by decide +kernel
theorem dL_isStep_370 : decode cL_isStep 370 = .ok (.istore 7, 2) := by decide +kernel
theorem dL_isStep_372 : decode cL_isStep 372 = .ok (.aload_n 0, 1) := by decide +kernel
theorem dL_isStep_373 : decode cL_isStep 373 = .ok (.iload 4, 2) := by decide +kernel
theorem dL_isStep_375 : decode cL_isStep 375 = .ok (.invokevirtual 48, 3) := by decide +kernel
theorem dL_isStep_378 : decode cL_isStep 378 = .ok (.istore 8, 2) := by decide +kernel
theorem dL_isStep_380 : decode cL_isStep 380 = .ok (.aload_n 0, 1) := by decide +kernel
theorem dL_isStep_381 : decode cL_isStep 381 = .ok (.iconst 5, 1) := by decide +kernel
theorem dL_isStep_382 : decode cL_isStep 382 = .ok (.invokevirtual 51, 3) := by decide +kernel
theorem dL_isStep_385 : decode cL_isStep 385 = .ok (.istore 9, 2) := by decide +kernel
theorem dL_isStep_387 : decode cL_isStep 387 = .ok (.iload 8, 2) := by decide +kernel
theorem dL_isStep_389 : decode cL_isStep 389 = .ok (.iload 4, 2) := by decide +kernel
theorem dL_isStep_391 : decode cL_isStep 391 = .ok (.if_icmp .gt 58, 3) := by decide +kernel
theorem dL_isStep_394 : decode cL_isStep 394 = .ok (.iload 8, 2) := by decide +kernel
theorem dL_isStep_396 : decode cL_isStep 396 = .ok (.aload_n 1, 1) := by decide +kernel
theorem dL_isStep_397 : decode cL_isStep 397 = .ok (.iload 5, 2) := by decide +kernel
theorem dL_isStep_399 : decode cL_isStep 399 = .ok (.invokevirtual 48, 3) := by decide +kernel
theorem dL_isStep_402 : decode cL_isStep 402 = .ok (.aload_n 1, 1) := by decide +kernel
theorem dL_isStep_403 : decode cL_isStep 403 = .ok (.iload 4, 2) := by decide +kernel
theorem dL_isStep_405 : decode cL_isStep 405 = .ok (.iload 5, 2) := by decide +kernel
theorem dL_isStep_407 : decode cL_isStep 407 = .ok (.isub, 1) := by decide +kernel
theorem dL_isStep_408 : decode cL_isStep 408 = .ok (.invokevirtual 48, 3) := by decide +kernel
theorem dL_isStep_411 : decode cL_isStep 411 = .ok (.iadd, 1) := by decide +kernel
theorem dL_isStep_412 : decode cL_isStep 412 = .ok (.if_icmp .ne 37, 3) := by decide +kernel
theorem dL_isStep_415 : decode cL_isStep 415 = .ok (.aload_n 0, 1) := by decide +kernel
theorem dL_isStep_416 : decode cL_isStep 416 = .ok (.invokevirtual 41, 3) := by decide +kernel
theorem dL_isStep_419 : decode cL_isStep 419 = .ok (.iload 6, 2) := by decide +kernel
theorem dL_isStep_421 : decode cL_isStep 421 = .ok (.if_icmp .ne 28, 3) := by decide +kernel
theorem dL_isStep_424 : decode cL_isStep 424 = .ok (.aload_n 0, 1) := by decide +kernel
theorem dL_isStep_425 : decode cL_isStep 425 = .ok (.invokestatic 44, 3) := by decide +kernel
theorem dL_isStep_428 : decode cL_isStep 428 = .ok (.iload 7, 2) := by decide +kernel
theorem dL_isStep_430 : decode cL_isStep 430 = .ok (.if_icmp .lt 19, 3) := by decide +kernel
theorem dL_isStep_433 : decode cL_isStep 433 = .ok (.iload 9, 2) := by decide +kernel
theorem dL_isStep_435 : decode cL_isStep 435 = .ok (.aload_n 0, 1) := by decide +kernel
theorem dL_isStep_436 : decode cL_isStep 436 = .ok (.invokestatic 44, 3) := by decide +kernel
theorem dL_isStep_439 : decode cL_isStep 439 = .ok (.iload 7, 2) := by decide +kernel
theorem dL_isStep_441 : decode cL_isStep 441 = .ok (.isub, 1) := by decide +kernel
theorem dL_isStep_442 : decode cL_isStep 442 = .ok (.if_icmp .lt 7, 3) := by decide +kernel
theorem dL_isStep_445 : decode cL_isStep 445 = .ok (.iconst 1, 1) := by decide +kernel
theorem dL_isStep_446 : decode cL_isStep 446 = .ok (.goto 4, 3) := by decide +kernel
theorem dL_isStep_449 : decode cL_isStep 449 = .ok (.iconst 0, 1) := by decide +kernel
theorem dL_isStep_450 : decode cL_isStep 450 = .ok (.ireturn, 1) := by decide +kernel
theorem dL_trapped_0 : decode cL_trapped 0 = .ok (.iconst 0, 1) := by decide +kernel
theorem dL_trapped_1 : decode cL_trapped 1 = .ok (.istore_n 1, 1) := by decide +kernel
theorem dL_trapped_2 : decode cL_trapped 2 = .ok (.iconst 0, 1) := by decide +kernel
theorem dL_trapped_3 : decode cL_trapped 3 = .ok (.istore_n 2, 1) := by decide +kernel
theorem dL_trapped_4 : decode cL_trapped 4 = .ok (.iload_n 2, 1) := by decide +kernel
theorem dL_trapped_5 : decode cL_trapped 5 = .ok (.aload_n 0, 1) := by decide +kernel
theorem dL_trapped_6 : decode cL_trapped 6 = .ok (.iconst 4, 1) := by decide +kernel
theorem dL_trapped_7 : decode cL_trapped 7 = .ok (.invokevirtual 9, 3) := by decide +kernel
theorem dL_trapped_10 : decode cL_trapped 10 = .ok (.aload_n 0, 1) := by decide +kernel
theorem dL_trapped_11 : decode cL_trapped 11 = .ok (.iconst 5, 1) := by decide +kernel
theorem dL_trapped_12 : decode cL_trapped 12 = .ok (.invokevirtual 9, 3) := by decide +kernel
theorem dL_trapped_15 : decode cL_trapped 15 = .ok (.imul, 1) := by decide +kernel
theorem dL_trapped_16 : decode cL_trapped 16 = .ok (.if_icmp .ge 31, 3) := by decide +kernel
theorem dL_trapped_19 : decode cL_trapped 19 = .ok (.iload_n 1, 1) := by decide +kernel
theorem dL_trapped_20 : decode cL_trapped 20 = .ok (.aload_n 0, 1) := by decide +kernel
theorem dL_trapped_21 : decode cL_trapped 21 = .ok (.iload_n 2, 1) := by decide +kernel
theorem dL_trapped_22 : decode cL_trapped 22 = .ok (.iconst 3, 1) := by decide +kernel
theorem dL_trapped_23 : decode cL_trapped 23 = .ok (.invokevirtual 54, 3) := by decide +kernel
theorem dL_trapped_26 : decode cL_trapped 26 = .ok (.ifCond .le 12, 3) := by decide +kernel
theorem dL_trapped_29 : decode cL_trapped 29 = .ok (.aload_n 0, 1) := by decide +kernel
theorem dL_trapped_30 : decode cL_trapped 30 = .ok (.iload_n 2, 1) := by decide +kernel
theorem dL_trapped_31 : decode cL_trapped 31 = .ok (.iconst 3, 1) := by decide +kernel
theorem dL_trapped_32 : decode cL_trapped 32 = .ok (.invokevirtual 54, 3) := by decide +kernel
theorem dL_trapped_35 : decode cL_trapped 35 = .ok (.goto 4, 3) := by decide +kernel
theorem dL_trapped_38 : decode cL_trapped 38 = .ok (.iconst 0, 1) := by decide +kernel
theorem dL_trapped_39 : decode cL_trapped 39 = .ok (.iadd, 1) := by decide +kernel
theorem dL_trapped_40 : decode cL_trapped 40 = .ok (.istore_n 1, 1) := by decide +kernel
theorem dL_trapped_41 : decode cL_trapped 41 = .ok (.iinc 2 1, 3) := by decide +kernel
theorem dL_trapped_44 : decode cL_trapped 44 = .ok (.goto (-40), 3) := by decide +kernel
theorem dL_trapped_47 : decode cL_trapped 47 = .ok (.iload_n 1, 1) := by decide +kernel
theorem dL_trapped_48 : decode cL_trapped 48 = .ok (.ireturn, 1) := by decide +kernel
theorem dL_areAlike_0 : decode cL_areAlike 0 = .ok (.aload_n 0, 1) := by decide +kernel
theorem dL_areAlike_1 : decode cL_areAlike 1 = .ok (.invokevirtual 57, 3) := by decide +kernel
theorem dL_areAlike_4 : decode cL_areAlike 4 = .ok (.aload_n 1, 1) := by decide +kernel
theorem dL_areAlike_5 : decode cL_areAlike 5 = .ok (.invokevirtual 57, 3) := by decide +kernel
theorem dL_areAlike_8 : decode cL_areAlike 8 = .ok (.dcmp .l, 1) := by decide +kernel
theorem dL_areAlike_9 : decode cL_areAlike 9 = .ok (.ifCond .ne 7, 3) := by decide +kernel
theorem dL_areAlike_12 : decode cL_areAlike 12 = .ok (.iconst 1, 1) := by decide +kernel
theorem dL_areAlike_13 : decode cL_areAlike 13 = .ok (.goto 4, 3) := by decide +kernel
theorem dL_areAlike_16 : decode cL_areAlike 16 = .ok (.iconst 0, 1) := by decide +kernel
theorem dL_areAlike_17 : decode cL_areAlike 17 = .ok (.istore_n 2, 1) := by decide +kernel
theorem dL_areAlike_18 : decode cL_areAlike 18 = .ok (.iconst 0, 1) := by decide +kernel
theorem dL_areAlike_19 : decode cL_areAlike 19 = .ok (.istore_n 3, 1) := by decide +kernel
theorem dL_areAlike_20 : decode cL_areAlike 20 = .ok (.iload_n 3, 1) := by decide +kernel
theorem dL_areAlike_21 : decode cL_areAlike 21 = .ok (.bipush 12, 2) := by decide +kernel
theorem dL_areAlike_23 : decode cL_areAlike 23 = .ok (.if_icmp .ge 51, 3) := by decide +kernel
theorem dL_areAlike_26 : decode cL_areAlike 26 = .ok (.iload_n 2, 1) := by decide +kernel
theorem dL_areAlike_27 : decode cL_areAlike 27 = .ok (.ifCond .eq 39, 3) := by decide +kernel
theorem dL_areAlike_30 : decode cL_areAlike 30 = .ok (.iload_n 3, 1) := by decide +kernel
theorem dL_areAlike_31 : decode cL_areAlike 31 = .ok (.bipush 8, 2) := by decide +kernel
theorem dL_areAlike_33 : decode cL_areAlike 33 = .ok (.if_icmp .gt 16, 3) := by decide +kernel
theorem dL_areAlike_36 : decode cL_areAlike 36 = .ok (.aload_n 0, 1) := by decide +kernel
theorem dL_areAlike_37 : decode cL_areAlike 37 = .ok (.iload_n 3, 1) := by decide +kernel
theorem dL_areAlike_38 : decode cL_areAlike 38 = .ok (.invokevirtual 9, 3) := by decide +kernel
theorem dL_areAlike_41 : decode cL_areAlike 41 = .ok (.aload_n 1, 1) := by decide +kernel
theorem dL_areAlike_42 : decode cL_areAlike 42 = .ok (.iload_n 3, 1) := by decide +kernel
theorem dL_areAlike_43 : decode cL_areAlike 43 = .ok (.invokevirtual 9, 3) := by decide +kernel
theorem dL_areAlike_46 : decode cL_areAlike 46 = .ok (.if_icmp .ne 20, 3) := by decide +kernel
theorem dL_areAlike_49 : decode cL_areAlike 49 = .ok (.aload_n 0, 1) := by decide +kernel
theorem dL_areAlike_50 : decode cL_areAlike 50 = .ok (.iload_n 3, 1) := by decide +kernel
theorem dL_areAlike_51 : decode cL_areAlike 51 = .ok (.invokevirtual 51, 3) := by decide +kernel
theorem dL_areAlike_54 : decode cL_areAlike 54 = .ok (.aload_n 1, 1) := by decide +kernel
theorem dL_areAlike_55 : decode cL_areAlike 55 = .ok (.iload_n 3, 1) := by decide +kernel
theorem dL_areAlike_56 : decode cL_areAlike 56 = .ok (.invokevirtual 51, 3) := by decide +kernel
theorem dL_areAlike_59 : decode cL_areAlike 59 = .ok (.if_icmp .ne 7, 3) := by decide +kernel
theorem dL_areAlike_62 : decode cL_areAlike 62 = .ok (.iconst 1, 1) := by decide +kernel
theorem dL_areAlike_63 : decode cL_areAlike 63 = .ok (.goto 4, 3) := by decide +kernel
theorem dL_areAlike_66 : decode cL_areAlike 66 = .ok (.iconst 0, 1) := by decide +kernel
theorem dL_areAlike_67 : decode cL_areAlike 67 = .ok (.istore_n 2, 1) := by decide +kernel
theorem dL_areAlike_68 : decode cL_areAlike 68 = .ok (.iinc 3 1, 3) := by decide +kernel
theorem dL_areAlike_71 : decode cL_areAlike 71 = .ok (.goto (-51), 3) := by decide +kernel
theorem dL_areAlike_74 : decode cL_areAlike 74 = .ok (.iconst 0, 1) := by decide +kernel
theorem dL_areAlike_75 : decode cL_areAlike 75 = .ok (.istore_n 3, 1) := by decide +kernel
theorem dL_areAlike_76 : decode cL_areAlike 76 = .ok (.iload_n 3, 1) := by decide +kernel
theorem dL_areAlike_77 : decode cL_areAlike 77 = .ok (.aload_n 0, 1) := by decide +kernel
theorem dL_areAlike_78 : decode cL_areAlike 78 = .ok (.iconst 4, 1) := by decide +kernel
theorem dL_areAlike_79 : decode cL_areAlike 79 = .ok (.invokevirtual 9, 3) := by decide +kernel
theorem dL_areAlike_82 : decode cL_areAlike 82 = .ok (.aload_n 0, 1) := by decide +kernel
theorem dL_areAlike_83 : decode cL_areAlike 83 = .ok (.iconst 5, 1) := by decide +kernel
theorem dL_areAlike_84 : decode cL_areAlike 84 = .ok (.invokevirtual 9, 3) := by decide +kernel
theorem dL_areAlike_87 : decode cL_areAlike 87 = .ok (.imul, 1) := by decide +kernel
theorem dL_areAlike_88 : decode cL_areAlike 88 = .ok (.if_icmp .ge 56, 3) := by decide +kernel
theorem dL_areAlike_91 : decode cL_areAlike 91 = .ok (.iload_n 2, 1) := by decide +kernel
theorem dL_areAlike_92 : decode cL_areAlike 92 = .ok (.ifCond .eq 52, 3) := by decide +kernel
theorem dL_areAlike_95 : decode cL_areAlike 95 = .ok (.iconst 0, 1) := by decide +kernel
theorem dL_areAlike_96 : decode cL_areAlike 96 = .ok (.istore 4, 2) := by decide +kernel
theorem dL_areAlike_98 : decode cL_areAlike 98 = .ok (.iload 4, 2) := by decide +kernel
theorem dL_areAlike_100 : decode cL_areAlike 100 = .ok (.bipush 6, 2) := by decide +kernel
theorem dL_areAlike_102 : decode cL_areAlike 102 = .ok (.if_icmp .ge 36, 3) := by decide +kernel
theorem dL_areAlike_105 : decode cL_areAlike 105 = .ok (.iload_n 2, 1) := by decide +kernel
theorem dL_areAlike_106 : decode cL_areAlike 106 = .ok (.ifCond .eq 24, 3) := by decide +kernel
theorem dL_areAlike_109 : decode cL_areAlike 109 = .ok (.aload_n 0, 1) := by decide +kernel
theorem dL_areAlike_110 : decode cL_areAlike 110 = .ok (.iload_n 3, 1) := by decide +kernel
theorem dL_areAlike_111 : decode cL_areAlike 111 = .ok (.iload 4, 2) := by decide +kernel
theorem dL_areAlike_113 : decode cL_areAlike 113 = .ok (.invokevirtual 54, 3) := by decide +kernel
theorem dL_areAlike_116 : decode cL_areAlike 116 = .ok (.aload_n 1, 1) := by decide +kernel
theorem dL_areAlike_117 : decode cL_areAlike 117 = .ok (.iload_n 3, 1) := by decide +kernel
theorem dL_areAlike_118 : decode cL_areAlike 118 = .ok (.iload 4, 2) := by decide +kernel
theorem dL_areAlike_120 : decode cL_areAlike 120 = .ok (.invokevirtual 54, 3) := by decide +kernel
theorem dL_areAlike_123 : decode cL_areAlike 123 = .ok (.if_icmp .ne 7, 3) := by decide +kernel
theorem dL_areAlike_126 : decode cL_areAlike 126 = .ok (.iconst 1, 1) := by decide +kernel
theorem dL_areAlike_127 : decode cL_areAlike 127 = .ok (.goto 4, 3) := by decide +kernel
theorem dL_areAlike_130 : decode cL_areAlike 130 = .ok (.iconst 0, 1) := by decide +kernel
theorem dL_areAlike_131 : decode cL_areAlike 131 = .ok (.istore_n 2, 1) := by decide +kernel
theorem dL_areAlike_132 : decode cL_areAlike 132 = .ok (.iinc 4 1, 3) := by decide +kernel
theorem dL_areAlike_135 : decode cL_areAlike 135 = .ok (.goto (-37), 3) := by decide +kernel
theorem dL_areAlike_138 : decode cL_areAlike 138 = .ok (.iinc 3 1, 3) := by decide +kernel
theorem dL_areAlike_141 : decode cL_areAlike 141 = .ok (.goto (-65), 3) := by decide +kernel
theorem dL_areAlike_144 : decode cL_areAlike 144 = .ok (.iload_n 2, 1) := by decide +kernel
theorem dL_areAlike_145 : decode cL_areAlike 145 = .ok (.ireturn, 1) := by decide +kernel
theorem dL_isSound_0 : decode cL_isSound 0 = .ok (.iconst 0, 1) := by decide +kernel
theorem dL_isSound_1 : decode cL_isSound 1 = .ok (.istore_n 2, 1) := by decide +kernel
theorem dL_isSound_2 : decode cL_isSound 2 = .ok (.iconst 1, 1) := by decide +kernel
theorem dL_isSound_3 : decode cL_isSound 3 = .ok (.istore_n 3, 1) := by decide +kernel
theorem dL_isSound_4 : decode cL_isSound 4 = .ok (.iload_n 3, 1) := by decide +kernel
theorem dL_isSound_5 : decode cL_isSound 5 = .ok (.bipush 9, 2) := by decide +kernel
theorem dL_isSound_7 : decode cL_isSound 7 = .ok (.if_icmp .ge 17, 3) := by decide +kernel
theorem dL_isSound_10 : decode cL_isSound 10 = .ok (.iload_n 2, 1) := by decide +kernel
theorem dL_isSound_11 : decode cL_isSound 11 = .ok (.aload_n 0, 1) := by decide +kernel
theorem dL_isSound_12 : decode cL_isSound 12 = .ok (.iload_n 3, 1) := by decide +kernel
theorem dL_isSound_13 : decode cL_isSound 13 = .ok (.invokevirtual 51, 3) := by decide +kernel
theorem dL_isSound_16 : decode cL_isSound 16 = .ok (.iadd, 1) := by decide +kernel
theorem dL_isSound_17 : decode cL_isSound 17 = .ok (.istore_n 2, 1) := by decide +kernel
theorem dL_isSound_18 : decode cL_isSound 18 = .ok (.iinc 3 1, 3) := by decide +kernel
theorem dL_isSound_21 : decode cL_isSound 21 = .ok (.goto (-17), 3) := by decide +kernel
theorem dL_isSound_24 : decode cL_isSound 24 = .ok (.iload_n 2, 1) := by decide +kernel
theorem dL_isSound_25 : decode cL_isSound 25 = .ok (.aload_n 0, 1) := by decide +kernel
theorem dL_isSound_26 : decode cL_isSound 26 = .ok (.iconst 0, 1) := by decide +kernel
theorem dL_isSound_27 : decode cL_isSound 27 = .ok (.invokevirtual 51, 3) := by decide +kernel
theorem dL_isSound_30 : decode cL_isSound 30 = .ok (.if_icmp .ne 38, 3) := by decide +kernel
theorem dL_isSound_33 : decode cL_isSound 33 = .ok (.aload_n 0, 1) := by decide +kernel
theorem dL_isSound_34 : decode cL_isSound 34 = .ok (.iconst 0, 1) := by decide +kernel
