theorem dL_isPath_33 : decode cL_isPath 33 = .ok (.if_icmp .ge 33, 3) := by decide +kernel
theorem dL_isPath_36 : decode cL_isPath 36 = .ok (.iload 4, 2) := by decide +kernel
theorem dL_isPath_38 : decode cL_isPath 38 = .ok (.aload_n 0, 1) := by decide +kernel
theorem dL_isPath_39 : decode cL_isPath 39 = .ok (.aload_n 0, 1) := by decide +kernel
theorem dL_isPath_40 : decode cL_isPath 40 = .ok (.iconst 0, 1) := by decide +kernel
theorem dL_isPath_41 : decode cL_isPath 41 = .ok (.invokevirtual 91, 3) := by decide +kernel
theorem dL_isPath_44 : decode cL_isPath 44 = .ok (.iconst 1, 1) := by decide +kernel
theorem dL_isPath_45 : decode cL_isPath 45 = .ok (.isub, 1) := by decide +kernel
theorem dL_isPath_46 : decode cL_isPath 46 = .ok (.aload_n 0, 1) := by decide +kernel
theorem dL_isPath_47 : decode cL_isPath 47 = .ok (.iload_n 1, 1) := by decide +kernel
theorem dL_isPath_48 : decode cL_isPath 48 = .ok (.iconst 0, 1) := by decide +kernel
theorem dL_isPath_49 : decode cL_isPath 49 = .ok (.invokevirtual 154, 3) := by decide +kernel
theorem dL_isPath_52 : decode cL_isPath 52 = .ok (.invokestatic 30, 3) := by decide +kernel
theorem dL_isPath_55 : decode cL_isPath 55 = .ok (.iconst 0, 1) := by decide +kernel
theorem dL_isPath_56 : decode cL_isPath 56 = .ok (.invokevirtual 95, 3) := by decide +kernel
theorem dL_isPath_59 : decode cL_isPath 59 = .ok (.if_icmp .ge 7, 3) := by decide +kernel
theorem dL_isPath_62 : decode cL_isPath 62 = .ok (.iconst 1, 1) := by decide +kernel
theorem dL_isPath_63 : decode cL_isPath 63 = .ok (.goto 4, 3) := by decide +kernel
theorem dL_isPath_66 : decode cL_isPath 66 = .ok (.iconst 0, 1) := by decide +kernel
theorem dL_isPath_67 : decode cL_isPath 67 = .ok (.istore 5, 2) := by decide +kernel
theorem dL_isPath_69 : decode cL_isPath 69 = .ok (.iload 5, 2) := by decide +kernel
theorem dL_isPath_71 : decode cL_isPath 71 = .ok (.iload_n 2, 1) := by decide +kernel
theorem dL_isPath_72 : decode cL_isPath 72 = .ok (.ifCond .le 7, 3) := by decide +kernel
theorem dL_isPath_75 : decode cL_isPath 75 = .ok (.iconst 1, 1) := by decide +kernel
theorem dL_isPath_76 : decode cL_isPath 76 = .ok (.goto 4, 3) := by decide +kernel
theorem dL_isPath_79 : decode cL_isPath 79 = .ok (.iconst 0, 1) := by decide +kernel
theorem dL_isPath_80 : decode cL_isPath 80 = .ok (.if_icmp .ne 35, 3) := by decide +kernel
theorem dL_isPath_83 : decode cL_isPath 83 = .ok (.iload 5, 2) := by decide +kernel
theorem dL_isPath_85 : decode cL_isPath 85 = .ok (.iload_n 3, 1) := by decide +kernel
theorem dL_isPath_86 : decode cL_isPath 86 = .ok (.iconst 4, 1) := by decide +kernel
theorem dL_isPath_87 : decode cL_isPath 87 = .ok (.if_icmp .eq 7, 3) := by decide +kernel
theorem dL_isPath_90 : decode cL_isPath 90 = .ok (.iconst 1, 1) := by decide +kernel
theorem dL_isPath_91 : decode cL_isPath 91 = .ok (.goto 4, 3) := by decide +kernel
theorem dL_isPath_94 : decode cL_isPath 94 = .ok (.iconst 0, 1) := by decide +kernel
theorem dL_isPath_95 : decode cL_isPath 95 = .ok (.if_icmp .ne 20, 3) := by decide +kernel
theorem dL_isPath_98 : decode cL_isPath 98 = .ok (.iload_n 2, 1) := by decide +kernel
theorem dL_isPath_99 : decode cL_isPath 99 = .ok (.bipush 60, 2) := by decide +kernel
theorem dL_isPath_101 : decode cL_isPath 101 = .ok (.if_icmp .gt 14, 3) := by decide +kernel
theorem dL_isPath_104 : decode cL_isPath 104 = .ok (.iload_n 3, 1) := by decide +kernel
theorem dL_isPath_105 : decode cL_isPath 105 = .ok (.iconst 3, 1) := by decide +kernel
theorem dL_isPath_106 : decode cL_isPath 106 = .ok (.if_icmp .ne 11, 3) := by decide +kernel
theorem dL_isPath_109 : decode cL_isPath 109 = .ok (.iload_n 2, 1) := by decide +kernel
theorem dL_isPath_110 : decode cL_isPath 110 = .ok (.bipush 60, 2) := by decide +kernel
theorem dL_isPath_112 : decode cL_isPath 112 = .ok (.if_icmp .eq 5, 3) := by decide +kernel
theorem dL_isPath_115 : decode cL_isPath 115 = .ok (.iconst 0, 1) := by decide +kernel
theorem dL_isPath_116 : decode cL_isPath 116 = .ok (.ireturn, 1) := by decide +kernel
theorem dL_isPath_117 : decode cL_isPath 117 = .ok (.iload 5, 2) := by decide +kernel
theorem dL_isPath_119 : decode cL_isPath 119 = .ok (.ifCond .ne 48, 3) := by decide +kernel
theorem dL_isPath_122 : decode cL_isPath 122 = .ok (.aload_n 0, 1) := by decide +kernel
theorem dL_isPath_123 : decode cL_isPath 123 = .ok (.iload_n 1, 1) := by decide +kernel
theorem dL_isPath_124 : decode cL_isPath 124 = .ok (.iconst 5, 1) := by decide +kernel
theorem dL_isPath_125 : decode cL_isPath 125 = .ok (.invokevirtual 156, 3) := by decide +kernel
theorem dL_isPath_128 : decode cL_isPath 128 = .ok (.ifCond .ne 37, 3) := by decide +kernel
theorem dL_isPath_131 : decode cL_isPath 131 = .ok (.aload_n 0, 1) := by decide +kernel
theorem dL_isPath_132 : decode cL_isPath 132 = .ok (.iload_n 1, 1) := by decide +kernel
theorem dL_isPath_133 : decode cL_isPath 133 = .ok (.bipush 9, 2) := by decide +kernel
theorem dL_isPath_135 : decode cL_isPath 135 = .ok (.invokevirtual 156, 3) := by decide +kernel
theorem dL_isPath_138 : decode cL_isPath 138 = .ok (.iconst (-1), 1) := by decide +kernel
theorem dL_isPath_139 : decode cL_isPath 139 = .ok (.if_icmp .ne 26, 3) := by decide +kernel
theorem dL_isPath_142 : decode cL_isPath 142 = .ok (.aload_n 0, 1) := by decide +kernel
theorem dL_isPath_143 : decode cL_isPath 143 = .ok (.iload_n 1, 1) := by decide +kernel
theorem dL_isPath_144 : decode cL_isPath 144 = .ok (.invokevirtual 159, 3) := by decide +kernel
theorem dL_isPath_147 : decode cL_isPath 147 = .ok (.fconst 0, 1) := by decide +kernel
theorem dL_isPath_148 : decode cL_isPath 148 = .ok (.fcmp .l, 1) := by decide +kernel
theorem dL_isPath_149 : decode cL_isPath 149 = .ok (.ifCond .ne 16, 3) := by decide +kernel
theorem dL_isPath_152 : decode cL_isPath 152 = .ok (.aload_n 0, 1) := by decide +kernel
theorem dL_isPath_153 : decode cL_isPath 153 = .ok (.iload_n 1, 1) := by decide +kernel
theorem dL_isPath_154 : decode cL_isPath 154 = .ok (.iconst 4, 1) := by decide +kernel
theorem dL_isPath_155 : decode cL_isPath 155 = .ok (.invokevirtual 156, 3) := by decide +kernel
theorem dL_isPath_158 : decode cL_isPath 158 = .ok (.ifCond .ne 7, 3) := by decide +kernel
theorem dL_isPath_161 : decode cL_isPath 161 = .ok (.iconst 1, 1) := by decide +kernel
theorem dL_isPath_162 : decode cL_isPath 162 = .ok (.goto 4, 3) := by decide +kernel
theorem dL_isPath_165 : decode cL_isPath 165 = .ok (.iconst 0, 1) := by decide +kernel
theorem dL_isPath_166 : decode cL_isPath 166 = .ok (.ireturn, 1) := by decide +kernel
theorem dL_isPath_167 : decode cL_isPath 167 = .ok (.iconst 3, 1) := by decide +kernel
theorem dL_isPath_168 : decode cL_isPath 168 = .ok (.newarray .int, 2) := by decide +kernel
theorem dL_isPath_170 : decode cL_isPath 170 = .ok (.astore 6, 2) := by decide +kernel
theorem dL_isPath_172 : decode cL_isPath 172 = .ok (.bipush 7, 2) := by decide +kernel
theorem dL_isPath_174 : decode cL_isPath 174 = .ok (.newarray .int, 2) := by decide +kernel
theorem dL_isPath_176 : decode cL_isPath 176 = .ok (.astore 7, 2) := by decide +kernel
theorem dL_isPath_178 : decode cL_isPath 178 = .ok (.iconst 0, 1) := by decide +kernel
theorem dL_isPath_179 : decode cL_isPath 179 = .ok (.istore 8, 2) := by decide +kernel
theorem dL_isPath_181 : decode cL_isPath 181 = .ok (.ldc 163, 2) := by decide +kernel
theorem dL_isPath_183 : decode cL_isPath 183 = .ok (.istore 9, 2) := by decide +kernel
theorem dL_isPath_185 : decode cL_isPath 185 = .ok (.aload_n 0, 1) := by decide +kernel
theorem dL_isPath_186 : decode cL_isPath 186 = .ok (.iload_n 1, 1) := by decide +kernel
theorem dL_isPath_187 : decode cL_isPath 187 = .ok (.iconst 0, 1) := by decide +kernel
theorem dL_isPath_188 : decode cL_isPath 188 = .ok (.invokevirtual 154, 3) := by decide +kernel
theorem dL_isPath_191 : decode cL_isPath 191 = .ok (.istore 10, 2) := by decide +kernel
theorem dL_isPath_193 : decode cL_isPath 193 = .ok (.aload_n 0, 1) := by decide +kernel
theorem dL_isPath_194 : decode cL_isPath 194 = .ok (.iload_n 1, 1) := by decide +kernel
theorem dL_isPath_195 : decode cL_isPath 195 = .ok (.iconst 1, 1) := by decide +kernel
theorem dL_isPath_196 : decode cL_isPath 196 = .ok (.invokevirtual 154, 3) := by decide +kernel
theorem dL_isPath_199 : decode cL_isPath 199 = .ok (.istore 11, 2) := by decide +kernel
theorem dL_isPath_201 : decode cL_isPath 201 = .ok (.iconst 0, 1) := by decide +kernel
theorem dL_isPath_202 : decode cL_isPath 202 = .ok (.istore 12, 2) := by decide +kernel
theorem dL_isPath_204 : decode cL_isPath 204 = .ok (.iload 12, 2) := by decide +kernel
theorem dL_isPath_206 : decode cL_isPath 206 = .ok (.iload_n 2, 1) := by decide +kernel
theorem dL_isPath_207 : decode cL_isPath 207 = .ok (.if_icmp .ge 319, 3) := by decide +kernel
theorem dL_isPath_210 : decode cL_isPath 210 = .ok (.aload_n 0, 1) := by decide +kernel
theorem dL_isPath_211 : decode cL_isPath 211 = .ok (.iload_n 1, 1) := by decide +kernel
theorem dL_isPath_212 : decode cL_isPath 212 = .ok (.iload 12, 2) := by decide +kernel
theorem dL_isPath_214 : decode cL_isPath 214 = .ok (.iconst 0, 1) := by decide +kernel
theorem dL_isPath_215 : decode cL_isPath 215 = .ok (.invokevirtual 164, 3) := by decide +kernel
theorem dL_isPath_218 : decode cL_isPath 218 = .ok (.istore 13, 2) := by decide +kernel
theorem dL_isPath_220 : decode cL_isPath 220 = .ok (.iload 13, 2) := by decide +kernel
theorem dL_isPath_222 : decode cL_isPath 222 = .ok (.iload 10, 2) := by decide +kernel
theorem dL_isPath_224 : decode cL_isPath 224 = .ok (.if_icmp .ne 64, 3) := by decide +kernel
theorem dL_isPath_227 : decode cL_isPath 227 = .ok (.aload_n 0, 1) := by decide +kernel
theorem dL_isPath_228 : decode cL_isPath 228 = .ok (.iload_n 1, 1) := by decide +kernel
theorem dL_isPath_229 : decode cL_isPath 229 = .ok (.iload 12, 2) := by decide +kernel
theorem dL_isPath_231 : decode cL_isPath 231 = .ok (.iconst 1, 1) := by decide +kernel
theorem dL_isPath_232 : decode cL_isPath 232 = .ok (.invokevirtual 164, 3) := by decide +kernel
theorem dL_isPath_235 : decode cL_isPath 235 = .ok (.iload 11, 2) := by decide +kernel
theorem dL_isPath_237 : decode cL_isPath 237 = .ok (.if_icmp .ne 51, 3) := by decide +kernel
theorem dL_isPath_240 : decode cL_isPath 240 = .ok (.iload 4, 2) := by decide +kernel
theorem dL_isPath_242 : decode cL_isPath 242 = .ok (.aload_n 0, 1) := by decide +kernel
theorem dL_isPath_243 : decode cL_isPath 243 = .ok (.iload 13, 2) := by decide +kernel
theorem dL_isPath_245 : decode cL_isPath 245 = .ok (.iconst 0, 1) := by decide +kernel
theorem dL_isPath_246 : decode cL_isPath 246 = .ok (.invokevirtual 95, 3) := by decide +kernel
theorem dL_isPath_249 : decode cL_isPath 249 = .ok (.if_icmp .ge 39, 3) := by decide +kernel
theorem dL_isPath_252 : decode cL_isPath 252 = .ok (.aload_n 0, 1) := by decide +kernel
theorem dL_isPath_253 : decode cL_isPath 253 = .ok (.iload_n 1, 1) := by decide +kernel
theorem dL_isPath_254 : decode cL_isPath 254 = .ok (.iload 12, 2) := by decide +kernel
theorem dL_isPath_256 : decode cL_isPath 256 = .ok (.iconst 5, 1) := by decide +kernel
theorem dL_isPath_257 : decode cL_isPath 257 = .ok (.invokevirtual 164, 3) := by decide +kernel
theorem dL_isPath_260 : decode cL_isPath 260 = .ok (.iload 9, 2) := by decide +kernel
theorem dL_isPath_262 : decode cL_isPath 262 = .ok (.if_icmp .gt 26, 3) := by decide +kernel
theorem dL_isPath_265 : decode cL_isPath 265 = .ok (.aload_n 0, 1) := by decide +kernel
theorem dL_isPath_266 : decode cL_isPath 266 = .ok (.iload_n 1, 1) := by decide +kernel
theorem dL_isPath_267 : decode cL_isPath 267 = .ok (.iload 12, 2) := by decide +kernel
theorem dL_isPath_269 : decode cL_isPath 269 = .ok (.iconst 5, 1) := by decide +kernel
theorem dL_isPath_270 : decode cL_isPath 270 = .ok (.invokevirtual 164, 3) := by decide +kernel
theorem dL_isPath_273 : decode cL_isPath 273 = .ok (.ifCond .lt 15, 3) := by decide +kernel
theorem dL_isPath_276 : decode cL_isPath 276 = .ok (.aload_n 0, 1) := by decide +kernel
theorem dL_isPath_277 : decode cL_isPath 277 = .ok (.iload_n 1, 1) := by decide +kernel
theorem dL_isPath_278 : decode cL_isPath 278 = .ok (.iload 12, 2) := by decide +kernel
theorem dL_isPath_280 : decode cL_isPath 280 = .ok (.iconst 4, 1) := by decide +kernel
theorem dL_isPath_281 : decode cL_isPath 281 = .ok (.invokevirtual 164, 3) := by decide +kernel
theorem dL_isPath_284 : decode cL_isPath 284 = .ok (.iconst 1, 1) := by decide +kernel
theorem dL_isPath_285 : decode cL_isPath 285 = .ok (.if_icmp .ge 5, 3) := by decide +kernel
theorem dL_isPath_288 : decode cL_isPath 288 = .ok (.iconst 0, 1) := by decide +kernel
theorem dL_isPath_289 : decode cL_isPath 289 = .ok (.ireturn, 1) := by decide +kernel
theorem dL_isPath_290 : decode cL_isPath 290 = .ok (.iconst 0, 1) := by decide +kernel
theorem dL_isPath_291 : decode cL_isPath 291 = .ok (.istore 14, 2) := by decide +kernel
theorem dL_isPath_293 : decode cL_isPath 293 = .ok (.iload 14, 2) := by decide +kernel
theorem dL_isPath_295 : decode cL_isPath 295 = .ok (.iconst 3, 1) := by decide +kernel
theorem dL_isPath_296 : decode cL_isPath 296 = .ok (.if_icmp .ge 28, 3) := by decide +kernel
theorem dL_isPath_299 : decode cL_isPath 299 = .ok (.aload 6, 2) := by decide +kernel
theorem dL_isPath_301 : decode cL_isPath 301 = .ok (.iload 14, 2) := by decide +kernel
theorem dL_isPath_303 : decode cL_isPath 303 = .ok (.dup2, 1) := by decide +kernel
theorem dL_isPath_304 : decode cL_isPath 304 = .ok (.iaload, 1) := by decide +kernel
theorem dL_isPath_305 : decode cL_isPath 305 = .ok (.aload_n 0, 1) := by decide +kernel
theorem dL_isPath_306 : decode cL_isPath 306 = .ok (.iload_n 1, 1) := by decide +kernel
theorem dL_isPath_307 : decode cL_isPath 307 = .ok (.iload 12, 2) := by decide +kernel
theorem dL_isPath_309 : decode cL_isPath 309 = .ok (.iconst 2, 1) := by decide +kernel
theorem dL_isPath_310 : decode cL_isPath 310 = .ok (.iload 14, 2) := by decide +kernel
theorem dL_isPath_312 : decode cL_isPath 312 = .ok (.iadd, 1) := by decide +kernel
theorem dL_isPath_313 : decode cL_isPath 313 = .ok (.invokevirtual 164, 3) := by decide +kernel
theorem dL_isPath_316 : decode cL_isPath 316 = .ok (.iadd, 1) := by decide +kernel
theorem dL_isPath_317 : decode cL_isPath 317 = .ok (.iastore, 1) := by decide +kernel
theorem dL_isPath_318 : decode cL_isPath 318 = .ok (.iinc 14 1, 3) := by decide +kernel
theorem dL_isPath_321 : decode cL_isPath 321 = .ok (.goto (-28), 3) := by decide +kernel
theorem dL_isPath_324 : decode cL_isPath 324 = .ok (.aload_n 0, 1) := by decide +kernel
theorem dL_isPath_325 : decode cL_isPath 325 = .ok (.iload_n 1, 1) := by decide +kernel
theorem dL_isPath_326 : decode cL_isPath 326 = .ok (.iload 12, 2) := by decide +kernel
theorem dL_isPath_328 : decode cL_isPath 328 = .ok (.iconst 5, 1) := by decide +kernel
theorem dL_isPath_329 : decode cL_isPath 329 = .ok (.invokevirtual 164, 3) := by decide +kernel
theorem dL_isPath_332 : decode cL_isPath 332 = .ok (.istore 9, 2) := by decide +kernel
theorem dL_isPath_334 : decode cL_isPath 334 = .ok (.aload_n 0, 1) := by decide +kernel
theorem dL_isPath_335 : decode cL_isPath 335 = .ok (.iload_n 1, 1) := by decide +kernel
theorem dL_isPath_336 : decode cL_isPath 336 = .ok (.iload 12, 2) := by decide +kernel
theorem dL_isPath_338 : decode cL_isPath 338 = .ok (.bipush 6, 2) := by decide +kernel
theorem dL_isPath_340 : decode cL_isPath 340 = .ok (.invokevirtual 164, 3) := by decide +kernel
theorem dL_isPath_343 : decode cL_isPath 343 = .ok (.istore 14, 2) := by decide +kernel
theorem dL_isPath_345 : decode cL_isPath 345 = .ok (.aload 7, 2) := by decide +kernel
theorem dL_isPath_347 : decode cL_isPath 347 = .ok (.iload 14, 2) := by decide +kernel
theorem dL_isPath_349 : decode cL_isPath 349 = .ok (.dup2, 1) := by decide +kernel
theorem dL_isPath_350 : decode cL_isPath 350 = .ok (.iaload, 1) := by decide +kernel
theorem dL_isPath_351 : decode cL_isPath 351 = .ok (.iconst 1, 1) := by decide +kernel
theorem dL_isPath_352 : decode cL_isPath 352 = .ok (.iadd, 1) := by decide +kernel
theorem dL_isPath_353 : decode cL_isPath 353 = .ok (.iastore, 1) := by decide +kernel
theorem dL_isPath_354 : decode cL_isPath 354 = .ok (.iload 8, 2) := by decide +kernel
theorem dL_isPath_356 : decode cL_isPath 356 = .ok (.iload 13, 2) := by decide +kernel
theorem dL_isPath_358 : decode cL_isPath 358 = .ok (.invokestatic 167, 3) := by decide +kernel
theorem dL_isPath_361 : decode cL_isPath 361 = .ok (.istore 8, 2) := by decide +kernel
theorem dL_isPath_363 : decode cL_isPath 363 = .ok (.iload 12, 2) := by decide +kernel
theorem dL_isPath_365 : decode cL_isPath 365 = .ok (.iconst 1, 1) := by decide +kernel
theorem dL_isPath_366 : decode cL_isPath 366 = .ok (.iadd, 1) := by decide +kernel
theorem dL_isPath_367 : decode cL_isPath 367 = .ok (.iload_n 2, 1) := by decide +kernel
theorem dL_isPath_368 : decode cL_isPath 368 = .ok (.if_icmp .ge 7, 3) := by decide +kernel
theorem dL_isPath_371 : decode cL_isPath 371 = .ok (.iconst 1, 1) := by decide +kernel
theorem dL_isPath_372 : decode cL_isPath 372 = .ok (.goto 4, 3) := by decide +kernel
theorem dL_isPath_375 : decode cL_isPath 375 = .ok (.iconst 0, 1) := by decide +kernel
theorem dL_isPath_376 : decode cL_isPath 376 = .ok (.iload 14, 2) := by decide +kernel
theorem dL_isPath_378 : decode cL_isPath 378 = .ok (.iconst 3, 1) := by decide +kernel
theorem dL_isPath_379 : decode cL_isPath 379 = .ok (.if_icmp .ge 7, 3) := by decide +kernel
theorem dL_isPath_382 : decode cL_isPath 382 = .ok (.iconst 1, 1) := by decide +kernel
theorem dL_isPath_383 : decode cL_isPath 383 = .ok (.goto 4, 3) := by decide +kernel
theorem dL_isPath_386 : decode cL_isPath 386 = .ok (.iconst 0, 1) := by decide +kernel
theorem dL_isPath_387 : decode cL_isPath 387 = .ok (.if_icmp .eq 5, 3) := by decide +kernel
theorem dL_isPath_390 : decode cL_isPath 390 = .ok (.iconst 0, 1) := by decide +kernel
theorem dL_isPath_391 : decode cL_isPath 391 = .ok (.ireturn, 1) := by decide +kernel
theorem dL_isPath_392 : decode cL_isPath 392 = .ok (.iload 10, 2) := by decide +kernel
theorem dL_isPath_394 : decode cL_isPath 394 = .ok (.iload 14, 2) := by decide +kernel
theorem dL_isPath_396 : decode cL_isPath 396 = .ok (.ifCond .ne 17, 3) := by decide +kernel
theorem dL_isPath_399 : decode cL_isPath 399 = .ok (.iload 11, 2) := by decide +kernel
theorem dL_isPath_401 : decode cL_isPath 401 = .ok (.iconst 1, 1) := by decide +kernel
theorem dL_isPath_402 : decode cL_isPath 402 = .ok (.if_icmp .ne 7, 3) := by decide +kernel
theorem dL_isPath_405 : decode cL_isPath 405 = .ok (.iconst 1, 1) := by decide +kernel
theorem dL_isPath_406 : decode cL_isPath 406 = .ok (.goto 8, 3) := by decide +kernel
theorem dL_isPath_409 : decode cL_isPath 409 = .ok (.iconst (-1), 1) := by decide +kernel
theorem dL_isPath_410 : decode cL_isPath 410 = .ok (.goto 4, 3) := by decide +kernel
theorem dL_isPath_413 : decode cL_isPath 413 = .ok (.iconst 0, 1) := by decide +kernel
theorem dL_isPath_414 : decode cL_isPath 414 = .ok (.iadd, 1) := by decide +kernel
theorem dL_isPath_415 : decode cL_isPath 415 = .ok (.istore 10, 2) := by decide +kernel
theorem dL_isPath_417 : decode cL_isPath 417 = .ok (.iload 14, 2) := by decide +kernel
theorem dL_isPath_419 : decode cL_isPath 419 = .ok (.ifCond .ne 8, 3) := by decide +kernel
theorem dL_isPath_422 : decode cL_isPath 422 = .ok (.iload 11, 2) := by decide +kernel
theorem dL_isPath_424 : decode cL_isPath 424 = .ok (.goto 17, 3) := by decide +kernel
theorem dL_isPath_427 : decode cL_isPath 427 = .ok (.iload 14, 2) := by decide +kernel
theorem dL_isPath_429 : decode cL_isPath 429 = .ok (.iconst 1, 1) := by decide +kernel
theorem dL_isPath_430 : decode cL_isPath 430 = .ok (.if_icmp .ne 10, 3) := by decide +kernel
theorem dL_isPath_433 : decode cL_isPath 433 = .ok (.iconst 1, 1) := by decide +kernel
theorem dL_isPath_434 : decode cL_isPath 434 = .ok (.iload 11, 2) := by decide +kernel
theorem dL_isPath_436 : decode cL_isPath 436 = .ok (.isub, 1) := by decide +kernel
theorem dL_isPath_437 : decode cL_isPath 437 = .ok (.goto 4, 3) := by decide +kernel
theorem dL_isPath_440 : decode cL_isPath 440 = .ok (.iconst 0, 1) := by decide +kernel
theorem dL_isPath_441 : decode cL_isPath 441 = .ok (.istore 11, 2) := by decide +kernel
theorem dL_isPath_443 : decode cL_isPath 443 = .ok (.iload 14, 2) := by decide +kernel
theorem dL_isPath_445 : decode cL_isPath 445 = .ok (.iconst 3, 1) := by decide +kernel
theorem dL_isPath_446 : decode cL_isPath 446 = .ok (.if_icmp .ne 13, 3) := by decide +kernel
theorem dL_isPath_449 : decode cL_isPath 449 = .ok (.aload_n 0, 1) := by decide +kernel
theorem dL_isPath_450 : decode cL_isPath 450 = .ok (.iconst 1, 1) := by decide +kernel
theorem dL_isPath_451 : decode cL_isPath 451 = .ok (.invokevirtual 91, 3) := by decide +kernel
theorem dL_isPath_454 : decode cL_isPath 454 = .ok (.iload 4, 2) := by decide +kernel
theorem dL_isPath_456 : decode cL_isPath 456 = .ok (.if_icmp .le 62, 3) := by decide +kernel
theorem dL_isPath_459 : decode cL_isPath 459 = .ok (.iload 14, 2) := by decide +kernel
theorem dL_isPath_461 : decode cL_isPath 461 = .ok (.iconst 4, 1) := by decide +kernel
theorem dL_isPath_462 : decode cL_isPath 462 = .ok (.if_icmp .ne 22, 3) := by decide +kernel
theorem dL_isPath_465 : decode cL_isPath 465 = .ok (.aload_n 0, 1) := by decide +kernel
theorem dL_isPath_466 : decode cL_isPath 466 = .ok (.iconst 2, 1) := by decide +kernel
theorem dL_isPath_467 : decode cL_isPath 467 = .ok (.invokevirtual 91, 3) := by decide +kernel
theorem dL_isPath_470 : decode cL_isPath 470 = .ok (.iconst 1, 1) := by decide +kernel
theorem dL_isPath_471 : decode cL_isPath 471 = .ok (.if_icmp .eq 47, 3) := by decide +kernel
theorem dL_isPath_474 : decode cL_isPath 474 = .ok (.aload_n 0, 1) := by decide +kernel
theorem dL_isPath_475 : decode cL_isPath 475 = .ok (.iconst 3, 1) := by decide +kernel
theorem dL_isPath_476 : decode cL_isPath 476 = .ok (.invokevirtual 91, 3) := by decide +kernel
theorem dL_isPath_479 : decode cL_isPath 479 = .ok (.iload 4, 2) := by decide +kernel
theorem dL_isPath_481 : decode cL_isPath 481 = .ok (.if_icmp .le 37, 3) := by decide +kernel
theorem dL_isPath_484 : decode cL_isPath 484 = .ok (.iload 14, 2) := by decide +kernel
theorem dL_isPath_486 : decode cL_isPath 486 = .ok (.iconst 1, 1) := by decide +kernel
theorem dL_isPath_487 : decode cL_isPath 487 = .ok (.if_icmp .ne 33, 3) := by decide +kernel
theorem dL_isPath_490 : decode cL_isPath 490 = .ok (.aload_n 0, 1) := by decide +kernel
theorem dL_isPath_491 : decode cL_isPath 491 = .ok (.iload 13, 2) := by decide +kernel
theorem dL_isPath_493 : decode cL_isPath 493 = .ok (.aload_n 0, 1) := by decide +kernel
theorem dL_isPath_494 : decode cL_isPath 494 = .ok (.iload_n 1, 1) := by decide +kernel
theorem dL_isPath_495 : decode cL_isPath 495 = .ok (.iload 12, 2) := by decide +kernel
theorem dL_isPath_497 : decode cL_isPath 497 = .ok (.iconst 1, 1) := by decide +kernel
theorem dL_isPath_498 : decode cL_isPath 498 = .ok (.invokevirtual 164, 3) := by decide +kernel
theorem dL_isPath_501 : decode cL_isPath 501 = .ok (.iconst 1, 1) := by decide +kernel
theorem dL_isPath_502 : decode cL_isPath 502 = .ok (.if_icmp .ne 7, 3) := by decide +kernel
theorem dL_isPath_505 : decode cL_isPath 505 = .ok (.iconst 1, 1) := by decide +kernel
theorem dL_isPath_506 : decode cL_isPath 506 = .ok (.goto 4, 3) := by decide +kernel
theorem dL_isPath_509 : decode cL_isPath 509 = .ok (.iconst 0, 1) := by decide +kernel
theorem dL_isPath_510 : decode cL_isPath 510 = .ok (.invokevirtual 170, 3) := by decide +kernel
theorem dL_isPath_513 : decode cL_isPath 513 = .ok (.iload 4, 2) := by decide +kernel
theorem dL_isPath_515 : decode cL_isPath 515 = .ok (.if_icmp .le 5, 3) := by decide +kernel
theorem dL_isPath_518 : decode cL_isPath 518 = .ok (.iconst 0, 1) := by decide +kernel
theorem dL_isPath_519 : decode cL_isPath 519 = .ok (.ireturn, 1) := by decide +kernel
theorem dL_isPath_520 : decode cL_isPath 520 = .ok (.iinc 12 1, 3) := by decide +kernel
theorem dL_isPath_523 : decode cL_isPath 523 = .ok (.goto (-319), 3) := by decide +kernel
theorem dL_isPath_526 : decode cL_isPath 526 = .ok (.aload_n 0, 1) := by decide +kernel
theorem dL_isPath_527 : decode cL_isPath 527 = .ok (.iload_n 1, 1) := by decide +kernel
theorem dL_isPath_528 : decode cL_isPath 528 = .ok (.iconst 2, 1) := by decide +kernel
theorem dL_isPath_529 : decode cL_isPath 529 = .ok (.invokevirtual 156, 3) := by decide +kernel
theorem dL_isPath_532 : decode cL_isPath 532 = .ok (.aload 6, 2) := by decide +kernel
theorem dL_isPath_534 : decode cL_isPath 534 = .ok (.iconst 0, 1) := by decide +kernel
theorem dL_isPath_535 : decode cL_isPath 535 = .ok (.iaload, 1) := by decide +kernel
theorem dL_isPath_536 : decode cL_isPath 536 = .ok (.if_icmp .ne 80, 3) := by decide +kernel
theorem dL_isPath_539 : decode cL_isPath 539 = .ok (.aload_n 0, 1) := by decide +kernel
theorem dL_isPath_540 : decode cL_isPath 540 = .ok (.iload_n 1, 1) := by decide +kernel
theorem dL_isPath_541 : decode cL_isPath 541 = .ok (.iconst 3, 1) := by decide +kernel
theorem dL_isPath_542 : decode cL_isPath 542 = .ok (.invokevirtual 156, 3) := by decide +kernel
theorem dL_isPath_545 : decode cL_isPath 545 = .ok (.aload 6, 2) := by decide +kernel
theorem dL_isPath_547 : decode cL_isPath 547 = .ok (.iconst 1, 1) := by decide +kernel
theorem dL_isPath_548 : decode cL_isPath 548 = .ok (.iaload, 1) := by decide +kernel
theorem dL_isPath_549 : decode cL_isPath 549 = .ok (.if_icmp .ne 67, 3) := by decide +kernel
theorem dL_isPath_552 : decode cL_isPath 552 = .ok (.aload_n 0, 1) := by decide +kernel
theorem dL_isPath_553 : decode cL_isPath 553 = .ok (.iload_n 1, 1) := by decide +kernel
theorem dL_isPath_554 : decode cL_isPath 554 = .ok (.iconst 4, 1) := by decide +kernel
theorem dL_isPath_555 : decode cL_isPath 555 = .ok (.invokevirtual 156, 3) := by decide +kernel
theorem dL_isPath_558 : decode cL_isPath 558 = .ok (.aload 6, 2) := by decide +kernel
theorem dL_isPath_560 : decode cL_isPath 560 = .ok (.iconst 2, 1) := by decide +kernel
theorem dL_isPath_561 : decode cL_isPath 561 = .ok (.iaload, 1) := by decide +kernel
theorem dL_isPath_562 : decode cL_isPath 562 = .ok (.if_icmp .ne 54, 3) := by decide +kernel
theorem dL_isPath_565 : decode cL_isPath 565 = .ok (.aload_n 0, 1) := by decide +kernel
theorem dL_isPath_566 : decode cL_isPath 566 = .ok (.iload_n 1, 1) := by decide +kernel
theorem dL_isPath_567 : decode cL_isPath 567 = .ok (.bipush 9, 2) := by decide +kernel
theorem dL_isPath_569 : decode cL_isPath 569 = .ok (.invokevirtual 156, 3) := by decide +kernel
theorem dL_isPath_572 : decode cL_isPath 572 = .ok (.iload 8, 2) := by decide +kernel
theorem dL_isPath_574 : decode cL_isPath 574 = .ok (.if_icmp .ne 42, 3) := by decide +kernel
theorem dL_isPath_577 : decode cL_isPath 577 = .ok (.aload_n 0, 1) := by decide +kernel
theorem dL_isPath_578 : decode cL_isPath 578 = .ok (.iload_n 1, 1) := by decide +kernel
theorem dL_isPath_579 : decode cL_isPath 579 = .ok (.bipush 6, 2) := by decide +kernel
theorem dL_isPath_581 : decode cL_isPath 581 = .ok (.invokevirtual 156, 3) := by decide +kernel
theorem dL_isPath_584 : decode cL_isPath 584 = .ok (.aload 7, 2) := by decide +kernel
theorem dL_isPath_586 : decode cL_isPath 586 = .ok (.iconst 1, 1) := by decide +kernel
theorem dL_isPath_587 : decode cL_isPath 587 = .ok (.iaload, 1) := by decide +kernel
theorem dL_isPath_588 : decode cL_isPath 588 = .ok (.if_icmp .ne 28, 3) := by decide +kernel
theorem dL_isPath_591 : decode cL_isPath 591 = .ok (.aload_n 0, 1) := by decide +kernel
theorem dL_isPath_592 : decode cL_isPath 592 = .ok (.iload_n 1, 1) := by decide +kernel
theorem dL_isPath_593 : decode cL_isPath 593 = .ok (.bipush 8, 2) := by decide +kernel
theorem dL_isPath_595 : decode cL_isPath 595 = .ok (.invokevirtual 156, 3) := by decide +kernel
theorem dL_isPath_598 : decode cL_isPath 598 = .ok (.aload 7, 2) := by decide +kernel
theorem dL_isPath_600 : decode cL_isPath 600 = .ok (.iconst 0, 1) := by decide +kernel
theorem dL_isPath_601 : decode cL_isPath 601 = .ok (.iaload, 1) := by decide +kernel
theorem dL_isPath_602 : decode cL_isPath 602 = .ok (.if_icmp .ne 14, 3) := by decide +kernel
theorem dL_isPath_605 : decode cL_isPath 605 = .ok (.aload_n 0, 1) := by decide +kernel
theorem dL_isPath_606 : decode cL_isPath 606 = .ok (.iload_n 1, 1) := by decide +kernel
theorem dL_isPath_607 : decode cL_isPath 607 = .ok (.iconst 5, 1) := by decide +kernel
theorem dL_isPath_608 : decode cL_isPath 608 = .ok (.invokevirtual 156, 3) := by decide +kernel
theorem dL_isPath_611 : decode cL_isPath 611 = .ok (.iload 9, 2) := by decide +kernel
theorem dL_isPath_613 : decode cL_isPath 613 = .ok (.if_icmp .le 5, 3) := by decide +kernel
theorem dL_isPath_616 : decode cL_isPath 616 = .ok (.iconst 0, 1) := by decide +kernel
theorem dL_isPath_617 : decode cL_isPath 617 = .ok (.ireturn, 1) := by decide +kernel
theorem dL_isPath_618 : decode cL_isPath 618 = .ok (.aload_n 0, 1) := by decide +kernel
theorem dL_isPath_619 : decode cL_isPath 619 = .ok (.iload_n 1, 1) := by decide +kernel
theorem dL_isPath_620 : decode cL_isPath 620 = .ok (.iload_n 2, 1) := by decide +kernel
theorem dL_isPath_621 : decode cL_isPath 621 = .ok (.iconst 1, 1) := by decide +kernel
theorem dL_isPath_622 : decode cL_isPath 622 = .ok (.isub, 1) := by decide +kernel
theorem dL_isPath_623 : decode cL_isPath 623 = .ok (.bipush 6, 2) := by decide +kernel
theorem dL_isPath_625 : decode cL_isPath 625 = .ok (.invokevirtual 164, 3) := by decide +kernel
theorem dL_isPath_628 : decode cL_isPath 628 = .ok (.istore 12, 2) := by decide +kernel
theorem dL_isPath_630 : decode cL_isPath 630 = .ok (.iload_n 3, 1) := by decide +kernel
theorem dL_isPath_631 : decode cL_isPath 631 = .ok (.iload 12, 2) := by decide +kernel
theorem dL_isPath_633 : decode cL_isPath 633 = .ok (.iconst 3, 1) := by decide +kernel
theorem dL_isPath_634 : decode cL_isPath 634 = .ok (.if_icmp .ne 7, 3) := by decide +kernel
theorem dL_isPath_637 : decode cL_isPath 637 = .ok (.iconst 0, 1) := by decide +kernel
theorem dL_isPath_638 : decode cL_isPath 638 = .ok (.goto 24, 3) := by decide +kernel
theorem dL_isPath_641 : decode cL_isPath 641 = .ok (.iload 12, 2) := by decide +kernel
theorem dL_isPath_643 : decode cL_isPath 643 = .ok (.iconst 4, 1) := by decide +kernel
theorem dL_isPath_644 : decode cL_isPath 644 = .ok (.if_icmp .ne 7, 3) := by decide +kernel
theorem dL_isPath_647 : decode cL_isPath 647 = .ok (.iconst 1, 1) := by decide +kernel
theorem dL_isPath_648 : decode cL_isPath 648 = .ok (.goto 14, 3) := by decide +kernel
theorem dL_isPath_651 : decode cL_isPath 651 = .ok (.iload 12, 2) := by decide +kernel
theorem dL_isPath_653 : decode cL_isPath 653 = .ok (.iconst 5, 1) := by decide +kernel
theorem dL_isPath_654 : decode cL_isPath 654 = .ok (.if_icmp .ne 7, 3) := by decide +kernel
theorem dL_isPath_657 : decode cL_isPath 657 = .ok (.iconst 2, 1) := by decide +kernel
theorem dL_isPath_658 : decode cL_isPath 658 = .ok (.goto 4, 3) := by decide +kernel
theorem dL_isPath_661 : decode cL_isPath 661 = .ok (.iconst 3, 1) := by decide +kernel
theorem dL_isPath_662 : decode cL_isPath 662 = .ok (.if_icmp .ne 33, 3) := by decide +kernel
theorem dL_isPath_665 : decode cL_isPath 665 = .ok (.aload_n 0, 1) := by decide +kernel
theorem dL_isPath_666 : decode cL_isPath 666 = .ok (.iload_n 1, 1) := by decide +kernel
theorem dL_isPath_667 : decode cL_isPath 667 = .ok (.bipush 7, 2) := by decide +kernel
theorem dL_isPath_669 : decode cL_isPath 669 = .ok (.invokevirtual 156, 3) := by decide +kernel
theorem dL_isPath_672 : decode cL_isPath 672 = .ok (.aload 7, 2) := by decide +kernel
theorem dL_isPath_674 : decode cL_isPath 674 = .ok (.iconst 2, 1) := by decide +kernel
theorem dL_isPath_675 : decode cL_isPath 675 = .ok (.iaload, 1) := by decide +kernel
theorem dL_isPath_676 : decode cL_isPath 676 = .ok (.isub, 1) := by decide +kernel
theorem dL_isPath_677 : decode cL_isPath 677 = .ok (.iconst 1, 1) := by decide +kernel
theorem dL_isPath_678 : decode cL_isPath 678 = .ok (.if_icmp .gt 17, 3) := by decide +kernel
theorem dL_isPath_681 : decode cL_isPath 681 = .ok (.aload_n 0, 1) := by decide +kernel
theorem dL_isPath_682 : decode cL_isPath 682 = .ok (.iload_n 1, 1) := by decide +kernel
theorem dL_isPath_683 : decode cL_isPath 683 = .ok (.bipush 7, 2) := by decide +kernel
theorem dL_isPath_685 : decode cL_isPath 685 = .ok (.invokevirtual 156, 3) := by decide +kernel
theorem dL_isPath_688 : decode cL_isPath 688 = .ok (.aload 7, 2) := by decide +kernel
theorem dL_isPath_690 : decode cL_isPath 690 = .ok (.iconst 2, 1) := by decide +kernel
theorem dL_isPath_691 : decode cL_isPath 691 = .ok (.iaload, 1) := by decide +kernel
theorem dL_isPath_692 : decode cL_isPath 692 = .ok (.if_icmp .ge 5, 3) := by decide +kernel
theorem dL_isPath_695 : decode cL_isPath 695 = .ok (.iconst 0, 1) := by decide +kernel
theorem dL_isPath_696 : decode cL_isPath 696 = .ok (.ireturn, 1) := by decide +kernel
theorem dL_isPath_697 : decode cL_isPath 697 = .ok (.aload_n 0, 1) := by decide +kernel
theorem dL_isPath_698 : decode cL_isPath 698 = .ok (.iload_n 1, 1) := by decide +kernel
theorem dL_isPath_699 : decode cL_isPath 699 = .ok (.invokevirtual 159, 3) := by decide +kernel
theorem dL_isPath_702 : decode cL_isPath 702 = .ok (.aload_n 0, 1) := by decide +kernel
theorem dL_isPath_703 : decode cL_isPath 703 = .ok (.iload_n 1, 1) := by decide +kernel
theorem dL_isPath_704 : decode cL_isPath 704 = .ok (.iconst 5, 1) := by decide +kernel
theorem dL_isPath_705 : decode cL_isPath 705 = .ok (.invokevirtual 156, 3) := by decide +kernel
theorem dL_isPath_708 : decode cL_isPath 708 = .ok (.i2f, 1) := by decide +kernel
theorem dL_isPath_709 : decode cL_isPath 709 = .ok (.ldc 174, 2) := by decide +kernel
theorem dL_isPath_711 : decode cL_isPath 711 = .ok (.fdiv, 1) := by decide +kernel
theorem dL_isPath_712 : decode cL_isPath 712 = .ok (.fcmp .l, 1) := by decide +kernel
theorem dL_isPath_713 : decode cL_isPath 713 = .ok (.ifCond .ne 72, 3) := by decide +kernel
theorem dL_isPath_716 : decode cL_isPath 716 = .ok (.aload_n 0, 1) := by decide +kernel
theorem dL_isPath_717 : decode cL_isPath 717 = .ok (.aload_n 0, 1) := by decide +kernel
theorem dL_isPath_718 : decode cL_isPath 718 = .ok (.iload_n 1, 1) := by decide +kernel
theorem dL_isPath_719 : decode cL_isPath 719 = .ok (.iconst 0, 1) := by decide +kernel
theorem dL_isPath_720 : decode cL_isPath 720 = .ok (.invokevirtual 154, 3) := by decide +kernel
theorem dL_isPath_723 : decode cL_isPath 723 = .ok (.aload_n 0, 1) := by decide +kernel
theorem dL_isPath_724 : decode cL_isPath 724 = .ok (.iload_n 1, 1) := by decide +kernel
theorem dL_isPath_725 : decode cL_isPath 725 = .ok (.iconst 1, 1) := by decide +kernel
theorem dL_isPath_726 : decode cL_isPath 726 = .ok (.invokevirtual 154, 3) := by decide +kernel
theorem dL_isPath_729 : decode cL_isPath 729 = .ok (.iconst 1, 1) := by decide +kernel
theorem dL_isPath_730 : decode cL_isPath 730 = .ok (.if_icmp .ne 7, 3) := by decide +kernel
theorem dL_isPath_733 : decode cL_isPath 733 = .ok (.iconst 1, 1) := by decide +kernel
theorem dL_isPath_734 : decode cL_isPath 734 = .ok (.goto 4, 3) := by decide +kernel
theorem dL_isPath_737 : decode cL_isPath 737 = .ok (.iconst 0, 1) := by decide +kernel
theorem dL_isPath_738 : decode cL_isPath 738 = .ok (.iload 4, 2) := by decide +kernel
theorem dL_isPath_740 : decode cL_isPath 740 = .ok (.invokevirtual 175, 3) := by decide +kernel
theorem dL_isPath_743 : decode cL_isPath 743 = .ok (.iload_n 3, 1) := by decide +kernel
theorem dL_isPath_744 : decode cL_isPath 744 = .ok (.if_icmp .ne 41, 3) := by decide +kernel
theorem dL_isPath_747 : decode cL_isPath 747 = .ok (.aload_n 0, 1) := by decide +kernel
theorem dL_isPath_748 : decode cL_isPath 748 = .ok (.aload_n 0, 1) := by decide +kernel
theorem dL_isPath_749 : decode cL_isPath 749 = .ok (.iload_n 1, 1) := by decide +kernel
theorem dL_isPath_750 : decode cL_isPath 750 = .ok (.iconst 0, 1) := by decide +kernel
theorem dL_isPath_751 : decode cL_isPath 751 = .ok (.invokevirtual 154, 3) := by decide +kernel
theorem dL_isPath_754 : decode cL_isPath 754 = .ok (.aload_n 0, 1) := by decide +kernel
theorem dL_isPath_755 : decode cL_isPath 755 = .ok (.iload_n 1, 1) := by decide +kernel
theorem dL_isPath_756 : decode cL_isPath 756 = .ok (.iconst 1, 1) := by decide +kernel
theorem dL_isPath_757 : decode cL_isPath 757 = .ok (.invokevirtual 154, 3) := by decide +kernel
theorem dL_isPath_760 : decode cL_isPath 760 = .ok (.iconst 1, 1) := by decide +kernel
theorem dL_isPath_761 : decode cL_isPath 761 = .ok (.if_icmp .ne 7, 3) := by decide +kernel
theorem dL_isPath_764 : decode cL_isPath 764 = .ok (.iconst 1, 1) := by decide +kernel
theorem dL_isPath_765 : decode cL_isPath 765 = .ok (.goto 4, 3) := by decide +kernel
theorem dL_isPath_768 : decode cL_isPath 768 = .ok (.iconst 0, 1) := by decide +kernel
theorem dL_isPath_769 : decode cL_isPath 769 = .ok (.iload 4, 2) := by decide +kernel
theorem dL_isPath_771 : decode cL_isPath 771 = .ok (.invokevirtual 178, 3) := by decide +kernel
theorem dL_isPath_774 : decode cL_isPath 774 = .ok (.aload 6, 2) := by decide +kernel
theorem dL_isPath_776 : decode cL_isPath 776 = .ok (.iconst 0, 1) := by decide +kernel
theorem dL_isPath_777 : decode cL_isPath 777 = .ok (.iaload, 1) := by decide +kernel
theorem dL_isPath_778 : decode cL_isPath 778 = .ok (.if_icmp .ne 7, 3) := by decide +kernel
theorem dL_isPath_781 : decode cL_isPath 781 = .ok (.iconst 1, 1) := by decide +kernel
theorem dL_isPath_782 : decode cL_isPath 782 = .ok (.goto 4, 3) := by decide +kernel
theorem dL_isPath_785 : decode cL_isPath 785 = .ok (.iconst 0, 1) := by decide +kernel
theorem dL_isPath_786 : decode cL_isPath 786 = .ok (.ireturn, 1) := by decide +kernel
set_option maxRecDepth 20000 in
set_option maxRecDepth 100000 in
theorem ggL_stands_X8_property : GoodIn wsL_stands wsX8_property := goodIn_ca (goodIn_r _ [6, 7, 8, 9, 10, 11, 12, 13, 14, 15, 16, 17, 18, 19, 20, 21, 22, 23, 24, 25, 26, 27, 28, 277, 278, 279, 280, 281, 282, 283, 284, 285, 286, 287, 288, 289, 290, 291, 292, 293, 294] rfl (by decide +kernel)) (goodIn_sub (fun _ h => List.mem_cons_of_mem _ (List.mem_append_left _ (List.mem_append_right _ h))) (by decide +kernel))
set_option maxRecDepth 20000 in
theorem gL_stands_X8_property : GoodIn wsL_stands (wsV RL 91 RX8 yX8_property wsX8_property) := goodIn_app (goodIn_of _ (by decide +kernel)) ggL_stands_X8_property
set_option maxRecDepth 20000 in
set_option maxRecDepth 100000 in
theorem ggL_stands_L_isPath : GoodIn wsL_stands wsL_isPath := goodIn_ca (goodIn_ca (goodIn_r _ [32, 33, 34, 35, 36, 1, 37, 38, 39, 40, 41, 42, 43, 44, 5, 45, 7, 8, 9, 46, 47, 48, 49, 50, 51, 52, 53, 54, 55, 56, 57, 58, 59, 60, 61, 15, 62, 63, 64, 26, 65, 66, 67, 68, 69, 70, 71, 72, 73, 74, 75, 76, 77, 78, 79, 80, 81, 82, 83, 19, 84, 85, 21, 22, 86, 87, 23, 24, 25, 27, 28, 88, 89, 90, 91, 92, 93, 94, 95, 96, 97, 98, 99, 100, 101, 102, 103, 104, 105, 106, 107, 108, 109, 110, 111, 112, 113, 114, 115, 116, 117, 118, 119, 120, 121, 122, 123, 124, 125, 126, 127, 128, 129, 130, 131, 132, 133, 134, 135, 136, 137, 138, 139, 140, 141, 142, 143, 144, 145, 146, 147, 148, 149, 150, 151, 152, 153, 154, 155, 156, 157, 158, 159, 160, 161, 162, 163, 164, 165, 166, 167, 168, 169, 170, 171, 172, 173, 174, 175, 176, 177, 178, 179, 180, 181, 182, 183, 184, 185, 186, 187, 188, 189, 190, 191, 192, 2, 3, 4, 6, 10, 11, 12, 13, 14, 16, 17, 18, 20, 193, 194, 195, 196, 197, 198, 199, 200, 201, 202, 203, 204, 205, 206, 207, 208, 209, 210, 211, 212, 213, 214, 215, 216, 217, 218, 219, 220, 221, 222, 223, 224, 225, 226, 227, 228, 229, 230, 231, 232, 233, 234, 235, 236, 237, 238, 239, 240, 241, 242, 243, 244, 245, 246, 247, 248, 249, 250, 251, 252, 253, 254, 255, 256, 257, 258, 259, 277, 278, 279, 280, 281, 282, 283, 284, 285, 286, 287, 295, 296, 297, 298, 299, 300, 301, 302, 303, 304, 305, 306, 307, 308, 309, 310, 311, 312, 288, 289, 290, 291, 292, 293, 294, 313, 314, 315, 316] rfl (by decide +kernel)) (goodIn_sub (fun _ h => List.mem_cons_of_mem _ (List.mem_append_left _ (List.mem_append_right _ h))) (by decide +kernel))) (goodIn_sub (fun _ h => List.mem_cons_of_mem _ (List.mem_append_right _ h)) (by decide +kernel))
set_option maxRecDepth 20000 in
theorem gL_stands_L_isPath : GoodIn wsL_stands (va_wsS RL 181 yL_isPath wsL_isPath) := goodIn_app (goodIn_of _ (by decide +kernel)) ggL_stands_L_isPath
set_option maxRecDepth 20000 in
set_option maxRecDepth 100000 in
theorem ggL_stands_X8_path : GoodIn wsL_stands wsX8_path := goodIn_ca (goodIn_ca (goodIn_r _ [45, 7, 8, 9, 46, 47, 48, 49, 50, 51, 52, 53, 54, 55, 56, 57, 58, 5, 59, 60, 61, 15, 62, 63, 64, 26, 65, 66, 67, 68, 69, 70, 71, 72, 73, 74, 75, 76, 77, 78, 79, 80, 81, 82, 83, 19, 84, 85, 21, 22, 86, 87, 23, 24, 25, 27, 28, 88, 89, 90, 91, 92, 93, 94, 95, 96, 97, 98, 99, 100, 101, 102, 103, 104, 105, 106, 107, 108, 109, 110, 111, 112, 113, 114, 115, 116, 117, 118, 119, 120, 121, 122, 123, 124, 125, 126, 127, 128, 129, 130, 131, 39, 35, 40, 132, 133, 134, 135, 136, 137, 138, 139, 140, 141, 142, 143, 144, 145, 146, 147, 148, 149, 150, 151, 152, 153, 154, 155, 156, 157, 158, 159, 160, 161, 162, 163, 164, 165, 166, 167, 168, 169, 170, 171, 172, 173, 174, 175, 176, 177, 178, 179, 180, 181, 182, 183, 184, 185, 277, 278, 279, 280, 281, 282, 283, 284, 285, 286, 287, 295, 296, 297, 298, 299, 300, 301, 302, 303, 304, 305, 306, 307, 308, 309, 310, 311, 312, 288, 289, 290, 291, 292, 293, 294] rfl (by decide +kernel)) (goodIn_sub (fun _ h => List.mem_cons_of_mem _ (List.mem_append_left _ (List.mem_append_right _ h))) (by decide +kernel))) (goodIn_sub (fun _ h => List.mem_cons_of_mem _ (List.mem_append_right _ h)) (by decide +kernel))
set_option maxRecDepth 20000 in
theorem gL_stands_X8_path : GoodIn wsL_stands (wsV RL 156 RX8 yX8_path wsX8_path) := goodIn_app (goodIn_of _ (by decide +kernel)) ggL_stands_X8_path
set_option maxRecDepth 20000 in
set_option maxRecDepth 100000 in
theorem ggL_stands_X8_count : GoodIn wsL_stands wsX8_count := goodIn_ca (goodIn_r _ [263, 9, 15, 11, 47, 190, 191, 5, 192, 7, 8, 67, 68, 69, 70, 71, 72, 73, 74, 75, 76, 77, 78, 79, 80, 81, 82, 83, 19, 84, 85, 21, 22, 86, 87, 23, 24, 25, 26, 27, 28, 88, 89, 90, 91, 92, 93, 94, 95, 96, 97, 98, 99, 100, 101, 102, 103, 104, 105, 106, 107, 108, 109, 110, 111, 112, 113, 114, 115, 116, 117, 118, 63, 64, 65, 66, 119, 120, 121, 122, 123, 124, 125, 126, 127, 128, 129, 130, 131, 39, 35, 40, 132, 133, 134, 135, 136, 137, 138, 139, 140, 141, 142, 143, 144, 145, 146, 147, 148, 149, 150, 151, 152, 153, 154, 155, 156, 157, 158, 159, 160, 161, 162, 163, 164, 165, 166, 167, 168, 169, 170, 171, 172, 173, 174, 175, 176, 177, 178, 179, 180, 181, 182, 183, 184, 185, 277, 278, 279, 280, 281, 282, 283, 284, 285, 286, 287, 288, 289, 290, 291, 292, 293, 294, 295, 296, 297, 298, 299, 300, 301, 302, 303, 304, 305, 306, 307, 308, 309, 310, 311, 312] rfl (by decide +kernel)) (goodIn_sub (fun _ h => List.mem_cons_of_mem _ (List.mem_append_left _ (List.mem_append_right _ h))) (by decide +kernel))
set_option maxRecDepth 20000 in
theorem gL_stands_X8_count : GoodIn wsL_stands (wsV RL 185 RX8 yX8_count wsX8_count) := goodIn_app (goodIn_of _ (by decide +kernel)) ggL_stands_X8_count
set_option maxRecDepth 20000 in
set_option maxRecDepth 100000 in
theorem ggL_stands_X8_layer : GoodIn wsL_stands wsX8_layer := goodIn_ca (goodIn_ca (goodIn_r _ [196, 9, 10, 197, 198, 199, 5, 200, 60, 61, 62, 63, 64, 26, 65, 66, 190, 191, 192, 7, 8, 16, 17, 18, 19, 20, 21, 22, 23, 24, 25, 27, 28, 90, 277, 278, 279, 280, 281, 282, 283, 284, 285, 286, 287, 288, 289, 290, 291, 292, 293, 294] rfl (by decide +kernel)) (goodIn_sub (fun _ h => List.mem_cons_of_mem _ (List.mem_append_right _ h)) (by decide +kernel))) (goodIn_sub (fun _ h => List.mem_cons_of_mem _ (List.mem_append_left _ (List.mem_append_right _ h))) (by decide +kernel))
set_option maxRecDepth 20000 in
theorem gL_stands_X8_layer : GoodIn wsL_stands (wsV RL 95 RX8 yX8_layer wsX8_layer) := goodIn_app (goodIn_of _ (by decide +kernel)) ggL_stands_X8_layer
set_option maxRecDepth 20000 in
set_option maxRecDepth 100000 in
theorem ggL_stands_X8_legsIn : GoodIn wsL_stands wsX8_legsIn := goodIn_ca (goodIn_r _ [267, 197, 198, 199, 5, 200, 60, 61, 9, 10, 62, 63, 64, 26, 65, 66, 268, 269, 270, 271, 15, 11, 210, 212, 213, 214, 215, 90, 24, 25, 27, 28, 216, 217, 218, 219, 220, 221, 222, 223, 224, 225, 226, 227, 228, 229, 73, 74, 75, 76, 77, 78, 79, 80, 81, 82, 83, 19, 84, 85, 21, 22, 86, 87, 23, 88, 89, 230, 96, 97, 98, 99, 100, 101, 102, 103, 104, 105, 106, 107, 108, 109, 110, 111, 112, 113, 114, 115, 116, 117, 118, 119, 120, 121, 122, 231, 124, 125, 126, 232, 233, 234, 235, 236, 237, 128, 129, 130, 131, 39, 35, 40, 132, 133, 134, 135, 136, 137, 138, 139, 140, 141, 142, 143, 144, 145, 146, 147, 148, 149, 150, 151, 152, 153, 154, 155, 156, 157, 158, 159, 238, 239, 240, 241, 161, 162, 163, 164, 165, 166, 167, 168, 169, 170, 171, 172, 173, 174, 175, 176, 177, 178, 179, 180, 181, 182, 183, 184, 185, 272, 273, 274, 275, 276, 243, 244, 245, 277, 278, 279, 280, 281, 282, 283, 284, 285, 286, 287, 288, 289, 290, 291, 292, 293, 294, 313, 314, 315, 316, 295, 296, 297, 298, 299, 300, 301, 302, 303, 304, 305, 306, 307, 308, 309, 310, 311, 312] rfl (by decide +kernel)) (goodIn_sub (fun _ h => List.mem_cons_of_mem _ (List.mem_append_right _ h)) (by decide +kernel))
set_option maxRecDepth 20000 in
theorem gL_stands_X8_legsIn : GoodIn wsL_stands (wsV RL 188 RX8 yX8_legsIn wsX8_legsIn) := goodIn_app (goodIn_of _ (by decide +kernel)) ggL_stands_X8_legsIn
theorem dL_stands_0 : decode cL_stands 0 = .ok (.iconst 5, 1) := by decide +kernel
theorem dL_stands_1 : decode cL_stands 1 = .ok (.newarray .int, 2) := by decide +kernel
theorem dL_stands_3 : decode cL_stands 3 = .ok (.astore_n 1, 1) := by decide +kernel
theorem dL_stands_4 : decode cL_stands 4 = .ok (.iconst 0, 1) := by decide +kernel
theorem dL_stands_5 : decode cL_stands 5 = .ok (.istore_n 2, 1) := by decide +kernel
theorem dL_stands_6 : decode cL_stands 6 = .ok (.iconst 0, 1) := by decide +kernel
theorem dL_stands_7 : decode cL_stands 7 = .ok (.istore_n 3, 1) := by decide +kernel
theorem dL_stands_8 : decode cL_stands 8 = .ok (.iload_n 3, 1) := by decide +kernel
theorem dL_stands_9 : decode cL_stands 9 = .ok (.aload_n 0, 1) := by decide +kernel
theorem dL_stands_10 : decode cL_stands 10 = .ok (.iconst 4, 1) := by decide +kernel
theorem dL_stands_11 : decode cL_stands 11 = .ok (.invokevirtual 91, 3) := by decide +kernel
theorem dL_stands_14 : decode cL_stands 14 = .ok (.if_icmp .ge 40, 3) := by decide +kernel
theorem dL_stands_17 : decode cL_stands 17 = .ok (.aload_n 0, 1) := by decide +kernel
theorem dL_stands_18 : decode cL_stands 18 = .ok (.iload_n 3, 1) := by decide +kernel
theorem dL_stands_19 : decode cL_stands 19 = .ok (.invokestatic 181, 3) := by decide +kernel
theorem dL_stands_22 : decode cL_stands 22 = .ok (.ifCond .ne 5, 3) := by decide +kernel
theorem dL_stands_25 : decode cL_stands 25 = .ok (.iconst 0, 1) := by decide +kernel
theorem dL_stands_26 : decode cL_stands 26 = .ok (.ireturn, 1) := by decide +kernel
theorem dL_stands_27 : decode cL_stands 27 = .ok (.aload_n 1, 1) := by decide +kernel
theorem dL_stands_28 : decode cL_stands 28 = .ok (.aload_n 0, 1) := by decide +kernel
theorem dL_stands_29 : decode cL_stands 29 = .ok (.iload_n 3, 1) := by decide +kernel
theorem dL_stands_30 : decode cL_stands 30 = .ok (.iconst 1, 1) := by decide +kernel
theorem dL_stands_31 : decode cL_stands 31 = .ok (.invokevirtual 156, 3) := by decide +kernel
theorem dL_stands_34 : decode cL_stands 34 = .ok (.dup2, 1) := by decide +kernel
theorem dL_stands_35 : decode cL_stands 35 = .ok (.iaload, 1) := by decide +kernel
theorem dL_stands_36 : decode cL_stands 36 = .ok (.iconst 1, 1) := by decide +kernel
theorem dL_stands_37 : decode cL_stands 37 = .ok (.iadd, 1) := by decide +kernel
theorem dL_stands_38 : decode cL_stands 38 = .ok (.iastore, 1) := by decide +kernel
theorem dL_stands_39 : decode cL_stands 39 = .ok (.iload_n 2, 1) := by decide +kernel
theorem dL_stands_40 : decode cL_stands 40 = .ok (.aload_n 0, 1) := by decide +kernel
theorem dL_stands_41 : decode cL_stands 41 = .ok (.iload_n 3, 1) := by decide +kernel
theorem dL_stands_42 : decode cL_stands 42 = .ok (.iconst 0, 1) := by decide +kernel
theorem dL_stands_43 : decode cL_stands 43 = .ok (.invokevirtual 156, 3) := by decide +kernel
theorem dL_stands_46 : decode cL_stands 46 = .ok (.iadd, 1) := by decide +kernel
theorem dL_stands_47 : decode cL_stands 47 = .ok (.istore_n 2, 1) := by decide +kernel
theorem dL_stands_48 : decode cL_stands 48 = .ok (.iinc 3 1, 3) := by decide +kernel
theorem dL_stands_51 : decode cL_stands 51 = .ok (.goto (-43), 3) := by decide +kernel
theorem dL_stands_54 : decode cL_stands 54 = .ok (.iconst 0, 1) := by decide +kernel
theorem dL_stands_55 : decode cL_stands 55 = .ok (.istore_n 3, 1) := by decide +kernel
theorem dL_stands_56 : decode cL_stands 56 = .ok (.iload_n 3, 1) := by decide +kernel
theorem dL_stands_57 : decode cL_stands 57 = .ok (.iconst 5, 1) := by decide +kernel
theorem dL_stands_58 : decode cL_stands 58 = .ok (.if_icmp .ge 22, 3) := by decide +kernel
theorem dL_stands_61 : decode cL_stands 61 = .ok (.aload_n 0, 1) := by decide +kernel
theorem dL_stands_62 : decode cL_stands 62 = .ok (.iload_n 3, 1) := by decide +kernel
theorem dL_stands_63 : decode cL_stands 63 = .ok (.invokevirtual 185, 3) := by decide +kernel
theorem dL_stands_66 : decode cL_stands 66 = .ok (.aload_n 1, 1) := by decide +kernel
theorem dL_stands_67 : decode cL_stands 67 = .ok (.iload_n 3, 1) := by decide +kernel
theorem dL_stands_68 : decode cL_stands 68 = .ok (.iaload, 1) := by decide +kernel
theorem dL_stands_69 : decode cL_stands 69 = .ok (.if_icmp .eq 5, 3) := by decide +kernel
theorem dL_stands_72 : decode cL_stands 72 = .ok (.iconst 0, 1) := by decide +kernel
theorem dL_stands_73 : decode cL_stands 73 = .ok (.ireturn, 1) := by decide +kernel
theorem dL_stands_74 : decode cL_stands 74 = .ok (.iinc 3 1, 3) := by decide +kernel
theorem dL_stands_77 : decode cL_stands 77 = .ok (.goto (-21), 3) := by decide +kernel
theorem dL_stands_80 : decode cL_stands 80 = .ok (.iconst 0, 1) := by decide +kernel
theorem dL_stands_81 : decode cL_stands 81 = .ok (.istore_n 3, 1) := by decide +kernel
theorem dL_stands_82 : decode cL_stands 82 = .ok (.iconst 0, 1) := by decide +kernel
theorem dL_stands_83 : decode cL_stands 83 = .ok (.istore 4, 2) := by decide +kernel
theorem dL_stands_85 : decode cL_stands 85 = .ok (.iload 4, 2) := by decide +kernel
theorem dL_stands_87 : decode cL_stands 87 = .ok (.aload_n 0, 1) := by decide +kernel
theorem dL_stands_88 : decode cL_stands 88 = .ok (.iconst 0, 1) := by decide +kernel
theorem dL_stands_89 : decode cL_stands 89 = .ok (.invokevirtual 91, 3) := by decide +kernel
theorem dL_stands_92 : decode cL_stands 92 = .ok (.if_icmp .ge 41, 3) := by decide +kernel
theorem dL_stands_95 : decode cL_stands 95 = .ok (.aload_n 0, 1) := by decide +kernel
theorem dL_stands_96 : decode cL_stands 96 = .ok (.iload 4, 2) := by decide +kernel
theorem dL_stands_98 : decode cL_stands 98 = .ok (.iconst 3, 1) := by decide +kernel
theorem dL_stands_99 : decode cL_stands 99 = .ok (.invokevirtual 95, 3) := by decide +kernel
theorem dL_stands_102 : decode cL_stands 102 = .ok (.iload_n 3, 1) := by decide +kernel
theorem dL_stands_103 : decode cL_stands 103 = .ok (.if_icmp .eq 5, 3) := by decide +kernel
theorem dL_stands_106 : decode cL_stands 106 = .ok (.iconst 0, 1) := by decide +kernel
theorem dL_stands_107 : decode cL_stands 107 = .ok (.ireturn, 1) := by decide +kernel
theorem dL_stands_108 : decode cL_stands 108 = .ok (.iload_n 3, 1) := by decide +kernel
theorem dL_stands_109 : decode cL_stands 109 = .ok (.aload_n 0, 1) := by decide +kernel
theorem dL_stands_110 : decode cL_stands 110 = .ok (.iload 4, 2) := by decide +kernel
theorem dL_stands_112 : decode cL_stands 112 = .ok (.iconst 1, 1) := by decide +kernel
theorem dL_stands_113 : decode cL_stands 113 = .ok (.invokevirtual 95, 3) := by decide +kernel
theorem dL_stands_116 : decode cL_stands 116 = .ok (.iadd, 1) := by decide +kernel
theorem dL_stands_117 : decode cL_stands 117 = .ok (.istore_n 3, 1) := by decide +kernel
theorem dL_stands_118 : decode cL_stands 118 = .ok (.iload_n 2, 1) := by decide +kernel
theorem dL_stands_119 : decode cL_stands 119 = .ok (.aload_n 0, 1) := by decide +kernel
theorem dL_stands_120 : decode cL_stands 120 = .ok (.iload 4, 2) := by decide +kernel
theorem dL_stands_122 : decode cL_stands 122 = .ok (.invokevirtual 188, 3) := by decide +kernel
theorem dL_stands_125 : decode cL_stands 125 = .ok (.isub, 1) := by decide +kernel
theorem dL_stands_126 : decode cL_stands 126 = .ok (.istore_n 2, 1) := by decide +kernel
theorem dL_stands_127 : decode cL_stands 127 = .ok (.iinc 4 1, 3) := by decide +kernel
theorem dL_stands_130 : decode cL_stands 130 = .ok (.goto (-45), 3) := by decide +kernel
theorem dL_stands_133 : decode cL_stands 133 = .ok (.iload_n 2, 1) := by decide +kernel
theorem dL_stands_134 : decode cL_stands 134 = .ok (.ifCond .ne 16, 3) := by decide +kernel
theorem dL_stands_137 : decode cL_stands 137 = .ok (.aload_n 0, 1) := by decide +kernel
theorem dL_stands_138 : decode cL_stands 138 = .ok (.iconst 5, 1) := by decide +kernel
theorem dL_stands_139 : decode cL_stands 139 = .ok (.invokevirtual 91, 3) := by decide +kernel
theorem dL_stands_142 : decode cL_stands 142 = .ok (.iload_n 3, 1) := by decide +kernel
theorem dL_stands_143 : decode cL_stands 143 = .ok (.if_icmp .ne 7, 3) := by decide +kernel
theorem dL_stands_146 : decode cL_stands 146 = .ok (.iconst 1, 1) := by decide +kernel
theorem dL_stands_147 : decode cL_stands 147 = .ok (.goto 4, 3) := by decide +kernel
theorem dL_stands_150 : decode cL_stands 150 = .ok (.iconst 0, 1) := by decide +kernel
theorem dL_stands_151 : decode cL_stands 151 = .ok (.ireturn, 1) := by decide +kernel
set_option maxRecDepth 20000 in
set_option maxRecDepth 100000 in
theorem ggL_law_X8_init : GoodIn wsL_law wsX8_init := goodIn_r _ [5, 6, 7, 8, 9, 10, 11, 12, 13, 14, 15, 16, 17, 18, 19, 20, 21, 22, 23, 24, 25, 26, 27, 28, 29, 30, 31, 32, 33, 34, 35, 36, 37, 38, 39, 40, 41, 42, 43, 44, 45, 46, 47, 48, 49, 50, 51, 52, 53, 54, 55, 56, 57, 58, 59, 60, 61, 62, 63, 64, 65, 66, 67, 68, 69, 70, 71, 72, 73, 74, 75, 76, 77, 78, 79, 80, 81, 82, 83, 84, 85, 86, 87, 88, 89, 90, 91, 92, 93, 94, 95, 96, 97, 98, 99, 100, 101, 102, 103, 104, 105, 106, 107, 108, 109, 110, 111, 112, 113, 114, 115, 116, 117, 118, 119, 120, 121, 122, 123, 124, 125, 126, 2, 127, 862, 863, 851, 852, 853, 854, 855, 856, 857, 858, 859, 860, 861, 864, 865, 866, 867, 868, 869, 870, 871, 872, 873, 874, 875, 876, 877, 878, 879, 880, 881, 882, 883, 884, 885, 886, 887, 888, 889, 890, 891, 892, 893, 894, 895, 896, 897, 898, 899, 900, 901, 902, 903, 904, 905, 906, 907, 908, 909, 910, 911, 912, 913, 914, 915, 916] rfl (by decide +kernel)
set_option maxRecDepth 20000 in
theorem gL_law_X8_init : GoodIn wsL_law (wsX8_init) := ggL_law_X8_init
set_option maxRecDepth 20000 in
set_option maxRecDepth 100000 in
theorem ggL_law_L_load : GoodIn wsL_law wsL_load := goodIn_ca (goodIn_ca (goodIn_ca (goodIn_r _ [131, 132, 133, 134, 62, 135, 136, 130, 137, 138, 139, 140, 141, 142, 143, 144, 145, 146, 7, 8, 147, 45, 148, 149, 150, 151, 152, 153, 154, 155, 156, 157, 158, 159, 160, 161, 162, 163, 164, 165, 166, 167, 168, 169, 170, 171, 172, 173, 174, 175, 176, 177, 178, 179, 180, 181, 182, 183, 184, 185, 186, 187, 188, 189, 190, 191, 192, 193, 194, 195, 196, 197, 198, 199, 200, 201, 202, 203, 204, 205, 206, 207, 208, 209, 210, 211, 212, 213, 214, 215, 216, 217, 218, 219, 220, 221, 222, 223, 224, 225, 226, 227, 228, 229, 230, 231, 232, 233, 234, 235, 236, 237, 238, 239, 240, 241, 242, 243, 244, 245, 246, 247, 248, 249, 250, 251, 252, 253, 254, 255, 256, 257, 258, 259, 260, 261, 262, 263, 264, 265, 266, 267, 268, 269, 270, 271, 272, 273, 274, 275, 276, 277, 278, 279, 280, 281, 282, 283, 284, 285, 286, 287, 288, 289, 290, 291, 292, 293, 294, 295, 296, 297, 298, 299, 300, 301, 302, 303, 304, 305, 306, 307, 308, 309, 310, 311, 312, 313, 314, 315, 316, 317, 318, 319, 320, 321, 322, 323, 324, 325, 326, 327, 328, 329, 330, 331, 332, 333, 334, 335, 336, 337, 338, 339, 340, 341, 342, 343, 344, 345, 346, 347, 348, 349, 350, 351, 352, 353, 354, 355, 356, 357, 358, 359, 360, 361, 362, 363, 364, 365, 366, 367, 368, 369, 370, 371, 372, 373, 374, 375, 376, 377, 378, 379, 380, 381, 382, 383, 384, 385, 386, 387, 388, 389, 390, 391, 392, 393, 394, 395, 396, 397, 398, 399, 400, 401, 402, 403, 404, 405, 2, 406, 407, 408, 12, 409, 410, 411, 412, 11, 413, 414, 415, 416, 417, 47, 46, 418, 419, 420, 421, 422, 423, 424, 425, 426, 427, 428, 429, 430, 40, 22, 17, 18, 41, 431, 432, 433, 434, 39, 435, 109, 436, 437, 438, 106, 107, 439, 440, 441, 442, 16, 443, 54, 444, 55, 56, 445, 446, 447, 448, 57, 58, 449, 450, 451, 452, 108, 453, 454, 455, 456, 457, 458, 459, 460, 461, 462, 463, 464, 465, 466, 467, 468, 469, 470, 471, 472, 473, 474, 475, 476, 477, 478, 479, 480, 481, 482, 483, 484, 485, 486, 487, 488, 489, 490, 491, 492, 493, 494, 495, 496, 497, 498, 499, 500, 501, 502, 503, 111, 112, 53, 113, 64, 114, 115, 116, 117, 118, 119, 120, 121, 63, 122, 123, 124, 125, 126, 127, 504, 505, 506, 507, 508, 509, 510, 511, 512, 513, 514, 515, 516, 517, 518, 519, 520, 521, 522, 523, 524, 525, 526, 527, 528, 529, 530, 531, 532, 533, 534, 535, 21, 536, 69, 70, 68, 15, 71, 537, 538, 539, 48, 49, 50, 51, 52, 59, 60, 61, 540, 541, 542, 543, 544, 545, 546, 547, 548, 549, 550, 551, 552, 553, 554, 555, 556, 557, 558, 559, 560, 561, 562, 563, 564, 565, 566, 567, 568, 569, 570, 571, 572, 573, 574, 575, 576, 577, 578, 579, 917, 918, 919, 920, 921, 922, 923, 924, 851, 852, 853, 854, 855, 856, 857, 858, 859, 860, 861, 862, 863, 864, 865, 866, 867, 868, 915, 916, 905, 906, 907, 908, 909, 910, 911, 912, 913, 914, 869, 870, 871] rfl (by decide +kernel)) (goodIn_sub (fun _ h => List.mem_append_left _ (List.mem_append_left _ (List.mem_append_right _ h))) (by decide +kernel))) (goodIn_sub (fun _ h => List.mem_append_left _ (List.mem_append_right _ h)) (by decide +kernel))) (goodIn_sub (fun _ h => List.mem_append_right _ h) (by decide +kernel))
set_option maxRecDepth 20000 in
theorem gL_law_L_load : GoodIn wsL_law (va_wsS RL 192 yL_load wsL_load) := goodIn_app (goodIn_of _ (by decide +kernel)) ggL_law_L_load
set_option maxRecDepth 20000 in
set_option maxRecDepth 100000 in
theorem ggL_law_L_stands : GoodIn wsL_law wsL_stands := goodIn_ca (goodIn_ca (goodIn_r _ [582, 62, 556, 557, 558, 2, 559, 425, 426, 17, 41, 431, 560, 561, 562, 563, 564, 565, 566, 16, 567, 54, 444, 532, 119, 120, 53, 121, 63, 583, 584, 130, 585, 374, 210, 193, 211, 586, 587, 192, 194, 588, 589, 590, 591, 592, 593, 594, 595, 596, 597, 598, 599, 600, 601, 602, 603, 604, 605, 606, 576, 577, 578, 524, 525, 526, 64, 607, 608, 609, 610, 27, 611, 612, 613, 26, 614, 80, 615, 616, 76, 617, 618, 619, 620, 56, 57, 58, 126, 127, 579, 621, 622, 623, 624, 625, 626, 627, 628, 629, 630, 631, 632, 633, 634, 635, 636, 637, 638, 639, 640, 641, 642, 79, 643, 528, 529, 530, 531, 644, 645, 201, 646, 647, 648, 649, 650, 651, 652, 653, 654, 655, 656, 657, 658, 659, 660, 661, 662, 663, 664, 665, 666, 667, 668, 669, 77, 78, 670, 671, 672, 673, 674, 675, 676, 677, 678, 679, 680, 681, 682, 683, 684, 685, 686, 687, 688, 689, 690, 691, 692, 693, 694, 695, 696, 697, 698, 699, 700, 701, 702, 703, 704, 705, 706, 707, 708, 709, 710, 711, 422, 423, 424, 568, 569, 570, 571, 572, 573, 574, 575, 712, 713, 714, 715, 716, 717, 718, 719, 720, 31, 721, 722, 723, 724, 725, 726, 727, 728, 30, 729, 90, 730, 731, 732, 733, 87, 734, 88, 735, 736, 737, 738, 739, 740, 741, 86, 742, 743, 744, 745, 746, 747, 748, 749, 750, 751, 752, 753, 754, 755, 756, 757, 758, 759, 760, 761, 762, 763, 764, 765, 766, 767, 768, 769, 770, 771, 772, 773, 774, 775, 776, 777, 778, 779, 780, 781, 851, 852, 853, 854, 855, 856, 857, 858, 859, 860, 861, 864, 865, 866, 867, 868, 915, 916, 872, 873, 874, 875, 876, 877, 878, 879, 880, 881, 882, 883, 884, 885, 886, 887, 888, 889, 890, 891, 892, 893] rfl (by decide +kernel)) (goodIn_sub (fun _ h => List.mem_append_left _ (List.mem_append_right _ h)) (by decide +kernel))) (goodIn_sub (fun _ h => List.mem_append_right _ h) (by decide +kernel))
set_option maxRecDepth 20000 in
theorem gL_law_L_stands : GoodIn wsL_law (va_wsS RL 195 yL_stands wsL_stands) := goodIn_app (goodIn_of _ (by decide +kernel)) ggL_law_L_stands
set_option maxRecDepth 20000 in
set_option maxRecDepth 100000 in
theorem ggL_law_L_act : GoodIn wsL_law wsL_act := goodIn_ca (goodIn_ca (goodIn_ca (goodIn_r _ [784, 785, 135, 136, 130, 137, 138, 556, 557, 558, 2, 559, 425, 426, 17, 41, 431, 560, 561, 562, 563, 564, 565, 566, 16, 567, 54, 444, 532, 119, 120, 53, 121, 63, 786, 787, 788, 789, 790, 791, 792, 793, 576, 577, 407, 408, 22, 422, 423, 424, 533, 534, 535, 21, 536, 69, 70, 68, 15, 71, 537, 210, 193, 211, 538, 539, 48, 49, 50, 7, 8, 51, 52, 55, 56, 57, 58, 59, 60, 61, 62, 64, 540, 541, 542, 543, 544, 545, 546, 547, 548, 549, 213, 214, 215, 445, 446, 447, 448, 110, 111, 112, 113, 114, 115, 116, 117, 118, 122, 123, 124, 125, 126, 127, 794, 795, 796, 797, 798, 799, 800, 572, 573, 574, 575, 578, 524, 525, 526, 801, 802, 803, 804, 805, 806, 807, 808, 809, 810, 811, 579, 812, 813, 814, 815, 816, 817, 818, 819, 820, 821, 822, 823, 824, 825, 568, 569, 570, 571, 826, 827, 828, 829, 830, 831, 832, 833, 834, 756, 618, 619, 620, 835, 836, 837, 838, 594, 603, 604, 605, 606, 607, 608, 609, 610, 27, 611, 612, 613, 26, 614, 80, 615, 616, 76, 617, 621, 622, 623, 624, 625, 626, 627, 628, 629, 630, 631, 632, 633, 634, 635, 636, 637, 638, 639, 640, 641, 642, 79, 643, 528, 529, 530, 531, 644, 645, 201, 646, 647, 648, 649, 650, 651, 652, 653, 654, 655, 192, 194, 656, 657, 658, 659, 660, 661, 662, 663, 664, 665, 666, 667, 668, 669, 77, 78, 670, 671, 672, 673, 674, 675, 676, 677, 678, 679, 680, 681, 682, 683, 684, 685, 686, 687, 688, 689, 690, 691, 692, 693, 694, 695, 696, 697, 698, 699, 700, 701, 702, 703, 704, 705, 706, 707, 839, 840, 841, 842, 843, 844, 845, 846, 18, 550, 847, 848, 849, 850, 851, 852, 853, 854, 855, 856, 857, 858, 859, 860, 861, 864, 865, 866, 867, 868, 915, 916, 869, 870, 871, 872, 873, 874, 875, 876, 877, 878, 879, 880, 881, 882, 883, 884, 885, 886, 887, 888, 889] rfl (by decide +kernel)) (goodIn_sub (fun _ h => List.mem_append_left _ (List.mem_append_right _ h)) (by decide +kernel))) (goodIn_sub (fun _ h => List.mem_append_right _ h) (by decide +kernel))) (goodIn_sub (fun _ h => List.mem_append_left _ (List.mem_append_left _ (List.mem_append_right _ h))) (by decide +kernel))
set_option maxRecDepth 20000 in
theorem gL_law_L_act : GoodIn wsL_law (va_wsS RL 199 yL_act wsL_act) := goodIn_app (goodIn_of _ (by decide +kernel)) ggL_law_L_act
theorem dL_law_0 : decode cL_law 0 = .ok (.new 25, 3) := by decide +kernel
theorem dL_law_3 : decode cL_law 3 = .ok (.dup, 1) := by decide +kernel
theorem dL_law_4 : decode cL_law 4 = .ok (.invokespecial 191, 3) := by decide +kernel
theorem dL_law_7 : decode cL_law 7 = .ok (.astore_n 1, 1) := by decide +kernel
theorem dL_law_8 : decode cL_law 8 = .ok (.aload_n 1, 1) := by decide +kernel
theorem dL_law_9 : decode cL_law 9 = .ok (.aload_n 0, 1) := by decide +kernel
theorem dL_law_10 : decode cL_law 10 = .ok (.invokestatic 192, 3) := by decide +kernel
theorem dL_law_13 : decode cL_law 13 = .ok (.ifCond .eq 10, 3) := by decide +kernel
theorem dL_law_16 : decode cL_law 16 = .ok (.aload_n 1, 1) := by decide +kernel
theorem dL_law_17 : decode cL_law 17 = .ok (.invokestatic 195, 3) := by decide +kernel
theorem dL_law_20 : decode cL_law 20 = .ok (.ifCond .ne 5, 3) := by decide +kernel
theorem dL_law_23 : decode cL_law 23 = .ok (.iconst 0, 1) := by decide +kernel
theorem dL_law_24 : decode cL_law 24 = .ok (.ireturn, 1) := by decide +kernel
theorem dL_law_25 : decode cL_law 25 = .ok (.bipush 50, 2) := by decide +kernel
theorem dL_law_27 : decode cL_law 27 = .ok (.istore_n 2, 1) := by decide +kernel
theorem dL_law_28 : decode cL_law 28 = .ok (.iload_n 2, 1) := by decide +kernel
theorem dL_law_29 : decode cL_law 29 = .ok (.iconst 2, 1) := by decide +kernel
theorem dL_law_30 : decode cL_law 30 = .ok (.iadd, 1) := by decide +kernel
theorem dL_law_31 : decode cL_law 31 = .ok (.sipush 150, 3) := by decide +kernel
theorem dL_law_34 : decode cL_law 34 = .ok (.if_icmp .ge 25, 3) := by decide +kernel
theorem dL_law_37 : decode cL_law 37 = .ok (.aload_n 1, 1) := by decide +kernel
theorem dL_law_38 : decode cL_law 38 = .ok (.aload_n 0, 1) := by decide +kernel
theorem dL_law_39 : decode cL_law 39 = .ok (.iload_n 2, 1) := by decide +kernel
theorem dL_law_40 : decode cL_law 40 = .ok (.invokestatic 199, 3) := by decide +kernel
theorem dL_law_43 : decode cL_law 43 = .ok (.istore_n 3, 1) := by decide +kernel
theorem dL_law_44 : decode cL_law 44 = .ok (.aload_n 1, 1) := by decide +kernel
theorem dL_law_45 : decode cL_law 45 = .ok (.invokestatic 195, 3) := by decide +kernel
theorem dL_law_48 : decode cL_law 48 = .ok (.ifCond .ne 5, 3) := by decide +kernel
theorem dL_law_51 : decode cL_law 51 = .ok (.iconst 0, 1) := by decide +kernel
theorem dL_law_52 : decode cL_law 52 = .ok (.ireturn, 1) := by decide +kernel
theorem dL_law_53 : decode cL_law 53 = .ok (.iinc 2 3, 3) := by decide +kernel
theorem dL_law_56 : decode cL_law 56 = .ok (.goto (-28), 3) := by decide +kernel
theorem dL_law_59 : decode cL_law 59 = .ok (.iconst 1, 1) := by decide +kernel
theorem dL_law_60 : decode cL_law 60 = .ok (.ireturn, 1) := by decide +kernel
