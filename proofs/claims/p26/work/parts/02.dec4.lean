theorem dL_areCarts_34 : decode cL_areCarts 34 = .ok (.invokevirtual 20, 3) := by decide +kernel
theorem dL_areCarts_37 : decode cL_areCarts 37 = .ok (.iconst (-1), 1) := by decide +kernel
theorem dL_areCarts_38 : decode cL_areCarts 38 = .ok (.if_icmp .ne 7, 3) := by decide +kernel
theorem dL_areCarts_41 : decode cL_areCarts 41 = .ok (.iconst 1, 1) := by decide +kernel
theorem dL_areCarts_42 : decode cL_areCarts 42 = .ok (.goto 4, 3) := by decide +kernel
theorem dL_areCarts_45 : decode cL_areCarts 45 = .ok (.iconst 0, 1) := by decide +kernel
theorem dL_areCarts_46 : decode cL_areCarts 46 = .ok (.istore_n 3, 1) := by decide +kernel
theorem dL_areCarts_47 : decode cL_areCarts 47 = .ok (.iconst 0, 1) := by decide +kernel
theorem dL_areCarts_48 : decode cL_areCarts 48 = .ok (.istore 4, 2) := by decide +kernel
theorem dL_areCarts_50 : decode cL_areCarts 50 = .ok (.iload 4, 2) := by decide +kernel
theorem dL_areCarts_52 : decode cL_areCarts 52 = .ok (.iload_n 2, 1) := by decide +kernel
theorem dL_areCarts_53 : decode cL_areCarts 53 = .ok (.if_icmp .ge 442, 3) := by decide +kernel
theorem dL_areCarts_56 : decode cL_areCarts 56 = .ok (.iload_n 3, 1) := by decide +kernel
theorem dL_areCarts_57 : decode cL_areCarts 57 = .ok (.ifCond .eq 438, 3) := by decide +kernel
theorem dL_areCarts_60 : decode cL_areCarts 60 = .ok (.aload_n 0, 1) := by decide +kernel
theorem dL_areCarts_61 : decode cL_areCarts 61 = .ok (.iload 4, 2) := by decide +kernel
theorem dL_areCarts_63 : decode cL_areCarts 63 = .ok (.iconst 0, 1) := by decide +kernel
theorem dL_areCarts_64 : decode cL_areCarts 64 = .ok (.invokevirtual 20, 3) := by decide +kernel
theorem dL_areCarts_67 : decode cL_areCarts 67 = .ok (.istore 5, 2) := by decide +kernel
theorem dL_areCarts_69 : decode cL_areCarts 69 = .ok (.iconst 0, 1) := by decide +kernel
theorem dL_areCarts_70 : decode cL_areCarts 70 = .ok (.istore 6, 2) := by decide +kernel
theorem dL_areCarts_72 : decode cL_areCarts 72 = .ok (.iconst 0, 1) := by decide +kernel
theorem dL_areCarts_73 : decode cL_areCarts 73 = .ok (.istore 7, 2) := by decide +kernel
theorem dL_areCarts_75 : decode cL_areCarts 75 = .ok (.iconst 0, 1) := by decide +kernel
theorem dL_areCarts_76 : decode cL_areCarts 76 = .ok (.istore 8, 2) := by decide +kernel
theorem dL_areCarts_78 : decode cL_areCarts 78 = .ok (.iconst 0, 1) := by decide +kernel
theorem dL_areCarts_79 : decode cL_areCarts 79 = .ok (.istore 9, 2) := by decide +kernel
theorem dL_areCarts_81 : decode cL_areCarts 81 = .ok (.iconst 0, 1) := by decide +kernel
theorem dL_areCarts_82 : decode cL_areCarts 82 = .ok (.istore 10, 2) := by decide +kernel
theorem dL_areCarts_84 : decode cL_areCarts 84 = .ok (.iload 10, 2) := by decide +kernel
theorem dL_areCarts_86 : decode cL_areCarts 86 = .ok (.iload 5, 2) := by decide +kernel
theorem dL_areCarts_88 : decode cL_areCarts 88 = .ok (.if_icmp .ge 177, 3) := by decide +kernel
theorem dL_areCarts_91 : decode cL_areCarts 91 = .ok (.iload_n 3, 1) := by decide +kernel
theorem dL_areCarts_92 : decode cL_areCarts 92 = .ok (.ifCond .eq 173, 3) := by decide +kernel
theorem dL_areCarts_95 : decode cL_areCarts 95 = .ok (.aload_n 0, 1) := by decide +kernel
theorem dL_areCarts_96 : decode cL_areCarts 96 = .ok (.iload 4, 2) := by decide +kernel
theorem dL_areCarts_98 : decode cL_areCarts 98 = .ok (.iload 10, 2) := by decide +kernel
theorem dL_areCarts_100 : decode cL_areCarts 100 = .ok (.iconst 0, 1) := by decide +kernel
theorem dL_areCarts_101 : decode cL_areCarts 101 = .ok (.invokevirtual 24, 3) := by decide +kernel
theorem dL_areCarts_104 : decode cL_areCarts 104 = .ok (.istore 11, 2) := by decide +kernel
theorem dL_areCarts_106 : decode cL_areCarts 106 = .ok (.aload_n 0, 1) := by decide +kernel
theorem dL_areCarts_107 : decode cL_areCarts 107 = .ok (.iload 4, 2) := by decide +kernel
theorem dL_areCarts_109 : decode cL_areCarts 109 = .ok (.iload 10, 2) := by decide +kernel
theorem dL_areCarts_111 : decode cL_areCarts 111 = .ok (.iconst 2, 1) := by decide +kernel
theorem dL_areCarts_112 : decode cL_areCarts 112 = .ok (.invokevirtual 24, 3) := by decide +kernel
theorem dL_areCarts_115 : decode cL_areCarts 115 = .ok (.iconst 1, 1) := by decide +kernel
theorem dL_areCarts_116 : decode cL_areCarts 116 = .ok (.if_icmp .ne 7, 3) := by decide +kernel
theorem dL_areCarts_119 : decode cL_areCarts 119 = .ok (.iconst 1, 1) := by decide +kernel
theorem dL_areCarts_120 : decode cL_areCarts 120 = .ok (.goto 4, 3) := by decide +kernel
theorem dL_areCarts_123 : decode cL_areCarts 123 = .ok (.iconst 0, 1) := by decide +kernel
theorem dL_areCarts_124 : decode cL_areCarts 124 = .ok (.istore 12, 2) := by decide +kernel
theorem dL_areCarts_126 : decode cL_areCarts 126 = .ok (.aload_n 0, 1) := by decide +kernel
theorem dL_areCarts_127 : decode cL_areCarts 127 = .ok (.iload 4, 2) := by decide +kernel
theorem dL_areCarts_129 : decode cL_areCarts 129 = .ok (.iload 10, 2) := by decide +kernel
theorem dL_areCarts_131 : decode cL_areCarts 131 = .ok (.iconst 1, 1) := by decide +kernel
theorem dL_areCarts_132 : decode cL_areCarts 132 = .ok (.invokevirtual 24, 3) := by decide +kernel
theorem dL_areCarts_135 : decode cL_areCarts 135 = .ok (.istore 13, 2) := by decide +kernel
theorem dL_areCarts_137 : decode cL_areCarts 137 = .ok (.iload 6, 2) := by decide +kernel
theorem dL_areCarts_139 : decode cL_areCarts 139 = .ok (.iload 11, 2) := by decide +kernel
theorem dL_areCarts_141 : decode cL_areCarts 141 = .ok (.iadd, 1) := by decide +kernel
theorem dL_areCarts_142 : decode cL_areCarts 142 = .ok (.istore 6, 2) := by decide +kernel
theorem dL_areCarts_144 : decode cL_areCarts 144 = .ok (.iload 7, 2) := by decide +kernel
theorem dL_areCarts_146 : decode cL_areCarts 146 = .ok (.aload_n 0, 1) := by decide +kernel
theorem dL_areCarts_147 : decode cL_areCarts 147 = .ok (.iload 4, 2) := by decide +kernel
theorem dL_areCarts_149 : decode cL_areCarts 149 = .ok (.iload 10, 2) := by decide +kernel
theorem dL_areCarts_151 : decode cL_areCarts 151 = .ok (.iconst 3, 1) := by decide +kernel
theorem dL_areCarts_152 : decode cL_areCarts 152 = .ok (.invokevirtual 24, 3) := by decide +kernel
theorem dL_areCarts_155 : decode cL_areCarts 155 = .ok (.iadd, 1) := by decide +kernel
theorem dL_areCarts_156 : decode cL_areCarts 156 = .ok (.istore 7, 2) := by decide +kernel
theorem dL_areCarts_158 : decode cL_areCarts 158 = .ok (.iload 8, 2) := by decide +kernel
theorem dL_areCarts_160 : decode cL_areCarts 160 = .ok (.iload 13, 2) := by decide +kernel
theorem dL_areCarts_162 : decode cL_areCarts 162 = .ok (.iadd, 1) := by decide +kernel
theorem dL_areCarts_163 : decode cL_areCarts 163 = .ok (.istore 8, 2) := by decide +kernel
theorem dL_areCarts_165 : decode cL_areCarts 165 = .ok (.iload 9, 2) := by decide +kernel
theorem dL_areCarts_167 : decode cL_areCarts 167 = .ok (.iload 12, 2) := by decide +kernel
theorem dL_areCarts_169 : decode cL_areCarts 169 = .ok (.ifCond .eq 7, 3) := by decide +kernel
theorem dL_areCarts_172 : decode cL_areCarts 172 = .ok (.iconst 0, 1) := by decide +kernel
theorem dL_areCarts_173 : decode cL_areCarts 173 = .ok (.goto 4, 3) := by decide +kernel
theorem dL_areCarts_176 : decode cL_areCarts 176 = .ok (.iconst 1, 1) := by decide +kernel
theorem dL_areCarts_177 : decode cL_areCarts 177 = .ok (.iadd, 1) := by decide +kernel
theorem dL_areCarts_178 : decode cL_areCarts 178 = .ok (.istore 9, 2) := by decide +kernel
theorem dL_areCarts_180 : decode cL_areCarts 180 = .ok (.iload 11, 2) := by decide +kernel
theorem dL_areCarts_182 : decode cL_areCarts 182 = .ok (.ifCond .le 75, 3) := by decide +kernel
theorem dL_areCarts_185 : decode cL_areCarts 185 = .ok (.iload 11, 2) := by decide +kernel
theorem dL_areCarts_187 : decode cL_areCarts 187 = .ok (.sipush 200, 3) := by decide +kernel
theorem dL_areCarts_190 : decode cL_areCarts 190 = .ok (.if_icmp .gt 67, 3) := by decide +kernel
theorem dL_areCarts_193 : decode cL_areCarts 193 = .ok (.iload 10, 2) := by decide +kernel
theorem dL_areCarts_195 : decode cL_areCarts 195 = .ok (.ifCond .ne 11, 3) := by decide +kernel
theorem dL_areCarts_198 : decode cL_areCarts 198 = .ok (.iload 13, 2) := by decide +kernel
theorem dL_areCarts_200 : decode cL_areCarts 200 = .ok (.ifCond .ne 57, 3) := by decide +kernel
theorem dL_areCarts_203 : decode cL_areCarts 203 = .ok (.goto 16, 3) := by decide +kernel
theorem dL_areCarts_206 : decode cL_areCarts 206 = .ok (.iload 13, 2) := by decide +kernel
theorem dL_areCarts_208 : decode cL_areCarts 208 = .ok (.iconst 1, 1) := by decide +kernel
theorem dL_areCarts_209 : decode cL_areCarts 209 = .ok (.if_icmp .le 48, 3) := by decide +kernel
theorem dL_areCarts_212 : decode cL_areCarts 212 = .ok (.iload 13, 2) := by decide +kernel
theorem dL_areCarts_214 : decode cL_areCarts 214 = .ok (.bipush 40, 2) := by decide +kernel
theorem dL_areCarts_216 : decode cL_areCarts 216 = .ok (.if_icmp .gt 41, 3) := by decide +kernel
theorem dL_areCarts_219 : decode cL_areCarts 219 = .ok (.iload 12, 2) := by decide +kernel
theorem dL_areCarts_221 : decode cL_areCarts 221 = .ok (.ifCond .eq 18, 3) := by decide +kernel
theorem dL_areCarts_224 : decode cL_areCarts 224 = .ok (.aload_n 0, 1) := by decide +kernel
theorem dL_areCarts_225 : decode cL_areCarts 225 = .ok (.iload 4, 2) := by decide +kernel
theorem dL_areCarts_227 : decode cL_areCarts 227 = .ok (.iload 10, 2) := by decide +kernel
theorem dL_areCarts_229 : decode cL_areCarts 229 = .ok (.iconst 3, 1) := by decide +kernel
theorem dL_areCarts_230 : decode cL_areCarts 230 = .ok (.invokevirtual 24, 3) := by decide +kernel
theorem dL_areCarts_233 : decode cL_areCarts 233 = .ok (.ifCond .ne 24, 3) := by decide +kernel
theorem dL_areCarts_236 : decode cL_areCarts 236 = .ok (.goto 17, 3) := by decide +kernel
theorem dL_areCarts_239 : decode cL_areCarts 239 = .ok (.aload_n 0, 1) := by decide +kernel
theorem dL_areCarts_240 : decode cL_areCarts 240 = .ok (.iload 4, 2) := by decide +kernel
theorem dL_areCarts_242 : decode cL_areCarts 242 = .ok (.iload 10, 2) := by decide +kernel
theorem dL_areCarts_244 : decode cL_areCarts 244 = .ok (.iconst 3, 1) := by decide +kernel
theorem dL_areCarts_245 : decode cL_areCarts 245 = .ok (.invokevirtual 24, 3) := by decide +kernel
theorem dL_areCarts_248 : decode cL_areCarts 248 = .ok (.iload 11, 2) := by decide +kernel
theorem dL_areCarts_250 : decode cL_areCarts 250 = .ok (.if_icmp .lt 7, 3) := by decide +kernel
theorem dL_areCarts_253 : decode cL_areCarts 253 = .ok (.iconst 1, 1) := by decide +kernel
theorem dL_areCarts_254 : decode cL_areCarts 254 = .ok (.goto 4, 3) := by decide +kernel
theorem dL_areCarts_257 : decode cL_areCarts 257 = .ok (.iconst 0, 1) := by decide +kernel
theorem dL_areCarts_258 : decode cL_areCarts 258 = .ok (.istore_n 3, 1) := by decide +kernel
theorem dL_areCarts_259 : decode cL_areCarts 259 = .ok (.iinc 10 1, 3) := by decide +kernel
theorem dL_areCarts_262 : decode cL_areCarts 262 = .ok (.goto (-178), 3) := by decide +kernel
theorem dL_areCarts_265 : decode cL_areCarts 265 = .ok (.aload_n 0, 1) := by decide +kernel
theorem dL_areCarts_266 : decode cL_areCarts 266 = .ok (.iload 4, 2) := by decide +kernel
theorem dL_areCarts_268 : decode cL_areCarts 268 = .ok (.iconst 4, 1) := by decide +kernel
theorem dL_areCarts_269 : decode cL_areCarts 269 = .ok (.invokevirtual 20, 3) := by decide +kernel
theorem dL_areCarts_272 : decode cL_areCarts 272 = .ok (.istore 10, 2) := by decide +kernel
theorem dL_areCarts_274 : decode cL_areCarts 274 = .ok (.aload_n 0, 1) := by decide +kernel
theorem dL_areCarts_275 : decode cL_areCarts 275 = .ok (.iload 4, 2) := by decide +kernel
theorem dL_areCarts_277 : decode cL_areCarts 277 = .ok (.iconst 5, 1) := by decide +kernel
theorem dL_areCarts_278 : decode cL_areCarts 278 = .ok (.invokevirtual 20, 3) := by decide +kernel
theorem dL_areCarts_281 : decode cL_areCarts 281 = .ok (.istore 11, 2) := by decide +kernel
theorem dL_areCarts_283 : decode cL_areCarts 283 = .ok (.iload_n 1, 1) := by decide +kernel
theorem dL_areCarts_284 : decode cL_areCarts 284 = .ok (.iload 10, 2) := by decide +kernel
theorem dL_areCarts_286 : decode cL_areCarts 286 = .ok (.bipush (-5), 2) := by decide +kernel
theorem dL_areCarts_288 : decode cL_areCarts 288 = .ok (.if_icmp .ne 7, 3) := by decide +kernel
theorem dL_areCarts_291 : decode cL_areCarts 291 = .ok (.iconst 0, 1) := by decide +kernel
theorem dL_areCarts_292 : decode cL_areCarts 292 = .ok (.goto 4, 3) := by decide +kernel
theorem dL_areCarts_295 : decode cL_areCarts 295 = .ok (.iconst 1, 1) := by decide +kernel
theorem dL_areCarts_296 : decode cL_areCarts 296 = .ok (.iadd, 1) := by decide +kernel
theorem dL_areCarts_297 : decode cL_areCarts 297 = .ok (.istore_n 1, 1) := by decide +kernel
theorem dL_areCarts_298 : decode cL_areCarts 298 = .ok (.iload_n 3, 1) := by decide +kernel
theorem dL_areCarts_299 : decode cL_areCarts 299 = .ok (.ifCond .eq 188, 3) := by decide +kernel
theorem dL_areCarts_302 : decode cL_areCarts 302 = .ok (.iload 5, 2) := by decide +kernel
theorem dL_areCarts_304 : decode cL_areCarts 304 = .ok (.ifCond .le 183, 3) := by decide +kernel
theorem dL_areCarts_307 : decode cL_areCarts 307 = .ok (.iload 5, 2) := by decide +kernel
theorem dL_areCarts_309 : decode cL_areCarts 309 = .ok (.bipush 6, 2) := by decide +kernel
theorem dL_areCarts_311 : decode cL_areCarts 311 = .ok (.if_icmp .ge 176, 3) := by decide +kernel
theorem dL_areCarts_314 : decode cL_areCarts 314 = .ok (.iload 6, 2) := by decide +kernel
theorem dL_areCarts_316 : decode cL_areCarts 316 = .ok (.aload_n 0, 1) := by decide +kernel
theorem dL_areCarts_317 : decode cL_areCarts 317 = .ok (.iload 4, 2) := by decide +kernel
theorem dL_areCarts_319 : decode cL_areCarts 319 = .ok (.iconst 2, 1) := by decide +kernel
theorem dL_areCarts_320 : decode cL_areCarts 320 = .ok (.invokevirtual 20, 3) := by decide +kernel
theorem dL_areCarts_323 : decode cL_areCarts 323 = .ok (.if_icmp .ne 164, 3) := by decide +kernel
theorem dL_areCarts_326 : decode cL_areCarts 326 = .ok (.iload 7, 2) := by decide +kernel
theorem dL_areCarts_328 : decode cL_areCarts 328 = .ok (.iload 6, 2) := by decide +kernel
theorem dL_areCarts_330 : decode cL_areCarts 330 = .ok (.if_icmp .ne 157, 3) := by decide +kernel
theorem dL_areCarts_333 : decode cL_areCarts 333 = .ok (.iload 8, 2) := by decide +kernel
theorem dL_areCarts_335 : decode cL_areCarts 335 = .ok (.aload_n 0, 1) := by decide +kernel
theorem dL_areCarts_336 : decode cL_areCarts 336 = .ok (.iload 4, 2) := by decide +kernel
theorem dL_areCarts_338 : decode cL_areCarts 338 = .ok (.iconst 3, 1) := by decide +kernel
theorem dL_areCarts_339 : decode cL_areCarts 339 = .ok (.invokevirtual 20, 3) := by decide +kernel
theorem dL_areCarts_342 : decode cL_areCarts 342 = .ok (.if_icmp .ne 145, 3) := by decide +kernel
theorem dL_areCarts_345 : decode cL_areCarts 345 = .ok (.iload 9, 2) := by decide +kernel
theorem dL_areCarts_347 : decode cL_areCarts 347 = .ok (.aload_n 0, 1) := by decide +kernel
theorem dL_areCarts_348 : decode cL_areCarts 348 = .ok (.iload 4, 2) := by decide +kernel
theorem dL_areCarts_350 : decode cL_areCarts 350 = .ok (.iconst 1, 1) := by decide +kernel
theorem dL_areCarts_351 : decode cL_areCarts 351 = .ok (.invokevirtual 20, 3) := by decide +kernel
theorem dL_areCarts_354 : decode cL_areCarts 354 = .ok (.if_icmp .ne 133, 3) := by decide +kernel
theorem dL_areCarts_357 : decode cL_areCarts 357 = .ok (.iload 9, 2) := by decide +kernel
theorem dL_areCarts_359 : decode cL_areCarts 359 = .ok (.ifCond .le 128, 3) := by decide +kernel
theorem dL_areCarts_362 : decode cL_areCarts 362 = .ok (.aload_n 0, 1) := by decide +kernel
theorem dL_areCarts_363 : decode cL_areCarts 363 = .ok (.iload 4, 2) := by decide +kernel
theorem dL_areCarts_365 : decode cL_areCarts 365 = .ok (.iload 5, 2) := by decide +kernel
theorem dL_areCarts_367 : decode cL_areCarts 367 = .ok (.iconst 0, 1) := by decide +kernel
theorem dL_areCarts_368 : decode cL_areCarts 368 = .ok (.invokevirtual 24, 3) := by decide +kernel
theorem dL_areCarts_371 : decode cL_areCarts 371 = .ok (.iconst (-1), 1) := by decide +kernel
theorem dL_areCarts_372 : decode cL_areCarts 372 = .ok (.if_icmp .ne 115, 3) := by decide +kernel
theorem dL_areCarts_375 : decode cL_areCarts 375 = .ok (.aload_n 0, 1) := by decide +kernel
theorem dL_areCarts_376 : decode cL_areCarts 376 = .ok (.iload 4, 2) := by decide +kernel
theorem dL_areCarts_378 : decode cL_areCarts 378 = .ok (.bipush 6, 2) := by decide +kernel
theorem dL_areCarts_380 : decode cL_areCarts 380 = .ok (.invokevirtual 20, 3) := by decide +kernel
theorem dL_areCarts_383 : decode cL_areCarts 383 = .ok (.iload 10, 2) := by decide +kernel
theorem dL_areCarts_385 : decode cL_areCarts 385 = .ok (.bipush (-5), 2) := by decide +kernel
theorem dL_areCarts_387 : decode cL_areCarts 387 = .ok (.if_icmp .eq 10, 3) := by decide +kernel
theorem dL_areCarts_390 : decode cL_areCarts 390 = .ok (.iload 11, 2) := by decide +kernel
theorem dL_areCarts_392 : decode cL_areCarts 392 = .ok (.bipush (-5), 2) := by decide +kernel
theorem dL_areCarts_394 : decode cL_areCarts 394 = .ok (.if_icmp .ne 8, 3) := by decide +kernel
theorem dL_areCarts_397 : decode cL_areCarts 397 = .ok (.bipush (-5), 2) := by decide +kernel
theorem dL_areCarts_399 : decode cL_areCarts 399 = .ok (.goto 12, 3) := by decide +kernel
theorem dL_areCarts_402 : decode cL_areCarts 402 = .ok (.iload 11, 2) := by decide +kernel
theorem dL_areCarts_404 : decode cL_areCarts 404 = .ok (.iload 10, 2) := by decide +kernel
theorem dL_areCarts_406 : decode cL_areCarts 406 = .ok (.isub, 1) := by decide +kernel
theorem dL_areCarts_407 : decode cL_areCarts 407 = .ok (.sipush 1000, 3) := by decide +kernel
theorem dL_areCarts_410 : decode cL_areCarts 410 = .ok (.iadd, 1) := by decide +kernel
theorem dL_areCarts_411 : decode cL_areCarts 411 = .ok (.if_icmp .ne 76, 3) := by decide +kernel
theorem dL_areCarts_414 : decode cL_areCarts 414 = .ok (.aload_n 0, 1) := by decide +kernel
theorem dL_areCarts_415 : decode cL_areCarts 415 = .ok (.iload 4, 2) := by decide +kernel
theorem dL_areCarts_417 : decode cL_areCarts 417 = .ok (.bipush 7, 2) := by decide +kernel
theorem dL_areCarts_419 : decode cL_areCarts 419 = .ok (.invokevirtual 20, 3) := by decide +kernel
theorem dL_areCarts_422 : decode cL_areCarts 422 = .ok (.bipush (-5), 2) := by decide +kernel
theorem dL_areCarts_424 : decode cL_areCarts 424 = .ok (.if_icmp .ne 7, 3) := by decide +kernel
theorem dL_areCarts_427 : decode cL_areCarts 427 = .ok (.iconst 1, 1) := by decide +kernel
theorem dL_areCarts_428 : decode cL_areCarts 428 = .ok (.goto 4, 3) := by decide +kernel
theorem dL_areCarts_431 : decode cL_areCarts 431 = .ok (.iconst 0, 1) := by decide +kernel
theorem dL_areCarts_432 : decode cL_areCarts 432 = .ok (.aload_n 0, 1) := by decide +kernel
theorem dL_areCarts_433 : decode cL_areCarts 433 = .ok (.iload 4, 2) := by decide +kernel
theorem dL_areCarts_435 : decode cL_areCarts 435 = .ok (.bipush 8, 2) := by decide +kernel
theorem dL_areCarts_437 : decode cL_areCarts 437 = .ok (.invokevirtual 20, 3) := by decide +kernel
theorem dL_areCarts_440 : decode cL_areCarts 440 = .ok (.bipush (-5), 2) := by decide +kernel
theorem dL_areCarts_442 : decode cL_areCarts 442 = .ok (.if_icmp .ne 7, 3) := by decide +kernel
theorem dL_areCarts_445 : decode cL_areCarts 445 = .ok (.iconst 1, 1) := by decide +kernel
theorem dL_areCarts_446 : decode cL_areCarts 446 = .ok (.goto 4, 3) := by decide +kernel
theorem dL_areCarts_449 : decode cL_areCarts 449 = .ok (.iconst 0, 1) := by decide +kernel
theorem dL_areCarts_450 : decode cL_areCarts 450 = .ok (.if_icmp .ne 37, 3) := by decide +kernel
theorem dL_areCarts_453 : decode cL_areCarts 453 = .ok (.iload 11, 2) := by decide +kernel
theorem dL_areCarts_455 : decode cL_areCarts 455 = .ok (.bipush (-5), 2) := by decide +kernel
theorem dL_areCarts_457 : decode cL_areCarts 457 = .ok (.if_icmp .eq 14, 3) := by decide +kernel
theorem dL_areCarts_460 : decode cL_areCarts 460 = .ok (.aload_n 0, 1) := by decide +kernel
theorem dL_areCarts_461 : decode cL_areCarts 461 = .ok (.iload 4, 2) := by decide +kernel
theorem dL_areCarts_463 : decode cL_areCarts 463 = .ok (.bipush 7, 2) := by decide +kernel
theorem dL_areCarts_465 : decode cL_areCarts 465 = .ok (.invokevirtual 20, 3) := by decide +kernel
theorem dL_areCarts_468 : decode cL_areCarts 468 = .ok (.ifCond .le 19, 3) := by decide +kernel
theorem dL_areCarts_471 : decode cL_areCarts 471 = .ok (.aload_n 0, 1) := by decide +kernel
theorem dL_areCarts_472 : decode cL_areCarts 472 = .ok (.iload 4, 2) := by decide +kernel
theorem dL_areCarts_474 : decode cL_areCarts 474 = .ok (.bipush 8, 2) := by decide +kernel
theorem dL_areCarts_476 : decode cL_areCarts 476 = .ok (.invokevirtual 20, 3) := by decide +kernel
theorem dL_areCarts_479 : decode cL_areCarts 479 = .ok (.iconst 5, 1) := by decide +kernel
theorem dL_areCarts_480 : decode cL_areCarts 480 = .ok (.if_icmp .gt 7, 3) := by decide +kernel
theorem dL_areCarts_483 : decode cL_areCarts 483 = .ok (.iconst 1, 1) := by decide +kernel
theorem dL_areCarts_484 : decode cL_areCarts 484 = .ok (.goto 4, 3) := by decide +kernel
theorem dL_areCarts_487 : decode cL_areCarts 487 = .ok (.iconst 0, 1) := by decide +kernel
theorem dL_areCarts_488 : decode cL_areCarts 488 = .ok (.istore_n 3, 1) := by decide +kernel
theorem dL_areCarts_489 : decode cL_areCarts 489 = .ok (.iinc 4 1, 3) := by decide +kernel
theorem dL_areCarts_492 : decode cL_areCarts 492 = .ok (.goto (-442), 3) := by decide +kernel
theorem dL_areCarts_495 : decode cL_areCarts 495 = .ok (.iload_n 3, 1) := by decide +kernel
theorem dL_areCarts_496 : decode cL_areCarts 496 = .ok (.ifCond .eq 16, 3) := by decide +kernel
theorem dL_areCarts_499 : decode cL_areCarts 499 = .ok (.iload_n 1, 1) := by decide +kernel
theorem dL_areCarts_500 : decode cL_areCarts 500 = .ok (.aload_n 0, 1) := by decide +kernel
theorem dL_areCarts_501 : decode cL_areCarts 501 = .ok (.iconst 3, 1) := by decide +kernel
theorem dL_areCarts_502 : decode cL_areCarts 502 = .ok (.invokevirtual 14, 3) := by decide +kernel
theorem dL_areCarts_505 : decode cL_areCarts 505 = .ok (.if_icmp .ne 7, 3) := by decide +kernel
theorem dL_areCarts_508 : decode cL_areCarts 508 = .ok (.iconst 1, 1) := by decide +kernel
theorem dL_areCarts_509 : decode cL_areCarts 509 = .ok (.goto 4, 3) := by decide +kernel
theorem dL_areCarts_512 : decode cL_areCarts 512 = .ok (.iconst 0, 1) := by decide +kernel
theorem dL_areCarts_513 : decode cL_areCarts 513 = .ok (.ireturn, 1) := by decide +kernel
theorem dL_isRun_0 : decode cL_isRun 0 = .ok (.aload_n 0, 1) := by decide +kernel
theorem dL_isRun_1 : decode cL_isRun 1 = .ok (.iload_n 1, 1) := by decide +kernel
theorem dL_isRun_2 : decode cL_isRun 2 = .ok (.iconst 2, 1) := by decide +kernel
theorem dL_isRun_3 : decode cL_isRun 3 = .ok (.invokevirtual 20, 3) := by decide +kernel
theorem dL_isRun_6 : decode cL_isRun 6 = .ok (.istore 4, 2) := by decide +kernel
theorem dL_isRun_8 : decode cL_isRun 8 = .ok (.aload_n 0, 1) := by decide +kernel
theorem dL_isRun_9 : decode cL_isRun 9 = .ok (.iload_n 1, 1) := by decide +kernel
theorem dL_isRun_10 : decode cL_isRun 10 = .ok (.iload_n 2, 1) := by decide +kernel
theorem dL_isRun_11 : decode cL_isRun 11 = .ok (.iconst 2, 1) := by decide +kernel
theorem dL_isRun_12 : decode cL_isRun 12 = .ok (.invokevirtual 30, 3) := by decide +kernel
theorem dL_isRun_15 : decode cL_isRun 15 = .ok (.istore 5, 2) := by decide +kernel
theorem dL_isRun_17 : decode cL_isRun 17 = .ok (.aload_n 0, 1) := by decide +kernel
theorem dL_isRun_18 : decode cL_isRun 18 = .ok (.iload_n 1, 1) := by decide +kernel
theorem dL_isRun_19 : decode cL_isRun 19 = .ok (.iload_n 2, 1) := by decide +kernel
theorem dL_isRun_20 : decode cL_isRun 20 = .ok (.iconst 1, 1) := by decide +kernel
theorem dL_isRun_21 : decode cL_isRun 21 = .ok (.invokevirtual 30, 3) := by decide +kernel
theorem dL_isRun_24 : decode cL_isRun 24 = .ok (.istore 6, 2) := by decide +kernel
theorem dL_isRun_26 : decode cL_isRun 26 = .ok (.aload_n 0, 1) := by decide +kernel
theorem dL_isRun_27 : decode cL_isRun 27 = .ok (.iload_n 1, 1) := by decide +kernel
theorem dL_isRun_28 : decode cL_isRun 28 = .ok (.iload_n 2, 1) := by decide +kernel
theorem dL_isRun_29 : decode cL_isRun 29 = .ok (.iconst 0, 1) := by decide +kernel
theorem dL_isRun_30 : decode cL_isRun 30 = .ok (.invokevirtual 30, 3) := by decide +kernel
theorem dL_isRun_33 : decode cL_isRun 33 = .ok (.istore 7, 2) := by decide +kernel
theorem dL_isRun_35 : decode cL_isRun 35 = .ok (.aload_n 0, 1) := by decide +kernel
theorem dL_isRun_36 : decode cL_isRun 36 = .ok (.iload_n 1, 1) := by decide +kernel
theorem dL_isRun_37 : decode cL_isRun 37 = .ok (.iload_n 2, 1) := by decide +kernel
theorem dL_isRun_38 : decode cL_isRun 38 = .ok (.iconst 3, 1) := by decide +kernel
theorem dL_isRun_39 : decode cL_isRun 39 = .ok (.invokevirtual 30, 3) := by decide +kernel
theorem dL_isRun_42 : decode cL_isRun 42 = .ok (.istore 8, 2) := by decide +kernel
theorem dL_isRun_44 : decode cL_isRun 44 = .ok (.aload_n 0, 1) := by decide +kernel
theorem dL_isRun_45 : decode cL_isRun 45 = .ok (.iload_n 1, 1) := by decide +kernel
theorem dL_isRun_46 : decode cL_isRun 46 = .ok (.iload_n 2, 1) := by decide +kernel
theorem dL_isRun_47 : decode cL_isRun 47 = .ok (.iconst 4, 1) := by decide +kernel
theorem dL_isRun_48 : decode cL_isRun 48 = .ok (.invokevirtual 30, 3) := by decide +kernel
theorem dL_isRun_51 : decode cL_isRun 51 = .ok (.istore 9, 2) := by decide +kernel
theorem dL_isRun_53 : decode cL_isRun 53 = .ok (.aload_n 0, 1) := by decide +kernel
theorem dL_isRun_54 : decode cL_isRun 54 = .ok (.iload_n 1, 1) := by decide +kernel
theorem dL_isRun_55 : decode cL_isRun 55 = .ok (.iload_n 2, 1) := by decide +kernel
theorem dL_isRun_56 : decode cL_isRun 56 = .ok (.bipush 7, 2) := by decide +kernel
theorem dL_isRun_58 : decode cL_isRun 58 = .ok (.invokevirtual 30, 3) := by decide +kernel
theorem dL_isRun_61 : decode cL_isRun 61 = .ok (.istore 10, 2) := by decide +kernel
theorem dL_isRun_63 : decode cL_isRun 63 = .ok (.aload_n 0, 1) := by decide +kernel
theorem dL_isRun_64 : decode cL_isRun 64 = .ok (.bipush 6, 2) := by decide +kernel
theorem dL_isRun_66 : decode cL_isRun 66 = .ok (.invokevirtual 14, 3) := by decide +kernel
theorem dL_isRun_69 : decode cL_isRun 69 = .ok (.istore 11, 2) := by decide +kernel
theorem dL_isRun_71 : decode cL_isRun 71 = .ok (.iload 11, 2) := by decide +kernel
theorem dL_isRun_73 : decode cL_isRun 73 = .ok (.aload_n 0, 1) := by decide +kernel
theorem dL_isRun_74 : decode cL_isRun 74 = .ok (.iload_n 1, 1) := by decide +kernel
theorem dL_isRun_75 : decode cL_isRun 75 = .ok (.iconst 3, 1) := by decide +kernel
theorem dL_isRun_76 : decode cL_isRun 76 = .ok (.invokevirtual 20, 3) := by decide +kernel
theorem dL_isRun_79 : decode cL_isRun 79 = .ok (.iadd, 1) := by decide +kernel
theorem dL_isRun_80 : decode cL_isRun 80 = .ok (.iload_n 2, 1) := by decide +kernel
theorem dL_isRun_81 : decode cL_isRun 81 = .ok (.iadd, 1) := by decide +kernel
theorem dL_isRun_82 : decode cL_isRun 82 = .ok (.iconst 1, 1) := by decide +kernel
theorem dL_isRun_83 : decode cL_isRun 83 = .ok (.isub, 1) := by decide +kernel
theorem dL_isRun_84 : decode cL_isRun 84 = .ok (.iload_n 2, 1) := by decide +kernel
theorem dL_isRun_85 : decode cL_isRun 85 = .ok (.idiv, 1) := by decide +kernel
theorem dL_isRun_86 : decode cL_isRun 86 = .ok (.iconst 1, 1) := by decide +kernel
theorem dL_isRun_87 : decode cL_isRun 87 = .ok (.iadd, 1) := by decide +kernel
theorem dL_isRun_88 : decode cL_isRun 88 = .ok (.istore 12, 2) := by decide +kernel
theorem dL_isRun_90 : decode cL_isRun 90 = .ok (.iload 5, 2) := by decide +kernel
theorem dL_isRun_92 : decode cL_isRun 92 = .ok (.iload 12, 2) := by decide +kernel
theorem dL_isRun_94 : decode cL_isRun 94 = .ok (.bipush 120, 2) := by decide +kernel
theorem dL_isRun_96 : decode cL_isRun 96 = .ok (.if_icmp .le 8, 3) := by decide +kernel
theorem dL_isRun_99 : decode cL_isRun 99 = .ok (.bipush 120, 2) := by decide +kernel
theorem dL_isRun_101 : decode cL_isRun 101 = .ok (.goto 5, 3) := by decide +kernel
theorem dL_isRun_104 : decode cL_isRun 104 = .ok (.iload 12, 2) := by decide +kernel
theorem dL_isRun_106 : decode cL_isRun 106 = .ok (.if_icmp .ne 179, 3) := by decide +kernel
theorem dL_isRun_109 : decode cL_isRun 109 = .ok (.iload 6, 2) := by decide +kernel
theorem dL_isRun_111 : decode cL_isRun 111 = .ok (.iconst 1, 1) := by decide +kernel
theorem dL_isRun_112 : decode cL_isRun 112 = .ok (.if_icmp .ne 7, 3) := by decide +kernel
theorem dL_isRun_115 : decode cL_isRun 115 = .ok (.iconst 1, 1) := by decide +kernel
theorem dL_isRun_116 : decode cL_isRun 116 = .ok (.goto 4, 3) := by decide +kernel
theorem dL_isRun_119 : decode cL_isRun 119 = .ok (.iconst 0, 1) := by decide +kernel
theorem dL_isRun_120 : decode cL_isRun 120 = .ok (.iload 12, 2) := by decide +kernel
theorem dL_isRun_122 : decode cL_isRun 122 = .ok (.bipush 120, 2) := by decide +kernel
theorem dL_isRun_124 : decode cL_isRun 124 = .ok (.if_icmp .le 7, 3) := by decide +kernel
theorem dL_isRun_127 : decode cL_isRun 127 = .ok (.iconst 1, 1) := by decide +kernel
theorem dL_isRun_128 : decode cL_isRun 128 = .ok (.goto 4, 3) := by decide +kernel
theorem dL_isRun_131 : decode cL_isRun 131 = .ok (.iconst 0, 1) := by decide +kernel
theorem dL_isRun_132 : decode cL_isRun 132 = .ok (.if_icmp .ne 153, 3) := by decide +kernel
theorem dL_isRun_135 : decode cL_isRun 135 = .ok (.iload 6, 2) := by decide +kernel
theorem dL_isRun_137 : decode cL_isRun 137 = .ok (.ifCond .lt 148, 3) := by decide +kernel
theorem dL_isRun_140 : decode cL_isRun 140 = .ok (.iload 6, 2) := by decide +kernel
theorem dL_isRun_142 : decode cL_isRun 142 = .ok (.iconst 4, 1) := by decide +kernel
theorem dL_isRun_143 : decode cL_isRun 143 = .ok (.if_icmp .ge 142, 3) := by decide +kernel
theorem dL_isRun_146 : decode cL_isRun 146 = .ok (.iload 6, 2) := by decide +kernel
theorem dL_isRun_148 : decode cL_isRun 148 = .ok (.iconst 2, 1) := by decide +kernel
theorem dL_isRun_149 : decode cL_isRun 149 = .ok (.if_icmp .ne 7, 3) := by decide +kernel
theorem dL_isRun_152 : decode cL_isRun 152 = .ok (.iconst 1, 1) := by decide +kernel
theorem dL_isRun_153 : decode cL_isRun 153 = .ok (.goto 4, 3) := by decide +kernel
theorem dL_isRun_156 : decode cL_isRun 156 = .ok (.iconst 0, 1) := by decide +kernel
theorem dL_isRun_157 : decode cL_isRun 157 = .ok (.iload 8, 2) := by decide +kernel
theorem dL_isRun_159 : decode cL_isRun 159 = .ok (.ifCond .ne 14, 3) := by decide +kernel
theorem dL_isRun_162 : decode cL_isRun 162 = .ok (.iload 12, 2) := by decide +kernel
theorem dL_isRun_164 : decode cL_isRun 164 = .ok (.bipush 120, 2) := by decide +kernel
theorem dL_isRun_166 : decode cL_isRun 166 = .ok (.if_icmp .gt 7, 3) := by decide +kernel
theorem dL_isRun_169 : decode cL_isRun 169 = .ok (.iconst 1, 1) := by decide +kernel
theorem dL_isRun_170 : decode cL_isRun 170 = .ok (.goto 4, 3) := by decide +kernel
theorem dL_isRun_173 : decode cL_isRun 173 = .ok (.iconst 0, 1) := by decide +kernel
theorem dL_isRun_174 : decode cL_isRun 174 = .ok (.if_icmp .ne 111, 3) := by decide +kernel
theorem dL_isRun_177 : decode cL_isRun 177 = .ok (.iload 6, 2) := by decide +kernel
theorem dL_isRun_179 : decode cL_isRun 179 = .ok (.ifCond .ne 13, 3) := by decide +kernel
theorem dL_isRun_182 : decode cL_isRun 182 = .ok (.iload 7, 2) := by decide +kernel
theorem dL_isRun_184 : decode cL_isRun 184 = .ok (.iload 9, 2) := by decide +kernel
theorem dL_isRun_186 : decode cL_isRun 186 = .ok (.if_icmp .ne 99, 3) := by decide +kernel
theorem dL_isRun_189 : decode cL_isRun 189 = .ok (.goto 10, 3) := by decide +kernel
theorem dL_isRun_192 : decode cL_isRun 192 = .ok (.iload 7, 2) := by decide +kernel
theorem dL_isRun_194 : decode cL_isRun 194 = .ok (.bipush (-5), 2) := by decide +kernel
theorem dL_isRun_196 : decode cL_isRun 196 = .ok (.if_icmp .ne 89, 3) := by decide +kernel
theorem dL_isRun_199 : decode cL_isRun 199 = .ok (.iload 10, 2) := by decide +kernel
theorem dL_isRun_201 : decode cL_isRun 201 = .ok (.bipush (-5), 2) := by decide +kernel
theorem dL_isRun_203 : decode cL_isRun 203 = .ok (.if_icmp .eq 16, 3) := by decide +kernel
theorem dL_isRun_206 : decode cL_isRun 206 = .ok (.iload 6, 2) := by decide +kernel
theorem dL_isRun_208 : decode cL_isRun 208 = .ok (.iconst 3, 1) := by decide +kernel
theorem dL_isRun_209 : decode cL_isRun 209 = .ok (.if_icmp .ne 76, 3) := by decide +kernel
theorem dL_isRun_212 : decode cL_isRun 212 = .ok (.iload 10, 2) := by decide +kernel
theorem dL_isRun_214 : decode cL_isRun 214 = .ok (.iload 9, 2) := by decide +kernel
theorem dL_isRun_216 : decode cL_isRun 216 = .ok (.if_icmp .lt 69, 3) := by decide +kernel
theorem dL_isRun_219 : decode cL_isRun 219 = .ok (.aload_n 0, 1) := by decide +kernel
theorem dL_isRun_220 : decode cL_isRun 220 = .ok (.iload_n 1, 1) := by decide +kernel
theorem dL_isRun_221 : decode cL_isRun 221 = .ok (.iload_n 2, 1) := by decide +kernel
theorem dL_isRun_222 : decode cL_isRun 222 = .ok (.bipush 6, 2) := by decide +kernel
theorem dL_isRun_224 : decode cL_isRun 224 = .ok (.invokevirtual 30, 3) := by decide +kernel
theorem dL_isRun_227 : decode cL_isRun 227 = .ok (.ifCond .le 58, 3) := by decide +kernel
theorem dL_isRun_230 : decode cL_isRun 230 = .ok (.aload_n 0, 1) := by decide +kernel
theorem dL_isRun_231 : decode cL_isRun 231 = .ok (.iload_n 1, 1) := by decide +kernel
theorem dL_isRun_232 : decode cL_isRun 232 = .ok (.iload_n 2, 1) := by decide +kernel
theorem dL_isRun_233 : decode cL_isRun 233 = .ok (.bipush 6, 2) := by decide +kernel
theorem dL_isRun_235 : decode cL_isRun 235 = .ok (.invokevirtual 30, 3) := by decide +kernel
theorem dL_isRun_238 : decode cL_isRun 238 = .ok (.aload_n 0, 1) := by decide +kernel
theorem dL_isRun_239 : decode cL_isRun 239 = .ok (.iload_n 1, 1) := by decide +kernel
theorem dL_isRun_240 : decode cL_isRun 240 = .ok (.iconst 1, 1) := by decide +kernel
theorem dL_isRun_241 : decode cL_isRun 241 = .ok (.invokevirtual 20, 3) := by decide +kernel
theorem dL_isRun_244 : decode cL_isRun 244 = .ok (.if_icmp .gt 41, 3) := by decide +kernel
theorem dL_isRun_247 : decode cL_isRun 247 = .ok (.aload_n 0, 1) := by decide +kernel
theorem dL_isRun_248 : decode cL_isRun 248 = .ok (.iload_n 1, 1) := by decide +kernel
theorem dL_isRun_249 : decode cL_isRun 249 = .ok (.iload_n 2, 1) := by decide +kernel
theorem dL_isRun_250 : decode cL_isRun 250 = .ok (.iconst 5, 1) := by decide +kernel
theorem dL_isRun_251 : decode cL_isRun 251 = .ok (.invokevirtual 30, 3) := by decide +kernel
theorem dL_isRun_254 : decode cL_isRun 254 = .ok (.iload_n 2, 1) := by decide +kernel
theorem dL_isRun_255 : decode cL_isRun 255 = .ok (.if_icmp .gt 30, 3) := by decide +kernel
theorem dL_isRun_258 : decode cL_isRun 258 = .ok (.aload_n 0, 1) := by decide +kernel
theorem dL_isRun_259 : decode cL_isRun 259 = .ok (.iload_n 1, 1) := by decide +kernel
theorem dL_isRun_260 : decode cL_isRun 260 = .ok (.iload_n 2, 1) := by decide +kernel
theorem dL_isRun_261 : decode cL_isRun 261 = .ok (.iconst 5, 1) := by decide +kernel
theorem dL_isRun_262 : decode cL_isRun 262 = .ok (.invokevirtual 30, 3) := by decide +kernel
theorem dL_isRun_265 : decode cL_isRun 265 = .ok (.ifCond .le 20, 3) := by decide +kernel
theorem dL_isRun_268 : decode cL_isRun 268 = .ok (.aload_n 0, 1) := by decide +kernel
theorem dL_isRun_269 : decode cL_isRun 269 = .ok (.iload_n 1, 1) := by decide +kernel
theorem dL_isRun_270 : decode cL_isRun 270 = .ok (.iload_n 2, 1) := by decide +kernel
theorem dL_isRun_271 : decode cL_isRun 271 = .ok (.bipush 8, 2) := by decide +kernel
theorem dL_isRun_273 : decode cL_isRun 273 = .ok (.invokevirtual 30, 3) := by decide +kernel
theorem dL_isRun_276 : decode cL_isRun 276 = .ok (.iload 5, 2) := by decide +kernel
theorem dL_isRun_278 : decode cL_isRun 278 = .ok (.if_icmp .ge 7, 3) := by decide +kernel
theorem dL_isRun_281 : decode cL_isRun 281 = .ok (.iconst 1, 1) := by decide +kernel
theorem dL_isRun_282 : decode cL_isRun 282 = .ok (.goto 4, 3) := by decide +kernel
theorem dL_isRun_285 : decode cL_isRun 285 = .ok (.iconst 0, 1) := by decide +kernel
theorem dL_isRun_286 : decode cL_isRun 286 = .ok (.istore 13, 2) := by decide +kernel
theorem dL_isRun_288 : decode cL_isRun 288 = .ok (.iload_n 3, 1) := by decide +kernel
theorem dL_isRun_289 : decode cL_isRun 289 = .ok (.iload 5, 2) := by decide +kernel
theorem dL_isRun_291 : decode cL_isRun 291 = .ok (.irem, 1) := by decide +kernel
theorem dL_isRun_292 : decode cL_isRun 292 = .ok (.istore 14, 2) := by decide +kernel
theorem dL_isRun_294 : decode cL_isRun 294 = .ok (.aload_n 0, 1) := by decide +kernel
theorem dL_isRun_295 : decode cL_isRun 295 = .ok (.iload_n 1, 1) := by decide +kernel
theorem dL_isRun_296 : decode cL_isRun 296 = .ok (.iload_n 2, 1) := by decide +kernel
theorem dL_isRun_297 : decode cL_isRun 297 = .ok (.iload 14, 2) := by decide +kernel
theorem dL_isRun_299 : decode cL_isRun 299 = .ok (.iconst 0, 1) := by decide +kernel
theorem dL_isRun_300 : decode cL_isRun 300 = .ok (.invokevirtual 33, 3) := by decide +kernel
theorem dL_isRun_303 : decode cL_isRun 303 = .ok (.istore 15, 2) := by decide +kernel
theorem dL_isRun_305 : decode cL_isRun 305 = .ok (.aload_n 0, 1) := by decide +kernel
theorem dL_isRun_306 : decode cL_isRun 306 = .ok (.iload_n 1, 1) := by decide +kernel
theorem dL_isRun_307 : decode cL_isRun 307 = .ok (.iload_n 2, 1) := by decide +kernel
theorem dL_isRun_308 : decode cL_isRun 308 = .ok (.iload 14, 2) := by decide +kernel
theorem dL_isRun_310 : decode cL_isRun 310 = .ok (.iconst 1, 1) := by decide +kernel
theorem dL_isRun_311 : decode cL_isRun 311 = .ok (.invokevirtual 33, 3) := by decide +kernel
theorem dL_isRun_314 : decode cL_isRun 314 = .ok (.istore 16, 2) := by decide +kernel
theorem dL_isRun_316 : decode cL_isRun 316 = .ok (.iload 14, 2) := by decide +kernel
theorem dL_isRun_318 : decode cL_isRun 318 = .ok (.ifCond .ne 7, 3) := by decide +kernel
theorem dL_isRun_321 : decode cL_isRun 321 = .ok (.iconst 0, 1) := by decide +kernel
theorem dL_isRun_322 : decode cL_isRun 322 = .ok (.goto 14, 3) := by decide +kernel
theorem dL_isRun_325 : decode cL_isRun 325 = .ok (.aload_n 0, 1) := by decide +kernel
theorem dL_isRun_326 : decode cL_isRun 326 = .ok (.iload_n 1, 1) := by decide +kernel
theorem dL_isRun_327 : decode cL_isRun 327 = .ok (.iload_n 2, 1) := by decide +kernel
theorem dL_isRun_328 : decode cL_isRun 328 = .ok (.iload 14, 2) := by decide +kernel
theorem dL_isRun_330 : decode cL_isRun 330 = .ok (.iconst 1, 1) := by decide +kernel
theorem dL_isRun_331 : decode cL_isRun 331 = .ok (.isub, 1) := by decide +kernel
theorem dL_isRun_332 : decode cL_isRun 332 = .ok (.iconst 0, 1) := by decide +kernel
theorem dL_isRun_333 : decode cL_isRun 333 = .ok (.invokevirtual 33, 3) := by decide +kernel
theorem dL_isRun_336 : decode cL_isRun 336 = .ok (.istore 17, 2) := by decide +kernel
theorem dL_isRun_338 : decode cL_isRun 338 = .ok (.iload 14, 2) := by decide +kernel
theorem dL_isRun_340 : decode cL_isRun 340 = .ok (.ifCond .ne 7, 3) := by decide +kernel
theorem dL_isRun_343 : decode cL_isRun 343 = .ok (.iconst 0, 1) := by decide +kernel
theorem dL_isRun_344 : decode cL_isRun 344 = .ok (.goto 14, 3) := by decide +kernel
theorem dL_isRun_347 : decode cL_isRun 347 = .ok (.aload_n 0, 1) := by decide +kernel
theorem dL_isRun_348 : decode cL_isRun 348 = .ok (.iload_n 1, 1) := by decide +kernel
theorem dL_isRun_349 : decode cL_isRun 349 = .ok (.iload_n 2, 1) := by decide +kernel
theorem dL_isRun_350 : decode cL_isRun 350 = .ok (.iload 14, 2) := by decide +kernel
theorem dL_isRun_352 : decode cL_isRun 352 = .ok (.iconst 1, 1) := by decide +kernel
theorem dL_isRun_353 : decode cL_isRun 353 = .ok (.isub, 1) := by decide +kernel
theorem dL_isRun_354 : decode cL_isRun 354 = .ok (.iconst 1, 1) := by decide +kernel
theorem dL_isRun_355 : decode cL_isRun 355 = .ok (.invokevirtual 33, 3) := by decide +kernel
theorem dL_isRun_358 : decode cL_isRun 358 = .ok (.istore 18, 2) := by decide +kernel
theorem dL_isRun_360 : decode cL_isRun 360 = .ok (.iload 15, 2) := by decide +kernel
theorem dL_isRun_362 : decode cL_isRun 362 = .ok (.iload 17, 2) := by decide +kernel
theorem dL_isRun_364 : decode cL_isRun 364 = .ok (.if_icmp .le 11, 3) := by decide +kernel
theorem dL_isRun_367 : decode cL_isRun 367 = .ok (.iload 15, 2) := by decide +kernel
theorem dL_isRun_369 : decode cL_isRun 369 = .ok (.iload 17, 2) := by decide +kernel
theorem dL_isRun_371 : decode cL_isRun 371 = .ok (.isub, 1) := by decide +kernel
theorem dL_isRun_372 : decode cL_isRun 372 = .ok (.goto 8, 3) := by decide +kernel
theorem dL_isRun_375 : decode cL_isRun 375 = .ok (.iload 17, 2) := by decide +kernel
theorem dL_isRun_377 : decode cL_isRun 377 = .ok (.iload 15, 2) := by decide +kernel
theorem dL_isRun_379 : decode cL_isRun 379 = .ok (.isub, 1) := by decide +kernel
theorem dL_isRun_380 : decode cL_isRun 380 = .ok (.istore 19, 2) := by decide +kernel
theorem dL_isRun_382 : decode cL_isRun 382 = .ok (.iconst 0, 1) := by decide +kernel
theorem dL_isRun_383 : decode cL_isRun 383 = .ok (.istore 20, 2) := by decide +kernel
theorem dL_isRun_385 : decode cL_isRun 385 = .ok (.iconst 0, 1) := by decide +kernel
theorem dL_isRun_386 : decode cL_isRun 386 = .ok (.istore 21, 2) := by decide +kernel
theorem dL_isRun_388 : decode cL_isRun 388 = .ok (.iconst 0, 1) := by decide +kernel
theorem dL_isRun_389 : decode cL_isRun 389 = .ok (.istore 22, 2) := by decide +kernel
theorem dL_isRun_391 : decode cL_isRun 391 = .ok (.iload 22, 2) := by decide +kernel
theorem dL_isRun_393 : decode cL_isRun 393 = .ok (.aload_n 0, 1) := by decide +kernel
theorem dL_isRun_394 : decode cL_isRun 394 = .ok (.iload_n 1, 1) := by decide +kernel
theorem dL_isRun_395 : decode cL_isRun 395 = .ok (.iconst 0, 1) := by decide +kernel
theorem dL_isRun_396 : decode cL_isRun 396 = .ok (.invokevirtual 20, 3) := by decide +kernel
theorem dL_isRun_399 : decode cL_isRun 399 = .ok (.if_icmp .ge 60, 3) := by decide +kernel
theorem dL_isRun_402 : decode cL_isRun 402 = .ok (.iload 21, 2) := by decide +kernel
theorem dL_isRun_404 : decode cL_isRun 404 = .ok (.aload_n 0, 1) := by decide +kernel
theorem dL_isRun_405 : decode cL_isRun 405 = .ok (.iload_n 1, 1) := by decide +kernel
theorem dL_isRun_406 : decode cL_isRun 406 = .ok (.iload 22, 2) := by decide +kernel
theorem dL_isRun_408 : decode cL_isRun 408 = .ok (.iconst 1, 1) := by decide +kernel
theorem dL_isRun_409 : decode cL_isRun 409 = .ok (.invokevirtual 24, 3) := by decide +kernel
theorem dL_isRun_412 : decode cL_isRun 412 = .ok (.iadd, 1) := by decide +kernel
theorem dL_isRun_413 : decode cL_isRun 413 = .ok (.istore 21, 2) := by decide +kernel
theorem dL_isRun_415 : decode cL_isRun 415 = .ok (.iload_n 2, 1) := by decide +kernel
theorem dL_isRun_416 : decode cL_isRun 416 = .ok (.iload 14, 2) := by decide +kernel
theorem dL_isRun_418 : decode cL_isRun 418 = .ok (.imul, 1) := by decide +kernel
theorem dL_isRun_419 : decode cL_isRun 419 = .ok (.iload 21, 2) := by decide +kernel
theorem dL_isRun_421 : decode cL_isRun 421 = .ok (.isub, 1) := by decide +kernel
theorem dL_isRun_422 : decode cL_isRun 422 = .ok (.istore 23, 2) := by decide +kernel
theorem dL_isRun_424 : decode cL_isRun 424 = .ok (.iload 20, 2) := by decide +kernel
theorem dL_isRun_426 : decode cL_isRun 426 = .ok (.iload 23, 2) := by decide +kernel
theorem dL_isRun_428 : decode cL_isRun 428 = .ok (.ifCond .lt 21, 3) := by decide +kernel
theorem dL_isRun_431 : decode cL_isRun 431 = .ok (.iload 23, 2) := by decide +kernel
theorem dL_isRun_433 : decode cL_isRun 433 = .ok (.iload 11, 2) := by decide +kernel
theorem dL_isRun_435 : decode cL_isRun 435 = .ok (.if_icmp .ge 14, 3) := by decide +kernel
theorem dL_isRun_438 : decode cL_isRun 438 = .ok (.aload_n 0, 1) := by decide +kernel
theorem dL_isRun_439 : decode cL_isRun 439 = .ok (.iload_n 1, 1) := by decide +kernel
theorem dL_isRun_440 : decode cL_isRun 440 = .ok (.iload 22, 2) := by decide +kernel
theorem dL_isRun_442 : decode cL_isRun 442 = .ok (.iconst 3, 1) := by decide +kernel
theorem dL_isRun_443 : decode cL_isRun 443 = .ok (.invokevirtual 24, 3) := by decide +kernel
theorem dL_isRun_446 : decode cL_isRun 446 = .ok (.goto 4, 3) := by decide +kernel
theorem dL_isRun_449 : decode cL_isRun 449 = .ok (.iconst 0, 1) := by decide +kernel
theorem dL_isRun_450 : decode cL_isRun 450 = .ok (.iadd, 1) := by decide +kernel
theorem dL_isRun_451 : decode cL_isRun 451 = .ok (.istore 20, 2) := by decide +kernel
theorem dL_isRun_453 : decode cL_isRun 453 = .ok (.iinc 22 1, 3) := by decide +kernel
theorem dL_isRun_456 : decode cL_isRun 456 = .ok (.goto (-65), 3) := by decide +kernel
theorem dL_isRun_459 : decode cL_isRun 459 = .ok (.iload 15, 2) := by decide +kernel
theorem dL_isRun_461 : decode cL_isRun 461 = .ok (.iload 14, 2) := by decide +kernel
theorem dL_isRun_463 : decode cL_isRun 463 = .ok (.iconst 4, 1) := by decide +kernel
theorem dL_isRun_464 : decode cL_isRun 464 = .ok (.irem, 1) := by decide +kernel
theorem dL_isRun_465 : decode cL_isRun 465 = .ok (.ifCond .ne 8, 3) := by decide +kernel
theorem dL_isRun_468 : decode cL_isRun 468 = .ok (.iload 16, 2) := by decide +kernel
theorem dL_isRun_470 : decode cL_isRun 470 = .ok (.goto 18, 3) := by decide +kernel
theorem dL_isRun_473 : decode cL_isRun 473 = .ok (.iload 14, 2) := by decide +kernel
theorem dL_isRun_475 : decode cL_isRun 475 = .ok (.iconst 4, 1) := by decide +kernel
theorem dL_isRun_476 : decode cL_isRun 476 = .ok (.irem, 1) := by decide +kernel
theorem dL_isRun_477 : decode cL_isRun 477 = .ok (.iconst 2, 1) := by decide +kernel
theorem dL_isRun_478 : decode cL_isRun 478 = .ok (.if_icmp .ne 9, 3) := by decide +kernel
theorem dL_isRun_481 : decode cL_isRun 481 = .ok (.iload 16, 2) := by decide +kernel
theorem dL_isRun_483 : decode cL_isRun 483 = .ok (.ineg, 1) := by decide +kernel
theorem dL_isRun_484 : decode cL_isRun 484 = .ok (.goto 4, 3) := by decide +kernel
theorem dL_isRun_487 : decode cL_isRun 487 = .ok (.iconst 0, 1) := by decide +kernel
theorem dL_isRun_488 : decode cL_isRun 488 = .ok (.iadd, 1) := by decide +kernel
theorem dL_isRun_489 : decode cL_isRun 489 = .ok (.istore 22, 2) := by decide +kernel
theorem dL_isRun_491 : decode cL_isRun 491 = .ok (.iload 13, 2) := by decide +kernel
theorem dL_isRun_493 : decode cL_isRun 493 = .ok (.ifCond .eq 95, 3) := by decide +kernel
theorem dL_isRun_496 : decode cL_isRun 496 = .ok (.iload 15, 2) := by decide +kernel
theorem dL_isRun_498 : decode cL_isRun 498 = .ok (.iload 20, 2) := by decide +kernel
theorem dL_isRun_500 : decode cL_isRun 500 = .ok (.if_icmp .ne 88, 3) := by decide +kernel
theorem dL_isRun_503 : decode cL_isRun 503 = .ok (.iload 15, 2) := by decide +kernel
theorem dL_isRun_505 : decode cL_isRun 505 = .ok (.ifCond .lt 83, 3) := by decide +kernel
theorem dL_isRun_508 : decode cL_isRun 508 = .ok (.iload 15, 2) := by decide +kernel
theorem dL_isRun_510 : decode cL_isRun 510 = .ok (.iload 4, 2) := by decide +kernel
theorem dL_isRun_512 : decode cL_isRun 512 = .ok (.if_icmp .gt 76, 3) := by decide +kernel
theorem dL_isRun_515 : decode cL_isRun 515 = .ok (.iload 16, 2) := by decide +kernel
theorem dL_isRun_517 : decode cL_isRun 517 = .ok (.iload 18, 2) := by decide +kernel
theorem dL_isRun_519 : decode cL_isRun 519 = .ok (.aload_n 0, 1) := by decide +kernel
theorem dL_isRun_520 : decode cL_isRun 520 = .ok (.bipush 8, 2) := by decide +kernel
theorem dL_isRun_522 : decode cL_isRun 522 = .ok (.invokevirtual 14, 3) := by decide +kernel
theorem dL_isRun_525 : decode cL_isRun 525 = .ok (.imul, 1) := by decide +kernel
theorem dL_isRun_526 : decode cL_isRun 526 = .ok (.bipush 100, 2) := by decide +kernel
theorem dL_isRun_528 : decode cL_isRun 528 = .ok (.idiv, 1) := by decide +kernel
theorem dL_isRun_529 : decode cL_isRun 529 = .ok (.iload 19, 2) := by decide +kernel
theorem dL_isRun_531 : decode cL_isRun 531 = .ok (.aload_n 0, 1) := by decide +kernel
theorem dL_isRun_532 : decode cL_isRun 532 = .ok (.bipush 7, 2) := by decide +kernel
theorem dL_isRun_534 : decode cL_isRun 534 = .ok (.invokevirtual 14, 3) := by decide +kernel
theorem dL_isRun_537 : decode cL_isRun 537 = .ok (.imul, 1) := by decide +kernel
theorem dL_isRun_538 : decode cL_isRun 538 = .ok (.bipush 100, 2) := by decide +kernel
theorem dL_isRun_540 : decode cL_isRun 540 = .ok (.idiv, 1) := by decide +kernel
theorem dL_isRun_541 : decode cL_isRun 541 = .ok (.iadd, 1) := by decide +kernel
theorem dL_isRun_542 : decode cL_isRun 542 = .ok (.if_icmp .ne 46, 3) := by decide +kernel
theorem dL_isRun_545 : decode cL_isRun 545 = .ok (.aload_n 0, 1) := by decide +kernel
theorem dL_isRun_546 : decode cL_isRun 546 = .ok (.iload_n 1, 1) := by decide +kernel
theorem dL_isRun_547 : decode cL_isRun 547 = .ok (.iload_n 2, 1) := by decide +kernel
theorem dL_isRun_548 : decode cL_isRun 548 = .ok (.iload 14, 2) := by decide +kernel
theorem dL_isRun_550 : decode cL_isRun 550 = .ok (.iconst 2, 1) := by decide +kernel
theorem dL_isRun_551 : decode cL_isRun 551 = .ok (.invokevirtual 33, 3) := by decide +kernel
theorem dL_isRun_554 : decode cL_isRun 554 = .ok (.iload 22, 2) := by decide +kernel
theorem dL_isRun_556 : decode cL_isRun 556 = .ok (.ifCond .ge 7, 3) := by decide +kernel
theorem dL_isRun_559 : decode cL_isRun 559 = .ok (.iconst 0, 1) := by decide +kernel
theorem dL_isRun_560 : decode cL_isRun 560 = .ok (.goto 5, 3) := by decide +kernel
theorem dL_isRun_563 : decode cL_isRun 563 = .ok (.iload 22, 2) := by decide +kernel
theorem dL_isRun_565 : decode cL_isRun 565 = .ok (.if_icmp .ne 23, 3) := by decide +kernel
theorem dL_isRun_568 : decode cL_isRun 568 = .ok (.iload 9, 2) := by decide +kernel
theorem dL_isRun_570 : decode cL_isRun 570 = .ok (.iload 8, 2) := by decide +kernel
theorem dL_isRun_572 : decode cL_isRun 572 = .ok (.ifCond .le 7, 3) := by decide +kernel
theorem dL_isRun_575 : decode cL_isRun 575 = .ok (.iconst 0, 1) := by decide +kernel
theorem dL_isRun_576 : decode cL_isRun 576 = .ok (.goto 5, 3) := by decide +kernel
theorem dL_isRun_579 : decode cL_isRun 579 = .ok (.bipush (-5), 2) := by decide +kernel
theorem dL_isRun_581 : decode cL_isRun 581 = .ok (.if_icmp .lt 7, 3) := by decide +kernel
theorem dL_isRun_584 : decode cL_isRun 584 = .ok (.iconst 1, 1) := by decide +kernel
theorem dL_isRun_585 : decode cL_isRun 585 = .ok (.goto 4, 3) := by decide +kernel
theorem dL_isRun_588 : decode cL_isRun 588 = .ok (.iconst 0, 1) := by decide +kernel
theorem dL_isRun_589 : decode cL_isRun 589 = .ok (.istore 13, 2) := by decide +kernel
theorem dL_isRun_591 : decode cL_isRun 591 = .ok (.aload_n 0, 1) := by decide +kernel
theorem dL_isRun_592 : decode cL_isRun 592 = .ok (.bipush 9, 2) := by decide +kernel
theorem dL_isRun_594 : decode cL_isRun 594 = .ok (.invokevirtual 14, 3) := by decide +kernel
theorem dL_isRun_597 : decode cL_isRun 597 = .ok (.istore 23, 2) := by decide +kernel
theorem dL_isRun_599 : decode cL_isRun 599 = .ok (.aload_n 0, 1) := by decide +kernel
theorem dL_isRun_600 : decode cL_isRun 600 = .ok (.iload_n 1, 1) := by decide +kernel
theorem dL_isRun_601 : decode cL_isRun 601 = .ok (.iload_n 2, 1) := by decide +kernel
theorem dL_isRun_602 : decode cL_isRun 602 = .ok (.iload 14, 2) := by decide +kernel
theorem dL_isRun_604 : decode cL_isRun 604 = .ok (.iconst 2, 1) := by decide +kernel
theorem dL_isRun_605 : decode cL_isRun 605 = .ok (.invokevirtual 33, 3) := by decide +kernel
theorem dL_isRun_608 : decode cL_isRun 608 = .ok (.istore 24, 2) := by decide +kernel
theorem dL_isRun_610 : decode cL_isRun 610 = .ok (.iload 24, 2) := by decide +kernel
theorem dL_isRun_612 : decode cL_isRun 612 = .ok (.istore 25, 2) := by decide +kernel
theorem dL_isRun_614 : decode cL_isRun 614 = .ok (.iconst 1, 1) := by decide +kernel
theorem dL_isRun_615 : decode cL_isRun 615 = .ok (.istore 26, 2) := by decide +kernel
theorem dL_isRun_617 : decode cL_isRun 617 = .ok (.iload 26, 2) := by decide +kernel
theorem dL_isRun_619 : decode cL_isRun 619 = .ok (.iload 23, 2) := by decide +kernel
theorem dL_isRun_621 : decode cL_isRun 621 = .ok (.if_icmp .ge 62, 3) := by decide +kernel
theorem dL_isRun_624 : decode cL_isRun 624 = .ok (.iload 26, 2) := by decide +kernel
theorem dL_isRun_626 : decode cL_isRun 626 = .ok (.iload 14, 2) := by decide +kernel
theorem dL_isRun_628 : decode cL_isRun 628 = .ok (.if_icmp .gt 55, 3) := by decide +kernel
theorem dL_isRun_631 : decode cL_isRun 631 = .ok (.aload_n 0, 1) := by decide +kernel
theorem dL_isRun_632 : decode cL_isRun 632 = .ok (.iload_n 1, 1) := by decide +kernel
theorem dL_isRun_633 : decode cL_isRun 633 = .ok (.iload_n 2, 1) := by decide +kernel
theorem dL_isRun_634 : decode cL_isRun 634 = .ok (.iload 14, 2) := by decide +kernel
theorem dL_isRun_636 : decode cL_isRun 636 = .ok (.iload 26, 2) := by decide +kernel
theorem dL_isRun_638 : decode cL_isRun 638 = .ok (.isub, 1) := by decide +kernel
theorem dL_isRun_639 : decode cL_isRun 639 = .ok (.iconst 2, 1) := by decide +kernel
theorem dL_isRun_640 : decode cL_isRun 640 = .ok (.invokevirtual 33, 3) := by decide +kernel
theorem dL_isRun_643 : decode cL_isRun 643 = .ok (.istore 27, 2) := by decide +kernel
theorem dL_isRun_645 : decode cL_isRun 645 = .ok (.iload 27, 2) := by decide +kernel
theorem dL_isRun_647 : decode cL_isRun 647 = .ok (.iload 24, 2) := by decide +kernel
theorem dL_isRun_649 : decode cL_isRun 649 = .ok (.if_icmp .le 8, 3) := by decide +kernel
theorem dL_isRun_652 : decode cL_isRun 652 = .ok (.iload 27, 2) := by decide +kernel
theorem dL_isRun_654 : decode cL_isRun 654 = .ok (.goto 5, 3) := by decide +kernel
theorem dL_isRun_657 : decode cL_isRun 657 = .ok (.iload 24, 2) := by decide +kernel
theorem dL_isRun_659 : decode cL_isRun 659 = .ok (.istore 24, 2) := by decide +kernel
theorem dL_isRun_661 : decode cL_isRun 661 = .ok (.iload 27, 2) := by decide +kernel
theorem dL_isRun_663 : decode cL_isRun 663 = .ok (.iload 25, 2) := by decide +kernel
theorem dL_isRun_665 : decode cL_isRun 665 = .ok (.if_icmp .ge 8, 3) := by decide +kernel
theorem dL_isRun_668 : decode cL_isRun 668 = .ok (.iload 27, 2) := by decide +kernel
theorem dL_isRun_670 : decode cL_isRun 670 = .ok (.goto 5, 3) := by decide +kernel
theorem dL_isRun_673 : decode cL_isRun 673 = .ok (.iload 25, 2) := by decide +kernel
theorem dL_isRun_675 : decode cL_isRun 675 = .ok (.istore 25, 2) := by decide +kernel
theorem dL_isRun_677 : decode cL_isRun 677 = .ok (.iinc 26 1, 3) := by decide +kernel
theorem dL_isRun_680 : decode cL_isRun 680 = .ok (.goto (-63), 3) := by decide +kernel
theorem dL_isRun_683 : decode cL_isRun 683 = .ok (.iload 13, 2) := by decide +kernel
theorem dL_isRun_685 : decode cL_isRun 685 = .ok (.ifCond .eq 105, 3) := by decide +kernel
theorem dL_isRun_688 : decode cL_isRun 688 = .ok (.aload_n 0, 1) := by decide +kernel
theorem dL_isRun_689 : decode cL_isRun 689 = .ok (.iload_n 1, 1) := by decide +kernel
theorem dL_isRun_690 : decode cL_isRun 690 = .ok (.iload_n 2, 1) := by decide +kernel
theorem dL_isRun_691 : decode cL_isRun 691 = .ok (.iload 14, 2) := by decide +kernel
theorem dL_isRun_693 : decode cL_isRun 693 = .ok (.iconst 3, 1) := by decide +kernel
theorem dL_isRun_694 : decode cL_isRun 694 = .ok (.invokevirtual 33, 3) := by decide +kernel
theorem dL_isRun_697 : decode cL_isRun 697 = .ok (.iload 14, 2) := by decide +kernel
theorem dL_isRun_699 : decode cL_isRun 699 = .ok (.iconst 1, 1) := by decide +kernel
theorem dL_isRun_700 : decode cL_isRun 700 = .ok (.iadd, 1) := by decide +kernel
theorem dL_isRun_701 : decode cL_isRun 701 = .ok (.iload 23, 2) := by decide +kernel
theorem dL_isRun_703 : decode cL_isRun 703 = .ok (.if_icmp .lt 21, 3) := by decide +kernel
theorem dL_isRun_706 : decode cL_isRun 706 = .ok (.iload 24, 2) := by decide +kernel
theorem dL_isRun_708 : decode cL_isRun 708 = .ok (.iload 25, 2) := by decide +kernel
theorem dL_isRun_710 : decode cL_isRun 710 = .ok (.isub, 1) := by decide +kernel
theorem dL_isRun_711 : decode cL_isRun 711 = .ok (.aload_n 0, 1) := by decide +kernel
theorem dL_isRun_712 : decode cL_isRun 712 = .ok (.bipush 10, 2) := by decide +kernel
theorem dL_isRun_714 : decode cL_isRun 714 = .ok (.invokevirtual 14, 3) := by decide +kernel
theorem dL_isRun_717 : decode cL_isRun 717 = .ok (.if_icmp .gt 7, 3) := by decide +kernel
theorem dL_isRun_720 : decode cL_isRun 720 = .ok (.iconst 1, 1) := by decide +kernel
theorem dL_isRun_721 : decode cL_isRun 721 = .ok (.goto 4, 3) := by decide +kernel
theorem dL_isRun_724 : decode cL_isRun 724 = .ok (.iconst 0, 1) := by decide +kernel
theorem dL_isRun_725 : decode cL_isRun 725 = .ok (.if_icmp .ne 65, 3) := by decide +kernel
theorem dL_isRun_728 : decode cL_isRun 728 = .ok (.aload_n 0, 1) := by decide +kernel
theorem dL_isRun_729 : decode cL_isRun 729 = .ok (.iload_n 1, 1) := by decide +kernel
theorem dL_isRun_730 : decode cL_isRun 730 = .ok (.iload_n 2, 1) := by decide +kernel
theorem dL_isRun_731 : decode cL_isRun 731 = .ok (.iload 5, 2) := by decide +kernel
theorem dL_isRun_733 : decode cL_isRun 733 = .ok (.iconst 0, 1) := by decide +kernel
theorem dL_isRun_734 : decode cL_isRun 734 = .ok (.invokevirtual 33, 3) := by decide +kernel
theorem dL_isRun_737 : decode cL_isRun 737 = .ok (.iconst (-1), 1) := by decide +kernel
theorem dL_isRun_738 : decode cL_isRun 738 = .ok (.if_icmp .ne 52, 3) := by decide +kernel
theorem dL_isRun_741 : decode cL_isRun 741 = .ok (.iload 6, 2) := by decide +kernel
theorem dL_isRun_743 : decode cL_isRun 743 = .ok (.ifCond .ne 32, 3) := by decide +kernel
theorem dL_isRun_746 : decode cL_isRun 746 = .ok (.aload_n 0, 1) := by decide +kernel
theorem dL_isRun_747 : decode cL_isRun 747 = .ok (.iload_n 1, 1) := by decide +kernel
theorem dL_isRun_748 : decode cL_isRun 748 = .ok (.iload_n 2, 1) := by decide +kernel
theorem dL_isRun_749 : decode cL_isRun 749 = .ok (.invokevirtual 37, 3) := by decide +kernel
theorem dL_isRun_752 : decode cL_isRun 752 = .ok (.iload 4, 2) := by decide +kernel
theorem dL_isRun_754 : decode cL_isRun 754 = .ok (.i2f, 1) := by decide +kernel
theorem dL_isRun_755 : decode cL_isRun 755 = .ok (.fmul, 1) := by decide +kernel
theorem dL_isRun_756 : decode cL_isRun 756 = .ok (.iload 7, 2) := by decide +kernel
theorem dL_isRun_758 : decode cL_isRun 758 = .ok (.i2f, 1) := by decide +kernel
theorem dL_isRun_759 : decode cL_isRun 759 = .ok (.fsub, 1) := by decide +kernel
theorem dL_isRun_760 : decode cL_isRun 760 = .ok (.iload 4, 2) := by decide +kernel
theorem dL_isRun_762 : decode cL_isRun 762 = .ok (.i2f, 1) := by decide +kernel
theorem dL_isRun_763 : decode cL_isRun 763 = .ok (.fadd, 1) := by decide +kernel
theorem dL_isRun_764 : decode cL_isRun 764 = .ok (.invokestatic 41, 3) := by decide +kernel
theorem dL_isRun_767 : decode cL_isRun 767 = .ok (.fconst 1, 1) := by decide +kernel
theorem dL_isRun_768 : decode cL_isRun 768 = .ok (.fcmp .g, 1) := by decide +kernel
theorem dL_isRun_769 : decode cL_isRun 769 = .ok (.ifCond .ge 21, 3) := by decide +kernel
theorem dL_isRun_772 : decode cL_isRun 772 = .ok (.goto 14, 3) := by decide +kernel
theorem dL_isRun_775 : decode cL_isRun 775 = .ok (.aload_n 0, 1) := by decide +kernel
theorem dL_isRun_776 : decode cL_isRun 776 = .ok (.iload_n 1, 1) := by decide +kernel
theorem dL_isRun_777 : decode cL_isRun 777 = .ok (.iload_n 2, 1) := by decide +kernel
theorem dL_isRun_778 : decode cL_isRun 778 = .ok (.invokevirtual 37, 3) := by decide +kernel
theorem dL_isRun_781 : decode cL_isRun 781 = .ok (.fconst 2, 1) := by decide +kernel
theorem dL_isRun_782 : decode cL_isRun 782 = .ok (.fcmp .l, 1) := by decide +kernel
theorem dL_isRun_783 : decode cL_isRun 783 = .ok (.ifCond .ne 7, 3) := by decide +kernel
theorem dL_isRun_786 : decode cL_isRun 786 = .ok (.iconst 1, 1) := by decide +kernel
theorem dL_isRun_787 : decode cL_isRun 787 = .ok (.goto 4, 3) := by decide +kernel
theorem dL_isRun_790 : decode cL_isRun 790 = .ok (.iconst 0, 1) := by decide +kernel
theorem dL_isRun_791 : decode cL_isRun 791 = .ok (.ireturn, 1) := by decide +kernel
theorem dL_size_0 : decode cL_size 0 = .ok (.fload_n 0, 1) := by decide +kernel
theorem dL_size_1 : decode cL_size 1 = .ok (.fconst 0, 1) := by decide +kernel
theorem dL_size_2 : decode cL_size 2 = .ok (.fcmp .g, 1) := by decide +kernel
theorem dL_size_3 : decode cL_size 3 = .ok (.ifCond .ge 8, 3) := by decide +kernel
theorem dL_size_6 : decode cL_size 6 = .ok (.fload_n 0, 1) := by decide +kernel
theorem dL_size_7 : decode cL_size 7 = .ok (.fneg, 1) := by decide +kernel
theorem dL_size_8 : decode cL_size 8 = .ok (.goto 4, 3) := by decide +kernel
theorem dL_size_11 : decode cL_size 11 = .ok (.fload_n 0, 1) := by decide +kernel
theorem dL_size_12 : decode cL_size 12 = .ok (.freturn, 1) := by decide +kernel
theorem dL_refusesAny_0 : decode cL_refusesAny 0 = .ok (.iload_n 1, 1) := by decide +kernel
theorem dL_refusesAny_1 : decode cL_refusesAny 1 = .ok (.iconst 2, 1) := by decide +kernel
theorem dL_refusesAny_2 : decode cL_refusesAny 2 = .ok (.irem, 1) := by decide +kernel
theorem dL_refusesAny_3 : decode cL_refusesAny 3 = .ok (.ifCond .ne 12, 3) := by decide +kernel
theorem dL_refusesAny_6 : decode cL_refusesAny 6 = .ok (.iconst (-1), 1) := by decide +kernel
theorem dL_refusesAny_7 : decode cL_refusesAny 7 = .ok (.iload_n 1, 1) := by decide +kernel
theorem dL_refusesAny_8 : decode cL_refusesAny 8 = .ok (.bipush 99, 2) := by decide +kernel
theorem dL_refusesAny_10 : decode cL_refusesAny 10 = .ok (.irem, 1) := by decide +kernel
theorem dL_refusesAny_11 : decode cL_refusesAny 11 = .ok (.isub, 1) := by decide +kernel
theorem dL_refusesAny_12 : decode cL_refusesAny 12 = .ok (.goto 10, 3) := by decide +kernel
theorem dL_refusesAny_15 : decode cL_refusesAny 15 = .ok (.bipush 6, 2) := by decide +kernel
theorem dL_refusesAny_17 : decode cL_refusesAny 17 = .ok (.iload_n 1, 1) := by decide +kernel
theorem dL_refusesAny_18 : decode cL_refusesAny 18 = .ok (.bipush 99, 2) := by decide +kernel
theorem dL_refusesAny_20 : decode cL_refusesAny 20 = .ok (.irem, 1) := by decide +kernel
theorem dL_refusesAny_21 : decode cL_refusesAny 21 = .ok (.iadd, 1) := by decide +kernel
theorem dL_refusesAny_22 : decode cL_refusesAny 22 = .ok (.istore_n 2, 1) := by decide +kernel
theorem dL_refusesAny_23 : decode cL_refusesAny 23 = .ok (.iload_n 1, 1) := by decide +kernel
theorem dL_refusesAny_24 : decode cL_refusesAny 24 = .ok (.iconst 2, 1) := by decide +kernel
theorem dL_refusesAny_25 : decode cL_refusesAny 25 = .ok (.irem, 1) := by decide +kernel
theorem dL_refusesAny_26 : decode cL_refusesAny 26 = .ok (.ifCond .ne 12, 3) := by decide +kernel
theorem dL_refusesAny_29 : decode cL_refusesAny 29 = .ok (.iconst (-1), 1) := by decide +kernel
theorem dL_refusesAny_30 : decode cL_refusesAny 30 = .ok (.iload_n 1, 1) := by decide +kernel
theorem dL_refusesAny_31 : decode cL_refusesAny 31 = .ok (.bipush 99, 2) := by decide +kernel
theorem dL_refusesAny_33 : decode cL_refusesAny 33 = .ok (.irem, 1) := by decide +kernel
theorem dL_refusesAny_34 : decode cL_refusesAny 34 = .ok (.isub, 1) := by decide +kernel
theorem dL_refusesAny_35 : decode cL_refusesAny 35 = .ok (.goto 9, 3) := by decide +kernel
theorem dL_refusesAny_38 : decode cL_refusesAny 38 = .ok (.iconst 5, 1) := by decide +kernel
theorem dL_refusesAny_39 : decode cL_refusesAny 39 = .ok (.iload_n 1, 1) := by decide +kernel
theorem dL_refusesAny_40 : decode cL_refusesAny 40 = .ok (.bipush 99, 2) := by decide +kernel
theorem dL_refusesAny_42 : decode cL_refusesAny 42 = .ok (.irem, 1) := by decide +kernel
theorem dL_refusesAny_43 : decode cL_refusesAny 43 = .ok (.iadd, 1) := by decide +kernel
theorem dL_refusesAny_44 : decode cL_refusesAny 44 = .ok (.istore_n 3, 1) := by decide +kernel
theorem dL_refusesAny_45 : decode cL_refusesAny 45 = .ok (.iload_n 1, 1) := by decide +kernel
theorem dL_refusesAny_46 : decode cL_refusesAny 46 = .ok (.iconst 2, 1) := by decide +kernel
theorem dL_refusesAny_47 : decode cL_refusesAny 47 = .ok (.irem, 1) := by decide +kernel
theorem dL_refusesAny_48 : decode cL_refusesAny 48 = .ok (.ifCond .ne 11, 3) := by decide +kernel
theorem dL_refusesAny_51 : decode cL_refusesAny 51 = .ok (.iload_n 1, 1) := by decide +kernel
theorem dL_refusesAny_52 : decode cL_refusesAny 52 = .ok (.ineg, 1) := by decide +kernel
theorem dL_refusesAny_53 : decode cL_refusesAny 53 = .ok (.bipush 99, 2) := by decide +kernel
theorem dL_refusesAny_55 : decode cL_refusesAny 55 = .ok (.irem, 1) := by decide +kernel
theorem dL_refusesAny_56 : decode cL_refusesAny 56 = .ok (.goto 11, 3) := by decide +kernel
theorem dL_refusesAny_59 : decode cL_refusesAny 59 = .ok (.sipush 201, 3) := by decide +kernel
theorem dL_refusesAny_62 : decode cL_refusesAny 62 = .ok (.iload_n 1, 1) := by decide +kernel
theorem dL_refusesAny_63 : decode cL_refusesAny 63 = .ok (.bipush 99, 2) := by decide +kernel
theorem dL_refusesAny_65 : decode cL_refusesAny 65 = .ok (.irem, 1) := by decide +kernel
theorem dL_refusesAny_66 : decode cL_refusesAny 66 = .ok (.iadd, 1) := by decide +kernel
theorem dL_refusesAny_67 : decode cL_refusesAny 67 = .ok (.istore 4, 2) := by decide +kernel
theorem dL_refusesAny_69 : decode cL_refusesAny 69 = .ok (.iload_n 1, 1) := by decide +kernel
theorem dL_refusesAny_70 : decode cL_refusesAny 70 = .ok (.iconst 2, 1) := by decide +kernel
theorem dL_refusesAny_71 : decode cL_refusesAny 71 = .ok (.irem, 1) := by decide +kernel
theorem dL_refusesAny_72 : decode cL_refusesAny 72 = .ok (.ifCond .ne 11, 3) := by decide +kernel
theorem dL_refusesAny_75 : decode cL_refusesAny 75 = .ok (.iload_n 1, 1) := by decide +kernel
theorem dL_refusesAny_76 : decode cL_refusesAny 76 = .ok (.ineg, 1) := by decide +kernel
theorem dL_refusesAny_77 : decode cL_refusesAny 77 = .ok (.bipush 99, 2) := by decide +kernel
theorem dL_refusesAny_79 : decode cL_refusesAny 79 = .ok (.irem, 1) := by decide +kernel
theorem dL_refusesAny_80 : decode cL_refusesAny 80 = .ok (.goto 10, 3) := by decide +kernel
theorem dL_refusesAny_83 : decode cL_refusesAny 83 = .ok (.bipush 10, 2) := by decide +kernel
theorem dL_refusesAny_85 : decode cL_refusesAny 85 = .ok (.iload_n 1, 1) := by decide +kernel
theorem dL_refusesAny_86 : decode cL_refusesAny 86 = .ok (.bipush 99, 2) := by decide +kernel
theorem dL_refusesAny_88 : decode cL_refusesAny 88 = .ok (.irem, 1) := by decide +kernel
theorem dL_refusesAny_89 : decode cL_refusesAny 89 = .ok (.iadd, 1) := by decide +kernel
theorem dL_refusesAny_90 : decode cL_refusesAny 90 = .ok (.istore 5, 2) := by decide +kernel
theorem dL_refusesAny_92 : decode cL_refusesAny 92 = .ok (.iload_n 1, 1) := by decide +kernel
theorem dL_refusesAny_93 : decode cL_refusesAny 93 = .ok (.iconst 2, 1) := by decide +kernel
theorem dL_refusesAny_94 : decode cL_refusesAny 94 = .ok (.irem, 1) := by decide +kernel
theorem dL_refusesAny_95 : decode cL_refusesAny 95 = .ok (.ifCond .ne 12, 3) := by decide +kernel
theorem dL_refusesAny_98 : decode cL_refusesAny 98 = .ok (.iconst 1, 1) := by decide +kernel
theorem dL_refusesAny_99 : decode cL_refusesAny 99 = .ok (.iload_n 1, 1) := by decide +kernel
theorem dL_refusesAny_100 : decode cL_refusesAny 100 = .ok (.bipush 99, 2) := by decide +kernel
theorem dL_refusesAny_102 : decode cL_refusesAny 102 = .ok (.irem, 1) := by decide +kernel
theorem dL_refusesAny_103 : decode cL_refusesAny 103 = .ok (.isub, 1) := by decide +kernel
theorem dL_refusesAny_104 : decode cL_refusesAny 104 = .ok (.goto 10, 3) := by decide +kernel
theorem dL_refusesAny_107 : decode cL_refusesAny 107 = .ok (.bipush 41, 2) := by decide +kernel
theorem dL_refusesAny_109 : decode cL_refusesAny 109 = .ok (.iload_n 1, 1) := by decide +kernel
theorem dL_refusesAny_110 : decode cL_refusesAny 110 = .ok (.bipush 99, 2) := by decide +kernel
theorem dL_refusesAny_112 : decode cL_refusesAny 112 = .ok (.irem, 1) := by decide +kernel
theorem dL_refusesAny_113 : decode cL_refusesAny 113 = .ok (.iadd, 1) := by decide +kernel
theorem dL_refusesAny_114 : decode cL_refusesAny 114 = .ok (.istore 6, 2) := by decide +kernel
theorem dL_refusesAny_116 : decode cL_refusesAny 116 = .ok (.aload_n 0, 1) := by decide +kernel
theorem dL_refusesAny_117 : decode cL_refusesAny 117 = .ok (.iconst 0, 1) := by decide +kernel
theorem dL_refusesAny_118 : decode cL_refusesAny 118 = .ok (.invokevirtual 14, 3) := by decide +kernel
theorem dL_refusesAny_121 : decode cL_refusesAny 121 = .ok (.ifCond .le 7, 3) := by decide +kernel
theorem dL_refusesAny_124 : decode cL_refusesAny 124 = .ok (.iconst 1, 1) := by decide +kernel
theorem dL_refusesAny_125 : decode cL_refusesAny 125 = .ok (.goto 4, 3) := by decide +kernel
theorem dL_refusesAny_128 : decode cL_refusesAny 128 = .ok (.iconst 0, 1) := by decide +kernel
theorem dL_refusesAny_129 : decode cL_refusesAny 129 = .ok (.istore 7, 2) := by decide +kernel
theorem dL_refusesAny_131 : decode cL_refusesAny 131 = .ok (.aload_n 0, 1) := by decide +kernel
theorem dL_refusesAny_132 : decode cL_refusesAny 132 = .ok (.iload 4, 2) := by decide +kernel
theorem dL_refusesAny_134 : decode cL_refusesAny 134 = .ok (.invokevirtual 45, 3) := by decide +kernel
theorem dL_refusesAny_137 : decode cL_refusesAny 137 = .ok (.bipush (-2), 2) := by decide +kernel
theorem dL_refusesAny_139 : decode cL_refusesAny 139 = .ok (.if_icmp .ne 262, 3) := by decide +kernel
theorem dL_refusesAny_142 : decode cL_refusesAny 142 = .ok (.aload_n 0, 1) := by decide +kernel
theorem dL_refusesAny_143 : decode cL_refusesAny 143 = .ok (.iconst 0, 1) := by decide +kernel
theorem dL_refusesAny_144 : decode cL_refusesAny 144 = .ok (.invokevirtual 14, 3) := by decide +kernel
theorem dL_refusesAny_147 : decode cL_refusesAny 147 = .ok (.bipush 6, 2) := by decide +kernel
theorem dL_refusesAny_149 : decode cL_refusesAny 149 = .ok (.if_icmp .lt 13, 3) := by decide +kernel
theorem dL_refusesAny_152 : decode cL_refusesAny 152 = .ok (.aload_n 0, 1) := by decide +kernel
theorem dL_refusesAny_153 : decode cL_refusesAny 153 = .ok (.iconst 5, 1) := by decide +kernel
theorem dL_refusesAny_154 : decode cL_refusesAny 154 = .ok (.invokevirtual 45, 3) := by decide +kernel
theorem dL_refusesAny_157 : decode cL_refusesAny 157 = .ok (.bipush (-3), 2) := by decide +kernel
theorem dL_refusesAny_159 : decode cL_refusesAny 159 = .ok (.if_icmp .ne 242, 3) := by decide +kernel
theorem dL_refusesAny_162 : decode cL_refusesAny 162 = .ok (.aload_n 0, 1) := by decide +kernel
theorem dL_refusesAny_163 : decode cL_refusesAny 163 = .ok (.iload_n 2, 1) := by decide +kernel
theorem dL_refusesAny_164 : decode cL_refusesAny 164 = .ok (.iload 6, 2) := by decide +kernel
theorem dL_refusesAny_166 : decode cL_refusesAny 166 = .ok (.iconst 5, 1) := by decide +kernel
theorem dL_refusesAny_167 : decode cL_refusesAny 167 = .ok (.invokevirtual 48, 3) := by decide +kernel
theorem dL_refusesAny_170 : decode cL_refusesAny 170 = .ok (.iconst (-1), 1) := by decide +kernel
theorem dL_refusesAny_171 : decode cL_refusesAny 171 = .ok (.if_icmp .ne 230, 3) := by decide +kernel
theorem dL_refusesAny_174 : decode cL_refusesAny 174 = .ok (.aload_n 0, 1) := by decide +kernel
theorem dL_refusesAny_175 : decode cL_refusesAny 175 = .ok (.iload_n 2, 1) := by decide +kernel
theorem dL_refusesAny_176 : decode cL_refusesAny 176 = .ok (.iconst 0, 1) := by decide +kernel
theorem dL_refusesAny_177 : decode cL_refusesAny 177 = .ok (.iload 4, 2) := by decide +kernel
theorem dL_refusesAny_179 : decode cL_refusesAny 179 = .ok (.invokevirtual 51, 3) := by decide +kernel
theorem dL_refusesAny_182 : decode cL_refusesAny 182 = .ok (.iconst (-1), 1) := by decide +kernel
