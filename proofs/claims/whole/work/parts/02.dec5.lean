theorem dX7_reckon_134 : decode cX7_reckon 134 = .ok (.aload_n 0, 1) := by decide +kernel
theorem dX7_reckon_135 : decode cX7_reckon 135 = .ok (.getfield 7, 3) := by decide +kernel
theorem dX7_reckon_138 : decode cX7_reckon 138 = .ok (.iconst 2, 1) := by decide +kernel
theorem dX7_reckon_139 : decode cX7_reckon 139 = .ok (.iaload, 1) := by decide +kernel
theorem dX7_reckon_140 : decode cX7_reckon 140 = .ok (.imul, 1) := by decide +kernel
theorem dX7_reckon_141 : decode cX7_reckon 141 = .ok (.bipush 100, 2) := by decide +kernel
theorem dX7_reckon_143 : decode cX7_reckon 143 = .ok (.idiv, 1) := by decide +kernel
theorem dX7_reckon_144 : decode cX7_reckon 144 = .ok (.istore 5, 2) := by decide +kernel
theorem dX7_reckon_146 : decode cX7_reckon 146 = .ok (.iload 4, 2) := by decide +kernel
theorem dX7_reckon_148 : decode cX7_reckon 148 = .ok (.ifCond .ne 7, 3) := by decide +kernel
theorem dX7_reckon_151 : decode cX7_reckon 151 = .ok (.iconst 0, 1) := by decide +kernel
theorem dX7_reckon_152 : decode cX7_reckon 152 = .ok (.goto 12, 3) := by decide +kernel
theorem dX7_reckon_155 : decode cX7_reckon 155 = .ok (.aload_n 0, 1) := by decide +kernel
theorem dX7_reckon_156 : decode cX7_reckon 156 = .ok (.getfield 28, 3) := by decide +kernel
theorem dX7_reckon_159 : decode cX7_reckon 159 = .ok (.iload 4, 2) := by decide +kernel
theorem dX7_reckon_161 : decode cX7_reckon 161 = .ok (.iconst 1, 1) := by decide +kernel
theorem dX7_reckon_162 : decode cX7_reckon 162 = .ok (.isub, 1) := by decide +kernel
theorem dX7_reckon_163 : decode cX7_reckon 163 = .ok (.iaload, 1) := by decide +kernel
theorem dX7_reckon_164 : decode cX7_reckon 164 = .ok (.istore 6, 2) := by decide +kernel
theorem dX7_reckon_166 : decode cX7_reckon 166 = .ok (.aload_n 0, 1) := by decide +kernel
theorem dX7_reckon_167 : decode cX7_reckon 167 = .ok (.getfield 28, 3) := by decide +kernel
theorem dX7_reckon_170 : decode cX7_reckon 170 = .ok (.iload 4, 2) := by decide +kernel
theorem dX7_reckon_172 : decode cX7_reckon 172 = .ok (.aload_n 0, 1) := by decide +kernel
theorem dX7_reckon_173 : decode cX7_reckon 173 = .ok (.iload_n 1, 1) := by decide +kernel
theorem dX7_reckon_174 : decode cX7_reckon 174 = .ok (.iload_n 2, 1) := by decide +kernel
theorem dX7_reckon_175 : decode cX7_reckon 175 = .ok (.iload 4, 2) := by decide +kernel
theorem dX7_reckon_177 : decode cX7_reckon 177 = .ok (.invokevirtual 125, 3) := by decide +kernel
theorem dX7_reckon_180 : decode cX7_reckon 180 = .ok (.iastore, 1) := by decide +kernel
theorem dX7_reckon_181 : decode cX7_reckon 181 = .ok (.aload_n 0, 1) := by decide +kernel
theorem dX7_reckon_182 : decode cX7_reckon 182 = .ok (.getfield 31, 3) := by decide +kernel
theorem dX7_reckon_185 : decode cX7_reckon 185 = .ok (.iload 4, 2) := by decide +kernel
theorem dX7_reckon_187 : decode cX7_reckon 187 = .ok (.iload 5, 2) := by decide +kernel
theorem dX7_reckon_189 : decode cX7_reckon 189 = .ok (.aload_n 0, 1) := by decide +kernel
theorem dX7_reckon_190 : decode cX7_reckon 190 = .ok (.getfield 28, 3) := by decide +kernel
theorem dX7_reckon_193 : decode cX7_reckon 193 = .ok (.iload 4, 2) := by decide +kernel
theorem dX7_reckon_195 : decode cX7_reckon 195 = .ok (.iaload, 1) := by decide +kernel
theorem dX7_reckon_196 : decode cX7_reckon 196 = .ok (.iload 6, 2) := by decide +kernel
theorem dX7_reckon_198 : decode cX7_reckon 198 = .ok (.isub, 1) := by decide +kernel
theorem dX7_reckon_199 : decode cX7_reckon 199 = .ok (.invokestatic 129, 3) := by decide +kernel
theorem dX7_reckon_202 : decode cX7_reckon 202 = .ok (.aload_n 0, 1) := by decide +kernel
theorem dX7_reckon_203 : decode cX7_reckon 203 = .ok (.getfield 7, 3) := by decide +kernel
theorem dX7_reckon_206 : decode cX7_reckon 206 = .ok (.iconst 1, 1) := by decide +kernel
theorem dX7_reckon_207 : decode cX7_reckon 207 = .ok (.iaload, 1) := by decide +kernel
theorem dX7_reckon_208 : decode cX7_reckon 208 = .ok (.imul, 1) := by decide +kernel
theorem dX7_reckon_209 : decode cX7_reckon 209 = .ok (.bipush 100, 2) := by decide +kernel
theorem dX7_reckon_211 : decode cX7_reckon 211 = .ok (.idiv, 1) := by decide +kernel
theorem dX7_reckon_212 : decode cX7_reckon 212 = .ok (.iadd, 1) := by decide +kernel
theorem dX7_reckon_213 : decode cX7_reckon 213 = .ok (.iastore, 1) := by decide +kernel
theorem dX7_reckon_214 : decode cX7_reckon 214 = .ok (.aload_n 0, 1) := by decide +kernel
theorem dX7_reckon_215 : decode cX7_reckon 215 = .ok (.getfield 28, 3) := by decide +kernel
theorem dX7_reckon_218 : decode cX7_reckon 218 = .ok (.iload 4, 2) := by decide +kernel
theorem dX7_reckon_220 : decode cX7_reckon 220 = .ok (.iaload, 1) := by decide +kernel
theorem dX7_reckon_221 : decode cX7_reckon 221 = .ok (.iload 4, 2) := by decide +kernel
theorem dX7_reckon_223 : decode cX7_reckon 223 = .ok (.iconst 4, 1) := by decide +kernel
theorem dX7_reckon_224 : decode cX7_reckon 224 = .ok (.irem, 1) := by decide +kernel
theorem dX7_reckon_225 : decode cX7_reckon 225 = .ok (.ifCond .ne 13, 3) := by decide +kernel
theorem dX7_reckon_228 : decode cX7_reckon 228 = .ok (.aload_n 0, 1) := by decide +kernel
theorem dX7_reckon_229 : decode cX7_reckon 229 = .ok (.getfield 31, 3) := by decide +kernel
theorem dX7_reckon_232 : decode cX7_reckon 232 = .ok (.iload 4, 2) := by decide +kernel
theorem dX7_reckon_234 : decode cX7_reckon 234 = .ok (.iaload, 1) := by decide +kernel
theorem dX7_reckon_235 : decode cX7_reckon 235 = .ok (.goto 23, 3) := by decide +kernel
theorem dX7_reckon_238 : decode cX7_reckon 238 = .ok (.iload 4, 2) := by decide +kernel
theorem dX7_reckon_240 : decode cX7_reckon 240 = .ok (.iconst 4, 1) := by decide +kernel
theorem dX7_reckon_241 : decode cX7_reckon 241 = .ok (.irem, 1) := by decide +kernel
theorem dX7_reckon_242 : decode cX7_reckon 242 = .ok (.iconst 2, 1) := by decide +kernel
theorem dX7_reckon_243 : decode cX7_reckon 243 = .ok (.if_icmp .ne 14, 3) := by decide +kernel
theorem dX7_reckon_246 : decode cX7_reckon 246 = .ok (.aload_n 0, 1) := by decide +kernel
theorem dX7_reckon_247 : decode cX7_reckon 247 = .ok (.getfield 31, 3) := by decide +kernel
theorem dX7_reckon_250 : decode cX7_reckon 250 = .ok (.iload 4, 2) := by decide +kernel
theorem dX7_reckon_252 : decode cX7_reckon 252 = .ok (.iaload, 1) := by decide +kernel
theorem dX7_reckon_253 : decode cX7_reckon 253 = .ok (.ineg, 1) := by decide +kernel
theorem dX7_reckon_254 : decode cX7_reckon 254 = .ok (.goto 4, 3) := by decide +kernel
theorem dX7_reckon_257 : decode cX7_reckon 257 = .ok (.iconst 0, 1) := by decide +kernel
theorem dX7_reckon_258 : decode cX7_reckon 258 = .ok (.iadd, 1) := by decide +kernel
theorem dX7_reckon_259 : decode cX7_reckon 259 = .ok (.istore 7, 2) := by decide +kernel
theorem dX7_reckon_261 : decode cX7_reckon 261 = .ok (.aload_n 0, 1) := by decide +kernel
theorem dX7_reckon_262 : decode cX7_reckon 262 = .ok (.getfield 34, 3) := by decide +kernel
theorem dX7_reckon_265 : decode cX7_reckon 265 = .ok (.iload 4, 2) := by decide +kernel
theorem dX7_reckon_267 : decode cX7_reckon 267 = .ok (.iload 7, 2) := by decide +kernel
theorem dX7_reckon_269 : decode cX7_reckon 269 = .ok (.ifCond .ge 7, 3) := by decide +kernel
theorem dX7_reckon_272 : decode cX7_reckon 272 = .ok (.iconst 0, 1) := by decide +kernel
theorem dX7_reckon_273 : decode cX7_reckon 273 = .ok (.goto 5, 3) := by decide +kernel
theorem dX7_reckon_276 : decode cX7_reckon 276 = .ok (.iload 7, 2) := by decide +kernel
theorem dX7_reckon_278 : decode cX7_reckon 278 = .ok (.iastore, 1) := by decide +kernel
theorem dX7_reckon_279 : decode cX7_reckon 279 = .ok (.aload_n 0, 1) := by decide +kernel
theorem dX7_reckon_280 : decode cX7_reckon 280 = .ok (.getfield 37, 3) := by decide +kernel
theorem dX7_reckon_283 : decode cX7_reckon 283 = .ok (.iload 4, 2) := by decide +kernel
theorem dX7_reckon_285 : decode cX7_reckon 285 = .ok (.aload_n 0, 1) := by decide +kernel
theorem dX7_reckon_286 : decode cX7_reckon 286 = .ok (.iload 4, 2) := by decide +kernel
theorem dX7_reckon_288 : decode cX7_reckon 288 = .ok (.invokevirtual 132, 3) := by decide +kernel
theorem dX7_reckon_291 : decode cX7_reckon 291 = .ok (.ifCond .eq 7, 3) := by decide +kernel
theorem dX7_reckon_294 : decode cX7_reckon 294 = .ok (.iconst 1, 1) := by decide +kernel
theorem dX7_reckon_295 : decode cX7_reckon 295 = .ok (.goto 4, 3) := by decide +kernel
theorem dX7_reckon_298 : decode cX7_reckon 298 = .ok (.iconst 0, 1) := by decide +kernel
theorem dX7_reckon_299 : decode cX7_reckon 299 = .ok (.iastore, 1) := by decide +kernel
theorem dX7_reckon_300 : decode cX7_reckon 300 = .ok (.iload 4, 2) := by decide +kernel
theorem dX7_reckon_302 : decode cX7_reckon 302 = .ok (.ifCond .ne 8, 3) := by decide +kernel
theorem dX7_reckon_305 : decode cX7_reckon 305 = .ok (.bipush (-5), 2) := by decide +kernel
theorem dX7_reckon_307 : decode cX7_reckon 307 = .ok (.goto 12, 3) := by decide +kernel
theorem dX7_reckon_310 : decode cX7_reckon 310 = .ok (.aload_n 0, 1) := by decide +kernel
theorem dX7_reckon_311 : decode cX7_reckon 311 = .ok (.getfield 40, 3) := by decide +kernel
theorem dX7_reckon_314 : decode cX7_reckon 314 = .ok (.iload 4, 2) := by decide +kernel
theorem dX7_reckon_316 : decode cX7_reckon 316 = .ok (.iconst 1, 1) := by decide +kernel
theorem dX7_reckon_317 : decode cX7_reckon 317 = .ok (.isub, 1) := by decide +kernel
theorem dX7_reckon_318 : decode cX7_reckon 318 = .ok (.iaload, 1) := by decide +kernel
theorem dX7_reckon_319 : decode cX7_reckon 319 = .ok (.istore 8, 2) := by decide +kernel
theorem dX7_reckon_321 : decode cX7_reckon 321 = .ok (.aload_n 0, 1) := by decide +kernel
theorem dX7_reckon_322 : decode cX7_reckon 322 = .ok (.getfield 40, 3) := by decide +kernel
theorem dX7_reckon_325 : decode cX7_reckon 325 = .ok (.iload 4, 2) := by decide +kernel
theorem dX7_reckon_327 : decode cX7_reckon 327 = .ok (.iload 8, 2) := by decide +kernel
theorem dX7_reckon_329 : decode cX7_reckon 329 = .ok (.iastore, 1) := by decide +kernel
theorem dX7_reckon_330 : decode cX7_reckon 330 = .ok (.aload_n 0, 1) := by decide +kernel
theorem dX7_reckon_331 : decode cX7_reckon 331 = .ok (.getfield 37, 3) := by decide +kernel
theorem dX7_reckon_334 : decode cX7_reckon 334 = .ok (.iload 4, 2) := by decide +kernel
theorem dX7_reckon_336 : decode cX7_reckon 336 = .ok (.iaload, 1) := by decide +kernel
theorem dX7_reckon_337 : decode cX7_reckon 337 = .ok (.iconst 1, 1) := by decide +kernel
theorem dX7_reckon_338 : decode cX7_reckon 338 = .ok (.if_icmp .ne 45, 3) := by decide +kernel
theorem dX7_reckon_341 : decode cX7_reckon 341 = .ok (.aload_n 0, 1) := by decide +kernel
theorem dX7_reckon_342 : decode cX7_reckon 342 = .ok (.getfield 101, 3) := by decide +kernel
theorem dX7_reckon_345 : decode cX7_reckon 345 = .ok (.ifCond .eq 24, 3) := by decide +kernel
theorem dX7_reckon_348 : decode cX7_reckon 348 = .ok (.aload_n 0, 1) := by decide +kernel
theorem dX7_reckon_349 : decode cX7_reckon 349 = .ok (.iload 4, 2) := by decide +kernel
theorem dX7_reckon_351 : decode cX7_reckon 351 = .ok (.invokevirtual 135, 3) := by decide +kernel
theorem dX7_reckon_354 : decode cX7_reckon 354 = .ok (.iload 8, 2) := by decide +kernel
theorem dX7_reckon_356 : decode cX7_reckon 356 = .ok (.isub, 1) := by decide +kernel
theorem dX7_reckon_357 : decode cX7_reckon 357 = .ok (.invokestatic 129, 3) := by decide +kernel
theorem dX7_reckon_360 : decode cX7_reckon 360 = .ok (.aload_n 0, 1) := by decide +kernel
theorem dX7_reckon_361 : decode cX7_reckon 361 = .ok (.getfield 7, 3) := by decide +kernel
theorem dX7_reckon_364 : decode cX7_reckon 364 = .ok (.iconst 4, 1) := by decide +kernel
theorem dX7_reckon_365 : decode cX7_reckon 365 = .ok (.iaload, 1) := by decide +kernel
theorem dX7_reckon_366 : decode cX7_reckon 366 = .ok (.if_icmp .le 17, 3) := by decide +kernel
theorem dX7_reckon_369 : decode cX7_reckon 369 = .ok (.aload_n 0, 1) := by decide +kernel
theorem dX7_reckon_370 : decode cX7_reckon 370 = .ok (.aload_n 0, 1) := by decide +kernel
theorem dX7_reckon_371 : decode cX7_reckon 371 = .ok (.iload 4, 2) := by decide +kernel
theorem dX7_reckon_373 : decode cX7_reckon 373 = .ok (.invokevirtual 135, 3) := by decide +kernel
theorem dX7_reckon_376 : decode cX7_reckon 376 = .ok (.iload 8, 2) := by decide +kernel
theorem dX7_reckon_378 : decode cX7_reckon 378 = .ok (.iload 4, 2) := by decide +kernel
theorem dX7_reckon_380 : decode cX7_reckon 380 = .ok (.invokevirtual 138, 3) := by decide +kernel
theorem dX7_reckon_383 : decode cX7_reckon 383 = .ok (.iinc 4 1, 3) := by decide +kernel
theorem dX7_reckon_386 : decode cX7_reckon 386 = .ok (.goto (-279), 3) := by decide +kernel
theorem dX7_reckon_389 : decode cX7_reckon 389 = .ok (.return_, 1) := by decide +kernel
theorem dX7_readingMany_0 : decode cX7_readingMany 0 = .ok (.aload_n 0, 1) := by decide +kernel
theorem dX7_readingMany_1 : decode cX7_readingMany 1 = .ok (.getfield 118, 3) := by decide +kernel
theorem dX7_readingMany_4 : decode cX7_readingMany 4 = .ok (.bipush 120, 2) := by decide +kernel
theorem dX7_readingMany_6 : decode cX7_readingMany 6 = .ok (.if_icmp .le 8, 3) := by decide +kernel
theorem dX7_readingMany_9 : decode cX7_readingMany 9 = .ok (.bipush 120, 2) := by decide +kernel
theorem dX7_readingMany_11 : decode cX7_readingMany 11 = .ok (.goto 7, 3) := by decide +kernel
theorem dX7_readingMany_14 : decode cX7_readingMany 14 = .ok (.aload_n 0, 1) := by decide +kernel
theorem dX7_readingMany_15 : decode cX7_readingMany 15 = .ok (.getfield 118, 3) := by decide +kernel
theorem dX7_readingMany_18 : decode cX7_readingMany 18 = .ok (.ireturn, 1) := by decide +kernel
theorem dX7_axlesTold_0 : decode cX7_axlesTold 0 = .ok (.iconst 0, 1) := by decide +kernel
theorem dX7_axlesTold_1 : decode cX7_axlesTold 1 = .ok (.istore_n 3, 1) := by decide +kernel
theorem dX7_axlesTold_2 : decode cX7_axlesTold 2 = .ok (.bipush (-5), 2) := by decide +kernel
theorem dX7_axlesTold_4 : decode cX7_axlesTold 4 = .ok (.istore 4, 2) := by decide +kernel
theorem dX7_axlesTold_6 : decode cX7_axlesTold 6 = .ok (.iconst 0, 1) := by decide +kernel
theorem dX7_axlesTold_7 : decode cX7_axlesTold 7 = .ok (.istore 5, 2) := by decide +kernel
theorem dX7_axlesTold_9 : decode cX7_axlesTold 9 = .ok (.iload 5, 2) := by decide +kernel
theorem dX7_axlesTold_11 : decode cX7_axlesTold 11 = .ok (.aload_n 0, 1) := by decide +kernel
theorem dX7_axlesTold_12 : decode cX7_axlesTold 12 = .ok (.iload_n 1, 1) := by decide +kernel
theorem dX7_axlesTold_13 : decode cX7_axlesTold 13 = .ok (.iconst 0, 1) := by decide +kernel
theorem dX7_axlesTold_14 : decode cX7_axlesTold 14 = .ok (.invokevirtual 54, 3) := by decide +kernel
theorem dX7_axlesTold_17 : decode cX7_axlesTold 17 = .ok (.if_icmp .ge 53, 3) := by decide +kernel
theorem dX7_axlesTold_20 : decode cX7_axlesTold 20 = .ok (.aload_n 0, 1) := by decide +kernel
theorem dX7_axlesTold_21 : decode cX7_axlesTold 21 = .ok (.iload_n 1, 1) := by decide +kernel
theorem dX7_axlesTold_22 : decode cX7_axlesTold 22 = .ok (.iload 5, 2) := by decide +kernel
theorem dX7_axlesTold_24 : decode cX7_axlesTold 24 = .ok (.invokevirtual 88, 3) := by decide +kernel
theorem dX7_axlesTold_27 : decode cX7_axlesTold 27 = .ok (.ifCond .eq 37, 3) := by decide +kernel
theorem dX7_axlesTold_30 : decode cX7_axlesTold 30 = .ok (.aload_n 0, 1) := by decide +kernel
theorem dX7_axlesTold_31 : decode cX7_axlesTold 31 = .ok (.getfield 25, 3) := by decide +kernel
theorem dX7_axlesTold_34 : decode cX7_axlesTold 34 = .ok (.iload 5, 2) := by decide +kernel
theorem dX7_axlesTold_36 : decode cX7_axlesTold 36 = .ok (.iaload, 1) := by decide +kernel
theorem dX7_axlesTold_37 : decode cX7_axlesTold 37 = .ok (.iload_n 2, 1) := by decide +kernel
theorem dX7_axlesTold_38 : decode cX7_axlesTold 38 = .ok (.iadd, 1) := by decide +kernel
theorem dX7_axlesTold_39 : decode cX7_axlesTold 39 = .ok (.iconst 1, 1) := by decide +kernel
theorem dX7_axlesTold_40 : decode cX7_axlesTold 40 = .ok (.isub, 1) := by decide +kernel
theorem dX7_axlesTold_41 : decode cX7_axlesTold 41 = .ok (.iload_n 2, 1) := by decide +kernel
theorem dX7_axlesTold_42 : decode cX7_axlesTold 42 = .ok (.idiv, 1) := by decide +kernel
theorem dX7_axlesTold_43 : decode cX7_axlesTold 43 = .ok (.istore 6, 2) := by decide +kernel
theorem dX7_axlesTold_45 : decode cX7_axlesTold 45 = .ok (.iload_n 3, 1) := by decide +kernel
theorem dX7_axlesTold_46 : decode cX7_axlesTold 46 = .ok (.iload 6, 2) := by decide +kernel
theorem dX7_axlesTold_48 : decode cX7_axlesTold 48 = .ok (.iload 4, 2) := by decide +kernel
theorem dX7_axlesTold_50 : decode cX7_axlesTold 50 = .ok (.if_icmp .ne 7, 3) := by decide +kernel
theorem dX7_axlesTold_53 : decode cX7_axlesTold 53 = .ok (.iconst 0, 1) := by decide +kernel
theorem dX7_axlesTold_54 : decode cX7_axlesTold 54 = .ok (.goto 4, 3) := by decide +kernel
theorem dX7_axlesTold_57 : decode cX7_axlesTold 57 = .ok (.iconst 1, 1) := by decide +kernel
theorem dX7_axlesTold_58 : decode cX7_axlesTold 58 = .ok (.iadd, 1) := by decide +kernel
theorem dX7_axlesTold_59 : decode cX7_axlesTold 59 = .ok (.istore_n 3, 1) := by decide +kernel
theorem dX7_axlesTold_60 : decode cX7_axlesTold 60 = .ok (.iload 6, 2) := by decide +kernel
theorem dX7_axlesTold_62 : decode cX7_axlesTold 62 = .ok (.istore 4, 2) := by decide +kernel
theorem dX7_axlesTold_64 : decode cX7_axlesTold 64 = .ok (.iinc 5 1, 3) := by decide +kernel
theorem dX7_axlesTold_67 : decode cX7_axlesTold 67 = .ok (.goto (-58), 3) := by decide +kernel
theorem dX7_axlesTold_70 : decode cX7_axlesTold 70 = .ok (.iload_n 3, 1) := by decide +kernel
theorem dX7_axlesTold_71 : decode cX7_axlesTold 71 = .ok (.ireturn, 1) := by decide +kernel
theorem dX7_areAllOn_0 : decode cX7_areAllOn 0 = .ok (.iconst 1, 1) := by decide +kernel
theorem dX7_areAllOn_1 : decode cX7_areAllOn 1 = .ok (.istore 4, 2) := by decide +kernel
theorem dX7_areAllOn_3 : decode cX7_areAllOn 3 = .ok (.iconst 0, 1) := by decide +kernel
theorem dX7_areAllOn_4 : decode cX7_areAllOn 4 = .ok (.istore 5, 2) := by decide +kernel
theorem dX7_areAllOn_6 : decode cX7_areAllOn 6 = .ok (.iload 5, 2) := by decide +kernel
theorem dX7_areAllOn_8 : decode cX7_areAllOn 8 = .ok (.aload_n 0, 1) := by decide +kernel
theorem dX7_areAllOn_9 : decode cX7_areAllOn 9 = .ok (.iload_n 1, 1) := by decide +kernel
theorem dX7_areAllOn_10 : decode cX7_areAllOn 10 = .ok (.iconst 0, 1) := by decide +kernel
theorem dX7_areAllOn_11 : decode cX7_areAllOn 11 = .ok (.invokevirtual 54, 3) := by decide +kernel
theorem dX7_areAllOn_14 : decode cX7_areAllOn 14 = .ok (.if_icmp .ge 49, 3) := by decide +kernel
theorem dX7_areAllOn_17 : decode cX7_areAllOn 17 = .ok (.iload 4, 2) := by decide +kernel
theorem dX7_areAllOn_19 : decode cX7_areAllOn 19 = .ok (.ifCond .eq 35, 3) := by decide +kernel
theorem dX7_areAllOn_22 : decode cX7_areAllOn 22 = .ok (.aload_n 0, 1) := by decide +kernel
theorem dX7_areAllOn_23 : decode cX7_areAllOn 23 = .ok (.iload_n 1, 1) := by decide +kernel
theorem dX7_areAllOn_24 : decode cX7_areAllOn 24 = .ok (.iload 5, 2) := by decide +kernel
theorem dX7_areAllOn_26 : decode cX7_areAllOn 26 = .ok (.invokevirtual 88, 3) := by decide +kernel
theorem dX7_areAllOn_29 : decode cX7_areAllOn 29 = .ok (.ifCond .eq 21, 3) := by decide +kernel
theorem dX7_areAllOn_32 : decode cX7_areAllOn 32 = .ok (.aload_n 0, 1) := by decide +kernel
theorem dX7_areAllOn_33 : decode cX7_areAllOn 33 = .ok (.iload_n 2, 1) := by decide +kernel
theorem dX7_areAllOn_34 : decode cX7_areAllOn 34 = .ok (.iload_n 3, 1) := by decide +kernel
theorem dX7_areAllOn_35 : decode cX7_areAllOn 35 = .ok (.imul, 1) := by decide +kernel
theorem dX7_areAllOn_36 : decode cX7_areAllOn 36 = .ok (.aload_n 0, 1) := by decide +kernel
theorem dX7_areAllOn_37 : decode cX7_areAllOn 37 = .ok (.getfield 25, 3) := by decide +kernel
theorem dX7_areAllOn_40 : decode cX7_areAllOn 40 = .ok (.iload 5, 2) := by decide +kernel
theorem dX7_areAllOn_42 : decode cX7_areAllOn 42 = .ok (.iaload, 1) := by decide +kernel
theorem dX7_areAllOn_43 : decode cX7_areAllOn 43 = .ok (.isub, 1) := by decide +kernel
theorem dX7_areAllOn_44 : decode cX7_areAllOn 44 = .ok (.invokevirtual 98, 3) := by decide +kernel
theorem dX7_areAllOn_47 : decode cX7_areAllOn 47 = .ok (.ifCond .eq 7, 3) := by decide +kernel
theorem dX7_areAllOn_50 : decode cX7_areAllOn 50 = .ok (.iconst 1, 1) := by decide +kernel
theorem dX7_areAllOn_51 : decode cX7_areAllOn 51 = .ok (.goto 4, 3) := by decide +kernel
theorem dX7_areAllOn_54 : decode cX7_areAllOn 54 = .ok (.iconst 0, 1) := by decide +kernel
theorem dX7_areAllOn_55 : decode cX7_areAllOn 55 = .ok (.istore 4, 2) := by decide +kernel
theorem dX7_areAllOn_57 : decode cX7_areAllOn 57 = .ok (.iinc 5 1, 3) := by decide +kernel
theorem dX7_areAllOn_60 : decode cX7_areAllOn 60 = .ok (.goto (-54), 3) := by decide +kernel
theorem dX7_areAllOn_63 : decode cX7_areAllOn 63 = .ok (.iload 4, 2) := by decide +kernel
theorem dX7_areAllOn_65 : decode cX7_areAllOn 65 = .ok (.ireturn, 1) := by decide +kernel
theorem dX7_reason_0 : decode cX7_reason 0 = .ok (.aload_n 0, 1) := by decide +kernel
theorem dX7_reason_1 : decode cX7_reason 1 = .ok (.getfield 118, 3) := by decide +kernel
theorem dX7_reason_4 : decode cX7_reason 4 = .ok (.bipush 120, 2) := by decide +kernel
theorem dX7_reason_6 : decode cX7_reason 6 = .ok (.if_icmp .le 5, 3) := by decide +kernel
theorem dX7_reason_9 : decode cX7_reason 9 = .ok (.iconst 1, 1) := by decide +kernel
theorem dX7_reason_10 : decode cX7_reason 10 = .ok (.ireturn, 1) := by decide +kernel
theorem dX7_reason_11 : decode cX7_reason 11 = .ok (.aload_n 0, 1) := by decide +kernel
theorem dX7_reason_12 : decode cX7_reason 12 = .ok (.getfield 101, 3) := by decide +kernel
theorem dX7_reason_15 : decode cX7_reason 15 = .ok (.ifCond .ne 5, 3) := by decide +kernel
theorem dX7_reason_18 : decode cX7_reason 18 = .ok (.iconst 2, 1) := by decide +kernel
theorem dX7_reason_19 : decode cX7_reason 19 = .ok (.ireturn, 1) := by decide +kernel
theorem dX7_reason_20 : decode cX7_reason 20 = .ok (.aload_n 0, 1) := by decide +kernel
theorem dX7_reason_21 : decode cX7_reason 21 = .ok (.iload_n 1, 1) := by decide +kernel
theorem dX7_reason_22 : decode cX7_reason 22 = .ok (.iload_n 2, 1) := by decide +kernel
theorem dX7_reason_23 : decode cX7_reason 23 = .ok (.aload_n 0, 1) := by decide +kernel
theorem dX7_reason_24 : decode cX7_reason 24 = .ok (.getfield 107, 3) := by decide +kernel
theorem dX7_reason_27 : decode cX7_reason 27 = .ok (.invokevirtual 141, 3) := by decide +kernel
theorem dX7_reason_30 : decode cX7_reason 30 = .ok (.ifCond .ne 17, 3) := by decide +kernel
theorem dX7_reason_33 : decode cX7_reason 33 = .ok (.aload_n 0, 1) := by decide +kernel
theorem dX7_reason_34 : decode cX7_reason 34 = .ok (.iload_n 1, 1) := by decide +kernel
theorem dX7_reason_35 : decode cX7_reason 35 = .ok (.iload_n 2, 1) := by decide +kernel
theorem dX7_reason_36 : decode cX7_reason 36 = .ok (.invokevirtual 144, 3) := by decide +kernel
theorem dX7_reason_39 : decode cX7_reason 39 = .ok (.iconst 1, 1) := by decide +kernel
theorem dX7_reason_40 : decode cX7_reason 40 = .ok (.if_icmp .le 7, 3) := by decide +kernel
theorem dX7_reason_43 : decode cX7_reason 43 = .ok (.iconst 3, 1) := by decide +kernel
theorem dX7_reason_44 : decode cX7_reason 44 = .ok (.goto 4, 3) := by decide +kernel
theorem dX7_reason_47 : decode cX7_reason 47 = .ok (.iconst 0, 1) := by decide +kernel
theorem dX7_reason_48 : decode cX7_reason 48 = .ok (.ireturn, 1) := by decide +kernel
theorem dX7_run_0 : decode cX7_run 0 = .ok (.aload_n 0, 1) := by decide +kernel
theorem dX7_run_1 : decode cX7_run 1 = .ok (.iload_n 1, 1) := by decide +kernel
theorem dX7_run_2 : decode cX7_run 2 = .ok (.invokevirtual 50, 3) := by decide +kernel
theorem dX7_run_5 : decode cX7_run 5 = .ok (.ifCond .ne 5, 3) := by decide +kernel
theorem dX7_run_8 : decode cX7_run 8 = .ok (.iconst (-1), 1) := by decide +kernel
theorem dX7_run_9 : decode cX7_run 9 = .ok (.ireturn, 1) := by decide +kernel
theorem dX7_run_10 : decode cX7_run 10 = .ok (.iload_n 2, 1) := by decide +kernel
theorem dX7_run_11 : decode cX7_run 11 = .ok (.iconst 1, 1) := by decide +kernel
theorem dX7_run_12 : decode cX7_run 12 = .ok (.bipush 9, 2) := by decide +kernel
theorem dX7_run_14 : decode cX7_run 14 = .ok (.invokestatic 46, 3) := by decide +kernel
theorem dX7_run_17 : decode cX7_run 17 = .ok (.ifCond .ne 6, 3) := by decide +kernel
theorem dX7_run_20 : decode cX7_run 20 = .ok (.bipush (-2), 2) := by decide +kernel
theorem dX7_run_22 : decode cX7_run 22 = .ok (.ireturn, 1) := by decide +kernel
theorem dX7_run_23 : decode cX7_run 23 = .ok (.aload_n 0, 1) := by decide +kernel
theorem dX7_run_24 : decode cX7_run 24 = .ok (.invokevirtual 70, 3) := by decide +kernel
theorem dX7_run_27 : decode cX7_run 27 = .ok (.aload_n 0, 1) := by decide +kernel
theorem dX7_run_28 : decode cX7_run 28 = .ok (.iload_n 1, 1) := by decide +kernel
theorem dX7_run_29 : decode cX7_run 29 = .ok (.iload_n 2, 1) := by decide +kernel
theorem dX7_run_30 : decode cX7_run 30 = .ok (.invokevirtual 147, 3) := by decide +kernel
theorem dX7_run_33 : decode cX7_run 33 = .ok (.aload_n 0, 1) := by decide +kernel
theorem dX7_run_34 : decode cX7_run 34 = .ok (.iload_n 1, 1) := by decide +kernel
theorem dX7_run_35 : decode cX7_run 35 = .ok (.iload_n 2, 1) := by decide +kernel
theorem dX7_run_36 : decode cX7_run 36 = .ok (.invokevirtual 151, 3) := by decide +kernel
theorem dX7_run_39 : decode cX7_run 39 = .ok (.istore_n 3, 1) := by decide +kernel
theorem dX7_run_40 : decode cX7_run 40 = .ok (.aload_n 0, 1) := by decide +kernel
theorem dX7_run_41 : decode cX7_run 41 = .ok (.iload_n 1, 1) := by decide +kernel
theorem dX7_run_42 : decode cX7_run 42 = .ok (.iconst 2, 1) := by decide +kernel
theorem dX7_run_43 : decode cX7_run 43 = .ok (.iload_n 3, 1) := by decide +kernel
theorem dX7_run_44 : decode cX7_run 44 = .ok (.ifCond .ne 10, 3) := by decide +kernel
theorem dX7_run_47 : decode cX7_run 47 = .ok (.aload_n 0, 1) := by decide +kernel
theorem dX7_run_48 : decode cX7_run 48 = .ok (.getfield 104, 3) := by decide +kernel
theorem dX7_run_51 : decode cX7_run 51 = .ok (.goto 5, 3) := by decide +kernel
theorem dX7_run_54 : decode cX7_run 54 = .ok (.bipush (-5), 2) := by decide +kernel
theorem dX7_run_56 : decode cX7_run 56 = .ok (.invokevirtual 73, 3) := by decide +kernel
theorem dX7_run_59 : decode cX7_run 59 = .ok (.aload_n 0, 1) := by decide +kernel
theorem dX7_run_60 : decode cX7_run 60 = .ok (.iload_n 1, 1) := by decide +kernel
theorem dX7_run_61 : decode cX7_run 61 = .ok (.iconst 3, 1) := by decide +kernel
theorem dX7_run_62 : decode cX7_run 62 = .ok (.iload_n 2, 1) := by decide +kernel
theorem dX7_run_63 : decode cX7_run 63 = .ok (.invokevirtual 73, 3) := by decide +kernel
theorem dX7_run_66 : decode cX7_run 66 = .ok (.aload_n 0, 1) := by decide +kernel
theorem dX7_run_67 : decode cX7_run 67 = .ok (.iload_n 1, 1) := by decide +kernel
theorem dX7_run_68 : decode cX7_run 68 = .ok (.iconst 4, 1) := by decide +kernel
theorem dX7_run_69 : decode cX7_run 69 = .ok (.aload_n 0, 1) := by decide +kernel
theorem dX7_run_70 : decode cX7_run 70 = .ok (.iload_n 1, 1) := by decide +kernel
theorem dX7_run_71 : decode cX7_run 71 = .ok (.iload_n 2, 1) := by decide +kernel
theorem dX7_run_72 : decode cX7_run 72 = .ok (.invokevirtual 144, 3) := by decide +kernel
theorem dX7_run_75 : decode cX7_run 75 = .ok (.invokevirtual 73, 3) := by decide +kernel
theorem dX7_run_78 : decode cX7_run 78 = .ok (.aload_n 0, 1) := by decide +kernel
theorem dX7_run_79 : decode cX7_run 79 = .ok (.getfield 7, 3) := by decide +kernel
theorem dX7_run_82 : decode cX7_run 82 = .ok (.bipush 7, 2) := by decide +kernel
theorem dX7_run_84 : decode cX7_run 84 = .ok (.dup2, 1) := by decide +kernel
theorem dX7_run_85 : decode cX7_run 85 = .ok (.iaload, 1) := by decide +kernel
theorem dX7_run_86 : decode cX7_run 86 = .ok (.iconst 1, 1) := by decide +kernel
theorem dX7_run_87 : decode cX7_run 87 = .ok (.iadd, 1) := by decide +kernel
theorem dX7_run_88 : decode cX7_run 88 = .ok (.iastore, 1) := by decide +kernel
theorem dX7_run_89 : decode cX7_run 89 = .ok (.aload_n 0, 1) := by decide +kernel
theorem dX7_run_90 : decode cX7_run 90 = .ok (.getfield 7, 3) := by decide +kernel
theorem dX7_run_93 : decode cX7_run 93 = .ok (.bipush 8, 2) := by decide +kernel
theorem dX7_run_95 : decode cX7_run 95 = .ok (.dup2, 1) := by decide +kernel
theorem dX7_run_96 : decode cX7_run 96 = .ok (.iaload, 1) := by decide +kernel
theorem dX7_run_97 : decode cX7_run 97 = .ok (.iload_n 3, 1) := by decide +kernel
theorem dX7_run_98 : decode cX7_run 98 = .ok (.ifCond .ne 7, 3) := by decide +kernel
theorem dX7_run_101 : decode cX7_run 101 = .ok (.iconst 1, 1) := by decide +kernel
theorem dX7_run_102 : decode cX7_run 102 = .ok (.goto 4, 3) := by decide +kernel
theorem dX7_run_105 : decode cX7_run 105 = .ok (.iconst 0, 1) := by decide +kernel
theorem dX7_run_106 : decode cX7_run 106 = .ok (.iadd, 1) := by decide +kernel
theorem dX7_run_107 : decode cX7_run 107 = .ok (.iastore, 1) := by decide +kernel
theorem dX7_run_108 : decode cX7_run 108 = .ok (.iload_n 3, 1) := by decide +kernel
theorem dX7_run_109 : decode cX7_run 109 = .ok (.ifCond .ne 10, 3) := by decide +kernel
theorem dX7_run_112 : decode cX7_run 112 = .ok (.aload_n 0, 1) := by decide +kernel
theorem dX7_run_113 : decode cX7_run 113 = .ok (.getfield 104, 3) := by decide +kernel
theorem dX7_run_116 : decode cX7_run 116 = .ok (.goto 7, 3) := by decide +kernel
theorem dX7_run_119 : decode cX7_run 119 = .ok (.bipush (-10), 2) := by decide +kernel
theorem dX7_run_121 : decode cX7_run 121 = .ok (.iload_n 3, 1) := by decide +kernel
theorem dX7_run_122 : decode cX7_run 122 = .ok (.isub, 1) := by decide +kernel
theorem dX7_run_123 : decode cX7_run 123 = .ok (.ireturn, 1) := by decide +kernel
theorem dX7_tare_0 : decode cX7_tare 0 = .ok (.aload_n 0, 1) := by decide +kernel
theorem dX7_tare_1 : decode cX7_tare 1 = .ok (.iload_n 1, 1) := by decide +kernel
theorem dX7_tare_2 : decode cX7_tare 2 = .ok (.invokevirtual 50, 3) := by decide +kernel
theorem dX7_tare_5 : decode cX7_tare 5 = .ok (.ifCond .ne 5, 3) := by decide +kernel
theorem dX7_tare_8 : decode cX7_tare 8 = .ok (.iconst (-1), 1) := by decide +kernel
theorem dX7_tare_9 : decode cX7_tare 9 = .ok (.ireturn, 1) := by decide +kernel
theorem dX7_tare_10 : decode cX7_tare 10 = .ok (.aload_n 0, 1) := by decide +kernel
theorem dX7_tare_11 : decode cX7_tare 11 = .ok (.iload_n 1, 1) := by decide +kernel
theorem dX7_tare_12 : decode cX7_tare 12 = .ok (.iconst 2, 1) := by decide +kernel
theorem dX7_tare_13 : decode cX7_tare 13 = .ok (.invokevirtual 54, 3) := by decide +kernel
theorem dX7_tare_16 : decode cX7_tare 16 = .ok (.istore_n 2, 1) := by decide +kernel
theorem dX7_tare_17 : decode cX7_tare 17 = .ok (.iload_n 2, 1) := by decide +kernel
theorem dX7_tare_18 : decode cX7_tare 18 = .ok (.bipush (-5), 2) := by decide +kernel
theorem dX7_tare_20 : decode cX7_tare 20 = .ok (.if_icmp .ne 6, 3) := by decide +kernel
theorem dX7_tare_23 : decode cX7_tare 23 = .ok (.bipush (-4), 2) := by decide +kernel
theorem dX7_tare_25 : decode cX7_tare 25 = .ok (.ireturn, 1) := by decide +kernel
theorem dX7_tare_26 : decode cX7_tare 26 = .ok (.iload_n 2, 1) := by decide +kernel
theorem dX7_tare_27 : decode cX7_tare 27 = .ok (.aload_n 0, 1) := by decide +kernel
theorem dX7_tare_28 : decode cX7_tare 28 = .ok (.iload_n 1, 1) := by decide +kernel
theorem dX7_tare_29 : decode cX7_tare 29 = .ok (.iconst 1, 1) := by decide +kernel
theorem dX7_tare_30 : decode cX7_tare 30 = .ok (.invokevirtual 54, 3) := by decide +kernel
theorem dX7_tare_33 : decode cX7_tare 33 = .ok (.if_icmp .ne 6, 3) := by decide +kernel
theorem dX7_tare_36 : decode cX7_tare 36 = .ok (.bipush (-5), 2) := by decide +kernel
theorem dX7_tare_38 : decode cX7_tare 38 = .ok (.ireturn, 1) := by decide +kernel
theorem dX7_tare_39 : decode cX7_tare 39 = .ok (.aload_n 0, 1) := by decide +kernel
theorem dX7_tare_40 : decode cX7_tare 40 = .ok (.invokevirtual 70, 3) := by decide +kernel
theorem dX7_tare_43 : decode cX7_tare 43 = .ok (.aload_n 0, 1) := by decide +kernel
theorem dX7_tare_44 : decode cX7_tare 44 = .ok (.iload_n 1, 1) := by decide +kernel
theorem dX7_tare_45 : decode cX7_tare 45 = .ok (.iconst 1, 1) := by decide +kernel
theorem dX7_tare_46 : decode cX7_tare 46 = .ok (.iload_n 2, 1) := by decide +kernel
theorem dX7_tare_47 : decode cX7_tare 47 = .ok (.invokevirtual 73, 3) := by decide +kernel
theorem dX7_tare_50 : decode cX7_tare 50 = .ok (.iload_n 2, 1) := by decide +kernel
theorem dX7_tare_51 : decode cX7_tare 51 = .ok (.ireturn, 1) := by decide +kernel
theorem dX7_isValue_0 : decode cX7_isValue 0 = .ok (.iload_n 0, 1) := by decide +kernel
theorem dX7_isValue_1 : decode cX7_isValue 1 = .ok (.tableswitch 88 0 5 #[39, 48, 56, 64, 72, 80], 39) := by decide +kernel
theorem dX7_isValue_40 : decode cX7_isValue 40 = .ok (.iload_n 1, 1) := by decide +kernel
theorem dX7_isValue_41 : decode cX7_isValue 41 = .ok (.bipush 10, 2) := by decide +kernel
theorem dX7_isValue_43 : decode cX7_isValue 43 = .ok (.bipush 90, 2) := by decide +kernel
theorem dX7_isValue_45 : decode cX7_isValue 45 = .ok (.invokestatic 46, 3) := by decide +kernel
theorem dX7_isValue_48 : decode cX7_isValue 48 = .ok (.ireturn, 1) := by decide +kernel
theorem dX7_isValue_49 : decode cX7_isValue 49 = .ok (.iload_n 1, 1) := by decide +kernel
theorem dX7_isValue_50 : decode cX7_isValue 50 = .ok (.iconst 0, 1) := by decide +kernel
theorem dX7_isValue_51 : decode cX7_isValue 51 = .ok (.bipush 100, 2) := by decide +kernel
theorem dX7_isValue_53 : decode cX7_isValue 53 = .ok (.invokestatic 46, 3) := by decide +kernel
theorem dX7_isValue_56 : decode cX7_isValue 56 = .ok (.ireturn, 1) := by decide +kernel
theorem dX7_isValue_57 : decode cX7_isValue 57 = .ok (.iload_n 1, 1) := by decide +kernel
theorem dX7_isValue_58 : decode cX7_isValue 58 = .ok (.iconst 0, 1) := by decide +kernel
theorem dX7_isValue_59 : decode cX7_isValue 59 = .ok (.bipush 95, 2) := by decide +kernel
theorem dX7_isValue_61 : decode cX7_isValue 61 = .ok (.invokestatic 46, 3) := by decide +kernel
theorem dX7_isValue_64 : decode cX7_isValue 64 = .ok (.ireturn, 1) := by decide +kernel
theorem dX7_isValue_65 : decode cX7_isValue 65 = .ok (.iload_n 1, 1) := by decide +kernel
theorem dX7_isValue_66 : decode cX7_isValue 66 = .ok (.iconst 1, 1) := by decide +kernel
theorem dX7_isValue_67 : decode cX7_isValue 67 = .ok (.bipush 9, 2) := by decide +kernel
theorem dX7_isValue_69 : decode cX7_isValue 69 = .ok (.invokestatic 46, 3) := by decide +kernel
theorem dX7_isValue_72 : decode cX7_isValue 72 = .ok (.ireturn, 1) := by decide +kernel
theorem dX7_isValue_73 : decode cX7_isValue 73 = .ok (.iload_n 1, 1) := by decide +kernel
theorem dX7_isValue_74 : decode cX7_isValue 74 = .ok (.iconst 0, 1) := by decide +kernel
theorem dX7_isValue_75 : decode cX7_isValue 75 = .ok (.bipush 20, 2) := by decide +kernel
theorem dX7_isValue_77 : decode cX7_isValue 77 = .ok (.invokestatic 46, 3) := by decide +kernel
theorem dX7_isValue_80 : decode cX7_isValue 80 = .ok (.ireturn, 1) := by decide +kernel
theorem dX7_isValue_81 : decode cX7_isValue 81 = .ok (.iload_n 1, 1) := by decide +kernel
theorem dX7_isValue_82 : decode cX7_isValue 82 = .ok (.iconst 4, 1) := by decide +kernel
theorem dX7_isValue_83 : decode cX7_isValue 83 = .ok (.bipush 40, 2) := by decide +kernel
theorem dX7_isValue_85 : decode cX7_isValue 85 = .ok (.invokestatic 46, 3) := by decide +kernel
theorem dX7_isValue_88 : decode cX7_isValue 88 = .ok (.ireturn, 1) := by decide +kernel
theorem dX7_isValue_89 : decode cX7_isValue 89 = .ok (.iconst 0, 1) := by decide +kernel
theorem dX7_isValue_90 : decode cX7_isValue 90 = .ok (.ireturn, 1) := by decide +kernel
theorem dX7_set_0 : decode cX7_set 0 = .ok (.iload_n 1, 1) := by decide +kernel
theorem dX7_set_1 : decode cX7_set 1 = .ok (.iload_n 2, 1) := by decide +kernel
theorem dX7_set_2 : decode cX7_set 2 = .ok (.invokestatic 154, 3) := by decide +kernel
theorem dX7_set_5 : decode cX7_set 5 = .ok (.ifCond .ne 6, 3) := by decide +kernel
theorem dX7_set_8 : decode cX7_set 8 = .ok (.bipush (-2), 2) := by decide +kernel
theorem dX7_set_10 : decode cX7_set 10 = .ok (.ireturn, 1) := by decide +kernel
theorem dX7_set_11 : decode cX7_set 11 = .ok (.aload_n 0, 1) := by decide +kernel
theorem dX7_set_12 : decode cX7_set 12 = .ok (.getfield 7, 3) := by decide +kernel
theorem dX7_set_15 : decode cX7_set 15 = .ok (.iload_n 1, 1) := by decide +kernel
theorem dX7_set_16 : decode cX7_set 16 = .ok (.iaload, 1) := by decide +kernel
theorem dX7_set_17 : decode cX7_set 17 = .ok (.istore_n 3, 1) := by decide +kernel
theorem dX7_set_18 : decode cX7_set 18 = .ok (.iload_n 3, 1) := by decide +kernel
theorem dX7_set_19 : decode cX7_set 19 = .ok (.iload_n 2, 1) := by decide +kernel
theorem dX7_set_20 : decode cX7_set 20 = .ok (.if_icmp .ne 6, 3) := by decide +kernel
theorem dX7_set_23 : decode cX7_set 23 = .ok (.bipush (-5), 2) := by decide +kernel
theorem dX7_set_25 : decode cX7_set 25 = .ok (.ireturn, 1) := by decide +kernel
theorem dX7_set_26 : decode cX7_set 26 = .ok (.aload_n 0, 1) := by decide +kernel
theorem dX7_set_27 : decode cX7_set 27 = .ok (.invokevirtual 70, 3) := by decide +kernel
theorem dX7_set_30 : decode cX7_set 30 = .ok (.aload_n 0, 1) := by decide +kernel
theorem dX7_set_31 : decode cX7_set 31 = .ok (.getfield 7, 3) := by decide +kernel
theorem dX7_set_34 : decode cX7_set 34 = .ok (.iload_n 1, 1) := by decide +kernel
theorem dX7_set_35 : decode cX7_set 35 = .ok (.iload_n 2, 1) := by decide +kernel
theorem dX7_set_36 : decode cX7_set 36 = .ok (.iastore, 1) := by decide +kernel
theorem dX7_set_37 : decode cX7_set 37 = .ok (.iload_n 3, 1) := by decide +kernel
theorem dX7_set_38 : decode cX7_set 38 = .ok (.ireturn, 1) := by decide +kernel
theorem dX7_type_0 : decode cX7_type 0 = .ok (.aload_n 0, 1) := by decide +kernel
theorem dX7_type_1 : decode cX7_type 1 = .ok (.getfield 157, 3) := by decide +kernel
theorem dX7_type_4 : decode cX7_type 4 = .ok (.bipush 60, 2) := by decide +kernel
theorem dX7_type_6 : decode cX7_type 6 = .ok (.if_icmp .ne 6, 3) := by decide +kernel
theorem dX7_type_9 : decode cX7_type 9 = .ok (.bipush (-3), 2) := by decide +kernel
theorem dX7_type_11 : decode cX7_type 11 = .ok (.ireturn, 1) := by decide +kernel
theorem dX7_type_12 : decode cX7_type 12 = .ok (.aload_n 0, 1) := by decide +kernel
theorem dX7_type_13 : decode cX7_type 13 = .ok (.getfield 19, 3) := by decide +kernel
theorem dX7_type_16 : decode cX7_type 16 = .ok (.aload_n 0, 1) := by decide +kernel
theorem dX7_type_17 : decode cX7_type 17 = .ok (.getfield 157, 3) := by decide +kernel
theorem dX7_type_20 : decode cX7_type 20 = .ok (.iload_n 1, 1) := by decide +kernel
theorem dX7_type_21 : decode cX7_type 21 = .ok (.iastore, 1) := by decide +kernel
theorem dX7_type_22 : decode cX7_type 22 = .ok (.aload_n 0, 1) := by decide +kernel
theorem dX7_type_23 : decode cX7_type 23 = .ok (.dup, 1) := by decide +kernel
theorem dX7_type_24 : decode cX7_type 24 = .ok (.getfield 157, 3) := by decide +kernel
theorem dX7_type_27 : decode cX7_type 27 = .ok (.iconst 1, 1) := by decide +kernel
theorem dX7_type_28 : decode cX7_type 28 = .ok (.iadd, 1) := by decide +kernel
theorem dX7_type_29 : decode cX7_type 29 = .ok (.putfield 157, 3) := by decide +kernel
theorem dX7_type_32 : decode cX7_type 32 = .ok (.aload_n 0, 1) := by decide +kernel
theorem dX7_type_33 : decode cX7_type 33 = .ok (.getfield 157, 3) := by decide +kernel
theorem dX7_type_36 : decode cX7_type 36 = .ok (.ireturn, 1) := by decide +kernel
theorem dX7_clearText_0 : decode cX7_clearText 0 = .ok (.aload_n 0, 1) := by decide +kernel
theorem dX7_clearText_1 : decode cX7_clearText 1 = .ok (.getfield 157, 3) := by decide +kernel
theorem dX7_clearText_4 : decode cX7_clearText 4 = .ok (.istore_n 1, 1) := by decide +kernel
theorem dX7_clearText_5 : decode cX7_clearText 5 = .ok (.aload_n 0, 1) := by decide +kernel
theorem dX7_clearText_6 : decode cX7_clearText 6 = .ok (.iconst 0, 1) := by decide +kernel
theorem dX7_clearText_7 : decode cX7_clearText 7 = .ok (.putfield 157, 3) := by decide +kernel
theorem dX7_clearText_10 : decode cX7_clearText 10 = .ok (.iload_n 1, 1) := by decide +kernel
theorem dX7_clearText_11 : decode cX7_clearText 11 = .ok (.ireturn, 1) := by decide +kernel
theorem dX7_sees_0 : decode cX7_sees 0 = .ok (.aload_n 0, 1) := by decide +kernel
theorem dX7_sees_1 : decode cX7_sees 1 = .ok (.getfield 160, 3) := by decide +kernel
theorem dX7_sees_4 : decode cX7_sees 4 = .ok (.aload_n 0, 1) := by decide +kernel
theorem dX7_sees_5 : decode cX7_sees 5 = .ok (.getfield 157, 3) := by decide +kernel
theorem dX7_sees_8 : decode cX7_sees 8 = .ok (.if_icmp .ge 24, 3) := by decide +kernel
theorem dX7_sees_11 : decode cX7_sees 11 = .ok (.aload_n 0, 1) := by decide +kernel
theorem dX7_sees_12 : decode cX7_sees 12 = .ok (.getfield 19, 3) := by decide +kernel
theorem dX7_sees_15 : decode cX7_sees 15 = .ok (.aload_n 0, 1) := by decide +kernel
theorem dX7_sees_16 : decode cX7_sees 16 = .ok (.getfield 160, 3) := by decide +kernel
theorem dX7_sees_19 : decode cX7_sees 19 = .ok (.iaload, 1) := by decide +kernel
theorem dX7_sees_20 : decode cX7_sees 20 = .ok (.iload_n 1, 1) := by decide +kernel
theorem dX7_sees_21 : decode cX7_sees 21 = .ok (.iload_n 2, 1) := by decide +kernel
theorem dX7_sees_22 : decode cX7_sees 22 = .ok (.invokestatic 46, 3) := by decide +kernel
theorem dX7_sees_25 : decode cX7_sees 25 = .ok (.ifCond .eq 7, 3) := by decide +kernel
theorem dX7_sees_28 : decode cX7_sees 28 = .ok (.iconst 1, 1) := by decide +kernel
theorem dX7_sees_29 : decode cX7_sees 29 = .ok (.goto 4, 3) := by decide +kernel
theorem dX7_sees_32 : decode cX7_sees 32 = .ok (.iconst 0, 1) := by decide +kernel
theorem dX7_sees_33 : decode cX7_sees 33 = .ok (.ireturn, 1) := by decide +kernel
theorem dX7_takes_0 : decode cX7_takes 0 = .ok (.aload_n 0, 1) := by decide +kernel
theorem dX7_takes_1 : decode cX7_takes 1 = .ok (.iload_n 1, 1) := by decide +kernel
theorem dX7_takes_2 : decode cX7_takes 2 = .ok (.iload_n 1, 1) := by decide +kernel
theorem dX7_takes_3 : decode cX7_takes 3 = .ok (.invokevirtual 163, 3) := by decide +kernel
theorem dX7_takes_6 : decode cX7_takes 6 = .ok (.istore_n 2, 1) := by decide +kernel
theorem dX7_takes_7 : decode cX7_takes 7 = .ok (.aload_n 0, 1) := by decide +kernel
theorem dX7_takes_8 : decode cX7_takes 8 = .ok (.dup, 1) := by decide +kernel
theorem dX7_takes_9 : decode cX7_takes 9 = .ok (.getfield 160, 3) := by decide +kernel
theorem dX7_takes_12 : decode cX7_takes 12 = .ok (.iload_n 2, 1) := by decide +kernel
theorem dX7_takes_13 : decode cX7_takes 13 = .ok (.ifCond .eq 7, 3) := by decide +kernel
theorem dX7_takes_16 : decode cX7_takes 16 = .ok (.iconst 1, 1) := by decide +kernel
theorem dX7_takes_17 : decode cX7_takes 17 = .ok (.goto 4, 3) := by decide +kernel
theorem dX7_takes_20 : decode cX7_takes 20 = .ok (.iconst 0, 1) := by decide +kernel
theorem dX7_takes_21 : decode cX7_takes 21 = .ok (.iadd, 1) := by decide +kernel
theorem dX7_takes_22 : decode cX7_takes 22 = .ok (.putfield 160, 3) := by decide +kernel
theorem dX7_takes_25 : decode cX7_takes 25 = .ok (.iload_n 2, 1) := by decide +kernel
theorem dX7_takes_26 : decode cX7_takes 26 = .ok (.ireturn, 1) := by decide +kernel
theorem dX7_number_0 : decode cX7_number 0 = .ok (.aload_n 0, 1) := by decide +kernel
theorem dX7_number_1 : decode cX7_number 1 = .ok (.bipush 49, 2) := by decide +kernel
theorem dX7_number_3 : decode cX7_number 3 = .ok (.bipush 57, 2) := by decide +kernel
theorem dX7_number_5 : decode cX7_number 5 = .ok (.invokevirtual 163, 3) := by decide +kernel
theorem dX7_number_8 : decode cX7_number 8 = .ok (.ifCond .ne 6, 3) := by decide +kernel
theorem dX7_number_11 : decode cX7_number 11 = .ok (.bipush (-5), 2) := by decide +kernel
theorem dX7_number_13 : decode cX7_number 13 = .ok (.ireturn, 1) := by decide +kernel
theorem dX7_number_14 : decode cX7_number 14 = .ok (.iconst 0, 1) := by decide +kernel
theorem dX7_number_15 : decode cX7_number 15 = .ok (.istore_n 3, 1) := by decide +kernel
theorem dX7_number_16 : decode cX7_number 16 = .ok (.aload_n 0, 1) := by decide +kernel
theorem dX7_number_17 : decode cX7_number 17 = .ok (.bipush 48, 2) := by decide +kernel
theorem dX7_number_19 : decode cX7_number 19 = .ok (.bipush 57, 2) := by decide +kernel
theorem dX7_number_21 : decode cX7_number 21 = .ok (.invokevirtual 163, 3) := by decide +kernel
theorem dX7_number_24 : decode cX7_number 24 = .ok (.ifCond .eq 55, 3) := by decide +kernel
theorem dX7_number_27 : decode cX7_number 27 = .ok (.bipush 10, 2) := by decide +kernel
theorem dX7_number_29 : decode cX7_number 29 = .ok (.iload_n 3, 1) := by decide +kernel
theorem dX7_number_30 : decode cX7_number 30 = .ok (.imul, 1) := by decide +kernel
theorem dX7_number_31 : decode cX7_number 31 = .ok (.aload_n 0, 1) := by decide +kernel
theorem dX7_number_32 : decode cX7_number 32 = .ok (.getfield 19, 3) := by decide +kernel
theorem dX7_number_35 : decode cX7_number 35 = .ok (.aload_n 0, 1) := by decide +kernel
theorem dX7_number_36 : decode cX7_number 36 = .ok (.getfield 160, 3) := by decide +kernel
theorem dX7_number_39 : decode cX7_number 39 = .ok (.iaload, 1) := by decide +kernel
theorem dX7_number_40 : decode cX7_number 40 = .ok (.iadd, 1) := by decide +kernel
theorem dX7_number_41 : decode cX7_number 41 = .ok (.bipush 48, 2) := by decide +kernel
theorem dX7_number_43 : decode cX7_number 43 = .ok (.isub, 1) := by decide +kernel
theorem dX7_number_44 : decode cX7_number 44 = .ok (.iload_n 2, 1) := by decide +kernel
theorem dX7_number_45 : decode cX7_number 45 = .ok (.if_icmp .gt 34, 3) := by decide +kernel
theorem dX7_number_48 : decode cX7_number 48 = .ok (.bipush 10, 2) := by decide +kernel
theorem dX7_number_50 : decode cX7_number 50 = .ok (.iload_n 3, 1) := by decide +kernel
theorem dX7_number_51 : decode cX7_number 51 = .ok (.imul, 1) := by decide +kernel
theorem dX7_number_52 : decode cX7_number 52 = .ok (.aload_n 0, 1) := by decide +kernel
theorem dX7_number_53 : decode cX7_number 53 = .ok (.getfield 19, 3) := by decide +kernel
theorem dX7_number_56 : decode cX7_number 56 = .ok (.aload_n 0, 1) := by decide +kernel
theorem dX7_number_57 : decode cX7_number 57 = .ok (.getfield 160, 3) := by decide +kernel
theorem dX7_number_60 : decode cX7_number 60 = .ok (.iaload, 1) := by decide +kernel
theorem dX7_number_61 : decode cX7_number 61 = .ok (.iadd, 1) := by decide +kernel
theorem dX7_number_62 : decode cX7_number 62 = .ok (.bipush 48, 2) := by decide +kernel
theorem dX7_number_64 : decode cX7_number 64 = .ok (.isub, 1) := by decide +kernel
theorem dX7_number_65 : decode cX7_number 65 = .ok (.istore_n 3, 1) := by decide +kernel
theorem dX7_number_66 : decode cX7_number 66 = .ok (.aload_n 0, 1) := by decide +kernel
theorem dX7_number_67 : decode cX7_number 67 = .ok (.dup, 1) := by decide +kernel
theorem dX7_number_68 : decode cX7_number 68 = .ok (.getfield 160, 3) := by decide +kernel
theorem dX7_number_71 : decode cX7_number 71 = .ok (.iconst 1, 1) := by decide +kernel
theorem dX7_number_72 : decode cX7_number 72 = .ok (.iadd, 1) := by decide +kernel
theorem dX7_number_73 : decode cX7_number 73 = .ok (.putfield 160, 3) := by decide +kernel
theorem dX7_number_76 : decode cX7_number 76 = .ok (.goto (-60), 3) := by decide +kernel
theorem dX7_number_79 : decode cX7_number 79 = .ok (.iload_n 3, 1) := by decide +kernel
theorem dX7_number_80 : decode cX7_number 80 = .ok (.iload_n 1, 1) := by decide +kernel
theorem dX7_number_81 : decode cX7_number 81 = .ok (.if_icmp .ge 8, 3) := by decide +kernel
theorem dX7_number_84 : decode cX7_number 84 = .ok (.bipush (-5), 2) := by decide +kernel
theorem dX7_number_86 : decode cX7_number 86 = .ok (.goto 4, 3) := by decide +kernel
theorem dX7_number_89 : decode cX7_number 89 = .ok (.iload_n 3, 1) := by decide +kernel
theorem dX7_number_90 : decode cX7_number 90 = .ok (.ireturn, 1) := by decide +kernel
theorem dX7_readCart_0 : decode cX7_readCart 0 = .ok (.bipush 11, 2) := by decide +kernel
theorem dX7_readCart_2 : decode cX7_readCart 2 = .ok (.aload_n 0, 1) := by decide +kernel
theorem dX7_readCart_3 : decode cX7_readCart 3 = .ok (.getfield 166, 3) := by decide +kernel
theorem dX7_readCart_6 : decode cX7_readCart 6 = .ok (.imul, 1) := by decide +kernel
theorem dX7_readCart_7 : decode cX7_readCart 7 = .ok (.istore_n 1, 1) := by decide +kernel
theorem dX7_readCart_8 : decode cX7_readCart 8 = .ok (.aload_n 0, 1) := by decide +kernel
theorem dX7_readCart_9 : decode cX7_readCart 9 = .ok (.iconst 1, 1) := by decide +kernel
theorem dX7_readCart_10 : decode cX7_readCart 10 = .ok (.sipush 200, 3) := by decide +kernel
theorem dX7_readCart_13 : decode cX7_readCart 13 = .ok (.invokevirtual 169, 3) := by decide +kernel
theorem dX7_readCart_16 : decode cX7_readCart 16 = .ok (.istore_n 2, 1) := by decide +kernel
theorem dX7_readCart_17 : decode cX7_readCart 17 = .ok (.aload_n 0, 1) := by decide +kernel
theorem dX7_readCart_18 : decode cX7_readCart 18 = .ok (.getfield 43, 3) := by decide +kernel
theorem dX7_readCart_21 : decode cX7_readCart 21 = .ok (.iload_n 1, 1) := by decide +kernel
theorem dX7_readCart_22 : decode cX7_readCart 22 = .ok (.iconst 1, 1) := by decide +kernel
theorem dX7_readCart_23 : decode cX7_readCart 23 = .ok (.iastore, 1) := by decide +kernel
theorem dX7_readCart_24 : decode cX7_readCart 24 = .ok (.aload_n 0, 1) := by decide +kernel
theorem dX7_readCart_25 : decode cX7_readCart 25 = .ok (.getfield 43, 3) := by decide +kernel
theorem dX7_readCart_28 : decode cX7_readCart 28 = .ok (.iload_n 1, 1) := by decide +kernel
theorem dX7_readCart_29 : decode cX7_readCart 29 = .ok (.iconst 2, 1) := by decide +kernel
theorem dX7_readCart_30 : decode cX7_readCart 30 = .ok (.iadd, 1) := by decide +kernel
theorem dX7_readCart_31 : decode cX7_readCart 31 = .ok (.iload_n 2, 1) := by decide +kernel
theorem dX7_readCart_32 : decode cX7_readCart 32 = .ok (.iastore, 1) := by decide +kernel
theorem dX7_readCart_33 : decode cX7_readCart 33 = .ok (.iload_n 2, 1) := by decide +kernel
theorem dX7_readCart_34 : decode cX7_readCart 34 = .ok (.bipush (-5), 2) := by decide +kernel
theorem dX7_readCart_36 : decode cX7_readCart 36 = .ok (.if_icmp .eq 7, 3) := by decide +kernel
theorem dX7_readCart_39 : decode cX7_readCart 39 = .ok (.iconst 1, 1) := by decide +kernel
theorem dX7_readCart_40 : decode cX7_readCart 40 = .ok (.goto 4, 3) := by decide +kernel
theorem dX7_readCart_43 : decode cX7_readCart 43 = .ok (.iconst 0, 1) := by decide +kernel
theorem dX7_readCart_44 : decode cX7_readCart 44 = .ok (.istore_n 3, 1) := by decide +kernel
theorem dX7_readCart_45 : decode cX7_readCart 45 = .ok (.iload_n 3, 1) := by decide +kernel
theorem dX7_readCart_46 : decode cX7_readCart 46 = .ok (.ifCond .eq 154, 3) := by decide +kernel
theorem dX7_readCart_49 : decode cX7_readCart 49 = .ok (.aload_n 0, 1) := by decide +kernel
theorem dX7_readCart_50 : decode cX7_readCart 50 = .ok (.getfield 43, 3) := by decide +kernel
theorem dX7_readCart_53 : decode cX7_readCart 53 = .ok (.iload_n 1, 1) := by decide +kernel
theorem dX7_readCart_54 : decode cX7_readCart 54 = .ok (.iaload, 1) := by decide +kernel
theorem dX7_readCart_55 : decode cX7_readCart 55 = .ok (.iconst 5, 1) := by decide +kernel
theorem dX7_readCart_56 : decode cX7_readCart 56 = .ok (.if_icmp .ge 144, 3) := by decide +kernel
theorem dX7_readCart_59 : decode cX7_readCart 59 = .ok (.aload_n 0, 1) := by decide +kernel
theorem dX7_readCart_60 : decode cX7_readCart 60 = .ok (.bipush 43, 2) := by decide +kernel
theorem dX7_readCart_62 : decode cX7_readCart 62 = .ok (.invokevirtual 172, 3) := by decide +kernel
theorem dX7_readCart_65 : decode cX7_readCart 65 = .ok (.ifCond .eq 135, 3) := by decide +kernel
theorem dX7_readCart_68 : decode cX7_readCart 68 = .ok (.aload_n 0, 1) := by decide +kernel
theorem dX7_readCart_69 : decode cX7_readCart 69 = .ok (.getfield 43, 3) := by decide +kernel
theorem dX7_readCart_72 : decode cX7_readCart 72 = .ok (.iload_n 1, 1) := by decide +kernel
theorem dX7_readCart_73 : decode cX7_readCart 73 = .ok (.iaload, 1) := by decide +kernel
theorem dX7_readCart_74 : decode cX7_readCart 74 = .ok (.istore 4, 2) := by decide +kernel
theorem dX7_readCart_76 : decode cX7_readCart 76 = .ok (.aload_n 0, 1) := by decide +kernel
theorem dX7_readCart_77 : decode cX7_readCart 77 = .ok (.getfield 43, 3) := by decide +kernel
theorem dX7_readCart_80 : decode cX7_readCart 80 = .ok (.iload_n 1, 1) := by decide +kernel
theorem dX7_readCart_81 : decode cX7_readCart 81 = .ok (.iconst 1, 1) := by decide +kernel
theorem dX7_readCart_82 : decode cX7_readCart 82 = .ok (.iadd, 1) := by decide +kernel
theorem dX7_readCart_83 : decode cX7_readCart 83 = .ok (.iconst 2, 1) := by decide +kernel
theorem dX7_readCart_84 : decode cX7_readCart 84 = .ok (.iload 4, 2) := by decide +kernel
theorem dX7_readCart_86 : decode cX7_readCart 86 = .ok (.imul, 1) := by decide +kernel
theorem dX7_readCart_87 : decode cX7_readCart 87 = .ok (.iadd, 1) := by decide +kernel
theorem dX7_readCart_88 : decode cX7_readCart 88 = .ok (.aload_n 0, 1) := by decide +kernel
theorem dX7_readCart_89 : decode cX7_readCart 89 = .ok (.iconst 2, 1) := by decide +kernel
theorem dX7_readCart_90 : decode cX7_readCart 90 = .ok (.bipush 40, 2) := by decide +kernel
theorem dX7_readCart_92 : decode cX7_readCart 92 = .ok (.invokevirtual 169, 3) := by decide +kernel
theorem dX7_readCart_95 : decode cX7_readCart 95 = .ok (.iastore, 1) := by decide +kernel
theorem dX7_readCart_96 : decode cX7_readCart 96 = .ok (.aload_n 0, 1) := by decide +kernel
theorem dX7_readCart_97 : decode cX7_readCart 97 = .ok (.getfield 43, 3) := by decide +kernel
theorem dX7_readCart_100 : decode cX7_readCart 100 = .ok (.iload_n 1, 1) := by decide +kernel
theorem dX7_readCart_101 : decode cX7_readCart 101 = .ok (.iconst 1, 1) := by decide +kernel
theorem dX7_readCart_102 : decode cX7_readCart 102 = .ok (.iadd, 1) := by decide +kernel
theorem dX7_readCart_103 : decode cX7_readCart 103 = .ok (.iconst 2, 1) := by decide +kernel
theorem dX7_readCart_104 : decode cX7_readCart 104 = .ok (.iload 4, 2) := by decide +kernel
theorem dX7_readCart_106 : decode cX7_readCart 106 = .ok (.imul, 1) := by decide +kernel
theorem dX7_readCart_107 : decode cX7_readCart 107 = .ok (.iadd, 1) := by decide +kernel
theorem dX7_readCart_108 : decode cX7_readCart 108 = .ok (.iaload, 1) := by decide +kernel
theorem dX7_readCart_109 : decode cX7_readCart 109 = .ok (.bipush (-5), 2) := by decide +kernel
theorem dX7_readCart_111 : decode cX7_readCart 111 = .ok (.if_icmp .eq 16, 3) := by decide +kernel
theorem dX7_readCart_114 : decode cX7_readCart 114 = .ok (.aload_n 0, 1) := by decide +kernel
theorem dX7_readCart_115 : decode cX7_readCart 115 = .ok (.bipush 42, 2) := by decide +kernel
theorem dX7_readCart_117 : decode cX7_readCart 117 = .ok (.invokevirtual 172, 3) := by decide +kernel
theorem dX7_readCart_120 : decode cX7_readCart 120 = .ok (.ifCond .eq 7, 3) := by decide +kernel
theorem dX7_readCart_123 : decode cX7_readCart 123 = .ok (.iconst 1, 1) := by decide +kernel
theorem dX7_readCart_124 : decode cX7_readCart 124 = .ok (.goto 4, 3) := by decide +kernel
theorem dX7_readCart_127 : decode cX7_readCart 127 = .ok (.iconst 0, 1) := by decide +kernel
theorem dX7_readCart_128 : decode cX7_readCart 128 = .ok (.istore_n 3, 1) := by decide +kernel
theorem dX7_readCart_129 : decode cX7_readCart 129 = .ok (.aload_n 0, 1) := by decide +kernel
theorem dX7_readCart_130 : decode cX7_readCart 130 = .ok (.getfield 43, 3) := by decide +kernel
theorem dX7_readCart_133 : decode cX7_readCart 133 = .ok (.iload_n 1, 1) := by decide +kernel
theorem dX7_readCart_134 : decode cX7_readCart 134 = .ok (.iconst 2, 1) := by decide +kernel
theorem dX7_readCart_135 : decode cX7_readCart 135 = .ok (.iadd, 1) := by decide +kernel
theorem dX7_readCart_136 : decode cX7_readCart 136 = .ok (.iconst 2, 1) := by decide +kernel
theorem dX7_readCart_137 : decode cX7_readCart 137 = .ok (.iload 4, 2) := by decide +kernel
theorem dX7_readCart_139 : decode cX7_readCart 139 = .ok (.imul, 1) := by decide +kernel
theorem dX7_readCart_140 : decode cX7_readCart 140 = .ok (.iadd, 1) := by decide +kernel
theorem dX7_readCart_141 : decode cX7_readCart 141 = .ok (.iload_n 3, 1) := by decide +kernel
theorem dX7_readCart_142 : decode cX7_readCart 142 = .ok (.ifCond .eq 14, 3) := by decide +kernel
theorem dX7_readCart_145 : decode cX7_readCart 145 = .ok (.aload_n 0, 1) := by decide +kernel
theorem dX7_readCart_146 : decode cX7_readCart 146 = .ok (.iconst 1, 1) := by decide +kernel
theorem dX7_readCart_147 : decode cX7_readCart 147 = .ok (.sipush 200, 3) := by decide +kernel
theorem dX7_readCart_150 : decode cX7_readCart 150 = .ok (.invokevirtual 169, 3) := by decide +kernel
theorem dX7_readCart_153 : decode cX7_readCart 153 = .ok (.goto 5, 3) := by decide +kernel
theorem dX7_readCart_156 : decode cX7_readCart 156 = .ok (.bipush (-5), 2) := by decide +kernel
theorem dX7_readCart_158 : decode cX7_readCart 158 = .ok (.iastore, 1) := by decide +kernel
theorem dX7_readCart_159 : decode cX7_readCart 159 = .ok (.iload_n 3, 1) := by decide +kernel
theorem dX7_readCart_160 : decode cX7_readCart 160 = .ok (.ifCond .eq 25, 3) := by decide +kernel
theorem dX7_readCart_163 : decode cX7_readCart 163 = .ok (.aload_n 0, 1) := by decide +kernel
theorem dX7_readCart_164 : decode cX7_readCart 164 = .ok (.getfield 43, 3) := by decide +kernel
theorem dX7_readCart_167 : decode cX7_readCart 167 = .ok (.iload_n 1, 1) := by decide +kernel
theorem dX7_readCart_168 : decode cX7_readCart 168 = .ok (.iconst 2, 1) := by decide +kernel
theorem dX7_readCart_169 : decode cX7_readCart 169 = .ok (.iadd, 1) := by decide +kernel
theorem dX7_readCart_170 : decode cX7_readCart 170 = .ok (.iconst 2, 1) := by decide +kernel
theorem dX7_readCart_171 : decode cX7_readCart 171 = .ok (.iload 4, 2) := by decide +kernel
theorem dX7_readCart_173 : decode cX7_readCart 173 = .ok (.imul, 1) := by decide +kernel
theorem dX7_readCart_174 : decode cX7_readCart 174 = .ok (.iadd, 1) := by decide +kernel
theorem dX7_readCart_175 : decode cX7_readCart 175 = .ok (.iaload, 1) := by decide +kernel
theorem dX7_readCart_176 : decode cX7_readCart 176 = .ok (.bipush (-5), 2) := by decide +kernel
theorem dX7_readCart_178 : decode cX7_readCart 178 = .ok (.if_icmp .eq 7, 3) := by decide +kernel
theorem dX7_readCart_181 : decode cX7_readCart 181 = .ok (.iconst 1, 1) := by decide +kernel
theorem dX7_readCart_182 : decode cX7_readCart 182 = .ok (.goto 4, 3) := by decide +kernel
theorem dX7_readCart_185 : decode cX7_readCart 185 = .ok (.iconst 0, 1) := by decide +kernel
theorem dX7_readCart_186 : decode cX7_readCart 186 = .ok (.istore_n 3, 1) := by decide +kernel
theorem dX7_readCart_187 : decode cX7_readCart 187 = .ok (.aload_n 0, 1) := by decide +kernel
theorem dX7_readCart_188 : decode cX7_readCart 188 = .ok (.getfield 43, 3) := by decide +kernel
theorem dX7_readCart_191 : decode cX7_readCart 191 = .ok (.iload_n 1, 1) := by decide +kernel
theorem dX7_readCart_192 : decode cX7_readCart 192 = .ok (.dup2, 1) := by decide +kernel
theorem dX7_readCart_193 : decode cX7_readCart 193 = .ok (.iaload, 1) := by decide +kernel
theorem dX7_readCart_194 : decode cX7_readCart 194 = .ok (.iconst 1, 1) := by decide +kernel
theorem dX7_readCart_195 : decode cX7_readCart 195 = .ok (.iadd, 1) := by decide +kernel
theorem dX7_readCart_196 : decode cX7_readCart 196 = .ok (.iastore, 1) := by decide +kernel
theorem dX7_readCart_197 : decode cX7_readCart 197 = .ok (.goto (-152), 3) := by decide +kernel
theorem dX7_readCart_200 : decode cX7_readCart 200 = .ok (.aload_n 0, 1) := by decide +kernel
theorem dX7_readCart_201 : decode cX7_readCart 201 = .ok (.dup, 1) := by decide +kernel
theorem dX7_readCart_202 : decode cX7_readCart 202 = .ok (.getfield 166, 3) := by decide +kernel
theorem dX7_readCart_205 : decode cX7_readCart 205 = .ok (.iconst 1, 1) := by decide +kernel
theorem dX7_readCart_206 : decode cX7_readCart 206 = .ok (.iadd, 1) := by decide +kernel
theorem dX7_readCart_207 : decode cX7_readCart 207 = .ok (.putfield 166, 3) := by decide +kernel
theorem dX7_readCart_210 : decode cX7_readCart 210 = .ok (.iload_n 3, 1) := by decide +kernel
theorem dX7_readCart_211 : decode cX7_readCart 211 = .ok (.ireturn, 1) := by decide +kernel
theorem dX7_readText_0 : decode cX7_readText 0 = .ok (.aload_n 0, 1) := by decide +kernel
theorem dX7_readText_1 : decode cX7_readText 1 = .ok (.iconst 0, 1) := by decide +kernel
theorem dX7_readText_2 : decode cX7_readText 2 = .ok (.putfield 160, 3) := by decide +kernel
theorem dX7_readText_5 : decode cX7_readText 5 = .ok (.aload_n 0, 1) := by decide +kernel
theorem dX7_readText_6 : decode cX7_readText 6 = .ok (.iconst 0, 1) := by decide +kernel
theorem dX7_readText_7 : decode cX7_readText 7 = .ok (.putfield 166, 3) := by decide +kernel
theorem dX7_readText_10 : decode cX7_readText 10 = .ok (.aload_n 0, 1) := by decide +kernel
theorem dX7_readText_11 : decode cX7_readText 11 = .ok (.invokevirtual 175, 3) := by decide +kernel
theorem dX7_readText_14 : decode cX7_readText 14 = .ok (.istore_n 1, 1) := by decide +kernel
theorem dX7_readText_15 : decode cX7_readText 15 = .ok (.iload_n 1, 1) := by decide +kernel
theorem dX7_readText_16 : decode cX7_readText 16 = .ok (.ifCond .eq 39, 3) := by decide +kernel
theorem dX7_readText_19 : decode cX7_readText 19 = .ok (.aload_n 0, 1) := by decide +kernel
theorem dX7_readText_20 : decode cX7_readText 20 = .ok (.getfield 160, 3) := by decide +kernel
theorem dX7_readText_23 : decode cX7_readText 23 = .ok (.aload_n 0, 1) := by decide +kernel
theorem dX7_readText_24 : decode cX7_readText 24 = .ok (.getfield 157, 3) := by decide +kernel
theorem dX7_readText_27 : decode cX7_readText 27 = .ok (.if_icmp .ge 28, 3) := by decide +kernel
theorem dX7_readText_30 : decode cX7_readText 30 = .ok (.aload_n 0, 1) := by decide +kernel
theorem dX7_readText_31 : decode cX7_readText 31 = .ok (.bipush 59, 2) := by decide +kernel
theorem dX7_readText_33 : decode cX7_readText 33 = .ok (.invokevirtual 172, 3) := by decide +kernel
theorem dX7_readText_36 : decode cX7_readText 36 = .ok (.ifCond .eq 14, 3) := by decide +kernel
theorem dX7_readText_39 : decode cX7_readText 39 = .ok (.aload_n 0, 1) := by decide +kernel
theorem dX7_readText_40 : decode cX7_readText 40 = .ok (.invokevirtual 175, 3) := by decide +kernel
theorem dX7_readText_43 : decode cX7_readText 43 = .ok (.ifCond .eq 7, 3) := by decide +kernel
theorem dX7_readText_46 : decode cX7_readText 46 = .ok (.iconst 1, 1) := by decide +kernel
theorem dX7_readText_47 : decode cX7_readText 47 = .ok (.goto 4, 3) := by decide +kernel
theorem dX7_readText_50 : decode cX7_readText 50 = .ok (.iconst 0, 1) := by decide +kernel
theorem dX7_readText_51 : decode cX7_readText 51 = .ok (.istore_n 1, 1) := by decide +kernel
theorem dX7_readText_52 : decode cX7_readText 52 = .ok (.goto (-37), 3) := by decide +kernel
theorem dX7_readText_55 : decode cX7_readText 55 = .ok (.iload_n 1, 1) := by decide +kernel
theorem dX7_readText_56 : decode cX7_readText 56 = .ok (.ireturn, 1) := by decide +kernel
theorem dX7_fault_0 : decode cX7_fault 0 = .ok (.aload_n 0, 1) := by decide +kernel
theorem dX7_fault_1 : decode cX7_fault 1 = .ok (.invokevirtual 179, 3) := by decide +kernel
theorem dX7_fault_4 : decode cX7_fault 4 = .ok (.ifCond .eq 8, 3) := by decide +kernel
theorem dX7_fault_7 : decode cX7_fault 7 = .ok (.bipush (-5), 2) := by decide +kernel
theorem dX7_fault_9 : decode cX7_fault 9 = .ok (.goto 7, 3) := by decide +kernel
theorem dX7_fault_12 : decode cX7_fault 12 = .ok (.aload_n 0, 1) := by decide +kernel
theorem dX7_fault_13 : decode cX7_fault 13 = .ok (.getfield 160, 3) := by decide +kernel
theorem dX7_fault_16 : decode cX7_fault 16 = .ok (.ireturn, 1) := by decide +kernel
theorem dX7_carts_0 : decode cX7_carts 0 = .ok (.aload_n 0, 1) := by decide +kernel
theorem dX7_carts_1 : decode cX7_carts 1 = .ok (.invokevirtual 179, 3) := by decide +kernel
theorem dX7_carts_4 : decode cX7_carts 4 = .ok (.ifCond .ne 11, 3) := by decide +kernel
theorem dX7_carts_7 : decode cX7_carts 7 = .ok (.bipush (-100), 2) := by decide +kernel
theorem dX7_carts_9 : decode cX7_carts 9 = .ok (.aload_n 0, 1) := by decide +kernel
theorem dX7_carts_10 : decode cX7_carts 10 = .ok (.getfield 160, 3) := by decide +kernel
theorem dX7_carts_13 : decode cX7_carts 13 = .ok (.isub, 1) := by decide +kernel
theorem dX7_carts_14 : decode cX7_carts 14 = .ok (.ireturn, 1) := by decide +kernel
theorem dX7_carts_15 : decode cX7_carts 15 = .ok (.aload_n 0, 1) := by decide +kernel
theorem dX7_carts_16 : decode cX7_carts 16 = .ok (.getfield 7, 3) := by decide +kernel
theorem dX7_carts_19 : decode cX7_carts 19 = .ok (.bipush 6, 2) := by decide +kernel
theorem dX7_carts_21 : decode cX7_carts 21 = .ok (.iaload, 1) := by decide +kernel
theorem dX7_carts_22 : decode cX7_carts 22 = .ok (.aload_n 0, 1) := by decide +kernel
theorem dX7_carts_23 : decode cX7_carts 23 = .ok (.getfield 166, 3) := by decide +kernel
theorem dX7_carts_26 : decode cX7_carts 26 = .ok (.iadd, 1) := by decide +kernel
theorem dX7_carts_27 : decode cX7_carts 27 = .ok (.bipush 6, 2) := by decide +kernel
theorem dX7_carts_29 : decode cX7_carts 29 = .ok (.if_icmp .le 6, 3) := by decide +kernel
theorem dX7_carts_32 : decode cX7_carts 32 = .ok (.bipush (-3), 2) := by decide +kernel
theorem dX7_carts_34 : decode cX7_carts 34 = .ok (.ireturn, 1) := by decide +kernel
theorem dX7_carts_35 : decode cX7_carts 35 = .ok (.aload_n 0, 1) := by decide +kernel
theorem dX7_carts_36 : decode cX7_carts 36 = .ok (.invokevirtual 70, 3) := by decide +kernel
theorem dX7_carts_39 : decode cX7_carts 39 = .ok (.iconst 0, 1) := by decide +kernel
theorem dX7_carts_40 : decode cX7_carts 40 = .ok (.istore_n 1, 1) := by decide +kernel
theorem dX7_carts_41 : decode cX7_carts 41 = .ok (.iload_n 1, 1) := by decide +kernel
theorem dX7_carts_42 : decode cX7_carts 42 = .ok (.aload_n 0, 1) := by decide +kernel
theorem dX7_carts_43 : decode cX7_carts 43 = .ok (.getfield 166, 3) := by decide +kernel
theorem dX7_carts_46 : decode cX7_carts 46 = .ok (.if_icmp .ge 88, 3) := by decide +kernel
theorem dX7_carts_49 : decode cX7_carts 49 = .ok (.aload_n 0, 1) := by decide +kernel
theorem dX7_carts_50 : decode cX7_carts 50 = .ok (.aload_n 0, 1) := by decide +kernel
theorem dX7_carts_51 : decode cX7_carts 51 = .ok (.getfield 43, 3) := by decide +kernel
theorem dX7_carts_54 : decode cX7_carts 54 = .ok (.bipush 11, 2) := by decide +kernel
theorem dX7_carts_56 : decode cX7_carts 56 = .ok (.iload_n 1, 1) := by decide +kernel
theorem dX7_carts_57 : decode cX7_carts 57 = .ok (.imul, 1) := by decide +kernel
theorem dX7_carts_58 : decode cX7_carts 58 = .ok (.iconst 2, 1) := by decide +kernel
theorem dX7_carts_59 : decode cX7_carts 59 = .ok (.iadd, 1) := by decide +kernel
theorem dX7_carts_60 : decode cX7_carts 60 = .ok (.iaload, 1) := by decide +kernel
theorem dX7_carts_61 : decode cX7_carts 61 = .ok (.invokevirtual 77, 3) := by decide +kernel
theorem dX7_carts_64 : decode cX7_carts 64 = .ok (.iconst 1, 1) := by decide +kernel
theorem dX7_carts_65 : decode cX7_carts 65 = .ok (.istore_n 2, 1) := by decide +kernel
theorem dX7_carts_66 : decode cX7_carts 66 = .ok (.iload_n 2, 1) := by decide +kernel
theorem dX7_carts_67 : decode cX7_carts 67 = .ok (.aload_n 0, 1) := by decide +kernel
theorem dX7_carts_68 : decode cX7_carts 68 = .ok (.getfield 43, 3) := by decide +kernel
theorem dX7_carts_71 : decode cX7_carts 71 = .ok (.bipush 11, 2) := by decide +kernel
theorem dX7_carts_73 : decode cX7_carts 73 = .ok (.iload_n 1, 1) := by decide +kernel
theorem dX7_carts_74 : decode cX7_carts 74 = .ok (.imul, 1) := by decide +kernel
theorem dX7_carts_75 : decode cX7_carts 75 = .ok (.iaload, 1) := by decide +kernel
theorem dX7_carts_76 : decode cX7_carts 76 = .ok (.if_icmp .ge 52, 3) := by decide +kernel
theorem dX7_carts_79 : decode cX7_carts 79 = .ok (.aload_n 0, 1) := by decide +kernel
theorem dX7_carts_80 : decode cX7_carts 80 = .ok (.aload_n 0, 1) := by decide +kernel
theorem dX7_carts_81 : decode cX7_carts 81 = .ok (.getfield 7, 3) := by decide +kernel
theorem dX7_carts_84 : decode cX7_carts 84 = .ok (.bipush 6, 2) := by decide +kernel
theorem dX7_carts_86 : decode cX7_carts 86 = .ok (.iaload, 1) := by decide +kernel
theorem dX7_carts_87 : decode cX7_carts 87 = .ok (.iconst 1, 1) := by decide +kernel
theorem dX7_carts_88 : decode cX7_carts 88 = .ok (.isub, 1) := by decide +kernel
theorem dX7_carts_89 : decode cX7_carts 89 = .ok (.aload_n 0, 1) := by decide +kernel
theorem dX7_carts_90 : decode cX7_carts 90 = .ok (.getfield 43, 3) := by decide +kernel
theorem dX7_carts_93 : decode cX7_carts 93 = .ok (.bipush 11, 2) := by decide +kernel
theorem dX7_carts_95 : decode cX7_carts 95 = .ok (.iload_n 1, 1) := by decide +kernel
theorem dX7_carts_96 : decode cX7_carts 96 = .ok (.imul, 1) := by decide +kernel
theorem dX7_carts_97 : decode cX7_carts 97 = .ok (.iconst 1, 1) := by decide +kernel
theorem dX7_carts_98 : decode cX7_carts 98 = .ok (.iadd, 1) := by decide +kernel
theorem dX7_carts_99 : decode cX7_carts 99 = .ok (.iconst 2, 1) := by decide +kernel
theorem dX7_carts_100 : decode cX7_carts 100 = .ok (.iload_n 2, 1) := by decide +kernel
theorem dX7_carts_101 : decode cX7_carts 101 = .ok (.imul, 1) := by decide +kernel
theorem dX7_carts_102 : decode cX7_carts 102 = .ok (.iadd, 1) := by decide +kernel
theorem dX7_carts_103 : decode cX7_carts 103 = .ok (.iaload, 1) := by decide +kernel
theorem dX7_carts_104 : decode cX7_carts 104 = .ok (.aload_n 0, 1) := by decide +kernel
theorem dX7_carts_105 : decode cX7_carts 105 = .ok (.getfield 43, 3) := by decide +kernel
theorem dX7_carts_108 : decode cX7_carts 108 = .ok (.bipush 11, 2) := by decide +kernel
theorem dX7_carts_110 : decode cX7_carts 110 = .ok (.iload_n 1, 1) := by decide +kernel
theorem dX7_carts_111 : decode cX7_carts 111 = .ok (.imul, 1) := by decide +kernel
theorem dX7_carts_112 : decode cX7_carts 112 = .ok (.iconst 2, 1) := by decide +kernel
theorem dX7_carts_113 : decode cX7_carts 113 = .ok (.iadd, 1) := by decide +kernel
theorem dX7_carts_114 : decode cX7_carts 114 = .ok (.iconst 2, 1) := by decide +kernel
theorem dX7_carts_115 : decode cX7_carts 115 = .ok (.iload_n 2, 1) := by decide +kernel
theorem dX7_carts_116 : decode cX7_carts 116 = .ok (.imul, 1) := by decide +kernel
theorem dX7_carts_117 : decode cX7_carts 117 = .ok (.iadd, 1) := by decide +kernel
theorem dX7_carts_118 : decode cX7_carts 118 = .ok (.iaload, 1) := by decide +kernel
theorem dX7_carts_119 : decode cX7_carts 119 = .ok (.invokevirtual 81, 3) := by decide +kernel
theorem dX7_carts_122 : decode cX7_carts 122 = .ok (.iinc 2 1, 3) := by decide +kernel
theorem dX7_carts_125 : decode cX7_carts 125 = .ok (.goto (-59), 3) := by decide +kernel
theorem dX7_carts_128 : decode cX7_carts 128 = .ok (.iinc 1 1, 3) := by decide +kernel
theorem dX7_carts_131 : decode cX7_carts 131 = .ok (.goto (-90), 3) := by decide +kernel
theorem dX7_carts_134 : decode cX7_carts 134 = .ok (.aload_n 0, 1) := by decide +kernel
theorem dX7_carts_135 : decode cX7_carts 135 = .ok (.getfield 166, 3) := by decide +kernel
theorem dX7_carts_138 : decode cX7_carts 138 = .ok (.ireturn, 1) := by decide +kernel
theorem dX7_net_0 : decode cX7_net 0 = .ok (.aload_n 0, 1) := by decide +kernel
