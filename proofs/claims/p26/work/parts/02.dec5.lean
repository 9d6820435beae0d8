theorem dL_refusesAny_183 : decode cL_refusesAny 183 = .ok (.if_icmp .ne 218, 3) := by decide +kernel
theorem dL_refusesAny_186 : decode cL_refusesAny 186 = .ok (.aload_n 0, 1) := by decide +kernel
theorem dL_refusesAny_187 : decode cL_refusesAny 187 = .ok (.iload_n 2, 1) := by decide +kernel
theorem dL_refusesAny_188 : decode cL_refusesAny 188 = .ok (.iconst 0, 1) := by decide +kernel
theorem dL_refusesAny_189 : decode cL_refusesAny 189 = .ok (.iconst 1, 1) := by decide +kernel
theorem dL_refusesAny_190 : decode cL_refusesAny 190 = .ok (.invokevirtual 54, 3) := by decide +kernel
theorem dL_refusesAny_193 : decode cL_refusesAny 193 = .ok (.iconst (-1), 1) := by decide +kernel
theorem dL_refusesAny_194 : decode cL_refusesAny 194 = .ok (.if_icmp .ne 207, 3) := by decide +kernel
theorem dL_refusesAny_197 : decode cL_refusesAny 197 = .ok (.aload_n 0, 1) := by decide +kernel
theorem dL_refusesAny_198 : decode cL_refusesAny 198 = .ok (.iload_n 2, 1) := by decide +kernel
theorem dL_refusesAny_199 : decode cL_refusesAny 199 = .ok (.iload 5, 2) := by decide +kernel
theorem dL_refusesAny_201 : decode cL_refusesAny 201 = .ok (.invokevirtual 58, 3) := by decide +kernel
theorem dL_refusesAny_204 : decode cL_refusesAny 204 = .ok (.iconst (-1), 1) := by decide +kernel
theorem dL_refusesAny_205 : decode cL_refusesAny 205 = .ok (.if_icmp .ne 196, 3) := by decide +kernel
theorem dL_refusesAny_208 : decode cL_refusesAny 208 = .ok (.aload_n 0, 1) := by decide +kernel
theorem dL_refusesAny_209 : decode cL_refusesAny 209 = .ok (.iload_n 2, 1) := by decide +kernel
theorem dL_refusesAny_210 : decode cL_refusesAny 210 = .ok (.invokevirtual 61, 3) := by decide +kernel
theorem dL_refusesAny_213 : decode cL_refusesAny 213 = .ok (.iconst (-1), 1) := by decide +kernel
theorem dL_refusesAny_214 : decode cL_refusesAny 214 = .ok (.if_icmp .ne 187, 3) := by decide +kernel
theorem dL_refusesAny_217 : decode cL_refusesAny 217 = .ok (.aload_n 0, 1) := by decide +kernel
theorem dL_refusesAny_218 : decode cL_refusesAny 218 = .ok (.iload_n 1, 1) := by decide +kernel
theorem dL_refusesAny_219 : decode cL_refusesAny 219 = .ok (.iconst 2, 1) := by decide +kernel
theorem dL_refusesAny_220 : decode cL_refusesAny 220 = .ok (.irem, 1) := by decide +kernel
theorem dL_refusesAny_221 : decode cL_refusesAny 221 = .ok (.ifCond .ne 7, 3) := by decide +kernel
theorem dL_refusesAny_224 : decode cL_refusesAny 224 = .ok (.iconst (-1), 1) := by decide +kernel
theorem dL_refusesAny_225 : decode cL_refusesAny 225 = .ok (.goto 5, 3) := by decide +kernel
theorem dL_refusesAny_228 : decode cL_refusesAny 228 = .ok (.bipush 6, 2) := by decide +kernel
theorem dL_refusesAny_230 : decode cL_refusesAny 230 = .ok (.bipush 20, 2) := by decide +kernel
theorem dL_refusesAny_232 : decode cL_refusesAny 232 = .ok (.invokevirtual 64, 3) := by decide +kernel
theorem dL_refusesAny_235 : decode cL_refusesAny 235 = .ok (.bipush (-2), 2) := by decide +kernel
theorem dL_refusesAny_237 : decode cL_refusesAny 237 = .ok (.if_icmp .ne 164, 3) := by decide +kernel
theorem dL_refusesAny_240 : decode cL_refusesAny 240 = .ok (.aload_n 0, 1) := by decide +kernel
theorem dL_refusesAny_241 : decode cL_refusesAny 241 = .ok (.iconst 0, 1) := by decide +kernel
theorem dL_refusesAny_242 : decode cL_refusesAny 242 = .ok (.iload_n 1, 1) := by decide +kernel
theorem dL_refusesAny_243 : decode cL_refusesAny 243 = .ok (.iconst 2, 1) := by decide +kernel
theorem dL_refusesAny_244 : decode cL_refusesAny 244 = .ok (.irem, 1) := by decide +kernel
theorem dL_refusesAny_245 : decode cL_refusesAny 245 = .ok (.ifCond .ne 8, 3) := by decide +kernel
theorem dL_refusesAny_248 : decode cL_refusesAny 248 = .ok (.bipush 9, 2) := by decide +kernel
theorem dL_refusesAny_250 : decode cL_refusesAny 250 = .ok (.goto 5, 3) := by decide +kernel
theorem dL_refusesAny_253 : decode cL_refusesAny 253 = .ok (.bipush 91, 2) := by decide +kernel
theorem dL_refusesAny_255 : decode cL_refusesAny 255 = .ok (.invokevirtual 64, 3) := by decide +kernel
theorem dL_refusesAny_258 : decode cL_refusesAny 258 = .ok (.bipush (-2), 2) := by decide +kernel
theorem dL_refusesAny_260 : decode cL_refusesAny 260 = .ok (.if_icmp .ne 141, 3) := by decide +kernel
theorem dL_refusesAny_263 : decode cL_refusesAny 263 = .ok (.aload_n 0, 1) := by decide +kernel
theorem dL_refusesAny_264 : decode cL_refusesAny 264 = .ok (.iconst 1, 1) := by decide +kernel
theorem dL_refusesAny_265 : decode cL_refusesAny 265 = .ok (.iload_n 1, 1) := by decide +kernel
theorem dL_refusesAny_266 : decode cL_refusesAny 266 = .ok (.iconst 2, 1) := by decide +kernel
theorem dL_refusesAny_267 : decode cL_refusesAny 267 = .ok (.irem, 1) := by decide +kernel
theorem dL_refusesAny_268 : decode cL_refusesAny 268 = .ok (.ifCond .ne 7, 3) := by decide +kernel
theorem dL_refusesAny_271 : decode cL_refusesAny 271 = .ok (.iconst (-1), 1) := by decide +kernel
theorem dL_refusesAny_272 : decode cL_refusesAny 272 = .ok (.goto 5, 3) := by decide +kernel
theorem dL_refusesAny_275 : decode cL_refusesAny 275 = .ok (.bipush 101, 2) := by decide +kernel
theorem dL_refusesAny_277 : decode cL_refusesAny 277 = .ok (.invokevirtual 64, 3) := by decide +kernel
theorem dL_refusesAny_280 : decode cL_refusesAny 280 = .ok (.bipush (-2), 2) := by decide +kernel
theorem dL_refusesAny_282 : decode cL_refusesAny 282 = .ok (.if_icmp .ne 119, 3) := by decide +kernel
theorem dL_refusesAny_285 : decode cL_refusesAny 285 = .ok (.aload_n 0, 1) := by decide +kernel
theorem dL_refusesAny_286 : decode cL_refusesAny 286 = .ok (.iconst 2, 1) := by decide +kernel
theorem dL_refusesAny_287 : decode cL_refusesAny 287 = .ok (.iload_n 1, 1) := by decide +kernel
theorem dL_refusesAny_288 : decode cL_refusesAny 288 = .ok (.iconst 2, 1) := by decide +kernel
theorem dL_refusesAny_289 : decode cL_refusesAny 289 = .ok (.irem, 1) := by decide +kernel
theorem dL_refusesAny_290 : decode cL_refusesAny 290 = .ok (.ifCond .ne 7, 3) := by decide +kernel
theorem dL_refusesAny_293 : decode cL_refusesAny 293 = .ok (.iconst (-1), 1) := by decide +kernel
theorem dL_refusesAny_294 : decode cL_refusesAny 294 = .ok (.goto 5, 3) := by decide +kernel
theorem dL_refusesAny_297 : decode cL_refusesAny 297 = .ok (.bipush 96, 2) := by decide +kernel
theorem dL_refusesAny_299 : decode cL_refusesAny 299 = .ok (.invokevirtual 64, 3) := by decide +kernel
theorem dL_refusesAny_302 : decode cL_refusesAny 302 = .ok (.bipush (-2), 2) := by decide +kernel
theorem dL_refusesAny_304 : decode cL_refusesAny 304 = .ok (.if_icmp .ne 97, 3) := by decide +kernel
theorem dL_refusesAny_307 : decode cL_refusesAny 307 = .ok (.aload_n 0, 1) := by decide +kernel
theorem dL_refusesAny_308 : decode cL_refusesAny 308 = .ok (.iconst 3, 1) := by decide +kernel
theorem dL_refusesAny_309 : decode cL_refusesAny 309 = .ok (.iload_n 1, 1) := by decide +kernel
theorem dL_refusesAny_310 : decode cL_refusesAny 310 = .ok (.iconst 2, 1) := by decide +kernel
theorem dL_refusesAny_311 : decode cL_refusesAny 311 = .ok (.irem, 1) := by decide +kernel
theorem dL_refusesAny_312 : decode cL_refusesAny 312 = .ok (.ifCond .ne 7, 3) := by decide +kernel
theorem dL_refusesAny_315 : decode cL_refusesAny 315 = .ok (.iconst 0, 1) := by decide +kernel
theorem dL_refusesAny_316 : decode cL_refusesAny 316 = .ok (.goto 5, 3) := by decide +kernel
theorem dL_refusesAny_319 : decode cL_refusesAny 319 = .ok (.bipush 10, 2) := by decide +kernel
theorem dL_refusesAny_321 : decode cL_refusesAny 321 = .ok (.invokevirtual 64, 3) := by decide +kernel
theorem dL_refusesAny_324 : decode cL_refusesAny 324 = .ok (.bipush (-2), 2) := by decide +kernel
theorem dL_refusesAny_326 : decode cL_refusesAny 326 = .ok (.if_icmp .ne 75, 3) := by decide +kernel
theorem dL_refusesAny_329 : decode cL_refusesAny 329 = .ok (.aload_n 0, 1) := by decide +kernel
theorem dL_refusesAny_330 : decode cL_refusesAny 330 = .ok (.iconst 4, 1) := by decide +kernel
theorem dL_refusesAny_331 : decode cL_refusesAny 331 = .ok (.iload_n 1, 1) := by decide +kernel
theorem dL_refusesAny_332 : decode cL_refusesAny 332 = .ok (.iconst 2, 1) := by decide +kernel
theorem dL_refusesAny_333 : decode cL_refusesAny 333 = .ok (.irem, 1) := by decide +kernel
theorem dL_refusesAny_334 : decode cL_refusesAny 334 = .ok (.ifCond .ne 7, 3) := by decide +kernel
theorem dL_refusesAny_337 : decode cL_refusesAny 337 = .ok (.iconst (-1), 1) := by decide +kernel
theorem dL_refusesAny_338 : decode cL_refusesAny 338 = .ok (.goto 5, 3) := by decide +kernel
theorem dL_refusesAny_341 : decode cL_refusesAny 341 = .ok (.bipush 21, 2) := by decide +kernel
theorem dL_refusesAny_343 : decode cL_refusesAny 343 = .ok (.invokevirtual 64, 3) := by decide +kernel
theorem dL_refusesAny_346 : decode cL_refusesAny 346 = .ok (.bipush (-2), 2) := by decide +kernel
theorem dL_refusesAny_348 : decode cL_refusesAny 348 = .ok (.if_icmp .ne 53, 3) := by decide +kernel
theorem dL_refusesAny_351 : decode cL_refusesAny 351 = .ok (.aload_n 0, 1) := by decide +kernel
theorem dL_refusesAny_352 : decode cL_refusesAny 352 = .ok (.iconst 5, 1) := by decide +kernel
theorem dL_refusesAny_353 : decode cL_refusesAny 353 = .ok (.iload_n 1, 1) := by decide +kernel
theorem dL_refusesAny_354 : decode cL_refusesAny 354 = .ok (.iconst 2, 1) := by decide +kernel
theorem dL_refusesAny_355 : decode cL_refusesAny 355 = .ok (.irem, 1) := by decide +kernel
theorem dL_refusesAny_356 : decode cL_refusesAny 356 = .ok (.ifCond .ne 7, 3) := by decide +kernel
theorem dL_refusesAny_359 : decode cL_refusesAny 359 = .ok (.iconst 3, 1) := by decide +kernel
theorem dL_refusesAny_360 : decode cL_refusesAny 360 = .ok (.goto 5, 3) := by decide +kernel
theorem dL_refusesAny_363 : decode cL_refusesAny 363 = .ok (.bipush 41, 2) := by decide +kernel
theorem dL_refusesAny_365 : decode cL_refusesAny 365 = .ok (.invokevirtual 64, 3) := by decide +kernel
theorem dL_refusesAny_368 : decode cL_refusesAny 368 = .ok (.bipush (-2), 2) := by decide +kernel
theorem dL_refusesAny_370 : decode cL_refusesAny 370 = .ok (.if_icmp .ne 31, 3) := by decide +kernel
theorem dL_refusesAny_373 : decode cL_refusesAny 373 = .ok (.aload_n 0, 1) := by decide +kernel
theorem dL_refusesAny_374 : decode cL_refusesAny 374 = .ok (.iload_n 1, 1) := by decide +kernel
theorem dL_refusesAny_375 : decode cL_refusesAny 375 = .ok (.bipush 6, 2) := by decide +kernel
theorem dL_refusesAny_377 : decode cL_refusesAny 377 = .ok (.irem, 1) := by decide +kernel
theorem dL_refusesAny_378 : decode cL_refusesAny 378 = .ok (.aload_n 0, 1) := by decide +kernel
theorem dL_refusesAny_379 : decode cL_refusesAny 379 = .ok (.bipush 6, 2) := by decide +kernel
theorem dL_refusesAny_381 : decode cL_refusesAny 381 = .ok (.iload_n 1, 1) := by decide +kernel
theorem dL_refusesAny_382 : decode cL_refusesAny 382 = .ok (.bipush 6, 2) := by decide +kernel
theorem dL_refusesAny_384 : decode cL_refusesAny 384 = .ok (.irem, 1) := by decide +kernel
theorem dL_refusesAny_385 : decode cL_refusesAny 385 = .ok (.iadd, 1) := by decide +kernel
theorem dL_refusesAny_386 : decode cL_refusesAny 386 = .ok (.invokevirtual 14, 3) := by decide +kernel
theorem dL_refusesAny_389 : decode cL_refusesAny 389 = .ok (.invokevirtual 64, 3) := by decide +kernel
theorem dL_refusesAny_392 : decode cL_refusesAny 392 = .ok (.bipush (-5), 2) := by decide +kernel
theorem dL_refusesAny_394 : decode cL_refusesAny 394 = .ok (.if_icmp .ne 7, 3) := by decide +kernel
theorem dL_refusesAny_397 : decode cL_refusesAny 397 = .ok (.iconst 1, 1) := by decide +kernel
theorem dL_refusesAny_398 : decode cL_refusesAny 398 = .ok (.goto 4, 3) := by decide +kernel
theorem dL_refusesAny_401 : decode cL_refusesAny 401 = .ok (.iconst 0, 1) := by decide +kernel
theorem dL_refusesAny_402 : decode cL_refusesAny 402 = .ok (.istore 8, 2) := by decide +kernel
theorem dL_refusesAny_404 : decode cL_refusesAny 404 = .ok (.iload 8, 2) := by decide +kernel
theorem dL_refusesAny_406 : decode cL_refusesAny 406 = .ok (.ifCond .eq 369, 3) := by decide +kernel
theorem dL_refusesAny_409 : decode cL_refusesAny 409 = .ok (.iload 7, 2) := by decide +kernel
theorem dL_refusesAny_411 : decode cL_refusesAny 411 = .ok (.ifCond .eq 360, 3) := by decide +kernel
theorem dL_refusesAny_414 : decode cL_refusesAny 414 = .ok (.aload_n 0, 1) := by decide +kernel
theorem dL_refusesAny_415 : decode cL_refusesAny 415 = .ok (.iconst 0, 1) := by decide +kernel
theorem dL_refusesAny_416 : decode cL_refusesAny 416 = .ok (.iload 6, 2) := by decide +kernel
theorem dL_refusesAny_418 : decode cL_refusesAny 418 = .ok (.iconst 5, 1) := by decide +kernel
theorem dL_refusesAny_419 : decode cL_refusesAny 419 = .ok (.invokevirtual 48, 3) := by decide +kernel
theorem dL_refusesAny_422 : decode cL_refusesAny 422 = .ok (.bipush (-2), 2) := by decide +kernel
theorem dL_refusesAny_424 : decode cL_refusesAny 424 = .ok (.if_icmp .ne 351, 3) := by decide +kernel
theorem dL_refusesAny_427 : decode cL_refusesAny 427 = .ok (.aload_n 0, 1) := by decide +kernel
theorem dL_refusesAny_428 : decode cL_refusesAny 428 = .ok (.iconst 0, 1) := by decide +kernel
theorem dL_refusesAny_429 : decode cL_refusesAny 429 = .ok (.iconst 5, 1) := by decide +kernel
theorem dL_refusesAny_430 : decode cL_refusesAny 430 = .ok (.iload 4, 2) := by decide +kernel
theorem dL_refusesAny_432 : decode cL_refusesAny 432 = .ok (.invokevirtual 48, 3) := by decide +kernel
theorem dL_refusesAny_435 : decode cL_refusesAny 435 = .ok (.bipush (-2), 2) := by decide +kernel
theorem dL_refusesAny_437 : decode cL_refusesAny 437 = .ok (.if_icmp .ne 338, 3) := by decide +kernel
theorem dL_refusesAny_440 : decode cL_refusesAny 440 = .ok (.aload_n 0, 1) := by decide +kernel
theorem dL_refusesAny_441 : decode cL_refusesAny 441 = .ok (.iconst 0, 1) := by decide +kernel
theorem dL_refusesAny_442 : decode cL_refusesAny 442 = .ok (.iconst 0, 1) := by decide +kernel
theorem dL_refusesAny_443 : decode cL_refusesAny 443 = .ok (.invokevirtual 20, 3) := by decide +kernel
theorem dL_refusesAny_446 : decode cL_refusesAny 446 = .ok (.iconst 5, 1) := by decide +kernel
theorem dL_refusesAny_447 : decode cL_refusesAny 447 = .ok (.if_icmp .lt 15, 3) := by decide +kernel
theorem dL_refusesAny_450 : decode cL_refusesAny 450 = .ok (.aload_n 0, 1) := by decide +kernel
theorem dL_refusesAny_451 : decode cL_refusesAny 451 = .ok (.iconst 0, 1) := by decide +kernel
theorem dL_refusesAny_452 : decode cL_refusesAny 452 = .ok (.iconst 5, 1) := by decide +kernel
theorem dL_refusesAny_453 : decode cL_refusesAny 453 = .ok (.iconst 5, 1) := by decide +kernel
theorem dL_refusesAny_454 : decode cL_refusesAny 454 = .ok (.invokevirtual 48, 3) := by decide +kernel
theorem dL_refusesAny_457 : decode cL_refusesAny 457 = .ok (.bipush (-3), 2) := by decide +kernel
theorem dL_refusesAny_459 : decode cL_refusesAny 459 = .ok (.if_icmp .ne 316, 3) := by decide +kernel
theorem dL_refusesAny_462 : decode cL_refusesAny 462 = .ok (.aload_n 0, 1) := by decide +kernel
theorem dL_refusesAny_463 : decode cL_refusesAny 463 = .ok (.iconst 0, 1) := by decide +kernel
theorem dL_refusesAny_464 : decode cL_refusesAny 464 = .ok (.iload_n 3, 1) := by decide +kernel
theorem dL_refusesAny_465 : decode cL_refusesAny 465 = .ok (.iload 4, 2) := by decide +kernel
theorem dL_refusesAny_467 : decode cL_refusesAny 467 = .ok (.invokevirtual 51, 3) := by decide +kernel
theorem dL_refusesAny_470 : decode cL_refusesAny 470 = .ok (.iconst (-1), 1) := by decide +kernel
theorem dL_refusesAny_471 : decode cL_refusesAny 471 = .ok (.if_icmp .ne 304, 3) := by decide +kernel
theorem dL_refusesAny_474 : decode cL_refusesAny 474 = .ok (.aload_n 0, 1) := by decide +kernel
theorem dL_refusesAny_475 : decode cL_refusesAny 475 = .ok (.iconst 0, 1) := by decide +kernel
theorem dL_refusesAny_476 : decode cL_refusesAny 476 = .ok (.iconst 0, 1) := by decide +kernel
theorem dL_refusesAny_477 : decode cL_refusesAny 477 = .ok (.iload 4, 2) := by decide +kernel
theorem dL_refusesAny_479 : decode cL_refusesAny 479 = .ok (.invokevirtual 51, 3) := by decide +kernel
theorem dL_refusesAny_482 : decode cL_refusesAny 482 = .ok (.bipush (-2), 2) := by decide +kernel
theorem dL_refusesAny_484 : decode cL_refusesAny 484 = .ok (.if_icmp .ne 291, 3) := by decide +kernel
theorem dL_refusesAny_487 : decode cL_refusesAny 487 = .ok (.aload_n 0, 1) := by decide +kernel
theorem dL_refusesAny_488 : decode cL_refusesAny 488 = .ok (.iconst 0, 1) := by decide +kernel
theorem dL_refusesAny_489 : decode cL_refusesAny 489 = .ok (.iconst 0, 1) := by decide +kernel
theorem dL_refusesAny_490 : decode cL_refusesAny 490 = .ok (.aload_n 0, 1) := by decide +kernel
theorem dL_refusesAny_491 : decode cL_refusesAny 491 = .ok (.iconst 0, 1) := by decide +kernel
theorem dL_refusesAny_492 : decode cL_refusesAny 492 = .ok (.iconst 0, 1) := by decide +kernel
theorem dL_refusesAny_493 : decode cL_refusesAny 493 = .ok (.iconst 0, 1) := by decide +kernel
theorem dL_refusesAny_494 : decode cL_refusesAny 494 = .ok (.invokevirtual 24, 3) := by decide +kernel
theorem dL_refusesAny_497 : decode cL_refusesAny 497 = .ok (.invokevirtual 51, 3) := by decide +kernel
theorem dL_refusesAny_500 : decode cL_refusesAny 500 = .ok (.bipush (-5), 2) := by decide +kernel
theorem dL_refusesAny_502 : decode cL_refusesAny 502 = .ok (.if_icmp .ne 273, 3) := by decide +kernel
theorem dL_refusesAny_505 : decode cL_refusesAny 505 = .ok (.aload_n 0, 1) := by decide +kernel
theorem dL_refusesAny_506 : decode cL_refusesAny 506 = .ok (.iconst 0, 1) := by decide +kernel
theorem dL_refusesAny_507 : decode cL_refusesAny 507 = .ok (.iload_n 3, 1) := by decide +kernel
theorem dL_refusesAny_508 : decode cL_refusesAny 508 = .ok (.iconst 1, 1) := by decide +kernel
theorem dL_refusesAny_509 : decode cL_refusesAny 509 = .ok (.invokevirtual 54, 3) := by decide +kernel
theorem dL_refusesAny_512 : decode cL_refusesAny 512 = .ok (.iconst (-1), 1) := by decide +kernel
theorem dL_refusesAny_513 : decode cL_refusesAny 513 = .ok (.if_icmp .ne 262, 3) := by decide +kernel
theorem dL_refusesAny_516 : decode cL_refusesAny 516 = .ok (.aload_n 0, 1) := by decide +kernel
theorem dL_refusesAny_517 : decode cL_refusesAny 517 = .ok (.iconst 0, 1) := by decide +kernel
theorem dL_refusesAny_518 : decode cL_refusesAny 518 = .ok (.iconst 0, 1) := by decide +kernel
theorem dL_refusesAny_519 : decode cL_refusesAny 519 = .ok (.aload_n 0, 1) := by decide +kernel
theorem dL_refusesAny_520 : decode cL_refusesAny 520 = .ok (.iconst 0, 1) := by decide +kernel
theorem dL_refusesAny_521 : decode cL_refusesAny 521 = .ok (.iconst 0, 1) := by decide +kernel
theorem dL_refusesAny_522 : decode cL_refusesAny 522 = .ok (.iconst 2, 1) := by decide +kernel
theorem dL_refusesAny_523 : decode cL_refusesAny 523 = .ok (.invokevirtual 24, 3) := by decide +kernel
theorem dL_refusesAny_526 : decode cL_refusesAny 526 = .ok (.iconst 1, 1) := by decide +kernel
theorem dL_refusesAny_527 : decode cL_refusesAny 527 = .ok (.if_icmp .ne 7, 3) := by decide +kernel
theorem dL_refusesAny_530 : decode cL_refusesAny 530 = .ok (.iconst 1, 1) := by decide +kernel
theorem dL_refusesAny_531 : decode cL_refusesAny 531 = .ok (.goto 4, 3) := by decide +kernel
theorem dL_refusesAny_534 : decode cL_refusesAny 534 = .ok (.iconst 0, 1) := by decide +kernel
theorem dL_refusesAny_535 : decode cL_refusesAny 535 = .ok (.invokevirtual 54, 3) := by decide +kernel
theorem dL_refusesAny_538 : decode cL_refusesAny 538 = .ok (.bipush (-5), 2) := by decide +kernel
theorem dL_refusesAny_540 : decode cL_refusesAny 540 = .ok (.if_icmp .ne 235, 3) := by decide +kernel
theorem dL_refusesAny_543 : decode cL_refusesAny 543 = .ok (.aload_n 0, 1) := by decide +kernel
theorem dL_refusesAny_544 : decode cL_refusesAny 544 = .ok (.iconst 0, 1) := by decide +kernel
theorem dL_refusesAny_545 : decode cL_refusesAny 545 = .ok (.iload 5, 2) := by decide +kernel
theorem dL_refusesAny_547 : decode cL_refusesAny 547 = .ok (.invokevirtual 58, 3) := by decide +kernel
theorem dL_refusesAny_550 : decode cL_refusesAny 550 = .ok (.bipush (-2), 2) := by decide +kernel
theorem dL_refusesAny_552 : decode cL_refusesAny 552 = .ok (.if_icmp .ne 223, 3) := by decide +kernel
theorem dL_refusesAny_555 : decode cL_refusesAny 555 = .ok (.aload_n 0, 1) := by decide +kernel
theorem dL_refusesAny_556 : decode cL_refusesAny 556 = .ok (.iconst 0, 1) := by decide +kernel
theorem dL_refusesAny_557 : decode cL_refusesAny 557 = .ok (.iconst 5, 1) := by decide +kernel
theorem dL_refusesAny_558 : decode cL_refusesAny 558 = .ok (.invokevirtual 20, 3) := by decide +kernel
theorem dL_refusesAny_561 : decode cL_refusesAny 561 = .ok (.bipush (-5), 2) := by decide +kernel
theorem dL_refusesAny_563 : decode cL_refusesAny 563 = .ok (.if_icmp .ne 13, 3) := by decide +kernel
theorem dL_refusesAny_566 : decode cL_refusesAny 566 = .ok (.aload_n 0, 1) := by decide +kernel
theorem dL_refusesAny_567 : decode cL_refusesAny 567 = .ok (.iconst 0, 1) := by decide +kernel
theorem dL_refusesAny_568 : decode cL_refusesAny 568 = .ok (.invokevirtual 61, 3) := by decide +kernel
theorem dL_refusesAny_571 : decode cL_refusesAny 571 = .ok (.bipush (-4), 2) := by decide +kernel
theorem dL_refusesAny_573 : decode cL_refusesAny 573 = .ok (.if_icmp .ne 202, 3) := by decide +kernel
theorem dL_refusesAny_576 : decode cL_refusesAny 576 = .ok (.aload_n 0, 1) := by decide +kernel
theorem dL_refusesAny_577 : decode cL_refusesAny 577 = .ok (.iconst 0, 1) := by decide +kernel
theorem dL_refusesAny_578 : decode cL_refusesAny 578 = .ok (.iload_n 1, 1) := by decide +kernel
theorem dL_refusesAny_579 : decode cL_refusesAny 579 = .ok (.iconst 2, 1) := by decide +kernel
theorem dL_refusesAny_580 : decode cL_refusesAny 580 = .ok (.irem, 1) := by decide +kernel
theorem dL_refusesAny_581 : decode cL_refusesAny 581 = .ok (.ifCond .ne 7, 3) := by decide +kernel
theorem dL_refusesAny_584 : decode cL_refusesAny 584 = .ok (.iconst (-1), 1) := by decide +kernel
theorem dL_refusesAny_585 : decode cL_refusesAny 585 = .ok (.goto 5, 3) := by decide +kernel
theorem dL_refusesAny_588 : decode cL_refusesAny 588 = .ok (.bipush 9, 2) := by decide +kernel
theorem dL_refusesAny_590 : decode cL_refusesAny 590 = .ok (.invokevirtual 20, 3) := by decide +kernel
theorem dL_refusesAny_593 : decode cL_refusesAny 593 = .ok (.bipush (-2), 2) := by decide +kernel
theorem dL_refusesAny_595 : decode cL_refusesAny 595 = .ok (.if_icmp .ne 180, 3) := by decide +kernel
theorem dL_refusesAny_598 : decode cL_refusesAny 598 = .ok (.aload_n 0, 1) := by decide +kernel
theorem dL_refusesAny_599 : decode cL_refusesAny 599 = .ok (.iconst 0, 1) := by decide +kernel
theorem dL_refusesAny_600 : decode cL_refusesAny 600 = .ok (.iload_n 3, 1) := by decide +kernel
theorem dL_refusesAny_601 : decode cL_refusesAny 601 = .ok (.bipush 9, 2) := by decide +kernel
theorem dL_refusesAny_603 : decode cL_refusesAny 603 = .ok (.invokevirtual 24, 3) := by decide +kernel
theorem dL_refusesAny_606 : decode cL_refusesAny 606 = .ok (.iconst (-1), 1) := by decide +kernel
theorem dL_refusesAny_607 : decode cL_refusesAny 607 = .ok (.if_icmp .ne 168, 3) := by decide +kernel
theorem dL_refusesAny_610 : decode cL_refusesAny 610 = .ok (.aload_n 0, 1) := by decide +kernel
theorem dL_refusesAny_611 : decode cL_refusesAny 611 = .ok (.iconst 0, 1) := by decide +kernel
theorem dL_refusesAny_612 : decode cL_refusesAny 612 = .ok (.iconst 0, 1) := by decide +kernel
theorem dL_refusesAny_613 : decode cL_refusesAny 613 = .ok (.iload_n 1, 1) := by decide +kernel
theorem dL_refusesAny_614 : decode cL_refusesAny 614 = .ok (.iconst 2, 1) := by decide +kernel
theorem dL_refusesAny_615 : decode cL_refusesAny 615 = .ok (.irem, 1) := by decide +kernel
theorem dL_refusesAny_616 : decode cL_refusesAny 616 = .ok (.ifCond .ne 7, 3) := by decide +kernel
theorem dL_refusesAny_619 : decode cL_refusesAny 619 = .ok (.iconst (-1), 1) := by decide +kernel
theorem dL_refusesAny_620 : decode cL_refusesAny 620 = .ok (.goto 4, 3) := by decide +kernel
theorem dL_refusesAny_623 : decode cL_refusesAny 623 = .ok (.iconst 4, 1) := by decide +kernel
theorem dL_refusesAny_624 : decode cL_refusesAny 624 = .ok (.invokevirtual 24, 3) := by decide +kernel
theorem dL_refusesAny_627 : decode cL_refusesAny 627 = .ok (.bipush (-2), 2) := by decide +kernel
theorem dL_refusesAny_629 : decode cL_refusesAny 629 = .ok (.if_icmp .ne 146, 3) := by decide +kernel
theorem dL_refusesAny_632 : decode cL_refusesAny 632 = .ok (.aload_n 0, 1) := by decide +kernel
theorem dL_refusesAny_633 : decode cL_refusesAny 633 = .ok (.iconst 0, 1) := by decide +kernel
theorem dL_refusesAny_634 : decode cL_refusesAny 634 = .ok (.iload 5, 2) := by decide +kernel
theorem dL_refusesAny_636 : decode cL_refusesAny 636 = .ok (.sipush 999, 3) := by decide +kernel
theorem dL_refusesAny_639 : decode cL_refusesAny 639 = .ok (.bipush 9, 2) := by decide +kernel
theorem dL_refusesAny_641 : decode cL_refusesAny 641 = .ok (.invokevirtual 33, 3) := by decide +kernel
theorem dL_refusesAny_644 : decode cL_refusesAny 644 = .ok (.bipush (-2), 2) := by decide +kernel
theorem dL_refusesAny_646 : decode cL_refusesAny 646 = .ok (.if_icmp .ne 129, 3) := by decide +kernel
theorem dL_refusesAny_649 : decode cL_refusesAny 649 = .ok (.aload_n 0, 1) := by decide +kernel
theorem dL_refusesAny_650 : decode cL_refusesAny 650 = .ok (.iconst 0, 1) := by decide +kernel
theorem dL_refusesAny_651 : decode cL_refusesAny 651 = .ok (.iconst 5, 1) := by decide +kernel
theorem dL_refusesAny_652 : decode cL_refusesAny 652 = .ok (.iconst (-1), 1) := by decide +kernel
theorem dL_refusesAny_653 : decode cL_refusesAny 653 = .ok (.bipush 9, 2) := by decide +kernel
theorem dL_refusesAny_655 : decode cL_refusesAny 655 = .ok (.invokevirtual 33, 3) := by decide +kernel
theorem dL_refusesAny_658 : decode cL_refusesAny 658 = .ok (.iconst (-1), 1) := by decide +kernel
theorem dL_refusesAny_659 : decode cL_refusesAny 659 = .ok (.if_icmp .ne 116, 3) := by decide +kernel
theorem dL_refusesAny_662 : decode cL_refusesAny 662 = .ok (.aload_n 0, 1) := by decide +kernel
theorem dL_refusesAny_663 : decode cL_refusesAny 663 = .ok (.iconst 0, 1) := by decide +kernel
theorem dL_refusesAny_664 : decode cL_refusesAny 664 = .ok (.iconst 5, 1) := by decide +kernel
theorem dL_refusesAny_665 : decode cL_refusesAny 665 = .ok (.bipush 120, 2) := by decide +kernel
theorem dL_refusesAny_667 : decode cL_refusesAny 667 = .ok (.bipush 9, 2) := by decide +kernel
theorem dL_refusesAny_669 : decode cL_refusesAny 669 = .ok (.invokevirtual 33, 3) := by decide +kernel
theorem dL_refusesAny_672 : decode cL_refusesAny 672 = .ok (.iconst (-1), 1) := by decide +kernel
theorem dL_refusesAny_673 : decode cL_refusesAny 673 = .ok (.if_icmp .ne 102, 3) := by decide +kernel
theorem dL_refusesAny_676 : decode cL_refusesAny 676 = .ok (.aload_n 0, 1) := by decide +kernel
theorem dL_refusesAny_677 : decode cL_refusesAny 677 = .ok (.iconst 0, 1) := by decide +kernel
theorem dL_refusesAny_678 : decode cL_refusesAny 678 = .ok (.iconst 5, 1) := by decide +kernel
theorem dL_refusesAny_679 : decode cL_refusesAny 679 = .ok (.iconst 0, 1) := by decide +kernel
theorem dL_refusesAny_680 : decode cL_refusesAny 680 = .ok (.iload_n 1, 1) := by decide +kernel
theorem dL_refusesAny_681 : decode cL_refusesAny 681 = .ok (.iconst 2, 1) := by decide +kernel
theorem dL_refusesAny_682 : decode cL_refusesAny 682 = .ok (.irem, 1) := by decide +kernel
theorem dL_refusesAny_683 : decode cL_refusesAny 683 = .ok (.ifCond .ne 7, 3) := by decide +kernel
theorem dL_refusesAny_686 : decode cL_refusesAny 686 = .ok (.iconst (-1), 1) := by decide +kernel
theorem dL_refusesAny_687 : decode cL_refusesAny 687 = .ok (.goto 4, 3) := by decide +kernel
theorem dL_refusesAny_690 : decode cL_refusesAny 690 = .ok (.iconst 5, 1) := by decide +kernel
theorem dL_refusesAny_691 : decode cL_refusesAny 691 = .ok (.invokevirtual 33, 3) := by decide +kernel
theorem dL_refusesAny_694 : decode cL_refusesAny 694 = .ok (.bipush (-2), 2) := by decide +kernel
theorem dL_refusesAny_696 : decode cL_refusesAny 696 = .ok (.if_icmp .ne 79, 3) := by decide +kernel
theorem dL_refusesAny_699 : decode cL_refusesAny 699 = .ok (.aload_n 0, 1) := by decide +kernel
theorem dL_refusesAny_700 : decode cL_refusesAny 700 = .ok (.iconst 0, 1) := by decide +kernel
theorem dL_refusesAny_701 : decode cL_refusesAny 701 = .ok (.iload 5, 2) := by decide +kernel
theorem dL_refusesAny_703 : decode cL_refusesAny 703 = .ok (.iconst 0, 1) := by decide +kernel
theorem dL_refusesAny_704 : decode cL_refusesAny 704 = .ok (.invokevirtual 30, 3) := by decide +kernel
theorem dL_refusesAny_707 : decode cL_refusesAny 707 = .ok (.bipush (-2), 2) := by decide +kernel
theorem dL_refusesAny_709 : decode cL_refusesAny 709 = .ok (.if_icmp .ne 66, 3) := by decide +kernel
theorem dL_refusesAny_712 : decode cL_refusesAny 712 = .ok (.aload_n 0, 1) := by decide +kernel
theorem dL_refusesAny_713 : decode cL_refusesAny 713 = .ok (.iconst 0, 1) := by decide +kernel
theorem dL_refusesAny_714 : decode cL_refusesAny 714 = .ok (.iconst 5, 1) := by decide +kernel
theorem dL_refusesAny_715 : decode cL_refusesAny 715 = .ok (.iload_n 1, 1) := by decide +kernel
theorem dL_refusesAny_716 : decode cL_refusesAny 716 = .ok (.iconst 2, 1) := by decide +kernel
theorem dL_refusesAny_717 : decode cL_refusesAny 717 = .ok (.irem, 1) := by decide +kernel
theorem dL_refusesAny_718 : decode cL_refusesAny 718 = .ok (.ifCond .ne 7, 3) := by decide +kernel
theorem dL_refusesAny_721 : decode cL_refusesAny 721 = .ok (.iconst (-1), 1) := by decide +kernel
theorem dL_refusesAny_722 : decode cL_refusesAny 722 = .ok (.goto 5, 3) := by decide +kernel
theorem dL_refusesAny_725 : decode cL_refusesAny 725 = .ok (.bipush 9, 2) := by decide +kernel
theorem dL_refusesAny_727 : decode cL_refusesAny 727 = .ok (.invokevirtual 30, 3) := by decide +kernel
theorem dL_refusesAny_730 : decode cL_refusesAny 730 = .ok (.bipush (-2), 2) := by decide +kernel
theorem dL_refusesAny_732 : decode cL_refusesAny 732 = .ok (.if_icmp .ne 43, 3) := by decide +kernel
theorem dL_refusesAny_735 : decode cL_refusesAny 735 = .ok (.aload_n 0, 1) := by decide +kernel
theorem dL_refusesAny_736 : decode cL_refusesAny 736 = .ok (.iconst 0, 1) := by decide +kernel
theorem dL_refusesAny_737 : decode cL_refusesAny 737 = .ok (.iload 5, 2) := by decide +kernel
theorem dL_refusesAny_739 : decode cL_refusesAny 739 = .ok (.invokevirtual 37, 3) := by decide +kernel
theorem dL_refusesAny_742 : decode cL_refusesAny 742 = .ok (.fconst 2, 1) := by decide +kernel
theorem dL_refusesAny_743 : decode cL_refusesAny 743 = .ok (.fcmp .l, 1) := by decide +kernel
theorem dL_refusesAny_744 : decode cL_refusesAny 744 = .ok (.ifCond .ne 31, 3) := by decide +kernel
theorem dL_refusesAny_747 : decode cL_refusesAny 747 = .ok (.aload_n 0, 1) := by decide +kernel
theorem dL_refusesAny_748 : decode cL_refusesAny 748 = .ok (.iconst 0, 1) := by decide +kernel
theorem dL_refusesAny_749 : decode cL_refusesAny 749 = .ok (.iload 5, 2) := by decide +kernel
theorem dL_refusesAny_751 : decode cL_refusesAny 751 = .ok (.invokevirtual 67, 3) := by decide +kernel
theorem dL_refusesAny_754 : decode cL_refusesAny 754 = .ok (.bipush (-2), 2) := by decide +kernel
theorem dL_refusesAny_756 : decode cL_refusesAny 756 = .ok (.if_icmp .ne 19, 3) := by decide +kernel
theorem dL_refusesAny_759 : decode cL_refusesAny 759 = .ok (.aload_n 0, 1) := by decide +kernel
theorem dL_refusesAny_760 : decode cL_refusesAny 760 = .ok (.iconst 0, 1) := by decide +kernel
theorem dL_refusesAny_761 : decode cL_refusesAny 761 = .ok (.iload 5, 2) := by decide +kernel
theorem dL_refusesAny_763 : decode cL_refusesAny 763 = .ok (.invokevirtual 70, 3) := by decide +kernel
theorem dL_refusesAny_766 : decode cL_refusesAny 766 = .ok (.bipush (-2), 2) := by decide +kernel
theorem dL_refusesAny_768 : decode cL_refusesAny 768 = .ok (.if_icmp .ne 7, 3) := by decide +kernel
theorem dL_refusesAny_771 : decode cL_refusesAny 771 = .ok (.iconst 1, 1) := by decide +kernel
theorem dL_refusesAny_772 : decode cL_refusesAny 772 = .ok (.goto 4, 3) := by decide +kernel
theorem dL_refusesAny_775 : decode cL_refusesAny 775 = .ok (.iconst 0, 1) := by decide +kernel
theorem dL_refusesAny_776 : decode cL_refusesAny 776 = .ok (.istore 8, 2) := by decide +kernel
theorem dL_refusesAny_778 : decode cL_refusesAny 778 = .ok (.iload 8, 2) := by decide +kernel
theorem dL_refusesAny_780 : decode cL_refusesAny 780 = .ok (.ifCond .eq 120, 3) := by decide +kernel
theorem dL_refusesAny_783 : decode cL_refusesAny 783 = .ok (.aload_n 0, 1) := by decide +kernel
theorem dL_refusesAny_784 : decode cL_refusesAny 784 = .ok (.iload_n 2, 1) := by decide +kernel
theorem dL_refusesAny_785 : decode cL_refusesAny 785 = .ok (.bipush 9, 2) := by decide +kernel
theorem dL_refusesAny_787 : decode cL_refusesAny 787 = .ok (.invokevirtual 20, 3) := by decide +kernel
theorem dL_refusesAny_790 : decode cL_refusesAny 790 = .ok (.iconst (-1), 1) := by decide +kernel
theorem dL_refusesAny_791 : decode cL_refusesAny 791 = .ok (.if_icmp .ne 109, 3) := by decide +kernel
theorem dL_refusesAny_794 : decode cL_refusesAny 794 = .ok (.aload_n 0, 1) := by decide +kernel
theorem dL_refusesAny_795 : decode cL_refusesAny 795 = .ok (.iload_n 2, 1) := by decide +kernel
theorem dL_refusesAny_796 : decode cL_refusesAny 796 = .ok (.iconst 0, 1) := by decide +kernel
theorem dL_refusesAny_797 : decode cL_refusesAny 797 = .ok (.bipush 9, 2) := by decide +kernel
theorem dL_refusesAny_799 : decode cL_refusesAny 799 = .ok (.invokevirtual 24, 3) := by decide +kernel
theorem dL_refusesAny_802 : decode cL_refusesAny 802 = .ok (.iconst (-1), 1) := by decide +kernel
theorem dL_refusesAny_803 : decode cL_refusesAny 803 = .ok (.if_icmp .ne 97, 3) := by decide +kernel
theorem dL_refusesAny_806 : decode cL_refusesAny 806 = .ok (.aload_n 0, 1) := by decide +kernel
theorem dL_refusesAny_807 : decode cL_refusesAny 807 = .ok (.iload_n 2, 1) := by decide +kernel
theorem dL_refusesAny_808 : decode cL_refusesAny 808 = .ok (.bipush 99, 2) := by decide +kernel
theorem dL_refusesAny_810 : decode cL_refusesAny 810 = .ok (.iconst 0, 1) := by decide +kernel
theorem dL_refusesAny_811 : decode cL_refusesAny 811 = .ok (.bipush 9, 2) := by decide +kernel
theorem dL_refusesAny_813 : decode cL_refusesAny 813 = .ok (.invokevirtual 33, 3) := by decide +kernel
theorem dL_refusesAny_816 : decode cL_refusesAny 816 = .ok (.iconst (-1), 1) := by decide +kernel
theorem dL_refusesAny_817 : decode cL_refusesAny 817 = .ok (.if_icmp .ne 83, 3) := by decide +kernel
theorem dL_refusesAny_820 : decode cL_refusesAny 820 = .ok (.aload_n 0, 1) := by decide +kernel
theorem dL_refusesAny_821 : decode cL_refusesAny 821 = .ok (.iload_n 2, 1) := by decide +kernel
theorem dL_refusesAny_822 : decode cL_refusesAny 822 = .ok (.bipush 99, 2) := by decide +kernel
theorem dL_refusesAny_824 : decode cL_refusesAny 824 = .ok (.bipush 9, 2) := by decide +kernel
theorem dL_refusesAny_826 : decode cL_refusesAny 826 = .ok (.invokevirtual 30, 3) := by decide +kernel
theorem dL_refusesAny_829 : decode cL_refusesAny 829 = .ok (.iconst (-1), 1) := by decide +kernel
theorem dL_refusesAny_830 : decode cL_refusesAny 830 = .ok (.if_icmp .ne 70, 3) := by decide +kernel
theorem dL_refusesAny_833 : decode cL_refusesAny 833 = .ok (.aload_n 0, 1) := by decide +kernel
theorem dL_refusesAny_834 : decode cL_refusesAny 834 = .ok (.iload_n 2, 1) := by decide +kernel
theorem dL_refusesAny_835 : decode cL_refusesAny 835 = .ok (.iconst 5, 1) := by decide +kernel
theorem dL_refusesAny_836 : decode cL_refusesAny 836 = .ok (.invokevirtual 37, 3) := by decide +kernel
theorem dL_refusesAny_839 : decode cL_refusesAny 839 = .ok (.fconst 2, 1) := by decide +kernel
theorem dL_refusesAny_840 : decode cL_refusesAny 840 = .ok (.fcmp .l, 1) := by decide +kernel
theorem dL_refusesAny_841 : decode cL_refusesAny 841 = .ok (.ifCond .ne 59, 3) := by decide +kernel
theorem dL_refusesAny_844 : decode cL_refusesAny 844 = .ok (.aload_n 0, 1) := by decide +kernel
theorem dL_refusesAny_845 : decode cL_refusesAny 845 = .ok (.iload_n 2, 1) := by decide +kernel
theorem dL_refusesAny_846 : decode cL_refusesAny 846 = .ok (.invokevirtual 73, 3) := by decide +kernel
theorem dL_refusesAny_849 : decode cL_refusesAny 849 = .ok (.iconst (-1), 1) := by decide +kernel
theorem dL_refusesAny_850 : decode cL_refusesAny 850 = .ok (.if_icmp .ne 50, 3) := by decide +kernel
theorem dL_refusesAny_853 : decode cL_refusesAny 853 = .ok (.aload_n 0, 1) := by decide +kernel
theorem dL_refusesAny_854 : decode cL_refusesAny 854 = .ok (.iload_n 2, 1) := by decide +kernel
theorem dL_refusesAny_855 : decode cL_refusesAny 855 = .ok (.bipush 99, 2) := by decide +kernel
theorem dL_refusesAny_857 : decode cL_refusesAny 857 = .ok (.invokevirtual 67, 3) := by decide +kernel
theorem dL_refusesAny_860 : decode cL_refusesAny 860 = .ok (.iconst (-1), 1) := by decide +kernel
theorem dL_refusesAny_861 : decode cL_refusesAny 861 = .ok (.if_icmp .ne 39, 3) := by decide +kernel
theorem dL_refusesAny_864 : decode cL_refusesAny 864 = .ok (.aload_n 0, 1) := by decide +kernel
theorem dL_refusesAny_865 : decode cL_refusesAny 865 = .ok (.iload_n 2, 1) := by decide +kernel
theorem dL_refusesAny_866 : decode cL_refusesAny 866 = .ok (.bipush 99, 2) := by decide +kernel
theorem dL_refusesAny_868 : decode cL_refusesAny 868 = .ok (.invokevirtual 70, 3) := by decide +kernel
theorem dL_refusesAny_871 : decode cL_refusesAny 871 = .ok (.iconst (-1), 1) := by decide +kernel
theorem dL_refusesAny_872 : decode cL_refusesAny 872 = .ok (.if_icmp .ne 28, 3) := by decide +kernel
theorem dL_refusesAny_875 : decode cL_refusesAny 875 = .ok (.aload_n 0, 1) := by decide +kernel
theorem dL_refusesAny_876 : decode cL_refusesAny 876 = .ok (.iload_n 1, 1) := by decide +kernel
theorem dL_refusesAny_877 : decode cL_refusesAny 877 = .ok (.iconst 2, 1) := by decide +kernel
theorem dL_refusesAny_878 : decode cL_refusesAny 878 = .ok (.irem, 1) := by decide +kernel
theorem dL_refusesAny_879 : decode cL_refusesAny 879 = .ok (.ifCond .ne 7, 3) := by decide +kernel
theorem dL_refusesAny_882 : decode cL_refusesAny 882 = .ok (.iconst (-1), 1) := by decide +kernel
theorem dL_refusesAny_883 : decode cL_refusesAny 883 = .ok (.goto 5, 3) := by decide +kernel
theorem dL_refusesAny_886 : decode cL_refusesAny 886 = .ok (.bipush 12, 2) := by decide +kernel
theorem dL_refusesAny_888 : decode cL_refusesAny 888 = .ok (.invokevirtual 14, 3) := by decide +kernel
theorem dL_refusesAny_891 : decode cL_refusesAny 891 = .ok (.bipush (-2), 2) := by decide +kernel
theorem dL_refusesAny_893 : decode cL_refusesAny 893 = .ok (.if_icmp .ne 7, 3) := by decide +kernel
theorem dL_refusesAny_896 : decode cL_refusesAny 896 = .ok (.iconst 1, 1) := by decide +kernel
theorem dL_refusesAny_897 : decode cL_refusesAny 897 = .ok (.goto 4, 3) := by decide +kernel
theorem dL_refusesAny_900 : decode cL_refusesAny 900 = .ok (.iconst 0, 1) := by decide +kernel
theorem dL_refusesAny_901 : decode cL_refusesAny 901 = .ok (.istore 8, 2) := by decide +kernel
theorem dL_refusesAny_903 : decode cL_refusesAny 903 = .ok (.iload 8, 2) := by decide +kernel
theorem dL_refusesAny_905 : decode cL_refusesAny 905 = .ok (.ifCond .eq 30, 3) := by decide +kernel
theorem dL_refusesAny_908 : decode cL_refusesAny 908 = .ok (.aload_n 0, 1) := by decide +kernel
theorem dL_refusesAny_909 : decode cL_refusesAny 909 = .ok (.invokevirtual 76, 3) := by decide +kernel
theorem dL_refusesAny_912 : decode cL_refusesAny 912 = .ok (.ifCond .ne 23, 3) := by decide +kernel
theorem dL_refusesAny_915 : decode cL_refusesAny 915 = .ok (.aload_n 0, 1) := by decide +kernel
theorem dL_refusesAny_916 : decode cL_refusesAny 916 = .ok (.invokevirtual 80, 3) := by decide +kernel
theorem dL_refusesAny_919 : decode cL_refusesAny 919 = .ok (.bipush (-100), 2) := by decide +kernel
theorem dL_refusesAny_921 : decode cL_refusesAny 921 = .ok (.if_icmp .ne 14, 3) := by decide +kernel
theorem dL_refusesAny_924 : decode cL_refusesAny 924 = .ok (.aload_n 0, 1) := by decide +kernel
theorem dL_refusesAny_925 : decode cL_refusesAny 925 = .ok (.invokevirtual 83, 3) := by decide +kernel
theorem dL_refusesAny_928 : decode cL_refusesAny 928 = .ok (.ifCond .ne 7, 3) := by decide +kernel
theorem dL_refusesAny_931 : decode cL_refusesAny 931 = .ok (.iconst 1, 1) := by decide +kernel
theorem dL_refusesAny_932 : decode cL_refusesAny 932 = .ok (.goto 4, 3) := by decide +kernel
theorem dL_refusesAny_935 : decode cL_refusesAny 935 = .ok (.iconst 0, 1) := by decide +kernel
theorem dL_refusesAny_936 : decode cL_refusesAny 936 = .ok (.ireturn, 1) := by decide +kernel
theorem dL_refuses_0 : decode cL_refuses 0 = .ok (.aload_n 0, 1) := by decide +kernel
theorem dL_refuses_1 : decode cL_refuses 1 = .ok (.invokestatic 86, 3) := by decide +kernel
theorem dL_refuses_4 : decode cL_refuses 4 = .ok (.lstore_n 2, 1) := by decide +kernel
theorem dL_refuses_5 : decode cL_refuses 5 = .ok (.aload_n 0, 1) := by decide +kernel
theorem dL_refuses_6 : decode cL_refuses 6 = .ok (.iconst 4, 1) := by decide +kernel
theorem dL_refuses_7 : decode cL_refuses 7 = .ok (.invokevirtual 14, 3) := by decide +kernel
theorem dL_refuses_10 : decode cL_refuses 10 = .ok (.istore 4, 2) := by decide +kernel
theorem dL_refuses_12 : decode cL_refuses 12 = .ok (.aload_n 0, 1) := by decide +kernel
theorem dL_refuses_13 : decode cL_refuses 13 = .ok (.iload_n 1, 1) := by decide +kernel
theorem dL_refuses_14 : decode cL_refuses 14 = .ok (.invokestatic 90, 3) := by decide +kernel
theorem dL_refuses_17 : decode cL_refuses 17 = .ok (.ifCond .eq 26, 3) := by decide +kernel
theorem dL_refuses_20 : decode cL_refuses 20 = .ok (.aload_n 0, 1) := by decide +kernel
theorem dL_refuses_21 : decode cL_refuses 21 = .ok (.invokestatic 86, 3) := by decide +kernel
theorem dL_refuses_24 : decode cL_refuses 24 = .ok (.lload_n 2, 1) := by decide +kernel
theorem dL_refuses_25 : decode cL_refuses 25 = .ok (.lcmp, 1) := by decide +kernel
theorem dL_refuses_26 : decode cL_refuses 26 = .ok (.ifCond .ne 17, 3) := by decide +kernel
theorem dL_refuses_29 : decode cL_refuses 29 = .ok (.aload_n 0, 1) := by decide +kernel
theorem dL_refuses_30 : decode cL_refuses 30 = .ok (.iconst 4, 1) := by decide +kernel
theorem dL_refuses_31 : decode cL_refuses 31 = .ok (.invokevirtual 14, 3) := by decide +kernel
theorem dL_refuses_34 : decode cL_refuses 34 = .ok (.iload 4, 2) := by decide +kernel
theorem dL_refuses_36 : decode cL_refuses 36 = .ok (.if_icmp .ne 7, 3) := by decide +kernel
theorem dL_refuses_39 : decode cL_refuses 39 = .ok (.iconst 1, 1) := by decide +kernel
theorem dL_refuses_40 : decode cL_refuses 40 = .ok (.goto 4, 3) := by decide +kernel
theorem dL_refuses_43 : decode cL_refuses 43 = .ok (.iconst 0, 1) := by decide +kernel
theorem dL_refuses_44 : decode cL_refuses 44 = .ok (.ireturn, 1) := by decide +kernel
theorem dL_act_0 : decode cL_act 0 = .ok (.iload_n 1, 1) := by decide +kernel
theorem dL_act_1 : decode cL_act 1 = .ok (.bipush 16, 2) := by decide +kernel
theorem dL_act_3 : decode cL_act 3 = .ok (.irem, 1) := by decide +kernel
theorem dL_act_4 : decode cL_act 4 = .ok (.istore_n 2, 1) := by decide +kernel
theorem dL_act_5 : decode cL_act 5 = .ok (.iload_n 1, 1) := by decide +kernel
theorem dL_act_6 : decode cL_act 6 = .ok (.bipush 16, 2) := by decide +kernel
theorem dL_act_8 : decode cL_act 8 = .ok (.idiv, 1) := by decide +kernel
theorem dL_act_9 : decode cL_act 9 = .ok (.istore_n 3, 1) := by decide +kernel
theorem dL_act_10 : decode cL_act 10 = .ok (.aload_n 0, 1) := by decide +kernel
theorem dL_act_11 : decode cL_act 11 = .ok (.iconst 0, 1) := by decide +kernel
theorem dL_act_12 : decode cL_act 12 = .ok (.invokevirtual 14, 3) := by decide +kernel
theorem dL_act_15 : decode cL_act 15 = .ok (.istore 4, 2) := by decide +kernel
theorem dL_act_17 : decode cL_act 17 = .ok (.iload 4, 2) := by decide +kernel
theorem dL_act_19 : decode cL_act 19 = .ok (.ifCond .ne 7, 3) := by decide +kernel
theorem dL_act_22 : decode cL_act 22 = .ok (.iconst 0, 1) := by decide +kernel
theorem dL_act_23 : decode cL_act 23 = .ok (.goto 7, 3) := by decide +kernel
theorem dL_act_26 : decode cL_act 26 = .ok (.iload_n 3, 1) := by decide +kernel
theorem dL_act_27 : decode cL_act 27 = .ok (.iload 4, 2) := by decide +kernel
theorem dL_act_29 : decode cL_act 29 = .ok (.irem, 1) := by decide +kernel
theorem dL_act_30 : decode cL_act 30 = .ok (.istore 5, 2) := by decide +kernel
theorem dL_act_32 : decode cL_act 32 = .ok (.iconst 1, 1) := by decide +kernel
theorem dL_act_33 : decode cL_act 33 = .ok (.iload_n 3, 1) := by decide +kernel
theorem dL_act_34 : decode cL_act 34 = .ok (.bipush 36, 2) := by decide +kernel
theorem dL_act_36 : decode cL_act 36 = .ok (.idiv, 1) := by decide +kernel
theorem dL_act_37 : decode cL_act 37 = .ok (.sipush 200, 3) := by decide +kernel
theorem dL_act_40 : decode cL_act 40 = .ok (.irem, 1) := by decide +kernel
theorem dL_act_41 : decode cL_act 41 = .ok (.iadd, 1) := by decide +kernel
theorem dL_act_42 : decode cL_act 42 = .ok (.istore 6, 2) := by decide +kernel
theorem dL_act_44 : decode cL_act 44 = .ok (.iload_n 2, 1) := by decide +kernel
theorem dL_act_45 : decode cL_act 45 = .ok (.iconst 3, 1) := by decide +kernel
theorem dL_act_46 : decode cL_act 46 = .ok (.if_icmp .lt 8, 3) := by decide +kernel
theorem dL_act_49 : decode cL_act 49 = .ok (.iload 4, 2) := by decide +kernel
theorem dL_act_51 : decode cL_act 51 = .ok (.ifCond .ne 91, 3) := by decide +kernel
theorem dL_act_54 : decode cL_act 54 = .ok (.aload_n 0, 1) := by decide +kernel
theorem dL_act_55 : decode cL_act 55 = .ok (.iload 6, 2) := by decide +kernel
theorem dL_act_57 : decode cL_act 57 = .ok (.invokevirtual 45, 3) := by decide +kernel
theorem dL_act_60 : decode cL_act 60 = .ok (.istore 7, 2) := by decide +kernel
theorem dL_act_62 : decode cL_act 62 = .ok (.iload 7, 2) := by decide +kernel
theorem dL_act_64 : decode cL_act 64 = .ok (.iload 4, 2) := by decide +kernel
theorem dL_act_66 : decode cL_act 66 = .ok (.bipush 6, 2) := by decide +kernel
theorem dL_act_68 : decode cL_act 68 = .ok (.if_icmp .ne 8, 3) := by decide +kernel
theorem dL_act_71 : decode cL_act 71 = .ok (.bipush (-3), 2) := by decide +kernel
theorem dL_act_73 : decode cL_act 73 = .ok (.goto 5, 3) := by decide +kernel
theorem dL_act_76 : decode cL_act 76 = .ok (.iload 4, 2) := by decide +kernel
theorem dL_act_78 : decode cL_act 78 = .ok (.if_icmp .ne 61, 3) := by decide +kernel
theorem dL_act_81 : decode cL_act 81 = .ok (.iload 7, 2) := by decide +kernel
theorem dL_act_83 : decode cL_act 83 = .ok (.ifCond .lt 51, 3) := by decide +kernel
theorem dL_act_86 : decode cL_act 86 = .ok (.aload_n 0, 1) := by decide +kernel
theorem dL_act_87 : decode cL_act 87 = .ok (.iload 7, 2) := by decide +kernel
theorem dL_act_89 : decode cL_act 89 = .ok (.iconst 2, 1) := by decide +kernel
theorem dL_act_90 : decode cL_act 90 = .ok (.invokevirtual 20, 3) := by decide +kernel
theorem dL_act_93 : decode cL_act 93 = .ok (.iload 6, 2) := by decide +kernel
theorem dL_act_95 : decode cL_act 95 = .ok (.if_icmp .ne 44, 3) := by decide +kernel
theorem dL_act_98 : decode cL_act 98 = .ok (.aload_n 0, 1) := by decide +kernel
theorem dL_act_99 : decode cL_act 99 = .ok (.iload 7, 2) := by decide +kernel
theorem dL_act_101 : decode cL_act 101 = .ok (.iconst 0, 1) := by decide +kernel
theorem dL_act_102 : decode cL_act 102 = .ok (.invokevirtual 20, 3) := by decide +kernel
theorem dL_act_105 : decode cL_act 105 = .ok (.iconst 1, 1) := by decide +kernel
theorem dL_act_106 : decode cL_act 106 = .ok (.if_icmp .ne 33, 3) := by decide +kernel
theorem dL_act_109 : decode cL_act 109 = .ok (.aload_n 0, 1) := by decide +kernel
theorem dL_act_110 : decode cL_act 110 = .ok (.iload 7, 2) := by decide +kernel
theorem dL_act_112 : decode cL_act 112 = .ok (.iconst 4, 1) := by decide +kernel
theorem dL_act_113 : decode cL_act 113 = .ok (.invokevirtual 20, 3) := by decide +kernel
theorem dL_act_116 : decode cL_act 116 = .ok (.bipush (-5), 2) := by decide +kernel
theorem dL_act_118 : decode cL_act 118 = .ok (.if_icmp .ne 21, 3) := by decide +kernel
theorem dL_act_121 : decode cL_act 121 = .ok (.aload_n 0, 1) := by decide +kernel
theorem dL_act_122 : decode cL_act 122 = .ok (.iload 7, 2) := by decide +kernel
theorem dL_act_124 : decode cL_act 124 = .ok (.bipush 7, 2) := by decide +kernel
theorem dL_act_126 : decode cL_act 126 = .ok (.invokevirtual 20, 3) := by decide +kernel
theorem dL_act_129 : decode cL_act 129 = .ok (.bipush (-5), 2) := by decide +kernel
theorem dL_act_131 : decode cL_act 131 = .ok (.if_icmp .ne 8, 3) := by decide +kernel
theorem dL_act_134 : decode cL_act 134 = .ok (.iload 7, 2) := by decide +kernel
theorem dL_act_136 : decode cL_act 136 = .ok (.goto 5, 3) := by decide +kernel
theorem dL_act_139 : decode cL_act 139 = .ok (.bipush (-9), 2) := by decide +kernel
theorem dL_act_141 : decode cL_act 141 = .ok (.ireturn, 1) := by decide +kernel
theorem dL_act_142 : decode cL_act 142 = .ok (.aload_n 0, 1) := by decide +kernel
theorem dL_act_143 : decode cL_act 143 = .ok (.iload 5, 2) := by decide +kernel
theorem dL_act_145 : decode cL_act 145 = .ok (.iconst 0, 1) := by decide +kernel
theorem dL_act_146 : decode cL_act 146 = .ok (.invokevirtual 20, 3) := by decide +kernel
theorem dL_act_149 : decode cL_act 149 = .ok (.istore 7, 2) := by decide +kernel
theorem dL_act_151 : decode cL_act 151 = .ok (.iload_n 3, 1) := by decide +kernel
theorem dL_act_152 : decode cL_act 152 = .ok (.bipush 6, 2) := by decide +kernel
theorem dL_act_154 : decode cL_act 154 = .ok (.idiv, 1) := by decide +kernel
theorem dL_act_155 : decode cL_act 155 = .ok (.iload 7, 2) := by decide +kernel
theorem dL_act_157 : decode cL_act 157 = .ok (.irem, 1) := by decide +kernel
theorem dL_act_158 : decode cL_act 158 = .ok (.istore 8, 2) := by decide +kernel
theorem dL_act_160 : decode cL_act 160 = .ok (.iload_n 2, 1) := by decide +kernel
theorem dL_act_161 : decode cL_act 161 = .ok (.bipush 6, 2) := by decide +kernel
theorem dL_act_163 : decode cL_act 163 = .ok (.if_icmp .ge 110, 3) := by decide +kernel
theorem dL_act_166 : decode cL_act 166 = .ok (.iconst 2, 1) := by decide +kernel
theorem dL_act_167 : decode cL_act 167 = .ok (.iload_n 3, 1) := by decide +kernel
theorem dL_act_168 : decode cL_act 168 = .ok (.bipush 7, 2) := by decide +kernel
theorem dL_act_170 : decode cL_act 170 = .ok (.idiv, 1) := by decide +kernel
theorem dL_act_171 : decode cL_act 171 = .ok (.iload_n 3, 1) := by decide +kernel
theorem dL_act_172 : decode cL_act 172 = .ok (.iconst 3, 1) := by decide +kernel
theorem dL_act_173 : decode cL_act 173 = .ok (.irem, 1) := by decide +kernel
theorem dL_act_174 : decode cL_act 174 = .ok (.ifCond .ne 8, 3) := by decide +kernel
theorem dL_act_177 : decode cL_act 177 = .ok (.bipush 39, 2) := by decide +kernel
theorem dL_act_179 : decode cL_act 179 = .ok (.goto 5, 3) := by decide +kernel
theorem dL_act_182 : decode cL_act 182 = .ok (.bipush 9, 2) := by decide +kernel
theorem dL_act_184 : decode cL_act 184 = .ok (.irem, 1) := by decide +kernel
theorem dL_act_185 : decode cL_act 185 = .ok (.iadd, 1) := by decide +kernel
theorem dL_act_186 : decode cL_act 186 = .ok (.istore 9, 2) := by decide +kernel
theorem dL_act_188 : decode cL_act 188 = .ok (.aload_n 0, 1) := by decide +kernel
theorem dL_act_189 : decode cL_act 189 = .ok (.iload 5, 2) := by decide +kernel
theorem dL_act_191 : decode cL_act 191 = .ok (.iload 9, 2) := by decide +kernel
theorem dL_act_193 : decode cL_act 193 = .ok (.iload 6, 2) := by decide +kernel
theorem dL_act_195 : decode cL_act 195 = .ok (.invokevirtual 48, 3) := by decide +kernel
theorem dL_act_198 : decode cL_act 198 = .ok (.istore 10, 2) := by decide +kernel
theorem dL_act_200 : decode cL_act 200 = .ok (.iload 10, 2) := by decide +kernel
theorem dL_act_202 : decode cL_act 202 = .ok (.iload 7, 2) := by decide +kernel
theorem dL_act_204 : decode cL_act 204 = .ok (.iconst 5, 1) := by decide +kernel
theorem dL_act_205 : decode cL_act 205 = .ok (.if_icmp .ne 8, 3) := by decide +kernel
theorem dL_act_208 : decode cL_act 208 = .ok (.bipush (-3), 2) := by decide +kernel
theorem dL_act_210 : decode cL_act 210 = .ok (.goto 7, 3) := by decide +kernel
theorem dL_act_213 : decode cL_act 213 = .ok (.iload 7, 2) := by decide +kernel
theorem dL_act_215 : decode cL_act 215 = .ok (.iconst 1, 1) := by decide +kernel
theorem dL_act_216 : decode cL_act 216 = .ok (.iadd, 1) := by decide +kernel
theorem dL_act_217 : decode cL_act 217 = .ok (.if_icmp .ne 53, 3) := by decide +kernel
theorem dL_act_220 : decode cL_act 220 = .ok (.iload 10, 2) := by decide +kernel
theorem dL_act_222 : decode cL_act 222 = .ok (.ifCond .lt 43, 3) := by decide +kernel
theorem dL_act_225 : decode cL_act 225 = .ok (.aload_n 0, 1) := by decide +kernel
theorem dL_act_226 : decode cL_act 226 = .ok (.iload 5, 2) := by decide +kernel
theorem dL_act_228 : decode cL_act 228 = .ok (.iload 7, 2) := by decide +kernel
theorem dL_act_230 : decode cL_act 230 = .ok (.iconst 0, 1) := by decide +kernel
theorem dL_act_231 : decode cL_act 231 = .ok (.invokevirtual 24, 3) := by decide +kernel
theorem dL_act_234 : decode cL_act 234 = .ok (.iload 6, 2) := by decide +kernel
theorem dL_act_236 : decode cL_act 236 = .ok (.if_icmp .ne 34, 3) := by decide +kernel
theorem dL_act_239 : decode cL_act 239 = .ok (.aload_n 0, 1) := by decide +kernel
theorem dL_act_240 : decode cL_act 240 = .ok (.iload 5, 2) := by decide +kernel
theorem dL_act_242 : decode cL_act 242 = .ok (.iload 7, 2) := by decide +kernel
theorem dL_act_244 : decode cL_act 244 = .ok (.iconst 1, 1) := by decide +kernel
theorem dL_act_245 : decode cL_act 245 = .ok (.invokevirtual 24, 3) := by decide +kernel
theorem dL_act_248 : decode cL_act 248 = .ok (.iload 9, 2) := by decide +kernel
theorem dL_act_250 : decode cL_act 250 = .ok (.if_icmp .ne 20, 3) := by decide +kernel
theorem dL_act_253 : decode cL_act 253 = .ok (.aload_n 0, 1) := by decide +kernel
theorem dL_act_254 : decode cL_act 254 = .ok (.iload 5, 2) := by decide +kernel
theorem dL_act_256 : decode cL_act 256 = .ok (.iload 7, 2) := by decide +kernel
theorem dL_act_258 : decode cL_act 258 = .ok (.iconst 2, 1) := by decide +kernel
theorem dL_act_259 : decode cL_act 259 = .ok (.invokevirtual 24, 3) := by decide +kernel
theorem dL_act_262 : decode cL_act 262 = .ok (.ifCond .ne 8, 3) := by decide +kernel
theorem dL_act_265 : decode cL_act 265 = .ok (.iload 10, 2) := by decide +kernel
theorem dL_act_267 : decode cL_act 267 = .ok (.goto 5, 3) := by decide +kernel
theorem dL_act_270 : decode cL_act 270 = .ok (.bipush (-9), 2) := by decide +kernel
theorem dL_act_272 : decode cL_act 272 = .ok (.ireturn, 1) := by decide +kernel
theorem dL_act_273 : decode cL_act 273 = .ok (.iload_n 2, 1) := by decide +kernel
theorem dL_act_274 : decode cL_act 274 = .ok (.bipush 6, 2) := by decide +kernel
theorem dL_act_276 : decode cL_act 276 = .ok (.if_icmp .ne 67, 3) := by decide +kernel
theorem dL_act_279 : decode cL_act 279 = .ok (.aload_n 0, 1) := by decide +kernel
theorem dL_act_280 : decode cL_act 280 = .ok (.iload 5, 2) := by decide +kernel
theorem dL_act_282 : decode cL_act 282 = .ok (.iload 8, 2) := by decide +kernel
theorem dL_act_284 : decode cL_act 284 = .ok (.iconst 0, 1) := by decide +kernel
theorem dL_act_285 : decode cL_act 285 = .ok (.invokevirtual 24, 3) := by decide +kernel
theorem dL_act_288 : decode cL_act 288 = .ok (.istore 9, 2) := by decide +kernel
theorem dL_act_290 : decode cL_act 290 = .ok (.aload_n 0, 1) := by decide +kernel
theorem dL_act_291 : decode cL_act 291 = .ok (.iload 5, 2) := by decide +kernel
theorem dL_act_293 : decode cL_act 293 = .ok (.iload 8, 2) := by decide +kernel
theorem dL_act_295 : decode cL_act 295 = .ok (.iload 6, 2) := by decide +kernel
theorem dL_act_297 : decode cL_act 297 = .ok (.invokevirtual 51, 3) := by decide +kernel
theorem dL_act_300 : decode cL_act 300 = .ok (.istore 10, 2) := by decide +kernel
theorem dL_act_302 : decode cL_act 302 = .ok (.iload 10, 2) := by decide +kernel
theorem dL_act_304 : decode cL_act 304 = .ok (.iload 9, 2) := by decide +kernel
theorem dL_act_306 : decode cL_act 306 = .ok (.iload 6, 2) := by decide +kernel
theorem dL_act_308 : decode cL_act 308 = .ok (.if_icmp .ne 8, 3) := by decide +kernel
theorem dL_act_311 : decode cL_act 311 = .ok (.bipush (-5), 2) := by decide +kernel
theorem dL_act_313 : decode cL_act 313 = .ok (.goto 5, 3) := by decide +kernel
theorem dL_act_316 : decode cL_act 316 = .ok (.iload 9, 2) := by decide +kernel
theorem dL_act_318 : decode cL_act 318 = .ok (.if_icmp .ne 22, 3) := by decide +kernel
theorem dL_act_321 : decode cL_act 321 = .ok (.aload_n 0, 1) := by decide +kernel
theorem dL_act_322 : decode cL_act 322 = .ok (.iload 5, 2) := by decide +kernel
theorem dL_act_324 : decode cL_act 324 = .ok (.iload 8, 2) := by decide +kernel
theorem dL_act_326 : decode cL_act 326 = .ok (.iconst 0, 1) := by decide +kernel
theorem dL_act_327 : decode cL_act 327 = .ok (.invokevirtual 24, 3) := by decide +kernel
theorem dL_act_330 : decode cL_act 330 = .ok (.iload 6, 2) := by decide +kernel
theorem dL_act_332 : decode cL_act 332 = .ok (.if_icmp .ne 8, 3) := by decide +kernel
theorem dL_act_335 : decode cL_act 335 = .ok (.iload 10, 2) := by decide +kernel
theorem dL_act_337 : decode cL_act 337 = .ok (.goto 5, 3) := by decide +kernel
theorem dL_act_340 : decode cL_act 340 = .ok (.bipush (-9), 2) := by decide +kernel
theorem dL_act_342 : decode cL_act 342 = .ok (.ireturn, 1) := by decide +kernel
theorem dL_act_343 : decode cL_act 343 = .ok (.iload_n 2, 1) := by decide +kernel
theorem dL_act_344 : decode cL_act 344 = .ok (.bipush 9, 2) := by decide +kernel
theorem dL_act_346 : decode cL_act 346 = .ok (.if_icmp .ge 155, 3) := by decide +kernel
theorem dL_act_349 : decode cL_act 349 = .ok (.iload_n 3, 1) := by decide +kernel
theorem dL_act_350 : decode cL_act 350 = .ok (.bipush 36, 2) := by decide +kernel
theorem dL_act_352 : decode cL_act 352 = .ok (.idiv, 1) := by decide +kernel
theorem dL_act_353 : decode cL_act 353 = .ok (.iconst 2, 1) := by decide +kernel
theorem dL_act_354 : decode cL_act 354 = .ok (.irem, 1) := by decide +kernel
theorem dL_act_355 : decode cL_act 355 = .ok (.ifCond .ne 7, 3) := by decide +kernel
theorem dL_act_358 : decode cL_act 358 = .ok (.iconst 1, 1) := by decide +kernel
theorem dL_act_359 : decode cL_act 359 = .ok (.goto 4, 3) := by decide +kernel
theorem dL_act_362 : decode cL_act 362 = .ok (.iconst 0, 1) := by decide +kernel
theorem dL_act_363 : decode cL_act 363 = .ok (.istore 9, 2) := by decide +kernel
theorem dL_act_365 : decode cL_act 365 = .ok (.aload_n 0, 1) := by decide +kernel
theorem dL_act_366 : decode cL_act 366 = .ok (.iload 5, 2) := by decide +kernel
theorem dL_act_368 : decode cL_act 368 = .ok (.iload 8, 2) := by decide +kernel
theorem dL_act_370 : decode cL_act 370 = .ok (.iconst 2, 1) := by decide +kernel
theorem dL_act_371 : decode cL_act 371 = .ok (.invokevirtual 24, 3) := by decide +kernel
theorem dL_act_374 : decode cL_act 374 = .ok (.istore 10, 2) := by decide +kernel
theorem dL_act_376 : decode cL_act 376 = .ok (.aload_n 0, 1) := by decide +kernel
theorem dL_act_377 : decode cL_act 377 = .ok (.iload 5, 2) := by decide +kernel
theorem dL_act_379 : decode cL_act 379 = .ok (.iconst 1, 1) := by decide +kernel
theorem dL_act_380 : decode cL_act 380 = .ok (.invokevirtual 20, 3) := by decide +kernel
theorem dL_act_383 : decode cL_act 383 = .ok (.istore 11, 2) := by decide +kernel
theorem dL_act_385 : decode cL_act 385 = .ok (.aload_n 0, 1) := by decide +kernel
theorem dL_act_386 : decode cL_act 386 = .ok (.iload 5, 2) := by decide +kernel
theorem dL_act_388 : decode cL_act 388 = .ok (.iload 8, 2) := by decide +kernel
theorem dL_act_390 : decode cL_act 390 = .ok (.iload 9, 2) := by decide +kernel
theorem dL_act_392 : decode cL_act 392 = .ok (.invokevirtual 54, 3) := by decide +kernel
theorem dL_act_395 : decode cL_act 395 = .ok (.istore 12, 2) := by decide +kernel
theorem dL_act_397 : decode cL_act 397 = .ok (.iload 10, 2) := by decide +kernel
theorem dL_act_399 : decode cL_act 399 = .ok (.iload 9, 2) := by decide +kernel
theorem dL_act_401 : decode cL_act 401 = .ok (.ifCond .eq 7, 3) := by decide +kernel
theorem dL_act_404 : decode cL_act 404 = .ok (.iconst 1, 1) := by decide +kernel
theorem dL_act_405 : decode cL_act 405 = .ok (.goto 4, 3) := by decide +kernel
theorem dL_act_408 : decode cL_act 408 = .ok (.iconst 0, 1) := by decide +kernel
theorem dL_act_409 : decode cL_act 409 = .ok (.if_icmp .ne 7, 3) := by decide +kernel
theorem dL_act_412 : decode cL_act 412 = .ok (.iconst 1, 1) := by decide +kernel
theorem dL_act_413 : decode cL_act 413 = .ok (.goto 4, 3) := by decide +kernel
theorem dL_act_416 : decode cL_act 416 = .ok (.iconst 0, 1) := by decide +kernel
theorem dL_act_417 : decode cL_act 417 = .ok (.istore 13, 2) := by decide +kernel
theorem dL_act_419 : decode cL_act 419 = .ok (.iload 13, 2) := by decide +kernel
theorem dL_act_421 : decode cL_act 421 = .ok (.ifCond .eq 8, 3) := by decide +kernel
theorem dL_act_424 : decode cL_act 424 = .ok (.bipush (-5), 2) := by decide +kernel
theorem dL_act_426 : decode cL_act 426 = .ok (.goto 32, 3) := by decide +kernel
theorem dL_act_429 : decode cL_act 429 = .ok (.iload 9, 2) := by decide +kernel
theorem dL_act_431 : decode cL_act 431 = .ok (.ifCond .eq 14, 3) := by decide +kernel
theorem dL_act_434 : decode cL_act 434 = .ok (.iload 11, 2) := by decide +kernel
theorem dL_act_436 : decode cL_act 436 = .ok (.iconst 1, 1) := by decide +kernel
theorem dL_act_437 : decode cL_act 437 = .ok (.if_icmp .ne 8, 3) := by decide +kernel
theorem dL_act_440 : decode cL_act 440 = .ok (.bipush (-4), 2) := by decide +kernel
theorem dL_act_442 : decode cL_act 442 = .ok (.goto 16, 3) := by decide +kernel
theorem dL_act_445 : decode cL_act 445 = .ok (.iload 11, 2) := by decide +kernel
theorem dL_act_447 : decode cL_act 447 = .ok (.iload 9, 2) := by decide +kernel
theorem dL_act_449 : decode cL_act 449 = .ok (.ifCond .eq 7, 3) := by decide +kernel
theorem dL_act_452 : decode cL_act 452 = .ok (.iconst (-1), 1) := by decide +kernel
theorem dL_act_453 : decode cL_act 453 = .ok (.goto 4, 3) := by decide +kernel
theorem dL_act_456 : decode cL_act 456 = .ok (.iconst 1, 1) := by decide +kernel
theorem dL_act_457 : decode cL_act 457 = .ok (.iadd, 1) := by decide +kernel
theorem dL_act_458 : decode cL_act 458 = .ok (.istore 14, 2) := by decide +kernel
theorem dL_act_460 : decode cL_act 460 = .ok (.iload 12, 2) := by decide +kernel
theorem dL_act_462 : decode cL_act 462 = .ok (.iload 14, 2) := by decide +kernel
theorem dL_act_464 : decode cL_act 464 = .ok (.if_icmp .ne 34, 3) := by decide +kernel
theorem dL_act_467 : decode cL_act 467 = .ok (.aload_n 0, 1) := by decide +kernel
theorem dL_act_468 : decode cL_act 468 = .ok (.iload 5, 2) := by decide +kernel
theorem dL_act_470 : decode cL_act 470 = .ok (.iload 8, 2) := by decide +kernel
theorem dL_act_472 : decode cL_act 472 = .ok (.iconst 2, 1) := by decide +kernel
theorem dL_act_473 : decode cL_act 473 = .ok (.invokevirtual 24, 3) := by decide +kernel
theorem dL_act_476 : decode cL_act 476 = .ok (.iload 14, 2) := by decide +kernel
theorem dL_act_478 : decode cL_act 478 = .ok (.ifCond .le 10, 3) := by decide +kernel
theorem dL_act_481 : decode cL_act 481 = .ok (.iconst 1, 1) := by decide +kernel
theorem dL_act_482 : decode cL_act 482 = .ok (.iload 10, 2) := by decide +kernel
theorem dL_act_484 : decode cL_act 484 = .ok (.isub, 1) := by decide +kernel
theorem dL_act_485 : decode cL_act 485 = .ok (.goto 5, 3) := by decide +kernel
theorem dL_act_488 : decode cL_act 488 = .ok (.iload 10, 2) := by decide +kernel
theorem dL_act_490 : decode cL_act 490 = .ok (.if_icmp .ne 8, 3) := by decide +kernel
theorem dL_act_493 : decode cL_act 493 = .ok (.iload 12, 2) := by decide +kernel
theorem dL_act_495 : decode cL_act 495 = .ok (.goto 5, 3) := by decide +kernel
theorem dL_act_498 : decode cL_act 498 = .ok (.bipush (-9), 2) := by decide +kernel
theorem dL_act_500 : decode cL_act 500 = .ok (.ireturn, 1) := by decide +kernel
theorem dL_act_501 : decode cL_act 501 = .ok (.iload_n 2, 1) := by decide +kernel
theorem dL_act_502 : decode cL_act 502 = .ok (.bipush 12, 2) := by decide +kernel
theorem dL_act_504 : decode cL_act 504 = .ok (.if_icmp .ge 168, 3) := by decide +kernel
theorem dL_act_507 : decode cL_act 507 = .ok (.iconst 1, 1) := by decide +kernel
theorem dL_act_508 : decode cL_act 508 = .ok (.iload_n 3, 1) := by decide +kernel
theorem dL_act_509 : decode cL_act 509 = .ok (.bipush 6, 2) := by decide +kernel
theorem dL_act_511 : decode cL_act 511 = .ok (.idiv, 1) := by decide +kernel
theorem dL_act_512 : decode cL_act 512 = .ok (.bipush 9, 2) := by decide +kernel
theorem dL_act_514 : decode cL_act 514 = .ok (.irem, 1) := by decide +kernel
theorem dL_act_515 : decode cL_act 515 = .ok (.iadd, 1) := by decide +kernel
theorem dL_act_516 : decode cL_act 516 = .ok (.istore 9, 2) := by decide +kernel
theorem dL_act_518 : decode cL_act 518 = .ok (.aload_n 0, 1) := by decide +kernel
theorem dL_act_519 : decode cL_act 519 = .ok (.iload 5, 2) := by decide +kernel
theorem dL_act_521 : decode cL_act 521 = .ok (.iload 9, 2) := by decide +kernel
theorem dL_act_523 : decode cL_act 523 = .ok (.iconst 0, 1) := by decide +kernel
theorem dL_act_524 : decode cL_act 524 = .ok (.invokevirtual 30, 3) := by decide +kernel
theorem dL_act_527 : decode cL_act 527 = .ok (.istore 10, 2) := by decide +kernel
theorem dL_act_529 : decode cL_act 529 = .ok (.aload_n 0, 1) := by decide +kernel
theorem dL_act_530 : decode cL_act 530 = .ok (.iload 5, 2) := by decide +kernel
theorem dL_act_532 : decode cL_act 532 = .ok (.iload 9, 2) := by decide +kernel
theorem dL_act_534 : decode cL_act 534 = .ok (.iconst 1, 1) := by decide +kernel
theorem dL_act_535 : decode cL_act 535 = .ok (.invokevirtual 30, 3) := by decide +kernel
theorem dL_act_538 : decode cL_act 538 = .ok (.istore 11, 2) := by decide +kernel
theorem dL_act_540 : decode cL_act 540 = .ok (.aload_n 0, 1) := by decide +kernel
theorem dL_act_541 : decode cL_act 541 = .ok (.iconst 1, 1) := by decide +kernel
theorem dL_act_542 : decode cL_act 542 = .ok (.invokevirtual 14, 3) := by decide +kernel
theorem dL_act_545 : decode cL_act 545 = .ok (.istore 12, 2) := by decide +kernel
theorem dL_act_547 : decode cL_act 547 = .ok (.aload_n 0, 1) := by decide +kernel
theorem dL_act_548 : decode cL_act 548 = .ok (.iconst 2, 1) := by decide +kernel
theorem dL_act_549 : decode cL_act 549 = .ok (.invokevirtual 14, 3) := by decide +kernel
theorem dL_act_552 : decode cL_act 552 = .ok (.istore 13, 2) := by decide +kernel
theorem dL_act_554 : decode cL_act 554 = .ok (.aload_n 0, 1) := by decide +kernel
theorem dL_act_555 : decode cL_act 555 = .ok (.iload 5, 2) := by decide +kernel
theorem dL_act_557 : decode cL_act 557 = .ok (.iconst 4, 1) := by decide +kernel
theorem dL_act_558 : decode cL_act 558 = .ok (.invokevirtual 20, 3) := by decide +kernel
theorem dL_act_561 : decode cL_act 561 = .ok (.istore 14, 2) := by decide +kernel
theorem dL_act_563 : decode cL_act 563 = .ok (.aload_n 0, 1) := by decide +kernel
theorem dL_act_564 : decode cL_act 564 = .ok (.iload 5, 2) := by decide +kernel
theorem dL_act_566 : decode cL_act 566 = .ok (.iload 9, 2) := by decide +kernel
theorem dL_act_568 : decode cL_act 568 = .ok (.invokevirtual 58, 3) := by decide +kernel
theorem dL_act_571 : decode cL_act 571 = .ok (.istore 15, 2) := by decide +kernel
theorem dL_act_573 : decode cL_act 573 = .ok (.iload 15, 2) := by decide +kernel
theorem dL_act_575 : decode cL_act 575 = .ok (.iload 11, 2) := by decide +kernel
theorem dL_act_577 : decode cL_act 577 = .ok (.ifCond .ne 8, 3) := by decide +kernel
theorem dL_act_580 : decode cL_act 580 = .ok (.iload 10, 2) := by decide +kernel
theorem dL_act_582 : decode cL_act 582 = .ok (.goto 8, 3) := by decide +kernel
theorem dL_act_585 : decode cL_act 585 = .ok (.bipush (-10), 2) := by decide +kernel
theorem dL_act_587 : decode cL_act 587 = .ok (.iload 11, 2) := by decide +kernel
theorem dL_act_589 : decode cL_act 589 = .ok (.isub, 1) := by decide +kernel
theorem dL_act_590 : decode cL_act 590 = .ok (.if_icmp .ne 79, 3) := by decide +kernel
theorem dL_act_593 : decode cL_act 593 = .ok (.aload_n 0, 1) := by decide +kernel
theorem dL_act_594 : decode cL_act 594 = .ok (.iconst 1, 1) := by decide +kernel
theorem dL_act_595 : decode cL_act 595 = .ok (.invokevirtual 14, 3) := by decide +kernel
theorem dL_act_598 : decode cL_act 598 = .ok (.iload 12, 2) := by decide +kernel
theorem dL_act_600 : decode cL_act 600 = .ok (.iconst 1, 1) := by decide +kernel
theorem dL_act_601 : decode cL_act 601 = .ok (.iadd, 1) := by decide +kernel
theorem dL_act_602 : decode cL_act 602 = .ok (.if_icmp .ne 67, 3) := by decide +kernel
theorem dL_act_605 : decode cL_act 605 = .ok (.aload_n 0, 1) := by decide +kernel
theorem dL_act_606 : decode cL_act 606 = .ok (.iconst 2, 1) := by decide +kernel
theorem dL_act_607 : decode cL_act 607 = .ok (.invokevirtual 14, 3) := by decide +kernel
theorem dL_act_610 : decode cL_act 610 = .ok (.iload 13, 2) := by decide +kernel
theorem dL_act_612 : decode cL_act 612 = .ok (.iload 11, 2) := by decide +kernel
theorem dL_act_614 : decode cL_act 614 = .ok (.ifCond .ne 7, 3) := by decide +kernel
theorem dL_act_617 : decode cL_act 617 = .ok (.iconst 1, 1) := by decide +kernel
theorem dL_act_618 : decode cL_act 618 = .ok (.goto 4, 3) := by decide +kernel
theorem dL_act_621 : decode cL_act 621 = .ok (.iconst 0, 1) := by decide +kernel
theorem dL_act_622 : decode cL_act 622 = .ok (.iadd, 1) := by decide +kernel
theorem dL_act_623 : decode cL_act 623 = .ok (.if_icmp .ne 46, 3) := by decide +kernel
theorem dL_act_626 : decode cL_act 626 = .ok (.aload_n 0, 1) := by decide +kernel
theorem dL_act_627 : decode cL_act 627 = .ok (.iload 5, 2) := by decide +kernel
theorem dL_act_629 : decode cL_act 629 = .ok (.iconst 5, 1) := by decide +kernel
theorem dL_act_630 : decode cL_act 630 = .ok (.invokevirtual 20, 3) := by decide +kernel
theorem dL_act_633 : decode cL_act 633 = .ok (.iload 10, 2) := by decide +kernel
theorem dL_act_635 : decode cL_act 635 = .ok (.if_icmp .ne 34, 3) := by decide +kernel
theorem dL_act_638 : decode cL_act 638 = .ok (.aload_n 0, 1) := by decide +kernel
theorem dL_act_639 : decode cL_act 639 = .ok (.iload 5, 2) := by decide +kernel
theorem dL_act_641 : decode cL_act 641 = .ok (.bipush 7, 2) := by decide +kernel
theorem dL_act_643 : decode cL_act 643 = .ok (.invokevirtual 20, 3) := by decide +kernel
theorem dL_act_646 : decode cL_act 646 = .ok (.iload 9, 2) := by decide +kernel
theorem dL_act_648 : decode cL_act 648 = .ok (.if_icmp .ne 21, 3) := by decide +kernel
theorem dL_act_651 : decode cL_act 651 = .ok (.aload_n 0, 1) := by decide +kernel
theorem dL_act_652 : decode cL_act 652 = .ok (.iload 5, 2) := by decide +kernel
theorem dL_act_654 : decode cL_act 654 = .ok (.iconst 4, 1) := by decide +kernel
theorem dL_act_655 : decode cL_act 655 = .ok (.invokevirtual 20, 3) := by decide +kernel
theorem dL_act_658 : decode cL_act 658 = .ok (.iload 14, 2) := by decide +kernel
theorem dL_act_660 : decode cL_act 660 = .ok (.if_icmp .ne 9, 3) := by decide +kernel
theorem dL_act_663 : decode cL_act 663 = .ok (.sipush 1000, 3) := by decide +kernel
theorem dL_act_666 : decode cL_act 666 = .ok (.goto 5, 3) := by decide +kernel
theorem dL_act_669 : decode cL_act 669 = .ok (.bipush (-9), 2) := by decide +kernel
theorem dL_act_671 : decode cL_act 671 = .ok (.ireturn, 1) := by decide +kernel
theorem dL_act_672 : decode cL_act 672 = .ok (.iload_n 2, 1) := by decide +kernel
theorem dL_act_673 : decode cL_act 673 = .ok (.bipush 12, 2) := by decide +kernel
theorem dL_act_675 : decode cL_act 675 = .ok (.if_icmp .ne 110, 3) := by decide +kernel
theorem dL_act_678 : decode cL_act 678 = .ok (.aload_n 0, 1) := by decide +kernel
theorem dL_act_679 : decode cL_act 679 = .ok (.iload 5, 2) := by decide +kernel
theorem dL_act_681 : decode cL_act 681 = .ok (.iconst 5, 1) := by decide +kernel
theorem dL_act_682 : decode cL_act 682 = .ok (.invokevirtual 20, 3) := by decide +kernel
theorem dL_act_685 : decode cL_act 685 = .ok (.istore 9, 2) := by decide +kernel
theorem dL_act_687 : decode cL_act 687 = .ok (.aload_n 0, 1) := by decide +kernel
theorem dL_act_688 : decode cL_act 688 = .ok (.iload 5, 2) := by decide +kernel
theorem dL_act_690 : decode cL_act 690 = .ok (.iconst 4, 1) := by decide +kernel
