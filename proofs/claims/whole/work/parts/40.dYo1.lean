theorem dY_less_0 : decode cY_less 0 = .ok (.lload_n 0, 1) := by decide +kernel
theorem dY_less_1 : decode cY_less 1 = .ok (.lload_n 2, 1) := by decide +kernel
theorem dY_less_2 : decode cY_less 2 = .ok (.lcmp, 1) := by decide +kernel
theorem dY_less_3 : decode cY_less 3 = .ok (.ifCond .ge 7, 3) := by decide +kernel
theorem dY_less_6 : decode cY_less 6 = .ok (.iconst 1, 1) := by decide +kernel
theorem dY_less_7 : decode cY_less 7 = .ok (.goto 4, 3) := by decide +kernel
theorem dY_less_10 : decode cY_less 10 = .ok (.iconst 0, 1) := by decide +kernel
theorem dY_less_11 : decode cY_less 11 = .ok (.lload_n 0, 1) := by decide +kernel
theorem dY_less_12 : decode cY_less 12 = .ok (.lconst 0, 1) := by decide +kernel
theorem dY_less_13 : decode cY_less 13 = .ok (.lcmp, 1) := by decide +kernel
theorem dY_less_14 : decode cY_less 14 = .ok (.ifCond .ge 7, 3) := by decide +kernel
theorem dY_less_17 : decode cY_less 17 = .ok (.iconst 1, 1) := by decide +kernel
theorem dY_less_18 : decode cY_less 18 = .ok (.goto 4, 3) := by decide +kernel
theorem dY_less_21 : decode cY_less 21 = .ok (.iconst 0, 1) := by decide +kernel
theorem dY_less_22 : decode cY_less 22 = .ok (.lload_n 2, 1) := by decide +kernel
theorem dY_less_23 : decode cY_less 23 = .ok (.lconst 0, 1) := by decide +kernel
theorem dY_less_24 : decode cY_less 24 = .ok (.lcmp, 1) := by decide +kernel
theorem dY_less_25 : decode cY_less 25 = .ok (.ifCond .ge 7, 3) := by decide +kernel
theorem dY_less_28 : decode cY_less 28 = .ok (.iconst 1, 1) := by decide +kernel
theorem dY_less_29 : decode cY_less 29 = .ok (.goto 4, 3) := by decide +kernel
theorem dY_less_32 : decode cY_less 32 = .ok (.iconst 0, 1) := by decide +kernel
theorem dY_less_33 : decode cY_less 33 = .ok (.if_icmp .eq 7, 3) := by decide +kernel
theorem dY_less_36 : decode cY_less 36 = .ok (.iconst 1, 1) := by decide +kernel
theorem dY_less_37 : decode cY_less 37 = .ok (.goto 4, 3) := by decide +kernel
theorem dY_less_40 : decode cY_less 40 = .ok (.iconst 0, 1) := by decide +kernel
theorem dY_less_41 : decode cY_less 41 = .ok (.if_icmp .eq 7, 3) := by decide +kernel
theorem dY_less_44 : decode cY_less 44 = .ok (.iconst 1, 1) := by decide +kernel
theorem dY_less_45 : decode cY_less 45 = .ok (.goto 4, 3) := by decide +kernel
theorem dY_less_48 : decode cY_less 48 = .ok (.iconst 0, 1) := by decide +kernel
theorem dY_less_49 : decode cY_less 49 = .ok (.ireturn, 1) := by decide +kernel
theorem dY_is_0 : decode cY_is 0 = .ok (.iload_n 0, 1) := by decide +kernel
theorem dY_is_1 : decode cY_is 1 = .ok (.ifCond .eq 7, 3) := by decide +kernel
theorem dY_is_4 : decode cY_is 4 = .ok (.lconst 1, 1) := by decide +kernel
theorem dY_is_5 : decode cY_is 5 = .ok (.goto 4, 3) := by decide +kernel
theorem dY_is_8 : decode cY_is 8 = .ok (.lconst 0, 1) := by decide +kernel
theorem dY_is_9 : decode cY_is 9 = .ok (.lreturn, 1) := by decide +kernel
theorem dY_sums_0 : decode cY_sums 0 = .ok (.lconst 0, 1) := by decide +kernel
theorem dY_sums_1 : decode cY_sums 1 = .ok (.lstore 6, 2) := by decide +kernel
theorem dY_sums_3 : decode cY_sums 3 = .ok (.iload_n 1, 1) := by decide +kernel
theorem dY_sums_4 : decode cY_sums 4 = .ok (.lookupswitch 459 #[(0, 172), (2, 184), (9, 216), (11, 228), (15, 397), (18, 200), (29, 361), (32, 244), (34, 253), (41, 279), (43, 288), (45, 301), (50, 266), (61, 375), (64, 172), (73, 216), (77, 321), (96, 244), (105, 279), (109, 341)], 172) := by decide +kernel
theorem dY_sums_176 : decode cY_sums 176 = .ok (.lload_n 2, 1) := by decide +kernel
theorem dY_sums_177 : decode cY_sums 177 = .ok (.lload 4, 2) := by decide +kernel
theorem dY_sums_179 : decode cY_sums 179 = .ok (.ladd, 1) := by decide +kernel
theorem dY_sums_180 : decode cY_sums 180 = .ok (.invokestatic 129, 3) := by decide +kernel
theorem dY_sums_183 : decode cY_sums 183 = .ok (.lstore 6, 2) := by decide +kernel
theorem dY_sums_185 : decode cY_sums 185 = .ok (.goto 283, 3) := by decide +kernel
theorem dY_sums_188 : decode cY_sums 188 = .ok (.ldc2_w 133, 3) := by decide +kernel
theorem dY_sums_191 : decode cY_sums 191 = .ok (.lload_n 2, 1) := by decide +kernel
theorem dY_sums_192 : decode cY_sums 192 = .ok (.lmul, 1) := by decide +kernel
theorem dY_sums_193 : decode cY_sums 193 = .ok (.lload 4, 2) := by decide +kernel
theorem dY_sums_195 : decode cY_sums 195 = .ok (.ladd, 1) := by decide +kernel
theorem dY_sums_196 : decode cY_sums 196 = .ok (.invokestatic 129, 3) := by decide +kernel
theorem dY_sums_199 : decode cY_sums 199 = .ok (.lstore 6, 2) := by decide +kernel
theorem dY_sums_201 : decode cY_sums 201 = .ok (.goto 267, 3) := by decide +kernel
theorem dY_sums_204 : decode cY_sums 204 = .ok (.ldc2_w 94, 3) := by decide +kernel
theorem dY_sums_207 : decode cY_sums 207 = .ok (.lload_n 2, 1) := by decide +kernel
theorem dY_sums_208 : decode cY_sums 208 = .ok (.lmul, 1) := by decide +kernel
theorem dY_sums_209 : decode cY_sums 209 = .ok (.lload 4, 2) := by decide +kernel
theorem dY_sums_211 : decode cY_sums 211 = .ok (.ladd, 1) := by decide +kernel
theorem dY_sums_212 : decode cY_sums 212 = .ok (.invokestatic 129, 3) := by decide +kernel
theorem dY_sums_215 : decode cY_sums 215 = .ok (.lstore 6, 2) := by decide +kernel
theorem dY_sums_217 : decode cY_sums 217 = .ok (.goto 251, 3) := by decide +kernel
theorem dY_sums_220 : decode cY_sums 220 = .ok (.lload_n 2, 1) := by decide +kernel
theorem dY_sums_221 : decode cY_sums 221 = .ok (.lload 4, 2) := by decide +kernel
theorem dY_sums_223 : decode cY_sums 223 = .ok (.lsub, 1) := by decide +kernel
theorem dY_sums_224 : decode cY_sums 224 = .ok (.invokestatic 129, 3) := by decide +kernel
theorem dY_sums_227 : decode cY_sums 227 = .ok (.lstore 6, 2) := by decide +kernel
theorem dY_sums_229 : decode cY_sums 229 = .ok (.goto 239, 3) := by decide +kernel
theorem dY_sums_232 : decode cY_sums 232 = .ok (.ldc2_w 133, 3) := by decide +kernel
theorem dY_sums_235 : decode cY_sums 235 = .ok (.lload_n 2, 1) := by decide +kernel
theorem dY_sums_236 : decode cY_sums 236 = .ok (.lmul, 1) := by decide +kernel
theorem dY_sums_237 : decode cY_sums 237 = .ok (.lload 4, 2) := by decide +kernel
theorem dY_sums_239 : decode cY_sums 239 = .ok (.lsub, 1) := by decide +kernel
theorem dY_sums_240 : decode cY_sums 240 = .ok (.invokestatic 129, 3) := by decide +kernel
theorem dY_sums_243 : decode cY_sums 243 = .ok (.lstore 6, 2) := by decide +kernel
theorem dY_sums_245 : decode cY_sums 245 = .ok (.goto 223, 3) := by decide +kernel
theorem dY_sums_248 : decode cY_sums 248 = .ok (.lload_n 2, 1) := by decide +kernel
theorem dY_sums_249 : decode cY_sums 249 = .ok (.lload 4, 2) := by decide +kernel
theorem dY_sums_251 : decode cY_sums 251 = .ok (.ladd, 1) := by decide +kernel
theorem dY_sums_252 : decode cY_sums 252 = .ok (.lstore 6, 2) := by decide +kernel
theorem dY_sums_254 : decode cY_sums 254 = .ok (.goto 214, 3) := by decide +kernel
theorem dY_sums_257 : decode cY_sums 257 = .ok (.ldc2_w 133, 3) := by decide +kernel
theorem dY_sums_260 : decode cY_sums 260 = .ok (.lload_n 2, 1) := by decide +kernel
theorem dY_sums_261 : decode cY_sums 261 = .ok (.lmul, 1) := by decide +kernel
theorem dY_sums_262 : decode cY_sums 262 = .ok (.lload 4, 2) := by decide +kernel
theorem dY_sums_264 : decode cY_sums 264 = .ok (.ladd, 1) := by decide +kernel
theorem dY_sums_265 : decode cY_sums 265 = .ok (.lstore 6, 2) := by decide +kernel
theorem dY_sums_267 : decode cY_sums 267 = .ok (.goto 201, 3) := by decide +kernel
theorem dY_sums_270 : decode cY_sums 270 = .ok (.ldc2_w 94, 3) := by decide +kernel
theorem dY_sums_273 : decode cY_sums 273 = .ok (.lload_n 2, 1) := by decide +kernel
theorem dY_sums_274 : decode cY_sums 274 = .ok (.lmul, 1) := by decide +kernel
theorem dY_sums_275 : decode cY_sums 275 = .ok (.lload 4, 2) := by decide +kernel
theorem dY_sums_277 : decode cY_sums 277 = .ok (.ladd, 1) := by decide +kernel
theorem dY_sums_278 : decode cY_sums 278 = .ok (.lstore 6, 2) := by decide +kernel
theorem dY_sums_280 : decode cY_sums 280 = .ok (.goto 188, 3) := by decide +kernel
theorem dY_sums_283 : decode cY_sums 283 = .ok (.lload_n 2, 1) := by decide +kernel
theorem dY_sums_284 : decode cY_sums 284 = .ok (.lload 4, 2) := by decide +kernel
theorem dY_sums_286 : decode cY_sums 286 = .ok (.lsub, 1) := by decide +kernel
theorem dY_sums_287 : decode cY_sums 287 = .ok (.lstore 6, 2) := by decide +kernel
theorem dY_sums_289 : decode cY_sums 289 = .ok (.goto 179, 3) := by decide +kernel
theorem dY_sums_292 : decode cY_sums 292 = .ok (.ldc2_w 133, 3) := by decide +kernel
theorem dY_sums_295 : decode cY_sums 295 = .ok (.lload_n 2, 1) := by decide +kernel
theorem dY_sums_296 : decode cY_sums 296 = .ok (.lmul, 1) := by decide +kernel
theorem dY_sums_297 : decode cY_sums 297 = .ok (.lload 4, 2) := by decide +kernel
theorem dY_sums_299 : decode cY_sums 299 = .ok (.lsub, 1) := by decide +kernel
theorem dY_sums_300 : decode cY_sums 300 = .ok (.lstore 6, 2) := by decide +kernel
theorem dY_sums_302 : decode cY_sums 302 = .ok (.goto 166, 3) := by decide +kernel
theorem dY_sums_305 : decode cY_sums 305 = .ok (.lload_n 2, 1) := by decide +kernel
theorem dY_sums_306 : decode cY_sums 306 = .ok (.lload 4, 2) := by decide +kernel
theorem dY_sums_308 : decode cY_sums 308 = .ok (.lcmp, 1) := by decide +kernel
theorem dY_sums_309 : decode cY_sums 309 = .ok (.ifCond .ne 7, 3) := by decide +kernel
theorem dY_sums_312 : decode cY_sums 312 = .ok (.iconst 1, 1) := by decide +kernel
theorem dY_sums_313 : decode cY_sums 313 = .ok (.goto 4, 3) := by decide +kernel
theorem dY_sums_316 : decode cY_sums 316 = .ok (.iconst 0, 1) := by decide +kernel
theorem dY_sums_317 : decode cY_sums 317 = .ok (.invokestatic 135, 3) := by decide +kernel
theorem dY_sums_320 : decode cY_sums 320 = .ok (.lstore 6, 2) := by decide +kernel
theorem dY_sums_322 : decode cY_sums 322 = .ok (.goto 146, 3) := by decide +kernel
theorem dY_sums_325 : decode cY_sums 325 = .ok (.lload_n 2, 1) := by decide +kernel
theorem dY_sums_326 : decode cY_sums 326 = .ok (.lload 4, 2) := by decide +kernel
theorem dY_sums_328 : decode cY_sums 328 = .ok (.lcmp, 1) := by decide +kernel
theorem dY_sums_329 : decode cY_sums 329 = .ok (.ifCond .ge 7, 3) := by decide +kernel
theorem dY_sums_332 : decode cY_sums 332 = .ok (.iconst 1, 1) := by decide +kernel
theorem dY_sums_333 : decode cY_sums 333 = .ok (.goto 4, 3) := by decide +kernel
theorem dY_sums_336 : decode cY_sums 336 = .ok (.iconst 0, 1) := by decide +kernel
theorem dY_sums_337 : decode cY_sums 337 = .ok (.invokestatic 135, 3) := by decide +kernel
theorem dY_sums_340 : decode cY_sums 340 = .ok (.lstore 6, 2) := by decide +kernel
theorem dY_sums_342 : decode cY_sums 342 = .ok (.goto 126, 3) := by decide +kernel
theorem dY_sums_345 : decode cY_sums 345 = .ok (.lload_n 2, 1) := by decide +kernel
theorem dY_sums_346 : decode cY_sums 346 = .ok (.lload 4, 2) := by decide +kernel
theorem dY_sums_348 : decode cY_sums 348 = .ok (.lcmp, 1) := by decide +kernel
theorem dY_sums_349 : decode cY_sums 349 = .ok (.ifCond .gt 7, 3) := by decide +kernel
theorem dY_sums_352 : decode cY_sums 352 = .ok (.iconst 1, 1) := by decide +kernel
theorem dY_sums_353 : decode cY_sums 353 = .ok (.goto 4, 3) := by decide +kernel
theorem dY_sums_356 : decode cY_sums 356 = .ok (.iconst 0, 1) := by decide +kernel
theorem dY_sums_357 : decode cY_sums 357 = .ok (.invokestatic 135, 3) := by decide +kernel
theorem dY_sums_360 : decode cY_sums 360 = .ok (.lstore 6, 2) := by decide +kernel
theorem dY_sums_362 : decode cY_sums 362 = .ok (.goto 106, 3) := by decide +kernel
theorem dY_sums_365 : decode cY_sums 365 = .ok (.lload_n 2, 1) := by decide +kernel
theorem dY_sums_366 : decode cY_sums 366 = .ok (.lload 4, 2) := by decide +kernel
theorem dY_sums_368 : decode cY_sums 368 = .ok (.invokestatic 139, 3) := by decide +kernel
theorem dY_sums_371 : decode cY_sums 371 = .ok (.invokestatic 135, 3) := by decide +kernel
theorem dY_sums_374 : decode cY_sums 374 = .ok (.lstore 6, 2) := by decide +kernel
theorem dY_sums_376 : decode cY_sums 376 = .ok (.goto 92, 3) := by decide +kernel
theorem dY_sums_379 : decode cY_sums 379 = .ok (.lload 4, 2) := by decide +kernel
theorem dY_sums_381 : decode cY_sums 381 = .ok (.lload_n 2, 1) := by decide +kernel
theorem dY_sums_382 : decode cY_sums 382 = .ok (.invokestatic 139, 3) := by decide +kernel
theorem dY_sums_385 : decode cY_sums 385 = .ok (.ifCond .ne 7, 3) := by decide +kernel
theorem dY_sums_388 : decode cY_sums 388 = .ok (.iconst 1, 1) := by decide +kernel
theorem dY_sums_389 : decode cY_sums 389 = .ok (.goto 4, 3) := by decide +kernel
theorem dY_sums_392 : decode cY_sums 392 = .ok (.iconst 0, 1) := by decide +kernel
theorem dY_sums_393 : decode cY_sums 393 = .ok (.invokestatic 135, 3) := by decide +kernel
theorem dY_sums_396 : decode cY_sums 396 = .ok (.lstore 6, 2) := by decide +kernel
theorem dY_sums_398 : decode cY_sums 398 = .ok (.goto 70, 3) := by decide +kernel
theorem dY_sums_401 : decode cY_sums 401 = .ok (.iconst 0, 1) := by decide +kernel
theorem dY_sums_402 : decode cY_sums 402 = .ok (.istore 8, 2) := by decide +kernel
theorem dY_sums_404 : decode cY_sums 404 = .ok (.iload 8, 2) := by decide +kernel
theorem dY_sums_406 : decode cY_sums 406 = .ok (.bipush 8, 2) := by decide +kernel
theorem dY_sums_408 : decode cY_sums 408 = .ok (.if_icmp .ge 52, 3) := by decide +kernel
theorem dY_sums_411 : decode cY_sums 411 = .ok (.lload 6, 2) := by decide +kernel
theorem dY_sums_413 : decode cY_sums 413 = .ok (.lload_n 2, 1) := by decide +kernel
theorem dY_sums_414 : decode cY_sums 414 = .ok (.bipush 8, 2) := by decide +kernel
theorem dY_sums_416 : decode cY_sums 416 = .ok (.iload 8, 2) := by decide +kernel
theorem dY_sums_418 : decode cY_sums 418 = .ok (.imul, 1) := by decide +kernel
theorem dY_sums_419 : decode cY_sums 419 = .ok (.lshr, 1) := by decide +kernel
theorem dY_sums_420 : decode cY_sums 420 = .ok (.ldc2_w 42, 3) := by decide +kernel
theorem dY_sums_423 : decode cY_sums 423 = .ok (.land, 1) := by decide +kernel
theorem dY_sums_424 : decode cY_sums 424 = .ok (.lload 4, 2) := by decide +kernel
theorem dY_sums_426 : decode cY_sums 426 = .ok (.bipush 8, 2) := by decide +kernel
theorem dY_sums_428 : decode cY_sums 428 = .ok (.iload 8, 2) := by decide +kernel
theorem dY_sums_430 : decode cY_sums 430 = .ok (.imul, 1) := by decide +kernel
theorem dY_sums_431 : decode cY_sums 431 = .ok (.lshr, 1) := by decide +kernel
theorem dY_sums_432 : decode cY_sums 432 = .ok (.ldc2_w 42, 3) := by decide +kernel
theorem dY_sums_435 : decode cY_sums 435 = .ok (.land, 1) := by decide +kernel
theorem dY_sums_436 : decode cY_sums 436 = .ok (.lcmp, 1) := by decide +kernel
theorem dY_sums_437 : decode cY_sums 437 = .ok (.ifCond .lt 7, 3) := by decide +kernel
theorem dY_sums_440 : decode cY_sums 440 = .ok (.iconst 1, 1) := by decide +kernel
theorem dY_sums_441 : decode cY_sums 441 = .ok (.goto 4, 3) := by decide +kernel
theorem dY_sums_444 : decode cY_sums 444 = .ok (.iconst 0, 1) := by decide +kernel
theorem dY_sums_445 : decode cY_sums 445 = .ok (.invokestatic 135, 3) := by decide +kernel
theorem dY_sums_448 : decode cY_sums 448 = .ok (.iload 8, 2) := by decide +kernel
theorem dY_sums_450 : decode cY_sums 450 = .ok (.lshl, 1) := by decide +kernel
theorem dY_sums_451 : decode cY_sums 451 = .ok (.lor, 1) := by decide +kernel
theorem dY_sums_452 : decode cY_sums 452 = .ok (.lstore 6, 2) := by decide +kernel
theorem dY_sums_454 : decode cY_sums 454 = .ok (.iinc 8 1, 3) := by decide +kernel
theorem dY_sums_457 : decode cY_sums 457 = .ok (.goto (-53), 3) := by decide +kernel
theorem dY_sums_460 : decode cY_sums 460 = .ok (.goto 8, 3) := by decide +kernel
theorem dY_sums_463 : decode cY_sums 463 = .ok (.aload_n 0, 1) := by decide +kernel
theorem dY_sums_464 : decode cY_sums 464 = .ok (.iconst 1, 1) := by decide +kernel
theorem dY_sums_465 : decode cY_sums 465 = .ok (.putfield 143, 3) := by decide +kernel
theorem dY_sums_468 : decode cY_sums 468 = .ok (.aload_n 0, 1) := by decide +kernel
theorem dY_sums_469 : decode cY_sums 469 = .ok (.iload_n 1, 1) := by decide +kernel
theorem dY_sums_470 : decode cY_sums 470 = .ok (.bipush 64, 2) := by decide +kernel
theorem dY_sums_472 : decode cY_sums 472 = .ok (.if_icmp .ne 19, 3) := by decide +kernel
theorem dY_sums_475 : decode cY_sums 475 = .ok (.lload 6, 2) := by decide +kernel
theorem dY_sums_477 : decode cY_sums 477 = .ok (.lload_n 2, 1) := by decide +kernel
theorem dY_sums_478 : decode cY_sums 478 = .ok (.invokestatic 129, 3) := by decide +kernel
theorem dY_sums_481 : decode cY_sums 481 = .ok (.lload 4, 2) := by decide +kernel
theorem dY_sums_483 : decode cY_sums 483 = .ok (.invokestatic 129, 3) := by decide +kernel
theorem dY_sums_486 : decode cY_sums 486 = .ok (.ladd, 1) := by decide +kernel
theorem dY_sums_487 : decode cY_sums 487 = .ok (.lcmp, 1) := by decide +kernel
theorem dY_sums_488 : decode cY_sums 488 = .ok (.ifCond .ne 25, 3) := by decide +kernel
theorem dY_sums_491 : decode cY_sums 491 = .ok (.iload_n 1, 1) := by decide +kernel
theorem dY_sums_492 : decode cY_sums 492 = .ok (.bipush 73, 2) := by decide +kernel
theorem dY_sums_494 : decode cY_sums 494 = .ok (.if_icmp .ne 23, 3) := by decide +kernel
theorem dY_sums_497 : decode cY_sums 497 = .ok (.lload 6, 2) := by decide +kernel
theorem dY_sums_499 : decode cY_sums 499 = .ok (.lload_n 2, 1) := by decide +kernel
theorem dY_sums_500 : decode cY_sums 500 = .ok (.invokestatic 129, 3) := by decide +kernel
theorem dY_sums_503 : decode cY_sums 503 = .ok (.lload 4, 2) := by decide +kernel
theorem dY_sums_505 : decode cY_sums 505 = .ok (.invokestatic 129, 3) := by decide +kernel
theorem dY_sums_508 : decode cY_sums 508 = .ok (.lsub, 1) := by decide +kernel
theorem dY_sums_509 : decode cY_sums 509 = .ok (.lcmp, 1) := by decide +kernel
theorem dY_sums_510 : decode cY_sums 510 = .ok (.ifCond .eq 7, 3) := by decide +kernel
theorem dY_sums_513 : decode cY_sums 513 = .ok (.iconst 1, 1) := by decide +kernel
theorem dY_sums_514 : decode cY_sums 514 = .ok (.goto 4, 3) := by decide +kernel
theorem dY_sums_517 : decode cY_sums 517 = .ok (.iconst 0, 1) := by decide +kernel
theorem dY_sums_518 : decode cY_sums 518 = .ok (.putfield 146, 3) := by decide +kernel
theorem dY_sums_521 : decode cY_sums 521 = .ok (.iload_n 1, 1) := by decide +kernel
theorem dY_sums_522 : decode cY_sums 522 = .ok (.bipush 96, 2) := by decide +kernel
theorem dY_sums_524 : decode cY_sums 524 = .ok (.if_icmp .ne 64, 3) := by decide +kernel
theorem dY_sums_527 : decode cY_sums 527 = .ok (.aload_n 0, 1) := by decide +kernel
theorem dY_sums_528 : decode cY_sums 528 = .ok (.lload_n 2, 1) := by decide +kernel
theorem dY_sums_529 : decode cY_sums 529 = .ok (.lconst 0, 1) := by decide +kernel
theorem dY_sums_530 : decode cY_sums 530 = .ok (.lcmp, 1) := by decide +kernel
theorem dY_sums_531 : decode cY_sums 531 = .ok (.ifCond .ge 7, 3) := by decide +kernel
theorem dY_sums_534 : decode cY_sums 534 = .ok (.iconst 1, 1) := by decide +kernel
theorem dY_sums_535 : decode cY_sums 535 = .ok (.goto 4, 3) := by decide +kernel
theorem dY_sums_538 : decode cY_sums 538 = .ok (.iconst 0, 1) := by decide +kernel
theorem dY_sums_539 : decode cY_sums 539 = .ok (.lload 4, 2) := by decide +kernel
theorem dY_sums_541 : decode cY_sums 541 = .ok (.lconst 0, 1) := by decide +kernel
theorem dY_sums_542 : decode cY_sums 542 = .ok (.lcmp, 1) := by decide +kernel
theorem dY_sums_543 : decode cY_sums 543 = .ok (.ifCond .ge 7, 3) := by decide +kernel
theorem dY_sums_546 : decode cY_sums 546 = .ok (.iconst 1, 1) := by decide +kernel
theorem dY_sums_547 : decode cY_sums 547 = .ok (.goto 4, 3) := by decide +kernel
theorem dY_sums_550 : decode cY_sums 550 = .ok (.iconst 0, 1) := by decide +kernel
theorem dY_sums_551 : decode cY_sums 551 = .ok (.if_icmp .ne 33, 3) := by decide +kernel
theorem dY_sums_554 : decode cY_sums 554 = .ok (.lload 6, 2) := by decide +kernel
theorem dY_sums_556 : decode cY_sums 556 = .ok (.lconst 0, 1) := by decide +kernel
theorem dY_sums_557 : decode cY_sums 557 = .ok (.lcmp, 1) := by decide +kernel
theorem dY_sums_558 : decode cY_sums 558 = .ok (.ifCond .ge 7, 3) := by decide +kernel
theorem dY_sums_561 : decode cY_sums 561 = .ok (.iconst 1, 1) := by decide +kernel
theorem dY_sums_562 : decode cY_sums 562 = .ok (.goto 4, 3) := by decide +kernel
theorem dY_sums_565 : decode cY_sums 565 = .ok (.iconst 0, 1) := by decide +kernel
theorem dY_sums_566 : decode cY_sums 566 = .ok (.lload_n 2, 1) := by decide +kernel
theorem dY_sums_567 : decode cY_sums 567 = .ok (.lconst 0, 1) := by decide +kernel
theorem dY_sums_568 : decode cY_sums 568 = .ok (.lcmp, 1) := by decide +kernel
theorem dY_sums_569 : decode cY_sums 569 = .ok (.ifCond .ge 7, 3) := by decide +kernel
theorem dY_sums_572 : decode cY_sums 572 = .ok (.iconst 1, 1) := by decide +kernel
theorem dY_sums_573 : decode cY_sums 573 = .ok (.goto 4, 3) := by decide +kernel
theorem dY_sums_576 : decode cY_sums 576 = .ok (.iconst 0, 1) := by decide +kernel
theorem dY_sums_577 : decode cY_sums 577 = .ok (.if_icmp .eq 7, 3) := by decide +kernel
theorem dY_sums_580 : decode cY_sums 580 = .ok (.iconst 1, 1) := by decide +kernel
theorem dY_sums_581 : decode cY_sums 581 = .ok (.goto 4, 3) := by decide +kernel
theorem dY_sums_584 : decode cY_sums 584 = .ok (.iconst 0, 1) := by decide +kernel
theorem dY_sums_585 : decode cY_sums 585 = .ok (.putfield 146, 3) := by decide +kernel
theorem dY_sums_588 : decode cY_sums 588 = .ok (.iload_n 1, 1) := by decide +kernel
theorem dY_sums_589 : decode cY_sums 589 = .ok (.bipush 105, 2) := by decide +kernel
theorem dY_sums_591 : decode cY_sums 591 = .ok (.if_icmp .ne 64, 3) := by decide +kernel
theorem dY_sums_594 : decode cY_sums 594 = .ok (.aload_n 0, 1) := by decide +kernel
theorem dY_sums_595 : decode cY_sums 595 = .ok (.lload_n 2, 1) := by decide +kernel
theorem dY_sums_596 : decode cY_sums 596 = .ok (.lconst 0, 1) := by decide +kernel
theorem dY_sums_597 : decode cY_sums 597 = .ok (.lcmp, 1) := by decide +kernel
theorem dY_sums_598 : decode cY_sums 598 = .ok (.ifCond .ge 7, 3) := by decide +kernel
theorem dY_sums_601 : decode cY_sums 601 = .ok (.iconst 1, 1) := by decide +kernel
theorem dY_sums_602 : decode cY_sums 602 = .ok (.goto 4, 3) := by decide +kernel
theorem dY_sums_605 : decode cY_sums 605 = .ok (.iconst 0, 1) := by decide +kernel
theorem dY_sums_606 : decode cY_sums 606 = .ok (.lload 4, 2) := by decide +kernel
theorem dY_sums_608 : decode cY_sums 608 = .ok (.lconst 0, 1) := by decide +kernel
theorem dY_sums_609 : decode cY_sums 609 = .ok (.lcmp, 1) := by decide +kernel
theorem dY_sums_610 : decode cY_sums 610 = .ok (.ifCond .ge 7, 3) := by decide +kernel
theorem dY_sums_613 : decode cY_sums 613 = .ok (.iconst 1, 1) := by decide +kernel
theorem dY_sums_614 : decode cY_sums 614 = .ok (.goto 4, 3) := by decide +kernel
theorem dY_sums_617 : decode cY_sums 617 = .ok (.iconst 0, 1) := by decide +kernel
theorem dY_sums_618 : decode cY_sums 618 = .ok (.if_icmp .eq 33, 3) := by decide +kernel
theorem dY_sums_621 : decode cY_sums 621 = .ok (.lload 6, 2) := by decide +kernel
theorem dY_sums_623 : decode cY_sums 623 = .ok (.lconst 0, 1) := by decide +kernel
theorem dY_sums_624 : decode cY_sums 624 = .ok (.lcmp, 1) := by decide +kernel
theorem dY_sums_625 : decode cY_sums 625 = .ok (.ifCond .ge 7, 3) := by decide +kernel
theorem dY_sums_628 : decode cY_sums 628 = .ok (.iconst 1, 1) := by decide +kernel
theorem dY_sums_629 : decode cY_sums 629 = .ok (.goto 4, 3) := by decide +kernel
theorem dY_sums_632 : decode cY_sums 632 = .ok (.iconst 0, 1) := by decide +kernel
theorem dY_sums_633 : decode cY_sums 633 = .ok (.lload_n 2, 1) := by decide +kernel
theorem dY_sums_634 : decode cY_sums 634 = .ok (.lconst 0, 1) := by decide +kernel
theorem dY_sums_635 : decode cY_sums 635 = .ok (.lcmp, 1) := by decide +kernel
theorem dY_sums_636 : decode cY_sums 636 = .ok (.ifCond .ge 7, 3) := by decide +kernel
theorem dY_sums_639 : decode cY_sums 639 = .ok (.iconst 1, 1) := by decide +kernel
theorem dY_sums_640 : decode cY_sums 640 = .ok (.goto 4, 3) := by decide +kernel
theorem dY_sums_643 : decode cY_sums 643 = .ok (.iconst 0, 1) := by decide +kernel
theorem dY_sums_644 : decode cY_sums 644 = .ok (.if_icmp .eq 7, 3) := by decide +kernel
theorem dY_sums_647 : decode cY_sums 647 = .ok (.iconst 1, 1) := by decide +kernel
theorem dY_sums_648 : decode cY_sums 648 = .ok (.goto 4, 3) := by decide +kernel
theorem dY_sums_651 : decode cY_sums 651 = .ok (.iconst 0, 1) := by decide +kernel
theorem dY_sums_652 : decode cY_sums 652 = .ok (.putfield 146, 3) := by decide +kernel
theorem dY_sums_655 : decode cY_sums 655 = .ok (.lload 6, 2) := by decide +kernel
theorem dY_sums_657 : decode cY_sums 657 = .ok (.lreturn, 1) := by decide +kernel
