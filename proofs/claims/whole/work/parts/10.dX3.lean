theorem dX3_init_0 : decode cX3_init 0 = .ok (.aload_n 0, 1) := by decide +kernel
theorem dX3_init_1 : decode cX3_init 1 = .ok (.invokespecial 1, 3) := by decide +kernel
theorem dX3_init_4 : decode cX3_init 4 = .ok (.return_, 1) := by decide +kernel
theorem dX3_compute_0 : decode cX3_compute 0 = .ok (.aload_n 0, 1) := by decide +kernel
theorem dX3_compute_1 : decode cX3_compute 1 = .ok (.iconst 1, 1) := by decide +kernel
theorem dX3_compute_2 : decode cX3_compute 2 = .ok (.putfield 7, 3) := by decide +kernel
theorem dX3_compute_5 : decode cX3_compute 5 = .ok (.aload_n 0, 1) := by decide +kernel
theorem dX3_compute_6 : decode cX3_compute 6 = .ok (.iconst 1, 1) := by decide +kernel
theorem dX3_compute_7 : decode cX3_compute 7 = .ok (.putfield 13, 3) := by decide +kernel
theorem dX3_compute_10 : decode cX3_compute 10 = .ok (.aload_n 0, 1) := by decide +kernel
theorem dX3_compute_11 : decode cX3_compute 11 = .ok (.iconst 0, 1) := by decide +kernel
theorem dX3_compute_12 : decode cX3_compute 12 = .ok (.putfield 16, 3) := by decide +kernel
theorem dX3_compute_15 : decode cX3_compute 15 = .ok (.iload_n 1, 1) := by decide +kernel
theorem dX3_compute_16 : decode cX3_compute 16 = .ok (.tableswitch 92 16 19 #[32, 47, 62, 77], 32) := by decide +kernel
theorem dX3_compute_48 : decode cX3_compute 48 = .ok (.aload_n 0, 1) := by decide +kernel
theorem dX3_compute_49 : decode cX3_compute 49 = .ok (.aload_n 0, 1) := by decide +kernel
theorem dX3_compute_50 : decode cX3_compute 50 = .ok (.iload_n 2, 1) := by decide +kernel
theorem dX3_compute_51 : decode cX3_compute 51 = .ok (.lload_n 3, 1) := by decide +kernel
theorem dX3_compute_52 : decode cX3_compute 52 = .ok (.lload 5, 2) := by decide +kernel
theorem dX3_compute_54 : decode cX3_compute 54 = .ok (.invokevirtual 19, 3) := by decide +kernel
theorem dX3_compute_57 : decode cX3_compute 57 = .ok (.putfield 23, 3) := by decide +kernel
theorem dX3_compute_60 : decode cX3_compute 60 = .ok (.goto 53, 3) := by decide +kernel
theorem dX3_compute_63 : decode cX3_compute 63 = .ok (.aload_n 0, 1) := by decide +kernel
theorem dX3_compute_64 : decode cX3_compute 64 = .ok (.aload_n 0, 1) := by decide +kernel
theorem dX3_compute_65 : decode cX3_compute 65 = .ok (.iload_n 2, 1) := by decide +kernel
theorem dX3_compute_66 : decode cX3_compute 66 = .ok (.lload_n 3, 1) := by decide +kernel
theorem dX3_compute_67 : decode cX3_compute 67 = .ok (.lload 5, 2) := by decide +kernel
theorem dX3_compute_69 : decode cX3_compute 69 = .ok (.invokevirtual 27, 3) := by decide +kernel
theorem dX3_compute_72 : decode cX3_compute 72 = .ok (.putfield 23, 3) := by decide +kernel
theorem dX3_compute_75 : decode cX3_compute 75 = .ok (.goto 38, 3) := by decide +kernel
theorem dX3_compute_78 : decode cX3_compute 78 = .ok (.aload_n 0, 1) := by decide +kernel
theorem dX3_compute_79 : decode cX3_compute 79 = .ok (.aload_n 0, 1) := by decide +kernel
theorem dX3_compute_80 : decode cX3_compute 80 = .ok (.iload_n 2, 1) := by decide +kernel
theorem dX3_compute_81 : decode cX3_compute 81 = .ok (.lload_n 3, 1) := by decide +kernel
theorem dX3_compute_82 : decode cX3_compute 82 = .ok (.lload 5, 2) := by decide +kernel
theorem dX3_compute_84 : decode cX3_compute 84 = .ok (.invokevirtual 30, 3) := by decide +kernel
theorem dX3_compute_87 : decode cX3_compute 87 = .ok (.putfield 23, 3) := by decide +kernel
theorem dX3_compute_90 : decode cX3_compute 90 = .ok (.goto 23, 3) := by decide +kernel
theorem dX3_compute_93 : decode cX3_compute 93 = .ok (.aload_n 0, 1) := by decide +kernel
theorem dX3_compute_94 : decode cX3_compute 94 = .ok (.aload_n 0, 1) := by decide +kernel
theorem dX3_compute_95 : decode cX3_compute 95 = .ok (.iload_n 2, 1) := by decide +kernel
theorem dX3_compute_96 : decode cX3_compute 96 = .ok (.lload_n 3, 1) := by decide +kernel
theorem dX3_compute_97 : decode cX3_compute 97 = .ok (.lload 5, 2) := by decide +kernel
theorem dX3_compute_99 : decode cX3_compute 99 = .ok (.invokevirtual 33, 3) := by decide +kernel
theorem dX3_compute_102 : decode cX3_compute 102 = .ok (.putfield 23, 3) := by decide +kernel
theorem dX3_compute_105 : decode cX3_compute 105 = .ok (.goto 8, 3) := by decide +kernel
theorem dX3_compute_108 : decode cX3_compute 108 = .ok (.aload_n 0, 1) := by decide +kernel
theorem dX3_compute_109 : decode cX3_compute 109 = .ok (.iconst 0, 1) := by decide +kernel
theorem dX3_compute_110 : decode cX3_compute 110 = .ok (.putfield 7, 3) := by decide +kernel
theorem dX3_compute_113 : decode cX3_compute 113 = .ok (.return_, 1) := by decide +kernel
theorem dX3_sx_0 : decode cX3_sx 0 = .ok (.lload_n 0, 1) := by decide +kernel
theorem dX3_sx_1 : decode cX3_sx 1 = .ok (.l2i, 1) := by decide +kernel
theorem dX3_sx_2 : decode cX3_sx 2 = .ok (.i2l, 1) := by decide +kernel
theorem dX3_sx_3 : decode cX3_sx 3 = .ok (.lreturn, 1) := by decide +kernel
theorem dX3_trapIf_0 : decode cX3_trapIf 0 = .ok (.aload_n 0, 1) := by decide +kernel
theorem dX3_trapIf_1 : decode cX3_trapIf 1 = .ok (.iload_n 1, 1) := by decide +kernel
theorem dX3_trapIf_2 : decode cX3_trapIf 2 = .ok (.putfield 16, 3) := by decide +kernel
theorem dX3_trapIf_5 : decode cX3_trapIf 5 = .ok (.lload_n 2, 1) := by decide +kernel
theorem dX3_trapIf_6 : decode cX3_trapIf 6 = .ok (.lreturn, 1) := by decide +kernel
theorem dX3_truth_0 : decode cX3_truth 0 = .ok (.iload_n 0, 1) := by decide +kernel
theorem dX3_truth_1 : decode cX3_truth 1 = .ok (.ifCond .eq 7, 3) := by decide +kernel
theorem dX3_truth_4 : decode cX3_truth 4 = .ok (.lconst 1, 1) := by decide +kernel
theorem dX3_truth_5 : decode cX3_truth 5 = .ok (.goto 4, 3) := by decide +kernel
theorem dX3_truth_8 : decode cX3_truth 8 = .ok (.lconst 0, 1) := by decide +kernel
theorem dX3_truth_9 : decode cX3_truth 9 = .ok (.lreturn, 1) := by decide +kernel
theorem dX3_isBelow_0 : decode cX3_isBelow 0 = .ok (.lload_n 0, 1) := by decide +kernel
theorem dX3_isBelow_1 : decode cX3_isBelow 1 = .ok (.ldc2_w 36, 3) := by decide +kernel
theorem dX3_isBelow_4 : decode cX3_isBelow 4 = .ok (.lxor, 1) := by decide +kernel
theorem dX3_isBelow_5 : decode cX3_isBelow 5 = .ok (.lload_n 2, 1) := by decide +kernel
theorem dX3_isBelow_6 : decode cX3_isBelow 6 = .ok (.ldc2_w 36, 3) := by decide +kernel
theorem dX3_isBelow_9 : decode cX3_isBelow 9 = .ok (.lxor, 1) := by decide +kernel
theorem dX3_isBelow_10 : decode cX3_isBelow 10 = .ok (.lcmp, 1) := by decide +kernel
theorem dX3_isBelow_11 : decode cX3_isBelow 11 = .ok (.ifCond .ge 7, 3) := by decide +kernel
theorem dX3_isBelow_14 : decode cX3_isBelow 14 = .ok (.iconst 1, 1) := by decide +kernel
theorem dX3_isBelow_15 : decode cX3_isBelow 15 = .ok (.goto 4, 3) := by decide +kernel
theorem dX3_isBelow_18 : decode cX3_isBelow 18 = .ok (.iconst 0, 1) := by decide +kernel
theorem dX3_isBelow_19 : decode cX3_isBelow 19 = .ok (.ireturn, 1) := by decide +kernel
theorem dX3_add_0 : decode cX3_add 0 = .ok (.iload_n 1, 1) := by decide +kernel
theorem dX3_add_1 : decode cX3_add 1 = .ok (.lookupswitch 482 #[(0, 171), (2, 179), (9, 203), (11, 211), (15, 475), (18, 191), (29, 447), (32, 223), (34, 228), (41, 246), (43, 251), (45, 399), (50, 237), (61, 457), (64, 260), (73, 298), (77, 415), (96, 336), (105, 369), (109, 431)], 171) := by decide +kernel
theorem dX3_add_172 : decode cX3_add 172 = .ok (.lload_n 2, 1) := by decide +kernel
theorem dX3_add_173 : decode cX3_add 173 = .ok (.lload 4, 2) := by decide +kernel
theorem dX3_add_175 : decode cX3_add 175 = .ok (.ladd, 1) := by decide +kernel
theorem dX3_add_176 : decode cX3_add 176 = .ok (.invokestatic 38, 3) := by decide +kernel
theorem dX3_add_179 : decode cX3_add 179 = .ok (.lreturn, 1) := by decide +kernel
theorem dX3_add_180 : decode cX3_add 180 = .ok (.ldc2_w 42, 3) := by decide +kernel
theorem dX3_add_183 : decode cX3_add 183 = .ok (.lload_n 2, 1) := by decide +kernel
theorem dX3_add_184 : decode cX3_add 184 = .ok (.lmul, 1) := by decide +kernel
theorem dX3_add_185 : decode cX3_add 185 = .ok (.lload 4, 2) := by decide +kernel
theorem dX3_add_187 : decode cX3_add 187 = .ok (.ladd, 1) := by decide +kernel
theorem dX3_add_188 : decode cX3_add 188 = .ok (.invokestatic 38, 3) := by decide +kernel
theorem dX3_add_191 : decode cX3_add 191 = .ok (.lreturn, 1) := by decide +kernel
theorem dX3_add_192 : decode cX3_add 192 = .ok (.ldc2_w 44, 3) := by decide +kernel
theorem dX3_add_195 : decode cX3_add 195 = .ok (.lload_n 2, 1) := by decide +kernel
theorem dX3_add_196 : decode cX3_add 196 = .ok (.lmul, 1) := by decide +kernel
theorem dX3_add_197 : decode cX3_add 197 = .ok (.lload 4, 2) := by decide +kernel
theorem dX3_add_199 : decode cX3_add 199 = .ok (.ladd, 1) := by decide +kernel
theorem dX3_add_200 : decode cX3_add 200 = .ok (.invokestatic 38, 3) := by decide +kernel
theorem dX3_add_203 : decode cX3_add 203 = .ok (.lreturn, 1) := by decide +kernel
theorem dX3_add_204 : decode cX3_add 204 = .ok (.lload_n 2, 1) := by decide +kernel
theorem dX3_add_205 : decode cX3_add 205 = .ok (.lload 4, 2) := by decide +kernel
theorem dX3_add_207 : decode cX3_add 207 = .ok (.lsub, 1) := by decide +kernel
theorem dX3_add_208 : decode cX3_add 208 = .ok (.invokestatic 38, 3) := by decide +kernel
theorem dX3_add_211 : decode cX3_add 211 = .ok (.lreturn, 1) := by decide +kernel
theorem dX3_add_212 : decode cX3_add 212 = .ok (.ldc2_w 42, 3) := by decide +kernel
theorem dX3_add_215 : decode cX3_add 215 = .ok (.lload_n 2, 1) := by decide +kernel
theorem dX3_add_216 : decode cX3_add 216 = .ok (.lmul, 1) := by decide +kernel
theorem dX3_add_217 : decode cX3_add 217 = .ok (.lload 4, 2) := by decide +kernel
theorem dX3_add_219 : decode cX3_add 219 = .ok (.lsub, 1) := by decide +kernel
theorem dX3_add_220 : decode cX3_add 220 = .ok (.invokestatic 38, 3) := by decide +kernel
theorem dX3_add_223 : decode cX3_add 223 = .ok (.lreturn, 1) := by decide +kernel
theorem dX3_add_224 : decode cX3_add 224 = .ok (.lload_n 2, 1) := by decide +kernel
theorem dX3_add_225 : decode cX3_add 225 = .ok (.lload 4, 2) := by decide +kernel
theorem dX3_add_227 : decode cX3_add 227 = .ok (.ladd, 1) := by decide +kernel
theorem dX3_add_228 : decode cX3_add 228 = .ok (.lreturn, 1) := by decide +kernel
theorem dX3_add_229 : decode cX3_add 229 = .ok (.ldc2_w 42, 3) := by decide +kernel
theorem dX3_add_232 : decode cX3_add 232 = .ok (.lload_n 2, 1) := by decide +kernel
theorem dX3_add_233 : decode cX3_add 233 = .ok (.lmul, 1) := by decide +kernel
theorem dX3_add_234 : decode cX3_add 234 = .ok (.lload 4, 2) := by decide +kernel
theorem dX3_add_236 : decode cX3_add 236 = .ok (.ladd, 1) := by decide +kernel
theorem dX3_add_237 : decode cX3_add 237 = .ok (.lreturn, 1) := by decide +kernel
theorem dX3_add_238 : decode cX3_add 238 = .ok (.ldc2_w 44, 3) := by decide +kernel
theorem dX3_add_241 : decode cX3_add 241 = .ok (.lload_n 2, 1) := by decide +kernel
theorem dX3_add_242 : decode cX3_add 242 = .ok (.lmul, 1) := by decide +kernel
theorem dX3_add_243 : decode cX3_add 243 = .ok (.lload 4, 2) := by decide +kernel
theorem dX3_add_245 : decode cX3_add 245 = .ok (.ladd, 1) := by decide +kernel
theorem dX3_add_246 : decode cX3_add 246 = .ok (.lreturn, 1) := by decide +kernel
theorem dX3_add_247 : decode cX3_add 247 = .ok (.lload_n 2, 1) := by decide +kernel
theorem dX3_add_248 : decode cX3_add 248 = .ok (.lload 4, 2) := by decide +kernel
theorem dX3_add_250 : decode cX3_add 250 = .ok (.lsub, 1) := by decide +kernel
theorem dX3_add_251 : decode cX3_add 251 = .ok (.lreturn, 1) := by decide +kernel
theorem dX3_add_252 : decode cX3_add 252 = .ok (.ldc2_w 42, 3) := by decide +kernel
theorem dX3_add_255 : decode cX3_add 255 = .ok (.lload_n 2, 1) := by decide +kernel
theorem dX3_add_256 : decode cX3_add 256 = .ok (.lmul, 1) := by decide +kernel
theorem dX3_add_257 : decode cX3_add 257 = .ok (.lload 4, 2) := by decide +kernel
theorem dX3_add_259 : decode cX3_add 259 = .ok (.lsub, 1) := by decide +kernel
theorem dX3_add_260 : decode cX3_add 260 = .ok (.lreturn, 1) := by decide +kernel
theorem dX3_add_261 : decode cX3_add 261 = .ok (.aload_n 0, 1) := by decide +kernel
theorem dX3_add_262 : decode cX3_add 262 = .ok (.lload_n 2, 1) := by decide +kernel
theorem dX3_add_263 : decode cX3_add 263 = .ok (.lload 4, 2) := by decide +kernel
theorem dX3_add_265 : decode cX3_add 265 = .ok (.ladd, 1) := by decide +kernel
theorem dX3_add_266 : decode cX3_add 266 = .ok (.invokestatic 38, 3) := by decide +kernel
theorem dX3_add_269 : decode cX3_add 269 = .ok (.lload_n 2, 1) := by decide +kernel
theorem dX3_add_270 : decode cX3_add 270 = .ok (.invokestatic 38, 3) := by decide +kernel
theorem dX3_add_273 : decode cX3_add 273 = .ok (.lload 4, 2) := by decide +kernel
theorem dX3_add_275 : decode cX3_add 275 = .ok (.invokestatic 38, 3) := by decide +kernel
theorem dX3_add_278 : decode cX3_add 278 = .ok (.ladd, 1) := by decide +kernel
theorem dX3_add_279 : decode cX3_add 279 = .ok (.lcmp, 1) := by decide +kernel
theorem dX3_add_280 : decode cX3_add 280 = .ok (.ifCond .eq 7, 3) := by decide +kernel
theorem dX3_add_283 : decode cX3_add 283 = .ok (.iconst 1, 1) := by decide +kernel
theorem dX3_add_284 : decode cX3_add 284 = .ok (.goto 4, 3) := by decide +kernel
theorem dX3_add_287 : decode cX3_add 287 = .ok (.iconst 0, 1) := by decide +kernel
theorem dX3_add_288 : decode cX3_add 288 = .ok (.lload_n 2, 1) := by decide +kernel
theorem dX3_add_289 : decode cX3_add 289 = .ok (.lload 4, 2) := by decide +kernel
theorem dX3_add_291 : decode cX3_add 291 = .ok (.ladd, 1) := by decide +kernel
theorem dX3_add_292 : decode cX3_add 292 = .ok (.invokestatic 38, 3) := by decide +kernel
theorem dX3_add_295 : decode cX3_add 295 = .ok (.invokevirtual 46, 3) := by decide +kernel
theorem dX3_add_298 : decode cX3_add 298 = .ok (.lreturn, 1) := by decide +kernel
theorem dX3_add_299 : decode cX3_add 299 = .ok (.aload_n 0, 1) := by decide +kernel
theorem dX3_add_300 : decode cX3_add 300 = .ok (.lload_n 2, 1) := by decide +kernel
theorem dX3_add_301 : decode cX3_add 301 = .ok (.lload 4, 2) := by decide +kernel
theorem dX3_add_303 : decode cX3_add 303 = .ok (.lsub, 1) := by decide +kernel
theorem dX3_add_304 : decode cX3_add 304 = .ok (.invokestatic 38, 3) := by decide +kernel
theorem dX3_add_307 : decode cX3_add 307 = .ok (.lload_n 2, 1) := by decide +kernel
theorem dX3_add_308 : decode cX3_add 308 = .ok (.invokestatic 38, 3) := by decide +kernel
theorem dX3_add_311 : decode cX3_add 311 = .ok (.lload 4, 2) := by decide +kernel
theorem dX3_add_313 : decode cX3_add 313 = .ok (.invokestatic 38, 3) := by decide +kernel
theorem dX3_add_316 : decode cX3_add 316 = .ok (.lsub, 1) := by decide +kernel
theorem dX3_add_317 : decode cX3_add 317 = .ok (.lcmp, 1) := by decide +kernel
theorem dX3_add_318 : decode cX3_add 318 = .ok (.ifCond .eq 7, 3) := by decide +kernel
theorem dX3_add_321 : decode cX3_add 321 = .ok (.iconst 1, 1) := by decide +kernel
theorem dX3_add_322 : decode cX3_add 322 = .ok (.goto 4, 3) := by decide +kernel
theorem dX3_add_325 : decode cX3_add 325 = .ok (.iconst 0, 1) := by decide +kernel
theorem dX3_add_326 : decode cX3_add 326 = .ok (.lload_n 2, 1) := by decide +kernel
theorem dX3_add_327 : decode cX3_add 327 = .ok (.lload 4, 2) := by decide +kernel
theorem dX3_add_329 : decode cX3_add 329 = .ok (.lsub, 1) := by decide +kernel
theorem dX3_add_330 : decode cX3_add 330 = .ok (.invokestatic 38, 3) := by decide +kernel
theorem dX3_add_333 : decode cX3_add 333 = .ok (.invokevirtual 46, 3) := by decide +kernel
theorem dX3_add_336 : decode cX3_add 336 = .ok (.lreturn, 1) := by decide +kernel
theorem dX3_add_337 : decode cX3_add 337 = .ok (.aload_n 0, 1) := by decide +kernel
theorem dX3_add_338 : decode cX3_add 338 = .ok (.lload_n 2, 1) := by decide +kernel
theorem dX3_add_339 : decode cX3_add 339 = .ok (.lload_n 2, 1) := by decide +kernel
theorem dX3_add_340 : decode cX3_add 340 = .ok (.lload 4, 2) := by decide +kernel
theorem dX3_add_342 : decode cX3_add 342 = .ok (.ladd, 1) := by decide +kernel
theorem dX3_add_343 : decode cX3_add 343 = .ok (.lxor, 1) := by decide +kernel
theorem dX3_add_344 : decode cX3_add 344 = .ok (.lload 4, 2) := by decide +kernel
theorem dX3_add_346 : decode cX3_add 346 = .ok (.lload_n 2, 1) := by decide +kernel
theorem dX3_add_347 : decode cX3_add 347 = .ok (.lload 4, 2) := by decide +kernel
theorem dX3_add_349 : decode cX3_add 349 = .ok (.ladd, 1) := by decide +kernel
theorem dX3_add_350 : decode cX3_add 350 = .ok (.lxor, 1) := by decide +kernel
theorem dX3_add_351 : decode cX3_add 351 = .ok (.land, 1) := by decide +kernel
theorem dX3_add_352 : decode cX3_add 352 = .ok (.lconst 0, 1) := by decide +kernel
theorem dX3_add_353 : decode cX3_add 353 = .ok (.lcmp, 1) := by decide +kernel
theorem dX3_add_354 : decode cX3_add 354 = .ok (.ifCond .ge 7, 3) := by decide +kernel
theorem dX3_add_357 : decode cX3_add 357 = .ok (.iconst 1, 1) := by decide +kernel
theorem dX3_add_358 : decode cX3_add 358 = .ok (.goto 4, 3) := by decide +kernel
theorem dX3_add_361 : decode cX3_add 361 = .ok (.iconst 0, 1) := by decide +kernel
theorem dX3_add_362 : decode cX3_add 362 = .ok (.lload_n 2, 1) := by decide +kernel
theorem dX3_add_363 : decode cX3_add 363 = .ok (.lload 4, 2) := by decide +kernel
theorem dX3_add_365 : decode cX3_add 365 = .ok (.ladd, 1) := by decide +kernel
theorem dX3_add_366 : decode cX3_add 366 = .ok (.invokevirtual 46, 3) := by decide +kernel
theorem dX3_add_369 : decode cX3_add 369 = .ok (.lreturn, 1) := by decide +kernel
theorem dX3_add_370 : decode cX3_add 370 = .ok (.aload_n 0, 1) := by decide +kernel
theorem dX3_add_371 : decode cX3_add 371 = .ok (.lload_n 2, 1) := by decide +kernel
theorem dX3_add_372 : decode cX3_add 372 = .ok (.lload 4, 2) := by decide +kernel
theorem dX3_add_374 : decode cX3_add 374 = .ok (.lxor, 1) := by decide +kernel
theorem dX3_add_375 : decode cX3_add 375 = .ok (.lload_n 2, 1) := by decide +kernel
theorem dX3_add_376 : decode cX3_add 376 = .ok (.lload_n 2, 1) := by decide +kernel
theorem dX3_add_377 : decode cX3_add 377 = .ok (.lload 4, 2) := by decide +kernel
theorem dX3_add_379 : decode cX3_add 379 = .ok (.lsub, 1) := by decide +kernel
theorem dX3_add_380 : decode cX3_add 380 = .ok (.lxor, 1) := by decide +kernel
theorem dX3_add_381 : decode cX3_add 381 = .ok (.land, 1) := by decide +kernel
theorem dX3_add_382 : decode cX3_add 382 = .ok (.lconst 0, 1) := by decide +kernel
theorem dX3_add_383 : decode cX3_add 383 = .ok (.lcmp, 1) := by decide +kernel
theorem dX3_add_384 : decode cX3_add 384 = .ok (.ifCond .ge 7, 3) := by decide +kernel
theorem dX3_add_387 : decode cX3_add 387 = .ok (.iconst 1, 1) := by decide +kernel
theorem dX3_add_388 : decode cX3_add 388 = .ok (.goto 4, 3) := by decide +kernel
theorem dX3_add_391 : decode cX3_add 391 = .ok (.iconst 0, 1) := by decide +kernel
theorem dX3_add_392 : decode cX3_add 392 = .ok (.lload_n 2, 1) := by decide +kernel
theorem dX3_add_393 : decode cX3_add 393 = .ok (.lload 4, 2) := by decide +kernel
theorem dX3_add_395 : decode cX3_add 395 = .ok (.lsub, 1) := by decide +kernel
theorem dX3_add_396 : decode cX3_add 396 = .ok (.invokevirtual 46, 3) := by decide +kernel
theorem dX3_add_399 : decode cX3_add 399 = .ok (.lreturn, 1) := by decide +kernel
theorem dX3_add_400 : decode cX3_add 400 = .ok (.lload_n 2, 1) := by decide +kernel
theorem dX3_add_401 : decode cX3_add 401 = .ok (.lload 4, 2) := by decide +kernel
theorem dX3_add_403 : decode cX3_add 403 = .ok (.lcmp, 1) := by decide +kernel
theorem dX3_add_404 : decode cX3_add 404 = .ok (.ifCond .ne 7, 3) := by decide +kernel
theorem dX3_add_407 : decode cX3_add 407 = .ok (.iconst 1, 1) := by decide +kernel
theorem dX3_add_408 : decode cX3_add 408 = .ok (.goto 4, 3) := by decide +kernel
theorem dX3_add_411 : decode cX3_add 411 = .ok (.iconst 0, 1) := by decide +kernel
theorem dX3_add_412 : decode cX3_add 412 = .ok (.invokestatic 50, 3) := by decide +kernel
theorem dX3_add_415 : decode cX3_add 415 = .ok (.lreturn, 1) := by decide +kernel
theorem dX3_add_416 : decode cX3_add 416 = .ok (.lload_n 2, 1) := by decide +kernel
theorem dX3_add_417 : decode cX3_add 417 = .ok (.lload 4, 2) := by decide +kernel
theorem dX3_add_419 : decode cX3_add 419 = .ok (.lcmp, 1) := by decide +kernel
theorem dX3_add_420 : decode cX3_add 420 = .ok (.ifCond .ge 7, 3) := by decide +kernel
theorem dX3_add_423 : decode cX3_add 423 = .ok (.iconst 1, 1) := by decide +kernel
theorem dX3_add_424 : decode cX3_add 424 = .ok (.goto 4, 3) := by decide +kernel
theorem dX3_add_427 : decode cX3_add 427 = .ok (.iconst 0, 1) := by decide +kernel
theorem dX3_add_428 : decode cX3_add 428 = .ok (.invokestatic 50, 3) := by decide +kernel
theorem dX3_add_431 : decode cX3_add 431 = .ok (.lreturn, 1) := by decide +kernel
theorem dX3_add_432 : decode cX3_add 432 = .ok (.lload_n 2, 1) := by decide +kernel
theorem dX3_add_433 : decode cX3_add 433 = .ok (.lload 4, 2) := by decide +kernel
theorem dX3_add_435 : decode cX3_add 435 = .ok (.lcmp, 1) := by decide +kernel
theorem dX3_add_436 : decode cX3_add 436 = .ok (.ifCond .gt 7, 3) := by decide +kernel
theorem dX3_add_439 : decode cX3_add 439 = .ok (.iconst 1, 1) := by decide +kernel
theorem dX3_add_440 : decode cX3_add 440 = .ok (.goto 4, 3) := by decide +kernel
theorem dX3_add_443 : decode cX3_add 443 = .ok (.iconst 0, 1) := by decide +kernel
theorem dX3_add_444 : decode cX3_add 444 = .ok (.invokestatic 50, 3) := by decide +kernel
theorem dX3_add_447 : decode cX3_add 447 = .ok (.lreturn, 1) := by decide +kernel
theorem dX3_add_448 : decode cX3_add 448 = .ok (.lload_n 2, 1) := by decide +kernel
theorem dX3_add_449 : decode cX3_add 449 = .ok (.lload 4, 2) := by decide +kernel
theorem dX3_add_451 : decode cX3_add 451 = .ok (.invokestatic 54, 3) := by decide +kernel
theorem dX3_add_454 : decode cX3_add 454 = .ok (.invokestatic 50, 3) := by decide +kernel
theorem dX3_add_457 : decode cX3_add 457 = .ok (.lreturn, 1) := by decide +kernel
theorem dX3_add_458 : decode cX3_add 458 = .ok (.lload 4, 2) := by decide +kernel
theorem dX3_add_460 : decode cX3_add 460 = .ok (.lload_n 2, 1) := by decide +kernel
theorem dX3_add_461 : decode cX3_add 461 = .ok (.invokestatic 54, 3) := by decide +kernel
theorem dX3_add_464 : decode cX3_add 464 = .ok (.ifCond .ne 7, 3) := by decide +kernel
theorem dX3_add_467 : decode cX3_add 467 = .ok (.iconst 1, 1) := by decide +kernel
theorem dX3_add_468 : decode cX3_add 468 = .ok (.goto 4, 3) := by decide +kernel
theorem dX3_add_471 : decode cX3_add 471 = .ok (.iconst 0, 1) := by decide +kernel
theorem dX3_add_472 : decode cX3_add 472 = .ok (.invokestatic 50, 3) := by decide +kernel
theorem dX3_add_475 : decode cX3_add 475 = .ok (.lreturn, 1) := by decide +kernel
theorem dX3_add_476 : decode cX3_add 476 = .ok (.lload_n 2, 1) := by decide +kernel
theorem dX3_add_477 : decode cX3_add 477 = .ok (.lload 4, 2) := by decide +kernel
theorem dX3_add_479 : decode cX3_add 479 = .ok (.invokestatic 58, 3) := by decide +kernel
theorem dX3_add_482 : decode cX3_add 482 = .ok (.lreturn, 1) := by decide +kernel
theorem dX3_add_483 : decode cX3_add 483 = .ok (.aload_n 0, 1) := by decide +kernel
theorem dX3_add_484 : decode cX3_add 484 = .ok (.iconst 0, 1) := by decide +kernel
theorem dX3_add_485 : decode cX3_add 485 = .ok (.putfield 7, 3) := by decide +kernel
theorem dX3_add_488 : decode cX3_add 488 = .ok (.lconst 0, 1) := by decide +kernel
theorem dX3_add_489 : decode cX3_add 489 = .ok (.lreturn, 1) := by decide +kernel
theorem dX3_bytesNotLess_0 : decode cX3_bytesNotLess 0 = .ok (.lconst 0, 1) := by decide +kernel
theorem dX3_bytesNotLess_1 : decode cX3_bytesNotLess 1 = .ok (.lstore 4, 2) := by decide +kernel
theorem dX3_bytesNotLess_3 : decode cX3_bytesNotLess 3 = .ok (.iconst 0, 1) := by decide +kernel
theorem dX3_bytesNotLess_4 : decode cX3_bytesNotLess 4 = .ok (.istore 6, 2) := by decide +kernel
theorem dX3_bytesNotLess_6 : decode cX3_bytesNotLess 6 = .ok (.iload 6, 2) := by decide +kernel
theorem dX3_bytesNotLess_8 : decode cX3_bytesNotLess 8 = .ok (.bipush 8, 2) := by decide +kernel
theorem dX3_bytesNotLess_10 : decode cX3_bytesNotLess 10 = .ok (.if_icmp .ge 44, 3) := by decide +kernel
theorem dX3_bytesNotLess_13 : decode cX3_bytesNotLess 13 = .ok (.lload_n 0, 1) := by decide +kernel
theorem dX3_bytesNotLess_14 : decode cX3_bytesNotLess 14 = .ok (.bipush 8, 2) := by decide +kernel
theorem dX3_bytesNotLess_16 : decode cX3_bytesNotLess 16 = .ok (.iload 6, 2) := by decide +kernel
theorem dX3_bytesNotLess_18 : decode cX3_bytesNotLess 18 = .ok (.imul, 1) := by decide +kernel
theorem dX3_bytesNotLess_19 : decode cX3_bytesNotLess 19 = .ok (.lushr, 1) := by decide +kernel
theorem dX3_bytesNotLess_20 : decode cX3_bytesNotLess 20 = .ok (.ldc2_w 62, 3) := by decide +kernel
theorem dX3_bytesNotLess_23 : decode cX3_bytesNotLess 23 = .ok (.land, 1) := by decide +kernel
theorem dX3_bytesNotLess_24 : decode cX3_bytesNotLess 24 = .ok (.lload_n 2, 1) := by decide +kernel
theorem dX3_bytesNotLess_25 : decode cX3_bytesNotLess 25 = .ok (.bipush 8, 2) := by decide +kernel
theorem dX3_bytesNotLess_27 : decode cX3_bytesNotLess 27 = .ok (.iload 6, 2) := by decide +kernel
theorem dX3_bytesNotLess_29 : decode cX3_bytesNotLess 29 = .ok (.imul, 1) := by decide +kernel
theorem dX3_bytesNotLess_30 : decode cX3_bytesNotLess 30 = .ok (.lushr, 1) := by decide +kernel
theorem dX3_bytesNotLess_31 : decode cX3_bytesNotLess 31 = .ok (.ldc2_w 62, 3) := by decide +kernel
theorem dX3_bytesNotLess_34 : decode cX3_bytesNotLess 34 = .ok (.land, 1) := by decide +kernel
theorem dX3_bytesNotLess_35 : decode cX3_bytesNotLess 35 = .ok (.lcmp, 1) := by decide +kernel
theorem dX3_bytesNotLess_36 : decode cX3_bytesNotLess 36 = .ok (.ifCond .lt 12, 3) := by decide +kernel
theorem dX3_bytesNotLess_39 : decode cX3_bytesNotLess 39 = .ok (.lload 4, 2) := by decide +kernel
theorem dX3_bytesNotLess_41 : decode cX3_bytesNotLess 41 = .ok (.lconst 1, 1) := by decide +kernel
theorem dX3_bytesNotLess_42 : decode cX3_bytesNotLess 42 = .ok (.iload 6, 2) := by decide +kernel
theorem dX3_bytesNotLess_44 : decode cX3_bytesNotLess 44 = .ok (.lshl, 1) := by decide +kernel
theorem dX3_bytesNotLess_45 : decode cX3_bytesNotLess 45 = .ok (.lor, 1) := by decide +kernel
theorem dX3_bytesNotLess_46 : decode cX3_bytesNotLess 46 = .ok (.lstore 4, 2) := by decide +kernel
theorem dX3_bytesNotLess_48 : decode cX3_bytesNotLess 48 = .ok (.iinc 6 1, 3) := by decide +kernel
theorem dX3_bytesNotLess_51 : decode cX3_bytesNotLess 51 = .ok (.goto (-45), 3) := by decide +kernel
theorem dX3_bytesNotLess_54 : decode cX3_bytesNotLess 54 = .ok (.lload 4, 2) := by decide +kernel
theorem dX3_bytesNotLess_56 : decode cX3_bytesNotLess 56 = .ok (.lreturn, 1) := by decide +kernel
theorem dX3_combine_0 : decode cX3_combine 0 = .ok (.iload_n 1, 1) := by decide +kernel
theorem dX3_combine_1 : decode cX3_combine 1 = .ok (.lookupswitch 313 #[(0, 123), (8, 128), (20, 165), (22, 185), (32, 137), (36, 205), (38, 223), (40, 142), (64, 151), (68, 241), (70, 259), (72, 156), (100, 277), (102, 295)], 123) := by decide +kernel
theorem dX3_combine_124 : decode cX3_combine 124 = .ok (.lload_n 2, 1) := by decide +kernel
theorem dX3_combine_125 : decode cX3_combine 125 = .ok (.lload 4, 2) := by decide +kernel
theorem dX3_combine_127 : decode cX3_combine 127 = .ok (.land, 1) := by decide +kernel
theorem dX3_combine_128 : decode cX3_combine 128 = .ok (.lreturn, 1) := by decide +kernel
theorem dX3_combine_129 : decode cX3_combine 129 = .ok (.lload_n 2, 1) := by decide +kernel
theorem dX3_combine_130 : decode cX3_combine 130 = .ok (.lload 4, 2) := by decide +kernel
theorem dX3_combine_132 : decode cX3_combine 132 = .ok (.ldc2_w 64, 3) := by decide +kernel
theorem dX3_combine_135 : decode cX3_combine 135 = .ok (.lxor, 1) := by decide +kernel
theorem dX3_combine_136 : decode cX3_combine 136 = .ok (.land, 1) := by decide +kernel
theorem dX3_combine_137 : decode cX3_combine 137 = .ok (.lreturn, 1) := by decide +kernel
theorem dX3_combine_138 : decode cX3_combine 138 = .ok (.lload_n 2, 1) := by decide +kernel
theorem dX3_combine_139 : decode cX3_combine 139 = .ok (.lload 4, 2) := by decide +kernel
theorem dX3_combine_141 : decode cX3_combine 141 = .ok (.lor, 1) := by decide +kernel
theorem dX3_combine_142 : decode cX3_combine 142 = .ok (.lreturn, 1) := by decide +kernel
theorem dX3_combine_143 : decode cX3_combine 143 = .ok (.lload_n 2, 1) := by decide +kernel
theorem dX3_combine_144 : decode cX3_combine 144 = .ok (.lload 4, 2) := by decide +kernel
theorem dX3_combine_146 : decode cX3_combine 146 = .ok (.ldc2_w 64, 3) := by decide +kernel
theorem dX3_combine_149 : decode cX3_combine 149 = .ok (.lxor, 1) := by decide +kernel
theorem dX3_combine_150 : decode cX3_combine 150 = .ok (.lor, 1) := by decide +kernel
theorem dX3_combine_151 : decode cX3_combine 151 = .ok (.lreturn, 1) := by decide +kernel
theorem dX3_combine_152 : decode cX3_combine 152 = .ok (.lload_n 2, 1) := by decide +kernel
theorem dX3_combine_153 : decode cX3_combine 153 = .ok (.lload 4, 2) := by decide +kernel
theorem dX3_combine_155 : decode cX3_combine 155 = .ok (.lxor, 1) := by decide +kernel
theorem dX3_combine_156 : decode cX3_combine 156 = .ok (.lreturn, 1) := by decide +kernel
theorem dX3_combine_157 : decode cX3_combine 157 = .ok (.lload_n 2, 1) := by decide +kernel
theorem dX3_combine_158 : decode cX3_combine 158 = .ok (.lload 4, 2) := by decide +kernel
theorem dX3_combine_160 : decode cX3_combine 160 = .ok (.ldc2_w 64, 3) := by decide +kernel
theorem dX3_combine_163 : decode cX3_combine 163 = .ok (.lxor, 1) := by decide +kernel
theorem dX3_combine_164 : decode cX3_combine 164 = .ok (.lxor, 1) := by decide +kernel
theorem dX3_combine_165 : decode cX3_combine 165 = .ok (.lreturn, 1) := by decide +kernel
theorem dX3_combine_166 : decode cX3_combine 166 = .ok (.aload_n 0, 1) := by decide +kernel
theorem dX3_combine_167 : decode cX3_combine 167 = .ok (.lload_n 2, 1) := by decide +kernel
theorem dX3_combine_168 : decode cX3_combine 168 = .ok (.lconst 1, 1) := by decide +kernel
theorem dX3_combine_169 : decode cX3_combine 169 = .ok (.land, 1) := by decide +kernel
theorem dX3_combine_170 : decode cX3_combine 170 = .ok (.lconst 0, 1) := by decide +kernel
theorem dX3_combine_171 : decode cX3_combine 171 = .ok (.lcmp, 1) := by decide +kernel
theorem dX3_combine_172 : decode cX3_combine 172 = .ok (.ifCond .eq 7, 3) := by decide +kernel
theorem dX3_combine_175 : decode cX3_combine 175 = .ok (.iconst 1, 1) := by decide +kernel
theorem dX3_combine_176 : decode cX3_combine 176 = .ok (.goto 4, 3) := by decide +kernel
theorem dX3_combine_179 : decode cX3_combine 179 = .ok (.iconst 0, 1) := by decide +kernel
theorem dX3_combine_180 : decode cX3_combine 180 = .ok (.lload 4, 2) := by decide +kernel
theorem dX3_combine_182 : decode cX3_combine 182 = .ok (.invokevirtual 66, 3) := by decide +kernel
theorem dX3_combine_185 : decode cX3_combine 185 = .ok (.lreturn, 1) := by decide +kernel
theorem dX3_combine_186 : decode cX3_combine 186 = .ok (.aload_n 0, 1) := by decide +kernel
theorem dX3_combine_187 : decode cX3_combine 187 = .ok (.lload_n 2, 1) := by decide +kernel
theorem dX3_combine_188 : decode cX3_combine 188 = .ok (.lconst 1, 1) := by decide +kernel
theorem dX3_combine_189 : decode cX3_combine 189 = .ok (.land, 1) := by decide +kernel
theorem dX3_combine_190 : decode cX3_combine 190 = .ok (.lconst 0, 1) := by decide +kernel
theorem dX3_combine_191 : decode cX3_combine 191 = .ok (.lcmp, 1) := by decide +kernel
theorem dX3_combine_192 : decode cX3_combine 192 = .ok (.ifCond .ne 7, 3) := by decide +kernel
theorem dX3_combine_195 : decode cX3_combine 195 = .ok (.iconst 1, 1) := by decide +kernel
theorem dX3_combine_196 : decode cX3_combine 196 = .ok (.goto 4, 3) := by decide +kernel
theorem dX3_combine_199 : decode cX3_combine 199 = .ok (.iconst 0, 1) := by decide +kernel
theorem dX3_combine_200 : decode cX3_combine 200 = .ok (.lload 4, 2) := by decide +kernel
theorem dX3_combine_202 : decode cX3_combine 202 = .ok (.invokevirtual 66, 3) := by decide +kernel
theorem dX3_combine_205 : decode cX3_combine 205 = .ok (.lreturn, 1) := by decide +kernel
theorem dX3_combine_206 : decode cX3_combine 206 = .ok (.aload_n 0, 1) := by decide +kernel
theorem dX3_combine_207 : decode cX3_combine 207 = .ok (.lload_n 2, 1) := by decide +kernel
theorem dX3_combine_208 : decode cX3_combine 208 = .ok (.lconst 0, 1) := by decide +kernel
theorem dX3_combine_209 : decode cX3_combine 209 = .ok (.lcmp, 1) := by decide +kernel
theorem dX3_combine_210 : decode cX3_combine 210 = .ok (.ifCond .ne 7, 3) := by decide +kernel
theorem dX3_combine_213 : decode cX3_combine 213 = .ok (.iconst 1, 1) := by decide +kernel
theorem dX3_combine_214 : decode cX3_combine 214 = .ok (.goto 4, 3) := by decide +kernel
theorem dX3_combine_217 : decode cX3_combine 217 = .ok (.iconst 0, 1) := by decide +kernel
theorem dX3_combine_218 : decode cX3_combine 218 = .ok (.lload 4, 2) := by decide +kernel
theorem dX3_combine_220 : decode cX3_combine 220 = .ok (.invokevirtual 66, 3) := by decide +kernel
theorem dX3_combine_223 : decode cX3_combine 223 = .ok (.lreturn, 1) := by decide +kernel
theorem dX3_combine_224 : decode cX3_combine 224 = .ok (.aload_n 0, 1) := by decide +kernel
theorem dX3_combine_225 : decode cX3_combine 225 = .ok (.lload_n 2, 1) := by decide +kernel
theorem dX3_combine_226 : decode cX3_combine 226 = .ok (.lconst 0, 1) := by decide +kernel
theorem dX3_combine_227 : decode cX3_combine 227 = .ok (.lcmp, 1) := by decide +kernel
theorem dX3_combine_228 : decode cX3_combine 228 = .ok (.ifCond .eq 7, 3) := by decide +kernel
theorem dX3_combine_231 : decode cX3_combine 231 = .ok (.iconst 1, 1) := by decide +kernel
theorem dX3_combine_232 : decode cX3_combine 232 = .ok (.goto 4, 3) := by decide +kernel
theorem dX3_combine_235 : decode cX3_combine 235 = .ok (.iconst 0, 1) := by decide +kernel
theorem dX3_combine_236 : decode cX3_combine 236 = .ok (.lload 4, 2) := by decide +kernel
theorem dX3_combine_238 : decode cX3_combine 238 = .ok (.invokevirtual 66, 3) := by decide +kernel
theorem dX3_combine_241 : decode cX3_combine 241 = .ok (.lreturn, 1) := by decide +kernel
theorem dX3_combine_242 : decode cX3_combine 242 = .ok (.aload_n 0, 1) := by decide +kernel
theorem dX3_combine_243 : decode cX3_combine 243 = .ok (.lload_n 2, 1) := by decide +kernel
theorem dX3_combine_244 : decode cX3_combine 244 = .ok (.lconst 0, 1) := by decide +kernel
theorem dX3_combine_245 : decode cX3_combine 245 = .ok (.lcmp, 1) := by decide +kernel
theorem dX3_combine_246 : decode cX3_combine 246 = .ok (.ifCond .ge 7, 3) := by decide +kernel
theorem dX3_combine_249 : decode cX3_combine 249 = .ok (.iconst 1, 1) := by decide +kernel
theorem dX3_combine_250 : decode cX3_combine 250 = .ok (.goto 4, 3) := by decide +kernel
theorem dX3_combine_253 : decode cX3_combine 253 = .ok (.iconst 0, 1) := by decide +kernel
theorem dX3_combine_254 : decode cX3_combine 254 = .ok (.lload 4, 2) := by decide +kernel
theorem dX3_combine_256 : decode cX3_combine 256 = .ok (.invokevirtual 66, 3) := by decide +kernel
theorem dX3_combine_259 : decode cX3_combine 259 = .ok (.lreturn, 1) := by decide +kernel
theorem dX3_combine_260 : decode cX3_combine 260 = .ok (.aload_n 0, 1) := by decide +kernel
theorem dX3_combine_261 : decode cX3_combine 261 = .ok (.lload_n 2, 1) := by decide +kernel
theorem dX3_combine_262 : decode cX3_combine 262 = .ok (.lconst 0, 1) := by decide +kernel
theorem dX3_combine_263 : decode cX3_combine 263 = .ok (.lcmp, 1) := by decide +kernel
theorem dX3_combine_264 : decode cX3_combine 264 = .ok (.ifCond .lt 7, 3) := by decide +kernel
theorem dX3_combine_267 : decode cX3_combine 267 = .ok (.iconst 1, 1) := by decide +kernel
theorem dX3_combine_268 : decode cX3_combine 268 = .ok (.goto 4, 3) := by decide +kernel
theorem dX3_combine_271 : decode cX3_combine 271 = .ok (.iconst 0, 1) := by decide +kernel
theorem dX3_combine_272 : decode cX3_combine 272 = .ok (.lload 4, 2) := by decide +kernel
theorem dX3_combine_274 : decode cX3_combine 274 = .ok (.invokevirtual 66, 3) := by decide +kernel
theorem dX3_combine_277 : decode cX3_combine 277 = .ok (.lreturn, 1) := by decide +kernel
theorem dX3_combine_278 : decode cX3_combine 278 = .ok (.aload_n 0, 1) := by decide +kernel
theorem dX3_combine_279 : decode cX3_combine 279 = .ok (.lload_n 2, 1) := by decide +kernel
theorem dX3_combine_280 : decode cX3_combine 280 = .ok (.lconst 0, 1) := by decide +kernel
theorem dX3_combine_281 : decode cX3_combine 281 = .ok (.lcmp, 1) := by decide +kernel
theorem dX3_combine_282 : decode cX3_combine 282 = .ok (.ifCond .gt 7, 3) := by decide +kernel
theorem dX3_combine_285 : decode cX3_combine 285 = .ok (.iconst 1, 1) := by decide +kernel
theorem dX3_combine_286 : decode cX3_combine 286 = .ok (.goto 4, 3) := by decide +kernel
theorem dX3_combine_289 : decode cX3_combine 289 = .ok (.iconst 0, 1) := by decide +kernel
theorem dX3_combine_290 : decode cX3_combine 290 = .ok (.lload 4, 2) := by decide +kernel
theorem dX3_combine_292 : decode cX3_combine 292 = .ok (.invokevirtual 66, 3) := by decide +kernel
theorem dX3_combine_295 : decode cX3_combine 295 = .ok (.lreturn, 1) := by decide +kernel
theorem dX3_combine_296 : decode cX3_combine 296 = .ok (.aload_n 0, 1) := by decide +kernel
theorem dX3_combine_297 : decode cX3_combine 297 = .ok (.lload_n 2, 1) := by decide +kernel
theorem dX3_combine_298 : decode cX3_combine 298 = .ok (.lconst 0, 1) := by decide +kernel
theorem dX3_combine_299 : decode cX3_combine 299 = .ok (.lcmp, 1) := by decide +kernel
theorem dX3_combine_300 : decode cX3_combine 300 = .ok (.ifCond .le 7, 3) := by decide +kernel
theorem dX3_combine_303 : decode cX3_combine 303 = .ok (.iconst 1, 1) := by decide +kernel
theorem dX3_combine_304 : decode cX3_combine 304 = .ok (.goto 4, 3) := by decide +kernel
theorem dX3_combine_307 : decode cX3_combine 307 = .ok (.iconst 0, 1) := by decide +kernel
theorem dX3_combine_308 : decode cX3_combine 308 = .ok (.lload 4, 2) := by decide +kernel
theorem dX3_combine_310 : decode cX3_combine 310 = .ok (.invokevirtual 66, 3) := by decide +kernel
theorem dX3_combine_313 : decode cX3_combine 313 = .ok (.lreturn, 1) := by decide +kernel
theorem dX3_combine_314 : decode cX3_combine 314 = .ok (.aload_n 0, 1) := by decide +kernel
theorem dX3_combine_315 : decode cX3_combine 315 = .ok (.iconst 0, 1) := by decide +kernel
theorem dX3_combine_316 : decode cX3_combine 316 = .ok (.putfield 7, 3) := by decide +kernel
theorem dX3_combine_319 : decode cX3_combine 319 = .ok (.lconst 0, 1) := by decide +kernel
theorem dX3_combine_320 : decode cX3_combine 320 = .ok (.lreturn, 1) := by decide +kernel
theorem dX3_onlyIf_0 : decode cX3_onlyIf 0 = .ok (.aload_n 0, 1) := by decide +kernel
theorem dX3_onlyIf_1 : decode cX3_onlyIf 1 = .ok (.iload_n 1, 1) := by decide +kernel
theorem dX3_onlyIf_2 : decode cX3_onlyIf 2 = .ok (.putfield 13, 3) := by decide +kernel
theorem dX3_onlyIf_5 : decode cX3_onlyIf 5 = .ok (.lload_n 2, 1) := by decide +kernel
theorem dX3_onlyIf_6 : decode cX3_onlyIf 6 = .ok (.lreturn, 1) := by decide +kernel
theorem dX3_shift_0 : decode cX3_shift 0 = .ok (.lload 4, 2) := by decide +kernel
theorem dX3_shift_2 : decode cX3_shift 2 = .ok (.l2i, 1) := by decide +kernel
theorem dX3_shift_3 : decode cX3_shift 3 = .ok (.bipush 63, 2) := by decide +kernel
theorem dX3_shift_5 : decode cX3_shift 5 = .ok (.iand, 1) := by decide +kernel
theorem dX3_shift_6 : decode cX3_shift 6 = .ok (.istore 6, 2) := by decide +kernel
theorem dX3_shift_8 : decode cX3_shift 8 = .ok (.iload_n 1, 1) := by decide +kernel
theorem dX3_shift_9 : decode cX3_shift 9 = .ok (.tableswitch 102 48 60 #[67, 79, 102, 102, 87, 102, 102, 102, 102, 92, 102, 102, 97], 67) := by decide +kernel
theorem dX3_shift_76 : decode cX3_shift 76 = .ok (.lload_n 2, 1) := by decide +kernel
theorem dX3_shift_77 : decode cX3_shift 77 = .ok (.lload 4, 2) := by decide +kernel
theorem dX3_shift_79 : decode cX3_shift 79 = .ok (.invokestatic 69, 3) := by decide +kernel
theorem dX3_shift_82 : decode cX3_shift 82 = .ok (.ldc2_w 64, 3) := by decide +kernel
theorem dX3_shift_85 : decode cX3_shift 85 = .ok (.lxor, 1) := by decide +kernel
theorem dX3_shift_86 : decode cX3_shift 86 = .ok (.land, 1) := by decide +kernel
theorem dX3_shift_87 : decode cX3_shift 87 = .ok (.lreturn, 1) := by decide +kernel
theorem dX3_shift_88 : decode cX3_shift 88 = .ok (.lload_n 2, 1) := by decide +kernel
theorem dX3_shift_89 : decode cX3_shift 89 = .ok (.lload 4, 2) := by decide +kernel
theorem dX3_shift_91 : decode cX3_shift 91 = .ok (.invokestatic 69, 3) := by decide +kernel
theorem dX3_shift_94 : decode cX3_shift 94 = .ok (.land, 1) := by decide +kernel
theorem dX3_shift_95 : decode cX3_shift 95 = .ok (.lreturn, 1) := by decide +kernel
theorem dX3_shift_96 : decode cX3_shift 96 = .ok (.lload_n 2, 1) := by decide +kernel
theorem dX3_shift_97 : decode cX3_shift 97 = .ok (.iload 6, 2) := by decide +kernel
theorem dX3_shift_99 : decode cX3_shift 99 = .ok (.lushr, 1) := by decide +kernel
theorem dX3_shift_100 : decode cX3_shift 100 = .ok (.lreturn, 1) := by decide +kernel
theorem dX3_shift_101 : decode cX3_shift 101 = .ok (.lload_n 2, 1) := by decide +kernel
theorem dX3_shift_102 : decode cX3_shift 102 = .ok (.iload 6, 2) := by decide +kernel
theorem dX3_shift_104 : decode cX3_shift 104 = .ok (.lshl, 1) := by decide +kernel
theorem dX3_shift_105 : decode cX3_shift 105 = .ok (.lreturn, 1) := by decide +kernel
theorem dX3_shift_106 : decode cX3_shift 106 = .ok (.lload_n 2, 1) := by decide +kernel
theorem dX3_shift_107 : decode cX3_shift 107 = .ok (.iload 6, 2) := by decide +kernel
theorem dX3_shift_109 : decode cX3_shift 109 = .ok (.lshr, 1) := by decide +kernel
theorem dX3_shift_110 : decode cX3_shift 110 = .ok (.lreturn, 1) := by decide +kernel
theorem dX3_shift_111 : decode cX3_shift 111 = .ok (.bipush 8, 2) := by decide +kernel
theorem dX3_shift_113 : decode cX3_shift 113 = .ok (.lload 4, 2) := by decide +kernel
theorem dX3_shift_115 : decode cX3_shift 115 = .ok (.l2i, 1) := by decide +kernel
theorem dX3_shift_116 : decode cX3_shift 116 = .ok (.bipush 7, 2) := by decide +kernel
theorem dX3_shift_118 : decode cX3_shift 118 = .ok (.iand, 1) := by decide +kernel
theorem dX3_shift_119 : decode cX3_shift 119 = .ok (.imul, 1) := by decide +kernel
theorem dX3_shift_120 : decode cX3_shift 120 = .ok (.istore 7, 2) := by decide +kernel
theorem dX3_shift_122 : decode cX3_shift 122 = .ok (.ldc2_w 64, 3) := by decide +kernel
theorem dX3_shift_125 : decode cX3_shift 125 = .ok (.bipush 64, 2) := by decide +kernel
theorem dX3_shift_127 : decode cX3_shift 127 = .ok (.bipush 8, 2) := by decide +kernel
theorem dX3_shift_129 : decode cX3_shift 129 = .ok (.iload_n 1, 1) := by decide +kernel
theorem dX3_shift_130 : decode cX3_shift 130 = .ok (.iconst 4, 1) := by decide +kernel
theorem dX3_shift_131 : decode cX3_shift 131 = .ok (.ishr, 1) := by decide +kernel
theorem dX3_shift_132 : decode cX3_shift 132 = .ok (.iconst 3, 1) := by decide +kernel
theorem dX3_shift_133 : decode cX3_shift 133 = .ok (.iand, 1) := by decide +kernel
theorem dX3_shift_134 : decode cX3_shift 134 = .ok (.ishl, 1) := by decide +kernel
theorem dX3_shift_135 : decode cX3_shift 135 = .ok (.isub, 1) := by decide +kernel
theorem dX3_shift_136 : decode cX3_shift 136 = .ok (.lushr, 1) := by decide +kernel
theorem dX3_shift_137 : decode cX3_shift 137 = .ok (.lstore 8, 2) := by decide +kernel
theorem dX3_shift_139 : decode cX3_shift 139 = .ok (.iload_n 1, 1) := by decide +kernel
theorem dX3_shift_140 : decode cX3_shift 140 = .ok (.bipush 64, 2) := by decide +kernel
theorem dX3_shift_142 : decode cX3_shift 142 = .ok (.iand, 1) := by decide +kernel
theorem dX3_shift_143 : decode cX3_shift 143 = .ok (.ifCond .ne 16, 3) := by decide +kernel
theorem dX3_shift_146 : decode cX3_shift 146 = .ok (.aload_n 0, 1) := by decide +kernel
theorem dX3_shift_147 : decode cX3_shift 147 = .ok (.iload_n 1, 1) := by decide +kernel
theorem dX3_shift_148 : decode cX3_shift 148 = .ok (.lload_n 2, 1) := by decide +kernel
theorem dX3_shift_149 : decode cX3_shift 149 = .ok (.iload 7, 2) := by decide +kernel
theorem dX3_shift_151 : decode cX3_shift 151 = .ok (.lload 8, 2) := by decide +kernel
theorem dX3_shift_153 : decode cX3_shift 153 = .ok (.invokevirtual 72, 3) := by decide +kernel
theorem dX3_shift_156 : decode cX3_shift 156 = .ok (.goto 13, 3) := by decide +kernel
theorem dX3_shift_159 : decode cX3_shift 159 = .ok (.aload_n 0, 1) := by decide +kernel
theorem dX3_shift_160 : decode cX3_shift 160 = .ok (.iload_n 1, 1) := by decide +kernel
theorem dX3_shift_161 : decode cX3_shift 161 = .ok (.lload_n 2, 1) := by decide +kernel
theorem dX3_shift_162 : decode cX3_shift 162 = .ok (.iload 7, 2) := by decide +kernel
theorem dX3_shift_164 : decode cX3_shift 164 = .ok (.lload 8, 2) := by decide +kernel
theorem dX3_shift_166 : decode cX3_shift 166 = .ok (.invokevirtual 76, 3) := by decide +kernel
theorem dX3_shift_169 : decode cX3_shift 169 = .ok (.lreturn, 1) := by decide +kernel
theorem dX3_bytesOf_0 : decode cX3_bytesOf 0 = .ok (.lconst 0, 1) := by decide +kernel
theorem dX3_bytesOf_1 : decode cX3_bytesOf 1 = .ok (.lstore_n 2, 1) := by decide +kernel
theorem dX3_bytesOf_2 : decode cX3_bytesOf 2 = .ok (.iconst 0, 1) := by decide +kernel
theorem dX3_bytesOf_3 : decode cX3_bytesOf 3 = .ok (.istore 4, 2) := by decide +kernel
theorem dX3_bytesOf_5 : decode cX3_bytesOf 5 = .ok (.iload 4, 2) := by decide +kernel
theorem dX3_bytesOf_7 : decode cX3_bytesOf 7 = .ok (.bipush 8, 2) := by decide +kernel
theorem dX3_bytesOf_9 : decode cX3_bytesOf 9 = .ok (.if_icmp .ge 32, 3) := by decide +kernel
theorem dX3_bytesOf_12 : decode cX3_bytesOf 12 = .ok (.lload_n 0, 1) := by decide +kernel
theorem dX3_bytesOf_13 : decode cX3_bytesOf 13 = .ok (.iload 4, 2) := by decide +kernel
theorem dX3_bytesOf_15 : decode cX3_bytesOf 15 = .ok (.lshr, 1) := by decide +kernel
theorem dX3_bytesOf_16 : decode cX3_bytesOf 16 = .ok (.lconst 1, 1) := by decide +kernel
theorem dX3_bytesOf_17 : decode cX3_bytesOf 17 = .ok (.land, 1) := by decide +kernel
theorem dX3_bytesOf_18 : decode cX3_bytesOf 18 = .ok (.lconst 0, 1) := by decide +kernel
theorem dX3_bytesOf_19 : decode cX3_bytesOf 19 = .ok (.lcmp, 1) := by decide +kernel
theorem dX3_bytesOf_20 : decode cX3_bytesOf 20 = .ok (.ifCond .eq 15, 3) := by decide +kernel
theorem dX3_bytesOf_23 : decode cX3_bytesOf 23 = .ok (.lload_n 2, 1) := by decide +kernel
theorem dX3_bytesOf_24 : decode cX3_bytesOf 24 = .ok (.ldc2_w 62, 3) := by decide +kernel
theorem dX3_bytesOf_27 : decode cX3_bytesOf 27 = .ok (.bipush 8, 2) := by decide +kernel
theorem dX3_bytesOf_29 : decode cX3_bytesOf 29 = .ok (.iload 4, 2) := by decide +kernel
theorem dX3_bytesOf_31 : decode cX3_bytesOf 31 = .ok (.imul, 1) := by decide +kernel
theorem dX3_bytesOf_32 : decode cX3_bytesOf 32 = .ok (.lshl, 1) := by decide +kernel
theorem dX3_bytesOf_33 : decode cX3_bytesOf 33 = .ok (.lor, 1) := by decide +kernel
theorem dX3_bytesOf_34 : decode cX3_bytesOf 34 = .ok (.lstore_n 2, 1) := by decide +kernel
theorem dX3_bytesOf_35 : decode cX3_bytesOf 35 = .ok (.iinc 4 1, 3) := by decide +kernel
theorem dX3_bytesOf_38 : decode cX3_bytesOf 38 = .ok (.goto (-33), 3) := by decide +kernel
theorem dX3_bytesOf_41 : decode cX3_bytesOf 41 = .ok (.lload_n 2, 1) := by decide +kernel
theorem dX3_bytesOf_42 : decode cX3_bytesOf 42 = .ok (.lreturn, 1) := by decide +kernel
theorem dX3_lowPart_0 : decode cX3_lowPart 0 = .ok (.iload_n 1, 1) := by decide +kernel
theorem dX3_lowPart_1 : decode cX3_lowPart 1 = .ok (.bipush 15, 2) := by decide +kernel
theorem dX3_lowPart_3 : decode cX3_lowPart 3 = .ok (.iand, 1) := by decide +kernel
theorem dX3_lowPart_4 : decode cX3_lowPart 4 = .ok (.lookupswitch 64 #[(2, 52), (6, 36), (11, 44)], 36) := by decide +kernel
theorem dX3_lowPart_40 : decode cX3_lowPart 40 = .ok (.lload_n 2, 1) := by decide +kernel
theorem dX3_lowPart_41 : decode cX3_lowPart 41 = .ok (.iload 4, 2) := by decide +kernel
theorem dX3_lowPart_43 : decode cX3_lowPart 43 = .ok (.lushr, 1) := by decide +kernel
theorem dX3_lowPart_44 : decode cX3_lowPart 44 = .ok (.lload 5, 2) := by decide +kernel
theorem dX3_lowPart_46 : decode cX3_lowPart 46 = .ok (.land, 1) := by decide +kernel
theorem dX3_lowPart_47 : decode cX3_lowPart 47 = .ok (.lreturn, 1) := by decide +kernel
theorem dX3_lowPart_48 : decode cX3_lowPart 48 = .ok (.lload_n 2, 1) := by decide +kernel
theorem dX3_lowPart_49 : decode cX3_lowPart 49 = .ok (.lload 5, 2) := by decide +kernel
theorem dX3_lowPart_51 : decode cX3_lowPart 51 = .ok (.land, 1) := by decide +kernel
theorem dX3_lowPart_52 : decode cX3_lowPart 52 = .ok (.iload 4, 2) := by decide +kernel
theorem dX3_lowPart_54 : decode cX3_lowPart 54 = .ok (.lshl, 1) := by decide +kernel
theorem dX3_lowPart_55 : decode cX3_lowPart 55 = .ok (.lreturn, 1) := by decide +kernel
theorem dX3_lowPart_56 : decode cX3_lowPart 56 = .ok (.lload_n 2, 1) := by decide +kernel
theorem dX3_lowPart_57 : decode cX3_lowPart 57 = .ok (.lload 5, 2) := by decide +kernel
theorem dX3_lowPart_59 : decode cX3_lowPart 59 = .ok (.iload 4, 2) := by decide +kernel
theorem dX3_lowPart_61 : decode cX3_lowPart 61 = .ok (.lshl, 1) := by decide +kernel
theorem dX3_lowPart_62 : decode cX3_lowPart 62 = .ok (.ldc2_w 64, 3) := by decide +kernel
theorem dX3_lowPart_65 : decode cX3_lowPart 65 = .ok (.lxor, 1) := by decide +kernel
theorem dX3_lowPart_66 : decode cX3_lowPart 66 = .ok (.land, 1) := by decide +kernel
theorem dX3_lowPart_67 : decode cX3_lowPart 67 = .ok (.lreturn, 1) := by decide +kernel
theorem dX3_lowPart_68 : decode cX3_lowPart 68 = .ok (.aload_n 0, 1) := by decide +kernel
theorem dX3_lowPart_69 : decode cX3_lowPart 69 = .ok (.iconst 0, 1) := by decide +kernel
theorem dX3_lowPart_70 : decode cX3_lowPart 70 = .ok (.putfield 7, 3) := by decide +kernel
theorem dX3_lowPart_73 : decode cX3_lowPart 73 = .ok (.lconst 0, 1) := by decide +kernel
theorem dX3_lowPart_74 : decode cX3_lowPart 74 = .ok (.lreturn, 1) := by decide +kernel
theorem dX3_highPart_0 : decode cX3_highPart 0 = .ok (.iload_n 1, 1) := by decide +kernel
theorem dX3_highPart_1 : decode cX3_highPart 1 = .ok (.bipush 48, 2) := by decide +kernel
theorem dX3_highPart_3 : decode cX3_highPart 3 = .ok (.iand, 1) := by decide +kernel
theorem dX3_highPart_4 : decode cX3_highPart 4 = .ok (.ifCond .ne 10, 3) := by decide +kernel
theorem dX3_highPart_7 : decode cX3_highPart 7 = .ok (.aload_n 0, 1) := by decide +kernel
theorem dX3_highPart_8 : decode cX3_highPart 8 = .ok (.iconst 0, 1) := by decide +kernel
theorem dX3_highPart_9 : decode cX3_highPart 9 = .ok (.putfield 7, 3) := by decide +kernel
theorem dX3_highPart_12 : decode cX3_highPart 12 = .ok (.lconst 0, 1) := by decide +kernel
theorem dX3_highPart_13 : decode cX3_highPart 13 = .ok (.lreturn, 1) := by decide +kernel
theorem dX3_highPart_14 : decode cX3_highPart 14 = .ok (.iload_n 1, 1) := by decide +kernel
theorem dX3_highPart_15 : decode cX3_highPart 15 = .ok (.bipush 15, 2) := by decide +kernel
theorem dX3_highPart_17 : decode cX3_highPart 17 = .ok (.iand, 1) := by decide +kernel
theorem dX3_highPart_18 : decode cX3_highPart 18 = .ok (.lookupswitch 98 #[(2, 74), (7, 54), (10, 34)], 34) := by decide +kernel
theorem dX3_highPart_52 : decode cX3_highPart 52 = .ok (.iload 4, 2) := by decide +kernel
theorem dX3_highPart_54 : decode cX3_highPart 54 = .ok (.ifCond .ne 7, 3) := by decide +kernel
theorem dX3_highPart_57 : decode cX3_highPart 57 = .ok (.lload_n 2, 1) := by decide +kernel
theorem dX3_highPart_58 : decode cX3_highPart 58 = .ok (.goto 10, 3) := by decide +kernel
theorem dX3_highPart_61 : decode cX3_highPart 61 = .ok (.lload_n 2, 1) := by decide +kernel
theorem dX3_highPart_62 : decode cX3_highPart 62 = .ok (.bipush 64, 2) := by decide +kernel
theorem dX3_highPart_64 : decode cX3_highPart 64 = .ok (.iload 4, 2) := by decide +kernel
theorem dX3_highPart_66 : decode cX3_highPart 66 = .ok (.isub, 1) := by decide +kernel
theorem dX3_highPart_67 : decode cX3_highPart 67 = .ok (.lshl, 1) := by decide +kernel
theorem dX3_highPart_68 : decode cX3_highPart 68 = .ok (.lload 5, 2) := by decide +kernel
theorem dX3_highPart_70 : decode cX3_highPart 70 = .ok (.land, 1) := by decide +kernel
theorem dX3_highPart_71 : decode cX3_highPart 71 = .ok (.lreturn, 1) := by decide +kernel
theorem dX3_highPart_72 : decode cX3_highPart 72 = .ok (.iload 4, 2) := by decide +kernel
theorem dX3_highPart_74 : decode cX3_highPart 74 = .ok (.ifCond .ne 7, 3) := by decide +kernel
theorem dX3_highPart_77 : decode cX3_highPart 77 = .ok (.lconst 0, 1) := by decide +kernel
theorem dX3_highPart_78 : decode cX3_highPart 78 = .ok (.goto 13, 3) := by decide +kernel
theorem dX3_highPart_81 : decode cX3_highPart 81 = .ok (.lload_n 2, 1) := by decide +kernel
theorem dX3_highPart_82 : decode cX3_highPart 82 = .ok (.lload 5, 2) := by decide +kernel
theorem dX3_highPart_84 : decode cX3_highPart 84 = .ok (.land, 1) := by decide +kernel
theorem dX3_highPart_85 : decode cX3_highPart 85 = .ok (.bipush 64, 2) := by decide +kernel
theorem dX3_highPart_87 : decode cX3_highPart 87 = .ok (.iload 4, 2) := by decide +kernel
theorem dX3_highPart_89 : decode cX3_highPart 89 = .ok (.isub, 1) := by decide +kernel
theorem dX3_highPart_90 : decode cX3_highPart 90 = .ok (.lushr, 1) := by decide +kernel
theorem dX3_highPart_91 : decode cX3_highPart 91 = .ok (.lreturn, 1) := by decide +kernel
theorem dX3_highPart_92 : decode cX3_highPart 92 = .ok (.iload 4, 2) := by decide +kernel
theorem dX3_highPart_94 : decode cX3_highPart 94 = .ok (.ifCond .ne 7, 3) := by decide +kernel
theorem dX3_highPart_97 : decode cX3_highPart 97 = .ok (.lload_n 2, 1) := by decide +kernel
theorem dX3_highPart_98 : decode cX3_highPart 98 = .ok (.goto 17, 3) := by decide +kernel
theorem dX3_highPart_101 : decode cX3_highPart 101 = .ok (.lload_n 2, 1) := by decide +kernel
theorem dX3_highPart_102 : decode cX3_highPart 102 = .ok (.lload 5, 2) := by decide +kernel
theorem dX3_highPart_104 : decode cX3_highPart 104 = .ok (.bipush 64, 2) := by decide +kernel
theorem dX3_highPart_106 : decode cX3_highPart 106 = .ok (.iload 4, 2) := by decide +kernel
theorem dX3_highPart_108 : decode cX3_highPart 108 = .ok (.isub, 1) := by decide +kernel
theorem dX3_highPart_109 : decode cX3_highPart 109 = .ok (.lushr, 1) := by decide +kernel
theorem dX3_highPart_110 : decode cX3_highPart 110 = .ok (.ldc2_w 64, 3) := by decide +kernel
theorem dX3_highPart_113 : decode cX3_highPart 113 = .ok (.lxor, 1) := by decide +kernel
theorem dX3_highPart_114 : decode cX3_highPart 114 = .ok (.land, 1) := by decide +kernel
theorem dX3_highPart_115 : decode cX3_highPart 115 = .ok (.lreturn, 1) := by decide +kernel
theorem dX3_highPart_116 : decode cX3_highPart 116 = .ok (.aload_n 0, 1) := by decide +kernel
theorem dX3_highPart_117 : decode cX3_highPart 117 = .ok (.iconst 0, 1) := by decide +kernel
theorem dX3_highPart_118 : decode cX3_highPart 118 = .ok (.putfield 7, 3) := by decide +kernel
theorem dX3_highPart_121 : decode cX3_highPart 121 = .ok (.lconst 0, 1) := by decide +kernel
theorem dX3_highPart_122 : decode cX3_highPart 122 = .ok (.lreturn, 1) := by decide +kernel
theorem dX3_multiply_0 : decode cX3_multiply 0 = .ok (.iload_n 1, 1) := by decide +kernel
theorem dX3_multiply_1 : decode cX3_multiply 1 = .ok (.lookupswitch 146 #[(0, 51), (32, 59), (48, 64), (64, 71), (96, 109)], 51) := by decide +kernel
theorem dX3_multiply_52 : decode cX3_multiply 52 = .ok (.lload_n 2, 1) := by decide +kernel
theorem dX3_multiply_53 : decode cX3_multiply 53 = .ok (.lload 4, 2) := by decide +kernel
theorem dX3_multiply_55 : decode cX3_multiply 55 = .ok (.lmul, 1) := by decide +kernel
theorem dX3_multiply_56 : decode cX3_multiply 56 = .ok (.invokestatic 38, 3) := by decide +kernel
theorem dX3_multiply_59 : decode cX3_multiply 59 = .ok (.lreturn, 1) := by decide +kernel
theorem dX3_multiply_60 : decode cX3_multiply 60 = .ok (.lload_n 2, 1) := by decide +kernel
theorem dX3_multiply_61 : decode cX3_multiply 61 = .ok (.lload 4, 2) := by decide +kernel
theorem dX3_multiply_63 : decode cX3_multiply 63 = .ok (.lmul, 1) := by decide +kernel
theorem dX3_multiply_64 : decode cX3_multiply 64 = .ok (.lreturn, 1) := by decide +kernel
theorem dX3_multiply_65 : decode cX3_multiply 65 = .ok (.lload_n 2, 1) := by decide +kernel
theorem dX3_multiply_66 : decode cX3_multiply 66 = .ok (.lload 4, 2) := by decide +kernel
theorem dX3_multiply_68 : decode cX3_multiply 68 = .ok (.invokestatic 79, 3) := by decide +kernel
theorem dX3_multiply_71 : decode cX3_multiply 71 = .ok (.lreturn, 1) := by decide +kernel
theorem dX3_multiply_72 : decode cX3_multiply 72 = .ok (.aload_n 0, 1) := by decide +kernel
theorem dX3_multiply_73 : decode cX3_multiply 73 = .ok (.lload_n 2, 1) := by decide +kernel
theorem dX3_multiply_74 : decode cX3_multiply 74 = .ok (.lload 4, 2) := by decide +kernel
theorem dX3_multiply_76 : decode cX3_multiply 76 = .ok (.lmul, 1) := by decide +kernel
theorem dX3_multiply_77 : decode cX3_multiply 77 = .ok (.invokestatic 38, 3) := by decide +kernel
theorem dX3_multiply_80 : decode cX3_multiply 80 = .ok (.lload_n 2, 1) := by decide +kernel
theorem dX3_multiply_81 : decode cX3_multiply 81 = .ok (.invokestatic 38, 3) := by decide +kernel
theorem dX3_multiply_84 : decode cX3_multiply 84 = .ok (.lload 4, 2) := by decide +kernel
theorem dX3_multiply_86 : decode cX3_multiply 86 = .ok (.invokestatic 38, 3) := by decide +kernel
theorem dX3_multiply_89 : decode cX3_multiply 89 = .ok (.lmul, 1) := by decide +kernel
theorem dX3_multiply_90 : decode cX3_multiply 90 = .ok (.lcmp, 1) := by decide +kernel
theorem dX3_multiply_91 : decode cX3_multiply 91 = .ok (.ifCond .eq 7, 3) := by decide +kernel
theorem dX3_multiply_94 : decode cX3_multiply 94 = .ok (.iconst 1, 1) := by decide +kernel
theorem dX3_multiply_95 : decode cX3_multiply 95 = .ok (.goto 4, 3) := by decide +kernel
theorem dX3_multiply_98 : decode cX3_multiply 98 = .ok (.iconst 0, 1) := by decide +kernel
theorem dX3_multiply_99 : decode cX3_multiply 99 = .ok (.lload_n 2, 1) := by decide +kernel
theorem dX3_multiply_100 : decode cX3_multiply 100 = .ok (.lload 4, 2) := by decide +kernel
theorem dX3_multiply_102 : decode cX3_multiply 102 = .ok (.lmul, 1) := by decide +kernel
theorem dX3_multiply_103 : decode cX3_multiply 103 = .ok (.invokestatic 38, 3) := by decide +kernel
theorem dX3_multiply_106 : decode cX3_multiply 106 = .ok (.invokevirtual 46, 3) := by decide +kernel
theorem dX3_multiply_109 : decode cX3_multiply 109 = .ok (.lreturn, 1) := by decide +kernel
theorem dX3_multiply_110 : decode cX3_multiply 110 = .ok (.aload_n 0, 1) := by decide +kernel
theorem dX3_multiply_111 : decode cX3_multiply 111 = .ok (.lload_n 2, 1) := by decide +kernel
theorem dX3_multiply_112 : decode cX3_multiply 112 = .ok (.lload 4, 2) := by decide +kernel
theorem dX3_multiply_114 : decode cX3_multiply 114 = .ok (.invokestatic 79, 3) := by decide +kernel
theorem dX3_multiply_117 : decode cX3_multiply 117 = .ok (.lload_n 2, 1) := by decide +kernel
theorem dX3_multiply_118 : decode cX3_multiply 118 = .ok (.lload 4, 2) := by decide +kernel
theorem dX3_multiply_120 : decode cX3_multiply 120 = .ok (.invokestatic 82, 3) := by decide +kernel
theorem dX3_multiply_123 : decode cX3_multiply 123 = .ok (.lload_n 2, 1) := by decide +kernel
theorem dX3_multiply_124 : decode cX3_multiply 124 = .ok (.lload 4, 2) := by decide +kernel
theorem dX3_multiply_126 : decode cX3_multiply 126 = .ok (.lmul, 1) := by decide +kernel
theorem dX3_multiply_127 : decode cX3_multiply 127 = .ok (.bipush 63, 2) := by decide +kernel
theorem dX3_multiply_129 : decode cX3_multiply 129 = .ok (.lshr, 1) := by decide +kernel
theorem dX3_multiply_130 : decode cX3_multiply 130 = .ok (.lcmp, 1) := by decide +kernel
theorem dX3_multiply_131 : decode cX3_multiply 131 = .ok (.ifCond .eq 7, 3) := by decide +kernel
theorem dX3_multiply_134 : decode cX3_multiply 134 = .ok (.iconst 1, 1) := by decide +kernel
theorem dX3_multiply_135 : decode cX3_multiply 135 = .ok (.goto 4, 3) := by decide +kernel
theorem dX3_multiply_138 : decode cX3_multiply 138 = .ok (.iconst 0, 1) := by decide +kernel
theorem dX3_multiply_139 : decode cX3_multiply 139 = .ok (.lload_n 2, 1) := by decide +kernel
theorem dX3_multiply_140 : decode cX3_multiply 140 = .ok (.lload 4, 2) := by decide +kernel
theorem dX3_multiply_142 : decode cX3_multiply 142 = .ok (.lmul, 1) := by decide +kernel
theorem dX3_multiply_143 : decode cX3_multiply 143 = .ok (.invokevirtual 46, 3) := by decide +kernel
theorem dX3_multiply_146 : decode cX3_multiply 146 = .ok (.lreturn, 1) := by decide +kernel
theorem dX3_multiply_147 : decode cX3_multiply 147 = .ok (.aload_n 0, 1) := by decide +kernel
theorem dX3_multiply_148 : decode cX3_multiply 148 = .ok (.iconst 0, 1) := by decide +kernel
theorem dX3_multiply_149 : decode cX3_multiply 149 = .ok (.putfield 7, 3) := by decide +kernel
theorem dX3_multiply_152 : decode cX3_multiply 152 = .ok (.lconst 0, 1) := by decide +kernel
theorem dX3_multiply_153 : decode cX3_multiply 153 = .ok (.lreturn, 1) := by decide +kernel
theorem dX3_upper_0 : decode cX3_upper 0 = .ok (.lload_n 0, 1) := by decide +kernel
theorem dX3_upper_1 : decode cX3_upper 1 = .ok (.ldc2_w 86, 3) := by decide +kernel
theorem dX3_upper_4 : decode cX3_upper 4 = .ok (.land, 1) := by decide +kernel
theorem dX3_upper_5 : decode cX3_upper 5 = .ok (.lstore 4, 2) := by decide +kernel
theorem dX3_upper_7 : decode cX3_upper 7 = .ok (.lload_n 2, 1) := by decide +kernel
theorem dX3_upper_8 : decode cX3_upper 8 = .ok (.ldc2_w 86, 3) := by decide +kernel
theorem dX3_upper_11 : decode cX3_upper 11 = .ok (.land, 1) := by decide +kernel
theorem dX3_upper_12 : decode cX3_upper 12 = .ok (.lstore 6, 2) := by decide +kernel
theorem dX3_upper_14 : decode cX3_upper 14 = .ok (.lload_n 0, 1) := by decide +kernel
theorem dX3_upper_15 : decode cX3_upper 15 = .ok (.bipush 32, 2) := by decide +kernel
theorem dX3_upper_17 : decode cX3_upper 17 = .ok (.lushr, 1) := by decide +kernel
theorem dX3_upper_18 : decode cX3_upper 18 = .ok (.lstore 8, 2) := by decide +kernel
theorem dX3_upper_20 : decode cX3_upper 20 = .ok (.lload_n 2, 1) := by decide +kernel
theorem dX3_upper_21 : decode cX3_upper 21 = .ok (.bipush 32, 2) := by decide +kernel
theorem dX3_upper_23 : decode cX3_upper 23 = .ok (.lushr, 1) := by decide +kernel
theorem dX3_upper_24 : decode cX3_upper 24 = .ok (.lstore 10, 2) := by decide +kernel
theorem dX3_upper_26 : decode cX3_upper 26 = .ok (.lload 8, 2) := by decide +kernel
theorem dX3_upper_28 : decode cX3_upper 28 = .ok (.lload 6, 2) := by decide +kernel
theorem dX3_upper_30 : decode cX3_upper 30 = .ok (.lmul, 1) := by decide +kernel
theorem dX3_upper_31 : decode cX3_upper 31 = .ok (.lload 4, 2) := by decide +kernel
theorem dX3_upper_33 : decode cX3_upper 33 = .ok (.lload 6, 2) := by decide +kernel
theorem dX3_upper_35 : decode cX3_upper 35 = .ok (.lmul, 1) := by decide +kernel
theorem dX3_upper_36 : decode cX3_upper 36 = .ok (.bipush 32, 2) := by decide +kernel
theorem dX3_upper_38 : decode cX3_upper 38 = .ok (.lushr, 1) := by decide +kernel
theorem dX3_upper_39 : decode cX3_upper 39 = .ok (.ladd, 1) := by decide +kernel
theorem dX3_upper_40 : decode cX3_upper 40 = .ok (.lstore 12, 2) := by decide +kernel
theorem dX3_upper_42 : decode cX3_upper 42 = .ok (.lload 4, 2) := by decide +kernel
theorem dX3_upper_44 : decode cX3_upper 44 = .ok (.lload 10, 2) := by decide +kernel
theorem dX3_upper_46 : decode cX3_upper 46 = .ok (.lmul, 1) := by decide +kernel
theorem dX3_upper_47 : decode cX3_upper 47 = .ok (.lload 12, 2) := by decide +kernel
theorem dX3_upper_49 : decode cX3_upper 49 = .ok (.ldc2_w 86, 3) := by decide +kernel
theorem dX3_upper_52 : decode cX3_upper 52 = .ok (.land, 1) := by decide +kernel
theorem dX3_upper_53 : decode cX3_upper 53 = .ok (.ladd, 1) := by decide +kernel
theorem dX3_upper_54 : decode cX3_upper 54 = .ok (.lstore 14, 2) := by decide +kernel
theorem dX3_upper_56 : decode cX3_upper 56 = .ok (.lload 8, 2) := by decide +kernel
theorem dX3_upper_58 : decode cX3_upper 58 = .ok (.lload 10, 2) := by decide +kernel
theorem dX3_upper_60 : decode cX3_upper 60 = .ok (.lmul, 1) := by decide +kernel
theorem dX3_upper_61 : decode cX3_upper 61 = .ok (.lload 12, 2) := by decide +kernel
theorem dX3_upper_63 : decode cX3_upper 63 = .ok (.bipush 32, 2) := by decide +kernel
theorem dX3_upper_65 : decode cX3_upper 65 = .ok (.lushr, 1) := by decide +kernel
theorem dX3_upper_66 : decode cX3_upper 66 = .ok (.ladd, 1) := by decide +kernel
theorem dX3_upper_67 : decode cX3_upper 67 = .ok (.lload 14, 2) := by decide +kernel
theorem dX3_upper_69 : decode cX3_upper 69 = .ok (.bipush 32, 2) := by decide +kernel
theorem dX3_upper_71 : decode cX3_upper 71 = .ok (.lushr, 1) := by decide +kernel
theorem dX3_upper_72 : decode cX3_upper 72 = .ok (.ladd, 1) := by decide +kernel
theorem dX3_upper_73 : decode cX3_upper 73 = .ok (.lreturn, 1) := by decide +kernel
theorem dX3_signedUpper_0 : decode cX3_signedUpper 0 = .ok (.lload_n 0, 1) := by decide +kernel
theorem dX3_signedUpper_1 : decode cX3_signedUpper 1 = .ok (.lload_n 2, 1) := by decide +kernel
theorem dX3_signedUpper_2 : decode cX3_signedUpper 2 = .ok (.lconst 0, 1) := by decide +kernel
theorem dX3_signedUpper_3 : decode cX3_signedUpper 3 = .ok (.lcmp, 1) := by decide +kernel
theorem dX3_signedUpper_4 : decode cX3_signedUpper 4 = .ok (.ifCond .ge 8, 3) := by decide +kernel
theorem dX3_signedUpper_7 : decode cX3_signedUpper 7 = .ok (.lload 4, 2) := by decide +kernel
theorem dX3_signedUpper_9 : decode cX3_signedUpper 9 = .ok (.goto 4, 3) := by decide +kernel
theorem dX3_signedUpper_12 : decode cX3_signedUpper 12 = .ok (.lconst 0, 1) := by decide +kernel
theorem dX3_signedUpper_13 : decode cX3_signedUpper 13 = .ok (.lsub, 1) := by decide +kernel
theorem dX3_signedUpper_14 : decode cX3_signedUpper 14 = .ok (.lload 4, 2) := by decide +kernel
theorem dX3_signedUpper_16 : decode cX3_signedUpper 16 = .ok (.lconst 0, 1) := by decide +kernel
theorem dX3_signedUpper_17 : decode cX3_signedUpper 17 = .ok (.lcmp, 1) := by decide +kernel
theorem dX3_signedUpper_18 : decode cX3_signedUpper 18 = .ok (.ifCond .ge 7, 3) := by decide +kernel
theorem dX3_signedUpper_21 : decode cX3_signedUpper 21 = .ok (.lload_n 2, 1) := by decide +kernel
theorem dX3_signedUpper_22 : decode cX3_signedUpper 22 = .ok (.goto 4, 3) := by decide +kernel
theorem dX3_signedUpper_25 : decode cX3_signedUpper 25 = .ok (.lconst 0, 1) := by decide +kernel
theorem dX3_signedUpper_26 : decode cX3_signedUpper 26 = .ok (.lsub, 1) := by decide +kernel
theorem dX3_signedUpper_27 : decode cX3_signedUpper 27 = .ok (.lreturn, 1) := by decide +kernel
