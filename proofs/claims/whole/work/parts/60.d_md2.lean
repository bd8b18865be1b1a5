theorem d_Md_init_274 : decode b_Md_init 274 = .ok (.getfield 7, 3) := by decide +kernel
theorem d_Md_init_277 : decode b_Md_init 277 = .ok (.iload_n 1, 1) := by decide +kernel
theorem d_Md_init_278 : decode b_Md_init 278 = .ok (.iconst 5, 1) := by decide +kernel
theorem d_Md_init_279 : decode b_Md_init 279 = .ok (.iload_n 2, 1) := by decide +kernel
theorem d_Md_init_280 : decode b_Md_init 280 = .ok (.imul, 1) := by decide +kernel
theorem d_Md_init_281 : decode b_Md_init 281 = .ok (.iadd, 1) := by decide +kernel
theorem d_Md_init_282 : decode b_Md_init 282 = .ok (.iload_n 3, 1) := by decide +kernel
theorem d_Md_init_283 : decode b_Md_init 283 = .ok (.iload_n 3, 1) := by decide +kernel
theorem d_Md_init_284 : decode b_Md_init 284 = .ok (.iconst 1, 1) := by decide +kernel
theorem d_Md_init_285 : decode b_Md_init 285 = .ok (.iadd, 1) := by decide +kernel
theorem d_Md_init_286 : decode b_Md_init 286 = .ok (.imul, 1) := by decide +kernel
theorem d_Md_init_287 : decode b_Md_init 287 = .ok (.iconst 2, 1) := by decide +kernel
theorem d_Md_init_288 : decode b_Md_init 288 = .ok (.idiv, 1) := by decide +kernel
theorem d_Md_init_289 : decode b_Md_init 289 = .ok (.bipush 64, 2) := by decide +kernel
theorem d_Md_init_291 : decode b_Md_init 291 = .ok (.irem, 1) := by decide +kernel
theorem d_Md_init_292 : decode b_Md_init 292 = .ok (.iastore, 1) := by decide +kernel
theorem d_Md_init_293 : decode b_Md_init 293 = .ok (.iconst 2, 1) := by decide +kernel
theorem d_Md_init_294 : decode b_Md_init 294 = .ok (.iload_n 1, 1) := by decide +kernel
theorem d_Md_init_295 : decode b_Md_init 295 = .ok (.imul, 1) := by decide +kernel
theorem d_Md_init_296 : decode b_Md_init 296 = .ok (.iconst 3, 1) := by decide +kernel
theorem d_Md_init_297 : decode b_Md_init 297 = .ok (.iload_n 2, 1) := by decide +kernel
theorem d_Md_init_298 : decode b_Md_init 298 = .ok (.imul, 1) := by decide +kernel
theorem d_Md_init_299 : decode b_Md_init 299 = .ok (.iadd, 1) := by decide +kernel
theorem d_Md_init_300 : decode b_Md_init 300 = .ok (.iconst 5, 1) := by decide +kernel
theorem d_Md_init_301 : decode b_Md_init 301 = .ok (.irem, 1) := by decide +kernel
theorem d_Md_init_302 : decode b_Md_init 302 = .ok (.istore 4, 2) := by decide +kernel
theorem d_Md_init_304 : decode b_Md_init 304 = .ok (.iload_n 2, 1) := by decide +kernel
theorem d_Md_init_305 : decode b_Md_init 305 = .ok (.istore_n 1, 1) := by decide +kernel
theorem d_Md_init_306 : decode b_Md_init 306 = .ok (.iload 4, 2) := by decide +kernel
theorem d_Md_init_308 : decode b_Md_init 308 = .ok (.istore_n 2, 1) := by decide +kernel
theorem d_Md_init_309 : decode b_Md_init 309 = .ok (.iinc 3 1, 3) := by decide +kernel
theorem d_Md_init_312 : decode b_Md_init 312 = .ok (.goto (-45), 3) := by decide +kernel
theorem d_Md_init_315 : decode b_Md_init 315 = .ok (.iconst 1, 1) := by decide +kernel
theorem d_Md_init_316 : decode b_Md_init 316 = .ok (.istore_n 3, 1) := by decide +kernel
theorem d_Md_init_317 : decode b_Md_init 317 = .ok (.iconst 0, 1) := by decide +kernel
theorem d_Md_init_318 : decode b_Md_init 318 = .ok (.istore 4, 2) := by decide +kernel
theorem d_Md_init_320 : decode b_Md_init 320 = .ok (.iload 4, 2) := by decide +kernel
theorem d_Md_init_322 : decode b_Md_init 322 = .ok (.sipush 168, 3) := by decide +kernel
theorem d_Md_init_325 : decode b_Md_init 325 = .ok (.if_icmp .ge 67, 3) := by decide +kernel
theorem d_Md_init_328 : decode b_Md_init 328 = .ok (.aload_n 0, 1) := by decide +kernel
theorem d_Md_init_329 : decode b_Md_init 329 = .ok (.getfield 13, 3) := by decide +kernel
theorem d_Md_init_332 : decode b_Md_init 332 = .ok (.iload 4, 2) := by decide +kernel
theorem d_Md_init_334 : decode b_Md_init 334 = .ok (.bipush 7, 2) := by decide +kernel
theorem d_Md_init_336 : decode b_Md_init 336 = .ok (.idiv, 1) := by decide +kernel
theorem d_Md_init_337 : decode b_Md_init 337 = .ok (.aload_n 0, 1) := by decide +kernel
theorem d_Md_init_338 : decode b_Md_init 338 = .ok (.getfield 13, 3) := by decide +kernel
theorem d_Md_init_341 : decode b_Md_init 341 = .ok (.iload 4, 2) := by decide +kernel
theorem d_Md_init_343 : decode b_Md_init 343 = .ok (.bipush 7, 2) := by decide +kernel
theorem d_Md_init_345 : decode b_Md_init 345 = .ok (.idiv, 1) := by decide +kernel
theorem d_Md_init_346 : decode b_Md_init 346 = .ok (.laload, 1) := by decide +kernel
theorem d_Md_init_347 : decode b_Md_init 347 = .ok (.iload_n 3, 1) := by decide +kernel
theorem d_Md_init_348 : decode b_Md_init 348 = .ok (.iconst 1, 1) := by decide +kernel
theorem d_Md_init_349 : decode b_Md_init 349 = .ok (.iand, 1) := by decide +kernel
theorem d_Md_init_350 : decode b_Md_init 350 = .ok (.i2l, 1) := by decide +kernel
theorem d_Md_init_351 : decode b_Md_init 351 = .ok (.iconst 1, 1) := by decide +kernel
theorem d_Md_init_352 : decode b_Md_init 352 = .ok (.iload 4, 2) := by decide +kernel
theorem d_Md_init_354 : decode b_Md_init 354 = .ok (.bipush 7, 2) := by decide +kernel
theorem d_Md_init_356 : decode b_Md_init 356 = .ok (.irem, 1) := by decide +kernel
theorem d_Md_init_357 : decode b_Md_init 357 = .ok (.ishl, 1) := by decide +kernel
theorem d_Md_init_358 : decode b_Md_init 358 = .ok (.iconst 1, 1) := by decide +kernel
theorem d_Md_init_359 : decode b_Md_init 359 = .ok (.isub, 1) := by decide +kernel
theorem d_Md_init_360 : decode b_Md_init 360 = .ok (.lshl, 1) := by decide +kernel
theorem d_Md_init_361 : decode b_Md_init 361 = .ok (.lor, 1) := by decide +kernel
theorem d_Md_init_362 : decode b_Md_init 362 = .ok (.lastore, 1) := by decide +kernel
theorem d_Md_init_363 : decode b_Md_init 363 = .ok (.iconst 2, 1) := by decide +kernel
theorem d_Md_init_364 : decode b_Md_init 364 = .ok (.iload_n 3, 1) := by decide +kernel
theorem d_Md_init_365 : decode b_Md_init 365 = .ok (.imul, 1) := by decide +kernel
theorem d_Md_init_366 : decode b_Md_init 366 = .ok (.sipush 255, 3) := by decide +kernel
theorem d_Md_init_369 : decode b_Md_init 369 = .ok (.if_icmp .le 13, 3) := by decide +kernel
theorem d_Md_init_372 : decode b_Md_init 372 = .ok (.iconst 2, 1) := by decide +kernel
theorem d_Md_init_373 : decode b_Md_init 373 = .ok (.iload_n 3, 1) := by decide +kernel
theorem d_Md_init_374 : decode b_Md_init 374 = .ok (.imul, 1) := by decide +kernel
theorem d_Md_init_375 : decode b_Md_init 375 = .ok (.sipush 369, 3) := by decide +kernel
theorem d_Md_init_378 : decode b_Md_init 378 = .ok (.ixor, 1) := by decide +kernel
theorem d_Md_init_379 : decode b_Md_init 379 = .ok (.goto 6, 3) := by decide +kernel
theorem d_Md_init_382 : decode b_Md_init 382 = .ok (.iconst 2, 1) := by decide +kernel
theorem d_Md_init_383 : decode b_Md_init 383 = .ok (.iload_n 3, 1) := by decide +kernel
theorem d_Md_init_384 : decode b_Md_init 384 = .ok (.imul, 1) := by decide +kernel
theorem d_Md_init_385 : decode b_Md_init 385 = .ok (.istore_n 3, 1) := by decide +kernel
theorem d_Md_init_386 : decode b_Md_init 386 = .ok (.iinc 4 1, 3) := by decide +kernel
theorem d_Md_init_389 : decode b_Md_init 389 = .ok (.goto (-69), 3) := by decide +kernel
theorem d_Md_init_392 : decode b_Md_init 392 = .ok (.return_, 1) := by decide +kernel

