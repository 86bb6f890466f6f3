theorem d_law_318 : decode code 318 = .ok (.aload_n 0, 1) := by decide +kernel
theorem d_law_319 : decode code 319 = .ok (.iload_n 3, 1) := by decide +kernel
theorem d_law_320 : decode code 320 = .ok (.iconst 2, 1) := by decide +kernel
theorem d_law_321 : decode code 321 = .ok (.iadd, 1) := by decide +kernel
theorem d_law_322 : decode code 322 = .ok (.iaload, 1) := by decide +kernel
theorem d_law_323 : decode code 323 = .ok (.aload_n 0, 1) := by decide +kernel
theorem d_law_324 : decode code 324 = .ok (.iload_n 3, 1) := by decide +kernel
theorem d_law_325 : decode code 325 = .ok (.iconst 3, 1) := by decide +kernel
theorem d_law_326 : decode code 326 = .ok (.iadd, 1) := by decide +kernel
theorem d_law_327 : decode code 327 = .ok (.iaload, 1) := by decide +kernel
theorem d_law_328 : decode code 328 = .ok (.aload_n 0, 1) := by decide +kernel
theorem d_law_329 : decode code 329 = .ok (.iload_n 3, 1) := by decide +kernel
theorem d_law_330 : decode code 330 = .ok (.iconst 4, 1) := by decide +kernel
theorem d_law_331 : decode code 331 = .ok (.iadd, 1) := by decide +kernel
theorem d_law_332 : decode code 332 = .ok (.iaload, 1) := by decide +kernel
theorem d_law_333 : decode code 333 = .ok (.ifCond .eq 7, 3) := by decide +kernel
theorem d_law_336 : decode code 336 = .ok (.iconst 1, 1) := by decide +kernel
theorem d_law_337 : decode code 337 = .ok (.goto 4, 3) := by decide +kernel
theorem d_law_340 : decode code 340 = .ok (.iconst 0, 1) := by decide +kernel
theorem d_law_341 : decode code 341 = .ok (.invokevirtual 32, 3) := by decide +kernel
theorem d_law_344 : decode code 344 = .ok (.aload_n 2, 1) := by decide +kernel
theorem d_law_345 : decode code 345 = .ok (.aload_n 0, 1) := by decide +kernel
theorem d_law_346 : decode code 346 = .ok (.iload_n 3, 1) := by decide +kernel
theorem d_law_347 : decode code 347 = .ok (.iconst 1, 1) := by decide +kernel
theorem d_law_348 : decode code 348 = .ok (.iadd, 1) := by decide +kernel
theorem d_law_349 : decode code 349 = .ok (.iaload, 1) := by decide +kernel
theorem d_law_350 : decode code 350 = .ok (.aload_n 0, 1) := by decide +kernel
theorem d_law_351 : decode code 351 = .ok (.iload_n 3, 1) := by decide +kernel
theorem d_law_352 : decode code 352 = .ok (.iconst 2, 1) := by decide +kernel
theorem d_law_353 : decode code 353 = .ok (.iadd, 1) := by decide +kernel
theorem d_law_354 : decode code 354 = .ok (.iaload, 1) := by decide +kernel
theorem d_law_355 : decode code 355 = .ok (.aload_n 0, 1) := by decide +kernel
theorem d_law_356 : decode code 356 = .ok (.iload_n 3, 1) := by decide +kernel
theorem d_law_357 : decode code 357 = .ok (.iconst 3, 1) := by decide +kernel
theorem d_law_358 : decode code 358 = .ok (.iadd, 1) := by decide +kernel
theorem d_law_359 : decode code 359 = .ok (.iaload, 1) := by decide +kernel
theorem d_law_360 : decode code 360 = .ok (.aload_n 0, 1) := by decide +kernel
theorem d_law_361 : decode code 361 = .ok (.iload_n 3, 1) := by decide +kernel
theorem d_law_362 : decode code 362 = .ok (.iconst 4, 1) := by decide +kernel
theorem d_law_363 : decode code 363 = .ok (.iadd, 1) := by decide +kernel
theorem d_law_364 : decode code 364 = .ok (.iaload, 1) := by decide +kernel
theorem d_law_365 : decode code 365 = .ok (.ifCond .eq 7, 3) := by decide +kernel
theorem d_law_368 : decode code 368 = .ok (.iconst 1, 1) := by decide +kernel
theorem d_law_369 : decode code 369 = .ok (.goto 4, 3) := by decide +kernel
theorem d_law_372 : decode code 372 = .ok (.iconst 0, 1) := by decide +kernel
theorem d_law_373 : decode code 373 = .ok (.invokevirtual 36, 3) := by decide +kernel
theorem d_law_376 : decode code 376 = .ok (.if_icmp .eq 474, 3) := by decide +kernel
theorem d_law_379 : decode code 379 = .ok (.iconst 0, 1) := by decide +kernel
theorem d_law_380 : decode code 380 = .ok (.ireturn, 1) := by decide +kernel
theorem d_law_381 : decode code 381 = .ok (.aload_n 1, 1) := by decide +kernel
theorem d_law_382 : decode code 382 = .ok (.aload_n 0, 1) := by decide +kernel
theorem d_law_383 : decode code 383 = .ok (.iload_n 3, 1) := by decide +kernel
theorem d_law_384 : decode code 384 = .ok (.iconst 1, 1) := by decide +kernel
theorem d_law_385 : decode code 385 = .ok (.iadd, 1) := by decide +kernel
theorem d_law_386 : decode code 386 = .ok (.iaload, 1) := by decide +kernel
theorem d_law_387 : decode code 387 = .ok (.aload_n 0, 1) := by decide +kernel
theorem d_law_388 : decode code 388 = .ok (.iload_n 3, 1) := by decide +kernel
theorem d_law_389 : decode code 389 = .ok (.iconst 2, 1) := by decide +kernel
theorem d_law_390 : decode code 390 = .ok (.iadd, 1) := by decide +kernel
theorem d_law_391 : decode code 391 = .ok (.iaload, 1) := by decide +kernel
