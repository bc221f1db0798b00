theorem d_Lw_law_306 : decode code 306 = .ok (.iconst 1, 1) := by decide +kernel
theorem d_Lw_law_307 : decode code 307 = .ok (.iadd, 1) := by decide +kernel
theorem d_Lw_law_308 : decode code 308 = .ok (.iaload, 1) := by decide +kernel
theorem d_Lw_law_309 : decode code 309 = .ok (.invokevirtual 53, 3) := by decide +kernel
theorem d_Lw_law_312 : decode code 312 = .ok (.if_icmp .eq 199, 3) := by decide +kernel
theorem d_Lw_law_315 : decode code 315 = .ok (.iconst 0, 1) := by decide +kernel
theorem d_Lw_law_316 : decode code 316 = .ok (.ireturn, 1) := by decide +kernel
theorem d_Lw_law_317 : decode code 317 = .ok (.aload_n 1, 1) := by decide +kernel
theorem d_Lw_law_318 : decode code 318 = .ok (.aload_n 0, 1) := by decide +kernel
theorem d_Lw_law_319 : decode code 319 = .ok (.iload_n 3, 1) := by decide +kernel
theorem d_Lw_law_320 : decode code 320 = .ok (.iconst 1, 1) := by decide +kernel
theorem d_Lw_law_321 : decode code 321 = .ok (.iadd, 1) := by decide +kernel
theorem d_Lw_law_322 : decode code 322 = .ok (.iaload, 1) := by decide +kernel
theorem d_Lw_law_323 : decode code 323 = .ok (.invokevirtual 54, 3) := by decide +kernel
theorem d_Lw_law_326 : decode code 326 = .ok (.aload_n 2, 1) := by decide +kernel
theorem d_Lw_law_327 : decode code 327 = .ok (.aload_n 0, 1) := by decide +kernel
theorem d_Lw_law_328 : decode code 328 = .ok (.iload_n 3, 1) := by decide +kernel
theorem d_Lw_law_329 : decode code 329 = .ok (.iconst 1, 1) := by decide +kernel
theorem d_Lw_law_330 : decode code 330 = .ok (.iadd, 1) := by decide +kernel
theorem d_Lw_law_331 : decode code 331 = .ok (.iaload, 1) := by decide +kernel
theorem d_Lw_law_332 : decode code 332 = .ok (.invokevirtual 57, 3) := by decide +kernel
theorem d_Lw_law_335 : decode code 335 = .ok (.if_icmp .eq 176, 3) := by decide +kernel
theorem d_Lw_law_338 : decode code 338 = .ok (.iconst 0, 1) := by decide +kernel
theorem d_Lw_law_339 : decode code 339 = .ok (.ireturn, 1) := by decide +kernel
theorem d_Lw_law_340 : decode code 340 = .ok (.aload_n 1, 1) := by decide +kernel
theorem d_Lw_law_341 : decode code 341 = .ok (.aload_n 0, 1) := by decide +kernel
theorem d_Lw_law_342 : decode code 342 = .ok (.iload_n 3, 1) := by decide +kernel
theorem d_Lw_law_343 : decode code 343 = .ok (.iconst 1, 1) := by decide +kernel
theorem d_Lw_law_344 : decode code 344 = .ok (.iadd, 1) := by decide +kernel
theorem d_Lw_law_345 : decode code 345 = .ok (.iaload, 1) := by decide +kernel
theorem d_Lw_law_346 : decode code 346 = .ok (.invokevirtual 58, 3) := by decide +kernel
theorem d_Lw_law_349 : decode code 349 = .ok (.aload_n 2, 1) := by decide +kernel
theorem d_Lw_law_350 : decode code 350 = .ok (.aload_n 0, 1) := by decide +kernel
theorem d_Lw_law_351 : decode code 351 = .ok (.iload_n 3, 1) := by decide +kernel
theorem d_Lw_law_352 : decode code 352 = .ok (.iconst 1, 1) := by decide +kernel
theorem d_Lw_law_353 : decode code 353 = .ok (.iadd, 1) := by decide +kernel
theorem d_Lw_law_354 : decode code 354 = .ok (.iaload, 1) := by decide +kernel
theorem d_Lw_law_355 : decode code 355 = .ok (.invokevirtual 61, 3) := by decide +kernel
theorem d_Lw_law_358 : decode code 358 = .ok (.if_icmp .eq 153, 3) := by decide +kernel
theorem d_Lw_law_361 : decode code 361 = .ok (.iconst 0, 1) := by decide +kernel
theorem d_Lw_law_362 : decode code 362 = .ok (.ireturn, 1) := by decide +kernel
theorem d_Lw_law_363 : decode code 363 = .ok (.aload_n 1, 1) := by decide +kernel
theorem d_Lw_law_364 : decode code 364 = .ok (.aload_n 0, 1) := by decide +kernel
theorem d_Lw_law_365 : decode code 365 = .ok (.iload_n 3, 1) := by decide +kernel
theorem d_Lw_law_366 : decode code 366 = .ok (.iconst 1, 1) := by decide +kernel
theorem d_Lw_law_367 : decode code 367 = .ok (.iadd, 1) := by decide +kernel
theorem d_Lw_law_368 : decode code 368 = .ok (.iaload, 1) := by decide +kernel
theorem d_Lw_law_369 : decode code 369 = .ok (.invokevirtual 62, 3) := by decide +kernel
theorem d_Lw_law_372 : decode code 372 = .ok (.aload_n 2, 1) := by decide +kernel
theorem d_Lw_law_373 : decode code 373 = .ok (.aload_n 0, 1) := by decide +kernel
theorem d_Lw_law_374 : decode code 374 = .ok (.iload_n 3, 1) := by decide +kernel
theorem d_Lw_law_375 : decode code 375 = .ok (.iconst 1, 1) := by decide +kernel
theorem d_Lw_law_376 : decode code 376 = .ok (.iadd, 1) := by decide +kernel
theorem d_Lw_law_377 : decode code 377 = .ok (.iaload, 1) := by decide +kernel
theorem d_Lw_law_378 : decode code 378 = .ok (.invokevirtual 65, 3) := by decide +kernel
theorem d_Lw_law_381 : decode code 381 = .ok (.if_icmp .eq 130, 3) := by decide +kernel
theorem d_Lw_law_384 : decode code 384 = .ok (.iconst 0, 1) := by decide +kernel
theorem d_Lw_law_385 : decode code 385 = .ok (.ireturn, 1) := by decide +kernel
theorem d_Lw_law_386 : decode code 386 = .ok (.aload_n 1, 1) := by decide +kernel
theorem d_Lw_law_387 : decode code 387 = .ok (.aload_n 0, 1) := by decide +kernel
theorem d_Lw_law_388 : decode code 388 = .ok (.iload_n 3, 1) := by decide +kernel
theorem d_Lw_law_389 : decode code 389 = .ok (.iconst 1, 1) := by decide +kernel
theorem d_Lw_law_390 : decode code 390 = .ok (.iadd, 1) := by decide +kernel
theorem d_Lw_law_391 : decode code 391 = .ok (.iaload, 1) := by decide +kernel
theorem d_Lw_law_392 : decode code 392 = .ok (.aload_n 0, 1) := by decide +kernel
theorem d_Lw_law_393 : decode code 393 = .ok (.iload_n 3, 1) := by decide +kernel
theorem d_Lw_law_394 : decode code 394 = .ok (.iconst 2, 1) := by decide +kernel
theorem d_Lw_law_395 : decode code 395 = .ok (.iadd, 1) := by decide +kernel
theorem d_Lw_law_396 : decode code 396 = .ok (.iaload, 1) := by decide +kernel
theorem d_Lw_law_397 : decode code 397 = .ok (.invokevirtual 66, 3) := by decide +kernel
theorem d_Lw_law_400 : decode code 400 = .ok (.aload_n 2, 1) := by decide +kernel
theorem d_Lw_law_401 : decode code 401 = .ok (.aload_n 0, 1) := by decide +kernel
theorem d_Lw_law_402 : decode code 402 = .ok (.iload_n 3, 1) := by decide +kernel
theorem d_Lw_law_403 : decode code 403 = .ok (.iconst 1, 1) := by decide +kernel
theorem d_Lw_law_404 : decode code 404 = .ok (.iadd, 1) := by decide +kernel
theorem d_Lw_law_405 : decode code 405 = .ok (.iaload, 1) := by decide +kernel
theorem d_Lw_law_406 : decode code 406 = .ok (.aload_n 0, 1) := by decide +kernel
theorem d_Lw_law_407 : decode code 407 = .ok (.iload_n 3, 1) := by decide +kernel
theorem d_Lw_law_408 : decode code 408 = .ok (.iconst 2, 1) := by decide +kernel
theorem d_Lw_law_409 : decode code 409 = .ok (.iadd, 1) := by decide +kernel
theorem d_Lw_law_410 : decode code 410 = .ok (.iaload, 1) := by decide +kernel
theorem d_Lw_law_411 : decode code 411 = .ok (.invokevirtual 70, 3) := by decide +kernel
theorem d_Lw_law_414 : decode code 414 = .ok (.if_icmp .eq 97, 3) := by decide +kernel
theorem d_Lw_law_417 : decode code 417 = .ok (.iconst 0, 1) := by decide +kernel
theorem d_Lw_law_418 : decode code 418 = .ok (.ireturn, 1) := by decide +kernel
theorem d_Lw_law_419 : decode code 419 = .ok (.aload_n 1, 1) := by decide +kernel
theorem d_Lw_law_420 : decode code 420 = .ok (.aload_n 0, 1) := by decide +kernel
theorem d_Lw_law_421 : decode code 421 = .ok (.iload_n 3, 1) := by decide +kernel
theorem d_Lw_law_422 : decode code 422 = .ok (.iconst 1, 1) := by decide +kernel
theorem d_Lw_law_423 : decode code 423 = .ok (.iadd, 1) := by decide +kernel
