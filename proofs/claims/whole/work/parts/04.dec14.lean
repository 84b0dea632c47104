theorem d_L_law_338 : decode b_L_law 338 = .ok (.invokevirtual 71, 3) := by decide +kernel
theorem d_L_law_341 : decode b_L_law 341 = .ok (.if_icmp .eq 372, 3) := by decide +kernel
theorem d_L_law_344 : decode b_L_law 344 = .ok (.iconst 0, 1) := by decide +kernel
theorem d_L_law_345 : decode b_L_law 345 = .ok (.ireturn, 1) := by decide +kernel
theorem d_L_law_346 : decode b_L_law 346 = .ok (.aload_n 1, 1) := by decide +kernel
theorem d_L_law_347 : decode b_L_law 347 = .ok (.aload_n 0, 1) := by decide +kernel
theorem d_L_law_348 : decode b_L_law 348 = .ok (.iload 4, 2) := by decide +kernel
theorem d_L_law_350 : decode b_L_law 350 = .ok (.iconst 1, 1) := by decide +kernel
theorem d_L_law_351 : decode b_L_law 351 = .ok (.iadd, 1) := by decide +kernel
theorem d_L_law_352 : decode b_L_law 352 = .ok (.iaload, 1) := by decide +kernel
theorem d_L_law_353 : decode b_L_law 353 = .ok (.aload_n 3, 1) := by decide +kernel
theorem d_L_law_354 : decode b_L_law 354 = .ok (.invokestatic 72, 3) := by decide +kernel
theorem d_L_law_357 : decode b_L_law 357 = .ok (.istore 5, 2) := by decide +kernel
theorem d_L_law_359 : decode b_L_law 359 = .ok (.aload_n 2, 1) := by decide +kernel
theorem d_L_law_360 : decode b_L_law 360 = .ok (.aload_n 0, 1) := by decide +kernel
theorem d_L_law_361 : decode b_L_law 361 = .ok (.iload 4, 2) := by decide +kernel
theorem d_L_law_363 : decode b_L_law 363 = .ok (.iconst 1, 1) := by decide +kernel
theorem d_L_law_364 : decode b_L_law 364 = .ok (.iadd, 1) := by decide +kernel
theorem d_L_law_365 : decode b_L_law 365 = .ok (.iaload, 1) := by decide +kernel
theorem d_L_law_366 : decode b_L_law 366 = .ok (.invokevirtual 74, 3) := by decide +kernel
theorem d_L_law_369 : decode b_L_law 369 = .ok (.istore 6, 2) := by decide +kernel
theorem d_L_law_371 : decode b_L_law 371 = .ok (.aload_n 2, 1) := by decide +kernel
theorem d_L_law_372 : decode b_L_law 372 = .ok (.invokevirtual 52, 3) := by decide +kernel
theorem d_L_law_375 : decode b_L_law 375 = .ok (.iload 5, 2) := by decide +kernel
theorem d_L_law_377 : decode b_L_law 377 = .ok (.if_icmp .eq 5, 3) := by decide +kernel
theorem d_L_law_380 : decode b_L_law 380 = .ok (.iconst 0, 1) := by decide +kernel
theorem d_L_law_381 : decode b_L_law 381 = .ok (.ireturn, 1) := by decide +kernel
theorem d_L_law_382 : decode b_L_law 382 = .ok (.iload 5, 2) := by decide +kernel
theorem d_L_law_384 : decode b_L_law 384 = .ok (.ifCond .ne 15, 3) := by decide +kernel
theorem d_L_law_387 : decode b_L_law 387 = .ok (.aload_n 3, 1) := by decide +kernel
theorem d_L_law_388 : decode b_L_law 388 = .ok (.iconst 0, 1) := by decide +kernel
theorem d_L_law_389 : decode b_L_law 389 = .ok (.laload, 1) := by decide +kernel
theorem d_L_law_390 : decode b_L_law 390 = .ok (.iload 6, 2) := by decide +kernel
theorem d_L_law_392 : decode b_L_law 392 = .ok (.i2l, 1) := by decide +kernel
theorem d_L_law_393 : decode b_L_law 393 = .ok (.lcmp, 1) := by decide +kernel
theorem d_L_law_394 : decode b_L_law 394 = .ok (.ifCond .eq 5, 3) := by decide +kernel
theorem d_L_law_397 : decode b_L_law 397 = .ok (.iconst 0, 1) := by decide +kernel
theorem d_L_law_398 : decode b_L_law 398 = .ok (.ireturn, 1) := by decide +kernel
theorem d_L_law_399 : decode b_L_law 399 = .ok (.goto 314, 3) := by decide +kernel
theorem d_L_law_402 : decode b_L_law 402 = .ok (.aload_n 1, 1) := by decide +kernel
theorem d_L_law_403 : decode b_L_law 403 = .ok (.aload_n 0, 1) := by decide +kernel
theorem d_L_law_404 : decode b_L_law 404 = .ok (.iload 4, 2) := by decide +kernel
theorem d_L_law_406 : decode b_L_law 406 = .ok (.iconst 1, 1) := by decide +kernel
theorem d_L_law_407 : decode b_L_law 407 = .ok (.iadd, 1) := by decide +kernel
theorem d_L_law_408 : decode b_L_law 408 = .ok (.iaload, 1) := by decide +kernel
theorem d_L_law_409 : decode b_L_law 409 = .ok (.aload_n 0, 1) := by decide +kernel
theorem d_L_law_410 : decode b_L_law 410 = .ok (.iload 4, 2) := by decide +kernel
theorem d_L_law_412 : decode b_L_law 412 = .ok (.iconst 2, 1) := by decide +kernel
theorem d_L_law_413 : decode b_L_law 413 = .ok (.iadd, 1) := by decide +kernel
theorem d_L_law_414 : decode b_L_law 414 = .ok (.iaload, 1) := by decide +kernel
theorem d_L_law_415 : decode b_L_law 415 = .ok (.aload_n 3, 1) := by decide +kernel
theorem d_L_law_416 : decode b_L_law 416 = .ok (.invokestatic 75, 3) := by decide +kernel
theorem d_L_law_419 : decode b_L_law 419 = .ok (.istore 5, 2) := by decide +kernel
theorem d_L_law_421 : decode b_L_law 421 = .ok (.aload_n 2, 1) := by decide +kernel
theorem d_L_law_422 : decode b_L_law 422 = .ok (.aload_n 0, 1) := by decide +kernel
theorem d_L_law_423 : decode b_L_law 423 = .ok (.iload 4, 2) := by decide +kernel
theorem d_L_law_425 : decode b_L_law 425 = .ok (.iconst 1, 1) := by decide +kernel
theorem d_L_law_426 : decode b_L_law 426 = .ok (.iadd, 1) := by decide +kernel
theorem d_L_law_427 : decode b_L_law 427 = .ok (.iaload, 1) := by decide +kernel
theorem d_L_law_428 : decode b_L_law 428 = .ok (.aload_n 0, 1) := by decide +kernel
