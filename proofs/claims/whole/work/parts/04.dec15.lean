theorem d_L_law_429 : decode b_L_law 429 = .ok (.iload 4, 2) := by decide +kernel
theorem d_L_law_431 : decode b_L_law 431 = .ok (.iconst 2, 1) := by decide +kernel
theorem d_L_law_432 : decode b_L_law 432 = .ok (.iadd, 1) := by decide +kernel
theorem d_L_law_433 : decode b_L_law 433 = .ok (.iaload, 1) := by decide +kernel
theorem d_L_law_434 : decode b_L_law 434 = .ok (.invokevirtual 77, 3) := by decide +kernel
theorem d_L_law_437 : decode b_L_law 437 = .ok (.istore 6, 2) := by decide +kernel
theorem d_L_law_439 : decode b_L_law 439 = .ok (.aload_n 2, 1) := by decide +kernel
theorem d_L_law_440 : decode b_L_law 440 = .ok (.invokevirtual 52, 3) := by decide +kernel
theorem d_L_law_443 : decode b_L_law 443 = .ok (.iload 5, 2) := by decide +kernel
theorem d_L_law_445 : decode b_L_law 445 = .ok (.if_icmp .eq 5, 3) := by decide +kernel
theorem d_L_law_448 : decode b_L_law 448 = .ok (.iconst 0, 1) := by decide +kernel
theorem d_L_law_449 : decode b_L_law 449 = .ok (.ireturn, 1) := by decide +kernel
theorem d_L_law_450 : decode b_L_law 450 = .ok (.iload 5, 2) := by decide +kernel
theorem d_L_law_452 : decode b_L_law 452 = .ok (.ifCond .ne 15, 3) := by decide +kernel
theorem d_L_law_455 : decode b_L_law 455 = .ok (.aload_n 3, 1) := by decide +kernel
theorem d_L_law_456 : decode b_L_law 456 = .ok (.iconst 0, 1) := by decide +kernel
theorem d_L_law_457 : decode b_L_law 457 = .ok (.laload, 1) := by decide +kernel
theorem d_L_law_458 : decode b_L_law 458 = .ok (.iload 6, 2) := by decide +kernel
theorem d_L_law_460 : decode b_L_law 460 = .ok (.i2l, 1) := by decide +kernel
theorem d_L_law_461 : decode b_L_law 461 = .ok (.lcmp, 1) := by decide +kernel
theorem d_L_law_462 : decode b_L_law 462 = .ok (.ifCond .eq 5, 3) := by decide +kernel
theorem d_L_law_465 : decode b_L_law 465 = .ok (.iconst 0, 1) := by decide +kernel
theorem d_L_law_466 : decode b_L_law 466 = .ok (.ireturn, 1) := by decide +kernel
theorem d_L_law_467 : decode b_L_law 467 = .ok (.goto 246, 3) := by decide +kernel
theorem d_L_law_470 : decode b_L_law 470 = .ok (.aload_n 1, 1) := by decide +kernel
theorem d_L_law_471 : decode b_L_law 471 = .ok (.aload_n 0, 1) := by decide +kernel
theorem d_L_law_472 : decode b_L_law 472 = .ok (.iload 4, 2) := by decide +kernel
theorem d_L_law_474 : decode b_L_law 474 = .ok (.iconst 1, 1) := by decide +kernel
theorem d_L_law_475 : decode b_L_law 475 = .ok (.iadd, 1) := by decide +kernel
theorem d_L_law_476 : decode b_L_law 476 = .ok (.iaload, 1) := by decide +kernel
theorem d_L_law_477 : decode b_L_law 477 = .ok (.invokevirtual 78, 3) := by decide +kernel
theorem d_L_law_480 : decode b_L_law 480 = .ok (.aload_n 2, 1) := by decide +kernel
theorem d_L_law_481 : decode b_L_law 481 = .ok (.aload_n 0, 1) := by decide +kernel
theorem d_L_law_482 : decode b_L_law 482 = .ok (.iload 4, 2) := by decide +kernel
theorem d_L_law_484 : decode b_L_law 484 = .ok (.iconst 1, 1) := by decide +kernel
theorem d_L_law_485 : decode b_L_law 485 = .ok (.iadd, 1) := by decide +kernel
theorem d_L_law_486 : decode b_L_law 486 = .ok (.iaload, 1) := by decide +kernel
theorem d_L_law_487 : decode b_L_law 487 = .ok (.invokevirtual 82, 3) := by decide +kernel
theorem d_L_law_490 : decode b_L_law 490 = .ok (.if_icmp .eq 223, 3) := by decide +kernel
theorem d_L_law_493 : decode b_L_law 493 = .ok (.iconst 0, 1) := by decide +kernel
theorem d_L_law_494 : decode b_L_law 494 = .ok (.ireturn, 1) := by decide +kernel
theorem d_L_law_495 : decode b_L_law 495 = .ok (.aload_n 1, 1) := by decide +kernel
theorem d_L_law_496 : decode b_L_law 496 = .ok (.aload_n 0, 1) := by decide +kernel
theorem d_L_law_497 : decode b_L_law 497 = .ok (.iload 4, 2) := by decide +kernel
theorem d_L_law_499 : decode b_L_law 499 = .ok (.iconst 1, 1) := by decide +kernel
theorem d_L_law_500 : decode b_L_law 500 = .ok (.iadd, 1) := by decide +kernel
theorem d_L_law_501 : decode b_L_law 501 = .ok (.iaload, 1) := by decide +kernel
theorem d_L_law_502 : decode b_L_law 502 = .ok (.aload_n 3, 1) := by decide +kernel
theorem d_L_law_503 : decode b_L_law 503 = .ok (.invokestatic 83, 3) := by decide +kernel
theorem d_L_law_506 : decode b_L_law 506 = .ok (.istore 5, 2) := by decide +kernel
theorem d_L_law_508 : decode b_L_law 508 = .ok (.aload_n 2, 1) := by decide +kernel
theorem d_L_law_509 : decode b_L_law 509 = .ok (.aload_n 0, 1) := by decide +kernel
theorem d_L_law_510 : decode b_L_law 510 = .ok (.iload 4, 2) := by decide +kernel
theorem d_L_law_512 : decode b_L_law 512 = .ok (.iconst 1, 1) := by decide +kernel
theorem d_L_law_513 : decode b_L_law 513 = .ok (.iadd, 1) := by decide +kernel
theorem d_L_law_514 : decode b_L_law 514 = .ok (.iaload, 1) := by decide +kernel
theorem d_L_law_515 : decode b_L_law 515 = .ok (.invokevirtual 85, 3) := by decide +kernel
theorem d_L_law_518 : decode b_L_law 518 = .ok (.istore 6, 2) := by decide +kernel
theorem d_L_law_520 : decode b_L_law 520 = .ok (.aload_n 2, 1) := by decide +kernel
theorem d_L_law_521 : decode b_L_law 521 = .ok (.invokevirtual 52, 3) := by decide +kernel
