theorem xnd_LW_law_460 : decode xnc_LW_law 460 = .ok (.iload_n 3, 1) := by decide +kernel
theorem xnd_LW_law_461 : decode xnc_LW_law 461 = .ok (.iconst 1, 1) := by decide +kernel
theorem xnd_LW_law_462 : decode xnc_LW_law 462 = .ok (.iadd, 1) := by decide +kernel
theorem xnd_LW_law_463 : decode xnc_LW_law 463 = .ok (.iaload, 1) := by decide +kernel
theorem xnd_LW_law_464 : decode xnc_LW_law 464 = .ok (.invokevirtual 75, 3) := by decide +kernel
theorem xnd_LW_law_467 : decode xnc_LW_law 467 = .ok (.aload_n 2, 1) := by decide +kernel
theorem xnd_LW_law_468 : decode xnc_LW_law 468 = .ok (.aload_n 0, 1) := by decide +kernel
theorem xnd_LW_law_469 : decode xnc_LW_law 469 = .ok (.iload_n 3, 1) := by decide +kernel
theorem xnd_LW_law_470 : decode xnc_LW_law 470 = .ok (.iconst 1, 1) := by decide +kernel
theorem xnd_LW_law_471 : decode xnc_LW_law 471 = .ok (.iadd, 1) := by decide +kernel
theorem xnd_LW_law_472 : decode xnc_LW_law 472 = .ok (.iaload, 1) := by decide +kernel
theorem xnd_LW_law_473 : decode xnc_LW_law 473 = .ok (.invokevirtual 78, 3) := by decide +kernel
theorem xnd_LW_law_476 : decode xnc_LW_law 476 = .ok (.if_icmp .eq 74, 3) := by decide +kernel
theorem xnd_LW_law_479 : decode xnc_LW_law 479 = .ok (.iconst 0, 1) := by decide +kernel
theorem xnd_LW_law_480 : decode xnc_LW_law 480 = .ok (.ireturn, 1) := by decide +kernel
theorem xnd_LW_law_481 : decode xnc_LW_law 481 = .ok (.aload_n 1, 1) := by decide +kernel
theorem xnd_LW_law_482 : decode xnc_LW_law 482 = .ok (.aload_n 0, 1) := by decide +kernel
theorem xnd_LW_law_483 : decode xnc_LW_law 483 = .ok (.iload_n 3, 1) := by decide +kernel
theorem xnd_LW_law_484 : decode xnc_LW_law 484 = .ok (.iconst 1, 1) := by decide +kernel
theorem xnd_LW_law_485 : decode xnc_LW_law 485 = .ok (.iadd, 1) := by decide +kernel
theorem xnd_LW_law_486 : decode xnc_LW_law 486 = .ok (.iaload, 1) := by decide +kernel
theorem xnd_LW_law_487 : decode xnc_LW_law 487 = .ok (.invokevirtual 79, 3) := by decide +kernel
theorem xnd_LW_law_490 : decode xnc_LW_law 490 = .ok (.aload_n 2, 1) := by decide +kernel
theorem xnd_LW_law_491 : decode xnc_LW_law 491 = .ok (.aload_n 0, 1) := by decide +kernel
theorem xnd_LW_law_492 : decode xnc_LW_law 492 = .ok (.iload_n 3, 1) := by decide +kernel
theorem xnd_LW_law_493 : decode xnc_LW_law 493 = .ok (.iconst 1, 1) := by decide +kernel
theorem xnd_LW_law_494 : decode xnc_LW_law 494 = .ok (.iadd, 1) := by decide +kernel
theorem xnd_LW_law_495 : decode xnc_LW_law 495 = .ok (.iaload, 1) := by decide +kernel
theorem xnd_LW_law_496 : decode xnc_LW_law 496 = .ok (.invokevirtual 82, 3) := by decide +kernel
theorem xnd_LW_law_499 : decode xnc_LW_law 499 = .ok (.if_icmp .eq 51, 3) := by decide +kernel
theorem xnd_LW_law_502 : decode xnc_LW_law 502 = .ok (.iconst 0, 1) := by decide +kernel
theorem xnd_LW_law_503 : decode xnc_LW_law 503 = .ok (.ireturn, 1) := by decide +kernel
theorem xnd_LW_law_504 : decode xnc_LW_law 504 = .ok (.aload_n 1, 1) := by decide +kernel
theorem xnd_LW_law_505 : decode xnc_LW_law 505 = .ok (.aload_n 0, 1) := by decide +kernel
theorem xnd_LW_law_506 : decode xnc_LW_law 506 = .ok (.iload_n 3, 1) := by decide +kernel
theorem xnd_LW_law_507 : decode xnc_LW_law 507 = .ok (.iconst 1, 1) := by decide +kernel
theorem xnd_LW_law_508 : decode xnc_LW_law 508 = .ok (.iadd, 1) := by decide +kernel
theorem xnd_LW_law_509 : decode xnc_LW_law 509 = .ok (.iaload, 1) := by decide +kernel
theorem xnd_LW_law_510 : decode xnc_LW_law 510 = .ok (.invokevirtual 83, 3) := by decide +kernel
theorem xnd_LW_law_513 : decode xnc_LW_law 513 = .ok (.aload_n 2, 1) := by decide +kernel
theorem xnd_LW_law_514 : decode xnc_LW_law 514 = .ok (.aload_n 0, 1) := by decide +kernel
theorem xnd_LW_law_515 : decode xnc_LW_law 515 = .ok (.iload_n 3, 1) := by decide +kernel
theorem xnd_LW_law_516 : decode xnc_LW_law 516 = .ok (.iconst 1, 1) := by decide +kernel
theorem xnd_LW_law_517 : decode xnc_LW_law 517 = .ok (.iadd, 1) := by decide +kernel
theorem xnd_LW_law_518 : decode xnc_LW_law 518 = .ok (.iaload, 1) := by decide +kernel
theorem xnd_LW_law_519 : decode xnc_LW_law 519 = .ok (.invokevirtual 86, 3) := by decide +kernel
theorem xnd_LW_law_522 : decode xnc_LW_law 522 = .ok (.if_icmp .eq 28, 3) := by decide +kernel
theorem xnd_LW_law_525 : decode xnc_LW_law 525 = .ok (.iconst 0, 1) := by decide +kernel
theorem xnd_LW_law_526 : decode xnc_LW_law 526 = .ok (.ireturn, 1) := by decide +kernel
theorem xnd_LW_law_527 : decode xnc_LW_law 527 = .ok (.aload_n 1, 1) := by decide +kernel
