theorem xnd_LW_law_394 : decode xnc_LW_law 394 = .ok (.invokevirtual 65, 3) := by decide +kernel
theorem xnd_LW_law_397 : decode xnc_LW_law 397 = .ok (.if_icmp .eq 153, 3) := by decide +kernel
theorem xnd_LW_law_400 : decode xnc_LW_law 400 = .ok (.iconst 0, 1) := by decide +kernel
theorem xnd_LW_law_401 : decode xnc_LW_law 401 = .ok (.ireturn, 1) := by decide +kernel
theorem xnd_LW_law_402 : decode xnc_LW_law 402 = .ok (.aload_n 1, 1) := by decide +kernel
theorem xnd_LW_law_403 : decode xnc_LW_law 403 = .ok (.aload_n 0, 1) := by decide +kernel
theorem xnd_LW_law_404 : decode xnc_LW_law 404 = .ok (.iload_n 3, 1) := by decide +kernel
theorem xnd_LW_law_405 : decode xnc_LW_law 405 = .ok (.iconst 1, 1) := by decide +kernel
theorem xnd_LW_law_406 : decode xnc_LW_law 406 = .ok (.iadd, 1) := by decide +kernel
theorem xnd_LW_law_407 : decode xnc_LW_law 407 = .ok (.iaload, 1) := by decide +kernel
theorem xnd_LW_law_408 : decode xnc_LW_law 408 = .ok (.invokevirtual 66, 3) := by decide +kernel
theorem xnd_LW_law_411 : decode xnc_LW_law 411 = .ok (.aload_n 2, 1) := by decide +kernel
theorem xnd_LW_law_412 : decode xnc_LW_law 412 = .ok (.aload_n 0, 1) := by decide +kernel
theorem xnd_LW_law_413 : decode xnc_LW_law 413 = .ok (.iload_n 3, 1) := by decide +kernel
theorem xnd_LW_law_414 : decode xnc_LW_law 414 = .ok (.iconst 1, 1) := by decide +kernel
theorem xnd_LW_law_415 : decode xnc_LW_law 415 = .ok (.iadd, 1) := by decide +kernel
theorem xnd_LW_law_416 : decode xnc_LW_law 416 = .ok (.iaload, 1) := by decide +kernel
theorem xnd_LW_law_417 : decode xnc_LW_law 417 = .ok (.invokevirtual 69, 3) := by decide +kernel
theorem xnd_LW_law_420 : decode xnc_LW_law 420 = .ok (.if_icmp .eq 130, 3) := by decide +kernel
theorem xnd_LW_law_423 : decode xnc_LW_law 423 = .ok (.iconst 0, 1) := by decide +kernel
theorem xnd_LW_law_424 : decode xnc_LW_law 424 = .ok (.ireturn, 1) := by decide +kernel
theorem xnd_LW_law_425 : decode xnc_LW_law 425 = .ok (.aload_n 1, 1) := by decide +kernel
theorem xnd_LW_law_426 : decode xnc_LW_law 426 = .ok (.aload_n 0, 1) := by decide +kernel
theorem xnd_LW_law_427 : decode xnc_LW_law 427 = .ok (.iload_n 3, 1) := by decide +kernel
theorem xnd_LW_law_428 : decode xnc_LW_law 428 = .ok (.iconst 1, 1) := by decide +kernel
theorem xnd_LW_law_429 : decode xnc_LW_law 429 = .ok (.iadd, 1) := by decide +kernel
theorem xnd_LW_law_430 : decode xnc_LW_law 430 = .ok (.iaload, 1) := by decide +kernel
theorem xnd_LW_law_431 : decode xnc_LW_law 431 = .ok (.aload_n 0, 1) := by decide +kernel
theorem xnd_LW_law_432 : decode xnc_LW_law 432 = .ok (.iload_n 3, 1) := by decide +kernel
theorem xnd_LW_law_433 : decode xnc_LW_law 433 = .ok (.iconst 2, 1) := by decide +kernel
theorem xnd_LW_law_434 : decode xnc_LW_law 434 = .ok (.iadd, 1) := by decide +kernel
theorem xnd_LW_law_435 : decode xnc_LW_law 435 = .ok (.iaload, 1) := by decide +kernel
theorem xnd_LW_law_436 : decode xnc_LW_law 436 = .ok (.invokevirtual 70, 3) := by decide +kernel
theorem xnd_LW_law_439 : decode xnc_LW_law 439 = .ok (.aload_n 2, 1) := by decide +kernel
theorem xnd_LW_law_440 : decode xnc_LW_law 440 = .ok (.aload_n 0, 1) := by decide +kernel
theorem xnd_LW_law_441 : decode xnc_LW_law 441 = .ok (.iload_n 3, 1) := by decide +kernel
theorem xnd_LW_law_442 : decode xnc_LW_law 442 = .ok (.iconst 1, 1) := by decide +kernel
theorem xnd_LW_law_443 : decode xnc_LW_law 443 = .ok (.iadd, 1) := by decide +kernel
theorem xnd_LW_law_444 : decode xnc_LW_law 444 = .ok (.iaload, 1) := by decide +kernel
theorem xnd_LW_law_445 : decode xnc_LW_law 445 = .ok (.aload_n 0, 1) := by decide +kernel
theorem xnd_LW_law_446 : decode xnc_LW_law 446 = .ok (.iload_n 3, 1) := by decide +kernel
theorem xnd_LW_law_447 : decode xnc_LW_law 447 = .ok (.iconst 2, 1) := by decide +kernel
theorem xnd_LW_law_448 : decode xnc_LW_law 448 = .ok (.iadd, 1) := by decide +kernel
theorem xnd_LW_law_449 : decode xnc_LW_law 449 = .ok (.iaload, 1) := by decide +kernel
theorem xnd_LW_law_450 : decode xnc_LW_law 450 = .ok (.invokevirtual 74, 3) := by decide +kernel
theorem xnd_LW_law_453 : decode xnc_LW_law 453 = .ok (.if_icmp .eq 97, 3) := by decide +kernel
theorem xnd_LW_law_456 : decode xnc_LW_law 456 = .ok (.iconst 0, 1) := by decide +kernel
theorem xnd_LW_law_457 : decode xnc_LW_law 457 = .ok (.ireturn, 1) := by decide +kernel
theorem xnd_LW_law_458 : decode xnc_LW_law 458 = .ok (.aload_n 1, 1) := by decide +kernel
theorem xnd_LW_law_459 : decode xnc_LW_law 459 = .ok (.aload_n 0, 1) := by decide +kernel
