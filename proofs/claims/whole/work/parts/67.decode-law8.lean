theorem xnd_LW_law_528 : decode xnc_LW_law 528 = .ok (.aload_n 0, 1) := by decide +kernel
theorem xnd_LW_law_529 : decode xnc_LW_law 529 = .ok (.iload_n 3, 1) := by decide +kernel
theorem xnd_LW_law_530 : decode xnc_LW_law 530 = .ok (.iconst 1, 1) := by decide +kernel
theorem xnd_LW_law_531 : decode xnc_LW_law 531 = .ok (.iadd, 1) := by decide +kernel
theorem xnd_LW_law_532 : decode xnc_LW_law 532 = .ok (.iaload, 1) := by decide +kernel
theorem xnd_LW_law_533 : decode xnc_LW_law 533 = .ok (.invokevirtual 87, 3) := by decide +kernel
theorem xnd_LW_law_536 : decode xnc_LW_law 536 = .ok (.aload_n 2, 1) := by decide +kernel
theorem xnd_LW_law_537 : decode xnc_LW_law 537 = .ok (.aload_n 0, 1) := by decide +kernel
theorem xnd_LW_law_538 : decode xnc_LW_law 538 = .ok (.iload_n 3, 1) := by decide +kernel
theorem xnd_LW_law_539 : decode xnc_LW_law 539 = .ok (.iconst 1, 1) := by decide +kernel
theorem xnd_LW_law_540 : decode xnc_LW_law 540 = .ok (.iadd, 1) := by decide +kernel
theorem xnd_LW_law_541 : decode xnc_LW_law 541 = .ok (.iaload, 1) := by decide +kernel
theorem xnd_LW_law_542 : decode xnc_LW_law 542 = .ok (.invokevirtual 90, 3) := by decide +kernel
theorem xnd_LW_law_545 : decode xnc_LW_law 545 = .ok (.if_icmp .eq 5, 3) := by decide +kernel
theorem xnd_LW_law_548 : decode xnc_LW_law 548 = .ok (.iconst 0, 1) := by decide +kernel
theorem xnd_LW_law_549 : decode xnc_LW_law 549 = .ok (.ireturn, 1) := by decide +kernel
theorem xnd_LW_law_550 : decode xnc_LW_law 550 = .ok (.iinc 3 6, 3) := by decide +kernel
theorem xnd_LW_law_553 : decode xnc_LW_law 553 = .ok (.goto (-515), 3) := by decide +kernel
theorem xnd_LW_law_556 : decode xnc_LW_law 556 = .ok (.iconst 1, 1) := by decide +kernel
theorem xnd_LW_law_557 : decode xnc_LW_law 557 = .ok (.ireturn, 1) := by decide +kernel
