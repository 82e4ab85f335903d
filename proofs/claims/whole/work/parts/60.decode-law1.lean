theorem xnd_LW_cell_0 : decode xnc_LW_cell 0 = .ok (.iload_n 1, 1) := by decide +kernel
theorem xnd_LW_cell_1 : decode xnc_LW_cell 1 = .ok (.aload_n 0, 1) := by decide +kernel
theorem xnd_LW_cell_2 : decode xnc_LW_cell 2 = .ok (.arraylength, 1) := by decide +kernel
theorem xnd_LW_cell_3 : decode xnc_LW_cell 3 = .ok (.if_icmp .ge 9, 3) := by decide +kernel
theorem xnd_LW_cell_6 : decode xnc_LW_cell 6 = .ok (.aload_n 0, 1) := by decide +kernel
theorem xnd_LW_cell_7 : decode xnc_LW_cell 7 = .ok (.iload_n 1, 1) := by decide +kernel
theorem xnd_LW_cell_8 : decode xnc_LW_cell 8 = .ok (.iaload, 1) := by decide +kernel
theorem xnd_LW_cell_9 : decode xnc_LW_cell 9 = .ok (.goto 4, 3) := by decide +kernel
theorem xnd_LW_cell_12 : decode xnc_LW_cell 12 = .ok (.iconst 0, 1) := by decide +kernel
theorem xnd_LW_cell_13 : decode xnc_LW_cell 13 = .ok (.ireturn, 1) := by decide +kernel
theorem xnd_LW_law_0 : decode xnc_LW_law 0 = .ok (.new 7, 3) := by decide +kernel
theorem xnd_LW_law_3 : decode xnc_LW_law 3 = .ok (.dup, 1) := by decide +kernel
theorem xnd_LW_law_4 : decode xnc_LW_law 4 = .ok (.aload_n 0, 1) := by decide +kernel
theorem xnd_LW_law_5 : decode xnc_LW_law 5 = .ok (.iconst 0, 1) := by decide +kernel
theorem xnd_LW_law_6 : decode xnc_LW_law 6 = .ok (.invokestatic 9, 3) := by decide +kernel
theorem xnd_LW_law_9 : decode xnc_LW_law 9 = .ok (.aload_n 0, 1) := by decide +kernel
theorem xnd_LW_law_10 : decode xnc_LW_law 10 = .ok (.iconst 1, 1) := by decide +kernel
theorem xnd_LW_law_11 : decode xnc_LW_law 11 = .ok (.invokestatic 9, 3) := by decide +kernel
theorem xnd_LW_law_14 : decode xnc_LW_law 14 = .ok (.invokespecial 15, 3) := by decide +kernel
theorem xnd_LW_law_17 : decode xnc_LW_law 17 = .ok (.astore_n 1, 1) := by decide +kernel
theorem xnd_LW_law_18 : decode xnc_LW_law 18 = .ok (.new 18, 3) := by decide +kernel
theorem xnd_LW_law_21 : decode xnc_LW_law 21 = .ok (.dup, 1) := by decide +kernel
theorem xnd_LW_law_22 : decode xnc_LW_law 22 = .ok (.aload_n 0, 1) := by decide +kernel
theorem xnd_LW_law_23 : decode xnc_LW_law 23 = .ok (.iconst 0, 1) := by decide +kernel
theorem xnd_LW_law_24 : decode xnc_LW_law 24 = .ok (.invokestatic 9, 3) := by decide +kernel
theorem xnd_LW_law_27 : decode xnc_LW_law 27 = .ok (.aload_n 0, 1) := by decide +kernel
theorem xnd_LW_law_28 : decode xnc_LW_law 28 = .ok (.iconst 1, 1) := by decide +kernel
theorem xnd_LW_law_29 : decode xnc_LW_law 29 = .ok (.invokestatic 9, 3) := by decide +kernel
theorem xnd_LW_law_32 : decode xnc_LW_law 32 = .ok (.invokespecial 20, 3) := by decide +kernel
theorem xnd_LW_law_35 : decode xnc_LW_law 35 = .ok (.astore_n 2, 1) := by decide +kernel
theorem xnd_LW_law_36 : decode xnc_LW_law 36 = .ok (.iconst 2, 1) := by decide +kernel
theorem xnd_LW_law_37 : decode xnc_LW_law 37 = .ok (.istore_n 3, 1) := by decide +kernel
theorem xnd_LW_law_38 : decode xnc_LW_law 38 = .ok (.iload_n 3, 1) := by decide +kernel
theorem xnd_LW_law_39 : decode xnc_LW_law 39 = .ok (.aload_n 0, 1) := by decide +kernel
theorem xnd_LW_law_40 : decode xnc_LW_law 40 = .ok (.arraylength, 1) := by decide +kernel
theorem xnd_LW_law_41 : decode xnc_LW_law 41 = .ok (.bipush 6, 2) := by decide +kernel
theorem xnd_LW_law_43 : decode xnc_LW_law 43 = .ok (.isub, 1) := by decide +kernel
theorem xnd_LW_law_44 : decode xnc_LW_law 44 = .ok (.if_icmp .gt 512, 3) := by decide +kernel
theorem xnd_LW_law_47 : decode xnc_LW_law 47 = .ok (.aload_n 0, 1) := by decide +kernel
theorem xnd_LW_law_48 : decode xnc_LW_law 48 = .ok (.iload_n 3, 1) := by decide +kernel
theorem xnd_LW_law_49 : decode xnc_LW_law 49 = .ok (.iaload, 1) := by decide +kernel
theorem xnd_LW_law_50 : decode xnc_LW_law 50 = .ok (.bipush 15, 2) := by decide +kernel
theorem xnd_LW_law_52 : decode xnc_LW_law 52 = .ok (.iand, 1) := by decide +kernel
theorem xnd_LW_law_53 : decode xnc_LW_law 53 = .ok (.tableswitch 497 0 15 #[79, 142, 165, 178, 211, 234, 257, 280, 303, 326, 349, 372, 405, 428, 451, 474], 79) := by decide +kernel
theorem xnd_LW_law_132 : decode xnc_LW_law 132 = .ok (.aload_n 1, 1) := by decide +kernel
theorem xnd_LW_law_133 : decode xnc_LW_law 133 = .ok (.aload_n 0, 1) := by decide +kernel
theorem xnd_LW_law_134 : decode xnc_LW_law 134 = .ok (.iload_n 3, 1) := by decide +kernel
theorem xnd_LW_law_135 : decode xnc_LW_law 135 = .ok (.iconst 1, 1) := by decide +kernel
theorem xnd_LW_law_136 : decode xnc_LW_law 136 = .ok (.iadd, 1) := by decide +kernel
theorem xnd_LW_law_137 : decode xnc_LW_law 137 = .ok (.iaload, 1) := by decide +kernel
